set_option maxHeartbeats 4000000 in
set_option maxRecDepth 100000 in
theorem c_X12_numberRead_2 (l : Launch) (D : va_G) (cI cL : ClassId) (ad zz : Nat → Nat) (hJ : jD ad) (σ : Nat → Nat → Int32) (τ : Nat → Nat → Int64) (hI121 : jI121 σ) (hp0 : (σ 55 18).toInt = (-1)) (hp1 : (σ 55 21).toInt = (-1)) : jM l yX12_numberRead cX12_numberRead 6 (some .int) ({ frames := 1, cells := 0, slots := 0, locals := 25 }) D cI cL ad zz [.ref (ad 55), .int 2, .int 1, .int 12] σ τ (fun r σ' τ' => τ = τ' ∧ (∀ i : Nat, (i < 55 ∨ 55 < i) → σ' i = σ i) ∧ (∀ k : Nat, (k < 19 ∨ 19 < k) ∧ (k < 21 ∨ 21 < k) → σ' 55 k = σ 55 k) ∧ (jI121 σ') ∧ ((True ∧ (((σ' 55 21).toInt = (-1) ∧ 1 ≤ r.toInt ∧ r.toInt ≤ 12) ∨ (0 ≤ (σ' 55 21).toInt ∧ (σ' 55 21).toInt ≤ 80)) ∧ (∃ q v : Int, jNb (σ 63) ((σ 55 20).toInt) ((σ 55 19).toInt) 2 q v ∧ (((q = 0 ∨ v < 1 ∨ 12 < v) ∧ (σ' 55 21).toInt = (σ 55 19).toInt) ∨ (1 ≤ q ∧ 1 ≤ v ∧ v ≤ 12 ∧ r.toInt = v ∧ (σ' 55 19).toInt = (σ 55 19).toInt + q ∧ (σ' 55 21).toInt = -1)))))) := by
  refine jM.of hJ (by decide +kernel) (nt := .int) rfl (Nat.le_of_ble_eq_true rfl) ?_
  intro p e s m args below meth c Q ls hC hret hl hP
  obtain ⟨hx, hb, hr, hml, hown, hts, hK, -, hlocks, hZ⟩ := hC
  have hown : s.vm.findClass RX12 = some m.cls := hown
  have hS : va_S (jA ad) s.heap s.heap [] := va_S.rf
  have hA : ∀ q, jA ad q → jA ad q := fun _ h => h
  have hl : lv_has ls 6 [(0, .ref (ad 55)), (1, .int 2), (2, .int 1), (3, .int 12)] := hl
  obtain ⟨i1, i2, i3, i4, i5⟩ : ((-1) ≤ (σ 55 18).toInt ∧ (σ 55 18).toInt ≤ 80) ∧ (0 ≤ (σ 55 19).toInt) ∧ ((σ 55 19).toInt ≤ (σ 55 20).toInt) ∧ ((σ 55 20).toInt ≤ 80) ∧ ((-1) ≤ (σ 55 21).toInt ∧ (σ 55 21).toInt ≤ 80) := id hI121
  refine lv_aload_n hx hb dX12_numberRead_0 rfl (lv_at hl 0 rfl) ?_
  refine va_get (D := D) hx hb hts inlX12 hown hK hP 55 (jc_55 cI cL ad σ τ) rfl 19 (of_decide_eq_true rfl) (hts _ kw_15_11) (fun _ h9 => h9) rfl dX12_numberRead_1 ?_
  refine lv_istore (lv' := [(4, .int (σ 55 19)), (0, .ref (ad 55)), (1, .int 2), (2, .int 1), (3, .int 12)]) hx hb dX12_numberRead_4 hl (of_decide_eq_true rfl) rfl (fun ls hl => ?_)
  refine lv_iconst (v := 0) hx hb dX12_numberRead_6 (of_decide_eq_true rfl) ?_
  refine lv_istore (lv' := [(5, .int 0), (4, .int (σ 55 19)), (0, .ref (ad 55)), (1, .int 2), (2, .int 1), (3, .int 12)]) hx hb dX12_numberRead_7 hl (of_decide_eq_true rfl) rfl (fun ls hl => ?_)
  refine lv_aload_n hx hb dX12_numberRead_9 rfl (lv_at hl 2 rfl) ?_
  refine va_get (D := D) hx hb hts inlX12 hown hK hP 55 (jc_55 cI cL ad σ τ) rfl 21 (of_decide_eq_true rfl) (hts _ kw_15_13) (fun _ h9 => h9) rfl dX12_numberRead_10 ?_
  exact by
   refine lv_if_ge (tgt := 73) hx hb dX12_numberRead_13 (of_decide_eq_true rfl) (fun c => absurd (jle c jz_0 rfl) (by omega)) (fun c6 => ?_)
   have kc6 := jnle c6 jz_0 rfl
   refine lv_aload_n hx hb dX12_numberRead_16 rfl (lv_at hl 2 rfl) ?_
   refine va_get (D := D) hx hb hts inlX12 hown hK hP 55 (jc_55 cI cL ad σ τ) rfl 19 (of_decide_eq_true rfl) (hts _ kw_15_11) (fun _ h9 => h9) rfl dX12_numberRead_17 ?_
   refine lv_iload hx hb dX12_numberRead_20 (lv_at hl 1 rfl) ?_
   refine lv_iload_n hx hb dX12_numberRead_22 rfl (lv_at hl 3 rfl) ?_
   have g7 := jrg (rfl : (σ 55 19).toInt = (σ 55 19).toInt)
   refine lv_iadd hx hb dX12_numberRead_23 ?_
   refine lv_topi (fun x8 ex8 => ?_)
   exact by
    have tx8 : x8.toInt = (σ 55 19).toInt + 2 := (jadd ex8 rfl jz_2 (by omega) (by omega)).trans (by omega)
    refine lv_icmp_ge (tgt := 73) hx hb dX12_numberRead_24 (of_decide_eq_true rfl) (fun c => absurd (jle c tx8 rfl) (by omega)) (fun c9 => ?_)
    have kc9 := jnle c9 tx8 rfl
    refine lv_aload_n hx hb dX12_numberRead_27 rfl (lv_at hl 2 rfl) ?_
    refine jcallV (As := []) (rest := []) ⟨hx, hb, hml, hown, hts⟩ hK hP hA hS hZ (c_X12_byteAt_t l D cI cL ad zz hJ σ τ hI121 (by omega)) cw_RX12_189 (jc_55 cI cL ad σ τ) rfl ⟨Nat.le_of_ble_eq_true rfl, Nat.le_of_ble_eq_true rfl⟩ rfl rfl rfl hl.1 rfl (Nat.le_of_ble_eq_true rfl) dX12_numberRead_28 ⟨Nat.zero_le _, Nat.zero_le _⟩ (fun r11 σ10 τ10 H locs h10 hP hS => ?_)
    obtain ⟨⟨rfl, rfl⟩, h10⟩ := h10
    rcases h10 with h12 | h13
    · obtain ⟨q15, k14⟩ := h12
      have q16 : r11 = (σ 63 (σ 55 19).toNatClampNeg) := q15.trans rfl
      exact by
       have q16 := q16.symm
       subst q16
       refine lv_bipush (v := 48) hx hb dX12_numberRead_31 (of_decide_eq_true rfl) ?_
       refine lv_icmp_lt (tgt := 73) hx hb dX12_numberRead_33 (of_decide_eq_true rfl) (fun c17 => ?_) (fun c17 => ?_)
       · have kc17 := jlt c17 rfl jz_48
         refine lv_aload_n hx hb dX12_numberRead_73 rfl (lv_at hl 2 rfl) ?_
         refine va_get (D := D) hx hb hts inlX12 hown hK hP 55 (jc_55 cI cL ad σ τ) rfl 21 (of_decide_eq_true rfl) (hts _ kw_15_13) (fun _ h9 => h9) rfl dX12_numberRead_74 ?_
         refine lv_if_ge (tgt := 113) hx hb dX12_numberRead_77 (of_decide_eq_true rfl) (fun c => absurd (jle c jz_0 rfl) (by omega)) (fun c18 => ?_)
         have kc18 := jnle c18 jz_0 rfl
         exact by
          refine lv_aload_n hx hb dX12_numberRead_80 rfl (lv_at hl 2 rfl) ?_
          refine va_get (D := D) hx hb hts inlX12 hown hK hP 55 (jc_55 cI cL ad σ τ) rfl 19 (of_decide_eq_true rfl) (hts _ kw_15_11) (fun _ h9 => h9) rfl dX12_numberRead_81 ?_
          refine lv_iload hx hb dX12_numberRead_84 (lv_at hl 1 rfl) ?_
          refine lv_icmp_le (tgt := 113) hx hb dX12_numberRead_86 (of_decide_eq_true rfl) (fun c19 => ?_) (fun c => absurd (jnle c rfl rfl) (by omega))
          have kc19 := jle c19 rfl rfl
          refine lv_aload_n hx hb dX12_numberRead_113 rfl (lv_at hl 2 rfl) ?_
          refine va_get (D := D) hx hb hts inlX12 hown hK hP 55 (jc_55 cI cL ad σ τ) rfl 19 (of_decide_eq_true rfl) (hts _ kw_15_11) (fun _ h9 => h9) rfl dX12_numberRead_114 ?_
          refine lv_iload hx hb dX12_numberRead_117 (lv_at hl 1 rfl) ?_
          refine lv_icmp_ne (tgt := 129) hx hb dX12_numberRead_119 (of_decide_eq_true rfl) (fun c => absurd (jne c rfl rfl) (by omega)) (fun c20 => ?_)
          exact by
           have kc20 := jeq c20 rfl rfl
           refine lv_aload_n hx hb dX12_numberRead_122 rfl (lv_at hl 2 rfl) ?_
           refine jcallV (As := []) (rest := []) ⟨hx, hb, hml, hown, hts⟩ hK hP hA hS hZ (c_X12_wrong l D cI cL ad zz hJ σ τ hI121) cw_RX12_214 (jc_55 cI cL ad σ τ) rfl ⟨Nat.le_of_ble_eq_true rfl, Nat.le_of_ble_eq_true rfl⟩ rfl rfl rfl hl.1 rfl (Nat.le_of_ble_eq_true rfl) dX12_numberRead_123 ⟨Nat.zero_le _, Nat.zero_le _⟩ (fun r22 σ21 τ21 H locs h21 hP hS => ?_)
           obtain ⟨rfl, f23, f24, I25, h21⟩ := h21
           obtain ⟨i27, i28, i29, i30, i31⟩ : ((-1) ≤ (σ21 55 18).toInt ∧ (σ21 55 18).toInt ≤ 80) ∧ (0 ≤ (σ21 55 19).toInt) ∧ ((σ21 55 19).toInt ≤ (σ21 55 20).toInt) ∧ ((σ21 55 20).toInt ≤ 80) ∧ ((-1) ≤ (σ21 55 21).toInt ∧ (σ21 55 21).toInt ≤ 80) := id I25
           have z32 : (σ21 55 18).toInt = (σ 55 18).toInt := (congrArg Int32.toInt (show σ21 55 18 = (σ 55 18) from (f24 18 (of_decide_eq_true rfl))))
           have z33 : (σ21 55 19).toInt = (σ 55 19).toInt := (congrArg Int32.toInt (show σ21 55 19 = (σ 55 19) from (f24 19 (of_decide_eq_true rfl))))
           have z34 : (σ21 55 20).toInt = (σ 55 20).toInt := (congrArg Int32.toInt (show σ21 55 20 = (σ 55 20) from (f24 20 (of_decide_eq_true rfl))))
           obtain ⟨k35, k36, h21⟩ := h21
           have h37 := h21
           obtain ⟨q39, k38⟩ := h37
           have q39 := q39.symm
           subst q39
           refine lv_goto (tgt := 131) hx hb dX12_numberRead_126 (of_decide_eq_true rfl) ?_
           exact by exact hret 0 σ21 τ _ _ _ _ rfl ⟨rfl, (fun i hi => (f23 i hi)), (fun i hi => (f24 i (imp_219 i hi))), I25, ⟨trivial, (by have h9 := jz_0; omega), ⟨0, 0, (by have i0 := jix (f := σ 63) (show (σ 55 19).toInt = (σ 55 19).toInt by omega); exact Or.inl ⟨by omega, by omega, (fun d => by unfold jDg at d; omega)⟩), (by have h9 := jz_0; omega)⟩⟩⟩ hP hS dX12_numberRead_131
       · have kc17 := jnlt c17 rfl jz_48
         refine lv_aload_n hx hb dX12_numberRead_36 rfl (lv_at hl 2 rfl) ?_
         exact by
          refine jcallV (As := []) (rest := []) ⟨hx, hb, hml, hown, hts⟩ hK hP hA hS hZ (c_X12_byteAt_t l D cI cL ad zz hJ σ τ hI121 (by omega)) cw_RX12_189 (jc_55 cI cL ad σ τ) rfl ⟨Nat.le_of_ble_eq_true rfl, Nat.le_of_ble_eq_true rfl⟩ rfl rfl rfl hl.1 rfl (Nat.le_of_ble_eq_true rfl) dX12_numberRead_37 ⟨Nat.zero_le _, Nat.zero_le _⟩ (fun r41 σ40 τ40 H locs h40 hP hS => ?_)
          obtain ⟨⟨rfl, rfl⟩, h40⟩ := h40
          rcases h40 with h42 | h43
          · obtain ⟨q45, k44⟩ := h42
            have q46 : r41 = (σ 63 (σ 55 19).toNatClampNeg) := q45.trans rfl
            have q46 := q46.symm
            subst q46
            refine lv_bipush (v := 57) hx hb dX12_numberRead_40 (of_decide_eq_true rfl) ?_
            refine lv_icmp_gt (tgt := 73) hx hb dX12_numberRead_42 (of_decide_eq_true rfl) (fun c47 => ?_) (fun c47 => ?_)
            · have kc47 := jlt c47 jz_57 rfl
              refine lv_aload_n hx hb dX12_numberRead_73 rfl (lv_at hl 2 rfl) ?_
              refine va_get (D := D) hx hb hts inlX12 hown hK hP 55 (jc_55 cI cL ad σ τ) rfl 21 (of_decide_eq_true rfl) (hts _ kw_15_13) (fun _ h9 => h9) rfl dX12_numberRead_74 ?_
              exact by
               refine lv_if_ge (tgt := 113) hx hb dX12_numberRead_77 (of_decide_eq_true rfl) (fun c => absurd (jle c jz_0 rfl) (by omega)) (fun c48 => ?_)
               have kc48 := jnle c48 jz_0 rfl
               refine lv_aload_n hx hb dX12_numberRead_80 rfl (lv_at hl 2 rfl) ?_
               refine va_get (D := D) hx hb hts inlX12 hown hK hP 55 (jc_55 cI cL ad σ τ) rfl 19 (of_decide_eq_true rfl) (hts _ kw_15_11) (fun _ h9 => h9) rfl dX12_numberRead_81 ?_
               refine lv_iload hx hb dX12_numberRead_84 (lv_at hl 1 rfl) ?_
               refine lv_icmp_le (tgt := 113) hx hb dX12_numberRead_86 (of_decide_eq_true rfl) (fun c49 => ?_) (fun c => absurd (jnle c rfl rfl) (by omega))
               have kc49 := jle c49 rfl rfl
               refine lv_aload_n hx hb dX12_numberRead_113 rfl (lv_at hl 2 rfl) ?_
               refine va_get (D := D) hx hb hts inlX12 hown hK hP 55 (jc_55 cI cL ad σ τ) rfl 19 (of_decide_eq_true rfl) (hts _ kw_15_11) (fun _ h9 => h9) rfl dX12_numberRead_114 ?_
               exact by
                refine lv_iload hx hb dX12_numberRead_117 (lv_at hl 1 rfl) ?_
                refine lv_icmp_ne (tgt := 129) hx hb dX12_numberRead_119 (of_decide_eq_true rfl) (fun c => absurd (jne c rfl rfl) (by omega)) (fun c50 => ?_)
                have kc50 := jeq c50 rfl rfl
                refine lv_aload_n hx hb dX12_numberRead_122 rfl (lv_at hl 2 rfl) ?_
                refine jcallV (As := []) (rest := []) ⟨hx, hb, hml, hown, hts⟩ hK hP hA hS hZ (c_X12_wrong l D cI cL ad zz hJ σ τ hI121) cw_RX12_214 (jc_55 cI cL ad σ τ) rfl ⟨Nat.le_of_ble_eq_true rfl, Nat.le_of_ble_eq_true rfl⟩ rfl rfl rfl hl.1 rfl (Nat.le_of_ble_eq_true rfl) dX12_numberRead_123 ⟨Nat.zero_le _, Nat.zero_le _⟩ (fun r52 σ51 τ51 H locs h51 hP hS => ?_)
                obtain ⟨rfl, f53, f54, I55, h51⟩ := h51
                obtain ⟨i57, i58, i59, i60, i61⟩ : ((-1) ≤ (σ51 55 18).toInt ∧ (σ51 55 18).toInt ≤ 80) ∧ (0 ≤ (σ51 55 19).toInt) ∧ ((σ51 55 19).toInt ≤ (σ51 55 20).toInt) ∧ ((σ51 55 20).toInt ≤ 80) ∧ ((-1) ≤ (σ51 55 21).toInt ∧ (σ51 55 21).toInt ≤ 80) := id I55
                have z62 : (σ51 55 18).toInt = (σ 55 18).toInt := (congrArg Int32.toInt (show σ51 55 18 = (σ 55 18) from (f54 18 (of_decide_eq_true rfl))))
                have z63 : (σ51 55 19).toInt = (σ 55 19).toInt := (congrArg Int32.toInt (show σ51 55 19 = (σ 55 19) from (f54 19 (of_decide_eq_true rfl))))
                exact by
                 have z64 : (σ51 55 20).toInt = (σ 55 20).toInt := (congrArg Int32.toInt (show σ51 55 20 = (σ 55 20) from (f54 20 (of_decide_eq_true rfl))))
                 obtain ⟨k65, k66, h51⟩ := h51
                 have h67 := h51
                 obtain ⟨q69, k68⟩ := h67
                 have q69 := q69.symm
                 subst q69
                 refine lv_goto (tgt := 131) hx hb dX12_numberRead_126 (of_decide_eq_true rfl) ?_
                 exact by exact hret 0 σ51 τ _ _ _ _ rfl ⟨rfl, (fun i hi => (f53 i hi)), (fun i hi => (f54 i (imp_219 i hi))), I55, ⟨trivial, (by have h9 := jz_0; omega), ⟨0, 0, (by have i0 := jix (f := σ 63) (show (σ 55 19).toInt = (σ 55 19).toInt by omega); exact Or.inl ⟨by omega, by omega, (fun d => by unfold jDg at d; omega)⟩), (by have h9 := jz_0; omega)⟩⟩⟩ hP hS dX12_numberRead_131
            · have kc47 := jnlt c47 jz_57 rfl
              refine lv_bipush (v := 10) hx hb dX12_numberRead_45 (of_decide_eq_true rfl) ?_
              refine lv_iload hx hb dX12_numberRead_47 (lv_at hl 0 rfl) ?_
              refine lv_imul hx hb dX12_numberRead_49 ?_
              refine jtopr (y := 0) (of_decide_eq_true rfl) ?_
              refine lv_aload_n hx hb dX12_numberRead_50 rfl (lv_at hl 2 rfl) ?_
              exact by
               refine jcallV (As := []) (rest := [.int 0]) ⟨hx, hb, hml, hown, hts⟩ hK hP hA hS hZ (c_X12_byteAt_t l D cI cL ad zz hJ σ τ hI121 (by omega)) cw_RX12_189 (jc_55 cI cL ad σ τ) rfl ⟨Nat.le_of_ble_eq_true rfl, Nat.le_of_ble_eq_true rfl⟩ rfl rfl rfl hl.1 rfl (Nat.le_of_ble_eq_true rfl) dX12_numberRead_51 ⟨Nat.zero_le _, Nat.zero_le _⟩ (fun r71 σ70 τ70 H locs h70 hP hS => ?_)
               obtain ⟨⟨rfl, rfl⟩, h70⟩ := h70
               rcases h70 with h72 | h73
               · obtain ⟨q75, k74⟩ := h72
                 have q76 : r71 = (σ 63 (σ 55 19).toNatClampNeg) := q75.trans rfl
                 have q76 := q76.symm
                 subst q76
                 refine lv_iadd hx hb dX12_numberRead_54 ?_
                 refine jtopr (y := (σ 63 (σ 55 19).toNatClampNeg)) (by rw [Int32.zero_add]) ?_
                 exact by
                  refine lv_bipush (v := 48) hx hb dX12_numberRead_55 (of_decide_eq_true rfl) ?_
                  have g77 := jrg (rfl : (σ 63 (σ 55 19).toNatClampNeg).toInt = (σ 63 (σ 55 19).toNatClampNeg).toInt)
                  refine lv_isub hx hb dX12_numberRead_57 ?_
                  refine lv_topi (fun x78 ex78 => ?_)
                  have tx78 : x78.toInt = (σ 63 (σ 55 19).toNatClampNeg).toInt - 48 := (jsub ex78 rfl jz_48 (by omega) (by omega)).trans (by omega)
                  refine lv_istore (lv' := [(5, .int x78), (4, .int (σ 55 19)), (0, .ref (ad 55)), (1, .int 2), (2, .int 1), (3, .int 12)]) hx hb dX12_numberRead_58 hl (of_decide_eq_true rfl) rfl (fun ls hl => ?_)
                  refine lv_aload_n hx hb dX12_numberRead_60 rfl (lv_at hl 2 rfl) ?_
                  refine lv_dup hx hb dX12_numberRead_61 rfl ?_
                  refine va_get (D := D) hx hb hts inlX12 hown hK hP 55 (jc_55 cI cL ad σ τ) rfl 19 (of_decide_eq_true rfl) (hts _ kw_15_11) (fun _ h9 => h9) rfl dX12_numberRead_62 ?_
                  exact by
                   refine lv_iconst (v := 1) hx hb dX12_numberRead_65 (of_decide_eq_true rfl) ?_
                   refine lv_iadd hx hb dX12_numberRead_66 ?_
                   refine lv_topi (fun x79 ex79 => ?_)
                   have tx79 : x79.toInt = (σ 55 19).toInt + 1 := (jadd ex79 rfl jz_1 (by omega) (by omega)).trans (by omega)
                   refine jput (ty := .int) hx hb hts inlX12 tyX12 tyX12_ok nmX12 hown hK hP hJ hA hS (jc_55 cI cL ad σ τ) rfl (k := 19) (of_decide_eq_true rfl) (Nat.le_of_ble_eq_true rfl) (jp_55_19 cI cL ad σ τ x79) (hts _ kw_15_11) (fun _ h9 => h9) rfl (by decide +kernel) rfl rfl dX12_numberRead_67 (fun σ80 H locs eσ80 hP hS => ?_)
                   refine lv_goto (tgt := 9) hx hb dX12_numberRead_70 (of_decide_eq_true rfl) ?_
                   refine lv_aload_n hx hb dX12_numberRead_9 rfl (lv_at hl 2 rfl) ?_
                   refine va_get (D := D) hx hb hts inlX12 hown hK hP 55 (jc_55 cI cL ad σ80 τ) rfl 21 (of_decide_eq_true rfl) (hts _ kw_15_13) (fun _ h9 => h9) rfl dX12_numberRead_10 ?_
                   have m81 : σ80 55 21 = (σ 55 21) := (jkp 21 eσ80 (of_decide_eq_true rfl))
                   exact by
                    refine jtopr m81 ?_
                    refine lv_if_ge (tgt := 73) hx hb dX12_numberRead_13 (of_decide_eq_true rfl) (fun c => absurd (jle c jz_0 rfl) (by omega)) (fun c82 => ?_)
                    have kc82 := jnle c82 jz_0 rfl
                    refine lv_aload_n hx hb dX12_numberRead_16 rfl (lv_at hl 2 rfl) ?_
                    refine va_get (D := D) hx hb hts inlX12 hown hK hP 55 (jc_55 cI cL ad σ80 τ) rfl 19 (of_decide_eq_true rfl) (hts _ kw_15_11) (fun _ h9 => h9) rfl dX12_numberRead_17 ?_
                    have m83 : σ80 55 19 = x79 := (jsp eσ80)
                    refine jtopr m83 ?_
                    refine lv_iload hx hb dX12_numberRead_20 (lv_at hl 1 rfl) ?_
                    refine lv_iload_n hx hb dX12_numberRead_22 rfl (lv_at hl 3 rfl) ?_
                    exact by
                     refine lv_iadd hx hb dX12_numberRead_23 ?_
                     refine lv_topi (fun x84 ex84 => ?_)
                     have tx84 : x84.toInt = (σ 55 19).toInt + 2 := (jadd ex84 rfl jz_2 (by omega) (by omega)).trans (by omega)
                     refine lv_icmp_ge (tgt := 73) hx hb dX12_numberRead_24 (of_decide_eq_true rfl) (fun c => absurd (jle c tx84 tx79) (by omega)) (fun c85 => ?_)
                     have kc85 := jnle c85 tx84 tx79
                     refine lv_aload_n hx hb dX12_numberRead_27 rfl (lv_at hl 2 rfl) ?_
                     have z86 : (σ80 55 18).toInt = (σ 55 18).toInt := (congrArg Int32.toInt (show σ80 55 18 = (σ 55 18) from (jkp 18 eσ80 (of_decide_eq_true rfl))))
                     have z87 : (σ80 55 19).toInt = (σ 55 19).toInt + 1 := ((congrArg Int32.toInt (show σ80 55 19 = x79 from m83)).trans tx79)
                     have z88 : (σ80 55 20).toInt = (σ 55 20).toInt := (congrArg Int32.toInt (show σ80 55 20 = (σ 55 20) from (jkp 20 eσ80 (of_decide_eq_true rfl))))
                     exact by
                      have z89 : (σ80 55 21).toInt = (σ 55 21).toInt := (congrArg Int32.toInt (show σ80 55 21 = (σ 55 21) from m81))
                      have I90 : jI121 σ80 := ⟨(by omega), (by omega), (by omega), (by omega), (by omega)⟩
                      refine jcallV (As := []) (rest := []) ⟨hx, hb, hml, hown, hts⟩ hK hP hA hS hZ (c_X12_byteAt_t l D cI cL ad zz hJ σ80 τ I90 (by omega)) cw_RX12_189 (jc_55 cI cL ad σ80 τ) rfl ⟨Nat.le_of_ble_eq_true rfl, Nat.le_of_ble_eq_true rfl⟩ rfl rfl rfl hl.1 rfl (Nat.le_of_ble_eq_true rfl) dX12_numberRead_28 ⟨Nat.zero_le _, Nat.zero_le _⟩ (fun r92 σ91 τ91 H locs h91 hP hS => ?_)
                      obtain ⟨⟨rfl, rfl⟩, h91⟩ := h91
                      rcases h91 with h93 | h94
                      · obtain ⟨q96, k95⟩ := h93
                        have q97 : r92 = (σ 63 x79.toNatClampNeg) := q96.trans (by rw [(show σ80 55 19 = x79 from m83), jnp 63 eσ80 (of_decide_eq_true rfl)])
                        have q97e : (σ80 63 (σ80 55 19).toNatClampNeg).toInt = (σ 63 x79.toNatClampNeg).toInt := by rw [← q96, ← q97]
                        have q97 := q97.symm
                        exact by
                         subst q97
                         refine lv_bipush (v := 48) hx hb dX12_numberRead_31 (of_decide_eq_true rfl) ?_
                         refine lv_icmp_lt (tgt := 73) hx hb dX12_numberRead_33 (of_decide_eq_true rfl) (fun c98 => ?_) (fun c98 => ?_)
                         · have kc98 := jlt c98 rfl jz_48
                           refine lv_aload_n hx hb dX12_numberRead_73 rfl (lv_at hl 2 rfl) ?_
                           refine va_get (D := D) hx hb hts inlX12 hown hK hP 55 (jc_55 cI cL ad σ80 τ) rfl 21 (of_decide_eq_true rfl) (hts _ kw_15_13) (fun _ h9 => h9) rfl dX12_numberRead_74 ?_
                           refine jtopr m81 ?_
                           refine lv_if_ge (tgt := 113) hx hb dX12_numberRead_77 (of_decide_eq_true rfl) (fun c => absurd (jle c jz_0 rfl) (by omega)) (fun c99 => ?_)
                           have kc99 := jnle c99 jz_0 rfl
                           exact by
                            refine lv_aload_n hx hb dX12_numberRead_80 rfl (lv_at hl 2 rfl) ?_
                            refine va_get (D := D) hx hb hts inlX12 hown hK hP 55 (jc_55 cI cL ad σ80 τ) rfl 19 (of_decide_eq_true rfl) (hts _ kw_15_11) (fun _ h9 => h9) rfl dX12_numberRead_81 ?_
                            refine jtopr m83 ?_
                            refine lv_iload hx hb dX12_numberRead_84 (lv_at hl 1 rfl) ?_
                            refine lv_icmp_le (tgt := 113) hx hb dX12_numberRead_86 (of_decide_eq_true rfl) (fun c => absurd (jle c tx79 rfl) (by omega)) (fun c100 => ?_)
                            have kc100 := jnle c100 tx79 rfl
                            refine lv_iload hx hb dX12_numberRead_89 (lv_at hl 0 rfl) ?_
                            refine lv_i2l (v := x78.toInt64) hx hb dX12_numberRead_91 rfl ?_
                            refine lv_iload_n hx hb dX12_numberRead_92 rfl (lv_at hl 4 rfl) ?_
                            exact by
                             refine lv_i2l (v := 1) hx hb dX12_numberRead_93 (of_decide_eq_true rfl) ?_
                             refine lv_iload_n hx hb dX12_numberRead_94 rfl (lv_at hl 5 rfl) ?_
                             refine lv_i2l (v := 12) hx hb dX12_numberRead_95 (of_decide_eq_true rfl) ?_
                             refine jcallS (As := [.long x78.toInt64, .long 1, .long 12]) (rest := []) ⟨hx, hb, hml, hown, hts⟩ hK hP hA hS hZ (c_X12_within l D cI cL ad zz hJ σ80 τ x78.toInt64 ((σ 63 (σ 55 19).toNatClampNeg).toInt - 48) (jtoL tx78) 1 (1) jzl_1 12 (12) jzl_12) cw_RX12_136 ⟨Nat.le_of_ble_eq_true rfl, Nat.le_of_ble_eq_true rfl⟩ rfl rfl rfl hl.1 rfl (Nat.le_of_ble_eq_true rfl) dX12_numberRead_96 ⟨Nat.zero_le _, Nat.zero_le _⟩ (fun r102 σ101 τ101 H locs h101 hP hS => ?_)
                             obtain ⟨⟨rfl, rfl⟩, h101⟩ := h101
                             rcases h101 with h103 | h104
                             · obtain ⟨q106, k105⟩ := h103
                               have q106 := q106.symm
                               subst q106
                               refine lv_if_ne (tgt := 113) hx hb dX12_numberRead_99 (of_decide_eq_true rfl) (fun _ => ?_) (fun c => absurd c (of_decide_eq_true rfl))
                               refine lv_aload_n hx hb dX12_numberRead_113 rfl (lv_at hl 2 rfl) ?_
                               refine va_get (D := D) hx hb hts inlX12 hown hK hP 55 (jc_55 cI cL ad σ80 τ) rfl 19 (of_decide_eq_true rfl) (hts _ kw_15_11) (fun _ h9 => h9) rfl dX12_numberRead_114 ?_
                               refine jtopr m83 ?_
                               refine lv_iload hx hb dX12_numberRead_117 (lv_at hl 1 rfl) ?_
                               exact by
                                refine lv_icmp_ne (tgt := 129) hx hb dX12_numberRead_119 (of_decide_eq_true rfl) (fun c107 => ?_) (fun c => absurd (jeq c tx79 rfl) (by omega))
                                have kc107 := jne c107 tx79 rfl
                                refine lv_iload hx hb dX12_numberRead_129 (lv_at hl 0 rfl) ?_
                                exact by exact hret x78 σ80 τ _ _ _ _ rfl ⟨rfl, (fun i hi => (jnp i eσ80 (imp_165 i hi))), (fun i hi => (jkp i eσ80 (imp_220 i hi))), I90, ⟨trivial, (by have h9 := tx78; omega), ⟨1, x78.toInt, (by have i0 := jix (f := σ 63) (show (σ 55 19).toInt = (σ 55 19).toInt by omega); have p1 := tx79; have i1 := jix (f := σ 63) (show x79.toInt = (σ 55 19).toInt + 1 by omega); exact Or.inr (Or.inl ⟨by omega, ⟨by omega, by omega, by omega⟩, (fun d => by unfold jDg at d; omega), by omega⟩)), (by have h9 := tx78; omega)⟩⟩⟩ hP hS dX12_numberRead_131
                             · obtain ⟨q109, k108⟩ := h104
                               have q109 := q109.symm
                               subst q109
                               refine lv_if_ne (tgt := 113) hx hb dX12_numberRead_99 (of_decide_eq_true rfl) (fun c => absurd (of_decide_eq_true rfl) c) (fun _ => ?_)
                               refine lv_aload_n hx hb dX12_numberRead_102 rfl (lv_at hl 2 rfl) ?_
                               refine lv_iload hx hb dX12_numberRead_103 (lv_at hl 1 rfl) ?_
                               refine jput (ty := .int) hx hb hts inlX12 tyX12 tyX12_ok nmX12 hown hK hP hJ hA hS (jc_55 cI cL ad σ80 τ) rfl (k := 19) (of_decide_eq_true rfl) (Nat.le_of_ble_eq_true rfl) (jp_55_19 cI cL ad σ80 τ (σ 55 19)) (hts _ kw_15_11) (fun _ h9 => h9) rfl (by decide +kernel) rfl rfl dX12_numberRead_105 (fun σ110 H locs eσ110 hP hS => ?_)
                               refine lv_aload_n hx hb dX12_numberRead_108 rfl (lv_at hl 2 rfl) ?_
                               have z111 : (σ110 55 18).toInt = (σ 55 18).toInt := (congrArg Int32.toInt (show σ110 55 18 = (σ 55 18) from ((jkp 18 eσ110 (of_decide_eq_true rfl)).trans (jkp 18 eσ80 (of_decide_eq_true rfl)))))
                               have z112 : (σ110 55 19).toInt = (σ 55 19).toInt := (congrArg Int32.toInt (show σ110 55 19 = (σ 55 19) from (jsp eσ110)))
                               have z113 : (σ110 55 20).toInt = (σ 55 20).toInt := (congrArg Int32.toInt (show σ110 55 20 = (σ 55 20) from ((jkp 20 eσ110 (of_decide_eq_true rfl)).trans (jkp 20 eσ80 (of_decide_eq_true rfl)))))
                               have z114 : (σ110 55 21).toInt = (σ 55 21).toInt := (congrArg Int32.toInt (show σ110 55 21 = (σ 55 21) from ((jkp 21 eσ110 (of_decide_eq_true rfl)).trans m81)))
                               exact by
                                have I115 : jI121 σ110 := ⟨(by omega), (by omega), (by omega), (by omega), (by omega)⟩
                                refine jcallV (As := []) (rest := []) ⟨hx, hb, hml, hown, hts⟩ hK hP hA hS hZ (c_X12_wrong l D cI cL ad zz hJ σ110 τ I115) cw_RX12_214 (jc_55 cI cL ad σ110 τ) rfl ⟨Nat.le_of_ble_eq_true rfl, Nat.le_of_ble_eq_true rfl⟩ rfl rfl rfl hl.1 rfl (Nat.le_of_ble_eq_true rfl) dX12_numberRead_109 ⟨Nat.zero_le _, Nat.zero_le _⟩ (fun r117 σ116 τ116 H locs h116 hP hS => ?_)
                                obtain ⟨rfl, f118, f119, I120, h116⟩ := h116
                                obtain ⟨i122, i123, i124, i125, i126⟩ : ((-1) ≤ (σ116 55 18).toInt ∧ (σ116 55 18).toInt ≤ 80) ∧ (0 ≤ (σ116 55 19).toInt) ∧ ((σ116 55 19).toInt ≤ (σ116 55 20).toInt) ∧ ((σ116 55 20).toInt ≤ 80) ∧ ((-1) ≤ (σ116 55 21).toInt ∧ (σ116 55 21).toInt ≤ 80) := id I120
                                have z127 : (σ116 55 18).toInt = (σ 55 18).toInt := (congrArg Int32.toInt (show σ116 55 18 = (σ 55 18) from ((f119 18 (of_decide_eq_true rfl)).trans ((jkp 18 eσ110 (of_decide_eq_true rfl)).trans (jkp 18 eσ80 (of_decide_eq_true rfl))))))
                                have z128 : (σ116 55 19).toInt = (σ 55 19).toInt := (congrArg Int32.toInt (show σ116 55 19 = (σ 55 19) from ((f119 19 (of_decide_eq_true rfl)).trans (jsp eσ110))))
                                have z129 : (σ116 55 20).toInt = (σ 55 20).toInt := (congrArg Int32.toInt (show σ116 55 20 = (σ 55 20) from ((f119 20 (of_decide_eq_true rfl)).trans ((jkp 20 eσ110 (of_decide_eq_true rfl)).trans (jkp 20 eσ80 (of_decide_eq_true rfl))))))
                                obtain ⟨k130, k131, h116⟩ := h116
                                have h132 := h116
                                obtain ⟨q134, k133⟩ := h132
                                have q134 := q134.symm
                                subst q134
                                exact by exact hret 0 σ116 τ _ _ _ _ rfl ⟨rfl, (fun i hi => ((f118 i hi).trans ((jnp i eσ110 (imp_165 i hi)).trans (jnp i eσ80 (imp_165 i hi))))), (fun i hi => ((f119 i (imp_219 i hi)).trans ((jkp i eσ110 (imp_220 i hi)).trans (jkp i eσ80 (imp_220 i hi))))), I120, ⟨trivial, (by have h9 := jz_0; omega), ⟨1, x78.toInt, (by have i0 := jix (f := σ 63) (show (σ 55 19).toInt = (σ 55 19).toInt by omega); have p1 := tx79; have i1 := jix (f := σ 63) (show x79.toInt = (σ 55 19).toInt + 1 by omega); exact Or.inr (Or.inl ⟨by omega, ⟨by omega, by omega, by omega⟩, (fun d => by unfold jDg at d; omega), by omega⟩)), (by have h9 := jz_0; omega)⟩⟩⟩ hP hS dX12_numberRead_112
                         · have kc98 := jnlt c98 rfl jz_48
                           refine lv_aload_n hx hb dX12_numberRead_36 rfl (lv_at hl 2 rfl) ?_
                           exact by
                            refine jcallV (As := []) (rest := []) ⟨hx, hb, hml, hown, hts⟩ hK hP hA hS hZ (c_X12_byteAt_t l D cI cL ad zz hJ σ80 τ I90 (by omega)) cw_RX12_189 (jc_55 cI cL ad σ80 τ) rfl ⟨Nat.le_of_ble_eq_true rfl, Nat.le_of_ble_eq_true rfl⟩ rfl rfl rfl hl.1 rfl (Nat.le_of_ble_eq_true rfl) dX12_numberRead_37 ⟨Nat.zero_le _, Nat.zero_le _⟩ (fun r136 σ135 τ135 H locs h135 hP hS => ?_)
                            obtain ⟨⟨rfl, rfl⟩, h135⟩ := h135
                            rcases h135 with h137 | h138
                            · obtain ⟨q140, k139⟩ := h137
                              have q141 : r136 = (σ 63 x79.toNatClampNeg) := q140.trans (by rw [(show σ80 55 19 = x79 from m83), jnp 63 eσ80 (of_decide_eq_true rfl)])
                              have q141e : (σ80 63 (σ80 55 19).toNatClampNeg).toInt = (σ 63 x79.toNatClampNeg).toInt := by rw [← q140, ← q141]
                              have q141 := q141.symm
                              subst q141
                              refine lv_bipush (v := 57) hx hb dX12_numberRead_40 (of_decide_eq_true rfl) ?_
                              exact by
                               refine lv_icmp_gt (tgt := 73) hx hb dX12_numberRead_42 (of_decide_eq_true rfl) (fun c142 => ?_) (fun c142 => ?_)
                               · have kc142 := jlt c142 jz_57 rfl
                                 refine lv_aload_n hx hb dX12_numberRead_73 rfl (lv_at hl 2 rfl) ?_
                                 refine va_get (D := D) hx hb hts inlX12 hown hK hP 55 (jc_55 cI cL ad σ80 τ) rfl 21 (of_decide_eq_true rfl) (hts _ kw_15_13) (fun _ h9 => h9) rfl dX12_numberRead_74 ?_
                                 refine jtopr m81 ?_
                                 refine lv_if_ge (tgt := 113) hx hb dX12_numberRead_77 (of_decide_eq_true rfl) (fun c => absurd (jle c jz_0 rfl) (by omega)) (fun c143 => ?_)
                                 have kc143 := jnle c143 jz_0 rfl
                                 refine lv_aload_n hx hb dX12_numberRead_80 rfl (lv_at hl 2 rfl) ?_
                                 refine va_get (D := D) hx hb hts inlX12 hown hK hP 55 (jc_55 cI cL ad σ80 τ) rfl 19 (of_decide_eq_true rfl) (hts _ kw_15_11) (fun _ h9 => h9) rfl dX12_numberRead_81 ?_
                                 exact by
                                  refine jtopr m83 ?_
                                  refine lv_iload hx hb dX12_numberRead_84 (lv_at hl 1 rfl) ?_
                                  refine lv_icmp_le (tgt := 113) hx hb dX12_numberRead_86 (of_decide_eq_true rfl) (fun c => absurd (jle c tx79 rfl) (by omega)) (fun c144 => ?_)
                                  have kc144 := jnle c144 tx79 rfl
                                  refine lv_iload hx hb dX12_numberRead_89 (lv_at hl 0 rfl) ?_
                                  refine lv_i2l (v := x78.toInt64) hx hb dX12_numberRead_91 rfl ?_
                                  refine lv_iload_n hx hb dX12_numberRead_92 rfl (lv_at hl 4 rfl) ?_
                                  refine lv_i2l (v := 1) hx hb dX12_numberRead_93 (of_decide_eq_true rfl) ?_
                                  refine lv_iload_n hx hb dX12_numberRead_94 rfl (lv_at hl 5 rfl) ?_
                                  exact by
                                   refine lv_i2l (v := 12) hx hb dX12_numberRead_95 (of_decide_eq_true rfl) ?_
                                   refine jcallS (As := [.long x78.toInt64, .long 1, .long 12]) (rest := []) ⟨hx, hb, hml, hown, hts⟩ hK hP hA hS hZ (c_X12_within l D cI cL ad zz hJ σ80 τ x78.toInt64 ((σ 63 (σ 55 19).toNatClampNeg).toInt - 48) (jtoL tx78) 1 (1) jzl_1 12 (12) jzl_12) cw_RX12_136 ⟨Nat.le_of_ble_eq_true rfl, Nat.le_of_ble_eq_true rfl⟩ rfl rfl rfl hl.1 rfl (Nat.le_of_ble_eq_true rfl) dX12_numberRead_96 ⟨Nat.zero_le _, Nat.zero_le _⟩ (fun r146 σ145 τ145 H locs h145 hP hS => ?_)
                                   obtain ⟨⟨rfl, rfl⟩, h145⟩ := h145
                                   rcases h145 with h147 | h148
                                   · obtain ⟨q150, k149⟩ := h147
                                     have q150 := q150.symm
                                     subst q150
                                     refine lv_if_ne (tgt := 113) hx hb dX12_numberRead_99 (of_decide_eq_true rfl) (fun _ => ?_) (fun c => absurd c (of_decide_eq_true rfl))
                                     refine lv_aload_n hx hb dX12_numberRead_113 rfl (lv_at hl 2 rfl) ?_
                                     refine va_get (D := D) hx hb hts inlX12 hown hK hP 55 (jc_55 cI cL ad σ80 τ) rfl 19 (of_decide_eq_true rfl) (hts _ kw_15_11) (fun _ h9 => h9) rfl dX12_numberRead_114 ?_
                                     refine jtopr m83 ?_
                                     refine lv_iload hx hb dX12_numberRead_117 (lv_at hl 1 rfl) ?_
                                     exact by
                                      refine lv_icmp_ne (tgt := 129) hx hb dX12_numberRead_119 (of_decide_eq_true rfl) (fun c151 => ?_) (fun c => absurd (jeq c tx79 rfl) (by omega))
                                      have kc151 := jne c151 tx79 rfl
                                      refine lv_iload hx hb dX12_numberRead_129 (lv_at hl 0 rfl) ?_
                                      exact by exact hret x78 σ80 τ _ _ _ _ rfl ⟨rfl, (fun i hi => (jnp i eσ80 (imp_165 i hi))), (fun i hi => (jkp i eσ80 (imp_220 i hi))), I90, ⟨trivial, (by have h9 := tx78; omega), ⟨1, x78.toInt, (by have i0 := jix (f := σ 63) (show (σ 55 19).toInt = (σ 55 19).toInt by omega); have p1 := tx79; have i1 := jix (f := σ 63) (show x79.toInt = (σ 55 19).toInt + 1 by omega); exact Or.inr (Or.inl ⟨by omega, ⟨by omega, by omega, by omega⟩, (fun d => by unfold jDg at d; omega), by omega⟩)), (by have h9 := tx78; omega)⟩⟩⟩ hP hS dX12_numberRead_131
                                   · obtain ⟨q153, k152⟩ := h148
                                     have q153 := q153.symm
                                     subst q153
                                     refine lv_if_ne (tgt := 113) hx hb dX12_numberRead_99 (of_decide_eq_true rfl) (fun c => absurd (of_decide_eq_true rfl) c) (fun _ => ?_)
                                     refine lv_aload_n hx hb dX12_numberRead_102 rfl (lv_at hl 2 rfl) ?_
                                     refine lv_iload hx hb dX12_numberRead_103 (lv_at hl 1 rfl) ?_
                                     refine jput (ty := .int) hx hb hts inlX12 tyX12 tyX12_ok nmX12 hown hK hP hJ hA hS (jc_55 cI cL ad σ80 τ) rfl (k := 19) (of_decide_eq_true rfl) (Nat.le_of_ble_eq_true rfl) (jp_55_19 cI cL ad σ80 τ (σ 55 19)) (hts _ kw_15_11) (fun _ h9 => h9) rfl (by decide +kernel) rfl rfl dX12_numberRead_105 (fun σ154 H locs eσ154 hP hS => ?_)
                                     refine lv_aload_n hx hb dX12_numberRead_108 rfl (lv_at hl 2 rfl) ?_
                                     have z155 : (σ154 55 18).toInt = (σ 55 18).toInt := (congrArg Int32.toInt (show σ154 55 18 = (σ 55 18) from ((jkp 18 eσ154 (of_decide_eq_true rfl)).trans (jkp 18 eσ80 (of_decide_eq_true rfl)))))
                                     have z156 : (σ154 55 19).toInt = (σ 55 19).toInt := (congrArg Int32.toInt (show σ154 55 19 = (σ 55 19) from (jsp eσ154)))
                                     have z157 : (σ154 55 20).toInt = (σ 55 20).toInt := (congrArg Int32.toInt (show σ154 55 20 = (σ 55 20) from ((jkp 20 eσ154 (of_decide_eq_true rfl)).trans (jkp 20 eσ80 (of_decide_eq_true rfl)))))
                                     have z158 : (σ154 55 21).toInt = (σ 55 21).toInt := (congrArg Int32.toInt (show σ154 55 21 = (σ 55 21) from ((jkp 21 eσ154 (of_decide_eq_true rfl)).trans m81)))
                                     exact by
                                      have I159 : jI121 σ154 := ⟨(by omega), (by omega), (by omega), (by omega), (by omega)⟩
                                      refine jcallV (As := []) (rest := []) ⟨hx, hb, hml, hown, hts⟩ hK hP hA hS hZ (c_X12_wrong l D cI cL ad zz hJ σ154 τ I159) cw_RX12_214 (jc_55 cI cL ad σ154 τ) rfl ⟨Nat.le_of_ble_eq_true rfl, Nat.le_of_ble_eq_true rfl⟩ rfl rfl rfl hl.1 rfl (Nat.le_of_ble_eq_true rfl) dX12_numberRead_109 ⟨Nat.zero_le _, Nat.zero_le _⟩ (fun r161 σ160 τ160 H locs h160 hP hS => ?_)
                                      obtain ⟨rfl, f162, f163, I164, h160⟩ := h160
                                      obtain ⟨i166, i167, i168, i169, i170⟩ : ((-1) ≤ (σ160 55 18).toInt ∧ (σ160 55 18).toInt ≤ 80) ∧ (0 ≤ (σ160 55 19).toInt) ∧ ((σ160 55 19).toInt ≤ (σ160 55 20).toInt) ∧ ((σ160 55 20).toInt ≤ 80) ∧ ((-1) ≤ (σ160 55 21).toInt ∧ (σ160 55 21).toInt ≤ 80) := id I164
                                      have z171 : (σ160 55 18).toInt = (σ 55 18).toInt := (congrArg Int32.toInt (show σ160 55 18 = (σ 55 18) from ((f163 18 (of_decide_eq_true rfl)).trans ((jkp 18 eσ154 (of_decide_eq_true rfl)).trans (jkp 18 eσ80 (of_decide_eq_true rfl))))))
                                      have z172 : (σ160 55 19).toInt = (σ 55 19).toInt := (congrArg Int32.toInt (show σ160 55 19 = (σ 55 19) from ((f163 19 (of_decide_eq_true rfl)).trans (jsp eσ154))))
                                      have z173 : (σ160 55 20).toInt = (σ 55 20).toInt := (congrArg Int32.toInt (show σ160 55 20 = (σ 55 20) from ((f163 20 (of_decide_eq_true rfl)).trans ((jkp 20 eσ154 (of_decide_eq_true rfl)).trans (jkp 20 eσ80 (of_decide_eq_true rfl))))))
                                      obtain ⟨k174, k175, h160⟩ := h160
                                      have h176 := h160
                                      obtain ⟨q178, k177⟩ := h176
                                      have q178 := q178.symm
                                      subst q178
                                      exact by exact hret 0 σ160 τ _ _ _ _ rfl ⟨rfl, (fun i hi => ((f162 i hi).trans ((jnp i eσ154 (imp_165 i hi)).trans (jnp i eσ80 (imp_165 i hi))))), (fun i hi => ((f163 i (imp_219 i hi)).trans ((jkp i eσ154 (imp_220 i hi)).trans (jkp i eσ80 (imp_220 i hi))))), I164, ⟨trivial, (by have h9 := jz_0; omega), ⟨1, x78.toInt, (by have i0 := jix (f := σ 63) (show (σ 55 19).toInt = (σ 55 19).toInt by omega); have p1 := tx79; have i1 := jix (f := σ 63) (show x79.toInt = (σ 55 19).toInt + 1 by omega); exact Or.inr (Or.inl ⟨by omega, ⟨by omega, by omega, by omega⟩, (fun d => by unfold jDg at d; omega), by omega⟩)), (by have h9 := jz_0; omega)⟩⟩⟩ hP hS dX12_numberRead_112
                               · have kc142 := jnlt c142 jz_57 rfl
                                 refine lv_bipush (v := 10) hx hb dX12_numberRead_45 (of_decide_eq_true rfl) ?_
                                 refine lv_iload hx hb dX12_numberRead_47 (lv_at hl 0 rfl) ?_
                                 refine lv_imul hx hb dX12_numberRead_49 ?_
                                 refine lv_topi (fun x179 ex179 => ?_)
                                 exact by
                                  have tx179 : x179.toInt = 10 * (σ 63 (σ 55 19).toNatClampNeg).toInt - 480 := (jmul ex179 jz_10 tx78 (by omega) (by omega)).trans (by omega)
                                  refine lv_aload_n hx hb dX12_numberRead_50 rfl (lv_at hl 2 rfl) ?_
                                  refine jcallV (As := []) (rest := [.int x179]) ⟨hx, hb, hml, hown, hts⟩ hK hP hA hS hZ (c_X12_byteAt_t l D cI cL ad zz hJ σ80 τ I90 (by omega)) cw_RX12_189 (jc_55 cI cL ad σ80 τ) rfl ⟨Nat.le_of_ble_eq_true rfl, Nat.le_of_ble_eq_true rfl⟩ rfl rfl rfl hl.1 rfl (Nat.le_of_ble_eq_true rfl) dX12_numberRead_51 ⟨Nat.zero_le _, Nat.zero_le _⟩ (fun r181 σ180 τ180 H locs h180 hP hS => ?_)
                                  obtain ⟨⟨rfl, rfl⟩, h180⟩ := h180
                                  rcases h180 with h182 | h183
                                  · obtain ⟨q185, k184⟩ := h182
                                    have q186 : r181 = (σ 63 x79.toNatClampNeg) := q185.trans (by rw [(show σ80 55 19 = x79 from m83), jnp 63 eσ80 (of_decide_eq_true rfl)])
                                    have q186e : (σ80 63 (σ80 55 19).toNatClampNeg).toInt = (σ 63 x79.toNatClampNeg).toInt := by rw [← q185, ← q186]
                                    have q186 := q186.symm
                                    exact by
                                     subst q186
                                     have g187 := jrg (rfl : (σ 63 x79.toNatClampNeg).toInt = (σ 63 x79.toNatClampNeg).toInt)
                                     refine lv_iadd hx hb dX12_numberRead_54 ?_
                                     refine lv_topi (fun x188 ex188 => ?_)
                                     have tx188 : x188.toInt = 10 * (σ 63 (σ 55 19).toNatClampNeg).toInt + (σ 63 x79.toNatClampNeg).toInt - 480 := (jadd ex188 tx179 rfl (by omega) (by omega)).trans (by omega)
                                     refine lv_bipush (v := 48) hx hb dX12_numberRead_55 (of_decide_eq_true rfl) ?_
                                     refine lv_isub hx hb dX12_numberRead_57 ?_
                                     refine lv_topi (fun x189 ex189 => ?_)
                                     have tx189 : x189.toInt = 10 * (σ 63 (σ 55 19).toNatClampNeg).toInt + (σ 63 x79.toNatClampNeg).toInt - 528 := (jsub ex189 tx188 jz_48 (by omega) (by omega)).trans (by omega)
                                     exact by
                                      refine lv_istore (lv' := [(5, .int x189), (4, .int (σ 55 19)), (0, .ref (ad 55)), (1, .int 2), (2, .int 1), (3, .int 12)]) hx hb dX12_numberRead_58 hl (of_decide_eq_true rfl) rfl (fun ls hl => ?_)
                                      refine lv_aload_n hx hb dX12_numberRead_60 rfl (lv_at hl 2 rfl) ?_
                                      refine lv_dup hx hb dX12_numberRead_61 rfl ?_
                                      refine va_get (D := D) hx hb hts inlX12 hown hK hP 55 (jc_55 cI cL ad σ80 τ) rfl 19 (of_decide_eq_true rfl) (hts _ kw_15_11) (fun _ h9 => h9) rfl dX12_numberRead_62 ?_
                                      refine jtopr m83 ?_
                                      refine lv_iconst (v := 1) hx hb dX12_numberRead_65 (of_decide_eq_true rfl) ?_
                                      refine lv_iadd hx hb dX12_numberRead_66 ?_
                                      refine lv_topi (fun x190 ex190 => ?_)
                                      have tx190 : x190.toInt = (σ 55 19).toInt + 2 := (jadd ex190 tx79 jz_1 (by omega) (by omega)).trans (by omega)
                                      exact by
                                       refine jput (ty := .int) hx hb hts inlX12 tyX12 tyX12_ok nmX12 hown hK hP hJ hA hS (jc_55 cI cL ad σ80 τ) rfl (k := 19) (of_decide_eq_true rfl) (Nat.le_of_ble_eq_true rfl) (jp_55_19 cI cL ad σ80 τ x190) (hts _ kw_15_11) (fun _ h9 => h9) rfl (by decide +kernel) rfl rfl dX12_numberRead_67 (fun σ191 H locs eσ191 hP hS => ?_)
                                       refine lv_goto (tgt := 9) hx hb dX12_numberRead_70 (of_decide_eq_true rfl) ?_
                                       refine lv_aload_n hx hb dX12_numberRead_9 rfl (lv_at hl 2 rfl) ?_
                                       refine va_get (D := D) hx hb hts inlX12 hown hK hP 55 (jc_55 cI cL ad σ191 τ) rfl 21 (of_decide_eq_true rfl) (hts _ kw_15_13) (fun _ h9 => h9) rfl dX12_numberRead_10 ?_
                                       have m192 : σ191 55 21 = (σ 55 21) := ((jkp 21 eσ191 (of_decide_eq_true rfl)).trans m81)
                                       refine jtopr m192 ?_
                                       refine lv_if_ge (tgt := 73) hx hb dX12_numberRead_13 (of_decide_eq_true rfl) (fun c => absurd (jle c jz_0 rfl) (by omega)) (fun c193 => ?_)
                                       have kc193 := jnle c193 jz_0 rfl
                                       refine lv_aload_n hx hb dX12_numberRead_16 rfl (lv_at hl 2 rfl) ?_
                                       exact by
                                        refine va_get (D := D) hx hb hts inlX12 hown hK hP 55 (jc_55 cI cL ad σ191 τ) rfl 19 (of_decide_eq_true rfl) (hts _ kw_15_11) (fun _ h9 => h9) rfl dX12_numberRead_17 ?_
                                        have m194 : σ191 55 19 = x190 := (jsp eσ191)
                                        refine jtopr m194 ?_
                                        refine lv_iload hx hb dX12_numberRead_20 (lv_at hl 1 rfl) ?_
                                        refine lv_iload_n hx hb dX12_numberRead_22 rfl (lv_at hl 3 rfl) ?_
                                        refine lv_iadd hx hb dX12_numberRead_23 ?_
                                        refine lv_topi (fun x195 ex195 => ?_)
                                        have tx195 : x195.toInt = (σ 55 19).toInt + 2 := (jadd ex195 rfl jz_2 (by omega) (by omega)).trans (by omega)
                                        refine lv_icmp_ge (tgt := 73) hx hb dX12_numberRead_24 (of_decide_eq_true rfl) (fun c196 => ?_) (fun c => absurd (jnle c tx195 tx190) (by omega))
                                        exact by
                                         have kc196 := jle c196 tx195 tx190
                                         refine lv_aload_n hx hb dX12_numberRead_73 rfl (lv_at hl 2 rfl) ?_
                                         refine va_get (D := D) hx hb hts inlX12 hown hK hP 55 (jc_55 cI cL ad σ191 τ) rfl 21 (of_decide_eq_true rfl) (hts _ kw_15_13) (fun _ h9 => h9) rfl dX12_numberRead_74 ?_
                                         refine jtopr m192 ?_
                                         refine lv_if_ge (tgt := 113) hx hb dX12_numberRead_77 (of_decide_eq_true rfl) (fun c => absurd (jle c jz_0 rfl) (by omega)) (fun c197 => ?_)
                                         have kc197 := jnle c197 jz_0 rfl
                                         refine lv_aload_n hx hb dX12_numberRead_80 rfl (lv_at hl 2 rfl) ?_
                                         refine va_get (D := D) hx hb hts inlX12 hown hK hP 55 (jc_55 cI cL ad σ191 τ) rfl 19 (of_decide_eq_true rfl) (hts _ kw_15_11) (fun _ h9 => h9) rfl dX12_numberRead_81 ?_
                                         refine jtopr m194 ?_
                                         exact by
                                          refine lv_iload hx hb dX12_numberRead_84 (lv_at hl 1 rfl) ?_
                                          refine lv_icmp_le (tgt := 113) hx hb dX12_numberRead_86 (of_decide_eq_true rfl) (fun c => absurd (jle c tx190 rfl) (by omega)) (fun c198 => ?_)
                                          have kc198 := jnle c198 tx190 rfl
                                          refine lv_iload hx hb dX12_numberRead_89 (lv_at hl 0 rfl) ?_
                                          refine lv_i2l (v := x189.toInt64) hx hb dX12_numberRead_91 rfl ?_
                                          refine lv_iload_n hx hb dX12_numberRead_92 rfl (lv_at hl 4 rfl) ?_
                                          refine lv_i2l (v := 1) hx hb dX12_numberRead_93 (of_decide_eq_true rfl) ?_
                                          refine lv_iload_n hx hb dX12_numberRead_94 rfl (lv_at hl 5 rfl) ?_
                                          refine lv_i2l (v := 12) hx hb dX12_numberRead_95 (of_decide_eq_true rfl) ?_
                                          exact by
                                           refine jcallS (As := [.long x189.toInt64, .long 1, .long 12]) (rest := []) ⟨hx, hb, hml, hown, hts⟩ hK hP hA hS hZ (c_X12_within l D cI cL ad zz hJ σ191 τ x189.toInt64 (10 * (σ 63 (σ 55 19).toNatClampNeg).toInt + (σ 63 x79.toNatClampNeg).toInt - 528) (jtoL tx189) 1 (1) jzl_1 12 (12) jzl_12) cw_RX12_136 ⟨Nat.le_of_ble_eq_true rfl, Nat.le_of_ble_eq_true rfl⟩ rfl rfl rfl hl.1 rfl (Nat.le_of_ble_eq_true rfl) dX12_numberRead_96 ⟨Nat.zero_le _, Nat.zero_le _⟩ (fun r200 σ199 τ199 H locs h199 hP hS => ?_)
                                           obtain ⟨⟨rfl, rfl⟩, h199⟩ := h199
                                           rcases h199 with h201 | h202
                                           · obtain ⟨q204, k203⟩ := h201
                                             have q204 := q204.symm
                                             subst q204
                                             refine lv_if_ne (tgt := 113) hx hb dX12_numberRead_99 (of_decide_eq_true rfl) (fun _ => ?_) (fun c => absurd c (of_decide_eq_true rfl))
                                             refine lv_aload_n hx hb dX12_numberRead_113 rfl (lv_at hl 2 rfl) ?_
                                             refine va_get (D := D) hx hb hts inlX12 hown hK hP 55 (jc_55 cI cL ad σ191 τ) rfl 19 (of_decide_eq_true rfl) (hts _ kw_15_11) (fun _ h9 => h9) rfl dX12_numberRead_114 ?_
                                             refine jtopr m194 ?_
                                             refine lv_iload hx hb dX12_numberRead_117 (lv_at hl 1 rfl) ?_
                                             exact by
                                              refine lv_icmp_ne (tgt := 129) hx hb dX12_numberRead_119 (of_decide_eq_true rfl) (fun c205 => ?_) (fun c => absurd (jeq c tx190 rfl) (by omega))
                                              have kc205 := jne c205 tx190 rfl
                                              refine lv_iload hx hb dX12_numberRead_129 (lv_at hl 0 rfl) ?_
                                              have z206 : (σ191 55 18).toInt = (σ 55 18).toInt := (congrArg Int32.toInt (show σ191 55 18 = (σ 55 18) from ((jkp 18 eσ191 (of_decide_eq_true rfl)).trans (jkp 18 eσ80 (of_decide_eq_true rfl)))))
                                              have z207 : (σ191 55 19).toInt = (σ 55 19).toInt + 2 := ((congrArg Int32.toInt (show σ191 55 19 = x190 from m194)).trans tx190)
                                              have z208 : (σ191 55 20).toInt = (σ 55 20).toInt := (congrArg Int32.toInt (show σ191 55 20 = (σ 55 20) from ((jkp 20 eσ191 (of_decide_eq_true rfl)).trans (jkp 20 eσ80 (of_decide_eq_true rfl)))))
                                              have z209 : (σ191 55 21).toInt = (σ 55 21).toInt := (congrArg Int32.toInt (show σ191 55 21 = (σ 55 21) from m192))
                                              have I210 : jI121 σ191 := ⟨(by omega), (by omega), (by omega), (by omega), (by omega)⟩
                                              exact by exact hret x189 σ191 τ _ _ _ _ rfl ⟨rfl, (fun i hi => ((jnp i eσ191 (imp_165 i hi)).trans (jnp i eσ80 (imp_165 i hi)))), (fun i hi => ((jkp i eσ191 (imp_220 i hi)).trans (jkp i eσ80 (imp_220 i hi)))), I210, ⟨trivial, (by have h9 := tx189; omega), ⟨2, x189.toInt, (by have i0 := jix (f := σ 63) (show (σ 55 19).toInt = (σ 55 19).toInt by omega); have p1 := tx79; have i1 := jix (f := σ 63) (show x79.toInt = (σ 55 19).toInt + 1 by omega); exact Or.inr (Or.inr (Or.inl ⟨by omega, ⟨by omega, by omega, by omega⟩, ⟨by omega, by omega, by omega⟩, Or.inl rfl, by omega⟩))), (by have h9 := tx189; omega)⟩⟩⟩ hP hS dX12_numberRead_131
                                           · exact by
                                              obtain ⟨q212, k211⟩ := h202
                                              have q212 := q212.symm
                                              subst q212
                                              refine lv_if_ne (tgt := 113) hx hb dX12_numberRead_99 (of_decide_eq_true rfl) (fun c => absurd (of_decide_eq_true rfl) c) (fun _ => ?_)
                                              refine lv_aload_n hx hb dX12_numberRead_102 rfl (lv_at hl 2 rfl) ?_
                                              refine lv_iload hx hb dX12_numberRead_103 (lv_at hl 1 rfl) ?_
                                              refine jput (ty := .int) hx hb hts inlX12 tyX12 tyX12_ok nmX12 hown hK hP hJ hA hS (jc_55 cI cL ad σ191 τ) rfl (k := 19) (of_decide_eq_true rfl) (Nat.le_of_ble_eq_true rfl) (jp_55_19 cI cL ad σ191 τ (σ 55 19)) (hts _ kw_15_11) (fun _ h9 => h9) rfl (by decide +kernel) rfl rfl dX12_numberRead_105 (fun σ213 H locs eσ213 hP hS => ?_)
                                              refine lv_aload_n hx hb dX12_numberRead_108 rfl (lv_at hl 2 rfl) ?_
                                              have z214 : (σ213 55 18).toInt = (σ 55 18).toInt := (congrArg Int32.toInt (show σ213 55 18 = (σ 55 18) from ((jkp 18 eσ213 (of_decide_eq_true rfl)).trans ((jkp 18 eσ191 (of_decide_eq_true rfl)).trans (jkp 18 eσ80 (of_decide_eq_true rfl))))))
                                              have z215 : (σ213 55 19).toInt = (σ 55 19).toInt := (congrArg Int32.toInt (show σ213 55 19 = (σ 55 19) from (jsp eσ213)))
                                              have z216 : (σ213 55 20).toInt = (σ 55 20).toInt := (congrArg Int32.toInt (show σ213 55 20 = (σ 55 20) from ((jkp 20 eσ213 (of_decide_eq_true rfl)).trans ((jkp 20 eσ191 (of_decide_eq_true rfl)).trans (jkp 20 eσ80 (of_decide_eq_true rfl))))))
                                              have z217 : (σ213 55 21).toInt = (σ 55 21).toInt := (congrArg Int32.toInt (show σ213 55 21 = (σ 55 21) from ((jkp 21 eσ213 (of_decide_eq_true rfl)).trans m192)))
                                              exact by
                                               have I218 : jI121 σ213 := ⟨(by omega), (by omega), (by omega), (by omega), (by omega)⟩
                                               refine jcallV (As := []) (rest := []) ⟨hx, hb, hml, hown, hts⟩ hK hP hA hS hZ (c_X12_wrong l D cI cL ad zz hJ σ213 τ I218) cw_RX12_214 (jc_55 cI cL ad σ213 τ) rfl ⟨Nat.le_of_ble_eq_true rfl, Nat.le_of_ble_eq_true rfl⟩ rfl rfl rfl hl.1 rfl (Nat.le_of_ble_eq_true rfl) dX12_numberRead_109 ⟨Nat.zero_le _, Nat.zero_le _⟩ (fun r220 σ219 τ219 H locs h219 hP hS => ?_)
                                               obtain ⟨rfl, f221, f222, I223, h219⟩ := h219
                                               obtain ⟨i225, i226, i227, i228, i229⟩ : ((-1) ≤ (σ219 55 18).toInt ∧ (σ219 55 18).toInt ≤ 80) ∧ (0 ≤ (σ219 55 19).toInt) ∧ ((σ219 55 19).toInt ≤ (σ219 55 20).toInt) ∧ ((σ219 55 20).toInt ≤ 80) ∧ ((-1) ≤ (σ219 55 21).toInt ∧ (σ219 55 21).toInt ≤ 80) := id I223
                                               have z230 : (σ219 55 18).toInt = (σ 55 18).toInt := (congrArg Int32.toInt (show σ219 55 18 = (σ 55 18) from ((f222 18 (of_decide_eq_true rfl)).trans ((jkp 18 eσ213 (of_decide_eq_true rfl)).trans ((jkp 18 eσ191 (of_decide_eq_true rfl)).trans (jkp 18 eσ80 (of_decide_eq_true rfl)))))))
                                               have z231 : (σ219 55 19).toInt = (σ 55 19).toInt := (congrArg Int32.toInt (show σ219 55 19 = (σ 55 19) from ((f222 19 (of_decide_eq_true rfl)).trans (jsp eσ213))))
                                               have z232 : (σ219 55 20).toInt = (σ 55 20).toInt := (congrArg Int32.toInt (show σ219 55 20 = (σ 55 20) from ((f222 20 (of_decide_eq_true rfl)).trans ((jkp 20 eσ213 (of_decide_eq_true rfl)).trans ((jkp 20 eσ191 (of_decide_eq_true rfl)).trans (jkp 20 eσ80 (of_decide_eq_true rfl)))))))
                                               obtain ⟨k233, k234, h219⟩ := h219
                                               have h235 := h219
                                               obtain ⟨q237, k236⟩ := h235
                                               have q237 := q237.symm
                                               subst q237
                                               exact by exact hret 0 σ219 τ _ _ _ _ rfl ⟨rfl, (fun i hi => ((f221 i hi).trans ((jnp i eσ213 (imp_165 i hi)).trans ((jnp i eσ191 (imp_165 i hi)).trans (jnp i eσ80 (imp_165 i hi)))))), (fun i hi => ((f222 i (imp_219 i hi)).trans ((jkp i eσ213 (imp_220 i hi)).trans ((jkp i eσ191 (imp_220 i hi)).trans (jkp i eσ80 (imp_220 i hi)))))), I223, ⟨trivial, (by have h9 := jz_0; omega), ⟨2, x189.toInt, (by have i0 := jix (f := σ 63) (show (σ 55 19).toInt = (σ 55 19).toInt by omega); have p1 := tx79; have i1 := jix (f := σ 63) (show x79.toInt = (σ 55 19).toInt + 1 by omega); exact Or.inr (Or.inr (Or.inl ⟨by omega, ⟨by omega, by omega, by omega⟩, ⟨by omega, by omega, by omega⟩, Or.inl rfl, by omega⟩))), (by have h9 := jz_0; omega)⟩⟩⟩ hP hS dX12_numberRead_112
                                  · obtain ⟨q239, k238⟩ := h183
                                    exact absurd (by omega : False) id
                            · obtain ⟨q241, k240⟩ := h138
                              exact absurd (by omega : False) id
                      · obtain ⟨q243, k242⟩ := h94
                        have q243 := q243.symm
                        subst q243
                        refine lv_bipush (v := 48) hx hb dX12_numberRead_31 (of_decide_eq_true rfl) ?_
                        refine lv_icmp_lt (tgt := 73) hx hb dX12_numberRead_33 (of_decide_eq_true rfl) (fun _ => ?_) (fun c => absurd (of_decide_eq_true rfl) c)
                        refine lv_aload_n hx hb dX12_numberRead_73 rfl (lv_at hl 2 rfl) ?_
                        refine va_get (D := D) hx hb hts inlX12 hown hK hP 55 (jc_55 cI cL ad σ80 τ) rfl 21 (of_decide_eq_true rfl) (hts _ kw_15_13) (fun _ h9 => h9) rfl dX12_numberRead_74 ?_
                        refine jtopr m81 ?_
                        exact by
                         refine lv_if_ge (tgt := 113) hx hb dX12_numberRead_77 (of_decide_eq_true rfl) (fun c => absurd (jle c jz_0 rfl) (by omega)) (fun c244 => ?_)
                         have kc244 := jnle c244 jz_0 rfl
                         refine lv_aload_n hx hb dX12_numberRead_80 rfl (lv_at hl 2 rfl) ?_
                         refine va_get (D := D) hx hb hts inlX12 hown hK hP 55 (jc_55 cI cL ad σ80 τ) rfl 19 (of_decide_eq_true rfl) (hts _ kw_15_11) (fun _ h9 => h9) rfl dX12_numberRead_81 ?_
                         refine jtopr m83 ?_
                         refine lv_iload hx hb dX12_numberRead_84 (lv_at hl 1 rfl) ?_
                         refine lv_icmp_le (tgt := 113) hx hb dX12_numberRead_86 (of_decide_eq_true rfl) (fun c => absurd (jle c tx79 rfl) (by omega)) (fun c245 => ?_)
                         have kc245 := jnle c245 tx79 rfl
                         refine lv_iload hx hb dX12_numberRead_89 (lv_at hl 0 rfl) ?_
                         exact by
                          refine lv_i2l (v := x78.toInt64) hx hb dX12_numberRead_91 rfl ?_
                          refine lv_iload_n hx hb dX12_numberRead_92 rfl (lv_at hl 4 rfl) ?_
                          refine lv_i2l (v := 1) hx hb dX12_numberRead_93 (of_decide_eq_true rfl) ?_
                          refine lv_iload_n hx hb dX12_numberRead_94 rfl (lv_at hl 5 rfl) ?_
                          refine lv_i2l (v := 12) hx hb dX12_numberRead_95 (of_decide_eq_true rfl) ?_
                          refine jcallS (As := [.long x78.toInt64, .long 1, .long 12]) (rest := []) ⟨hx, hb, hml, hown, hts⟩ hK hP hA hS hZ (c_X12_within l D cI cL ad zz hJ σ80 τ x78.toInt64 ((σ 63 (σ 55 19).toNatClampNeg).toInt - 48) (jtoL tx78) 1 (1) jzl_1 12 (12) jzl_12) cw_RX12_136 ⟨Nat.le_of_ble_eq_true rfl, Nat.le_of_ble_eq_true rfl⟩ rfl rfl rfl hl.1 rfl (Nat.le_of_ble_eq_true rfl) dX12_numberRead_96 ⟨Nat.zero_le _, Nat.zero_le _⟩ (fun r247 σ246 τ246 H locs h246 hP hS => ?_)
                          obtain ⟨⟨rfl, rfl⟩, h246⟩ := h246
                          rcases h246 with h248 | h249
                          · obtain ⟨q251, k250⟩ := h248
                            have q251 := q251.symm
                            subst q251
                            refine lv_if_ne (tgt := 113) hx hb dX12_numberRead_99 (of_decide_eq_true rfl) (fun _ => ?_) (fun c => absurd c (of_decide_eq_true rfl))
                            refine lv_aload_n hx hb dX12_numberRead_113 rfl (lv_at hl 2 rfl) ?_
                            refine va_get (D := D) hx hb hts inlX12 hown hK hP 55 (jc_55 cI cL ad σ80 τ) rfl 19 (of_decide_eq_true rfl) (hts _ kw_15_11) (fun _ h9 => h9) rfl dX12_numberRead_114 ?_
                            refine jtopr m83 ?_
                            refine lv_iload hx hb dX12_numberRead_117 (lv_at hl 1 rfl) ?_
                            exact by
                             refine lv_icmp_ne (tgt := 129) hx hb dX12_numberRead_119 (of_decide_eq_true rfl) (fun c252 => ?_) (fun c => absurd (jeq c tx79 rfl) (by omega))
                             have kc252 := jne c252 tx79 rfl
                             refine lv_iload hx hb dX12_numberRead_129 (lv_at hl 0 rfl) ?_
                             exact by exact hret x78 σ80 τ _ _ _ _ rfl ⟨rfl, (fun i hi => (jnp i eσ80 (imp_165 i hi))), (fun i hi => (jkp i eσ80 (imp_220 i hi))), I90, ⟨trivial, (by have h9 := tx78; omega), ⟨1, x78.toInt, (by have i0 := jix (f := σ 63) (show (σ 55 19).toInt = (σ 55 19).toInt by omega); exact Or.inr (Or.inl ⟨by omega, ⟨by omega, by omega, by omega⟩, (fun d => by unfold jDg at d; omega), by omega⟩)), (by have h9 := tx78; omega)⟩⟩⟩ hP hS dX12_numberRead_131
                          · obtain ⟨q254, k253⟩ := h249
                            have q254 := q254.symm
                            subst q254
                            refine lv_if_ne (tgt := 113) hx hb dX12_numberRead_99 (of_decide_eq_true rfl) (fun c => absurd (of_decide_eq_true rfl) c) (fun _ => ?_)
                            refine lv_aload_n hx hb dX12_numberRead_102 rfl (lv_at hl 2 rfl) ?_
                            refine lv_iload hx hb dX12_numberRead_103 (lv_at hl 1 rfl) ?_
                            refine jput (ty := .int) hx hb hts inlX12 tyX12 tyX12_ok nmX12 hown hK hP hJ hA hS (jc_55 cI cL ad σ80 τ) rfl (k := 19) (of_decide_eq_true rfl) (Nat.le_of_ble_eq_true rfl) (jp_55_19 cI cL ad σ80 τ (σ 55 19)) (hts _ kw_15_11) (fun _ h9 => h9) rfl (by decide +kernel) rfl rfl dX12_numberRead_105 (fun σ255 H locs eσ255 hP hS => ?_)
                            refine lv_aload_n hx hb dX12_numberRead_108 rfl (lv_at hl 2 rfl) ?_
                            have z256 : (σ255 55 18).toInt = (σ 55 18).toInt := (congrArg Int32.toInt (show σ255 55 18 = (σ 55 18) from ((jkp 18 eσ255 (of_decide_eq_true rfl)).trans (jkp 18 eσ80 (of_decide_eq_true rfl)))))
                            have z257 : (σ255 55 19).toInt = (σ 55 19).toInt := (congrArg Int32.toInt (show σ255 55 19 = (σ 55 19) from (jsp eσ255)))
                            have z258 : (σ255 55 20).toInt = (σ 55 20).toInt := (congrArg Int32.toInt (show σ255 55 20 = (σ 55 20) from ((jkp 20 eσ255 (of_decide_eq_true rfl)).trans (jkp 20 eσ80 (of_decide_eq_true rfl)))))
                            have z259 : (σ255 55 21).toInt = (σ 55 21).toInt := (congrArg Int32.toInt (show σ255 55 21 = (σ 55 21) from ((jkp 21 eσ255 (of_decide_eq_true rfl)).trans m81)))
                            exact by
                             have I260 : jI121 σ255 := ⟨(by omega), (by omega), (by omega), (by omega), (by omega)⟩
                             refine jcallV (As := []) (rest := []) ⟨hx, hb, hml, hown, hts⟩ hK hP hA hS hZ (c_X12_wrong l D cI cL ad zz hJ σ255 τ I260) cw_RX12_214 (jc_55 cI cL ad σ255 τ) rfl ⟨Nat.le_of_ble_eq_true rfl, Nat.le_of_ble_eq_true rfl⟩ rfl rfl rfl hl.1 rfl (Nat.le_of_ble_eq_true rfl) dX12_numberRead_109 ⟨Nat.zero_le _, Nat.zero_le _⟩ (fun r262 σ261 τ261 H locs h261 hP hS => ?_)
                             obtain ⟨rfl, f263, f264, I265, h261⟩ := h261
                             obtain ⟨i267, i268, i269, i270, i271⟩ : ((-1) ≤ (σ261 55 18).toInt ∧ (σ261 55 18).toInt ≤ 80) ∧ (0 ≤ (σ261 55 19).toInt) ∧ ((σ261 55 19).toInt ≤ (σ261 55 20).toInt) ∧ ((σ261 55 20).toInt ≤ 80) ∧ ((-1) ≤ (σ261 55 21).toInt ∧ (σ261 55 21).toInt ≤ 80) := id I265
                             have z272 : (σ261 55 18).toInt = (σ 55 18).toInt := (congrArg Int32.toInt (show σ261 55 18 = (σ 55 18) from ((f264 18 (of_decide_eq_true rfl)).trans ((jkp 18 eσ255 (of_decide_eq_true rfl)).trans (jkp 18 eσ80 (of_decide_eq_true rfl))))))
                             have z273 : (σ261 55 19).toInt = (σ 55 19).toInt := (congrArg Int32.toInt (show σ261 55 19 = (σ 55 19) from ((f264 19 (of_decide_eq_true rfl)).trans (jsp eσ255))))
                             have z274 : (σ261 55 20).toInt = (σ 55 20).toInt := (congrArg Int32.toInt (show σ261 55 20 = (σ 55 20) from ((f264 20 (of_decide_eq_true rfl)).trans ((jkp 20 eσ255 (of_decide_eq_true rfl)).trans (jkp 20 eσ80 (of_decide_eq_true rfl))))))
                             obtain ⟨k275, k276, h261⟩ := h261
                             have h277 := h261
                             obtain ⟨q279, k278⟩ := h277
                             have q279 := q279.symm
                             subst q279
                             exact by exact hret 0 σ261 τ _ _ _ _ rfl ⟨rfl, (fun i hi => ((f263 i hi).trans ((jnp i eσ255 (imp_165 i hi)).trans (jnp i eσ80 (imp_165 i hi))))), (fun i hi => ((f264 i (imp_219 i hi)).trans ((jkp i eσ255 (imp_220 i hi)).trans (jkp i eσ80 (imp_220 i hi))))), I265, ⟨trivial, (by have h9 := jz_0; omega), ⟨1, x78.toInt, (by have i0 := jix (f := σ 63) (show (σ 55 19).toInt = (σ 55 19).toInt by omega); exact Or.inr (Or.inl ⟨by omega, ⟨by omega, by omega, by omega⟩, (fun d => by unfold jDg at d; omega), by omega⟩)), (by have h9 := jz_0; omega)⟩⟩⟩ hP hS dX12_numberRead_112
               · obtain ⟨q281, k280⟩ := h73
                 exact absurd (by omega : False) id
          · obtain ⟨q283, k282⟩ := h43
            exact absurd (by omega : False) id
    · obtain ⟨q285, k284⟩ := h13
      have q285 := q285.symm
      subst q285
      refine lv_bipush (v := 48) hx hb dX12_numberRead_31 (of_decide_eq_true rfl) ?_
      refine lv_icmp_lt (tgt := 73) hx hb dX12_numberRead_33 (of_decide_eq_true rfl) (fun _ => ?_) (fun c => absurd (of_decide_eq_true rfl) c)
      refine lv_aload_n hx hb dX12_numberRead_73 rfl (lv_at hl 2 rfl) ?_
      refine va_get (D := D) hx hb hts inlX12 hown hK hP 55 (jc_55 cI cL ad σ τ) rfl 21 (of_decide_eq_true rfl) (hts _ kw_15_13) (fun _ h9 => h9) rfl dX12_numberRead_74 ?_
      exact by
       refine lv_if_ge (tgt := 113) hx hb dX12_numberRead_77 (of_decide_eq_true rfl) (fun c => absurd (jle c jz_0 rfl) (by omega)) (fun c286 => ?_)
       have kc286 := jnle c286 jz_0 rfl
       refine lv_aload_n hx hb dX12_numberRead_80 rfl (lv_at hl 2 rfl) ?_
       refine va_get (D := D) hx hb hts inlX12 hown hK hP 55 (jc_55 cI cL ad σ τ) rfl 19 (of_decide_eq_true rfl) (hts _ kw_15_11) (fun _ h9 => h9) rfl dX12_numberRead_81 ?_
       refine lv_iload hx hb dX12_numberRead_84 (lv_at hl 1 rfl) ?_
       refine lv_icmp_le (tgt := 113) hx hb dX12_numberRead_86 (of_decide_eq_true rfl) (fun c287 => ?_) (fun c => absurd (jnle c rfl rfl) (by omega))
       have kc287 := jle c287 rfl rfl
       refine lv_aload_n hx hb dX12_numberRead_113 rfl (lv_at hl 2 rfl) ?_
       refine va_get (D := D) hx hb hts inlX12 hown hK hP 55 (jc_55 cI cL ad σ τ) rfl 19 (of_decide_eq_true rfl) (hts _ kw_15_11) (fun _ h9 => h9) rfl dX12_numberRead_114 ?_
       exact by
        refine lv_iload hx hb dX12_numberRead_117 (lv_at hl 1 rfl) ?_
        refine lv_icmp_ne (tgt := 129) hx hb dX12_numberRead_119 (of_decide_eq_true rfl) (fun c => absurd (jne c rfl rfl) (by omega)) (fun c288 => ?_)
        have kc288 := jeq c288 rfl rfl
        refine lv_aload_n hx hb dX12_numberRead_122 rfl (lv_at hl 2 rfl) ?_
        refine jcallV (As := []) (rest := []) ⟨hx, hb, hml, hown, hts⟩ hK hP hA hS hZ (c_X12_wrong l D cI cL ad zz hJ σ τ hI121) cw_RX12_214 (jc_55 cI cL ad σ τ) rfl ⟨Nat.le_of_ble_eq_true rfl, Nat.le_of_ble_eq_true rfl⟩ rfl rfl rfl hl.1 rfl (Nat.le_of_ble_eq_true rfl) dX12_numberRead_123 ⟨Nat.zero_le _, Nat.zero_le _⟩ (fun r290 σ289 τ289 H locs h289 hP hS => ?_)
        obtain ⟨rfl, f291, f292, I293, h289⟩ := h289
        obtain ⟨i295, i296, i297, i298, i299⟩ : ((-1) ≤ (σ289 55 18).toInt ∧ (σ289 55 18).toInt ≤ 80) ∧ (0 ≤ (σ289 55 19).toInt) ∧ ((σ289 55 19).toInt ≤ (σ289 55 20).toInt) ∧ ((σ289 55 20).toInt ≤ 80) ∧ ((-1) ≤ (σ289 55 21).toInt ∧ (σ289 55 21).toInt ≤ 80) := id I293
        have z300 : (σ289 55 18).toInt = (σ 55 18).toInt := (congrArg Int32.toInt (show σ289 55 18 = (σ 55 18) from (f292 18 (of_decide_eq_true rfl))))
        have z301 : (σ289 55 19).toInt = (σ 55 19).toInt := (congrArg Int32.toInt (show σ289 55 19 = (σ 55 19) from (f292 19 (of_decide_eq_true rfl))))
        exact by
         have z302 : (σ289 55 20).toInt = (σ 55 20).toInt := (congrArg Int32.toInt (show σ289 55 20 = (σ 55 20) from (f292 20 (of_decide_eq_true rfl))))
         obtain ⟨k303, k304, h289⟩ := h289
         have h305 := h289
         obtain ⟨q307, k306⟩ := h305
         have q307 := q307.symm
         subst q307
         refine lv_goto (tgt := 131) hx hb dX12_numberRead_126 (of_decide_eq_true rfl) ?_
         exact by exact hret 0 σ289 τ _ _ _ _ rfl ⟨rfl, (fun i hi => (f291 i hi)), (fun i hi => (f292 i (imp_219 i hi))), I293, ⟨trivial, (by have h9 := jz_0; omega), ⟨0, 0, (by exact Or.inl ⟨by omega, by omega, (fun d => by unfold jDg at d; omega)⟩), (by have h9 := jz_0; omega)⟩⟩⟩ hP hS dX12_numberRead_131
set_option maxHeartbeats 4000000 in
set_option maxRecDepth 100000 in
theorem c_X12_numberRead_3 (l : Launch) (D : va_G) (cI cL : ClassId) (ad zz : Nat → Nat) (hJ : jD ad) (σ : Nat → Nat → Int32) (τ : Nat → Nat → Int64) (hI121 : jI121 σ) (hp0 : (σ 55 18).toInt = (-1)) (hp1 : (σ 55 21).toInt = (-1)) : jM l yX12_numberRead cX12_numberRead 6 (some .int) ({ frames := 1, cells := 0, slots := 0, locals := 25 }) D cI cL ad zz [.ref (ad 55), .int 3, .int 0, .int 999] σ τ (fun r σ' τ' => τ = τ' ∧ (∀ i : Nat, (i < 55 ∨ 55 < i) → σ' i = σ i) ∧ (∀ k : Nat, (k < 19 ∨ 19 < k) ∧ (k < 21 ∨ 21 < k) → σ' 55 k = σ 55 k) ∧ (jI121 σ') ∧ ((True ∧ (((σ' 55 21).toInt = (-1) ∧ 0 ≤ r.toInt ∧ r.toInt ≤ 999) ∨ (0 ≤ (σ' 55 21).toInt ∧ (σ' 55 21).toInt ≤ 80)) ∧ (∃ q v : Int, jNb (σ 63) ((σ 55 20).toInt) ((σ 55 19).toInt) 3 q v ∧ (((q = 0 ∨ v < 0 ∨ 999 < v) ∧ (σ' 55 21).toInt = (σ 55 19).toInt) ∨ (1 ≤ q ∧ 0 ≤ v ∧ v ≤ 999 ∧ r.toInt = v ∧ (σ' 55 19).toInt = (σ 55 19).toInt + q ∧ (σ' 55 21).toInt = -1)))))) := by
  refine jM.of hJ (by decide +kernel) (nt := .int) rfl (Nat.le_of_ble_eq_true rfl) ?_
  intro p e s m args below meth c Q ls hC hret hl hP
  obtain ⟨hx, hb, hr, hml, hown, hts, hK, -, hlocks, hZ⟩ := hC
  have hown : s.vm.findClass RX12 = some m.cls := hown
  have hS : va_S (jA ad) s.heap s.heap [] := va_S.rf
  have hA : ∀ q, jA ad q → jA ad q := fun _ h => h
  have hl : lv_has ls 6 [(0, .ref (ad 55)), (1, .int 3), (2, .int 0), (3, .int 999)] := hl
  obtain ⟨i1, i2, i3, i4, i5⟩ : ((-1) ≤ (σ 55 18).toInt ∧ (σ 55 18).toInt ≤ 80) ∧ (0 ≤ (σ 55 19).toInt) ∧ ((σ 55 19).toInt ≤ (σ 55 20).toInt) ∧ ((σ 55 20).toInt ≤ 80) ∧ ((-1) ≤ (σ 55 21).toInt ∧ (σ 55 21).toInt ≤ 80) := id hI121
  refine lv_aload_n hx hb dX12_numberRead_0 rfl (lv_at hl 0 rfl) ?_
  refine va_get (D := D) hx hb hts inlX12 hown hK hP 55 (jc_55 cI cL ad σ τ) rfl 19 (of_decide_eq_true rfl) (hts _ kw_15_11) (fun _ h9 => h9) rfl dX12_numberRead_1 ?_
  refine lv_istore (lv' := [(4, .int (σ 55 19)), (0, .ref (ad 55)), (1, .int 3), (2, .int 0), (3, .int 999)]) hx hb dX12_numberRead_4 hl (of_decide_eq_true rfl) rfl (fun ls hl => ?_)
  refine lv_iconst (v := 0) hx hb dX12_numberRead_6 (of_decide_eq_true rfl) ?_
  refine lv_istore (lv' := [(5, .int 0), (4, .int (σ 55 19)), (0, .ref (ad 55)), (1, .int 3), (2, .int 0), (3, .int 999)]) hx hb dX12_numberRead_7 hl (of_decide_eq_true rfl) rfl (fun ls hl => ?_)
  refine lv_aload_n hx hb dX12_numberRead_9 rfl (lv_at hl 2 rfl) ?_
  refine va_get (D := D) hx hb hts inlX12 hown hK hP 55 (jc_55 cI cL ad σ τ) rfl 21 (of_decide_eq_true rfl) (hts _ kw_15_13) (fun _ h9 => h9) rfl dX12_numberRead_10 ?_
  exact by
   refine lv_if_ge (tgt := 73) hx hb dX12_numberRead_13 (of_decide_eq_true rfl) (fun c => absurd (jle c jz_0 rfl) (by omega)) (fun c6 => ?_)
   have kc6 := jnle c6 jz_0 rfl
   refine lv_aload_n hx hb dX12_numberRead_16 rfl (lv_at hl 2 rfl) ?_
   refine va_get (D := D) hx hb hts inlX12 hown hK hP 55 (jc_55 cI cL ad σ τ) rfl 19 (of_decide_eq_true rfl) (hts _ kw_15_11) (fun _ h9 => h9) rfl dX12_numberRead_17 ?_
   refine lv_iload hx hb dX12_numberRead_20 (lv_at hl 1 rfl) ?_
   refine lv_iload_n hx hb dX12_numberRead_22 rfl (lv_at hl 3 rfl) ?_
   have g7 := jrg (rfl : (σ 55 19).toInt = (σ 55 19).toInt)
   refine lv_iadd hx hb dX12_numberRead_23 ?_
   refine lv_topi (fun x8 ex8 => ?_)
   exact by
    have tx8 : x8.toInt = (σ 55 19).toInt + 3 := (jadd ex8 rfl jz_3 (by omega) (by omega)).trans (by omega)
    refine lv_icmp_ge (tgt := 73) hx hb dX12_numberRead_24 (of_decide_eq_true rfl) (fun c => absurd (jle c tx8 rfl) (by omega)) (fun c9 => ?_)
    have kc9 := jnle c9 tx8 rfl
    refine lv_aload_n hx hb dX12_numberRead_27 rfl (lv_at hl 2 rfl) ?_
    refine jcallV (As := []) (rest := []) ⟨hx, hb, hml, hown, hts⟩ hK hP hA hS hZ (c_X12_byteAt_t l D cI cL ad zz hJ σ τ hI121 (by omega)) cw_RX12_189 (jc_55 cI cL ad σ τ) rfl ⟨Nat.le_of_ble_eq_true rfl, Nat.le_of_ble_eq_true rfl⟩ rfl rfl rfl hl.1 rfl (Nat.le_of_ble_eq_true rfl) dX12_numberRead_28 ⟨Nat.zero_le _, Nat.zero_le _⟩ (fun r11 σ10 τ10 H locs h10 hP hS => ?_)
    obtain ⟨⟨rfl, rfl⟩, h10⟩ := h10
    rcases h10 with h12 | h13
    · obtain ⟨q15, k14⟩ := h12
      have q16 : r11 = (σ 63 (σ 55 19).toNatClampNeg) := q15.trans rfl
      exact by
       have q16 := q16.symm
       subst q16
       refine lv_bipush (v := 48) hx hb dX12_numberRead_31 (of_decide_eq_true rfl) ?_
       refine lv_icmp_lt (tgt := 73) hx hb dX12_numberRead_33 (of_decide_eq_true rfl) (fun c17 => ?_) (fun c17 => ?_)
       · have kc17 := jlt c17 rfl jz_48
         refine lv_aload_n hx hb dX12_numberRead_73 rfl (lv_at hl 2 rfl) ?_
         refine va_get (D := D) hx hb hts inlX12 hown hK hP 55 (jc_55 cI cL ad σ τ) rfl 21 (of_decide_eq_true rfl) (hts _ kw_15_13) (fun _ h9 => h9) rfl dX12_numberRead_74 ?_
         refine lv_if_ge (tgt := 113) hx hb dX12_numberRead_77 (of_decide_eq_true rfl) (fun c => absurd (jle c jz_0 rfl) (by omega)) (fun c18 => ?_)
         have kc18 := jnle c18 jz_0 rfl
         exact by
          refine lv_aload_n hx hb dX12_numberRead_80 rfl (lv_at hl 2 rfl) ?_
          refine va_get (D := D) hx hb hts inlX12 hown hK hP 55 (jc_55 cI cL ad σ τ) rfl 19 (of_decide_eq_true rfl) (hts _ kw_15_11) (fun _ h9 => h9) rfl dX12_numberRead_81 ?_
          refine lv_iload hx hb dX12_numberRead_84 (lv_at hl 1 rfl) ?_
          refine lv_icmp_le (tgt := 113) hx hb dX12_numberRead_86 (of_decide_eq_true rfl) (fun c19 => ?_) (fun c => absurd (jnle c rfl rfl) (by omega))
          have kc19 := jle c19 rfl rfl
          refine lv_aload_n hx hb dX12_numberRead_113 rfl (lv_at hl 2 rfl) ?_
          refine va_get (D := D) hx hb hts inlX12 hown hK hP 55 (jc_55 cI cL ad σ τ) rfl 19 (of_decide_eq_true rfl) (hts _ kw_15_11) (fun _ h9 => h9) rfl dX12_numberRead_114 ?_
          refine lv_iload hx hb dX12_numberRead_117 (lv_at hl 1 rfl) ?_
          refine lv_icmp_ne (tgt := 129) hx hb dX12_numberRead_119 (of_decide_eq_true rfl) (fun c => absurd (jne c rfl rfl) (by omega)) (fun c20 => ?_)
          exact by
           have kc20 := jeq c20 rfl rfl
           refine lv_aload_n hx hb dX12_numberRead_122 rfl (lv_at hl 2 rfl) ?_
           refine jcallV (As := []) (rest := []) ⟨hx, hb, hml, hown, hts⟩ hK hP hA hS hZ (c_X12_wrong l D cI cL ad zz hJ σ τ hI121) cw_RX12_214 (jc_55 cI cL ad σ τ) rfl ⟨Nat.le_of_ble_eq_true rfl, Nat.le_of_ble_eq_true rfl⟩ rfl rfl rfl hl.1 rfl (Nat.le_of_ble_eq_true rfl) dX12_numberRead_123 ⟨Nat.zero_le _, Nat.zero_le _⟩ (fun r22 σ21 τ21 H locs h21 hP hS => ?_)
           obtain ⟨rfl, f23, f24, I25, h21⟩ := h21
           obtain ⟨i27, i28, i29, i30, i31⟩ : ((-1) ≤ (σ21 55 18).toInt ∧ (σ21 55 18).toInt ≤ 80) ∧ (0 ≤ (σ21 55 19).toInt) ∧ ((σ21 55 19).toInt ≤ (σ21 55 20).toInt) ∧ ((σ21 55 20).toInt ≤ 80) ∧ ((-1) ≤ (σ21 55 21).toInt ∧ (σ21 55 21).toInt ≤ 80) := id I25
           have z32 : (σ21 55 18).toInt = (σ 55 18).toInt := (congrArg Int32.toInt (show σ21 55 18 = (σ 55 18) from (f24 18 (of_decide_eq_true rfl))))
           have z33 : (σ21 55 19).toInt = (σ 55 19).toInt := (congrArg Int32.toInt (show σ21 55 19 = (σ 55 19) from (f24 19 (of_decide_eq_true rfl))))
           have z34 : (σ21 55 20).toInt = (σ 55 20).toInt := (congrArg Int32.toInt (show σ21 55 20 = (σ 55 20) from (f24 20 (of_decide_eq_true rfl))))
           obtain ⟨k35, k36, h21⟩ := h21
           have h37 := h21
           obtain ⟨q39, k38⟩ := h37
           have q39 := q39.symm
           subst q39
           refine lv_goto (tgt := 131) hx hb dX12_numberRead_126 (of_decide_eq_true rfl) ?_
           exact by exact hret 0 σ21 τ _ _ _ _ rfl ⟨rfl, (fun i hi => (f23 i hi)), (fun i hi => (f24 i (imp_219 i hi))), I25, ⟨trivial, (by have h9 := jz_0; omega), ⟨0, 0, (by have i0 := jix (f := σ 63) (show (σ 55 19).toInt = (σ 55 19).toInt by omega); exact Or.inl ⟨by omega, by omega, (fun d => by unfold jDg at d; omega)⟩), (by have h9 := jz_0; omega)⟩⟩⟩ hP hS dX12_numberRead_131
       · have kc17 := jnlt c17 rfl jz_48
         refine lv_aload_n hx hb dX12_numberRead_36 rfl (lv_at hl 2 rfl) ?_
         exact by
          refine jcallV (As := []) (rest := []) ⟨hx, hb, hml, hown, hts⟩ hK hP hA hS hZ (c_X12_byteAt_t l D cI cL ad zz hJ σ τ hI121 (by omega)) cw_RX12_189 (jc_55 cI cL ad σ τ) rfl ⟨Nat.le_of_ble_eq_true rfl, Nat.le_of_ble_eq_true rfl⟩ rfl rfl rfl hl.1 rfl (Nat.le_of_ble_eq_true rfl) dX12_numberRead_37 ⟨Nat.zero_le _, Nat.zero_le _⟩ (fun r41 σ40 τ40 H locs h40 hP hS => ?_)
          obtain ⟨⟨rfl, rfl⟩, h40⟩ := h40
          rcases h40 with h42 | h43
          · obtain ⟨q45, k44⟩ := h42
            have q46 : r41 = (σ 63 (σ 55 19).toNatClampNeg) := q45.trans rfl
            have q46 := q46.symm
            subst q46
            refine lv_bipush (v := 57) hx hb dX12_numberRead_40 (of_decide_eq_true rfl) ?_
            refine lv_icmp_gt (tgt := 73) hx hb dX12_numberRead_42 (of_decide_eq_true rfl) (fun c47 => ?_) (fun c47 => ?_)
            · have kc47 := jlt c47 jz_57 rfl
              refine lv_aload_n hx hb dX12_numberRead_73 rfl (lv_at hl 2 rfl) ?_
              refine va_get (D := D) hx hb hts inlX12 hown hK hP 55 (jc_55 cI cL ad σ τ) rfl 21 (of_decide_eq_true rfl) (hts _ kw_15_13) (fun _ h9 => h9) rfl dX12_numberRead_74 ?_
              exact by
               refine lv_if_ge (tgt := 113) hx hb dX12_numberRead_77 (of_decide_eq_true rfl) (fun c => absurd (jle c jz_0 rfl) (by omega)) (fun c48 => ?_)
               have kc48 := jnle c48 jz_0 rfl
               refine lv_aload_n hx hb dX12_numberRead_80 rfl (lv_at hl 2 rfl) ?_
               refine va_get (D := D) hx hb hts inlX12 hown hK hP 55 (jc_55 cI cL ad σ τ) rfl 19 (of_decide_eq_true rfl) (hts _ kw_15_11) (fun _ h9 => h9) rfl dX12_numberRead_81 ?_
               refine lv_iload hx hb dX12_numberRead_84 (lv_at hl 1 rfl) ?_
               refine lv_icmp_le (tgt := 113) hx hb dX12_numberRead_86 (of_decide_eq_true rfl) (fun c49 => ?_) (fun c => absurd (jnle c rfl rfl) (by omega))
               have kc49 := jle c49 rfl rfl
               refine lv_aload_n hx hb dX12_numberRead_113 rfl (lv_at hl 2 rfl) ?_
               refine va_get (D := D) hx hb hts inlX12 hown hK hP 55 (jc_55 cI cL ad σ τ) rfl 19 (of_decide_eq_true rfl) (hts _ kw_15_11) (fun _ h9 => h9) rfl dX12_numberRead_114 ?_
               exact by
                refine lv_iload hx hb dX12_numberRead_117 (lv_at hl 1 rfl) ?_
                refine lv_icmp_ne (tgt := 129) hx hb dX12_numberRead_119 (of_decide_eq_true rfl) (fun c => absurd (jne c rfl rfl) (by omega)) (fun c50 => ?_)
                have kc50 := jeq c50 rfl rfl
                refine lv_aload_n hx hb dX12_numberRead_122 rfl (lv_at hl 2 rfl) ?_
                refine jcallV (As := []) (rest := []) ⟨hx, hb, hml, hown, hts⟩ hK hP hA hS hZ (c_X12_wrong l D cI cL ad zz hJ σ τ hI121) cw_RX12_214 (jc_55 cI cL ad σ τ) rfl ⟨Nat.le_of_ble_eq_true rfl, Nat.le_of_ble_eq_true rfl⟩ rfl rfl rfl hl.1 rfl (Nat.le_of_ble_eq_true rfl) dX12_numberRead_123 ⟨Nat.zero_le _, Nat.zero_le _⟩ (fun r52 σ51 τ51 H locs h51 hP hS => ?_)
                obtain ⟨rfl, f53, f54, I55, h51⟩ := h51
                obtain ⟨i57, i58, i59, i60, i61⟩ : ((-1) ≤ (σ51 55 18).toInt ∧ (σ51 55 18).toInt ≤ 80) ∧ (0 ≤ (σ51 55 19).toInt) ∧ ((σ51 55 19).toInt ≤ (σ51 55 20).toInt) ∧ ((σ51 55 20).toInt ≤ 80) ∧ ((-1) ≤ (σ51 55 21).toInt ∧ (σ51 55 21).toInt ≤ 80) := id I55
                have z62 : (σ51 55 18).toInt = (σ 55 18).toInt := (congrArg Int32.toInt (show σ51 55 18 = (σ 55 18) from (f54 18 (of_decide_eq_true rfl))))
                have z63 : (σ51 55 19).toInt = (σ 55 19).toInt := (congrArg Int32.toInt (show σ51 55 19 = (σ 55 19) from (f54 19 (of_decide_eq_true rfl))))
                exact by
                 have z64 : (σ51 55 20).toInt = (σ 55 20).toInt := (congrArg Int32.toInt (show σ51 55 20 = (σ 55 20) from (f54 20 (of_decide_eq_true rfl))))
                 obtain ⟨k65, k66, h51⟩ := h51
                 have h67 := h51
                 obtain ⟨q69, k68⟩ := h67
                 have q69 := q69.symm
                 subst q69
                 refine lv_goto (tgt := 131) hx hb dX12_numberRead_126 (of_decide_eq_true rfl) ?_
                 exact by exact hret 0 σ51 τ _ _ _ _ rfl ⟨rfl, (fun i hi => (f53 i hi)), (fun i hi => (f54 i (imp_219 i hi))), I55, ⟨trivial, (by have h9 := jz_0; omega), ⟨0, 0, (by have i0 := jix (f := σ 63) (show (σ 55 19).toInt = (σ 55 19).toInt by omega); exact Or.inl ⟨by omega, by omega, (fun d => by unfold jDg at d; omega)⟩), (by have h9 := jz_0; omega)⟩⟩⟩ hP hS dX12_numberRead_131
            · have kc47 := jnlt c47 jz_57 rfl
              refine lv_bipush (v := 10) hx hb dX12_numberRead_45 (of_decide_eq_true rfl) ?_
              refine lv_iload hx hb dX12_numberRead_47 (lv_at hl 0 rfl) ?_
              refine lv_imul hx hb dX12_numberRead_49 ?_
              refine jtopr (y := 0) (of_decide_eq_true rfl) ?_
              refine lv_aload_n hx hb dX12_numberRead_50 rfl (lv_at hl 2 rfl) ?_
              exact by
               refine jcallV (As := []) (rest := [.int 0]) ⟨hx, hb, hml, hown, hts⟩ hK hP hA hS hZ (c_X12_byteAt_t l D cI cL ad zz hJ σ τ hI121 (by omega)) cw_RX12_189 (jc_55 cI cL ad σ τ) rfl ⟨Nat.le_of_ble_eq_true rfl, Nat.le_of_ble_eq_true rfl⟩ rfl rfl rfl hl.1 rfl (Nat.le_of_ble_eq_true rfl) dX12_numberRead_51 ⟨Nat.zero_le _, Nat.zero_le _⟩ (fun r71 σ70 τ70 H locs h70 hP hS => ?_)
               obtain ⟨⟨rfl, rfl⟩, h70⟩ := h70
               rcases h70 with h72 | h73
               · obtain ⟨q75, k74⟩ := h72
                 have q76 : r71 = (σ 63 (σ 55 19).toNatClampNeg) := q75.trans rfl
                 have q76 := q76.symm
                 subst q76
                 refine lv_iadd hx hb dX12_numberRead_54 ?_
                 refine jtopr (y := (σ 63 (σ 55 19).toNatClampNeg)) (by rw [Int32.zero_add]) ?_
                 exact by
                  refine lv_bipush (v := 48) hx hb dX12_numberRead_55 (of_decide_eq_true rfl) ?_
                  have g77 := jrg (rfl : (σ 63 (σ 55 19).toNatClampNeg).toInt = (σ 63 (σ 55 19).toNatClampNeg).toInt)
                  refine lv_isub hx hb dX12_numberRead_57 ?_
                  refine lv_topi (fun x78 ex78 => ?_)
                  have tx78 : x78.toInt = (σ 63 (σ 55 19).toNatClampNeg).toInt - 48 := (jsub ex78 rfl jz_48 (by omega) (by omega)).trans (by omega)
                  refine lv_istore (lv' := [(5, .int x78), (4, .int (σ 55 19)), (0, .ref (ad 55)), (1, .int 3), (2, .int 0), (3, .int 999)]) hx hb dX12_numberRead_58 hl (of_decide_eq_true rfl) rfl (fun ls hl => ?_)
                  refine lv_aload_n hx hb dX12_numberRead_60 rfl (lv_at hl 2 rfl) ?_
                  refine lv_dup hx hb dX12_numberRead_61 rfl ?_
                  refine va_get (D := D) hx hb hts inlX12 hown hK hP 55 (jc_55 cI cL ad σ τ) rfl 19 (of_decide_eq_true rfl) (hts _ kw_15_11) (fun _ h9 => h9) rfl dX12_numberRead_62 ?_
                  exact by
                   refine lv_iconst (v := 1) hx hb dX12_numberRead_65 (of_decide_eq_true rfl) ?_
                   refine lv_iadd hx hb dX12_numberRead_66 ?_
                   refine lv_topi (fun x79 ex79 => ?_)
                   have tx79 : x79.toInt = (σ 55 19).toInt + 1 := (jadd ex79 rfl jz_1 (by omega) (by omega)).trans (by omega)
                   refine jput (ty := .int) hx hb hts inlX12 tyX12 tyX12_ok nmX12 hown hK hP hJ hA hS (jc_55 cI cL ad σ τ) rfl (k := 19) (of_decide_eq_true rfl) (Nat.le_of_ble_eq_true rfl) (jp_55_19 cI cL ad σ τ x79) (hts _ kw_15_11) (fun _ h9 => h9) rfl (by decide +kernel) rfl rfl dX12_numberRead_67 (fun σ80 H locs eσ80 hP hS => ?_)
                   refine lv_goto (tgt := 9) hx hb dX12_numberRead_70 (of_decide_eq_true rfl) ?_
                   refine lv_aload_n hx hb dX12_numberRead_9 rfl (lv_at hl 2 rfl) ?_
                   refine va_get (D := D) hx hb hts inlX12 hown hK hP 55 (jc_55 cI cL ad σ80 τ) rfl 21 (of_decide_eq_true rfl) (hts _ kw_15_13) (fun _ h9 => h9) rfl dX12_numberRead_10 ?_
                   have m81 : σ80 55 21 = (σ 55 21) := (jkp 21 eσ80 (of_decide_eq_true rfl))
                   exact by
                    refine jtopr m81 ?_
                    refine lv_if_ge (tgt := 73) hx hb dX12_numberRead_13 (of_decide_eq_true rfl) (fun c => absurd (jle c jz_0 rfl) (by omega)) (fun c82 => ?_)
                    have kc82 := jnle c82 jz_0 rfl
                    refine lv_aload_n hx hb dX12_numberRead_16 rfl (lv_at hl 2 rfl) ?_
                    refine va_get (D := D) hx hb hts inlX12 hown hK hP 55 (jc_55 cI cL ad σ80 τ) rfl 19 (of_decide_eq_true rfl) (hts _ kw_15_11) (fun _ h9 => h9) rfl dX12_numberRead_17 ?_
                    have m83 : σ80 55 19 = x79 := (jsp eσ80)
                    refine jtopr m83 ?_
                    refine lv_iload hx hb dX12_numberRead_20 (lv_at hl 1 rfl) ?_
                    refine lv_iload_n hx hb dX12_numberRead_22 rfl (lv_at hl 3 rfl) ?_
                    exact by
                     refine lv_iadd hx hb dX12_numberRead_23 ?_
                     refine lv_topi (fun x84 ex84 => ?_)
                     have tx84 : x84.toInt = (σ 55 19).toInt + 3 := (jadd ex84 rfl jz_3 (by omega) (by omega)).trans (by omega)
                     refine lv_icmp_ge (tgt := 73) hx hb dX12_numberRead_24 (of_decide_eq_true rfl) (fun c => absurd (jle c tx84 tx79) (by omega)) (fun c85 => ?_)
                     have kc85 := jnle c85 tx84 tx79
                     refine lv_aload_n hx hb dX12_numberRead_27 rfl (lv_at hl 2 rfl) ?_
                     have z86 : (σ80 55 18).toInt = (σ 55 18).toInt := (congrArg Int32.toInt (show σ80 55 18 = (σ 55 18) from (jkp 18 eσ80 (of_decide_eq_true rfl))))
                     have z87 : (σ80 55 19).toInt = (σ 55 19).toInt + 1 := ((congrArg Int32.toInt (show σ80 55 19 = x79 from m83)).trans tx79)
                     have z88 : (σ80 55 20).toInt = (σ 55 20).toInt := (congrArg Int32.toInt (show σ80 55 20 = (σ 55 20) from (jkp 20 eσ80 (of_decide_eq_true rfl))))
                     exact by
                      have z89 : (σ80 55 21).toInt = (σ 55 21).toInt := (congrArg Int32.toInt (show σ80 55 21 = (σ 55 21) from m81))
                      have I90 : jI121 σ80 := ⟨(by omega), (by omega), (by omega), (by omega), (by omega)⟩
                      refine jcallV (As := []) (rest := []) ⟨hx, hb, hml, hown, hts⟩ hK hP hA hS hZ (c_X12_byteAt_t l D cI cL ad zz hJ σ80 τ I90 (by omega)) cw_RX12_189 (jc_55 cI cL ad σ80 τ) rfl ⟨Nat.le_of_ble_eq_true rfl, Nat.le_of_ble_eq_true rfl⟩ rfl rfl rfl hl.1 rfl (Nat.le_of_ble_eq_true rfl) dX12_numberRead_28 ⟨Nat.zero_le _, Nat.zero_le _⟩ (fun r92 σ91 τ91 H locs h91 hP hS => ?_)
                      obtain ⟨⟨rfl, rfl⟩, h91⟩ := h91
                      rcases h91 with h93 | h94
                      · obtain ⟨q96, k95⟩ := h93
                        have q97 : r92 = (σ 63 x79.toNatClampNeg) := q96.trans (by rw [(show σ80 55 19 = x79 from m83), jnp 63 eσ80 (of_decide_eq_true rfl)])
                        have q97e : (σ80 63 (σ80 55 19).toNatClampNeg).toInt = (σ 63 x79.toNatClampNeg).toInt := by rw [← q96, ← q97]
                        have q97 := q97.symm
                        exact by
                         subst q97
                         refine lv_bipush (v := 48) hx hb dX12_numberRead_31 (of_decide_eq_true rfl) ?_
                         refine lv_icmp_lt (tgt := 73) hx hb dX12_numberRead_33 (of_decide_eq_true rfl) (fun c98 => ?_) (fun c98 => ?_)
                         · have kc98 := jlt c98 rfl jz_48
                           refine lv_aload_n hx hb dX12_numberRead_73 rfl (lv_at hl 2 rfl) ?_
                           refine va_get (D := D) hx hb hts inlX12 hown hK hP 55 (jc_55 cI cL ad σ80 τ) rfl 21 (of_decide_eq_true rfl) (hts _ kw_15_13) (fun _ h9 => h9) rfl dX12_numberRead_74 ?_
                           refine jtopr m81 ?_
                           refine lv_if_ge (tgt := 113) hx hb dX12_numberRead_77 (of_decide_eq_true rfl) (fun c => absurd (jle c jz_0 rfl) (by omega)) (fun c99 => ?_)
                           have kc99 := jnle c99 jz_0 rfl
                           exact by
                            refine lv_aload_n hx hb dX12_numberRead_80 rfl (lv_at hl 2 rfl) ?_
                            refine va_get (D := D) hx hb hts inlX12 hown hK hP 55 (jc_55 cI cL ad σ80 τ) rfl 19 (of_decide_eq_true rfl) (hts _ kw_15_11) (fun _ h9 => h9) rfl dX12_numberRead_81 ?_
                            refine jtopr m83 ?_
                            refine lv_iload hx hb dX12_numberRead_84 (lv_at hl 1 rfl) ?_
                            refine lv_icmp_le (tgt := 113) hx hb dX12_numberRead_86 (of_decide_eq_true rfl) (fun c => absurd (jle c tx79 rfl) (by omega)) (fun c100 => ?_)
                            have kc100 := jnle c100 tx79 rfl
                            refine lv_iload hx hb dX12_numberRead_89 (lv_at hl 0 rfl) ?_
                            refine lv_i2l (v := x78.toInt64) hx hb dX12_numberRead_91 rfl ?_
                            refine lv_iload_n hx hb dX12_numberRead_92 rfl (lv_at hl 4 rfl) ?_
                            exact by
                             refine lv_i2l (v := 0) hx hb dX12_numberRead_93 (of_decide_eq_true rfl) ?_
                             refine lv_iload_n hx hb dX12_numberRead_94 rfl (lv_at hl 5 rfl) ?_
                             refine lv_i2l (v := 999) hx hb dX12_numberRead_95 (of_decide_eq_true rfl) ?_
                             refine jcallS (As := [.long x78.toInt64, .long 0, .long 999]) (rest := []) ⟨hx, hb, hml, hown, hts⟩ hK hP hA hS hZ (c_X12_within l D cI cL ad zz hJ σ80 τ x78.toInt64 ((σ 63 (σ 55 19).toNatClampNeg).toInt - 48) (jtoL tx78) 0 (0) jzl_0 999 (999) jzl_999) cw_RX12_136 ⟨Nat.le_of_ble_eq_true rfl, Nat.le_of_ble_eq_true rfl⟩ rfl rfl rfl hl.1 rfl (Nat.le_of_ble_eq_true rfl) dX12_numberRead_96 ⟨Nat.zero_le _, Nat.zero_le _⟩ (fun r102 σ101 τ101 H locs h101 hP hS => ?_)
                             obtain ⟨⟨rfl, rfl⟩, h101⟩ := h101
                             rcases h101 with h103 | h104
                             · obtain ⟨q106, k105⟩ := h103
                               have q106 := q106.symm
                               subst q106
                               refine lv_if_ne (tgt := 113) hx hb dX12_numberRead_99 (of_decide_eq_true rfl) (fun _ => ?_) (fun c => absurd c (of_decide_eq_true rfl))
                               refine lv_aload_n hx hb dX12_numberRead_113 rfl (lv_at hl 2 rfl) ?_
                               refine va_get (D := D) hx hb hts inlX12 hown hK hP 55 (jc_55 cI cL ad σ80 τ) rfl 19 (of_decide_eq_true rfl) (hts _ kw_15_11) (fun _ h9 => h9) rfl dX12_numberRead_114 ?_
                               refine jtopr m83 ?_
                               refine lv_iload hx hb dX12_numberRead_117 (lv_at hl 1 rfl) ?_
                               exact by
                                refine lv_icmp_ne (tgt := 129) hx hb dX12_numberRead_119 (of_decide_eq_true rfl) (fun c107 => ?_) (fun c => absurd (jeq c tx79 rfl) (by omega))
                                have kc107 := jne c107 tx79 rfl
                                refine lv_iload hx hb dX12_numberRead_129 (lv_at hl 0 rfl) ?_
                                exact by exact hret x78 σ80 τ _ _ _ _ rfl ⟨rfl, (fun i hi => (jnp i eσ80 (imp_165 i hi))), (fun i hi => (jkp i eσ80 (imp_220 i hi))), I90, ⟨trivial, (by have h9 := tx78; omega), ⟨1, x78.toInt, (by have i0 := jix (f := σ 63) (show (σ 55 19).toInt = (σ 55 19).toInt by omega); have p1 := tx79; have i1 := jix (f := σ 63) (show x79.toInt = (σ 55 19).toInt + 1 by omega); exact Or.inr (Or.inl ⟨by omega, ⟨by omega, by omega, by omega⟩, (fun d => by unfold jDg at d; omega), by omega⟩)), (by have h9 := tx78; omega)⟩⟩⟩ hP hS dX12_numberRead_131
                             · obtain ⟨q109, k108⟩ := h104
                               exact absurd (by omega : False) id
                         · have kc98 := jnlt c98 rfl jz_48
                           refine lv_aload_n hx hb dX12_numberRead_36 rfl (lv_at hl 2 rfl) ?_
                           refine jcallV (As := []) (rest := []) ⟨hx, hb, hml, hown, hts⟩ hK hP hA hS hZ (c_X12_byteAt_t l D cI cL ad zz hJ σ80 τ I90 (by omega)) cw_RX12_189 (jc_55 cI cL ad σ80 τ) rfl ⟨Nat.le_of_ble_eq_true rfl, Nat.le_of_ble_eq_true rfl⟩ rfl rfl rfl hl.1 rfl (Nat.le_of_ble_eq_true rfl) dX12_numberRead_37 ⟨Nat.zero_le _, Nat.zero_le _⟩ (fun r111 σ110 τ110 H locs h110 hP hS => ?_)
                           exact by
                            obtain ⟨⟨rfl, rfl⟩, h110⟩ := h110
                            rcases h110 with h112 | h113
                            · obtain ⟨q115, k114⟩ := h112
                              have q116 : r111 = (σ 63 x79.toNatClampNeg) := q115.trans (by rw [(show σ80 55 19 = x79 from m83), jnp 63 eσ80 (of_decide_eq_true rfl)])
                              have q116e : (σ80 63 (σ80 55 19).toNatClampNeg).toInt = (σ 63 x79.toNatClampNeg).toInt := by rw [← q115, ← q116]
                              have q116 := q116.symm
                              subst q116
                              refine lv_bipush (v := 57) hx hb dX12_numberRead_40 (of_decide_eq_true rfl) ?_
                              refine lv_icmp_gt (tgt := 73) hx hb dX12_numberRead_42 (of_decide_eq_true rfl) (fun c117 => ?_) (fun c117 => ?_)
                              · exact by
                                 have kc117 := jlt c117 jz_57 rfl
                                 refine lv_aload_n hx hb dX12_numberRead_73 rfl (lv_at hl 2 rfl) ?_
                                 refine va_get (D := D) hx hb hts inlX12 hown hK hP 55 (jc_55 cI cL ad σ80 τ) rfl 21 (of_decide_eq_true rfl) (hts _ kw_15_13) (fun _ h9 => h9) rfl dX12_numberRead_74 ?_
                                 refine jtopr m81 ?_
                                 refine lv_if_ge (tgt := 113) hx hb dX12_numberRead_77 (of_decide_eq_true rfl) (fun c => absurd (jle c jz_0 rfl) (by omega)) (fun c118 => ?_)
                                 have kc118 := jnle c118 jz_0 rfl
                                 refine lv_aload_n hx hb dX12_numberRead_80 rfl (lv_at hl 2 rfl) ?_
                                 refine va_get (D := D) hx hb hts inlX12 hown hK hP 55 (jc_55 cI cL ad σ80 τ) rfl 19 (of_decide_eq_true rfl) (hts _ kw_15_11) (fun _ h9 => h9) rfl dX12_numberRead_81 ?_
                                 refine jtopr m83 ?_
                                 exact by
                                  refine lv_iload hx hb dX12_numberRead_84 (lv_at hl 1 rfl) ?_
                                  refine lv_icmp_le (tgt := 113) hx hb dX12_numberRead_86 (of_decide_eq_true rfl) (fun c => absurd (jle c tx79 rfl) (by omega)) (fun c119 => ?_)
                                  have kc119 := jnle c119 tx79 rfl
                                  refine lv_iload hx hb dX12_numberRead_89 (lv_at hl 0 rfl) ?_
                                  refine lv_i2l (v := x78.toInt64) hx hb dX12_numberRead_91 rfl ?_
                                  refine lv_iload_n hx hb dX12_numberRead_92 rfl (lv_at hl 4 rfl) ?_
                                  refine lv_i2l (v := 0) hx hb dX12_numberRead_93 (of_decide_eq_true rfl) ?_
                                  refine lv_iload_n hx hb dX12_numberRead_94 rfl (lv_at hl 5 rfl) ?_
                                  refine lv_i2l (v := 999) hx hb dX12_numberRead_95 (of_decide_eq_true rfl) ?_
                                  exact by
                                   refine jcallS (As := [.long x78.toInt64, .long 0, .long 999]) (rest := []) ⟨hx, hb, hml, hown, hts⟩ hK hP hA hS hZ (c_X12_within l D cI cL ad zz hJ σ80 τ x78.toInt64 ((σ 63 (σ 55 19).toNatClampNeg).toInt - 48) (jtoL tx78) 0 (0) jzl_0 999 (999) jzl_999) cw_RX12_136 ⟨Nat.le_of_ble_eq_true rfl, Nat.le_of_ble_eq_true rfl⟩ rfl rfl rfl hl.1 rfl (Nat.le_of_ble_eq_true rfl) dX12_numberRead_96 ⟨Nat.zero_le _, Nat.zero_le _⟩ (fun r121 σ120 τ120 H locs h120 hP hS => ?_)
                                   obtain ⟨⟨rfl, rfl⟩, h120⟩ := h120
                                   rcases h120 with h122 | h123
                                   · obtain ⟨q125, k124⟩ := h122
                                     have q125 := q125.symm
                                     subst q125
                                     refine lv_if_ne (tgt := 113) hx hb dX12_numberRead_99 (of_decide_eq_true rfl) (fun _ => ?_) (fun c => absurd c (of_decide_eq_true rfl))
                                     refine lv_aload_n hx hb dX12_numberRead_113 rfl (lv_at hl 2 rfl) ?_
                                     refine va_get (D := D) hx hb hts inlX12 hown hK hP 55 (jc_55 cI cL ad σ80 τ) rfl 19 (of_decide_eq_true rfl) (hts _ kw_15_11) (fun _ h9 => h9) rfl dX12_numberRead_114 ?_
                                     refine jtopr m83 ?_
                                     refine lv_iload hx hb dX12_numberRead_117 (lv_at hl 1 rfl) ?_
                                     exact by
                                      refine lv_icmp_ne (tgt := 129) hx hb dX12_numberRead_119 (of_decide_eq_true rfl) (fun c126 => ?_) (fun c => absurd (jeq c tx79 rfl) (by omega))
                                      have kc126 := jne c126 tx79 rfl
                                      refine lv_iload hx hb dX12_numberRead_129 (lv_at hl 0 rfl) ?_
                                      exact by exact hret x78 σ80 τ _ _ _ _ rfl ⟨rfl, (fun i hi => (jnp i eσ80 (imp_165 i hi))), (fun i hi => (jkp i eσ80 (imp_220 i hi))), I90, ⟨trivial, (by have h9 := tx78; omega), ⟨1, x78.toInt, (by have i0 := jix (f := σ 63) (show (σ 55 19).toInt = (σ 55 19).toInt by omega); have p1 := tx79; have i1 := jix (f := σ 63) (show x79.toInt = (σ 55 19).toInt + 1 by omega); exact Or.inr (Or.inl ⟨by omega, ⟨by omega, by omega, by omega⟩, (fun d => by unfold jDg at d; omega), by omega⟩)), (by have h9 := tx78; omega)⟩⟩⟩ hP hS dX12_numberRead_131
                                   · obtain ⟨q128, k127⟩ := h123
                                     exact absurd (by omega : False) id
                              · have kc117 := jnlt c117 jz_57 rfl
                                refine lv_bipush (v := 10) hx hb dX12_numberRead_45 (of_decide_eq_true rfl) ?_
                                refine lv_iload hx hb dX12_numberRead_47 (lv_at hl 0 rfl) ?_
                                refine lv_imul hx hb dX12_numberRead_49 ?_
                                refine lv_topi (fun x129 ex129 => ?_)
                                exact by
                                 have tx129 : x129.toInt = 10 * (σ 63 (σ 55 19).toNatClampNeg).toInt - 480 := (jmul ex129 jz_10 tx78 (by omega) (by omega)).trans (by omega)
                                 refine lv_aload_n hx hb dX12_numberRead_50 rfl (lv_at hl 2 rfl) ?_
                                 refine jcallV (As := []) (rest := [.int x129]) ⟨hx, hb, hml, hown, hts⟩ hK hP hA hS hZ (c_X12_byteAt_t l D cI cL ad zz hJ σ80 τ I90 (by omega)) cw_RX12_189 (jc_55 cI cL ad σ80 τ) rfl ⟨Nat.le_of_ble_eq_true rfl, Nat.le_of_ble_eq_true rfl⟩ rfl rfl rfl hl.1 rfl (Nat.le_of_ble_eq_true rfl) dX12_numberRead_51 ⟨Nat.zero_le _, Nat.zero_le _⟩ (fun r131 σ130 τ130 H locs h130 hP hS => ?_)
                                 obtain ⟨⟨rfl, rfl⟩, h130⟩ := h130
                                 rcases h130 with h132 | h133
                                 · obtain ⟨q135, k134⟩ := h132
                                   have q136 : r131 = (σ 63 x79.toNatClampNeg) := q135.trans (by rw [(show σ80 55 19 = x79 from m83), jnp 63 eσ80 (of_decide_eq_true rfl)])
                                   have q136e : (σ80 63 (σ80 55 19).toNatClampNeg).toInt = (σ 63 x79.toNatClampNeg).toInt := by rw [← q135, ← q136]
                                   have q136 := q136.symm
                                   exact by
                                    subst q136
                                    have g137 := jrg (rfl : (σ 63 x79.toNatClampNeg).toInt = (σ 63 x79.toNatClampNeg).toInt)
                                    refine lv_iadd hx hb dX12_numberRead_54 ?_
                                    refine lv_topi (fun x138 ex138 => ?_)
                                    have tx138 : x138.toInt = 10 * (σ 63 (σ 55 19).toNatClampNeg).toInt + (σ 63 x79.toNatClampNeg).toInt - 480 := (jadd ex138 tx129 rfl (by omega) (by omega)).trans (by omega)
                                    refine lv_bipush (v := 48) hx hb dX12_numberRead_55 (of_decide_eq_true rfl) ?_
                                    refine lv_isub hx hb dX12_numberRead_57 ?_
                                    refine lv_topi (fun x139 ex139 => ?_)
                                    have tx139 : x139.toInt = 10 * (σ 63 (σ 55 19).toNatClampNeg).toInt + (σ 63 x79.toNatClampNeg).toInt - 528 := (jsub ex139 tx138 jz_48 (by omega) (by omega)).trans (by omega)
                                    exact by
                                     refine lv_istore (lv' := [(5, .int x139), (4, .int (σ 55 19)), (0, .ref (ad 55)), (1, .int 3), (2, .int 0), (3, .int 999)]) hx hb dX12_numberRead_58 hl (of_decide_eq_true rfl) rfl (fun ls hl => ?_)
                                     refine lv_aload_n hx hb dX12_numberRead_60 rfl (lv_at hl 2 rfl) ?_
                                     refine lv_dup hx hb dX12_numberRead_61 rfl ?_
                                     refine va_get (D := D) hx hb hts inlX12 hown hK hP 55 (jc_55 cI cL ad σ80 τ) rfl 19 (of_decide_eq_true rfl) (hts _ kw_15_11) (fun _ h9 => h9) rfl dX12_numberRead_62 ?_
                                     refine jtopr m83 ?_
                                     refine lv_iconst (v := 1) hx hb dX12_numberRead_65 (of_decide_eq_true rfl) ?_
                                     refine lv_iadd hx hb dX12_numberRead_66 ?_
                                     refine lv_topi (fun x140 ex140 => ?_)
                                     have tx140 : x140.toInt = (σ 55 19).toInt + 2 := (jadd ex140 tx79 jz_1 (by omega) (by omega)).trans (by omega)
                                     exact by
                                      refine jput (ty := .int) hx hb hts inlX12 tyX12 tyX12_ok nmX12 hown hK hP hJ hA hS (jc_55 cI cL ad σ80 τ) rfl (k := 19) (of_decide_eq_true rfl) (Nat.le_of_ble_eq_true rfl) (jp_55_19 cI cL ad σ80 τ x140) (hts _ kw_15_11) (fun _ h9 => h9) rfl (by decide +kernel) rfl rfl dX12_numberRead_67 (fun σ141 H locs eσ141 hP hS => ?_)
                                      refine lv_goto (tgt := 9) hx hb dX12_numberRead_70 (of_decide_eq_true rfl) ?_
                                      refine lv_aload_n hx hb dX12_numberRead_9 rfl (lv_at hl 2 rfl) ?_
                                      refine va_get (D := D) hx hb hts inlX12 hown hK hP 55 (jc_55 cI cL ad σ141 τ) rfl 21 (of_decide_eq_true rfl) (hts _ kw_15_13) (fun _ h9 => h9) rfl dX12_numberRead_10 ?_
                                      have m142 : σ141 55 21 = (σ 55 21) := ((jkp 21 eσ141 (of_decide_eq_true rfl)).trans m81)
                                      refine jtopr m142 ?_
                                      refine lv_if_ge (tgt := 73) hx hb dX12_numberRead_13 (of_decide_eq_true rfl) (fun c => absurd (jle c jz_0 rfl) (by omega)) (fun c143 => ?_)
                                      have kc143 := jnle c143 jz_0 rfl
                                      refine lv_aload_n hx hb dX12_numberRead_16 rfl (lv_at hl 2 rfl) ?_
                                      exact by
                                       refine va_get (D := D) hx hb hts inlX12 hown hK hP 55 (jc_55 cI cL ad σ141 τ) rfl 19 (of_decide_eq_true rfl) (hts _ kw_15_11) (fun _ h9 => h9) rfl dX12_numberRead_17 ?_
                                       have m144 : σ141 55 19 = x140 := (jsp eσ141)
                                       refine jtopr m144 ?_
                                       refine lv_iload hx hb dX12_numberRead_20 (lv_at hl 1 rfl) ?_
                                       refine lv_iload_n hx hb dX12_numberRead_22 rfl (lv_at hl 3 rfl) ?_
                                       refine lv_iadd hx hb dX12_numberRead_23 ?_
                                       refine lv_topi (fun x145 ex145 => ?_)
                                       have tx145 : x145.toInt = (σ 55 19).toInt + 3 := (jadd ex145 rfl jz_3 (by omega) (by omega)).trans (by omega)
                                       refine lv_icmp_ge (tgt := 73) hx hb dX12_numberRead_24 (of_decide_eq_true rfl) (fun c => absurd (jle c tx145 tx140) (by omega)) (fun c146 => ?_)
                                       exact by
                                        have kc146 := jnle c146 tx145 tx140
                                        refine lv_aload_n hx hb dX12_numberRead_27 rfl (lv_at hl 2 rfl) ?_
                                        have z147 : (σ141 55 18).toInt = (σ 55 18).toInt := (congrArg Int32.toInt (show σ141 55 18 = (σ 55 18) from ((jkp 18 eσ141 (of_decide_eq_true rfl)).trans (jkp 18 eσ80 (of_decide_eq_true rfl)))))
                                        have z148 : (σ141 55 19).toInt = (σ 55 19).toInt + 2 := ((congrArg Int32.toInt (show σ141 55 19 = x140 from m144)).trans tx140)
                                        have z149 : (σ141 55 20).toInt = (σ 55 20).toInt := (congrArg Int32.toInt (show σ141 55 20 = (σ 55 20) from ((jkp 20 eσ141 (of_decide_eq_true rfl)).trans (jkp 20 eσ80 (of_decide_eq_true rfl)))))
                                        have z150 : (σ141 55 21).toInt = (σ 55 21).toInt := (congrArg Int32.toInt (show σ141 55 21 = (σ 55 21) from m142))
                                        have I151 : jI121 σ141 := ⟨(by omega), (by omega), (by omega), (by omega), (by omega)⟩
                                        refine jcallV (As := []) (rest := []) ⟨hx, hb, hml, hown, hts⟩ hK hP hA hS hZ (c_X12_byteAt_t l D cI cL ad zz hJ σ141 τ I151 (by omega)) cw_RX12_189 (jc_55 cI cL ad σ141 τ) rfl ⟨Nat.le_of_ble_eq_true rfl, Nat.le_of_ble_eq_true rfl⟩ rfl rfl rfl hl.1 rfl (Nat.le_of_ble_eq_true rfl) dX12_numberRead_28 ⟨Nat.zero_le _, Nat.zero_le _⟩ (fun r153 σ152 τ152 H locs h152 hP hS => ?_)
                                        obtain ⟨⟨rfl, rfl⟩, h152⟩ := h152
                                        exact by
                                         rcases h152 with h154 | h155
                                         · obtain ⟨q157, k156⟩ := h154
                                           have q158 : r153 = (σ 63 x140.toNatClampNeg) := q157.trans (by rw [(show σ141 55 19 = x140 from m144), jnp 63 eσ141 (of_decide_eq_true rfl), jnp 63 eσ80 (of_decide_eq_true rfl)])
                                           have q158e : (σ141 63 (σ141 55 19).toNatClampNeg).toInt = (σ 63 x140.toNatClampNeg).toInt := by rw [← q157, ← q158]
                                           have q158 := q158.symm
                                           subst q158
                                           refine lv_bipush (v := 48) hx hb dX12_numberRead_31 (of_decide_eq_true rfl) ?_
                                           refine lv_icmp_lt (tgt := 73) hx hb dX12_numberRead_33 (of_decide_eq_true rfl) (fun c159 => ?_) (fun c159 => ?_)
                                           · have kc159 := jlt c159 rfl jz_48
                                             exact by
                                              refine lv_aload_n hx hb dX12_numberRead_73 rfl (lv_at hl 2 rfl) ?_
                                              refine va_get (D := D) hx hb hts inlX12 hown hK hP 55 (jc_55 cI cL ad σ141 τ) rfl 21 (of_decide_eq_true rfl) (hts _ kw_15_13) (fun _ h9 => h9) rfl dX12_numberRead_74 ?_
                                              refine jtopr m142 ?_
                                              refine lv_if_ge (tgt := 113) hx hb dX12_numberRead_77 (of_decide_eq_true rfl) (fun c => absurd (jle c jz_0 rfl) (by omega)) (fun c160 => ?_)
                                              have kc160 := jnle c160 jz_0 rfl
                                              refine lv_aload_n hx hb dX12_numberRead_80 rfl (lv_at hl 2 rfl) ?_
                                              refine va_get (D := D) hx hb hts inlX12 hown hK hP 55 (jc_55 cI cL ad σ141 τ) rfl 19 (of_decide_eq_true rfl) (hts _ kw_15_11) (fun _ h9 => h9) rfl dX12_numberRead_81 ?_
                                              refine jtopr m144 ?_
                                              refine lv_iload hx hb dX12_numberRead_84 (lv_at hl 1 rfl) ?_
                                              exact by
                                               refine lv_icmp_le (tgt := 113) hx hb dX12_numberRead_86 (of_decide_eq_true rfl) (fun c => absurd (jle c tx140 rfl) (by omega)) (fun c161 => ?_)
                                               have kc161 := jnle c161 tx140 rfl
                                               refine lv_iload hx hb dX12_numberRead_89 (lv_at hl 0 rfl) ?_
                                               refine lv_i2l (v := x139.toInt64) hx hb dX12_numberRead_91 rfl ?_
                                               refine lv_iload_n hx hb dX12_numberRead_92 rfl (lv_at hl 4 rfl) ?_
                                               refine lv_i2l (v := 0) hx hb dX12_numberRead_93 (of_decide_eq_true rfl) ?_
                                               refine lv_iload_n hx hb dX12_numberRead_94 rfl (lv_at hl 5 rfl) ?_
                                               refine lv_i2l (v := 999) hx hb dX12_numberRead_95 (of_decide_eq_true rfl) ?_
                                               refine jcallS (As := [.long x139.toInt64, .long 0, .long 999]) (rest := []) ⟨hx, hb, hml, hown, hts⟩ hK hP hA hS hZ (c_X12_within l D cI cL ad zz hJ σ141 τ x139.toInt64 (10 * (σ 63 (σ 55 19).toNatClampNeg).toInt + (σ 63 x79.toNatClampNeg).toInt - 528) (jtoL tx139) 0 (0) jzl_0 999 (999) jzl_999) cw_RX12_136 ⟨Nat.le_of_ble_eq_true rfl, Nat.le_of_ble_eq_true rfl⟩ rfl rfl rfl hl.1 rfl (Nat.le_of_ble_eq_true rfl) dX12_numberRead_96 ⟨Nat.zero_le _, Nat.zero_le _⟩ (fun r163 σ162 τ162 H locs h162 hP hS => ?_)
                                               obtain ⟨⟨rfl, rfl⟩, h162⟩ := h162
                                               rcases h162 with h164 | h165
                                               · obtain ⟨q167, k166⟩ := h164
                                                 have q167 := q167.symm
                                                 subst q167
                                                 refine lv_if_ne (tgt := 113) hx hb dX12_numberRead_99 (of_decide_eq_true rfl) (fun _ => ?_) (fun c => absurd c (of_decide_eq_true rfl))
                                                 refine lv_aload_n hx hb dX12_numberRead_113 rfl (lv_at hl 2 rfl) ?_
                                                 refine va_get (D := D) hx hb hts inlX12 hown hK hP 55 (jc_55 cI cL ad σ141 τ) rfl 19 (of_decide_eq_true rfl) (hts _ kw_15_11) (fun _ h9 => h9) rfl dX12_numberRead_114 ?_
                                                 refine jtopr m144 ?_
                                                 refine lv_iload hx hb dX12_numberRead_117 (lv_at hl 1 rfl) ?_
                                                 exact by
                                                  refine lv_icmp_ne (tgt := 129) hx hb dX12_numberRead_119 (of_decide_eq_true rfl) (fun c168 => ?_) (fun c => absurd (jeq c tx140 rfl) (by omega))
                                                  have kc168 := jne c168 tx140 rfl
                                                  refine lv_iload hx hb dX12_numberRead_129 (lv_at hl 0 rfl) ?_
                                                  exact by exact hret x139 σ141 τ _ _ _ _ rfl ⟨rfl, (fun i hi => ((jnp i eσ141 (imp_165 i hi)).trans (jnp i eσ80 (imp_165 i hi)))), (fun i hi => ((jkp i eσ141 (imp_220 i hi)).trans (jkp i eσ80 (imp_220 i hi)))), I151, ⟨trivial, (by have h9 := tx139; omega), ⟨2, x139.toInt, (by have i0 := jix (f := σ 63) (show (σ 55 19).toInt = (σ 55 19).toInt by omega); have p1 := tx140; have i1 := jix (f := σ 63) (show x140.toInt = (σ 55 19).toInt + 2 by omega); have p2 := tx79; have i2 := jix (f := σ 63) (show x79.toInt = (σ 55 19).toInt + 1 by omega); exact Or.inr (Or.inr (Or.inl ⟨by omega, ⟨by omega, by omega, by omega⟩, ⟨by omega, by omega, by omega⟩, Or.inr (fun d => by unfold jDg at d; omega), by omega⟩))), (by have h9 := tx139; omega)⟩⟩⟩ hP hS dX12_numberRead_131
                                               · obtain ⟨q170, k169⟩ := h165
                                                 exact absurd (by omega : False) id
                                           · have kc159 := jnlt c159 rfl jz_48
                                             refine lv_aload_n hx hb dX12_numberRead_36 rfl (lv_at hl 2 rfl) ?_
                                             refine jcallV (As := []) (rest := []) ⟨hx, hb, hml, hown, hts⟩ hK hP hA hS hZ (c_X12_byteAt_t l D cI cL ad zz hJ σ141 τ I151 (by omega)) cw_RX12_189 (jc_55 cI cL ad σ141 τ) rfl ⟨Nat.le_of_ble_eq_true rfl, Nat.le_of_ble_eq_true rfl⟩ rfl rfl rfl hl.1 rfl (Nat.le_of_ble_eq_true rfl) dX12_numberRead_37 ⟨Nat.zero_le _, Nat.zero_le _⟩ (fun r172 σ171 τ171 H locs h171 hP hS => ?_)
                                             exact by
                                              obtain ⟨⟨rfl, rfl⟩, h171⟩ := h171
                                              rcases h171 with h173 | h174
                                              · obtain ⟨q176, k175⟩ := h173
                                                have q177 : r172 = (σ 63 x140.toNatClampNeg) := q176.trans (by rw [(show σ141 55 19 = x140 from m144), jnp 63 eσ141 (of_decide_eq_true rfl), jnp 63 eσ80 (of_decide_eq_true rfl)])
                                                have q177e : (σ141 63 (σ141 55 19).toNatClampNeg).toInt = (σ 63 x140.toNatClampNeg).toInt := by rw [← q176, ← q177]
                                                have q177 := q177.symm
                                                subst q177
                                                refine lv_bipush (v := 57) hx hb dX12_numberRead_40 (of_decide_eq_true rfl) ?_
                                                refine lv_icmp_gt (tgt := 73) hx hb dX12_numberRead_42 (of_decide_eq_true rfl) (fun c178 => ?_) (fun c178 => ?_)
                                                · exact by
                                                   have kc178 := jlt c178 jz_57 rfl
                                                   refine lv_aload_n hx hb dX12_numberRead_73 rfl (lv_at hl 2 rfl) ?_
                                                   refine va_get (D := D) hx hb hts inlX12 hown hK hP 55 (jc_55 cI cL ad σ141 τ) rfl 21 (of_decide_eq_true rfl) (hts _ kw_15_13) (fun _ h9 => h9) rfl dX12_numberRead_74 ?_
                                                   refine jtopr m142 ?_
                                                   refine lv_if_ge (tgt := 113) hx hb dX12_numberRead_77 (of_decide_eq_true rfl) (fun c => absurd (jle c jz_0 rfl) (by omega)) (fun c179 => ?_)
                                                   have kc179 := jnle c179 jz_0 rfl
                                                   refine lv_aload_n hx hb dX12_numberRead_80 rfl (lv_at hl 2 rfl) ?_
                                                   refine va_get (D := D) hx hb hts inlX12 hown hK hP 55 (jc_55 cI cL ad σ141 τ) rfl 19 (of_decide_eq_true rfl) (hts _ kw_15_11) (fun _ h9 => h9) rfl dX12_numberRead_81 ?_
                                                   refine jtopr m144 ?_
                                                   exact by
                                                    refine lv_iload hx hb dX12_numberRead_84 (lv_at hl 1 rfl) ?_
                                                    refine lv_icmp_le (tgt := 113) hx hb dX12_numberRead_86 (of_decide_eq_true rfl) (fun c => absurd (jle c tx140 rfl) (by omega)) (fun c180 => ?_)
                                                    have kc180 := jnle c180 tx140 rfl
                                                    refine lv_iload hx hb dX12_numberRead_89 (lv_at hl 0 rfl) ?_
                                                    refine lv_i2l (v := x139.toInt64) hx hb dX12_numberRead_91 rfl ?_
                                                    refine lv_iload_n hx hb dX12_numberRead_92 rfl (lv_at hl 4 rfl) ?_
                                                    refine lv_i2l (v := 0) hx hb dX12_numberRead_93 (of_decide_eq_true rfl) ?_
                                                    refine lv_iload_n hx hb dX12_numberRead_94 rfl (lv_at hl 5 rfl) ?_
                                                    refine lv_i2l (v := 999) hx hb dX12_numberRead_95 (of_decide_eq_true rfl) ?_
                                                    exact by
                                                     refine jcallS (As := [.long x139.toInt64, .long 0, .long 999]) (rest := []) ⟨hx, hb, hml, hown, hts⟩ hK hP hA hS hZ (c_X12_within l D cI cL ad zz hJ σ141 τ x139.toInt64 (10 * (σ 63 (σ 55 19).toNatClampNeg).toInt + (σ 63 x79.toNatClampNeg).toInt - 528) (jtoL tx139) 0 (0) jzl_0 999 (999) jzl_999) cw_RX12_136 ⟨Nat.le_of_ble_eq_true rfl, Nat.le_of_ble_eq_true rfl⟩ rfl rfl rfl hl.1 rfl (Nat.le_of_ble_eq_true rfl) dX12_numberRead_96 ⟨Nat.zero_le _, Nat.zero_le _⟩ (fun r182 σ181 τ181 H locs h181 hP hS => ?_)
                                                     obtain ⟨⟨rfl, rfl⟩, h181⟩ := h181
                                                     rcases h181 with h183 | h184
                                                     · obtain ⟨q186, k185⟩ := h183
                                                       have q186 := q186.symm
                                                       subst q186
                                                       refine lv_if_ne (tgt := 113) hx hb dX12_numberRead_99 (of_decide_eq_true rfl) (fun _ => ?_) (fun c => absurd c (of_decide_eq_true rfl))
                                                       refine lv_aload_n hx hb dX12_numberRead_113 rfl (lv_at hl 2 rfl) ?_
                                                       refine va_get (D := D) hx hb hts inlX12 hown hK hP 55 (jc_55 cI cL ad σ141 τ) rfl 19 (of_decide_eq_true rfl) (hts _ kw_15_11) (fun _ h9 => h9) rfl dX12_numberRead_114 ?_
                                                       refine jtopr m144 ?_
                                                       refine lv_iload hx hb dX12_numberRead_117 (lv_at hl 1 rfl) ?_
                                                       exact by
                                                        refine lv_icmp_ne (tgt := 129) hx hb dX12_numberRead_119 (of_decide_eq_true rfl) (fun c187 => ?_) (fun c => absurd (jeq c tx140 rfl) (by omega))
                                                        have kc187 := jne c187 tx140 rfl
                                                        refine lv_iload hx hb dX12_numberRead_129 (lv_at hl 0 rfl) ?_
                                                        exact by exact hret x139 σ141 τ _ _ _ _ rfl ⟨rfl, (fun i hi => ((jnp i eσ141 (imp_165 i hi)).trans (jnp i eσ80 (imp_165 i hi)))), (fun i hi => ((jkp i eσ141 (imp_220 i hi)).trans (jkp i eσ80 (imp_220 i hi)))), I151, ⟨trivial, (by have h9 := tx139; omega), ⟨2, x139.toInt, (by have i0 := jix (f := σ 63) (show (σ 55 19).toInt = (σ 55 19).toInt by omega); have p1 := tx140; have i1 := jix (f := σ 63) (show x140.toInt = (σ 55 19).toInt + 2 by omega); have p2 := tx79; have i2 := jix (f := σ 63) (show x79.toInt = (σ 55 19).toInt + 1 by omega); exact Or.inr (Or.inr (Or.inl ⟨by omega, ⟨by omega, by omega, by omega⟩, ⟨by omega, by omega, by omega⟩, Or.inr (fun d => by unfold jDg at d; omega), by omega⟩))), (by have h9 := tx139; omega)⟩⟩⟩ hP hS dX12_numberRead_131
                                                     · obtain ⟨q189, k188⟩ := h184
                                                       exact absurd (by omega : False) id
                                                · have kc178 := jnlt c178 jz_57 rfl
                                                  refine lv_bipush (v := 10) hx hb dX12_numberRead_45 (of_decide_eq_true rfl) ?_
                                                  refine lv_iload hx hb dX12_numberRead_47 (lv_at hl 0 rfl) ?_
                                                  refine lv_imul hx hb dX12_numberRead_49 ?_
                                                  refine lv_topi (fun x190 ex190 => ?_)
                                                  exact by
                                                   have tx190 : x190.toInt = 100 * (σ 63 (σ 55 19).toNatClampNeg).toInt + 10 * (σ 63 x79.toNatClampNeg).toInt - 5280 := (jmul ex190 jz_10 tx139 (by omega) (by omega)).trans (by omega)
                                                   refine lv_aload_n hx hb dX12_numberRead_50 rfl (lv_at hl 2 rfl) ?_
                                                   refine jcallV (As := []) (rest := [.int x190]) ⟨hx, hb, hml, hown, hts⟩ hK hP hA hS hZ (c_X12_byteAt_t l D cI cL ad zz hJ σ141 τ I151 (by omega)) cw_RX12_189 (jc_55 cI cL ad σ141 τ) rfl ⟨Nat.le_of_ble_eq_true rfl, Nat.le_of_ble_eq_true rfl⟩ rfl rfl rfl hl.1 rfl (Nat.le_of_ble_eq_true rfl) dX12_numberRead_51 ⟨Nat.zero_le _, Nat.zero_le _⟩ (fun r192 σ191 τ191 H locs h191 hP hS => ?_)
                                                   obtain ⟨⟨rfl, rfl⟩, h191⟩ := h191
                                                   rcases h191 with h193 | h194
                                                   · obtain ⟨q196, k195⟩ := h193
                                                     have q197 : r192 = (σ 63 x140.toNatClampNeg) := q196.trans (by rw [(show σ141 55 19 = x140 from m144), jnp 63 eσ141 (of_decide_eq_true rfl), jnp 63 eσ80 (of_decide_eq_true rfl)])
                                                     have q197e : (σ141 63 (σ141 55 19).toNatClampNeg).toInt = (σ 63 x140.toNatClampNeg).toInt := by rw [← q196, ← q197]
                                                     have q197 := q197.symm
                                                     exact by
                                                      subst q197
                                                      have g198 := jrg (rfl : (σ 63 x140.toNatClampNeg).toInt = (σ 63 x140.toNatClampNeg).toInt)
                                                      refine lv_iadd hx hb dX12_numberRead_54 ?_
                                                      refine lv_topi (fun x199 ex199 => ?_)
                                                      have tx199 : x199.toInt = 100 * (σ 63 (σ 55 19).toNatClampNeg).toInt + 10 * (σ 63 x79.toNatClampNeg).toInt + (σ 63 x140.toNatClampNeg).toInt - 5280 := (jadd ex199 tx190 rfl (by omega) (by omega)).trans (by omega)
                                                      refine lv_bipush (v := 48) hx hb dX12_numberRead_55 (of_decide_eq_true rfl) ?_
                                                      refine lv_isub hx hb dX12_numberRead_57 ?_
                                                      refine lv_topi (fun x200 ex200 => ?_)
                                                      have tx200 : x200.toInt = 100 * (σ 63 (σ 55 19).toNatClampNeg).toInt + 10 * (σ 63 x79.toNatClampNeg).toInt + (σ 63 x140.toNatClampNeg).toInt - 5328 := (jsub ex200 tx199 jz_48 (by omega) (by omega)).trans (by omega)
                                                      exact by
                                                       refine lv_istore (lv' := [(5, .int x200), (4, .int (σ 55 19)), (0, .ref (ad 55)), (1, .int 3), (2, .int 0), (3, .int 999)]) hx hb dX12_numberRead_58 hl (of_decide_eq_true rfl) rfl (fun ls hl => ?_)
                                                       refine lv_aload_n hx hb dX12_numberRead_60 rfl (lv_at hl 2 rfl) ?_
                                                       refine lv_dup hx hb dX12_numberRead_61 rfl ?_
                                                       refine va_get (D := D) hx hb hts inlX12 hown hK hP 55 (jc_55 cI cL ad σ141 τ) rfl 19 (of_decide_eq_true rfl) (hts _ kw_15_11) (fun _ h9 => h9) rfl dX12_numberRead_62 ?_
                                                       refine jtopr m144 ?_
                                                       refine lv_iconst (v := 1) hx hb dX12_numberRead_65 (of_decide_eq_true rfl) ?_
                                                       refine lv_iadd hx hb dX12_numberRead_66 ?_
                                                       refine lv_topi (fun x201 ex201 => ?_)
                                                       have tx201 : x201.toInt = (σ 55 19).toInt + 3 := (jadd ex201 tx140 jz_1 (by omega) (by omega)).trans (by omega)
                                                       exact by
                                                        refine jput (ty := .int) hx hb hts inlX12 tyX12 tyX12_ok nmX12 hown hK hP hJ hA hS (jc_55 cI cL ad σ141 τ) rfl (k := 19) (of_decide_eq_true rfl) (Nat.le_of_ble_eq_true rfl) (jp_55_19 cI cL ad σ141 τ x201) (hts _ kw_15_11) (fun _ h9 => h9) rfl (by decide +kernel) rfl rfl dX12_numberRead_67 (fun σ202 H locs eσ202 hP hS => ?_)
                                                        refine lv_goto (tgt := 9) hx hb dX12_numberRead_70 (of_decide_eq_true rfl) ?_
                                                        refine lv_aload_n hx hb dX12_numberRead_9 rfl (lv_at hl 2 rfl) ?_
                                                        refine va_get (D := D) hx hb hts inlX12 hown hK hP 55 (jc_55 cI cL ad σ202 τ) rfl 21 (of_decide_eq_true rfl) (hts _ kw_15_13) (fun _ h9 => h9) rfl dX12_numberRead_10 ?_
                                                        have m203 : σ202 55 21 = (σ 55 21) := ((jkp 21 eσ202 (of_decide_eq_true rfl)).trans m142)
                                                        refine jtopr m203 ?_
                                                        refine lv_if_ge (tgt := 73) hx hb dX12_numberRead_13 (of_decide_eq_true rfl) (fun c => absurd (jle c jz_0 rfl) (by omega)) (fun c204 => ?_)
                                                        have kc204 := jnle c204 jz_0 rfl
                                                        refine lv_aload_n hx hb dX12_numberRead_16 rfl (lv_at hl 2 rfl) ?_
                                                        exact by
                                                         refine va_get (D := D) hx hb hts inlX12 hown hK hP 55 (jc_55 cI cL ad σ202 τ) rfl 19 (of_decide_eq_true rfl) (hts _ kw_15_11) (fun _ h9 => h9) rfl dX12_numberRead_17 ?_
                                                         have m205 : σ202 55 19 = x201 := (jsp eσ202)
                                                         refine jtopr m205 ?_
                                                         refine lv_iload hx hb dX12_numberRead_20 (lv_at hl 1 rfl) ?_
                                                         refine lv_iload_n hx hb dX12_numberRead_22 rfl (lv_at hl 3 rfl) ?_
                                                         refine lv_iadd hx hb dX12_numberRead_23 ?_
                                                         refine lv_topi (fun x206 ex206 => ?_)
                                                         have tx206 : x206.toInt = (σ 55 19).toInt + 3 := (jadd ex206 rfl jz_3 (by omega) (by omega)).trans (by omega)
                                                         refine lv_icmp_ge (tgt := 73) hx hb dX12_numberRead_24 (of_decide_eq_true rfl) (fun c207 => ?_) (fun c => absurd (jnle c tx206 tx201) (by omega))
                                                         exact by
                                                          have kc207 := jle c207 tx206 tx201
                                                          refine lv_aload_n hx hb dX12_numberRead_73 rfl (lv_at hl 2 rfl) ?_
                                                          refine va_get (D := D) hx hb hts inlX12 hown hK hP 55 (jc_55 cI cL ad σ202 τ) rfl 21 (of_decide_eq_true rfl) (hts _ kw_15_13) (fun _ h9 => h9) rfl dX12_numberRead_74 ?_
                                                          refine jtopr m203 ?_
                                                          refine lv_if_ge (tgt := 113) hx hb dX12_numberRead_77 (of_decide_eq_true rfl) (fun c => absurd (jle c jz_0 rfl) (by omega)) (fun c208 => ?_)
                                                          have kc208 := jnle c208 jz_0 rfl
                                                          refine lv_aload_n hx hb dX12_numberRead_80 rfl (lv_at hl 2 rfl) ?_
                                                          refine va_get (D := D) hx hb hts inlX12 hown hK hP 55 (jc_55 cI cL ad σ202 τ) rfl 19 (of_decide_eq_true rfl) (hts _ kw_15_11) (fun _ h9 => h9) rfl dX12_numberRead_81 ?_
                                                          refine jtopr m205 ?_
                                                          exact by
                                                           refine lv_iload hx hb dX12_numberRead_84 (lv_at hl 1 rfl) ?_
                                                           refine lv_icmp_le (tgt := 113) hx hb dX12_numberRead_86 (of_decide_eq_true rfl) (fun c => absurd (jle c tx201 rfl) (by omega)) (fun c209 => ?_)
                                                           have kc209 := jnle c209 tx201 rfl
                                                           refine lv_iload hx hb dX12_numberRead_89 (lv_at hl 0 rfl) ?_
                                                           refine lv_i2l (v := x200.toInt64) hx hb dX12_numberRead_91 rfl ?_
                                                           refine lv_iload_n hx hb dX12_numberRead_92 rfl (lv_at hl 4 rfl) ?_
                                                           refine lv_i2l (v := 0) hx hb dX12_numberRead_93 (of_decide_eq_true rfl) ?_
                                                           refine lv_iload_n hx hb dX12_numberRead_94 rfl (lv_at hl 5 rfl) ?_
                                                           refine lv_i2l (v := 999) hx hb dX12_numberRead_95 (of_decide_eq_true rfl) ?_
                                                           exact by
                                                            refine jcallS (As := [.long x200.toInt64, .long 0, .long 999]) (rest := []) ⟨hx, hb, hml, hown, hts⟩ hK hP hA hS hZ (c_X12_within l D cI cL ad zz hJ σ202 τ x200.toInt64 (100 * (σ 63 (σ 55 19).toNatClampNeg).toInt + 10 * (σ 63 x79.toNatClampNeg).toInt + (σ 63 x140.toNatClampNeg).toInt - 5328) (jtoL tx200) 0 (0) jzl_0 999 (999) jzl_999) cw_RX12_136 ⟨Nat.le_of_ble_eq_true rfl, Nat.le_of_ble_eq_true rfl⟩ rfl rfl rfl hl.1 rfl (Nat.le_of_ble_eq_true rfl) dX12_numberRead_96 ⟨Nat.zero_le _, Nat.zero_le _⟩ (fun r211 σ210 τ210 H locs h210 hP hS => ?_)
                                                            obtain ⟨⟨rfl, rfl⟩, h210⟩ := h210
                                                            rcases h210 with h212 | h213
                                                            · obtain ⟨q215, k214⟩ := h212
                                                              have q215 := q215.symm
                                                              subst q215
                                                              refine lv_if_ne (tgt := 113) hx hb dX12_numberRead_99 (of_decide_eq_true rfl) (fun _ => ?_) (fun c => absurd c (of_decide_eq_true rfl))
                                                              refine lv_aload_n hx hb dX12_numberRead_113 rfl (lv_at hl 2 rfl) ?_
                                                              refine va_get (D := D) hx hb hts inlX12 hown hK hP 55 (jc_55 cI cL ad σ202 τ) rfl 19 (of_decide_eq_true rfl) (hts _ kw_15_11) (fun _ h9 => h9) rfl dX12_numberRead_114 ?_
                                                              refine jtopr m205 ?_
                                                              refine lv_iload hx hb dX12_numberRead_117 (lv_at hl 1 rfl) ?_
                                                              exact by
                                                               refine lv_icmp_ne (tgt := 129) hx hb dX12_numberRead_119 (of_decide_eq_true rfl) (fun c216 => ?_) (fun c => absurd (jeq c tx201 rfl) (by omega))
                                                               have kc216 := jne c216 tx201 rfl
                                                               refine lv_iload hx hb dX12_numberRead_129 (lv_at hl 0 rfl) ?_
                                                               have z217 : (σ202 55 18).toInt = (σ 55 18).toInt := (congrArg Int32.toInt (show σ202 55 18 = (σ 55 18) from ((jkp 18 eσ202 (of_decide_eq_true rfl)).trans ((jkp 18 eσ141 (of_decide_eq_true rfl)).trans (jkp 18 eσ80 (of_decide_eq_true rfl))))))
                                                               have z218 : (σ202 55 19).toInt = (σ 55 19).toInt + 3 := ((congrArg Int32.toInt (show σ202 55 19 = x201 from m205)).trans tx201)
                                                               have z219 : (σ202 55 20).toInt = (σ 55 20).toInt := (congrArg Int32.toInt (show σ202 55 20 = (σ 55 20) from ((jkp 20 eσ202 (of_decide_eq_true rfl)).trans ((jkp 20 eσ141 (of_decide_eq_true rfl)).trans (jkp 20 eσ80 (of_decide_eq_true rfl))))))
                                                               have z220 : (σ202 55 21).toInt = (σ 55 21).toInt := (congrArg Int32.toInt (show σ202 55 21 = (σ 55 21) from m203))
                                                               have I221 : jI121 σ202 := ⟨(by omega), (by omega), (by omega), (by omega), (by omega)⟩
                                                               exact by exact hret x200 σ202 τ _ _ _ _ rfl ⟨rfl, (fun i hi => ((jnp i eσ202 (imp_165 i hi)).trans ((jnp i eσ141 (imp_165 i hi)).trans (jnp i eσ80 (imp_165 i hi))))), (fun i hi => ((jkp i eσ202 (imp_220 i hi)).trans ((jkp i eσ141 (imp_220 i hi)).trans (jkp i eσ80 (imp_220 i hi))))), I221, ⟨trivial, (by have h9 := tx200; omega), ⟨3, x200.toInt, (by have i0 := jix (f := σ 63) (show (σ 55 19).toInt = (σ 55 19).toInt by omega); have p1 := tx140; have i1 := jix (f := σ 63) (show x140.toInt = (σ 55 19).toInt + 2 by omega); have p2 := tx79; have i2 := jix (f := σ 63) (show x79.toInt = (σ 55 19).toInt + 1 by omega); exact Or.inr (Or.inr (Or.inr ⟨by omega, rfl, ⟨by omega, by omega, by omega⟩, ⟨by omega, by omega, by omega⟩, ⟨by omega, by omega, by omega⟩, by omega⟩))), (by have h9 := tx200; omega)⟩⟩⟩ hP hS dX12_numberRead_131
                                                            · exact by
                                                               obtain ⟨q223, k222⟩ := h213
                                                               exact absurd (by omega : False) id
                                                   · obtain ⟨q225, k224⟩ := h194
                                                     exact absurd (by omega : False) id
                                              · obtain ⟨q227, k226⟩ := h174
                                                exact absurd (by omega : False) id
                                         · obtain ⟨q229, k228⟩ := h155
                                           have q229 := q229.symm
                                           subst q229
                                           refine lv_bipush (v := 48) hx hb dX12_numberRead_31 (of_decide_eq_true rfl) ?_
                                           refine lv_icmp_lt (tgt := 73) hx hb dX12_numberRead_33 (of_decide_eq_true rfl) (fun _ => ?_) (fun c => absurd (of_decide_eq_true rfl) c)
                                           refine lv_aload_n hx hb dX12_numberRead_73 rfl (lv_at hl 2 rfl) ?_
                                           refine va_get (D := D) hx hb hts inlX12 hown hK hP 55 (jc_55 cI cL ad σ141 τ) rfl 21 (of_decide_eq_true rfl) (hts _ kw_15_13) (fun _ h9 => h9) rfl dX12_numberRead_74 ?_
                                           refine jtopr m142 ?_
                                           exact by
                                            refine lv_if_ge (tgt := 113) hx hb dX12_numberRead_77 (of_decide_eq_true rfl) (fun c => absurd (jle c jz_0 rfl) (by omega)) (fun c230 => ?_)
                                            have kc230 := jnle c230 jz_0 rfl
                                            refine lv_aload_n hx hb dX12_numberRead_80 rfl (lv_at hl 2 rfl) ?_
                                            refine va_get (D := D) hx hb hts inlX12 hown hK hP 55 (jc_55 cI cL ad σ141 τ) rfl 19 (of_decide_eq_true rfl) (hts _ kw_15_11) (fun _ h9 => h9) rfl dX12_numberRead_81 ?_
                                            refine jtopr m144 ?_
                                            refine lv_iload hx hb dX12_numberRead_84 (lv_at hl 1 rfl) ?_
                                            refine lv_icmp_le (tgt := 113) hx hb dX12_numberRead_86 (of_decide_eq_true rfl) (fun c => absurd (jle c tx140 rfl) (by omega)) (fun c231 => ?_)
                                            have kc231 := jnle c231 tx140 rfl
                                            refine lv_iload hx hb dX12_numberRead_89 (lv_at hl 0 rfl) ?_
                                            exact by
                                             refine lv_i2l (v := x139.toInt64) hx hb dX12_numberRead_91 rfl ?_
                                             refine lv_iload_n hx hb dX12_numberRead_92 rfl (lv_at hl 4 rfl) ?_
                                             refine lv_i2l (v := 0) hx hb dX12_numberRead_93 (of_decide_eq_true rfl) ?_
                                             refine lv_iload_n hx hb dX12_numberRead_94 rfl (lv_at hl 5 rfl) ?_
                                             refine lv_i2l (v := 999) hx hb dX12_numberRead_95 (of_decide_eq_true rfl) ?_
                                             refine jcallS (As := [.long x139.toInt64, .long 0, .long 999]) (rest := []) ⟨hx, hb, hml, hown, hts⟩ hK hP hA hS hZ (c_X12_within l D cI cL ad zz hJ σ141 τ x139.toInt64 (10 * (σ 63 (σ 55 19).toNatClampNeg).toInt + (σ 63 x79.toNatClampNeg).toInt - 528) (jtoL tx139) 0 (0) jzl_0 999 (999) jzl_999) cw_RX12_136 ⟨Nat.le_of_ble_eq_true rfl, Nat.le_of_ble_eq_true rfl⟩ rfl rfl rfl hl.1 rfl (Nat.le_of_ble_eq_true rfl) dX12_numberRead_96 ⟨Nat.zero_le _, Nat.zero_le _⟩ (fun r233 σ232 τ232 H locs h232 hP hS => ?_)
                                             obtain ⟨⟨rfl, rfl⟩, h232⟩ := h232
                                             rcases h232 with h234 | h235
                                             · obtain ⟨q237, k236⟩ := h234
                                               have q237 := q237.symm
                                               subst q237
                                               refine lv_if_ne (tgt := 113) hx hb dX12_numberRead_99 (of_decide_eq_true rfl) (fun _ => ?_) (fun c => absurd c (of_decide_eq_true rfl))
                                               refine lv_aload_n hx hb dX12_numberRead_113 rfl (lv_at hl 2 rfl) ?_
                                               refine va_get (D := D) hx hb hts inlX12 hown hK hP 55 (jc_55 cI cL ad σ141 τ) rfl 19 (of_decide_eq_true rfl) (hts _ kw_15_11) (fun _ h9 => h9) rfl dX12_numberRead_114 ?_
                                               refine jtopr m144 ?_
                                               refine lv_iload hx hb dX12_numberRead_117 (lv_at hl 1 rfl) ?_
                                               exact by
                                                refine lv_icmp_ne (tgt := 129) hx hb dX12_numberRead_119 (of_decide_eq_true rfl) (fun c238 => ?_) (fun c => absurd (jeq c tx140 rfl) (by omega))
                                                have kc238 := jne c238 tx140 rfl
                                                refine lv_iload hx hb dX12_numberRead_129 (lv_at hl 0 rfl) ?_
                                                exact by exact hret x139 σ141 τ _ _ _ _ rfl ⟨rfl, (fun i hi => ((jnp i eσ141 (imp_165 i hi)).trans (jnp i eσ80 (imp_165 i hi)))), (fun i hi => ((jkp i eσ141 (imp_220 i hi)).trans (jkp i eσ80 (imp_220 i hi)))), I151, ⟨trivial, (by have h9 := tx139; omega), ⟨2, x139.toInt, (by have i0 := jix (f := σ 63) (show (σ 55 19).toInt = (σ 55 19).toInt by omega); have p1 := tx79; have i1 := jix (f := σ 63) (show x79.toInt = (σ 55 19).toInt + 1 by omega); exact Or.inr (Or.inr (Or.inl ⟨by omega, ⟨by omega, by omega, by omega⟩, ⟨by omega, by omega, by omega⟩, Or.inr (fun d => by unfold jDg at d; omega), by omega⟩))), (by have h9 := tx139; omega)⟩⟩⟩ hP hS dX12_numberRead_131
                                             · obtain ⟨q240, k239⟩ := h235
                                               exact absurd (by omega : False) id
                                 · obtain ⟨q242, k241⟩ := h133
                                   exact absurd (by omega : False) id
                            · obtain ⟨q244, k243⟩ := h113
                              exact absurd (by omega : False) id
                      · obtain ⟨q246, k245⟩ := h94
                        have q246 := q246.symm
                        subst q246
                        refine lv_bipush (v := 48) hx hb dX12_numberRead_31 (of_decide_eq_true rfl) ?_
                        refine lv_icmp_lt (tgt := 73) hx hb dX12_numberRead_33 (of_decide_eq_true rfl) (fun _ => ?_) (fun c => absurd (of_decide_eq_true rfl) c)
                        refine lv_aload_n hx hb dX12_numberRead_73 rfl (lv_at hl 2 rfl) ?_
                        refine va_get (D := D) hx hb hts inlX12 hown hK hP 55 (jc_55 cI cL ad σ80 τ) rfl 21 (of_decide_eq_true rfl) (hts _ kw_15_13) (fun _ h9 => h9) rfl dX12_numberRead_74 ?_
                        refine jtopr m81 ?_
                        exact by
                         refine lv_if_ge (tgt := 113) hx hb dX12_numberRead_77 (of_decide_eq_true rfl) (fun c => absurd (jle c jz_0 rfl) (by omega)) (fun c247 => ?_)
                         have kc247 := jnle c247 jz_0 rfl
                         refine lv_aload_n hx hb dX12_numberRead_80 rfl (lv_at hl 2 rfl) ?_
                         refine va_get (D := D) hx hb hts inlX12 hown hK hP 55 (jc_55 cI cL ad σ80 τ) rfl 19 (of_decide_eq_true rfl) (hts _ kw_15_11) (fun _ h9 => h9) rfl dX12_numberRead_81 ?_
                         refine jtopr m83 ?_
                         refine lv_iload hx hb dX12_numberRead_84 (lv_at hl 1 rfl) ?_
                         refine lv_icmp_le (tgt := 113) hx hb dX12_numberRead_86 (of_decide_eq_true rfl) (fun c => absurd (jle c tx79 rfl) (by omega)) (fun c248 => ?_)
                         have kc248 := jnle c248 tx79 rfl
                         refine lv_iload hx hb dX12_numberRead_89 (lv_at hl 0 rfl) ?_
                         exact by
                          refine lv_i2l (v := x78.toInt64) hx hb dX12_numberRead_91 rfl ?_
                          refine lv_iload_n hx hb dX12_numberRead_92 rfl (lv_at hl 4 rfl) ?_
                          refine lv_i2l (v := 0) hx hb dX12_numberRead_93 (of_decide_eq_true rfl) ?_
                          refine lv_iload_n hx hb dX12_numberRead_94 rfl (lv_at hl 5 rfl) ?_
                          refine lv_i2l (v := 999) hx hb dX12_numberRead_95 (of_decide_eq_true rfl) ?_
                          refine jcallS (As := [.long x78.toInt64, .long 0, .long 999]) (rest := []) ⟨hx, hb, hml, hown, hts⟩ hK hP hA hS hZ (c_X12_within l D cI cL ad zz hJ σ80 τ x78.toInt64 ((σ 63 (σ 55 19).toNatClampNeg).toInt - 48) (jtoL tx78) 0 (0) jzl_0 999 (999) jzl_999) cw_RX12_136 ⟨Nat.le_of_ble_eq_true rfl, Nat.le_of_ble_eq_true rfl⟩ rfl rfl rfl hl.1 rfl (Nat.le_of_ble_eq_true rfl) dX12_numberRead_96 ⟨Nat.zero_le _, Nat.zero_le _⟩ (fun r250 σ249 τ249 H locs h249 hP hS => ?_)
                          obtain ⟨⟨rfl, rfl⟩, h249⟩ := h249
                          rcases h249 with h251 | h252
                          · obtain ⟨q254, k253⟩ := h251
                            have q254 := q254.symm
                            subst q254
                            refine lv_if_ne (tgt := 113) hx hb dX12_numberRead_99 (of_decide_eq_true rfl) (fun _ => ?_) (fun c => absurd c (of_decide_eq_true rfl))
                            refine lv_aload_n hx hb dX12_numberRead_113 rfl (lv_at hl 2 rfl) ?_
                            refine va_get (D := D) hx hb hts inlX12 hown hK hP 55 (jc_55 cI cL ad σ80 τ) rfl 19 (of_decide_eq_true rfl) (hts _ kw_15_11) (fun _ h9 => h9) rfl dX12_numberRead_114 ?_
                            refine jtopr m83 ?_
                            refine lv_iload hx hb dX12_numberRead_117 (lv_at hl 1 rfl) ?_
                            exact by
                             refine lv_icmp_ne (tgt := 129) hx hb dX12_numberRead_119 (of_decide_eq_true rfl) (fun c255 => ?_) (fun c => absurd (jeq c tx79 rfl) (by omega))
                             have kc255 := jne c255 tx79 rfl
                             refine lv_iload hx hb dX12_numberRead_129 (lv_at hl 0 rfl) ?_
                             exact by exact hret x78 σ80 τ _ _ _ _ rfl ⟨rfl, (fun i hi => (jnp i eσ80 (imp_165 i hi))), (fun i hi => (jkp i eσ80 (imp_220 i hi))), I90, ⟨trivial, (by have h9 := tx78; omega), ⟨1, x78.toInt, (by have i0 := jix (f := σ 63) (show (σ 55 19).toInt = (σ 55 19).toInt by omega); exact Or.inr (Or.inl ⟨by omega, ⟨by omega, by omega, by omega⟩, (fun d => by unfold jDg at d; omega), by omega⟩)), (by have h9 := tx78; omega)⟩⟩⟩ hP hS dX12_numberRead_131
                          · obtain ⟨q257, k256⟩ := h252
                            exact absurd (by omega : False) id
               · obtain ⟨q259, k258⟩ := h73
                 exact absurd (by omega : False) id
          · obtain ⟨q261, k260⟩ := h43
            exact absurd (by omega : False) id
    · obtain ⟨q263, k262⟩ := h13
      have q263 := q263.symm
      subst q263
      refine lv_bipush (v := 48) hx hb dX12_numberRead_31 (of_decide_eq_true rfl) ?_
      refine lv_icmp_lt (tgt := 73) hx hb dX12_numberRead_33 (of_decide_eq_true rfl) (fun _ => ?_) (fun c => absurd (of_decide_eq_true rfl) c)
      refine lv_aload_n hx hb dX12_numberRead_73 rfl (lv_at hl 2 rfl) ?_
      refine va_get (D := D) hx hb hts inlX12 hown hK hP 55 (jc_55 cI cL ad σ τ) rfl 21 (of_decide_eq_true rfl) (hts _ kw_15_13) (fun _ h9 => h9) rfl dX12_numberRead_74 ?_
      exact by
       refine lv_if_ge (tgt := 113) hx hb dX12_numberRead_77 (of_decide_eq_true rfl) (fun c => absurd (jle c jz_0 rfl) (by omega)) (fun c264 => ?_)
       have kc264 := jnle c264 jz_0 rfl
       refine lv_aload_n hx hb dX12_numberRead_80 rfl (lv_at hl 2 rfl) ?_
       refine va_get (D := D) hx hb hts inlX12 hown hK hP 55 (jc_55 cI cL ad σ τ) rfl 19 (of_decide_eq_true rfl) (hts _ kw_15_11) (fun _ h9 => h9) rfl dX12_numberRead_81 ?_
       refine lv_iload hx hb dX12_numberRead_84 (lv_at hl 1 rfl) ?_
       refine lv_icmp_le (tgt := 113) hx hb dX12_numberRead_86 (of_decide_eq_true rfl) (fun c265 => ?_) (fun c => absurd (jnle c rfl rfl) (by omega))
       have kc265 := jle c265 rfl rfl
       refine lv_aload_n hx hb dX12_numberRead_113 rfl (lv_at hl 2 rfl) ?_
       refine va_get (D := D) hx hb hts inlX12 hown hK hP 55 (jc_55 cI cL ad σ τ) rfl 19 (of_decide_eq_true rfl) (hts _ kw_15_11) (fun _ h9 => h9) rfl dX12_numberRead_114 ?_
       exact by
        refine lv_iload hx hb dX12_numberRead_117 (lv_at hl 1 rfl) ?_
        refine lv_icmp_ne (tgt := 129) hx hb dX12_numberRead_119 (of_decide_eq_true rfl) (fun c => absurd (jne c rfl rfl) (by omega)) (fun c266 => ?_)
        have kc266 := jeq c266 rfl rfl
        refine lv_aload_n hx hb dX12_numberRead_122 rfl (lv_at hl 2 rfl) ?_
        refine jcallV (As := []) (rest := []) ⟨hx, hb, hml, hown, hts⟩ hK hP hA hS hZ (c_X12_wrong l D cI cL ad zz hJ σ τ hI121) cw_RX12_214 (jc_55 cI cL ad σ τ) rfl ⟨Nat.le_of_ble_eq_true rfl, Nat.le_of_ble_eq_true rfl⟩ rfl rfl rfl hl.1 rfl (Nat.le_of_ble_eq_true rfl) dX12_numberRead_123 ⟨Nat.zero_le _, Nat.zero_le _⟩ (fun r268 σ267 τ267 H locs h267 hP hS => ?_)
        obtain ⟨rfl, f269, f270, I271, h267⟩ := h267
        obtain ⟨i273, i274, i275, i276, i277⟩ : ((-1) ≤ (σ267 55 18).toInt ∧ (σ267 55 18).toInt ≤ 80) ∧ (0 ≤ (σ267 55 19).toInt) ∧ ((σ267 55 19).toInt ≤ (σ267 55 20).toInt) ∧ ((σ267 55 20).toInt ≤ 80) ∧ ((-1) ≤ (σ267 55 21).toInt ∧ (σ267 55 21).toInt ≤ 80) := id I271
        have z278 : (σ267 55 18).toInt = (σ 55 18).toInt := (congrArg Int32.toInt (show σ267 55 18 = (σ 55 18) from (f270 18 (of_decide_eq_true rfl))))
        have z279 : (σ267 55 19).toInt = (σ 55 19).toInt := (congrArg Int32.toInt (show σ267 55 19 = (σ 55 19) from (f270 19 (of_decide_eq_true rfl))))
        exact by
         have z280 : (σ267 55 20).toInt = (σ 55 20).toInt := (congrArg Int32.toInt (show σ267 55 20 = (σ 55 20) from (f270 20 (of_decide_eq_true rfl))))
         obtain ⟨k281, k282, h267⟩ := h267
         have h283 := h267
         obtain ⟨q285, k284⟩ := h283
         have q285 := q285.symm
         subst q285
         refine lv_goto (tgt := 131) hx hb dX12_numberRead_126 (of_decide_eq_true rfl) ?_
         exact by exact hret 0 σ267 τ _ _ _ _ rfl ⟨rfl, (fun i hi => (f269 i hi)), (fun i hi => (f270 i (imp_219 i hi))), I271, ⟨trivial, (by have h9 := jz_0; omega), ⟨0, 0, (by exact Or.inl ⟨by omega, by omega, (fun d => by unfold jDg at d; omega)⟩), (by have h9 := jz_0; omega)⟩⟩⟩ hP hS dX12_numberRead_131
set_option maxHeartbeats 4000000 in
set_option maxRecDepth 100000 in
theorem c_X12_order (l : Launch) (D : va_G) (cI cL : ClassId) (ad zz : Nat → Nat) (hJ : jD ad) (σ : Nat → Nat → Int32) (τ : Nat → Nat → Int64) (hI104 : jI104 σ) (hI105 : jI105 σ) (hI107 : jI107 σ) (hs_jBook : jBook σ) : jM l yX12_order cX12_order 5 (some .int) ({ frames := 2, cells := 0, slots := 0, locals := 50 }) D cI cL ad zz [.ref (ad 55)] σ τ (fun r σ' τ' => τ = τ' ∧ (∀ i : Nat, (i < 55 ∨ 55 < i) ∧ (i < 62 ∨ 62 < i) ∧ (i < 67 ∨ 67 < i) → σ' i = σ i) ∧ (∀ k : Nat, (k < 10 ∨ 10 < k) ∧ (k < 12 ∨ 12 < k) ∧ (k < 13 ∨ 13 < k) ∧ (k < 15 ∨ 15 < k) ∧ (k < 18 ∨ 18 < k) ∧ (k < 19 ∨ 19 < k) ∧ (k < 20 ∨ 20 < k) ∧ (k < 21 ∨ 21 < k) ∧ (k < 47 ∨ 47 < k) → σ' 55 k = σ 55 k) ∧ (jI104 σ') ∧ (jI105 σ') ∧ (jI107 σ') ∧ (jBook σ') ∧ (jOrA (σ 63) (σ' 62) (σ 62) (σ 55 15).toInt (r.toInt) ((σ' 55 10).toInt) ((σ' 55 12).toInt) ((σ' 55 13).toInt) ((σ 55 10).toInt) ((σ 55 12).toInt) ((σ 55 13).toInt)) ∧ ((σ' 55 15).toInt = 0) ∧ ((True ∧ (r.toInt ≤ (-100)) ∧ ((σ' 55 47).toInt = (σ 55 47).toInt)) ∨ (True ∧ (1 ≤ r.toInt) ∧ ((σ' 55 47).toInt = 0)))) := by
  refine jM.of hJ (by decide +kernel) (nt := .int) rfl (Nat.le_of_ble_eq_true rfl) ?_
  intro p e s m args below meth c Q ls hC hret hl hP
  obtain ⟨hx, hb, hr, hml, hown, hts, hK, -, hlocks, hZ⟩ := hC
  have hown : s.vm.findClass RX12 = some m.cls := hown
  have hS : va_S (jA ad) s.heap s.heap [] := va_S.rf
  have hA : ∀ q, jA ad q → jA ad q := fun _ h => h
  have hl : lv_has ls 5 [(0, .ref (ad 55))] := hl
  obtain ⟨i1, i2, i3, w4, w5⟩ : (1 ≤ (σ 55 10).toInt ∧ (σ 55 10).toInt ≤ 8) ∧ (1 ≤ (σ 55 12).toInt ∧ (σ 55 12).toInt ≤ 12) ∧ (0 ≤ (σ 55 13).toInt ∧ (σ 55 13).toInt ≤ 999) ∧ (∀ k : Nat, k < 8 → 0 ≤ (σ 62 k).toInt ∧ (σ 62 k).toInt ≤ 3) ∧ (∀ k : Nat, k < 8 → 0 ≤ (σ 67 k).toInt ∧ (σ 67 k).toInt ≤ 3) := id hI104
  obtain ⟨i6, w7⟩ : (0 ≤ (σ 55 15).toInt ∧ (σ 55 15).toInt ≤ 80) ∧ (∀ k : Nat, k < 2 → (-1) ≤ (σ 65 k).toInt ∧ (σ 65 k).toInt ≤ 80) := id hI105
  obtain ⟨i8, i9, w10⟩ : (0 ≤ (σ 55 47).toInt ∧ (σ 55 47).toInt ≤ 12) ∧ ((σ 55 47).toInt ≤ (σ 55 12).toInt) ∧ (∀ k : Nat, k < 12 → 0 ≤ (σ 80 k).toInt ∧ (σ 80 k).toInt ≤ 3) := id hI107
  refine lv_aload_n hx hb dX12_order_0 rfl (lv_at hl 0 rfl) ?_
  refine lv_iconst (v := (-1)) hx hb dX12_order_1 (of_decide_eq_true rfl) ?_
  refine jput (ty := .int) hx hb hts inlX12 tyX12 tyX12_ok nmX12 hown hK hP hJ hA hS (jc_55 cI cL ad σ τ) rfl (k := 18) (of_decide_eq_true rfl) (Nat.le_of_ble_eq_true rfl) (jp_55_18 cI cL ad σ τ (-1)) (hts _ kw_15_10) (fun _ h9 => h9) rfl (by decide +kernel) rfl rfl dX12_order_2 (fun σ11 H locs eσ11 hP hS => ?_)
  refine lv_aload_n hx hb dX12_order_5 rfl (lv_at hl 0 rfl) ?_
  refine lv_iconst (v := 0) hx hb dX12_order_6 (of_decide_eq_true rfl) ?_
  refine jput (ty := .int) hx hb hts inlX12 tyX12 tyX12_ok nmX12 hown hK hP hJ hA hS (jc_55 cI cL ad σ11 τ) rfl (k := 19) (of_decide_eq_true rfl) (Nat.le_of_ble_eq_true rfl) (jp_55_19 cI cL ad σ11 τ 0) (hts _ kw_15_11) (fun _ h9 => h9) rfl (by decide +kernel) rfl rfl dX12_order_7 (fun σ12 H locs eσ12 hP hS => ?_)
  refine lv_aload_n hx hb dX12_order_10 rfl (lv_at hl 0 rfl) ?_
  refine lv_aload_n hx hb dX12_order_11 rfl (lv_at hl 0 rfl) ?_
  refine va_get (D := D) hx hb hts inlX12 hown hK hP 55 (jc_55 cI cL ad σ12 τ) rfl 15 (of_decide_eq_true rfl) (hts _ kw_13_6) (fun _ h9 => h9) rfl dX12_order_12 ?_
  have m13 : σ12 55 15 = (σ 55 15) := ((jkp 15 eσ12 (of_decide_eq_true rfl)).trans (jkp 15 eσ11 (of_decide_eq_true rfl)))
  refine jtopr m13 ?_
  refine jput (ty := .int) hx hb hts inlX12 tyX12 tyX12_ok nmX12 hown hK hP hJ hA hS (jc_55 cI cL ad σ12 τ) rfl (k := 20) (of_decide_eq_true rfl) (Nat.le_of_ble_eq_true rfl) (jp_55_20 cI cL ad σ12 τ (σ 55 15)) (hts _ kw_15_12) (fun _ h9 => h9) rfl (by decide +kernel) rfl rfl dX12_order_15 (fun σ14 H locs eσ14 hP hS => ?_)
  refine lv_aload_n hx hb dX12_order_18 rfl (lv_at hl 0 rfl) ?_
  refine lv_iconst (v := (-1)) hx hb dX12_order_19 (of_decide_eq_true rfl) ?_
  refine jput (ty := .int) hx hb hts inlX12 tyX12 tyX12_ok nmX12 hown hK hP hJ hA hS (jc_55 cI cL ad σ14 τ) rfl (k := 21) (of_decide_eq_true rfl) (Nat.le_of_ble_eq_true rfl) (jp_55_21 cI cL ad σ14 τ (-1)) (hts _ kw_15_13) (fun _ h9 => h9) rfl (by decide +kernel) rfl rfl dX12_order_20 (fun σ15 H locs eσ15 hP hS => ?_)
  have I20 : jI104 σ15 := jI104_fr ((jkp 10 eσ15 (of_decide_eq_true rfl)).trans ((jkp 10 eσ14 (of_decide_eq_true rfl)).trans ((jkp 10 eσ12 (of_decide_eq_true rfl)).trans (jkp 10 eσ11 (of_decide_eq_true rfl))))) ((jkp 12 eσ15 (of_decide_eq_true rfl)).trans ((jkp 12 eσ14 (of_decide_eq_true rfl)).trans ((jkp 12 eσ12 (of_decide_eq_true rfl)).trans (jkp 12 eσ11 (of_decide_eq_true rfl))))) ((jkp 13 eσ15 (of_decide_eq_true rfl)).trans ((jkp 13 eσ14 (of_decide_eq_true rfl)).trans ((jkp 13 eσ12 (of_decide_eq_true rfl)).trans (jkp 13 eσ11 (of_decide_eq_true rfl))))) ((jnp 62 eσ15 (of_decide_eq_true rfl)).trans ((jnp 62 eσ14 (of_decide_eq_true rfl)).trans ((jnp 62 eσ12 (of_decide_eq_true rfl)).trans (jnp 62 eσ11 (of_decide_eq_true rfl))))) ((jnp 67 eσ15 (of_decide_eq_true rfl)).trans ((jnp 67 eσ14 (of_decide_eq_true rfl)).trans ((jnp 67 eσ12 (of_decide_eq_true rfl)).trans (jnp 67 eσ11 (of_decide_eq_true rfl))))) hI104
  have z21 : (σ15 55 18).toInt = (-1) := ((congrArg Int32.toInt (show σ15 55 18 = (-1) from ((jkp 18 eσ15 (of_decide_eq_true rfl)).trans ((jkp 18 eσ14 (of_decide_eq_true rfl)).trans ((jkp 18 eσ12 (of_decide_eq_true rfl)).trans (jsp eσ11)))))).trans jz_m1)
  have z22 : (σ15 55 19).toInt = 0 := ((congrArg Int32.toInt (show σ15 55 19 = 0 from ((jkp 19 eσ15 (of_decide_eq_true rfl)).trans ((jkp 19 eσ14 (of_decide_eq_true rfl)).trans (jsp eσ12))))).trans jz_0)
  have z23 : (σ15 55 20).toInt = (σ 55 15).toInt := (congrArg Int32.toInt (show σ15 55 20 = (σ 55 15) from ((jkp 20 eσ15 (of_decide_eq_true rfl)).trans (jsp eσ14))))
  have z24 : (σ15 55 21).toInt = (-1) := ((congrArg Int32.toInt (show σ15 55 21 = (-1) from (jsp eσ15))).trans jz_m1)
  have lp16 : ∀ (x18 : Int32) (σ19 : Nat → Nat → Int32) (H : Heap) (locs : List Loc) (ls : Array Slot), 0 ≤ x18.toInt → x18.toInt ≤ 8 → (-1) ≤ (σ19 55 18).toInt ∧ (σ19 55 18).toInt ≤ 80 → 0 ≤ (σ19 55 19).toInt → (σ19 55 19).toInt ≤ (σ19 55 20).toInt → (σ19 55 20).toInt ≤ 80 → (-1) ≤ (σ19 55 21).toInt ∧ (σ19 55 21).toInt ≤ 80 → (σ19 55 18).toInt = (-1) → (σ19 55 19).toInt = x18.toInt → (σ19 55 21).toInt = (-1) → (∀ i : Nat, (i < 55 ∨ 55 < i) ∧ (i < 67 ∨ 67 < i) → σ19 i = σ15 i) → (∀ k : Nat, (k < 19 ∨ 19 < k) → σ19 55 k = σ15 55 k) → jI104 σ19 → (jMm (σ 63) (σ 55 15).toInt (x18.toInt) ∧ jDv (σ 63) (σ19 67) (x18.toInt)) → jH D cI cL ad σ19 τ H → va_S (jA ad) s.heap H locs → lv_has ls 5 [(0, .ref (ad 55)), (1, .int x18)] → W p l e ({ frames := 2, cells := 0, slots := 0, locals := 50 }) s m args below meth c H locs 0 0 Q (F0 m 78 ls []) := by
    intro x18 σ19 H locs ls h26 h27 h28 h29 h30 h31 h32 h33 h34 h35 f36 f37 p38 q39 hP hS hl
    obtain ⟨i40, i41, i42, w43, w44⟩ : (1 ≤ (σ19 55 10).toInt ∧ (σ19 55 10).toInt ≤ 8) ∧ (1 ≤ (σ19 55 12).toInt ∧ (σ19 55 12).toInt ≤ 12) ∧ (0 ≤ (σ19 55 13).toInt ∧ (σ19 55 13).toInt ≤ 999) ∧ (∀ k : Nat, k < 8 → 0 ≤ (σ19 62 k).toInt ∧ (σ19 62 k).toInt ≤ 3) ∧ (∀ k : Nat, k < 8 → 0 ≤ (σ19 67 k).toInt ∧ (σ19 67 k).toInt ≤ 3) := id p38
    have z45 : (σ19 55 10).toInt = (σ 55 10).toInt := (congrArg Int32.toInt (show σ19 55 10 = (σ 55 10) from ((f37 10 (of_decide_eq_true rfl)).trans ((jkp 10 eσ15 (of_decide_eq_true rfl)).trans ((jkp 10 eσ14 (of_decide_eq_true rfl)).trans ((jkp 10 eσ12 (of_decide_eq_true rfl)).trans (jkp 10 eσ11 (of_decide_eq_true rfl))))))))
    have z46 : (σ19 55 12).toInt = (σ 55 12).toInt := (congrArg Int32.toInt (show σ19 55 12 = (σ 55 12) from ((f37 12 (of_decide_eq_true rfl)).trans ((jkp 12 eσ15 (of_decide_eq_true rfl)).trans ((jkp 12 eσ14 (of_decide_eq_true rfl)).trans ((jkp 12 eσ12 (of_decide_eq_true rfl)).trans (jkp 12 eσ11 (of_decide_eq_true rfl))))))))
    have z47 : (σ19 55 13).toInt = (σ 55 13).toInt := (congrArg Int32.toInt (show σ19 55 13 = (σ 55 13) from ((f37 13 (of_decide_eq_true rfl)).trans ((jkp 13 eσ15 (of_decide_eq_true rfl)).trans ((jkp 13 eσ14 (of_decide_eq_true rfl)).trans ((jkp 13 eσ12 (of_decide_eq_true rfl)).trans (jkp 13 eσ11 (of_decide_eq_true rfl))))))))
    have z48 : (σ19 55 18).toInt = (-1) := ((congrArg Int32.toInt (show σ19 55 18 = (-1) from ((f37 18 (of_decide_eq_true rfl)).trans ((jkp 18 eσ15 (of_decide_eq_true rfl)).trans ((jkp 18 eσ14 (of_decide_eq_true rfl)).trans ((jkp 18 eσ12 (of_decide_eq_true rfl)).trans (jsp eσ11))))))).trans jz_m1)
    have z49 : (σ19 55 20).toInt = (σ 55 15).toInt := (congrArg Int32.toInt (show σ19 55 20 = (σ 55 15) from ((f37 20 (of_decide_eq_true rfl)).trans ((jkp 20 eσ15 (of_decide_eq_true rfl)).trans (jsp eσ14)))))
    have z50 : (σ19 55 21).toInt = (-1) := ((congrArg Int32.toInt (show σ19 55 21 = (-1) from ((f37 21 (of_decide_eq_true rfl)).trans (jsp eσ15)))).trans jz_m1)
    have lp51 : ∀  (σ53 : Nat → Nat → Int32) (H : Heap) (locs : List Loc) (ls : Array Slot), (-1) ≤ (σ53 55 18).toInt ∧ (σ53 55 18).toInt ≤ 80 → 0 ≤ (σ53 55 19).toInt → (σ53 55 19).toInt ≤ (σ53 55 20).toInt → (σ53 55 20).toInt ≤ 80 → (-1) ≤ (σ53 55 21).toInt ∧ (σ53 55 21).toInt ≤ 80 → (σ53 55 18).toInt = (-1) → (σ53 55 19).toInt = x18.toInt → (((σ53 55 21).toInt = (-1) ∧ 1 ≤ x18.toInt) ∨ ((σ53 55 21).toInt = 0 ∧ x18.toInt = 0)) → (∀ i : Nat, (i < 55 ∨ 55 < i) → σ53 i = σ19 i) → (∀ k : Nat, (k < 21 ∨ 21 < k) → σ53 55 k = σ19 55 k) → jH D cI cL ad σ53 τ H → va_S (jA ad) s.heap H locs → lv_has ls 5 [(0, .ref (ad 55)), (1, .int x18)] → W p l e ({ frames := 2, cells := 0, slots := 0, locals := 50 }) s m args below meth c H locs 0 0 Q (F0 m 87 ls []) := by
      intro  σ53 H locs ls h55 h56 h57 h58 h59 h60 h61 h62 f63 f64 hP hS hl
      have z65 : (σ53 55 18).toInt = (-1) := ((congrArg Int32.toInt (show σ53 55 18 = (-1) from ((f64 18 (of_decide_eq_true rfl)).trans ((f37 18 (of_decide_eq_true rfl)).trans ((jkp 18 eσ15 (of_decide_eq_true rfl)).trans ((jkp 18 eσ14 (of_decide_eq_true rfl)).trans ((jkp 18 eσ12 (of_decide_eq_true rfl)).trans (jsp eσ11)))))))).trans jz_m1)
      have z66 : (σ53 55 19).toInt = (σ19 55 19).toInt := (congrArg Int32.toInt (show σ53 55 19 = (σ19 55 19) from (f64 19 (of_decide_eq_true rfl))))
      have z67 : (σ53 55 20).toInt = (σ 55 15).toInt := (congrArg Int32.toInt (show σ53 55 20 = (σ 55 15) from ((f64 20 (of_decide_eq_true rfl)).trans ((f37 20 (of_decide_eq_true rfl)).trans ((jkp 20 eσ15 (of_decide_eq_true rfl)).trans (jsp eσ14))))))
      have lp68 : ∀ (x70 : Int32) (σ71 : Nat → Nat → Int32) (H : Heap) (locs : List Loc) (ls : Array Slot), (-1) ≤ (σ71 55 18).toInt ∧ (σ71 55 18).toInt ≤ 80 → 0 ≤ (σ71 55 19).toInt → (σ71 55 19).toInt ≤ (σ71 55 20).toInt → (σ71 55 20).toInt ≤ 80 → (-1) ≤ (σ71 55 21).toInt ∧ (σ71 55 21).toInt ≤ 80 → (σ71 55 18).toInt = (-1) → (((σ71 55 21).toInt = (-1) ∧ 1 ≤ x18.toInt ∧ 1 ≤ x70.toInt ∧ x70.toInt ≤ 12) ∨ (0 ≤ (σ71 55 21).toInt ∧ (σ71 55 21).toInt ≤ 80)) → (∀ i : Nat, (i < 55 ∨ 55 < i) → σ71 i = σ53 i) → (∀ k : Nat, (k < 19 ∨ 19 < k) ∧ (k < 21 ∨ 21 < k) → σ71 55 k = σ53 55 k) → (jTm (σ 63) (σ 55 15).toInt (x18.toInt) ((σ71 55 19).toInt) (x70.toInt) ((σ71 55 21).toInt) ∧ ((σ71 55 21).toInt = -1 → 0 ≤ (σ71 55 19).toInt)) → jH D cI cL ad σ71 τ H → va_S (jA ad) s.heap H locs → lv_has ls 5 [(0, .ref (ad 55)), (1, .int x18), (2, .int x70)] → W p l e ({ frames := 2, cells := 0, slots := 0, locals := 50 }) s m args below meth c H locs 0 0 Q (F0 m 110 ls []) := by
        intro x70 σ71 H locs ls h73 h74 h75 h76 h77 h78 h79 f80 f81 q82 hP hS hl
        have gx70 := jrg (rfl : x70.toInt = x70.toInt)
        have z83 : (σ71 55 18).toInt = (-1) := ((congrArg Int32.toInt (show σ71 55 18 = (-1) from ((f81 18 (of_decide_eq_true rfl)).trans ((f64 18 (of_decide_eq_true rfl)).trans ((f37 18 (of_decide_eq_true rfl)).trans ((jkp 18 eσ15 (of_decide_eq_true rfl)).trans ((jkp 18 eσ14 (of_decide_eq_true rfl)).trans ((jkp 18 eσ12 (of_decide_eq_true rfl)).trans (jsp eσ11))))))))).trans jz_m1)
        have z84 : (σ71 55 20).toInt = (σ 55 15).toInt := (congrArg Int32.toInt (show σ71 55 20 = (σ 55 15) from ((f81 20 (of_decide_eq_true rfl)).trans ((f64 20 (of_decide_eq_true rfl)).trans ((f37 20 (of_decide_eq_true rfl)).trans ((jkp 20 eσ15 (of_decide_eq_true rfl)).trans (jsp eσ14)))))))
        have lp85 : ∀ (x87 : Int32) (σ88 : Nat → Nat → Int32) (H : Heap) (locs : List Loc) (ls : Array Slot), (-1) ≤ (σ88 55 18).toInt ∧ (σ88 55 18).toInt ≤ 80 → 0 ≤ (σ88 55 19).toInt → (σ88 55 19).toInt ≤ (σ88 55 20).toInt → (σ88 55 20).toInt ≤ 80 → (-1) ≤ (σ88 55 21).toInt ∧ (σ88 55 21).toInt ≤ 80 → (σ88 55 18).toInt = (-1) → (((σ88 55 21).toInt = (-1) ∧ 1 ≤ x18.toInt ∧ 1 ≤ x70.toInt ∧ x70.toInt ≤ 12 ∧ 0 ≤ x87.toInt ∧ x87.toInt ≤ 999) ∨ (0 ≤ (σ88 55 21).toInt ∧ (σ88 55 21).toInt ≤ 80)) → (∀ i : Nat, (i < 55 ∨ 55 < i) → σ88 i = σ71 i) → (∀ k : Nat, (k < 19 ∨ 19 < k) ∧ (k < 21 ∨ 21 < k) → σ88 55 k = σ71 55 k) → (∃ p x1 : Int, (jTm (σ 63) (σ 55 15).toInt (x18.toInt) p (x70.toInt) x1 ∧ (x1 = -1 → 0 ≤ p)) ∧ jRm (σ 63) (σ 55 15).toInt p (x87.toInt) x1 ((σ88 55 19).toInt) ((σ88 55 21).toInt)) → jH D cI cL ad σ88 τ H → va_S (jA ad) s.heap H locs → lv_has ls 5 [(0, .ref (ad 55)), (1, .int x18), (2, .int x70), (3, .int x87)] → W p l e ({ frames := 2, cells := 0, slots := 0, locals := 50 }) s m args below meth c H locs 0 0 Q (F0 m 133 ls []) := by
          intro x87 σ88 H locs ls h90 h91 h92 h93 h94 h95 h96 f97 f98 q99 hP hS hl
          have gx87 := jrg (rfl : x87.toInt = x87.toInt)
          have z100 : (σ88 55 18).toInt = (-1) := ((congrArg Int32.toInt (show σ88 55 18 = (-1) from ((f98 18 (of_decide_eq_true rfl)).trans ((f81 18 (of_decide_eq_true rfl)).trans ((f64 18 (of_decide_eq_true rfl)).trans ((f37 18 (of_decide_eq_true rfl)).trans ((jkp 18 eσ15 (of_decide_eq_true rfl)).trans ((jkp 18 eσ14 (of_decide_eq_true rfl)).trans ((jkp 18 eσ12 (of_decide_eq_true rfl)).trans (jsp eσ11)))))))))).trans jz_m1)
          have z101 : (σ88 55 20).toInt = (σ 55 15).toInt := (congrArg Int32.toInt (show σ88 55 20 = (σ 55 15) from ((f98 20 (of_decide_eq_true rfl)).trans ((f81 20 (of_decide_eq_true rfl)).trans ((f64 20 (of_decide_eq_true rfl)).trans ((f37 20 (of_decide_eq_true rfl)).trans ((jkp 20 eσ15 (of_decide_eq_true rfl)).trans (jsp eσ14))))))))
          obtain ⟨p102, y103, t104, r105⟩ := q99
          have lp106 : ∀  (σ108 : Nat → Nat → Int32) (H : Heap) (locs : List Loc) (ls : Array Slot), (-1) ≤ (σ108 55 18).toInt ∧ (σ108 55 18).toInt ≤ 80 → 0 ≤ (σ108 55 19).toInt → (σ108 55 19).toInt ≤ (σ108 55 20).toInt → (σ108 55 20).toInt ≤ 80 → (-1) ≤ (σ108 55 21).toInt ∧ (σ108 55 21).toInt ≤ 80 → (σ108 55 18).toInt = (-1) → (((σ108 55 21).toInt = (-1) ∧ 1 ≤ x18.toInt ∧ 1 ≤ x70.toInt ∧ x70.toInt ≤ 12 ∧ 0 ≤ x87.toInt ∧ x87.toInt ≤ 999) ∨ (0 ≤ (σ108 55 21).toInt ∧ (σ108 55 21).toInt ≤ 80)) → (∀ i : Nat, (i < 55 ∨ 55 < i) → σ108 i = σ88 i) → (∀ k : Nat, (k < 21 ∨ 21 < k) → σ108 55 k = σ88 55 k) → (∃ p x1 p2 x2 : Int, (jTm (σ 63) (σ 55 15).toInt (x18.toInt) p (x70.toInt) x1 ∧ (x1 = -1 → 0 ≤ p)) ∧ jRm (σ 63) (σ 55 15).toInt p (x87.toInt) x1 p2 x2 ∧ ((0 ≤ x2 ∧ (σ108 55 21).toInt = x2) ∨ (x2 = -1 ∧ p2 < (σ 55 15).toInt ∧ (σ108 55 21).toInt = p2 ∧ 0 ≤ p2) ∨ (x2 = -1 ∧ (σ 55 15).toInt ≤ p2 ∧ (σ108 55 21).toInt = -1))) → jH D cI cL ad σ108 τ H → va_S (jA ad) s.heap H locs → lv_has ls 5 [(0, .ref (ad 55)), (1, .int x18), (2, .int x70), (3, .int x87)] → W p l e ({ frames := 2, cells := 0, slots := 0, locals := 50 }) s m args below meth c H locs 0 0 Q (F0 m 157 ls []) := by
            intro  σ108 H locs ls h110 h111 h112 h113 h114 h115 h116 f117 f118 q119 hP hS hl
            have z120 : (σ108 55 18).toInt = (-1) := ((congrArg Int32.toInt (show σ108 55 18 = (-1) from ((f118 18 (of_decide_eq_true rfl)).trans ((f98 18 (of_decide_eq_true rfl)).trans ((f81 18 (of_decide_eq_true rfl)).trans ((f64 18 (of_decide_eq_true rfl)).trans ((f37 18 (of_decide_eq_true rfl)).trans ((jkp 18 eσ15 (of_decide_eq_true rfl)).trans ((jkp 18 eσ14 (of_decide_eq_true rfl)).trans ((jkp 18 eσ12 (of_decide_eq_true rfl)).trans (jsp eσ11))))))))))).trans jz_m1)
            have z121 : (σ108 55 19).toInt = (σ88 55 19).toInt := (congrArg Int32.toInt (show σ108 55 19 = (σ88 55 19) from (f118 19 (of_decide_eq_true rfl))))
            have z122 : (σ108 55 20).toInt = (σ 55 15).toInt := (congrArg Int32.toInt (show σ108 55 20 = (σ 55 15) from ((f118 20 (of_decide_eq_true rfl)).trans ((f98 20 (of_decide_eq_true rfl)).trans ((f81 20 (of_decide_eq_true rfl)).trans ((f64 20 (of_decide_eq_true rfl)).trans ((f37 20 (of_decide_eq_true rfl)).trans ((jkp 20 eσ15 (of_decide_eq_true rfl)).trans (jsp eσ14)))))))))
            obtain ⟨p123, y124, p125, y126, t127, r128, d129⟩ := q119
            refine lv_aload_n hx hb dX12_order_157 rfl (lv_at hl 0 rfl) ?_
            refine lv_iconst (v := 0) hx hb dX12_order_158 (of_decide_eq_true rfl) ?_
            refine jput (ty := .int) hx hb hts inlX12 tyX12 tyX12_ok nmX12 hown hK hP hJ hA hS (jc_55 cI cL ad σ108 τ) rfl (k := 15) (of_decide_eq_true rfl) (Nat.le_of_ble_eq_true rfl) (jp_55_15 cI cL ad σ108 τ 0) (hts _ kw_13_6) (fun _ h9 => h9) rfl (by decide +kernel) rfl rfl dX12_order_159 (fun σ130 H locs eσ130 hP hS => ?_)
            refine lv_aload_n hx hb dX12_order_162 rfl (lv_at hl 0 rfl) ?_
            refine va_get (D := D) hx hb hts inlX12 hown hK hP 55 (jc_55 cI cL ad σ130 τ) rfl 21 (of_decide_eq_true rfl) (hts _ kw_15_13) (fun _ h9 => h9) rfl dX12_order_163 ?_
            have m131 : σ130 55 21 = (σ108 55 21) := (jkp 21 eσ130 (of_decide_eq_true rfl))
            refine jtopr m131 ?_
            refine lv_if_lt (tgt := 177) hx hb dX12_order_166 (of_decide_eq_true rfl) (fun c132 => ?_) (fun c132 => ?_)
            · have kc132 := jlt c132 rfl jz_0
              refine lv_aload_n hx hb dX12_order_177 rfl (lv_at hl 0 rfl) ?_
              refine lv_iload_n hx hb dX12_order_178 rfl (lv_at hl 1 rfl) ?_
              refine jput (ty := .int) hx hb hts inlX12 tyX12 tyX12_ok nmX12 hown hK hP hJ hA hS (jc_55 cI cL ad σ130 τ) rfl (k := 10) (of_decide_eq_true rfl) (Nat.le_of_ble_eq_true rfl) (jp_55_10 cI cL ad σ130 τ x18) (hts _ kw_8_15) (fun _ h9 => h9) rfl (by decide +kernel) rfl rfl dX12_order_179 (fun σ133 H locs eσ133 hP hS => ?_)
              refine lv_aload_n hx hb dX12_order_182 rfl (lv_at hl 0 rfl) ?_
              refine lv_iload_n hx hb dX12_order_183 rfl (lv_at hl 2 rfl) ?_
              refine jput (ty := .int) hx hb hts inlX12 tyX12 tyX12_ok nmX12 hown hK hP hJ hA hS (jc_55 cI cL ad σ133 τ) rfl (k := 12) (of_decide_eq_true rfl) (Nat.le_of_ble_eq_true rfl) (jp_55_12 cI cL ad σ133 τ x70) (hts _ kw_8_16) (fun _ h9 => h9) rfl (by decide +kernel) rfl rfl dX12_order_184 (fun σ134 H locs eσ134 hP hS => ?_)
              refine lv_aload_n hx hb dX12_order_187 rfl (lv_at hl 0 rfl) ?_
              refine lv_iload_n hx hb dX12_order_188 rfl (lv_at hl 3 rfl) ?_
              refine jput (ty := .int) hx hb hts inlX12 tyX12 tyX12_ok nmX12 hown hK hP hJ hA hS (jc_55 cI cL ad σ134 τ) rfl (k := 13) (of_decide_eq_true rfl) (Nat.le_of_ble_eq_true rfl) (jp_55_13 cI cL ad σ134 τ x87) (hts _ kw_15_14) (fun _ h9 => h9) rfl (by decide +kernel) rfl rfl dX12_order_189 (fun σ135 H locs eσ135 hP hS => ?_)
              refine lv_iconst (v := 0) hx hb dX12_order_192 (of_decide_eq_true rfl) ?_
              refine lv_istore (lv' := [(4, .int 0), (0, .ref (ad 55)), (1, .int x18), (2, .int x70), (3, .int x87)]) hx hb dX12_order_193 hl (of_decide_eq_true rfl) rfl (fun ls hl => ?_)
              have z140 : (σ135 55 10).toInt = x18.toInt := (congrArg Int32.toInt (show σ135 55 10 = x18 from ((jkp 10 eσ135 (of_decide_eq_true rfl)).trans ((jkp 10 eσ134 (of_decide_eq_true rfl)).trans (jsp eσ133)))))
              have z141 : (σ135 55 12).toInt = x70.toInt := (congrArg Int32.toInt (show σ135 55 12 = x70 from ((jkp 12 eσ135 (of_decide_eq_true rfl)).trans (jsp eσ134))))
              have z142 : (σ135 55 13).toInt = x87.toInt := (congrArg Int32.toInt (show σ135 55 13 = x87 from (jsp eσ135)))
              have w143 : ∀ k : Nat, k < 8 → 0 ≤ (σ135 62 k).toInt ∧ (σ135 62 k).toInt ≤ 3 := (jrr_fr (jnp 62 eσ135 (of_decide_eq_true rfl)) (jrr_fr (jnp 62 eσ134 (of_decide_eq_true rfl)) (jrr_fr (jnp 62 eσ133 (of_decide_eq_true rfl)) (jrr_fr (jnp 62 eσ130 (of_decide_eq_true rfl)) (jrr_fr (f117 62 (of_decide_eq_true rfl)) (jrr_fr (f97 62 (of_decide_eq_true rfl)) (jrr_fr (f80 62 (of_decide_eq_true rfl)) (jrr_fr (f63 62 (of_decide_eq_true rfl)) w43))))))))
              have w144 : ∀ k : Nat, k < 8 → 0 ≤ (σ135 67 k).toInt ∧ (σ135 67 k).toInt ≤ 3 := (jrr_fr (jnp 67 eσ135 (of_decide_eq_true rfl)) (jrr_fr (jnp 67 eσ134 (of_decide_eq_true rfl)) (jrr_fr (jnp 67 eσ133 (of_decide_eq_true rfl)) (jrr_fr (jnp 67 eσ130 (of_decide_eq_true rfl)) (jrr_fr (f117 67 (of_decide_eq_true rfl)) (jrr_fr (f97 67 (of_decide_eq_true rfl)) (jrr_fr (f80 67 (of_decide_eq_true rfl)) (jrr_fr (f63 67 (of_decide_eq_true rfl)) w44))))))))
              exact by
               have I145 : jI104 σ135 := ⟨(by omega), (by omega), (by omega), w143, w144⟩
               have lp136 : ∀ (n137 : Nat) (x138 : Int32) (σ139 : Nat → Nat → Int32) (H : Heap) (locs : List Loc) (ls : Array Slot), (x18.toInt - x138.toInt : Int) < n137 → 0 ≤ x138.toInt → x138.toInt ≤ 8 → x138.toInt ≤ x18.toInt → (∀ i : Nat, (i < 62 ∨ 62 < i) → σ139 i = σ135 i) → jI104 σ139 → (jSo (σ139 62) (σ135 67) (x138.toInt)) → jH D cI cL ad σ139 τ H → va_S (jA ad) s.heap H locs → lv_has ls 5 [(4, .int x138), (0, .ref (ad 55)), (1, .int x18), (2, .int x70), (3, .int x87)] → W p l e ({ frames := 2, cells := 0, slots := 0, locals := 50 }) s m args below meth c H locs 0 0 Q (F0 m 195 ls []) := by
                 intro n137
                 induction n137 with
                 | zero => intro x138 σ139 H locs ls h147 h148 h149 h150; exact absurd h147 (by omega)
                 | succ n137 ihlp136 =>
                   intro x138 σ139 H locs ls h147 h148 h149 h150 f151 p152 q153 hP hS hl
                   obtain ⟨i154, i155, i156, w157, w158⟩ : (1 ≤ (σ139 55 10).toInt ∧ (σ139 55 10).toInt ≤ 8) ∧ (1 ≤ (σ139 55 12).toInt ∧ (σ139 55 12).toInt ≤ 12) ∧ (0 ≤ (σ139 55 13).toInt ∧ (σ139 55 13).toInt ≤ 999) ∧ (∀ k : Nat, k < 8 → 0 ≤ (σ139 62 k).toInt ∧ (σ139 62 k).toInt ≤ 3) ∧ (∀ k : Nat, k < 8 → 0 ≤ (σ139 67 k).toInt ∧ (σ139 67 k).toInt ≤ 3) := id p152
                   have z159 : (σ139 55 10).toInt = x18.toInt := (congrArg Int32.toInt (show σ139 55 10 = x18 from ((congrFun (f151 55 (of_decide_eq_true rfl)) 10).trans ((jkp 10 eσ135 (of_decide_eq_true rfl)).trans ((jkp 10 eσ134 (of_decide_eq_true rfl)).trans (jsp eσ133))))))
                   exact by
                    have z160 : (σ139 55 12).toInt = x70.toInt := (congrArg Int32.toInt (show σ139 55 12 = x70 from ((congrFun (f151 55 (of_decide_eq_true rfl)) 12).trans ((jkp 12 eσ135 (of_decide_eq_true rfl)).trans (jsp eσ134)))))
                    have z161 : (σ139 55 13).toInt = x87.toInt := (congrArg Int32.toInt (show σ139 55 13 = x87 from ((congrFun (f151 55 (of_decide_eq_true rfl)) 13).trans (jsp eσ135))))
                    refine lv_iload hx hb dX12_order_195 (lv_at hl 0 rfl) ?_
                    refine lv_iload_n hx hb dX12_order_197 rfl (lv_at hl 2 rfl) ?_
                    refine lv_icmp_ge (tgt := 221) hx hb dX12_order_198 (of_decide_eq_true rfl) (fun c162 => ?_) (fun c162 => ?_)
                    · have kc162 := jle c162 rfl rfl
                      refine lv_aload_n hx hb dX12_order_221 rfl (lv_at hl 1 rfl) ?_
                      refine lv_iconst (v := 0) hx hb dX12_order_222 (of_decide_eq_true rfl) ?_
                      refine jput (ty := .int) hx hb hts inlX12 tyX12 tyX12_ok nmX12 hown hK hP hJ hA hS (jc_55 cI cL ad σ139 τ) rfl (k := 47) (of_decide_eq_true rfl) (Nat.le_of_ble_eq_true rfl) (jp_55_47 cI cL ad σ139 τ 0) (hts _ kw_15_15) (fun _ h9 => h9) rfl (by decide +kernel) rfl rfl dX12_order_223 (fun σ163 H locs eσ163 hP hS => ?_)
                      refine lv_aload_n hx hb dX12_order_226 rfl (lv_at hl 1 rfl) ?_
                      refine va_get (D := D) hx hb hts inlX12 hown hK hP 55 (jc_55 cI cL ad σ163 τ) rfl 10 (of_decide_eq_true rfl) (hts _ kw_8_15) (fun _ h9 => h9) rfl dX12_order_227 ?_
                      have m164 : σ163 55 10 = x18 := ((jkp 10 eσ163 (of_decide_eq_true rfl)).trans ((congrFun (f151 55 (of_decide_eq_true rfl)) 10).trans ((jkp 10 eσ135 (of_decide_eq_true rfl)).trans ((jkp 10 eσ134 (of_decide_eq_true rfl)).trans (jsp eσ133)))))
                      refine jtopr m164 ?_
                      have z165 : (σ163 55 47).toInt = 0 := ((congrArg Int32.toInt (show σ163 55 47 = 0 from (jsp eσ163))).trans jz_0)
                      exact by
                       have p166 : jBook σ163 := jBook.nil (by omega)
                       have I167 : jI104 σ163 := jI104_fr (jkp 10 eσ163 (of_decide_eq_true rfl)) (jkp 12 eσ163 (of_decide_eq_true rfl)) (jkp 13 eσ163 (of_decide_eq_true rfl)) (jnp 62 eσ163 (of_decide_eq_true rfl)) (jnp 67 eσ163 (of_decide_eq_true rfl)) p152
                       have z168 : (σ163 55 15).toInt = 0 := ((congrArg Int32.toInt (show σ163 55 15 = 0 from ((jkp 15 eσ163 (of_decide_eq_true rfl)).trans ((congrFun (f151 55 (of_decide_eq_true rfl)) 15).trans ((jkp 15 eσ135 (of_decide_eq_true rfl)).trans ((jkp 15 eσ134 (of_decide_eq_true rfl)).trans ((jkp 15 eσ133 (of_decide_eq_true rfl)).trans (jsp eσ130)))))))).trans jz_0)
                       have w169 : ∀ k : Nat, k < 2 → (-1) ≤ (σ163 65 k).toInt ∧ (σ163 65 k).toInt ≤ 80 := (jrr_fr (jnp 65 eσ163 (of_decide_eq_true rfl)) (jrr_fr (f151 65 (of_decide_eq_true rfl)) (jrr_fr (jnp 65 eσ135 (of_decide_eq_true rfl)) (jrr_fr (jnp 65 eσ134 (of_decide_eq_true rfl)) (jrr_fr (jnp 65 eσ133 (of_decide_eq_true rfl)) (jrr_fr (jnp 65 eσ130 (of_decide_eq_true rfl)) (jrr_fr (f117 65 (of_decide_eq_true rfl)) (jrr_fr (f97 65 (of_decide_eq_true rfl)) (jrr_fr (f80 65 (of_decide_eq_true rfl)) (jrr_fr (f63 65 (of_decide_eq_true rfl)) (jrr_fr (f36 65 (of_decide_eq_true rfl)) (jrr_fr (jnp 65 eσ15 (of_decide_eq_true rfl)) (jrr_fr (jnp 65 eσ14 (of_decide_eq_true rfl)) (jrr_fr (jnp 65 eσ12 (of_decide_eq_true rfl)) (jrr_fr (jnp 65 eσ11 (of_decide_eq_true rfl)) w7)))))))))))))))
                       have I170 : jI105 σ163 := ⟨(by omega), w169⟩
                       have z171 : (σ163 55 12).toInt = x70.toInt := (congrArg Int32.toInt (show σ163 55 12 = x70 from ((jkp 12 eσ163 (of_decide_eq_true rfl)).trans ((congrFun (f151 55 (of_decide_eq_true rfl)) 12).trans ((jkp 12 eσ135 (of_decide_eq_true rfl)).trans (jsp eσ134))))))
                       have w172 : ∀ k : Nat, k < 12 → 0 ≤ (σ163 80 k).toInt ∧ (σ163 80 k).toInt ≤ 3 := (jrr_fr (jnp 80 eσ163 (of_decide_eq_true rfl)) (jrr_fr (f151 80 (of_decide_eq_true rfl)) (jrr_fr (jnp 80 eσ135 (of_decide_eq_true rfl)) (jrr_fr (jnp 80 eσ134 (of_decide_eq_true rfl)) (jrr_fr (jnp 80 eσ133 (of_decide_eq_true rfl)) (jrr_fr (jnp 80 eσ130 (of_decide_eq_true rfl)) (jrr_fr (f117 80 (of_decide_eq_true rfl)) (jrr_fr (f97 80 (of_decide_eq_true rfl)) (jrr_fr (f80 80 (of_decide_eq_true rfl)) (jrr_fr (f63 80 (of_decide_eq_true rfl)) (jrr_fr (f36 80 (of_decide_eq_true rfl)) (jrr_fr (jnp 80 eσ15 (of_decide_eq_true rfl)) (jrr_fr (jnp 80 eσ14 (of_decide_eq_true rfl)) (jrr_fr (jnp 80 eσ12 (of_decide_eq_true rfl)) (jrr_fr (jnp 80 eσ11 (of_decide_eq_true rfl)) w10)))))))))))))))
                       have I173 : jI107 σ163 := ⟨(by omega), (by omega), w172⟩
                       have z174 : (σ163 55 10).toInt = x18.toInt := (congrArg Int32.toInt (show σ163 55 10 = x18 from m164))
                       exact by
                        have z175 : (σ163 55 13).toInt = x87.toInt := (congrArg Int32.toInt (show σ163 55 13 = x87 from ((jkp 13 eσ163 (of_decide_eq_true rfl)).trans ((congrFun (f151 55 (of_decide_eq_true rfl)) 13).trans (jsp eσ135)))))
                        have z176 : (σ163 55 19).toInt = (σ88 55 19).toInt := (congrArg Int32.toInt (show σ163 55 19 = (σ88 55 19) from ((jkp 19 eσ163 (of_decide_eq_true rfl)).trans ((congrFun (f151 55 (of_decide_eq_true rfl)) 19).trans ((jkp 19 eσ135 (of_decide_eq_true rfl)).trans ((jkp 19 eσ134 (of_decide_eq_true rfl)).trans ((jkp 19 eσ133 (of_decide_eq_true rfl)).trans ((jkp 19 eσ130 (of_decide_eq_true rfl)).trans (f118 19 (of_decide_eq_true rfl))))))))))
                        have z177 : (σ163 55 21).toInt = (σ108 55 21).toInt := (congrArg Int32.toInt (show σ163 55 21 = (σ108 55 21) from ((jkp 21 eσ163 (of_decide_eq_true rfl)).trans ((congrFun (f151 55 (of_decide_eq_true rfl)) 21).trans ((jkp 21 eσ135 (of_decide_eq_true rfl)).trans ((jkp 21 eσ134 (of_decide_eq_true rfl)).trans ((jkp 21 eσ133 (of_decide_eq_true rfl)).trans m131)))))))
                        exact by exact hret x18 σ163 τ _ _ _ _ rfl ⟨rfl, (fun i hi => ((jnp i eσ163 (imp_221 i hi)).trans ((f151 i (imp_222 i hi)).trans ((jnp i eσ135 (imp_221 i hi)).trans ((jnp i eσ134 (imp_221 i hi)).trans ((jnp i eσ133 (imp_221 i hi)).trans ((jnp i eσ130 (imp_221 i hi)).trans ((f117 i (imp_223 i hi)).trans ((f97 i (imp_223 i hi)).trans ((f80 i (imp_223 i hi)).trans ((f63 i (imp_223 i hi)).trans ((f36 i (imp_224 i hi)).trans ((jnp i eσ15 (imp_221 i hi)).trans ((jnp i eσ14 (imp_221 i hi)).trans ((jnp i eσ12 (imp_221 i hi)).trans (jnp i eσ11 (imp_221 i hi))))))))))))))))), (fun i hi => ((jkp i eσ163 (imp_225 i hi)).trans ((congrFun (f151 55 (of_decide_eq_true rfl)) i).trans ((jkp i eσ135 (imp_226 i hi)).trans ((jkp i eσ134 (imp_227 i hi)).trans ((jkp i eσ133 (imp_228 i hi)).trans ((jkp i eσ130 (imp_229 i hi)).trans ((f118 i (imp_230 i hi)).trans ((f98 i (imp_231 i hi)).trans ((f81 i (imp_231 i hi)).trans ((f64 i (imp_230 i hi)).trans ((f37 i (imp_232 i hi)).trans ((jkp i eσ15 (imp_233 i hi)).trans ((jkp i eσ14 (imp_234 i hi)).trans ((jkp i eσ12 (imp_235 i hi)).trans (jkp i eσ11 (imp_236 i hi))))))))))))))))), I167, I170, I173, p166, ⟨x18.toInt, x70.toInt, x87.toInt, (σ108 55 21).toInt, ⟨q39.1, p123, y124, p125, y126, t127.1, t127.2, r128, d129⟩, Or.inr ⟨by omega, (by omega), by omega, by omega, by omega, (by rw [eσ163, jup_n (of_decide_eq_true rfl)]; exact jDv.so (g := σ135 67) (by rw [show σ135 67 = σ19 67 from ((jnp 67 eσ135 (of_decide_eq_true rfl)).trans ((jnp 67 eσ134 (of_decide_eq_true rfl)).trans ((jnp 67 eσ133 (of_decide_eq_true rfl)).trans ((jnp 67 eσ130 (of_decide_eq_true rfl)).trans ((f117 67 (of_decide_eq_true rfl)).trans ((f97 67 (of_decide_eq_true rfl)).trans ((f80 67 (of_decide_eq_true rfl)).trans (f63 67 (of_decide_eq_true rfl)))))))))]; exact q39.2) (by rw [show x18.toInt = x138.toInt by omega]; exact q153))⟩⟩, (by omega), Or.inr (⟨trivial, (by omega), (by omega)⟩)⟩ hP hS dX12_order_230
                    · have kc162 := jnle c162 rfl rfl
                      refine lv_aload_n hx hb dX12_order_201 rfl (lv_at hl 1 rfl) ?_
                      refine va_get (D := D) hx hb hts inlX12 hown hK hP 55 (jc_55 cI cL ad σ139 τ) rfl 11 (of_decide_eq_true rfl) (hts _ kw_7_8) (fun _ h9 => h9) rfl dX12_order_202 ?_
                      refine lv_iload hx hb dX12_order_205 (lv_at hl 0 rfl) ?_
                      refine lv_aload_n hx hb dX12_order_207 rfl (lv_at hl 1 rfl) ?_
                      refine va_get (D := D) hx hb hts inlX12 hown hK hP 55 (jc_55 cI cL ad σ139 τ) rfl 24 (of_decide_eq_true rfl) (hts _ kw_7_13) (fun _ h9 => h9) rfl dX12_order_208 ?_
                      refine lv_iload hx hb dX12_order_211 (lv_at hl 0 rfl) ?_
                      exact by
                       refine jald hx hb hK hP (jc_67 cI cL ad σ139 τ) (jin rfl (by omega) (by omega)) dX12_order_213 ?_
                       have g178 := w158 _ (jnat (x := x138) rfl (n := 8) (by omega) (of_decide_eq_true rfl))
                       refine jtopr (y := (σ19 67 x138.toNatClampNeg)) (by rw [f151 67 (of_decide_eq_true rfl), jnp 67 eσ135 (of_decide_eq_true rfl), jnp 67 eσ134 (of_decide_eq_true rfl), jnp 67 eσ133 (of_decide_eq_true rfl), jnp 67 eσ130 (of_decide_eq_true rfl), f117 67 (of_decide_eq_true rfl), f97 67 (of_decide_eq_true rfl), f80 67 (of_decide_eq_true rfl), f63 67 (of_decide_eq_true rfl)]) ?_
                       rw [f151 67 (of_decide_eq_true rfl), jnp 67 eσ135 (of_decide_eq_true rfl), jnp 67 eσ134 (of_decide_eq_true rfl), jnp 67 eσ133 (of_decide_eq_true rfl), jnp 67 eσ130 (of_decide_eq_true rfl), f117 67 (of_decide_eq_true rfl), f97 67 (of_decide_eq_true rfl), f80 67 (of_decide_eq_true rfl), f63 67 (of_decide_eq_true rfl)] at g178
                       refine jast hx hb hK hP hJ hA hS (jc_62 cI cL ad σ139 τ) (ja_62 cI cL ad σ139 τ _ _) (jin rfl (by omega) (by omega)) dX12_order_214 (fun σ179 H locs eσ179 hP hS => ?_)
                       obtain ⟨x180, ex180⟩ : ∃ y : Int32, y = x138 + 1 := ⟨_, rfl⟩
                       have tx180 : x180.toInt = x138.toInt + 1 := (jadd ex180 rfl jz_1 (by omega) (by omega)).trans (by omega)
                       refine lv_iinc (v := x180) (lv' := [(4, .int x180), (0, .ref (ad 55)), (1, .int x18), (2, .int x70), (3, .int x87)]) hx hb dX12_order_215 hl (k := 0) rfl (by rw [ex180]; rfl) (of_decide_eq_true rfl) rfl (fun ls hl => ?_)
                       refine lv_goto (tgt := 195) hx hb dX12_order_218 (of_decide_eq_true rfl) ?_
                       exact by
                        have z181 : (σ179 55 10).toInt = x18.toInt := (congrArg Int32.toInt (show σ179 55 10 = x18 from ((congrFun (jnp 55 eσ179 (of_decide_eq_true rfl)) 10).trans ((congrFun (f151 55 (of_decide_eq_true rfl)) 10).trans ((jkp 10 eσ135 (of_decide_eq_true rfl)).trans ((jkp 10 eσ134 (of_decide_eq_true rfl)).trans (jsp eσ133)))))))
                        have z182 : (σ179 55 12).toInt = x70.toInt := (congrArg Int32.toInt (show σ179 55 12 = x70 from ((congrFun (jnp 55 eσ179 (of_decide_eq_true rfl)) 12).trans ((congrFun (f151 55 (of_decide_eq_true rfl)) 12).trans ((jkp 12 eσ135 (of_decide_eq_true rfl)).trans (jsp eσ134))))))
                        have z183 : (σ179 55 13).toInt = x87.toInt := (congrArg Int32.toInt (show σ179 55 13 = x87 from ((congrFun (jnp 55 eσ179 (of_decide_eq_true rfl)) 13).trans ((congrFun (f151 55 (of_decide_eq_true rfl)) 13).trans (jsp eσ135)))))
                        have w184 : ∀ k : Nat, k < 8 → 0 ≤ (σ179 62 k).toInt ∧ (σ179 62 k).toInt ≤ 3 := (by rw [eσ179]; exact jrr_up w157 (by omega) (by omega))
                        have w185 : ∀ k : Nat, k < 8 → 0 ≤ (σ179 67 k).toInt ∧ (σ179 67 k).toInt ≤ 3 := (jrr_fr (jnp 67 eσ179 (of_decide_eq_true rfl)) w158)
                        have I186 : jI104 σ179 := ⟨(by omega), (by omega), (by omega), w184, w185⟩
                        exact by exact ihlp136 x180 σ179 _ _ ls (by have h90 := tx180; omega) (by have h90 := tx180; omega) (by have h90 := tx180; omega) (by have h90 := tx180; omega) (fun i hi => ((jnp i eσ179 (imp_237 i hi)).trans (f151 i hi)))   I186 (jSo.step q153 (by omega) (by rw [eσ179, jup_row, jnc (rfl : x138.toInt = x138.toInt)]) (by omega) (by rw [show σ135 67 = σ19 67 from ((jnp 67 eσ135 (of_decide_eq_true rfl)).trans ((jnp 67 eσ134 (of_decide_eq_true rfl)).trans ((jnp 67 eσ133 (of_decide_eq_true rfl)).trans ((jnp 67 eσ130 (of_decide_eq_true rfl)).trans ((f117 67 (of_decide_eq_true rfl)).trans ((f97 67 (of_decide_eq_true rfl)).trans ((f80 67 (of_decide_eq_true rfl)).trans (f63 67 (of_decide_eq_true rfl)))))))))]; (try rw [jnc (show x138.toInt = x138.toInt by omega)]); try rfl) (by have h9 := tx180; omega)) hP hS (lv_sub hl [0, 1, 2, 3, 4] rfl)
               exact by exact lp136 1000000 0 σ135 _ _ ls (by have h90 := jz_0; omega) (by have h90 := jz_0; omega) (by have h90 := jz_0; omega) (by have h90 := jz_0; omega) (fun _ _ => rfl)  I145 (jSo.first (by have h9 := jz_0; omega)) hP hS hl
            · have kc132 := jnlt c132 rfl jz_0
              exact by
               refine lv_bipush (v := (-100)) hx hb dX12_order_169 (of_decide_eq_true rfl) ?_
               refine lv_aload_n hx hb dX12_order_171 rfl (lv_at hl 0 rfl) ?_
               refine va_get (D := D) hx hb hts inlX12 hown hK hP 55 (jc_55 cI cL ad σ130 τ) rfl 21 (of_decide_eq_true rfl) (hts _ kw_15_13) (fun _ h9 => h9) rfl dX12_order_172 ?_
               refine jtopr m131 ?_
               have g187 := jrg (rfl : (σ108 55 21).toInt = (σ108 55 21).toInt)
               refine lv_isub hx hb dX12_order_175 ?_
               refine lv_topi (fun x188 ex188 => ?_)
               have tx188 : x188.toInt = -(σ108 55 21).toInt - 100 := (jsub ex188 jz_m100 rfl (by omega) (by omega)).trans (by omega)
               have I189 : jI104 σ130 := jI104_fr ((jkp 10 eσ130 (of_decide_eq_true rfl)).trans ((f118 10 (of_decide_eq_true rfl)).trans ((f98 10 (of_decide_eq_true rfl)).trans ((f81 10 (of_decide_eq_true rfl)).trans (f64 10 (of_decide_eq_true rfl)))))) ((jkp 12 eσ130 (of_decide_eq_true rfl)).trans ((f118 12 (of_decide_eq_true rfl)).trans ((f98 12 (of_decide_eq_true rfl)).trans ((f81 12 (of_decide_eq_true rfl)).trans (f64 12 (of_decide_eq_true rfl)))))) ((jkp 13 eσ130 (of_decide_eq_true rfl)).trans ((f118 13 (of_decide_eq_true rfl)).trans ((f98 13 (of_decide_eq_true rfl)).trans ((f81 13 (of_decide_eq_true rfl)).trans (f64 13 (of_decide_eq_true rfl)))))) ((jnp 62 eσ130 (of_decide_eq_true rfl)).trans ((f117 62 (of_decide_eq_true rfl)).trans ((f97 62 (of_decide_eq_true rfl)).trans ((f80 62 (of_decide_eq_true rfl)).trans (f63 62 (of_decide_eq_true rfl)))))) ((jnp 67 eσ130 (of_decide_eq_true rfl)).trans ((f117 67 (of_decide_eq_true rfl)).trans ((f97 67 (of_decide_eq_true rfl)).trans ((f80 67 (of_decide_eq_true rfl)).trans (f63 67 (of_decide_eq_true rfl)))))) p38
               exact by
                have z190 : (σ130 55 15).toInt = 0 := ((congrArg Int32.toInt (show σ130 55 15 = 0 from (jsp eσ130))).trans jz_0)
                have w191 : ∀ k : Nat, k < 2 → (-1) ≤ (σ130 65 k).toInt ∧ (σ130 65 k).toInt ≤ 80 := (jrr_fr (jnp 65 eσ130 (of_decide_eq_true rfl)) (jrr_fr (f117 65 (of_decide_eq_true rfl)) (jrr_fr (f97 65 (of_decide_eq_true rfl)) (jrr_fr (f80 65 (of_decide_eq_true rfl)) (jrr_fr (f63 65 (of_decide_eq_true rfl)) (jrr_fr (f36 65 (of_decide_eq_true rfl)) (jrr_fr (jnp 65 eσ15 (of_decide_eq_true rfl)) (jrr_fr (jnp 65 eσ14 (of_decide_eq_true rfl)) (jrr_fr (jnp 65 eσ12 (of_decide_eq_true rfl)) (jrr_fr (jnp 65 eσ11 (of_decide_eq_true rfl)) w7))))))))))
                have I192 : jI105 σ130 := ⟨(by omega), w191⟩
                have I193 : jI107 σ130 := jI107_fr ((jkp 12 eσ130 (of_decide_eq_true rfl)).trans ((f118 12 (of_decide_eq_true rfl)).trans ((f98 12 (of_decide_eq_true rfl)).trans ((f81 12 (of_decide_eq_true rfl)).trans ((f64 12 (of_decide_eq_true rfl)).trans ((f37 12 (of_decide_eq_true rfl)).trans ((jkp 12 eσ15 (of_decide_eq_true rfl)).trans ((jkp 12 eσ14 (of_decide_eq_true rfl)).trans ((jkp 12 eσ12 (of_decide_eq_true rfl)).trans (jkp 12 eσ11 (of_decide_eq_true rfl))))))))))) ((jkp 47 eσ130 (of_decide_eq_true rfl)).trans ((f118 47 (of_decide_eq_true rfl)).trans ((f98 47 (of_decide_eq_true rfl)).trans ((f81 47 (of_decide_eq_true rfl)).trans ((f64 47 (of_decide_eq_true rfl)).trans ((f37 47 (of_decide_eq_true rfl)).trans ((jkp 47 eσ15 (of_decide_eq_true rfl)).trans ((jkp 47 eσ14 (of_decide_eq_true rfl)).trans ((jkp 47 eσ12 (of_decide_eq_true rfl)).trans (jkp 47 eσ11 (of_decide_eq_true rfl))))))))))) ((jnp 80 eσ130 (of_decide_eq_true rfl)).trans ((f117 80 (of_decide_eq_true rfl)).trans ((f97 80 (of_decide_eq_true rfl)).trans ((f80 80 (of_decide_eq_true rfl)).trans ((f63 80 (of_decide_eq_true rfl)).trans ((f36 80 (of_decide_eq_true rfl)).trans ((jnp 80 eσ15 (of_decide_eq_true rfl)).trans ((jnp 80 eσ14 (of_decide_eq_true rfl)).trans ((jnp 80 eσ12 (of_decide_eq_true rfl)).trans (jnp 80 eσ11 (of_decide_eq_true rfl))))))))))) hI107
                have p194 : jBook σ130 := jBook.fr ((jkp 47 eσ130 (of_decide_eq_true rfl)).trans ((f118 47 (of_decide_eq_true rfl)).trans ((f98 47 (of_decide_eq_true rfl)).trans ((f81 47 (of_decide_eq_true rfl)).trans ((f64 47 (of_decide_eq_true rfl)).trans ((f37 47 (of_decide_eq_true rfl)).trans ((jkp 47 eσ15 (of_decide_eq_true rfl)).trans ((jkp 47 eσ14 (of_decide_eq_true rfl)).trans ((jkp 47 eσ12 (of_decide_eq_true rfl)).trans (jkp 47 eσ11 (of_decide_eq_true rfl))))))))))) ((jkp 10 eσ130 (of_decide_eq_true rfl)).trans ((f118 10 (of_decide_eq_true rfl)).trans ((f98 10 (of_decide_eq_true rfl)).trans ((f81 10 (of_decide_eq_true rfl)).trans ((f64 10 (of_decide_eq_true rfl)).trans ((f37 10 (of_decide_eq_true rfl)).trans ((jkp 10 eσ15 (of_decide_eq_true rfl)).trans ((jkp 10 eσ14 (of_decide_eq_true rfl)).trans ((jkp 10 eσ12 (of_decide_eq_true rfl)).trans (jkp 10 eσ11 (of_decide_eq_true rfl))))))))))) ((jnp 81 eσ130 (of_decide_eq_true rfl)).trans ((f117 81 (of_decide_eq_true rfl)).trans ((f97 81 (of_decide_eq_true rfl)).trans ((f80 81 (of_decide_eq_true rfl)).trans ((f63 81 (of_decide_eq_true rfl)).trans ((f36 81 (of_decide_eq_true rfl)).trans ((jnp 81 eσ15 (of_decide_eq_true rfl)).trans ((jnp 81 eσ14 (of_decide_eq_true rfl)).trans ((jnp 81 eσ12 (of_decide_eq_true rfl)).trans (jnp 81 eσ11 (of_decide_eq_true rfl))))))))))) hs_jBook
                have z195 : (σ130 55 10).toInt = (σ 55 10).toInt := (congrArg Int32.toInt (show σ130 55 10 = (σ 55 10) from ((jkp 10 eσ130 (of_decide_eq_true rfl)).trans ((f118 10 (of_decide_eq_true rfl)).trans ((f98 10 (of_decide_eq_true rfl)).trans ((f81 10 (of_decide_eq_true rfl)).trans ((f64 10 (of_decide_eq_true rfl)).trans ((f37 10 (of_decide_eq_true rfl)).trans ((jkp 10 eσ15 (of_decide_eq_true rfl)).trans ((jkp 10 eσ14 (of_decide_eq_true rfl)).trans ((jkp 10 eσ12 (of_decide_eq_true rfl)).trans (jkp 10 eσ11 (of_decide_eq_true rfl)))))))))))))
                have z196 : (σ130 55 12).toInt = (σ 55 12).toInt := (congrArg Int32.toInt (show σ130 55 12 = (σ 55 12) from ((jkp 12 eσ130 (of_decide_eq_true rfl)).trans ((f118 12 (of_decide_eq_true rfl)).trans ((f98 12 (of_decide_eq_true rfl)).trans ((f81 12 (of_decide_eq_true rfl)).trans ((f64 12 (of_decide_eq_true rfl)).trans ((f37 12 (of_decide_eq_true rfl)).trans ((jkp 12 eσ15 (of_decide_eq_true rfl)).trans ((jkp 12 eσ14 (of_decide_eq_true rfl)).trans ((jkp 12 eσ12 (of_decide_eq_true rfl)).trans (jkp 12 eσ11 (of_decide_eq_true rfl)))))))))))))
                have z197 : (σ130 55 13).toInt = (σ 55 13).toInt := (congrArg Int32.toInt (show σ130 55 13 = (σ 55 13) from ((jkp 13 eσ130 (of_decide_eq_true rfl)).trans ((f118 13 (of_decide_eq_true rfl)).trans ((f98 13 (of_decide_eq_true rfl)).trans ((f81 13 (of_decide_eq_true rfl)).trans ((f64 13 (of_decide_eq_true rfl)).trans ((f37 13 (of_decide_eq_true rfl)).trans ((jkp 13 eσ15 (of_decide_eq_true rfl)).trans ((jkp 13 eσ14 (of_decide_eq_true rfl)).trans ((jkp 13 eσ12 (of_decide_eq_true rfl)).trans (jkp 13 eσ11 (of_decide_eq_true rfl)))))))))))))
                have z198 : (σ130 55 19).toInt = (σ88 55 19).toInt := (congrArg Int32.toInt (show σ130 55 19 = (σ88 55 19) from ((jkp 19 eσ130 (of_decide_eq_true rfl)).trans (f118 19 (of_decide_eq_true rfl)))))
                exact by
                 have z199 : (σ130 55 21).toInt = (σ108 55 21).toInt := (congrArg Int32.toInt (show σ130 55 21 = (σ108 55 21) from m131))
                 have z200 : (σ130 55 47).toInt = (σ 55 47).toInt := (congrArg Int32.toInt (show σ130 55 47 = (σ 55 47) from ((jkp 47 eσ130 (of_decide_eq_true rfl)).trans ((f118 47 (of_decide_eq_true rfl)).trans ((f98 47 (of_decide_eq_true rfl)).trans ((f81 47 (of_decide_eq_true rfl)).trans ((f64 47 (of_decide_eq_true rfl)).trans ((f37 47 (of_decide_eq_true rfl)).trans ((jkp 47 eσ15 (of_decide_eq_true rfl)).trans ((jkp 47 eσ14 (of_decide_eq_true rfl)).trans ((jkp 47 eσ12 (of_decide_eq_true rfl)).trans (jkp 47 eσ11 (of_decide_eq_true rfl)))))))))))))
                 exact by exact hret x188 σ130 τ _ _ _ _ rfl ⟨rfl, (fun i hi => ((jnp i eσ130 (imp_221 i hi)).trans ((f117 i (imp_223 i hi)).trans ((f97 i (imp_223 i hi)).trans ((f80 i (imp_223 i hi)).trans ((f63 i (imp_223 i hi)).trans ((f36 i (imp_224 i hi)).trans ((jnp i eσ15 (imp_221 i hi)).trans ((jnp i eσ14 (imp_221 i hi)).trans ((jnp i eσ12 (imp_221 i hi)).trans (jnp i eσ11 (imp_221 i hi)))))))))))), (fun i hi => ((jkp i eσ130 (imp_229 i hi)).trans ((f118 i (imp_230 i hi)).trans ((f98 i (imp_231 i hi)).trans ((f81 i (imp_231 i hi)).trans ((f64 i (imp_230 i hi)).trans ((f37 i (imp_232 i hi)).trans ((jkp i eσ15 (imp_233 i hi)).trans ((jkp i eσ14 (imp_234 i hi)).trans ((jkp i eσ12 (imp_235 i hi)).trans (jkp i eσ11 (imp_236 i hi)))))))))))), I189, I192, I193, p194, ⟨x18.toInt, x70.toInt, x87.toInt, (σ108 55 21).toInt, ⟨q39.1, p123, y124, p125, y126, t127.1, t127.2, r128, d129⟩, Or.inl ⟨by omega, (by have h9 := tx188; omega), by omega, by omega, by omega, ((jnp 62 eσ130 (of_decide_eq_true rfl)).trans ((f117 62 (of_decide_eq_true rfl)).trans ((f97 62 (of_decide_eq_true rfl)).trans ((f80 62 (of_decide_eq_true rfl)).trans ((f63 62 (of_decide_eq_true rfl)).trans ((f36 62 (of_decide_eq_true rfl)).trans ((jnp 62 eσ15 (of_decide_eq_true rfl)).trans ((jnp 62 eσ14 (of_decide_eq_true rfl)).trans ((jnp 62 eσ12 (of_decide_eq_true rfl)).trans (jnp 62 eσ11 (of_decide_eq_true rfl)))))))))))⟩⟩, (by omega), Or.inl ⟨trivial, (by have h9 := tx188; omega), (by have h9 := tx188; omega)⟩⟩ hP hS dX12_order_176
          refine lv_aload_n hx hb dX12_order_133 rfl (lv_at hl 0 rfl) ?_
          refine va_get (D := D) hx hb hts inlX12 hown hK hP 55 (jc_55 cI cL ad σ88 τ) rfl 21 (of_decide_eq_true rfl) (hts _ kw_15_13) (fun _ h9 => h9) rfl dX12_order_134 ?_
          refine lv_if_ge (tgt := 157) hx hb dX12_order_137 (of_decide_eq_true rfl) (fun c201 => ?_) (fun c201 => ?_)
          · have kc201 := jle c201 jz_0 rfl
            exact by exact lp106  σ88 _ _ ls (by omega) (by omega) (by omega) (by omega) (by omega) (by omega) (by omega) (fun i hi => rfl) (fun i hi => rfl)  ⟨p102, y103, (σ88 55 19).toInt, (σ88 55 21).toInt, t104, r105, (by omega)⟩ hP hS (lv_sub hl [0, 1, 2, 3] rfl)
          · have kc201 := jnle c201 jz_0 rfl
            refine lv_aload_n hx hb dX12_order_140 rfl (lv_at hl 0 rfl) ?_
            refine va_get (D := D) hx hb hts inlX12 hown hK hP 55 (jc_55 cI cL ad σ88 τ) rfl 19 (of_decide_eq_true rfl) (hts _ kw_15_11) (fun _ h9 => h9) rfl dX12_order_141 ?_
            refine lv_aload_n hx hb dX12_order_144 rfl (lv_at hl 0 rfl) ?_
            refine va_get (D := D) hx hb hts inlX12 hown hK hP 55 (jc_55 cI cL ad σ88 τ) rfl 20 (of_decide_eq_true rfl) (hts _ kw_15_12) (fun _ h9 => h9) rfl dX12_order_145 ?_
            have m202 : σ88 55 20 = (σ 55 15) := ((f98 20 (of_decide_eq_true rfl)).trans ((f81 20 (of_decide_eq_true rfl)).trans ((f64 20 (of_decide_eq_true rfl)).trans ((f37 20 (of_decide_eq_true rfl)).trans ((jkp 20 eσ15 (of_decide_eq_true rfl)).trans (jsp eσ14))))))
            refine jtopr m202 ?_
            refine lv_icmp_ge (tgt := 157) hx hb dX12_order_148 (of_decide_eq_true rfl) (fun c203 => ?_) (fun c203 => ?_)
            · have kc203 := jle c203 rfl rfl
              exact by exact lp106  σ88 _ _ ls (by omega) (by omega) (by omega) (by omega) (by omega) (by omega) (by omega) (fun i hi => rfl) (fun i hi => rfl)  ⟨p102, y103, (σ88 55 19).toInt, (σ88 55 21).toInt, t104, r105, (by omega)⟩ hP hS (lv_sub hl [0, 1, 2, 3] rfl)
            · have kc203 := jnle c203 rfl rfl
              refine lv_aload_n hx hb dX12_order_151 rfl (lv_at hl 0 rfl) ?_
              exact by
               have I204 : jI121 σ88 := ⟨(by omega), (by omega), (by omega), (by omega), (by omega)⟩
               refine jcallV (As := []) (rest := []) ⟨hx, hb, hml, hown, hts⟩ hK hP hA hS hZ (c_X12_wrong l D cI cL ad zz hJ σ88 τ I204) cw_RX12_214 (jc_55 cI cL ad σ88 τ) rfl ⟨Nat.le_of_ble_eq_true rfl, Nat.le_of_ble_eq_true rfl⟩ rfl rfl rfl hl.1 rfl (Nat.le_of_ble_eq_true rfl) dX12_order_152 ⟨Nat.zero_le _, Nat.zero_le _⟩ (fun r206 σ205 τ205 H locs h205 hP hS => ?_)
               obtain ⟨rfl, f207, f208, I209, h205⟩ := h205
               obtain ⟨i211, i212, i213, i214, i215⟩ : ((-1) ≤ (σ205 55 18).toInt ∧ (σ205 55 18).toInt ≤ 80) ∧ (0 ≤ (σ205 55 19).toInt) ∧ ((σ205 55 19).toInt ≤ (σ205 55 20).toInt) ∧ ((σ205 55 20).toInt ≤ 80) ∧ ((-1) ≤ (σ205 55 21).toInt ∧ (σ205 55 21).toInt ≤ 80) := id I209
               have z216 : (σ205 55 18).toInt = (-1) := ((congrArg Int32.toInt (show σ205 55 18 = (-1) from ((f208 18 (of_decide_eq_true rfl)).trans ((f98 18 (of_decide_eq_true rfl)).trans ((f81 18 (of_decide_eq_true rfl)).trans ((f64 18 (of_decide_eq_true rfl)).trans ((f37 18 (of_decide_eq_true rfl)).trans ((jkp 18 eσ15 (of_decide_eq_true rfl)).trans ((jkp 18 eσ14 (of_decide_eq_true rfl)).trans ((jkp 18 eσ12 (of_decide_eq_true rfl)).trans (jsp eσ11))))))))))).trans jz_m1)
               have z217 : (σ205 55 19).toInt = (σ88 55 19).toInt := (congrArg Int32.toInt (show σ205 55 19 = (σ88 55 19) from (f208 19 (of_decide_eq_true rfl))))
               have z218 : (σ205 55 20).toInt = (σ 55 15).toInt := (congrArg Int32.toInt (show σ205 55 20 = (σ 55 15) from ((f208 20 (of_decide_eq_true rfl)).trans m202)))
               obtain ⟨k219, k220, h205⟩ := h205
               have h221 := h205
               obtain ⟨q223, k222⟩ := h221
               have q223 := q223.symm
               subst q223
               refine lv_istore (lv' := [(4, .int 0), (0, .ref (ad 55)), (1, .int x18), (2, .int x70), (3, .int x87)]) hx hb dX12_order_155 hl (of_decide_eq_true rfl) rfl (fun ls hl => ?_)
               exact by exact lp106  σ205 _ _ ls (by omega) (by omega) (by omega) (by omega) (by omega) (by omega) (by omega) (fun i hi => (f207 i hi)) (fun i hi => (f208 i hi))  ⟨p102, y103, (σ88 55 19).toInt, (σ88 55 21).toInt, t104, r105, (by omega)⟩ hP hS (lv_sub hl [1, 2, 3, 4] rfl)
        refine lv_aload_n hx hb dX12_order_110 rfl (lv_at hl 0 rfl) ?_
        refine lv_bipush (v := 114) hx hb dX12_order_111 (of_decide_eq_true rfl) ?_
        exact by
         have I224 : jI121 σ71 := ⟨(by omega), (by omega), (by omega), (by omega), (by omega)⟩
         refine jcallV (As := [.int 114]) (rest := []) ⟨hx, hb, hml, hown, hts⟩ hK hP hA hS hZ (c_X12_takes_t l D cI cL ad zz hJ σ71 τ 114 (114) jz_114 I224 (by omega) (by omega)) cw_RX12_196 (jc_55 cI cL ad σ71 τ) rfl ⟨Nat.le_of_ble_eq_true rfl, Nat.le_of_ble_eq_true rfl⟩ rfl rfl rfl hl.1 rfl (Nat.le_of_ble_eq_true rfl) dX12_order_113 ⟨Nat.zero_le _, Nat.zero_le _⟩ (fun r226 σ225 τ225 H locs h225 hP hS => ?_)
         obtain ⟨rfl, f227, f228, I229, h225⟩ := h225
         obtain ⟨i231, i232, i233, i234, i235⟩ : ((-1) ≤ (σ225 55 18).toInt ∧ (σ225 55 18).toInt ≤ 80) ∧ (0 ≤ (σ225 55 19).toInt) ∧ ((σ225 55 19).toInt ≤ (σ225 55 20).toInt) ∧ ((σ225 55 20).toInt ≤ 80) ∧ ((-1) ≤ (σ225 55 21).toInt ∧ (σ225 55 21).toInt ≤ 80) := id I229
         have z236 : (σ225 55 18).toInt = (-1) := ((congrArg Int32.toInt (show σ225 55 18 = (-1) from ((f228 18 (of_decide_eq_true rfl)).trans ((f81 18 (of_decide_eq_true rfl)).trans ((f64 18 (of_decide_eq_true rfl)).trans ((f37 18 (of_decide_eq_true rfl)).trans ((jkp 18 eσ15 (of_decide_eq_true rfl)).trans ((jkp 18 eσ14 (of_decide_eq_true rfl)).trans ((jkp 18 eσ12 (of_decide_eq_true rfl)).trans (jsp eσ11)))))))))).trans jz_m1)
         have z237 : (σ225 55 20).toInt = (σ 55 15).toInt := (congrArg Int32.toInt (show σ225 55 20 = (σ 55 15) from ((f228 20 (of_decide_eq_true rfl)).trans ((f81 20 (of_decide_eq_true rfl)).trans ((f64 20 (of_decide_eq_true rfl)).trans ((f37 20 (of_decide_eq_true rfl)).trans ((jkp 20 eσ15 (of_decide_eq_true rfl)).trans (jsp eσ14))))))))
         have z238 : (σ225 55 21).toInt = (σ71 55 21).toInt := (congrArg Int32.toInt (show σ225 55 21 = (σ71 55 21) from (f228 21 (of_decide_eq_true rfl))))
         rcases h225 with h239 | h240
         · obtain ⟨q244, k241, k242, k243⟩ := h239
           exact by
            have q244 := q244.symm
            subst q244
            rw [show (σ71 55 20).toInt = (σ 55 15).toInt from by omega, show σ71 63 = σ 63 from by rw [f80 63 (of_decide_eq_true rfl), f63 63 (of_decide_eq_true rfl), f36 63 (of_decide_eq_true rfl), jnp 63 eσ15 (of_decide_eq_true rfl), jnp 63 eσ14 (of_decide_eq_true rfl), jnp 63 eσ12 (of_decide_eq_true rfl), jnp 63 eσ11 (of_decide_eq_true rfl)]] at k243
            refine lv_if_eq (tgt := 131) hx hb dX12_order_116 (of_decide_eq_true rfl) (fun c => absurd c (of_decide_eq_true rfl)) (fun _ => ?_)
            refine lv_aload_n hx hb dX12_order_119 rfl (lv_at hl 0 rfl) ?_
            refine lv_iconst (v := 3) hx hb dX12_order_120 (of_decide_eq_true rfl) ?_
            refine lv_iconst (v := 0) hx hb dX12_order_121 (of_decide_eq_true rfl) ?_
            refine lv_sipush (v := 999) hx hb dX12_order_122 (of_decide_eq_true rfl) ?_
            refine jcallV (As := [.int 3, .int 0, .int 999]) (rest := []) ⟨hx, hb, hml, hown, hts⟩ hK hP hA hS hZ (c_X12_numberRead_3 l D cI cL ad zz hJ σ225 τ I229 (by omega) (by omega)) cw_RX12_227 (jc_55 cI cL ad σ225 τ) rfl ⟨Nat.le_of_ble_eq_true rfl, Nat.le_of_ble_eq_true rfl⟩ rfl rfl rfl hl.1 rfl (Nat.le_of_ble_eq_true rfl) dX12_order_125 ⟨Nat.zero_le _, Nat.zero_le _⟩ (fun r246 σ245 τ245 H locs h245 hP hS => ?_)
            exact by
             obtain ⟨rfl, f247, f248, I249, h245⟩ := h245
             obtain ⟨i251, i252, i253, i254, i255⟩ : ((-1) ≤ (σ245 55 18).toInt ∧ (σ245 55 18).toInt ≤ 80) ∧ (0 ≤ (σ245 55 19).toInt) ∧ ((σ245 55 19).toInt ≤ (σ245 55 20).toInt) ∧ ((σ245 55 20).toInt ≤ 80) ∧ ((-1) ≤ (σ245 55 21).toInt ∧ (σ245 55 21).toInt ≤ 80) := id I249
             have z256 : (σ245 55 18).toInt = (-1) := ((congrArg Int32.toInt (show σ245 55 18 = (-1) from ((f248 18 (of_decide_eq_true rfl)).trans ((f228 18 (of_decide_eq_true rfl)).trans ((f81 18 (of_decide_eq_true rfl)).trans ((f64 18 (of_decide_eq_true rfl)).trans ((f37 18 (of_decide_eq_true rfl)).trans ((jkp 18 eσ15 (of_decide_eq_true rfl)).trans ((jkp 18 eσ14 (of_decide_eq_true rfl)).trans ((jkp 18 eσ12 (of_decide_eq_true rfl)).trans (jsp eσ11))))))))))).trans jz_m1)
             have z257 : (σ245 55 20).toInt = (σ 55 15).toInt := (congrArg Int32.toInt (show σ245 55 20 = (σ 55 15) from ((f248 20 (of_decide_eq_true rfl)).trans ((f228 20 (of_decide_eq_true rfl)).trans ((f81 20 (of_decide_eq_true rfl)).trans ((f64 20 (of_decide_eq_true rfl)).trans ((f37 20 (of_decide_eq_true rfl)).trans ((jkp 20 eσ15 (of_decide_eq_true rfl)).trans (jsp eσ14)))))))))
             have h258 := h245
             obtain ⟨q261, k259, k260⟩ := h258
             obtain ⟨q262, v263, n264, k265⟩ := k260
             rw [show (σ225 55 19).toInt = (σ71 55 19).toInt + 1 from by omega, show (σ225 55 20).toInt = (σ 55 15).toInt from by omega, show σ225 63 = σ 63 from by rw [f227 63 (of_decide_eq_true rfl), f80 63 (of_decide_eq_true rfl), f63 63 (of_decide_eq_true rfl), f36 63 (of_decide_eq_true rfl), jnp 63 eσ15 (of_decide_eq_true rfl), jnp 63 eσ14 (of_decide_eq_true rfl), jnp 63 eσ12 (of_decide_eq_true rfl), jnp 63 eσ11 (of_decide_eq_true rfl)]] at n264
             refine lv_goto (tgt := 132) hx hb dX12_order_128 (of_decide_eq_true rfl) ?_
             refine lv_istore_n (lv' := [(3, .int r246), (0, .ref (ad 55)), (1, .int x18), (2, .int x70)]) hx hb dX12_order_132 rfl hl (of_decide_eq_true rfl) rfl (fun ls hl => ?_)
             have g267 := jNb_bd n264
             exact by exact lp85 r246 σ245 _ _ ls (by omega) (by omega) (by omega) (by omega) (by omega) (by omega) (by omega) (fun i hi => ((f247 i hi).trans (f227 i hi))) (fun i hi => ((f248 i hi).trans (f228 i (imp_238 i hi))))  ⟨(σ71 55 19).toInt, (σ71 55 21).toInt, q82, Or.inr (Or.inr ⟨by omega, k243, q262, v263, n264, (by omega)⟩)⟩ hP hS (lv_sub hl [1, 2, 3, 0] rfl)
         · obtain ⟨q270, k268, k269⟩ := h240
           have q270 := q270.symm
           subst q270
           rw [show (σ71 55 20).toInt = (σ 55 15).toInt from by omega, show σ71 63 = σ 63 from by rw [f80 63 (of_decide_eq_true rfl), f63 63 (of_decide_eq_true rfl), f36 63 (of_decide_eq_true rfl), jnp 63 eσ15 (of_decide_eq_true rfl), jnp 63 eσ14 (of_decide_eq_true rfl), jnp 63 eσ12 (of_decide_eq_true rfl), jnp 63 eσ11 (of_decide_eq_true rfl)]] at k269
           refine lv_if_eq (tgt := 131) hx hb dX12_order_116 (of_decide_eq_true rfl) (fun _ => ?_) (fun c => absurd (of_decide_eq_true rfl) c)
           refine lv_iconst (v := 0) hx hb dX12_order_131 (of_decide_eq_true rfl) ?_
           refine lv_istore_n (lv' := [(3, .int 0), (0, .ref (ad 55)), (1, .int x18), (2, .int x70)]) hx hb dX12_order_132 rfl hl (of_decide_eq_true rfl) rfl (fun ls hl => ?_)
           have d271 : (σ71 55 21).toInt = -1 ∨ 0 ≤ (σ71 55 21).toInt := by omega
           exact by exact lp85 0 σ225 _ _ ls (by have h90 := jz_0; omega) (by have h90 := jz_0; omega) (by have h90 := jz_0; omega) (by have h90 := jz_0; omega) (by have h90 := jz_0; omega) (by have h90 := jz_0; omega) (by have h90 := jz_0; omega) (fun i hi => (f227 i hi)) (fun i hi => (f228 i (imp_238 i hi)))  ⟨(σ71 55 19).toInt, (σ71 55 21).toInt, q82, (Or.elim d271 (fun d => Or.inr (Or.inl ⟨d, k269 (by omega), (by have h9 := jz_0; omega), by omega, by omega⟩)) (fun d => Or.inl ⟨d, by omega⟩))⟩ hP hS (lv_sub hl [1, 2, 3, 0] rfl)
      refine lv_aload_n hx hb dX12_order_87 rfl (lv_at hl 0 rfl) ?_
      refine lv_bipush (v := 58) hx hb dX12_order_88 (of_decide_eq_true rfl) ?_
      exact by
       have I272 : jI121 σ53 := ⟨(by omega), (by omega), (by omega), (by omega), (by omega)⟩
       refine jcallV (As := [.int 58]) (rest := []) ⟨hx, hb, hml, hown, hts⟩ hK hP hA hS hZ (c_X12_takes_t l D cI cL ad zz hJ σ53 τ 58 (58) jz_58 I272 (by omega) (by omega)) cw_RX12_196 (jc_55 cI cL ad σ53 τ) rfl ⟨Nat.le_of_ble_eq_true rfl, Nat.le_of_ble_eq_true rfl⟩ rfl rfl rfl hl.1 rfl (Nat.le_of_ble_eq_true rfl) dX12_order_90 ⟨Nat.zero_le _, Nat.zero_le _⟩ (fun r274 σ273 τ273 H locs h273 hP hS => ?_)
       obtain ⟨rfl, f275, f276, I277, h273⟩ := h273
       obtain ⟨i279, i280, i281, i282, i283⟩ : ((-1) ≤ (σ273 55 18).toInt ∧ (σ273 55 18).toInt ≤ 80) ∧ (0 ≤ (σ273 55 19).toInt) ∧ ((σ273 55 19).toInt ≤ (σ273 55 20).toInt) ∧ ((σ273 55 20).toInt ≤ 80) ∧ ((-1) ≤ (σ273 55 21).toInt ∧ (σ273 55 21).toInt ≤ 80) := id I277
       have z284 : (σ273 55 18).toInt = (-1) := ((congrArg Int32.toInt (show σ273 55 18 = (-1) from ((f276 18 (of_decide_eq_true rfl)).trans ((f64 18 (of_decide_eq_true rfl)).trans ((f37 18 (of_decide_eq_true rfl)).trans ((jkp 18 eσ15 (of_decide_eq_true rfl)).trans ((jkp 18 eσ14 (of_decide_eq_true rfl)).trans ((jkp 18 eσ12 (of_decide_eq_true rfl)).trans (jsp eσ11))))))))).trans jz_m1)
       have z285 : (σ273 55 20).toInt = (σ 55 15).toInt := (congrArg Int32.toInt (show σ273 55 20 = (σ 55 15) from ((f276 20 (of_decide_eq_true rfl)).trans ((f64 20 (of_decide_eq_true rfl)).trans ((f37 20 (of_decide_eq_true rfl)).trans ((jkp 20 eσ15 (of_decide_eq_true rfl)).trans (jsp eσ14)))))))
       have z286 : (σ273 55 21).toInt = (σ53 55 21).toInt := (congrArg Int32.toInt (show σ273 55 21 = (σ53 55 21) from (f276 21 (of_decide_eq_true rfl))))
       rcases h273 with h287 | h288
       · obtain ⟨q292, k289, k290, k291⟩ := h287
         exact by
          have q292 := q292.symm
          subst q292
          rw [show (σ53 55 19).toInt = x18.toInt from by omega, show (σ53 55 20).toInt = (σ 55 15).toInt from by omega, show σ53 63 = σ 63 from by rw [f63 63 (of_decide_eq_true rfl), f36 63 (of_decide_eq_true rfl), jnp 63 eσ15 (of_decide_eq_true rfl), jnp 63 eσ14 (of_decide_eq_true rfl), jnp 63 eσ12 (of_decide_eq_true rfl), jnp 63 eσ11 (of_decide_eq_true rfl)]] at k291
          refine lv_if_eq (tgt := 107) hx hb dX12_order_93 (of_decide_eq_true rfl) (fun c => absurd c (of_decide_eq_true rfl)) (fun _ => ?_)
          refine lv_aload_n hx hb dX12_order_96 rfl (lv_at hl 0 rfl) ?_
          refine lv_iconst (v := 2) hx hb dX12_order_97 (of_decide_eq_true rfl) ?_
          refine lv_iconst (v := 1) hx hb dX12_order_98 (of_decide_eq_true rfl) ?_
          refine lv_bipush (v := 12) hx hb dX12_order_99 (of_decide_eq_true rfl) ?_
          refine jcallV (As := [.int 2, .int 1, .int 12]) (rest := []) ⟨hx, hb, hml, hown, hts⟩ hK hP hA hS hZ (c_X12_numberRead_2 l D cI cL ad zz hJ σ273 τ I277 (by omega) (by omega)) cw_RX12_227 (jc_55 cI cL ad σ273 τ) rfl ⟨Nat.le_of_ble_eq_true rfl, Nat.le_of_ble_eq_true rfl⟩ rfl rfl rfl hl.1 rfl (Nat.le_of_ble_eq_true rfl) dX12_order_101 ⟨Nat.zero_le _, Nat.zero_le _⟩ (fun r294 σ293 τ293 H locs h293 hP hS => ?_)
          exact by
           obtain ⟨rfl, f295, f296, I297, h293⟩ := h293
           obtain ⟨i299, i300, i301, i302, i303⟩ : ((-1) ≤ (σ293 55 18).toInt ∧ (σ293 55 18).toInt ≤ 80) ∧ (0 ≤ (σ293 55 19).toInt) ∧ ((σ293 55 19).toInt ≤ (σ293 55 20).toInt) ∧ ((σ293 55 20).toInt ≤ 80) ∧ ((-1) ≤ (σ293 55 21).toInt ∧ (σ293 55 21).toInt ≤ 80) := id I297
           have z304 : (σ293 55 18).toInt = (-1) := ((congrArg Int32.toInt (show σ293 55 18 = (-1) from ((f296 18 (of_decide_eq_true rfl)).trans ((f276 18 (of_decide_eq_true rfl)).trans ((f64 18 (of_decide_eq_true rfl)).trans ((f37 18 (of_decide_eq_true rfl)).trans ((jkp 18 eσ15 (of_decide_eq_true rfl)).trans ((jkp 18 eσ14 (of_decide_eq_true rfl)).trans ((jkp 18 eσ12 (of_decide_eq_true rfl)).trans (jsp eσ11)))))))))).trans jz_m1)
           have z305 : (σ293 55 20).toInt = (σ 55 15).toInt := (congrArg Int32.toInt (show σ293 55 20 = (σ 55 15) from ((f296 20 (of_decide_eq_true rfl)).trans ((f276 20 (of_decide_eq_true rfl)).trans ((f64 20 (of_decide_eq_true rfl)).trans ((f37 20 (of_decide_eq_true rfl)).trans ((jkp 20 eσ15 (of_decide_eq_true rfl)).trans (jsp eσ14))))))))
           have h306 := h293
           obtain ⟨q309, k307, k308⟩ := h306
           obtain ⟨q310, v311, n312, k313⟩ := k308
           rw [show (σ273 55 19).toInt = x18.toInt + 1 from by omega, show (σ273 55 20).toInt = (σ 55 15).toInt from by omega, show σ273 63 = σ 63 from by rw [f275 63 (of_decide_eq_true rfl), f63 63 (of_decide_eq_true rfl), f36 63 (of_decide_eq_true rfl), jnp 63 eσ15 (of_decide_eq_true rfl), jnp 63 eσ14 (of_decide_eq_true rfl), jnp 63 eσ12 (of_decide_eq_true rfl), jnp 63 eσ11 (of_decide_eq_true rfl)]] at n312
           refine lv_goto (tgt := 109) hx hb dX12_order_104 (of_decide_eq_true rfl) ?_
           refine lv_istore_n (lv' := [(2, .int r294), (0, .ref (ad 55)), (1, .int x18)]) hx hb dX12_order_109 rfl hl (of_decide_eq_true rfl) rfl (fun ls hl => ?_)
           exact by exact lp68 r294 σ293 _ _ ls (by omega) (by omega) (by omega) (by omega) (by omega) (by omega) (by omega) (fun i hi => ((f295 i hi).trans (f275 i hi))) (fun i hi => ((f296 i hi).trans (f276 i (imp_238 i hi))))  ⟨Or.inr (Or.inr ⟨by omega, k291, q310, v311, n312, (by omega)⟩), (fun _ => by omega)⟩ hP hS (lv_sub hl [1, 2, 0] rfl)
       · obtain ⟨q317, k315, k316⟩ := h288
         have q317 := q317.symm
         subst q317
         rw [show (σ53 55 19).toInt = x18.toInt from by omega, show (σ53 55 20).toInt = (σ 55 15).toInt from by omega, show σ53 63 = σ 63 from by rw [f63 63 (of_decide_eq_true rfl), f36 63 (of_decide_eq_true rfl), jnp 63 eσ15 (of_decide_eq_true rfl), jnp 63 eσ14 (of_decide_eq_true rfl), jnp 63 eσ12 (of_decide_eq_true rfl), jnp 63 eσ11 (of_decide_eq_true rfl)]] at k316
         refine lv_if_eq (tgt := 107) hx hb dX12_order_93 (of_decide_eq_true rfl) (fun _ => ?_) (fun c => absurd (of_decide_eq_true rfl) c)
         refine lv_bipush (v := 8) hx hb dX12_order_107 (of_decide_eq_true rfl) ?_
         refine lv_istore_n (lv' := [(2, .int 8), (0, .ref (ad 55)), (1, .int x18)]) hx hb dX12_order_109 rfl hl (of_decide_eq_true rfl) rfl (fun ls hl => ?_)
         have d318 : (σ273 55 21).toInt = -1 ∨ 0 ≤ (σ273 55 21).toInt := by omega
         exact by exact lp68 8 σ273 _ _ ls (by have h90 := jz_8; omega) (by have h90 := jz_8; omega) (by have h90 := jz_8; omega) (by have h90 := jz_8; omega) (by have h90 := jz_8; omega) (by have h90 := jz_8; omega) (by have h90 := jz_8; omega) (fun i hi => (f275 i hi)) (fun i hi => (f276 i (imp_238 i hi)))  ⟨Or.elim d318 (fun d => Or.inr (Or.inl ⟨by omega, k316 (by omega), by omega, (by have h9 := jz_8; omega), by omega⟩)) (fun d => Or.inl ⟨by omega, by omega⟩), (fun _ => by omega)⟩ hP hS (lv_sub hl [1, 2, 0] rfl)
    refine lv_iload_n hx hb dX12_order_78 rfl (lv_at hl 1 rfl) ?_
    refine lv_if_ne (tgt := 87) hx hb dX12_order_79 (of_decide_eq_true rfl) (fun c319 => ?_) (fun c319 => ?_)
    · have kc319 := jne c319 rfl jz_0
      exact by exact lp51  σ19 _ _ ls (by omega) (by omega) (by omega) (by omega) (by omega) (by omega) (by omega) (by omega) (fun i hi => rfl) (fun i hi => rfl)   hP hS (lv_sub hl [0, 1] rfl)
    · have kc319 := jeq c319 rfl jz_0
      refine lv_aload_n hx hb dX12_order_82 rfl (lv_at hl 0 rfl) ?_
      exact by
       have I320 : jI121 σ19 := ⟨(by omega), (by omega), (by omega), (by omega), (by omega)⟩
       refine jcallV (As := []) (rest := []) ⟨hx, hb, hml, hown, hts⟩ hK hP hA hS hZ (c_X12_wrong l D cI cL ad zz hJ σ19 τ I320) cw_RX12_214 (jc_55 cI cL ad σ19 τ) rfl ⟨Nat.le_of_ble_eq_true rfl, Nat.le_of_ble_eq_true rfl⟩ rfl rfl rfl hl.1 rfl (Nat.le_of_ble_eq_true rfl) dX12_order_83 ⟨Nat.zero_le _, Nat.zero_le _⟩ (fun r322 σ321 τ321 H locs h321 hP hS => ?_)
       obtain ⟨rfl, f323, f324, I325, h321⟩ := h321
       obtain ⟨i327, i328, i329, i330, i331⟩ : ((-1) ≤ (σ321 55 18).toInt ∧ (σ321 55 18).toInt ≤ 80) ∧ (0 ≤ (σ321 55 19).toInt) ∧ ((σ321 55 19).toInt ≤ (σ321 55 20).toInt) ∧ ((σ321 55 20).toInt ≤ 80) ∧ ((-1) ≤ (σ321 55 21).toInt ∧ (σ321 55 21).toInt ≤ 80) := id I325
       have z332 : (σ321 55 18).toInt = (-1) := ((congrArg Int32.toInt (show σ321 55 18 = (-1) from ((f324 18 (of_decide_eq_true rfl)).trans ((f37 18 (of_decide_eq_true rfl)).trans ((jkp 18 eσ15 (of_decide_eq_true rfl)).trans ((jkp 18 eσ14 (of_decide_eq_true rfl)).trans ((jkp 18 eσ12 (of_decide_eq_true rfl)).trans (jsp eσ11)))))))).trans jz_m1)
       have z333 : (σ321 55 19).toInt = (σ19 55 19).toInt := (congrArg Int32.toInt (show σ321 55 19 = (σ19 55 19) from (f324 19 (of_decide_eq_true rfl))))
       have z334 : (σ321 55 20).toInt = (σ 55 15).toInt := (congrArg Int32.toInt (show σ321 55 20 = (σ 55 15) from ((f324 20 (of_decide_eq_true rfl)).trans ((f37 20 (of_decide_eq_true rfl)).trans ((jkp 20 eσ15 (of_decide_eq_true rfl)).trans (jsp eσ14))))))
       obtain ⟨k335, k336, h321⟩ := h321
       have h337 := h321
       obtain ⟨q339, k338⟩ := h337
       have q339 := q339.symm
       subst q339
       refine lv_istore_n (lv' := [(2, .int 0), (0, .ref (ad 55)), (1, .int x18)]) hx hb dX12_order_86 rfl hl (of_decide_eq_true rfl) rfl (fun ls hl => ?_)
       exact by exact lp51  σ321 _ _ ls (by omega) (by omega) (by omega) (by omega) (by omega) (by omega) (by omega) (by omega) (fun i hi => (f323 i hi)) (fun i hi => (f324 i hi))   hP hS (lv_sub hl [1, 2] rfl)
  refine lv_iconst (v := 0) hx hb dX12_order_23 (of_decide_eq_true rfl) ?_
  refine lv_istore_n (lv' := [(1, .int 0), (0, .ref (ad 55))]) hx hb dX12_order_24 rfl hl (of_decide_eq_true rfl) rfl (fun ls hl => ?_)
  have lp340 : ∀ (n341 : Nat) (x342 : Int32) (σ343 : Nat → Nat → Int32) (H : Heap) (locs : List Loc) (ls : Array Slot), (-x342.toInt + 8 : Int) < n341 → 0 ≤ x342.toInt → x342.toInt ≤ 8 → (-1) ≤ (σ343 55 18).toInt ∧ (σ343 55 18).toInt ≤ 80 → 0 ≤ (σ343 55 19).toInt → (σ343 55 19).toInt ≤ (σ343 55 20).toInt → (σ343 55 20).toInt ≤ 80 → (-1) ≤ (σ343 55 21).toInt ∧ (σ343 55 21).toInt ≤ 80 → (σ343 55 18).toInt = (-1) → (σ343 55 19).toInt = x342.toInt → (σ343 55 21).toInt = (-1) → (∀ i : Nat, (i < 55 ∨ 55 < i) ∧ (i < 67 ∨ 67 < i) → σ343 i = σ15 i) → (∀ k : Nat, (k < 19 ∨ 19 < k) → σ343 55 k = σ15 55 k) → jI104 σ343 → (jDs (σ 63) (σ 55 15).toInt (x342.toInt) ∧ jDv (σ 63) (σ343 67) (x342.toInt)) → jH D cI cL ad σ343 τ H → va_S (jA ad) s.heap H locs → lv_has ls 5 [(1, .int x342), (0, .ref (ad 55))] → W p l e ({ frames := 2, cells := 0, slots := 0, locals := 50 }) s m args below meth c H locs 0 0 Q (F0 m 25 ls []) := by
    intro n341
    induction n341 with
    | zero => intro x342 σ343 H locs ls h345 h346 h347 h348 h349 h350 h351 h352 h353 h354 h355; exact absurd h345 (by omega)
    | succ n341 ihlp340 =>
      intro x342 σ343 H locs ls h345 h346 h347 h348 h349 h350 h351 h352 h353 h354 h355 f356 f357 p358 q359 hP hS hl
      exact by
       obtain ⟨i360, i361, i362, w363, w364⟩ : (1 ≤ (σ343 55 10).toInt ∧ (σ343 55 10).toInt ≤ 8) ∧ (1 ≤ (σ343 55 12).toInt ∧ (σ343 55 12).toInt ≤ 12) ∧ (0 ≤ (σ343 55 13).toInt ∧ (σ343 55 13).toInt ≤ 999) ∧ (∀ k : Nat, k < 8 → 0 ≤ (σ343 62 k).toInt ∧ (σ343 62 k).toInt ≤ 3) ∧ (∀ k : Nat, k < 8 → 0 ≤ (σ343 67 k).toInt ∧ (σ343 67 k).toInt ≤ 3) := id p358
       have z365 : (σ343 55 10).toInt = (σ 55 10).toInt := (congrArg Int32.toInt (show σ343 55 10 = (σ 55 10) from ((f357 10 (of_decide_eq_true rfl)).trans ((jkp 10 eσ15 (of_decide_eq_true rfl)).trans ((jkp 10 eσ14 (of_decide_eq_true rfl)).trans ((jkp 10 eσ12 (of_decide_eq_true rfl)).trans (jkp 10 eσ11 (of_decide_eq_true rfl))))))))
       have z366 : (σ343 55 12).toInt = (σ 55 12).toInt := (congrArg Int32.toInt (show σ343 55 12 = (σ 55 12) from ((f357 12 (of_decide_eq_true rfl)).trans ((jkp 12 eσ15 (of_decide_eq_true rfl)).trans ((jkp 12 eσ14 (of_decide_eq_true rfl)).trans ((jkp 12 eσ12 (of_decide_eq_true rfl)).trans (jkp 12 eσ11 (of_decide_eq_true rfl))))))))
       have z367 : (σ343 55 13).toInt = (σ 55 13).toInt := (congrArg Int32.toInt (show σ343 55 13 = (σ 55 13) from ((f357 13 (of_decide_eq_true rfl)).trans ((jkp 13 eσ15 (of_decide_eq_true rfl)).trans ((jkp 13 eσ14 (of_decide_eq_true rfl)).trans ((jkp 13 eσ12 (of_decide_eq_true rfl)).trans (jkp 13 eσ11 (of_decide_eq_true rfl))))))))
       have z368 : (σ343 55 18).toInt = (-1) := ((congrArg Int32.toInt (show σ343 55 18 = (-1) from ((f357 18 (of_decide_eq_true rfl)).trans ((jkp 18 eσ15 (of_decide_eq_true rfl)).trans ((jkp 18 eσ14 (of_decide_eq_true rfl)).trans ((jkp 18 eσ12 (of_decide_eq_true rfl)).trans (jsp eσ11))))))).trans jz_m1)
       have z369 : (σ343 55 20).toInt = (σ 55 15).toInt := (congrArg Int32.toInt (show σ343 55 20 = (σ 55 15) from ((f357 20 (of_decide_eq_true rfl)).trans ((jkp 20 eσ15 (of_decide_eq_true rfl)).trans (jsp eσ14)))))
       have z370 : (σ343 55 21).toInt = (-1) := ((congrArg Int32.toInt (show σ343 55 21 = (-1) from ((f357 21 (of_decide_eq_true rfl)).trans (jsp eσ15)))).trans jz_m1)
       refine lv_iload_n hx hb dX12_order_25 rfl (lv_at hl 0 rfl) ?_
       refine lv_bipush (v := 8) hx hb dX12_order_26 (of_decide_eq_true rfl) ?_
       refine lv_icmp_ge (tgt := 78) hx hb dX12_order_28 (of_decide_eq_true rfl) (fun c371 => ?_) (fun c371 => ?_)
       · have kc371 := jle c371 jz_8 rfl
         exact by exact lp16 x342 σ343 _ _ ls (by omega) (by omega) (by omega) (by omega) (by omega) (by omega) (by omega) (by omega) (by omega) (by omega) (fun i hi => (f356 i hi)) (fun i hi => (f357 i hi))  p358 ⟨⟨⟨by omega, by omega⟩, q359.1, (by omega)⟩, q359.2⟩ hP hS (lv_sub hl [1, 0] rfl)
       · have kc371 := jnle c371 jz_8 rfl
         refine lv_aload_n hx hb dX12_order_31 rfl (lv_at hl 1 rfl) ?_
         exact by
          have I372 : jI121 σ343 := ⟨(by omega), (by omega), (by omega), (by omega), (by omega)⟩
          refine jcallV (As := []) (rest := []) ⟨hx, hb, hml, hown, hts⟩ hK hP hA hS hZ (c_X12_byteAt_t l D cI cL ad zz hJ σ343 τ I372 (by omega)) cw_RX12_189 (jc_55 cI cL ad σ343 τ) rfl ⟨Nat.le_of_ble_eq_true rfl, Nat.le_of_ble_eq_true rfl⟩ rfl rfl rfl hl.1 rfl (Nat.le_of_ble_eq_true rfl) dX12_order_32 ⟨Nat.zero_le _, Nat.zero_le _⟩ (fun r374 σ373 τ373 H locs h373 hP hS => ?_)
          obtain ⟨⟨rfl, rfl⟩, h373⟩ := h373
          rcases h373 with h375 | h376
          · obtain ⟨q378, k377⟩ := h375
            have q379 : r374 = (σ 63 (σ343 55 19).toNatClampNeg) := q378.trans (by rw [f356 63 (of_decide_eq_true rfl), jnp 63 eσ15 (of_decide_eq_true rfl), jnp 63 eσ14 (of_decide_eq_true rfl), jnp 63 eσ12 (of_decide_eq_true rfl), jnp 63 eσ11 (of_decide_eq_true rfl)])
            have q379e : (σ343 63 (σ343 55 19).toNatClampNeg).toInt = (σ 63 (σ343 55 19).toNatClampNeg).toInt := by rw [← q378, ← q379]
            have q379 := q379.symm
            subst q379
            exact by
             refine lv_bipush (v := 48) hx hb dX12_order_35 (of_decide_eq_true rfl) ?_
             refine lv_icmp_lt (tgt := 78) hx hb dX12_order_37 (of_decide_eq_true rfl) (fun c380 => ?_) (fun c380 => ?_)
             · have kc380 := jlt c380 rfl jz_48
               exact by exact lp16 x342 σ343 _ _ ls (by omega) (by omega) (by omega) (by omega) (by omega) (by omega) (by omega) (by omega) (by omega) (by omega) (fun i hi => (f356 i hi)) (fun i hi => (f357 i hi))  p358 ⟨⟨⟨by omega, by omega⟩, q359.1, (by have i0 := jix (f := σ 63) (show (σ343 55 19).toInt = x342.toInt by omega); omega)⟩, q359.2⟩ hP hS (lv_sub hl [1, 0] rfl)
             · have kc380 := jnlt c380 rfl jz_48
               refine lv_aload_n hx hb dX12_order_40 rfl (lv_at hl 1 rfl) ?_
               refine jcallV (As := []) (rest := []) ⟨hx, hb, hml, hown, hts⟩ hK hP hA hS hZ (c_X12_byteAt_t l D cI cL ad zz hJ σ343 τ I372 (by omega)) cw_RX12_189 (jc_55 cI cL ad σ343 τ) rfl ⟨Nat.le_of_ble_eq_true rfl, Nat.le_of_ble_eq_true rfl⟩ rfl rfl rfl hl.1 rfl (Nat.le_of_ble_eq_true rfl) dX12_order_41 ⟨Nat.zero_le _, Nat.zero_le _⟩ (fun r382 σ381 τ381 H locs h381 hP hS => ?_)
               obtain ⟨⟨rfl, rfl⟩, h381⟩ := h381
               rcases h381 with h383 | h384
               · exact by
                  obtain ⟨q386, k385⟩ := h383
                  have q387 : r382 = (σ 63 (σ343 55 19).toNatClampNeg) := q386.trans (by rw [f356 63 (of_decide_eq_true rfl), jnp 63 eσ15 (of_decide_eq_true rfl), jnp 63 eσ14 (of_decide_eq_true rfl), jnp 63 eσ12 (of_decide_eq_true rfl), jnp 63 eσ11 (of_decide_eq_true rfl)])
                  have q387e : (σ343 63 (σ343 55 19).toNatClampNeg).toInt = (σ 63 (σ343 55 19).toNatClampNeg).toInt := by rw [← q386, ← q387]
                  have q387 := q387.symm
                  subst q387
                  refine lv_bipush (v := 51) hx hb dX12_order_44 (of_decide_eq_true rfl) ?_
                  refine lv_icmp_gt (tgt := 78) hx hb dX12_order_46 (of_decide_eq_true rfl) (fun c388 => ?_) (fun c388 => ?_)
                  · have kc388 := jlt c388 jz_51 rfl
                    exact by exact lp16 x342 σ343 _ _ ls (by omega) (by omega) (by omega) (by omega) (by omega) (by omega) (by omega) (by omega) (by omega) (by omega) (fun i hi => (f356 i hi)) (fun i hi => (f357 i hi))  p358 ⟨⟨⟨by omega, by omega⟩, q359.1, (by have i0 := jix (f := σ 63) (show (σ343 55 19).toInt = x342.toInt by omega); omega)⟩, q359.2⟩ hP hS (lv_sub hl [1, 0] rfl)
                  · exact by
                     have kc388 := jnlt c388 jz_51 rfl
                     refine lv_aload_n hx hb dX12_order_49 rfl (lv_at hl 1 rfl) ?_
                     refine va_get (D := D) hx hb hts inlX12 hown hK hP 55 (jc_55 cI cL ad σ343 τ) rfl 24 (of_decide_eq_true rfl) (hts _ kw_7_13) (fun _ h9 => h9) rfl dX12_order_50 ?_
                     refine lv_iload_n hx hb dX12_order_53 rfl (lv_at hl 0 rfl) ?_
                     refine lv_aload_n hx hb dX12_order_54 rfl (lv_at hl 1 rfl) ?_
                     refine jcallV (As := []) (rest := [.int x342, .ref (ad 67)]) ⟨hx, hb, hml, hown, hts⟩ hK hP hA hS hZ (c_X12_byteAt_t l D cI cL ad zz hJ σ343 τ I372 (by omega)) cw_RX12_189 (jc_55 cI cL ad σ343 τ) rfl ⟨Nat.le_of_ble_eq_true rfl, Nat.le_of_ble_eq_true rfl⟩ rfl rfl rfl hl.1 rfl (Nat.le_of_ble_eq_true rfl) dX12_order_55 ⟨Nat.zero_le _, Nat.zero_le _⟩ (fun r390 σ389 τ389 H locs h389 hP hS => ?_)
                     obtain ⟨⟨rfl, rfl⟩, h389⟩ := h389
                     rcases h389 with h391 | h392
                     · obtain ⟨q394, k393⟩ := h391
                       exact by
                        have q395 : r390 = (σ 63 (σ343 55 19).toNatClampNeg) := q394.trans (by rw [f356 63 (of_decide_eq_true rfl), jnp 63 eσ15 (of_decide_eq_true rfl), jnp 63 eσ14 (of_decide_eq_true rfl), jnp 63 eσ12 (of_decide_eq_true rfl), jnp 63 eσ11 (of_decide_eq_true rfl)])
                        have q395e : (σ343 63 (σ343 55 19).toNatClampNeg).toInt = (σ 63 (σ343 55 19).toNatClampNeg).toInt := by rw [← q394, ← q395]
                        have q395 := q395.symm
                        subst q395
                        refine lv_bipush (v := 48) hx hb dX12_order_58 (of_decide_eq_true rfl) ?_
                        have g396 := jrg (rfl : (σ 63 (σ343 55 19).toNatClampNeg).toInt = (σ 63 (σ343 55 19).toNatClampNeg).toInt)
                        refine lv_isub hx hb dX12_order_60 ?_
                        refine lv_topi (fun x397 ex397 => ?_)
                        have tx397 : x397.toInt = (σ 63 (σ343 55 19).toNatClampNeg).toInt - 48 := (jsub ex397 rfl jz_48 (by omega) (by omega)).trans (by omega)
                        exact by
                         refine jast hx hb hK hP hJ hA hS (jc_67 cI cL ad σ343 τ) (ja_67 cI cL ad σ343 τ _ _) (jin rfl (by omega) (by omega)) dX12_order_61 (fun σ398 H locs eσ398 hP hS => ?_)
                         refine lv_aload_n hx hb dX12_order_62 rfl (lv_at hl 1 rfl) ?_
                         refine lv_dup hx hb dX12_order_63 rfl ?_
                         refine va_get (D := D) hx hb hts inlX12 hown hK hP 55 (jc_55 cI cL ad σ398 τ) rfl 19 (of_decide_eq_true rfl) (hts _ kw_15_11) (fun _ h9 => h9) rfl dX12_order_64 ?_
                         have m399 : σ398 55 19 = (σ343 55 19) := (congrFun (jnp 55 eσ398 (of_decide_eq_true rfl)) 19)
                         refine jtopr m399 ?_
                         refine lv_iconst (v := 1) hx hb dX12_order_67 (of_decide_eq_true rfl) ?_
                         have g400 := jrg (rfl : (σ343 55 19).toInt = (σ343 55 19).toInt)
                         refine lv_iadd hx hb dX12_order_68 ?_
                         refine lv_topi (fun x401 ex401 => ?_)
                         exact by
                          have tx401 : x401.toInt = (σ343 55 19).toInt + 1 := (jadd ex401 rfl jz_1 (by omega) (by omega)).trans (by omega)
                          refine jput (ty := .int) hx hb hts inlX12 tyX12 tyX12_ok nmX12 hown hK hP hJ hA hS (jc_55 cI cL ad σ398 τ) rfl (k := 19) (of_decide_eq_true rfl) (Nat.le_of_ble_eq_true rfl) (jp_55_19 cI cL ad σ398 τ x401) (hts _ kw_15_11) (fun _ h9 => h9) rfl (by decide +kernel) rfl rfl dX12_order_69 (fun σ402 H locs eσ402 hP hS => ?_)
                          obtain ⟨x403, ex403⟩ : ∃ y : Int32, y = x342 + 1 := ⟨_, rfl⟩
                          have tx403 : x403.toInt = x342.toInt + 1 := (jadd ex403 rfl jz_1 (by omega) (by omega)).trans (by omega)
                          refine lv_iinc (v := x403) (lv' := [(1, .int x403), (0, .ref (ad 55))]) hx hb dX12_order_72 hl (k := 0) rfl (by rw [ex403]; rfl) (of_decide_eq_true rfl) rfl (fun ls hl => ?_)
                          refine lv_goto (tgt := 25) hx hb dX12_order_75 (of_decide_eq_true rfl) ?_
                          have z404 : (σ402 55 18).toInt = (-1) := ((congrArg Int32.toInt (show σ402 55 18 = (-1) from ((jkp 18 eσ402 (of_decide_eq_true rfl)).trans ((congrFun (jnp 55 eσ398 (of_decide_eq_true rfl)) 18).trans ((f357 18 (of_decide_eq_true rfl)).trans ((jkp 18 eσ15 (of_decide_eq_true rfl)).trans ((jkp 18 eσ14 (of_decide_eq_true rfl)).trans ((jkp 18 eσ12 (of_decide_eq_true rfl)).trans (jsp eσ11))))))))).trans jz_m1)
                          have z405 : (σ402 55 19).toInt = (σ343 55 19).toInt + 1 := ((congrArg Int32.toInt (show σ402 55 19 = x401 from (jsp eσ402))).trans tx401)
                          have z406 : (σ402 55 20).toInt = (σ 55 15).toInt := (congrArg Int32.toInt (show σ402 55 20 = (σ 55 15) from ((jkp 20 eσ402 (of_decide_eq_true rfl)).trans ((congrFun (jnp 55 eσ398 (of_decide_eq_true rfl)) 20).trans ((f357 20 (of_decide_eq_true rfl)).trans ((jkp 20 eσ15 (of_decide_eq_true rfl)).trans (jsp eσ14)))))))
                          exact by
                           have z407 : (σ402 55 21).toInt = (-1) := ((congrArg Int32.toInt (show σ402 55 21 = (-1) from ((jkp 21 eσ402 (of_decide_eq_true rfl)).trans ((congrFun (jnp 55 eσ398 (of_decide_eq_true rfl)) 21).trans ((f357 21 (of_decide_eq_true rfl)).trans (jsp eσ15)))))).trans jz_m1)
                           have z408 : (σ402 55 10).toInt = (σ 55 10).toInt := (congrArg Int32.toInt (show σ402 55 10 = (σ 55 10) from ((jkp 10 eσ402 (of_decide_eq_true rfl)).trans ((congrFun (jnp 55 eσ398 (of_decide_eq_true rfl)) 10).trans ((f357 10 (of_decide_eq_true rfl)).trans ((jkp 10 eσ15 (of_decide_eq_true rfl)).trans ((jkp 10 eσ14 (of_decide_eq_true rfl)).trans ((jkp 10 eσ12 (of_decide_eq_true rfl)).trans (jkp 10 eσ11 (of_decide_eq_true rfl))))))))))
                           have z409 : (σ402 55 12).toInt = (σ 55 12).toInt := (congrArg Int32.toInt (show σ402 55 12 = (σ 55 12) from ((jkp 12 eσ402 (of_decide_eq_true rfl)).trans ((congrFun (jnp 55 eσ398 (of_decide_eq_true rfl)) 12).trans ((f357 12 (of_decide_eq_true rfl)).trans ((jkp 12 eσ15 (of_decide_eq_true rfl)).trans ((jkp 12 eσ14 (of_decide_eq_true rfl)).trans ((jkp 12 eσ12 (of_decide_eq_true rfl)).trans (jkp 12 eσ11 (of_decide_eq_true rfl))))))))))
                           have z410 : (σ402 55 13).toInt = (σ 55 13).toInt := (congrArg Int32.toInt (show σ402 55 13 = (σ 55 13) from ((jkp 13 eσ402 (of_decide_eq_true rfl)).trans ((congrFun (jnp 55 eσ398 (of_decide_eq_true rfl)) 13).trans ((f357 13 (of_decide_eq_true rfl)).trans ((jkp 13 eσ15 (of_decide_eq_true rfl)).trans ((jkp 13 eσ14 (of_decide_eq_true rfl)).trans ((jkp 13 eσ12 (of_decide_eq_true rfl)).trans (jkp 13 eσ11 (of_decide_eq_true rfl))))))))))
                           have w411 : ∀ k : Nat, k < 8 → 0 ≤ (σ402 62 k).toInt ∧ (σ402 62 k).toInt ≤ 3 := (jrr_fr (jnp 62 eσ402 (of_decide_eq_true rfl)) (jrr_fr (jnp 62 eσ398 (of_decide_eq_true rfl)) w363))
                           have w412 : ∀ k : Nat, k < 8 → 0 ≤ (σ402 67 k).toInt ∧ (σ402 67 k).toInt ≤ 3 := (jrr_fr (jnp 67 eσ402 (of_decide_eq_true rfl)) (by rw [eσ398]; exact jrr_up w364 (by have h9 := tx397; omega) (by have h9 := tx397; omega)))
                           have I413 : jI104 σ402 := ⟨(by omega), (by omega), (by omega), w411, w412⟩
                           exact by exact ihlp340 x403 σ402 _ _ ls (by have h90 := tx403; omega) (by have h90 := tx403; omega) (by have h90 := tx403; omega) (by have h90 := tx403; omega) (by have h90 := tx403; omega) (by have h90 := tx403; omega) (by have h90 := tx403; omega) (by have h90 := tx403; omega) (by have h90 := tx403; omega) (by have h90 := tx403; omega) (by have h90 := tx403; omega) (fun i hi => ((jnp i eσ402 (imp_239 i hi)).trans ((jnp i eσ398 (imp_240 i hi)).trans (f356 i hi)))) (fun i hi => ((jkp i eσ402 (imp_169 i hi)).trans ((congrFun (jnp 55 eσ398 (of_decide_eq_true rfl)) i).trans (f357 i hi))))  I413 ⟨jDs.step q359.1 (by omega) (by have i0 := jix (f := σ 63) (show (σ343 55 19).toInt = x342.toInt by omega); exact ⟨by omega, by omega, by omega⟩) (by have h9 := tx403; omega), jDv.step q359.2 (by omega) (by rw [eσ402, jup_n (of_decide_eq_true rfl), eσ398, jup_row, jnc (rfl : x342.toInt = x342.toInt)]) (by omega) (by have i0 := jix (f := σ 63) (show (σ343 55 19).toInt = x342.toInt by omega); have h9 := tx397; omega) (by have h9 := tx403; omega)⟩ hP hS (lv_sub hl [0, 1] rfl)
                     · obtain ⟨q415, k414⟩ := h392
                       exact absurd (by omega : False) id
               · exact by
                  obtain ⟨q417, k416⟩ := h384
                  exact absurd (by omega : False) id
          · obtain ⟨q419, k418⟩ := h376
            have q419 := q419.symm
            subst q419
            refine lv_bipush (v := 48) hx hb dX12_order_35 (of_decide_eq_true rfl) ?_
            refine lv_icmp_lt (tgt := 78) hx hb dX12_order_37 (of_decide_eq_true rfl) (fun _ => ?_) (fun c => absurd (of_decide_eq_true rfl) c)
            exact by exact lp16 x342 σ343 _ _ ls (by omega) (by omega) (by omega) (by omega) (by omega) (by omega) (by omega) (by omega) (by omega) (by omega) (fun i hi => (f356 i hi)) (fun i hi => (f357 i hi))  p358 ⟨⟨⟨by omega, by omega⟩, q359.1, (by omega)⟩, q359.2⟩ hP hS (lv_sub hl [1, 0] rfl)
  exact by exact lp340 1000000 0 σ15 _ _ ls (by have h90 := jz_0; omega) (by have h90 := jz_0; omega) (by have h90 := jz_0; omega) (by have h90 := jz_0; omega) (by have h90 := jz_0; omega) (by have h90 := jz_0; omega) (by have h90 := jz_0; omega) (by have h90 := jz_0; omega) (by have h90 := jz_0; omega) (by have h90 := jz_0; omega) (by have h90 := jz_0; omega) (fun _ _ => rfl) (fun _ _ => rfl)  I20 ⟨jDs.first (by have h9 := jz_0; omega), jDv.first (by have h9 := jz_0; omega)⟩ hP hS hl
set_option maxHeartbeats 4000000 in
set_option maxRecDepth 100000 in
theorem c_X12_of (l : Launch) (D : va_G) (cI cL : ClassId) (ad zz : Nat → Nat) (hJ : jD ad) (σ : Nat → Nat → Int32) (τ : Nat → Nat → Int64) (a1 : Int32) (A1 : Int) (t1 : a1.toInt = A1) (hI104 : jI104 σ) (hI107 : jI107 σ) : jM l yX12_of cX12_of 2 (some .int) ({ frames := 1, cells := 0, slots := 0, locals := 25 }) D cI cL ad zz [.ref (ad 55), .int a1] σ τ (fun r σ' τ' => (σ = σ' ∧ τ = τ') ∧ ((True ∧ (A1 = 0) ∧ (r.toInt = (σ 55 10).toInt)) ∨ (True ∧ (A1 = 1) ∧ (r.toInt = (σ 55 12).toInt)) ∨ (True ∧ (A1 = 2) ∧ (r.toInt = (σ 55 13).toInt)) ∨ (True ∧ (10 ≤ A1) ∧ (A1 < (σ 55 10).toInt + 10) ∧ (r = σ 62 ((A1) - 10).toNat)) ∨ (r = (-1) ∧ ((A1 < 0) ∨ (2 < A1 ∧ A1 < 10) ∨ (10 ≤ A1 ∧ (σ 55 10).toInt + 10 ≤ A1))))) := by
  refine jM.of hJ (by decide +kernel) (nt := .int) rfl (Nat.le_of_ble_eq_true rfl) ?_
  intro p e s m args below meth c Q ls hC hret hl hP
  obtain ⟨hx, hb, hr, hml, hown, hts, hK, -, hlocks, hZ⟩ := hC
  have hown : s.vm.findClass RX12 = some m.cls := hown
  have hS : va_S (jA ad) s.heap s.heap [] := va_S.rf
  have hA : ∀ q, jA ad q → jA ad q := fun _ h => h
  have hl : lv_has ls 2 [(0, .ref (ad 55)), (1, .int a1)] := hl
  have g1 := jrg t1
  obtain ⟨i1, i2, i3, w4, w5⟩ : (1 ≤ (σ 55 10).toInt ∧ (σ 55 10).toInt ≤ 8) ∧ (1 ≤ (σ 55 12).toInt ∧ (σ 55 12).toInt ≤ 12) ∧ (0 ≤ (σ 55 13).toInt ∧ (σ 55 13).toInt ≤ 999) ∧ (∀ k : Nat, k < 8 → 0 ≤ (σ 62 k).toInt ∧ (σ 62 k).toInt ≤ 3) ∧ (∀ k : Nat, k < 8 → 0 ≤ (σ 67 k).toInt ∧ (σ 67 k).toInt ≤ 3) := id hI104
  obtain ⟨i6, i7, w8⟩ : (0 ≤ (σ 55 47).toInt ∧ (σ 55 47).toInt ≤ 12) ∧ ((σ 55 47).toInt ≤ (σ 55 12).toInt) ∧ (∀ k : Nat, k < 12 → 0 ≤ (σ 80 k).toInt ∧ (σ 80 k).toInt ≤ 3) := id hI107
  refine lv_iload_n hx hb dX12_of_0 rfl (lv_at hl 1 rfl) ?_
  refine lv_bipush (v := 10) hx hb dX12_of_1 (of_decide_eq_true rfl) ?_
  refine lv_isub hx hb dX12_of_3 ?_
  refine lv_topi (fun x9 ex9 => ?_)
  have gx9 := jrg (rfl : x9.toInt = x9.toInt)
  have g10 := jsubw ex9 t1 jz_10
  refine lv_i2l (v := x9.toInt64) hx hb dX12_of_4 rfl ?_
  refine lv_lconst (v := 0) hx hb dX12_of_5 (of_decide_eq_true rfl) ?_
  refine lv_aload_n hx hb dX12_of_6 rfl (lv_at hl 0 rfl) ?_
  refine va_get (D := D) hx hb hts inlX12 hown hK hP 55 (jc_55 cI cL ad σ τ) rfl 10 (of_decide_eq_true rfl) (hts _ kw_8_15) (fun _ h9 => h9) rfl dX12_of_7 ?_
  refine lv_iconst (v := 1) hx hb dX12_of_10 (of_decide_eq_true rfl) ?_
  have g11 := jrg (rfl : (σ 55 10).toInt = (σ 55 10).toInt)
  refine lv_isub hx hb dX12_of_11 ?_
  refine lv_topi (fun x12 ex12 => ?_)
  exact by
   have tx12 : x12.toInt = (σ 55 10).toInt - 1 := (jsub ex12 rfl jz_1 (by omega) (by omega)).trans (by omega)
   refine lv_i2l (v := x12.toInt64) hx hb dX12_of_12 rfl ?_
   refine jcallS (As := [.long x9.toInt64, .long 0, .long x12.toInt64]) (rest := []) ⟨hx, hb, hml, hown, hts⟩ hK hP hA hS hZ (c_X12_within l D cI cL ad zz hJ σ τ x9.toInt64 (x9.toInt) (jtoL rfl) 0 (0) jzl_0 x12.toInt64 ((σ 55 10).toInt - 1) (jtoL tx12)) cw_RX12_136 ⟨Nat.le_of_ble_eq_true rfl, Nat.le_of_ble_eq_true rfl⟩ rfl rfl rfl hl.1 rfl (Nat.le_of_ble_eq_true rfl) dX12_of_13 ⟨Nat.zero_le _, Nat.zero_le _⟩ (fun r14 σ13 τ13 H locs h13 hP hS => ?_)
   obtain ⟨⟨rfl, rfl⟩, h13⟩ := h13
   rcases h13 with h15 | h16
   · obtain ⟨q18, k17⟩ := h15
     have q18 := q18.symm
     subst q18
     refine lv_if_eq (tgt := 29) hx hb dX12_of_16 (of_decide_eq_true rfl) (fun c => absurd c (of_decide_eq_true rfl)) (fun _ => ?_)
     refine lv_aload_n hx hb dX12_of_19 rfl (lv_at hl 0 rfl) ?_
     refine va_get (D := D) hx hb hts inlX12 hown hK hP 55 (jc_55 cI cL ad σ τ) rfl 11 (of_decide_eq_true rfl) (hts _ kw_7_8) (fun _ h9 => h9) rfl dX12_of_20 ?_
     refine lv_iload_n hx hb dX12_of_23 rfl (lv_at hl 1 rfl) ?_
     refine lv_bipush (v := 10) hx hb dX12_of_24 (of_decide_eq_true rfl) ?_
     refine lv_isub hx hb dX12_of_26 ?_
     refine lv_topi (fun x19 ex19 => ?_)
     exact by
      have tx19 : x19.toInt = A1 - 10 := (jsub ex19 t1 jz_10 (by omega) (by omega)).trans (by omega)
      refine jald hx hb hK hP (jc_62 cI cL ad σ τ) (jin tx19 (by omega) (by omega)) dX12_of_27 ?_
      have g20 := w4 _ (jnat (x := x19) tx19 (n := 8) (by omega) (of_decide_eq_true rfl))
      refine jtopr (y := (σ 62 x19.toNatClampNeg)) rfl ?_
      exact by exact hret (σ 62 x19.toNatClampNeg) σ τ _ _ _ _ rfl ⟨⟨rfl, rfl⟩, Or.inr (Or.inr (Or.inr (Or.inl ⟨trivial, (by omega), (by omega), (by rw [jnc (show x19.toInt = A1 - 10 by omega)])⟩)))⟩ hP hS dX12_of_28
   · obtain ⟨q22, k21⟩ := h16
     have q22 := q22.symm
     subst q22
     refine lv_if_eq (tgt := 29) hx hb dX12_of_16 (of_decide_eq_true rfl) (fun _ => ?_) (fun c => absurd (of_decide_eq_true rfl) c)
     exact by
      refine lv_iload_n hx hb dX12_of_29 rfl (lv_at hl 1 rfl) ?_
      by_cases c23 : a1 = 0
      · have kc23 := jeq c23 t1 jz_0
        refine jtopr c23 ?_
        refine lv_tableIn (off := 26) (tgt := 56) hx hb dX12_of_30 (of_decide_eq_true rfl) (of_decide_eq_true rfl) (of_decide_eq_true rfl) (of_decide_eq_true rfl) ?_
        refine lv_aload_n hx hb dX12_of_56 rfl (lv_at hl 0 rfl) ?_
        refine va_get (D := D) hx hb hts inlX12 hown hK hP 55 (jc_55 cI cL ad σ τ) rfl 10 (of_decide_eq_true rfl) (hts _ kw_8_15) (fun _ h9 => h9) rfl dX12_of_57 ?_
        exact by exact hret (σ 55 10) σ τ _ _ _ _ rfl ⟨⟨rfl, rfl⟩, Or.inl ⟨trivial, (by omega), (by omega)⟩⟩ hP hS dX12_of_60
      have kc23 := jne c23 t1 jz_0
      by_cases c24 : a1 = 1
      · have kc24 := jeq c24 t1 jz_1
        refine jtopr c24 ?_
        refine lv_tableIn (off := 31) (tgt := 61) hx hb dX12_of_30 (of_decide_eq_true rfl) (of_decide_eq_true rfl) (of_decide_eq_true rfl) (of_decide_eq_true rfl) ?_
        refine lv_aload_n hx hb dX12_of_61 rfl (lv_at hl 0 rfl) ?_
        refine va_get (D := D) hx hb hts inlX12 hown hK hP 55 (jc_55 cI cL ad σ τ) rfl 12 (of_decide_eq_true rfl) (hts _ kw_8_16) (fun _ h9 => h9) rfl dX12_of_62 ?_
        exact by exact hret (σ 55 12) σ τ _ _ _ _ rfl ⟨⟨rfl, rfl⟩, Or.inr (Or.inl ⟨trivial, (by omega), (by omega)⟩)⟩ hP hS dX12_of_65
      have kc24 := jne c24 t1 jz_1
      by_cases c25 : a1 = 2
      · have kc25 := jeq c25 t1 jz_2
        refine jtopr c25 ?_
        refine lv_tableIn (off := 36) (tgt := 66) hx hb dX12_of_30 (of_decide_eq_true rfl) (of_decide_eq_true rfl) (of_decide_eq_true rfl) (of_decide_eq_true rfl) ?_
        refine lv_aload_n hx hb dX12_of_66 rfl (lv_at hl 0 rfl) ?_
        refine va_get (D := D) hx hb hts inlX12 hown hK hP 55 (jc_55 cI cL ad σ τ) rfl 13 (of_decide_eq_true rfl) (hts _ kw_15_14) (fun _ h9 => h9) rfl dX12_of_67 ?_
        exact by exact hret (σ 55 13) σ τ _ _ _ _ rfl ⟨⟨rfl, rfl⟩, Or.inr (Or.inr (Or.inl ⟨trivial, (by omega), (by omega)⟩))⟩ hP hS dX12_of_70
      have kc25 := jne c25 t1 jz_2
      exact by
       refine lv_tableOut (tgt := 71) hx hb dX12_of_30 (by rw [t1]; omega) (of_decide_eq_true rfl) ?_
       refine lv_iconst (v := (-1)) hx hb dX12_of_71 (of_decide_eq_true rfl) ?_
       exact hret (-1) σ τ _ _ _ _ rfl ⟨⟨rfl, rfl⟩, Or.inr (Or.inr (Or.inr (Or.inr (⟨rfl, (by have h9 := jz_m1; omega)⟩))))⟩ hP hS dX12_of_72
set_option maxHeartbeats 4000000 in
set_option maxRecDepth 100000 in
theorem c_X12_over (l : Launch) (D : va_G) (cI cL : ClassId) (ad zz : Nat → Nat) (hJ : jD ad) (σ : Nat → Nat → Int32) (τ : Nat → Nat → Int64) (a1 : Int32) (A1 : Int) (t1 : a1.toInt = A1) (a2 : Int32) (A2 : Int) (t2 : a2.toInt = A2) (a3 : Int32) (A3 : Int) (t3 : a3.toInt = A3) (hI101 : jI101 σ) (hI102 : jI102 σ) (hI103 : jI103 σ) (hI104 : jI104 σ) (hI105 : jI105 σ) (hI119 : jI119 σ) (hs_jTR : jTR σ) : jM l yX12_over cX12_over 6 (some .int) ({ frames := 67, cells := 0, slots := 0, locals := 2858 }) D cI cL ad zz [.ref (ad 55), .int a1, .int a2, .int a3] σ τ (fun r σ' τ' => τ = τ' ∧ (∀ i : Nat, (i < 55 ∨ 55 < i) ∧ (i < 66 ∨ 66 < i) ∧ (i < 68 ∨ 69 < i) → σ' i = σ i) ∧ (∀ k : Nat, (k < 18 ∨ 18 < k) ∧ (k < 19 ∨ 19 < k) ∧ (k < 20 ∨ 20 < k) ∧ (k < 21 ∨ 21 < k) ∧ (k < 22 ∨ 22 < k) ∧ (k < 25 ∨ 25 < k) ∧ (k < 26 ∨ 26 < k) ∧ (k < 27 ∨ 27 < k) → σ' 55 k = σ 55 k) ∧ (jI119 σ') ∧ (jTR σ') ∧ (((σ 55 30).toInt = -1 → (σ 55 31).toInt = -1 → ((jOvB (σ 55 6).toInt (A1) (A2) (A3) ∧ r = jOvV (σ 56) (σ 60) (σ 61) (jGr (fun k : Nat => σ 64 (80 * 1 + k)) (σ 65 1).toInt) (σ 55 9).toInt (A1) (A2) (A3)) ∨ (¬ jOvB (σ 55 6).toInt (A1) (A2) (A3) ∧ r = -1)))) ∧ True) := by
  refine jM.of hJ (by decide +kernel) (nt := .int) rfl (Nat.le_of_ble_eq_true rfl) ?_
  intro p e s m args below meth c Q ls hC hret hl hP
  obtain ⟨hx, hb, hr, hml, hown, hts, hK, -, hlocks, hZ⟩ := hC
  have hown : s.vm.findClass RX12 = some m.cls := hown
  have hS : va_S (jA ad) s.heap s.heap [] := va_S.rf
  have hA : ∀ q, jA ad q → jA ad q := fun _ h => h
  have hl : lv_has ls 6 [(0, .ref (ad 55)), (1, .int a1), (2, .int a2), (3, .int a3)] := hl
  have g1 := jrg t1
  have g2 := jrg t2
  have g3 := jrg t3
  obtain ⟨i1, w2, w3⟩ : (0 ≤ (σ 55 6).toInt ∧ (σ 55 6).toInt ≤ 4) ∧ (∀ k : Nat, k < 4 → 0 ≤ (σ 60 k).toInt ∧ (σ 60 k).toInt ≤ 50) ∧ (∀ k : Nat, k < 4 → 0 ≤ (σ 61 k).toInt ∧ (σ 61 k).toInt ≤ 20) := id hI102
  have w4 : ∀ k : Nat, k < 4 → 0 ≤ (σ 68 k).toInt ∧ (σ 68 k).toInt ≤ 3 := hI119
  refine lv_iload_n hx hb dX12_over_0 rfl (lv_at hl 1 rfl) ?_
  refine lv_if_lt (tgt := 70) hx hb dX12_over_1 (of_decide_eq_true rfl) (fun c5 => ?_) (fun c5 => ?_)
  · have kc5 := jlt c5 t1 jz_0
    refine lv_iconst (v := 0) hx hb dX12_over_70 (of_decide_eq_true rfl) ?_
    refine lv_istore (lv' := [(4, .int 0), (0, .ref (ad 55)), (1, .int a1), (2, .int a2), (3, .int a3)]) hx hb dX12_over_71 hl (of_decide_eq_true rfl) rfl (fun ls hl => ?_)
    refine lv_iload hx hb dX12_over_73 (lv_at hl 0 rfl) ?_
    refine lv_if_ne (tgt := 80) hx hb dX12_over_75 (of_decide_eq_true rfl) (fun c => absurd (of_decide_eq_true rfl) c) (fun _ => ?_)
    refine lv_iconst (v := (-1)) hx hb dX12_over_78 (of_decide_eq_true rfl) ?_
    exact hret (-1) σ τ _ _ _ _ rfl ⟨rfl, (fun _ _ => rfl), (fun _ _ => rfl), hI119, hs_jTR, (fun wa9 wb9 => Or.inr ⟨(fun w => by unfold jOvB at w; omega), rfl⟩), trivial⟩ hP hS dX12_over_79
  · have kc5 := jnlt c5 t1 jz_0
    refine lv_aload_n hx hb dX12_over_4 rfl (lv_at hl 0 rfl) ?_
    refine lv_iload_n hx hb dX12_over_5 rfl (lv_at hl 1 rfl) ?_
    refine lv_bipush (v := 100) hx hb dX12_over_6 (of_decide_eq_true rfl) ?_
    refine lv_idiv hx hb dX12_over_8 (of_decide_eq_true rfl) ?_
    refine lv_topi (fun x6 ex6 => ?_)
    exact by
     have tx6 : x6.toInt = (A1 / 100) := jdiv ex6 t1 jz_100 (by omega) (by omega)
     refine jcallV (As := [.int x6]) (rest := []) ⟨hx, hb, hml, hown, hts⟩ hK hP hA hS hZ (c_X12_isBowler l D cI cL ad zz hJ σ τ x6 ((A1 / 100)) tx6 hI102) cw_RX12_146 (jc_55 cI cL ad σ τ) rfl ⟨Nat.le_of_ble_eq_true rfl, Nat.le_of_ble_eq_true rfl⟩ rfl rfl rfl hl.1 rfl (Nat.le_of_ble_eq_true rfl) dX12_over_9 ⟨Nat.zero_le _, Nat.zero_le _⟩ (fun r8 σ7 τ7 H locs h7 hP hS => ?_)
     obtain ⟨⟨rfl, rfl⟩, h7⟩ := h7
     rcases h7 with h9 | h10
     · obtain ⟨q12, k11⟩ := h9
       have q12 := q12.symm
       subst q12
       refine lv_if_eq (tgt := 70) hx hb dX12_over_12 (of_decide_eq_true rfl) (fun c => absurd c (of_decide_eq_true rfl)) (fun _ => ?_)
       refine lv_iload_n hx hb dX12_over_15 rfl (lv_at hl 1 rfl) ?_
       refine lv_bipush (v := 10) hx hb dX12_over_16 (of_decide_eq_true rfl) ?_
       refine lv_idiv hx hb dX12_over_18 (of_decide_eq_true rfl) ?_
       refine lv_topi (fun x13 ex13 => ?_)
       exact by
        have tx13 : x13.toInt = (A1 / 10) := jdiv ex13 t1 jz_10 (by omega) (by omega)
        refine lv_bipush (v := 10) hx hb dX12_over_19 (of_decide_eq_true rfl) ?_
        refine lv_irem hx hb dX12_over_21 (of_decide_eq_true rfl) ?_
        refine lv_topi (fun x14 ex14 => ?_)
        have tx14 : x14.toInt = (((A1 / 10)) % 10) := jrem ex14 tx13 jz_10 (by omega)
        refine lv_iconst (v := 4) hx hb dX12_over_22 (of_decide_eq_true rfl) ?_
        refine lv_icmp_ge (tgt := 70) hx hb dX12_over_23 (of_decide_eq_true rfl) (fun c15 => ?_) (fun c15 => ?_)
        · have kc15 := jle c15 jz_4 tx14
          refine lv_iconst (v := 0) hx hb dX12_over_70 (of_decide_eq_true rfl) ?_
          exact by
           refine lv_istore (lv' := [(4, .int 0), (0, .ref (ad 55)), (1, .int a1), (2, .int a2), (3, .int a3)]) hx hb dX12_over_71 hl (of_decide_eq_true rfl) rfl (fun ls hl => ?_)
           refine lv_iload hx hb dX12_over_73 (lv_at hl 0 rfl) ?_
           refine lv_if_ne (tgt := 80) hx hb dX12_over_75 (of_decide_eq_true rfl) (fun c => absurd (of_decide_eq_true rfl) c) (fun _ => ?_)
           refine lv_iconst (v := (-1)) hx hb dX12_over_78 (of_decide_eq_true rfl) ?_
           exact hret (-1) σ τ _ _ _ _ rfl ⟨rfl, (fun _ _ => rfl), (fun _ _ => rfl), hI119, hs_jTR, (fun wa9 wb9 => Or.inr ⟨(fun w => by unfold jOvB at w; omega), rfl⟩), trivial⟩ hP hS dX12_over_79
        · have kc15 := jnle c15 jz_4 tx14
          refine lv_iload_n hx hb dX12_over_26 rfl (lv_at hl 1 rfl) ?_
          refine lv_bipush (v := 10) hx hb dX12_over_27 (of_decide_eq_true rfl) ?_
          refine lv_irem hx hb dX12_over_29 (of_decide_eq_true rfl) ?_
          refine lv_topi (fun x16 ex16 => ?_)
          exact by
           have tx16 : x16.toInt = (A1 % 10) := jrem ex16 t1 jz_10 (by omega)
           refine lv_iconst (v := 3) hx hb dX12_over_30 (of_decide_eq_true rfl) ?_
           refine lv_icmp_gt (tgt := 70) hx hb dX12_over_31 (of_decide_eq_true rfl) (fun c17 => ?_) (fun c17 => ?_)
           · have kc17 := jlt c17 jz_3 tx16
             refine lv_iconst (v := 0) hx hb dX12_over_70 (of_decide_eq_true rfl) ?_
             refine lv_istore (lv' := [(4, .int 0), (0, .ref (ad 55)), (1, .int a1), (2, .int a2), (3, .int a3)]) hx hb dX12_over_71 hl (of_decide_eq_true rfl) rfl (fun ls hl => ?_)
             refine lv_iload hx hb dX12_over_73 (lv_at hl 0 rfl) ?_
             refine lv_if_ne (tgt := 80) hx hb dX12_over_75 (of_decide_eq_true rfl) (fun c => absurd (of_decide_eq_true rfl) c) (fun _ => ?_)
             refine lv_iconst (v := (-1)) hx hb dX12_over_78 (of_decide_eq_true rfl) ?_
             exact hret (-1) σ τ _ _ _ _ rfl ⟨rfl, (fun _ _ => rfl), (fun _ _ => rfl), hI119, hs_jTR, (fun wa9 wb9 => Or.inr ⟨(fun w => by unfold jOvB at w; omega), rfl⟩), trivial⟩ hP hS dX12_over_79
           · have kc17 := jnlt c17 jz_3 tx16
             refine lv_iload_n hx hb dX12_over_34 rfl (lv_at hl 2 rfl) ?_
             refine lv_if_lt (tgt := 70) hx hb dX12_over_35 (of_decide_eq_true rfl) (fun c18 => ?_) (fun c18 => ?_)
             · have kc18 := jlt c18 t2 jz_0
               refine lv_iconst (v := 0) hx hb dX12_over_70 (of_decide_eq_true rfl) ?_
               refine lv_istore (lv' := [(4, .int 0), (0, .ref (ad 55)), (1, .int a1), (2, .int a2), (3, .int a3)]) hx hb dX12_over_71 hl (of_decide_eq_true rfl) rfl (fun ls hl => ?_)
               refine lv_iload hx hb dX12_over_73 (lv_at hl 0 rfl) ?_
               refine lv_if_ne (tgt := 80) hx hb dX12_over_75 (of_decide_eq_true rfl) (fun c => absurd (of_decide_eq_true rfl) c) (fun _ => ?_)
               refine lv_iconst (v := (-1)) hx hb dX12_over_78 (of_decide_eq_true rfl) ?_
               exact hret (-1) σ τ _ _ _ _ rfl ⟨rfl, (fun _ _ => rfl), (fun _ _ => rfl), hI119, hs_jTR, (fun wa9 wb9 => Or.inr ⟨(fun w => by unfold jOvB at w; omega), rfl⟩), trivial⟩ hP hS dX12_over_79
             · have kc18 := jnlt c18 t2 jz_0
               refine lv_iload_n hx hb dX12_over_38 rfl (lv_at hl 2 rfl) ?_
               refine lv_bipush (v := 10) hx hb dX12_over_39 (of_decide_eq_true rfl) ?_
               refine lv_idiv hx hb dX12_over_41 (of_decide_eq_true rfl) ?_
               refine lv_topi (fun x19 ex19 => ?_)
               exact by
                have tx19 : x19.toInt = (A2 / 10) := jdiv ex19 t2 jz_10 (by omega) (by omega)
                refine lv_bipush (v := 12) hx hb dX12_over_42 (of_decide_eq_true rfl) ?_
                refine lv_icmp_gt (tgt := 70) hx hb dX12_over_44 (of_decide_eq_true rfl) (fun c20 => ?_) (fun c20 => ?_)
                · have kc20 := jlt c20 jz_12 tx19
                  refine lv_iconst (v := 0) hx hb dX12_over_70 (of_decide_eq_true rfl) ?_
                  refine lv_istore (lv' := [(4, .int 0), (0, .ref (ad 55)), (1, .int a1), (2, .int a2), (3, .int a3)]) hx hb dX12_over_71 hl (of_decide_eq_true rfl) rfl (fun ls hl => ?_)
                  refine lv_iload hx hb dX12_over_73 (lv_at hl 0 rfl) ?_
                  refine lv_if_ne (tgt := 80) hx hb dX12_over_75 (of_decide_eq_true rfl) (fun c => absurd (of_decide_eq_true rfl) c) (fun _ => ?_)
                  refine lv_iconst (v := (-1)) hx hb dX12_over_78 (of_decide_eq_true rfl) ?_
                  exact hret (-1) σ τ _ _ _ _ rfl ⟨rfl, (fun _ _ => rfl), (fun _ _ => rfl), hI119, hs_jTR, (fun wa9 wb9 => Or.inr ⟨(fun w => by unfold jOvB at w; omega), rfl⟩), trivial⟩ hP hS dX12_over_79
                · have kc20 := jnlt c20 jz_12 tx19
                  refine lv_iload_n hx hb dX12_over_47 rfl (lv_at hl 2 rfl) ?_
                  refine lv_bipush (v := 10) hx hb dX12_over_48 (of_decide_eq_true rfl) ?_
                  refine lv_irem hx hb dX12_over_50 (of_decide_eq_true rfl) ?_
                  refine lv_topi (fun x21 ex21 => ?_)
                  exact by
                   have tx21 : x21.toInt = (A2 % 10) := jrem ex21 t2 jz_10 (by omega)
                   refine lv_bipush (v := 8) hx hb dX12_over_51 (of_decide_eq_true rfl) ?_
                   refine lv_icmp_gt (tgt := 70) hx hb dX12_over_53 (of_decide_eq_true rfl) (fun c22 => ?_) (fun c22 => ?_)
                   · have kc22 := jlt c22 jz_8 tx21
                     refine lv_iconst (v := 0) hx hb dX12_over_70 (of_decide_eq_true rfl) ?_
                     refine lv_istore (lv' := [(4, .int 0), (0, .ref (ad 55)), (1, .int a1), (2, .int a2), (3, .int a3)]) hx hb dX12_over_71 hl (of_decide_eq_true rfl) rfl (fun ls hl => ?_)
                     refine lv_iload hx hb dX12_over_73 (lv_at hl 0 rfl) ?_
                     refine lv_if_ne (tgt := 80) hx hb dX12_over_75 (of_decide_eq_true rfl) (fun c => absurd (of_decide_eq_true rfl) c) (fun _ => ?_)
                     refine lv_iconst (v := (-1)) hx hb dX12_over_78 (of_decide_eq_true rfl) ?_
                     exact hret (-1) σ τ _ _ _ _ rfl ⟨rfl, (fun _ _ => rfl), (fun _ _ => rfl), hI119, hs_jTR, (fun wa9 wb9 => Or.inr ⟨(fun w => by unfold jOvB at w; omega), rfl⟩), trivial⟩ hP hS dX12_over_79
                   · have kc22 := jnlt c22 jz_8 tx21
                     refine lv_iload_n hx hb dX12_over_56 rfl (lv_at hl 3 rfl) ?_
                     refine lv_i2l (v := a3.toInt64) hx hb dX12_over_57 rfl ?_
                     refine lv_lconst (v := 0) hx hb dX12_over_58 (of_decide_eq_true rfl) ?_
                     refine lv_lconst (v := 1) hx hb dX12_over_59 (of_decide_eq_true rfl) ?_
                     refine jcallS (As := [.long a3.toInt64, .long 0, .long 1]) (rest := []) ⟨hx, hb, hml, hown, hts⟩ hK hP hA hS hZ (c_X12_within l D cI cL ad zz hJ σ τ a3.toInt64 (A3) (jtoL t3) 0 (0) jzl_0 1 (1) jzl_1) cw_RX12_136 ⟨Nat.le_of_ble_eq_true rfl, Nat.le_of_ble_eq_true rfl⟩ rfl rfl rfl hl.1 rfl (Nat.le_of_ble_eq_true rfl) dX12_over_60 ⟨Nat.zero_le _, Nat.zero_le _⟩ (fun r24 σ23 τ23 H locs h23 hP hS => ?_)
                     obtain ⟨⟨rfl, rfl⟩, h23⟩ := h23
                     rcases h23 with h25 | h26
                     · obtain ⟨q28, k27⟩ := h25
                       have q28 := q28.symm
                       subst q28
                       refine lv_if_eq (tgt := 70) hx hb dX12_over_63 (of_decide_eq_true rfl) (fun c => absurd c (of_decide_eq_true rfl)) (fun _ => ?_)
                       refine lv_iconst (v := 1) hx hb dX12_over_66 (of_decide_eq_true rfl) ?_
                       refine lv_goto (tgt := 71) hx hb dX12_over_67 (of_decide_eq_true rfl) ?_
                       refine lv_istore (lv' := [(4, .int 1), (0, .ref (ad 55)), (1, .int a1), (2, .int a2), (3, .int a3)]) hx hb dX12_over_71 hl (of_decide_eq_true rfl) rfl (fun ls hl => ?_)
                       refine lv_iload hx hb dX12_over_73 (lv_at hl 0 rfl) ?_
                       refine lv_if_ne (tgt := 80) hx hb dX12_over_75 (of_decide_eq_true rfl) (fun _ => ?_) (fun c => absurd c (of_decide_eq_true rfl))
                       refine lv_aload_n hx hb dX12_over_80 rfl (lv_at hl 1 rfl) ?_
                       refine jcallVv (As := []) (rest := []) ⟨hx, hb, hml, hown, hts⟩ hK hP hA hS hZ (c_X12_begin l D cI cL ad zz hJ σ τ hI104 w4) cw_RX12_256 (jc_55 cI cL ad σ τ) rfl ⟨Nat.le_of_ble_eq_true rfl, Nat.le_of_ble_eq_true rfl⟩ rfl rfl rfl hl.1 rfl (Nat.le_of_ble_eq_true rfl) dX12_over_81 ⟨Nat.zero_le _, Nat.zero_le _⟩ (fun σ29 τ29 H locs h29 hP hS => ?_)
                       obtain ⟨rfl, f31, f32, I33, w34, w35, h29⟩ := h29
                       obtain ⟨i37, i38, i39, i40, i41, w42⟩ : (0 ≤ (σ29 55 25).toInt) ∧ ((σ29 55 25).toInt ≤ (σ29 55 10).toInt) ∧ (0 ≤ (σ29 55 26).toInt) ∧ ((σ29 55 26).toInt ≤ (σ29 55 12).toInt) ∧ ((-1) ≤ (σ29 55 27).toInt ∧ (σ29 55 27).toInt ≤ 3) ∧ (∀ k : Nat, k < 4 → 0 ≤ (σ29 68 k).toInt ∧ (σ29 68 k).toInt ≤ 3) := id I33
                       have z43 : (σ29 55 10).toInt = (σ 55 10).toInt := (congrArg Int32.toInt (show σ29 55 10 = (σ 55 10) from (f32 10 (of_decide_eq_true rfl))))
                       have z44 : (σ29 55 12).toInt = (σ 55 12).toInt := (congrArg Int32.toInt (show σ29 55 12 = (σ 55 12) from (f32 12 (of_decide_eq_true rfl))))
                       obtain ⟨k45, k46, k47, h29⟩ := h29
                       refine lv_iload_n hx hb dX12_over_84 rfl (lv_at hl 2 rfl) ?_
                       refine lv_bipush (v := 100) hx hb dX12_over_85 (of_decide_eq_true rfl) ?_
                       refine lv_idiv hx hb dX12_over_87 (of_decide_eq_true rfl) ?_
                       refine lv_topi (fun x48 ex48 => ?_)
                       exact by
                        have tx48 : x48.toInt = (A1 / 100) := jdiv ex48 t1 jz_100 (by omega) (by omega)
                        refine lv_istore (lv' := [(5, .int x48), (4, .int 1), (0, .ref (ad 55)), (1, .int a1), (2, .int a2), (3, .int a3)]) hx hb dX12_over_88 hl (of_decide_eq_true rfl) rfl (fun ls hl => ?_)
                        refine lv_aload_n hx hb dX12_over_90 rfl (lv_at hl 2 rfl) ?_
                        refine va_get (D := D) hx hb hts inlX12 hown hK hP 55 (jc_55 cI cL ad σ29 τ) rfl 28 (of_decide_eq_true rfl) (hts _ kw_7_14) (fun _ h9 => h9) rfl dX12_over_91 ?_
                        refine lv_iload hx hb dX12_over_94 (lv_at hl 0 rfl) ?_
                        refine lv_iload_n hx hb dX12_over_96 rfl (lv_at hl 3 rfl) ?_
                        refine lv_bipush (v := 10) hx hb dX12_over_97 (of_decide_eq_true rfl) ?_
                        refine lv_irem hx hb dX12_over_99 (of_decide_eq_true rfl) ?_
                        refine lv_topi (fun x49 ex49 => ?_)
                        exact by
                         have tx49 : x49.toInt = (A1 % 10) := jrem ex49 t1 jz_10 (by omega)
                         refine jast hx hb hK hP hJ hA hS (jc_68 cI cL ad σ29 τ) (ja_68 cI cL ad σ29 τ _ _) (jin tx48 (by omega) (by omega)) dX12_over_100 (fun σ50 H locs eσ50 hP hS => ?_)
                         refine lv_aload_n hx hb dX12_over_101 rfl (lv_at hl 2 rfl) ?_
                         refine lv_iload_n hx hb dX12_over_102 rfl (lv_at hl 4 rfl) ?_
                         refine lv_bipush (v := 10) hx hb dX12_over_103 (of_decide_eq_true rfl) ?_
                         refine lv_idiv hx hb dX12_over_105 (of_decide_eq_true rfl) ?_
                         refine lv_topi (fun x51 ex51 => ?_)
                         have tx51 : x51.toInt = (A2 / 10) := jdiv ex51 t2 jz_10 (by omega) (by omega)
                         refine jput (ty := .int) hx hb hts inlX12 tyX12 tyX12_ok nmX12 hown hK hP hJ hA hS (jc_55 cI cL ad σ50 τ) rfl (k := 26) (of_decide_eq_true rfl) (Nat.le_of_ble_eq_true rfl) (jp_55_26 cI cL ad σ50 τ x51) (hts _ kw_23_5) (fun _ h9 => h9) rfl (by decide +kernel) rfl rfl dX12_over_106 (fun σ52 H locs eσ52 hP hS => ?_)
                         exact by
                          refine lv_aload_n hx hb dX12_over_109 rfl (lv_at hl 2 rfl) ?_
                          refine lv_iload_n hx hb dX12_over_110 rfl (lv_at hl 4 rfl) ?_
                          refine lv_bipush (v := 10) hx hb dX12_over_111 (of_decide_eq_true rfl) ?_
                          refine lv_irem hx hb dX12_over_113 (of_decide_eq_true rfl) ?_
                          refine lv_topi (fun x53 ex53 => ?_)
                          have tx53 : x53.toInt = (A2 % 10) := jrem ex53 t2 jz_10 (by omega)
                          refine jput (ty := .int) hx hb hts inlX12 tyX12 tyX12_ok nmX12 hown hK hP hJ hA hS (jc_55 cI cL ad σ52 τ) rfl (k := 25) (of_decide_eq_true rfl) (Nat.le_of_ble_eq_true rfl) (jp_55_25 cI cL ad σ52 τ x53) (hts _ kw_23_6) (fun _ h9 => h9) rfl (by decide +kernel) rfl rfl dX12_over_114 (fun σ54 H locs eσ54 hP hS => ?_)
                          refine lv_iload_n hx hb dX12_over_117 rfl (lv_at hl 5 rfl) ?_
                          refine lv_if_ne (tgt := 137) hx hb dX12_over_118 (of_decide_eq_true rfl) (fun c55 => ?_) (fun c55 => ?_)
                          · exact by
                             have kc55 := jne c55 t3 jz_0
                             refine lv_aload_n hx hb dX12_over_137 rfl (lv_at hl 2 rfl) ?_
                             refine lv_iload hx hb dX12_over_138 (lv_at hl 0 rfl) ?_
                             refine lv_iload_n hx hb dX12_over_140 rfl (lv_at hl 3 rfl) ?_
                             refine lv_bipush (v := 10) hx hb dX12_over_141 (of_decide_eq_true rfl) ?_
                             refine lv_idiv hx hb dX12_over_143 (of_decide_eq_true rfl) ?_
                             refine lv_topi (fun x56 ex56 => ?_)
                             have tx56 : x56.toInt = (A1 / 10) := jdiv ex56 t1 jz_10 (by omega) (by omega)
                             refine lv_bipush (v := 10) hx hb dX12_over_144 (of_decide_eq_true rfl) ?_
                             exact by
                              refine lv_irem hx hb dX12_over_146 (of_decide_eq_true rfl) ?_
                              refine lv_topi (fun x57 ex57 => ?_)
                              have tx57 : x57.toInt = (((A1 / 10)) % 10) := jrem ex57 tx56 jz_10 (by omega)
                              have I58 : jI101 σ54 := jI101_fr ((jkp 4 eσ54 (of_decide_eq_true rfl)).trans ((jkp 4 eσ52 (of_decide_eq_true rfl)).trans ((congrFun (jnp 55 eσ50 (of_decide_eq_true rfl)) 4).trans (f32 4 (of_decide_eq_true rfl))))) ((jkp 5 eσ54 (of_decide_eq_true rfl)).trans ((jkp 5 eσ52 (of_decide_eq_true rfl)).trans ((congrFun (jnp 55 eσ50 (of_decide_eq_true rfl)) 5).trans (f32 5 (of_decide_eq_true rfl))))) ((jnp 56 eσ54 (of_decide_eq_true rfl)).trans ((jnp 56 eσ52 (of_decide_eq_true rfl)).trans ((jnp 56 eσ50 (of_decide_eq_true rfl)).trans (f31 56 (of_decide_eq_true rfl))))) ((jnp 57 eσ54 (of_decide_eq_true rfl)).trans ((jnp 57 eσ52 (of_decide_eq_true rfl)).trans ((jnp 57 eσ50 (of_decide_eq_true rfl)).trans (f31 57 (of_decide_eq_true rfl))))) ((jnp 58 eσ54 (of_decide_eq_true rfl)).trans ((jnp 58 eσ52 (of_decide_eq_true rfl)).trans ((jnp 58 eσ50 (of_decide_eq_true rfl)).trans (f31 58 (of_decide_eq_true rfl))))) ((jnp 59 eσ54 (of_decide_eq_true rfl)).trans ((jnp 59 eσ52 (of_decide_eq_true rfl)).trans ((jnp 59 eσ50 (of_decide_eq_true rfl)).trans (f31 59 (of_decide_eq_true rfl))))) hI101
                              have I59 : jI102 σ54 := jI102_fr ((jkp 6 eσ54 (of_decide_eq_true rfl)).trans ((jkp 6 eσ52 (of_decide_eq_true rfl)).trans ((congrFun (jnp 55 eσ50 (of_decide_eq_true rfl)) 6).trans (f32 6 (of_decide_eq_true rfl))))) ((jnp 60 eσ54 (of_decide_eq_true rfl)).trans ((jnp 60 eσ52 (of_decide_eq_true rfl)).trans ((jnp 60 eσ50 (of_decide_eq_true rfl)).trans (f31 60 (of_decide_eq_true rfl))))) ((jnp 61 eσ54 (of_decide_eq_true rfl)).trans ((jnp 61 eσ52 (of_decide_eq_true rfl)).trans ((jnp 61 eσ50 (of_decide_eq_true rfl)).trans (f31 61 (of_decide_eq_true rfl))))) hI102
                              have I60 : jI103 σ54 := jI103_fr ((jkp 9 eσ54 (of_decide_eq_true rfl)).trans ((jkp 9 eσ52 (of_decide_eq_true rfl)).trans ((congrFun (jnp 55 eσ50 (of_decide_eq_true rfl)) 9).trans (f32 9 (of_decide_eq_true rfl))))) hI103
                              have w61 : ∀ k : Nat, k < 4 → 0 ≤ (σ54 68 k).toInt ∧ (σ54 68 k).toInt ≤ 3 := (jrr_fr (jnp 68 eσ54 (of_decide_eq_true rfl)) (jrr_fr (jnp 68 eσ52 (of_decide_eq_true rfl)) (by rw [eσ50]; exact jrr_up w42 (by have h9 := tx49; omega) (by have h9 := tx49; omega))))
                              refine jcallV (As := [.int x48, .int x57]) (rest := []) ⟨hx, hb, hml, hown, hts⟩ hK hP hA hS hZ (c_X12_runsBy l D cI cL ad zz hJ σ54 τ x48 ((A1 / 100)) tx48 x57 ((((A1 / 10)) % 10)) tx57 I58 I59 I60 w61 (by omega) (by omega)) cw_RX12_262 (jc_55 cI cL ad σ54 τ) rfl ⟨Nat.le_of_ble_eq_true rfl, Nat.le_of_ble_eq_true rfl⟩ rfl rfl rfl hl.1 rfl (Nat.le_of_ble_eq_true rfl) dX12_over_147 ⟨Nat.zero_le _, Nat.zero_le _⟩ (fun r63 σ62 τ62 H locs h62 hP hS => ?_)
                              obtain ⟨⟨rfl, rfl⟩, w64, h62⟩ := h62
                              exact by
                               have h65 := h62
                               obtain ⟨q67, k66⟩ := h65
                               have I68 : jI119 σ54 := w61
                               have p69 : jTR σ54 := jTR.fr ((jnp 64 eσ54 (of_decide_eq_true rfl)).trans ((jnp 64 eσ52 (of_decide_eq_true rfl)).trans ((jnp 64 eσ50 (of_decide_eq_true rfl)).trans (f31 64 (of_decide_eq_true rfl))))) ((jnp 65 eσ54 (of_decide_eq_true rfl)).trans ((jnp 65 eσ52 (of_decide_eq_true rfl)).trans ((jnp 65 eσ50 (of_decide_eq_true rfl)).trans (f31 65 (of_decide_eq_true rfl))))) hs_jTR
                               have z70 : (σ54 55 9).toInt = (σ 55 9).toInt := (congrArg Int32.toInt (show σ54 55 9 = (σ 55 9) from ((jkp 9 eσ54 (of_decide_eq_true rfl)).trans ((jkp 9 eσ52 (of_decide_eq_true rfl)).trans ((congrFun (jnp 55 eσ50 (of_decide_eq_true rfl)) 9).trans (f32 9 (of_decide_eq_true rfl)))))))
                               exact by exact hret r63 σ54 τ _ _ _ _ rfl ⟨rfl, (fun i hi => ((jnp i eσ54 (imp_241 i hi)).trans ((jnp i eσ52 (imp_241 i hi)).trans ((jnp i eσ50 (imp_242 i hi)).trans (f31 i (imp_243 i hi)))))), (fun i hi => ((jkp i eσ54 (imp_244 i hi)).trans ((jkp i eσ52 (imp_245 i hi)).trans ((congrFun (jnp 55 eσ50 (of_decide_eq_true rfl)) i).trans (f32 i (imp_246 i hi)))))), I68, p69, (fun wa9 wb9 => Or.inl ⟨(by unfold jOvB; omega), (by unfold jOvV jRnv; rw [if_pos (by omega), w64, (show σ54 68 ((A1 / 100)).toNat = jwd (A1 % 10) from by rw [eσ54, jup_n (of_decide_eq_true rfl), eσ52, jup_n (of_decide_eq_true rfl), eσ50, jup_row]; unfold jupd; rw [if_pos (by rw [jnc (show x48.toInt = (A1 / 100) by have h9 := tx48; omega)])]; exact jwd_of (by have h9 := tx49; omega) (by omega) (by omega))]; rw [show σ54 56 = σ 56 from ((jnp 56 eσ54 (of_decide_eq_true rfl)).trans ((jnp 56 eσ52 (of_decide_eq_true rfl)).trans ((jnp 56 eσ50 (of_decide_eq_true rfl)).trans (f31 56 (of_decide_eq_true rfl))))), show σ54 61 = σ 61 from ((jnp 61 eσ54 (of_decide_eq_true rfl)).trans ((jnp 61 eσ52 (of_decide_eq_true rfl)).trans ((jnp 61 eσ50 (of_decide_eq_true rfl)).trans (f31 61 (of_decide_eq_true rfl))))), show (σ54 55 9).toInt = (σ 55 9).toInt from by omega]; try rw [show (A1 / 100) = (A1 / 100) from by omega]; try rw [show (((A1 / 10)) % 10) = (A1 / 10 % 10) from by omega])⟩), trivial⟩ hP hS dX12_over_150
                          · have kc55 := jeq c55 t3 jz_0
                            refine lv_aload_n hx hb dX12_over_121 rfl (lv_at hl 2 rfl) ?_
                            refine lv_iload hx hb dX12_over_122 (lv_at hl 0 rfl) ?_
                            refine lv_iload_n hx hb dX12_over_124 rfl (lv_at hl 3 rfl) ?_
                            refine lv_bipush (v := 10) hx hb dX12_over_125 (of_decide_eq_true rfl) ?_
                            refine lv_idiv hx hb dX12_over_127 (of_decide_eq_true rfl) ?_
                            refine lv_topi (fun x71 ex71 => ?_)
                            exact by
                             have tx71 : x71.toInt = (A1 / 10) := jdiv ex71 t1 jz_10 (by omega) (by omega)
                             refine lv_bipush (v := 10) hx hb dX12_over_128 (of_decide_eq_true rfl) ?_
                             refine lv_irem hx hb dX12_over_130 (of_decide_eq_true rfl) ?_
                             refine lv_topi (fun x72 ex72 => ?_)
                             have tx72 : x72.toInt = (((A1 / 10)) % 10) := jrem ex72 tx71 jz_10 (by omega)
                             have I73 : jI101 σ54 := jI101_fr ((jkp 4 eσ54 (of_decide_eq_true rfl)).trans ((jkp 4 eσ52 (of_decide_eq_true rfl)).trans ((congrFun (jnp 55 eσ50 (of_decide_eq_true rfl)) 4).trans (f32 4 (of_decide_eq_true rfl))))) ((jkp 5 eσ54 (of_decide_eq_true rfl)).trans ((jkp 5 eσ52 (of_decide_eq_true rfl)).trans ((congrFun (jnp 55 eσ50 (of_decide_eq_true rfl)) 5).trans (f32 5 (of_decide_eq_true rfl))))) ((jnp 56 eσ54 (of_decide_eq_true rfl)).trans ((jnp 56 eσ52 (of_decide_eq_true rfl)).trans ((jnp 56 eσ50 (of_decide_eq_true rfl)).trans (f31 56 (of_decide_eq_true rfl))))) ((jnp 57 eσ54 (of_decide_eq_true rfl)).trans ((jnp 57 eσ52 (of_decide_eq_true rfl)).trans ((jnp 57 eσ50 (of_decide_eq_true rfl)).trans (f31 57 (of_decide_eq_true rfl))))) ((jnp 58 eσ54 (of_decide_eq_true rfl)).trans ((jnp 58 eσ52 (of_decide_eq_true rfl)).trans ((jnp 58 eσ50 (of_decide_eq_true rfl)).trans (f31 58 (of_decide_eq_true rfl))))) ((jnp 59 eσ54 (of_decide_eq_true rfl)).trans ((jnp 59 eσ52 (of_decide_eq_true rfl)).trans ((jnp 59 eσ50 (of_decide_eq_true rfl)).trans (f31 59 (of_decide_eq_true rfl))))) hI101
                             have I74 : jI102 σ54 := jI102_fr ((jkp 6 eσ54 (of_decide_eq_true rfl)).trans ((jkp 6 eσ52 (of_decide_eq_true rfl)).trans ((congrFun (jnp 55 eσ50 (of_decide_eq_true rfl)) 6).trans (f32 6 (of_decide_eq_true rfl))))) ((jnp 60 eσ54 (of_decide_eq_true rfl)).trans ((jnp 60 eσ52 (of_decide_eq_true rfl)).trans ((jnp 60 eσ50 (of_decide_eq_true rfl)).trans (f31 60 (of_decide_eq_true rfl))))) ((jnp 61 eσ54 (of_decide_eq_true rfl)).trans ((jnp 61 eσ52 (of_decide_eq_true rfl)).trans ((jnp 61 eσ50 (of_decide_eq_true rfl)).trans (f31 61 (of_decide_eq_true rfl))))) hI102
                             have I75 : jI103 σ54 := jI103_fr ((jkp 9 eσ54 (of_decide_eq_true rfl)).trans ((jkp 9 eσ52 (of_decide_eq_true rfl)).trans ((congrFun (jnp 55 eσ50 (of_decide_eq_true rfl)) 9).trans (f32 9 (of_decide_eq_true rfl))))) hI103
                             have I76 : jI105 σ54 := jI105_fr ((jkp 15 eσ54 (of_decide_eq_true rfl)).trans ((jkp 15 eσ52 (of_decide_eq_true rfl)).trans ((congrFun (jnp 55 eσ50 (of_decide_eq_true rfl)) 15).trans (f32 15 (of_decide_eq_true rfl))))) ((jnp 65 eσ54 (of_decide_eq_true rfl)).trans ((jnp 65 eσ52 (of_decide_eq_true rfl)).trans ((jnp 65 eσ50 (of_decide_eq_true rfl)).trans (f31 65 (of_decide_eq_true rfl))))) hI105
                             exact by
                              have w77 : ∀ k : Nat, k < 4 → 0 ≤ (σ54 68 k).toInt ∧ (σ54 68 k).toInt ≤ 3 := (jrr_fr (jnp 68 eσ54 (of_decide_eq_true rfl)) (jrr_fr (jnp 68 eσ52 (of_decide_eq_true rfl)) (by rw [eσ50]; exact jrr_up w42 (by have h9 := tx49; omega) (by have h9 := tx49; omega))))
                              have p78 : jTR σ54 := jTR.fr ((jnp 64 eσ54 (of_decide_eq_true rfl)).trans ((jnp 64 eσ52 (of_decide_eq_true rfl)).trans ((jnp 64 eσ50 (of_decide_eq_true rfl)).trans (f31 64 (of_decide_eq_true rfl))))) ((jnp 65 eσ54 (of_decide_eq_true rfl)).trans ((jnp 65 eσ52 (of_decide_eq_true rfl)).trans ((jnp 65 eσ50 (of_decide_eq_true rfl)).trans (f31 65 (of_decide_eq_true rfl))))) hs_jTR
                              refine jcallV (As := [.int x48, .int x72]) (rest := []) ⟨hx, hb, hml, hown, hts⟩ hK hP hA hS hZ (c_X12_outBy l D cI cL ad zz hJ σ54 τ x48 ((A1 / 100)) tx48 x72 ((((A1 / 10)) % 10)) tx72 I73 I74 I75 I76 w77 p78 (by omega) (by omega)) cw_RX12_259 (jc_55 cI cL ad σ54 τ) rfl ⟨Nat.le_of_ble_eq_true rfl, Nat.le_of_ble_eq_true rfl⟩ rfl rfl rfl hl.1 rfl (Nat.le_of_ble_eq_true rfl) dX12_over_131 ⟨Nat.zero_le _, Nat.zero_le _⟩ (fun r80 σ79 τ79 H locs h79 hP hS => ?_)
                              obtain ⟨rfl, f81, f82, p83, w84, h79⟩ := h79
                              have h86 := h79
                              obtain ⟨q88, k87⟩ := h86
                              refine lv_goto (tgt := 150) hx hb dX12_over_134 (of_decide_eq_true rfl) ?_
                              have w89 : ∀ k : Nat, k < 4 → 0 ≤ (σ79 68 k).toInt ∧ (σ79 68 k).toInt ≤ 3 := (jrr_fr (f81 68 (of_decide_eq_true rfl)) w77)
                              have I90 : jI119 σ79 := w89
                              exact by
                               have z91 : (σ54 55 9).toInt = (σ 55 9).toInt := (congrArg Int32.toInt (show σ54 55 9 = (σ 55 9) from ((jkp 9 eσ54 (of_decide_eq_true rfl)).trans ((jkp 9 eσ52 (of_decide_eq_true rfl)).trans ((congrFun (jnp 55 eσ50 (of_decide_eq_true rfl)) 9).trans (f32 9 (of_decide_eq_true rfl)))))))
                               have l92 : (σ 55 30).toInt = -1 → (σ 55 31).toInt = -1 → jleft σ54 x48 = σ 56 (32 + (A1 / 100)).toNat := fun wa9 wb9 => by
                                 unfold jleft
                                 rw [show σ54 55 30 = σ 55 30 from ((jkp 30 eσ54 (of_decide_eq_true rfl)).trans ((jkp 30 eσ52 (of_decide_eq_true rfl)).trans ((congrFun (jnp 55 eσ50 (of_decide_eq_true rfl)) 30).trans (f32 30 (of_decide_eq_true rfl))))), show σ54 55 31 = σ 55 31 from ((jkp 31 eσ54 (of_decide_eq_true rfl)).trans ((jkp 31 eσ52 (of_decide_eq_true rfl)).trans ((congrFun (jnp 55 eσ50 (of_decide_eq_true rfl)) 31).trans (f32 31 (of_decide_eq_true rfl))))), show σ54 56 = σ 56 from ((jnp 56 eσ54 (of_decide_eq_true rfl)).trans ((jnp 56 eσ52 (of_decide_eq_true rfl)).trans ((jnp 56 eσ50 (of_decide_eq_true rfl)).trans (f31 56 (of_decide_eq_true rfl))))), show σ54 69 = σ29 69 from ((jnp 69 eσ54 (of_decide_eq_true rfl)).trans ((jnp 69 eσ52 (of_decide_eq_true rfl)).trans (jnp 69 eσ50 (of_decide_eq_true rfl))))]
                                 rw [if_neg (fun w => by have w2 := congrArg Int32.toInt w; have h9 := tx48; omega), if_neg (fun w => by have w2 := congrArg Int32.toInt w; have h9 := tx48; omega), jnc tx48, w34 _ (by omega), Int32.sub_zero]
                                 rw [jnc (show (32 + x48).toInt = 32 + (A1 / 100) from by rw [Int32.toInt_add, show ((32 : Int32).toInt = 32) from by decide]; have h9 := tx48; rw [jbm (by omega) (by omega)]; omega)]
                               exact by exact hret r80 σ79 τ _ _ _ _ rfl ⟨rfl, (fun i hi => ((f81 i (imp_247 i hi)).trans ((jnp i eσ54 (imp_241 i hi)).trans ((jnp i eσ52 (imp_241 i hi)).trans ((jnp i eσ50 (imp_242 i hi)).trans (f31 i (imp_243 i hi))))))), (fun i hi => ((f82 i (imp_248 i hi)).trans ((jkp i eσ54 (imp_244 i hi)).trans ((jkp i eσ52 (imp_245 i hi)).trans ((congrFun (jnp 55 eσ50 (of_decide_eq_true rfl)) i).trans (f32 i (imp_246 i hi))))))), I90, p83, (fun wa9 wb9 => Or.inl ⟨(by unfold jOvB; omega), (by unfold jOvV jChv; rw [if_neg (by omega), w84, l92 wa9 wb9, (show σ54 68 ((A1 / 100)).toNat = jwd (A1 % 10) from by rw [eσ54, jup_n (of_decide_eq_true rfl), eσ52, jup_n (of_decide_eq_true rfl), eσ50, jup_row]; unfold jupd; rw [if_pos (by rw [jnc (show x48.toInt = (A1 / 100) by have h9 := tx48; omega)])]; exact jwd_of (by have h9 := tx49; omega) (by omega) (by omega)), show σ54 55 26 = jwd (A2 / 10) from (show σ54 55 26 = x51 from ((jkp 26 eσ54 (of_decide_eq_true rfl)).trans (jsp eσ52))).trans (jwd_of (by have h9 := tx51; omega) (by omega) (by omega)), show σ54 55 25 = jwd (A2 % 10) from (show σ54 55 25 = x53 from (jsp eσ54)).trans (jwd_of (by have h9 := tx53; omega) (by omega) (by omega))]; rw [show σ54 56 = σ 56 from ((jnp 56 eσ54 (of_decide_eq_true rfl)).trans ((jnp 56 eσ52 (of_decide_eq_true rfl)).trans ((jnp 56 eσ50 (of_decide_eq_true rfl)).trans (f31 56 (of_decide_eq_true rfl))))), show σ54 60 = σ 60 from ((jnp 60 eσ54 (of_decide_eq_true rfl)).trans ((jnp 60 eσ52 (of_decide_eq_true rfl)).trans ((jnp 60 eσ50 (of_decide_eq_true rfl)).trans (f31 60 (of_decide_eq_true rfl))))), show σ54 64 = σ 64 from ((jnp 64 eσ54 (of_decide_eq_true rfl)).trans ((jnp 64 eσ52 (of_decide_eq_true rfl)).trans ((jnp 64 eσ50 (of_decide_eq_true rfl)).trans (f31 64 (of_decide_eq_true rfl))))), show σ54 65 = σ 65 from ((jnp 65 eσ54 (of_decide_eq_true rfl)).trans ((jnp 65 eσ52 (of_decide_eq_true rfl)).trans ((jnp 65 eσ50 (of_decide_eq_true rfl)).trans (f31 65 (of_decide_eq_true rfl))))), show (σ54 55 9).toInt = (σ 55 9).toInt from by omega]; rw [show x48 = jwd (A1 / 100) from jwd_of (by have h9 := tx48; omega) (by omega) (by omega), show x72 = jwd (A1 / 10 % 10) from jwd_of (by have h9 := tx72; omega) (by omega) (by omega)]; try rw [show (A1 / 100) = (A1 / 100) from by omega]; try rw [show (((A1 / 10)) % 10) = (A1 / 10 % 10) from by omega])⟩), trivial⟩ hP hS dX12_over_150
                     · obtain ⟨q94, k93⟩ := h26
                       have q94 := q94.symm
                       exact by
                        subst q94
                        refine lv_if_eq (tgt := 70) hx hb dX12_over_63 (of_decide_eq_true rfl) (fun _ => ?_) (fun c => absurd (of_decide_eq_true rfl) c)
                        refine lv_iconst (v := 0) hx hb dX12_over_70 (of_decide_eq_true rfl) ?_
                        refine lv_istore (lv' := [(4, .int 0), (0, .ref (ad 55)), (1, .int a1), (2, .int a2), (3, .int a3)]) hx hb dX12_over_71 hl (of_decide_eq_true rfl) rfl (fun ls hl => ?_)
                        refine lv_iload hx hb dX12_over_73 (lv_at hl 0 rfl) ?_
                        refine lv_if_ne (tgt := 80) hx hb dX12_over_75 (of_decide_eq_true rfl) (fun c => absurd (of_decide_eq_true rfl) c) (fun _ => ?_)
                        refine lv_iconst (v := (-1)) hx hb dX12_over_78 (of_decide_eq_true rfl) ?_
                        exact hret (-1) σ τ _ _ _ _ rfl ⟨rfl, (fun _ _ => rfl), (fun _ _ => rfl), hI119, hs_jTR, (fun wa9 wb9 => Or.inr ⟨(fun w => by unfold jOvB at w; omega), rfl⟩), trivial⟩ hP hS dX12_over_79
     · obtain ⟨q96, k95⟩ := h10
       have q96 := q96.symm
       subst q96
       refine lv_if_eq (tgt := 70) hx hb dX12_over_12 (of_decide_eq_true rfl) (fun _ => ?_) (fun c => absurd (of_decide_eq_true rfl) c)
       refine lv_iconst (v := 0) hx hb dX12_over_70 (of_decide_eq_true rfl) ?_
       refine lv_istore (lv' := [(4, .int 0), (0, .ref (ad 55)), (1, .int a1), (2, .int a2), (3, .int a3)]) hx hb dX12_over_71 hl (of_decide_eq_true rfl) rfl (fun ls hl => ?_)
       refine lv_iload hx hb dX12_over_73 (lv_at hl 0 rfl) ?_
       refine lv_if_ne (tgt := 80) hx hb dX12_over_75 (of_decide_eq_true rfl) (fun c => absurd (of_decide_eq_true rfl) c) (fun _ => ?_)
       refine lv_iconst (v := (-1)) hx hb dX12_over_78 (of_decide_eq_true rfl) ?_
       exact hret (-1) σ τ _ _ _ _ rfl ⟨rfl, (fun _ _ => rfl), (fun _ _ => rfl), hI119, hs_jTR, (fun wa9 wb9 => Or.inr ⟨(fun w => by unfold jOvB at w; omega), rfl⟩), trivial⟩ hP hS dX12_over_79
set_option maxHeartbeats 4000000 in
set_option maxRecDepth 100000 in
theorem c_X12_rule (l : Launch) (D : va_G) (cI cL : ClassId) (ad zz : Nat → Nat) (hJ : jD ad) (σ : Nat → Nat → Int32) (τ : Nat → Nat → Int64) (a1 : Int32) (A1 : Int) (t1 : a1.toInt = A1) (a2 : Int32) (A2 : Int) (t2 : a2.toInt = A2) (a3 : Int32) (A3 : Int) (t3 : a3.toInt = A3) (hI106 : jI106 σ) : jM l yX12_rule cX12_rule 7 (some .int) ({ frames := 1, cells := 0, slots := 0, locals := 25 }) D cI cL ad zz [.ref (ad 55), .int a1, .int a2, .int a3] σ τ (fun r σ' τ' => τ = τ' ∧ (∀ i : Nat, (i < 55 ∨ 55 < i) ∧ (i < 70 ∨ 73 < i) → σ' i = σ i) ∧ (∀ k : Nat, (k < 32 ∨ 32 < k) → σ' 55 k = σ 55 k) ∧ (jI106 σ') ∧ ((r = (-1) ∧ ((σ' 55 32).toInt = (σ 55 32).toInt) ∧ (¬ (0 ≤ A1 ∧ A1 ≤ 6 ∧ jRow (A2) ∧ 0 ≤ A3 ∧ A3 ≤ 12)) ∧ (σ' 70 = σ 70)) ∨ (r = (-3) ∧ ((σ 55 32).toInt = 20) ∧ ((σ' 55 32).toInt = 20) ∧ ((0 ≤ A1 ∧ A1 ≤ 6 ∧ jRow (A2) ∧ 0 ≤ A3 ∧ A3 ≤ 12)) ∧ (σ' 70 = σ 70)) ∨ (True ∧ ((σ 55 32).toInt < 20) ∧ (r.toInt = (σ 55 32).toInt) ∧ ((σ' 55 32).toInt = (σ 55 32).toInt + 1) ∧ ((0 ≤ A1 ∧ A1 ≤ 6 ∧ jRow (A2) ∧ 0 ≤ A3 ∧ A3 ≤ 12)) ∧ (σ' 70 = jupd (σ 70) ((σ 55 32).toInt).toNat a1)))) := by
  refine jM.of hJ (by decide +kernel) (nt := .int) rfl (Nat.le_of_ble_eq_true rfl) ?_
  intro p e s m args below meth c Q ls hC hret hl hP
  obtain ⟨hx, hb, hr, hml, hown, hts, hK, -, hlocks, hZ⟩ := hC
  have hown : s.vm.findClass RX12 = some m.cls := hown
  have hS : va_S (jA ad) s.heap s.heap [] := va_S.rf
  have hA : ∀ q, jA ad q → jA ad q := fun _ h => h
  have hl : lv_has ls 7 [(0, .ref (ad 55)), (1, .int a1), (2, .int a2), (3, .int a3)] := hl
  have g1 := jrg t1
  have g2 := jrg t2
  have g3 := jrg t3
  obtain ⟨i1, w2, w3, w4⟩ : (0 ≤ (σ 55 32).toInt ∧ (σ 55 32).toInt ≤ 20) ∧ (∀ k : Nat, k < 20 → 0 ≤ (σ 70 k).toInt ∧ (σ 70 k).toInt ≤ 6) ∧ (∀ k : Nat, k < 20 → 0 ≤ (σ 71 k).toInt ∧ (σ 71 k).toInt ≤ 8) ∧ (∀ k : Nat, k < 160 → 0 ≤ (σ 72 k).toInt ∧ (σ 72 k).toInt ≤ 3) := id hI106
  refine lv_iload_n hx hb dX12_rule_0 rfl (lv_at hl 1 rfl) ?_
  refine lv_i2l (v := a1.toInt64) hx hb dX12_rule_1 rfl ?_
  refine lv_lconst (v := 0) hx hb dX12_rule_2 (of_decide_eq_true rfl) ?_
  refine lv_ldc2 (v := 6) hx hb hown (hts _ kw_24_22) dX12_rule_3 ?_
  refine jcallS (As := [.long a1.toInt64, .long 0, .long 6]) (rest := []) ⟨hx, hb, hml, hown, hts⟩ hK hP hA hS hZ (c_X12_within l D cI cL ad zz hJ σ τ a1.toInt64 (A1) (jtoL t1) 0 (0) jzl_0 6 (6) jzl_6) cw_RX12_136 ⟨Nat.le_of_ble_eq_true rfl, Nat.le_of_ble_eq_true rfl⟩ rfl rfl rfl hl.1 rfl (Nat.le_of_ble_eq_true rfl) dX12_rule_6 ⟨Nat.zero_le _, Nat.zero_le _⟩ (fun r6 σ5 τ5 H locs h5 hP hS => ?_)
  obtain ⟨⟨rfl, rfl⟩, h5⟩ := h5
  rcases h5 with h7 | h8
  · obtain ⟨q10, k9⟩ := h7
    have q10 := q10.symm
    subst q10
    refine lv_if_eq (tgt := 36) hx hb dX12_rule_9 (of_decide_eq_true rfl) (fun c => absurd c (of_decide_eq_true rfl)) (fun _ => ?_)
    refine lv_iload_n hx hb dX12_rule_12 rfl (lv_at hl 2 rfl) ?_
    refine lv_i2l (v := a2.toInt64) hx hb dX12_rule_13 rfl ?_
    refine lv_lconst (v := 0) hx hb dX12_rule_14 (of_decide_eq_true rfl) ?_
    refine lv_ldc2 (v := 44444444) hx hb hown (hts _ kw_24_23) dX12_rule_15 ?_
    refine jcallS (As := [.long a2.toInt64, .long 0, .long 44444444]) (rest := []) ⟨hx, hb, hml, hown, hts⟩ hK hP hA hS hZ (c_X12_within l D cI cL ad zz hJ σ τ a2.toInt64 (A2) (jtoL t2) 0 (0) jzl_0 44444444 (44444444) jzl_44444444) cw_RX12_136 ⟨Nat.le_of_ble_eq_true rfl, Nat.le_of_ble_eq_true rfl⟩ rfl rfl rfl hl.1 rfl (Nat.le_of_ble_eq_true rfl) dX12_rule_18 ⟨Nat.zero_le _, Nat.zero_le _⟩ (fun r12 σ11 τ11 H locs h11 hP hS => ?_)
    obtain ⟨⟨rfl, rfl⟩, h11⟩ := h11
    rcases h11 with h13 | h14
    · obtain ⟨q16, k15⟩ := h13
      have q16 := q16.symm
      subst q16
      refine lv_if_eq (tgt := 36) hx hb dX12_rule_21 (of_decide_eq_true rfl) (fun c => absurd c (of_decide_eq_true rfl)) (fun _ => ?_)
      refine lv_iload_n hx hb dX12_rule_24 rfl (lv_at hl 3 rfl) ?_
      refine lv_i2l (v := a3.toInt64) hx hb dX12_rule_25 rfl ?_
      refine lv_lconst (v := 0) hx hb dX12_rule_26 (of_decide_eq_true rfl) ?_
      refine lv_ldc2 (v := 12) hx hb hown (hts _ kw_25_0) dX12_rule_27 ?_
      refine jcallS (As := [.long a3.toInt64, .long 0, .long 12]) (rest := []) ⟨hx, hb, hml, hown, hts⟩ hK hP hA hS hZ (c_X12_within l D cI cL ad zz hJ σ τ a3.toInt64 (A3) (jtoL t3) 0 (0) jzl_0 12 (12) jzl_12) cw_RX12_136 ⟨Nat.le_of_ble_eq_true rfl, Nat.le_of_ble_eq_true rfl⟩ rfl rfl rfl hl.1 rfl (Nat.le_of_ble_eq_true rfl) dX12_rule_30 ⟨Nat.zero_le _, Nat.zero_le _⟩ (fun r18 σ17 τ17 H locs h17 hP hS => ?_)
      obtain ⟨⟨rfl, rfl⟩, h17⟩ := h17
      rcases h17 with h19 | h20
      · obtain ⟨q22, k21⟩ := h19
        have q22 := q22.symm
        subst q22
        refine lv_if_ne (tgt := 38) hx hb dX12_rule_33 (of_decide_eq_true rfl) (fun _ => ?_) (fun c => absurd c (of_decide_eq_true rfl))
        have lp23 : ∀ (x25 : Int32) (H : Heap) (locs : List Loc) (ls : Array Slot), 0 ≤ x25.toInt → x25.toInt ≤ 8 → (jRow (A2) ∧ jDn (x25.toInt).toNat (A2)) → jH D cI cL ad σ τ H → va_S (jA ad) s.heap H locs → lv_has ls 7 [(0, .ref (ad 55)), (1, .int a1), (2, .int a2), (3, .int a3), (4, .int x25)] → W p l e ({ frames := 1, cells := 0, slots := 0, locals := 25 }) s m args below meth c H locs 0 0 Q (F0 m 80 ls []) := by
          intro x25 H locs ls h27 h28 q30 hP hS hl
          refine lv_aload_n hx hb dX12_rule_80 rfl (lv_at hl 0 rfl) ?_
          refine va_get (D := D) hx hb hts inlX12 hown hK hP 55 (jc_55 cI cL ad σ τ) rfl 32 (of_decide_eq_true rfl) (hts _ kw_25_1) (fun _ h9 => h9) rfl dX12_rule_81 ?_
          refine lv_bipush (v := 20) hx hb dX12_rule_84 (of_decide_eq_true rfl) ?_
          refine lv_icmp_ne (tgt := 92) hx hb dX12_rule_86 (of_decide_eq_true rfl) (fun c31 => ?_) (fun c31 => ?_)
          · have kc31 := jne c31 rfl jz_20
            refine lv_iload_n hx hb dX12_rule_92 rfl (lv_at hl 2 rfl) ?_
            refine lv_istore (lv' := [(5, .int a2), (0, .ref (ad 55)), (1, .int a1), (2, .int a2), (3, .int a3), (4, .int x25)]) hx hb dX12_rule_93 hl (of_decide_eq_true rfl) rfl (fun ls hl => ?_)
            refine lv_iload hx hb dX12_rule_95 (lv_at hl 5 rfl) ?_
            refine lv_iconst (v := 1) hx hb dX12_rule_97 (of_decide_eq_true rfl) ?_
            have g32 := jrg (rfl : x25.toInt = x25.toInt)
            refine lv_isub hx hb dX12_rule_98 ?_
            refine lv_topi (fun x33 ex33 => ?_)
            exact by
             have tx33 : x33.toInt = x25.toInt - 1 := (jsub ex33 rfl jz_1 (by omega) (by omega)).trans (by omega)
             refine lv_istore (lv' := [(6, .int x33), (5, .int a2), (0, .ref (ad 55)), (1, .int a1), (2, .int a2), (3, .int a3), (4, .int x25)]) hx hb dX12_rule_99 hl (of_decide_eq_true rfl) rfl (fun ls hl => ?_)
             have lp34 : ∀ (n35 : Nat) (x36 : Int32) (x37 : Int32) (σ38 : Nat → Nat → Int32) (H : Heap) (locs : List Loc) (ls : Array Slot), (x37.toInt + 1 : Int) < n35 → 0 ≤ x36.toInt → x36.toInt ≤ 44444444 → (-1) ≤ x37.toInt → x37.toInt ≤ 7 → (∀ i : Nat, (i < 72 ∨ 72 < i) → σ38 i = σ i) → jI106 σ38 → (jDn (x37.toInt + 1).toNat (x36.toInt)) → jH D cI cL ad σ38 τ H → va_S (jA ad) s.heap H locs → lv_has ls 7 [(6, .int x37), (5, .int x36), (0, .ref (ad 55)), (1, .int a1), (2, .int a2), (3, .int a3), (4, .int x25)] → W p l e ({ frames := 1, cells := 0, slots := 0, locals := 25 }) s m args below meth c H locs 0 0 Q (F0 m 101 ls []) := by
               intro n35
               induction n35 with
               | zero => intro x36 x37 σ38 H locs ls h40 h41 h42 h43 h44; exact absurd h40 (by omega)
               | succ n35 ihlp34 =>
                 intro x36 x37 σ38 H locs ls h40 h41 h42 h43 h44 f45 p46 q47 hP hS hl
                 obtain ⟨i48, w49, w50, w51⟩ : (0 ≤ (σ38 55 32).toInt ∧ (σ38 55 32).toInt ≤ 20) ∧ (∀ k : Nat, k < 20 → 0 ≤ (σ38 70 k).toInt ∧ (σ38 70 k).toInt ≤ 6) ∧ (∀ k : Nat, k < 20 → 0 ≤ (σ38 71 k).toInt ∧ (σ38 71 k).toInt ≤ 8) ∧ (∀ k : Nat, k < 160 → 0 ≤ (σ38 72 k).toInt ∧ (σ38 72 k).toInt ≤ 3) := id p46
                 exact by
                  have z52 : (σ38 55 32).toInt = (σ 55 32).toInt := (congrArg Int32.toInt (show σ38 55 32 = (σ 55 32) from (congrFun (f45 55 (of_decide_eq_true rfl)) 32)))
                  refine lv_iload hx hb dX12_rule_101 (lv_at hl 0 rfl) ?_
                  refine lv_if_lt (tgt := 141) hx hb dX12_rule_103 (of_decide_eq_true rfl) (fun c53 => ?_) (fun c53 => ?_)
                  · have kc53 := jlt c53 rfl jz_0
                    refine lv_aload_n hx hb dX12_rule_141 rfl (lv_at hl 2 rfl) ?_
                    refine va_get (D := D) hx hb hts inlX12 hown hK hP 55 (jc_55 cI cL ad σ38 τ) rfl 33 (of_decide_eq_true rfl) (hts _ kw_7_18) (fun _ h9 => h9) rfl dX12_rule_142 ?_
                    refine lv_aload_n hx hb dX12_rule_145 rfl (lv_at hl 2 rfl) ?_
                    refine va_get (D := D) hx hb hts inlX12 hown hK hP 55 (jc_55 cI cL ad σ38 τ) rfl 32 (of_decide_eq_true rfl) (hts _ kw_25_1) (fun _ h9 => h9) rfl dX12_rule_146 ?_
                    have m54 : σ38 55 32 = (σ 55 32) := (congrFun (f45 55 (of_decide_eq_true rfl)) 32)
                    refine jtopr m54 ?_
                    refine lv_iload_n hx hb dX12_rule_149 rfl (lv_at hl 3 rfl) ?_
                    exact by
                     refine jast hx hb hK hP hJ hA hS (jc_70 cI cL ad σ38 τ) (ja_70 cI cL ad σ38 τ _ _) (jin rfl (by omega) (by omega)) dX12_rule_150 (fun σ55 H locs eσ55 hP hS => ?_)
                     refine lv_aload_n hx hb dX12_rule_151 rfl (lv_at hl 2 rfl) ?_
                     refine va_get (D := D) hx hb hts inlX12 hown hK hP 55 (jc_55 cI cL ad σ55 τ) rfl 34 (of_decide_eq_true rfl) (hts _ kw_7_19) (fun _ h9 => h9) rfl dX12_rule_152 ?_
                     refine lv_aload_n hx hb dX12_rule_155 rfl (lv_at hl 2 rfl) ?_
                     refine va_get (D := D) hx hb hts inlX12 hown hK hP 55 (jc_55 cI cL ad σ55 τ) rfl 32 (of_decide_eq_true rfl) (hts _ kw_25_1) (fun _ h9 => h9) rfl dX12_rule_156 ?_
                     have m56 : σ55 55 32 = (σ 55 32) := ((congrFun (jnp 55 eσ55 (of_decide_eq_true rfl)) 32).trans m54)
                     refine jtopr m56 ?_
                     refine lv_iload hx hb dX12_rule_159 (lv_at hl 6 rfl) ?_
                     refine jast hx hb hK hP hJ hA hS (jc_71 cI cL ad σ55 τ) (ja_71 cI cL ad σ55 τ _ _) (jin rfl (by omega) (by omega)) dX12_rule_161 (fun σ57 H locs eσ57 hP hS => ?_)
                     exact by
                      refine lv_aload_n hx hb dX12_rule_162 rfl (lv_at hl 2 rfl) ?_
                      refine va_get (D := D) hx hb hts inlX12 hown hK hP 55 (jc_55 cI cL ad σ57 τ) rfl 36 (of_decide_eq_true rfl) (hts _ kw_7_21) (fun _ h9 => h9) rfl dX12_rule_163 ?_
                      refine lv_aload_n hx hb dX12_rule_166 rfl (lv_at hl 2 rfl) ?_
                      refine va_get (D := D) hx hb hts inlX12 hown hK hP 55 (jc_55 cI cL ad σ57 τ) rfl 32 (of_decide_eq_true rfl) (hts _ kw_25_1) (fun _ h9 => h9) rfl dX12_rule_167 ?_
                      have m58 : σ57 55 32 = (σ 55 32) := ((congrFun (jnp 55 eσ57 (of_decide_eq_true rfl)) 32).trans m56)
                      refine jtopr m58 ?_
                      refine lv_iload_n hx hb dX12_rule_170 rfl (lv_at hl 5 rfl) ?_
                      refine jast hx hb hK hP hJ hA hS (jc_73 cI cL ad σ57 τ) (ja_73 cI cL ad σ57 τ _ _) (jin rfl (by omega) (by omega)) dX12_rule_171 (fun σ59 H locs eσ59 hP hS => ?_)
                      refine lv_aload_n hx hb dX12_rule_172 rfl (lv_at hl 2 rfl) ?_
                      exact by
                       refine lv_dup hx hb dX12_rule_173 rfl ?_
                       refine va_get (D := D) hx hb hts inlX12 hown hK hP 55 (jc_55 cI cL ad σ59 τ) rfl 32 (of_decide_eq_true rfl) (hts _ kw_25_1) (fun _ h9 => h9) rfl dX12_rule_174 ?_
                       have m60 : σ59 55 32 = (σ 55 32) := ((congrFun (jnp 55 eσ59 (of_decide_eq_true rfl)) 32).trans m58)
                       refine jtopr m60 ?_
                       refine lv_iconst (v := 1) hx hb dX12_rule_177 (of_decide_eq_true rfl) ?_
                       have g61 := jrg (rfl : (σ 55 32).toInt = (σ 55 32).toInt)
                       refine lv_iadd hx hb dX12_rule_178 ?_
                       refine lv_topi (fun x62 ex62 => ?_)
                       have tx62 : x62.toInt = (σ 55 32).toInt + 1 := (jadd ex62 rfl jz_1 (by omega) (by omega)).trans (by omega)
                       exact by
                        refine jput (ty := .int) hx hb hts inlX12 tyX12 tyX12_ok nmX12 hown hK hP hJ hA hS (jc_55 cI cL ad σ59 τ) rfl (k := 32) (of_decide_eq_true rfl) (Nat.le_of_ble_eq_true rfl) (jp_55_32 cI cL ad σ59 τ x62) (hts _ kw_25_1) (fun _ h9 => h9) rfl (by decide +kernel) rfl rfl dX12_rule_179 (fun σ63 H locs eσ63 hP hS => ?_)
                        refine lv_aload_n hx hb dX12_rule_182 rfl (lv_at hl 2 rfl) ?_
                        refine va_get (D := D) hx hb hts inlX12 hown hK hP 55 (jc_55 cI cL ad σ63 τ) rfl 32 (of_decide_eq_true rfl) (hts _ kw_25_1) (fun _ h9 => h9) rfl dX12_rule_183 ?_
                        have m64 : σ63 55 32 = x62 := (jsp eσ63)
                        refine jtopr m64 ?_
                        refine lv_iconst (v := 1) hx hb dX12_rule_186 (of_decide_eq_true rfl) ?_
                        refine lv_isub hx hb dX12_rule_187 ?_
                        refine lv_topi (fun x65 ex65 => ?_)
                        have tx65 : x65.toInt = (σ 55 32).toInt := (jsub ex65 tx62 jz_1 (by omega) (by omega)).trans (by omega)
                        exact by
                         have z66 : (σ63 55 32).toInt = (σ 55 32).toInt + 1 := ((congrArg Int32.toInt (show σ63 55 32 = x62 from m64)).trans tx62)
                         have w67 : ∀ k : Nat, k < 20 → 0 ≤ (σ63 70 k).toInt ∧ (σ63 70 k).toInt ≤ 6 := (jrr_fr (jnp 70 eσ63 (of_decide_eq_true rfl)) (jrr_fr (jnp 70 eσ59 (of_decide_eq_true rfl)) (jrr_fr (jnp 70 eσ57 (of_decide_eq_true rfl)) (by rw [eσ55]; exact jrr_up w49 (by have h9 := t1; omega) (by have h9 := t1; omega)))))
                         have w68 : ∀ k : Nat, k < 20 → 0 ≤ (σ63 71 k).toInt ∧ (σ63 71 k).toInt ≤ 8 := (jrr_fr (jnp 71 eσ63 (of_decide_eq_true rfl)) (jrr_fr (jnp 71 eσ59 (of_decide_eq_true rfl)) (by rw [eσ57]; exact jrr_up (jrr_fr (jnp 71 eσ55 (of_decide_eq_true rfl)) w50) (by omega) (by omega))))
                         have w69 : ∀ k : Nat, k < 160 → 0 ≤ (σ63 72 k).toInt ∧ (σ63 72 k).toInt ≤ 3 := (jrr_fr (jnp 72 eσ63 (of_decide_eq_true rfl)) (jrr_fr (jnp 72 eσ59 (of_decide_eq_true rfl)) (jrr_fr (jnp 72 eσ57 (of_decide_eq_true rfl)) (jrr_fr (jnp 72 eσ55 (of_decide_eq_true rfl)) w51))))
                         have I70 : jI106 σ63 := ⟨(by omega), w67, w68, w69⟩
                         exact by exact hret x65 σ63 τ _ _ _ _ rfl ⟨rfl, (fun i hi => ((jnp i eσ63 (imp_249 i hi)).trans ((jnp i eσ59 (imp_250 i hi)).trans ((jnp i eσ57 (imp_251 i hi)).trans ((jnp i eσ55 (imp_252 i hi)).trans (f45 i (imp_253 i hi))))))), (fun i hi => ((jkp i eσ63 (imp_254 i hi)).trans ((congrFun (jnp 55 eσ59 (of_decide_eq_true rfl)) i).trans ((congrFun (jnp 55 eσ57 (of_decide_eq_true rfl)) i).trans ((congrFun (jnp 55 eσ55 (of_decide_eq_true rfl)) i).trans (congrFun (f45 55 (of_decide_eq_true rfl)) i)))))), I70, Or.inr (Or.inr (⟨trivial, (by have h9 := tx65; omega), (by have h9 := tx65; omega), (by have h9 := tx65; omega), ⟨by omega, by omega, q30.1, by omega, by omega⟩, (by rw [eσ63, jup_n (of_decide_eq_true rfl), eσ59, jup_n (of_decide_eq_true rfl), eσ57, jup_n (of_decide_eq_true rfl), eσ55, jup_row, f45 70 (of_decide_eq_true rfl), jnc (show (σ 55 32).toInt = (σ 55 32).toInt by omega)])⟩))⟩ hP hS dX12_rule_188
                  · have kc53 := jnlt c53 rfl jz_0
                    have g71 := jDn_step (by omega) q47
                    have k72 := g71.1
                    exact by
                     have k73 := g71.2.1
                     refine lv_aload_n hx hb dX12_rule_106 rfl (lv_at hl 2 rfl) ?_
                     refine va_get (D := D) hx hb hts inlX12 hown hK hP 55 (jc_55 cI cL ad σ38 τ) rfl 35 (of_decide_eq_true rfl) (hts _ kw_7_20) (fun _ h9 => h9) rfl dX12_rule_107 ?_
                     refine lv_bipush (v := 8) hx hb dX12_rule_110 (of_decide_eq_true rfl) ?_
                     refine lv_aload_n hx hb dX12_rule_112 rfl (lv_at hl 2 rfl) ?_
                     refine va_get (D := D) hx hb hts inlX12 hown hK hP 55 (jc_55 cI cL ad σ38 τ) rfl 32 (of_decide_eq_true rfl) (hts _ kw_25_1) (fun _ h9 => h9) rfl dX12_rule_113 ?_
                     have m74 : σ38 55 32 = (σ 55 32) := (congrFun (f45 55 (of_decide_eq_true rfl)) 32)
                     refine jtopr m74 ?_
                     have g75 := jrg (rfl : (σ 55 32).toInt = (σ 55 32).toInt)
                     refine lv_imul hx hb dX12_rule_116 ?_
                     refine lv_topi (fun x76 ex76 => ?_)
                     exact by
                      have tx76 : x76.toInt = 8 * (σ 55 32).toInt := (jmul ex76 jz_8 rfl (by omega) (by omega)).trans (by omega)
                      refine lv_iload hx hb dX12_rule_117 (lv_at hl 0 rfl) ?_
                      have g77 := jrg (rfl : x37.toInt = x37.toInt)
                      refine lv_iadd hx hb dX12_rule_119 ?_
                      refine lv_topi (fun x78 ex78 => ?_)
                      have tx78 : x78.toInt = 8 * (σ 55 32).toInt + x37.toInt := (jadd ex78 tx76 rfl (by omega) (by omega)).trans (by omega)
                      refine lv_iload hx hb dX12_rule_120 (lv_at hl 1 rfl) ?_
                      refine lv_bipush (v := 10) hx hb dX12_rule_122 (of_decide_eq_true rfl) ?_
                      refine lv_irem hx hb dX12_rule_124 (of_decide_eq_true rfl) ?_
                      exact by
                       refine lv_topi (fun x79 ex79 => ?_)
                       have tx79 : x79.toInt = (x36.toInt % 10) := jrem ex79 rfl jz_10 (by omega)
                       refine lv_iconst (v := 1) hx hb dX12_rule_125 (of_decide_eq_true rfl) ?_
                       refine lv_isub hx hb dX12_rule_126 ?_
                       refine lv_topi (fun x80 ex80 => ?_)
                       have tx80 : x80.toInt = (x36.toInt % 10) - 1 := (jsub ex80 tx79 jz_1 (by omega) (by omega)).trans (by omega)
                       refine jast hx hb hK hP hJ hA hS (jc_72 cI cL ad σ38 τ) (ja_72 cI cL ad σ38 τ _ _) (jin tx78 (by omega) (by omega)) dX12_rule_127 (fun σ81 H locs eσ81 hP hS => ?_)
                       refine lv_iload hx hb dX12_rule_128 (lv_at hl 1 rfl) ?_
                       refine lv_bipush (v := 10) hx hb dX12_rule_130 (of_decide_eq_true rfl) ?_
                       exact by
                        refine lv_idiv hx hb dX12_rule_132 (of_decide_eq_true rfl) ?_
                        refine lv_topi (fun x82 ex82 => ?_)
                        have tx82 : x82.toInt = (x36.toInt / 10) := jdiv ex82 rfl jz_10 (by omega) (by omega)
                        refine lv_istore (lv' := [(5, .int x82), (6, .int x37), (0, .ref (ad 55)), (1, .int a1), (2, .int a2), (3, .int a3), (4, .int x25)]) hx hb dX12_rule_133 hl (of_decide_eq_true rfl) rfl (fun ls hl => ?_)
                        obtain ⟨x83, ex83⟩ : ∃ y : Int32, y = x37 + (-1) := ⟨_, rfl⟩
                        have tx83 : x83.toInt = x37.toInt - 1 := (jadd ex83 rfl jz_m1 (by omega) (by omega)).trans (by omega)
                        refine lv_iinc (v := x83) (lv' := [(6, .int x83), (5, .int x82), (0, .ref (ad 55)), (1, .int a1), (2, .int a2), (3, .int a3), (4, .int x25)]) hx hb dX12_rule_135 hl (k := 1) rfl (by rw [ex83]; rfl) (of_decide_eq_true rfl) rfl (fun ls hl => ?_)
                        refine lv_goto (tgt := 101) hx hb dX12_rule_138 (of_decide_eq_true rfl) ?_
                        have z84 : (σ81 55 32).toInt = (σ 55 32).toInt := (congrArg Int32.toInt (show σ81 55 32 = (σ 55 32) from ((congrFun (jnp 55 eσ81 (of_decide_eq_true rfl)) 32).trans m74)))
                        exact by
                         have w85 : ∀ k : Nat, k < 20 → 0 ≤ (σ81 70 k).toInt ∧ (σ81 70 k).toInt ≤ 6 := (jrr_fr (jnp 70 eσ81 (of_decide_eq_true rfl)) w49)
                         have w86 : ∀ k : Nat, k < 20 → 0 ≤ (σ81 71 k).toInt ∧ (σ81 71 k).toInt ≤ 8 := (jrr_fr (jnp 71 eσ81 (of_decide_eq_true rfl)) w50)
                         have w87 : ∀ k : Nat, k < 160 → 0 ≤ (σ81 72 k).toInt ∧ (σ81 72 k).toInt ≤ 3 := (by rw [eσ81]; exact jrr_up w51 (by have h9 := tx80; omega) (by have h9 := tx80; omega))
                         have I88 : jI106 σ81 := ⟨(by omega), w85, w86, w87⟩
                         exact by exact ihlp34 x82 x83 σ81 _ _ ls (by have h90 := tx82; have h91 := tx83; omega) (by have h90 := tx82; have h91 := tx83; omega) (by have h90 := tx82; have h91 := tx83; omega) (by have h90 := tx82; have h91 := tx83; omega) (by have h90 := tx82; have h91 := tx83; omega) (fun i hi => ((jnp i eσ81 (imp_255 i hi)).trans (f45 i hi)))   I88 (jDn_eq2 g71.2.2 (by have h90 := tx82; have h91 := tx83; omega) (by have h90 := tx82; have h91 := tx83; omega)) hP hS (lv_sub hl [0, 1, 2, 3, 4, 5, 6] rfl)
             exact by exact lp34 1000000 a2 x33 σ _ _ ls (by have h90 := t2; have h91 := tx33; omega) (by have h90 := t2; have h91 := tx33; omega) (by have h90 := t2; have h91 := tx33; omega) (by have h90 := t2; have h91 := tx33; omega) (by have h90 := t2; have h91 := tx33; omega) (fun _ _ => rfl)  hI106 (jDn_eq2 q30.2 (by have h90 := t2; have h91 := tx33; omega) (by have h90 := t2; have h91 := tx33; omega)) hP hS hl
          · have kc31 := jeq c31 rfl jz_20
            refine lv_bipush (v := (-3)) hx hb dX12_rule_89 (of_decide_eq_true rfl) ?_
            exact by exact hret (-3) σ τ _ _ _ _ rfl ⟨rfl, (fun _ _ => rfl), (fun _ _ => rfl), hI106, Or.inr (Or.inl ⟨rfl, (by have h9 := jz_m3; omega), (by have h9 := jz_m3; omega), ⟨by omega, by omega, q30.1, by omega, by omega⟩, rfl⟩)⟩ hP hS dX12_rule_91
        exact by
         refine lv_iconst (v := 0) hx hb dX12_rule_38 (of_decide_eq_true rfl) ?_
         refine lv_istore (lv' := [(4, .int 0), (0, .ref (ad 55)), (1, .int a1), (2, .int a2), (3, .int a3)]) hx hb dX12_rule_39 hl (of_decide_eq_true rfl) rfl (fun ls hl => ?_)
         refine lv_iload_n hx hb dX12_rule_41 rfl (lv_at hl 3 rfl) ?_
         refine lv_istore (lv' := [(5, .int a2), (4, .int 0), (0, .ref (ad 55)), (1, .int a1), (2, .int a2), (3, .int a3)]) hx hb dX12_rule_42 hl (of_decide_eq_true rfl) rfl (fun ls hl => ?_)
         refine lv_iload hx hb dX12_rule_44 (lv_at hl 0 rfl) ?_
         refine lv_if_le (tgt := 80) hx hb dX12_rule_46 (of_decide_eq_true rfl) (fun c89 => ?_) (fun c89 => ?_)
         · have kc89 := jle c89 t2 jz_0
           exact by exact lp23 0 _ _ ls (by have h90 := jz_0; omega) (by have h90 := jz_0; omega)   ⟨(by unfold jRow; simp only [jDig, and_true]; omega), (show jDn 0 (A2) from by simp only [jDn]; omega)⟩ hP hS (lv_sub hl [2, 3, 4, 5, 1] rfl)
         · have kc89 := jnle c89 t2 jz_0
           refine lv_iload hx hb dX12_rule_49 (lv_at hl 0 rfl) ?_
           refine lv_bipush (v := 10) hx hb dX12_rule_51 (of_decide_eq_true rfl) ?_
           refine lv_irem hx hb dX12_rule_53 (of_decide_eq_true rfl) ?_
           refine lv_topi (fun x90 ex90 => ?_)
           exact by
            have tx90 : x90.toInt = (A2 % 10) := jrem ex90 t2 jz_10 (by omega)
            refine lv_i2l (v := x90.toInt64) hx hb dX12_rule_54 rfl ?_
            refine lv_lconst (v := 1) hx hb dX12_rule_55 (of_decide_eq_true rfl) ?_
            refine lv_ldc2 (v := 4) hx hb hown (hts _ kw_13_5) dX12_rule_56 ?_
            refine jcallS (As := [.long x90.toInt64, .long 1, .long 4]) (rest := []) ⟨hx, hb, hml, hown, hts⟩ hK hP hA hS hZ (c_X12_within l D cI cL ad zz hJ σ τ x90.toInt64 ((A2 % 10)) (jtoL tx90) 1 (1) jzl_1 4 (4) jzl_4) cw_RX12_136 ⟨Nat.le_of_ble_eq_true rfl, Nat.le_of_ble_eq_true rfl⟩ rfl rfl rfl hl.1 rfl (Nat.le_of_ble_eq_true rfl) dX12_rule_59 ⟨Nat.zero_le _, Nat.zero_le _⟩ (fun r92 σ91 τ91 H locs h91 hP hS => ?_)
            obtain ⟨⟨rfl, rfl⟩, h91⟩ := h91
            rcases h91 with h93 | h94
            · obtain ⟨q96, k95⟩ := h93
              have q96 := q96.symm
              subst q96
              refine lv_if_ne (tgt := 67) hx hb dX12_rule_62 (of_decide_eq_true rfl) (fun _ => ?_) (fun c => absurd c (of_decide_eq_true rfl))
              refine lv_iinc (v := 1) (lv' := [(4, .int 1), (5, .int a2), (0, .ref (ad 55)), (1, .int a1), (2, .int a2), (3, .int a3)]) hx hb dX12_rule_67 hl (k := 1) rfl (of_decide_eq_true rfl) (of_decide_eq_true rfl) rfl (fun ls hl => ?_)
              refine lv_iload hx hb dX12_rule_70 (lv_at hl 1 rfl) ?_
              refine lv_bipush (v := 10) hx hb dX12_rule_72 (of_decide_eq_true rfl) ?_
              refine lv_idiv hx hb dX12_rule_74 (of_decide_eq_true rfl) ?_
              refine lv_topi (fun x97 ex97 => ?_)
              exact by
               have tx97 : x97.toInt = (A2 / 10) := jdiv ex97 t2 jz_10 (by omega) (by omega)
               refine lv_istore (lv' := [(5, .int x97), (4, .int 1), (0, .ref (ad 55)), (1, .int a1), (2, .int a2), (3, .int a3)]) hx hb dX12_rule_75 hl (of_decide_eq_true rfl) rfl (fun ls hl => ?_)
               refine lv_goto (tgt := 44) hx hb dX12_rule_77 (of_decide_eq_true rfl) ?_
               refine lv_iload hx hb dX12_rule_44 (lv_at hl 0 rfl) ?_
               refine lv_if_le (tgt := 80) hx hb dX12_rule_46 (of_decide_eq_true rfl) (fun c98 => ?_) (fun c98 => ?_)
               · have kc98 := jle c98 tx97 jz_0
                 exact by exact lp23 1 _ _ ls (by have h90 := jz_1; omega) (by have h90 := jz_1; omega)   ⟨(by unfold jRow; simp only [jDig, and_true]; omega), (show jDn 1 (A2) from by simp only [jDn]; omega)⟩ hP hS (lv_sub hl [2, 3, 4, 5, 1] rfl)
               · have kc98 := jnle c98 tx97 jz_0
                 refine lv_iload hx hb dX12_rule_49 (lv_at hl 0 rfl) ?_
                 refine lv_bipush (v := 10) hx hb dX12_rule_51 (of_decide_eq_true rfl) ?_
                 refine lv_irem hx hb dX12_rule_53 (of_decide_eq_true rfl) ?_
                 refine lv_topi (fun x99 ex99 => ?_)
                 exact by
                  have tx99 : x99.toInt = (((A2 / 10)) % 10) := jrem ex99 tx97 jz_10 (by omega)
                  refine lv_i2l (v := x99.toInt64) hx hb dX12_rule_54 rfl ?_
                  refine lv_lconst (v := 1) hx hb dX12_rule_55 (of_decide_eq_true rfl) ?_
                  refine lv_ldc2 (v := 4) hx hb hown (hts _ kw_13_5) dX12_rule_56 ?_
                  refine jcallS (As := [.long x99.toInt64, .long 1, .long 4]) (rest := []) ⟨hx, hb, hml, hown, hts⟩ hK hP hA hS hZ (c_X12_within l D cI cL ad zz hJ σ τ x99.toInt64 ((((A2 / 10)) % 10)) (jtoL tx99) 1 (1) jzl_1 4 (4) jzl_4) cw_RX12_136 ⟨Nat.le_of_ble_eq_true rfl, Nat.le_of_ble_eq_true rfl⟩ rfl rfl rfl hl.1 rfl (Nat.le_of_ble_eq_true rfl) dX12_rule_59 ⟨Nat.zero_le _, Nat.zero_le _⟩ (fun r101 σ100 τ100 H locs h100 hP hS => ?_)
                  obtain ⟨⟨rfl, rfl⟩, h100⟩ := h100
                  rcases h100 with h102 | h103
                  · obtain ⟨q105, k104⟩ := h102
                    have q105 := q105.symm
                    subst q105
                    refine lv_if_ne (tgt := 67) hx hb dX12_rule_62 (of_decide_eq_true rfl) (fun _ => ?_) (fun c => absurd c (of_decide_eq_true rfl))
                    refine lv_iinc (v := 2) (lv' := [(4, .int 2), (5, .int x97), (0, .ref (ad 55)), (1, .int a1), (2, .int a2), (3, .int a3)]) hx hb dX12_rule_67 hl (k := 1) rfl (of_decide_eq_true rfl) (of_decide_eq_true rfl) rfl (fun ls hl => ?_)
                    refine lv_iload hx hb dX12_rule_70 (lv_at hl 1 rfl) ?_
                    refine lv_bipush (v := 10) hx hb dX12_rule_72 (of_decide_eq_true rfl) ?_
                    refine lv_idiv hx hb dX12_rule_74 (of_decide_eq_true rfl) ?_
                    refine lv_topi (fun x106 ex106 => ?_)
                    exact by
                     have tx106 : x106.toInt = (((A2 / 10)) / 10) := jdiv ex106 tx97 jz_10 (by omega) (by omega)
                     refine lv_istore (lv' := [(5, .int x106), (4, .int 2), (0, .ref (ad 55)), (1, .int a1), (2, .int a2), (3, .int a3)]) hx hb dX12_rule_75 hl (of_decide_eq_true rfl) rfl (fun ls hl => ?_)
                     refine lv_goto (tgt := 44) hx hb dX12_rule_77 (of_decide_eq_true rfl) ?_
                     refine lv_iload hx hb dX12_rule_44 (lv_at hl 0 rfl) ?_
                     refine lv_if_le (tgt := 80) hx hb dX12_rule_46 (of_decide_eq_true rfl) (fun c107 => ?_) (fun c107 => ?_)
                     · have kc107 := jle c107 tx106 jz_0
                       exact by exact lp23 2 _ _ ls (by have h90 := jz_2; omega) (by have h90 := jz_2; omega)   ⟨(by unfold jRow; simp only [jDig, and_true]; omega), (show jDn 2 (A2) from by simp only [jDn]; omega)⟩ hP hS (lv_sub hl [2, 3, 4, 5, 1] rfl)
                     · have kc107 := jnle c107 tx106 jz_0
                       refine lv_iload hx hb dX12_rule_49 (lv_at hl 0 rfl) ?_
                       refine lv_bipush (v := 10) hx hb dX12_rule_51 (of_decide_eq_true rfl) ?_
                       refine lv_irem hx hb dX12_rule_53 (of_decide_eq_true rfl) ?_
                       refine lv_topi (fun x108 ex108 => ?_)
                       exact by
                        have tx108 : x108.toInt = (((((A2 / 10)) / 10)) % 10) := jrem ex108 tx106 jz_10 (by omega)
                        refine lv_i2l (v := x108.toInt64) hx hb dX12_rule_54 rfl ?_
                        refine lv_lconst (v := 1) hx hb dX12_rule_55 (of_decide_eq_true rfl) ?_
                        refine lv_ldc2 (v := 4) hx hb hown (hts _ kw_13_5) dX12_rule_56 ?_
                        refine jcallS (As := [.long x108.toInt64, .long 1, .long 4]) (rest := []) ⟨hx, hb, hml, hown, hts⟩ hK hP hA hS hZ (c_X12_within l D cI cL ad zz hJ σ τ x108.toInt64 ((((((A2 / 10)) / 10)) % 10)) (jtoL tx108) 1 (1) jzl_1 4 (4) jzl_4) cw_RX12_136 ⟨Nat.le_of_ble_eq_true rfl, Nat.le_of_ble_eq_true rfl⟩ rfl rfl rfl hl.1 rfl (Nat.le_of_ble_eq_true rfl) dX12_rule_59 ⟨Nat.zero_le _, Nat.zero_le _⟩ (fun r110 σ109 τ109 H locs h109 hP hS => ?_)
                        obtain ⟨⟨rfl, rfl⟩, h109⟩ := h109
                        rcases h109 with h111 | h112
                        · obtain ⟨q114, k113⟩ := h111
                          have q114 := q114.symm
                          subst q114
                          refine lv_if_ne (tgt := 67) hx hb dX12_rule_62 (of_decide_eq_true rfl) (fun _ => ?_) (fun c => absurd c (of_decide_eq_true rfl))
                          refine lv_iinc (v := 3) (lv' := [(4, .int 3), (5, .int x106), (0, .ref (ad 55)), (1, .int a1), (2, .int a2), (3, .int a3)]) hx hb dX12_rule_67 hl (k := 1) rfl (of_decide_eq_true rfl) (of_decide_eq_true rfl) rfl (fun ls hl => ?_)
                          refine lv_iload hx hb dX12_rule_70 (lv_at hl 1 rfl) ?_
                          refine lv_bipush (v := 10) hx hb dX12_rule_72 (of_decide_eq_true rfl) ?_
                          refine lv_idiv hx hb dX12_rule_74 (of_decide_eq_true rfl) ?_
                          refine lv_topi (fun x115 ex115 => ?_)
                          exact by
                           have tx115 : x115.toInt = (((((A2 / 10)) / 10)) / 10) := jdiv ex115 tx106 jz_10 (by omega) (by omega)
                           refine lv_istore (lv' := [(5, .int x115), (4, .int 3), (0, .ref (ad 55)), (1, .int a1), (2, .int a2), (3, .int a3)]) hx hb dX12_rule_75 hl (of_decide_eq_true rfl) rfl (fun ls hl => ?_)
                           refine lv_goto (tgt := 44) hx hb dX12_rule_77 (of_decide_eq_true rfl) ?_
                           refine lv_iload hx hb dX12_rule_44 (lv_at hl 0 rfl) ?_
                           refine lv_if_le (tgt := 80) hx hb dX12_rule_46 (of_decide_eq_true rfl) (fun c116 => ?_) (fun c116 => ?_)
                           · have kc116 := jle c116 tx115 jz_0
                             exact by exact lp23 3 _ _ ls (by have h90 := jz_3; omega) (by have h90 := jz_3; omega)   ⟨(by unfold jRow; simp only [jDig, and_true]; omega), (show jDn 3 (A2) from by simp only [jDn]; omega)⟩ hP hS (lv_sub hl [2, 3, 4, 5, 1] rfl)
                           · have kc116 := jnle c116 tx115 jz_0
                             refine lv_iload hx hb dX12_rule_49 (lv_at hl 0 rfl) ?_
                             refine lv_bipush (v := 10) hx hb dX12_rule_51 (of_decide_eq_true rfl) ?_
                             refine lv_irem hx hb dX12_rule_53 (of_decide_eq_true rfl) ?_
                             refine lv_topi (fun x117 ex117 => ?_)
                             exact by
                              have tx117 : x117.toInt = (((((((A2 / 10)) / 10)) / 10)) % 10) := jrem ex117 tx115 jz_10 (by omega)
                              refine lv_i2l (v := x117.toInt64) hx hb dX12_rule_54 rfl ?_
                              refine lv_lconst (v := 1) hx hb dX12_rule_55 (of_decide_eq_true rfl) ?_
                              refine lv_ldc2 (v := 4) hx hb hown (hts _ kw_13_5) dX12_rule_56 ?_
                              refine jcallS (As := [.long x117.toInt64, .long 1, .long 4]) (rest := []) ⟨hx, hb, hml, hown, hts⟩ hK hP hA hS hZ (c_X12_within l D cI cL ad zz hJ σ τ x117.toInt64 ((((((((A2 / 10)) / 10)) / 10)) % 10)) (jtoL tx117) 1 (1) jzl_1 4 (4) jzl_4) cw_RX12_136 ⟨Nat.le_of_ble_eq_true rfl, Nat.le_of_ble_eq_true rfl⟩ rfl rfl rfl hl.1 rfl (Nat.le_of_ble_eq_true rfl) dX12_rule_59 ⟨Nat.zero_le _, Nat.zero_le _⟩ (fun r119 σ118 τ118 H locs h118 hP hS => ?_)
                              obtain ⟨⟨rfl, rfl⟩, h118⟩ := h118
                              rcases h118 with h120 | h121
                              · obtain ⟨q123, k122⟩ := h120
                                have q123 := q123.symm
                                subst q123
                                refine lv_if_ne (tgt := 67) hx hb dX12_rule_62 (of_decide_eq_true rfl) (fun _ => ?_) (fun c => absurd c (of_decide_eq_true rfl))
                                refine lv_iinc (v := 4) (lv' := [(4, .int 4), (5, .int x115), (0, .ref (ad 55)), (1, .int a1), (2, .int a2), (3, .int a3)]) hx hb dX12_rule_67 hl (k := 1) rfl (of_decide_eq_true rfl) (of_decide_eq_true rfl) rfl (fun ls hl => ?_)
                                refine lv_iload hx hb dX12_rule_70 (lv_at hl 1 rfl) ?_
                                refine lv_bipush (v := 10) hx hb dX12_rule_72 (of_decide_eq_true rfl) ?_
                                refine lv_idiv hx hb dX12_rule_74 (of_decide_eq_true rfl) ?_
                                refine lv_topi (fun x124 ex124 => ?_)
                                exact by
                                 have tx124 : x124.toInt = (((((((A2 / 10)) / 10)) / 10)) / 10) := jdiv ex124 tx115 jz_10 (by omega) (by omega)
                                 refine lv_istore (lv' := [(5, .int x124), (4, .int 4), (0, .ref (ad 55)), (1, .int a1), (2, .int a2), (3, .int a3)]) hx hb dX12_rule_75 hl (of_decide_eq_true rfl) rfl (fun ls hl => ?_)
                                 refine lv_goto (tgt := 44) hx hb dX12_rule_77 (of_decide_eq_true rfl) ?_
                                 refine lv_iload hx hb dX12_rule_44 (lv_at hl 0 rfl) ?_
                                 refine lv_if_le (tgt := 80) hx hb dX12_rule_46 (of_decide_eq_true rfl) (fun c125 => ?_) (fun c125 => ?_)
                                 · have kc125 := jle c125 tx124 jz_0
                                   exact by exact lp23 4 _ _ ls (by have h90 := jz_4; omega) (by have h90 := jz_4; omega)   ⟨(by unfold jRow; simp only [jDig, and_true]; omega), (show jDn 4 (A2) from by simp only [jDn]; omega)⟩ hP hS (lv_sub hl [2, 3, 4, 5, 1] rfl)
                                 · have kc125 := jnle c125 tx124 jz_0
                                   refine lv_iload hx hb dX12_rule_49 (lv_at hl 0 rfl) ?_
                                   refine lv_bipush (v := 10) hx hb dX12_rule_51 (of_decide_eq_true rfl) ?_
                                   refine lv_irem hx hb dX12_rule_53 (of_decide_eq_true rfl) ?_
                                   refine lv_topi (fun x126 ex126 => ?_)
                                   exact by
                                    have tx126 : x126.toInt = (((((((((A2 / 10)) / 10)) / 10)) / 10)) % 10) := jrem ex126 tx124 jz_10 (by omega)
                                    refine lv_i2l (v := x126.toInt64) hx hb dX12_rule_54 rfl ?_
                                    refine lv_lconst (v := 1) hx hb dX12_rule_55 (of_decide_eq_true rfl) ?_
                                    refine lv_ldc2 (v := 4) hx hb hown (hts _ kw_13_5) dX12_rule_56 ?_
                                    refine jcallS (As := [.long x126.toInt64, .long 1, .long 4]) (rest := []) ⟨hx, hb, hml, hown, hts⟩ hK hP hA hS hZ (c_X12_within l D cI cL ad zz hJ σ τ x126.toInt64 ((((((((((A2 / 10)) / 10)) / 10)) / 10)) % 10)) (jtoL tx126) 1 (1) jzl_1 4 (4) jzl_4) cw_RX12_136 ⟨Nat.le_of_ble_eq_true rfl, Nat.le_of_ble_eq_true rfl⟩ rfl rfl rfl hl.1 rfl (Nat.le_of_ble_eq_true rfl) dX12_rule_59 ⟨Nat.zero_le _, Nat.zero_le _⟩ (fun r128 σ127 τ127 H locs h127 hP hS => ?_)
                                    obtain ⟨⟨rfl, rfl⟩, h127⟩ := h127
                                    rcases h127 with h129 | h130
                                    · obtain ⟨q132, k131⟩ := h129
                                      have q132 := q132.symm
                                      subst q132
                                      refine lv_if_ne (tgt := 67) hx hb dX12_rule_62 (of_decide_eq_true rfl) (fun _ => ?_) (fun c => absurd c (of_decide_eq_true rfl))
                                      refine lv_iinc (v := 5) (lv' := [(4, .int 5), (5, .int x124), (0, .ref (ad 55)), (1, .int a1), (2, .int a2), (3, .int a3)]) hx hb dX12_rule_67 hl (k := 1) rfl (of_decide_eq_true rfl) (of_decide_eq_true rfl) rfl (fun ls hl => ?_)
                                      refine lv_iload hx hb dX12_rule_70 (lv_at hl 1 rfl) ?_
                                      refine lv_bipush (v := 10) hx hb dX12_rule_72 (of_decide_eq_true rfl) ?_
                                      refine lv_idiv hx hb dX12_rule_74 (of_decide_eq_true rfl) ?_
                                      refine lv_topi (fun x133 ex133 => ?_)
                                      exact by
                                       have tx133 : x133.toInt = (((((((((A2 / 10)) / 10)) / 10)) / 10)) / 10) := jdiv ex133 tx124 jz_10 (by omega) (by omega)
                                       refine lv_istore (lv' := [(5, .int x133), (4, .int 5), (0, .ref (ad 55)), (1, .int a1), (2, .int a2), (3, .int a3)]) hx hb dX12_rule_75 hl (of_decide_eq_true rfl) rfl (fun ls hl => ?_)
                                       refine lv_goto (tgt := 44) hx hb dX12_rule_77 (of_decide_eq_true rfl) ?_
                                       refine lv_iload hx hb dX12_rule_44 (lv_at hl 0 rfl) ?_
                                       refine lv_if_le (tgt := 80) hx hb dX12_rule_46 (of_decide_eq_true rfl) (fun c134 => ?_) (fun c134 => ?_)
                                       · have kc134 := jle c134 tx133 jz_0
                                         exact by exact lp23 5 _ _ ls (by have h90 := jz_5; omega) (by have h90 := jz_5; omega)   ⟨(by unfold jRow; simp only [jDig, and_true]; omega), (show jDn 5 (A2) from by simp only [jDn]; omega)⟩ hP hS (lv_sub hl [2, 3, 4, 5, 1] rfl)
                                       · have kc134 := jnle c134 tx133 jz_0
                                         refine lv_iload hx hb dX12_rule_49 (lv_at hl 0 rfl) ?_
                                         refine lv_bipush (v := 10) hx hb dX12_rule_51 (of_decide_eq_true rfl) ?_
                                         refine lv_irem hx hb dX12_rule_53 (of_decide_eq_true rfl) ?_
                                         refine lv_topi (fun x135 ex135 => ?_)
                                         exact by
                                          have tx135 : x135.toInt = (((((((((((A2 / 10)) / 10)) / 10)) / 10)) / 10)) % 10) := jrem ex135 tx133 jz_10 (by omega)
                                          refine lv_i2l (v := x135.toInt64) hx hb dX12_rule_54 rfl ?_
                                          refine lv_lconst (v := 1) hx hb dX12_rule_55 (of_decide_eq_true rfl) ?_
                                          refine lv_ldc2 (v := 4) hx hb hown (hts _ kw_13_5) dX12_rule_56 ?_
                                          refine jcallS (As := [.long x135.toInt64, .long 1, .long 4]) (rest := []) ⟨hx, hb, hml, hown, hts⟩ hK hP hA hS hZ (c_X12_within l D cI cL ad zz hJ σ τ x135.toInt64 ((((((((((((A2 / 10)) / 10)) / 10)) / 10)) / 10)) % 10)) (jtoL tx135) 1 (1) jzl_1 4 (4) jzl_4) cw_RX12_136 ⟨Nat.le_of_ble_eq_true rfl, Nat.le_of_ble_eq_true rfl⟩ rfl rfl rfl hl.1 rfl (Nat.le_of_ble_eq_true rfl) dX12_rule_59 ⟨Nat.zero_le _, Nat.zero_le _⟩ (fun r137 σ136 τ136 H locs h136 hP hS => ?_)
                                          obtain ⟨⟨rfl, rfl⟩, h136⟩ := h136
                                          rcases h136 with h138 | h139
                                          · obtain ⟨q141, k140⟩ := h138
                                            have q141 := q141.symm
                                            subst q141
                                            refine lv_if_ne (tgt := 67) hx hb dX12_rule_62 (of_decide_eq_true rfl) (fun _ => ?_) (fun c => absurd c (of_decide_eq_true rfl))
                                            refine lv_iinc (v := 6) (lv' := [(4, .int 6), (5, .int x133), (0, .ref (ad 55)), (1, .int a1), (2, .int a2), (3, .int a3)]) hx hb dX12_rule_67 hl (k := 1) rfl (of_decide_eq_true rfl) (of_decide_eq_true rfl) rfl (fun ls hl => ?_)
                                            refine lv_iload hx hb dX12_rule_70 (lv_at hl 1 rfl) ?_
                                            refine lv_bipush (v := 10) hx hb dX12_rule_72 (of_decide_eq_true rfl) ?_
                                            refine lv_idiv hx hb dX12_rule_74 (of_decide_eq_true rfl) ?_
                                            refine lv_topi (fun x142 ex142 => ?_)
                                            exact by
                                             have tx142 : x142.toInt = (((((((((((A2 / 10)) / 10)) / 10)) / 10)) / 10)) / 10) := jdiv ex142 tx133 jz_10 (by omega) (by omega)
                                             refine lv_istore (lv' := [(5, .int x142), (4, .int 6), (0, .ref (ad 55)), (1, .int a1), (2, .int a2), (3, .int a3)]) hx hb dX12_rule_75 hl (of_decide_eq_true rfl) rfl (fun ls hl => ?_)
                                             refine lv_goto (tgt := 44) hx hb dX12_rule_77 (of_decide_eq_true rfl) ?_
                                             refine lv_iload hx hb dX12_rule_44 (lv_at hl 0 rfl) ?_
                                             refine lv_if_le (tgt := 80) hx hb dX12_rule_46 (of_decide_eq_true rfl) (fun c143 => ?_) (fun c143 => ?_)
                                             · have kc143 := jle c143 tx142 jz_0
                                               exact by exact lp23 6 _ _ ls (by have h90 := jz_6; omega) (by have h90 := jz_6; omega)   ⟨(by unfold jRow; simp only [jDig, and_true]; omega), (show jDn 6 (A2) from by simp only [jDn]; omega)⟩ hP hS (lv_sub hl [2, 3, 4, 5, 1] rfl)
                                             · have kc143 := jnle c143 tx142 jz_0
                                               refine lv_iload hx hb dX12_rule_49 (lv_at hl 0 rfl) ?_
                                               refine lv_bipush (v := 10) hx hb dX12_rule_51 (of_decide_eq_true rfl) ?_
                                               refine lv_irem hx hb dX12_rule_53 (of_decide_eq_true rfl) ?_
                                               refine lv_topi (fun x144 ex144 => ?_)
                                               exact by
                                                have tx144 : x144.toInt = (((((((((((((A2 / 10)) / 10)) / 10)) / 10)) / 10)) / 10)) % 10) := jrem ex144 tx142 jz_10 (by omega)
                                                refine lv_i2l (v := x144.toInt64) hx hb dX12_rule_54 rfl ?_
                                                refine lv_lconst (v := 1) hx hb dX12_rule_55 (of_decide_eq_true rfl) ?_
                                                refine lv_ldc2 (v := 4) hx hb hown (hts _ kw_13_5) dX12_rule_56 ?_
                                                refine jcallS (As := [.long x144.toInt64, .long 1, .long 4]) (rest := []) ⟨hx, hb, hml, hown, hts⟩ hK hP hA hS hZ (c_X12_within l D cI cL ad zz hJ σ τ x144.toInt64 ((((((((((((((A2 / 10)) / 10)) / 10)) / 10)) / 10)) / 10)) % 10)) (jtoL tx144) 1 (1) jzl_1 4 (4) jzl_4) cw_RX12_136 ⟨Nat.le_of_ble_eq_true rfl, Nat.le_of_ble_eq_true rfl⟩ rfl rfl rfl hl.1 rfl (Nat.le_of_ble_eq_true rfl) dX12_rule_59 ⟨Nat.zero_le _, Nat.zero_le _⟩ (fun r146 σ145 τ145 H locs h145 hP hS => ?_)
                                                obtain ⟨⟨rfl, rfl⟩, h145⟩ := h145
                                                rcases h145 with h147 | h148
                                                · obtain ⟨q150, k149⟩ := h147
                                                  have q150 := q150.symm
                                                  subst q150
                                                  refine lv_if_ne (tgt := 67) hx hb dX12_rule_62 (of_decide_eq_true rfl) (fun _ => ?_) (fun c => absurd c (of_decide_eq_true rfl))
                                                  refine lv_iinc (v := 7) (lv' := [(4, .int 7), (5, .int x142), (0, .ref (ad 55)), (1, .int a1), (2, .int a2), (3, .int a3)]) hx hb dX12_rule_67 hl (k := 1) rfl (of_decide_eq_true rfl) (of_decide_eq_true rfl) rfl (fun ls hl => ?_)
                                                  refine lv_iload hx hb dX12_rule_70 (lv_at hl 1 rfl) ?_
                                                  refine lv_bipush (v := 10) hx hb dX12_rule_72 (of_decide_eq_true rfl) ?_
                                                  refine lv_idiv hx hb dX12_rule_74 (of_decide_eq_true rfl) ?_
                                                  refine lv_topi (fun x151 ex151 => ?_)
                                                  exact by
                                                   have tx151 : x151.toInt = (((((((((((((A2 / 10)) / 10)) / 10)) / 10)) / 10)) / 10)) / 10) := jdiv ex151 tx142 jz_10 (by omega) (by omega)
                                                   refine lv_istore (lv' := [(5, .int x151), (4, .int 7), (0, .ref (ad 55)), (1, .int a1), (2, .int a2), (3, .int a3)]) hx hb dX12_rule_75 hl (of_decide_eq_true rfl) rfl (fun ls hl => ?_)
                                                   refine lv_goto (tgt := 44) hx hb dX12_rule_77 (of_decide_eq_true rfl) ?_
                                                   refine lv_iload hx hb dX12_rule_44 (lv_at hl 0 rfl) ?_
                                                   refine lv_if_le (tgt := 80) hx hb dX12_rule_46 (of_decide_eq_true rfl) (fun c152 => ?_) (fun c152 => ?_)
                                                   · have kc152 := jle c152 tx151 jz_0
                                                     exact by exact lp23 7 _ _ ls (by have h90 := jz_7; omega) (by have h90 := jz_7; omega)   ⟨(by unfold jRow; simp only [jDig, and_true]; omega), (show jDn 7 (A2) from by simp only [jDn]; omega)⟩ hP hS (lv_sub hl [2, 3, 4, 5, 1] rfl)
                                                   · have kc152 := jnle c152 tx151 jz_0
                                                     refine lv_iload hx hb dX12_rule_49 (lv_at hl 0 rfl) ?_
                                                     refine lv_bipush (v := 10) hx hb dX12_rule_51 (of_decide_eq_true rfl) ?_
                                                     refine lv_irem hx hb dX12_rule_53 (of_decide_eq_true rfl) ?_
                                                     refine lv_topi (fun x153 ex153 => ?_)
                                                     exact by
                                                      have tx153 : x153.toInt = (((((((((((((((A2 / 10)) / 10)) / 10)) / 10)) / 10)) / 10)) / 10)) % 10) := jrem ex153 tx151 jz_10 (by omega)
                                                      refine lv_i2l (v := x153.toInt64) hx hb dX12_rule_54 rfl ?_
                                                      refine lv_lconst (v := 1) hx hb dX12_rule_55 (of_decide_eq_true rfl) ?_
                                                      refine lv_ldc2 (v := 4) hx hb hown (hts _ kw_13_5) dX12_rule_56 ?_
                                                      refine jcallS (As := [.long x153.toInt64, .long 1, .long 4]) (rest := []) ⟨hx, hb, hml, hown, hts⟩ hK hP hA hS hZ (c_X12_within l D cI cL ad zz hJ σ τ x153.toInt64 ((((((((((((((((A2 / 10)) / 10)) / 10)) / 10)) / 10)) / 10)) / 10)) % 10)) (jtoL tx153) 1 (1) jzl_1 4 (4) jzl_4) cw_RX12_136 ⟨Nat.le_of_ble_eq_true rfl, Nat.le_of_ble_eq_true rfl⟩ rfl rfl rfl hl.1 rfl (Nat.le_of_ble_eq_true rfl) dX12_rule_59 ⟨Nat.zero_le _, Nat.zero_le _⟩ (fun r155 σ154 τ154 H locs h154 hP hS => ?_)
                                                      obtain ⟨⟨rfl, rfl⟩, h154⟩ := h154
                                                      rcases h154 with h156 | h157
                                                      · obtain ⟨q159, k158⟩ := h156
                                                        have q159 := q159.symm
                                                        subst q159
                                                        refine lv_if_ne (tgt := 67) hx hb dX12_rule_62 (of_decide_eq_true rfl) (fun _ => ?_) (fun c => absurd c (of_decide_eq_true rfl))
                                                        refine lv_iinc (v := 8) (lv' := [(4, .int 8), (5, .int x151), (0, .ref (ad 55)), (1, .int a1), (2, .int a2), (3, .int a3)]) hx hb dX12_rule_67 hl (k := 1) rfl (of_decide_eq_true rfl) (of_decide_eq_true rfl) rfl (fun ls hl => ?_)
                                                        refine lv_iload hx hb dX12_rule_70 (lv_at hl 1 rfl) ?_
                                                        refine lv_bipush (v := 10) hx hb dX12_rule_72 (of_decide_eq_true rfl) ?_
                                                        refine lv_idiv hx hb dX12_rule_74 (of_decide_eq_true rfl) ?_
                                                        refine lv_topi (fun x160 ex160 => ?_)
                                                        exact by
                                                         have tx160 : x160.toInt = (((((((((((((((A2 / 10)) / 10)) / 10)) / 10)) / 10)) / 10)) / 10)) / 10) := jdiv ex160 tx151 jz_10 (by omega) (by omega)
                                                         refine lv_istore (lv' := [(5, .int x160), (4, .int 8), (0, .ref (ad 55)), (1, .int a1), (2, .int a2), (3, .int a3)]) hx hb dX12_rule_75 hl (of_decide_eq_true rfl) rfl (fun ls hl => ?_)
                                                         refine lv_goto (tgt := 44) hx hb dX12_rule_77 (of_decide_eq_true rfl) ?_
                                                         refine lv_iload hx hb dX12_rule_44 (lv_at hl 0 rfl) ?_
                                                         refine lv_if_le (tgt := 80) hx hb dX12_rule_46 (of_decide_eq_true rfl) (fun c161 => ?_) (fun c => absurd (jnle c tx160 jz_0) (by omega))
                                                         have kc161 := jle c161 tx160 jz_0
                                                         exact by exact lp23 8 _ _ ls (by have h90 := jz_8; omega) (by have h90 := jz_8; omega)   ⟨(by unfold jRow; simp only [jDig, and_true]; omega), (show jDn 8 (A2) from by simp only [jDn]; omega)⟩ hP hS (lv_sub hl [2, 3, 4, 5, 1] rfl)
                                                      · obtain ⟨q163, k162⟩ := h157
                                                        exact absurd (by omega : False) id
                                                · exact by
                                                   obtain ⟨q165, k164⟩ := h148
                                                   have q165 := q165.symm
                                                   subst q165
                                                   refine lv_if_ne (tgt := 67) hx hb dX12_rule_62 (of_decide_eq_true rfl) (fun c => absurd (of_decide_eq_true rfl) c) (fun _ => ?_)
                                                   refine lv_iconst (v := (-1)) hx hb dX12_rule_65 (of_decide_eq_true rfl) ?_
                                                   exact hret (-1) σ τ _ _ _ _ rfl ⟨rfl, (fun _ _ => rfl), (fun _ _ => rfl), hI106, Or.inl ⟨rfl, (by have h9 := jz_m1; omega), (fun h => by unfold jRow at h; simp only [jDig, and_true] at h; omega), rfl⟩⟩ hP hS dX12_rule_66
                                          · obtain ⟨q167, k166⟩ := h139
                                            have q167 := q167.symm
                                            subst q167
                                            refine lv_if_ne (tgt := 67) hx hb dX12_rule_62 (of_decide_eq_true rfl) (fun c => absurd (of_decide_eq_true rfl) c) (fun _ => ?_)
                                            refine lv_iconst (v := (-1)) hx hb dX12_rule_65 (of_decide_eq_true rfl) ?_
                                            exact hret (-1) σ τ _ _ _ _ rfl ⟨rfl, (fun _ _ => rfl), (fun _ _ => rfl), hI106, Or.inl ⟨rfl, (by have h9 := jz_m1; omega), (fun h => by unfold jRow at h; simp only [jDig, and_true] at h; omega), rfl⟩⟩ hP hS dX12_rule_66
                                    · obtain ⟨q169, k168⟩ := h130
                                      have q169 := q169.symm
                                      subst q169
                                      refine lv_if_ne (tgt := 67) hx hb dX12_rule_62 (of_decide_eq_true rfl) (fun c => absurd (of_decide_eq_true rfl) c) (fun _ => ?_)
                                      refine lv_iconst (v := (-1)) hx hb dX12_rule_65 (of_decide_eq_true rfl) ?_
                                      exact hret (-1) σ τ _ _ _ _ rfl ⟨rfl, (fun _ _ => rfl), (fun _ _ => rfl), hI106, Or.inl ⟨rfl, (by have h9 := jz_m1; omega), (fun h => by unfold jRow at h; simp only [jDig, and_true] at h; omega), rfl⟩⟩ hP hS dX12_rule_66
                              · obtain ⟨q171, k170⟩ := h121
                                have q171 := q171.symm
                                subst q171
                                refine lv_if_ne (tgt := 67) hx hb dX12_rule_62 (of_decide_eq_true rfl) (fun c => absurd (of_decide_eq_true rfl) c) (fun _ => ?_)
                                refine lv_iconst (v := (-1)) hx hb dX12_rule_65 (of_decide_eq_true rfl) ?_
                                exact hret (-1) σ τ _ _ _ _ rfl ⟨rfl, (fun _ _ => rfl), (fun _ _ => rfl), hI106, Or.inl ⟨rfl, (by have h9 := jz_m1; omega), (fun h => by unfold jRow at h; simp only [jDig, and_true] at h; omega), rfl⟩⟩ hP hS dX12_rule_66
                        · obtain ⟨q173, k172⟩ := h112
                          have q173 := q173.symm
                          subst q173
                          refine lv_if_ne (tgt := 67) hx hb dX12_rule_62 (of_decide_eq_true rfl) (fun c => absurd (of_decide_eq_true rfl) c) (fun _ => ?_)
                          refine lv_iconst (v := (-1)) hx hb dX12_rule_65 (of_decide_eq_true rfl) ?_
                          exact hret (-1) σ τ _ _ _ _ rfl ⟨rfl, (fun _ _ => rfl), (fun _ _ => rfl), hI106, Or.inl ⟨rfl, (by have h9 := jz_m1; omega), (fun h => by unfold jRow at h; simp only [jDig, and_true] at h; omega), rfl⟩⟩ hP hS dX12_rule_66
                  · obtain ⟨q175, k174⟩ := h103
                    have q175 := q175.symm
                    subst q175
                    refine lv_if_ne (tgt := 67) hx hb dX12_rule_62 (of_decide_eq_true rfl) (fun c => absurd (of_decide_eq_true rfl) c) (fun _ => ?_)
                    refine lv_iconst (v := (-1)) hx hb dX12_rule_65 (of_decide_eq_true rfl) ?_
                    exact hret (-1) σ τ _ _ _ _ rfl ⟨rfl, (fun _ _ => rfl), (fun _ _ => rfl), hI106, Or.inl ⟨rfl, (by have h9 := jz_m1; omega), (fun h => by unfold jRow at h; simp only [jDig, and_true] at h; omega), rfl⟩⟩ hP hS dX12_rule_66
            · obtain ⟨q177, k176⟩ := h94
              have q177 := q177.symm
              subst q177
              refine lv_if_ne (tgt := 67) hx hb dX12_rule_62 (of_decide_eq_true rfl) (fun c => absurd (of_decide_eq_true rfl) c) (fun _ => ?_)
              refine lv_iconst (v := (-1)) hx hb dX12_rule_65 (of_decide_eq_true rfl) ?_
              exact hret (-1) σ τ _ _ _ _ rfl ⟨rfl, (fun _ _ => rfl), (fun _ _ => rfl), hI106, Or.inl ⟨rfl, (by have h9 := jz_m1; omega), (fun h => by unfold jRow at h; simp only [jDig, and_true] at h; omega), rfl⟩⟩ hP hS dX12_rule_66
      · obtain ⟨q179, k178⟩ := h20
        have q179 := q179.symm
        subst q179
        refine lv_if_ne (tgt := 38) hx hb dX12_rule_33 (of_decide_eq_true rfl) (fun c => absurd (of_decide_eq_true rfl) c) (fun _ => ?_)
        refine lv_iconst (v := (-1)) hx hb dX12_rule_36 (of_decide_eq_true rfl) ?_
        exact hret (-1) σ τ _ _ _ _ rfl ⟨rfl, (fun _ _ => rfl), (fun _ _ => rfl), hI106, Or.inl ⟨rfl, (by have h9 := jz_m1; omega), (fun h => by unfold jRow at h; simp only [jDig, and_true] at h; omega), rfl⟩⟩ hP hS dX12_rule_37
    · obtain ⟨q181, k180⟩ := h14
      have q181 := q181.symm
      subst q181
      refine lv_if_eq (tgt := 36) hx hb dX12_rule_21 (of_decide_eq_true rfl) (fun _ => ?_) (fun c => absurd (of_decide_eq_true rfl) c)
      refine lv_iconst (v := (-1)) hx hb dX12_rule_36 (of_decide_eq_true rfl) ?_
      exact hret (-1) σ τ _ _ _ _ rfl ⟨rfl, (fun _ _ => rfl), (fun _ _ => rfl), hI106, Or.inl ⟨rfl, (by have h9 := jz_m1; omega), (fun h => by unfold jRow at h; simp only [jDig, and_true] at h; omega), rfl⟩⟩ hP hS dX12_rule_37
  · obtain ⟨q183, k182⟩ := h8
    have q183 := q183.symm
    subst q183
    refine lv_if_eq (tgt := 36) hx hb dX12_rule_9 (of_decide_eq_true rfl) (fun _ => ?_) (fun c => absurd (of_decide_eq_true rfl) c)
    refine lv_iconst (v := (-1)) hx hb dX12_rule_36 (of_decide_eq_true rfl) ?_
    exact hret (-1) σ τ _ _ _ _ rfl ⟨rfl, (fun _ _ => rfl), (fun _ _ => rfl), hI106, Or.inl ⟨rfl, (by have h9 := jz_m1; omega), (fun h => by unfold jRow at h; simp only [jDig, and_true] at h; omega), rfl⟩⟩ hP hS dX12_rule_37
