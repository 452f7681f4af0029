set_option maxHeartbeats 4000000 in
set_option maxRecDepth 100000 in
theorem c_X12_puts (l : Launch) (D : va_G) (cI cL : ClassId) (ad zz : Nat → Nat) (hJ : jD ad) (σ : Nat → Nat → Int32) (τ : Nat → Nat → Int64) (a1 : Int32) (A1 : Int) (t1 : a1.toInt = A1) (hI101 : jI101 σ) (hI102 : jI102 σ) (hI103 : jI103 σ) (hI104 : jI104 σ) (hI105 : jI105 σ) (hI106 : jI106 σ) (hI107 : jI107 σ) (hI119 : jI119 σ) (hs_jKept : jKept σ) (hs_jBook : jBook σ) (hs_jTR : jTR σ) (hs_jqSt : jqSt σ) (hp0 : 0 ≤ (σ 55 42).toInt ∧ (σ 55 42).toInt ≤ 999999998) : jM l yX12_puts cX12_puts 2 (some .int) ({ frames := 104, cells := 0, slots := 0, locals := 5087 }) D cI cL ad zz [.ref (ad 55), .int a1] σ τ (fun r σ' τ' => τ = τ' ∧ (∀ i : Nat, (i < 55 ∨ 55 < i) ∧ (i < 66 ∨ 66 < i) ∧ (i < 68 ∨ 69 < i) ∧ (i < 74 ∨ 78 < i) → σ' i = σ i) ∧ (∀ k : Nat, (k < 18 ∨ 18 < k) ∧ (k < 19 ∨ 19 < k) ∧ (k < 20 ∨ 20 < k) ∧ (k < 21 ∨ 21 < k) ∧ (k < 22 ∨ 22 < k) ∧ (k < 25 ∨ 25 < k) ∧ (k < 26 ∨ 26 < k) ∧ (k < 27 ∨ 27 < k) ∧ (k < 37 ∨ 37 < k) ∧ (k < 42 ∨ 42 < k) → σ' 55 k = σ 55 k) ∧ (jI119 σ') ∧ (jKept σ') ∧ (jBook σ') ∧ (jTR σ') ∧ (jqSt σ') ∧ ((σ 55 42).toInt ≤ (σ' 55 42).toInt) ∧ ((σ' 55 42).toInt ≤ (σ 55 42).toInt + 1) ∧ True) := by
  refine jM.of hJ (by decide +kernel) (nt := .int) rfl (Nat.le_of_ble_eq_true rfl) ?_
  intro p e s m args below meth c Q ls hC hret hl hP
  obtain ⟨hx, hb, hr, hml, hown, hts, hK, -, hlocks, hZ⟩ := hC
  have hown : s.vm.findClass RX12 = some m.cls := hown
  have hS : va_S (jA ad) s.heap s.heap [] := va_S.rf
  have hA : ∀ q, jA ad q → jA ad q := fun _ h => h
  have hl : lv_has ls 2 [(0, .ref (ad 55)), (1, .int a1)] := hl
  have g1 := jrg t1
  obtain ⟨i1, w2, w3⟩ : (0 ≤ (σ 55 6).toInt ∧ (σ 55 6).toInt ≤ 4) ∧ (∀ k : Nat, k < 4 → 0 ≤ (σ 60 k).toInt ∧ (σ 60 k).toInt ≤ 50) ∧ (∀ k : Nat, k < 4 → 0 ≤ (σ 61 k).toInt ∧ (σ 61 k).toInt ≤ 20) := id hI102
  obtain ⟨i4, i5, i6, w7, w8⟩ : (1 ≤ (σ 55 10).toInt ∧ (σ 55 10).toInt ≤ 8) ∧ (1 ≤ (σ 55 12).toInt ∧ (σ 55 12).toInt ≤ 12) ∧ (0 ≤ (σ 55 13).toInt ∧ (σ 55 13).toInt ≤ 999) ∧ (∀ k : Nat, k < 8 → 0 ≤ (σ 62 k).toInt ∧ (σ 62 k).toInt ≤ 3) ∧ (∀ k : Nat, k < 8 → 0 ≤ (σ 67 k).toInt ∧ (σ 67 k).toInt ≤ 3) := id hI104
  obtain ⟨i9, w10, w11, w12⟩ : (0 ≤ (σ 55 32).toInt ∧ (σ 55 32).toInt ≤ 20) ∧ (∀ k : Nat, k < 20 → 0 ≤ (σ 70 k).toInt ∧ (σ 70 k).toInt ≤ 6) ∧ (∀ k : Nat, k < 20 → 0 ≤ (σ 71 k).toInt ∧ (σ 71 k).toInt ≤ 8) ∧ (∀ k : Nat, k < 160 → 0 ≤ (σ 72 k).toInt ∧ (σ 72 k).toInt ≤ 3) := id hI106
  obtain ⟨i13, i14, w15⟩ : (0 ≤ (σ 55 47).toInt ∧ (σ 55 47).toInt ≤ 12) ∧ ((σ 55 47).toInt ≤ (σ 55 12).toInt) ∧ (∀ k : Nat, k < 12 → 0 ≤ (σ 80 k).toInt ∧ (σ 80 k).toInt ≤ 3) := id hI107
  refine lv_aload_n hx hb dX12_puts_0 rfl (lv_at hl 0 rfl) ?_
  refine lv_iload_n hx hb dX12_puts_1 rfl (lv_at hl 1 rfl) ?_
  refine jcallV (As := [.int a1]) (rest := []) ⟨hx, hb, hml, hown, hts⟩ hK hP hA hS hZ (c_X12_isRule l D cI cL ad zz hJ σ τ a1 (A1) t1 hI106) cw_RX12_331 (jc_55 cI cL ad σ τ) rfl ⟨Nat.le_of_ble_eq_true rfl, Nat.le_of_ble_eq_true rfl⟩ rfl rfl rfl hl.1 rfl (Nat.le_of_ble_eq_true rfl) dX12_puts_2 ⟨Nat.zero_le _, Nat.zero_le _⟩ (fun r17 σ16 τ16 H locs h16 hP hS => ?_)
  obtain ⟨⟨rfl, rfl⟩, h16⟩ := h16
  rcases h16 with h18 | h19
  · obtain ⟨q21, k20⟩ := h18
    have q21 := q21.symm
    subst q21
    refine lv_if_ne (tgt := 10) hx hb dX12_puts_5 (of_decide_eq_true rfl) (fun _ => ?_) (fun c => absurd c (of_decide_eq_true rfl))
    refine lv_aload_n hx hb dX12_puts_10 rfl (lv_at hl 0 rfl) ?_
    refine lv_aload_n hx hb dX12_puts_11 rfl (lv_at hl 0 rfl) ?_
    refine va_get (D := D) hx hb hts inlX12 hown hK hP 55 (jc_55 cI cL ad σ τ) rfl 47 (of_decide_eq_true rfl) (hts _ kw_15_15) (fun _ h9 => h9) rfl dX12_puts_12 ?_
    have w22 : ∀ k : Nat, k < 4 → 0 ≤ (σ 68 k).toInt ∧ (σ 68 k).toInt ≤ 3 := hI119
    exact by
     refine jcallVv (As := [.int (σ 55 47)]) (rest := []) ⟨hx, hb, hml, hown, hts⟩ hK hP hA hS hZ (c_X12_goThroughBook l D cI cL ad zz hJ σ τ (σ 55 47) ((σ 55 47).toInt) rfl hI102 hI104 hI107 w22 hs_jBook (by omega) (by omega)) cw_RX12_334 (jc_55 cI cL ad σ τ) rfl ⟨Nat.le_of_ble_eq_true rfl, Nat.le_of_ble_eq_true rfl⟩ rfl rfl rfl hl.1 rfl (Nat.le_of_ble_eq_true rfl) dX12_puts_15 ⟨Nat.zero_le _, Nat.zero_le _⟩ (fun σ23 τ23 H locs h23 hP hS => ?_)
     obtain ⟨rfl, f25, f26, I27, p28, w29, w30, h23⟩ := h23
     obtain ⟨i32, i33, i34, i35, i36, w37⟩ : (0 ≤ (σ23 55 25).toInt) ∧ ((σ23 55 25).toInt ≤ (σ23 55 10).toInt) ∧ (0 ≤ (σ23 55 26).toInt) ∧ ((σ23 55 26).toInt ≤ (σ23 55 12).toInt) ∧ ((-1) ≤ (σ23 55 27).toInt ∧ (σ23 55 27).toInt ≤ 3) ∧ (∀ k : Nat, k < 4 → 0 ≤ (σ23 68 k).toInt ∧ (σ23 68 k).toInt ≤ 3) := id I27
     have z38 : (σ23 55 10).toInt = (σ 55 10).toInt := (congrArg Int32.toInt (show σ23 55 10 = (σ 55 10) from (f26 10 (of_decide_eq_true rfl))))
     have z39 : (σ23 55 12).toInt = (σ 55 12).toInt := (congrArg Int32.toInt (show σ23 55 12 = (σ 55 12) from (f26 12 (of_decide_eq_true rfl))))
     obtain ⟨k40, k41, k42, h23⟩ := h23
     refine lv_aload_n hx hb dX12_puts_18 rfl (lv_at hl 0 rfl) ?_
     refine va_get (D := D) hx hb hts inlX12 hown hK hP 55 (jc_55 cI cL ad σ23 τ) rfl 33 (of_decide_eq_true rfl) (hts _ kw_7_18) (fun _ h9 => h9) rfl dX12_puts_19 ?_
     refine lv_iload_n hx hb dX12_puts_22 rfl (lv_at hl 1 rfl) ?_
     exact by
      refine jald hx hb hK hP (jc_70 cI cL ad σ23 τ) (jin t1 (by omega) (by omega)) dX12_puts_23 ?_
      have w43 : ∀ k : Nat, k < 20 → 0 ≤ (σ23 70 k).toInt ∧ (σ23 70 k).toInt ≤ 6 := (jrr_fr (f25 70 (of_decide_eq_true rfl)) w10)
      have g44 := w43 _ (jnat (x := a1) t1 (n := 20) (by omega) (of_decide_eq_true rfl))
      refine jtopr (y := (σ 70 a1.toNatClampNeg)) (by rw [f25 70 (of_decide_eq_true rfl)]) ?_
      rw [f25 70 (of_decide_eq_true rfl)] at g44
      refine lv_iconst (v := 2) hx hb dX12_puts_24 (of_decide_eq_true rfl) ?_
      refine lv_icmp_ne (tgt := 38) hx hb dX12_puts_25 (of_decide_eq_true rfl) (fun c45 => ?_) (fun c45 => ?_)
      · have kc45 := jne c45 rfl jz_2
        refine lv_aload_n hx hb dX12_puts_38 rfl (lv_at hl 0 rfl) ?_
        exact by
         have I46 : jI102 σ23 := jI102_fr (f26 6 (of_decide_eq_true rfl)) (f25 60 (of_decide_eq_true rfl)) (f25 61 (of_decide_eq_true rfl)) hI102
         have I47 : jI104 σ23 := jI104_fr (f26 10 (of_decide_eq_true rfl)) (f26 12 (of_decide_eq_true rfl)) (f26 13 (of_decide_eq_true rfl)) (f25 62 (of_decide_eq_true rfl)) (f25 67 (of_decide_eq_true rfl)) hI104
         refine jcallV (As := []) (rest := []) ⟨hx, hb, hml, hown, hts⟩ hK hP hA hS hZ (c_X12_isEnded l D cI cL ad zz hJ σ23 τ I46 I47 I27) cw_RX12_307 (jc_55 cI cL ad σ23 τ) rfl ⟨Nat.le_of_ble_eq_true rfl, Nat.le_of_ble_eq_true rfl⟩ rfl rfl rfl hl.1 rfl (Nat.le_of_ble_eq_true rfl) dX12_puts_39 ⟨Nat.zero_le _, Nat.zero_le _⟩ (fun r49 σ48 τ48 H locs h48 hP hS => ?_)
         obtain ⟨⟨rfl, rfl⟩, h48⟩ := h48
         rcases h48 with h50 | h51
         · obtain ⟨q53, k52⟩ := h50
           have q53 := q53.symm
           subst q53
           refine lv_if_eq (tgt := 48) hx hb dX12_puts_42 (of_decide_eq_true rfl) (fun c => absurd c (of_decide_eq_true rfl)) (fun _ => ?_)
           refine lv_bipush (v := (-2)) hx hb dX12_puts_45 (of_decide_eq_true rfl) ?_
           have I54 : jI119 σ23 := w37
           have p55 : jKept σ23 := jKept.fr (f25 75 (of_decide_eq_true rfl)) (f25 76 (of_decide_eq_true rfl)) (f25 77 (of_decide_eq_true rfl)) hs_jKept
           have p56 : jTR σ23 := jTR.fr (f25 64 (of_decide_eq_true rfl)) (f25 65 (of_decide_eq_true rfl)) hs_jTR
           have p57 : jqSt σ23 := jqSt.fr (f25 78 (of_decide_eq_true rfl)) (f26 42 (of_decide_eq_true rfl)) hs_jqSt
           have z58 : (σ23 55 42).toInt = (σ 55 42).toInt := (congrArg Int32.toInt (show σ23 55 42 = (σ 55 42) from (f26 42 (of_decide_eq_true rfl))))
           exact by exact hret (-2) σ23 τ _ _ _ _ rfl ⟨rfl, (fun i hi => (f25 i (imp_256 i hi))), (fun i hi => (f26 i (imp_257 i hi))), I54, p55, p28, p56, p57, (by omega), (by omega), trivial⟩ hP hS dX12_puts_47
         · obtain ⟨q62, k59, k60, k61⟩ := h51
           have q62 := q62.symm
           subst q62
           obtain ⟨B63, k64, k65, w66⟩ := k61
           have z67 : (σ23 55 6).toInt = (σ 55 6).toInt := (congrArg Int32.toInt (show σ23 55 6 = (σ 55 6) from (f26 6 (of_decide_eq_true rfl))))
           refine lv_if_eq (tgt := 48) hx hb dX12_puts_42 (of_decide_eq_true rfl) (fun _ => ?_) (fun c => absurd (of_decide_eq_true rfl) c)
           refine lv_aload_n hx hb dX12_puts_48 rfl (lv_at hl 0 rfl) ?_
           have p68 : jqSt σ23 := jqSt.fr (f25 78 (of_decide_eq_true rfl)) (f26 42 (of_decide_eq_true rfl)) hs_jqSt
           have z69 : (σ23 55 42).toInt = (σ 55 42).toInt := (congrArg Int32.toInt (show σ23 55 42 = (σ 55 42) from (f26 42 (of_decide_eq_true rfl))))
           exact by
            refine jcallVv (As := []) (rest := []) ⟨hx, hb, hml, hown, hts⟩ hK hP hA hS hZ (c_X12_forgets l D cI cL ad zz hJ σ23 τ p68 (by omega)) cw_RX12_341 (jc_55 cI cL ad σ23 τ) rfl ⟨Nat.le_of_ble_eq_true rfl, Nat.le_of_ble_eq_true rfl⟩ rfl rfl rfl hl.1 rfl (Nat.le_of_ble_eq_true rfl) dX12_puts_49 ⟨Nat.zero_le _, Nat.zero_le _⟩ (fun σ70 τ70 H locs h70 hP hS => ?_)
            obtain ⟨rfl, f72, f73, p74, w75, h70⟩ := h70
            obtain ⟨k77, h70⟩ := h70
            refine lv_aload_n hx hb dX12_puts_52 rfl (lv_at hl 0 rfl) ?_
            refine lv_iload_n hx hb dX12_puts_53 rfl (lv_at hl 1 rfl) ?_
            have p78 : jmb σ70 B63 = 1 := (jmb_fr (f73 27 (of_decide_eq_true rfl)) (f73 30 (of_decide_eq_true rfl)) (f73 31 (of_decide_eq_true rfl)) (f72 56 (of_decide_eq_true rfl)) (f72 69 (of_decide_eq_true rfl)) B63).trans w66
            have I79 : jI101 σ70 := jI101_fr ((f73 4 (of_decide_eq_true rfl)).trans (f26 4 (of_decide_eq_true rfl))) ((f73 5 (of_decide_eq_true rfl)).trans (f26 5 (of_decide_eq_true rfl))) ((f72 56 (of_decide_eq_true rfl)).trans (f25 56 (of_decide_eq_true rfl))) ((f72 57 (of_decide_eq_true rfl)).trans (f25 57 (of_decide_eq_true rfl))) ((f72 58 (of_decide_eq_true rfl)).trans (f25 58 (of_decide_eq_true rfl))) ((f72 59 (of_decide_eq_true rfl)).trans (f25 59 (of_decide_eq_true rfl))) hI101
            have I80 : jI102 σ70 := jI102_fr (f73 6 (of_decide_eq_true rfl)) (f72 60 (of_decide_eq_true rfl)) (f72 61 (of_decide_eq_true rfl)) I46
            have I81 : jI103 σ70 := jI103_fr ((f73 9 (of_decide_eq_true rfl)).trans (f26 9 (of_decide_eq_true rfl))) hI103
            have I82 : jI104 σ70 := jI104_fr (f73 10 (of_decide_eq_true rfl)) (f73 12 (of_decide_eq_true rfl)) (f73 13 (of_decide_eq_true rfl)) (f72 62 (of_decide_eq_true rfl)) (f72 67 (of_decide_eq_true rfl)) I47
            have I83 : jI105 σ70 := jI105_fr ((f73 15 (of_decide_eq_true rfl)).trans (f26 15 (of_decide_eq_true rfl))) ((f72 65 (of_decide_eq_true rfl)).trans (f25 65 (of_decide_eq_true rfl))) hI105
            have I84 : jI106 σ70 := jI106_fr ((f73 32 (of_decide_eq_true rfl)).trans (f26 32 (of_decide_eq_true rfl))) ((f72 70 (of_decide_eq_true rfl)).trans (f25 70 (of_decide_eq_true rfl))) ((f72 71 (of_decide_eq_true rfl)).trans (f25 71 (of_decide_eq_true rfl))) ((f72 72 (of_decide_eq_true rfl)).trans (f25 72 (of_decide_eq_true rfl))) hI106
            have I85 : jI120 σ70 := jI120_fr (f73 10 (of_decide_eq_true rfl)) (f73 12 (of_decide_eq_true rfl)) (f73 25 (of_decide_eq_true rfl)) (f73 26 (of_decide_eq_true rfl)) (f73 27 (of_decide_eq_true rfl)) (f72 68 (of_decide_eq_true rfl)) I27
            have p86 : jKept σ70 := jKept.fr ((f72 75 (of_decide_eq_true rfl)).trans (f25 75 (of_decide_eq_true rfl))) ((f72 76 (of_decide_eq_true rfl)).trans (f25 76 (of_decide_eq_true rfl))) ((f72 77 (of_decide_eq_true rfl)).trans (f25 77 (of_decide_eq_true rfl))) hs_jKept
            have p87 : jTR σ70 := jTR.fr ((f72 64 (of_decide_eq_true rfl)).trans (f25 64 (of_decide_eq_true rfl))) ((f72 65 (of_decide_eq_true rfl)).trans (f25 65 (of_decide_eq_true rfl))) hs_jTR
            have z88 : (σ70 70 a1.toNatClampNeg).toInt = (σ 70 a1.toNatClampNeg).toInt := by rw [f72 70 (of_decide_eq_true rfl), f25 70 (of_decide_eq_true rfl)]
            have z89 : (σ70 55 6).toInt = (σ 55 6).toInt := (congrArg Int32.toInt (show σ70 55 6 = (σ 55 6) from ((f73 6 (of_decide_eq_true rfl)).trans (f26 6 (of_decide_eq_true rfl)))))
            have z90 : (σ70 55 25).toInt = (σ23 55 25).toInt := (congrArg Int32.toInt (show σ70 55 25 = (σ23 55 25) from (f73 25 (of_decide_eq_true rfl))))
            have z91 : (σ70 55 10).toInt = (σ 55 10).toInt := (congrArg Int32.toInt (show σ70 55 10 = (σ 55 10) from ((f73 10 (of_decide_eq_true rfl)).trans (f26 10 (of_decide_eq_true rfl)))))
            have z92 : (σ70 55 26).toInt = (σ23 55 26).toInt := (congrArg Int32.toInt (show σ70 55 26 = (σ23 55 26) from (f73 26 (of_decide_eq_true rfl))))
            have z93 : (σ70 55 12).toInt = (σ 55 12).toInt := (congrArg Int32.toInt (show σ70 55 12 = (σ 55 12) from ((f73 12 (of_decide_eq_true rfl)).trans (f26 12 (of_decide_eq_true rfl)))))
            exact by
             refine jcallV (As := [.int a1]) (rest := []) ⟨hx, hb, hml, hown, hts⟩ hK hP hA hS hZ (c_X12_putsOn l D cI cL ad zz hJ σ70 τ B63 p78 a1 (A1) t1 I79 I80 I81 I82 I83 I84 I85 p86 p87 p74 (by omega) (by omega) (by omega) (by omega) (by omega)) cw_RX12_321 (jc_55 cI cL ad σ70 τ) rfl ⟨Nat.le_of_ble_eq_true rfl, Nat.le_of_ble_eq_true rfl⟩ rfl rfl rfl hl.1 rfl (Nat.le_of_ble_eq_true rfl) dX12_puts_54 ⟨Nat.zero_le _, Nat.zero_le _⟩ (fun r95 σ94 τ94 H locs h94 hP hS => ?_)
             obtain ⟨rfl, f96, f97, p98, p99, p100, h94⟩ := h94
             have h102 := h94
             obtain ⟨q104, k103⟩ := h102
             have w105 : ∀ k : Nat, k < 4 → 0 ≤ (σ94 68 k).toInt ∧ (σ94 68 k).toInt ≤ 3 := (jrr_fr (f96 68 (of_decide_eq_true rfl)) (jrr_fr (f72 68 (of_decide_eq_true rfl)) w37))
             have I106 : jI119 σ94 := w105
             have p107 : jBook σ94 := jBook.fr ((f97 47 (of_decide_eq_true rfl)).trans (f73 47 (of_decide_eq_true rfl))) ((f97 10 (of_decide_eq_true rfl)).trans (f73 10 (of_decide_eq_true rfl))) ((f96 81 (of_decide_eq_true rfl)).trans (f72 81 (of_decide_eq_true rfl))) p28
             have z108 : (σ94 55 42).toInt = (σ70 55 42).toInt := (congrArg Int32.toInt (show σ94 55 42 = (σ70 55 42) from (f97 42 (of_decide_eq_true rfl))))
             exact by exact hret r95 σ94 τ _ _ _ _ rfl ⟨rfl, (fun i hi => ((f96 i (imp_258 i hi)).trans ((f72 i (imp_259 i hi)).trans (f25 i (imp_256 i hi))))), (fun i hi => ((f97 i (imp_260 i hi)).trans ((f73 i (imp_261 i hi)).trans (f26 i (imp_257 i hi))))), I106, p98, p107, p99, p100, (by omega), (by omega), trivial⟩ hP hS dX12_puts_57
      · have kc45 := jeq c45 rfl jz_2
        refine lv_aload_n hx hb dX12_puts_28 rfl (lv_at hl 0 rfl) ?_
        have I109 : jI104 σ23 := jI104_fr (f26 10 (of_decide_eq_true rfl)) (f26 12 (of_decide_eq_true rfl)) (f26 13 (of_decide_eq_true rfl)) (f25 62 (of_decide_eq_true rfl)) (f25 67 (of_decide_eq_true rfl)) hI104
        exact by
         refine jcallV (As := []) (rest := []) ⟨hx, hb, hml, hown, hts⟩ hK hP hA hS hZ (c_X12_isBig l D cI cL ad zz hJ σ23 τ I109 (by omega)) cw_RX12_338 (jc_55 cI cL ad σ23 τ) rfl ⟨Nat.le_of_ble_eq_true rfl, Nat.le_of_ble_eq_true rfl⟩ rfl rfl rfl hl.1 rfl (Nat.le_of_ble_eq_true rfl) dX12_puts_29 ⟨Nat.zero_le _, Nat.zero_le _⟩ (fun r111 σ110 τ110 H locs h110 hP hS => ?_)
         obtain ⟨⟨rfl, rfl⟩, h110⟩ := h110
         rcases h110 with h112 | h113
         · obtain ⟨q115, k114⟩ := h112
           have q115 := q115.symm
           subst q115
           refine lv_if_eq (tgt := 38) hx hb dX12_puts_32 (of_decide_eq_true rfl) (fun c => absurd c (of_decide_eq_true rfl)) (fun _ => ?_)
           refine lv_bipush (v := (-4)) hx hb dX12_puts_35 (of_decide_eq_true rfl) ?_
           have I116 : jI119 σ23 := w37
           have p117 : jKept σ23 := jKept.fr (f25 75 (of_decide_eq_true rfl)) (f25 76 (of_decide_eq_true rfl)) (f25 77 (of_decide_eq_true rfl)) hs_jKept
           have p118 : jTR σ23 := jTR.fr (f25 64 (of_decide_eq_true rfl)) (f25 65 (of_decide_eq_true rfl)) hs_jTR
           have p119 : jqSt σ23 := jqSt.fr (f25 78 (of_decide_eq_true rfl)) (f26 42 (of_decide_eq_true rfl)) hs_jqSt
           have z120 : (σ23 55 42).toInt = (σ 55 42).toInt := (congrArg Int32.toInt (show σ23 55 42 = (σ 55 42) from (f26 42 (of_decide_eq_true rfl))))
           exact by exact hret (-4) σ23 τ _ _ _ _ rfl ⟨rfl, (fun i hi => (f25 i (imp_256 i hi))), (fun i hi => (f26 i (imp_257 i hi))), I116, p117, p28, p118, p119, (by omega), (by omega), trivial⟩ hP hS dX12_puts_37
         · obtain ⟨q122, k121⟩ := h113
           have q122 := q122.symm
           subst q122
           refine lv_if_eq (tgt := 38) hx hb dX12_puts_32 (of_decide_eq_true rfl) (fun _ => ?_) (fun c => absurd (of_decide_eq_true rfl) c)
           refine lv_aload_n hx hb dX12_puts_38 rfl (lv_at hl 0 rfl) ?_
           have I123 : jI102 σ23 := jI102_fr (f26 6 (of_decide_eq_true rfl)) (f25 60 (of_decide_eq_true rfl)) (f25 61 (of_decide_eq_true rfl)) hI102
           refine jcallV (As := []) (rest := []) ⟨hx, hb, hml, hown, hts⟩ hK hP hA hS hZ (c_X12_isEnded l D cI cL ad zz hJ σ23 τ I123 I109 I27) cw_RX12_307 (jc_55 cI cL ad σ23 τ) rfl ⟨Nat.le_of_ble_eq_true rfl, Nat.le_of_ble_eq_true rfl⟩ rfl rfl rfl hl.1 rfl (Nat.le_of_ble_eq_true rfl) dX12_puts_39 ⟨Nat.zero_le _, Nat.zero_le _⟩ (fun r125 σ124 τ124 H locs h124 hP hS => ?_)
           obtain ⟨⟨rfl, rfl⟩, h124⟩ := h124
           rcases h124 with h126 | h127
           · obtain ⟨q129, k128⟩ := h126
             have q129 := q129.symm
             subst q129
             refine lv_if_eq (tgt := 48) hx hb dX12_puts_42 (of_decide_eq_true rfl) (fun c => absurd c (of_decide_eq_true rfl)) (fun _ => ?_)
             refine lv_bipush (v := (-2)) hx hb dX12_puts_45 (of_decide_eq_true rfl) ?_
             have I130 : jI119 σ23 := w37
             have p131 : jKept σ23 := jKept.fr (f25 75 (of_decide_eq_true rfl)) (f25 76 (of_decide_eq_true rfl)) (f25 77 (of_decide_eq_true rfl)) hs_jKept
             have p132 : jTR σ23 := jTR.fr (f25 64 (of_decide_eq_true rfl)) (f25 65 (of_decide_eq_true rfl)) hs_jTR
             have p133 : jqSt σ23 := jqSt.fr (f25 78 (of_decide_eq_true rfl)) (f26 42 (of_decide_eq_true rfl)) hs_jqSt
             have z134 : (σ23 55 42).toInt = (σ 55 42).toInt := (congrArg Int32.toInt (show σ23 55 42 = (σ 55 42) from (f26 42 (of_decide_eq_true rfl))))
             exact by exact hret (-2) σ23 τ _ _ _ _ rfl ⟨rfl, (fun i hi => (f25 i (imp_256 i hi))), (fun i hi => (f26 i (imp_257 i hi))), I130, p131, p28, p132, p133, (by omega), (by omega), trivial⟩ hP hS dX12_puts_47
           · obtain ⟨q138, k135, k136, k137⟩ := h127
             have q138 := q138.symm
             subst q138
             obtain ⟨B139, k140, k141, w142⟩ := k137
             have z143 : (σ23 55 6).toInt = (σ 55 6).toInt := (congrArg Int32.toInt (show σ23 55 6 = (σ 55 6) from (f26 6 (of_decide_eq_true rfl))))
             refine lv_if_eq (tgt := 48) hx hb dX12_puts_42 (of_decide_eq_true rfl) (fun _ => ?_) (fun c => absurd (of_decide_eq_true rfl) c)
             refine lv_aload_n hx hb dX12_puts_48 rfl (lv_at hl 0 rfl) ?_
             have p144 : jqSt σ23 := jqSt.fr (f25 78 (of_decide_eq_true rfl)) (f26 42 (of_decide_eq_true rfl)) hs_jqSt
             have z145 : (σ23 55 42).toInt = (σ 55 42).toInt := (congrArg Int32.toInt (show σ23 55 42 = (σ 55 42) from (f26 42 (of_decide_eq_true rfl))))
             exact by
              refine jcallVv (As := []) (rest := []) ⟨hx, hb, hml, hown, hts⟩ hK hP hA hS hZ (c_X12_forgets l D cI cL ad zz hJ σ23 τ p144 (by omega)) cw_RX12_341 (jc_55 cI cL ad σ23 τ) rfl ⟨Nat.le_of_ble_eq_true rfl, Nat.le_of_ble_eq_true rfl⟩ rfl rfl rfl hl.1 rfl (Nat.le_of_ble_eq_true rfl) dX12_puts_49 ⟨Nat.zero_le _, Nat.zero_le _⟩ (fun σ146 τ146 H locs h146 hP hS => ?_)
              obtain ⟨rfl, f148, f149, p150, w151, h146⟩ := h146
              obtain ⟨k153, h146⟩ := h146
              refine lv_aload_n hx hb dX12_puts_52 rfl (lv_at hl 0 rfl) ?_
              refine lv_iload_n hx hb dX12_puts_53 rfl (lv_at hl 1 rfl) ?_
              have p154 : jmb σ146 B139 = 1 := (jmb_fr (f149 27 (of_decide_eq_true rfl)) (f149 30 (of_decide_eq_true rfl)) (f149 31 (of_decide_eq_true rfl)) (f148 56 (of_decide_eq_true rfl)) (f148 69 (of_decide_eq_true rfl)) B139).trans w142
              have I155 : jI101 σ146 := jI101_fr ((f149 4 (of_decide_eq_true rfl)).trans (f26 4 (of_decide_eq_true rfl))) ((f149 5 (of_decide_eq_true rfl)).trans (f26 5 (of_decide_eq_true rfl))) ((f148 56 (of_decide_eq_true rfl)).trans (f25 56 (of_decide_eq_true rfl))) ((f148 57 (of_decide_eq_true rfl)).trans (f25 57 (of_decide_eq_true rfl))) ((f148 58 (of_decide_eq_true rfl)).trans (f25 58 (of_decide_eq_true rfl))) ((f148 59 (of_decide_eq_true rfl)).trans (f25 59 (of_decide_eq_true rfl))) hI101
              have I156 : jI102 σ146 := jI102_fr (f149 6 (of_decide_eq_true rfl)) (f148 60 (of_decide_eq_true rfl)) (f148 61 (of_decide_eq_true rfl)) I123
              have I157 : jI103 σ146 := jI103_fr ((f149 9 (of_decide_eq_true rfl)).trans (f26 9 (of_decide_eq_true rfl))) hI103
              have I158 : jI104 σ146 := jI104_fr (f149 10 (of_decide_eq_true rfl)) (f149 12 (of_decide_eq_true rfl)) (f149 13 (of_decide_eq_true rfl)) (f148 62 (of_decide_eq_true rfl)) (f148 67 (of_decide_eq_true rfl)) I109
              have I159 : jI105 σ146 := jI105_fr ((f149 15 (of_decide_eq_true rfl)).trans (f26 15 (of_decide_eq_true rfl))) ((f148 65 (of_decide_eq_true rfl)).trans (f25 65 (of_decide_eq_true rfl))) hI105
              have I160 : jI106 σ146 := jI106_fr ((f149 32 (of_decide_eq_true rfl)).trans (f26 32 (of_decide_eq_true rfl))) ((f148 70 (of_decide_eq_true rfl)).trans (f25 70 (of_decide_eq_true rfl))) ((f148 71 (of_decide_eq_true rfl)).trans (f25 71 (of_decide_eq_true rfl))) ((f148 72 (of_decide_eq_true rfl)).trans (f25 72 (of_decide_eq_true rfl))) hI106
              have I161 : jI120 σ146 := jI120_fr (f149 10 (of_decide_eq_true rfl)) (f149 12 (of_decide_eq_true rfl)) (f149 25 (of_decide_eq_true rfl)) (f149 26 (of_decide_eq_true rfl)) (f149 27 (of_decide_eq_true rfl)) (f148 68 (of_decide_eq_true rfl)) I27
              have p162 : jKept σ146 := jKept.fr ((f148 75 (of_decide_eq_true rfl)).trans (f25 75 (of_decide_eq_true rfl))) ((f148 76 (of_decide_eq_true rfl)).trans (f25 76 (of_decide_eq_true rfl))) ((f148 77 (of_decide_eq_true rfl)).trans (f25 77 (of_decide_eq_true rfl))) hs_jKept
              have p163 : jTR σ146 := jTR.fr ((f148 64 (of_decide_eq_true rfl)).trans (f25 64 (of_decide_eq_true rfl))) ((f148 65 (of_decide_eq_true rfl)).trans (f25 65 (of_decide_eq_true rfl))) hs_jTR
              have z164 : (σ146 70 a1.toNatClampNeg).toInt = (σ 70 a1.toNatClampNeg).toInt := by rw [f148 70 (of_decide_eq_true rfl), f25 70 (of_decide_eq_true rfl)]
              have z165 : (σ146 55 6).toInt = (σ 55 6).toInt := (congrArg Int32.toInt (show σ146 55 6 = (σ 55 6) from ((f149 6 (of_decide_eq_true rfl)).trans (f26 6 (of_decide_eq_true rfl)))))
              have z166 : (σ146 55 25).toInt = (σ23 55 25).toInt := (congrArg Int32.toInt (show σ146 55 25 = (σ23 55 25) from (f149 25 (of_decide_eq_true rfl))))
              have z167 : (σ146 55 10).toInt = (σ 55 10).toInt := (congrArg Int32.toInt (show σ146 55 10 = (σ 55 10) from ((f149 10 (of_decide_eq_true rfl)).trans (f26 10 (of_decide_eq_true rfl)))))
              have z168 : (σ146 55 26).toInt = (σ23 55 26).toInt := (congrArg Int32.toInt (show σ146 55 26 = (σ23 55 26) from (f149 26 (of_decide_eq_true rfl))))
              have z169 : (σ146 55 12).toInt = (σ 55 12).toInt := (congrArg Int32.toInt (show σ146 55 12 = (σ 55 12) from ((f149 12 (of_decide_eq_true rfl)).trans (f26 12 (of_decide_eq_true rfl)))))
              exact by
               refine jcallV (As := [.int a1]) (rest := []) ⟨hx, hb, hml, hown, hts⟩ hK hP hA hS hZ (c_X12_putsOn l D cI cL ad zz hJ σ146 τ B139 p154 a1 (A1) t1 I155 I156 I157 I158 I159 I160 I161 p162 p163 p150 (by omega) (by omega) (by omega) (by omega) (by omega)) cw_RX12_321 (jc_55 cI cL ad σ146 τ) rfl ⟨Nat.le_of_ble_eq_true rfl, Nat.le_of_ble_eq_true rfl⟩ rfl rfl rfl hl.1 rfl (Nat.le_of_ble_eq_true rfl) dX12_puts_54 ⟨Nat.zero_le _, Nat.zero_le _⟩ (fun r171 σ170 τ170 H locs h170 hP hS => ?_)
               obtain ⟨rfl, f172, f173, p174, p175, p176, h170⟩ := h170
               have h178 := h170
               obtain ⟨q180, k179⟩ := h178
               have w181 : ∀ k : Nat, k < 4 → 0 ≤ (σ170 68 k).toInt ∧ (σ170 68 k).toInt ≤ 3 := (jrr_fr (f172 68 (of_decide_eq_true rfl)) (jrr_fr (f148 68 (of_decide_eq_true rfl)) w37))
               have I182 : jI119 σ170 := w181
               have p183 : jBook σ170 := jBook.fr ((f173 47 (of_decide_eq_true rfl)).trans (f149 47 (of_decide_eq_true rfl))) ((f173 10 (of_decide_eq_true rfl)).trans (f149 10 (of_decide_eq_true rfl))) ((f172 81 (of_decide_eq_true rfl)).trans (f148 81 (of_decide_eq_true rfl))) p28
               have z184 : (σ170 55 42).toInt = (σ146 55 42).toInt := (congrArg Int32.toInt (show σ170 55 42 = (σ146 55 42) from (f173 42 (of_decide_eq_true rfl))))
               exact by exact hret r171 σ170 τ _ _ _ _ rfl ⟨rfl, (fun i hi => ((f172 i (imp_258 i hi)).trans ((f148 i (imp_259 i hi)).trans (f25 i (imp_256 i hi))))), (fun i hi => ((f173 i (imp_260 i hi)).trans ((f149 i (imp_261 i hi)).trans (f26 i (imp_257 i hi))))), I182, p174, p183, p175, p176, (by omega), (by omega), trivial⟩ hP hS dX12_puts_57
  · obtain ⟨q186, k185⟩ := h19
    have q186 := q186.symm
    subst q186
    refine lv_if_ne (tgt := 10) hx hb dX12_puts_5 (of_decide_eq_true rfl) (fun c => absurd (of_decide_eq_true rfl) c) (fun _ => ?_)
    refine lv_iconst (v := (-1)) hx hb dX12_puts_8 (of_decide_eq_true rfl) ?_
    exact by exact hret (-1) σ τ _ _ _ _ rfl ⟨rfl, (fun _ _ => rfl), (fun _ _ => rfl), hI119, hs_jKept, hs_jBook, hs_jTR, hs_jqSt, (by omega), (by omega), trivial⟩ hP hS dX12_puts_9
set_option maxHeartbeats 4000000 in
set_option maxRecDepth 100000 in
theorem c_X12_mean (l : Launch) (D : va_G) (cI cL : ClassId) (ad zz : Nat → Nat) (hJ : jD ad) (σ : Nat → Nat → Int32) (τ : Nat → Nat → Int64) (a1 : Int32) (A1 : Int) (t1 : a1.toInt = A1) (hI101 : jI101 σ) (hI102 : jI102 σ) (hI103 : jI103 σ) (hI104 : jI104 σ) (hI105 : jI105 σ) (hI106 : jI106 σ) (hI119 : jI119 σ) (hs_jKept : jKept σ) (hs_jTR : jTR σ) (hs_jqSt : jqSt σ) (hp0 : 0 ≤ (σ 55 42).toInt ∧ (σ 55 42).toInt ≤ 999999998) : jM l yX12_mean cX12_mean 2 (some .int) ({ frames := 139, cells := 0, slots := 0, locals := 7209 }) D cI cL ad zz [.ref (ad 55), .int a1] σ τ (fun r σ' τ' => τ = τ' ∧ (∀ i : Nat, (i < 55 ∨ 55 < i) ∧ (i < 66 ∨ 66 < i) ∧ (i < 68 ∨ 69 < i) ∧ (i < 74 ∨ 78 < i) → σ' i = σ i) ∧ (∀ k : Nat, (k < 18 ∨ 18 < k) ∧ (k < 19 ∨ 19 < k) ∧ (k < 20 ∨ 20 < k) ∧ (k < 21 ∨ 21 < k) ∧ (k < 22 ∨ 22 < k) ∧ (k < 25 ∨ 25 < k) ∧ (k < 26 ∨ 26 < k) ∧ (k < 27 ∨ 27 < k) ∧ (k < 37 ∨ 37 < k) ∧ (k < 42 ∨ 42 < k) → σ' 55 k = σ 55 k) ∧ (jI119 σ') ∧ (jKept σ') ∧ (jTR σ') ∧ (jqSt σ') ∧ ((σ 55 42).toInt ≤ (σ' 55 42).toInt) ∧ ((σ' 55 42).toInt ≤ (σ 55 42).toInt + 1) ∧ True) := by
  refine jM.of hJ (by decide +kernel) (nt := .int) rfl (Nat.le_of_ble_eq_true rfl) ?_
  intro p e s m args below meth c Q ls hC hret hl hP
  obtain ⟨hx, hb, hr, hml, hown, hts, hK, -, hlocks, hZ⟩ := hC
  have hown : s.vm.findClass RX12 = some m.cls := hown
  have hS : va_S (jA ad) s.heap s.heap [] := va_S.rf
  have hA : ∀ q, jA ad q → jA ad q := fun _ h => h
  have hl : lv_has ls 2 [(0, .ref (ad 55)), (1, .int a1)] := hl
  have g1 := jrg t1
  obtain ⟨i1, i2, i3, w4, w5⟩ : (1 ≤ (σ 55 10).toInt ∧ (σ 55 10).toInt ≤ 8) ∧ (1 ≤ (σ 55 12).toInt ∧ (σ 55 12).toInt ≤ 12) ∧ (0 ≤ (σ 55 13).toInt ∧ (σ 55 13).toInt ≤ 999) ∧ (∀ k : Nat, k < 8 → 0 ≤ (σ 62 k).toInt ∧ (σ 62 k).toInt ≤ 3) ∧ (∀ k : Nat, k < 8 → 0 ≤ (σ 67 k).toInt ∧ (σ 67 k).toInt ≤ 3) := id hI104
  obtain ⟨i6, w7, w8, w9⟩ : (0 ≤ (σ 55 32).toInt ∧ (σ 55 32).toInt ≤ 20) ∧ (∀ k : Nat, k < 20 → 0 ≤ (σ 70 k).toInt ∧ (σ 70 k).toInt ≤ 6) ∧ (∀ k : Nat, k < 20 → 0 ≤ (σ 71 k).toInt ∧ (σ 71 k).toInt ≤ 8) ∧ (∀ k : Nat, k < 160 → 0 ≤ (σ 72 k).toInt ∧ (σ 72 k).toInt ≤ 3) := id hI106
  refine lv_aload_n hx hb dX12_mean_0 rfl (lv_at hl 0 rfl) ?_
  refine lv_iload_n hx hb dX12_mean_1 rfl (lv_at hl 1 rfl) ?_
  refine jcallV (As := [.int a1]) (rest := []) ⟨hx, hb, hml, hown, hts⟩ hK hP hA hS hZ (c_X12_isRule l D cI cL ad zz hJ σ τ a1 (A1) t1 hI106) cw_RX12_331 (jc_55 cI cL ad σ τ) rfl ⟨Nat.le_of_ble_eq_true rfl, Nat.le_of_ble_eq_true rfl⟩ rfl rfl rfl hl.1 rfl (Nat.le_of_ble_eq_true rfl) dX12_mean_2 ⟨Nat.zero_le _, Nat.zero_le _⟩ (fun r11 σ10 τ10 H locs h10 hP hS => ?_)
  obtain ⟨⟨rfl, rfl⟩, h10⟩ := h10
  rcases h10 with h12 | h13
  · obtain ⟨q15, k14⟩ := h12
    have q15 := q15.symm
    subst q15
    refine lv_if_ne (tgt := 10) hx hb dX12_mean_5 (of_decide_eq_true rfl) (fun _ => ?_) (fun c => absurd c (of_decide_eq_true rfl))
    refine lv_aload_n hx hb dX12_mean_10 rfl (lv_at hl 0 rfl) ?_
    refine va_get (D := D) hx hb hts inlX12 hown hK hP 55 (jc_55 cI cL ad σ τ) rfl 12 (of_decide_eq_true rfl) (hts _ kw_8_16) (fun _ h9 => h9) rfl dX12_mean_11 ?_
    refine lv_bipush (v := 8) hx hb dX12_mean_14 (of_decide_eq_true rfl) ?_
    refine lv_icmp_le (tgt := 22) hx hb dX12_mean_16 (of_decide_eq_true rfl) (fun c16 => ?_) (fun c16 => ?_)
    · have kc16 := jle c16 rfl jz_8
      refine lv_aload_n hx hb dX12_mean_22 rfl (lv_at hl 0 rfl) ?_
      have w17 : ∀ k : Nat, k < 4 → 0 ≤ (σ 68 k).toInt ∧ (σ 68 k).toInt ≤ 3 := hI119
      refine jcallVv (As := []) (rest := []) ⟨hx, hb, hml, hown, hts⟩ hK hP hA hS hZ (c_X12_begin l D cI cL ad zz hJ σ τ hI104 w17) cw_RX12_256 (jc_55 cI cL ad σ τ) rfl ⟨Nat.le_of_ble_eq_true rfl, Nat.le_of_ble_eq_true rfl⟩ rfl rfl rfl hl.1 rfl (Nat.le_of_ble_eq_true rfl) dX12_mean_23 ⟨Nat.zero_le _, Nat.zero_le _⟩ (fun σ18 τ18 H locs h18 hP hS => ?_)
      obtain ⟨rfl, f20, f21, I22, w23, w24, h18⟩ := h18
      obtain ⟨i26, i27, i28, i29, i30, w31⟩ : (0 ≤ (σ18 55 25).toInt) ∧ ((σ18 55 25).toInt ≤ (σ18 55 10).toInt) ∧ (0 ≤ (σ18 55 26).toInt) ∧ ((σ18 55 26).toInt ≤ (σ18 55 12).toInt) ∧ ((-1) ≤ (σ18 55 27).toInt ∧ (σ18 55 27).toInt ≤ 3) ∧ (∀ k : Nat, k < 4 → 0 ≤ (σ18 68 k).toInt ∧ (σ18 68 k).toInt ≤ 3) := id I22
      have z32 : (σ18 55 10).toInt = (σ 55 10).toInt := (congrArg Int32.toInt (show σ18 55 10 = (σ 55 10) from (f21 10 (of_decide_eq_true rfl))))
      have z33 : (σ18 55 12).toInt = (σ 55 12).toInt := (congrArg Int32.toInt (show σ18 55 12 = (σ 55 12) from (f21 12 (of_decide_eq_true rfl))))
      obtain ⟨k34, k35, k36, h18⟩ := h18
      refine lv_aload_n hx hb dX12_mean_26 rfl (lv_at hl 0 rfl) ?_
      have p37 : jqSt σ18 := jqSt.fr (f20 78 (of_decide_eq_true rfl)) (f21 42 (of_decide_eq_true rfl)) hs_jqSt
      have z38 : (σ18 55 42).toInt = (σ 55 42).toInt := (congrArg Int32.toInt (show σ18 55 42 = (σ 55 42) from (f21 42 (of_decide_eq_true rfl))))
      exact by
       refine jcallVv (As := []) (rest := []) ⟨hx, hb, hml, hown, hts⟩ hK hP hA hS hZ (c_X12_forgets l D cI cL ad zz hJ σ18 τ p37 (by omega)) cw_RX12_341 (jc_55 cI cL ad σ18 τ) rfl ⟨Nat.le_of_ble_eq_true rfl, Nat.le_of_ble_eq_true rfl⟩ rfl rfl rfl hl.1 rfl (Nat.le_of_ble_eq_true rfl) dX12_mean_27 ⟨Nat.zero_le _, Nat.zero_le _⟩ (fun σ39 τ39 H locs h39 hP hS => ?_)
       obtain ⟨rfl, f41, f42, p43, w44, h39⟩ := h39
       obtain ⟨k46, h39⟩ := h39
       refine lv_aload_n hx hb dX12_mean_30 rfl (lv_at hl 0 rfl) ?_
       refine lv_iload_n hx hb dX12_mean_31 rfl (lv_at hl 1 rfl) ?_
       have I47 : jI101 σ39 := jI101_fr ((f42 4 (of_decide_eq_true rfl)).trans (f21 4 (of_decide_eq_true rfl))) ((f42 5 (of_decide_eq_true rfl)).trans (f21 5 (of_decide_eq_true rfl))) ((f41 56 (of_decide_eq_true rfl)).trans (f20 56 (of_decide_eq_true rfl))) ((f41 57 (of_decide_eq_true rfl)).trans (f20 57 (of_decide_eq_true rfl))) ((f41 58 (of_decide_eq_true rfl)).trans (f20 58 (of_decide_eq_true rfl))) ((f41 59 (of_decide_eq_true rfl)).trans (f20 59 (of_decide_eq_true rfl))) hI101
       have I48 : jI102 σ39 := jI102_fr ((f42 6 (of_decide_eq_true rfl)).trans (f21 6 (of_decide_eq_true rfl))) ((f41 60 (of_decide_eq_true rfl)).trans (f20 60 (of_decide_eq_true rfl))) ((f41 61 (of_decide_eq_true rfl)).trans (f20 61 (of_decide_eq_true rfl))) hI102
       have I49 : jI103 σ39 := jI103_fr ((f42 9 (of_decide_eq_true rfl)).trans (f21 9 (of_decide_eq_true rfl))) hI103
       have I50 : jI104 σ39 := jI104_fr ((f42 10 (of_decide_eq_true rfl)).trans (f21 10 (of_decide_eq_true rfl))) ((f42 12 (of_decide_eq_true rfl)).trans (f21 12 (of_decide_eq_true rfl))) ((f42 13 (of_decide_eq_true rfl)).trans (f21 13 (of_decide_eq_true rfl))) ((f41 62 (of_decide_eq_true rfl)).trans (f20 62 (of_decide_eq_true rfl))) ((f41 67 (of_decide_eq_true rfl)).trans (f20 67 (of_decide_eq_true rfl))) hI104
       have I51 : jI105 σ39 := jI105_fr ((f42 15 (of_decide_eq_true rfl)).trans (f21 15 (of_decide_eq_true rfl))) ((f41 65 (of_decide_eq_true rfl)).trans (f20 65 (of_decide_eq_true rfl))) hI105
       have I52 : jI106 σ39 := jI106_fr ((f42 32 (of_decide_eq_true rfl)).trans (f21 32 (of_decide_eq_true rfl))) ((f41 70 (of_decide_eq_true rfl)).trans (f20 70 (of_decide_eq_true rfl))) ((f41 71 (of_decide_eq_true rfl)).trans (f20 71 (of_decide_eq_true rfl))) ((f41 72 (of_decide_eq_true rfl)).trans (f20 72 (of_decide_eq_true rfl))) hI106
       have I53 : jI120 σ39 := jI120_fr (f42 10 (of_decide_eq_true rfl)) (f42 12 (of_decide_eq_true rfl)) (f42 25 (of_decide_eq_true rfl)) (f42 26 (of_decide_eq_true rfl)) (f42 27 (of_decide_eq_true rfl)) (f41 68 (of_decide_eq_true rfl)) I22
       have p54 : jKept σ39 := jKept.fr ((f41 75 (of_decide_eq_true rfl)).trans (f20 75 (of_decide_eq_true rfl))) ((f41 76 (of_decide_eq_true rfl)).trans (f20 76 (of_decide_eq_true rfl))) ((f41 77 (of_decide_eq_true rfl)).trans (f20 77 (of_decide_eq_true rfl))) hs_jKept
       have p55 : jTR σ39 := jTR.fr ((f41 64 (of_decide_eq_true rfl)).trans (f20 64 (of_decide_eq_true rfl))) ((f41 65 (of_decide_eq_true rfl)).trans (f20 65 (of_decide_eq_true rfl))) hs_jTR
       have z56 : (σ39 55 12).toInt = (σ 55 12).toInt := (congrArg Int32.toInt (show σ39 55 12 = (σ 55 12) from ((f42 12 (of_decide_eq_true rfl)).trans (f21 12 (of_decide_eq_true rfl)))))
       have z57 : (σ39 55 26).toInt = (σ18 55 26).toInt := (congrArg Int32.toInt (show σ39 55 26 = (σ18 55 26) from (f42 26 (of_decide_eq_true rfl))))
       exact by
        refine jcallV (As := [.int a1]) (rest := []) ⟨hx, hb, hml, hown, hts⟩ hK hP hA hS hZ ((c_X12_means l D cI cL ad zz hJ 8) σ39 τ a1 (A1) t1 I47 I48 I49 I50 I51 I52 I53 p54 p55 p43 (by omega) (by omega) (by omega)) cw_RX12_324 (jc_55 cI cL ad σ39 τ) rfl ⟨Nat.le_of_ble_eq_true rfl, Nat.le_of_ble_eq_true rfl⟩ rfl rfl rfl hl.1 rfl (Nat.le_of_ble_eq_true rfl) dX12_mean_32 ⟨Nat.zero_le _, Nat.zero_le _⟩ (fun r59 σ58 τ58 H locs h58 hP hS => ?_)
        obtain ⟨rfl, f60, f61, p62, p63, p64, h58⟩ := h58
        have w66 : ∀ k : Nat, k < 4 → 0 ≤ (σ58 68 k).toInt ∧ (σ58 68 k).toInt ≤ 3 := (jrr_fr (f60 68 (of_decide_eq_true rfl)) (jrr_fr (f41 68 (of_decide_eq_true rfl)) w31))
        have I67 : jI119 σ58 := w66
        have z68 : (σ58 55 42).toInt = (σ39 55 42).toInt := (congrArg Int32.toInt (show σ58 55 42 = (σ39 55 42) from (f61 42 (of_decide_eq_true rfl))))
        exact by exact hret r59 σ58 τ _ _ _ _ rfl ⟨rfl, (fun i hi => ((f60 i (imp_258 i hi)).trans ((f41 i (imp_259 i hi)).trans (f20 i (imp_256 i hi))))), (fun i hi => ((f61 i (imp_260 i hi)).trans ((f42 i (imp_261 i hi)).trans (f21 i (imp_257 i hi))))), I67, p62, p63, p64, (by omega), (by omega), trivial⟩ hP hS dX12_mean_35
    · have kc16 := jnle c16 rfl jz_8
      refine lv_bipush (v := (-4)) hx hb dX12_mean_19 (of_decide_eq_true rfl) ?_
      exact by exact hret (-4) σ τ _ _ _ _ rfl ⟨rfl, (fun _ _ => rfl), (fun _ _ => rfl), hI119, hs_jKept, hs_jTR, hs_jqSt, (by omega), (by omega), trivial⟩ hP hS dX12_mean_21
  · obtain ⟨q70, k69⟩ := h13
    have q70 := q70.symm
    subst q70
    refine lv_if_ne (tgt := 10) hx hb dX12_mean_5 (of_decide_eq_true rfl) (fun c => absurd (of_decide_eq_true rfl) c) (fun _ => ?_)
    refine lv_iconst (v := (-1)) hx hb dX12_mean_8 (of_decide_eq_true rfl) ?_
    exact by exact hret (-1) σ τ _ _ _ _ rfl ⟨rfl, (fun _ _ => rfl), (fun _ _ => rfl), hI119, hs_jKept, hs_jTR, hs_jqSt, (by omega), (by omega), trivial⟩ hP hS dX12_mean_9
set_option maxHeartbeats 4000000 in
set_option maxRecDepth 100000 in
theorem c_X12_likely (l : Launch) (D : va_G) (cI cL : ClassId) (ad zz : Nat → Nat) (hJ : jD ad) (σ : Nat → Nat → Int32) (τ : Nat → Nat → Int64) (a1 : Int32) (A1 : Int) (t1 : a1.toInt = A1) (a2 : Int32) (A2 : Int) (t2 : a2.toInt = A2) (hI101 : jI101 σ) (hI102 : jI102 σ) (hI103 : jI103 σ) (hI104 : jI104 σ) (hI105 : jI105 σ) (hI106 : jI106 σ) (hI119 : jI119 σ) (hs_jKept : jKept σ) (hs_jTR : jTR σ) (hs_jqSt : jqSt σ) (hp0 : 0 ≤ (σ 55 42).toInt ∧ (σ 55 42).toInt ≤ 999999998) : jM l yX12_likely cX12_likely 3 (some .int) ({ frames := 139, cells := 0, slots := 0, locals := 7210 }) D cI cL ad zz [.ref (ad 55), .int a1, .int a2] σ τ (fun r σ' τ' => τ = τ' ∧ (∀ i : Nat, (i < 55 ∨ 55 < i) ∧ (i < 66 ∨ 66 < i) ∧ (i < 68 ∨ 69 < i) ∧ (i < 74 ∨ 78 < i) → σ' i = σ i) ∧ (∀ k : Nat, (k < 18 ∨ 18 < k) ∧ (k < 19 ∨ 19 < k) ∧ (k < 20 ∨ 20 < k) ∧ (k < 21 ∨ 21 < k) ∧ (k < 22 ∨ 22 < k) ∧ (k < 25 ∨ 25 < k) ∧ (k < 26 ∨ 26 < k) ∧ (k < 27 ∨ 27 < k) ∧ (k < 37 ∨ 37 < k) ∧ (k < 42 ∨ 42 < k) → σ' 55 k = σ 55 k) ∧ (jI119 σ') ∧ (jKept σ') ∧ (jTR σ') ∧ (jqSt σ') ∧ ((σ 55 42).toInt ≤ (σ' 55 42).toInt) ∧ ((σ' 55 42).toInt ≤ (σ 55 42).toInt + 1) ∧ True) := by
  refine jM.of hJ (by decide +kernel) (nt := .int) rfl (Nat.le_of_ble_eq_true rfl) ?_
  intro p e s m args below meth c Q ls hC hret hl hP
  obtain ⟨hx, hb, hr, hml, hown, hts, hK, -, hlocks, hZ⟩ := hC
  have hown : s.vm.findClass RX12 = some m.cls := hown
  have hS : va_S (jA ad) s.heap s.heap [] := va_S.rf
  have hA : ∀ q, jA ad q → jA ad q := fun _ h => h
  have hl : lv_has ls 3 [(0, .ref (ad 55)), (1, .int a1), (2, .int a2)] := hl
  have g1 := jrg t1
  have g2 := jrg t2
  obtain ⟨i1, i2, i3, w4, w5⟩ : (1 ≤ (σ 55 10).toInt ∧ (σ 55 10).toInt ≤ 8) ∧ (1 ≤ (σ 55 12).toInt ∧ (σ 55 12).toInt ≤ 12) ∧ (0 ≤ (σ 55 13).toInt ∧ (σ 55 13).toInt ≤ 999) ∧ (∀ k : Nat, k < 8 → 0 ≤ (σ 62 k).toInt ∧ (σ 62 k).toInt ≤ 3) ∧ (∀ k : Nat, k < 8 → 0 ≤ (σ 67 k).toInt ∧ (σ 67 k).toInt ≤ 3) := id hI104
  obtain ⟨i6, w7, w8, w9⟩ : (0 ≤ (σ 55 32).toInt ∧ (σ 55 32).toInt ≤ 20) ∧ (∀ k : Nat, k < 20 → 0 ≤ (σ 70 k).toInt ∧ (σ 70 k).toInt ≤ 6) ∧ (∀ k : Nat, k < 20 → 0 ≤ (σ 71 k).toInt ∧ (σ 71 k).toInt ≤ 8) ∧ (∀ k : Nat, k < 160 → 0 ≤ (σ 72 k).toInt ∧ (σ 72 k).toInt ≤ 3) := id hI106
  refine lv_aload_n hx hb dX12_likely_0 rfl (lv_at hl 0 rfl) ?_
  refine lv_iload_n hx hb dX12_likely_1 rfl (lv_at hl 1 rfl) ?_
  refine jcallV (As := [.int a1]) (rest := []) ⟨hx, hb, hml, hown, hts⟩ hK hP hA hS hZ (c_X12_isRule l D cI cL ad zz hJ σ τ a1 (A1) t1 hI106) cw_RX12_331 (jc_55 cI cL ad σ τ) rfl ⟨Nat.le_of_ble_eq_true rfl, Nat.le_of_ble_eq_true rfl⟩ rfl rfl rfl hl.1 rfl (Nat.le_of_ble_eq_true rfl) dX12_likely_2 ⟨Nat.zero_le _, Nat.zero_le _⟩ (fun r11 σ10 τ10 H locs h10 hP hS => ?_)
  obtain ⟨⟨rfl, rfl⟩, h10⟩ := h10
  rcases h10 with h12 | h13
  · obtain ⟨q15, k14⟩ := h12
    have q15 := q15.symm
    subst q15
    refine lv_if_eq (tgt := 20) hx hb dX12_likely_5 (of_decide_eq_true rfl) (fun c => absurd c (of_decide_eq_true rfl)) (fun _ => ?_)
    refine lv_iload_n hx hb dX12_likely_8 rfl (lv_at hl 2 rfl) ?_
    refine lv_i2l (v := a2.toInt64) hx hb dX12_likely_9 rfl ?_
    refine lv_lconst (v := 0) hx hb dX12_likely_10 (of_decide_eq_true rfl) ?_
    refine lv_ldc2 (v := 999) hx hb hown (hts _ kw_37_8) dX12_likely_11 ?_
    refine jcallS (As := [.long a2.toInt64, .long 0, .long 999]) (rest := []) ⟨hx, hb, hml, hown, hts⟩ hK hP hA hS hZ (c_X12_within l D cI cL ad zz hJ σ τ a2.toInt64 (A2) (jtoL t2) 0 (0) jzl_0 999 (999) jzl_999) cw_RX12_136 ⟨Nat.le_of_ble_eq_true rfl, Nat.le_of_ble_eq_true rfl⟩ rfl rfl rfl hl.1 rfl (Nat.le_of_ble_eq_true rfl) dX12_likely_14 ⟨Nat.zero_le _, Nat.zero_le _⟩ (fun r17 σ16 τ16 H locs h16 hP hS => ?_)
    obtain ⟨⟨rfl, rfl⟩, h16⟩ := h16
    rcases h16 with h18 | h19
    · obtain ⟨q21, k20⟩ := h18
      have q21 := q21.symm
      subst q21
      refine lv_if_ne (tgt := 22) hx hb dX12_likely_17 (of_decide_eq_true rfl) (fun _ => ?_) (fun c => absurd c (of_decide_eq_true rfl))
      refine lv_aload_n hx hb dX12_likely_22 rfl (lv_at hl 0 rfl) ?_
      refine va_get (D := D) hx hb hts inlX12 hown hK hP 55 (jc_55 cI cL ad σ τ) rfl 12 (of_decide_eq_true rfl) (hts _ kw_8_16) (fun _ h9 => h9) rfl dX12_likely_23 ?_
      refine lv_bipush (v := 8) hx hb dX12_likely_26 (of_decide_eq_true rfl) ?_
      refine lv_icmp_le (tgt := 34) hx hb dX12_likely_28 (of_decide_eq_true rfl) (fun c22 => ?_) (fun c22 => ?_)
      · have kc22 := jle c22 rfl jz_8
        refine lv_aload_n hx hb dX12_likely_34 rfl (lv_at hl 0 rfl) ?_
        have w23 : ∀ k : Nat, k < 4 → 0 ≤ (σ 68 k).toInt ∧ (σ 68 k).toInt ≤ 3 := hI119
        refine jcallVv (As := []) (rest := []) ⟨hx, hb, hml, hown, hts⟩ hK hP hA hS hZ (c_X12_begin l D cI cL ad zz hJ σ τ hI104 w23) cw_RX12_256 (jc_55 cI cL ad σ τ) rfl ⟨Nat.le_of_ble_eq_true rfl, Nat.le_of_ble_eq_true rfl⟩ rfl rfl rfl hl.1 rfl (Nat.le_of_ble_eq_true rfl) dX12_likely_35 ⟨Nat.zero_le _, Nat.zero_le _⟩ (fun σ24 τ24 H locs h24 hP hS => ?_)
        obtain ⟨rfl, f26, f27, I28, w29, w30, h24⟩ := h24
        obtain ⟨i32, i33, i34, i35, i36, w37⟩ : (0 ≤ (σ24 55 25).toInt) ∧ ((σ24 55 25).toInt ≤ (σ24 55 10).toInt) ∧ (0 ≤ (σ24 55 26).toInt) ∧ ((σ24 55 26).toInt ≤ (σ24 55 12).toInt) ∧ ((-1) ≤ (σ24 55 27).toInt ∧ (σ24 55 27).toInt ≤ 3) ∧ (∀ k : Nat, k < 4 → 0 ≤ (σ24 68 k).toInt ∧ (σ24 68 k).toInt ≤ 3) := id I28
        have z38 : (σ24 55 10).toInt = (σ 55 10).toInt := (congrArg Int32.toInt (show σ24 55 10 = (σ 55 10) from (f27 10 (of_decide_eq_true rfl))))
        have z39 : (σ24 55 12).toInt = (σ 55 12).toInt := (congrArg Int32.toInt (show σ24 55 12 = (σ 55 12) from (f27 12 (of_decide_eq_true rfl))))
        obtain ⟨k40, k41, k42, h24⟩ := h24
        refine lv_aload_n hx hb dX12_likely_38 rfl (lv_at hl 0 rfl) ?_
        have p43 : jqSt σ24 := jqSt.fr (f26 78 (of_decide_eq_true rfl)) (f27 42 (of_decide_eq_true rfl)) hs_jqSt
        have z44 : (σ24 55 42).toInt = (σ 55 42).toInt := (congrArg Int32.toInt (show σ24 55 42 = (σ 55 42) from (f27 42 (of_decide_eq_true rfl))))
        exact by
         refine jcallVv (As := []) (rest := []) ⟨hx, hb, hml, hown, hts⟩ hK hP hA hS hZ (c_X12_forgets l D cI cL ad zz hJ σ24 τ p43 (by omega)) cw_RX12_341 (jc_55 cI cL ad σ24 τ) rfl ⟨Nat.le_of_ble_eq_true rfl, Nat.le_of_ble_eq_true rfl⟩ rfl rfl rfl hl.1 rfl (Nat.le_of_ble_eq_true rfl) dX12_likely_39 ⟨Nat.zero_le _, Nat.zero_le _⟩ (fun σ45 τ45 H locs h45 hP hS => ?_)
         obtain ⟨rfl, f47, f48, p49, w50, h45⟩ := h45
         obtain ⟨k52, h45⟩ := h45
         refine lv_aload_n hx hb dX12_likely_42 rfl (lv_at hl 0 rfl) ?_
         refine lv_iload_n hx hb dX12_likely_43 rfl (lv_at hl 1 rfl) ?_
         refine lv_iload_n hx hb dX12_likely_44 rfl (lv_at hl 2 rfl) ?_
         have I53 : jI101 σ45 := jI101_fr ((f48 4 (of_decide_eq_true rfl)).trans (f27 4 (of_decide_eq_true rfl))) ((f48 5 (of_decide_eq_true rfl)).trans (f27 5 (of_decide_eq_true rfl))) ((f47 56 (of_decide_eq_true rfl)).trans (f26 56 (of_decide_eq_true rfl))) ((f47 57 (of_decide_eq_true rfl)).trans (f26 57 (of_decide_eq_true rfl))) ((f47 58 (of_decide_eq_true rfl)).trans (f26 58 (of_decide_eq_true rfl))) ((f47 59 (of_decide_eq_true rfl)).trans (f26 59 (of_decide_eq_true rfl))) hI101
         have I54 : jI102 σ45 := jI102_fr ((f48 6 (of_decide_eq_true rfl)).trans (f27 6 (of_decide_eq_true rfl))) ((f47 60 (of_decide_eq_true rfl)).trans (f26 60 (of_decide_eq_true rfl))) ((f47 61 (of_decide_eq_true rfl)).trans (f26 61 (of_decide_eq_true rfl))) hI102
         have I55 : jI103 σ45 := jI103_fr ((f48 9 (of_decide_eq_true rfl)).trans (f27 9 (of_decide_eq_true rfl))) hI103
         have I56 : jI104 σ45 := jI104_fr ((f48 10 (of_decide_eq_true rfl)).trans (f27 10 (of_decide_eq_true rfl))) ((f48 12 (of_decide_eq_true rfl)).trans (f27 12 (of_decide_eq_true rfl))) ((f48 13 (of_decide_eq_true rfl)).trans (f27 13 (of_decide_eq_true rfl))) ((f47 62 (of_decide_eq_true rfl)).trans (f26 62 (of_decide_eq_true rfl))) ((f47 67 (of_decide_eq_true rfl)).trans (f26 67 (of_decide_eq_true rfl))) hI104
         have I57 : jI105 σ45 := jI105_fr ((f48 15 (of_decide_eq_true rfl)).trans (f27 15 (of_decide_eq_true rfl))) ((f47 65 (of_decide_eq_true rfl)).trans (f26 65 (of_decide_eq_true rfl))) hI105
         have I58 : jI106 σ45 := jI106_fr ((f48 32 (of_decide_eq_true rfl)).trans (f27 32 (of_decide_eq_true rfl))) ((f47 70 (of_decide_eq_true rfl)).trans (f26 70 (of_decide_eq_true rfl))) ((f47 71 (of_decide_eq_true rfl)).trans (f26 71 (of_decide_eq_true rfl))) ((f47 72 (of_decide_eq_true rfl)).trans (f26 72 (of_decide_eq_true rfl))) hI106
         have I59 : jI120 σ45 := jI120_fr (f48 10 (of_decide_eq_true rfl)) (f48 12 (of_decide_eq_true rfl)) (f48 25 (of_decide_eq_true rfl)) (f48 26 (of_decide_eq_true rfl)) (f48 27 (of_decide_eq_true rfl)) (f47 68 (of_decide_eq_true rfl)) I28
         have p60 : jKept σ45 := jKept.fr ((f47 75 (of_decide_eq_true rfl)).trans (f26 75 (of_decide_eq_true rfl))) ((f47 76 (of_decide_eq_true rfl)).trans (f26 76 (of_decide_eq_true rfl))) ((f47 77 (of_decide_eq_true rfl)).trans (f26 77 (of_decide_eq_true rfl))) hs_jKept
         have p61 : jTR σ45 := jTR.fr ((f47 64 (of_decide_eq_true rfl)).trans (f26 64 (of_decide_eq_true rfl))) ((f47 65 (of_decide_eq_true rfl)).trans (f26 65 (of_decide_eq_true rfl))) hs_jTR
         have z62 : (σ45 55 12).toInt = (σ 55 12).toInt := (congrArg Int32.toInt (show σ45 55 12 = (σ 55 12) from ((f48 12 (of_decide_eq_true rfl)).trans (f27 12 (of_decide_eq_true rfl)))))
         have z63 : (σ45 55 26).toInt = (σ24 55 26).toInt := (congrArg Int32.toInt (show σ45 55 26 = (σ24 55 26) from (f48 26 (of_decide_eq_true rfl))))
         exact by
          refine jcallV (As := [.int a1, .int a2]) (rest := []) ⟨hx, hb, hml, hown, hts⟩ hK hP hA hS hZ ((c_X12_likelies l D cI cL ad zz hJ 8) σ45 τ a1 (A1) t1 a2 (A2) t2 I53 I54 I55 I56 I57 I58 I59 p60 p61 p49 (by omega) (by omega) (by omega)) cw_RX12_328 (jc_55 cI cL ad σ45 τ) rfl ⟨Nat.le_of_ble_eq_true rfl, Nat.le_of_ble_eq_true rfl⟩ rfl rfl rfl hl.1 rfl (Nat.le_of_ble_eq_true rfl) dX12_likely_45 ⟨Nat.zero_le _, Nat.zero_le _⟩ (fun r65 σ64 τ64 H locs h64 hP hS => ?_)
          obtain ⟨rfl, f66, f67, p68, p69, p70, h64⟩ := h64
          have w72 : ∀ k : Nat, k < 4 → 0 ≤ (σ64 68 k).toInt ∧ (σ64 68 k).toInt ≤ 3 := (jrr_fr (f66 68 (of_decide_eq_true rfl)) (jrr_fr (f47 68 (of_decide_eq_true rfl)) w37))
          have I73 : jI119 σ64 := w72
          have z74 : (σ64 55 42).toInt = (σ45 55 42).toInt := (congrArg Int32.toInt (show σ64 55 42 = (σ45 55 42) from (f67 42 (of_decide_eq_true rfl))))
          exact by exact hret r65 σ64 τ _ _ _ _ rfl ⟨rfl, (fun i hi => ((f66 i (imp_258 i hi)).trans ((f47 i (imp_259 i hi)).trans (f26 i (imp_256 i hi))))), (fun i hi => ((f67 i (imp_260 i hi)).trans ((f48 i (imp_261 i hi)).trans (f27 i (imp_257 i hi))))), I73, p68, p69, p70, (by omega), (by omega), trivial⟩ hP hS dX12_likely_48
      · have kc22 := jnle c22 rfl jz_8
        refine lv_bipush (v := (-4)) hx hb dX12_likely_31 (of_decide_eq_true rfl) ?_
        exact by exact hret (-4) σ τ _ _ _ _ rfl ⟨rfl, (fun _ _ => rfl), (fun _ _ => rfl), hI119, hs_jKept, hs_jTR, hs_jqSt, (by omega), (by omega), trivial⟩ hP hS dX12_likely_33
    · obtain ⟨q76, k75⟩ := h19
      have q76 := q76.symm
      subst q76
      refine lv_if_ne (tgt := 22) hx hb dX12_likely_17 (of_decide_eq_true rfl) (fun c => absurd (of_decide_eq_true rfl) c) (fun _ => ?_)
      refine lv_iconst (v := (-1)) hx hb dX12_likely_20 (of_decide_eq_true rfl) ?_
      exact by exact hret (-1) σ τ _ _ _ _ rfl ⟨rfl, (fun _ _ => rfl), (fun _ _ => rfl), hI119, hs_jKept, hs_jTR, hs_jqSt, (by omega), (by omega), trivial⟩ hP hS dX12_likely_21
  · obtain ⟨q78, k77⟩ := h13
    have q78 := q78.symm
    subst q78
    refine lv_if_eq (tgt := 20) hx hb dX12_likely_5 (of_decide_eq_true rfl) (fun _ => ?_) (fun c => absurd (of_decide_eq_true rfl) c)
    refine lv_iconst (v := (-1)) hx hb dX12_likely_20 (of_decide_eq_true rfl) ?_
    exact by exact hret (-1) σ τ _ _ _ _ rfl ⟨rfl, (fun _ _ => rfl), (fun _ _ => rfl), hI119, hs_jKept, hs_jTR, hs_jqSt, (by omega), (by omega), trivial⟩ hP hS dX12_likely_21
set_option maxHeartbeats 4000000 in
set_option maxRecDepth 100000 in
theorem c_X12_best (l : Launch) (D : va_G) (cI cL : ClassId) (ad zz : Nat → Nat) (hJ : jD ad) (σ : Nat → Nat → Int32) (τ : Nat → Nat → Int64) (a1 : Int32) (A1 : Int) (t1 : a1.toInt = A1) (hI101 : jI101 σ) (hI102 : jI102 σ) (hI103 : jI103 σ) (hI104 : jI104 σ) (hI105 : jI105 σ) (hI106 : jI106 σ) (hI107 : jI107 σ) (hI119 : jI119 σ) (hs_jKept : jKept σ) (hs_jBook : jBook σ) (hs_jTR : jTR σ) (hs_jqSt : jqSt σ) (hp0 : 0 ≤ (σ 55 42).toInt ∧ (σ 55 42).toInt ≤ 999999998) : jM l yX12_best cX12_best 3 (some .int) ({ frames := 103, cells := 0, slots := 0, locals := 5061 }) D cI cL ad zz [.ref (ad 55), .int a1] σ τ (fun r σ' τ' => τ = τ' ∧ (∀ i : Nat, (i < 55 ∨ 55 < i) ∧ (i < 66 ∨ 66 < i) ∧ (i < 68 ∨ 69 < i) ∧ (i < 74 ∨ 78 < i) → σ' i = σ i) ∧ (∀ k : Nat, (k < 18 ∨ 18 < k) ∧ (k < 19 ∨ 19 < k) ∧ (k < 20 ∨ 20 < k) ∧ (k < 21 ∨ 21 < k) ∧ (k < 22 ∨ 22 < k) ∧ (k < 25 ∨ 25 < k) ∧ (k < 26 ∨ 26 < k) ∧ (k < 27 ∨ 27 < k) ∧ (k < 37 ∨ 37 < k) ∧ (k < 42 ∨ 42 < k) → σ' 55 k = σ 55 k) ∧ (jI119 σ') ∧ (jKept σ') ∧ (jBook σ') ∧ (jTR σ') ∧ (jqSt σ') ∧ (((σ 55 30).toInt = -1 → (σ 55 31).toInt = -1 → jOk (σ 56) → jqbN (σ 80) (σ 55 47).toInt → jqBe (r : Int32).toInt (A1) ((σ 55 12).toInt - (σ 55 47).toInt) (jrBv σ))) ∧ ((σ 55 42).toInt ≤ (σ' 55 42).toInt) ∧ ((σ' 55 42).toInt ≤ (σ 55 42).toInt + 1) ∧ True) := by
  refine jM.of hJ (by decide +kernel) (nt := .int) rfl (Nat.le_of_ble_eq_true rfl) ?_
  intro p e s m args below meth c Q ls hC hret hl hP
  obtain ⟨hx, hb, hr, hml, hown, hts, hK, -, hlocks, hZ⟩ := hC
  have hown : s.vm.findClass RX12 = some m.cls := hown
  have hS : va_S (jA ad) s.heap s.heap [] := va_S.rf
  have hA : ∀ q, jA ad q → jA ad q := fun _ h => h
  have hl : lv_has ls 3 [(0, .ref (ad 55)), (1, .int a1)] := hl
  have g1 := jrg t1
  obtain ⟨i1, w2, w3⟩ : (0 ≤ (σ 55 6).toInt ∧ (σ 55 6).toInt ≤ 4) ∧ (∀ k : Nat, k < 4 → 0 ≤ (σ 60 k).toInt ∧ (σ 60 k).toInt ≤ 50) ∧ (∀ k : Nat, k < 4 → 0 ≤ (σ 61 k).toInt ∧ (σ 61 k).toInt ≤ 20) := id hI102
  obtain ⟨i4, i5, i6, w7, w8⟩ : (1 ≤ (σ 55 10).toInt ∧ (σ 55 10).toInt ≤ 8) ∧ (1 ≤ (σ 55 12).toInt ∧ (σ 55 12).toInt ≤ 12) ∧ (0 ≤ (σ 55 13).toInt ∧ (σ 55 13).toInt ≤ 999) ∧ (∀ k : Nat, k < 8 → 0 ≤ (σ 62 k).toInt ∧ (σ 62 k).toInt ≤ 3) ∧ (∀ k : Nat, k < 8 → 0 ≤ (σ 67 k).toInt ∧ (σ 67 k).toInt ≤ 3) := id hI104
  obtain ⟨i9, i10, w11⟩ : (0 ≤ (σ 55 47).toInt ∧ (σ 55 47).toInt ≤ 12) ∧ ((σ 55 47).toInt ≤ (σ 55 12).toInt) ∧ (∀ k : Nat, k < 12 → 0 ≤ (σ 80 k).toInt ∧ (σ 80 k).toInt ≤ 3) := id hI107
  refine lv_iload_n hx hb dX12_best_0 rfl (lv_at hl 1 rfl) ?_
  refine lv_i2l (v := a1.toInt64) hx hb dX12_best_1 rfl ?_
  refine lv_lconst (v := 0) hx hb dX12_best_2 (of_decide_eq_true rfl) ?_
  refine lv_lconst (v := 1) hx hb dX12_best_3 (of_decide_eq_true rfl) ?_
  refine jcallS (As := [.long a1.toInt64, .long 0, .long 1]) (rest := []) ⟨hx, hb, hml, hown, hts⟩ hK hP hA hS hZ (c_X12_within l D cI cL ad zz hJ σ τ a1.toInt64 (A1) (jtoL t1) 0 (0) jzl_0 1 (1) jzl_1) cw_RX12_136 ⟨Nat.le_of_ble_eq_true rfl, Nat.le_of_ble_eq_true rfl⟩ rfl rfl rfl hl.1 rfl (Nat.le_of_ble_eq_true rfl) dX12_best_4 ⟨Nat.zero_le _, Nat.zero_le _⟩ (fun r13 σ12 τ12 H locs h12 hP hS => ?_)
  obtain ⟨⟨rfl, rfl⟩, h12⟩ := h12
  rcases h12 with h14 | h15
  · obtain ⟨q17, k16⟩ := h14
    have q17 := q17.symm
    subst q17
    refine lv_if_ne (tgt := 12) hx hb dX12_best_7 (of_decide_eq_true rfl) (fun _ => ?_) (fun c => absurd c (of_decide_eq_true rfl))
    refine lv_aload_n hx hb dX12_best_12 rfl (lv_at hl 0 rfl) ?_
    refine lv_aload_n hx hb dX12_best_13 rfl (lv_at hl 0 rfl) ?_
    refine va_get (D := D) hx hb hts inlX12 hown hK hP 55 (jc_55 cI cL ad σ τ) rfl 47 (of_decide_eq_true rfl) (hts _ kw_15_15) (fun _ h9 => h9) rfl dX12_best_14 ?_
    have w18 : ∀ k : Nat, k < 4 → 0 ≤ (σ 68 k).toInt ∧ (σ 68 k).toInt ≤ 3 := hI119
    exact by
     refine jcallVv (As := [.int (σ 55 47)]) (rest := []) ⟨hx, hb, hml, hown, hts⟩ hK hP hA hS hZ (c_X12_goThroughBook l D cI cL ad zz hJ σ τ (σ 55 47) ((σ 55 47).toInt) rfl hI102 hI104 hI107 w18 hs_jBook (by omega) (by omega)) cw_RX12_334 (jc_55 cI cL ad σ τ) rfl ⟨Nat.le_of_ble_eq_true rfl, Nat.le_of_ble_eq_true rfl⟩ rfl rfl rfl hl.1 rfl (Nat.le_of_ble_eq_true rfl) dX12_best_17 ⟨Nat.zero_le _, Nat.zero_le _⟩ (fun σ19 τ19 H locs h19 hP hS => ?_)
     obtain ⟨rfl, f21, f22, I23, p24, w25, w26, h19⟩ := h19
     obtain ⟨i28, i29, i30, i31, i32, w33⟩ : (0 ≤ (σ19 55 25).toInt) ∧ ((σ19 55 25).toInt ≤ (σ19 55 10).toInt) ∧ (0 ≤ (σ19 55 26).toInt) ∧ ((σ19 55 26).toInt ≤ (σ19 55 12).toInt) ∧ ((-1) ≤ (σ19 55 27).toInt ∧ (σ19 55 27).toInt ≤ 3) ∧ (∀ k : Nat, k < 4 → 0 ≤ (σ19 68 k).toInt ∧ (σ19 68 k).toInt ≤ 3) := id I23
     have z34 : (σ19 55 10).toInt = (σ 55 10).toInt := (congrArg Int32.toInt (show σ19 55 10 = (σ 55 10) from (f22 10 (of_decide_eq_true rfl))))
     have z35 : (σ19 55 12).toInt = (σ 55 12).toInt := (congrArg Int32.toInt (show σ19 55 12 = (σ 55 12) from (f22 12 (of_decide_eq_true rfl))))
     obtain ⟨k36, k37, k38, h19⟩ := h19
     refine lv_aload_n hx hb dX12_best_20 rfl (lv_at hl 0 rfl) ?_
     have I39 : jI104 σ19 := jI104_fr (f22 10 (of_decide_eq_true rfl)) (f22 12 (of_decide_eq_true rfl)) (f22 13 (of_decide_eq_true rfl)) (f21 62 (of_decide_eq_true rfl)) (f21 67 (of_decide_eq_true rfl)) hI104
     refine jcallV (As := []) (rest := []) ⟨hx, hb, hml, hown, hts⟩ hK hP hA hS hZ (c_X12_isBig l D cI cL ad zz hJ σ19 τ I39 (by omega)) cw_RX12_338 (jc_55 cI cL ad σ19 τ) rfl ⟨Nat.le_of_ble_eq_true rfl, Nat.le_of_ble_eq_true rfl⟩ rfl rfl rfl hl.1 rfl (Nat.le_of_ble_eq_true rfl) dX12_best_21 ⟨Nat.zero_le _, Nat.zero_le _⟩ (fun r41 σ40 τ40 H locs h40 hP hS => ?_)
     exact by
      obtain ⟨⟨rfl, rfl⟩, h40⟩ := h40
      rcases h40 with h42 | h43
      · obtain ⟨q45, k44⟩ := h42
        have q45 := q45.symm
        subst q45
        refine lv_if_eq (tgt := 30) hx hb dX12_best_24 (of_decide_eq_true rfl) (fun c => absurd c (of_decide_eq_true rfl)) (fun _ => ?_)
        refine lv_bipush (v := (-4)) hx hb dX12_best_27 (of_decide_eq_true rfl) ?_
        have I46 : jI119 σ19 := w33
        have p47 : jKept σ19 := jKept.fr (f21 75 (of_decide_eq_true rfl)) (f21 76 (of_decide_eq_true rfl)) (f21 77 (of_decide_eq_true rfl)) hs_jKept
        have p48 : jTR σ19 := jTR.fr (f21 64 (of_decide_eq_true rfl)) (f21 65 (of_decide_eq_true rfl)) hs_jTR
        have p49 : jqSt σ19 := jqSt.fr (f21 78 (of_decide_eq_true rfl)) (f22 42 (of_decide_eq_true rfl)) hs_jqSt
        have z50 : (σ19 55 42).toInt = (σ 55 42).toInt := (congrArg Int32.toInt (show σ19 55 42 = (σ 55 42) from (f22 42 (of_decide_eq_true rfl))))
        exact by exact hret (-4) σ19 τ _ _ _ _ rfl ⟨rfl, (fun i hi => (f21 i (imp_256 i hi))), (fun i hi => (f22 i (imp_257 i hi))), I46, p47, p24, p48, p49, (fun wa9 wb9 ok nt => jqBe.big (by omega) (by omega) (of_decide_eq_true rfl)), (by omega), (by omega), trivial⟩ hP hS dX12_best_29
      · obtain ⟨q52, k51⟩ := h43
        have q52 := q52.symm
        subst q52
        refine lv_if_eq (tgt := 30) hx hb dX12_best_24 (of_decide_eq_true rfl) (fun _ => ?_) (fun c => absurd (of_decide_eq_true rfl) c)
        refine lv_aload_n hx hb dX12_best_30 rfl (lv_at hl 0 rfl) ?_
        have p53 : jqSt σ19 := jqSt.fr (f21 78 (of_decide_eq_true rfl)) (f22 42 (of_decide_eq_true rfl)) hs_jqSt
        have z54 : (σ19 55 42).toInt = (σ 55 42).toInt := (congrArg Int32.toInt (show σ19 55 42 = (σ 55 42) from (f22 42 (of_decide_eq_true rfl))))
        exact by
         refine jcallVv (As := []) (rest := []) ⟨hx, hb, hml, hown, hts⟩ hK hP hA hS hZ (c_X12_forgets l D cI cL ad zz hJ σ19 τ p53 (by omega)) cw_RX12_341 (jc_55 cI cL ad σ19 τ) rfl ⟨Nat.le_of_ble_eq_true rfl, Nat.le_of_ble_eq_true rfl⟩ rfl rfl rfl hl.1 rfl (Nat.le_of_ble_eq_true rfl) dX12_best_31 ⟨Nat.zero_le _, Nat.zero_le _⟩ (fun σ55 τ55 H locs h55 hP hS => ?_)
         obtain ⟨rfl, f57, f58, p59, w60, h55⟩ := h55
         obtain ⟨k62, h55⟩ := h55
         refine lv_aload_n hx hb dX12_best_34 rfl (lv_at hl 0 rfl) ?_
         have I63 : jI101 σ55 := jI101_fr ((f58 4 (of_decide_eq_true rfl)).trans (f22 4 (of_decide_eq_true rfl))) ((f58 5 (of_decide_eq_true rfl)).trans (f22 5 (of_decide_eq_true rfl))) ((f57 56 (of_decide_eq_true rfl)).trans (f21 56 (of_decide_eq_true rfl))) ((f57 57 (of_decide_eq_true rfl)).trans (f21 57 (of_decide_eq_true rfl))) ((f57 58 (of_decide_eq_true rfl)).trans (f21 58 (of_decide_eq_true rfl))) ((f57 59 (of_decide_eq_true rfl)).trans (f21 59 (of_decide_eq_true rfl))) hI101
         have I64 : jI102 σ55 := jI102_fr ((f58 6 (of_decide_eq_true rfl)).trans (f22 6 (of_decide_eq_true rfl))) ((f57 60 (of_decide_eq_true rfl)).trans (f21 60 (of_decide_eq_true rfl))) ((f57 61 (of_decide_eq_true rfl)).trans (f21 61 (of_decide_eq_true rfl))) hI102
         have I65 : jI103 σ55 := jI103_fr ((f58 9 (of_decide_eq_true rfl)).trans (f22 9 (of_decide_eq_true rfl))) hI103
         have I66 : jI104 σ55 := jI104_fr (f58 10 (of_decide_eq_true rfl)) (f58 12 (of_decide_eq_true rfl)) (f58 13 (of_decide_eq_true rfl)) (f57 62 (of_decide_eq_true rfl)) (f57 67 (of_decide_eq_true rfl)) I39
         have I67 : jI105 σ55 := jI105_fr ((f58 15 (of_decide_eq_true rfl)).trans (f22 15 (of_decide_eq_true rfl))) ((f57 65 (of_decide_eq_true rfl)).trans (f21 65 (of_decide_eq_true rfl))) hI105
         have I68 : jI106 σ55 := jI106_fr ((f58 32 (of_decide_eq_true rfl)).trans (f22 32 (of_decide_eq_true rfl))) ((f57 70 (of_decide_eq_true rfl)).trans (f21 70 (of_decide_eq_true rfl))) ((f57 71 (of_decide_eq_true rfl)).trans (f21 71 (of_decide_eq_true rfl))) ((f57 72 (of_decide_eq_true rfl)).trans (f21 72 (of_decide_eq_true rfl))) hI106
         have I69 : jI120 σ55 := jI120_fr (f58 10 (of_decide_eq_true rfl)) (f58 12 (of_decide_eq_true rfl)) (f58 25 (of_decide_eq_true rfl)) (f58 26 (of_decide_eq_true rfl)) (f58 27 (of_decide_eq_true rfl)) (f57 68 (of_decide_eq_true rfl)) I23
         have p70 : jKept σ55 := jKept.fr ((f57 75 (of_decide_eq_true rfl)).trans (f21 75 (of_decide_eq_true rfl))) ((f57 76 (of_decide_eq_true rfl)).trans (f21 76 (of_decide_eq_true rfl))) ((f57 77 (of_decide_eq_true rfl)).trans (f21 77 (of_decide_eq_true rfl))) hs_jKept
         have p71 : jTR σ55 := jTR.fr ((f57 64 (of_decide_eq_true rfl)).trans (f21 64 (of_decide_eq_true rfl))) ((f57 65 (of_decide_eq_true rfl)).trans (f21 65 (of_decide_eq_true rfl))) hs_jTR
         have z72 : (σ55 55 12).toInt = (σ 55 12).toInt := (congrArg Int32.toInt (show σ55 55 12 = (σ 55 12) from ((f58 12 (of_decide_eq_true rfl)).trans (f22 12 (of_decide_eq_true rfl)))))
         have z73 : (σ55 55 26).toInt = (σ19 55 26).toInt := (congrArg Int32.toInt (show σ55 55 26 = (σ19 55 26) from (f58 26 (of_decide_eq_true rfl))))
         exact by
          refine jcallV (As := []) (rest := []) ⟨hx, hb, hml, hown, hts⟩ hK hP hA hS hZ ((c_X12_bests l D cI cL ad zz hJ 8).2.1 σ55 τ I63 I64 I65 I66 I67 I68 I69 p70 p71 p59 (by omega)) cw_RX12_280 (jc_55 cI cL ad σ55 τ) rfl ⟨Nat.le_of_ble_eq_true rfl, Nat.le_of_ble_eq_true rfl⟩ rfl rfl rfl hl.1 rfl (Nat.le_of_ble_eq_true rfl) dX12_best_35 ⟨Nat.zero_le _, Nat.zero_le _⟩ (fun r75 σ74 τ74 H locs h74 hP hS => ?_)
          obtain ⟨rfl, f76, f77, p78, p79, p80, w81, h74⟩ := h74
          obtain ⟨k83, h74⟩ := h74
          have h84 := h74
          obtain ⟨q86, k85⟩ := h84
          refine lv_istore_n (lv' := [(2, .int r75), (0, .ref (ad 55)), (1, .int a1)]) hx hb dX12_best_38 rfl hl (of_decide_eq_true rfl) rfl (fun ls hl => ?_)
          refine lv_iload_n hx hb dX12_best_39 rfl (lv_at hl 2 rfl) ?_
          refine lv_if_ne (tgt := 47) hx hb dX12_best_40 (of_decide_eq_true rfl) (fun c87 => ?_) (fun c87 => ?_)
          · have kc87 := jne c87 t1 jz_0
            refine lv_aload_n hx hb dX12_best_47 rfl (lv_at hl 1 rfl) ?_
            refine va_get (D := D) hx hb hts inlX12 hown hK hP 55 (jc_55 cI cL ad σ74 τ) rfl 37 (of_decide_eq_true rfl) (hts _ kw_33_15) (fun _ h9 => h9) rfl dX12_best_48 ?_
            have w88 : ∀ k : Nat, k < 4 → 0 ≤ (σ74 68 k).toInt ∧ (σ74 68 k).toInt ≤ 3 := (jrr_fr (f76 68 (of_decide_eq_true rfl)) (jrr_fr (f57 68 (of_decide_eq_true rfl)) w33))
            have I89 : jI119 σ74 := w88
            have p90 : jBook σ74 := jBook.fr ((f77 47 (of_decide_eq_true rfl)).trans (f58 47 (of_decide_eq_true rfl))) ((f77 10 (of_decide_eq_true rfl)).trans (f58 10 (of_decide_eq_true rfl))) ((f76 81 (of_decide_eq_true rfl)).trans (f57 81 (of_decide_eq_true rfl))) p24
            have z91 : (σ55 55 25).toInt = (σ19 55 25).toInt := (congrArg Int32.toInt (show σ55 55 25 = (σ19 55 25) from (f58 25 (of_decide_eq_true rfl))))
            have z92 : (σ55 55 27).toInt = (σ19 55 27).toInt := (congrArg Int32.toInt (show σ55 55 27 = (σ19 55 27) from (f58 27 (of_decide_eq_true rfl))))
            have z93 : (σ74 55 42).toInt = (σ55 55 42).toInt := (congrArg Int32.toInt (show σ74 55 42 = (σ55 55 42) from (f77 42 (of_decide_eq_true rfl))))
            exact by exact hret (σ74 55 37) σ74 τ _ _ _ _ rfl ⟨rfl, (fun i hi => ((f76 i (imp_258 i hi)).trans ((f57 i (imp_259 i hi)).trans (f21 i (imp_256 i hi))))), (fun i hi => ((f77 i (imp_260 i hi)).trans ((f58 i (imp_261 i hi)).trans (f22 i (imp_257 i hi))))), I89, p78, p90, p79, p80, (fun wa9 wb9 ok nt => by have b9 := jrBest (σ := σ) (g := σ19) (u := σ55) (n := (σ 55 47).toInt) (c := (jcnt (σ 81) (σ 55 47).toInt.toNat : Int)) ⟨⟨((f57 56 (of_decide_eq_true rfl)).trans (f21 56 (of_decide_eq_true rfl))), ((f57 60 (of_decide_eq_true rfl)).trans (f21 60 (of_decide_eq_true rfl))), ((f57 61 (of_decide_eq_true rfl)).trans (f21 61 (of_decide_eq_true rfl))), ((f57 62 (of_decide_eq_true rfl)).trans (f21 62 (of_decide_eq_true rfl))), ((f57 64 (of_decide_eq_true rfl)).trans (f21 64 (of_decide_eq_true rfl))), ((f57 65 (of_decide_eq_true rfl)).trans (f21 65 (of_decide_eq_true rfl)))⟩, ((f58 6 (of_decide_eq_true rfl)).trans (f22 6 (of_decide_eq_true rfl))), ((f58 9 (of_decide_eq_true rfl)).trans (f22 9 (of_decide_eq_true rfl))), ((f58 10 (of_decide_eq_true rfl)).trans (f22 10 (of_decide_eq_true rfl))), ((f58 12 (of_decide_eq_true rfl)).trans (f22 12 (of_decide_eq_true rfl))), ((f58 13 (of_decide_eq_true rfl)).trans (f22 13 (of_decide_eq_true rfl))), ((f58 30 (of_decide_eq_true rfl)).trans (f22 30 (of_decide_eq_true rfl))), ((f58 31 (of_decide_eq_true rfl)).trans (f22 31 (of_decide_eq_true rfl)))⟩ (by have w9 := w25; rw [show (σ 55 47).toInt = (σ 55 47).toInt from by omega] at w9; exact w9) (by have w9 := w26 nt; rw [show (σ 55 47).toInt = (σ 55 47).toInt from by omega] at w9; exact w9) (f57 68 (of_decide_eq_true rfl)) (f57 69 (of_decide_eq_true rfl)) (by omega) (by omega) (f58 27 (of_decide_eq_true rfl)) (by omega) (by omega) wa9 wb9 ok (jrr_fr (f57 68 (of_decide_eq_true rfl)) w33) (by omega) (by omega) (by omega); have r9 := (w81 b9.1 w60).1; rw [b9.2] at r9; exact jqBe.of (by omega) (by omega) (Or.inr ⟨by omega, (show ((σ74 55 37) : Int32).toInt = (σ74 55 37).toInt by omega).trans r9.1⟩)), (by omega), (by omega), trivial⟩ hP hS dX12_best_51
          · have kc87 := jeq c87 t1 jz_0
            refine lv_iload_n hx hb dX12_best_43 rfl (lv_at hl 0 rfl) ?_
            refine lv_goto (tgt := 51) hx hb dX12_best_44 (of_decide_eq_true rfl) ?_
            have w94 : ∀ k : Nat, k < 4 → 0 ≤ (σ74 68 k).toInt ∧ (σ74 68 k).toInt ≤ 3 := (jrr_fr (f76 68 (of_decide_eq_true rfl)) (jrr_fr (f57 68 (of_decide_eq_true rfl)) w33))
            have I95 : jI119 σ74 := w94
            have p96 : jBook σ74 := jBook.fr ((f77 47 (of_decide_eq_true rfl)).trans (f58 47 (of_decide_eq_true rfl))) ((f77 10 (of_decide_eq_true rfl)).trans (f58 10 (of_decide_eq_true rfl))) ((f76 81 (of_decide_eq_true rfl)).trans (f57 81 (of_decide_eq_true rfl))) p24
            have z97 : (σ55 55 25).toInt = (σ19 55 25).toInt := (congrArg Int32.toInt (show σ55 55 25 = (σ19 55 25) from (f58 25 (of_decide_eq_true rfl))))
            have z98 : (σ55 55 27).toInt = (σ19 55 27).toInt := (congrArg Int32.toInt (show σ55 55 27 = (σ19 55 27) from (f58 27 (of_decide_eq_true rfl))))
            have z99 : (σ74 55 42).toInt = (σ55 55 42).toInt := (congrArg Int32.toInt (show σ74 55 42 = (σ55 55 42) from (f77 42 (of_decide_eq_true rfl))))
            exact by exact hret r75 σ74 τ _ _ _ _ rfl ⟨rfl, (fun i hi => ((f76 i (imp_258 i hi)).trans ((f57 i (imp_259 i hi)).trans (f21 i (imp_256 i hi))))), (fun i hi => ((f77 i (imp_260 i hi)).trans ((f58 i (imp_261 i hi)).trans (f22 i (imp_257 i hi))))), I95, p78, p96, p79, p80, (fun wa9 wb9 ok nt => by have b9 := jrBest (σ := σ) (g := σ19) (u := σ55) (n := (σ 55 47).toInt) (c := (jcnt (σ 81) (σ 55 47).toInt.toNat : Int)) ⟨⟨((f57 56 (of_decide_eq_true rfl)).trans (f21 56 (of_decide_eq_true rfl))), ((f57 60 (of_decide_eq_true rfl)).trans (f21 60 (of_decide_eq_true rfl))), ((f57 61 (of_decide_eq_true rfl)).trans (f21 61 (of_decide_eq_true rfl))), ((f57 62 (of_decide_eq_true rfl)).trans (f21 62 (of_decide_eq_true rfl))), ((f57 64 (of_decide_eq_true rfl)).trans (f21 64 (of_decide_eq_true rfl))), ((f57 65 (of_decide_eq_true rfl)).trans (f21 65 (of_decide_eq_true rfl)))⟩, ((f58 6 (of_decide_eq_true rfl)).trans (f22 6 (of_decide_eq_true rfl))), ((f58 9 (of_decide_eq_true rfl)).trans (f22 9 (of_decide_eq_true rfl))), ((f58 10 (of_decide_eq_true rfl)).trans (f22 10 (of_decide_eq_true rfl))), ((f58 12 (of_decide_eq_true rfl)).trans (f22 12 (of_decide_eq_true rfl))), ((f58 13 (of_decide_eq_true rfl)).trans (f22 13 (of_decide_eq_true rfl))), ((f58 30 (of_decide_eq_true rfl)).trans (f22 30 (of_decide_eq_true rfl))), ((f58 31 (of_decide_eq_true rfl)).trans (f22 31 (of_decide_eq_true rfl)))⟩ (by have w9 := w25; rw [show (σ 55 47).toInt = (σ 55 47).toInt from by omega] at w9; exact w9) (by have w9 := w26 nt; rw [show (σ 55 47).toInt = (σ 55 47).toInt from by omega] at w9; exact w9) (f57 68 (of_decide_eq_true rfl)) (f57 69 (of_decide_eq_true rfl)) (by omega) (by omega) (f58 27 (of_decide_eq_true rfl)) (by omega) (by omega) wa9 wb9 ok (jrr_fr (f57 68 (of_decide_eq_true rfl)) w33) (by omega) (by omega) (by omega); have r9 := (w81 b9.1 w60).1; rw [b9.2] at r9; exact jqBe.of (by omega) (by omega) (Or.inl ⟨by omega, r9.2⟩)), (by omega), (by omega), trivial⟩ hP hS dX12_best_51
  · obtain ⟨q101, k100⟩ := h15
    have q101 := q101.symm
    subst q101
    refine lv_if_ne (tgt := 12) hx hb dX12_best_7 (of_decide_eq_true rfl) (fun c => absurd (of_decide_eq_true rfl) c) (fun _ => ?_)
    refine lv_iconst (v := (-1)) hx hb dX12_best_10 (of_decide_eq_true rfl) ?_
    exact by exact hret (-1) σ τ _ _ _ _ rfl ⟨rfl, (fun _ _ => rfl), (fun _ _ => rfl), hI119, hs_jKept, hs_jBook, hs_jTR, hs_jqSt, (fun wa9 wb9 ok nt => jqBe.bad (by omega) (of_decide_eq_true rfl)), (by omega), (by omega), trivial⟩ hP hS dX12_best_11
set_option maxHeartbeats 4000000 in
set_option maxRecDepth 100000 in
theorem c_X12_bestNow (l : Launch) (D : va_G) (cI cL : ClassId) (ad zz : Nat → Nat) (hJ : jD ad) (σ : Nat → Nat → Int32) (τ : Nat → Nat → Int64) (hI101 : jI101 σ) (hI102 : jI102 σ) (hI103 : jI103 σ) (hI104 : jI104 σ) (hI105 : jI105 σ) (hI106 : jI106 σ) (hI119 : jI119 σ) (hs_jKept : jKept σ) (hs_jTR : jTR σ) (hs_jqSt : jqSt σ) (hp0 : (σ 55 12).toInt ≤ 8) (hp1 : 0 ≤ (σ 55 42).toInt ∧ (σ 55 42).toInt ≤ 999999998) : jM l yX12_bestNow cX12_bestNow 1 (some .int) ({ frames := 103, cells := 0, slots := 0, locals := 5061 }) D cI cL ad zz [.ref (ad 55)] σ τ (fun r σ' τ' => τ = τ' ∧ (∀ i : Nat, (i < 55 ∨ 55 < i) ∧ (i < 66 ∨ 66 < i) ∧ (i < 68 ∨ 69 < i) ∧ (i < 74 ∨ 78 < i) → σ' i = σ i) ∧ (∀ k : Nat, (k < 18 ∨ 18 < k) ∧ (k < 19 ∨ 19 < k) ∧ (k < 20 ∨ 20 < k) ∧ (k < 21 ∨ 21 < k) ∧ (k < 22 ∨ 22 < k) ∧ (k < 25 ∨ 25 < k) ∧ (k < 26 ∨ 26 < k) ∧ (k < 27 ∨ 27 < k) ∧ (k < 37 ∨ 37 < k) ∧ (k < 42 ∨ 42 < k) → σ' 55 k = σ 55 k) ∧ (jI119 σ') ∧ (jKept σ') ∧ (jTR σ') ∧ (jqSt σ') ∧ ((∀ (b x : Int), jOk (σ 56) → (∀ c : Nat, c < 4 → (c : Int) < (σ 55 6).toInt → jrOv σ c = if (c : Int) = b then x else (σ 56 (32 + c)).toInt) → 0 ≤ x ∧ x ≤ 100 → b < (σ 55 6).toInt → r.toInt = jrW2 σ (σ 55 9).toInt b x)) ∧ ((σ 55 42).toInt ≤ (σ' 55 42).toInt) ∧ ((σ' 55 42).toInt ≤ (σ 55 42).toInt + 1) ∧ ((True ∧ (0 ≤ r.toInt ∧ r.toInt ≤ 12276000)))) := by
  refine jM.of hJ (by decide +kernel) (nt := .int) rfl (Nat.le_of_ble_eq_true rfl) ?_
  intro p e s m args below meth c Q ls hC hret hl hP
  obtain ⟨hx, hb, hr, hml, hown, hts, hK, -, hlocks, hZ⟩ := hC
  have hown : s.vm.findClass RX12 = some m.cls := hown
  have hS : va_S (jA ad) s.heap s.heap [] := va_S.rf
  have hA : ∀ q, jA ad q → jA ad q := fun _ h => h
  have hl : lv_has ls 1 [(0, .ref (ad 55))] := hl
  obtain ⟨i1, i2, i3, w4, w5, w6, w7⟩ : (0 ≤ (σ 55 5).toInt) ∧ ((σ 55 5).toInt ≤ (σ 55 4).toInt) ∧ ((σ 55 4).toInt ≤ 40) ∧ (∀ k : Nat, k < 68 → (-200) ≤ (σ 56 k).toInt ∧ (σ 56 k).toInt ≤ 500) ∧ (∀ k : Nat, k < 40 → 0 ≤ (σ 57 k).toInt ∧ (σ 57 k).toInt ≤ 67) ∧ (∀ k : Nat, k < 40 → (-200) ≤ (σ 58 k).toInt ∧ (σ 58 k).toInt ≤ 500) ∧ (∀ k : Nat, k < 40 → (-200) ≤ (σ 59 k).toInt ∧ (σ 59 k).toInt ≤ 500) := id hI101
  obtain ⟨i8, w9, w10⟩ : (0 ≤ (σ 55 6).toInt ∧ (σ 55 6).toInt ≤ 4) ∧ (∀ k : Nat, k < 4 → 0 ≤ (σ 60 k).toInt ∧ (σ 60 k).toInt ≤ 50) ∧ (∀ k : Nat, k < 4 → 0 ≤ (σ 61 k).toInt ∧ (σ 61 k).toInt ≤ 20) := id hI102
  have i11 : 0 ≤ (σ 55 9).toInt ∧ (σ 55 9).toInt ≤ 3 := hI103
  obtain ⟨i12, i13, i14, w15, w16⟩ : (1 ≤ (σ 55 10).toInt ∧ (σ 55 10).toInt ≤ 8) ∧ (1 ≤ (σ 55 12).toInt ∧ (σ 55 12).toInt ≤ 12) ∧ (0 ≤ (σ 55 13).toInt ∧ (σ 55 13).toInt ≤ 999) ∧ (∀ k : Nat, k < 8 → 0 ≤ (σ 62 k).toInt ∧ (σ 62 k).toInt ≤ 3) ∧ (∀ k : Nat, k < 8 → 0 ≤ (σ 67 k).toInt ∧ (σ 67 k).toInt ≤ 3) := id hI104
  refine lv_aload_n hx hb dX12_bestNow_0 rfl (lv_at hl 0 rfl) ?_
  have w17 : ∀ k : Nat, k < 4 → 0 ≤ (σ 68 k).toInt ∧ (σ 68 k).toInt ≤ 3 := hI119
  refine jcallVv (As := []) (rest := []) ⟨hx, hb, hml, hown, hts⟩ hK hP hA hS hZ (c_X12_begin l D cI cL ad zz hJ σ τ hI104 w17) cw_RX12_256 (jc_55 cI cL ad σ τ) rfl ⟨Nat.le_of_ble_eq_true rfl, Nat.le_of_ble_eq_true rfl⟩ rfl rfl rfl hl.1 rfl (Nat.le_of_ble_eq_true rfl) dX12_bestNow_1 ⟨Nat.zero_le _, Nat.zero_le _⟩ (fun σ18 τ18 H locs h18 hP hS => ?_)
  obtain ⟨rfl, f20, f21, I22, w23, w24, h18⟩ := h18
  obtain ⟨i26, i27, i28, i29, i30, w31⟩ : (0 ≤ (σ18 55 25).toInt) ∧ ((σ18 55 25).toInt ≤ (σ18 55 10).toInt) ∧ (0 ≤ (σ18 55 26).toInt) ∧ ((σ18 55 26).toInt ≤ (σ18 55 12).toInt) ∧ ((-1) ≤ (σ18 55 27).toInt ∧ (σ18 55 27).toInt ≤ 3) ∧ (∀ k : Nat, k < 4 → 0 ≤ (σ18 68 k).toInt ∧ (σ18 68 k).toInt ≤ 3) := id I22
  have z32 : (σ18 55 10).toInt = (σ 55 10).toInt := (congrArg Int32.toInt (show σ18 55 10 = (σ 55 10) from (f21 10 (of_decide_eq_true rfl))))
  have z33 : (σ18 55 12).toInt = (σ 55 12).toInt := (congrArg Int32.toInt (show σ18 55 12 = (σ 55 12) from (f21 12 (of_decide_eq_true rfl))))
  obtain ⟨k34, k35, k36, h18⟩ := h18
  refine lv_aload_n hx hb dX12_bestNow_4 rfl (lv_at hl 0 rfl) ?_
  have p37 : jqSt σ18 := jqSt.fr (f20 78 (of_decide_eq_true rfl)) (f21 42 (of_decide_eq_true rfl)) hs_jqSt
  have z38 : (σ18 55 42).toInt = (σ 55 42).toInt := (congrArg Int32.toInt (show σ18 55 42 = (σ 55 42) from (f21 42 (of_decide_eq_true rfl))))
  exact by
   refine jcallVv (As := []) (rest := []) ⟨hx, hb, hml, hown, hts⟩ hK hP hA hS hZ (c_X12_forgets l D cI cL ad zz hJ σ18 τ p37 (by omega)) cw_RX12_341 (jc_55 cI cL ad σ18 τ) rfl ⟨Nat.le_of_ble_eq_true rfl, Nat.le_of_ble_eq_true rfl⟩ rfl rfl rfl hl.1 rfl (Nat.le_of_ble_eq_true rfl) dX12_bestNow_5 ⟨Nat.zero_le _, Nat.zero_le _⟩ (fun σ39 τ39 H locs h39 hP hS => ?_)
   obtain ⟨rfl, f41, f42, p43, w44, h39⟩ := h39
   obtain ⟨k46, h39⟩ := h39
   refine lv_aload_n hx hb dX12_bestNow_8 rfl (lv_at hl 0 rfl) ?_
   have I47 : jI101 σ39 := jI101_fr ((f42 4 (of_decide_eq_true rfl)).trans (f21 4 (of_decide_eq_true rfl))) ((f42 5 (of_decide_eq_true rfl)).trans (f21 5 (of_decide_eq_true rfl))) ((f41 56 (of_decide_eq_true rfl)).trans (f20 56 (of_decide_eq_true rfl))) ((f41 57 (of_decide_eq_true rfl)).trans (f20 57 (of_decide_eq_true rfl))) ((f41 58 (of_decide_eq_true rfl)).trans (f20 58 (of_decide_eq_true rfl))) ((f41 59 (of_decide_eq_true rfl)).trans (f20 59 (of_decide_eq_true rfl))) hI101
   have I48 : jI102 σ39 := jI102_fr ((f42 6 (of_decide_eq_true rfl)).trans (f21 6 (of_decide_eq_true rfl))) ((f41 60 (of_decide_eq_true rfl)).trans (f20 60 (of_decide_eq_true rfl))) ((f41 61 (of_decide_eq_true rfl)).trans (f20 61 (of_decide_eq_true rfl))) hI102
   have I49 : jI103 σ39 := jI103_fr ((f42 9 (of_decide_eq_true rfl)).trans (f21 9 (of_decide_eq_true rfl))) hI103
   have I50 : jI104 σ39 := jI104_fr ((f42 10 (of_decide_eq_true rfl)).trans (f21 10 (of_decide_eq_true rfl))) ((f42 12 (of_decide_eq_true rfl)).trans (f21 12 (of_decide_eq_true rfl))) ((f42 13 (of_decide_eq_true rfl)).trans (f21 13 (of_decide_eq_true rfl))) ((f41 62 (of_decide_eq_true rfl)).trans (f20 62 (of_decide_eq_true rfl))) ((f41 67 (of_decide_eq_true rfl)).trans (f20 67 (of_decide_eq_true rfl))) hI104
   have I51 : jI105 σ39 := jI105_fr ((f42 15 (of_decide_eq_true rfl)).trans (f21 15 (of_decide_eq_true rfl))) ((f41 65 (of_decide_eq_true rfl)).trans (f20 65 (of_decide_eq_true rfl))) hI105
   have I52 : jI106 σ39 := jI106_fr ((f42 32 (of_decide_eq_true rfl)).trans (f21 32 (of_decide_eq_true rfl))) ((f41 70 (of_decide_eq_true rfl)).trans (f20 70 (of_decide_eq_true rfl))) ((f41 71 (of_decide_eq_true rfl)).trans (f20 71 (of_decide_eq_true rfl))) ((f41 72 (of_decide_eq_true rfl)).trans (f20 72 (of_decide_eq_true rfl))) hI106
   have I53 : jI120 σ39 := jI120_fr (f42 10 (of_decide_eq_true rfl)) (f42 12 (of_decide_eq_true rfl)) (f42 25 (of_decide_eq_true rfl)) (f42 26 (of_decide_eq_true rfl)) (f42 27 (of_decide_eq_true rfl)) (f41 68 (of_decide_eq_true rfl)) I22
   have p54 : jKept σ39 := jKept.fr ((f41 75 (of_decide_eq_true rfl)).trans (f20 75 (of_decide_eq_true rfl))) ((f41 76 (of_decide_eq_true rfl)).trans (f20 76 (of_decide_eq_true rfl))) ((f41 77 (of_decide_eq_true rfl)).trans (f20 77 (of_decide_eq_true rfl))) hs_jKept
   have p55 : jTR σ39 := jTR.fr ((f41 64 (of_decide_eq_true rfl)).trans (f20 64 (of_decide_eq_true rfl))) ((f41 65 (of_decide_eq_true rfl)).trans (f20 65 (of_decide_eq_true rfl))) hs_jTR
   have z56 : (σ39 55 12).toInt = (σ 55 12).toInt := (congrArg Int32.toInt (show σ39 55 12 = (σ 55 12) from ((f42 12 (of_decide_eq_true rfl)).trans (f21 12 (of_decide_eq_true rfl)))))
   have z57 : (σ39 55 26).toInt = (σ18 55 26).toInt := (congrArg Int32.toInt (show σ39 55 26 = (σ18 55 26) from (f42 26 (of_decide_eq_true rfl))))
   exact by
    refine jcallV (As := []) (rest := []) ⟨hx, hb, hml, hown, hts⟩ hK hP hA hS hZ ((c_X12_bests l D cI cL ad zz hJ 8).2.1 σ39 τ I47 I48 I49 I50 I51 I52 I53 p54 p55 p43 (by omega)) cw_RX12_280 (jc_55 cI cL ad σ39 τ) rfl ⟨Nat.le_of_ble_eq_true rfl, Nat.le_of_ble_eq_true rfl⟩ rfl rfl rfl hl.1 rfl (Nat.le_of_ble_eq_true rfl) dX12_bestNow_9 ⟨Nat.zero_le _, Nat.zero_le _⟩ (fun r59 σ58 τ58 H locs h58 hP hS => ?_)
    obtain ⟨rfl, f60, f61, p62, p63, p64, w65, h58⟩ := h58
    obtain ⟨k67, h58⟩ := h58
    have h68 := h58
    obtain ⟨q70, k69⟩ := h68
    have w71 : ∀ k : Nat, k < 4 → 0 ≤ (σ58 68 k).toInt ∧ (σ58 68 k).toInt ≤ 3 := (jrr_fr (f60 68 (of_decide_eq_true rfl)) (jrr_fr (f41 68 (of_decide_eq_true rfl)) w31))
    have I72 : jI119 σ58 := w71
    have z73 : (σ39 55 25).toInt = (σ18 55 25).toInt := (congrArg Int32.toInt (show σ39 55 25 = (σ18 55 25) from (f42 25 (of_decide_eq_true rfl))))
    have z74 : (σ39 55 27).toInt = (σ18 55 27).toInt := (congrArg Int32.toInt (show σ39 55 27 = (σ18 55 27) from (f42 27 (of_decide_eq_true rfl))))
    have z75 : (σ39 55 9).toInt = (σ 55 9).toInt := (congrArg Int32.toInt (show σ39 55 9 = (σ 55 9) from ((f42 9 (of_decide_eq_true rfl)).trans (f21 9 (of_decide_eq_true rfl)))))
    have z76 : (σ58 55 42).toInt = (σ39 55 42).toInt := (congrArg Int32.toInt (show σ58 55 42 = (σ39 55 42) from (f61 42 (of_decide_eq_true rfl))))
    exact by exact hret r59 σ58 τ _ _ _ _ rfl ⟨rfl, (fun i hi => ((f60 i (imp_258 i hi)).trans ((f41 i (imp_259 i hi)).trans (f20 i (imp_256 i hi))))), (fun i hi => ((f61 i (imp_260 i hi)).trans ((f42 i (imp_261 i hi)).trans (f21 i (imp_257 i hi))))), I72, p62, p63, p64, (fun b x ok hw hx hb => by have ou : jrOv σ39 = jrOv σ := jrOv_eq ((f41 56 (of_decide_eq_true rfl)).trans (f20 56 (of_decide_eq_true rfl))) ((f42 30 (of_decide_eq_true rfl)).trans (f21 30 (of_decide_eq_true rfl))) ((f42 31 (of_decide_eq_true rfl)).trans (f21 31 (of_decide_eq_true rfl))); have p := jrNow (σ := σ) (u := σ39) (f := (σ 55 9).toInt) ((f41 56 (of_decide_eq_true rfl)).trans (f20 56 (of_decide_eq_true rfl))) ((f41 60 (of_decide_eq_true rfl)).trans (f20 60 (of_decide_eq_true rfl))) ((f41 61 (of_decide_eq_true rfl)).trans (f20 61 (of_decide_eq_true rfl))) ((f41 62 (of_decide_eq_true rfl)).trans (f20 62 (of_decide_eq_true rfl))) ((f41 64 (of_decide_eq_true rfl)).trans (f20 64 (of_decide_eq_true rfl))) ((f41 65 (of_decide_eq_true rfl)).trans (f20 65 (of_decide_eq_true rfl))) ((f42 6 (of_decide_eq_true rfl)).trans (f21 6 (of_decide_eq_true rfl))) ((f42 10 (of_decide_eq_true rfl)).trans (f21 10 (of_decide_eq_true rfl))) ((f42 12 (of_decide_eq_true rfl)).trans (f21 12 (of_decide_eq_true rfl))) ((f42 13 (of_decide_eq_true rfl)).trans (f21 13 (of_decide_eq_true rfl))) (by omega) (by rw [show σ39 68 = σ18 68 from (f41 68 (of_decide_eq_true rfl))]; exact w24) (by rw [show σ39 69 = σ18 69 from (f41 69 (of_decide_eq_true rfl))]; exact w23) (by omega) (by omega) (by omega) (by omega) (by omega) (by omega) ok (fun c hc hn => by rw [ou]; exact hw c hc hn) hx (fun c hc => by rw [ou]; exact jrOv_r w4 c hc) hb; have r9 := (w65 p.1 w44).1.2; rw [r9, p.2]), (by omega), (by omega), ⟨trivial, (by omega)⟩⟩ hP hS dX12_bestNow_12
set_option maxHeartbeats 4000000 in
set_option maxRecDepth 100000 in
theorem c_X12_worth (l : Launch) (D : va_G) (cI cL : ClassId) (ad zz : Nat → Nat) (hJ : jD ad) (σ : Nat → Nat → Int32) (τ : Nat → Nat → Int64) (a1 : Int32) (A1 : Int) (t1 : a1.toInt = A1) (a2 : Int32) (A2 : Int) (t2 : a2.toInt = A2) (hI101 : jI101 σ) (hI102 : jI102 σ) (hI103 : jI103 σ) (hI104 : jI104 σ) (hI105 : jI105 σ) (hI106 : jI106 σ) (hI119 : jI119 σ) (hs_jKept : jKept σ) (hs_jTR : jTR σ) (hs_jqSt : jqSt σ) (hp0 : 0 ≤ (σ 55 42).toInt ∧ (σ 55 42).toInt ≤ 999999996) : jM l yX12_worth cX12_worth 5 (some .int) ({ frames := 104, cells := 0, slots := 0, locals := 5081 }) D cI cL ad zz [.ref (ad 55), .int a1, .int a2] σ τ (fun r σ' τ' => τ = τ' ∧ (∀ i : Nat, (i < 55 ∨ 55 < i) ∧ (i < 66 ∨ 66 < i) ∧ (i < 68 ∨ 69 < i) ∧ (i < 74 ∨ 78 < i) → σ' i = σ i) ∧ (∀ k : Nat, (k < 18 ∨ 18 < k) ∧ (k < 19 ∨ 19 < k) ∧ (k < 20 ∨ 20 < k) ∧ (k < 21 ∨ 21 < k) ∧ (k < 22 ∨ 22 < k) ∧ (k < 25 ∨ 25 < k) ∧ (k < 26 ∨ 26 < k) ∧ (k < 27 ∨ 27 < k) ∧ (k < 30 ∨ 30 < k) ∧ (k < 31 ∨ 31 < k) ∧ (k < 37 ∨ 37 < k) ∧ (k < 42 ∨ 42 < k) → σ' 55 k = σ 55 k) ∧ (jI119 σ') ∧ (jKept σ') ∧ (jTR σ') ∧ (jqSt σ') ∧ (((σ 55 30).toInt = -1 → (σ 55 31).toInt = -1 → jOk (σ 56) → jqWo r (¬ (0 ≤ A1 ∧ A1 < (σ 55 6).toInt ∧ 0 ≤ A2 ∧ A2 ≤ 1 ∧ (σ 55 12).toInt ≤ 8)) (A2 = 0) (jrW2 σ (σ 55 9).toInt (-1) 0) (jrW2 σ (σ 55 9).toInt (A1) (if A2 = 0 then 0 else (σ 56 (32 + (A1)).toNat).toInt + 1)))) ∧ (((σ' 55 30).toInt = (-1) ∧ (σ' 55 31).toInt = (-1)) ∨ ((σ' 55 30).toInt = (σ 55 30).toInt ∧ (σ' 55 31).toInt = (σ 55 31).toInt)) ∧ ((σ 55 42).toInt ≤ (σ' 55 42).toInt) ∧ ((σ' 55 42).toInt ≤ (σ 55 42).toInt + 2) ∧ True) := by
  refine jM.of hJ (by decide +kernel) (nt := .int) rfl (Nat.le_of_ble_eq_true rfl) ?_
  intro p e s m args below meth c Q ls hC hret hl hP
  obtain ⟨hx, hb, hr, hml, hown, hts, hK, -, hlocks, hZ⟩ := hC
  have hown : s.vm.findClass RX12 = some m.cls := hown
  have hS : va_S (jA ad) s.heap s.heap [] := va_S.rf
  have hA : ∀ q, jA ad q → jA ad q := fun _ h => h
  have hl : lv_has ls 5 [(0, .ref (ad 55)), (1, .int a1), (2, .int a2)] := hl
  have g1 := jrg t1
  have g2 := jrg t2
  obtain ⟨i1, w2, w3⟩ : (0 ≤ (σ 55 6).toInt ∧ (σ 55 6).toInt ≤ 4) ∧ (∀ k : Nat, k < 4 → 0 ≤ (σ 60 k).toInt ∧ (σ 60 k).toInt ≤ 50) ∧ (∀ k : Nat, k < 4 → 0 ≤ (σ 61 k).toInt ∧ (σ 61 k).toInt ≤ 20) := id hI102
  have i4 : 0 ≤ (σ 55 9).toInt ∧ (σ 55 9).toInt ≤ 3 := hI103
  obtain ⟨i5, i6, i7, w8, w9⟩ : (1 ≤ (σ 55 10).toInt ∧ (σ 55 10).toInt ≤ 8) ∧ (1 ≤ (σ 55 12).toInt ∧ (σ 55 12).toInt ≤ 12) ∧ (0 ≤ (σ 55 13).toInt ∧ (σ 55 13).toInt ≤ 999) ∧ (∀ k : Nat, k < 8 → 0 ≤ (σ 62 k).toInt ∧ (σ 62 k).toInt ≤ 3) ∧ (∀ k : Nat, k < 8 → 0 ≤ (σ 67 k).toInt ∧ (σ 67 k).toInt ≤ 3) := id hI104
  refine lv_aload_n hx hb dX12_worth_0 rfl (lv_at hl 0 rfl) ?_
  refine lv_iload_n hx hb dX12_worth_1 rfl (lv_at hl 1 rfl) ?_
  refine jcallV (As := [.int a1]) (rest := []) ⟨hx, hb, hml, hown, hts⟩ hK hP hA hS hZ (c_X12_isBowler l D cI cL ad zz hJ σ τ a1 (A1) t1 hI102) cw_RX12_146 (jc_55 cI cL ad σ τ) rfl ⟨Nat.le_of_ble_eq_true rfl, Nat.le_of_ble_eq_true rfl⟩ rfl rfl rfl hl.1 rfl (Nat.le_of_ble_eq_true rfl) dX12_worth_2 ⟨Nat.zero_le _, Nat.zero_le _⟩ (fun r11 σ10 τ10 H locs h10 hP hS => ?_)
  obtain ⟨⟨rfl, rfl⟩, h10⟩ := h10
  rcases h10 with h12 | h13
  · obtain ⟨q15, k14⟩ := h12
    have q15 := q15.symm
    subst q15
    refine lv_if_eq (tgt := 27) hx hb dX12_worth_5 (of_decide_eq_true rfl) (fun c => absurd c (of_decide_eq_true rfl)) (fun _ => ?_)
    refine lv_iload_n hx hb dX12_worth_8 rfl (lv_at hl 2 rfl) ?_
    refine lv_i2l (v := a2.toInt64) hx hb dX12_worth_9 rfl ?_
    refine lv_lconst (v := 0) hx hb dX12_worth_10 (of_decide_eq_true rfl) ?_
    refine lv_lconst (v := 1) hx hb dX12_worth_11 (of_decide_eq_true rfl) ?_
    refine jcallS (As := [.long a2.toInt64, .long 0, .long 1]) (rest := []) ⟨hx, hb, hml, hown, hts⟩ hK hP hA hS hZ (c_X12_within l D cI cL ad zz hJ σ τ a2.toInt64 (A2) (jtoL t2) 0 (0) jzl_0 1 (1) jzl_1) cw_RX12_136 ⟨Nat.le_of_ble_eq_true rfl, Nat.le_of_ble_eq_true rfl⟩ rfl rfl rfl hl.1 rfl (Nat.le_of_ble_eq_true rfl) dX12_worth_12 ⟨Nat.zero_le _, Nat.zero_le _⟩ (fun r17 σ16 τ16 H locs h16 hP hS => ?_)
    obtain ⟨⟨rfl, rfl⟩, h16⟩ := h16
    rcases h16 with h18 | h19
    · obtain ⟨q21, k20⟩ := h18
      have q21 := q21.symm
      subst q21
      refine lv_if_eq (tgt := 27) hx hb dX12_worth_15 (of_decide_eq_true rfl) (fun c => absurd c (of_decide_eq_true rfl)) (fun _ => ?_)
      refine lv_aload_n hx hb dX12_worth_18 rfl (lv_at hl 0 rfl) ?_
      refine va_get (D := D) hx hb hts inlX12 hown hK hP 55 (jc_55 cI cL ad σ τ) rfl 12 (of_decide_eq_true rfl) (hts _ kw_8_16) (fun _ h9 => h9) rfl dX12_worth_19 ?_
      refine lv_bipush (v := 8) hx hb dX12_worth_22 (of_decide_eq_true rfl) ?_
      refine lv_icmp_le (tgt := 30) hx hb dX12_worth_24 (of_decide_eq_true rfl) (fun c22 => ?_) (fun c22 => ?_)
      · have kc22 := jle c22 rfl jz_8
        refine lv_aload_n hx hb dX12_worth_30 rfl (lv_at hl 0 rfl) ?_
        exact by
         refine jcallV (As := []) (rest := []) ⟨hx, hb, hml, hown, hts⟩ hK hP hA hS hZ (c_X12_bestNow l D cI cL ad zz hJ σ τ hI101 hI102 hI103 hI104 hI105 hI106 hI119 hs_jKept hs_jTR hs_jqSt (by omega) (by omega)) cw_RX12_346 (jc_55 cI cL ad σ τ) rfl ⟨Nat.le_of_ble_eq_true rfl, Nat.le_of_ble_eq_true rfl⟩ rfl rfl rfl hl.1 rfl (Nat.le_of_ble_eq_true rfl) dX12_worth_31 ⟨Nat.zero_le _, Nat.zero_le _⟩ (fun r24 σ23 τ23 H locs h23 hP hS => ?_)
         obtain ⟨rfl, f25, f26, I27, p28, p29, p30, w31, h23⟩ := h23
         obtain ⟨k33, k34, h23⟩ := h23
         have h35 := h23
         obtain ⟨q37, k36⟩ := h35
         refine lv_istore_n (lv' := [(3, .int r24), (0, .ref (ad 55)), (1, .int a1), (2, .int a2)]) hx hb dX12_worth_34 rfl hl (of_decide_eq_true rfl) rfl (fun ls hl => ?_)
         refine lv_iload_n hx hb dX12_worth_35 rfl (lv_at hl 3 rfl) ?_
         refine lv_if_ne (tgt := 47) hx hb dX12_worth_36 (of_decide_eq_true rfl) (fun c38 => ?_) (fun c38 => ?_)
         · have kc38 := jne c38 t2 jz_0
           refine lv_aload_n hx hb dX12_worth_47 rfl (lv_at hl 1 rfl) ?_
           refine lv_iload_n hx hb dX12_worth_48 rfl (lv_at hl 2 rfl) ?_
           refine jput (ty := .int) hx hb hts inlX12 tyX12 tyX12_ok nmX12 hown hK hP hJ hA hS (jc_55 cI cL ad σ23 τ) rfl (k := 31) (of_decide_eq_true rfl) (Nat.le_of_ble_eq_true rfl) (jp_55_31 cI cL ad σ23 τ a1) (hts _ kw_7_17) (fun _ h9 => h9) rfl (by decide +kernel) rfl rfl dX12_worth_49 (fun σ39 H locs eσ39 hP hS => ?_)
           refine lv_aload_n hx hb dX12_worth_52 rfl (lv_at hl 1 rfl) ?_
           have I40 : jI101 σ39 := jI101_fr ((jkp 4 eσ39 (of_decide_eq_true rfl)).trans (f26 4 (of_decide_eq_true rfl))) ((jkp 5 eσ39 (of_decide_eq_true rfl)).trans (f26 5 (of_decide_eq_true rfl))) ((jnp 56 eσ39 (of_decide_eq_true rfl)).trans (f25 56 (of_decide_eq_true rfl))) ((jnp 57 eσ39 (of_decide_eq_true rfl)).trans (f25 57 (of_decide_eq_true rfl))) ((jnp 58 eσ39 (of_decide_eq_true rfl)).trans (f25 58 (of_decide_eq_true rfl))) ((jnp 59 eσ39 (of_decide_eq_true rfl)).trans (f25 59 (of_decide_eq_true rfl))) hI101
           have I41 : jI102 σ39 := jI102_fr ((jkp 6 eσ39 (of_decide_eq_true rfl)).trans (f26 6 (of_decide_eq_true rfl))) ((jnp 60 eσ39 (of_decide_eq_true rfl)).trans (f25 60 (of_decide_eq_true rfl))) ((jnp 61 eσ39 (of_decide_eq_true rfl)).trans (f25 61 (of_decide_eq_true rfl))) hI102
           have I42 : jI103 σ39 := jI103_fr ((jkp 9 eσ39 (of_decide_eq_true rfl)).trans (f26 9 (of_decide_eq_true rfl))) hI103
           have I43 : jI104 σ39 := jI104_fr ((jkp 10 eσ39 (of_decide_eq_true rfl)).trans (f26 10 (of_decide_eq_true rfl))) ((jkp 12 eσ39 (of_decide_eq_true rfl)).trans (f26 12 (of_decide_eq_true rfl))) ((jkp 13 eσ39 (of_decide_eq_true rfl)).trans (f26 13 (of_decide_eq_true rfl))) ((jnp 62 eσ39 (of_decide_eq_true rfl)).trans (f25 62 (of_decide_eq_true rfl))) ((jnp 67 eσ39 (of_decide_eq_true rfl)).trans (f25 67 (of_decide_eq_true rfl))) hI104
           have I44 : jI105 σ39 := jI105_fr ((jkp 15 eσ39 (of_decide_eq_true rfl)).trans (f26 15 (of_decide_eq_true rfl))) ((jnp 65 eσ39 (of_decide_eq_true rfl)).trans (f25 65 (of_decide_eq_true rfl))) hI105
           have I45 : jI106 σ39 := jI106_fr ((jkp 32 eσ39 (of_decide_eq_true rfl)).trans (f26 32 (of_decide_eq_true rfl))) ((jnp 70 eσ39 (of_decide_eq_true rfl)).trans (f25 70 (of_decide_eq_true rfl))) ((jnp 71 eσ39 (of_decide_eq_true rfl)).trans (f25 71 (of_decide_eq_true rfl))) ((jnp 72 eσ39 (of_decide_eq_true rfl)).trans (f25 72 (of_decide_eq_true rfl))) hI106
           have I46 : jI119 σ39 := jI119_fr (jnp 68 eσ39 (of_decide_eq_true rfl)) I27
           have p47 : jKept σ39 := jKept.fr (jnp 75 eσ39 (of_decide_eq_true rfl)) (jnp 76 eσ39 (of_decide_eq_true rfl)) (jnp 77 eσ39 (of_decide_eq_true rfl)) p28
           have p48 : jTR σ39 := jTR.fr (jnp 64 eσ39 (of_decide_eq_true rfl)) (jnp 65 eσ39 (of_decide_eq_true rfl)) p29
           have p49 : jqSt σ39 := jqSt.fr (jnp 78 eσ39 (of_decide_eq_true rfl)) (jkp 42 eσ39 (of_decide_eq_true rfl)) p30
           have z50 : (σ39 55 12).toInt = (σ 55 12).toInt := (congrArg Int32.toInt (show σ39 55 12 = (σ 55 12) from ((jkp 12 eσ39 (of_decide_eq_true rfl)).trans (f26 12 (of_decide_eq_true rfl)))))
           have z51 : (σ39 55 42).toInt = (σ23 55 42).toInt := (congrArg Int32.toInt (show σ39 55 42 = (σ23 55 42) from (jkp 42 eσ39 (of_decide_eq_true rfl))))
           exact by
            refine jcallV (As := []) (rest := []) ⟨hx, hb, hml, hown, hts⟩ hK hP hA hS hZ (c_X12_bestNow l D cI cL ad zz hJ σ39 τ I40 I41 I42 I43 I44 I45 I46 p47 p48 p49 (by omega) (by omega)) cw_RX12_346 (jc_55 cI cL ad σ39 τ) rfl ⟨Nat.le_of_ble_eq_true rfl, Nat.le_of_ble_eq_true rfl⟩ rfl rfl rfl hl.1 rfl (Nat.le_of_ble_eq_true rfl) dX12_worth_53 ⟨Nat.zero_le _, Nat.zero_le _⟩ (fun r53 σ52 τ52 H locs h52 hP hS => ?_)
            obtain ⟨rfl, f54, f55, I56, p57, p58, p59, w60, h52⟩ := h52
            obtain ⟨k62, k63, h52⟩ := h52
            have h64 := h52
            obtain ⟨q66, k65⟩ := h64
            refine lv_istore (lv' := [(4, .int r53), (3, .int r24), (0, .ref (ad 55)), (1, .int a1), (2, .int a2)]) hx hb dX12_worth_56 hl (of_decide_eq_true rfl) rfl (fun ls hl => ?_)
            refine lv_aload_n hx hb dX12_worth_58 rfl (lv_at hl 2 rfl) ?_
            refine lv_iconst (v := (-1)) hx hb dX12_worth_59 (of_decide_eq_true rfl) ?_
            refine jput (ty := .int) hx hb hts inlX12 tyX12 tyX12_ok nmX12 hown hK hP hJ hA hS (jc_55 cI cL ad σ52 τ) rfl (k := 30) (of_decide_eq_true rfl) (Nat.le_of_ble_eq_true rfl) (jp_55_30 cI cL ad σ52 τ (-1)) (hts _ kw_7_16) (fun _ h9 => h9) rfl (by decide +kernel) rfl rfl dX12_worth_60 (fun σ67 H locs eσ67 hP hS => ?_)
            refine lv_aload_n hx hb dX12_worth_63 rfl (lv_at hl 2 rfl) ?_
            refine lv_iconst (v := (-1)) hx hb dX12_worth_64 (of_decide_eq_true rfl) ?_
            refine jput (ty := .int) hx hb hts inlX12 tyX12 tyX12_ok nmX12 hown hK hP hJ hA hS (jc_55 cI cL ad σ67 τ) rfl (k := 31) (of_decide_eq_true rfl) (Nat.le_of_ble_eq_true rfl) (jp_55_31 cI cL ad σ67 τ (-1)) (hts _ kw_7_17) (fun _ h9 => h9) rfl (by decide +kernel) rfl rfl dX12_worth_65 (fun σ68 H locs eσ68 hP hS => ?_)
            refine lv_iload_n hx hb dX12_worth_68 rfl (lv_at hl 4 rfl) ?_
            exact by
             refine lv_if_ne (tgt := 79) hx hb dX12_worth_69 (of_decide_eq_true rfl) (fun c69 => ?_) (fun c => absurd (jeq c t2 jz_0) (by omega))
             have kc69 := jne c69 t2 jz_0
             refine lv_iload_n hx hb dX12_worth_79 rfl (lv_at hl 1 rfl) ?_
             refine lv_iload hx hb dX12_worth_80 (lv_at hl 0 rfl) ?_
             have g70 := jrg (rfl : r24.toInt = r24.toInt)
             have g71 := jrg (rfl : r53.toInt = r53.toInt)
             refine lv_isub hx hb dX12_worth_82 ?_
             refine lv_topi (fun x72 ex72 => ?_)
             have tx72 : x72.toInt = r24.toInt - r53.toInt := (jsub ex72 rfl rfl (by omega) (by omega)).trans (by omega)
             exact by
              have I73 : jI119 σ68 := jI119_fr ((jnp 68 eσ68 (of_decide_eq_true rfl)).trans (jnp 68 eσ67 (of_decide_eq_true rfl))) I56
              have p74 : jKept σ68 := jKept.fr ((jnp 75 eσ68 (of_decide_eq_true rfl)).trans (jnp 75 eσ67 (of_decide_eq_true rfl))) ((jnp 76 eσ68 (of_decide_eq_true rfl)).trans (jnp 76 eσ67 (of_decide_eq_true rfl))) ((jnp 77 eσ68 (of_decide_eq_true rfl)).trans (jnp 77 eσ67 (of_decide_eq_true rfl))) p57
              have p75 : jTR σ68 := jTR.fr ((jnp 64 eσ68 (of_decide_eq_true rfl)).trans (jnp 64 eσ67 (of_decide_eq_true rfl))) ((jnp 65 eσ68 (of_decide_eq_true rfl)).trans (jnp 65 eσ67 (of_decide_eq_true rfl))) p58
              have p76 : jqSt σ68 := jqSt.fr ((jnp 78 eσ68 (of_decide_eq_true rfl)).trans (jnp 78 eσ67 (of_decide_eq_true rfl))) ((jkp 42 eσ68 (of_decide_eq_true rfl)).trans (jkp 42 eσ67 (of_decide_eq_true rfl))) p59
              have z77 : (σ39 55 6).toInt = (σ 55 6).toInt := (congrArg Int32.toInt (show σ39 55 6 = (σ 55 6) from ((jkp 6 eσ39 (of_decide_eq_true rfl)).trans (f26 6 (of_decide_eq_true rfl)))))
              have z78 : (σ39 55 9).toInt = (σ 55 9).toInt := (congrArg Int32.toInt (show σ39 55 9 = (σ 55 9) from ((jkp 9 eσ39 (of_decide_eq_true rfl)).trans (f26 9 (of_decide_eq_true rfl)))))
              have z79 : (σ39 55 30).toInt = (σ 55 30).toInt := (congrArg Int32.toInt (show σ39 55 30 = (σ 55 30) from ((jkp 30 eσ39 (of_decide_eq_true rfl)).trans (f26 30 (of_decide_eq_true rfl)))))
              have z80 : (σ39 55 31).toInt = A1 := ((congrArg Int32.toInt (show σ39 55 31 = a1 from (jsp eσ39))).trans t1)
              have z81 : (σ68 55 30).toInt = (-1) := ((congrArg Int32.toInt (show σ68 55 30 = (-1) from ((jkp 30 eσ68 (of_decide_eq_true rfl)).trans (jsp eσ67)))).trans jz_m1)
              have z82 : (σ68 55 31).toInt = (-1) := ((congrArg Int32.toInt (show σ68 55 31 = (-1) from (jsp eσ68))).trans jz_m1)
              have z83 : (σ68 55 42).toInt = (σ52 55 42).toInt := (congrArg Int32.toInt (show σ68 55 42 = (σ52 55 42) from ((jkp 42 eσ68 (of_decide_eq_true rfl)).trans (jkp 42 eσ67 (of_decide_eq_true rfl)))))
              exact by exact hret x72 σ68 τ _ _ _ _ rfl ⟨rfl, (fun i hi => ((jnp i eσ68 (imp_262 i hi)).trans ((jnp i eσ67 (imp_262 i hi)).trans ((f54 i hi).trans ((jnp i eσ39 (imp_262 i hi)).trans (f25 i hi)))))), (fun i hi => ((jkp i eσ68 (imp_263 i hi)).trans ((jkp i eσ67 (imp_264 i hi)).trans ((f55 i (imp_265 i hi)).trans ((jkp i eσ39 (imp_263 i hi)).trans (f26 i (imp_265 i hi))))))), I73, p74, p75, p76, (fun wa9 wb9 ok => by have x1 := w31 (-1) 0 ok (fun c hc _ => jrOv_0 wa9 wb9 c hc) ⟨by decide, by decide⟩ (by omega); have ob := ok (A1).toNat (by omega); rw [show 32 + (A1).toNat = (32 + (A1)).toNat from by omega] at ob; have x2 := w60 (A1) ((σ 56 (32 + (A1)).toNat).toInt + 1) (by rw [show σ39 56 = σ 56 from ((jnp 56 eσ39 (of_decide_eq_true rfl)).trans (f25 56 (of_decide_eq_true rfl)))]; exact ok) (fun c hc _ => by have w9 := jrOv_om (u := σ39) (b := A1) (by omega) (by omega) (by rw [show σ39 56 = σ 56 from ((jnp 56 eσ39 (of_decide_eq_true rfl)).trans (f25 56 (of_decide_eq_true rfl)))]; exact ok) (by omega) (by omega) c hc; rw [show σ39 56 = σ 56 from ((jnp 56 eσ39 (of_decide_eq_true rfl)).trans (f25 56 (of_decide_eq_true rfl)))] at w9 ⊢; exact w9) ⟨by omega, by omega⟩ (by omega); rw [(jrW2_eq (σ := σ) (u := σ39) ((jnp 56 eσ39 (of_decide_eq_true rfl)).trans (f25 56 (of_decide_eq_true rfl))) ((jnp 60 eσ39 (of_decide_eq_true rfl)).trans (f25 60 (of_decide_eq_true rfl))) ((jnp 61 eσ39 (of_decide_eq_true rfl)).trans (f25 61 (of_decide_eq_true rfl))) ((jnp 62 eσ39 (of_decide_eq_true rfl)).trans (f25 62 (of_decide_eq_true rfl))) ((jnp 64 eσ39 (of_decide_eq_true rfl)).trans (f25 64 (of_decide_eq_true rfl))) ((jnp 65 eσ39 (of_decide_eq_true rfl)).trans (f25 65 (of_decide_eq_true rfl))) ((jkp 6 eσ39 (of_decide_eq_true rfl)).trans (f26 6 (of_decide_eq_true rfl))) ((jkp 10 eσ39 (of_decide_eq_true rfl)).trans (f26 10 (of_decide_eq_true rfl))) ((jkp 12 eσ39 (of_decide_eq_true rfl)).trans (f26 12 (of_decide_eq_true rfl))) ((jkp 13 eσ39 (of_decide_eq_true rfl)).trans (f26 13 (of_decide_eq_true rfl)))), show (σ39 55 9).toInt = (σ 55 9).toInt from by omega] at x2; exact Or.inr ⟨by omega, r53, r24, (by rw [if_neg (by omega)]; exact x2), x1, Or.inr ⟨by omega, ex72⟩⟩), (by omega), (by omega), (by omega), trivial⟩ hP hS dX12_worth_83
         · have kc38 := jeq c38 t2 jz_0
           refine lv_aload_n hx hb dX12_worth_39 rfl (lv_at hl 1 rfl) ?_
           refine lv_iload_n hx hb dX12_worth_40 rfl (lv_at hl 2 rfl) ?_
           refine jput (ty := .int) hx hb hts inlX12 tyX12 tyX12_ok nmX12 hown hK hP hJ hA hS (jc_55 cI cL ad σ23 τ) rfl (k := 30) (of_decide_eq_true rfl) (Nat.le_of_ble_eq_true rfl) (jp_55_30 cI cL ad σ23 τ a1) (hts _ kw_7_16) (fun _ h9 => h9) rfl (by decide +kernel) rfl rfl dX12_worth_41 (fun σ84 H locs eσ84 hP hS => ?_)
           refine lv_goto (tgt := 52) hx hb dX12_worth_44 (of_decide_eq_true rfl) ?_
           refine lv_aload_n hx hb dX12_worth_52 rfl (lv_at hl 1 rfl) ?_
           have I85 : jI101 σ84 := jI101_fr ((jkp 4 eσ84 (of_decide_eq_true rfl)).trans (f26 4 (of_decide_eq_true rfl))) ((jkp 5 eσ84 (of_decide_eq_true rfl)).trans (f26 5 (of_decide_eq_true rfl))) ((jnp 56 eσ84 (of_decide_eq_true rfl)).trans (f25 56 (of_decide_eq_true rfl))) ((jnp 57 eσ84 (of_decide_eq_true rfl)).trans (f25 57 (of_decide_eq_true rfl))) ((jnp 58 eσ84 (of_decide_eq_true rfl)).trans (f25 58 (of_decide_eq_true rfl))) ((jnp 59 eσ84 (of_decide_eq_true rfl)).trans (f25 59 (of_decide_eq_true rfl))) hI101
           have I86 : jI102 σ84 := jI102_fr ((jkp 6 eσ84 (of_decide_eq_true rfl)).trans (f26 6 (of_decide_eq_true rfl))) ((jnp 60 eσ84 (of_decide_eq_true rfl)).trans (f25 60 (of_decide_eq_true rfl))) ((jnp 61 eσ84 (of_decide_eq_true rfl)).trans (f25 61 (of_decide_eq_true rfl))) hI102
           have I87 : jI103 σ84 := jI103_fr ((jkp 9 eσ84 (of_decide_eq_true rfl)).trans (f26 9 (of_decide_eq_true rfl))) hI103
           have I88 : jI104 σ84 := jI104_fr ((jkp 10 eσ84 (of_decide_eq_true rfl)).trans (f26 10 (of_decide_eq_true rfl))) ((jkp 12 eσ84 (of_decide_eq_true rfl)).trans (f26 12 (of_decide_eq_true rfl))) ((jkp 13 eσ84 (of_decide_eq_true rfl)).trans (f26 13 (of_decide_eq_true rfl))) ((jnp 62 eσ84 (of_decide_eq_true rfl)).trans (f25 62 (of_decide_eq_true rfl))) ((jnp 67 eσ84 (of_decide_eq_true rfl)).trans (f25 67 (of_decide_eq_true rfl))) hI104
           have I89 : jI105 σ84 := jI105_fr ((jkp 15 eσ84 (of_decide_eq_true rfl)).trans (f26 15 (of_decide_eq_true rfl))) ((jnp 65 eσ84 (of_decide_eq_true rfl)).trans (f25 65 (of_decide_eq_true rfl))) hI105
           have I90 : jI106 σ84 := jI106_fr ((jkp 32 eσ84 (of_decide_eq_true rfl)).trans (f26 32 (of_decide_eq_true rfl))) ((jnp 70 eσ84 (of_decide_eq_true rfl)).trans (f25 70 (of_decide_eq_true rfl))) ((jnp 71 eσ84 (of_decide_eq_true rfl)).trans (f25 71 (of_decide_eq_true rfl))) ((jnp 72 eσ84 (of_decide_eq_true rfl)).trans (f25 72 (of_decide_eq_true rfl))) hI106
           have I91 : jI119 σ84 := jI119_fr (jnp 68 eσ84 (of_decide_eq_true rfl)) I27
           have p92 : jKept σ84 := jKept.fr (jnp 75 eσ84 (of_decide_eq_true rfl)) (jnp 76 eσ84 (of_decide_eq_true rfl)) (jnp 77 eσ84 (of_decide_eq_true rfl)) p28
           have p93 : jTR σ84 := jTR.fr (jnp 64 eσ84 (of_decide_eq_true rfl)) (jnp 65 eσ84 (of_decide_eq_true rfl)) p29
           have p94 : jqSt σ84 := jqSt.fr (jnp 78 eσ84 (of_decide_eq_true rfl)) (jkp 42 eσ84 (of_decide_eq_true rfl)) p30
           have z95 : (σ84 55 12).toInt = (σ 55 12).toInt := (congrArg Int32.toInt (show σ84 55 12 = (σ 55 12) from ((jkp 12 eσ84 (of_decide_eq_true rfl)).trans (f26 12 (of_decide_eq_true rfl)))))
           have z96 : (σ84 55 42).toInt = (σ23 55 42).toInt := (congrArg Int32.toInt (show σ84 55 42 = (σ23 55 42) from (jkp 42 eσ84 (of_decide_eq_true rfl))))
           exact by
            refine jcallV (As := []) (rest := []) ⟨hx, hb, hml, hown, hts⟩ hK hP hA hS hZ (c_X12_bestNow l D cI cL ad zz hJ σ84 τ I85 I86 I87 I88 I89 I90 I91 p92 p93 p94 (by omega) (by omega)) cw_RX12_346 (jc_55 cI cL ad σ84 τ) rfl ⟨Nat.le_of_ble_eq_true rfl, Nat.le_of_ble_eq_true rfl⟩ rfl rfl rfl hl.1 rfl (Nat.le_of_ble_eq_true rfl) dX12_worth_53 ⟨Nat.zero_le _, Nat.zero_le _⟩ (fun r98 σ97 τ97 H locs h97 hP hS => ?_)
            obtain ⟨rfl, f99, f100, I101, p102, p103, p104, w105, h97⟩ := h97
            obtain ⟨k107, k108, h97⟩ := h97
            have h109 := h97
            obtain ⟨q111, k110⟩ := h109
            refine lv_istore (lv' := [(4, .int r98), (3, .int r24), (0, .ref (ad 55)), (1, .int a1), (2, .int a2)]) hx hb dX12_worth_56 hl (of_decide_eq_true rfl) rfl (fun ls hl => ?_)
            refine lv_aload_n hx hb dX12_worth_58 rfl (lv_at hl 2 rfl) ?_
            refine lv_iconst (v := (-1)) hx hb dX12_worth_59 (of_decide_eq_true rfl) ?_
            refine jput (ty := .int) hx hb hts inlX12 tyX12 tyX12_ok nmX12 hown hK hP hJ hA hS (jc_55 cI cL ad σ97 τ) rfl (k := 30) (of_decide_eq_true rfl) (Nat.le_of_ble_eq_true rfl) (jp_55_30 cI cL ad σ97 τ (-1)) (hts _ kw_7_16) (fun _ h9 => h9) rfl (by decide +kernel) rfl rfl dX12_worth_60 (fun σ112 H locs eσ112 hP hS => ?_)
            refine lv_aload_n hx hb dX12_worth_63 rfl (lv_at hl 2 rfl) ?_
            refine lv_iconst (v := (-1)) hx hb dX12_worth_64 (of_decide_eq_true rfl) ?_
            refine jput (ty := .int) hx hb hts inlX12 tyX12 tyX12_ok nmX12 hown hK hP hJ hA hS (jc_55 cI cL ad σ112 τ) rfl (k := 31) (of_decide_eq_true rfl) (Nat.le_of_ble_eq_true rfl) (jp_55_31 cI cL ad σ112 τ (-1)) (hts _ kw_7_17) (fun _ h9 => h9) rfl (by decide +kernel) rfl rfl dX12_worth_65 (fun σ113 H locs eσ113 hP hS => ?_)
            refine lv_iload_n hx hb dX12_worth_68 rfl (lv_at hl 4 rfl) ?_
            exact by
             refine lv_if_ne (tgt := 79) hx hb dX12_worth_69 (of_decide_eq_true rfl) (fun c => absurd (jne c t2 jz_0) (by omega)) (fun c114 => ?_)
             have kc114 := jeq c114 t2 jz_0
             refine lv_iload hx hb dX12_worth_72 (lv_at hl 0 rfl) ?_
             refine lv_iload_n hx hb dX12_worth_74 rfl (lv_at hl 1 rfl) ?_
             have g115 := jrg (rfl : r98.toInt = r98.toInt)
             have g116 := jrg (rfl : r24.toInt = r24.toInt)
             refine lv_isub hx hb dX12_worth_75 ?_
             refine lv_topi (fun x117 ex117 => ?_)
             have tx117 : x117.toInt = r98.toInt - r24.toInt := (jsub ex117 rfl rfl (by omega) (by omega)).trans (by omega)
             exact by
              refine lv_goto (tgt := 83) hx hb dX12_worth_76 (of_decide_eq_true rfl) ?_
              have I118 : jI119 σ113 := jI119_fr ((jnp 68 eσ113 (of_decide_eq_true rfl)).trans (jnp 68 eσ112 (of_decide_eq_true rfl))) I101
              have p119 : jKept σ113 := jKept.fr ((jnp 75 eσ113 (of_decide_eq_true rfl)).trans (jnp 75 eσ112 (of_decide_eq_true rfl))) ((jnp 76 eσ113 (of_decide_eq_true rfl)).trans (jnp 76 eσ112 (of_decide_eq_true rfl))) ((jnp 77 eσ113 (of_decide_eq_true rfl)).trans (jnp 77 eσ112 (of_decide_eq_true rfl))) p102
              have p120 : jTR σ113 := jTR.fr ((jnp 64 eσ113 (of_decide_eq_true rfl)).trans (jnp 64 eσ112 (of_decide_eq_true rfl))) ((jnp 65 eσ113 (of_decide_eq_true rfl)).trans (jnp 65 eσ112 (of_decide_eq_true rfl))) p103
              have p121 : jqSt σ113 := jqSt.fr ((jnp 78 eσ113 (of_decide_eq_true rfl)).trans (jnp 78 eσ112 (of_decide_eq_true rfl))) ((jkp 42 eσ113 (of_decide_eq_true rfl)).trans (jkp 42 eσ112 (of_decide_eq_true rfl))) p104
              have z122 : (σ84 55 6).toInt = (σ 55 6).toInt := (congrArg Int32.toInt (show σ84 55 6 = (σ 55 6) from ((jkp 6 eσ84 (of_decide_eq_true rfl)).trans (f26 6 (of_decide_eq_true rfl)))))
              have z123 : (σ84 55 9).toInt = (σ 55 9).toInt := (congrArg Int32.toInt (show σ84 55 9 = (σ 55 9) from ((jkp 9 eσ84 (of_decide_eq_true rfl)).trans (f26 9 (of_decide_eq_true rfl)))))
              have z124 : (σ84 55 30).toInt = A1 := ((congrArg Int32.toInt (show σ84 55 30 = a1 from (jsp eσ84))).trans t1)
              have z125 : (σ84 55 31).toInt = (σ 55 31).toInt := (congrArg Int32.toInt (show σ84 55 31 = (σ 55 31) from ((jkp 31 eσ84 (of_decide_eq_true rfl)).trans (f26 31 (of_decide_eq_true rfl)))))
              have z126 : (σ113 55 30).toInt = (-1) := ((congrArg Int32.toInt (show σ113 55 30 = (-1) from ((jkp 30 eσ113 (of_decide_eq_true rfl)).trans (jsp eσ112)))).trans jz_m1)
              have z127 : (σ113 55 31).toInt = (-1) := ((congrArg Int32.toInt (show σ113 55 31 = (-1) from (jsp eσ113))).trans jz_m1)
              have z128 : (σ113 55 42).toInt = (σ97 55 42).toInt := (congrArg Int32.toInt (show σ113 55 42 = (σ97 55 42) from ((jkp 42 eσ113 (of_decide_eq_true rfl)).trans (jkp 42 eσ112 (of_decide_eq_true rfl)))))
              exact by exact hret x117 σ113 τ _ _ _ _ rfl ⟨rfl, (fun i hi => ((jnp i eσ113 (imp_262 i hi)).trans ((jnp i eσ112 (imp_262 i hi)).trans ((f99 i hi).trans ((jnp i eσ84 (imp_262 i hi)).trans (f25 i hi)))))), (fun i hi => ((jkp i eσ113 (imp_263 i hi)).trans ((jkp i eσ112 (imp_264 i hi)).trans ((f100 i (imp_265 i hi)).trans ((jkp i eσ84 (imp_264 i hi)).trans (f26 i (imp_265 i hi))))))), I118, p119, p120, p121, (fun wa9 wb9 ok => by have x1 := w31 (-1) 0 ok (fun c hc _ => jrOv_0 wa9 wb9 c hc) ⟨by decide, by decide⟩ (by omega); have ob := ok (A1).toNat (by omega); rw [show 32 + (A1).toNat = (32 + (A1)).toNat from by omega] at ob; have x2 := w105 (A1) 0 (by rw [show σ84 56 = σ 56 from ((jnp 56 eσ84 (of_decide_eq_true rfl)).trans (f25 56 (of_decide_eq_true rfl)))]; exact ok) (fun c hc _ => jrOv_wo (by omega) (by omega) c hc) ⟨by decide, by decide⟩ (by omega); rw [(jrW2_eq (σ := σ) (u := σ84) ((jnp 56 eσ84 (of_decide_eq_true rfl)).trans (f25 56 (of_decide_eq_true rfl))) ((jnp 60 eσ84 (of_decide_eq_true rfl)).trans (f25 60 (of_decide_eq_true rfl))) ((jnp 61 eσ84 (of_decide_eq_true rfl)).trans (f25 61 (of_decide_eq_true rfl))) ((jnp 62 eσ84 (of_decide_eq_true rfl)).trans (f25 62 (of_decide_eq_true rfl))) ((jnp 64 eσ84 (of_decide_eq_true rfl)).trans (f25 64 (of_decide_eq_true rfl))) ((jnp 65 eσ84 (of_decide_eq_true rfl)).trans (f25 65 (of_decide_eq_true rfl))) ((jkp 6 eσ84 (of_decide_eq_true rfl)).trans (f26 6 (of_decide_eq_true rfl))) ((jkp 10 eσ84 (of_decide_eq_true rfl)).trans (f26 10 (of_decide_eq_true rfl))) ((jkp 12 eσ84 (of_decide_eq_true rfl)).trans (f26 12 (of_decide_eq_true rfl))) ((jkp 13 eσ84 (of_decide_eq_true rfl)).trans (f26 13 (of_decide_eq_true rfl)))), show (σ84 55 9).toInt = (σ 55 9).toInt from by omega] at x2; exact Or.inr ⟨by omega, r98, r24, (by rw [if_pos (by omega)]; exact x2), x1, Or.inl ⟨by omega, ex117⟩⟩), (by omega), (by omega), (by omega), trivial⟩ hP hS dX12_worth_83
      · have kc22 := jnle c22 rfl jz_8
        refine lv_ldc (v := (-2000000000)) hx hb hown (hts _ kw_11_4) dX12_worth_27 ?_
        exact by exact hret (-2000000000) σ τ _ _ _ _ rfl ⟨rfl, (fun _ _ => rfl), (fun _ _ => rfl), hI119, hs_jKept, hs_jTR, hs_jqSt, (fun wa9 wb9 ok => Or.inl ⟨by omega, rfl⟩), (by omega), (by omega), (by omega), trivial⟩ hP hS dX12_worth_29
    · obtain ⟨q130, k129⟩ := h19
      have q130 := q130.symm
      subst q130
      refine lv_if_eq (tgt := 27) hx hb dX12_worth_15 (of_decide_eq_true rfl) (fun _ => ?_) (fun c => absurd (of_decide_eq_true rfl) c)
      refine lv_ldc (v := (-2000000000)) hx hb hown (hts _ kw_11_4) dX12_worth_27 ?_
      exact by exact hret (-2000000000) σ τ _ _ _ _ rfl ⟨rfl, (fun _ _ => rfl), (fun _ _ => rfl), hI119, hs_jKept, hs_jTR, hs_jqSt, (fun wa9 wb9 ok => Or.inl ⟨by omega, rfl⟩), (by omega), (by omega), (by omega), trivial⟩ hP hS dX12_worth_29
  · obtain ⟨q132, k131⟩ := h13
    have q132 := q132.symm
    subst q132
    refine lv_if_eq (tgt := 27) hx hb dX12_worth_5 (of_decide_eq_true rfl) (fun _ => ?_) (fun c => absurd (of_decide_eq_true rfl) c)
    refine lv_ldc (v := (-2000000000)) hx hb hown (hts _ kw_11_4) dX12_worth_27 ?_
    exact by exact hret (-2000000000) σ τ _ _ _ _ rfl ⟨rfl, (fun _ _ => rfl), (fun _ _ => rfl), hI119, hs_jKept, hs_jTR, hs_jqSt, (fun wa9 wb9 ok => Or.inl ⟨by omega, rfl⟩), (by omega), (by omega), (by omega), trivial⟩ hP hS dX12_worth_29
set_option maxHeartbeats 4000000 in
set_option maxRecDepth 100000 in
theorem c_X12_fielded (l : Launch) (D : va_G) (cI cL : ClassId) (ad zz : Nat → Nat) (hJ : jD ad) (σ : Nat → Nat → Int32) (τ : Nat → Nat → Int64) (a1 : Int32) (A1 : Int) (t1 : a1.toInt = A1) (a2 : Int32) (A2 : Int) (t2 : a2.toInt = A2) (hI101 : jI101 σ) (hI102 : jI102 σ) (hI103 : jI103 σ) (hI104 : jI104 σ) (hI105 : jI105 σ) (hI106 : jI106 σ) (hI119 : jI119 σ) (hs_jKept : jKept σ) (hs_jTR : jTR σ) (hs_jqSt : jqSt σ) (hp0 : 0 ≤ (σ 55 42).toInt ∧ (σ 55 42).toInt ≤ 999999992) : jM l yX12_fielded cX12_fielded 9 (some .int) ({ frames := 104, cells := 0, slots := 0, locals := 5081 }) D cI cL ad zz [.ref (ad 55), .int a1, .int a2] σ τ (fun r σ' τ' => τ = τ' ∧ (∀ i : Nat, (i < 55 ∨ 55 < i) ∧ (i < 66 ∨ 66 < i) ∧ (i < 68 ∨ 69 < i) ∧ (i < 74 ∨ 78 < i) → σ' i = σ i) ∧ (∀ k : Nat, (k < 9 ∨ 9 < k) ∧ (k < 18 ∨ 18 < k) ∧ (k < 19 ∨ 19 < k) ∧ (k < 20 ∨ 20 < k) ∧ (k < 21 ∨ 21 < k) ∧ (k < 22 ∨ 22 < k) ∧ (k < 25 ∨ 25 < k) ∧ (k < 26 ∨ 26 < k) ∧ (k < 27 ∨ 27 < k) ∧ (k < 37 ∨ 37 < k) ∧ (k < 42 ∨ 42 < k) → σ' 55 k = σ 55 k) ∧ (jI103 σ') ∧ (jI119 σ') ∧ (jKept σ') ∧ (jTR σ') ∧ (jqSt σ') ∧ (((σ 55 30).toInt = -1 → (σ 55 31).toInt = -1 → jOk (σ 56) → jqFd (r : Int32).toInt (A1) (A2) (σ 55 12).toInt (fun k : Nat => jrW2 σ (k : Int) (-1) 0))) ∧ ((σ' 55 9).toInt = (σ 55 9).toInt) ∧ ((σ 55 42).toInt ≤ (σ' 55 42).toInt) ∧ ((σ' 55 42).toInt ≤ (σ 55 42).toInt + 4) ∧ True) := by
  refine jM.of hJ (by decide +kernel) (nt := .int) rfl (Nat.le_of_ble_eq_true rfl) ?_
  intro p e s m args below meth c Q ls hC hret hl hP
  obtain ⟨hx, hb, hr, hml, hown, hts, hK, -, hlocks, hZ⟩ := hC
  have hown : s.vm.findClass RX12 = some m.cls := hown
  have hS : va_S (jA ad) s.heap s.heap [] := va_S.rf
  have hA : ∀ q, jA ad q → jA ad q := fun _ h => h
  have hl : lv_has ls 9 [(0, .ref (ad 55)), (1, .int a1), (2, .int a2)] := hl
  have g1 := jrg t1
  have g2 := jrg t2
  obtain ⟨i1, w2, w3⟩ : (0 ≤ (σ 55 6).toInt ∧ (σ 55 6).toInt ≤ 4) ∧ (∀ k : Nat, k < 4 → 0 ≤ (σ 60 k).toInt ∧ (σ 60 k).toInt ≤ 50) ∧ (∀ k : Nat, k < 4 → 0 ≤ (σ 61 k).toInt ∧ (σ 61 k).toInt ≤ 20) := id hI102
  have i4 : 0 ≤ (σ 55 9).toInt ∧ (σ 55 9).toInt ≤ 3 := hI103
  obtain ⟨i5, i6, i7, w8, w9⟩ : (1 ≤ (σ 55 10).toInt ∧ (σ 55 10).toInt ≤ 8) ∧ (1 ≤ (σ 55 12).toInt ∧ (σ 55 12).toInt ≤ 12) ∧ (0 ≤ (σ 55 13).toInt ∧ (σ 55 13).toInt ≤ 999) ∧ (∀ k : Nat, k < 8 → 0 ≤ (σ 62 k).toInt ∧ (σ 62 k).toInt ≤ 3) ∧ (∀ k : Nat, k < 8 → 0 ≤ (σ 67 k).toInt ∧ (σ 67 k).toInt ≤ 3) := id hI104
  refine lv_iload_n hx hb dX12_fielded_0 rfl (lv_at hl 2 rfl) ?_
  refine lv_i2l (v := a2.toInt64) hx hb dX12_fielded_1 rfl ?_
  refine lv_lconst (v := 0) hx hb dX12_fielded_2 (of_decide_eq_true rfl) ?_
  refine lv_lconst (v := 1) hx hb dX12_fielded_3 (of_decide_eq_true rfl) ?_
  refine jcallS (As := [.long a2.toInt64, .long 0, .long 1]) (rest := []) ⟨hx, hb, hml, hown, hts⟩ hK hP hA hS hZ (c_X12_within l D cI cL ad zz hJ σ τ a2.toInt64 (A2) (jtoL t2) 0 (0) jzl_0 1 (1) jzl_1) cw_RX12_136 ⟨Nat.le_of_ble_eq_true rfl, Nat.le_of_ble_eq_true rfl⟩ rfl rfl rfl hl.1 rfl (Nat.le_of_ble_eq_true rfl) dX12_fielded_4 ⟨Nat.zero_le _, Nat.zero_le _⟩ (fun r11 σ10 τ10 H locs h10 hP hS => ?_)
  obtain ⟨⟨rfl, rfl⟩, h10⟩ := h10
  rcases h10 with h12 | h13
  · obtain ⟨q15, k14⟩ := h12
    have q15 := q15.symm
    subst q15
    refine lv_if_eq (tgt := 26) hx hb dX12_fielded_7 (of_decide_eq_true rfl) (fun c => absurd c (of_decide_eq_true rfl)) (fun _ => ?_)
    refine lv_iload_n hx hb dX12_fielded_10 rfl (lv_at hl 2 rfl) ?_
    refine lv_if_ne (tgt := 28) hx hb dX12_fielded_11 (of_decide_eq_true rfl) (fun c16 => ?_) (fun c16 => ?_)
    · have kc16 := jne c16 t2 jz_0
      refine lv_aload_n hx hb dX12_fielded_28 rfl (lv_at hl 0 rfl) ?_
      refine va_get (D := D) hx hb hts inlX12 hown hK hP 55 (jc_55 cI cL ad σ τ) rfl 12 (of_decide_eq_true rfl) (hts _ kw_8_16) (fun _ h9 => h9) rfl dX12_fielded_29 ?_
      refine lv_bipush (v := 8) hx hb dX12_fielded_32 (of_decide_eq_true rfl) ?_
      refine lv_icmp_le (tgt := 40) hx hb dX12_fielded_34 (of_decide_eq_true rfl) (fun c17 => ?_) (fun c17 => ?_)
      · have kc17 := jle c17 rfl jz_8
        refine lv_aload_n hx hb dX12_fielded_40 rfl (lv_at hl 0 rfl) ?_
        refine va_get (D := D) hx hb hts inlX12 hown hK hP 55 (jc_55 cI cL ad σ τ) rfl 9 (of_decide_eq_true rfl) (hts _ kw_12_14) (fun _ h9 => h9) rfl dX12_fielded_41 ?_
        refine lv_istore_n (lv' := [(3, .int (σ 55 9)), (0, .ref (ad 55)), (1, .int a1), (2, .int a2)]) hx hb dX12_fielded_44 rfl hl (of_decide_eq_true rfl) rfl (fun ls hl => ?_)
        refine lv_iconst (v := 0) hx hb dX12_fielded_45 (of_decide_eq_true rfl) ?_
        refine lv_istore (lv' := [(4, .int 0), (3, .int (σ 55 9)), (0, .ref (ad 55)), (1, .int a1), (2, .int a2)]) hx hb dX12_fielded_46 hl (of_decide_eq_true rfl) rfl (fun ls hl => ?_)
        refine lv_ldcw (v := 2000000000) hx hb hown (hts _ kw_34_4) dX12_fielded_48 ?_
        refine lv_istore (lv' := [(5, .int 2000000000), (4, .int 0), (3, .int (σ 55 9)), (0, .ref (ad 55)), (1, .int a1), (2, .int a2)]) hx hb dX12_fielded_51 hl (of_decide_eq_true rfl) rfl (fun ls hl => ?_)
        refine lv_iconst (v := 0) hx hb dX12_fielded_53 (of_decide_eq_true rfl) ?_
        refine lv_istore (lv' := [(6, .int 0), (5, .int 2000000000), (4, .int 0), (3, .int (σ 55 9)), (0, .ref (ad 55)), (1, .int a1), (2, .int a2)]) hx hb dX12_fielded_54 hl (of_decide_eq_true rfl) rfl (fun ls hl => ?_)
        refine lv_iconst (v := 0) hx hb dX12_fielded_56 (of_decide_eq_true rfl) ?_
        refine lv_istore (lv' := [(7, .int 0), (6, .int 0), (5, .int 2000000000), (4, .int 0), (3, .int (σ 55 9)), (0, .ref (ad 55)), (1, .int a1), (2, .int a2)]) hx hb dX12_fielded_57 hl (of_decide_eq_true rfl) rfl (fun ls hl => ?_)
        have lp18 : ∀ (n19 : Nat) (x20 : Int32) (x21 : Int32) (x22 : Int32) (x23 : Int32) (σ25 : Nat → Nat → Int32) (H : Heap) (locs : List Loc) (ls : Array Slot), (-x23.toInt + 4 : Int) < n19 → 0 ≤ x20.toInt → x20.toInt ≤ 3 → 0 ≤ x23.toInt → x23.toInt ≤ 4 → (σ 55 42).toInt ≤ (σ25 55 42).toInt → (σ25 55 42).toInt ≤ (σ 55 42).toInt + x23.toInt → (∀ i : Nat, (i < 55 ∨ 55 < i) ∧ (i < 66 ∨ 66 < i) ∧ (i < 68 ∨ 69 < i) ∧ (i < 74 ∨ 78 < i) → σ25 i = σ i) → (∀ k : Nat, (k < 9 ∨ 9 < k) ∧ (k < 18 ∨ 18 < k) ∧ (k < 19 ∨ 19 < k) ∧ (k < 20 ∨ 20 < k) ∧ (k < 21 ∨ 21 < k) ∧ (k < 22 ∨ 22 < k) ∧ (k < 25 ∨ 25 < k) ∧ (k < 26 ∨ 26 < k) ∧ (k < 27 ∨ 27 < k) ∧ (k < 37 ∨ 37 < k) ∧ (k < 42 ∨ 42 < k) → σ25 55 k = σ 55 k) → jKept σ25 → jqSt σ25 → jI103 σ25 → jI119 σ25 → (((σ 55 30).toInt = -1 → (σ 55 31).toInt = -1 → jOk (σ 56) → ((A2) ≠ 0 → ((x23 : Int32).toInt = 0 ∧ (x20 : Int32).toInt = 0 ∧ (x21 : Int32).toInt = 2000000000) ∨ jqLe (fun k : Nat => jrW2 σ (k : Int) (-1) 0) (x23 : Int32).toInt (x20 : Int32).toInt (x21 : Int32).toInt) ∧ ((A2) = 0 → 0 ≤ (A1) → (A1) < (x23 : Int32).toInt → (x22 : Int32).toInt = (fun k : Nat => jrW2 σ (k : Int) (-1) 0) (A1).toNat))) → jH D cI cL ad σ25 τ H → va_S (jA ad) s.heap H locs → lv_has ls 9 [(7, .int x23), (6, .int x22), (5, .int x21), (4, .int x20), (3, .int (σ 55 9)), (0, .ref (ad 55)), (1, .int a1), (2, .int a2)] → W p l e ({ frames := 104, cells := 0, slots := 0, locals := 5081 }) s m args below meth c H locs 0 0 Q (F0 m 59 ls []) := by
          intro n19
          induction n19 with
          | zero => intro x20 x21 x22 x23 σ25 H locs ls h27 h28 h29 h30 h31 h32 h33; have gx21 := jrg (rfl : x21.toInt = x21.toInt); have gx22 := jrg (rfl : x22.toInt = x22.toInt); exact absurd h27 (by omega)
          | succ n19 ihlp18 =>
            intro x20 x21 x22 x23 σ25 H locs ls h27 h28 h29 h30 h31 h32 h33 f34 f35 p36 p37 p38 p39 q40 hP hS hl
            exact by
             have gx21 := jrg (rfl : x21.toInt = x21.toInt); have gx22 := jrg (rfl : x22.toInt = x22.toInt)
             have i41 : 0 ≤ (σ25 55 9).toInt ∧ (σ25 55 9).toInt ≤ 3 := p38
             refine lv_iload hx hb dX12_fielded_59 (lv_at hl 0 rfl) ?_
             refine lv_iconst (v := 4) hx hb dX12_fielded_61 (of_decide_eq_true rfl) ?_
             refine lv_icmp_ge (tgt := 129) hx hb dX12_fielded_62 (of_decide_eq_true rfl) (fun c42 => ?_) (fun c42 => ?_)
             · have kc42 := jle c42 jz_4 rfl
               refine lv_aload_n hx hb dX12_fielded_129 rfl (lv_at hl 5 rfl) ?_
               refine lv_iload_n hx hb dX12_fielded_130 rfl (lv_at hl 4 rfl) ?_
               refine jput (ty := .int) hx hb hts inlX12 tyX12 tyX12_ok nmX12 hown hK hP hJ hA hS (jc_55 cI cL ad σ25 τ) rfl (k := 9) (of_decide_eq_true rfl) (Nat.le_of_ble_eq_true rfl) (jp_55_9 cI cL ad σ25 τ (σ 55 9)) (hts _ kw_12_14) (fun _ h9 => h9) rfl (by decide +kernel) rfl rfl dX12_fielded_131 (fun σ43 H locs eσ43 hP hS => ?_)
               refine lv_iload_n hx hb dX12_fielded_134 rfl (lv_at hl 7 rfl) ?_
               exact by
                refine lv_if_ne (tgt := 143) hx hb dX12_fielded_135 (of_decide_eq_true rfl) (fun c44 => ?_) (fun c => absurd (jeq c t2 jz_0) (by omega))
                have kc44 := jne c44 t2 jz_0
                refine lv_iload hx hb dX12_fielded_143 (lv_at hl 3 rfl) ?_
                have z45 : (σ43 55 9).toInt = (σ 55 9).toInt := (congrArg Int32.toInt (show σ43 55 9 = (σ 55 9) from (jsp eσ43)))
                have I46 : jI103 σ43 := (show 0 ≤ (σ43 55 9).toInt ∧ (σ43 55 9).toInt ≤ 3 by omega)
                have I47 : jI119 σ43 := jI119_fr (jnp 68 eσ43 (of_decide_eq_true rfl)) p39
                have p48 : jKept σ43 := jKept.fr (jnp 75 eσ43 (of_decide_eq_true rfl)) (jnp 76 eσ43 (of_decide_eq_true rfl)) (jnp 77 eσ43 (of_decide_eq_true rfl)) p36
                have p49 : jTR σ43 := jTR.fr ((jnp 64 eσ43 (of_decide_eq_true rfl)).trans (f34 64 (of_decide_eq_true rfl))) ((jnp 65 eσ43 (of_decide_eq_true rfl)).trans (f34 65 (of_decide_eq_true rfl))) hs_jTR
                have p50 : jqSt σ43 := jqSt.fr (jnp 78 eσ43 (of_decide_eq_true rfl)) (jkp 42 eσ43 (of_decide_eq_true rfl)) p37
                have z51 : (σ43 55 42).toInt = (σ25 55 42).toInt := (congrArg Int32.toInt (show σ43 55 42 = (σ25 55 42) from (jkp 42 eσ43 (of_decide_eq_true rfl))))
                exact by exact hret x20 σ43 τ _ _ _ _ rfl ⟨rfl, (fun i hi => ((jnp i eσ43 (imp_262 i hi)).trans (f34 i hi))), (fun i hi => ((jkp i eσ43 (imp_266 i hi)).trans (f35 i hi))), I46, I47, p48, p49, p50, (fun wa9 wb9 ok => Or.inr ⟨⟨by omega, by omega⟩, fun z => by omega, Or.inr (Or.inr ⟨by omega, by omega, _, (Or.elim ((q40 wa9 wb9 ok).1 (by omega)) (fun z => False.elim (by omega)) (fun z => by rw [show (x23 : Int32).toInt = 4 from by omega] at z; exact z))⟩)⟩), (by omega), (by omega), (by omega), trivial⟩ hP hS dX12_fielded_145
             · have kc42 := jnle c42 jz_4 rfl
               refine lv_aload_n hx hb dX12_fielded_65 rfl (lv_at hl 5 rfl) ?_
               refine lv_iload hx hb dX12_fielded_66 (lv_at hl 0 rfl) ?_
               refine jput (ty := .int) hx hb hts inlX12 tyX12 tyX12_ok nmX12 hown hK hP hJ hA hS (jc_55 cI cL ad σ25 τ) rfl (k := 9) (of_decide_eq_true rfl) (Nat.le_of_ble_eq_true rfl) (jp_55_9 cI cL ad σ25 τ x23) (hts _ kw_12_14) (fun _ h9 => h9) rfl (by decide +kernel) rfl rfl dX12_fielded_68 (fun σ52 H locs eσ52 hP hS => ?_)
               refine lv_iload_n hx hb dX12_fielded_71 rfl (lv_at hl 7 rfl) ?_
               exact by
                refine lv_if_ne (tgt := 87) hx hb dX12_fielded_72 (of_decide_eq_true rfl) (fun c53 => ?_) (fun c => absurd (jeq c t2 jz_0) (by omega))
                have kc53 := jne c53 t2 jz_0
                refine lv_aload_n hx hb dX12_fielded_87 rfl (lv_at hl 5 rfl) ?_
                have I54 : jI101 σ52 := jI101_fr ((jkp 4 eσ52 (of_decide_eq_true rfl)).trans (f35 4 (of_decide_eq_true rfl))) ((jkp 5 eσ52 (of_decide_eq_true rfl)).trans (f35 5 (of_decide_eq_true rfl))) ((jnp 56 eσ52 (of_decide_eq_true rfl)).trans (f34 56 (of_decide_eq_true rfl))) ((jnp 57 eσ52 (of_decide_eq_true rfl)).trans (f34 57 (of_decide_eq_true rfl))) ((jnp 58 eσ52 (of_decide_eq_true rfl)).trans (f34 58 (of_decide_eq_true rfl))) ((jnp 59 eσ52 (of_decide_eq_true rfl)).trans (f34 59 (of_decide_eq_true rfl))) hI101
                have I55 : jI102 σ52 := jI102_fr ((jkp 6 eσ52 (of_decide_eq_true rfl)).trans (f35 6 (of_decide_eq_true rfl))) ((jnp 60 eσ52 (of_decide_eq_true rfl)).trans (f34 60 (of_decide_eq_true rfl))) ((jnp 61 eσ52 (of_decide_eq_true rfl)).trans (f34 61 (of_decide_eq_true rfl))) hI102
                have z56 : (σ52 55 9).toInt = x23.toInt := (congrArg Int32.toInt (show σ52 55 9 = x23 from (jsp eσ52)))
                have I57 : jI103 σ52 := (show 0 ≤ (σ52 55 9).toInt ∧ (σ52 55 9).toInt ≤ 3 by omega)
                have I58 : jI104 σ52 := jI104_fr ((jkp 10 eσ52 (of_decide_eq_true rfl)).trans (f35 10 (of_decide_eq_true rfl))) ((jkp 12 eσ52 (of_decide_eq_true rfl)).trans (f35 12 (of_decide_eq_true rfl))) ((jkp 13 eσ52 (of_decide_eq_true rfl)).trans (f35 13 (of_decide_eq_true rfl))) ((jnp 62 eσ52 (of_decide_eq_true rfl)).trans (f34 62 (of_decide_eq_true rfl))) ((jnp 67 eσ52 (of_decide_eq_true rfl)).trans (f34 67 (of_decide_eq_true rfl))) hI104
                have I59 : jI105 σ52 := jI105_fr ((jkp 15 eσ52 (of_decide_eq_true rfl)).trans (f35 15 (of_decide_eq_true rfl))) ((jnp 65 eσ52 (of_decide_eq_true rfl)).trans (f34 65 (of_decide_eq_true rfl))) hI105
                have I60 : jI106 σ52 := jI106_fr ((jkp 32 eσ52 (of_decide_eq_true rfl)).trans (f35 32 (of_decide_eq_true rfl))) ((jnp 70 eσ52 (of_decide_eq_true rfl)).trans (f34 70 (of_decide_eq_true rfl))) ((jnp 71 eσ52 (of_decide_eq_true rfl)).trans (f34 71 (of_decide_eq_true rfl))) ((jnp 72 eσ52 (of_decide_eq_true rfl)).trans (f34 72 (of_decide_eq_true rfl))) hI106
                have I61 : jI119 σ52 := jI119_fr (jnp 68 eσ52 (of_decide_eq_true rfl)) p39
                have p62 : jKept σ52 := jKept.fr (jnp 75 eσ52 (of_decide_eq_true rfl)) (jnp 76 eσ52 (of_decide_eq_true rfl)) (jnp 77 eσ52 (of_decide_eq_true rfl)) p36
                have p63 : jTR σ52 := jTR.fr ((jnp 64 eσ52 (of_decide_eq_true rfl)).trans (f34 64 (of_decide_eq_true rfl))) ((jnp 65 eσ52 (of_decide_eq_true rfl)).trans (f34 65 (of_decide_eq_true rfl))) hs_jTR
                have p64 : jqSt σ52 := jqSt.fr (jnp 78 eσ52 (of_decide_eq_true rfl)) (jkp 42 eσ52 (of_decide_eq_true rfl)) p37
                have z65 : (σ52 55 12).toInt = (σ 55 12).toInt := (congrArg Int32.toInt (show σ52 55 12 = (σ 55 12) from ((jkp 12 eσ52 (of_decide_eq_true rfl)).trans (f35 12 (of_decide_eq_true rfl)))))
                have z66 : (σ52 55 42).toInt = (σ25 55 42).toInt := (congrArg Int32.toInt (show σ52 55 42 = (σ25 55 42) from (jkp 42 eσ52 (of_decide_eq_true rfl))))
                exact by
                 refine jcallV (As := []) (rest := []) ⟨hx, hb, hml, hown, hts⟩ hK hP hA hS hZ (c_X12_bestNow l D cI cL ad zz hJ σ52 τ I54 I55 I57 I58 I59 I60 I61 p62 p63 p64 (by omega) (by omega)) cw_RX12_346 (jc_55 cI cL ad σ52 τ) rfl ⟨Nat.le_of_ble_eq_true rfl, Nat.le_of_ble_eq_true rfl⟩ rfl rfl rfl hl.1 rfl (Nat.le_of_ble_eq_true rfl) dX12_fielded_88 ⟨Nat.zero_le _, Nat.zero_le _⟩ (fun r68 σ67 τ67 H locs h67 hP hS => ?_)
                 obtain ⟨rfl, f69, f70, I71, p72, p73, p74, w75, h67⟩ := h67
                 obtain ⟨k77, k78, h67⟩ := h67
                 have h79 := h67
                 obtain ⟨q81, k80⟩ := h79
                 refine lv_istore (lv' := [(8, .int r68), (7, .int x23), (6, .int x22), (5, .int x21), (4, .int x20), (3, .int (σ 55 9)), (0, .ref (ad 55)), (1, .int a1), (2, .int a2)]) hx hb dX12_fielded_91 hl (of_decide_eq_true rfl) rfl (fun ls hl => ?_)
                 refine lv_iload hx hb dX12_fielded_93 (lv_at hl 1 rfl) ?_
                 refine lv_iload_n hx hb dX12_fielded_95 rfl (lv_at hl 7 rfl) ?_
                 refine lv_icmp_ne (tgt := 104) hx hb dX12_fielded_96 (of_decide_eq_true rfl) (fun c82 => ?_) (fun c82 => ?_)
                 · have kc82 := jne c82 rfl t1
                   refine lv_iload hx hb dX12_fielded_104 (lv_at hl 2 rfl) ?_
                   refine lv_istore (lv' := [(6, .int x22), (8, .int r68), (7, .int x23), (5, .int x21), (4, .int x20), (3, .int (σ 55 9)), (0, .ref (ad 55)), (1, .int a1), (2, .int a2)]) hx hb dX12_fielded_106 hl (of_decide_eq_true rfl) rfl (fun ls hl => ?_)
                   refine lv_iload hx hb dX12_fielded_108 (lv_at hl 1 rfl) ?_
                   refine lv_iload hx hb dX12_fielded_110 (lv_at hl 3 rfl) ?_
                   refine lv_icmp_ge (tgt := 123) hx hb dX12_fielded_112 (of_decide_eq_true rfl) (fun c83 => ?_) (fun c83 => ?_)
                   · have kc83 := jle c83 rfl rfl
                     obtain ⟨x84, ex84⟩ : ∃ y : Int32, y = x23 + 1 := ⟨_, rfl⟩
                     exact by
                      have tx84 : x84.toInt = x23.toInt + 1 := (jadd ex84 rfl jz_1 (by omega) (by omega)).trans (by omega)
                      refine lv_iinc (v := x84) (lv' := [(7, .int x84), (6, .int x22), (8, .int r68), (5, .int x21), (4, .int x20), (3, .int (σ 55 9)), (0, .ref (ad 55)), (1, .int a1), (2, .int a2)]) hx hb dX12_fielded_123 hl (k := 2) rfl (by rw [ex84]; rfl) (of_decide_eq_true rfl) rfl (fun ls hl => ?_)
                      refine lv_goto (tgt := 59) hx hb dX12_fielded_126 (of_decide_eq_true rfl) ?_
                      have I85 : jI103 σ67 := jI103_fr (f70 9 (of_decide_eq_true rfl)) I57
                      have z87 : (σ52 55 6).toInt = (σ 55 6).toInt := (congrArg Int32.toInt (show σ52 55 6 = (σ 55 6) from ((jkp 6 eσ52 (of_decide_eq_true rfl)).trans (f35 6 (of_decide_eq_true rfl)))))
                      have z88 : (σ52 55 30).toInt = (σ 55 30).toInt := (congrArg Int32.toInt (show σ52 55 30 = (σ 55 30) from ((jkp 30 eσ52 (of_decide_eq_true rfl)).trans (f35 30 (of_decide_eq_true rfl)))))
                      have z89 : (σ52 55 31).toInt = (σ 55 31).toInt := (congrArg Int32.toInt (show σ52 55 31 = (σ 55 31) from ((jkp 31 eσ52 (of_decide_eq_true rfl)).trans (f35 31 (of_decide_eq_true rfl)))))
                      have k86 : (σ 55 30).toInt = -1 → (σ 55 31).toInt = -1 → jOk (σ 56) → (r68 : Int32).toInt = jrW2 σ (x23.toInt) (-1) 0 := fun wa9 wb9 ok => by
                        have x := w75 (-1) 0 (by rw [show σ52 56 = σ 56 from ((jnp 56 eσ52 (of_decide_eq_true rfl)).trans (f34 56 (of_decide_eq_true rfl)))]; exact ok) (fun c hc _ => jrOv_0 (by omega) (by omega) c hc) ⟨by decide, by decide⟩ (by omega)
                        rw [(jrW2_eq (σ := σ) (u := σ52) ((jnp 56 eσ52 (of_decide_eq_true rfl)).trans (f34 56 (of_decide_eq_true rfl))) ((jnp 60 eσ52 (of_decide_eq_true rfl)).trans (f34 60 (of_decide_eq_true rfl))) ((jnp 61 eσ52 (of_decide_eq_true rfl)).trans (f34 61 (of_decide_eq_true rfl))) ((jnp 62 eσ52 (of_decide_eq_true rfl)).trans (f34 62 (of_decide_eq_true rfl))) ((jnp 64 eσ52 (of_decide_eq_true rfl)).trans (f34 64 (of_decide_eq_true rfl))) ((jnp 65 eσ52 (of_decide_eq_true rfl)).trans (f34 65 (of_decide_eq_true rfl))) ((jkp 6 eσ52 (of_decide_eq_true rfl)).trans (f35 6 (of_decide_eq_true rfl))) ((jkp 10 eσ52 (of_decide_eq_true rfl)).trans (f35 10 (of_decide_eq_true rfl))) ((jkp 12 eσ52 (of_decide_eq_true rfl)).trans (f35 12 (of_decide_eq_true rfl))) ((jkp 13 eσ52 (of_decide_eq_true rfl)).trans (f35 13 (of_decide_eq_true rfl)))), show (σ52 55 9).toInt = x23.toInt from by omega] at x; exact x
                      exact by exact ihlp18 x20 x21 x22 x84 σ67 _ _ ls (by have h93 := tx84; omega) (by have h93 := tx84; omega) (by have h93 := tx84; omega) (by have h93 := tx84; omega) (by have h93 := tx84; omega) (by have h93 := tx84; omega) (by have h93 := tx84; omega) (fun i hi => ((f69 i hi).trans ((jnp i eσ52 (imp_262 i hi)).trans (f34 i hi)))) (fun i hi => ((f70 i (imp_267 i hi)).trans ((jkp i eσ52 (imp_266 i hi)).trans (f35 i hi))))  p72 p74 I85 I71 (fun wa9 wb9 ok => by have e9 := k86 wa9 wb9 ok; exact ⟨fun z => Or.elim ((q40 wa9 wb9 ok).1 z) (fun y => (False.elim (by omega))) (fun y => Or.inr (jqLe.step (x := (r68 : Int32).toInt) y (by omega) (by rw [e9]; show jrW2 σ _ (-1) 0 = jrW2 σ _ (-1) 0; congr 1; omega) (Or.inr ⟨by omega, rfl, rfl⟩) (by have h9 := tx84; omega))), fun z => False.elim (by omega)⟩) hP hS (lv_sub hl [0, 1, 3, 4, 5, 6, 7, 8] rfl)
                   · exact by
                      have kc83 := jnle c83 rfl rfl
                      refine lv_iload hx hb dX12_fielded_115 (lv_at hl 2 rfl) ?_
                      refine lv_istore (lv' := [(4, .int x23), (6, .int x22), (8, .int r68), (7, .int x23), (5, .int x21), (3, .int (σ 55 9)), (0, .ref (ad 55)), (1, .int a1), (2, .int a2)]) hx hb dX12_fielded_117 hl (of_decide_eq_true rfl) rfl (fun ls hl => ?_)
                      refine lv_iload hx hb dX12_fielded_119 (lv_at hl 2 rfl) ?_
                      refine lv_istore (lv' := [(5, .int r68), (4, .int x23), (6, .int x22), (8, .int r68), (7, .int x23), (3, .int (σ 55 9)), (0, .ref (ad 55)), (1, .int a1), (2, .int a2)]) hx hb dX12_fielded_121 hl (of_decide_eq_true rfl) rfl (fun ls hl => ?_)
                      obtain ⟨x90, ex90⟩ : ∃ y : Int32, y = x23 + 1 := ⟨_, rfl⟩
                      have tx90 : x90.toInt = x23.toInt + 1 := (jadd ex90 rfl jz_1 (by omega) (by omega)).trans (by omega)
                      refine lv_iinc (v := x90) (lv' := [(7, .int x90), (5, .int r68), (4, .int x23), (6, .int x22), (8, .int r68), (3, .int (σ 55 9)), (0, .ref (ad 55)), (1, .int a1), (2, .int a2)]) hx hb dX12_fielded_123 hl (k := 4) rfl (by rw [ex90]; rfl) (of_decide_eq_true rfl) rfl (fun ls hl => ?_)
                      refine lv_goto (tgt := 59) hx hb dX12_fielded_126 (of_decide_eq_true rfl) ?_
                      exact by
                       have I91 : jI103 σ67 := jI103_fr (f70 9 (of_decide_eq_true rfl)) I57
                       have z93 : (σ52 55 6).toInt = (σ 55 6).toInt := (congrArg Int32.toInt (show σ52 55 6 = (σ 55 6) from ((jkp 6 eσ52 (of_decide_eq_true rfl)).trans (f35 6 (of_decide_eq_true rfl)))))
                       have z94 : (σ52 55 30).toInt = (σ 55 30).toInt := (congrArg Int32.toInt (show σ52 55 30 = (σ 55 30) from ((jkp 30 eσ52 (of_decide_eq_true rfl)).trans (f35 30 (of_decide_eq_true rfl)))))
                       have z95 : (σ52 55 31).toInt = (σ 55 31).toInt := (congrArg Int32.toInt (show σ52 55 31 = (σ 55 31) from ((jkp 31 eσ52 (of_decide_eq_true rfl)).trans (f35 31 (of_decide_eq_true rfl)))))
                       have k92 : (σ 55 30).toInt = -1 → (σ 55 31).toInt = -1 → jOk (σ 56) → (r68 : Int32).toInt = jrW2 σ (x23.toInt) (-1) 0 := fun wa9 wb9 ok => by
                         have x := w75 (-1) 0 (by rw [show σ52 56 = σ 56 from ((jnp 56 eσ52 (of_decide_eq_true rfl)).trans (f34 56 (of_decide_eq_true rfl)))]; exact ok) (fun c hc _ => jrOv_0 (by omega) (by omega) c hc) ⟨by decide, by decide⟩ (by omega)
                         rw [(jrW2_eq (σ := σ) (u := σ52) ((jnp 56 eσ52 (of_decide_eq_true rfl)).trans (f34 56 (of_decide_eq_true rfl))) ((jnp 60 eσ52 (of_decide_eq_true rfl)).trans (f34 60 (of_decide_eq_true rfl))) ((jnp 61 eσ52 (of_decide_eq_true rfl)).trans (f34 61 (of_decide_eq_true rfl))) ((jnp 62 eσ52 (of_decide_eq_true rfl)).trans (f34 62 (of_decide_eq_true rfl))) ((jnp 64 eσ52 (of_decide_eq_true rfl)).trans (f34 64 (of_decide_eq_true rfl))) ((jnp 65 eσ52 (of_decide_eq_true rfl)).trans (f34 65 (of_decide_eq_true rfl))) ((jkp 6 eσ52 (of_decide_eq_true rfl)).trans (f35 6 (of_decide_eq_true rfl))) ((jkp 10 eσ52 (of_decide_eq_true rfl)).trans (f35 10 (of_decide_eq_true rfl))) ((jkp 12 eσ52 (of_decide_eq_true rfl)).trans (f35 12 (of_decide_eq_true rfl))) ((jkp 13 eσ52 (of_decide_eq_true rfl)).trans (f35 13 (of_decide_eq_true rfl)))), show (σ52 55 9).toInt = x23.toInt from by omega] at x; exact x
                       exact by exact ihlp18 x23 r68 x22 x90 σ67 _ _ ls (by have h93 := tx90; omega) (by have h93 := tx90; omega) (by have h93 := tx90; omega) (by have h93 := tx90; omega) (by have h93 := tx90; omega) (by have h93 := tx90; omega) (by have h93 := tx90; omega) (fun i hi => ((f69 i hi).trans ((jnp i eσ52 (imp_262 i hi)).trans (f34 i hi)))) (fun i hi => ((f70 i (imp_267 i hi)).trans ((jkp i eσ52 (imp_266 i hi)).trans (f35 i hi))))  p72 p74 I91 I71 (fun wa9 wb9 ok => by have e9 := k92 wa9 wb9 ok; exact ⟨fun z => Or.elim ((q40 wa9 wb9 ok).1 z) (fun y => Or.inr (jqLe.first (by have h9 := tx90; omega) (by omega) (by rw [show (0 : Nat) = 0 from rfl]; first | (rw [e9]; show jrW2 σ _ (-1) 0 = jrW2 σ _ (-1) 0; congr 1; omega) | omega))) (fun y => Or.inr (jqLe.step (x := (r68 : Int32).toInt) y (by omega) (by rw [e9]; show jrW2 σ _ (-1) 0 = jrW2 σ _ (-1) 0; congr 1; omega) (Or.inl ⟨by omega, by omega, by omega⟩) (by have h9 := tx90; omega))), fun z => False.elim (by omega)⟩) hP hS (lv_sub hl [0, 3, 1, 2, 5, 6, 7, 8] rfl)
                 · have kc82 := jeq c82 rfl t1
                   exact by
                    refine lv_iload hx hb dX12_fielded_99 (lv_at hl 0 rfl) ?_
                    refine lv_goto (tgt := 106) hx hb dX12_fielded_101 (of_decide_eq_true rfl) ?_
                    refine lv_istore (lv' := [(6, .int r68), (8, .int r68), (7, .int x23), (5, .int x21), (4, .int x20), (3, .int (σ 55 9)), (0, .ref (ad 55)), (1, .int a1), (2, .int a2)]) hx hb dX12_fielded_106 hl (of_decide_eq_true rfl) rfl (fun ls hl => ?_)
                    refine lv_iload hx hb dX12_fielded_108 (lv_at hl 1 rfl) ?_
                    refine lv_iload hx hb dX12_fielded_110 (lv_at hl 3 rfl) ?_
                    refine lv_icmp_ge (tgt := 123) hx hb dX12_fielded_112 (of_decide_eq_true rfl) (fun c96 => ?_) (fun c96 => ?_)
                    · have kc96 := jle c96 rfl rfl
                      obtain ⟨x97, ex97⟩ : ∃ y : Int32, y = x23 + 1 := ⟨_, rfl⟩
                      have tx97 : x97.toInt = x23.toInt + 1 := (jadd ex97 rfl jz_1 (by omega) (by omega)).trans (by omega)
                      exact by
                       refine lv_iinc (v := x97) (lv' := [(7, .int x97), (6, .int r68), (8, .int r68), (5, .int x21), (4, .int x20), (3, .int (σ 55 9)), (0, .ref (ad 55)), (1, .int a1), (2, .int a2)]) hx hb dX12_fielded_123 hl (k := 2) rfl (by rw [ex97]; rfl) (of_decide_eq_true rfl) rfl (fun ls hl => ?_)
                       refine lv_goto (tgt := 59) hx hb dX12_fielded_126 (of_decide_eq_true rfl) ?_
                       have I98 : jI103 σ67 := jI103_fr (f70 9 (of_decide_eq_true rfl)) I57
                       have z100 : (σ52 55 6).toInt = (σ 55 6).toInt := (congrArg Int32.toInt (show σ52 55 6 = (σ 55 6) from ((jkp 6 eσ52 (of_decide_eq_true rfl)).trans (f35 6 (of_decide_eq_true rfl)))))
                       have z101 : (σ52 55 30).toInt = (σ 55 30).toInt := (congrArg Int32.toInt (show σ52 55 30 = (σ 55 30) from ((jkp 30 eσ52 (of_decide_eq_true rfl)).trans (f35 30 (of_decide_eq_true rfl)))))
                       have z102 : (σ52 55 31).toInt = (σ 55 31).toInt := (congrArg Int32.toInt (show σ52 55 31 = (σ 55 31) from ((jkp 31 eσ52 (of_decide_eq_true rfl)).trans (f35 31 (of_decide_eq_true rfl)))))
                       have k99 : (σ 55 30).toInt = -1 → (σ 55 31).toInt = -1 → jOk (σ 56) → (r68 : Int32).toInt = jrW2 σ (x23.toInt) (-1) 0 := fun wa9 wb9 ok => by
                         have x := w75 (-1) 0 (by rw [show σ52 56 = σ 56 from ((jnp 56 eσ52 (of_decide_eq_true rfl)).trans (f34 56 (of_decide_eq_true rfl)))]; exact ok) (fun c hc _ => jrOv_0 (by omega) (by omega) c hc) ⟨by decide, by decide⟩ (by omega)
                         rw [(jrW2_eq (σ := σ) (u := σ52) ((jnp 56 eσ52 (of_decide_eq_true rfl)).trans (f34 56 (of_decide_eq_true rfl))) ((jnp 60 eσ52 (of_decide_eq_true rfl)).trans (f34 60 (of_decide_eq_true rfl))) ((jnp 61 eσ52 (of_decide_eq_true rfl)).trans (f34 61 (of_decide_eq_true rfl))) ((jnp 62 eσ52 (of_decide_eq_true rfl)).trans (f34 62 (of_decide_eq_true rfl))) ((jnp 64 eσ52 (of_decide_eq_true rfl)).trans (f34 64 (of_decide_eq_true rfl))) ((jnp 65 eσ52 (of_decide_eq_true rfl)).trans (f34 65 (of_decide_eq_true rfl))) ((jkp 6 eσ52 (of_decide_eq_true rfl)).trans (f35 6 (of_decide_eq_true rfl))) ((jkp 10 eσ52 (of_decide_eq_true rfl)).trans (f35 10 (of_decide_eq_true rfl))) ((jkp 12 eσ52 (of_decide_eq_true rfl)).trans (f35 12 (of_decide_eq_true rfl))) ((jkp 13 eσ52 (of_decide_eq_true rfl)).trans (f35 13 (of_decide_eq_true rfl)))), show (σ52 55 9).toInt = x23.toInt from by omega] at x; exact x
                       exact by exact ihlp18 x20 x21 r68 x97 σ67 _ _ ls (by have h93 := tx97; omega) (by have h93 := tx97; omega) (by have h93 := tx97; omega) (by have h93 := tx97; omega) (by have h93 := tx97; omega) (by have h93 := tx97; omega) (by have h93 := tx97; omega) (fun i hi => ((f69 i hi).trans ((jnp i eσ52 (imp_262 i hi)).trans (f34 i hi)))) (fun i hi => ((f70 i (imp_267 i hi)).trans ((jkp i eσ52 (imp_266 i hi)).trans (f35 i hi))))  p72 p74 I98 I71 (fun wa9 wb9 ok => by have e9 := k99 wa9 wb9 ok; exact ⟨fun z => Or.elim ((q40 wa9 wb9 ok).1 z) (fun y => (False.elim (by omega))) (fun y => Or.inr (jqLe.step (x := (r68 : Int32).toInt) y (by omega) (by rw [e9]; show jrW2 σ _ (-1) 0 = jrW2 σ _ (-1) 0; congr 1; omega) (Or.inr ⟨by omega, rfl, rfl⟩) (by have h9 := tx97; omega))), fun z => False.elim (by omega)⟩) hP hS (lv_sub hl [0, 1, 3, 4, 5, 6, 7, 8] rfl)
                    · exact by
                       have kc96 := jnle c96 rfl rfl
                       refine lv_iload hx hb dX12_fielded_115 (lv_at hl 2 rfl) ?_
                       refine lv_istore (lv' := [(4, .int x23), (6, .int r68), (8, .int r68), (7, .int x23), (5, .int x21), (3, .int (σ 55 9)), (0, .ref (ad 55)), (1, .int a1), (2, .int a2)]) hx hb dX12_fielded_117 hl (of_decide_eq_true rfl) rfl (fun ls hl => ?_)
                       refine lv_iload hx hb dX12_fielded_119 (lv_at hl 2 rfl) ?_
                       refine lv_istore (lv' := [(5, .int r68), (4, .int x23), (6, .int r68), (8, .int r68), (7, .int x23), (3, .int (σ 55 9)), (0, .ref (ad 55)), (1, .int a1), (2, .int a2)]) hx hb dX12_fielded_121 hl (of_decide_eq_true rfl) rfl (fun ls hl => ?_)
                       obtain ⟨x103, ex103⟩ : ∃ y : Int32, y = x23 + 1 := ⟨_, rfl⟩
                       have tx103 : x103.toInt = x23.toInt + 1 := (jadd ex103 rfl jz_1 (by omega) (by omega)).trans (by omega)
                       refine lv_iinc (v := x103) (lv' := [(7, .int x103), (5, .int r68), (4, .int x23), (6, .int r68), (8, .int r68), (3, .int (σ 55 9)), (0, .ref (ad 55)), (1, .int a1), (2, .int a2)]) hx hb dX12_fielded_123 hl (k := 4) rfl (by rw [ex103]; rfl) (of_decide_eq_true rfl) rfl (fun ls hl => ?_)
                       refine lv_goto (tgt := 59) hx hb dX12_fielded_126 (of_decide_eq_true rfl) ?_
                       exact by
                        have I104 : jI103 σ67 := jI103_fr (f70 9 (of_decide_eq_true rfl)) I57
                        have z106 : (σ52 55 6).toInt = (σ 55 6).toInt := (congrArg Int32.toInt (show σ52 55 6 = (σ 55 6) from ((jkp 6 eσ52 (of_decide_eq_true rfl)).trans (f35 6 (of_decide_eq_true rfl)))))
                        have z107 : (σ52 55 30).toInt = (σ 55 30).toInt := (congrArg Int32.toInt (show σ52 55 30 = (σ 55 30) from ((jkp 30 eσ52 (of_decide_eq_true rfl)).trans (f35 30 (of_decide_eq_true rfl)))))
                        have z108 : (σ52 55 31).toInt = (σ 55 31).toInt := (congrArg Int32.toInt (show σ52 55 31 = (σ 55 31) from ((jkp 31 eσ52 (of_decide_eq_true rfl)).trans (f35 31 (of_decide_eq_true rfl)))))
                        have k105 : (σ 55 30).toInt = -1 → (σ 55 31).toInt = -1 → jOk (σ 56) → (r68 : Int32).toInt = jrW2 σ (x23.toInt) (-1) 0 := fun wa9 wb9 ok => by
                          have x := w75 (-1) 0 (by rw [show σ52 56 = σ 56 from ((jnp 56 eσ52 (of_decide_eq_true rfl)).trans (f34 56 (of_decide_eq_true rfl)))]; exact ok) (fun c hc _ => jrOv_0 (by omega) (by omega) c hc) ⟨by decide, by decide⟩ (by omega)
                          rw [(jrW2_eq (σ := σ) (u := σ52) ((jnp 56 eσ52 (of_decide_eq_true rfl)).trans (f34 56 (of_decide_eq_true rfl))) ((jnp 60 eσ52 (of_decide_eq_true rfl)).trans (f34 60 (of_decide_eq_true rfl))) ((jnp 61 eσ52 (of_decide_eq_true rfl)).trans (f34 61 (of_decide_eq_true rfl))) ((jnp 62 eσ52 (of_decide_eq_true rfl)).trans (f34 62 (of_decide_eq_true rfl))) ((jnp 64 eσ52 (of_decide_eq_true rfl)).trans (f34 64 (of_decide_eq_true rfl))) ((jnp 65 eσ52 (of_decide_eq_true rfl)).trans (f34 65 (of_decide_eq_true rfl))) ((jkp 6 eσ52 (of_decide_eq_true rfl)).trans (f35 6 (of_decide_eq_true rfl))) ((jkp 10 eσ52 (of_decide_eq_true rfl)).trans (f35 10 (of_decide_eq_true rfl))) ((jkp 12 eσ52 (of_decide_eq_true rfl)).trans (f35 12 (of_decide_eq_true rfl))) ((jkp 13 eσ52 (of_decide_eq_true rfl)).trans (f35 13 (of_decide_eq_true rfl)))), show (σ52 55 9).toInt = x23.toInt from by omega] at x; exact x
                        exact by exact ihlp18 x23 r68 r68 x103 σ67 _ _ ls (by have h93 := tx103; omega) (by have h93 := tx103; omega) (by have h93 := tx103; omega) (by have h93 := tx103; omega) (by have h93 := tx103; omega) (by have h93 := tx103; omega) (by have h93 := tx103; omega) (fun i hi => ((f69 i hi).trans ((jnp i eσ52 (imp_262 i hi)).trans (f34 i hi)))) (fun i hi => ((f70 i (imp_267 i hi)).trans ((jkp i eσ52 (imp_266 i hi)).trans (f35 i hi))))  p72 p74 I104 I71 (fun wa9 wb9 ok => by have e9 := k105 wa9 wb9 ok; exact ⟨fun z => Or.elim ((q40 wa9 wb9 ok).1 z) (fun y => Or.inr (jqLe.first (by have h9 := tx103; omega) (by omega) (by rw [show (0 : Nat) = 0 from rfl]; first | (rw [e9]; show jrW2 σ _ (-1) 0 = jrW2 σ _ (-1) 0; congr 1; omega) | omega))) (fun y => Or.inr (jqLe.step (x := (r68 : Int32).toInt) y (by omega) (by rw [e9]; show jrW2 σ _ (-1) 0 = jrW2 σ _ (-1) 0; congr 1; omega) (Or.inl ⟨by omega, by omega, by omega⟩) (by have h9 := tx103; omega))), fun z => False.elim (by omega)⟩) hP hS (lv_sub hl [0, 3, 1, 2, 5, 6, 7, 8] rfl)
        exact by exact lp18 1000000 0 2000000000 0 0 σ _ _ ls (by have h90 := jz_0; have h91 := jz_2000000000; have h92 := jz_0; have h93 := jz_0; omega) (by have h90 := jz_0; have h91 := jz_2000000000; have h92 := jz_0; have h93 := jz_0; omega) (by have h90 := jz_0; have h91 := jz_2000000000; have h92 := jz_0; have h93 := jz_0; omega) (by have h90 := jz_0; have h91 := jz_2000000000; have h92 := jz_0; have h93 := jz_0; omega) (by have h90 := jz_0; have h91 := jz_2000000000; have h92 := jz_0; have h93 := jz_0; omega) (by have h90 := jz_0; have h91 := jz_2000000000; have h92 := jz_0; have h93 := jz_0; omega) (by have h90 := jz_0; have h91 := jz_2000000000; have h92 := jz_0; have h93 := jz_0; omega) (fun _ _ => rfl) (fun _ _ => rfl)  hs_jKept hs_jqSt hI103 hI119 (fun _ _ _ => ⟨fun _ => Or.inl ⟨by have h9 := jz_0; omega, by have h9 := jz_0; omega, by have h9 := jz_2000000000; omega⟩, fun _ _ z => absurd z (by have h9 := jz_0; omega)⟩) hP hS hl
      · exact by
         have kc17 := jnle c17 rfl jz_8
         refine lv_bipush (v := (-4)) hx hb dX12_fielded_37 (of_decide_eq_true rfl) ?_
         exact by exact hret (-4) σ τ _ _ _ _ rfl ⟨rfl, (fun _ _ => rfl), (fun _ _ => rfl), hI103, hI119, hs_jKept, hs_jTR, hs_jqSt, (fun wa9 wb9 ok => Or.inr ⟨⟨by omega, by omega⟩, fun z => by omega, Or.inl ⟨by omega, by decide⟩⟩), (by omega), (by omega), (by omega), trivial⟩ hP hS dX12_fielded_39
    · have kc16 := jeq c16 t2 jz_0
      refine lv_iload_n hx hb dX12_fielded_14 rfl (lv_at hl 1 rfl) ?_
      refine lv_i2l (v := a1.toInt64) hx hb dX12_fielded_15 rfl ?_
      refine lv_lconst (v := 0) hx hb dX12_fielded_16 (of_decide_eq_true rfl) ?_
      refine lv_ldc2 (v := 3) hx hb hown (hts _ kw_12_13) dX12_fielded_17 ?_
      refine jcallS (As := [.long a1.toInt64, .long 0, .long 3]) (rest := []) ⟨hx, hb, hml, hown, hts⟩ hK hP hA hS hZ (c_X12_within l D cI cL ad zz hJ σ τ a1.toInt64 (A1) (jtoL t1) 0 (0) jzl_0 3 (3) jzl_3) cw_RX12_136 ⟨Nat.le_of_ble_eq_true rfl, Nat.le_of_ble_eq_true rfl⟩ rfl rfl rfl hl.1 rfl (Nat.le_of_ble_eq_true rfl) dX12_fielded_20 ⟨Nat.zero_le _, Nat.zero_le _⟩ (fun r110 σ109 τ109 H locs h109 hP hS => ?_)
      obtain ⟨⟨rfl, rfl⟩, h109⟩ := h109
      rcases h109 with h111 | h112
      · obtain ⟨q114, k113⟩ := h111
        have q114 := q114.symm
        subst q114
        refine lv_if_ne (tgt := 28) hx hb dX12_fielded_23 (of_decide_eq_true rfl) (fun _ => ?_) (fun c => absurd c (of_decide_eq_true rfl))
        refine lv_aload_n hx hb dX12_fielded_28 rfl (lv_at hl 0 rfl) ?_
        refine va_get (D := D) hx hb hts inlX12 hown hK hP 55 (jc_55 cI cL ad σ τ) rfl 12 (of_decide_eq_true rfl) (hts _ kw_8_16) (fun _ h9 => h9) rfl dX12_fielded_29 ?_
        refine lv_bipush (v := 8) hx hb dX12_fielded_32 (of_decide_eq_true rfl) ?_
        refine lv_icmp_le (tgt := 40) hx hb dX12_fielded_34 (of_decide_eq_true rfl) (fun c115 => ?_) (fun c115 => ?_)
        · have kc115 := jle c115 rfl jz_8
          refine lv_aload_n hx hb dX12_fielded_40 rfl (lv_at hl 0 rfl) ?_
          refine va_get (D := D) hx hb hts inlX12 hown hK hP 55 (jc_55 cI cL ad σ τ) rfl 9 (of_decide_eq_true rfl) (hts _ kw_12_14) (fun _ h9 => h9) rfl dX12_fielded_41 ?_
          refine lv_istore_n (lv' := [(3, .int (σ 55 9)), (0, .ref (ad 55)), (1, .int a1), (2, .int a2)]) hx hb dX12_fielded_44 rfl hl (of_decide_eq_true rfl) rfl (fun ls hl => ?_)
          refine lv_iconst (v := 0) hx hb dX12_fielded_45 (of_decide_eq_true rfl) ?_
          refine lv_istore (lv' := [(4, .int 0), (3, .int (σ 55 9)), (0, .ref (ad 55)), (1, .int a1), (2, .int a2)]) hx hb dX12_fielded_46 hl (of_decide_eq_true rfl) rfl (fun ls hl => ?_)
          refine lv_ldcw (v := 2000000000) hx hb hown (hts _ kw_34_4) dX12_fielded_48 ?_
          refine lv_istore (lv' := [(5, .int 2000000000), (4, .int 0), (3, .int (σ 55 9)), (0, .ref (ad 55)), (1, .int a1), (2, .int a2)]) hx hb dX12_fielded_51 hl (of_decide_eq_true rfl) rfl (fun ls hl => ?_)
          refine lv_iconst (v := 0) hx hb dX12_fielded_53 (of_decide_eq_true rfl) ?_
          refine lv_istore (lv' := [(6, .int 0), (5, .int 2000000000), (4, .int 0), (3, .int (σ 55 9)), (0, .ref (ad 55)), (1, .int a1), (2, .int a2)]) hx hb dX12_fielded_54 hl (of_decide_eq_true rfl) rfl (fun ls hl => ?_)
          refine lv_iconst (v := 0) hx hb dX12_fielded_56 (of_decide_eq_true rfl) ?_
          refine lv_istore (lv' := [(7, .int 0), (6, .int 0), (5, .int 2000000000), (4, .int 0), (3, .int (σ 55 9)), (0, .ref (ad 55)), (1, .int a1), (2, .int a2)]) hx hb dX12_fielded_57 hl (of_decide_eq_true rfl) rfl (fun ls hl => ?_)
          have lp116 : ∀ (n117 : Nat) (x118 : Int32) (x119 : Int32) (x120 : Int32) (x121 : Int32) (σ123 : Nat → Nat → Int32) (H : Heap) (locs : List Loc) (ls : Array Slot), (-x121.toInt + 4 : Int) < n117 → 0 ≤ x118.toInt → x118.toInt ≤ 3 → 0 ≤ x121.toInt → x121.toInt ≤ 4 → (σ 55 42).toInt ≤ (σ123 55 42).toInt → (σ123 55 42).toInt ≤ (σ 55 42).toInt + x121.toInt → (∀ i : Nat, (i < 55 ∨ 55 < i) ∧ (i < 66 ∨ 66 < i) ∧ (i < 68 ∨ 69 < i) ∧ (i < 74 ∨ 78 < i) → σ123 i = σ i) → (∀ k : Nat, (k < 9 ∨ 9 < k) ∧ (k < 18 ∨ 18 < k) ∧ (k < 19 ∨ 19 < k) ∧ (k < 20 ∨ 20 < k) ∧ (k < 21 ∨ 21 < k) ∧ (k < 22 ∨ 22 < k) ∧ (k < 25 ∨ 25 < k) ∧ (k < 26 ∨ 26 < k) ∧ (k < 27 ∨ 27 < k) ∧ (k < 37 ∨ 37 < k) ∧ (k < 42 ∨ 42 < k) → σ123 55 k = σ 55 k) → jKept σ123 → jqSt σ123 → jI103 σ123 → jI119 σ123 → (((σ 55 30).toInt = -1 → (σ 55 31).toInt = -1 → jOk (σ 56) → ((A2) ≠ 0 → ((x121 : Int32).toInt = 0 ∧ (x118 : Int32).toInt = 0 ∧ (x119 : Int32).toInt = 2000000000) ∨ jqLe (fun k : Nat => jrW2 σ (k : Int) (-1) 0) (x121 : Int32).toInt (x118 : Int32).toInt (x119 : Int32).toInt) ∧ ((A2) = 0 → 0 ≤ (A1) → (A1) < (x121 : Int32).toInt → (x120 : Int32).toInt = (fun k : Nat => jrW2 σ (k : Int) (-1) 0) (A1).toNat))) → jH D cI cL ad σ123 τ H → va_S (jA ad) s.heap H locs → lv_has ls 9 [(7, .int x121), (6, .int x120), (5, .int x119), (4, .int x118), (3, .int (σ 55 9)), (0, .ref (ad 55)), (1, .int a1), (2, .int a2)] → W p l e ({ frames := 104, cells := 0, slots := 0, locals := 5081 }) s m args below meth c H locs 0 0 Q (F0 m 59 ls []) := by
            intro n117
            induction n117 with
            | zero => intro x118 x119 x120 x121 σ123 H locs ls h125 h126 h127 h128 h129 h130 h131; have gx119 := jrg (rfl : x119.toInt = x119.toInt); have gx120 := jrg (rfl : x120.toInt = x120.toInt); exact absurd h125 (by omega)
            | succ n117 ihlp116 =>
              intro x118 x119 x120 x121 σ123 H locs ls h125 h126 h127 h128 h129 h130 h131 f132 f133 p134 p135 p136 p137 q138 hP hS hl
              exact by
               have gx119 := jrg (rfl : x119.toInt = x119.toInt); have gx120 := jrg (rfl : x120.toInt = x120.toInt)
               have i139 : 0 ≤ (σ123 55 9).toInt ∧ (σ123 55 9).toInt ≤ 3 := p136
               refine lv_iload hx hb dX12_fielded_59 (lv_at hl 0 rfl) ?_
               refine lv_iconst (v := 4) hx hb dX12_fielded_61 (of_decide_eq_true rfl) ?_
               refine lv_icmp_ge (tgt := 129) hx hb dX12_fielded_62 (of_decide_eq_true rfl) (fun c140 => ?_) (fun c140 => ?_)
               · have kc140 := jle c140 jz_4 rfl
                 refine lv_aload_n hx hb dX12_fielded_129 rfl (lv_at hl 5 rfl) ?_
                 refine lv_iload_n hx hb dX12_fielded_130 rfl (lv_at hl 4 rfl) ?_
                 refine jput (ty := .int) hx hb hts inlX12 tyX12 tyX12_ok nmX12 hown hK hP hJ hA hS (jc_55 cI cL ad σ123 τ) rfl (k := 9) (of_decide_eq_true rfl) (Nat.le_of_ble_eq_true rfl) (jp_55_9 cI cL ad σ123 τ (σ 55 9)) (hts _ kw_12_14) (fun _ h9 => h9) rfl (by decide +kernel) rfl rfl dX12_fielded_131 (fun σ141 H locs eσ141 hP hS => ?_)
                 refine lv_iload_n hx hb dX12_fielded_134 rfl (lv_at hl 7 rfl) ?_
                 exact by
                  refine lv_if_ne (tgt := 143) hx hb dX12_fielded_135 (of_decide_eq_true rfl) (fun c => absurd (jne c t2 jz_0) (by omega)) (fun c142 => ?_)
                  have kc142 := jeq c142 t2 jz_0
                  refine lv_iload hx hb dX12_fielded_138 (lv_at hl 1 rfl) ?_
                  refine lv_goto (tgt := 145) hx hb dX12_fielded_140 (of_decide_eq_true rfl) ?_
                  have z143 : (σ141 55 9).toInt = (σ 55 9).toInt := (congrArg Int32.toInt (show σ141 55 9 = (σ 55 9) from (jsp eσ141)))
                  have I144 : jI103 σ141 := (show 0 ≤ (σ141 55 9).toInt ∧ (σ141 55 9).toInt ≤ 3 by omega)
                  have I145 : jI119 σ141 := jI119_fr (jnp 68 eσ141 (of_decide_eq_true rfl)) p137
                  have p146 : jKept σ141 := jKept.fr (jnp 75 eσ141 (of_decide_eq_true rfl)) (jnp 76 eσ141 (of_decide_eq_true rfl)) (jnp 77 eσ141 (of_decide_eq_true rfl)) p134
                  have p147 : jTR σ141 := jTR.fr ((jnp 64 eσ141 (of_decide_eq_true rfl)).trans (f132 64 (of_decide_eq_true rfl))) ((jnp 65 eσ141 (of_decide_eq_true rfl)).trans (f132 65 (of_decide_eq_true rfl))) hs_jTR
                  have p148 : jqSt σ141 := jqSt.fr (jnp 78 eσ141 (of_decide_eq_true rfl)) (jkp 42 eσ141 (of_decide_eq_true rfl)) p135
                  have z149 : (σ141 55 42).toInt = (σ123 55 42).toInt := (congrArg Int32.toInt (show σ141 55 42 = (σ123 55 42) from (jkp 42 eσ141 (of_decide_eq_true rfl))))
                  exact by exact hret x120 σ141 τ _ _ _ _ rfl ⟨rfl, (fun i hi => ((jnp i eσ141 (imp_262 i hi)).trans (f132 i hi))), (fun i hi => ((jkp i eσ141 (imp_266 i hi)).trans (f133 i hi))), I144, I145, p146, p147, p148, (fun wa9 wb9 ok => Or.inr ⟨⟨by omega, by omega⟩, fun z => by omega, Or.inr (Or.inl ⟨by omega, by omega, (q138 wa9 wb9 ok).2 (by omega) (by omega) (by omega)⟩)⟩), (by omega), (by omega), (by omega), trivial⟩ hP hS dX12_fielded_145
               · have kc140 := jnle c140 jz_4 rfl
                 refine lv_aload_n hx hb dX12_fielded_65 rfl (lv_at hl 5 rfl) ?_
                 refine lv_iload hx hb dX12_fielded_66 (lv_at hl 0 rfl) ?_
                 refine jput (ty := .int) hx hb hts inlX12 tyX12 tyX12_ok nmX12 hown hK hP hJ hA hS (jc_55 cI cL ad σ123 τ) rfl (k := 9) (of_decide_eq_true rfl) (Nat.le_of_ble_eq_true rfl) (jp_55_9 cI cL ad σ123 τ x121) (hts _ kw_12_14) (fun _ h9 => h9) rfl (by decide +kernel) rfl rfl dX12_fielded_68 (fun σ150 H locs eσ150 hP hS => ?_)
                 refine lv_iload_n hx hb dX12_fielded_71 rfl (lv_at hl 7 rfl) ?_
                 exact by
                  refine lv_if_ne (tgt := 87) hx hb dX12_fielded_72 (of_decide_eq_true rfl) (fun c => absurd (jne c t2 jz_0) (by omega)) (fun c151 => ?_)
                  have kc151 := jeq c151 t2 jz_0
                  refine lv_iload hx hb dX12_fielded_75 (lv_at hl 0 rfl) ?_
                  refine lv_iload_n hx hb dX12_fielded_77 rfl (lv_at hl 6 rfl) ?_
                  refine lv_icmp_eq (tgt := 87) hx hb dX12_fielded_78 (of_decide_eq_true rfl) (fun c152 => ?_) (fun c152 => ?_)
                  · have kc152 := jeq c152 rfl t1
                    refine lv_aload_n hx hb dX12_fielded_87 rfl (lv_at hl 5 rfl) ?_
                    have I153 : jI101 σ150 := jI101_fr ((jkp 4 eσ150 (of_decide_eq_true rfl)).trans (f133 4 (of_decide_eq_true rfl))) ((jkp 5 eσ150 (of_decide_eq_true rfl)).trans (f133 5 (of_decide_eq_true rfl))) ((jnp 56 eσ150 (of_decide_eq_true rfl)).trans (f132 56 (of_decide_eq_true rfl))) ((jnp 57 eσ150 (of_decide_eq_true rfl)).trans (f132 57 (of_decide_eq_true rfl))) ((jnp 58 eσ150 (of_decide_eq_true rfl)).trans (f132 58 (of_decide_eq_true rfl))) ((jnp 59 eσ150 (of_decide_eq_true rfl)).trans (f132 59 (of_decide_eq_true rfl))) hI101
                    have I154 : jI102 σ150 := jI102_fr ((jkp 6 eσ150 (of_decide_eq_true rfl)).trans (f133 6 (of_decide_eq_true rfl))) ((jnp 60 eσ150 (of_decide_eq_true rfl)).trans (f132 60 (of_decide_eq_true rfl))) ((jnp 61 eσ150 (of_decide_eq_true rfl)).trans (f132 61 (of_decide_eq_true rfl))) hI102
                    have z155 : (σ150 55 9).toInt = x121.toInt := (congrArg Int32.toInt (show σ150 55 9 = x121 from (jsp eσ150)))
                    have I156 : jI103 σ150 := (show 0 ≤ (σ150 55 9).toInt ∧ (σ150 55 9).toInt ≤ 3 by omega)
                    have I157 : jI104 σ150 := jI104_fr ((jkp 10 eσ150 (of_decide_eq_true rfl)).trans (f133 10 (of_decide_eq_true rfl))) ((jkp 12 eσ150 (of_decide_eq_true rfl)).trans (f133 12 (of_decide_eq_true rfl))) ((jkp 13 eσ150 (of_decide_eq_true rfl)).trans (f133 13 (of_decide_eq_true rfl))) ((jnp 62 eσ150 (of_decide_eq_true rfl)).trans (f132 62 (of_decide_eq_true rfl))) ((jnp 67 eσ150 (of_decide_eq_true rfl)).trans (f132 67 (of_decide_eq_true rfl))) hI104
                    have I158 : jI105 σ150 := jI105_fr ((jkp 15 eσ150 (of_decide_eq_true rfl)).trans (f133 15 (of_decide_eq_true rfl))) ((jnp 65 eσ150 (of_decide_eq_true rfl)).trans (f132 65 (of_decide_eq_true rfl))) hI105
                    have I159 : jI106 σ150 := jI106_fr ((jkp 32 eσ150 (of_decide_eq_true rfl)).trans (f133 32 (of_decide_eq_true rfl))) ((jnp 70 eσ150 (of_decide_eq_true rfl)).trans (f132 70 (of_decide_eq_true rfl))) ((jnp 71 eσ150 (of_decide_eq_true rfl)).trans (f132 71 (of_decide_eq_true rfl))) ((jnp 72 eσ150 (of_decide_eq_true rfl)).trans (f132 72 (of_decide_eq_true rfl))) hI106
                    have I160 : jI119 σ150 := jI119_fr (jnp 68 eσ150 (of_decide_eq_true rfl)) p137
                    have p161 : jKept σ150 := jKept.fr (jnp 75 eσ150 (of_decide_eq_true rfl)) (jnp 76 eσ150 (of_decide_eq_true rfl)) (jnp 77 eσ150 (of_decide_eq_true rfl)) p134
                    have p162 : jTR σ150 := jTR.fr ((jnp 64 eσ150 (of_decide_eq_true rfl)).trans (f132 64 (of_decide_eq_true rfl))) ((jnp 65 eσ150 (of_decide_eq_true rfl)).trans (f132 65 (of_decide_eq_true rfl))) hs_jTR
                    have p163 : jqSt σ150 := jqSt.fr (jnp 78 eσ150 (of_decide_eq_true rfl)) (jkp 42 eσ150 (of_decide_eq_true rfl)) p135
                    have z164 : (σ150 55 12).toInt = (σ 55 12).toInt := (congrArg Int32.toInt (show σ150 55 12 = (σ 55 12) from ((jkp 12 eσ150 (of_decide_eq_true rfl)).trans (f133 12 (of_decide_eq_true rfl)))))
                    have z165 : (σ150 55 42).toInt = (σ123 55 42).toInt := (congrArg Int32.toInt (show σ150 55 42 = (σ123 55 42) from (jkp 42 eσ150 (of_decide_eq_true rfl))))
                    exact by
                     refine jcallV (As := []) (rest := []) ⟨hx, hb, hml, hown, hts⟩ hK hP hA hS hZ (c_X12_bestNow l D cI cL ad zz hJ σ150 τ I153 I154 I156 I157 I158 I159 I160 p161 p162 p163 (by omega) (by omega)) cw_RX12_346 (jc_55 cI cL ad σ150 τ) rfl ⟨Nat.le_of_ble_eq_true rfl, Nat.le_of_ble_eq_true rfl⟩ rfl rfl rfl hl.1 rfl (Nat.le_of_ble_eq_true rfl) dX12_fielded_88 ⟨Nat.zero_le _, Nat.zero_le _⟩ (fun r167 σ166 τ166 H locs h166 hP hS => ?_)
                     obtain ⟨rfl, f168, f169, I170, p171, p172, p173, w174, h166⟩ := h166
                     obtain ⟨k176, k177, h166⟩ := h166
                     have h178 := h166
                     obtain ⟨q180, k179⟩ := h178
                     refine lv_istore (lv' := [(8, .int r167), (7, .int x121), (6, .int x120), (5, .int x119), (4, .int x118), (3, .int (σ 55 9)), (0, .ref (ad 55)), (1, .int a1), (2, .int a2)]) hx hb dX12_fielded_91 hl (of_decide_eq_true rfl) rfl (fun ls hl => ?_)
                     refine lv_iload hx hb dX12_fielded_93 (lv_at hl 1 rfl) ?_
                     refine lv_iload_n hx hb dX12_fielded_95 rfl (lv_at hl 7 rfl) ?_
                     refine lv_icmp_ne (tgt := 104) hx hb dX12_fielded_96 (of_decide_eq_true rfl) (fun c181 => ?_) (fun c181 => ?_)
                     · have kc181 := jne c181 rfl t1
                       refine lv_iload hx hb dX12_fielded_104 (lv_at hl 2 rfl) ?_
                       refine lv_istore (lv' := [(6, .int x120), (8, .int r167), (7, .int x121), (5, .int x119), (4, .int x118), (3, .int (σ 55 9)), (0, .ref (ad 55)), (1, .int a1), (2, .int a2)]) hx hb dX12_fielded_106 hl (of_decide_eq_true rfl) rfl (fun ls hl => ?_)
                       refine lv_iload hx hb dX12_fielded_108 (lv_at hl 1 rfl) ?_
                       refine lv_iload hx hb dX12_fielded_110 (lv_at hl 3 rfl) ?_
                       refine lv_icmp_ge (tgt := 123) hx hb dX12_fielded_112 (of_decide_eq_true rfl) (fun c182 => ?_) (fun c182 => ?_)
                       · have kc182 := jle c182 rfl rfl
                         obtain ⟨x183, ex183⟩ : ∃ y : Int32, y = x121 + 1 := ⟨_, rfl⟩
                         exact by
                          have tx183 : x183.toInt = x121.toInt + 1 := (jadd ex183 rfl jz_1 (by omega) (by omega)).trans (by omega)
                          refine lv_iinc (v := x183) (lv' := [(7, .int x183), (6, .int x120), (8, .int r167), (5, .int x119), (4, .int x118), (3, .int (σ 55 9)), (0, .ref (ad 55)), (1, .int a1), (2, .int a2)]) hx hb dX12_fielded_123 hl (k := 2) rfl (by rw [ex183]; rfl) (of_decide_eq_true rfl) rfl (fun ls hl => ?_)
                          refine lv_goto (tgt := 59) hx hb dX12_fielded_126 (of_decide_eq_true rfl) ?_
                          have I184 : jI103 σ166 := jI103_fr (f169 9 (of_decide_eq_true rfl)) I156
                          have z186 : (σ150 55 6).toInt = (σ 55 6).toInt := (congrArg Int32.toInt (show σ150 55 6 = (σ 55 6) from ((jkp 6 eσ150 (of_decide_eq_true rfl)).trans (f133 6 (of_decide_eq_true rfl)))))
                          have z187 : (σ150 55 30).toInt = (σ 55 30).toInt := (congrArg Int32.toInt (show σ150 55 30 = (σ 55 30) from ((jkp 30 eσ150 (of_decide_eq_true rfl)).trans (f133 30 (of_decide_eq_true rfl)))))
                          have z188 : (σ150 55 31).toInt = (σ 55 31).toInt := (congrArg Int32.toInt (show σ150 55 31 = (σ 55 31) from ((jkp 31 eσ150 (of_decide_eq_true rfl)).trans (f133 31 (of_decide_eq_true rfl)))))
                          have k185 : (σ 55 30).toInt = -1 → (σ 55 31).toInt = -1 → jOk (σ 56) → (r167 : Int32).toInt = jrW2 σ (x121.toInt) (-1) 0 := fun wa9 wb9 ok => by
                            have x := w174 (-1) 0 (by rw [show σ150 56 = σ 56 from ((jnp 56 eσ150 (of_decide_eq_true rfl)).trans (f132 56 (of_decide_eq_true rfl)))]; exact ok) (fun c hc _ => jrOv_0 (by omega) (by omega) c hc) ⟨by decide, by decide⟩ (by omega)
                            rw [(jrW2_eq (σ := σ) (u := σ150) ((jnp 56 eσ150 (of_decide_eq_true rfl)).trans (f132 56 (of_decide_eq_true rfl))) ((jnp 60 eσ150 (of_decide_eq_true rfl)).trans (f132 60 (of_decide_eq_true rfl))) ((jnp 61 eσ150 (of_decide_eq_true rfl)).trans (f132 61 (of_decide_eq_true rfl))) ((jnp 62 eσ150 (of_decide_eq_true rfl)).trans (f132 62 (of_decide_eq_true rfl))) ((jnp 64 eσ150 (of_decide_eq_true rfl)).trans (f132 64 (of_decide_eq_true rfl))) ((jnp 65 eσ150 (of_decide_eq_true rfl)).trans (f132 65 (of_decide_eq_true rfl))) ((jkp 6 eσ150 (of_decide_eq_true rfl)).trans (f133 6 (of_decide_eq_true rfl))) ((jkp 10 eσ150 (of_decide_eq_true rfl)).trans (f133 10 (of_decide_eq_true rfl))) ((jkp 12 eσ150 (of_decide_eq_true rfl)).trans (f133 12 (of_decide_eq_true rfl))) ((jkp 13 eσ150 (of_decide_eq_true rfl)).trans (f133 13 (of_decide_eq_true rfl)))), show (σ150 55 9).toInt = x121.toInt from by omega] at x; exact x
                          exact by exact ihlp116 x118 x119 x120 x183 σ166 _ _ ls (by have h93 := tx183; omega) (by have h93 := tx183; omega) (by have h93 := tx183; omega) (by have h93 := tx183; omega) (by have h93 := tx183; omega) (by have h93 := tx183; omega) (by have h93 := tx183; omega) (fun i hi => ((f168 i hi).trans ((jnp i eσ150 (imp_262 i hi)).trans (f132 i hi)))) (fun i hi => ((f169 i (imp_267 i hi)).trans ((jkp i eσ150 (imp_266 i hi)).trans (f133 i hi))))  p171 p173 I184 I170 (fun wa9 wb9 ok => ⟨(fun z => False.elim (z (by omega))), (fun z0 z1 z2 => (q138 wa9 wb9 ok).2 z0 z1 (by have h9 := tx183; omega))⟩) hP hS (lv_sub hl [0, 1, 3, 4, 5, 6, 7, 8] rfl)
                       · exact by
                          have kc182 := jnle c182 rfl rfl
                          refine lv_iload hx hb dX12_fielded_115 (lv_at hl 2 rfl) ?_
                          refine lv_istore (lv' := [(4, .int x121), (6, .int x120), (8, .int r167), (7, .int x121), (5, .int x119), (3, .int (σ 55 9)), (0, .ref (ad 55)), (1, .int a1), (2, .int a2)]) hx hb dX12_fielded_117 hl (of_decide_eq_true rfl) rfl (fun ls hl => ?_)
                          refine lv_iload hx hb dX12_fielded_119 (lv_at hl 2 rfl) ?_
                          refine lv_istore (lv' := [(5, .int r167), (4, .int x121), (6, .int x120), (8, .int r167), (7, .int x121), (3, .int (σ 55 9)), (0, .ref (ad 55)), (1, .int a1), (2, .int a2)]) hx hb dX12_fielded_121 hl (of_decide_eq_true rfl) rfl (fun ls hl => ?_)
                          obtain ⟨x189, ex189⟩ : ∃ y : Int32, y = x121 + 1 := ⟨_, rfl⟩
                          have tx189 : x189.toInt = x121.toInt + 1 := (jadd ex189 rfl jz_1 (by omega) (by omega)).trans (by omega)
                          refine lv_iinc (v := x189) (lv' := [(7, .int x189), (5, .int r167), (4, .int x121), (6, .int x120), (8, .int r167), (3, .int (σ 55 9)), (0, .ref (ad 55)), (1, .int a1), (2, .int a2)]) hx hb dX12_fielded_123 hl (k := 4) rfl (by rw [ex189]; rfl) (of_decide_eq_true rfl) rfl (fun ls hl => ?_)
                          refine lv_goto (tgt := 59) hx hb dX12_fielded_126 (of_decide_eq_true rfl) ?_
                          exact by
                           have I190 : jI103 σ166 := jI103_fr (f169 9 (of_decide_eq_true rfl)) I156
                           have z192 : (σ150 55 6).toInt = (σ 55 6).toInt := (congrArg Int32.toInt (show σ150 55 6 = (σ 55 6) from ((jkp 6 eσ150 (of_decide_eq_true rfl)).trans (f133 6 (of_decide_eq_true rfl)))))
                           have z193 : (σ150 55 30).toInt = (σ 55 30).toInt := (congrArg Int32.toInt (show σ150 55 30 = (σ 55 30) from ((jkp 30 eσ150 (of_decide_eq_true rfl)).trans (f133 30 (of_decide_eq_true rfl)))))
                           have z194 : (σ150 55 31).toInt = (σ 55 31).toInt := (congrArg Int32.toInt (show σ150 55 31 = (σ 55 31) from ((jkp 31 eσ150 (of_decide_eq_true rfl)).trans (f133 31 (of_decide_eq_true rfl)))))
                           have k191 : (σ 55 30).toInt = -1 → (σ 55 31).toInt = -1 → jOk (σ 56) → (r167 : Int32).toInt = jrW2 σ (x121.toInt) (-1) 0 := fun wa9 wb9 ok => by
                             have x := w174 (-1) 0 (by rw [show σ150 56 = σ 56 from ((jnp 56 eσ150 (of_decide_eq_true rfl)).trans (f132 56 (of_decide_eq_true rfl)))]; exact ok) (fun c hc _ => jrOv_0 (by omega) (by omega) c hc) ⟨by decide, by decide⟩ (by omega)
                             rw [(jrW2_eq (σ := σ) (u := σ150) ((jnp 56 eσ150 (of_decide_eq_true rfl)).trans (f132 56 (of_decide_eq_true rfl))) ((jnp 60 eσ150 (of_decide_eq_true rfl)).trans (f132 60 (of_decide_eq_true rfl))) ((jnp 61 eσ150 (of_decide_eq_true rfl)).trans (f132 61 (of_decide_eq_true rfl))) ((jnp 62 eσ150 (of_decide_eq_true rfl)).trans (f132 62 (of_decide_eq_true rfl))) ((jnp 64 eσ150 (of_decide_eq_true rfl)).trans (f132 64 (of_decide_eq_true rfl))) ((jnp 65 eσ150 (of_decide_eq_true rfl)).trans (f132 65 (of_decide_eq_true rfl))) ((jkp 6 eσ150 (of_decide_eq_true rfl)).trans (f133 6 (of_decide_eq_true rfl))) ((jkp 10 eσ150 (of_decide_eq_true rfl)).trans (f133 10 (of_decide_eq_true rfl))) ((jkp 12 eσ150 (of_decide_eq_true rfl)).trans (f133 12 (of_decide_eq_true rfl))) ((jkp 13 eσ150 (of_decide_eq_true rfl)).trans (f133 13 (of_decide_eq_true rfl)))), show (σ150 55 9).toInt = x121.toInt from by omega] at x; exact x
                           exact by exact ihlp116 x121 r167 x120 x189 σ166 _ _ ls (by have h93 := tx189; omega) (by have h93 := tx189; omega) (by have h93 := tx189; omega) (by have h93 := tx189; omega) (by have h93 := tx189; omega) (by have h93 := tx189; omega) (by have h93 := tx189; omega) (fun i hi => ((f168 i hi).trans ((jnp i eσ150 (imp_262 i hi)).trans (f132 i hi)))) (fun i hi => ((f169 i (imp_267 i hi)).trans ((jkp i eσ150 (imp_266 i hi)).trans (f133 i hi))))  p171 p173 I190 I170 (fun wa9 wb9 ok => ⟨(fun z => False.elim (z (by omega))), (fun z0 z1 z2 => (q138 wa9 wb9 ok).2 z0 z1 (by have h9 := tx189; omega))⟩) hP hS (lv_sub hl [0, 3, 1, 2, 5, 6, 7, 8] rfl)
                     · have kc181 := jeq c181 rfl t1
                       exact by
                        refine lv_iload hx hb dX12_fielded_99 (lv_at hl 0 rfl) ?_
                        refine lv_goto (tgt := 106) hx hb dX12_fielded_101 (of_decide_eq_true rfl) ?_
                        refine lv_istore (lv' := [(6, .int r167), (8, .int r167), (7, .int x121), (5, .int x119), (4, .int x118), (3, .int (σ 55 9)), (0, .ref (ad 55)), (1, .int a1), (2, .int a2)]) hx hb dX12_fielded_106 hl (of_decide_eq_true rfl) rfl (fun ls hl => ?_)
                        refine lv_iload hx hb dX12_fielded_108 (lv_at hl 1 rfl) ?_
                        refine lv_iload hx hb dX12_fielded_110 (lv_at hl 3 rfl) ?_
                        refine lv_icmp_ge (tgt := 123) hx hb dX12_fielded_112 (of_decide_eq_true rfl) (fun c195 => ?_) (fun c195 => ?_)
                        · have kc195 := jle c195 rfl rfl
                          obtain ⟨x196, ex196⟩ : ∃ y : Int32, y = x121 + 1 := ⟨_, rfl⟩
                          have tx196 : x196.toInt = x121.toInt + 1 := (jadd ex196 rfl jz_1 (by omega) (by omega)).trans (by omega)
                          exact by
                           refine lv_iinc (v := x196) (lv' := [(7, .int x196), (6, .int r167), (8, .int r167), (5, .int x119), (4, .int x118), (3, .int (σ 55 9)), (0, .ref (ad 55)), (1, .int a1), (2, .int a2)]) hx hb dX12_fielded_123 hl (k := 2) rfl (by rw [ex196]; rfl) (of_decide_eq_true rfl) rfl (fun ls hl => ?_)
                           refine lv_goto (tgt := 59) hx hb dX12_fielded_126 (of_decide_eq_true rfl) ?_
                           have I197 : jI103 σ166 := jI103_fr (f169 9 (of_decide_eq_true rfl)) I156
                           have z199 : (σ150 55 6).toInt = (σ 55 6).toInt := (congrArg Int32.toInt (show σ150 55 6 = (σ 55 6) from ((jkp 6 eσ150 (of_decide_eq_true rfl)).trans (f133 6 (of_decide_eq_true rfl)))))
                           have z200 : (σ150 55 30).toInt = (σ 55 30).toInt := (congrArg Int32.toInt (show σ150 55 30 = (σ 55 30) from ((jkp 30 eσ150 (of_decide_eq_true rfl)).trans (f133 30 (of_decide_eq_true rfl)))))
                           have z201 : (σ150 55 31).toInt = (σ 55 31).toInt := (congrArg Int32.toInt (show σ150 55 31 = (σ 55 31) from ((jkp 31 eσ150 (of_decide_eq_true rfl)).trans (f133 31 (of_decide_eq_true rfl)))))
                           have k198 : (σ 55 30).toInt = -1 → (σ 55 31).toInt = -1 → jOk (σ 56) → (r167 : Int32).toInt = jrW2 σ (x121.toInt) (-1) 0 := fun wa9 wb9 ok => by
                             have x := w174 (-1) 0 (by rw [show σ150 56 = σ 56 from ((jnp 56 eσ150 (of_decide_eq_true rfl)).trans (f132 56 (of_decide_eq_true rfl)))]; exact ok) (fun c hc _ => jrOv_0 (by omega) (by omega) c hc) ⟨by decide, by decide⟩ (by omega)
                             rw [(jrW2_eq (σ := σ) (u := σ150) ((jnp 56 eσ150 (of_decide_eq_true rfl)).trans (f132 56 (of_decide_eq_true rfl))) ((jnp 60 eσ150 (of_decide_eq_true rfl)).trans (f132 60 (of_decide_eq_true rfl))) ((jnp 61 eσ150 (of_decide_eq_true rfl)).trans (f132 61 (of_decide_eq_true rfl))) ((jnp 62 eσ150 (of_decide_eq_true rfl)).trans (f132 62 (of_decide_eq_true rfl))) ((jnp 64 eσ150 (of_decide_eq_true rfl)).trans (f132 64 (of_decide_eq_true rfl))) ((jnp 65 eσ150 (of_decide_eq_true rfl)).trans (f132 65 (of_decide_eq_true rfl))) ((jkp 6 eσ150 (of_decide_eq_true rfl)).trans (f133 6 (of_decide_eq_true rfl))) ((jkp 10 eσ150 (of_decide_eq_true rfl)).trans (f133 10 (of_decide_eq_true rfl))) ((jkp 12 eσ150 (of_decide_eq_true rfl)).trans (f133 12 (of_decide_eq_true rfl))) ((jkp 13 eσ150 (of_decide_eq_true rfl)).trans (f133 13 (of_decide_eq_true rfl)))), show (σ150 55 9).toInt = x121.toInt from by omega] at x; exact x
                           exact by exact ihlp116 x118 x119 r167 x196 σ166 _ _ ls (by have h93 := tx196; omega) (by have h93 := tx196; omega) (by have h93 := tx196; omega) (by have h93 := tx196; omega) (by have h93 := tx196; omega) (by have h93 := tx196; omega) (by have h93 := tx196; omega) (fun i hi => ((f168 i hi).trans ((jnp i eσ150 (imp_262 i hi)).trans (f132 i hi)))) (fun i hi => ((f169 i (imp_267 i hi)).trans ((jkp i eσ150 (imp_266 i hi)).trans (f133 i hi))))  p171 p173 I197 I170 (fun wa9 wb9 ok => ⟨(fun z => False.elim (z (by omega))), (fun z0 z1 z2 => by have e9 := k198 wa9 wb9 ok; rw [e9]; show jrW2 σ _ (-1) 0 = jrW2 σ _ (-1) 0; congr 1; omega)⟩) hP hS (lv_sub hl [0, 1, 3, 4, 5, 6, 7, 8] rfl)
                        · exact by
                           have kc195 := jnle c195 rfl rfl
                           refine lv_iload hx hb dX12_fielded_115 (lv_at hl 2 rfl) ?_
                           refine lv_istore (lv' := [(4, .int x121), (6, .int r167), (8, .int r167), (7, .int x121), (5, .int x119), (3, .int (σ 55 9)), (0, .ref (ad 55)), (1, .int a1), (2, .int a2)]) hx hb dX12_fielded_117 hl (of_decide_eq_true rfl) rfl (fun ls hl => ?_)
                           refine lv_iload hx hb dX12_fielded_119 (lv_at hl 2 rfl) ?_
                           refine lv_istore (lv' := [(5, .int r167), (4, .int x121), (6, .int r167), (8, .int r167), (7, .int x121), (3, .int (σ 55 9)), (0, .ref (ad 55)), (1, .int a1), (2, .int a2)]) hx hb dX12_fielded_121 hl (of_decide_eq_true rfl) rfl (fun ls hl => ?_)
                           obtain ⟨x202, ex202⟩ : ∃ y : Int32, y = x121 + 1 := ⟨_, rfl⟩
                           have tx202 : x202.toInt = x121.toInt + 1 := (jadd ex202 rfl jz_1 (by omega) (by omega)).trans (by omega)
                           refine lv_iinc (v := x202) (lv' := [(7, .int x202), (5, .int r167), (4, .int x121), (6, .int r167), (8, .int r167), (3, .int (σ 55 9)), (0, .ref (ad 55)), (1, .int a1), (2, .int a2)]) hx hb dX12_fielded_123 hl (k := 4) rfl (by rw [ex202]; rfl) (of_decide_eq_true rfl) rfl (fun ls hl => ?_)
                           refine lv_goto (tgt := 59) hx hb dX12_fielded_126 (of_decide_eq_true rfl) ?_
                           exact by
                            have I203 : jI103 σ166 := jI103_fr (f169 9 (of_decide_eq_true rfl)) I156
                            have z205 : (σ150 55 6).toInt = (σ 55 6).toInt := (congrArg Int32.toInt (show σ150 55 6 = (σ 55 6) from ((jkp 6 eσ150 (of_decide_eq_true rfl)).trans (f133 6 (of_decide_eq_true rfl)))))
                            have z206 : (σ150 55 30).toInt = (σ 55 30).toInt := (congrArg Int32.toInt (show σ150 55 30 = (σ 55 30) from ((jkp 30 eσ150 (of_decide_eq_true rfl)).trans (f133 30 (of_decide_eq_true rfl)))))
                            have z207 : (σ150 55 31).toInt = (σ 55 31).toInt := (congrArg Int32.toInt (show σ150 55 31 = (σ 55 31) from ((jkp 31 eσ150 (of_decide_eq_true rfl)).trans (f133 31 (of_decide_eq_true rfl)))))
                            have k204 : (σ 55 30).toInt = -1 → (σ 55 31).toInt = -1 → jOk (σ 56) → (r167 : Int32).toInt = jrW2 σ (x121.toInt) (-1) 0 := fun wa9 wb9 ok => by
                              have x := w174 (-1) 0 (by rw [show σ150 56 = σ 56 from ((jnp 56 eσ150 (of_decide_eq_true rfl)).trans (f132 56 (of_decide_eq_true rfl)))]; exact ok) (fun c hc _ => jrOv_0 (by omega) (by omega) c hc) ⟨by decide, by decide⟩ (by omega)
                              rw [(jrW2_eq (σ := σ) (u := σ150) ((jnp 56 eσ150 (of_decide_eq_true rfl)).trans (f132 56 (of_decide_eq_true rfl))) ((jnp 60 eσ150 (of_decide_eq_true rfl)).trans (f132 60 (of_decide_eq_true rfl))) ((jnp 61 eσ150 (of_decide_eq_true rfl)).trans (f132 61 (of_decide_eq_true rfl))) ((jnp 62 eσ150 (of_decide_eq_true rfl)).trans (f132 62 (of_decide_eq_true rfl))) ((jnp 64 eσ150 (of_decide_eq_true rfl)).trans (f132 64 (of_decide_eq_true rfl))) ((jnp 65 eσ150 (of_decide_eq_true rfl)).trans (f132 65 (of_decide_eq_true rfl))) ((jkp 6 eσ150 (of_decide_eq_true rfl)).trans (f133 6 (of_decide_eq_true rfl))) ((jkp 10 eσ150 (of_decide_eq_true rfl)).trans (f133 10 (of_decide_eq_true rfl))) ((jkp 12 eσ150 (of_decide_eq_true rfl)).trans (f133 12 (of_decide_eq_true rfl))) ((jkp 13 eσ150 (of_decide_eq_true rfl)).trans (f133 13 (of_decide_eq_true rfl)))), show (σ150 55 9).toInt = x121.toInt from by omega] at x; exact x
                            exact by exact ihlp116 x121 r167 r167 x202 σ166 _ _ ls (by have h93 := tx202; omega) (by have h93 := tx202; omega) (by have h93 := tx202; omega) (by have h93 := tx202; omega) (by have h93 := tx202; omega) (by have h93 := tx202; omega) (by have h93 := tx202; omega) (fun i hi => ((f168 i hi).trans ((jnp i eσ150 (imp_262 i hi)).trans (f132 i hi)))) (fun i hi => ((f169 i (imp_267 i hi)).trans ((jkp i eσ150 (imp_266 i hi)).trans (f133 i hi))))  p171 p173 I203 I170 (fun wa9 wb9 ok => ⟨(fun z => False.elim (z (by omega))), (fun z0 z1 z2 => by have e9 := k204 wa9 wb9 ok; rw [e9]; show jrW2 σ _ (-1) 0 = jrW2 σ _ (-1) 0; congr 1; omega)⟩) hP hS (lv_sub hl [0, 3, 1, 2, 5, 6, 7, 8] rfl)
                  · have kc152 := jne c152 rfl t1
                    exact by
                     refine lv_ldcw (v := 2000000000) hx hb hown (hts _ kw_34_4) dX12_fielded_81 ?_
                     refine lv_goto (tgt := 91) hx hb dX12_fielded_84 (of_decide_eq_true rfl) ?_
                     refine lv_istore (lv' := [(8, .int 2000000000), (7, .int x121), (6, .int x120), (5, .int x119), (4, .int x118), (3, .int (σ 55 9)), (0, .ref (ad 55)), (1, .int a1), (2, .int a2)]) hx hb dX12_fielded_91 hl (of_decide_eq_true rfl) rfl (fun ls hl => ?_)
                     refine lv_iload hx hb dX12_fielded_93 (lv_at hl 1 rfl) ?_
                     refine lv_iload_n hx hb dX12_fielded_95 rfl (lv_at hl 7 rfl) ?_
                     refine lv_icmp_ne (tgt := 104) hx hb dX12_fielded_96 (of_decide_eq_true rfl) (fun c208 => ?_) (fun c208 => ?_)
                     · have kc208 := jne c208 rfl t1
                       refine lv_iload hx hb dX12_fielded_104 (lv_at hl 2 rfl) ?_
                       refine lv_istore (lv' := [(6, .int x120), (8, .int 2000000000), (7, .int x121), (5, .int x119), (4, .int x118), (3, .int (σ 55 9)), (0, .ref (ad 55)), (1, .int a1), (2, .int a2)]) hx hb dX12_fielded_106 hl (of_decide_eq_true rfl) rfl (fun ls hl => ?_)
                       refine lv_iload hx hb dX12_fielded_108 (lv_at hl 1 rfl) ?_
                       refine lv_iload hx hb dX12_fielded_110 (lv_at hl 3 rfl) ?_
                       refine lv_icmp_ge (tgt := 123) hx hb dX12_fielded_112 (of_decide_eq_true rfl) (fun c209 => ?_) (fun c209 => ?_)
                       · have kc209 := jle c209 rfl jz_2000000000
                         obtain ⟨x210, ex210⟩ : ∃ y : Int32, y = x121 + 1 := ⟨_, rfl⟩
                         exact by
                          have tx210 : x210.toInt = x121.toInt + 1 := (jadd ex210 rfl jz_1 (by omega) (by omega)).trans (by omega)
                          refine lv_iinc (v := x210) (lv' := [(7, .int x210), (6, .int x120), (8, .int 2000000000), (5, .int x119), (4, .int x118), (3, .int (σ 55 9)), (0, .ref (ad 55)), (1, .int a1), (2, .int a2)]) hx hb dX12_fielded_123 hl (k := 2) rfl (by rw [ex210]; rfl) (of_decide_eq_true rfl) rfl (fun ls hl => ?_)
                          refine lv_goto (tgt := 59) hx hb dX12_fielded_126 (of_decide_eq_true rfl) ?_
                          have z211 : (σ150 55 42).toInt = (σ123 55 42).toInt := (congrArg Int32.toInt (show σ150 55 42 = (σ123 55 42) from (jkp 42 eσ150 (of_decide_eq_true rfl))))
                          have p212 : jKept σ150 := jKept.fr (jnp 75 eσ150 (of_decide_eq_true rfl)) (jnp 76 eσ150 (of_decide_eq_true rfl)) (jnp 77 eσ150 (of_decide_eq_true rfl)) p134
                          have p213 : jqSt σ150 := jqSt.fr (jnp 78 eσ150 (of_decide_eq_true rfl)) (jkp 42 eσ150 (of_decide_eq_true rfl)) p135
                          have z214 : (σ150 55 9).toInt = x121.toInt := (congrArg Int32.toInt (show σ150 55 9 = x121 from (jsp eσ150)))
                          have I215 : jI103 σ150 := (show 0 ≤ (σ150 55 9).toInt ∧ (σ150 55 9).toInt ≤ 3 by omega)
                          have I216 : jI119 σ150 := jI119_fr (jnp 68 eσ150 (of_decide_eq_true rfl)) p137
                          exact by exact ihlp116 x118 x119 x120 x210 σ150 _ _ ls (by have h93 := tx210; omega) (by have h93 := tx210; omega) (by have h93 := tx210; omega) (by have h93 := tx210; omega) (by have h93 := tx210; omega) (by have h93 := tx210; omega) (by have h93 := tx210; omega) (fun i hi => ((jnp i eσ150 (imp_262 i hi)).trans (f132 i hi))) (fun i hi => ((jkp i eσ150 (imp_266 i hi)).trans (f133 i hi)))  p212 p213 I215 I216 (fun wa9 wb9 ok => ⟨(fun z => False.elim (z (by omega))), (fun z0 z1 z2 => (q138 wa9 wb9 ok).2 z0 z1 (by have h9 := tx210; omega))⟩) hP hS (lv_sub hl [0, 1, 3, 4, 5, 6, 7, 8] rfl)
                       · exact by
                          have kc209 := jnle c209 rfl jz_2000000000
                          refine lv_iload hx hb dX12_fielded_115 (lv_at hl 2 rfl) ?_
                          refine lv_istore (lv' := [(4, .int x121), (6, .int x120), (8, .int 2000000000), (7, .int x121), (5, .int x119), (3, .int (σ 55 9)), (0, .ref (ad 55)), (1, .int a1), (2, .int a2)]) hx hb dX12_fielded_117 hl (of_decide_eq_true rfl) rfl (fun ls hl => ?_)
                          refine lv_iload hx hb dX12_fielded_119 (lv_at hl 2 rfl) ?_
                          refine lv_istore (lv' := [(5, .int 2000000000), (4, .int x121), (6, .int x120), (8, .int 2000000000), (7, .int x121), (3, .int (σ 55 9)), (0, .ref (ad 55)), (1, .int a1), (2, .int a2)]) hx hb dX12_fielded_121 hl (of_decide_eq_true rfl) rfl (fun ls hl => ?_)
                          obtain ⟨x217, ex217⟩ : ∃ y : Int32, y = x121 + 1 := ⟨_, rfl⟩
                          have tx217 : x217.toInt = x121.toInt + 1 := (jadd ex217 rfl jz_1 (by omega) (by omega)).trans (by omega)
                          refine lv_iinc (v := x217) (lv' := [(7, .int x217), (5, .int 2000000000), (4, .int x121), (6, .int x120), (8, .int 2000000000), (3, .int (σ 55 9)), (0, .ref (ad 55)), (1, .int a1), (2, .int a2)]) hx hb dX12_fielded_123 hl (k := 4) rfl (by rw [ex217]; rfl) (of_decide_eq_true rfl) rfl (fun ls hl => ?_)
                          refine lv_goto (tgt := 59) hx hb dX12_fielded_126 (of_decide_eq_true rfl) ?_
                          exact by
                           have z218 : (σ150 55 42).toInt = (σ123 55 42).toInt := (congrArg Int32.toInt (show σ150 55 42 = (σ123 55 42) from (jkp 42 eσ150 (of_decide_eq_true rfl))))
                           have p219 : jKept σ150 := jKept.fr (jnp 75 eσ150 (of_decide_eq_true rfl)) (jnp 76 eσ150 (of_decide_eq_true rfl)) (jnp 77 eσ150 (of_decide_eq_true rfl)) p134
                           have p220 : jqSt σ150 := jqSt.fr (jnp 78 eσ150 (of_decide_eq_true rfl)) (jkp 42 eσ150 (of_decide_eq_true rfl)) p135
                           have z221 : (σ150 55 9).toInt = x121.toInt := (congrArg Int32.toInt (show σ150 55 9 = x121 from (jsp eσ150)))
                           have I222 : jI103 σ150 := (show 0 ≤ (σ150 55 9).toInt ∧ (σ150 55 9).toInt ≤ 3 by omega)
                           have I223 : jI119 σ150 := jI119_fr (jnp 68 eσ150 (of_decide_eq_true rfl)) p137
                           exact by exact ihlp116 x121 2000000000 x120 x217 σ150 _ _ ls (by have h91 := jz_2000000000; have h93 := tx217; omega) (by have h91 := jz_2000000000; have h93 := tx217; omega) (by have h91 := jz_2000000000; have h93 := tx217; omega) (by have h91 := jz_2000000000; have h93 := tx217; omega) (by have h91 := jz_2000000000; have h93 := tx217; omega) (by have h91 := jz_2000000000; have h93 := tx217; omega) (by have h91 := jz_2000000000; have h93 := tx217; omega) (fun i hi => ((jnp i eσ150 (imp_262 i hi)).trans (f132 i hi))) (fun i hi => ((jkp i eσ150 (imp_266 i hi)).trans (f133 i hi)))  p219 p220 I222 I223 (fun wa9 wb9 ok => ⟨(fun z => False.elim (z (by omega))), (fun z0 z1 z2 => (q138 wa9 wb9 ok).2 z0 z1 (by have h9 := tx217; omega))⟩) hP hS (lv_sub hl [0, 3, 1, 2, 5, 6, 7, 8] rfl)
                     · have kc208 := jeq c208 rfl t1
                       refine lv_iload hx hb dX12_fielded_99 (lv_at hl 0 rfl) ?_
                       refine lv_goto (tgt := 106) hx hb dX12_fielded_101 (of_decide_eq_true rfl) ?_
                       refine lv_istore (lv' := [(6, .int 2000000000), (8, .int 2000000000), (7, .int x121), (5, .int x119), (4, .int x118), (3, .int (σ 55 9)), (0, .ref (ad 55)), (1, .int a1), (2, .int a2)]) hx hb dX12_fielded_106 hl (of_decide_eq_true rfl) rfl (fun ls hl => ?_)
                       refine lv_iload hx hb dX12_fielded_108 (lv_at hl 1 rfl) ?_
                       refine lv_iload hx hb dX12_fielded_110 (lv_at hl 3 rfl) ?_
                       refine lv_icmp_ge (tgt := 123) hx hb dX12_fielded_112 (of_decide_eq_true rfl) (fun c224 => ?_) (fun c224 => ?_)
                       · have kc224 := jle c224 rfl jz_2000000000
                         obtain ⟨x225, ex225⟩ : ∃ y : Int32, y = x121 + 1 := ⟨_, rfl⟩
                         exact by
                          have tx225 : x225.toInt = x121.toInt + 1 := (jadd ex225 rfl jz_1 (by omega) (by omega)).trans (by omega)
                          refine lv_iinc (v := x225) (lv' := [(7, .int x225), (6, .int 2000000000), (8, .int 2000000000), (5, .int x119), (4, .int x118), (3, .int (σ 55 9)), (0, .ref (ad 55)), (1, .int a1), (2, .int a2)]) hx hb dX12_fielded_123 hl (k := 2) rfl (by rw [ex225]; rfl) (of_decide_eq_true rfl) rfl (fun ls hl => ?_)
                          refine lv_goto (tgt := 59) hx hb dX12_fielded_126 (of_decide_eq_true rfl) ?_
                          have z226 : (σ150 55 42).toInt = (σ123 55 42).toInt := (congrArg Int32.toInt (show σ150 55 42 = (σ123 55 42) from (jkp 42 eσ150 (of_decide_eq_true rfl))))
                          have p227 : jKept σ150 := jKept.fr (jnp 75 eσ150 (of_decide_eq_true rfl)) (jnp 76 eσ150 (of_decide_eq_true rfl)) (jnp 77 eσ150 (of_decide_eq_true rfl)) p134
                          have p228 : jqSt σ150 := jqSt.fr (jnp 78 eσ150 (of_decide_eq_true rfl)) (jkp 42 eσ150 (of_decide_eq_true rfl)) p135
                          have z229 : (σ150 55 9).toInt = x121.toInt := (congrArg Int32.toInt (show σ150 55 9 = x121 from (jsp eσ150)))
                          have I230 : jI103 σ150 := (show 0 ≤ (σ150 55 9).toInt ∧ (σ150 55 9).toInt ≤ 3 by omega)
                          have I231 : jI119 σ150 := jI119_fr (jnp 68 eσ150 (of_decide_eq_true rfl)) p137
                          exact by exact ihlp116 x118 x119 2000000000 x225 σ150 _ _ ls (by have h92 := jz_2000000000; have h93 := tx225; omega) (by have h92 := jz_2000000000; have h93 := tx225; omega) (by have h92 := jz_2000000000; have h93 := tx225; omega) (by have h92 := jz_2000000000; have h93 := tx225; omega) (by have h92 := jz_2000000000; have h93 := tx225; omega) (by have h92 := jz_2000000000; have h93 := tx225; omega) (by have h92 := jz_2000000000; have h93 := tx225; omega) (fun i hi => ((jnp i eσ150 (imp_262 i hi)).trans (f132 i hi))) (fun i hi => ((jkp i eσ150 (imp_266 i hi)).trans (f133 i hi)))  p227 p228 I230 I231 (fun wa9 wb9 ok => ⟨(fun z => False.elim (z (by omega))), (fun z0 z1 z2 => by exfalso; omega)⟩) hP hS (lv_sub hl [0, 1, 3, 4, 5, 6, 7, 8] rfl)
                       · exact by
                          have kc224 := jnle c224 rfl jz_2000000000
                          refine lv_iload hx hb dX12_fielded_115 (lv_at hl 2 rfl) ?_
                          refine lv_istore (lv' := [(4, .int x121), (6, .int 2000000000), (8, .int 2000000000), (7, .int x121), (5, .int x119), (3, .int (σ 55 9)), (0, .ref (ad 55)), (1, .int a1), (2, .int a2)]) hx hb dX12_fielded_117 hl (of_decide_eq_true rfl) rfl (fun ls hl => ?_)
                          refine lv_iload hx hb dX12_fielded_119 (lv_at hl 2 rfl) ?_
                          refine lv_istore (lv' := [(5, .int 2000000000), (4, .int x121), (6, .int 2000000000), (8, .int 2000000000), (7, .int x121), (3, .int (σ 55 9)), (0, .ref (ad 55)), (1, .int a1), (2, .int a2)]) hx hb dX12_fielded_121 hl (of_decide_eq_true rfl) rfl (fun ls hl => ?_)
                          obtain ⟨x232, ex232⟩ : ∃ y : Int32, y = x121 + 1 := ⟨_, rfl⟩
                          have tx232 : x232.toInt = x121.toInt + 1 := (jadd ex232 rfl jz_1 (by omega) (by omega)).trans (by omega)
                          refine lv_iinc (v := x232) (lv' := [(7, .int x232), (5, .int 2000000000), (4, .int x121), (6, .int 2000000000), (8, .int 2000000000), (3, .int (σ 55 9)), (0, .ref (ad 55)), (1, .int a1), (2, .int a2)]) hx hb dX12_fielded_123 hl (k := 4) rfl (by rw [ex232]; rfl) (of_decide_eq_true rfl) rfl (fun ls hl => ?_)
                          refine lv_goto (tgt := 59) hx hb dX12_fielded_126 (of_decide_eq_true rfl) ?_
                          exact by
                           have z233 : (σ150 55 42).toInt = (σ123 55 42).toInt := (congrArg Int32.toInt (show σ150 55 42 = (σ123 55 42) from (jkp 42 eσ150 (of_decide_eq_true rfl))))
                           have p234 : jKept σ150 := jKept.fr (jnp 75 eσ150 (of_decide_eq_true rfl)) (jnp 76 eσ150 (of_decide_eq_true rfl)) (jnp 77 eσ150 (of_decide_eq_true rfl)) p134
                           have p235 : jqSt σ150 := jqSt.fr (jnp 78 eσ150 (of_decide_eq_true rfl)) (jkp 42 eσ150 (of_decide_eq_true rfl)) p135
                           have z236 : (σ150 55 9).toInt = x121.toInt := (congrArg Int32.toInt (show σ150 55 9 = x121 from (jsp eσ150)))
                           have I237 : jI103 σ150 := (show 0 ≤ (σ150 55 9).toInt ∧ (σ150 55 9).toInt ≤ 3 by omega)
                           have I238 : jI119 σ150 := jI119_fr (jnp 68 eσ150 (of_decide_eq_true rfl)) p137
                           exact by exact ihlp116 x121 2000000000 2000000000 x232 σ150 _ _ ls (by have h91 := jz_2000000000; have h92 := jz_2000000000; have h93 := tx232; omega) (by have h91 := jz_2000000000; have h92 := jz_2000000000; have h93 := tx232; omega) (by have h91 := jz_2000000000; have h92 := jz_2000000000; have h93 := tx232; omega) (by have h91 := jz_2000000000; have h92 := jz_2000000000; have h93 := tx232; omega) (by have h91 := jz_2000000000; have h92 := jz_2000000000; have h93 := tx232; omega) (by have h91 := jz_2000000000; have h92 := jz_2000000000; have h93 := tx232; omega) (by have h91 := jz_2000000000; have h92 := jz_2000000000; have h93 := tx232; omega) (fun i hi => ((jnp i eσ150 (imp_262 i hi)).trans (f132 i hi))) (fun i hi => ((jkp i eσ150 (imp_266 i hi)).trans (f133 i hi)))  p234 p235 I237 I238 (fun wa9 wb9 ok => ⟨(fun z => False.elim (z (by omega))), (fun z0 z1 z2 => by exfalso; omega)⟩) hP hS (lv_sub hl [0, 3, 1, 2, 5, 6, 7, 8] rfl)
          exact by exact lp116 1000000 0 2000000000 0 0 σ _ _ ls (by have h90 := jz_0; have h91 := jz_2000000000; have h92 := jz_0; have h93 := jz_0; omega) (by have h90 := jz_0; have h91 := jz_2000000000; have h92 := jz_0; have h93 := jz_0; omega) (by have h90 := jz_0; have h91 := jz_2000000000; have h92 := jz_0; have h93 := jz_0; omega) (by have h90 := jz_0; have h91 := jz_2000000000; have h92 := jz_0; have h93 := jz_0; omega) (by have h90 := jz_0; have h91 := jz_2000000000; have h92 := jz_0; have h93 := jz_0; omega) (by have h90 := jz_0; have h91 := jz_2000000000; have h92 := jz_0; have h93 := jz_0; omega) (by have h90 := jz_0; have h91 := jz_2000000000; have h92 := jz_0; have h93 := jz_0; omega) (fun _ _ => rfl) (fun _ _ => rfl)  hs_jKept hs_jqSt hI103 hI119 (fun _ _ _ => ⟨fun _ => Or.inl ⟨by have h9 := jz_0; omega, by have h9 := jz_0; omega, by have h9 := jz_2000000000; omega⟩, fun _ _ z => absurd z (by have h9 := jz_0; omega)⟩) hP hS hl
        · have kc115 := jnle c115 rfl jz_8
          refine lv_bipush (v := (-4)) hx hb dX12_fielded_37 (of_decide_eq_true rfl) ?_
          exact by exact hret (-4) σ τ _ _ _ _ rfl ⟨rfl, (fun _ _ => rfl), (fun _ _ => rfl), hI103, hI119, hs_jKept, hs_jTR, hs_jqSt, (fun wa9 wb9 ok => Or.inr ⟨⟨by omega, by omega⟩, fun z => by omega, Or.inl ⟨by omega, by decide⟩⟩), (by omega), (by omega), (by omega), trivial⟩ hP hS dX12_fielded_39
      · obtain ⟨q240, k239⟩ := h112
        have q240 := q240.symm
        subst q240
        refine lv_if_ne (tgt := 28) hx hb dX12_fielded_23 (of_decide_eq_true rfl) (fun c => absurd (of_decide_eq_true rfl) c) (fun _ => ?_)
        refine lv_iconst (v := (-1)) hx hb dX12_fielded_26 (of_decide_eq_true rfl) ?_
        exact by exact hret (-1) σ τ _ _ _ _ rfl ⟨rfl, (fun _ _ => rfl), (fun _ _ => rfl), hI103, hI119, hs_jKept, hs_jTR, hs_jqSt, (fun wa9 wb9 ok => Or.inl ⟨by omega, by decide⟩), (by omega), (by omega), (by omega), trivial⟩ hP hS dX12_fielded_27
  · obtain ⟨q242, k241⟩ := h13
    have q242 := q242.symm
    subst q242
    refine lv_if_eq (tgt := 26) hx hb dX12_fielded_7 (of_decide_eq_true rfl) (fun _ => ?_) (fun c => absurd (of_decide_eq_true rfl) c)
    refine lv_iconst (v := (-1)) hx hb dX12_fielded_26 (of_decide_eq_true rfl) ?_
    exact by exact hret (-1) σ τ _ _ _ _ rfl ⟨rfl, (fun _ _ => rfl), (fun _ _ => rfl), hI103, hI119, hs_jKept, hs_jTR, hs_jqSt, (fun wa9 wb9 ok => Or.inl ⟨by omega, by decide⟩), (by omega), (by omega), (by omega), trivial⟩ hP hS dX12_fielded_27
