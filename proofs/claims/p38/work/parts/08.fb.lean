set_option maxHeartbeats 4000000 in
set_option maxRecDepth 100000 in
theorem c_X12_puts (l : Launch) (D : va_G) (cI cL : ClassId) (ad zz : Nat → Nat) (hJ : jD ad) (σ : Nat → Nat → Int32) (τ : Nat → Nat → Int64) (a1 : Int32) (A1 : Int) (t1 : a1.toInt = A1) (hI101 : jI101 σ) (hI102 : jI102 σ) (hI103 : jI103 σ) (hI104 : jI104 σ) (hI105 : jI105 σ) (hI106 : jI106 σ) (hI107 : jI107 σ) (hI119 : jI119 σ) (hs_jKept : jKept σ) (hs_jBook : jBook σ) : jM l yX12_puts cX12_puts 2 (some .int) ({ frames := 104, cells := 0, slots := 0, locals := 5087 }) D cI cL ad zz [.ref (ad 55), .int a1] σ τ (fun r σ' τ' => τ = τ' ∧ (∀ i : Nat, (i < 55 ∨ 55 < i) ∧ (i < 66 ∨ 66 < i) ∧ (i < 68 ∨ 69 < i) ∧ (i < 74 ∨ 78 < i) → σ' i = σ i) ∧ (∀ k : Nat, (k < 18 ∨ 18 < k) ∧ (k < 19 ∨ 19 < k) ∧ (k < 20 ∨ 20 < k) ∧ (k < 21 ∨ 21 < k) ∧ (k < 22 ∨ 22 < k) ∧ (k < 25 ∨ 25 < k) ∧ (k < 26 ∨ 26 < k) ∧ (k < 27 ∨ 27 < k) ∧ (k < 37 ∨ 37 < k) ∧ (k < 42 ∨ 42 < k) → σ' 55 k = σ 55 k) ∧ (jI119 σ') ∧ (jKept σ') ∧ (jBook σ') ∧ True) := by
  refine jM.of hJ (by decide +kernel) (nt := .int) rfl (Nat.le_of_ble_eq_true rfl) ?_
  intro p e s m args below meth c Q ls hC hret hl hP
  obtain ⟨hx, hb, hr, hml, hown, hts, hK, -, hlocks, hZ⟩ := hC
  have hown : s.vm.findClass RX12 = some m.cls := hown
  have hS : va_S (jA ad) s.heap s.heap [] := va_S.rf
  have hA : ∀ q, jA ad q → jA ad q := fun _ h => h
  have hl : lv_has ls 2 [(0, .ref (ad 55)), (1, .int a1)] := hl
  have g1 := jrg t1
  obtain ⟨i1, w2, w3⟩ : (0 ≤ (σ 55 6).toInt ∧ (σ 55 6).toInt ≤ 4) ∧ (∀ k : Nat, k < 4 → 0 ≤ (σ 60 k).toInt ∧ (σ 60 k).toInt ≤ 50) ∧ (∀ k : Nat, k < 4 → 0 ≤ (σ 61 k).toInt ∧ (σ 61 k).toInt ≤ 20) := id hI102
  obtain ⟨i4, i5, i6, w7, w8⟩ : (1 ≤ (σ 55 10).toInt ∧ (σ 55 10).toInt ≤ 8) ∧ (1 ≤ (σ 55 12).toInt ∧ (σ 55 12).toInt ≤ 12) ∧ (0 ≤ (σ 55 13).toInt ∧ (σ 55 13).toInt ≤ 999) ∧ (∀ k : Nat, k < 8 → 0 ≤ (σ 62 k).toInt ∧ (σ 62 k).toInt ≤ 3) ∧ (∀ k : Nat, k < 8 → 0 ≤ (σ 67 k).toInt ∧ (σ 67 k).toInt ≤ 3) := id hI104
  obtain ⟨i9, w10, w11, w12⟩ : (0 ≤ (σ 55 32).toInt ∧ (σ 55 32).toInt ≤ 20) ∧ (∀ k : Nat, k < 20 → 0 ≤ (σ 70 k).toInt ∧ (σ 70 k).toInt ≤ 6) ∧ (∀ k : Nat, k < 20 → 0 ≤ (σ 71 k).toInt ∧ (σ 71 k).toInt ≤ 8) ∧ (∀ k : Nat, k < 160 → 0 ≤ (σ 72 k).toInt ∧ (σ 72 k).toInt ≤ 3) := id hI106
  obtain ⟨i13, i14, w15⟩ : (0 ≤ (σ 55 47).toInt ∧ (σ 55 47).toInt ≤ 12) ∧ ((σ 55 47).toInt ≤ (σ 55 12).toInt) ∧ (∀ k : Nat, k < 12 → 0 ≤ (σ 80 k).toInt ∧ (σ 80 k).toInt ≤ 3) := id hI107
  refine lv_aload_n hx hb dX12_puts_0 rfl (lv_at hl 0 rfl) ?_
  refine lv_iload_n hx hb dX12_puts_1 rfl (lv_at hl 1 rfl) ?_
  refine jcallV (As := [.int a1]) (rest := []) ⟨hx, hb, hml, hown, hts⟩ hK hP hA hS hZ (c_X12_isRule l D cI cL ad zz hJ σ τ a1 (A1) t1 hI106) cw_RX12_331 (jc_55 cI cL ad σ τ) rfl ⟨Nat.le_of_ble_eq_true rfl, Nat.le_of_ble_eq_true rfl⟩ rfl rfl rfl hl.1 rfl (Nat.le_of_ble_eq_true rfl) dX12_puts_2 ⟨Nat.zero_le _, Nat.zero_le _⟩ (fun r17 σ16 τ16 H locs h16 hP hS => ?_)
  obtain ⟨⟨rfl, rfl⟩, h16⟩ := h16
  rcases h16 with h18 | h19
  · obtain ⟨q21, k20⟩ := h18
    have q21 := q21.symm
    subst q21
    refine lv_if_ne (tgt := 10) hx hb dX12_puts_5 (of_decide_eq_true rfl) (fun _ => ?_) (fun c => absurd c (of_decide_eq_true rfl))
    refine lv_aload_n hx hb dX12_puts_10 rfl (lv_at hl 0 rfl) ?_
    refine lv_aload_n hx hb dX12_puts_11 rfl (lv_at hl 0 rfl) ?_
    refine va_get (D := D) hx hb hts inlX12 hown hK hP 55 (jc_55 cI cL ad σ τ) rfl 47 (of_decide_eq_true rfl) (hts _ kw_15_15) (fun _ h9 => h9) rfl dX12_puts_12 ?_
    have w22 : ∀ k : Nat, k < 4 → 0 ≤ (σ 68 k).toInt ∧ (σ 68 k).toInt ≤ 3 := hI119
    exact by
     refine jcallVv (As := [.int (σ 55 47)]) (rest := []) ⟨hx, hb, hml, hown, hts⟩ hK hP hA hS hZ (c_X12_goThroughBook l D cI cL ad zz hJ σ τ (σ 55 47) ((σ 55 47).toInt) rfl hI102 hI104 hI107 w22 hs_jBook (by omega) (by omega)) cw_RX12_334 (jc_55 cI cL ad σ τ) rfl ⟨Nat.le_of_ble_eq_true rfl, Nat.le_of_ble_eq_true rfl⟩ rfl rfl rfl hl.1 rfl (Nat.le_of_ble_eq_true rfl) dX12_puts_15 ⟨Nat.zero_le _, Nat.zero_le _⟩ (fun σ23 τ23 H locs h23 hP hS => ?_)
     obtain ⟨rfl, f25, f26, I27, p28, w29, h23⟩ := h23
     obtain ⟨i31, i32, i33, i34, i35, w36⟩ : (0 ≤ (σ23 55 25).toInt) ∧ ((σ23 55 25).toInt ≤ (σ23 55 10).toInt) ∧ (0 ≤ (σ23 55 26).toInt) ∧ ((σ23 55 26).toInt ≤ (σ23 55 12).toInt) ∧ ((-1) ≤ (σ23 55 27).toInt ∧ (σ23 55 27).toInt ≤ 3) ∧ (∀ k : Nat, k < 4 → 0 ≤ (σ23 68 k).toInt ∧ (σ23 68 k).toInt ≤ 3) := id I27
     have z37 : (σ23 55 10).toInt = (σ 55 10).toInt := (congrArg Int32.toInt (show σ23 55 10 = (σ 55 10) from (f26 10 (of_decide_eq_true rfl))))
     have z38 : (σ23 55 12).toInt = (σ 55 12).toInt := (congrArg Int32.toInt (show σ23 55 12 = (σ 55 12) from (f26 12 (of_decide_eq_true rfl))))
     obtain ⟨k39, k40, k41, h23⟩ := h23
     refine lv_aload_n hx hb dX12_puts_18 rfl (lv_at hl 0 rfl) ?_
     refine va_get (D := D) hx hb hts inlX12 hown hK hP 55 (jc_55 cI cL ad σ23 τ) rfl 33 (of_decide_eq_true rfl) (hts _ kw_7_18) (fun _ h9 => h9) rfl dX12_puts_19 ?_
     refine lv_iload_n hx hb dX12_puts_22 rfl (lv_at hl 1 rfl) ?_
     exact by
      refine jald hx hb hK hP (jc_70 cI cL ad σ23 τ) (jin t1 (by omega) (by omega)) dX12_puts_23 ?_
      have w42 : ∀ k : Nat, k < 20 → 0 ≤ (σ23 70 k).toInt ∧ (σ23 70 k).toInt ≤ 6 := (jrr_fr (f25 70 (of_decide_eq_true rfl)) w10)
      have g43 := w42 _ (jnat (x := a1) t1 (n := 20) (by omega) (of_decide_eq_true rfl))
      refine jtopr (y := (σ 70 a1.toNatClampNeg)) (by rw [f25 70 (of_decide_eq_true rfl)]) ?_
      rw [f25 70 (of_decide_eq_true rfl)] at g43
      refine lv_iconst (v := 2) hx hb dX12_puts_24 (of_decide_eq_true rfl) ?_
      refine lv_icmp_ne (tgt := 38) hx hb dX12_puts_25 (of_decide_eq_true rfl) (fun c44 => ?_) (fun c44 => ?_)
      · have kc44 := jne c44 rfl jz_2
        refine lv_aload_n hx hb dX12_puts_38 rfl (lv_at hl 0 rfl) ?_
        exact by
         have I45 : jI102 σ23 := jI102_fr (f26 6 (of_decide_eq_true rfl)) (f25 60 (of_decide_eq_true rfl)) (f25 61 (of_decide_eq_true rfl)) hI102
         have I46 : jI104 σ23 := jI104_fr (f26 10 (of_decide_eq_true rfl)) (f26 12 (of_decide_eq_true rfl)) (f26 13 (of_decide_eq_true rfl)) (f25 62 (of_decide_eq_true rfl)) (f25 67 (of_decide_eq_true rfl)) hI104
         refine jcallV (As := []) (rest := []) ⟨hx, hb, hml, hown, hts⟩ hK hP hA hS hZ (c_X12_isEnded l D cI cL ad zz hJ σ23 τ I45 I46 I27) cw_RX12_307 (jc_55 cI cL ad σ23 τ) rfl ⟨Nat.le_of_ble_eq_true rfl, Nat.le_of_ble_eq_true rfl⟩ rfl rfl rfl hl.1 rfl (Nat.le_of_ble_eq_true rfl) dX12_puts_39 ⟨Nat.zero_le _, Nat.zero_le _⟩ (fun r48 σ47 τ47 H locs h47 hP hS => ?_)
         obtain ⟨⟨rfl, rfl⟩, h47⟩ := h47
         rcases h47 with h49 | h50
         · obtain ⟨q52, k51⟩ := h49
           have q52 := q52.symm
           subst q52
           refine lv_if_eq (tgt := 48) hx hb dX12_puts_42 (of_decide_eq_true rfl) (fun c => absurd c (of_decide_eq_true rfl)) (fun _ => ?_)
           refine lv_bipush (v := (-2)) hx hb dX12_puts_45 (of_decide_eq_true rfl) ?_
           have I53 : jI119 σ23 := w36
           have p54 : jKept σ23 := jKept.fr (f25 75 (of_decide_eq_true rfl)) (f25 76 (of_decide_eq_true rfl)) (f25 77 (of_decide_eq_true rfl)) hs_jKept
           exact hret (-2) σ23 τ _ _ _ _ rfl ⟨rfl, (fun i hi => (f25 i (imp_256 i hi))), (fun i hi => (f26 i (imp_257 i hi))), I53, p54, p28, trivial⟩ hP hS dX12_puts_47
         · obtain ⟨q58, k55, k56, k57⟩ := h50
           have q58 := q58.symm
           subst q58
           obtain ⟨B59, k60, k61, w62⟩ := k57
           have z63 : (σ23 55 6).toInt = (σ 55 6).toInt := (congrArg Int32.toInt (show σ23 55 6 = (σ 55 6) from (f26 6 (of_decide_eq_true rfl))))
           refine lv_if_eq (tgt := 48) hx hb dX12_puts_42 (of_decide_eq_true rfl) (fun _ => ?_) (fun c => absurd (of_decide_eq_true rfl) c)
           refine lv_aload_n hx hb dX12_puts_48 rfl (lv_at hl 0 rfl) ?_
           refine jcallVv (As := []) (rest := []) ⟨hx, hb, hml, hown, hts⟩ hK hP hA hS hZ (c_X12_forgets l D cI cL ad zz hJ σ23 τ) cw_RX12_341 (jc_55 cI cL ad σ23 τ) rfl ⟨Nat.le_of_ble_eq_true rfl, Nat.le_of_ble_eq_true rfl⟩ rfl rfl rfl hl.1 rfl (Nat.le_of_ble_eq_true rfl) dX12_puts_49 ⟨Nat.zero_le _, Nat.zero_le _⟩ (fun σ64 τ64 H locs h64 hP hS => ?_)
           obtain ⟨rfl, f66, f67, h64⟩ := h64
           refine lv_aload_n hx hb dX12_puts_52 rfl (lv_at hl 0 rfl) ?_
           refine lv_iload_n hx hb dX12_puts_53 rfl (lv_at hl 1 rfl) ?_
           have p69 : jmb σ64 B59 = 1 := (jmb_fr (f67 27 (of_decide_eq_true rfl)) (f67 30 (of_decide_eq_true rfl)) (f67 31 (of_decide_eq_true rfl)) (f66 56 (of_decide_eq_true rfl)) (f66 69 (of_decide_eq_true rfl)) B59).trans w62
           have I70 : jI101 σ64 := jI101_fr ((f67 4 (of_decide_eq_true rfl)).trans (f26 4 (of_decide_eq_true rfl))) ((f67 5 (of_decide_eq_true rfl)).trans (f26 5 (of_decide_eq_true rfl))) ((f66 56 (of_decide_eq_true rfl)).trans (f25 56 (of_decide_eq_true rfl))) ((f66 57 (of_decide_eq_true rfl)).trans (f25 57 (of_decide_eq_true rfl))) ((f66 58 (of_decide_eq_true rfl)).trans (f25 58 (of_decide_eq_true rfl))) ((f66 59 (of_decide_eq_true rfl)).trans (f25 59 (of_decide_eq_true rfl))) hI101
           have I71 : jI102 σ64 := jI102_fr (f67 6 (of_decide_eq_true rfl)) (f66 60 (of_decide_eq_true rfl)) (f66 61 (of_decide_eq_true rfl)) I45
           have I72 : jI103 σ64 := jI103_fr ((f67 9 (of_decide_eq_true rfl)).trans (f26 9 (of_decide_eq_true rfl))) hI103
           have I73 : jI104 σ64 := jI104_fr (f67 10 (of_decide_eq_true rfl)) (f67 12 (of_decide_eq_true rfl)) (f67 13 (of_decide_eq_true rfl)) (f66 62 (of_decide_eq_true rfl)) (f66 67 (of_decide_eq_true rfl)) I46
           have I74 : jI105 σ64 := jI105_fr ((f67 15 (of_decide_eq_true rfl)).trans (f26 15 (of_decide_eq_true rfl))) ((f66 65 (of_decide_eq_true rfl)).trans (f25 65 (of_decide_eq_true rfl))) hI105
           have I75 : jI106 σ64 := jI106_fr ((f67 32 (of_decide_eq_true rfl)).trans (f26 32 (of_decide_eq_true rfl))) ((f66 70 (of_decide_eq_true rfl)).trans (f25 70 (of_decide_eq_true rfl))) ((f66 71 (of_decide_eq_true rfl)).trans (f25 71 (of_decide_eq_true rfl))) ((f66 72 (of_decide_eq_true rfl)).trans (f25 72 (of_decide_eq_true rfl))) hI106
           have I76 : jI120 σ64 := jI120_fr (f67 10 (of_decide_eq_true rfl)) (f67 12 (of_decide_eq_true rfl)) (f67 25 (of_decide_eq_true rfl)) (f67 26 (of_decide_eq_true rfl)) (f67 27 (of_decide_eq_true rfl)) (f66 68 (of_decide_eq_true rfl)) I27
           have p77 : jKept σ64 := jKept.fr ((f66 75 (of_decide_eq_true rfl)).trans (f25 75 (of_decide_eq_true rfl))) ((f66 76 (of_decide_eq_true rfl)).trans (f25 76 (of_decide_eq_true rfl))) ((f66 77 (of_decide_eq_true rfl)).trans (f25 77 (of_decide_eq_true rfl))) hs_jKept
           have z78 : (σ64 70 a1.toNatClampNeg).toInt = (σ 70 a1.toNatClampNeg).toInt := by rw [f66 70 (of_decide_eq_true rfl), f25 70 (of_decide_eq_true rfl)]
           have z79 : (σ64 55 6).toInt = (σ 55 6).toInt := (congrArg Int32.toInt (show σ64 55 6 = (σ 55 6) from ((f67 6 (of_decide_eq_true rfl)).trans (f26 6 (of_decide_eq_true rfl)))))
           have z80 : (σ64 55 25).toInt = (σ23 55 25).toInt := (congrArg Int32.toInt (show σ64 55 25 = (σ23 55 25) from (f67 25 (of_decide_eq_true rfl))))
           have z81 : (σ64 55 10).toInt = (σ 55 10).toInt := (congrArg Int32.toInt (show σ64 55 10 = (σ 55 10) from ((f67 10 (of_decide_eq_true rfl)).trans (f26 10 (of_decide_eq_true rfl)))))
           have z82 : (σ64 55 26).toInt = (σ23 55 26).toInt := (congrArg Int32.toInt (show σ64 55 26 = (σ23 55 26) from (f67 26 (of_decide_eq_true rfl))))
           have z83 : (σ64 55 12).toInt = (σ 55 12).toInt := (congrArg Int32.toInt (show σ64 55 12 = (σ 55 12) from ((f67 12 (of_decide_eq_true rfl)).trans (f26 12 (of_decide_eq_true rfl)))))
           exact by
            refine jcallV (As := [.int a1]) (rest := []) ⟨hx, hb, hml, hown, hts⟩ hK hP hA hS hZ (c_X12_putsOn l D cI cL ad zz hJ σ64 τ B59 p69 a1 (A1) t1 I70 I71 I72 I73 I74 I75 I76 p77 (by omega) (by omega) (by omega) (by omega) (by omega)) cw_RX12_321 (jc_55 cI cL ad σ64 τ) rfl ⟨Nat.le_of_ble_eq_true rfl, Nat.le_of_ble_eq_true rfl⟩ rfl rfl rfl hl.1 rfl (Nat.le_of_ble_eq_true rfl) dX12_puts_54 ⟨Nat.zero_le _, Nat.zero_le _⟩ (fun r85 σ84 τ84 H locs h84 hP hS => ?_)
            obtain ⟨rfl, f86, f87, p88, h84⟩ := h84
            have h90 := h84
            obtain ⟨q92, k91⟩ := h90
            have w93 : ∀ k : Nat, k < 4 → 0 ≤ (σ84 68 k).toInt ∧ (σ84 68 k).toInt ≤ 3 := (jrr_fr (f86 68 (of_decide_eq_true rfl)) (jrr_fr (f66 68 (of_decide_eq_true rfl)) w36))
            have I94 : jI119 σ84 := w93
            have p95 : jBook σ84 := jBook.fr ((f87 47 (of_decide_eq_true rfl)).trans (f67 47 (of_decide_eq_true rfl))) ((f87 10 (of_decide_eq_true rfl)).trans (f67 10 (of_decide_eq_true rfl))) ((f86 81 (of_decide_eq_true rfl)).trans (f66 81 (of_decide_eq_true rfl))) p28
            exact hret r85 σ84 τ _ _ _ _ rfl ⟨rfl, (fun i hi => ((f86 i (imp_258 i hi)).trans ((f66 i (imp_259 i hi)).trans (f25 i (imp_256 i hi))))), (fun i hi => ((f87 i (imp_260 i hi)).trans ((f67 i (imp_261 i hi)).trans (f26 i (imp_257 i hi))))), I94, p88, p95, trivial⟩ hP hS dX12_puts_57
      · have kc44 := jeq c44 rfl jz_2
        refine lv_aload_n hx hb dX12_puts_28 rfl (lv_at hl 0 rfl) ?_
        have I96 : jI104 σ23 := jI104_fr (f26 10 (of_decide_eq_true rfl)) (f26 12 (of_decide_eq_true rfl)) (f26 13 (of_decide_eq_true rfl)) (f25 62 (of_decide_eq_true rfl)) (f25 67 (of_decide_eq_true rfl)) hI104
        exact by
         refine jcallV (As := []) (rest := []) ⟨hx, hb, hml, hown, hts⟩ hK hP hA hS hZ (c_X12_isBig l D cI cL ad zz hJ σ23 τ I96 (by omega)) cw_RX12_338 (jc_55 cI cL ad σ23 τ) rfl ⟨Nat.le_of_ble_eq_true rfl, Nat.le_of_ble_eq_true rfl⟩ rfl rfl rfl hl.1 rfl (Nat.le_of_ble_eq_true rfl) dX12_puts_29 ⟨Nat.zero_le _, Nat.zero_le _⟩ (fun r98 σ97 τ97 H locs h97 hP hS => ?_)
         obtain ⟨⟨rfl, rfl⟩, h97⟩ := h97
         rcases h97 with h99 | h100
         · obtain ⟨q102, k101⟩ := h99
           have q102 := q102.symm
           subst q102
           refine lv_if_eq (tgt := 38) hx hb dX12_puts_32 (of_decide_eq_true rfl) (fun c => absurd c (of_decide_eq_true rfl)) (fun _ => ?_)
           refine lv_bipush (v := (-4)) hx hb dX12_puts_35 (of_decide_eq_true rfl) ?_
           have I103 : jI119 σ23 := w36
           have p104 : jKept σ23 := jKept.fr (f25 75 (of_decide_eq_true rfl)) (f25 76 (of_decide_eq_true rfl)) (f25 77 (of_decide_eq_true rfl)) hs_jKept
           exact hret (-4) σ23 τ _ _ _ _ rfl ⟨rfl, (fun i hi => (f25 i (imp_256 i hi))), (fun i hi => (f26 i (imp_257 i hi))), I103, p104, p28, trivial⟩ hP hS dX12_puts_37
         · obtain ⟨q106, k105⟩ := h100
           have q106 := q106.symm
           subst q106
           refine lv_if_eq (tgt := 38) hx hb dX12_puts_32 (of_decide_eq_true rfl) (fun _ => ?_) (fun c => absurd (of_decide_eq_true rfl) c)
           refine lv_aload_n hx hb dX12_puts_38 rfl (lv_at hl 0 rfl) ?_
           have I107 : jI102 σ23 := jI102_fr (f26 6 (of_decide_eq_true rfl)) (f25 60 (of_decide_eq_true rfl)) (f25 61 (of_decide_eq_true rfl)) hI102
           refine jcallV (As := []) (rest := []) ⟨hx, hb, hml, hown, hts⟩ hK hP hA hS hZ (c_X12_isEnded l D cI cL ad zz hJ σ23 τ I107 I96 I27) cw_RX12_307 (jc_55 cI cL ad σ23 τ) rfl ⟨Nat.le_of_ble_eq_true rfl, Nat.le_of_ble_eq_true rfl⟩ rfl rfl rfl hl.1 rfl (Nat.le_of_ble_eq_true rfl) dX12_puts_39 ⟨Nat.zero_le _, Nat.zero_le _⟩ (fun r109 σ108 τ108 H locs h108 hP hS => ?_)
           obtain ⟨⟨rfl, rfl⟩, h108⟩ := h108
           rcases h108 with h110 | h111
           · obtain ⟨q113, k112⟩ := h110
             have q113 := q113.symm
             subst q113
             refine lv_if_eq (tgt := 48) hx hb dX12_puts_42 (of_decide_eq_true rfl) (fun c => absurd c (of_decide_eq_true rfl)) (fun _ => ?_)
             refine lv_bipush (v := (-2)) hx hb dX12_puts_45 (of_decide_eq_true rfl) ?_
             have I114 : jI119 σ23 := w36
             have p115 : jKept σ23 := jKept.fr (f25 75 (of_decide_eq_true rfl)) (f25 76 (of_decide_eq_true rfl)) (f25 77 (of_decide_eq_true rfl)) hs_jKept
             exact hret (-2) σ23 τ _ _ _ _ rfl ⟨rfl, (fun i hi => (f25 i (imp_256 i hi))), (fun i hi => (f26 i (imp_257 i hi))), I114, p115, p28, trivial⟩ hP hS dX12_puts_47
           · obtain ⟨q119, k116, k117, k118⟩ := h111
             have q119 := q119.symm
             subst q119
             obtain ⟨B120, k121, k122, w123⟩ := k118
             have z124 : (σ23 55 6).toInt = (σ 55 6).toInt := (congrArg Int32.toInt (show σ23 55 6 = (σ 55 6) from (f26 6 (of_decide_eq_true rfl))))
             refine lv_if_eq (tgt := 48) hx hb dX12_puts_42 (of_decide_eq_true rfl) (fun _ => ?_) (fun c => absurd (of_decide_eq_true rfl) c)
             refine lv_aload_n hx hb dX12_puts_48 rfl (lv_at hl 0 rfl) ?_
             refine jcallVv (As := []) (rest := []) ⟨hx, hb, hml, hown, hts⟩ hK hP hA hS hZ (c_X12_forgets l D cI cL ad zz hJ σ23 τ) cw_RX12_341 (jc_55 cI cL ad σ23 τ) rfl ⟨Nat.le_of_ble_eq_true rfl, Nat.le_of_ble_eq_true rfl⟩ rfl rfl rfl hl.1 rfl (Nat.le_of_ble_eq_true rfl) dX12_puts_49 ⟨Nat.zero_le _, Nat.zero_le _⟩ (fun σ125 τ125 H locs h125 hP hS => ?_)
             obtain ⟨rfl, f127, f128, h125⟩ := h125
             refine lv_aload_n hx hb dX12_puts_52 rfl (lv_at hl 0 rfl) ?_
             refine lv_iload_n hx hb dX12_puts_53 rfl (lv_at hl 1 rfl) ?_
             have p130 : jmb σ125 B120 = 1 := (jmb_fr (f128 27 (of_decide_eq_true rfl)) (f128 30 (of_decide_eq_true rfl)) (f128 31 (of_decide_eq_true rfl)) (f127 56 (of_decide_eq_true rfl)) (f127 69 (of_decide_eq_true rfl)) B120).trans w123
             have I131 : jI101 σ125 := jI101_fr ((f128 4 (of_decide_eq_true rfl)).trans (f26 4 (of_decide_eq_true rfl))) ((f128 5 (of_decide_eq_true rfl)).trans (f26 5 (of_decide_eq_true rfl))) ((f127 56 (of_decide_eq_true rfl)).trans (f25 56 (of_decide_eq_true rfl))) ((f127 57 (of_decide_eq_true rfl)).trans (f25 57 (of_decide_eq_true rfl))) ((f127 58 (of_decide_eq_true rfl)).trans (f25 58 (of_decide_eq_true rfl))) ((f127 59 (of_decide_eq_true rfl)).trans (f25 59 (of_decide_eq_true rfl))) hI101
             have I132 : jI102 σ125 := jI102_fr (f128 6 (of_decide_eq_true rfl)) (f127 60 (of_decide_eq_true rfl)) (f127 61 (of_decide_eq_true rfl)) I107
             have I133 : jI103 σ125 := jI103_fr ((f128 9 (of_decide_eq_true rfl)).trans (f26 9 (of_decide_eq_true rfl))) hI103
             have I134 : jI104 σ125 := jI104_fr (f128 10 (of_decide_eq_true rfl)) (f128 12 (of_decide_eq_true rfl)) (f128 13 (of_decide_eq_true rfl)) (f127 62 (of_decide_eq_true rfl)) (f127 67 (of_decide_eq_true rfl)) I96
             have I135 : jI105 σ125 := jI105_fr ((f128 15 (of_decide_eq_true rfl)).trans (f26 15 (of_decide_eq_true rfl))) ((f127 65 (of_decide_eq_true rfl)).trans (f25 65 (of_decide_eq_true rfl))) hI105
             have I136 : jI106 σ125 := jI106_fr ((f128 32 (of_decide_eq_true rfl)).trans (f26 32 (of_decide_eq_true rfl))) ((f127 70 (of_decide_eq_true rfl)).trans (f25 70 (of_decide_eq_true rfl))) ((f127 71 (of_decide_eq_true rfl)).trans (f25 71 (of_decide_eq_true rfl))) ((f127 72 (of_decide_eq_true rfl)).trans (f25 72 (of_decide_eq_true rfl))) hI106
             have I137 : jI120 σ125 := jI120_fr (f128 10 (of_decide_eq_true rfl)) (f128 12 (of_decide_eq_true rfl)) (f128 25 (of_decide_eq_true rfl)) (f128 26 (of_decide_eq_true rfl)) (f128 27 (of_decide_eq_true rfl)) (f127 68 (of_decide_eq_true rfl)) I27
             have p138 : jKept σ125 := jKept.fr ((f127 75 (of_decide_eq_true rfl)).trans (f25 75 (of_decide_eq_true rfl))) ((f127 76 (of_decide_eq_true rfl)).trans (f25 76 (of_decide_eq_true rfl))) ((f127 77 (of_decide_eq_true rfl)).trans (f25 77 (of_decide_eq_true rfl))) hs_jKept
             have z139 : (σ125 70 a1.toNatClampNeg).toInt = (σ 70 a1.toNatClampNeg).toInt := by rw [f127 70 (of_decide_eq_true rfl), f25 70 (of_decide_eq_true rfl)]
             have z140 : (σ125 55 6).toInt = (σ 55 6).toInt := (congrArg Int32.toInt (show σ125 55 6 = (σ 55 6) from ((f128 6 (of_decide_eq_true rfl)).trans (f26 6 (of_decide_eq_true rfl)))))
             have z141 : (σ125 55 25).toInt = (σ23 55 25).toInt := (congrArg Int32.toInt (show σ125 55 25 = (σ23 55 25) from (f128 25 (of_decide_eq_true rfl))))
             have z142 : (σ125 55 10).toInt = (σ 55 10).toInt := (congrArg Int32.toInt (show σ125 55 10 = (σ 55 10) from ((f128 10 (of_decide_eq_true rfl)).trans (f26 10 (of_decide_eq_true rfl)))))
             have z143 : (σ125 55 26).toInt = (σ23 55 26).toInt := (congrArg Int32.toInt (show σ125 55 26 = (σ23 55 26) from (f128 26 (of_decide_eq_true rfl))))
             have z144 : (σ125 55 12).toInt = (σ 55 12).toInt := (congrArg Int32.toInt (show σ125 55 12 = (σ 55 12) from ((f128 12 (of_decide_eq_true rfl)).trans (f26 12 (of_decide_eq_true rfl)))))
             exact by
              refine jcallV (As := [.int a1]) (rest := []) ⟨hx, hb, hml, hown, hts⟩ hK hP hA hS hZ (c_X12_putsOn l D cI cL ad zz hJ σ125 τ B120 p130 a1 (A1) t1 I131 I132 I133 I134 I135 I136 I137 p138 (by omega) (by omega) (by omega) (by omega) (by omega)) cw_RX12_321 (jc_55 cI cL ad σ125 τ) rfl ⟨Nat.le_of_ble_eq_true rfl, Nat.le_of_ble_eq_true rfl⟩ rfl rfl rfl hl.1 rfl (Nat.le_of_ble_eq_true rfl) dX12_puts_54 ⟨Nat.zero_le _, Nat.zero_le _⟩ (fun r146 σ145 τ145 H locs h145 hP hS => ?_)
              obtain ⟨rfl, f147, f148, p149, h145⟩ := h145
              have h151 := h145
              obtain ⟨q153, k152⟩ := h151
              have w154 : ∀ k : Nat, k < 4 → 0 ≤ (σ145 68 k).toInt ∧ (σ145 68 k).toInt ≤ 3 := (jrr_fr (f147 68 (of_decide_eq_true rfl)) (jrr_fr (f127 68 (of_decide_eq_true rfl)) w36))
              have I155 : jI119 σ145 := w154
              have p156 : jBook σ145 := jBook.fr ((f148 47 (of_decide_eq_true rfl)).trans (f128 47 (of_decide_eq_true rfl))) ((f148 10 (of_decide_eq_true rfl)).trans (f128 10 (of_decide_eq_true rfl))) ((f147 81 (of_decide_eq_true rfl)).trans (f127 81 (of_decide_eq_true rfl))) p28
              exact hret r146 σ145 τ _ _ _ _ rfl ⟨rfl, (fun i hi => ((f147 i (imp_258 i hi)).trans ((f127 i (imp_259 i hi)).trans (f25 i (imp_256 i hi))))), (fun i hi => ((f148 i (imp_260 i hi)).trans ((f128 i (imp_261 i hi)).trans (f26 i (imp_257 i hi))))), I155, p149, p156, trivial⟩ hP hS dX12_puts_57
  · obtain ⟨q158, k157⟩ := h19
    have q158 := q158.symm
    subst q158
    refine lv_if_ne (tgt := 10) hx hb dX12_puts_5 (of_decide_eq_true rfl) (fun c => absurd (of_decide_eq_true rfl) c) (fun _ => ?_)
    refine lv_iconst (v := (-1)) hx hb dX12_puts_8 (of_decide_eq_true rfl) ?_
    exact hret (-1) σ τ _ _ _ _ rfl ⟨rfl, (fun _ _ => rfl), (fun _ _ => rfl), hI119, hs_jKept, hs_jBook, trivial⟩ hP hS dX12_puts_9
set_option maxHeartbeats 4000000 in
set_option maxRecDepth 100000 in
theorem c_X12_mean (l : Launch) (D : va_G) (cI cL : ClassId) (ad zz : Nat → Nat) (hJ : jD ad) (σ : Nat → Nat → Int32) (τ : Nat → Nat → Int64) (a1 : Int32) (A1 : Int) (t1 : a1.toInt = A1) (hI101 : jI101 σ) (hI102 : jI102 σ) (hI103 : jI103 σ) (hI104 : jI104 σ) (hI105 : jI105 σ) (hI106 : jI106 σ) (hI119 : jI119 σ) (hs_jKept : jKept σ) : jM l yX12_mean cX12_mean 2 (some .int) ({ frames := 139, cells := 0, slots := 0, locals := 7209 }) D cI cL ad zz [.ref (ad 55), .int a1] σ τ (fun r σ' τ' => τ = τ' ∧ (∀ i : Nat, (i < 55 ∨ 55 < i) ∧ (i < 66 ∨ 66 < i) ∧ (i < 68 ∨ 69 < i) ∧ (i < 74 ∨ 78 < i) → σ' i = σ i) ∧ (∀ k : Nat, (k < 18 ∨ 18 < k) ∧ (k < 19 ∨ 19 < k) ∧ (k < 20 ∨ 20 < k) ∧ (k < 21 ∨ 21 < k) ∧ (k < 22 ∨ 22 < k) ∧ (k < 25 ∨ 25 < k) ∧ (k < 26 ∨ 26 < k) ∧ (k < 27 ∨ 27 < k) ∧ (k < 37 ∨ 37 < k) ∧ (k < 42 ∨ 42 < k) → σ' 55 k = σ 55 k) ∧ (jI119 σ') ∧ (jKept σ') ∧ True) := by
  refine jM.of hJ (by decide +kernel) (nt := .int) rfl (Nat.le_of_ble_eq_true rfl) ?_
  intro p e s m args below meth c Q ls hC hret hl hP
  obtain ⟨hx, hb, hr, hml, hown, hts, hK, -, hlocks, hZ⟩ := hC
  have hown : s.vm.findClass RX12 = some m.cls := hown
  have hS : va_S (jA ad) s.heap s.heap [] := va_S.rf
  have hA : ∀ q, jA ad q → jA ad q := fun _ h => h
  have hl : lv_has ls 2 [(0, .ref (ad 55)), (1, .int a1)] := hl
  have g1 := jrg t1
  obtain ⟨i1, i2, i3, w4, w5⟩ : (1 ≤ (σ 55 10).toInt ∧ (σ 55 10).toInt ≤ 8) ∧ (1 ≤ (σ 55 12).toInt ∧ (σ 55 12).toInt ≤ 12) ∧ (0 ≤ (σ 55 13).toInt ∧ (σ 55 13).toInt ≤ 999) ∧ (∀ k : Nat, k < 8 → 0 ≤ (σ 62 k).toInt ∧ (σ 62 k).toInt ≤ 3) ∧ (∀ k : Nat, k < 8 → 0 ≤ (σ 67 k).toInt ∧ (σ 67 k).toInt ≤ 3) := id hI104
  obtain ⟨i6, w7, w8, w9⟩ : (0 ≤ (σ 55 32).toInt ∧ (σ 55 32).toInt ≤ 20) ∧ (∀ k : Nat, k < 20 → 0 ≤ (σ 70 k).toInt ∧ (σ 70 k).toInt ≤ 6) ∧ (∀ k : Nat, k < 20 → 0 ≤ (σ 71 k).toInt ∧ (σ 71 k).toInt ≤ 8) ∧ (∀ k : Nat, k < 160 → 0 ≤ (σ 72 k).toInt ∧ (σ 72 k).toInt ≤ 3) := id hI106
  refine lv_aload_n hx hb dX12_mean_0 rfl (lv_at hl 0 rfl) ?_
  refine lv_iload_n hx hb dX12_mean_1 rfl (lv_at hl 1 rfl) ?_
  refine jcallV (As := [.int a1]) (rest := []) ⟨hx, hb, hml, hown, hts⟩ hK hP hA hS hZ (c_X12_isRule l D cI cL ad zz hJ σ τ a1 (A1) t1 hI106) cw_RX12_331 (jc_55 cI cL ad σ τ) rfl ⟨Nat.le_of_ble_eq_true rfl, Nat.le_of_ble_eq_true rfl⟩ rfl rfl rfl hl.1 rfl (Nat.le_of_ble_eq_true rfl) dX12_mean_2 ⟨Nat.zero_le _, Nat.zero_le _⟩ (fun r11 σ10 τ10 H locs h10 hP hS => ?_)
  obtain ⟨⟨rfl, rfl⟩, h10⟩ := h10
  rcases h10 with h12 | h13
  · obtain ⟨q15, k14⟩ := h12
    have q15 := q15.symm
    subst q15
    refine lv_if_ne (tgt := 10) hx hb dX12_mean_5 (of_decide_eq_true rfl) (fun _ => ?_) (fun c => absurd c (of_decide_eq_true rfl))
    refine lv_aload_n hx hb dX12_mean_10 rfl (lv_at hl 0 rfl) ?_
    refine va_get (D := D) hx hb hts inlX12 hown hK hP 55 (jc_55 cI cL ad σ τ) rfl 12 (of_decide_eq_true rfl) (hts _ kw_8_16) (fun _ h9 => h9) rfl dX12_mean_11 ?_
    refine lv_bipush (v := 8) hx hb dX12_mean_14 (of_decide_eq_true rfl) ?_
    refine lv_icmp_le (tgt := 22) hx hb dX12_mean_16 (of_decide_eq_true rfl) (fun c16 => ?_) (fun c16 => ?_)
    · have kc16 := jle c16 rfl jz_8
      refine lv_aload_n hx hb dX12_mean_22 rfl (lv_at hl 0 rfl) ?_
      have w17 : ∀ k : Nat, k < 4 → 0 ≤ (σ 68 k).toInt ∧ (σ 68 k).toInt ≤ 3 := hI119
      refine jcallVv (As := []) (rest := []) ⟨hx, hb, hml, hown, hts⟩ hK hP hA hS hZ (c_X12_begin l D cI cL ad zz hJ σ τ hI104 w17) cw_RX12_256 (jc_55 cI cL ad σ τ) rfl ⟨Nat.le_of_ble_eq_true rfl, Nat.le_of_ble_eq_true rfl⟩ rfl rfl rfl hl.1 rfl (Nat.le_of_ble_eq_true rfl) dX12_mean_23 ⟨Nat.zero_le _, Nat.zero_le _⟩ (fun σ18 τ18 H locs h18 hP hS => ?_)
      obtain ⟨rfl, f20, f21, I22, w23, h18⟩ := h18
      obtain ⟨i25, i26, i27, i28, i29, w30⟩ : (0 ≤ (σ18 55 25).toInt) ∧ ((σ18 55 25).toInt ≤ (σ18 55 10).toInt) ∧ (0 ≤ (σ18 55 26).toInt) ∧ ((σ18 55 26).toInt ≤ (σ18 55 12).toInt) ∧ ((-1) ≤ (σ18 55 27).toInt ∧ (σ18 55 27).toInt ≤ 3) ∧ (∀ k : Nat, k < 4 → 0 ≤ (σ18 68 k).toInt ∧ (σ18 68 k).toInt ≤ 3) := id I22
      have z31 : (σ18 55 10).toInt = (σ 55 10).toInt := (congrArg Int32.toInt (show σ18 55 10 = (σ 55 10) from (f21 10 (of_decide_eq_true rfl))))
      have z32 : (σ18 55 12).toInt = (σ 55 12).toInt := (congrArg Int32.toInt (show σ18 55 12 = (σ 55 12) from (f21 12 (of_decide_eq_true rfl))))
      obtain ⟨k33, k34, k35, h18⟩ := h18
      refine lv_aload_n hx hb dX12_mean_26 rfl (lv_at hl 0 rfl) ?_
      refine jcallVv (As := []) (rest := []) ⟨hx, hb, hml, hown, hts⟩ hK hP hA hS hZ (c_X12_forgets l D cI cL ad zz hJ σ18 τ) cw_RX12_341 (jc_55 cI cL ad σ18 τ) rfl ⟨Nat.le_of_ble_eq_true rfl, Nat.le_of_ble_eq_true rfl⟩ rfl rfl rfl hl.1 rfl (Nat.le_of_ble_eq_true rfl) dX12_mean_27 ⟨Nat.zero_le _, Nat.zero_le _⟩ (fun σ36 τ36 H locs h36 hP hS => ?_)
      obtain ⟨rfl, f38, f39, h36⟩ := h36
      refine lv_aload_n hx hb dX12_mean_30 rfl (lv_at hl 0 rfl) ?_
      refine lv_iload_n hx hb dX12_mean_31 rfl (lv_at hl 1 rfl) ?_
      have I41 : jI101 σ36 := jI101_fr ((f39 4 (of_decide_eq_true rfl)).trans (f21 4 (of_decide_eq_true rfl))) ((f39 5 (of_decide_eq_true rfl)).trans (f21 5 (of_decide_eq_true rfl))) ((f38 56 (of_decide_eq_true rfl)).trans (f20 56 (of_decide_eq_true rfl))) ((f38 57 (of_decide_eq_true rfl)).trans (f20 57 (of_decide_eq_true rfl))) ((f38 58 (of_decide_eq_true rfl)).trans (f20 58 (of_decide_eq_true rfl))) ((f38 59 (of_decide_eq_true rfl)).trans (f20 59 (of_decide_eq_true rfl))) hI101
      have I42 : jI102 σ36 := jI102_fr ((f39 6 (of_decide_eq_true rfl)).trans (f21 6 (of_decide_eq_true rfl))) ((f38 60 (of_decide_eq_true rfl)).trans (f20 60 (of_decide_eq_true rfl))) ((f38 61 (of_decide_eq_true rfl)).trans (f20 61 (of_decide_eq_true rfl))) hI102
      have I43 : jI103 σ36 := jI103_fr ((f39 9 (of_decide_eq_true rfl)).trans (f21 9 (of_decide_eq_true rfl))) hI103
      have I44 : jI104 σ36 := jI104_fr ((f39 10 (of_decide_eq_true rfl)).trans (f21 10 (of_decide_eq_true rfl))) ((f39 12 (of_decide_eq_true rfl)).trans (f21 12 (of_decide_eq_true rfl))) ((f39 13 (of_decide_eq_true rfl)).trans (f21 13 (of_decide_eq_true rfl))) ((f38 62 (of_decide_eq_true rfl)).trans (f20 62 (of_decide_eq_true rfl))) ((f38 67 (of_decide_eq_true rfl)).trans (f20 67 (of_decide_eq_true rfl))) hI104
      have I45 : jI105 σ36 := jI105_fr ((f39 15 (of_decide_eq_true rfl)).trans (f21 15 (of_decide_eq_true rfl))) ((f38 65 (of_decide_eq_true rfl)).trans (f20 65 (of_decide_eq_true rfl))) hI105
      have I46 : jI106 σ36 := jI106_fr ((f39 32 (of_decide_eq_true rfl)).trans (f21 32 (of_decide_eq_true rfl))) ((f38 70 (of_decide_eq_true rfl)).trans (f20 70 (of_decide_eq_true rfl))) ((f38 71 (of_decide_eq_true rfl)).trans (f20 71 (of_decide_eq_true rfl))) ((f38 72 (of_decide_eq_true rfl)).trans (f20 72 (of_decide_eq_true rfl))) hI106
      have I47 : jI120 σ36 := jI120_fr (f39 10 (of_decide_eq_true rfl)) (f39 12 (of_decide_eq_true rfl)) (f39 25 (of_decide_eq_true rfl)) (f39 26 (of_decide_eq_true rfl)) (f39 27 (of_decide_eq_true rfl)) (f38 68 (of_decide_eq_true rfl)) I22
      have p48 : jKept σ36 := jKept.fr ((f38 75 (of_decide_eq_true rfl)).trans (f20 75 (of_decide_eq_true rfl))) ((f38 76 (of_decide_eq_true rfl)).trans (f20 76 (of_decide_eq_true rfl))) ((f38 77 (of_decide_eq_true rfl)).trans (f20 77 (of_decide_eq_true rfl))) hs_jKept
      have z49 : (σ36 55 12).toInt = (σ 55 12).toInt := (congrArg Int32.toInt (show σ36 55 12 = (σ 55 12) from ((f39 12 (of_decide_eq_true rfl)).trans (f21 12 (of_decide_eq_true rfl)))))
      have z50 : (σ36 55 26).toInt = (σ18 55 26).toInt := (congrArg Int32.toInt (show σ36 55 26 = (σ18 55 26) from (f39 26 (of_decide_eq_true rfl))))
      exact by
       refine jcallV (As := [.int a1]) (rest := []) ⟨hx, hb, hml, hown, hts⟩ hK hP hA hS hZ ((c_X12_means l D cI cL ad zz hJ 8) σ36 τ a1 (A1) t1 I41 I42 I43 I44 I45 I46 I47 p48 (by omega) (by omega) (by omega)) cw_RX12_324 (jc_55 cI cL ad σ36 τ) rfl ⟨Nat.le_of_ble_eq_true rfl, Nat.le_of_ble_eq_true rfl⟩ rfl rfl rfl hl.1 rfl (Nat.le_of_ble_eq_true rfl) dX12_mean_32 ⟨Nat.zero_le _, Nat.zero_le _⟩ (fun r52 σ51 τ51 H locs h51 hP hS => ?_)
       obtain ⟨rfl, f53, f54, p55, h51⟩ := h51
       have w57 : ∀ k : Nat, k < 4 → 0 ≤ (σ51 68 k).toInt ∧ (σ51 68 k).toInt ≤ 3 := (jrr_fr (f53 68 (of_decide_eq_true rfl)) (jrr_fr (f38 68 (of_decide_eq_true rfl)) w30))
       have I58 : jI119 σ51 := w57
       exact hret r52 σ51 τ _ _ _ _ rfl ⟨rfl, (fun i hi => ((f53 i (imp_258 i hi)).trans ((f38 i (imp_259 i hi)).trans (f20 i (imp_256 i hi))))), (fun i hi => ((f54 i (imp_260 i hi)).trans ((f39 i (imp_261 i hi)).trans (f21 i (imp_257 i hi))))), I58, p55, trivial⟩ hP hS dX12_mean_35
    · have kc16 := jnle c16 rfl jz_8
      refine lv_bipush (v := (-4)) hx hb dX12_mean_19 (of_decide_eq_true rfl) ?_
      exact hret (-4) σ τ _ _ _ _ rfl ⟨rfl, (fun _ _ => rfl), (fun _ _ => rfl), hI119, hs_jKept, trivial⟩ hP hS dX12_mean_21
  · obtain ⟨q60, k59⟩ := h13
    have q60 := q60.symm
    subst q60
    refine lv_if_ne (tgt := 10) hx hb dX12_mean_5 (of_decide_eq_true rfl) (fun c => absurd (of_decide_eq_true rfl) c) (fun _ => ?_)
    refine lv_iconst (v := (-1)) hx hb dX12_mean_8 (of_decide_eq_true rfl) ?_
    exact hret (-1) σ τ _ _ _ _ rfl ⟨rfl, (fun _ _ => rfl), (fun _ _ => rfl), hI119, hs_jKept, trivial⟩ hP hS dX12_mean_9
set_option maxHeartbeats 4000000 in
set_option maxRecDepth 100000 in
theorem c_X12_likely (l : Launch) (D : va_G) (cI cL : ClassId) (ad zz : Nat → Nat) (hJ : jD ad) (σ : Nat → Nat → Int32) (τ : Nat → Nat → Int64) (a1 : Int32) (A1 : Int) (t1 : a1.toInt = A1) (a2 : Int32) (A2 : Int) (t2 : a2.toInt = A2) (hI101 : jI101 σ) (hI102 : jI102 σ) (hI103 : jI103 σ) (hI104 : jI104 σ) (hI105 : jI105 σ) (hI106 : jI106 σ) (hI119 : jI119 σ) (hs_jKept : jKept σ) : jM l yX12_likely cX12_likely 3 (some .int) ({ frames := 139, cells := 0, slots := 0, locals := 7210 }) D cI cL ad zz [.ref (ad 55), .int a1, .int a2] σ τ (fun r σ' τ' => τ = τ' ∧ (∀ i : Nat, (i < 55 ∨ 55 < i) ∧ (i < 66 ∨ 66 < i) ∧ (i < 68 ∨ 69 < i) ∧ (i < 74 ∨ 78 < i) → σ' i = σ i) ∧ (∀ k : Nat, (k < 18 ∨ 18 < k) ∧ (k < 19 ∨ 19 < k) ∧ (k < 20 ∨ 20 < k) ∧ (k < 21 ∨ 21 < k) ∧ (k < 22 ∨ 22 < k) ∧ (k < 25 ∨ 25 < k) ∧ (k < 26 ∨ 26 < k) ∧ (k < 27 ∨ 27 < k) ∧ (k < 37 ∨ 37 < k) ∧ (k < 42 ∨ 42 < k) → σ' 55 k = σ 55 k) ∧ (jI119 σ') ∧ (jKept σ') ∧ True) := by
  refine jM.of hJ (by decide +kernel) (nt := .int) rfl (Nat.le_of_ble_eq_true rfl) ?_
  intro p e s m args below meth c Q ls hC hret hl hP
  obtain ⟨hx, hb, hr, hml, hown, hts, hK, -, hlocks, hZ⟩ := hC
  have hown : s.vm.findClass RX12 = some m.cls := hown
  have hS : va_S (jA ad) s.heap s.heap [] := va_S.rf
  have hA : ∀ q, jA ad q → jA ad q := fun _ h => h
  have hl : lv_has ls 3 [(0, .ref (ad 55)), (1, .int a1), (2, .int a2)] := hl
  have g1 := jrg t1
  have g2 := jrg t2
  obtain ⟨i1, i2, i3, w4, w5⟩ : (1 ≤ (σ 55 10).toInt ∧ (σ 55 10).toInt ≤ 8) ∧ (1 ≤ (σ 55 12).toInt ∧ (σ 55 12).toInt ≤ 12) ∧ (0 ≤ (σ 55 13).toInt ∧ (σ 55 13).toInt ≤ 999) ∧ (∀ k : Nat, k < 8 → 0 ≤ (σ 62 k).toInt ∧ (σ 62 k).toInt ≤ 3) ∧ (∀ k : Nat, k < 8 → 0 ≤ (σ 67 k).toInt ∧ (σ 67 k).toInt ≤ 3) := id hI104
  obtain ⟨i6, w7, w8, w9⟩ : (0 ≤ (σ 55 32).toInt ∧ (σ 55 32).toInt ≤ 20) ∧ (∀ k : Nat, k < 20 → 0 ≤ (σ 70 k).toInt ∧ (σ 70 k).toInt ≤ 6) ∧ (∀ k : Nat, k < 20 → 0 ≤ (σ 71 k).toInt ∧ (σ 71 k).toInt ≤ 8) ∧ (∀ k : Nat, k < 160 → 0 ≤ (σ 72 k).toInt ∧ (σ 72 k).toInt ≤ 3) := id hI106
  refine lv_aload_n hx hb dX12_likely_0 rfl (lv_at hl 0 rfl) ?_
  refine lv_iload_n hx hb dX12_likely_1 rfl (lv_at hl 1 rfl) ?_
  refine jcallV (As := [.int a1]) (rest := []) ⟨hx, hb, hml, hown, hts⟩ hK hP hA hS hZ (c_X12_isRule l D cI cL ad zz hJ σ τ a1 (A1) t1 hI106) cw_RX12_331 (jc_55 cI cL ad σ τ) rfl ⟨Nat.le_of_ble_eq_true rfl, Nat.le_of_ble_eq_true rfl⟩ rfl rfl rfl hl.1 rfl (Nat.le_of_ble_eq_true rfl) dX12_likely_2 ⟨Nat.zero_le _, Nat.zero_le _⟩ (fun r11 σ10 τ10 H locs h10 hP hS => ?_)
  obtain ⟨⟨rfl, rfl⟩, h10⟩ := h10
  rcases h10 with h12 | h13
  · obtain ⟨q15, k14⟩ := h12
    have q15 := q15.symm
    subst q15
    refine lv_if_eq (tgt := 20) hx hb dX12_likely_5 (of_decide_eq_true rfl) (fun c => absurd c (of_decide_eq_true rfl)) (fun _ => ?_)
    refine lv_iload_n hx hb dX12_likely_8 rfl (lv_at hl 2 rfl) ?_
    refine lv_i2l (v := a2.toInt64) hx hb dX12_likely_9 rfl ?_
    refine lv_lconst (v := 0) hx hb dX12_likely_10 (of_decide_eq_true rfl) ?_
    refine lv_ldc2 (v := 999) hx hb hown (hts _ kw_37_8) dX12_likely_11 ?_
    refine jcallS (As := [.long a2.toInt64, .long 0, .long 999]) (rest := []) ⟨hx, hb, hml, hown, hts⟩ hK hP hA hS hZ (c_X12_within l D cI cL ad zz hJ σ τ a2.toInt64 (A2) (jtoL t2) 0 (0) jzl_0 999 (999) jzl_999) cw_RX12_136 ⟨Nat.le_of_ble_eq_true rfl, Nat.le_of_ble_eq_true rfl⟩ rfl rfl rfl hl.1 rfl (Nat.le_of_ble_eq_true rfl) dX12_likely_14 ⟨Nat.zero_le _, Nat.zero_le _⟩ (fun r17 σ16 τ16 H locs h16 hP hS => ?_)
    obtain ⟨⟨rfl, rfl⟩, h16⟩ := h16
    rcases h16 with h18 | h19
    · obtain ⟨q21, k20⟩ := h18
      have q21 := q21.symm
      subst q21
      refine lv_if_ne (tgt := 22) hx hb dX12_likely_17 (of_decide_eq_true rfl) (fun _ => ?_) (fun c => absurd c (of_decide_eq_true rfl))
      refine lv_aload_n hx hb dX12_likely_22 rfl (lv_at hl 0 rfl) ?_
      refine va_get (D := D) hx hb hts inlX12 hown hK hP 55 (jc_55 cI cL ad σ τ) rfl 12 (of_decide_eq_true rfl) (hts _ kw_8_16) (fun _ h9 => h9) rfl dX12_likely_23 ?_
      refine lv_bipush (v := 8) hx hb dX12_likely_26 (of_decide_eq_true rfl) ?_
      refine lv_icmp_le (tgt := 34) hx hb dX12_likely_28 (of_decide_eq_true rfl) (fun c22 => ?_) (fun c22 => ?_)
      · have kc22 := jle c22 rfl jz_8
        refine lv_aload_n hx hb dX12_likely_34 rfl (lv_at hl 0 rfl) ?_
        have w23 : ∀ k : Nat, k < 4 → 0 ≤ (σ 68 k).toInt ∧ (σ 68 k).toInt ≤ 3 := hI119
        refine jcallVv (As := []) (rest := []) ⟨hx, hb, hml, hown, hts⟩ hK hP hA hS hZ (c_X12_begin l D cI cL ad zz hJ σ τ hI104 w23) cw_RX12_256 (jc_55 cI cL ad σ τ) rfl ⟨Nat.le_of_ble_eq_true rfl, Nat.le_of_ble_eq_true rfl⟩ rfl rfl rfl hl.1 rfl (Nat.le_of_ble_eq_true rfl) dX12_likely_35 ⟨Nat.zero_le _, Nat.zero_le _⟩ (fun σ24 τ24 H locs h24 hP hS => ?_)
        obtain ⟨rfl, f26, f27, I28, w29, h24⟩ := h24
        obtain ⟨i31, i32, i33, i34, i35, w36⟩ : (0 ≤ (σ24 55 25).toInt) ∧ ((σ24 55 25).toInt ≤ (σ24 55 10).toInt) ∧ (0 ≤ (σ24 55 26).toInt) ∧ ((σ24 55 26).toInt ≤ (σ24 55 12).toInt) ∧ ((-1) ≤ (σ24 55 27).toInt ∧ (σ24 55 27).toInt ≤ 3) ∧ (∀ k : Nat, k < 4 → 0 ≤ (σ24 68 k).toInt ∧ (σ24 68 k).toInt ≤ 3) := id I28
        have z37 : (σ24 55 10).toInt = (σ 55 10).toInt := (congrArg Int32.toInt (show σ24 55 10 = (σ 55 10) from (f27 10 (of_decide_eq_true rfl))))
        have z38 : (σ24 55 12).toInt = (σ 55 12).toInt := (congrArg Int32.toInt (show σ24 55 12 = (σ 55 12) from (f27 12 (of_decide_eq_true rfl))))
        obtain ⟨k39, k40, k41, h24⟩ := h24
        refine lv_aload_n hx hb dX12_likely_38 rfl (lv_at hl 0 rfl) ?_
        refine jcallVv (As := []) (rest := []) ⟨hx, hb, hml, hown, hts⟩ hK hP hA hS hZ (c_X12_forgets l D cI cL ad zz hJ σ24 τ) cw_RX12_341 (jc_55 cI cL ad σ24 τ) rfl ⟨Nat.le_of_ble_eq_true rfl, Nat.le_of_ble_eq_true rfl⟩ rfl rfl rfl hl.1 rfl (Nat.le_of_ble_eq_true rfl) dX12_likely_39 ⟨Nat.zero_le _, Nat.zero_le _⟩ (fun σ42 τ42 H locs h42 hP hS => ?_)
        obtain ⟨rfl, f44, f45, h42⟩ := h42
        refine lv_aload_n hx hb dX12_likely_42 rfl (lv_at hl 0 rfl) ?_
        refine lv_iload_n hx hb dX12_likely_43 rfl (lv_at hl 1 rfl) ?_
        refine lv_iload_n hx hb dX12_likely_44 rfl (lv_at hl 2 rfl) ?_
        have I47 : jI101 σ42 := jI101_fr ((f45 4 (of_decide_eq_true rfl)).trans (f27 4 (of_decide_eq_true rfl))) ((f45 5 (of_decide_eq_true rfl)).trans (f27 5 (of_decide_eq_true rfl))) ((f44 56 (of_decide_eq_true rfl)).trans (f26 56 (of_decide_eq_true rfl))) ((f44 57 (of_decide_eq_true rfl)).trans (f26 57 (of_decide_eq_true rfl))) ((f44 58 (of_decide_eq_true rfl)).trans (f26 58 (of_decide_eq_true rfl))) ((f44 59 (of_decide_eq_true rfl)).trans (f26 59 (of_decide_eq_true rfl))) hI101
        have I48 : jI102 σ42 := jI102_fr ((f45 6 (of_decide_eq_true rfl)).trans (f27 6 (of_decide_eq_true rfl))) ((f44 60 (of_decide_eq_true rfl)).trans (f26 60 (of_decide_eq_true rfl))) ((f44 61 (of_decide_eq_true rfl)).trans (f26 61 (of_decide_eq_true rfl))) hI102
        have I49 : jI103 σ42 := jI103_fr ((f45 9 (of_decide_eq_true rfl)).trans (f27 9 (of_decide_eq_true rfl))) hI103
        have I50 : jI104 σ42 := jI104_fr ((f45 10 (of_decide_eq_true rfl)).trans (f27 10 (of_decide_eq_true rfl))) ((f45 12 (of_decide_eq_true rfl)).trans (f27 12 (of_decide_eq_true rfl))) ((f45 13 (of_decide_eq_true rfl)).trans (f27 13 (of_decide_eq_true rfl))) ((f44 62 (of_decide_eq_true rfl)).trans (f26 62 (of_decide_eq_true rfl))) ((f44 67 (of_decide_eq_true rfl)).trans (f26 67 (of_decide_eq_true rfl))) hI104
        have I51 : jI105 σ42 := jI105_fr ((f45 15 (of_decide_eq_true rfl)).trans (f27 15 (of_decide_eq_true rfl))) ((f44 65 (of_decide_eq_true rfl)).trans (f26 65 (of_decide_eq_true rfl))) hI105
        have I52 : jI106 σ42 := jI106_fr ((f45 32 (of_decide_eq_true rfl)).trans (f27 32 (of_decide_eq_true rfl))) ((f44 70 (of_decide_eq_true rfl)).trans (f26 70 (of_decide_eq_true rfl))) ((f44 71 (of_decide_eq_true rfl)).trans (f26 71 (of_decide_eq_true rfl))) ((f44 72 (of_decide_eq_true rfl)).trans (f26 72 (of_decide_eq_true rfl))) hI106
        have I53 : jI120 σ42 := jI120_fr (f45 10 (of_decide_eq_true rfl)) (f45 12 (of_decide_eq_true rfl)) (f45 25 (of_decide_eq_true rfl)) (f45 26 (of_decide_eq_true rfl)) (f45 27 (of_decide_eq_true rfl)) (f44 68 (of_decide_eq_true rfl)) I28
        have p54 : jKept σ42 := jKept.fr ((f44 75 (of_decide_eq_true rfl)).trans (f26 75 (of_decide_eq_true rfl))) ((f44 76 (of_decide_eq_true rfl)).trans (f26 76 (of_decide_eq_true rfl))) ((f44 77 (of_decide_eq_true rfl)).trans (f26 77 (of_decide_eq_true rfl))) hs_jKept
        have z55 : (σ42 55 12).toInt = (σ 55 12).toInt := (congrArg Int32.toInt (show σ42 55 12 = (σ 55 12) from ((f45 12 (of_decide_eq_true rfl)).trans (f27 12 (of_decide_eq_true rfl)))))
        have z56 : (σ42 55 26).toInt = (σ24 55 26).toInt := (congrArg Int32.toInt (show σ42 55 26 = (σ24 55 26) from (f45 26 (of_decide_eq_true rfl))))
        exact by
         refine jcallV (As := [.int a1, .int a2]) (rest := []) ⟨hx, hb, hml, hown, hts⟩ hK hP hA hS hZ ((c_X12_likelies l D cI cL ad zz hJ 8) σ42 τ a1 (A1) t1 a2 (A2) t2 I47 I48 I49 I50 I51 I52 I53 p54 (by omega) (by omega) (by omega)) cw_RX12_328 (jc_55 cI cL ad σ42 τ) rfl ⟨Nat.le_of_ble_eq_true rfl, Nat.le_of_ble_eq_true rfl⟩ rfl rfl rfl hl.1 rfl (Nat.le_of_ble_eq_true rfl) dX12_likely_45 ⟨Nat.zero_le _, Nat.zero_le _⟩ (fun r58 σ57 τ57 H locs h57 hP hS => ?_)
         obtain ⟨rfl, f59, f60, p61, h57⟩ := h57
         have w63 : ∀ k : Nat, k < 4 → 0 ≤ (σ57 68 k).toInt ∧ (σ57 68 k).toInt ≤ 3 := (jrr_fr (f59 68 (of_decide_eq_true rfl)) (jrr_fr (f44 68 (of_decide_eq_true rfl)) w36))
         have I64 : jI119 σ57 := w63
         exact hret r58 σ57 τ _ _ _ _ rfl ⟨rfl, (fun i hi => ((f59 i (imp_258 i hi)).trans ((f44 i (imp_259 i hi)).trans (f26 i (imp_256 i hi))))), (fun i hi => ((f60 i (imp_260 i hi)).trans ((f45 i (imp_261 i hi)).trans (f27 i (imp_257 i hi))))), I64, p61, trivial⟩ hP hS dX12_likely_48
      · have kc22 := jnle c22 rfl jz_8
        refine lv_bipush (v := (-4)) hx hb dX12_likely_31 (of_decide_eq_true rfl) ?_
        exact hret (-4) σ τ _ _ _ _ rfl ⟨rfl, (fun _ _ => rfl), (fun _ _ => rfl), hI119, hs_jKept, trivial⟩ hP hS dX12_likely_33
    · obtain ⟨q66, k65⟩ := h19
      have q66 := q66.symm
      subst q66
      refine lv_if_ne (tgt := 22) hx hb dX12_likely_17 (of_decide_eq_true rfl) (fun c => absurd (of_decide_eq_true rfl) c) (fun _ => ?_)
      refine lv_iconst (v := (-1)) hx hb dX12_likely_20 (of_decide_eq_true rfl) ?_
      exact hret (-1) σ τ _ _ _ _ rfl ⟨rfl, (fun _ _ => rfl), (fun _ _ => rfl), hI119, hs_jKept, trivial⟩ hP hS dX12_likely_21
  · obtain ⟨q68, k67⟩ := h13
    have q68 := q68.symm
    subst q68
    refine lv_if_eq (tgt := 20) hx hb dX12_likely_5 (of_decide_eq_true rfl) (fun _ => ?_) (fun c => absurd (of_decide_eq_true rfl) c)
    refine lv_iconst (v := (-1)) hx hb dX12_likely_20 (of_decide_eq_true rfl) ?_
    exact hret (-1) σ τ _ _ _ _ rfl ⟨rfl, (fun _ _ => rfl), (fun _ _ => rfl), hI119, hs_jKept, trivial⟩ hP hS dX12_likely_21
set_option maxHeartbeats 4000000 in
set_option maxRecDepth 100000 in
theorem c_X12_best (l : Launch) (D : va_G) (cI cL : ClassId) (ad zz : Nat → Nat) (hJ : jD ad) (σ : Nat → Nat → Int32) (τ : Nat → Nat → Int64) (a1 : Int32) (A1 : Int) (t1 : a1.toInt = A1) (hI101 : jI101 σ) (hI102 : jI102 σ) (hI103 : jI103 σ) (hI104 : jI104 σ) (hI105 : jI105 σ) (hI106 : jI106 σ) (hI107 : jI107 σ) (hI119 : jI119 σ) (hs_jKept : jKept σ) (hs_jBook : jBook σ) : jM l yX12_best cX12_best 3 (some .int) ({ frames := 103, cells := 0, slots := 0, locals := 5061 }) D cI cL ad zz [.ref (ad 55), .int a1] σ τ (fun r σ' τ' => τ = τ' ∧ (∀ i : Nat, (i < 55 ∨ 55 < i) ∧ (i < 66 ∨ 66 < i) ∧ (i < 68 ∨ 69 < i) ∧ (i < 74 ∨ 78 < i) → σ' i = σ i) ∧ (∀ k : Nat, (k < 18 ∨ 18 < k) ∧ (k < 19 ∨ 19 < k) ∧ (k < 20 ∨ 20 < k) ∧ (k < 21 ∨ 21 < k) ∧ (k < 22 ∨ 22 < k) ∧ (k < 25 ∨ 25 < k) ∧ (k < 26 ∨ 26 < k) ∧ (k < 27 ∨ 27 < k) ∧ (k < 37 ∨ 37 < k) ∧ (k < 42 ∨ 42 < k) → σ' 55 k = σ 55 k) ∧ (jI119 σ') ∧ (jKept σ') ∧ (jBook σ') ∧ True) := by
  refine jM.of hJ (by decide +kernel) (nt := .int) rfl (Nat.le_of_ble_eq_true rfl) ?_
  intro p e s m args below meth c Q ls hC hret hl hP
  obtain ⟨hx, hb, hr, hml, hown, hts, hK, -, hlocks, hZ⟩ := hC
  have hown : s.vm.findClass RX12 = some m.cls := hown
  have hS : va_S (jA ad) s.heap s.heap [] := va_S.rf
  have hA : ∀ q, jA ad q → jA ad q := fun _ h => h
  have hl : lv_has ls 3 [(0, .ref (ad 55)), (1, .int a1)] := hl
  have g1 := jrg t1
  obtain ⟨i1, w2, w3⟩ : (0 ≤ (σ 55 6).toInt ∧ (σ 55 6).toInt ≤ 4) ∧ (∀ k : Nat, k < 4 → 0 ≤ (σ 60 k).toInt ∧ (σ 60 k).toInt ≤ 50) ∧ (∀ k : Nat, k < 4 → 0 ≤ (σ 61 k).toInt ∧ (σ 61 k).toInt ≤ 20) := id hI102
  obtain ⟨i4, i5, i6, w7, w8⟩ : (1 ≤ (σ 55 10).toInt ∧ (σ 55 10).toInt ≤ 8) ∧ (1 ≤ (σ 55 12).toInt ∧ (σ 55 12).toInt ≤ 12) ∧ (0 ≤ (σ 55 13).toInt ∧ (σ 55 13).toInt ≤ 999) ∧ (∀ k : Nat, k < 8 → 0 ≤ (σ 62 k).toInt ∧ (σ 62 k).toInt ≤ 3) ∧ (∀ k : Nat, k < 8 → 0 ≤ (σ 67 k).toInt ∧ (σ 67 k).toInt ≤ 3) := id hI104
  obtain ⟨i9, i10, w11⟩ : (0 ≤ (σ 55 47).toInt ∧ (σ 55 47).toInt ≤ 12) ∧ ((σ 55 47).toInt ≤ (σ 55 12).toInt) ∧ (∀ k : Nat, k < 12 → 0 ≤ (σ 80 k).toInt ∧ (σ 80 k).toInt ≤ 3) := id hI107
  refine lv_iload_n hx hb dX12_best_0 rfl (lv_at hl 1 rfl) ?_
  refine lv_i2l (v := a1.toInt64) hx hb dX12_best_1 rfl ?_
  refine lv_lconst (v := 0) hx hb dX12_best_2 (of_decide_eq_true rfl) ?_
  refine lv_lconst (v := 1) hx hb dX12_best_3 (of_decide_eq_true rfl) ?_
  refine jcallS (As := [.long a1.toInt64, .long 0, .long 1]) (rest := []) ⟨hx, hb, hml, hown, hts⟩ hK hP hA hS hZ (c_X12_within l D cI cL ad zz hJ σ τ a1.toInt64 (A1) (jtoL t1) 0 (0) jzl_0 1 (1) jzl_1) cw_RX12_136 ⟨Nat.le_of_ble_eq_true rfl, Nat.le_of_ble_eq_true rfl⟩ rfl rfl rfl hl.1 rfl (Nat.le_of_ble_eq_true rfl) dX12_best_4 ⟨Nat.zero_le _, Nat.zero_le _⟩ (fun r13 σ12 τ12 H locs h12 hP hS => ?_)
  obtain ⟨⟨rfl, rfl⟩, h12⟩ := h12
  rcases h12 with h14 | h15
  · obtain ⟨q17, k16⟩ := h14
    have q17 := q17.symm
    subst q17
    refine lv_if_ne (tgt := 12) hx hb dX12_best_7 (of_decide_eq_true rfl) (fun _ => ?_) (fun c => absurd c (of_decide_eq_true rfl))
    refine lv_aload_n hx hb dX12_best_12 rfl (lv_at hl 0 rfl) ?_
    refine lv_aload_n hx hb dX12_best_13 rfl (lv_at hl 0 rfl) ?_
    refine va_get (D := D) hx hb hts inlX12 hown hK hP 55 (jc_55 cI cL ad σ τ) rfl 47 (of_decide_eq_true rfl) (hts _ kw_15_15) (fun _ h9 => h9) rfl dX12_best_14 ?_
    have w18 : ∀ k : Nat, k < 4 → 0 ≤ (σ 68 k).toInt ∧ (σ 68 k).toInt ≤ 3 := hI119
    exact by
     refine jcallVv (As := [.int (σ 55 47)]) (rest := []) ⟨hx, hb, hml, hown, hts⟩ hK hP hA hS hZ (c_X12_goThroughBook l D cI cL ad zz hJ σ τ (σ 55 47) ((σ 55 47).toInt) rfl hI102 hI104 hI107 w18 hs_jBook (by omega) (by omega)) cw_RX12_334 (jc_55 cI cL ad σ τ) rfl ⟨Nat.le_of_ble_eq_true rfl, Nat.le_of_ble_eq_true rfl⟩ rfl rfl rfl hl.1 rfl (Nat.le_of_ble_eq_true rfl) dX12_best_17 ⟨Nat.zero_le _, Nat.zero_le _⟩ (fun σ19 τ19 H locs h19 hP hS => ?_)
     obtain ⟨rfl, f21, f22, I23, p24, w25, h19⟩ := h19
     obtain ⟨i27, i28, i29, i30, i31, w32⟩ : (0 ≤ (σ19 55 25).toInt) ∧ ((σ19 55 25).toInt ≤ (σ19 55 10).toInt) ∧ (0 ≤ (σ19 55 26).toInt) ∧ ((σ19 55 26).toInt ≤ (σ19 55 12).toInt) ∧ ((-1) ≤ (σ19 55 27).toInt ∧ (σ19 55 27).toInt ≤ 3) ∧ (∀ k : Nat, k < 4 → 0 ≤ (σ19 68 k).toInt ∧ (σ19 68 k).toInt ≤ 3) := id I23
     have z33 : (σ19 55 10).toInt = (σ 55 10).toInt := (congrArg Int32.toInt (show σ19 55 10 = (σ 55 10) from (f22 10 (of_decide_eq_true rfl))))
     have z34 : (σ19 55 12).toInt = (σ 55 12).toInt := (congrArg Int32.toInt (show σ19 55 12 = (σ 55 12) from (f22 12 (of_decide_eq_true rfl))))
     obtain ⟨k35, k36, k37, h19⟩ := h19
     refine lv_aload_n hx hb dX12_best_20 rfl (lv_at hl 0 rfl) ?_
     have I38 : jI104 σ19 := jI104_fr (f22 10 (of_decide_eq_true rfl)) (f22 12 (of_decide_eq_true rfl)) (f22 13 (of_decide_eq_true rfl)) (f21 62 (of_decide_eq_true rfl)) (f21 67 (of_decide_eq_true rfl)) hI104
     refine jcallV (As := []) (rest := []) ⟨hx, hb, hml, hown, hts⟩ hK hP hA hS hZ (c_X12_isBig l D cI cL ad zz hJ σ19 τ I38 (by omega)) cw_RX12_338 (jc_55 cI cL ad σ19 τ) rfl ⟨Nat.le_of_ble_eq_true rfl, Nat.le_of_ble_eq_true rfl⟩ rfl rfl rfl hl.1 rfl (Nat.le_of_ble_eq_true rfl) dX12_best_21 ⟨Nat.zero_le _, Nat.zero_le _⟩ (fun r40 σ39 τ39 H locs h39 hP hS => ?_)
     exact by
      obtain ⟨⟨rfl, rfl⟩, h39⟩ := h39
      rcases h39 with h41 | h42
      · obtain ⟨q44, k43⟩ := h41
        have q44 := q44.symm
        subst q44
        refine lv_if_eq (tgt := 30) hx hb dX12_best_24 (of_decide_eq_true rfl) (fun c => absurd c (of_decide_eq_true rfl)) (fun _ => ?_)
        refine lv_bipush (v := (-4)) hx hb dX12_best_27 (of_decide_eq_true rfl) ?_
        have I45 : jI119 σ19 := w32
        have p46 : jKept σ19 := jKept.fr (f21 75 (of_decide_eq_true rfl)) (f21 76 (of_decide_eq_true rfl)) (f21 77 (of_decide_eq_true rfl)) hs_jKept
        exact hret (-4) σ19 τ _ _ _ _ rfl ⟨rfl, (fun i hi => (f21 i (imp_256 i hi))), (fun i hi => (f22 i (imp_257 i hi))), I45, p46, p24, trivial⟩ hP hS dX12_best_29
      · obtain ⟨q48, k47⟩ := h42
        have q48 := q48.symm
        subst q48
        refine lv_if_eq (tgt := 30) hx hb dX12_best_24 (of_decide_eq_true rfl) (fun _ => ?_) (fun c => absurd (of_decide_eq_true rfl) c)
        refine lv_aload_n hx hb dX12_best_30 rfl (lv_at hl 0 rfl) ?_
        refine jcallVv (As := []) (rest := []) ⟨hx, hb, hml, hown, hts⟩ hK hP hA hS hZ (c_X12_forgets l D cI cL ad zz hJ σ19 τ) cw_RX12_341 (jc_55 cI cL ad σ19 τ) rfl ⟨Nat.le_of_ble_eq_true rfl, Nat.le_of_ble_eq_true rfl⟩ rfl rfl rfl hl.1 rfl (Nat.le_of_ble_eq_true rfl) dX12_best_31 ⟨Nat.zero_le _, Nat.zero_le _⟩ (fun σ49 τ49 H locs h49 hP hS => ?_)
        obtain ⟨rfl, f51, f52, h49⟩ := h49
        refine lv_aload_n hx hb dX12_best_34 rfl (lv_at hl 0 rfl) ?_
        have I54 : jI101 σ49 := jI101_fr ((f52 4 (of_decide_eq_true rfl)).trans (f22 4 (of_decide_eq_true rfl))) ((f52 5 (of_decide_eq_true rfl)).trans (f22 5 (of_decide_eq_true rfl))) ((f51 56 (of_decide_eq_true rfl)).trans (f21 56 (of_decide_eq_true rfl))) ((f51 57 (of_decide_eq_true rfl)).trans (f21 57 (of_decide_eq_true rfl))) ((f51 58 (of_decide_eq_true rfl)).trans (f21 58 (of_decide_eq_true rfl))) ((f51 59 (of_decide_eq_true rfl)).trans (f21 59 (of_decide_eq_true rfl))) hI101
        have I55 : jI102 σ49 := jI102_fr ((f52 6 (of_decide_eq_true rfl)).trans (f22 6 (of_decide_eq_true rfl))) ((f51 60 (of_decide_eq_true rfl)).trans (f21 60 (of_decide_eq_true rfl))) ((f51 61 (of_decide_eq_true rfl)).trans (f21 61 (of_decide_eq_true rfl))) hI102
        have I56 : jI103 σ49 := jI103_fr ((f52 9 (of_decide_eq_true rfl)).trans (f22 9 (of_decide_eq_true rfl))) hI103
        have I57 : jI104 σ49 := jI104_fr (f52 10 (of_decide_eq_true rfl)) (f52 12 (of_decide_eq_true rfl)) (f52 13 (of_decide_eq_true rfl)) (f51 62 (of_decide_eq_true rfl)) (f51 67 (of_decide_eq_true rfl)) I38
        have I58 : jI105 σ49 := jI105_fr ((f52 15 (of_decide_eq_true rfl)).trans (f22 15 (of_decide_eq_true rfl))) ((f51 65 (of_decide_eq_true rfl)).trans (f21 65 (of_decide_eq_true rfl))) hI105
        have I59 : jI106 σ49 := jI106_fr ((f52 32 (of_decide_eq_true rfl)).trans (f22 32 (of_decide_eq_true rfl))) ((f51 70 (of_decide_eq_true rfl)).trans (f21 70 (of_decide_eq_true rfl))) ((f51 71 (of_decide_eq_true rfl)).trans (f21 71 (of_decide_eq_true rfl))) ((f51 72 (of_decide_eq_true rfl)).trans (f21 72 (of_decide_eq_true rfl))) hI106
        have I60 : jI120 σ49 := jI120_fr (f52 10 (of_decide_eq_true rfl)) (f52 12 (of_decide_eq_true rfl)) (f52 25 (of_decide_eq_true rfl)) (f52 26 (of_decide_eq_true rfl)) (f52 27 (of_decide_eq_true rfl)) (f51 68 (of_decide_eq_true rfl)) I23
        have p61 : jKept σ49 := jKept.fr ((f51 75 (of_decide_eq_true rfl)).trans (f21 75 (of_decide_eq_true rfl))) ((f51 76 (of_decide_eq_true rfl)).trans (f21 76 (of_decide_eq_true rfl))) ((f51 77 (of_decide_eq_true rfl)).trans (f21 77 (of_decide_eq_true rfl))) hs_jKept
        have z62 : (σ49 55 12).toInt = (σ 55 12).toInt := (congrArg Int32.toInt (show σ49 55 12 = (σ 55 12) from ((f52 12 (of_decide_eq_true rfl)).trans (f22 12 (of_decide_eq_true rfl)))))
        have z63 : (σ49 55 26).toInt = (σ19 55 26).toInt := (congrArg Int32.toInt (show σ49 55 26 = (σ19 55 26) from (f52 26 (of_decide_eq_true rfl))))
        exact by
         refine jcallV (As := []) (rest := []) ⟨hx, hb, hml, hown, hts⟩ hK hP hA hS hZ ((c_X12_bests l D cI cL ad zz hJ 8).2.1 σ49 τ I54 I55 I56 I57 I58 I59 I60 p61 (by omega)) cw_RX12_280 (jc_55 cI cL ad σ49 τ) rfl ⟨Nat.le_of_ble_eq_true rfl, Nat.le_of_ble_eq_true rfl⟩ rfl rfl rfl hl.1 rfl (Nat.le_of_ble_eq_true rfl) dX12_best_35 ⟨Nat.zero_le _, Nat.zero_le _⟩ (fun r65 σ64 τ64 H locs h64 hP hS => ?_)
         obtain ⟨rfl, f66, f67, p68, h64⟩ := h64
         obtain ⟨k70, h64⟩ := h64
         have h71 := h64
         obtain ⟨q73, k72⟩ := h71
         refine lv_istore_n (lv' := [(2, .int r65), (0, .ref (ad 55)), (1, .int a1)]) hx hb dX12_best_38 rfl hl (of_decide_eq_true rfl) rfl (fun ls hl => ?_)
         refine lv_iload_n hx hb dX12_best_39 rfl (lv_at hl 2 rfl) ?_
         refine lv_if_ne (tgt := 47) hx hb dX12_best_40 (of_decide_eq_true rfl) (fun c74 => ?_) (fun c74 => ?_)
         · have kc74 := jne c74 t1 jz_0
           refine lv_aload_n hx hb dX12_best_47 rfl (lv_at hl 1 rfl) ?_
           refine va_get (D := D) hx hb hts inlX12 hown hK hP 55 (jc_55 cI cL ad σ64 τ) rfl 37 (of_decide_eq_true rfl) (hts _ kw_33_15) (fun _ h9 => h9) rfl dX12_best_48 ?_
           have w75 : ∀ k : Nat, k < 4 → 0 ≤ (σ64 68 k).toInt ∧ (σ64 68 k).toInt ≤ 3 := (jrr_fr (f66 68 (of_decide_eq_true rfl)) (jrr_fr (f51 68 (of_decide_eq_true rfl)) w32))
           have I76 : jI119 σ64 := w75
           have p77 : jBook σ64 := jBook.fr ((f67 47 (of_decide_eq_true rfl)).trans (f52 47 (of_decide_eq_true rfl))) ((f67 10 (of_decide_eq_true rfl)).trans (f52 10 (of_decide_eq_true rfl))) ((f66 81 (of_decide_eq_true rfl)).trans (f51 81 (of_decide_eq_true rfl))) p24
           exact hret (σ64 55 37) σ64 τ _ _ _ _ rfl ⟨rfl, (fun i hi => ((f66 i (imp_258 i hi)).trans ((f51 i (imp_259 i hi)).trans (f21 i (imp_256 i hi))))), (fun i hi => ((f67 i (imp_260 i hi)).trans ((f52 i (imp_261 i hi)).trans (f22 i (imp_257 i hi))))), I76, p68, p77, trivial⟩ hP hS dX12_best_51
         · have kc74 := jeq c74 t1 jz_0
           refine lv_iload_n hx hb dX12_best_43 rfl (lv_at hl 0 rfl) ?_
           refine lv_goto (tgt := 51) hx hb dX12_best_44 (of_decide_eq_true rfl) ?_
           have w78 : ∀ k : Nat, k < 4 → 0 ≤ (σ64 68 k).toInt ∧ (σ64 68 k).toInt ≤ 3 := (jrr_fr (f66 68 (of_decide_eq_true rfl)) (jrr_fr (f51 68 (of_decide_eq_true rfl)) w32))
           have I79 : jI119 σ64 := w78
           have p80 : jBook σ64 := jBook.fr ((f67 47 (of_decide_eq_true rfl)).trans (f52 47 (of_decide_eq_true rfl))) ((f67 10 (of_decide_eq_true rfl)).trans (f52 10 (of_decide_eq_true rfl))) ((f66 81 (of_decide_eq_true rfl)).trans (f51 81 (of_decide_eq_true rfl))) p24
           exact hret r65 σ64 τ _ _ _ _ rfl ⟨rfl, (fun i hi => ((f66 i (imp_258 i hi)).trans ((f51 i (imp_259 i hi)).trans (f21 i (imp_256 i hi))))), (fun i hi => ((f67 i (imp_260 i hi)).trans ((f52 i (imp_261 i hi)).trans (f22 i (imp_257 i hi))))), I79, p68, p80, trivial⟩ hP hS dX12_best_51
  · obtain ⟨q82, k81⟩ := h15
    have q82 := q82.symm
    subst q82
    refine lv_if_ne (tgt := 12) hx hb dX12_best_7 (of_decide_eq_true rfl) (fun c => absurd (of_decide_eq_true rfl) c) (fun _ => ?_)
    refine lv_iconst (v := (-1)) hx hb dX12_best_10 (of_decide_eq_true rfl) ?_
    exact hret (-1) σ τ _ _ _ _ rfl ⟨rfl, (fun _ _ => rfl), (fun _ _ => rfl), hI119, hs_jKept, hs_jBook, trivial⟩ hP hS dX12_best_11
set_option maxHeartbeats 4000000 in
set_option maxRecDepth 100000 in
theorem c_X12_bestNow (l : Launch) (D : va_G) (cI cL : ClassId) (ad zz : Nat → Nat) (hJ : jD ad) (σ : Nat → Nat → Int32) (τ : Nat → Nat → Int64) (hI101 : jI101 σ) (hI102 : jI102 σ) (hI103 : jI103 σ) (hI104 : jI104 σ) (hI105 : jI105 σ) (hI106 : jI106 σ) (hI119 : jI119 σ) (hs_jKept : jKept σ) (hp0 : (σ 55 12).toInt ≤ 8) : jM l yX12_bestNow cX12_bestNow 1 (some .int) ({ frames := 103, cells := 0, slots := 0, locals := 5061 }) D cI cL ad zz [.ref (ad 55)] σ τ (fun r σ' τ' => τ = τ' ∧ (∀ i : Nat, (i < 55 ∨ 55 < i) ∧ (i < 66 ∨ 66 < i) ∧ (i < 68 ∨ 69 < i) ∧ (i < 74 ∨ 78 < i) → σ' i = σ i) ∧ (∀ k : Nat, (k < 18 ∨ 18 < k) ∧ (k < 19 ∨ 19 < k) ∧ (k < 20 ∨ 20 < k) ∧ (k < 21 ∨ 21 < k) ∧ (k < 22 ∨ 22 < k) ∧ (k < 25 ∨ 25 < k) ∧ (k < 26 ∨ 26 < k) ∧ (k < 27 ∨ 27 < k) ∧ (k < 37 ∨ 37 < k) ∧ (k < 42 ∨ 42 < k) → σ' 55 k = σ 55 k) ∧ (jI119 σ') ∧ (jKept σ') ∧ True) := by
  refine jM.of hJ (by decide +kernel) (nt := .int) rfl (Nat.le_of_ble_eq_true rfl) ?_
  intro p e s m args below meth c Q ls hC hret hl hP
  obtain ⟨hx, hb, hr, hml, hown, hts, hK, -, hlocks, hZ⟩ := hC
  have hown : s.vm.findClass RX12 = some m.cls := hown
  have hS : va_S (jA ad) s.heap s.heap [] := va_S.rf
  have hA : ∀ q, jA ad q → jA ad q := fun _ h => h
  have hl : lv_has ls 1 [(0, .ref (ad 55))] := hl
  obtain ⟨i1, w2, w3⟩ : (0 ≤ (σ 55 6).toInt ∧ (σ 55 6).toInt ≤ 4) ∧ (∀ k : Nat, k < 4 → 0 ≤ (σ 60 k).toInt ∧ (σ 60 k).toInt ≤ 50) ∧ (∀ k : Nat, k < 4 → 0 ≤ (σ 61 k).toInt ∧ (σ 61 k).toInt ≤ 20) := id hI102
  obtain ⟨i4, i5, i6, w7, w8⟩ : (1 ≤ (σ 55 10).toInt ∧ (σ 55 10).toInt ≤ 8) ∧ (1 ≤ (σ 55 12).toInt ∧ (σ 55 12).toInt ≤ 12) ∧ (0 ≤ (σ 55 13).toInt ∧ (σ 55 13).toInt ≤ 999) ∧ (∀ k : Nat, k < 8 → 0 ≤ (σ 62 k).toInt ∧ (σ 62 k).toInt ≤ 3) ∧ (∀ k : Nat, k < 8 → 0 ≤ (σ 67 k).toInt ∧ (σ 67 k).toInt ≤ 3) := id hI104
  refine lv_aload_n hx hb dX12_bestNow_0 rfl (lv_at hl 0 rfl) ?_
  have w9 : ∀ k : Nat, k < 4 → 0 ≤ (σ 68 k).toInt ∧ (σ 68 k).toInt ≤ 3 := hI119
  refine jcallVv (As := []) (rest := []) ⟨hx, hb, hml, hown, hts⟩ hK hP hA hS hZ (c_X12_begin l D cI cL ad zz hJ σ τ hI104 w9) cw_RX12_256 (jc_55 cI cL ad σ τ) rfl ⟨Nat.le_of_ble_eq_true rfl, Nat.le_of_ble_eq_true rfl⟩ rfl rfl rfl hl.1 rfl (Nat.le_of_ble_eq_true rfl) dX12_bestNow_1 ⟨Nat.zero_le _, Nat.zero_le _⟩ (fun σ10 τ10 H locs h10 hP hS => ?_)
  obtain ⟨rfl, f12, f13, I14, w15, h10⟩ := h10
  obtain ⟨i17, i18, i19, i20, i21, w22⟩ : (0 ≤ (σ10 55 25).toInt) ∧ ((σ10 55 25).toInt ≤ (σ10 55 10).toInt) ∧ (0 ≤ (σ10 55 26).toInt) ∧ ((σ10 55 26).toInt ≤ (σ10 55 12).toInt) ∧ ((-1) ≤ (σ10 55 27).toInt ∧ (σ10 55 27).toInt ≤ 3) ∧ (∀ k : Nat, k < 4 → 0 ≤ (σ10 68 k).toInt ∧ (σ10 68 k).toInt ≤ 3) := id I14
  have z23 : (σ10 55 10).toInt = (σ 55 10).toInt := (congrArg Int32.toInt (show σ10 55 10 = (σ 55 10) from (f13 10 (of_decide_eq_true rfl))))
  have z24 : (σ10 55 12).toInt = (σ 55 12).toInt := (congrArg Int32.toInt (show σ10 55 12 = (σ 55 12) from (f13 12 (of_decide_eq_true rfl))))
  obtain ⟨k25, k26, k27, h10⟩ := h10
  refine lv_aload_n hx hb dX12_bestNow_4 rfl (lv_at hl 0 rfl) ?_
  refine jcallVv (As := []) (rest := []) ⟨hx, hb, hml, hown, hts⟩ hK hP hA hS hZ (c_X12_forgets l D cI cL ad zz hJ σ10 τ) cw_RX12_341 (jc_55 cI cL ad σ10 τ) rfl ⟨Nat.le_of_ble_eq_true rfl, Nat.le_of_ble_eq_true rfl⟩ rfl rfl rfl hl.1 rfl (Nat.le_of_ble_eq_true rfl) dX12_bestNow_5 ⟨Nat.zero_le _, Nat.zero_le _⟩ (fun σ28 τ28 H locs h28 hP hS => ?_)
  obtain ⟨rfl, f30, f31, h28⟩ := h28
  refine lv_aload_n hx hb dX12_bestNow_8 rfl (lv_at hl 0 rfl) ?_
  have I33 : jI101 σ28 := jI101_fr ((f31 4 (of_decide_eq_true rfl)).trans (f13 4 (of_decide_eq_true rfl))) ((f31 5 (of_decide_eq_true rfl)).trans (f13 5 (of_decide_eq_true rfl))) ((f30 56 (of_decide_eq_true rfl)).trans (f12 56 (of_decide_eq_true rfl))) ((f30 57 (of_decide_eq_true rfl)).trans (f12 57 (of_decide_eq_true rfl))) ((f30 58 (of_decide_eq_true rfl)).trans (f12 58 (of_decide_eq_true rfl))) ((f30 59 (of_decide_eq_true rfl)).trans (f12 59 (of_decide_eq_true rfl))) hI101
  have I34 : jI102 σ28 := jI102_fr ((f31 6 (of_decide_eq_true rfl)).trans (f13 6 (of_decide_eq_true rfl))) ((f30 60 (of_decide_eq_true rfl)).trans (f12 60 (of_decide_eq_true rfl))) ((f30 61 (of_decide_eq_true rfl)).trans (f12 61 (of_decide_eq_true rfl))) hI102
  have I35 : jI103 σ28 := jI103_fr ((f31 9 (of_decide_eq_true rfl)).trans (f13 9 (of_decide_eq_true rfl))) hI103
  have I36 : jI104 σ28 := jI104_fr ((f31 10 (of_decide_eq_true rfl)).trans (f13 10 (of_decide_eq_true rfl))) ((f31 12 (of_decide_eq_true rfl)).trans (f13 12 (of_decide_eq_true rfl))) ((f31 13 (of_decide_eq_true rfl)).trans (f13 13 (of_decide_eq_true rfl))) ((f30 62 (of_decide_eq_true rfl)).trans (f12 62 (of_decide_eq_true rfl))) ((f30 67 (of_decide_eq_true rfl)).trans (f12 67 (of_decide_eq_true rfl))) hI104
  have I37 : jI105 σ28 := jI105_fr ((f31 15 (of_decide_eq_true rfl)).trans (f13 15 (of_decide_eq_true rfl))) ((f30 65 (of_decide_eq_true rfl)).trans (f12 65 (of_decide_eq_true rfl))) hI105
  have I38 : jI106 σ28 := jI106_fr ((f31 32 (of_decide_eq_true rfl)).trans (f13 32 (of_decide_eq_true rfl))) ((f30 70 (of_decide_eq_true rfl)).trans (f12 70 (of_decide_eq_true rfl))) ((f30 71 (of_decide_eq_true rfl)).trans (f12 71 (of_decide_eq_true rfl))) ((f30 72 (of_decide_eq_true rfl)).trans (f12 72 (of_decide_eq_true rfl))) hI106
  have I39 : jI120 σ28 := jI120_fr (f31 10 (of_decide_eq_true rfl)) (f31 12 (of_decide_eq_true rfl)) (f31 25 (of_decide_eq_true rfl)) (f31 26 (of_decide_eq_true rfl)) (f31 27 (of_decide_eq_true rfl)) (f30 68 (of_decide_eq_true rfl)) I14
  have p40 : jKept σ28 := jKept.fr ((f30 75 (of_decide_eq_true rfl)).trans (f12 75 (of_decide_eq_true rfl))) ((f30 76 (of_decide_eq_true rfl)).trans (f12 76 (of_decide_eq_true rfl))) ((f30 77 (of_decide_eq_true rfl)).trans (f12 77 (of_decide_eq_true rfl))) hs_jKept
  have z41 : (σ28 55 12).toInt = (σ 55 12).toInt := (congrArg Int32.toInt (show σ28 55 12 = (σ 55 12) from ((f31 12 (of_decide_eq_true rfl)).trans (f13 12 (of_decide_eq_true rfl)))))
  have z42 : (σ28 55 26).toInt = (σ10 55 26).toInt := (congrArg Int32.toInt (show σ28 55 26 = (σ10 55 26) from (f31 26 (of_decide_eq_true rfl))))
  exact by
   refine jcallV (As := []) (rest := []) ⟨hx, hb, hml, hown, hts⟩ hK hP hA hS hZ ((c_X12_bests l D cI cL ad zz hJ 8).2.1 σ28 τ I33 I34 I35 I36 I37 I38 I39 p40 (by omega)) cw_RX12_280 (jc_55 cI cL ad σ28 τ) rfl ⟨Nat.le_of_ble_eq_true rfl, Nat.le_of_ble_eq_true rfl⟩ rfl rfl rfl hl.1 rfl (Nat.le_of_ble_eq_true rfl) dX12_bestNow_9 ⟨Nat.zero_le _, Nat.zero_le _⟩ (fun r44 σ43 τ43 H locs h43 hP hS => ?_)
   obtain ⟨rfl, f45, f46, p47, h43⟩ := h43
   obtain ⟨k49, h43⟩ := h43
   have h50 := h43
   obtain ⟨q52, k51⟩ := h50
   have w53 : ∀ k : Nat, k < 4 → 0 ≤ (σ43 68 k).toInt ∧ (σ43 68 k).toInt ≤ 3 := (jrr_fr (f45 68 (of_decide_eq_true rfl)) (jrr_fr (f30 68 (of_decide_eq_true rfl)) w22))
   have I54 : jI119 σ43 := w53
   exact hret r44 σ43 τ _ _ _ _ rfl ⟨rfl, (fun i hi => ((f45 i (imp_258 i hi)).trans ((f30 i (imp_259 i hi)).trans (f12 i (imp_256 i hi))))), (fun i hi => ((f46 i (imp_260 i hi)).trans ((f31 i (imp_261 i hi)).trans (f13 i (imp_257 i hi))))), I54, p47, trivial⟩ hP hS dX12_bestNow_12
set_option maxHeartbeats 4000000 in
set_option maxRecDepth 100000 in
theorem c_X12_worth (l : Launch) (D : va_G) (cI cL : ClassId) (ad zz : Nat → Nat) (hJ : jD ad) (σ : Nat → Nat → Int32) (τ : Nat → Nat → Int64) (a1 : Int32) (A1 : Int) (t1 : a1.toInt = A1) (a2 : Int32) (A2 : Int) (t2 : a2.toInt = A2) (hI101 : jI101 σ) (hI102 : jI102 σ) (hI103 : jI103 σ) (hI104 : jI104 σ) (hI105 : jI105 σ) (hI106 : jI106 σ) (hI119 : jI119 σ) (hs_jKept : jKept σ) : jM l yX12_worth cX12_worth 5 (some .int) ({ frames := 104, cells := 0, slots := 0, locals := 5081 }) D cI cL ad zz [.ref (ad 55), .int a1, .int a2] σ τ (fun r σ' τ' => τ = τ' ∧ (∀ i : Nat, (i < 55 ∨ 55 < i) ∧ (i < 66 ∨ 66 < i) ∧ (i < 68 ∨ 69 < i) ∧ (i < 74 ∨ 78 < i) → σ' i = σ i) ∧ (∀ k : Nat, (k < 18 ∨ 18 < k) ∧ (k < 19 ∨ 19 < k) ∧ (k < 20 ∨ 20 < k) ∧ (k < 21 ∨ 21 < k) ∧ (k < 22 ∨ 22 < k) ∧ (k < 25 ∨ 25 < k) ∧ (k < 26 ∨ 26 < k) ∧ (k < 27 ∨ 27 < k) ∧ (k < 30 ∨ 30 < k) ∧ (k < 31 ∨ 31 < k) ∧ (k < 37 ∨ 37 < k) ∧ (k < 42 ∨ 42 < k) → σ' 55 k = σ 55 k) ∧ (jI119 σ') ∧ (jKept σ') ∧ (((σ' 55 30).toInt = (-1) ∧ (σ' 55 31).toInt = (-1)) ∨ ((σ' 55 30).toInt = (σ 55 30).toInt ∧ (σ' 55 31).toInt = (σ 55 31).toInt)) ∧ True) := by
  refine jM.of hJ (by decide +kernel) (nt := .int) rfl (Nat.le_of_ble_eq_true rfl) ?_
  intro p e s m args below meth c Q ls hC hret hl hP
  obtain ⟨hx, hb, hr, hml, hown, hts, hK, -, hlocks, hZ⟩ := hC
  have hown : s.vm.findClass RX12 = some m.cls := hown
  have hS : va_S (jA ad) s.heap s.heap [] := va_S.rf
  have hA : ∀ q, jA ad q → jA ad q := fun _ h => h
  have hl : lv_has ls 5 [(0, .ref (ad 55)), (1, .int a1), (2, .int a2)] := hl
  have g1 := jrg t1
  have g2 := jrg t2
  obtain ⟨i1, w2, w3⟩ : (0 ≤ (σ 55 6).toInt ∧ (σ 55 6).toInt ≤ 4) ∧ (∀ k : Nat, k < 4 → 0 ≤ (σ 60 k).toInt ∧ (σ 60 k).toInt ≤ 50) ∧ (∀ k : Nat, k < 4 → 0 ≤ (σ 61 k).toInt ∧ (σ 61 k).toInt ≤ 20) := id hI102
  obtain ⟨i4, i5, i6, w7, w8⟩ : (1 ≤ (σ 55 10).toInt ∧ (σ 55 10).toInt ≤ 8) ∧ (1 ≤ (σ 55 12).toInt ∧ (σ 55 12).toInt ≤ 12) ∧ (0 ≤ (σ 55 13).toInt ∧ (σ 55 13).toInt ≤ 999) ∧ (∀ k : Nat, k < 8 → 0 ≤ (σ 62 k).toInt ∧ (σ 62 k).toInt ≤ 3) ∧ (∀ k : Nat, k < 8 → 0 ≤ (σ 67 k).toInt ∧ (σ 67 k).toInt ≤ 3) := id hI104
  refine lv_aload_n hx hb dX12_worth_0 rfl (lv_at hl 0 rfl) ?_
  refine lv_iload_n hx hb dX12_worth_1 rfl (lv_at hl 1 rfl) ?_
  refine jcallV (As := [.int a1]) (rest := []) ⟨hx, hb, hml, hown, hts⟩ hK hP hA hS hZ (c_X12_isBowler l D cI cL ad zz hJ σ τ a1 (A1) t1 hI102) cw_RX12_146 (jc_55 cI cL ad σ τ) rfl ⟨Nat.le_of_ble_eq_true rfl, Nat.le_of_ble_eq_true rfl⟩ rfl rfl rfl hl.1 rfl (Nat.le_of_ble_eq_true rfl) dX12_worth_2 ⟨Nat.zero_le _, Nat.zero_le _⟩ (fun r10 σ9 τ9 H locs h9 hP hS => ?_)
  obtain ⟨⟨rfl, rfl⟩, h9⟩ := h9
  rcases h9 with h11 | h12
  · obtain ⟨q14, k13⟩ := h11
    have q14 := q14.symm
    subst q14
    refine lv_if_eq (tgt := 27) hx hb dX12_worth_5 (of_decide_eq_true rfl) (fun c => absurd c (of_decide_eq_true rfl)) (fun _ => ?_)
    refine lv_iload_n hx hb dX12_worth_8 rfl (lv_at hl 2 rfl) ?_
    refine lv_i2l (v := a2.toInt64) hx hb dX12_worth_9 rfl ?_
    refine lv_lconst (v := 0) hx hb dX12_worth_10 (of_decide_eq_true rfl) ?_
    refine lv_lconst (v := 1) hx hb dX12_worth_11 (of_decide_eq_true rfl) ?_
    refine jcallS (As := [.long a2.toInt64, .long 0, .long 1]) (rest := []) ⟨hx, hb, hml, hown, hts⟩ hK hP hA hS hZ (c_X12_within l D cI cL ad zz hJ σ τ a2.toInt64 (A2) (jtoL t2) 0 (0) jzl_0 1 (1) jzl_1) cw_RX12_136 ⟨Nat.le_of_ble_eq_true rfl, Nat.le_of_ble_eq_true rfl⟩ rfl rfl rfl hl.1 rfl (Nat.le_of_ble_eq_true rfl) dX12_worth_12 ⟨Nat.zero_le _, Nat.zero_le _⟩ (fun r16 σ15 τ15 H locs h15 hP hS => ?_)
    obtain ⟨⟨rfl, rfl⟩, h15⟩ := h15
    rcases h15 with h17 | h18
    · obtain ⟨q20, k19⟩ := h17
      have q20 := q20.symm
      subst q20
      refine lv_if_eq (tgt := 27) hx hb dX12_worth_15 (of_decide_eq_true rfl) (fun c => absurd c (of_decide_eq_true rfl)) (fun _ => ?_)
      refine lv_aload_n hx hb dX12_worth_18 rfl (lv_at hl 0 rfl) ?_
      refine va_get (D := D) hx hb hts inlX12 hown hK hP 55 (jc_55 cI cL ad σ τ) rfl 12 (of_decide_eq_true rfl) (hts _ kw_8_16) (fun _ h9 => h9) rfl dX12_worth_19 ?_
      refine lv_bipush (v := 8) hx hb dX12_worth_22 (of_decide_eq_true rfl) ?_
      refine lv_icmp_le (tgt := 30) hx hb dX12_worth_24 (of_decide_eq_true rfl) (fun c21 => ?_) (fun c21 => ?_)
      · have kc21 := jle c21 rfl jz_8
        refine lv_aload_n hx hb dX12_worth_30 rfl (lv_at hl 0 rfl) ?_
        exact by
         refine jcallV (As := []) (rest := []) ⟨hx, hb, hml, hown, hts⟩ hK hP hA hS hZ (c_X12_bestNow l D cI cL ad zz hJ σ τ hI101 hI102 hI103 hI104 hI105 hI106 hI119 hs_jKept (by omega)) cw_RX12_346 (jc_55 cI cL ad σ τ) rfl ⟨Nat.le_of_ble_eq_true rfl, Nat.le_of_ble_eq_true rfl⟩ rfl rfl rfl hl.1 rfl (Nat.le_of_ble_eq_true rfl) dX12_worth_31 ⟨Nat.zero_le _, Nat.zero_le _⟩ (fun r23 σ22 τ22 H locs h22 hP hS => ?_)
         obtain ⟨rfl, f24, f25, I26, p27, h22⟩ := h22
         refine lv_istore_n (lv' := [(3, .int r23), (0, .ref (ad 55)), (1, .int a1), (2, .int a2)]) hx hb dX12_worth_34 rfl hl (of_decide_eq_true rfl) rfl (fun ls hl => ?_)
         refine lv_iload_n hx hb dX12_worth_35 rfl (lv_at hl 3 rfl) ?_
         refine lv_if_ne (tgt := 47) hx hb dX12_worth_36 (of_decide_eq_true rfl) (fun c29 => ?_) (fun c29 => ?_)
         · have kc29 := jne c29 t2 jz_0
           refine lv_aload_n hx hb dX12_worth_47 rfl (lv_at hl 1 rfl) ?_
           refine lv_iload_n hx hb dX12_worth_48 rfl (lv_at hl 2 rfl) ?_
           refine jput (ty := .int) hx hb hts inlX12 tyX12 tyX12_ok nmX12 hown hK hP hJ hA hS (jc_55 cI cL ad σ22 τ) rfl (k := 31) (of_decide_eq_true rfl) (Nat.le_of_ble_eq_true rfl) (jp_55_31 cI cL ad σ22 τ a1) (hts _ kw_7_17) (fun _ h9 => h9) rfl (by decide +kernel) rfl rfl dX12_worth_49 (fun σ30 H locs eσ30 hP hS => ?_)
           refine lv_aload_n hx hb dX12_worth_52 rfl (lv_at hl 1 rfl) ?_
           have I31 : jI101 σ30 := jI101_fr ((jkp 4 eσ30 (of_decide_eq_true rfl)).trans (f25 4 (of_decide_eq_true rfl))) ((jkp 5 eσ30 (of_decide_eq_true rfl)).trans (f25 5 (of_decide_eq_true rfl))) ((jnp 56 eσ30 (of_decide_eq_true rfl)).trans (f24 56 (of_decide_eq_true rfl))) ((jnp 57 eσ30 (of_decide_eq_true rfl)).trans (f24 57 (of_decide_eq_true rfl))) ((jnp 58 eσ30 (of_decide_eq_true rfl)).trans (f24 58 (of_decide_eq_true rfl))) ((jnp 59 eσ30 (of_decide_eq_true rfl)).trans (f24 59 (of_decide_eq_true rfl))) hI101
           have I32 : jI102 σ30 := jI102_fr ((jkp 6 eσ30 (of_decide_eq_true rfl)).trans (f25 6 (of_decide_eq_true rfl))) ((jnp 60 eσ30 (of_decide_eq_true rfl)).trans (f24 60 (of_decide_eq_true rfl))) ((jnp 61 eσ30 (of_decide_eq_true rfl)).trans (f24 61 (of_decide_eq_true rfl))) hI102
           have I33 : jI103 σ30 := jI103_fr ((jkp 9 eσ30 (of_decide_eq_true rfl)).trans (f25 9 (of_decide_eq_true rfl))) hI103
           have I34 : jI104 σ30 := jI104_fr ((jkp 10 eσ30 (of_decide_eq_true rfl)).trans (f25 10 (of_decide_eq_true rfl))) ((jkp 12 eσ30 (of_decide_eq_true rfl)).trans (f25 12 (of_decide_eq_true rfl))) ((jkp 13 eσ30 (of_decide_eq_true rfl)).trans (f25 13 (of_decide_eq_true rfl))) ((jnp 62 eσ30 (of_decide_eq_true rfl)).trans (f24 62 (of_decide_eq_true rfl))) ((jnp 67 eσ30 (of_decide_eq_true rfl)).trans (f24 67 (of_decide_eq_true rfl))) hI104
           have I35 : jI105 σ30 := jI105_fr ((jkp 15 eσ30 (of_decide_eq_true rfl)).trans (f25 15 (of_decide_eq_true rfl))) ((jnp 65 eσ30 (of_decide_eq_true rfl)).trans (f24 65 (of_decide_eq_true rfl))) hI105
           have I36 : jI106 σ30 := jI106_fr ((jkp 32 eσ30 (of_decide_eq_true rfl)).trans (f25 32 (of_decide_eq_true rfl))) ((jnp 70 eσ30 (of_decide_eq_true rfl)).trans (f24 70 (of_decide_eq_true rfl))) ((jnp 71 eσ30 (of_decide_eq_true rfl)).trans (f24 71 (of_decide_eq_true rfl))) ((jnp 72 eσ30 (of_decide_eq_true rfl)).trans (f24 72 (of_decide_eq_true rfl))) hI106
           have I37 : jI119 σ30 := jI119_fr (jnp 68 eσ30 (of_decide_eq_true rfl)) I26
           have p38 : jKept σ30 := jKept.fr (jnp 75 eσ30 (of_decide_eq_true rfl)) (jnp 76 eσ30 (of_decide_eq_true rfl)) (jnp 77 eσ30 (of_decide_eq_true rfl)) p27
           have z39 : (σ30 55 12).toInt = (σ 55 12).toInt := (congrArg Int32.toInt (show σ30 55 12 = (σ 55 12) from ((jkp 12 eσ30 (of_decide_eq_true rfl)).trans (f25 12 (of_decide_eq_true rfl)))))
           exact by
            refine jcallV (As := []) (rest := []) ⟨hx, hb, hml, hown, hts⟩ hK hP hA hS hZ (c_X12_bestNow l D cI cL ad zz hJ σ30 τ I31 I32 I33 I34 I35 I36 I37 p38 (by omega)) cw_RX12_346 (jc_55 cI cL ad σ30 τ) rfl ⟨Nat.le_of_ble_eq_true rfl, Nat.le_of_ble_eq_true rfl⟩ rfl rfl rfl hl.1 rfl (Nat.le_of_ble_eq_true rfl) dX12_worth_53 ⟨Nat.zero_le _, Nat.zero_le _⟩ (fun r41 σ40 τ40 H locs h40 hP hS => ?_)
            obtain ⟨rfl, f42, f43, I44, p45, h40⟩ := h40
            refine lv_istore (lv' := [(4, .int r41), (3, .int r23), (0, .ref (ad 55)), (1, .int a1), (2, .int a2)]) hx hb dX12_worth_56 hl (of_decide_eq_true rfl) rfl (fun ls hl => ?_)
            refine lv_aload_n hx hb dX12_worth_58 rfl (lv_at hl 2 rfl) ?_
            refine lv_iconst (v := (-1)) hx hb dX12_worth_59 (of_decide_eq_true rfl) ?_
            refine jput (ty := .int) hx hb hts inlX12 tyX12 tyX12_ok nmX12 hown hK hP hJ hA hS (jc_55 cI cL ad σ40 τ) rfl (k := 30) (of_decide_eq_true rfl) (Nat.le_of_ble_eq_true rfl) (jp_55_30 cI cL ad σ40 τ (-1)) (hts _ kw_7_16) (fun _ h9 => h9) rfl (by decide +kernel) rfl rfl dX12_worth_60 (fun σ47 H locs eσ47 hP hS => ?_)
            refine lv_aload_n hx hb dX12_worth_63 rfl (lv_at hl 2 rfl) ?_
            refine lv_iconst (v := (-1)) hx hb dX12_worth_64 (of_decide_eq_true rfl) ?_
            refine jput (ty := .int) hx hb hts inlX12 tyX12 tyX12_ok nmX12 hown hK hP hJ hA hS (jc_55 cI cL ad σ47 τ) rfl (k := 31) (of_decide_eq_true rfl) (Nat.le_of_ble_eq_true rfl) (jp_55_31 cI cL ad σ47 τ (-1)) (hts _ kw_7_17) (fun _ h9 => h9) rfl (by decide +kernel) rfl rfl dX12_worth_65 (fun σ48 H locs eσ48 hP hS => ?_)
            refine lv_iload_n hx hb dX12_worth_68 rfl (lv_at hl 4 rfl) ?_
            exact by
             refine lv_if_ne (tgt := 79) hx hb dX12_worth_69 (of_decide_eq_true rfl) (fun c49 => ?_) (fun c => absurd (jeq c t2 jz_0) (by omega))
             have kc49 := jne c49 t2 jz_0
             refine lv_iload_n hx hb dX12_worth_79 rfl (lv_at hl 1 rfl) ?_
             refine lv_iload hx hb dX12_worth_80 (lv_at hl 0 rfl) ?_
             have g50 := jrg (rfl : r23.toInt = r23.toInt)
             have g51 := jrg (rfl : r41.toInt = r41.toInt)
             refine lv_isub hx hb dX12_worth_82 ?_
             refine lv_topi (fun x52 ex52 => ?_)
             have gx52 := jrg (rfl : x52.toInt = x52.toInt)
             have I53 : jI119 σ48 := jI119_fr ((jnp 68 eσ48 (of_decide_eq_true rfl)).trans (jnp 68 eσ47 (of_decide_eq_true rfl))) I44
             have p54 : jKept σ48 := jKept.fr ((jnp 75 eσ48 (of_decide_eq_true rfl)).trans (jnp 75 eσ47 (of_decide_eq_true rfl))) ((jnp 76 eσ48 (of_decide_eq_true rfl)).trans (jnp 76 eσ47 (of_decide_eq_true rfl))) ((jnp 77 eσ48 (of_decide_eq_true rfl)).trans (jnp 77 eσ47 (of_decide_eq_true rfl))) p45
             have z55 : (σ48 55 30).toInt = (-1) := ((congrArg Int32.toInt (show σ48 55 30 = (-1) from ((jkp 30 eσ48 (of_decide_eq_true rfl)).trans (jsp eσ47)))).trans jz_m1)
             have z56 : (σ48 55 31).toInt = (-1) := ((congrArg Int32.toInt (show σ48 55 31 = (-1) from (jsp eσ48))).trans jz_m1)
             exact hret x52 σ48 τ _ _ _ _ rfl ⟨rfl, (fun i hi => ((jnp i eσ48 (imp_262 i hi)).trans ((jnp i eσ47 (imp_262 i hi)).trans ((f42 i hi).trans ((jnp i eσ30 (imp_262 i hi)).trans (f24 i hi)))))), (fun i hi => ((jkp i eσ48 (imp_263 i hi)).trans ((jkp i eσ47 (imp_264 i hi)).trans ((f43 i (imp_265 i hi)).trans ((jkp i eσ30 (imp_263 i hi)).trans (f25 i (imp_265 i hi))))))), I53, p54, (by omega), trivial⟩ hP hS dX12_worth_83
         · have kc29 := jeq c29 t2 jz_0
           refine lv_aload_n hx hb dX12_worth_39 rfl (lv_at hl 1 rfl) ?_
           refine lv_iload_n hx hb dX12_worth_40 rfl (lv_at hl 2 rfl) ?_
           refine jput (ty := .int) hx hb hts inlX12 tyX12 tyX12_ok nmX12 hown hK hP hJ hA hS (jc_55 cI cL ad σ22 τ) rfl (k := 30) (of_decide_eq_true rfl) (Nat.le_of_ble_eq_true rfl) (jp_55_30 cI cL ad σ22 τ a1) (hts _ kw_7_16) (fun _ h9 => h9) rfl (by decide +kernel) rfl rfl dX12_worth_41 (fun σ57 H locs eσ57 hP hS => ?_)
           refine lv_goto (tgt := 52) hx hb dX12_worth_44 (of_decide_eq_true rfl) ?_
           refine lv_aload_n hx hb dX12_worth_52 rfl (lv_at hl 1 rfl) ?_
           have I58 : jI101 σ57 := jI101_fr ((jkp 4 eσ57 (of_decide_eq_true rfl)).trans (f25 4 (of_decide_eq_true rfl))) ((jkp 5 eσ57 (of_decide_eq_true rfl)).trans (f25 5 (of_decide_eq_true rfl))) ((jnp 56 eσ57 (of_decide_eq_true rfl)).trans (f24 56 (of_decide_eq_true rfl))) ((jnp 57 eσ57 (of_decide_eq_true rfl)).trans (f24 57 (of_decide_eq_true rfl))) ((jnp 58 eσ57 (of_decide_eq_true rfl)).trans (f24 58 (of_decide_eq_true rfl))) ((jnp 59 eσ57 (of_decide_eq_true rfl)).trans (f24 59 (of_decide_eq_true rfl))) hI101
           have I59 : jI102 σ57 := jI102_fr ((jkp 6 eσ57 (of_decide_eq_true rfl)).trans (f25 6 (of_decide_eq_true rfl))) ((jnp 60 eσ57 (of_decide_eq_true rfl)).trans (f24 60 (of_decide_eq_true rfl))) ((jnp 61 eσ57 (of_decide_eq_true rfl)).trans (f24 61 (of_decide_eq_true rfl))) hI102
           have I60 : jI103 σ57 := jI103_fr ((jkp 9 eσ57 (of_decide_eq_true rfl)).trans (f25 9 (of_decide_eq_true rfl))) hI103
           have I61 : jI104 σ57 := jI104_fr ((jkp 10 eσ57 (of_decide_eq_true rfl)).trans (f25 10 (of_decide_eq_true rfl))) ((jkp 12 eσ57 (of_decide_eq_true rfl)).trans (f25 12 (of_decide_eq_true rfl))) ((jkp 13 eσ57 (of_decide_eq_true rfl)).trans (f25 13 (of_decide_eq_true rfl))) ((jnp 62 eσ57 (of_decide_eq_true rfl)).trans (f24 62 (of_decide_eq_true rfl))) ((jnp 67 eσ57 (of_decide_eq_true rfl)).trans (f24 67 (of_decide_eq_true rfl))) hI104
           have I62 : jI105 σ57 := jI105_fr ((jkp 15 eσ57 (of_decide_eq_true rfl)).trans (f25 15 (of_decide_eq_true rfl))) ((jnp 65 eσ57 (of_decide_eq_true rfl)).trans (f24 65 (of_decide_eq_true rfl))) hI105
           have I63 : jI106 σ57 := jI106_fr ((jkp 32 eσ57 (of_decide_eq_true rfl)).trans (f25 32 (of_decide_eq_true rfl))) ((jnp 70 eσ57 (of_decide_eq_true rfl)).trans (f24 70 (of_decide_eq_true rfl))) ((jnp 71 eσ57 (of_decide_eq_true rfl)).trans (f24 71 (of_decide_eq_true rfl))) ((jnp 72 eσ57 (of_decide_eq_true rfl)).trans (f24 72 (of_decide_eq_true rfl))) hI106
           have I64 : jI119 σ57 := jI119_fr (jnp 68 eσ57 (of_decide_eq_true rfl)) I26
           have p65 : jKept σ57 := jKept.fr (jnp 75 eσ57 (of_decide_eq_true rfl)) (jnp 76 eσ57 (of_decide_eq_true rfl)) (jnp 77 eσ57 (of_decide_eq_true rfl)) p27
           have z66 : (σ57 55 12).toInt = (σ 55 12).toInt := (congrArg Int32.toInt (show σ57 55 12 = (σ 55 12) from ((jkp 12 eσ57 (of_decide_eq_true rfl)).trans (f25 12 (of_decide_eq_true rfl)))))
           exact by
            refine jcallV (As := []) (rest := []) ⟨hx, hb, hml, hown, hts⟩ hK hP hA hS hZ (c_X12_bestNow l D cI cL ad zz hJ σ57 τ I58 I59 I60 I61 I62 I63 I64 p65 (by omega)) cw_RX12_346 (jc_55 cI cL ad σ57 τ) rfl ⟨Nat.le_of_ble_eq_true rfl, Nat.le_of_ble_eq_true rfl⟩ rfl rfl rfl hl.1 rfl (Nat.le_of_ble_eq_true rfl) dX12_worth_53 ⟨Nat.zero_le _, Nat.zero_le _⟩ (fun r68 σ67 τ67 H locs h67 hP hS => ?_)
            obtain ⟨rfl, f69, f70, I71, p72, h67⟩ := h67
            refine lv_istore (lv' := [(4, .int r68), (3, .int r23), (0, .ref (ad 55)), (1, .int a1), (2, .int a2)]) hx hb dX12_worth_56 hl (of_decide_eq_true rfl) rfl (fun ls hl => ?_)
            refine lv_aload_n hx hb dX12_worth_58 rfl (lv_at hl 2 rfl) ?_
            refine lv_iconst (v := (-1)) hx hb dX12_worth_59 (of_decide_eq_true rfl) ?_
            refine jput (ty := .int) hx hb hts inlX12 tyX12 tyX12_ok nmX12 hown hK hP hJ hA hS (jc_55 cI cL ad σ67 τ) rfl (k := 30) (of_decide_eq_true rfl) (Nat.le_of_ble_eq_true rfl) (jp_55_30 cI cL ad σ67 τ (-1)) (hts _ kw_7_16) (fun _ h9 => h9) rfl (by decide +kernel) rfl rfl dX12_worth_60 (fun σ74 H locs eσ74 hP hS => ?_)
            refine lv_aload_n hx hb dX12_worth_63 rfl (lv_at hl 2 rfl) ?_
            refine lv_iconst (v := (-1)) hx hb dX12_worth_64 (of_decide_eq_true rfl) ?_
            refine jput (ty := .int) hx hb hts inlX12 tyX12 tyX12_ok nmX12 hown hK hP hJ hA hS (jc_55 cI cL ad σ74 τ) rfl (k := 31) (of_decide_eq_true rfl) (Nat.le_of_ble_eq_true rfl) (jp_55_31 cI cL ad σ74 τ (-1)) (hts _ kw_7_17) (fun _ h9 => h9) rfl (by decide +kernel) rfl rfl dX12_worth_65 (fun σ75 H locs eσ75 hP hS => ?_)
            refine lv_iload_n hx hb dX12_worth_68 rfl (lv_at hl 4 rfl) ?_
            exact by
             refine lv_if_ne (tgt := 79) hx hb dX12_worth_69 (of_decide_eq_true rfl) (fun c => absurd (jne c t2 jz_0) (by omega)) (fun c76 => ?_)
             have kc76 := jeq c76 t2 jz_0
             refine lv_iload hx hb dX12_worth_72 (lv_at hl 0 rfl) ?_
             refine lv_iload_n hx hb dX12_worth_74 rfl (lv_at hl 1 rfl) ?_
             have g77 := jrg (rfl : r68.toInt = r68.toInt)
             have g78 := jrg (rfl : r23.toInt = r23.toInt)
             refine lv_isub hx hb dX12_worth_75 ?_
             refine lv_topi (fun x79 ex79 => ?_)
             have gx79 := jrg (rfl : x79.toInt = x79.toInt)
             refine lv_goto (tgt := 83) hx hb dX12_worth_76 (of_decide_eq_true rfl) ?_
             have I80 : jI119 σ75 := jI119_fr ((jnp 68 eσ75 (of_decide_eq_true rfl)).trans (jnp 68 eσ74 (of_decide_eq_true rfl))) I71
             have p81 : jKept σ75 := jKept.fr ((jnp 75 eσ75 (of_decide_eq_true rfl)).trans (jnp 75 eσ74 (of_decide_eq_true rfl))) ((jnp 76 eσ75 (of_decide_eq_true rfl)).trans (jnp 76 eσ74 (of_decide_eq_true rfl))) ((jnp 77 eσ75 (of_decide_eq_true rfl)).trans (jnp 77 eσ74 (of_decide_eq_true rfl))) p72
             have z82 : (σ75 55 30).toInt = (-1) := ((congrArg Int32.toInt (show σ75 55 30 = (-1) from ((jkp 30 eσ75 (of_decide_eq_true rfl)).trans (jsp eσ74)))).trans jz_m1)
             have z83 : (σ75 55 31).toInt = (-1) := ((congrArg Int32.toInt (show σ75 55 31 = (-1) from (jsp eσ75))).trans jz_m1)
             exact hret x79 σ75 τ _ _ _ _ rfl ⟨rfl, (fun i hi => ((jnp i eσ75 (imp_262 i hi)).trans ((jnp i eσ74 (imp_262 i hi)).trans ((f69 i hi).trans ((jnp i eσ57 (imp_262 i hi)).trans (f24 i hi)))))), (fun i hi => ((jkp i eσ75 (imp_263 i hi)).trans ((jkp i eσ74 (imp_264 i hi)).trans ((f70 i (imp_265 i hi)).trans ((jkp i eσ57 (imp_264 i hi)).trans (f25 i (imp_265 i hi))))))), I80, p81, (by omega), trivial⟩ hP hS dX12_worth_83
      · have kc21 := jnle c21 rfl jz_8
        refine lv_ldc (v := (-2000000000)) hx hb hown (hts _ kw_11_4) dX12_worth_27 ?_
        exact hret (-2000000000) σ τ _ _ _ _ rfl ⟨rfl, (fun _ _ => rfl), (fun _ _ => rfl), hI119, hs_jKept, (by omega), trivial⟩ hP hS dX12_worth_29
    · obtain ⟨q85, k84⟩ := h18
      have q85 := q85.symm
      subst q85
      refine lv_if_eq (tgt := 27) hx hb dX12_worth_15 (of_decide_eq_true rfl) (fun _ => ?_) (fun c => absurd (of_decide_eq_true rfl) c)
      refine lv_ldc (v := (-2000000000)) hx hb hown (hts _ kw_11_4) dX12_worth_27 ?_
      exact hret (-2000000000) σ τ _ _ _ _ rfl ⟨rfl, (fun _ _ => rfl), (fun _ _ => rfl), hI119, hs_jKept, (by omega), trivial⟩ hP hS dX12_worth_29
  · obtain ⟨q87, k86⟩ := h12
    have q87 := q87.symm
    subst q87
    refine lv_if_eq (tgt := 27) hx hb dX12_worth_5 (of_decide_eq_true rfl) (fun _ => ?_) (fun c => absurd (of_decide_eq_true rfl) c)
    refine lv_ldc (v := (-2000000000)) hx hb hown (hts _ kw_11_4) dX12_worth_27 ?_
    exact hret (-2000000000) σ τ _ _ _ _ rfl ⟨rfl, (fun _ _ => rfl), (fun _ _ => rfl), hI119, hs_jKept, (by omega), trivial⟩ hP hS dX12_worth_29
set_option maxHeartbeats 4000000 in
set_option maxRecDepth 100000 in
theorem c_X12_fielded (l : Launch) (D : va_G) (cI cL : ClassId) (ad zz : Nat → Nat) (hJ : jD ad) (σ : Nat → Nat → Int32) (τ : Nat → Nat → Int64) (a1 : Int32) (A1 : Int) (t1 : a1.toInt = A1) (a2 : Int32) (A2 : Int) (t2 : a2.toInt = A2) (hI101 : jI101 σ) (hI102 : jI102 σ) (hI103 : jI103 σ) (hI104 : jI104 σ) (hI105 : jI105 σ) (hI106 : jI106 σ) (hI119 : jI119 σ) (hs_jKept : jKept σ) : jM l yX12_fielded cX12_fielded 9 (some .int) ({ frames := 104, cells := 0, slots := 0, locals := 5081 }) D cI cL ad zz [.ref (ad 55), .int a1, .int a2] σ τ (fun r σ' τ' => τ = τ' ∧ (∀ i : Nat, (i < 55 ∨ 55 < i) ∧ (i < 66 ∨ 66 < i) ∧ (i < 68 ∨ 69 < i) ∧ (i < 74 ∨ 78 < i) → σ' i = σ i) ∧ (∀ k : Nat, (k < 9 ∨ 9 < k) ∧ (k < 18 ∨ 18 < k) ∧ (k < 19 ∨ 19 < k) ∧ (k < 20 ∨ 20 < k) ∧ (k < 21 ∨ 21 < k) ∧ (k < 22 ∨ 22 < k) ∧ (k < 25 ∨ 25 < k) ∧ (k < 26 ∨ 26 < k) ∧ (k < 27 ∨ 27 < k) ∧ (k < 37 ∨ 37 < k) ∧ (k < 42 ∨ 42 < k) → σ' 55 k = σ 55 k) ∧ (jI103 σ') ∧ (jI119 σ') ∧ (jKept σ') ∧ ((σ' 55 9).toInt = (σ 55 9).toInt) ∧ True) := by
  refine jM.of hJ (by decide +kernel) (nt := .int) rfl (Nat.le_of_ble_eq_true rfl) ?_
  intro p e s m args below meth c Q ls hC hret hl hP
  obtain ⟨hx, hb, hr, hml, hown, hts, hK, -, hlocks, hZ⟩ := hC
  have hown : s.vm.findClass RX12 = some m.cls := hown
  have hS : va_S (jA ad) s.heap s.heap [] := va_S.rf
  have hA : ∀ q, jA ad q → jA ad q := fun _ h => h
  have hl : lv_has ls 9 [(0, .ref (ad 55)), (1, .int a1), (2, .int a2)] := hl
  have g1 := jrg t1
  have g2 := jrg t2
  have i1 : 0 ≤ (σ 55 9).toInt ∧ (σ 55 9).toInt ≤ 3 := hI103
  obtain ⟨i2, i3, i4, w5, w6⟩ : (1 ≤ (σ 55 10).toInt ∧ (σ 55 10).toInt ≤ 8) ∧ (1 ≤ (σ 55 12).toInt ∧ (σ 55 12).toInt ≤ 12) ∧ (0 ≤ (σ 55 13).toInt ∧ (σ 55 13).toInt ≤ 999) ∧ (∀ k : Nat, k < 8 → 0 ≤ (σ 62 k).toInt ∧ (σ 62 k).toInt ≤ 3) ∧ (∀ k : Nat, k < 8 → 0 ≤ (σ 67 k).toInt ∧ (σ 67 k).toInt ≤ 3) := id hI104
  refine lv_iload_n hx hb dX12_fielded_0 rfl (lv_at hl 2 rfl) ?_
  refine lv_i2l (v := a2.toInt64) hx hb dX12_fielded_1 rfl ?_
  refine lv_lconst (v := 0) hx hb dX12_fielded_2 (of_decide_eq_true rfl) ?_
  refine lv_lconst (v := 1) hx hb dX12_fielded_3 (of_decide_eq_true rfl) ?_
  refine jcallS (As := [.long a2.toInt64, .long 0, .long 1]) (rest := []) ⟨hx, hb, hml, hown, hts⟩ hK hP hA hS hZ (c_X12_within l D cI cL ad zz hJ σ τ a2.toInt64 (A2) (jtoL t2) 0 (0) jzl_0 1 (1) jzl_1) cw_RX12_136 ⟨Nat.le_of_ble_eq_true rfl, Nat.le_of_ble_eq_true rfl⟩ rfl rfl rfl hl.1 rfl (Nat.le_of_ble_eq_true rfl) dX12_fielded_4 ⟨Nat.zero_le _, Nat.zero_le _⟩ (fun r8 σ7 τ7 H locs h7 hP hS => ?_)
  obtain ⟨⟨rfl, rfl⟩, h7⟩ := h7
  rcases h7 with h9 | h10
  · obtain ⟨q12, k11⟩ := h9
    have q12 := q12.symm
    subst q12
    refine lv_if_eq (tgt := 26) hx hb dX12_fielded_7 (of_decide_eq_true rfl) (fun c => absurd c (of_decide_eq_true rfl)) (fun _ => ?_)
    refine lv_iload_n hx hb dX12_fielded_10 rfl (lv_at hl 2 rfl) ?_
    refine lv_if_ne (tgt := 28) hx hb dX12_fielded_11 (of_decide_eq_true rfl) (fun c13 => ?_) (fun c13 => ?_)
    · have kc13 := jne c13 t2 jz_0
      refine lv_aload_n hx hb dX12_fielded_28 rfl (lv_at hl 0 rfl) ?_
      refine va_get (D := D) hx hb hts inlX12 hown hK hP 55 (jc_55 cI cL ad σ τ) rfl 12 (of_decide_eq_true rfl) (hts _ kw_8_16) (fun _ h9 => h9) rfl dX12_fielded_29 ?_
      refine lv_bipush (v := 8) hx hb dX12_fielded_32 (of_decide_eq_true rfl) ?_
      refine lv_icmp_le (tgt := 40) hx hb dX12_fielded_34 (of_decide_eq_true rfl) (fun c14 => ?_) (fun c14 => ?_)
      · have kc14 := jle c14 rfl jz_8
        refine lv_aload_n hx hb dX12_fielded_40 rfl (lv_at hl 0 rfl) ?_
        refine va_get (D := D) hx hb hts inlX12 hown hK hP 55 (jc_55 cI cL ad σ τ) rfl 9 (of_decide_eq_true rfl) (hts _ kw_12_14) (fun _ h9 => h9) rfl dX12_fielded_41 ?_
        refine lv_istore_n (lv' := [(3, .int (σ 55 9)), (0, .ref (ad 55)), (1, .int a1), (2, .int a2)]) hx hb dX12_fielded_44 rfl hl (of_decide_eq_true rfl) rfl (fun ls hl => ?_)
        refine lv_iconst (v := 0) hx hb dX12_fielded_45 (of_decide_eq_true rfl) ?_
        refine lv_istore (lv' := [(4, .int 0), (3, .int (σ 55 9)), (0, .ref (ad 55)), (1, .int a1), (2, .int a2)]) hx hb dX12_fielded_46 hl (of_decide_eq_true rfl) rfl (fun ls hl => ?_)
        refine lv_ldcw (v := 2000000000) hx hb hown (hts _ kw_34_4) dX12_fielded_48 ?_
        refine lv_istore (lv' := [(5, .int 2000000000), (4, .int 0), (3, .int (σ 55 9)), (0, .ref (ad 55)), (1, .int a1), (2, .int a2)]) hx hb dX12_fielded_51 hl (of_decide_eq_true rfl) rfl (fun ls hl => ?_)
        refine lv_iconst (v := 0) hx hb dX12_fielded_53 (of_decide_eq_true rfl) ?_
        refine lv_istore (lv' := [(6, .int 0), (5, .int 2000000000), (4, .int 0), (3, .int (σ 55 9)), (0, .ref (ad 55)), (1, .int a1), (2, .int a2)]) hx hb dX12_fielded_54 hl (of_decide_eq_true rfl) rfl (fun ls hl => ?_)
        refine lv_iconst (v := 0) hx hb dX12_fielded_56 (of_decide_eq_true rfl) ?_
        refine lv_istore (lv' := [(7, .int 0), (6, .int 0), (5, .int 2000000000), (4, .int 0), (3, .int (σ 55 9)), (0, .ref (ad 55)), (1, .int a1), (2, .int a2)]) hx hb dX12_fielded_57 hl (of_decide_eq_true rfl) rfl (fun ls hl => ?_)
        have lp15 : ∀ (n16 : Nat) (x17 : Int32) (x18 : Int32) (x19 : Int32) (x20 : Int32) (σ22 : Nat → Nat → Int32) (H : Heap) (locs : List Loc) (ls : Array Slot), (-x20.toInt + 4 : Int) < n16 → 0 ≤ x20.toInt → x20.toInt ≤ 4 → (∀ i : Nat, (i < 55 ∨ 55 < i) ∧ (i < 66 ∨ 66 < i) ∧ (i < 68 ∨ 69 < i) ∧ (i < 74 ∨ 78 < i) → σ22 i = σ i) → (∀ k : Nat, (k < 9 ∨ 9 < k) ∧ (k < 18 ∨ 18 < k) ∧ (k < 19 ∨ 19 < k) ∧ (k < 20 ∨ 20 < k) ∧ (k < 21 ∨ 21 < k) ∧ (k < 22 ∨ 22 < k) ∧ (k < 25 ∨ 25 < k) ∧ (k < 26 ∨ 26 < k) ∧ (k < 27 ∨ 27 < k) ∧ (k < 37 ∨ 37 < k) ∧ (k < 42 ∨ 42 < k) → σ22 55 k = σ 55 k) → jKept σ22 → jI103 σ22 → jI119 σ22 → jH D cI cL ad σ22 τ H → va_S (jA ad) s.heap H locs → lv_has ls 9 [(7, .int x20), (6, .int x19), (5, .int x18), (4, .int x17), (3, .int (σ 55 9)), (0, .ref (ad 55)), (1, .int a1), (2, .int a2)] → W p l e ({ frames := 104, cells := 0, slots := 0, locals := 5081 }) s m args below meth c H locs 0 0 Q (F0 m 59 ls []) := by
          intro n16
          induction n16 with
          | zero => intro x17 x18 x19 x20 σ22 H locs ls h24 h25 h26; have gx17 := jrg (rfl : x17.toInt = x17.toInt); have gx18 := jrg (rfl : x18.toInt = x18.toInt); have gx19 := jrg (rfl : x19.toInt = x19.toInt); exact absurd h24 (by omega)
          | succ n16 ihlp15 =>
            intro x17 x18 x19 x20 σ22 H locs ls h24 h25 h26 f27 f28 p29 p30 p31 hP hS hl
            exact by
             have gx17 := jrg (rfl : x17.toInt = x17.toInt); have gx18 := jrg (rfl : x18.toInt = x18.toInt); have gx19 := jrg (rfl : x19.toInt = x19.toInt)
             have i32 : 0 ≤ (σ22 55 9).toInt ∧ (σ22 55 9).toInt ≤ 3 := p30
             refine lv_iload hx hb dX12_fielded_59 (lv_at hl 0 rfl) ?_
             refine lv_iconst (v := 4) hx hb dX12_fielded_61 (of_decide_eq_true rfl) ?_
             refine lv_icmp_ge (tgt := 129) hx hb dX12_fielded_62 (of_decide_eq_true rfl) (fun c33 => ?_) (fun c33 => ?_)
             · have kc33 := jle c33 jz_4 rfl
               refine lv_aload_n hx hb dX12_fielded_129 rfl (lv_at hl 5 rfl) ?_
               refine lv_iload_n hx hb dX12_fielded_130 rfl (lv_at hl 4 rfl) ?_
               refine jput (ty := .int) hx hb hts inlX12 tyX12 tyX12_ok nmX12 hown hK hP hJ hA hS (jc_55 cI cL ad σ22 τ) rfl (k := 9) (of_decide_eq_true rfl) (Nat.le_of_ble_eq_true rfl) (jp_55_9 cI cL ad σ22 τ (σ 55 9)) (hts _ kw_12_14) (fun _ h9 => h9) rfl (by decide +kernel) rfl rfl dX12_fielded_131 (fun σ34 H locs eσ34 hP hS => ?_)
               refine lv_iload_n hx hb dX12_fielded_134 rfl (lv_at hl 7 rfl) ?_
               exact by
                refine lv_if_ne (tgt := 143) hx hb dX12_fielded_135 (of_decide_eq_true rfl) (fun c35 => ?_) (fun c => absurd (jeq c t2 jz_0) (by omega))
                have kc35 := jne c35 t2 jz_0
                refine lv_iload hx hb dX12_fielded_143 (lv_at hl 3 rfl) ?_
                have z36 : (σ34 55 9).toInt = (σ 55 9).toInt := (congrArg Int32.toInt (show σ34 55 9 = (σ 55 9) from (jsp eσ34)))
                have I37 : jI103 σ34 := (show 0 ≤ (σ34 55 9).toInt ∧ (σ34 55 9).toInt ≤ 3 by omega)
                have I38 : jI119 σ34 := jI119_fr (jnp 68 eσ34 (of_decide_eq_true rfl)) p31
                have p39 : jKept σ34 := jKept.fr (jnp 75 eσ34 (of_decide_eq_true rfl)) (jnp 76 eσ34 (of_decide_eq_true rfl)) (jnp 77 eσ34 (of_decide_eq_true rfl)) p29
                exact hret x17 σ34 τ _ _ _ _ rfl ⟨rfl, (fun i hi => ((jnp i eσ34 (imp_262 i hi)).trans (f27 i hi))), (fun i hi => ((jkp i eσ34 (imp_266 i hi)).trans (f28 i hi))), I37, I38, p39, (by omega), trivial⟩ hP hS dX12_fielded_145
             · have kc33 := jnle c33 jz_4 rfl
               refine lv_aload_n hx hb dX12_fielded_65 rfl (lv_at hl 5 rfl) ?_
               refine lv_iload hx hb dX12_fielded_66 (lv_at hl 0 rfl) ?_
               refine jput (ty := .int) hx hb hts inlX12 tyX12 tyX12_ok nmX12 hown hK hP hJ hA hS (jc_55 cI cL ad σ22 τ) rfl (k := 9) (of_decide_eq_true rfl) (Nat.le_of_ble_eq_true rfl) (jp_55_9 cI cL ad σ22 τ x20) (hts _ kw_12_14) (fun _ h9 => h9) rfl (by decide +kernel) rfl rfl dX12_fielded_68 (fun σ40 H locs eσ40 hP hS => ?_)
               refine lv_iload_n hx hb dX12_fielded_71 rfl (lv_at hl 7 rfl) ?_
               exact by
                refine lv_if_ne (tgt := 87) hx hb dX12_fielded_72 (of_decide_eq_true rfl) (fun c41 => ?_) (fun c => absurd (jeq c t2 jz_0) (by omega))
                have kc41 := jne c41 t2 jz_0
                refine lv_aload_n hx hb dX12_fielded_87 rfl (lv_at hl 5 rfl) ?_
                have I42 : jI101 σ40 := jI101_fr ((jkp 4 eσ40 (of_decide_eq_true rfl)).trans (f28 4 (of_decide_eq_true rfl))) ((jkp 5 eσ40 (of_decide_eq_true rfl)).trans (f28 5 (of_decide_eq_true rfl))) ((jnp 56 eσ40 (of_decide_eq_true rfl)).trans (f27 56 (of_decide_eq_true rfl))) ((jnp 57 eσ40 (of_decide_eq_true rfl)).trans (f27 57 (of_decide_eq_true rfl))) ((jnp 58 eσ40 (of_decide_eq_true rfl)).trans (f27 58 (of_decide_eq_true rfl))) ((jnp 59 eσ40 (of_decide_eq_true rfl)).trans (f27 59 (of_decide_eq_true rfl))) hI101
                have I43 : jI102 σ40 := jI102_fr ((jkp 6 eσ40 (of_decide_eq_true rfl)).trans (f28 6 (of_decide_eq_true rfl))) ((jnp 60 eσ40 (of_decide_eq_true rfl)).trans (f27 60 (of_decide_eq_true rfl))) ((jnp 61 eσ40 (of_decide_eq_true rfl)).trans (f27 61 (of_decide_eq_true rfl))) hI102
                have z44 : (σ40 55 9).toInt = x20.toInt := (congrArg Int32.toInt (show σ40 55 9 = x20 from (jsp eσ40)))
                have I45 : jI103 σ40 := (show 0 ≤ (σ40 55 9).toInt ∧ (σ40 55 9).toInt ≤ 3 by omega)
                have I46 : jI104 σ40 := jI104_fr ((jkp 10 eσ40 (of_decide_eq_true rfl)).trans (f28 10 (of_decide_eq_true rfl))) ((jkp 12 eσ40 (of_decide_eq_true rfl)).trans (f28 12 (of_decide_eq_true rfl))) ((jkp 13 eσ40 (of_decide_eq_true rfl)).trans (f28 13 (of_decide_eq_true rfl))) ((jnp 62 eσ40 (of_decide_eq_true rfl)).trans (f27 62 (of_decide_eq_true rfl))) ((jnp 67 eσ40 (of_decide_eq_true rfl)).trans (f27 67 (of_decide_eq_true rfl))) hI104
                have I47 : jI105 σ40 := jI105_fr ((jkp 15 eσ40 (of_decide_eq_true rfl)).trans (f28 15 (of_decide_eq_true rfl))) ((jnp 65 eσ40 (of_decide_eq_true rfl)).trans (f27 65 (of_decide_eq_true rfl))) hI105
                have I48 : jI106 σ40 := jI106_fr ((jkp 32 eσ40 (of_decide_eq_true rfl)).trans (f28 32 (of_decide_eq_true rfl))) ((jnp 70 eσ40 (of_decide_eq_true rfl)).trans (f27 70 (of_decide_eq_true rfl))) ((jnp 71 eσ40 (of_decide_eq_true rfl)).trans (f27 71 (of_decide_eq_true rfl))) ((jnp 72 eσ40 (of_decide_eq_true rfl)).trans (f27 72 (of_decide_eq_true rfl))) hI106
                have I49 : jI119 σ40 := jI119_fr (jnp 68 eσ40 (of_decide_eq_true rfl)) p31
                have p50 : jKept σ40 := jKept.fr (jnp 75 eσ40 (of_decide_eq_true rfl)) (jnp 76 eσ40 (of_decide_eq_true rfl)) (jnp 77 eσ40 (of_decide_eq_true rfl)) p29
                have z51 : (σ40 55 12).toInt = (σ 55 12).toInt := (congrArg Int32.toInt (show σ40 55 12 = (σ 55 12) from ((jkp 12 eσ40 (of_decide_eq_true rfl)).trans (f28 12 (of_decide_eq_true rfl)))))
                exact by
                 refine jcallV (As := []) (rest := []) ⟨hx, hb, hml, hown, hts⟩ hK hP hA hS hZ (c_X12_bestNow l D cI cL ad zz hJ σ40 τ I42 I43 I45 I46 I47 I48 I49 p50 (by omega)) cw_RX12_346 (jc_55 cI cL ad σ40 τ) rfl ⟨Nat.le_of_ble_eq_true rfl, Nat.le_of_ble_eq_true rfl⟩ rfl rfl rfl hl.1 rfl (Nat.le_of_ble_eq_true rfl) dX12_fielded_88 ⟨Nat.zero_le _, Nat.zero_le _⟩ (fun r53 σ52 τ52 H locs h52 hP hS => ?_)
                 obtain ⟨rfl, f54, f55, I56, p57, h52⟩ := h52
                 refine lv_istore (lv' := [(8, .int r53), (7, .int x20), (6, .int x19), (5, .int x18), (4, .int x17), (3, .int (σ 55 9)), (0, .ref (ad 55)), (1, .int a1), (2, .int a2)]) hx hb dX12_fielded_91 hl (of_decide_eq_true rfl) rfl (fun ls hl => ?_)
                 refine lv_iload hx hb dX12_fielded_93 (lv_at hl 1 rfl) ?_
                 refine lv_iload_n hx hb dX12_fielded_95 rfl (lv_at hl 7 rfl) ?_
                 refine lv_icmp_ne (tgt := 104) hx hb dX12_fielded_96 (of_decide_eq_true rfl) (fun c59 => ?_) (fun c59 => ?_)
                 · have kc59 := jne c59 rfl t1
                   refine lv_iload hx hb dX12_fielded_104 (lv_at hl 2 rfl) ?_
                   refine lv_istore (lv' := [(6, .int x19), (8, .int r53), (7, .int x20), (5, .int x18), (4, .int x17), (3, .int (σ 55 9)), (0, .ref (ad 55)), (1, .int a1), (2, .int a2)]) hx hb dX12_fielded_106 hl (of_decide_eq_true rfl) rfl (fun ls hl => ?_)
                   refine lv_iload hx hb dX12_fielded_108 (lv_at hl 1 rfl) ?_
                   refine lv_iload hx hb dX12_fielded_110 (lv_at hl 3 rfl) ?_
                   refine lv_icmp_ge (tgt := 123) hx hb dX12_fielded_112 (of_decide_eq_true rfl) (fun c60 => ?_) (fun c60 => ?_)
                   · have kc60 := jle c60 rfl rfl
                     obtain ⟨x61, ex61⟩ : ∃ y : Int32, y = x20 + 1 := ⟨_, rfl⟩
                     exact by
                      have tx61 : x61.toInt = x20.toInt + 1 := (jadd ex61 rfl jz_1 (by omega) (by omega)).trans (by omega)
                      refine lv_iinc (v := x61) (lv' := [(7, .int x61), (6, .int x19), (8, .int r53), (5, .int x18), (4, .int x17), (3, .int (σ 55 9)), (0, .ref (ad 55)), (1, .int a1), (2, .int a2)]) hx hb dX12_fielded_123 hl (k := 2) rfl (by rw [ex61]; rfl) (of_decide_eq_true rfl) rfl (fun ls hl => ?_)
                      refine lv_goto (tgt := 59) hx hb dX12_fielded_126 (of_decide_eq_true rfl) ?_
                      have I62 : jI103 σ52 := jI103_fr (f55 9 (of_decide_eq_true rfl)) I45
                      exact by exact ihlp15 x17 x18 x19 x61 σ52 _ _ ls (by have h93 := tx61; omega) (by have h93 := tx61; omega) (by have h93 := tx61; omega) (fun i hi => ((f54 i hi).trans ((jnp i eσ40 (imp_262 i hi)).trans (f27 i hi)))) (fun i hi => ((f55 i (imp_267 i hi)).trans ((jkp i eσ40 (imp_266 i hi)).trans (f28 i hi))))  p57 I62 I56 hP hS (lv_sub hl [0, 1, 3, 4, 5, 6, 7, 8] rfl)
                   · have kc60 := jnle c60 rfl rfl
                     refine lv_iload hx hb dX12_fielded_115 (lv_at hl 2 rfl) ?_
                     refine lv_istore (lv' := [(4, .int x20), (6, .int x19), (8, .int r53), (7, .int x20), (5, .int x18), (3, .int (σ 55 9)), (0, .ref (ad 55)), (1, .int a1), (2, .int a2)]) hx hb dX12_fielded_117 hl (of_decide_eq_true rfl) rfl (fun ls hl => ?_)
                     refine lv_iload hx hb dX12_fielded_119 (lv_at hl 2 rfl) ?_
                     exact by
                      refine lv_istore (lv' := [(5, .int r53), (4, .int x20), (6, .int x19), (8, .int r53), (7, .int x20), (3, .int (σ 55 9)), (0, .ref (ad 55)), (1, .int a1), (2, .int a2)]) hx hb dX12_fielded_121 hl (of_decide_eq_true rfl) rfl (fun ls hl => ?_)
                      obtain ⟨x63, ex63⟩ : ∃ y : Int32, y = x20 + 1 := ⟨_, rfl⟩
                      have tx63 : x63.toInt = x20.toInt + 1 := (jadd ex63 rfl jz_1 (by omega) (by omega)).trans (by omega)
                      refine lv_iinc (v := x63) (lv' := [(7, .int x63), (5, .int r53), (4, .int x20), (6, .int x19), (8, .int r53), (3, .int (σ 55 9)), (0, .ref (ad 55)), (1, .int a1), (2, .int a2)]) hx hb dX12_fielded_123 hl (k := 4) rfl (by rw [ex63]; rfl) (of_decide_eq_true rfl) rfl (fun ls hl => ?_)
                      refine lv_goto (tgt := 59) hx hb dX12_fielded_126 (of_decide_eq_true rfl) ?_
                      have I64 : jI103 σ52 := jI103_fr (f55 9 (of_decide_eq_true rfl)) I45
                      exact by exact ihlp15 x20 r53 x19 x63 σ52 _ _ ls (by have h93 := tx63; omega) (by have h93 := tx63; omega) (by have h93 := tx63; omega) (fun i hi => ((f54 i hi).trans ((jnp i eσ40 (imp_262 i hi)).trans (f27 i hi)))) (fun i hi => ((f55 i (imp_267 i hi)).trans ((jkp i eσ40 (imp_266 i hi)).trans (f28 i hi))))  p57 I64 I56 hP hS (lv_sub hl [0, 3, 1, 2, 5, 6, 7, 8] rfl)
                 · have kc59 := jeq c59 rfl t1
                   refine lv_iload hx hb dX12_fielded_99 (lv_at hl 0 rfl) ?_
                   exact by
                    refine lv_goto (tgt := 106) hx hb dX12_fielded_101 (of_decide_eq_true rfl) ?_
                    refine lv_istore (lv' := [(6, .int r53), (8, .int r53), (7, .int x20), (5, .int x18), (4, .int x17), (3, .int (σ 55 9)), (0, .ref (ad 55)), (1, .int a1), (2, .int a2)]) hx hb dX12_fielded_106 hl (of_decide_eq_true rfl) rfl (fun ls hl => ?_)
                    refine lv_iload hx hb dX12_fielded_108 (lv_at hl 1 rfl) ?_
                    refine lv_iload hx hb dX12_fielded_110 (lv_at hl 3 rfl) ?_
                    refine lv_icmp_ge (tgt := 123) hx hb dX12_fielded_112 (of_decide_eq_true rfl) (fun c65 => ?_) (fun c65 => ?_)
                    · have kc65 := jle c65 rfl rfl
                      obtain ⟨x66, ex66⟩ : ∃ y : Int32, y = x20 + 1 := ⟨_, rfl⟩
                      have tx66 : x66.toInt = x20.toInt + 1 := (jadd ex66 rfl jz_1 (by omega) (by omega)).trans (by omega)
                      refine lv_iinc (v := x66) (lv' := [(7, .int x66), (6, .int r53), (8, .int r53), (5, .int x18), (4, .int x17), (3, .int (σ 55 9)), (0, .ref (ad 55)), (1, .int a1), (2, .int a2)]) hx hb dX12_fielded_123 hl (k := 2) rfl (by rw [ex66]; rfl) (of_decide_eq_true rfl) rfl (fun ls hl => ?_)
                      exact by
                       refine lv_goto (tgt := 59) hx hb dX12_fielded_126 (of_decide_eq_true rfl) ?_
                       have I67 : jI103 σ52 := jI103_fr (f55 9 (of_decide_eq_true rfl)) I45
                       exact by exact ihlp15 x17 x18 r53 x66 σ52 _ _ ls (by have h93 := tx66; omega) (by have h93 := tx66; omega) (by have h93 := tx66; omega) (fun i hi => ((f54 i hi).trans ((jnp i eσ40 (imp_262 i hi)).trans (f27 i hi)))) (fun i hi => ((f55 i (imp_267 i hi)).trans ((jkp i eσ40 (imp_266 i hi)).trans (f28 i hi))))  p57 I67 I56 hP hS (lv_sub hl [0, 1, 3, 4, 5, 6, 7, 8] rfl)
                    · have kc65 := jnle c65 rfl rfl
                      refine lv_iload hx hb dX12_fielded_115 (lv_at hl 2 rfl) ?_
                      refine lv_istore (lv' := [(4, .int x20), (6, .int r53), (8, .int r53), (7, .int x20), (5, .int x18), (3, .int (σ 55 9)), (0, .ref (ad 55)), (1, .int a1), (2, .int a2)]) hx hb dX12_fielded_117 hl (of_decide_eq_true rfl) rfl (fun ls hl => ?_)
                      refine lv_iload hx hb dX12_fielded_119 (lv_at hl 2 rfl) ?_
                      refine lv_istore (lv' := [(5, .int r53), (4, .int x20), (6, .int r53), (8, .int r53), (7, .int x20), (3, .int (σ 55 9)), (0, .ref (ad 55)), (1, .int a1), (2, .int a2)]) hx hb dX12_fielded_121 hl (of_decide_eq_true rfl) rfl (fun ls hl => ?_)
                      obtain ⟨x68, ex68⟩ : ∃ y : Int32, y = x20 + 1 := ⟨_, rfl⟩
                      exact by
                       have tx68 : x68.toInt = x20.toInt + 1 := (jadd ex68 rfl jz_1 (by omega) (by omega)).trans (by omega)
                       refine lv_iinc (v := x68) (lv' := [(7, .int x68), (5, .int r53), (4, .int x20), (6, .int r53), (8, .int r53), (3, .int (σ 55 9)), (0, .ref (ad 55)), (1, .int a1), (2, .int a2)]) hx hb dX12_fielded_123 hl (k := 4) rfl (by rw [ex68]; rfl) (of_decide_eq_true rfl) rfl (fun ls hl => ?_)
                       refine lv_goto (tgt := 59) hx hb dX12_fielded_126 (of_decide_eq_true rfl) ?_
                       have I69 : jI103 σ52 := jI103_fr (f55 9 (of_decide_eq_true rfl)) I45
                       exact by exact ihlp15 x20 r53 r53 x68 σ52 _ _ ls (by have h93 := tx68; omega) (by have h93 := tx68; omega) (by have h93 := tx68; omega) (fun i hi => ((f54 i hi).trans ((jnp i eσ40 (imp_262 i hi)).trans (f27 i hi)))) (fun i hi => ((f55 i (imp_267 i hi)).trans ((jkp i eσ40 (imp_266 i hi)).trans (f28 i hi))))  p57 I69 I56 hP hS (lv_sub hl [0, 3, 1, 2, 5, 6, 7, 8] rfl)
        exact by exact lp15 1000000 0 2000000000 0 0 σ _ _ ls (by have h90 := jz_0; have h91 := jz_2000000000; have h92 := jz_0; have h93 := jz_0; omega) (by have h90 := jz_0; have h91 := jz_2000000000; have h92 := jz_0; have h93 := jz_0; omega) (by have h90 := jz_0; have h91 := jz_2000000000; have h92 := jz_0; have h93 := jz_0; omega) (fun _ _ => rfl) (fun _ _ => rfl)  hs_jKept hI103 hI119 hP hS hl
      · have kc14 := jnle c14 rfl jz_8
        refine lv_bipush (v := (-4)) hx hb dX12_fielded_37 (of_decide_eq_true rfl) ?_
        exact hret (-4) σ τ _ _ _ _ rfl ⟨rfl, (fun _ _ => rfl), (fun _ _ => rfl), hI103, hI119, hs_jKept, (by omega), trivial⟩ hP hS dX12_fielded_39
    · exact by
       have kc13 := jeq c13 t2 jz_0
       refine lv_iload_n hx hb dX12_fielded_14 rfl (lv_at hl 1 rfl) ?_
       refine lv_i2l (v := a1.toInt64) hx hb dX12_fielded_15 rfl ?_
       refine lv_lconst (v := 0) hx hb dX12_fielded_16 (of_decide_eq_true rfl) ?_
       refine lv_ldc2 (v := 3) hx hb hown (hts _ kw_12_13) dX12_fielded_17 ?_
       refine jcallS (As := [.long a1.toInt64, .long 0, .long 3]) (rest := []) ⟨hx, hb, hml, hown, hts⟩ hK hP hA hS hZ (c_X12_within l D cI cL ad zz hJ σ τ a1.toInt64 (A1) (jtoL t1) 0 (0) jzl_0 3 (3) jzl_3) cw_RX12_136 ⟨Nat.le_of_ble_eq_true rfl, Nat.le_of_ble_eq_true rfl⟩ rfl rfl rfl hl.1 rfl (Nat.le_of_ble_eq_true rfl) dX12_fielded_20 ⟨Nat.zero_le _, Nat.zero_le _⟩ (fun r71 σ70 τ70 H locs h70 hP hS => ?_)
       obtain ⟨⟨rfl, rfl⟩, h70⟩ := h70
       rcases h70 with h72 | h73
       · obtain ⟨q75, k74⟩ := h72
         have q75 := q75.symm
         subst q75
         refine lv_if_ne (tgt := 28) hx hb dX12_fielded_23 (of_decide_eq_true rfl) (fun _ => ?_) (fun c => absurd c (of_decide_eq_true rfl))
         refine lv_aload_n hx hb dX12_fielded_28 rfl (lv_at hl 0 rfl) ?_
         refine va_get (D := D) hx hb hts inlX12 hown hK hP 55 (jc_55 cI cL ad σ τ) rfl 12 (of_decide_eq_true rfl) (hts _ kw_8_16) (fun _ h9 => h9) rfl dX12_fielded_29 ?_
         refine lv_bipush (v := 8) hx hb dX12_fielded_32 (of_decide_eq_true rfl) ?_
         refine lv_icmp_le (tgt := 40) hx hb dX12_fielded_34 (of_decide_eq_true rfl) (fun c76 => ?_) (fun c76 => ?_)
         · have kc76 := jle c76 rfl jz_8
           refine lv_aload_n hx hb dX12_fielded_40 rfl (lv_at hl 0 rfl) ?_
           refine va_get (D := D) hx hb hts inlX12 hown hK hP 55 (jc_55 cI cL ad σ τ) rfl 9 (of_decide_eq_true rfl) (hts _ kw_12_14) (fun _ h9 => h9) rfl dX12_fielded_41 ?_
           refine lv_istore_n (lv' := [(3, .int (σ 55 9)), (0, .ref (ad 55)), (1, .int a1), (2, .int a2)]) hx hb dX12_fielded_44 rfl hl (of_decide_eq_true rfl) rfl (fun ls hl => ?_)
           refine lv_iconst (v := 0) hx hb dX12_fielded_45 (of_decide_eq_true rfl) ?_
           refine lv_istore (lv' := [(4, .int 0), (3, .int (σ 55 9)), (0, .ref (ad 55)), (1, .int a1), (2, .int a2)]) hx hb dX12_fielded_46 hl (of_decide_eq_true rfl) rfl (fun ls hl => ?_)
           refine lv_ldcw (v := 2000000000) hx hb hown (hts _ kw_34_4) dX12_fielded_48 ?_
           refine lv_istore (lv' := [(5, .int 2000000000), (4, .int 0), (3, .int (σ 55 9)), (0, .ref (ad 55)), (1, .int a1), (2, .int a2)]) hx hb dX12_fielded_51 hl (of_decide_eq_true rfl) rfl (fun ls hl => ?_)
           refine lv_iconst (v := 0) hx hb dX12_fielded_53 (of_decide_eq_true rfl) ?_
           refine lv_istore (lv' := [(6, .int 0), (5, .int 2000000000), (4, .int 0), (3, .int (σ 55 9)), (0, .ref (ad 55)), (1, .int a1), (2, .int a2)]) hx hb dX12_fielded_54 hl (of_decide_eq_true rfl) rfl (fun ls hl => ?_)
           refine lv_iconst (v := 0) hx hb dX12_fielded_56 (of_decide_eq_true rfl) ?_
           refine lv_istore (lv' := [(7, .int 0), (6, .int 0), (5, .int 2000000000), (4, .int 0), (3, .int (σ 55 9)), (0, .ref (ad 55)), (1, .int a1), (2, .int a2)]) hx hb dX12_fielded_57 hl (of_decide_eq_true rfl) rfl (fun ls hl => ?_)
           have lp77 : ∀ (n78 : Nat) (x79 : Int32) (x80 : Int32) (x81 : Int32) (x82 : Int32) (σ84 : Nat → Nat → Int32) (H : Heap) (locs : List Loc) (ls : Array Slot), (-x82.toInt + 4 : Int) < n78 → 0 ≤ x82.toInt → x82.toInt ≤ 4 → (∀ i : Nat, (i < 55 ∨ 55 < i) ∧ (i < 66 ∨ 66 < i) ∧ (i < 68 ∨ 69 < i) ∧ (i < 74 ∨ 78 < i) → σ84 i = σ i) → (∀ k : Nat, (k < 9 ∨ 9 < k) ∧ (k < 18 ∨ 18 < k) ∧ (k < 19 ∨ 19 < k) ∧ (k < 20 ∨ 20 < k) ∧ (k < 21 ∨ 21 < k) ∧ (k < 22 ∨ 22 < k) ∧ (k < 25 ∨ 25 < k) ∧ (k < 26 ∨ 26 < k) ∧ (k < 27 ∨ 27 < k) ∧ (k < 37 ∨ 37 < k) ∧ (k < 42 ∨ 42 < k) → σ84 55 k = σ 55 k) → jKept σ84 → jI103 σ84 → jI119 σ84 → jH D cI cL ad σ84 τ H → va_S (jA ad) s.heap H locs → lv_has ls 9 [(7, .int x82), (6, .int x81), (5, .int x80), (4, .int x79), (3, .int (σ 55 9)), (0, .ref (ad 55)), (1, .int a1), (2, .int a2)] → W p l e ({ frames := 104, cells := 0, slots := 0, locals := 5081 }) s m args below meth c H locs 0 0 Q (F0 m 59 ls []) := by
             intro n78
             induction n78 with
             | zero => intro x79 x80 x81 x82 σ84 H locs ls h86 h87 h88; have gx79 := jrg (rfl : x79.toInt = x79.toInt); have gx80 := jrg (rfl : x80.toInt = x80.toInt); have gx81 := jrg (rfl : x81.toInt = x81.toInt); exact absurd h86 (by omega)
             | succ n78 ihlp77 =>
               intro x79 x80 x81 x82 σ84 H locs ls h86 h87 h88 f89 f90 p91 p92 p93 hP hS hl
               exact by
                have gx79 := jrg (rfl : x79.toInt = x79.toInt); have gx80 := jrg (rfl : x80.toInt = x80.toInt); have gx81 := jrg (rfl : x81.toInt = x81.toInt)
                have i94 : 0 ≤ (σ84 55 9).toInt ∧ (σ84 55 9).toInt ≤ 3 := p92
                refine lv_iload hx hb dX12_fielded_59 (lv_at hl 0 rfl) ?_
                refine lv_iconst (v := 4) hx hb dX12_fielded_61 (of_decide_eq_true rfl) ?_
                refine lv_icmp_ge (tgt := 129) hx hb dX12_fielded_62 (of_decide_eq_true rfl) (fun c95 => ?_) (fun c95 => ?_)
                · have kc95 := jle c95 jz_4 rfl
                  refine lv_aload_n hx hb dX12_fielded_129 rfl (lv_at hl 5 rfl) ?_
                  refine lv_iload_n hx hb dX12_fielded_130 rfl (lv_at hl 4 rfl) ?_
                  refine jput (ty := .int) hx hb hts inlX12 tyX12 tyX12_ok nmX12 hown hK hP hJ hA hS (jc_55 cI cL ad σ84 τ) rfl (k := 9) (of_decide_eq_true rfl) (Nat.le_of_ble_eq_true rfl) (jp_55_9 cI cL ad σ84 τ (σ 55 9)) (hts _ kw_12_14) (fun _ h9 => h9) rfl (by decide +kernel) rfl rfl dX12_fielded_131 (fun σ96 H locs eσ96 hP hS => ?_)
                  refine lv_iload_n hx hb dX12_fielded_134 rfl (lv_at hl 7 rfl) ?_
                  exact by
                   refine lv_if_ne (tgt := 143) hx hb dX12_fielded_135 (of_decide_eq_true rfl) (fun c => absurd (jne c t2 jz_0) (by omega)) (fun c97 => ?_)
                   have kc97 := jeq c97 t2 jz_0
                   refine lv_iload hx hb dX12_fielded_138 (lv_at hl 1 rfl) ?_
                   refine lv_goto (tgt := 145) hx hb dX12_fielded_140 (of_decide_eq_true rfl) ?_
                   have z98 : (σ96 55 9).toInt = (σ 55 9).toInt := (congrArg Int32.toInt (show σ96 55 9 = (σ 55 9) from (jsp eσ96)))
                   have I99 : jI103 σ96 := (show 0 ≤ (σ96 55 9).toInt ∧ (σ96 55 9).toInt ≤ 3 by omega)
                   have I100 : jI119 σ96 := jI119_fr (jnp 68 eσ96 (of_decide_eq_true rfl)) p93
                   have p101 : jKept σ96 := jKept.fr (jnp 75 eσ96 (of_decide_eq_true rfl)) (jnp 76 eσ96 (of_decide_eq_true rfl)) (jnp 77 eσ96 (of_decide_eq_true rfl)) p91
                   exact hret x81 σ96 τ _ _ _ _ rfl ⟨rfl, (fun i hi => ((jnp i eσ96 (imp_262 i hi)).trans (f89 i hi))), (fun i hi => ((jkp i eσ96 (imp_266 i hi)).trans (f90 i hi))), I99, I100, p101, (by omega), trivial⟩ hP hS dX12_fielded_145
                · have kc95 := jnle c95 jz_4 rfl
                  refine lv_aload_n hx hb dX12_fielded_65 rfl (lv_at hl 5 rfl) ?_
                  refine lv_iload hx hb dX12_fielded_66 (lv_at hl 0 rfl) ?_
                  refine jput (ty := .int) hx hb hts inlX12 tyX12 tyX12_ok nmX12 hown hK hP hJ hA hS (jc_55 cI cL ad σ84 τ) rfl (k := 9) (of_decide_eq_true rfl) (Nat.le_of_ble_eq_true rfl) (jp_55_9 cI cL ad σ84 τ x82) (hts _ kw_12_14) (fun _ h9 => h9) rfl (by decide +kernel) rfl rfl dX12_fielded_68 (fun σ102 H locs eσ102 hP hS => ?_)
                  refine lv_iload_n hx hb dX12_fielded_71 rfl (lv_at hl 7 rfl) ?_
                  exact by
                   refine lv_if_ne (tgt := 87) hx hb dX12_fielded_72 (of_decide_eq_true rfl) (fun c => absurd (jne c t2 jz_0) (by omega)) (fun c103 => ?_)
                   have kc103 := jeq c103 t2 jz_0
                   refine lv_iload hx hb dX12_fielded_75 (lv_at hl 0 rfl) ?_
                   refine lv_iload_n hx hb dX12_fielded_77 rfl (lv_at hl 6 rfl) ?_
                   refine lv_icmp_eq (tgt := 87) hx hb dX12_fielded_78 (of_decide_eq_true rfl) (fun c104 => ?_) (fun c104 => ?_)
                   · have kc104 := jeq c104 rfl t1
                     refine lv_aload_n hx hb dX12_fielded_87 rfl (lv_at hl 5 rfl) ?_
                     have I105 : jI101 σ102 := jI101_fr ((jkp 4 eσ102 (of_decide_eq_true rfl)).trans (f90 4 (of_decide_eq_true rfl))) ((jkp 5 eσ102 (of_decide_eq_true rfl)).trans (f90 5 (of_decide_eq_true rfl))) ((jnp 56 eσ102 (of_decide_eq_true rfl)).trans (f89 56 (of_decide_eq_true rfl))) ((jnp 57 eσ102 (of_decide_eq_true rfl)).trans (f89 57 (of_decide_eq_true rfl))) ((jnp 58 eσ102 (of_decide_eq_true rfl)).trans (f89 58 (of_decide_eq_true rfl))) ((jnp 59 eσ102 (of_decide_eq_true rfl)).trans (f89 59 (of_decide_eq_true rfl))) hI101
                     have I106 : jI102 σ102 := jI102_fr ((jkp 6 eσ102 (of_decide_eq_true rfl)).trans (f90 6 (of_decide_eq_true rfl))) ((jnp 60 eσ102 (of_decide_eq_true rfl)).trans (f89 60 (of_decide_eq_true rfl))) ((jnp 61 eσ102 (of_decide_eq_true rfl)).trans (f89 61 (of_decide_eq_true rfl))) hI102
                     have z107 : (σ102 55 9).toInt = x82.toInt := (congrArg Int32.toInt (show σ102 55 9 = x82 from (jsp eσ102)))
                     have I108 : jI103 σ102 := (show 0 ≤ (σ102 55 9).toInt ∧ (σ102 55 9).toInt ≤ 3 by omega)
                     have I109 : jI104 σ102 := jI104_fr ((jkp 10 eσ102 (of_decide_eq_true rfl)).trans (f90 10 (of_decide_eq_true rfl))) ((jkp 12 eσ102 (of_decide_eq_true rfl)).trans (f90 12 (of_decide_eq_true rfl))) ((jkp 13 eσ102 (of_decide_eq_true rfl)).trans (f90 13 (of_decide_eq_true rfl))) ((jnp 62 eσ102 (of_decide_eq_true rfl)).trans (f89 62 (of_decide_eq_true rfl))) ((jnp 67 eσ102 (of_decide_eq_true rfl)).trans (f89 67 (of_decide_eq_true rfl))) hI104
                     have I110 : jI105 σ102 := jI105_fr ((jkp 15 eσ102 (of_decide_eq_true rfl)).trans (f90 15 (of_decide_eq_true rfl))) ((jnp 65 eσ102 (of_decide_eq_true rfl)).trans (f89 65 (of_decide_eq_true rfl))) hI105
                     have I111 : jI106 σ102 := jI106_fr ((jkp 32 eσ102 (of_decide_eq_true rfl)).trans (f90 32 (of_decide_eq_true rfl))) ((jnp 70 eσ102 (of_decide_eq_true rfl)).trans (f89 70 (of_decide_eq_true rfl))) ((jnp 71 eσ102 (of_decide_eq_true rfl)).trans (f89 71 (of_decide_eq_true rfl))) ((jnp 72 eσ102 (of_decide_eq_true rfl)).trans (f89 72 (of_decide_eq_true rfl))) hI106
                     have I112 : jI119 σ102 := jI119_fr (jnp 68 eσ102 (of_decide_eq_true rfl)) p93
                     have p113 : jKept σ102 := jKept.fr (jnp 75 eσ102 (of_decide_eq_true rfl)) (jnp 76 eσ102 (of_decide_eq_true rfl)) (jnp 77 eσ102 (of_decide_eq_true rfl)) p91
                     have z114 : (σ102 55 12).toInt = (σ 55 12).toInt := (congrArg Int32.toInt (show σ102 55 12 = (σ 55 12) from ((jkp 12 eσ102 (of_decide_eq_true rfl)).trans (f90 12 (of_decide_eq_true rfl)))))
                     exact by
                      refine jcallV (As := []) (rest := []) ⟨hx, hb, hml, hown, hts⟩ hK hP hA hS hZ (c_X12_bestNow l D cI cL ad zz hJ σ102 τ I105 I106 I108 I109 I110 I111 I112 p113 (by omega)) cw_RX12_346 (jc_55 cI cL ad σ102 τ) rfl ⟨Nat.le_of_ble_eq_true rfl, Nat.le_of_ble_eq_true rfl⟩ rfl rfl rfl hl.1 rfl (Nat.le_of_ble_eq_true rfl) dX12_fielded_88 ⟨Nat.zero_le _, Nat.zero_le _⟩ (fun r116 σ115 τ115 H locs h115 hP hS => ?_)
                      obtain ⟨rfl, f117, f118, I119, p120, h115⟩ := h115
                      refine lv_istore (lv' := [(8, .int r116), (7, .int x82), (6, .int x81), (5, .int x80), (4, .int x79), (3, .int (σ 55 9)), (0, .ref (ad 55)), (1, .int a1), (2, .int a2)]) hx hb dX12_fielded_91 hl (of_decide_eq_true rfl) rfl (fun ls hl => ?_)
                      refine lv_iload hx hb dX12_fielded_93 (lv_at hl 1 rfl) ?_
                      refine lv_iload_n hx hb dX12_fielded_95 rfl (lv_at hl 7 rfl) ?_
                      refine lv_icmp_ne (tgt := 104) hx hb dX12_fielded_96 (of_decide_eq_true rfl) (fun c122 => ?_) (fun c122 => ?_)
                      · have kc122 := jne c122 rfl t1
                        refine lv_iload hx hb dX12_fielded_104 (lv_at hl 2 rfl) ?_
                        refine lv_istore (lv' := [(6, .int x81), (8, .int r116), (7, .int x82), (5, .int x80), (4, .int x79), (3, .int (σ 55 9)), (0, .ref (ad 55)), (1, .int a1), (2, .int a2)]) hx hb dX12_fielded_106 hl (of_decide_eq_true rfl) rfl (fun ls hl => ?_)
                        refine lv_iload hx hb dX12_fielded_108 (lv_at hl 1 rfl) ?_
                        refine lv_iload hx hb dX12_fielded_110 (lv_at hl 3 rfl) ?_
                        refine lv_icmp_ge (tgt := 123) hx hb dX12_fielded_112 (of_decide_eq_true rfl) (fun c123 => ?_) (fun c123 => ?_)
                        · have kc123 := jle c123 rfl rfl
                          obtain ⟨x124, ex124⟩ : ∃ y : Int32, y = x82 + 1 := ⟨_, rfl⟩
                          exact by
                           have tx124 : x124.toInt = x82.toInt + 1 := (jadd ex124 rfl jz_1 (by omega) (by omega)).trans (by omega)
                           refine lv_iinc (v := x124) (lv' := [(7, .int x124), (6, .int x81), (8, .int r116), (5, .int x80), (4, .int x79), (3, .int (σ 55 9)), (0, .ref (ad 55)), (1, .int a1), (2, .int a2)]) hx hb dX12_fielded_123 hl (k := 2) rfl (by rw [ex124]; rfl) (of_decide_eq_true rfl) rfl (fun ls hl => ?_)
                           refine lv_goto (tgt := 59) hx hb dX12_fielded_126 (of_decide_eq_true rfl) ?_
                           have I125 : jI103 σ115 := jI103_fr (f118 9 (of_decide_eq_true rfl)) I108
                           exact by exact ihlp77 x79 x80 x81 x124 σ115 _ _ ls (by have h93 := tx124; omega) (by have h93 := tx124; omega) (by have h93 := tx124; omega) (fun i hi => ((f117 i hi).trans ((jnp i eσ102 (imp_262 i hi)).trans (f89 i hi)))) (fun i hi => ((f118 i (imp_267 i hi)).trans ((jkp i eσ102 (imp_266 i hi)).trans (f90 i hi))))  p120 I125 I119 hP hS (lv_sub hl [0, 1, 3, 4, 5, 6, 7, 8] rfl)
                        · have kc123 := jnle c123 rfl rfl
                          refine lv_iload hx hb dX12_fielded_115 (lv_at hl 2 rfl) ?_
                          refine lv_istore (lv' := [(4, .int x82), (6, .int x81), (8, .int r116), (7, .int x82), (5, .int x80), (3, .int (σ 55 9)), (0, .ref (ad 55)), (1, .int a1), (2, .int a2)]) hx hb dX12_fielded_117 hl (of_decide_eq_true rfl) rfl (fun ls hl => ?_)
                          refine lv_iload hx hb dX12_fielded_119 (lv_at hl 2 rfl) ?_
                          exact by
                           refine lv_istore (lv' := [(5, .int r116), (4, .int x82), (6, .int x81), (8, .int r116), (7, .int x82), (3, .int (σ 55 9)), (0, .ref (ad 55)), (1, .int a1), (2, .int a2)]) hx hb dX12_fielded_121 hl (of_decide_eq_true rfl) rfl (fun ls hl => ?_)
                           obtain ⟨x126, ex126⟩ : ∃ y : Int32, y = x82 + 1 := ⟨_, rfl⟩
                           have tx126 : x126.toInt = x82.toInt + 1 := (jadd ex126 rfl jz_1 (by omega) (by omega)).trans (by omega)
                           refine lv_iinc (v := x126) (lv' := [(7, .int x126), (5, .int r116), (4, .int x82), (6, .int x81), (8, .int r116), (3, .int (σ 55 9)), (0, .ref (ad 55)), (1, .int a1), (2, .int a2)]) hx hb dX12_fielded_123 hl (k := 4) rfl (by rw [ex126]; rfl) (of_decide_eq_true rfl) rfl (fun ls hl => ?_)
                           refine lv_goto (tgt := 59) hx hb dX12_fielded_126 (of_decide_eq_true rfl) ?_
                           have I127 : jI103 σ115 := jI103_fr (f118 9 (of_decide_eq_true rfl)) I108
                           exact by exact ihlp77 x82 r116 x81 x126 σ115 _ _ ls (by have h93 := tx126; omega) (by have h93 := tx126; omega) (by have h93 := tx126; omega) (fun i hi => ((f117 i hi).trans ((jnp i eσ102 (imp_262 i hi)).trans (f89 i hi)))) (fun i hi => ((f118 i (imp_267 i hi)).trans ((jkp i eσ102 (imp_266 i hi)).trans (f90 i hi))))  p120 I127 I119 hP hS (lv_sub hl [0, 3, 1, 2, 5, 6, 7, 8] rfl)
                      · have kc122 := jeq c122 rfl t1
                        refine lv_iload hx hb dX12_fielded_99 (lv_at hl 0 rfl) ?_
                        exact by
                         refine lv_goto (tgt := 106) hx hb dX12_fielded_101 (of_decide_eq_true rfl) ?_
                         refine lv_istore (lv' := [(6, .int r116), (8, .int r116), (7, .int x82), (5, .int x80), (4, .int x79), (3, .int (σ 55 9)), (0, .ref (ad 55)), (1, .int a1), (2, .int a2)]) hx hb dX12_fielded_106 hl (of_decide_eq_true rfl) rfl (fun ls hl => ?_)
                         refine lv_iload hx hb dX12_fielded_108 (lv_at hl 1 rfl) ?_
                         refine lv_iload hx hb dX12_fielded_110 (lv_at hl 3 rfl) ?_
                         refine lv_icmp_ge (tgt := 123) hx hb dX12_fielded_112 (of_decide_eq_true rfl) (fun c128 => ?_) (fun c128 => ?_)
                         · have kc128 := jle c128 rfl rfl
                           obtain ⟨x129, ex129⟩ : ∃ y : Int32, y = x82 + 1 := ⟨_, rfl⟩
                           have tx129 : x129.toInt = x82.toInt + 1 := (jadd ex129 rfl jz_1 (by omega) (by omega)).trans (by omega)
                           refine lv_iinc (v := x129) (lv' := [(7, .int x129), (6, .int r116), (8, .int r116), (5, .int x80), (4, .int x79), (3, .int (σ 55 9)), (0, .ref (ad 55)), (1, .int a1), (2, .int a2)]) hx hb dX12_fielded_123 hl (k := 2) rfl (by rw [ex129]; rfl) (of_decide_eq_true rfl) rfl (fun ls hl => ?_)
                           exact by
                            refine lv_goto (tgt := 59) hx hb dX12_fielded_126 (of_decide_eq_true rfl) ?_
                            have I130 : jI103 σ115 := jI103_fr (f118 9 (of_decide_eq_true rfl)) I108
                            exact by exact ihlp77 x79 x80 r116 x129 σ115 _ _ ls (by have h93 := tx129; omega) (by have h93 := tx129; omega) (by have h93 := tx129; omega) (fun i hi => ((f117 i hi).trans ((jnp i eσ102 (imp_262 i hi)).trans (f89 i hi)))) (fun i hi => ((f118 i (imp_267 i hi)).trans ((jkp i eσ102 (imp_266 i hi)).trans (f90 i hi))))  p120 I130 I119 hP hS (lv_sub hl [0, 1, 3, 4, 5, 6, 7, 8] rfl)
                         · have kc128 := jnle c128 rfl rfl
                           refine lv_iload hx hb dX12_fielded_115 (lv_at hl 2 rfl) ?_
                           refine lv_istore (lv' := [(4, .int x82), (6, .int r116), (8, .int r116), (7, .int x82), (5, .int x80), (3, .int (σ 55 9)), (0, .ref (ad 55)), (1, .int a1), (2, .int a2)]) hx hb dX12_fielded_117 hl (of_decide_eq_true rfl) rfl (fun ls hl => ?_)
                           refine lv_iload hx hb dX12_fielded_119 (lv_at hl 2 rfl) ?_
                           refine lv_istore (lv' := [(5, .int r116), (4, .int x82), (6, .int r116), (8, .int r116), (7, .int x82), (3, .int (σ 55 9)), (0, .ref (ad 55)), (1, .int a1), (2, .int a2)]) hx hb dX12_fielded_121 hl (of_decide_eq_true rfl) rfl (fun ls hl => ?_)
                           obtain ⟨x131, ex131⟩ : ∃ y : Int32, y = x82 + 1 := ⟨_, rfl⟩
                           exact by
                            have tx131 : x131.toInt = x82.toInt + 1 := (jadd ex131 rfl jz_1 (by omega) (by omega)).trans (by omega)
                            refine lv_iinc (v := x131) (lv' := [(7, .int x131), (5, .int r116), (4, .int x82), (6, .int r116), (8, .int r116), (3, .int (σ 55 9)), (0, .ref (ad 55)), (1, .int a1), (2, .int a2)]) hx hb dX12_fielded_123 hl (k := 4) rfl (by rw [ex131]; rfl) (of_decide_eq_true rfl) rfl (fun ls hl => ?_)
                            refine lv_goto (tgt := 59) hx hb dX12_fielded_126 (of_decide_eq_true rfl) ?_
                            have I132 : jI103 σ115 := jI103_fr (f118 9 (of_decide_eq_true rfl)) I108
                            exact by exact ihlp77 x82 r116 r116 x131 σ115 _ _ ls (by have h93 := tx131; omega) (by have h93 := tx131; omega) (by have h93 := tx131; omega) (fun i hi => ((f117 i hi).trans ((jnp i eσ102 (imp_262 i hi)).trans (f89 i hi)))) (fun i hi => ((f118 i (imp_267 i hi)).trans ((jkp i eσ102 (imp_266 i hi)).trans (f90 i hi))))  p120 I132 I119 hP hS (lv_sub hl [0, 3, 1, 2, 5, 6, 7, 8] rfl)
                   · have kc104 := jne c104 rfl t1
                     refine lv_ldcw (v := 2000000000) hx hb hown (hts _ kw_34_4) dX12_fielded_81 ?_
                     refine lv_goto (tgt := 91) hx hb dX12_fielded_84 (of_decide_eq_true rfl) ?_
                     refine lv_istore (lv' := [(8, .int 2000000000), (7, .int x82), (6, .int x81), (5, .int x80), (4, .int x79), (3, .int (σ 55 9)), (0, .ref (ad 55)), (1, .int a1), (2, .int a2)]) hx hb dX12_fielded_91 hl (of_decide_eq_true rfl) rfl (fun ls hl => ?_)
                     exact by
                      refine lv_iload hx hb dX12_fielded_93 (lv_at hl 1 rfl) ?_
                      refine lv_iload_n hx hb dX12_fielded_95 rfl (lv_at hl 7 rfl) ?_
                      refine lv_icmp_ne (tgt := 104) hx hb dX12_fielded_96 (of_decide_eq_true rfl) (fun c133 => ?_) (fun c133 => ?_)
                      · have kc133 := jne c133 rfl t1
                        refine lv_iload hx hb dX12_fielded_104 (lv_at hl 2 rfl) ?_
                        refine lv_istore (lv' := [(6, .int x81), (8, .int 2000000000), (7, .int x82), (5, .int x80), (4, .int x79), (3, .int (σ 55 9)), (0, .ref (ad 55)), (1, .int a1), (2, .int a2)]) hx hb dX12_fielded_106 hl (of_decide_eq_true rfl) rfl (fun ls hl => ?_)
                        refine lv_iload hx hb dX12_fielded_108 (lv_at hl 1 rfl) ?_
                        refine lv_iload hx hb dX12_fielded_110 (lv_at hl 3 rfl) ?_
                        refine lv_icmp_ge (tgt := 123) hx hb dX12_fielded_112 (of_decide_eq_true rfl) (fun c134 => ?_) (fun c134 => ?_)
                        · have kc134 := jle c134 rfl jz_2000000000
                          obtain ⟨x135, ex135⟩ : ∃ y : Int32, y = x82 + 1 := ⟨_, rfl⟩
                          exact by
                           have tx135 : x135.toInt = x82.toInt + 1 := (jadd ex135 rfl jz_1 (by omega) (by omega)).trans (by omega)
                           refine lv_iinc (v := x135) (lv' := [(7, .int x135), (6, .int x81), (8, .int 2000000000), (5, .int x80), (4, .int x79), (3, .int (σ 55 9)), (0, .ref (ad 55)), (1, .int a1), (2, .int a2)]) hx hb dX12_fielded_123 hl (k := 2) rfl (by rw [ex135]; rfl) (of_decide_eq_true rfl) rfl (fun ls hl => ?_)
                           refine lv_goto (tgt := 59) hx hb dX12_fielded_126 (of_decide_eq_true rfl) ?_
                           have p136 : jKept σ102 := jKept.fr (jnp 75 eσ102 (of_decide_eq_true rfl)) (jnp 76 eσ102 (of_decide_eq_true rfl)) (jnp 77 eσ102 (of_decide_eq_true rfl)) p91
                           have z137 : (σ102 55 9).toInt = x82.toInt := (congrArg Int32.toInt (show σ102 55 9 = x82 from (jsp eσ102)))
                           have I138 : jI103 σ102 := (show 0 ≤ (σ102 55 9).toInt ∧ (σ102 55 9).toInt ≤ 3 by omega)
                           have I139 : jI119 σ102 := jI119_fr (jnp 68 eσ102 (of_decide_eq_true rfl)) p93
                           exact by exact ihlp77 x79 x80 x81 x135 σ102 _ _ ls (by have h93 := tx135; omega) (by have h93 := tx135; omega) (by have h93 := tx135; omega) (fun i hi => ((jnp i eσ102 (imp_262 i hi)).trans (f89 i hi))) (fun i hi => ((jkp i eσ102 (imp_266 i hi)).trans (f90 i hi)))  p136 I138 I139 hP hS (lv_sub hl [0, 1, 3, 4, 5, 6, 7, 8] rfl)
                        · have kc134 := jnle c134 rfl jz_2000000000
                          exact by
                           refine lv_iload hx hb dX12_fielded_115 (lv_at hl 2 rfl) ?_
                           refine lv_istore (lv' := [(4, .int x82), (6, .int x81), (8, .int 2000000000), (7, .int x82), (5, .int x80), (3, .int (σ 55 9)), (0, .ref (ad 55)), (1, .int a1), (2, .int a2)]) hx hb dX12_fielded_117 hl (of_decide_eq_true rfl) rfl (fun ls hl => ?_)
                           refine lv_iload hx hb dX12_fielded_119 (lv_at hl 2 rfl) ?_
                           refine lv_istore (lv' := [(5, .int 2000000000), (4, .int x82), (6, .int x81), (8, .int 2000000000), (7, .int x82), (3, .int (σ 55 9)), (0, .ref (ad 55)), (1, .int a1), (2, .int a2)]) hx hb dX12_fielded_121 hl (of_decide_eq_true rfl) rfl (fun ls hl => ?_)
                           obtain ⟨x140, ex140⟩ : ∃ y : Int32, y = x82 + 1 := ⟨_, rfl⟩
                           have tx140 : x140.toInt = x82.toInt + 1 := (jadd ex140 rfl jz_1 (by omega) (by omega)).trans (by omega)
                           refine lv_iinc (v := x140) (lv' := [(7, .int x140), (5, .int 2000000000), (4, .int x82), (6, .int x81), (8, .int 2000000000), (3, .int (σ 55 9)), (0, .ref (ad 55)), (1, .int a1), (2, .int a2)]) hx hb dX12_fielded_123 hl (k := 4) rfl (by rw [ex140]; rfl) (of_decide_eq_true rfl) rfl (fun ls hl => ?_)
                           refine lv_goto (tgt := 59) hx hb dX12_fielded_126 (of_decide_eq_true rfl) ?_
                           have p141 : jKept σ102 := jKept.fr (jnp 75 eσ102 (of_decide_eq_true rfl)) (jnp 76 eσ102 (of_decide_eq_true rfl)) (jnp 77 eσ102 (of_decide_eq_true rfl)) p91
                           exact by
                            have z142 : (σ102 55 9).toInt = x82.toInt := (congrArg Int32.toInt (show σ102 55 9 = x82 from (jsp eσ102)))
                            have I143 : jI103 σ102 := (show 0 ≤ (σ102 55 9).toInt ∧ (σ102 55 9).toInt ≤ 3 by omega)
                            have I144 : jI119 σ102 := jI119_fr (jnp 68 eσ102 (of_decide_eq_true rfl)) p93
                            exact by exact ihlp77 x82 2000000000 x81 x140 σ102 _ _ ls (by have h91 := jz_2000000000; have h93 := tx140; omega) (by have h91 := jz_2000000000; have h93 := tx140; omega) (by have h91 := jz_2000000000; have h93 := tx140; omega) (fun i hi => ((jnp i eσ102 (imp_262 i hi)).trans (f89 i hi))) (fun i hi => ((jkp i eσ102 (imp_266 i hi)).trans (f90 i hi)))  p141 I143 I144 hP hS (lv_sub hl [0, 3, 1, 2, 5, 6, 7, 8] rfl)
                      · have kc133 := jeq c133 rfl t1
                        refine lv_iload hx hb dX12_fielded_99 (lv_at hl 0 rfl) ?_
                        refine lv_goto (tgt := 106) hx hb dX12_fielded_101 (of_decide_eq_true rfl) ?_
                        refine lv_istore (lv' := [(6, .int 2000000000), (8, .int 2000000000), (7, .int x82), (5, .int x80), (4, .int x79), (3, .int (σ 55 9)), (0, .ref (ad 55)), (1, .int a1), (2, .int a2)]) hx hb dX12_fielded_106 hl (of_decide_eq_true rfl) rfl (fun ls hl => ?_)
                        refine lv_iload hx hb dX12_fielded_108 (lv_at hl 1 rfl) ?_
                        refine lv_iload hx hb dX12_fielded_110 (lv_at hl 3 rfl) ?_
                        refine lv_icmp_ge (tgt := 123) hx hb dX12_fielded_112 (of_decide_eq_true rfl) (fun c145 => ?_) (fun c145 => ?_)
                        · have kc145 := jle c145 rfl jz_2000000000
                          obtain ⟨x146, ex146⟩ : ∃ y : Int32, y = x82 + 1 := ⟨_, rfl⟩
                          exact by
                           have tx146 : x146.toInt = x82.toInt + 1 := (jadd ex146 rfl jz_1 (by omega) (by omega)).trans (by omega)
                           refine lv_iinc (v := x146) (lv' := [(7, .int x146), (6, .int 2000000000), (8, .int 2000000000), (5, .int x80), (4, .int x79), (3, .int (σ 55 9)), (0, .ref (ad 55)), (1, .int a1), (2, .int a2)]) hx hb dX12_fielded_123 hl (k := 2) rfl (by rw [ex146]; rfl) (of_decide_eq_true rfl) rfl (fun ls hl => ?_)
                           refine lv_goto (tgt := 59) hx hb dX12_fielded_126 (of_decide_eq_true rfl) ?_
                           have p147 : jKept σ102 := jKept.fr (jnp 75 eσ102 (of_decide_eq_true rfl)) (jnp 76 eσ102 (of_decide_eq_true rfl)) (jnp 77 eσ102 (of_decide_eq_true rfl)) p91
                           have z148 : (σ102 55 9).toInt = x82.toInt := (congrArg Int32.toInt (show σ102 55 9 = x82 from (jsp eσ102)))
                           have I149 : jI103 σ102 := (show 0 ≤ (σ102 55 9).toInt ∧ (σ102 55 9).toInt ≤ 3 by omega)
                           have I150 : jI119 σ102 := jI119_fr (jnp 68 eσ102 (of_decide_eq_true rfl)) p93
                           exact by exact ihlp77 x79 x80 2000000000 x146 σ102 _ _ ls (by have h92 := jz_2000000000; have h93 := tx146; omega) (by have h92 := jz_2000000000; have h93 := tx146; omega) (by have h92 := jz_2000000000; have h93 := tx146; omega) (fun i hi => ((jnp i eσ102 (imp_262 i hi)).trans (f89 i hi))) (fun i hi => ((jkp i eσ102 (imp_266 i hi)).trans (f90 i hi)))  p147 I149 I150 hP hS (lv_sub hl [0, 1, 3, 4, 5, 6, 7, 8] rfl)
                        · have kc145 := jnle c145 rfl jz_2000000000
                          exact by
                           refine lv_iload hx hb dX12_fielded_115 (lv_at hl 2 rfl) ?_
                           refine lv_istore (lv' := [(4, .int x82), (6, .int 2000000000), (8, .int 2000000000), (7, .int x82), (5, .int x80), (3, .int (σ 55 9)), (0, .ref (ad 55)), (1, .int a1), (2, .int a2)]) hx hb dX12_fielded_117 hl (of_decide_eq_true rfl) rfl (fun ls hl => ?_)
                           refine lv_iload hx hb dX12_fielded_119 (lv_at hl 2 rfl) ?_
                           refine lv_istore (lv' := [(5, .int 2000000000), (4, .int x82), (6, .int 2000000000), (8, .int 2000000000), (7, .int x82), (3, .int (σ 55 9)), (0, .ref (ad 55)), (1, .int a1), (2, .int a2)]) hx hb dX12_fielded_121 hl (of_decide_eq_true rfl) rfl (fun ls hl => ?_)
                           obtain ⟨x151, ex151⟩ : ∃ y : Int32, y = x82 + 1 := ⟨_, rfl⟩
                           have tx151 : x151.toInt = x82.toInt + 1 := (jadd ex151 rfl jz_1 (by omega) (by omega)).trans (by omega)
                           refine lv_iinc (v := x151) (lv' := [(7, .int x151), (5, .int 2000000000), (4, .int x82), (6, .int 2000000000), (8, .int 2000000000), (3, .int (σ 55 9)), (0, .ref (ad 55)), (1, .int a1), (2, .int a2)]) hx hb dX12_fielded_123 hl (k := 4) rfl (by rw [ex151]; rfl) (of_decide_eq_true rfl) rfl (fun ls hl => ?_)
                           refine lv_goto (tgt := 59) hx hb dX12_fielded_126 (of_decide_eq_true rfl) ?_
                           have p152 : jKept σ102 := jKept.fr (jnp 75 eσ102 (of_decide_eq_true rfl)) (jnp 76 eσ102 (of_decide_eq_true rfl)) (jnp 77 eσ102 (of_decide_eq_true rfl)) p91
                           exact by
                            have z153 : (σ102 55 9).toInt = x82.toInt := (congrArg Int32.toInt (show σ102 55 9 = x82 from (jsp eσ102)))
                            have I154 : jI103 σ102 := (show 0 ≤ (σ102 55 9).toInt ∧ (σ102 55 9).toInt ≤ 3 by omega)
                            have I155 : jI119 σ102 := jI119_fr (jnp 68 eσ102 (of_decide_eq_true rfl)) p93
                            exact by exact ihlp77 x82 2000000000 2000000000 x151 σ102 _ _ ls (by have h91 := jz_2000000000; have h92 := jz_2000000000; have h93 := tx151; omega) (by have h91 := jz_2000000000; have h92 := jz_2000000000; have h93 := tx151; omega) (by have h91 := jz_2000000000; have h92 := jz_2000000000; have h93 := tx151; omega) (fun i hi => ((jnp i eσ102 (imp_262 i hi)).trans (f89 i hi))) (fun i hi => ((jkp i eσ102 (imp_266 i hi)).trans (f90 i hi)))  p152 I154 I155 hP hS (lv_sub hl [0, 3, 1, 2, 5, 6, 7, 8] rfl)
           exact by exact lp77 1000000 0 2000000000 0 0 σ _ _ ls (by have h90 := jz_0; have h91 := jz_2000000000; have h92 := jz_0; have h93 := jz_0; omega) (by have h90 := jz_0; have h91 := jz_2000000000; have h92 := jz_0; have h93 := jz_0; omega) (by have h90 := jz_0; have h91 := jz_2000000000; have h92 := jz_0; have h93 := jz_0; omega) (fun _ _ => rfl) (fun _ _ => rfl)  hs_jKept hI103 hI119 hP hS hl
         · have kc76 := jnle c76 rfl jz_8
           refine lv_bipush (v := (-4)) hx hb dX12_fielded_37 (of_decide_eq_true rfl) ?_
           exact hret (-4) σ τ _ _ _ _ rfl ⟨rfl, (fun _ _ => rfl), (fun _ _ => rfl), hI103, hI119, hs_jKept, (by omega), trivial⟩ hP hS dX12_fielded_39
       · obtain ⟨q157, k156⟩ := h73
         have q157 := q157.symm
         subst q157
         refine lv_if_ne (tgt := 28) hx hb dX12_fielded_23 (of_decide_eq_true rfl) (fun c => absurd (of_decide_eq_true rfl) c) (fun _ => ?_)
         refine lv_iconst (v := (-1)) hx hb dX12_fielded_26 (of_decide_eq_true rfl) ?_
         exact hret (-1) σ τ _ _ _ _ rfl ⟨rfl, (fun _ _ => rfl), (fun _ _ => rfl), hI103, hI119, hs_jKept, (by omega), trivial⟩ hP hS dX12_fielded_27
  · obtain ⟨q159, k158⟩ := h10
    have q159 := q159.symm
    subst q159
    refine lv_if_eq (tgt := 26) hx hb dX12_fielded_7 (of_decide_eq_true rfl) (fun _ => ?_) (fun c => absurd (of_decide_eq_true rfl) c)
    refine lv_iconst (v := (-1)) hx hb dX12_fielded_26 (of_decide_eq_true rfl) ?_
    exact hret (-1) σ τ _ _ _ _ rfl ⟨rfl, (fun _ _ => rfl), (fun _ _ => rfl), hI103, hI119, hs_jKept, (by omega), trivial⟩ hP hS dX12_fielded_27
