set_option maxHeartbeats 4000000 in
set_option maxRecDepth 100000 in
theorem c_X12_puts (l : Launch) (D : va_G) (cI cL : ClassId) (ad zz : Nat → Nat) (hJ : jD ad) (σ : Nat → Nat → Int32) (τ : Nat → Nat → Int64) (a1 : Int32) (A1 : Int) (t1 : a1.toInt = A1) (hI101 : jI101 σ) (hI102 : jI102 σ) (hI103 : jI103 σ) (hI104 : jI104 σ) (hI105 : jI105 σ) (hI106 : jI106 σ) (hI107 : jI107 σ) (hI119 : jI119 σ) (hs_jKept : jKept σ) (hs_jBook : jBook σ) (hs_jTR : jTR σ) : jM l yX12_puts cX12_puts 2 (some .int) ({ frames := 104, cells := 0, slots := 0, locals := 5087 }) D cI cL ad zz [.ref (ad 55), .int a1] σ τ (fun r σ' τ' => τ = τ' ∧ (∀ i : Nat, (i < 55 ∨ 55 < i) ∧ (i < 66 ∨ 66 < i) ∧ (i < 68 ∨ 69 < i) ∧ (i < 74 ∨ 78 < i) → σ' i = σ i) ∧ (∀ k : Nat, (k < 18 ∨ 18 < k) ∧ (k < 19 ∨ 19 < k) ∧ (k < 20 ∨ 20 < k) ∧ (k < 21 ∨ 21 < k) ∧ (k < 22 ∨ 22 < k) ∧ (k < 25 ∨ 25 < k) ∧ (k < 26 ∨ 26 < k) ∧ (k < 27 ∨ 27 < k) ∧ (k < 37 ∨ 37 < k) ∧ (k < 42 ∨ 42 < k) → σ' 55 k = σ 55 k) ∧ (jI119 σ') ∧ (jKept σ') ∧ (jBook σ') ∧ (jTR σ') ∧ True) := by
  refine jM.of hJ (by decide +kernel) (nt := .int) rfl (Nat.le_of_ble_eq_true rfl) ?_
  intro p e s m args below meth c Q ls hC hret hl hP
  obtain ⟨hx, hb, hr, hml, hown, hts, hK, -, hlocks, hZ⟩ := hC
  have hown : s.vm.findClass RX12 = some m.cls := hown
  have hS : va_S (jA ad) s.heap s.heap [] := va_S.rf
  have hA : ∀ q, jA ad q → jA ad q := fun _ h => h
  have hl : lv_has ls 2 [(0, .ref (ad 55)), (1, .int a1)] := hl
  have g1 := jrg t1
  obtain ⟨i1, w2, w3⟩ : (0 ≤ (σ 55 6).toInt ∧ (σ 55 6).toInt ≤ 4) ∧ (∀ k : Nat, k < 4 → 0 ≤ (σ 60 k).toInt ∧ (σ 60 k).toInt ≤ 50) ∧ (∀ k : Nat, k < 4 → 0 ≤ (σ 61 k).toInt ∧ (σ 61 k).toInt ≤ 20) := id hI102
  obtain ⟨i4, i5, i6, w7, w8⟩ : (1 ≤ (σ 55 10).toInt ∧ (σ 55 10).toInt ≤ 8) ∧ (1 ≤ (σ 55 12).toInt ∧ (σ 55 12).toInt ≤ 12) ∧ (0 ≤ (σ 55 13).toInt ∧ (σ 55 13).toInt ≤ 999) ∧ (∀ k : Nat, k < 8 → 0 ≤ (σ 62 k).toInt ∧ (σ 62 k).toInt ≤ 3) ∧ (∀ k : Nat, k < 8 → 0 ≤ (σ 67 k).toInt ∧ (σ 67 k).toInt ≤ 3) := id hI104
  obtain ⟨i9, w10, w11, w12⟩ : (0 ≤ (σ 55 32).toInt ∧ (σ 55 32).toInt ≤ 20) ∧ (∀ k : Nat, k < 20 → 0 ≤ (σ 70 k).toInt ∧ (σ 70 k).toInt ≤ 6) ∧ (∀ k : Nat, k < 20 → 0 ≤ (σ 71 k).toInt ∧ (σ 71 k).toInt ≤ 8) ∧ (∀ k : Nat, k < 160 → 0 ≤ (σ 72 k).toInt ∧ (σ 72 k).toInt ≤ 3) := id hI106
  obtain ⟨i13, i14, w15⟩ : (0 ≤ (σ 55 47).toInt ∧ (σ 55 47).toInt ≤ 12) ∧ ((σ 55 47).toInt ≤ (σ 55 12).toInt) ∧ (∀ k : Nat, k < 12 → 0 ≤ (σ 80 k).toInt ∧ (σ 80 k).toInt ≤ 3) := id hI107
  refine lv_aload_n hx hb dX12_puts_0 rfl (lv_at hl 0 rfl) ?_
  refine lv_iload_n hx hb dX12_puts_1 rfl (lv_at hl 1 rfl) ?_
  refine jcallV (As := [.int a1]) (rest := []) ⟨hx, hb, hml, hown, hts⟩ hK hP hA hS hZ (c_X12_isRule l D cI cL ad zz hJ σ τ a1 (A1) t1 hI106) cw_RX12_331 (jc_55 cI cL ad σ τ) rfl ⟨Nat.le_of_ble_eq_true rfl, Nat.le_of_ble_eq_true rfl⟩ rfl rfl rfl hl.1 rfl (Nat.le_of_ble_eq_true rfl) dX12_puts_2 ⟨Nat.zero_le _, Nat.zero_le _⟩ (fun r17 σ16 τ16 H locs h16 hP hS => ?_)
  obtain ⟨⟨rfl, rfl⟩, h16⟩ := h16
  rcases h16 with h18 | h19
  · obtain ⟨q21, k20⟩ := h18
    have q21 := q21.symm
    subst q21
    refine lv_if_ne (tgt := 10) hx hb dX12_puts_5 (by decide) (fun _ => ?_) (fun c => absurd c (by decide))
    refine lv_aload_n hx hb dX12_puts_10 rfl (lv_at hl 0 rfl) ?_
    refine lv_aload_n hx hb dX12_puts_11 rfl (lv_at hl 0 rfl) ?_
    refine va_get (D := D) hx hb hts inlX12 hown hK hP 55 (jc_55 cI cL ad σ τ) rfl 47 (by decide) (hts _ kw_15_15) (fun _ h9 => h9) rfl dX12_puts_12 ?_
    have w22 : ∀ k : Nat, k < 4 → 0 ≤ (σ 68 k).toInt ∧ (σ 68 k).toInt ≤ 3 := hI119
    refine jcallVv (As := [.int (σ 55 47)]) (rest := []) ⟨hx, hb, hml, hown, hts⟩ hK hP hA hS hZ (c_X12_goThroughBook l D cI cL ad zz hJ σ τ (σ 55 47) ((σ 55 47).toInt) rfl hI102 hI104 hI107 w22 hs_jBook (by omega) (by omega)) cw_RX12_334 (jc_55 cI cL ad σ τ) rfl ⟨Nat.le_of_ble_eq_true rfl, Nat.le_of_ble_eq_true rfl⟩ rfl rfl rfl hl.1 rfl (Nat.le_of_ble_eq_true rfl) dX12_puts_15 ⟨Nat.zero_le _, Nat.zero_le _⟩ (fun σ23 τ23 H locs h23 hP hS => ?_)
    obtain ⟨rfl, f25, f26, I27, p28, w29, h23⟩ := h23
    obtain ⟨i31, i32, i33, i34, i35, w36⟩ : (0 ≤ (σ23 55 25).toInt) ∧ ((σ23 55 25).toInt ≤ (σ23 55 10).toInt) ∧ (0 ≤ (σ23 55 26).toInt) ∧ ((σ23 55 26).toInt ≤ (σ23 55 12).toInt) ∧ ((-1) ≤ (σ23 55 27).toInt ∧ (σ23 55 27).toInt ≤ 3) ∧ (∀ k : Nat, k < 4 → 0 ≤ (σ23 68 k).toInt ∧ (σ23 68 k).toInt ≤ 3) := id I27
    have z37 : (σ23 55 10).toInt = (σ 55 10).toInt := (congrArg Int32.toInt (show σ23 55 10 = (σ 55 10) from (f26 10 (by decide))))
    have z38 : (σ23 55 12).toInt = (σ 55 12).toInt := (congrArg Int32.toInt (show σ23 55 12 = (σ 55 12) from (f26 12 (by decide))))
    obtain ⟨k39, k40, k41, h23⟩ := h23
    refine lv_aload_n hx hb dX12_puts_18 rfl (lv_at hl 0 rfl) ?_
    refine va_get (D := D) hx hb hts inlX12 hown hK hP 55 (jc_55 cI cL ad σ23 τ) rfl 33 (by decide) (hts _ kw_7_18) (fun _ h9 => h9) rfl dX12_puts_19 ?_
    refine lv_iload_n hx hb dX12_puts_22 rfl (lv_at hl 1 rfl) ?_
    refine jald hx hb hK hP (jc_70 cI cL ad σ23 τ) (jin t1 (by omega) (by omega)) dX12_puts_23 ?_
    have w42 : ∀ k : Nat, k < 20 → 0 ≤ (σ23 70 k).toInt ∧ (σ23 70 k).toInt ≤ 6 := (jrr_fr (f25 70 (by decide)) w10)
    have g43 := w42 _ (jnat (x := a1) t1 (n := 20) (by omega) (by decide))
    refine jtopr (y := (σ 70 a1.toNatClampNeg)) (by rw [f25 70 (by decide)]) ?_
    rw [f25 70 (by decide)] at g43
    refine lv_iconst (v := 2) hx hb dX12_puts_24 (by decide) ?_
    refine lv_icmp_ne (tgt := 38) hx hb dX12_puts_25 (by decide) (fun c44 => ?_) (fun c44 => ?_)
    · have kc44 := jne c44 rfl jz_2
      refine lv_aload_n hx hb dX12_puts_38 rfl (lv_at hl 0 rfl) ?_
      have I45 : jI102 σ23 := jI102_fr (f26 6 (by decide)) (f25 60 (by decide)) (f25 61 (by decide)) hI102
      have I46 : jI104 σ23 := jI104_fr (f26 10 (by decide)) (f26 12 (by decide)) (f26 13 (by decide)) (f25 62 (by decide)) (f25 67 (by decide)) hI104
      refine jcallV (As := []) (rest := []) ⟨hx, hb, hml, hown, hts⟩ hK hP hA hS hZ (c_X12_isEnded l D cI cL ad zz hJ σ23 τ I45 I46 I27) cw_RX12_307 (jc_55 cI cL ad σ23 τ) rfl ⟨Nat.le_of_ble_eq_true rfl, Nat.le_of_ble_eq_true rfl⟩ rfl rfl rfl hl.1 rfl (Nat.le_of_ble_eq_true rfl) dX12_puts_39 ⟨Nat.zero_le _, Nat.zero_le _⟩ (fun r48 σ47 τ47 H locs h47 hP hS => ?_)
      obtain ⟨⟨rfl, rfl⟩, h47⟩ := h47
      rcases h47 with h49 | h50
      · obtain ⟨q52, k51⟩ := h49
        have q52 := q52.symm
        subst q52
        refine lv_if_eq (tgt := 48) hx hb dX12_puts_42 (by decide) (fun c => absurd c (by decide)) (fun _ => ?_)
        refine lv_bipush (v := (-2)) hx hb dX12_puts_45 (by decide) ?_
        have I53 : jI119 σ23 := w36
        have p54 : jKept σ23 := jKept.fr (f25 75 (by decide)) (f25 76 (by decide)) (f25 77 (by decide)) hs_jKept
        have p55 : jTR σ23 := jTR.fr (f25 64 (by decide)) (f25 65 (by decide)) hs_jTR
        exact hret (-2) σ23 τ _ _ _ _ rfl ⟨rfl, (fun i hi => (f25 i (imp_256 i hi))), (fun i hi => (f26 i (imp_257 i hi))), I53, p54, p28, p55, trivial⟩ hP hS dX12_puts_47
      · obtain ⟨q59, k56, k57, k58⟩ := h50
        have q59 := q59.symm
        subst q59
        obtain ⟨B60, k61, k62, w63⟩ := k58
        have z64 : (σ23 55 6).toInt = (σ 55 6).toInt := (congrArg Int32.toInt (show σ23 55 6 = (σ 55 6) from (f26 6 (by decide))))
        refine lv_if_eq (tgt := 48) hx hb dX12_puts_42 (by decide) (fun _ => ?_) (fun c => absurd (by decide) c)
        refine lv_aload_n hx hb dX12_puts_48 rfl (lv_at hl 0 rfl) ?_
        refine jcallVv (As := []) (rest := []) ⟨hx, hb, hml, hown, hts⟩ hK hP hA hS hZ (c_X12_forgets l D cI cL ad zz hJ σ23 τ) cw_RX12_341 (jc_55 cI cL ad σ23 τ) rfl ⟨Nat.le_of_ble_eq_true rfl, Nat.le_of_ble_eq_true rfl⟩ rfl rfl rfl hl.1 rfl (Nat.le_of_ble_eq_true rfl) dX12_puts_49 ⟨Nat.zero_le _, Nat.zero_le _⟩ (fun σ65 τ65 H locs h65 hP hS => ?_)
        obtain ⟨rfl, f67, f68, h65⟩ := h65
        refine lv_aload_n hx hb dX12_puts_52 rfl (lv_at hl 0 rfl) ?_
        refine lv_iload_n hx hb dX12_puts_53 rfl (lv_at hl 1 rfl) ?_
        have p70 : jmb σ65 B60 = 1 := (jmb_fr (f68 27 (by decide)) (f68 30 (by decide)) (f68 31 (by decide)) (f67 56 (by decide)) (f67 69 (by decide)) B60).trans w63
        have I71 : jI101 σ65 := jI101_fr ((f68 4 (by decide)).trans (f26 4 (by decide))) ((f68 5 (by decide)).trans (f26 5 (by decide))) ((f67 56 (by decide)).trans (f25 56 (by decide))) ((f67 57 (by decide)).trans (f25 57 (by decide))) ((f67 58 (by decide)).trans (f25 58 (by decide))) ((f67 59 (by decide)).trans (f25 59 (by decide))) hI101
        have I72 : jI102 σ65 := jI102_fr (f68 6 (by decide)) (f67 60 (by decide)) (f67 61 (by decide)) I45
        have I73 : jI103 σ65 := jI103_fr ((f68 9 (by decide)).trans (f26 9 (by decide))) hI103
        have I74 : jI104 σ65 := jI104_fr (f68 10 (by decide)) (f68 12 (by decide)) (f68 13 (by decide)) (f67 62 (by decide)) (f67 67 (by decide)) I46
        have I75 : jI105 σ65 := jI105_fr ((f68 15 (by decide)).trans (f26 15 (by decide))) ((f67 65 (by decide)).trans (f25 65 (by decide))) hI105
        have I76 : jI106 σ65 := jI106_fr ((f68 32 (by decide)).trans (f26 32 (by decide))) ((f67 70 (by decide)).trans (f25 70 (by decide))) ((f67 71 (by decide)).trans (f25 71 (by decide))) ((f67 72 (by decide)).trans (f25 72 (by decide))) hI106
        have I77 : jI120 σ65 := jI120_fr (f68 10 (by decide)) (f68 12 (by decide)) (f68 25 (by decide)) (f68 26 (by decide)) (f68 27 (by decide)) (f67 68 (by decide)) I27
        have p78 : jKept σ65 := jKept.fr ((f67 75 (by decide)).trans (f25 75 (by decide))) ((f67 76 (by decide)).trans (f25 76 (by decide))) ((f67 77 (by decide)).trans (f25 77 (by decide))) hs_jKept
        have p79 : jTR σ65 := jTR.fr ((f67 64 (by decide)).trans (f25 64 (by decide))) ((f67 65 (by decide)).trans (f25 65 (by decide))) hs_jTR
        have z80 : (σ65 70 a1.toNatClampNeg).toInt = (σ 70 a1.toNatClampNeg).toInt := by rw [f67 70 (by decide), f25 70 (by decide)]
        have z81 : (σ65 55 6).toInt = (σ 55 6).toInt := (congrArg Int32.toInt (show σ65 55 6 = (σ 55 6) from ((f68 6 (by decide)).trans (f26 6 (by decide)))))
        have z82 : (σ65 55 25).toInt = (σ23 55 25).toInt := (congrArg Int32.toInt (show σ65 55 25 = (σ23 55 25) from (f68 25 (by decide))))
        have z83 : (σ65 55 10).toInt = (σ 55 10).toInt := (congrArg Int32.toInt (show σ65 55 10 = (σ 55 10) from ((f68 10 (by decide)).trans (f26 10 (by decide)))))
        have z84 : (σ65 55 26).toInt = (σ23 55 26).toInt := (congrArg Int32.toInt (show σ65 55 26 = (σ23 55 26) from (f68 26 (by decide))))
        have z85 : (σ65 55 12).toInt = (σ 55 12).toInt := (congrArg Int32.toInt (show σ65 55 12 = (σ 55 12) from ((f68 12 (by decide)).trans (f26 12 (by decide)))))
        refine jcallV (As := [.int a1]) (rest := []) ⟨hx, hb, hml, hown, hts⟩ hK hP hA hS hZ (c_X12_putsOn l D cI cL ad zz hJ σ65 τ B60 p70 a1 (A1) t1 I71 I72 I73 I74 I75 I76 I77 p78 p79 (by omega) (by omega) (by omega) (by omega) (by omega)) cw_RX12_321 (jc_55 cI cL ad σ65 τ) rfl ⟨Nat.le_of_ble_eq_true rfl, Nat.le_of_ble_eq_true rfl⟩ rfl rfl rfl hl.1 rfl (Nat.le_of_ble_eq_true rfl) dX12_puts_54 ⟨Nat.zero_le _, Nat.zero_le _⟩ (fun r87 σ86 τ86 H locs h86 hP hS => ?_)
        obtain ⟨rfl, f88, f89, p90, p91, h86⟩ := h86
        have h93 := h86
        obtain ⟨q95, k94⟩ := h93
        have w96 : ∀ k : Nat, k < 4 → 0 ≤ (σ86 68 k).toInt ∧ (σ86 68 k).toInt ≤ 3 := (jrr_fr (f88 68 (by decide)) (jrr_fr (f67 68 (by decide)) w36))
        have I97 : jI119 σ86 := w96
        have p98 : jBook σ86 := jBook.fr ((f89 47 (by decide)).trans (f68 47 (by decide))) ((f89 10 (by decide)).trans (f68 10 (by decide))) ((f88 81 (by decide)).trans (f67 81 (by decide))) p28
        exact hret r87 σ86 τ _ _ _ _ rfl ⟨rfl, (fun i hi => ((f88 i (imp_258 i hi)).trans ((f67 i (imp_259 i hi)).trans (f25 i (imp_256 i hi))))), (fun i hi => ((f89 i (imp_260 i hi)).trans ((f68 i (imp_261 i hi)).trans (f26 i (imp_257 i hi))))), I97, p90, p98, p91, trivial⟩ hP hS dX12_puts_57
    · have kc44 := jeq c44 rfl jz_2
      refine lv_aload_n hx hb dX12_puts_28 rfl (lv_at hl 0 rfl) ?_
      have I99 : jI104 σ23 := jI104_fr (f26 10 (by decide)) (f26 12 (by decide)) (f26 13 (by decide)) (f25 62 (by decide)) (f25 67 (by decide)) hI104
      refine jcallV (As := []) (rest := []) ⟨hx, hb, hml, hown, hts⟩ hK hP hA hS hZ (c_X12_isBig l D cI cL ad zz hJ σ23 τ I99 (by omega)) cw_RX12_338 (jc_55 cI cL ad σ23 τ) rfl ⟨Nat.le_of_ble_eq_true rfl, Nat.le_of_ble_eq_true rfl⟩ rfl rfl rfl hl.1 rfl (Nat.le_of_ble_eq_true rfl) dX12_puts_29 ⟨Nat.zero_le _, Nat.zero_le _⟩ (fun r101 σ100 τ100 H locs h100 hP hS => ?_)
      obtain ⟨⟨rfl, rfl⟩, h100⟩ := h100
      rcases h100 with h102 | h103
      · obtain ⟨q105, k104⟩ := h102
        have q105 := q105.symm
        subst q105
        refine lv_if_eq (tgt := 38) hx hb dX12_puts_32 (by decide) (fun c => absurd c (by decide)) (fun _ => ?_)
        refine lv_bipush (v := (-4)) hx hb dX12_puts_35 (by decide) ?_
        have I106 : jI119 σ23 := w36
        have p107 : jKept σ23 := jKept.fr (f25 75 (by decide)) (f25 76 (by decide)) (f25 77 (by decide)) hs_jKept
        have p108 : jTR σ23 := jTR.fr (f25 64 (by decide)) (f25 65 (by decide)) hs_jTR
        exact hret (-4) σ23 τ _ _ _ _ rfl ⟨rfl, (fun i hi => (f25 i (imp_256 i hi))), (fun i hi => (f26 i (imp_257 i hi))), I106, p107, p28, p108, trivial⟩ hP hS dX12_puts_37
      · obtain ⟨q110, k109⟩ := h103
        have q110 := q110.symm
        subst q110
        refine lv_if_eq (tgt := 38) hx hb dX12_puts_32 (by decide) (fun _ => ?_) (fun c => absurd (by decide) c)
        refine lv_aload_n hx hb dX12_puts_38 rfl (lv_at hl 0 rfl) ?_
        have I111 : jI102 σ23 := jI102_fr (f26 6 (by decide)) (f25 60 (by decide)) (f25 61 (by decide)) hI102
        refine jcallV (As := []) (rest := []) ⟨hx, hb, hml, hown, hts⟩ hK hP hA hS hZ (c_X12_isEnded l D cI cL ad zz hJ σ23 τ I111 I99 I27) cw_RX12_307 (jc_55 cI cL ad σ23 τ) rfl ⟨Nat.le_of_ble_eq_true rfl, Nat.le_of_ble_eq_true rfl⟩ rfl rfl rfl hl.1 rfl (Nat.le_of_ble_eq_true rfl) dX12_puts_39 ⟨Nat.zero_le _, Nat.zero_le _⟩ (fun r113 σ112 τ112 H locs h112 hP hS => ?_)
        obtain ⟨⟨rfl, rfl⟩, h112⟩ := h112
        rcases h112 with h114 | h115
        · obtain ⟨q117, k116⟩ := h114
          have q117 := q117.symm
          subst q117
          refine lv_if_eq (tgt := 48) hx hb dX12_puts_42 (by decide) (fun c => absurd c (by decide)) (fun _ => ?_)
          refine lv_bipush (v := (-2)) hx hb dX12_puts_45 (by decide) ?_
          have I118 : jI119 σ23 := w36
          have p119 : jKept σ23 := jKept.fr (f25 75 (by decide)) (f25 76 (by decide)) (f25 77 (by decide)) hs_jKept
          have p120 : jTR σ23 := jTR.fr (f25 64 (by decide)) (f25 65 (by decide)) hs_jTR
          exact hret (-2) σ23 τ _ _ _ _ rfl ⟨rfl, (fun i hi => (f25 i (imp_256 i hi))), (fun i hi => (f26 i (imp_257 i hi))), I118, p119, p28, p120, trivial⟩ hP hS dX12_puts_47
        · obtain ⟨q124, k121, k122, k123⟩ := h115
          have q124 := q124.symm
          subst q124
          obtain ⟨B125, k126, k127, w128⟩ := k123
          have z129 : (σ23 55 6).toInt = (σ 55 6).toInt := (congrArg Int32.toInt (show σ23 55 6 = (σ 55 6) from (f26 6 (by decide))))
          refine lv_if_eq (tgt := 48) hx hb dX12_puts_42 (by decide) (fun _ => ?_) (fun c => absurd (by decide) c)
          refine lv_aload_n hx hb dX12_puts_48 rfl (lv_at hl 0 rfl) ?_
          refine jcallVv (As := []) (rest := []) ⟨hx, hb, hml, hown, hts⟩ hK hP hA hS hZ (c_X12_forgets l D cI cL ad zz hJ σ23 τ) cw_RX12_341 (jc_55 cI cL ad σ23 τ) rfl ⟨Nat.le_of_ble_eq_true rfl, Nat.le_of_ble_eq_true rfl⟩ rfl rfl rfl hl.1 rfl (Nat.le_of_ble_eq_true rfl) dX12_puts_49 ⟨Nat.zero_le _, Nat.zero_le _⟩ (fun σ130 τ130 H locs h130 hP hS => ?_)
          obtain ⟨rfl, f132, f133, h130⟩ := h130
          refine lv_aload_n hx hb dX12_puts_52 rfl (lv_at hl 0 rfl) ?_
          refine lv_iload_n hx hb dX12_puts_53 rfl (lv_at hl 1 rfl) ?_
          have p135 : jmb σ130 B125 = 1 := (jmb_fr (f133 27 (by decide)) (f133 30 (by decide)) (f133 31 (by decide)) (f132 56 (by decide)) (f132 69 (by decide)) B125).trans w128
          have I136 : jI101 σ130 := jI101_fr ((f133 4 (by decide)).trans (f26 4 (by decide))) ((f133 5 (by decide)).trans (f26 5 (by decide))) ((f132 56 (by decide)).trans (f25 56 (by decide))) ((f132 57 (by decide)).trans (f25 57 (by decide))) ((f132 58 (by decide)).trans (f25 58 (by decide))) ((f132 59 (by decide)).trans (f25 59 (by decide))) hI101
          have I137 : jI102 σ130 := jI102_fr (f133 6 (by decide)) (f132 60 (by decide)) (f132 61 (by decide)) I111
          have I138 : jI103 σ130 := jI103_fr ((f133 9 (by decide)).trans (f26 9 (by decide))) hI103
          have I139 : jI104 σ130 := jI104_fr (f133 10 (by decide)) (f133 12 (by decide)) (f133 13 (by decide)) (f132 62 (by decide)) (f132 67 (by decide)) I99
          have I140 : jI105 σ130 := jI105_fr ((f133 15 (by decide)).trans (f26 15 (by decide))) ((f132 65 (by decide)).trans (f25 65 (by decide))) hI105
          have I141 : jI106 σ130 := jI106_fr ((f133 32 (by decide)).trans (f26 32 (by decide))) ((f132 70 (by decide)).trans (f25 70 (by decide))) ((f132 71 (by decide)).trans (f25 71 (by decide))) ((f132 72 (by decide)).trans (f25 72 (by decide))) hI106
          have I142 : jI120 σ130 := jI120_fr (f133 10 (by decide)) (f133 12 (by decide)) (f133 25 (by decide)) (f133 26 (by decide)) (f133 27 (by decide)) (f132 68 (by decide)) I27
          have p143 : jKept σ130 := jKept.fr ((f132 75 (by decide)).trans (f25 75 (by decide))) ((f132 76 (by decide)).trans (f25 76 (by decide))) ((f132 77 (by decide)).trans (f25 77 (by decide))) hs_jKept
          have p144 : jTR σ130 := jTR.fr ((f132 64 (by decide)).trans (f25 64 (by decide))) ((f132 65 (by decide)).trans (f25 65 (by decide))) hs_jTR
          have z145 : (σ130 70 a1.toNatClampNeg).toInt = (σ 70 a1.toNatClampNeg).toInt := by rw [f132 70 (by decide), f25 70 (by decide)]
          have z146 : (σ130 55 6).toInt = (σ 55 6).toInt := (congrArg Int32.toInt (show σ130 55 6 = (σ 55 6) from ((f133 6 (by decide)).trans (f26 6 (by decide)))))
          have z147 : (σ130 55 25).toInt = (σ23 55 25).toInt := (congrArg Int32.toInt (show σ130 55 25 = (σ23 55 25) from (f133 25 (by decide))))
          have z148 : (σ130 55 10).toInt = (σ 55 10).toInt := (congrArg Int32.toInt (show σ130 55 10 = (σ 55 10) from ((f133 10 (by decide)).trans (f26 10 (by decide)))))
          have z149 : (σ130 55 26).toInt = (σ23 55 26).toInt := (congrArg Int32.toInt (show σ130 55 26 = (σ23 55 26) from (f133 26 (by decide))))
          have z150 : (σ130 55 12).toInt = (σ 55 12).toInt := (congrArg Int32.toInt (show σ130 55 12 = (σ 55 12) from ((f133 12 (by decide)).trans (f26 12 (by decide)))))
          refine jcallV (As := [.int a1]) (rest := []) ⟨hx, hb, hml, hown, hts⟩ hK hP hA hS hZ (c_X12_putsOn l D cI cL ad zz hJ σ130 τ B125 p135 a1 (A1) t1 I136 I137 I138 I139 I140 I141 I142 p143 p144 (by omega) (by omega) (by omega) (by omega) (by omega)) cw_RX12_321 (jc_55 cI cL ad σ130 τ) rfl ⟨Nat.le_of_ble_eq_true rfl, Nat.le_of_ble_eq_true rfl⟩ rfl rfl rfl hl.1 rfl (Nat.le_of_ble_eq_true rfl) dX12_puts_54 ⟨Nat.zero_le _, Nat.zero_le _⟩ (fun r152 σ151 τ151 H locs h151 hP hS => ?_)
          obtain ⟨rfl, f153, f154, p155, p156, h151⟩ := h151
          have h158 := h151
          obtain ⟨q160, k159⟩ := h158
          have w161 : ∀ k : Nat, k < 4 → 0 ≤ (σ151 68 k).toInt ∧ (σ151 68 k).toInt ≤ 3 := (jrr_fr (f153 68 (by decide)) (jrr_fr (f132 68 (by decide)) w36))
          have I162 : jI119 σ151 := w161
          have p163 : jBook σ151 := jBook.fr ((f154 47 (by decide)).trans (f133 47 (by decide))) ((f154 10 (by decide)).trans (f133 10 (by decide))) ((f153 81 (by decide)).trans (f132 81 (by decide))) p28
          exact hret r152 σ151 τ _ _ _ _ rfl ⟨rfl, (fun i hi => ((f153 i (imp_258 i hi)).trans ((f132 i (imp_259 i hi)).trans (f25 i (imp_256 i hi))))), (fun i hi => ((f154 i (imp_260 i hi)).trans ((f133 i (imp_261 i hi)).trans (f26 i (imp_257 i hi))))), I162, p155, p163, p156, trivial⟩ hP hS dX12_puts_57
  · obtain ⟨q165, k164⟩ := h19
    have q165 := q165.symm
    subst q165
    refine lv_if_ne (tgt := 10) hx hb dX12_puts_5 (by decide) (fun c => absurd (by decide) c) (fun _ => ?_)
    refine lv_iconst (v := (-1)) hx hb dX12_puts_8 (by decide) ?_
    exact hret (-1) σ τ _ _ _ _ rfl ⟨rfl, (fun _ _ => rfl), (fun _ _ => rfl), hI119, hs_jKept, hs_jBook, hs_jTR, trivial⟩ hP hS dX12_puts_9
set_option maxHeartbeats 4000000 in
set_option maxRecDepth 100000 in
theorem c_X12_mean (l : Launch) (D : va_G) (cI cL : ClassId) (ad zz : Nat → Nat) (hJ : jD ad) (σ : Nat → Nat → Int32) (τ : Nat → Nat → Int64) (a1 : Int32) (A1 : Int) (t1 : a1.toInt = A1) (hI101 : jI101 σ) (hI102 : jI102 σ) (hI103 : jI103 σ) (hI104 : jI104 σ) (hI105 : jI105 σ) (hI106 : jI106 σ) (hI119 : jI119 σ) (hs_jKept : jKept σ) (hs_jTR : jTR σ) : jM l yX12_mean cX12_mean 2 (some .int) ({ frames := 139, cells := 0, slots := 0, locals := 7209 }) D cI cL ad zz [.ref (ad 55), .int a1] σ τ (fun r σ' τ' => τ = τ' ∧ (∀ i : Nat, (i < 55 ∨ 55 < i) ∧ (i < 66 ∨ 66 < i) ∧ (i < 68 ∨ 69 < i) ∧ (i < 74 ∨ 78 < i) → σ' i = σ i) ∧ (∀ k : Nat, (k < 18 ∨ 18 < k) ∧ (k < 19 ∨ 19 < k) ∧ (k < 20 ∨ 20 < k) ∧ (k < 21 ∨ 21 < k) ∧ (k < 22 ∨ 22 < k) ∧ (k < 25 ∨ 25 < k) ∧ (k < 26 ∨ 26 < k) ∧ (k < 27 ∨ 27 < k) ∧ (k < 37 ∨ 37 < k) ∧ (k < 42 ∨ 42 < k) → σ' 55 k = σ 55 k) ∧ (jI119 σ') ∧ (jKept σ') ∧ (jTR σ') ∧ True) := by
  refine jM.of hJ (by decide +kernel) (nt := .int) rfl (Nat.le_of_ble_eq_true rfl) ?_
  intro p e s m args below meth c Q ls hC hret hl hP
  obtain ⟨hx, hb, hr, hml, hown, hts, hK, -, hlocks, hZ⟩ := hC
  have hown : s.vm.findClass RX12 = some m.cls := hown
  have hS : va_S (jA ad) s.heap s.heap [] := va_S.rf
  have hA : ∀ q, jA ad q → jA ad q := fun _ h => h
  have hl : lv_has ls 2 [(0, .ref (ad 55)), (1, .int a1)] := hl
  have g1 := jrg t1
  obtain ⟨i1, i2, i3, w4, w5⟩ : (1 ≤ (σ 55 10).toInt ∧ (σ 55 10).toInt ≤ 8) ∧ (1 ≤ (σ 55 12).toInt ∧ (σ 55 12).toInt ≤ 12) ∧ (0 ≤ (σ 55 13).toInt ∧ (σ 55 13).toInt ≤ 999) ∧ (∀ k : Nat, k < 8 → 0 ≤ (σ 62 k).toInt ∧ (σ 62 k).toInt ≤ 3) ∧ (∀ k : Nat, k < 8 → 0 ≤ (σ 67 k).toInt ∧ (σ 67 k).toInt ≤ 3) := id hI104
  obtain ⟨i6, w7, w8, w9⟩ : (0 ≤ (σ 55 32).toInt ∧ (σ 55 32).toInt ≤ 20) ∧ (∀ k : Nat, k < 20 → 0 ≤ (σ 70 k).toInt ∧ (σ 70 k).toInt ≤ 6) ∧ (∀ k : Nat, k < 20 → 0 ≤ (σ 71 k).toInt ∧ (σ 71 k).toInt ≤ 8) ∧ (∀ k : Nat, k < 160 → 0 ≤ (σ 72 k).toInt ∧ (σ 72 k).toInt ≤ 3) := id hI106
  refine lv_aload_n hx hb dX12_mean_0 rfl (lv_at hl 0 rfl) ?_
  refine lv_iload_n hx hb dX12_mean_1 rfl (lv_at hl 1 rfl) ?_
  refine jcallV (As := [.int a1]) (rest := []) ⟨hx, hb, hml, hown, hts⟩ hK hP hA hS hZ (c_X12_isRule l D cI cL ad zz hJ σ τ a1 (A1) t1 hI106) cw_RX12_331 (jc_55 cI cL ad σ τ) rfl ⟨Nat.le_of_ble_eq_true rfl, Nat.le_of_ble_eq_true rfl⟩ rfl rfl rfl hl.1 rfl (Nat.le_of_ble_eq_true rfl) dX12_mean_2 ⟨Nat.zero_le _, Nat.zero_le _⟩ (fun r11 σ10 τ10 H locs h10 hP hS => ?_)
  obtain ⟨⟨rfl, rfl⟩, h10⟩ := h10
  rcases h10 with h12 | h13
  · obtain ⟨q15, k14⟩ := h12
    have q15 := q15.symm
    subst q15
    refine lv_if_ne (tgt := 10) hx hb dX12_mean_5 (by decide) (fun _ => ?_) (fun c => absurd c (by decide))
    refine lv_aload_n hx hb dX12_mean_10 rfl (lv_at hl 0 rfl) ?_
    refine va_get (D := D) hx hb hts inlX12 hown hK hP 55 (jc_55 cI cL ad σ τ) rfl 12 (by decide) (hts _ kw_8_16) (fun _ h9 => h9) rfl dX12_mean_11 ?_
    refine lv_bipush (v := 8) hx hb dX12_mean_14 (by decide) ?_
    refine lv_icmp_le (tgt := 22) hx hb dX12_mean_16 (by decide) (fun c16 => ?_) (fun c16 => ?_)
    · have kc16 := jle c16 rfl jz_8
      refine lv_aload_n hx hb dX12_mean_22 rfl (lv_at hl 0 rfl) ?_
      have w17 : ∀ k : Nat, k < 4 → 0 ≤ (σ 68 k).toInt ∧ (σ 68 k).toInt ≤ 3 := hI119
      refine jcallVv (As := []) (rest := []) ⟨hx, hb, hml, hown, hts⟩ hK hP hA hS hZ (c_X12_begin l D cI cL ad zz hJ σ τ hI104 w17) cw_RX12_256 (jc_55 cI cL ad σ τ) rfl ⟨Nat.le_of_ble_eq_true rfl, Nat.le_of_ble_eq_true rfl⟩ rfl rfl rfl hl.1 rfl (Nat.le_of_ble_eq_true rfl) dX12_mean_23 ⟨Nat.zero_le _, Nat.zero_le _⟩ (fun σ18 τ18 H locs h18 hP hS => ?_)
      obtain ⟨rfl, f20, f21, I22, w23, h18⟩ := h18
      obtain ⟨i25, i26, i27, i28, i29, w30⟩ : (0 ≤ (σ18 55 25).toInt) ∧ ((σ18 55 25).toInt ≤ (σ18 55 10).toInt) ∧ (0 ≤ (σ18 55 26).toInt) ∧ ((σ18 55 26).toInt ≤ (σ18 55 12).toInt) ∧ ((-1) ≤ (σ18 55 27).toInt ∧ (σ18 55 27).toInt ≤ 3) ∧ (∀ k : Nat, k < 4 → 0 ≤ (σ18 68 k).toInt ∧ (σ18 68 k).toInt ≤ 3) := id I22
      have z31 : (σ18 55 10).toInt = (σ 55 10).toInt := (congrArg Int32.toInt (show σ18 55 10 = (σ 55 10) from (f21 10 (by decide))))
      have z32 : (σ18 55 12).toInt = (σ 55 12).toInt := (congrArg Int32.toInt (show σ18 55 12 = (σ 55 12) from (f21 12 (by decide))))
      obtain ⟨k33, k34, k35, h18⟩ := h18
      refine lv_aload_n hx hb dX12_mean_26 rfl (lv_at hl 0 rfl) ?_
      refine jcallVv (As := []) (rest := []) ⟨hx, hb, hml, hown, hts⟩ hK hP hA hS hZ (c_X12_forgets l D cI cL ad zz hJ σ18 τ) cw_RX12_341 (jc_55 cI cL ad σ18 τ) rfl ⟨Nat.le_of_ble_eq_true rfl, Nat.le_of_ble_eq_true rfl⟩ rfl rfl rfl hl.1 rfl (Nat.le_of_ble_eq_true rfl) dX12_mean_27 ⟨Nat.zero_le _, Nat.zero_le _⟩ (fun σ36 τ36 H locs h36 hP hS => ?_)
      obtain ⟨rfl, f38, f39, h36⟩ := h36
      refine lv_aload_n hx hb dX12_mean_30 rfl (lv_at hl 0 rfl) ?_
      refine lv_iload_n hx hb dX12_mean_31 rfl (lv_at hl 1 rfl) ?_
      have I41 : jI101 σ36 := jI101_fr ((f39 4 (by decide)).trans (f21 4 (by decide))) ((f39 5 (by decide)).trans (f21 5 (by decide))) ((f38 56 (by decide)).trans (f20 56 (by decide))) ((f38 57 (by decide)).trans (f20 57 (by decide))) ((f38 58 (by decide)).trans (f20 58 (by decide))) ((f38 59 (by decide)).trans (f20 59 (by decide))) hI101
      have I42 : jI102 σ36 := jI102_fr ((f39 6 (by decide)).trans (f21 6 (by decide))) ((f38 60 (by decide)).trans (f20 60 (by decide))) ((f38 61 (by decide)).trans (f20 61 (by decide))) hI102
      have I43 : jI103 σ36 := jI103_fr ((f39 9 (by decide)).trans (f21 9 (by decide))) hI103
      have I44 : jI104 σ36 := jI104_fr ((f39 10 (by decide)).trans (f21 10 (by decide))) ((f39 12 (by decide)).trans (f21 12 (by decide))) ((f39 13 (by decide)).trans (f21 13 (by decide))) ((f38 62 (by decide)).trans (f20 62 (by decide))) ((f38 67 (by decide)).trans (f20 67 (by decide))) hI104
      have I45 : jI105 σ36 := jI105_fr ((f39 15 (by decide)).trans (f21 15 (by decide))) ((f38 65 (by decide)).trans (f20 65 (by decide))) hI105
      have I46 : jI106 σ36 := jI106_fr ((f39 32 (by decide)).trans (f21 32 (by decide))) ((f38 70 (by decide)).trans (f20 70 (by decide))) ((f38 71 (by decide)).trans (f20 71 (by decide))) ((f38 72 (by decide)).trans (f20 72 (by decide))) hI106
      have I47 : jI120 σ36 := jI120_fr (f39 10 (by decide)) (f39 12 (by decide)) (f39 25 (by decide)) (f39 26 (by decide)) (f39 27 (by decide)) (f38 68 (by decide)) I22
      have p48 : jKept σ36 := jKept.fr ((f38 75 (by decide)).trans (f20 75 (by decide))) ((f38 76 (by decide)).trans (f20 76 (by decide))) ((f38 77 (by decide)).trans (f20 77 (by decide))) hs_jKept
      have p49 : jTR σ36 := jTR.fr ((f38 64 (by decide)).trans (f20 64 (by decide))) ((f38 65 (by decide)).trans (f20 65 (by decide))) hs_jTR
      have z50 : (σ36 55 12).toInt = (σ 55 12).toInt := (congrArg Int32.toInt (show σ36 55 12 = (σ 55 12) from ((f39 12 (by decide)).trans (f21 12 (by decide)))))
      have z51 : (σ36 55 26).toInt = (σ18 55 26).toInt := (congrArg Int32.toInt (show σ36 55 26 = (σ18 55 26) from (f39 26 (by decide))))
      refine jcallV (As := [.int a1]) (rest := []) ⟨hx, hb, hml, hown, hts⟩ hK hP hA hS hZ ((c_X12_means l D cI cL ad zz hJ 8) σ36 τ a1 (A1) t1 I41 I42 I43 I44 I45 I46 I47 p48 p49 (by omega) (by omega) (by omega)) cw_RX12_324 (jc_55 cI cL ad σ36 τ) rfl ⟨Nat.le_of_ble_eq_true rfl, Nat.le_of_ble_eq_true rfl⟩ rfl rfl rfl hl.1 rfl (Nat.le_of_ble_eq_true rfl) dX12_mean_32 ⟨Nat.zero_le _, Nat.zero_le _⟩ (fun r53 σ52 τ52 H locs h52 hP hS => ?_)
      obtain ⟨rfl, f54, f55, p56, p57, h52⟩ := h52
      have w59 : ∀ k : Nat, k < 4 → 0 ≤ (σ52 68 k).toInt ∧ (σ52 68 k).toInt ≤ 3 := (jrr_fr (f54 68 (by decide)) (jrr_fr (f38 68 (by decide)) w30))
      have I60 : jI119 σ52 := w59
      exact hret r53 σ52 τ _ _ _ _ rfl ⟨rfl, (fun i hi => ((f54 i (imp_258 i hi)).trans ((f38 i (imp_259 i hi)).trans (f20 i (imp_256 i hi))))), (fun i hi => ((f55 i (imp_260 i hi)).trans ((f39 i (imp_261 i hi)).trans (f21 i (imp_257 i hi))))), I60, p56, p57, trivial⟩ hP hS dX12_mean_35
    · have kc16 := jnle c16 rfl jz_8
      refine lv_bipush (v := (-4)) hx hb dX12_mean_19 (by decide) ?_
      exact hret (-4) σ τ _ _ _ _ rfl ⟨rfl, (fun _ _ => rfl), (fun _ _ => rfl), hI119, hs_jKept, hs_jTR, trivial⟩ hP hS dX12_mean_21
  · obtain ⟨q62, k61⟩ := h13
    have q62 := q62.symm
    subst q62
    refine lv_if_ne (tgt := 10) hx hb dX12_mean_5 (by decide) (fun c => absurd (by decide) c) (fun _ => ?_)
    refine lv_iconst (v := (-1)) hx hb dX12_mean_8 (by decide) ?_
    exact hret (-1) σ τ _ _ _ _ rfl ⟨rfl, (fun _ _ => rfl), (fun _ _ => rfl), hI119, hs_jKept, hs_jTR, trivial⟩ hP hS dX12_mean_9
set_option maxHeartbeats 4000000 in
set_option maxRecDepth 100000 in
theorem c_X12_likely (l : Launch) (D : va_G) (cI cL : ClassId) (ad zz : Nat → Nat) (hJ : jD ad) (σ : Nat → Nat → Int32) (τ : Nat → Nat → Int64) (a1 : Int32) (A1 : Int) (t1 : a1.toInt = A1) (a2 : Int32) (A2 : Int) (t2 : a2.toInt = A2) (hI101 : jI101 σ) (hI102 : jI102 σ) (hI103 : jI103 σ) (hI104 : jI104 σ) (hI105 : jI105 σ) (hI106 : jI106 σ) (hI119 : jI119 σ) (hs_jKept : jKept σ) (hs_jTR : jTR σ) : jM l yX12_likely cX12_likely 3 (some .int) ({ frames := 139, cells := 0, slots := 0, locals := 7210 }) D cI cL ad zz [.ref (ad 55), .int a1, .int a2] σ τ (fun r σ' τ' => τ = τ' ∧ (∀ i : Nat, (i < 55 ∨ 55 < i) ∧ (i < 66 ∨ 66 < i) ∧ (i < 68 ∨ 69 < i) ∧ (i < 74 ∨ 78 < i) → σ' i = σ i) ∧ (∀ k : Nat, (k < 18 ∨ 18 < k) ∧ (k < 19 ∨ 19 < k) ∧ (k < 20 ∨ 20 < k) ∧ (k < 21 ∨ 21 < k) ∧ (k < 22 ∨ 22 < k) ∧ (k < 25 ∨ 25 < k) ∧ (k < 26 ∨ 26 < k) ∧ (k < 27 ∨ 27 < k) ∧ (k < 37 ∨ 37 < k) ∧ (k < 42 ∨ 42 < k) → σ' 55 k = σ 55 k) ∧ (jI119 σ') ∧ (jKept σ') ∧ (jTR σ') ∧ True) := by
  refine jM.of hJ (by decide +kernel) (nt := .int) rfl (Nat.le_of_ble_eq_true rfl) ?_
  intro p e s m args below meth c Q ls hC hret hl hP
  obtain ⟨hx, hb, hr, hml, hown, hts, hK, -, hlocks, hZ⟩ := hC
  have hown : s.vm.findClass RX12 = some m.cls := hown
  have hS : va_S (jA ad) s.heap s.heap [] := va_S.rf
  have hA : ∀ q, jA ad q → jA ad q := fun _ h => h
  have hl : lv_has ls 3 [(0, .ref (ad 55)), (1, .int a1), (2, .int a2)] := hl
  have g1 := jrg t1
  have g2 := jrg t2
  obtain ⟨i1, i2, i3, w4, w5⟩ : (1 ≤ (σ 55 10).toInt ∧ (σ 55 10).toInt ≤ 8) ∧ (1 ≤ (σ 55 12).toInt ∧ (σ 55 12).toInt ≤ 12) ∧ (0 ≤ (σ 55 13).toInt ∧ (σ 55 13).toInt ≤ 999) ∧ (∀ k : Nat, k < 8 → 0 ≤ (σ 62 k).toInt ∧ (σ 62 k).toInt ≤ 3) ∧ (∀ k : Nat, k < 8 → 0 ≤ (σ 67 k).toInt ∧ (σ 67 k).toInt ≤ 3) := id hI104
  obtain ⟨i6, w7, w8, w9⟩ : (0 ≤ (σ 55 32).toInt ∧ (σ 55 32).toInt ≤ 20) ∧ (∀ k : Nat, k < 20 → 0 ≤ (σ 70 k).toInt ∧ (σ 70 k).toInt ≤ 6) ∧ (∀ k : Nat, k < 20 → 0 ≤ (σ 71 k).toInt ∧ (σ 71 k).toInt ≤ 8) ∧ (∀ k : Nat, k < 160 → 0 ≤ (σ 72 k).toInt ∧ (σ 72 k).toInt ≤ 3) := id hI106
  refine lv_aload_n hx hb dX12_likely_0 rfl (lv_at hl 0 rfl) ?_
  refine lv_iload_n hx hb dX12_likely_1 rfl (lv_at hl 1 rfl) ?_
  refine jcallV (As := [.int a1]) (rest := []) ⟨hx, hb, hml, hown, hts⟩ hK hP hA hS hZ (c_X12_isRule l D cI cL ad zz hJ σ τ a1 (A1) t1 hI106) cw_RX12_331 (jc_55 cI cL ad σ τ) rfl ⟨Nat.le_of_ble_eq_true rfl, Nat.le_of_ble_eq_true rfl⟩ rfl rfl rfl hl.1 rfl (Nat.le_of_ble_eq_true rfl) dX12_likely_2 ⟨Nat.zero_le _, Nat.zero_le _⟩ (fun r11 σ10 τ10 H locs h10 hP hS => ?_)
  obtain ⟨⟨rfl, rfl⟩, h10⟩ := h10
  rcases h10 with h12 | h13
  · obtain ⟨q15, k14⟩ := h12
    have q15 := q15.symm
    subst q15
    refine lv_if_eq (tgt := 20) hx hb dX12_likely_5 (by decide) (fun c => absurd c (by decide)) (fun _ => ?_)
    refine lv_iload_n hx hb dX12_likely_8 rfl (lv_at hl 2 rfl) ?_
    refine lv_i2l (v := a2.toInt64) hx hb dX12_likely_9 rfl ?_
    refine lv_lconst (v := 0) hx hb dX12_likely_10 (by decide) ?_
    refine lv_ldc2 (v := 999) hx hb hown (hts _ kw_37_8) dX12_likely_11 ?_
    refine jcallS (As := [.long a2.toInt64, .long 0, .long 999]) (rest := []) ⟨hx, hb, hml, hown, hts⟩ hK hP hA hS hZ (c_X12_within l D cI cL ad zz hJ σ τ a2.toInt64 (A2) (jtoL t2) 0 (0) jzl_0 999 (999) jzl_999) cw_RX12_136 ⟨Nat.le_of_ble_eq_true rfl, Nat.le_of_ble_eq_true rfl⟩ rfl rfl rfl hl.1 rfl (Nat.le_of_ble_eq_true rfl) dX12_likely_14 ⟨Nat.zero_le _, Nat.zero_le _⟩ (fun r17 σ16 τ16 H locs h16 hP hS => ?_)
    obtain ⟨⟨rfl, rfl⟩, h16⟩ := h16
    rcases h16 with h18 | h19
    · obtain ⟨q21, k20⟩ := h18
      have q21 := q21.symm
      subst q21
      refine lv_if_ne (tgt := 22) hx hb dX12_likely_17 (by decide) (fun _ => ?_) (fun c => absurd c (by decide))
      refine lv_aload_n hx hb dX12_likely_22 rfl (lv_at hl 0 rfl) ?_
      refine va_get (D := D) hx hb hts inlX12 hown hK hP 55 (jc_55 cI cL ad σ τ) rfl 12 (by decide) (hts _ kw_8_16) (fun _ h9 => h9) rfl dX12_likely_23 ?_
      refine lv_bipush (v := 8) hx hb dX12_likely_26 (by decide) ?_
      refine lv_icmp_le (tgt := 34) hx hb dX12_likely_28 (by decide) (fun c22 => ?_) (fun c22 => ?_)
      · have kc22 := jle c22 rfl jz_8
        refine lv_aload_n hx hb dX12_likely_34 rfl (lv_at hl 0 rfl) ?_
        have w23 : ∀ k : Nat, k < 4 → 0 ≤ (σ 68 k).toInt ∧ (σ 68 k).toInt ≤ 3 := hI119
        refine jcallVv (As := []) (rest := []) ⟨hx, hb, hml, hown, hts⟩ hK hP hA hS hZ (c_X12_begin l D cI cL ad zz hJ σ τ hI104 w23) cw_RX12_256 (jc_55 cI cL ad σ τ) rfl ⟨Nat.le_of_ble_eq_true rfl, Nat.le_of_ble_eq_true rfl⟩ rfl rfl rfl hl.1 rfl (Nat.le_of_ble_eq_true rfl) dX12_likely_35 ⟨Nat.zero_le _, Nat.zero_le _⟩ (fun σ24 τ24 H locs h24 hP hS => ?_)
        obtain ⟨rfl, f26, f27, I28, w29, h24⟩ := h24
        obtain ⟨i31, i32, i33, i34, i35, w36⟩ : (0 ≤ (σ24 55 25).toInt) ∧ ((σ24 55 25).toInt ≤ (σ24 55 10).toInt) ∧ (0 ≤ (σ24 55 26).toInt) ∧ ((σ24 55 26).toInt ≤ (σ24 55 12).toInt) ∧ ((-1) ≤ (σ24 55 27).toInt ∧ (σ24 55 27).toInt ≤ 3) ∧ (∀ k : Nat, k < 4 → 0 ≤ (σ24 68 k).toInt ∧ (σ24 68 k).toInt ≤ 3) := id I28
        have z37 : (σ24 55 10).toInt = (σ 55 10).toInt := (congrArg Int32.toInt (show σ24 55 10 = (σ 55 10) from (f27 10 (by decide))))
        have z38 : (σ24 55 12).toInt = (σ 55 12).toInt := (congrArg Int32.toInt (show σ24 55 12 = (σ 55 12) from (f27 12 (by decide))))
        obtain ⟨k39, k40, k41, h24⟩ := h24
        refine lv_aload_n hx hb dX12_likely_38 rfl (lv_at hl 0 rfl) ?_
        refine jcallVv (As := []) (rest := []) ⟨hx, hb, hml, hown, hts⟩ hK hP hA hS hZ (c_X12_forgets l D cI cL ad zz hJ σ24 τ) cw_RX12_341 (jc_55 cI cL ad σ24 τ) rfl ⟨Nat.le_of_ble_eq_true rfl, Nat.le_of_ble_eq_true rfl⟩ rfl rfl rfl hl.1 rfl (Nat.le_of_ble_eq_true rfl) dX12_likely_39 ⟨Nat.zero_le _, Nat.zero_le _⟩ (fun σ42 τ42 H locs h42 hP hS => ?_)
        obtain ⟨rfl, f44, f45, h42⟩ := h42
        refine lv_aload_n hx hb dX12_likely_42 rfl (lv_at hl 0 rfl) ?_
        refine lv_iload_n hx hb dX12_likely_43 rfl (lv_at hl 1 rfl) ?_
        refine lv_iload_n hx hb dX12_likely_44 rfl (lv_at hl 2 rfl) ?_
        have I47 : jI101 σ42 := jI101_fr ((f45 4 (by decide)).trans (f27 4 (by decide))) ((f45 5 (by decide)).trans (f27 5 (by decide))) ((f44 56 (by decide)).trans (f26 56 (by decide))) ((f44 57 (by decide)).trans (f26 57 (by decide))) ((f44 58 (by decide)).trans (f26 58 (by decide))) ((f44 59 (by decide)).trans (f26 59 (by decide))) hI101
        have I48 : jI102 σ42 := jI102_fr ((f45 6 (by decide)).trans (f27 6 (by decide))) ((f44 60 (by decide)).trans (f26 60 (by decide))) ((f44 61 (by decide)).trans (f26 61 (by decide))) hI102
        have I49 : jI103 σ42 := jI103_fr ((f45 9 (by decide)).trans (f27 9 (by decide))) hI103
        have I50 : jI104 σ42 := jI104_fr ((f45 10 (by decide)).trans (f27 10 (by decide))) ((f45 12 (by decide)).trans (f27 12 (by decide))) ((f45 13 (by decide)).trans (f27 13 (by decide))) ((f44 62 (by decide)).trans (f26 62 (by decide))) ((f44 67 (by decide)).trans (f26 67 (by decide))) hI104
        have I51 : jI105 σ42 := jI105_fr ((f45 15 (by decide)).trans (f27 15 (by decide))) ((f44 65 (by decide)).trans (f26 65 (by decide))) hI105
        have I52 : jI106 σ42 := jI106_fr ((f45 32 (by decide)).trans (f27 32 (by decide))) ((f44 70 (by decide)).trans (f26 70 (by decide))) ((f44 71 (by decide)).trans (f26 71 (by decide))) ((f44 72 (by decide)).trans (f26 72 (by decide))) hI106
        have I53 : jI120 σ42 := jI120_fr (f45 10 (by decide)) (f45 12 (by decide)) (f45 25 (by decide)) (f45 26 (by decide)) (f45 27 (by decide)) (f44 68 (by decide)) I28
        have p54 : jKept σ42 := jKept.fr ((f44 75 (by decide)).trans (f26 75 (by decide))) ((f44 76 (by decide)).trans (f26 76 (by decide))) ((f44 77 (by decide)).trans (f26 77 (by decide))) hs_jKept
        have p55 : jTR σ42 := jTR.fr ((f44 64 (by decide)).trans (f26 64 (by decide))) ((f44 65 (by decide)).trans (f26 65 (by decide))) hs_jTR
        have z56 : (σ42 55 12).toInt = (σ 55 12).toInt := (congrArg Int32.toInt (show σ42 55 12 = (σ 55 12) from ((f45 12 (by decide)).trans (f27 12 (by decide)))))
        have z57 : (σ42 55 26).toInt = (σ24 55 26).toInt := (congrArg Int32.toInt (show σ42 55 26 = (σ24 55 26) from (f45 26 (by decide))))
        refine jcallV (As := [.int a1, .int a2]) (rest := []) ⟨hx, hb, hml, hown, hts⟩ hK hP hA hS hZ ((c_X12_likelies l D cI cL ad zz hJ 8) σ42 τ a1 (A1) t1 a2 (A2) t2 I47 I48 I49 I50 I51 I52 I53 p54 p55 (by omega) (by omega) (by omega)) cw_RX12_328 (jc_55 cI cL ad σ42 τ) rfl ⟨Nat.le_of_ble_eq_true rfl, Nat.le_of_ble_eq_true rfl⟩ rfl rfl rfl hl.1 rfl (Nat.le_of_ble_eq_true rfl) dX12_likely_45 ⟨Nat.zero_le _, Nat.zero_le _⟩ (fun r59 σ58 τ58 H locs h58 hP hS => ?_)
        obtain ⟨rfl, f60, f61, p62, p63, h58⟩ := h58
        have w65 : ∀ k : Nat, k < 4 → 0 ≤ (σ58 68 k).toInt ∧ (σ58 68 k).toInt ≤ 3 := (jrr_fr (f60 68 (by decide)) (jrr_fr (f44 68 (by decide)) w36))
        have I66 : jI119 σ58 := w65
        exact hret r59 σ58 τ _ _ _ _ rfl ⟨rfl, (fun i hi => ((f60 i (imp_258 i hi)).trans ((f44 i (imp_259 i hi)).trans (f26 i (imp_256 i hi))))), (fun i hi => ((f61 i (imp_260 i hi)).trans ((f45 i (imp_261 i hi)).trans (f27 i (imp_257 i hi))))), I66, p62, p63, trivial⟩ hP hS dX12_likely_48
      · have kc22 := jnle c22 rfl jz_8
        refine lv_bipush (v := (-4)) hx hb dX12_likely_31 (by decide) ?_
        exact hret (-4) σ τ _ _ _ _ rfl ⟨rfl, (fun _ _ => rfl), (fun _ _ => rfl), hI119, hs_jKept, hs_jTR, trivial⟩ hP hS dX12_likely_33
    · obtain ⟨q68, k67⟩ := h19
      have q68 := q68.symm
      subst q68
      refine lv_if_ne (tgt := 22) hx hb dX12_likely_17 (by decide) (fun c => absurd (by decide) c) (fun _ => ?_)
      refine lv_iconst (v := (-1)) hx hb dX12_likely_20 (by decide) ?_
      exact hret (-1) σ τ _ _ _ _ rfl ⟨rfl, (fun _ _ => rfl), (fun _ _ => rfl), hI119, hs_jKept, hs_jTR, trivial⟩ hP hS dX12_likely_21
  · obtain ⟨q70, k69⟩ := h13
    have q70 := q70.symm
    subst q70
    refine lv_if_eq (tgt := 20) hx hb dX12_likely_5 (by decide) (fun _ => ?_) (fun c => absurd (by decide) c)
    refine lv_iconst (v := (-1)) hx hb dX12_likely_20 (by decide) ?_
    exact hret (-1) σ τ _ _ _ _ rfl ⟨rfl, (fun _ _ => rfl), (fun _ _ => rfl), hI119, hs_jKept, hs_jTR, trivial⟩ hP hS dX12_likely_21
set_option maxHeartbeats 4000000 in
set_option maxRecDepth 100000 in
theorem c_X12_best (l : Launch) (D : va_G) (cI cL : ClassId) (ad zz : Nat → Nat) (hJ : jD ad) (σ : Nat → Nat → Int32) (τ : Nat → Nat → Int64) (a1 : Int32) (A1 : Int) (t1 : a1.toInt = A1) (hI101 : jI101 σ) (hI102 : jI102 σ) (hI103 : jI103 σ) (hI104 : jI104 σ) (hI105 : jI105 σ) (hI106 : jI106 σ) (hI107 : jI107 σ) (hI119 : jI119 σ) (hs_jKept : jKept σ) (hs_jBook : jBook σ) (hs_jTR : jTR σ) : jM l yX12_best cX12_best 3 (some .int) ({ frames := 103, cells := 0, slots := 0, locals := 5061 }) D cI cL ad zz [.ref (ad 55), .int a1] σ τ (fun r σ' τ' => τ = τ' ∧ (∀ i : Nat, (i < 55 ∨ 55 < i) ∧ (i < 66 ∨ 66 < i) ∧ (i < 68 ∨ 69 < i) ∧ (i < 74 ∨ 78 < i) → σ' i = σ i) ∧ (∀ k : Nat, (k < 18 ∨ 18 < k) ∧ (k < 19 ∨ 19 < k) ∧ (k < 20 ∨ 20 < k) ∧ (k < 21 ∨ 21 < k) ∧ (k < 22 ∨ 22 < k) ∧ (k < 25 ∨ 25 < k) ∧ (k < 26 ∨ 26 < k) ∧ (k < 27 ∨ 27 < k) ∧ (k < 37 ∨ 37 < k) ∧ (k < 42 ∨ 42 < k) → σ' 55 k = σ 55 k) ∧ (jI119 σ') ∧ (jKept σ') ∧ (jBook σ') ∧ (jTR σ') ∧ True) := by
  refine jM.of hJ (by decide +kernel) (nt := .int) rfl (Nat.le_of_ble_eq_true rfl) ?_
  intro p e s m args below meth c Q ls hC hret hl hP
  obtain ⟨hx, hb, hr, hml, hown, hts, hK, -, hlocks, hZ⟩ := hC
  have hown : s.vm.findClass RX12 = some m.cls := hown
  have hS : va_S (jA ad) s.heap s.heap [] := va_S.rf
  have hA : ∀ q, jA ad q → jA ad q := fun _ h => h
  have hl : lv_has ls 3 [(0, .ref (ad 55)), (1, .int a1)] := hl
  have g1 := jrg t1
  obtain ⟨i1, w2, w3⟩ : (0 ≤ (σ 55 6).toInt ∧ (σ 55 6).toInt ≤ 4) ∧ (∀ k : Nat, k < 4 → 0 ≤ (σ 60 k).toInt ∧ (σ 60 k).toInt ≤ 50) ∧ (∀ k : Nat, k < 4 → 0 ≤ (σ 61 k).toInt ∧ (σ 61 k).toInt ≤ 20) := id hI102
  obtain ⟨i4, i5, i6, w7, w8⟩ : (1 ≤ (σ 55 10).toInt ∧ (σ 55 10).toInt ≤ 8) ∧ (1 ≤ (σ 55 12).toInt ∧ (σ 55 12).toInt ≤ 12) ∧ (0 ≤ (σ 55 13).toInt ∧ (σ 55 13).toInt ≤ 999) ∧ (∀ k : Nat, k < 8 → 0 ≤ (σ 62 k).toInt ∧ (σ 62 k).toInt ≤ 3) ∧ (∀ k : Nat, k < 8 → 0 ≤ (σ 67 k).toInt ∧ (σ 67 k).toInt ≤ 3) := id hI104
  obtain ⟨i9, i10, w11⟩ : (0 ≤ (σ 55 47).toInt ∧ (σ 55 47).toInt ≤ 12) ∧ ((σ 55 47).toInt ≤ (σ 55 12).toInt) ∧ (∀ k : Nat, k < 12 → 0 ≤ (σ 80 k).toInt ∧ (σ 80 k).toInt ≤ 3) := id hI107
  refine lv_iload_n hx hb dX12_best_0 rfl (lv_at hl 1 rfl) ?_
  refine lv_i2l (v := a1.toInt64) hx hb dX12_best_1 rfl ?_
  refine lv_lconst (v := 0) hx hb dX12_best_2 (by decide) ?_
  refine lv_lconst (v := 1) hx hb dX12_best_3 (by decide) ?_
  refine jcallS (As := [.long a1.toInt64, .long 0, .long 1]) (rest := []) ⟨hx, hb, hml, hown, hts⟩ hK hP hA hS hZ (c_X12_within l D cI cL ad zz hJ σ τ a1.toInt64 (A1) (jtoL t1) 0 (0) jzl_0 1 (1) jzl_1) cw_RX12_136 ⟨Nat.le_of_ble_eq_true rfl, Nat.le_of_ble_eq_true rfl⟩ rfl rfl rfl hl.1 rfl (Nat.le_of_ble_eq_true rfl) dX12_best_4 ⟨Nat.zero_le _, Nat.zero_le _⟩ (fun r13 σ12 τ12 H locs h12 hP hS => ?_)
  obtain ⟨⟨rfl, rfl⟩, h12⟩ := h12
  rcases h12 with h14 | h15
  · obtain ⟨q17, k16⟩ := h14
    have q17 := q17.symm
    subst q17
    refine lv_if_ne (tgt := 12) hx hb dX12_best_7 (by decide) (fun _ => ?_) (fun c => absurd c (by decide))
    refine lv_aload_n hx hb dX12_best_12 rfl (lv_at hl 0 rfl) ?_
    refine lv_aload_n hx hb dX12_best_13 rfl (lv_at hl 0 rfl) ?_
    refine va_get (D := D) hx hb hts inlX12 hown hK hP 55 (jc_55 cI cL ad σ τ) rfl 47 (by decide) (hts _ kw_15_15) (fun _ h9 => h9) rfl dX12_best_14 ?_
    have w18 : ∀ k : Nat, k < 4 → 0 ≤ (σ 68 k).toInt ∧ (σ 68 k).toInt ≤ 3 := hI119
    refine jcallVv (As := [.int (σ 55 47)]) (rest := []) ⟨hx, hb, hml, hown, hts⟩ hK hP hA hS hZ (c_X12_goThroughBook l D cI cL ad zz hJ σ τ (σ 55 47) ((σ 55 47).toInt) rfl hI102 hI104 hI107 w18 hs_jBook (by omega) (by omega)) cw_RX12_334 (jc_55 cI cL ad σ τ) rfl ⟨Nat.le_of_ble_eq_true rfl, Nat.le_of_ble_eq_true rfl⟩ rfl rfl rfl hl.1 rfl (Nat.le_of_ble_eq_true rfl) dX12_best_17 ⟨Nat.zero_le _, Nat.zero_le _⟩ (fun σ19 τ19 H locs h19 hP hS => ?_)
    obtain ⟨rfl, f21, f22, I23, p24, w25, h19⟩ := h19
    obtain ⟨i27, i28, i29, i30, i31, w32⟩ : (0 ≤ (σ19 55 25).toInt) ∧ ((σ19 55 25).toInt ≤ (σ19 55 10).toInt) ∧ (0 ≤ (σ19 55 26).toInt) ∧ ((σ19 55 26).toInt ≤ (σ19 55 12).toInt) ∧ ((-1) ≤ (σ19 55 27).toInt ∧ (σ19 55 27).toInt ≤ 3) ∧ (∀ k : Nat, k < 4 → 0 ≤ (σ19 68 k).toInt ∧ (σ19 68 k).toInt ≤ 3) := id I23
    have z33 : (σ19 55 10).toInt = (σ 55 10).toInt := (congrArg Int32.toInt (show σ19 55 10 = (σ 55 10) from (f22 10 (by decide))))
    have z34 : (σ19 55 12).toInt = (σ 55 12).toInt := (congrArg Int32.toInt (show σ19 55 12 = (σ 55 12) from (f22 12 (by decide))))
    obtain ⟨k35, k36, k37, h19⟩ := h19
    refine lv_aload_n hx hb dX12_best_20 rfl (lv_at hl 0 rfl) ?_
    have I38 : jI104 σ19 := jI104_fr (f22 10 (by decide)) (f22 12 (by decide)) (f22 13 (by decide)) (f21 62 (by decide)) (f21 67 (by decide)) hI104
    refine jcallV (As := []) (rest := []) ⟨hx, hb, hml, hown, hts⟩ hK hP hA hS hZ (c_X12_isBig l D cI cL ad zz hJ σ19 τ I38 (by omega)) cw_RX12_338 (jc_55 cI cL ad σ19 τ) rfl ⟨Nat.le_of_ble_eq_true rfl, Nat.le_of_ble_eq_true rfl⟩ rfl rfl rfl hl.1 rfl (Nat.le_of_ble_eq_true rfl) dX12_best_21 ⟨Nat.zero_le _, Nat.zero_le _⟩ (fun r40 σ39 τ39 H locs h39 hP hS => ?_)
    obtain ⟨⟨rfl, rfl⟩, h39⟩ := h39
    rcases h39 with h41 | h42
    · obtain ⟨q44, k43⟩ := h41
      have q44 := q44.symm
      subst q44
      refine lv_if_eq (tgt := 30) hx hb dX12_best_24 (by decide) (fun c => absurd c (by decide)) (fun _ => ?_)
      refine lv_bipush (v := (-4)) hx hb dX12_best_27 (by decide) ?_
      have I45 : jI119 σ19 := w32
      have p46 : jKept σ19 := jKept.fr (f21 75 (by decide)) (f21 76 (by decide)) (f21 77 (by decide)) hs_jKept
      have p47 : jTR σ19 := jTR.fr (f21 64 (by decide)) (f21 65 (by decide)) hs_jTR
      exact hret (-4) σ19 τ _ _ _ _ rfl ⟨rfl, (fun i hi => (f21 i (imp_256 i hi))), (fun i hi => (f22 i (imp_257 i hi))), I45, p46, p24, p47, trivial⟩ hP hS dX12_best_29
    · obtain ⟨q49, k48⟩ := h42
      have q49 := q49.symm
      subst q49
      refine lv_if_eq (tgt := 30) hx hb dX12_best_24 (by decide) (fun _ => ?_) (fun c => absurd (by decide) c)
      refine lv_aload_n hx hb dX12_best_30 rfl (lv_at hl 0 rfl) ?_
      refine jcallVv (As := []) (rest := []) ⟨hx, hb, hml, hown, hts⟩ hK hP hA hS hZ (c_X12_forgets l D cI cL ad zz hJ σ19 τ) cw_RX12_341 (jc_55 cI cL ad σ19 τ) rfl ⟨Nat.le_of_ble_eq_true rfl, Nat.le_of_ble_eq_true rfl⟩ rfl rfl rfl hl.1 rfl (Nat.le_of_ble_eq_true rfl) dX12_best_31 ⟨Nat.zero_le _, Nat.zero_le _⟩ (fun σ50 τ50 H locs h50 hP hS => ?_)
      obtain ⟨rfl, f52, f53, h50⟩ := h50
      refine lv_aload_n hx hb dX12_best_34 rfl (lv_at hl 0 rfl) ?_
      have I55 : jI101 σ50 := jI101_fr ((f53 4 (by decide)).trans (f22 4 (by decide))) ((f53 5 (by decide)).trans (f22 5 (by decide))) ((f52 56 (by decide)).trans (f21 56 (by decide))) ((f52 57 (by decide)).trans (f21 57 (by decide))) ((f52 58 (by decide)).trans (f21 58 (by decide))) ((f52 59 (by decide)).trans (f21 59 (by decide))) hI101
      have I56 : jI102 σ50 := jI102_fr ((f53 6 (by decide)).trans (f22 6 (by decide))) ((f52 60 (by decide)).trans (f21 60 (by decide))) ((f52 61 (by decide)).trans (f21 61 (by decide))) hI102
      have I57 : jI103 σ50 := jI103_fr ((f53 9 (by decide)).trans (f22 9 (by decide))) hI103
      have I58 : jI104 σ50 := jI104_fr (f53 10 (by decide)) (f53 12 (by decide)) (f53 13 (by decide)) (f52 62 (by decide)) (f52 67 (by decide)) I38
      have I59 : jI105 σ50 := jI105_fr ((f53 15 (by decide)).trans (f22 15 (by decide))) ((f52 65 (by decide)).trans (f21 65 (by decide))) hI105
      have I60 : jI106 σ50 := jI106_fr ((f53 32 (by decide)).trans (f22 32 (by decide))) ((f52 70 (by decide)).trans (f21 70 (by decide))) ((f52 71 (by decide)).trans (f21 71 (by decide))) ((f52 72 (by decide)).trans (f21 72 (by decide))) hI106
      have I61 : jI120 σ50 := jI120_fr (f53 10 (by decide)) (f53 12 (by decide)) (f53 25 (by decide)) (f53 26 (by decide)) (f53 27 (by decide)) (f52 68 (by decide)) I23
      have p62 : jKept σ50 := jKept.fr ((f52 75 (by decide)).trans (f21 75 (by decide))) ((f52 76 (by decide)).trans (f21 76 (by decide))) ((f52 77 (by decide)).trans (f21 77 (by decide))) hs_jKept
      have p63 : jTR σ50 := jTR.fr ((f52 64 (by decide)).trans (f21 64 (by decide))) ((f52 65 (by decide)).trans (f21 65 (by decide))) hs_jTR
      have z64 : (σ50 55 12).toInt = (σ 55 12).toInt := (congrArg Int32.toInt (show σ50 55 12 = (σ 55 12) from ((f53 12 (by decide)).trans (f22 12 (by decide)))))
      have z65 : (σ50 55 26).toInt = (σ19 55 26).toInt := (congrArg Int32.toInt (show σ50 55 26 = (σ19 55 26) from (f53 26 (by decide))))
      refine jcallV (As := []) (rest := []) ⟨hx, hb, hml, hown, hts⟩ hK hP hA hS hZ ((c_X12_bests l D cI cL ad zz hJ 8).2.1 σ50 τ I55 I56 I57 I58 I59 I60 I61 p62 p63 (by omega)) cw_RX12_280 (jc_55 cI cL ad σ50 τ) rfl ⟨Nat.le_of_ble_eq_true rfl, Nat.le_of_ble_eq_true rfl⟩ rfl rfl rfl hl.1 rfl (Nat.le_of_ble_eq_true rfl) dX12_best_35 ⟨Nat.zero_le _, Nat.zero_le _⟩ (fun r67 σ66 τ66 H locs h66 hP hS => ?_)
      obtain ⟨rfl, f68, f69, p70, p71, h66⟩ := h66
      obtain ⟨k73, h66⟩ := h66
      have h74 := h66
      obtain ⟨q76, k75⟩ := h74
      refine lv_istore_n (lv' := [(2, .int r67), (0, .ref (ad 55)), (1, .int a1)]) hx hb dX12_best_38 rfl hl (by decide) rfl (fun ls hl => ?_)
      refine lv_iload_n hx hb dX12_best_39 rfl (lv_at hl 2 rfl) ?_
      refine lv_if_ne (tgt := 47) hx hb dX12_best_40 (by decide) (fun c77 => ?_) (fun c77 => ?_)
      · have kc77 := jne c77 t1 jz_0
        refine lv_aload_n hx hb dX12_best_47 rfl (lv_at hl 1 rfl) ?_
        refine va_get (D := D) hx hb hts inlX12 hown hK hP 55 (jc_55 cI cL ad σ66 τ) rfl 37 (by decide) (hts _ kw_33_15) (fun _ h9 => h9) rfl dX12_best_48 ?_
        have w78 : ∀ k : Nat, k < 4 → 0 ≤ (σ66 68 k).toInt ∧ (σ66 68 k).toInt ≤ 3 := (jrr_fr (f68 68 (by decide)) (jrr_fr (f52 68 (by decide)) w32))
        have I79 : jI119 σ66 := w78
        have p80 : jBook σ66 := jBook.fr ((f69 47 (by decide)).trans (f53 47 (by decide))) ((f69 10 (by decide)).trans (f53 10 (by decide))) ((f68 81 (by decide)).trans (f52 81 (by decide))) p24
        exact hret (σ66 55 37) σ66 τ _ _ _ _ rfl ⟨rfl, (fun i hi => ((f68 i (imp_258 i hi)).trans ((f52 i (imp_259 i hi)).trans (f21 i (imp_256 i hi))))), (fun i hi => ((f69 i (imp_260 i hi)).trans ((f53 i (imp_261 i hi)).trans (f22 i (imp_257 i hi))))), I79, p70, p80, p71, trivial⟩ hP hS dX12_best_51
      · have kc77 := jeq c77 t1 jz_0
        refine lv_iload_n hx hb dX12_best_43 rfl (lv_at hl 0 rfl) ?_
        refine lv_goto (tgt := 51) hx hb dX12_best_44 (by decide) ?_
        have w81 : ∀ k : Nat, k < 4 → 0 ≤ (σ66 68 k).toInt ∧ (σ66 68 k).toInt ≤ 3 := (jrr_fr (f68 68 (by decide)) (jrr_fr (f52 68 (by decide)) w32))
        have I82 : jI119 σ66 := w81
        have p83 : jBook σ66 := jBook.fr ((f69 47 (by decide)).trans (f53 47 (by decide))) ((f69 10 (by decide)).trans (f53 10 (by decide))) ((f68 81 (by decide)).trans (f52 81 (by decide))) p24
        exact hret r67 σ66 τ _ _ _ _ rfl ⟨rfl, (fun i hi => ((f68 i (imp_258 i hi)).trans ((f52 i (imp_259 i hi)).trans (f21 i (imp_256 i hi))))), (fun i hi => ((f69 i (imp_260 i hi)).trans ((f53 i (imp_261 i hi)).trans (f22 i (imp_257 i hi))))), I82, p70, p83, p71, trivial⟩ hP hS dX12_best_51
  · obtain ⟨q85, k84⟩ := h15
    have q85 := q85.symm
    subst q85
    refine lv_if_ne (tgt := 12) hx hb dX12_best_7 (by decide) (fun c => absurd (by decide) c) (fun _ => ?_)
    refine lv_iconst (v := (-1)) hx hb dX12_best_10 (by decide) ?_
    exact hret (-1) σ τ _ _ _ _ rfl ⟨rfl, (fun _ _ => rfl), (fun _ _ => rfl), hI119, hs_jKept, hs_jBook, hs_jTR, trivial⟩ hP hS dX12_best_11
set_option maxHeartbeats 4000000 in
set_option maxRecDepth 100000 in
theorem c_X12_bestNow (l : Launch) (D : va_G) (cI cL : ClassId) (ad zz : Nat → Nat) (hJ : jD ad) (σ : Nat → Nat → Int32) (τ : Nat → Nat → Int64) (hI101 : jI101 σ) (hI102 : jI102 σ) (hI103 : jI103 σ) (hI104 : jI104 σ) (hI105 : jI105 σ) (hI106 : jI106 σ) (hI119 : jI119 σ) (hs_jKept : jKept σ) (hs_jTR : jTR σ) (hp0 : (σ 55 12).toInt ≤ 8) : jM l yX12_bestNow cX12_bestNow 1 (some .int) ({ frames := 103, cells := 0, slots := 0, locals := 5061 }) D cI cL ad zz [.ref (ad 55)] σ τ (fun r σ' τ' => τ = τ' ∧ (∀ i : Nat, (i < 55 ∨ 55 < i) ∧ (i < 66 ∨ 66 < i) ∧ (i < 68 ∨ 69 < i) ∧ (i < 74 ∨ 78 < i) → σ' i = σ i) ∧ (∀ k : Nat, (k < 18 ∨ 18 < k) ∧ (k < 19 ∨ 19 < k) ∧ (k < 20 ∨ 20 < k) ∧ (k < 21 ∨ 21 < k) ∧ (k < 22 ∨ 22 < k) ∧ (k < 25 ∨ 25 < k) ∧ (k < 26 ∨ 26 < k) ∧ (k < 27 ∨ 27 < k) ∧ (k < 37 ∨ 37 < k) ∧ (k < 42 ∨ 42 < k) → σ' 55 k = σ 55 k) ∧ (jI119 σ') ∧ (jKept σ') ∧ (jTR σ') ∧ True) := by
  refine jM.of hJ (by decide +kernel) (nt := .int) rfl (Nat.le_of_ble_eq_true rfl) ?_
  intro p e s m args below meth c Q ls hC hret hl hP
  obtain ⟨hx, hb, hr, hml, hown, hts, hK, -, hlocks, hZ⟩ := hC
  have hown : s.vm.findClass RX12 = some m.cls := hown
  have hS : va_S (jA ad) s.heap s.heap [] := va_S.rf
  have hA : ∀ q, jA ad q → jA ad q := fun _ h => h
  have hl : lv_has ls 1 [(0, .ref (ad 55))] := hl
  obtain ⟨i1, w2, w3⟩ : (0 ≤ (σ 55 6).toInt ∧ (σ 55 6).toInt ≤ 4) ∧ (∀ k : Nat, k < 4 → 0 ≤ (σ 60 k).toInt ∧ (σ 60 k).toInt ≤ 50) ∧ (∀ k : Nat, k < 4 → 0 ≤ (σ 61 k).toInt ∧ (σ 61 k).toInt ≤ 20) := id hI102
  obtain ⟨i4, i5, i6, w7, w8⟩ : (1 ≤ (σ 55 10).toInt ∧ (σ 55 10).toInt ≤ 8) ∧ (1 ≤ (σ 55 12).toInt ∧ (σ 55 12).toInt ≤ 12) ∧ (0 ≤ (σ 55 13).toInt ∧ (σ 55 13).toInt ≤ 999) ∧ (∀ k : Nat, k < 8 → 0 ≤ (σ 62 k).toInt ∧ (σ 62 k).toInt ≤ 3) ∧ (∀ k : Nat, k < 8 → 0 ≤ (σ 67 k).toInt ∧ (σ 67 k).toInt ≤ 3) := id hI104
  refine lv_aload_n hx hb dX12_bestNow_0 rfl (lv_at hl 0 rfl) ?_
  have w9 : ∀ k : Nat, k < 4 → 0 ≤ (σ 68 k).toInt ∧ (σ 68 k).toInt ≤ 3 := hI119
  refine jcallVv (As := []) (rest := []) ⟨hx, hb, hml, hown, hts⟩ hK hP hA hS hZ (c_X12_begin l D cI cL ad zz hJ σ τ hI104 w9) cw_RX12_256 (jc_55 cI cL ad σ τ) rfl ⟨Nat.le_of_ble_eq_true rfl, Nat.le_of_ble_eq_true rfl⟩ rfl rfl rfl hl.1 rfl (Nat.le_of_ble_eq_true rfl) dX12_bestNow_1 ⟨Nat.zero_le _, Nat.zero_le _⟩ (fun σ10 τ10 H locs h10 hP hS => ?_)
  obtain ⟨rfl, f12, f13, I14, w15, h10⟩ := h10
  obtain ⟨i17, i18, i19, i20, i21, w22⟩ : (0 ≤ (σ10 55 25).toInt) ∧ ((σ10 55 25).toInt ≤ (σ10 55 10).toInt) ∧ (0 ≤ (σ10 55 26).toInt) ∧ ((σ10 55 26).toInt ≤ (σ10 55 12).toInt) ∧ ((-1) ≤ (σ10 55 27).toInt ∧ (σ10 55 27).toInt ≤ 3) ∧ (∀ k : Nat, k < 4 → 0 ≤ (σ10 68 k).toInt ∧ (σ10 68 k).toInt ≤ 3) := id I14
  have z23 : (σ10 55 10).toInt = (σ 55 10).toInt := (congrArg Int32.toInt (show σ10 55 10 = (σ 55 10) from (f13 10 (by decide))))
  have z24 : (σ10 55 12).toInt = (σ 55 12).toInt := (congrArg Int32.toInt (show σ10 55 12 = (σ 55 12) from (f13 12 (by decide))))
  obtain ⟨k25, k26, k27, h10⟩ := h10
  refine lv_aload_n hx hb dX12_bestNow_4 rfl (lv_at hl 0 rfl) ?_
  refine jcallVv (As := []) (rest := []) ⟨hx, hb, hml, hown, hts⟩ hK hP hA hS hZ (c_X12_forgets l D cI cL ad zz hJ σ10 τ) cw_RX12_341 (jc_55 cI cL ad σ10 τ) rfl ⟨Nat.le_of_ble_eq_true rfl, Nat.le_of_ble_eq_true rfl⟩ rfl rfl rfl hl.1 rfl (Nat.le_of_ble_eq_true rfl) dX12_bestNow_5 ⟨Nat.zero_le _, Nat.zero_le _⟩ (fun σ28 τ28 H locs h28 hP hS => ?_)
  obtain ⟨rfl, f30, f31, h28⟩ := h28
  refine lv_aload_n hx hb dX12_bestNow_8 rfl (lv_at hl 0 rfl) ?_
  have I33 : jI101 σ28 := jI101_fr ((f31 4 (by decide)).trans (f13 4 (by decide))) ((f31 5 (by decide)).trans (f13 5 (by decide))) ((f30 56 (by decide)).trans (f12 56 (by decide))) ((f30 57 (by decide)).trans (f12 57 (by decide))) ((f30 58 (by decide)).trans (f12 58 (by decide))) ((f30 59 (by decide)).trans (f12 59 (by decide))) hI101
  have I34 : jI102 σ28 := jI102_fr ((f31 6 (by decide)).trans (f13 6 (by decide))) ((f30 60 (by decide)).trans (f12 60 (by decide))) ((f30 61 (by decide)).trans (f12 61 (by decide))) hI102
  have I35 : jI103 σ28 := jI103_fr ((f31 9 (by decide)).trans (f13 9 (by decide))) hI103
  have I36 : jI104 σ28 := jI104_fr ((f31 10 (by decide)).trans (f13 10 (by decide))) ((f31 12 (by decide)).trans (f13 12 (by decide))) ((f31 13 (by decide)).trans (f13 13 (by decide))) ((f30 62 (by decide)).trans (f12 62 (by decide))) ((f30 67 (by decide)).trans (f12 67 (by decide))) hI104
  have I37 : jI105 σ28 := jI105_fr ((f31 15 (by decide)).trans (f13 15 (by decide))) ((f30 65 (by decide)).trans (f12 65 (by decide))) hI105
  have I38 : jI106 σ28 := jI106_fr ((f31 32 (by decide)).trans (f13 32 (by decide))) ((f30 70 (by decide)).trans (f12 70 (by decide))) ((f30 71 (by decide)).trans (f12 71 (by decide))) ((f30 72 (by decide)).trans (f12 72 (by decide))) hI106
  have I39 : jI120 σ28 := jI120_fr (f31 10 (by decide)) (f31 12 (by decide)) (f31 25 (by decide)) (f31 26 (by decide)) (f31 27 (by decide)) (f30 68 (by decide)) I14
  have p40 : jKept σ28 := jKept.fr ((f30 75 (by decide)).trans (f12 75 (by decide))) ((f30 76 (by decide)).trans (f12 76 (by decide))) ((f30 77 (by decide)).trans (f12 77 (by decide))) hs_jKept
  have p41 : jTR σ28 := jTR.fr ((f30 64 (by decide)).trans (f12 64 (by decide))) ((f30 65 (by decide)).trans (f12 65 (by decide))) hs_jTR
  have z42 : (σ28 55 12).toInt = (σ 55 12).toInt := (congrArg Int32.toInt (show σ28 55 12 = (σ 55 12) from ((f31 12 (by decide)).trans (f13 12 (by decide)))))
  have z43 : (σ28 55 26).toInt = (σ10 55 26).toInt := (congrArg Int32.toInt (show σ28 55 26 = (σ10 55 26) from (f31 26 (by decide))))
  refine jcallV (As := []) (rest := []) ⟨hx, hb, hml, hown, hts⟩ hK hP hA hS hZ ((c_X12_bests l D cI cL ad zz hJ 8).2.1 σ28 τ I33 I34 I35 I36 I37 I38 I39 p40 p41 (by omega)) cw_RX12_280 (jc_55 cI cL ad σ28 τ) rfl ⟨Nat.le_of_ble_eq_true rfl, Nat.le_of_ble_eq_true rfl⟩ rfl rfl rfl hl.1 rfl (Nat.le_of_ble_eq_true rfl) dX12_bestNow_9 ⟨Nat.zero_le _, Nat.zero_le _⟩ (fun r45 σ44 τ44 H locs h44 hP hS => ?_)
  obtain ⟨rfl, f46, f47, p48, p49, h44⟩ := h44
  obtain ⟨k51, h44⟩ := h44
  have h52 := h44
  obtain ⟨q54, k53⟩ := h52
  have w55 : ∀ k : Nat, k < 4 → 0 ≤ (σ44 68 k).toInt ∧ (σ44 68 k).toInt ≤ 3 := (jrr_fr (f46 68 (by decide)) (jrr_fr (f30 68 (by decide)) w22))
  have I56 : jI119 σ44 := w55
  exact hret r45 σ44 τ _ _ _ _ rfl ⟨rfl, (fun i hi => ((f46 i (imp_258 i hi)).trans ((f30 i (imp_259 i hi)).trans (f12 i (imp_256 i hi))))), (fun i hi => ((f47 i (imp_260 i hi)).trans ((f31 i (imp_261 i hi)).trans (f13 i (imp_257 i hi))))), I56, p48, p49, trivial⟩ hP hS dX12_bestNow_12
set_option maxHeartbeats 4000000 in
set_option maxRecDepth 100000 in
theorem c_X12_worth (l : Launch) (D : va_G) (cI cL : ClassId) (ad zz : Nat → Nat) (hJ : jD ad) (σ : Nat → Nat → Int32) (τ : Nat → Nat → Int64) (a1 : Int32) (A1 : Int) (t1 : a1.toInt = A1) (a2 : Int32) (A2 : Int) (t2 : a2.toInt = A2) (hI101 : jI101 σ) (hI102 : jI102 σ) (hI103 : jI103 σ) (hI104 : jI104 σ) (hI105 : jI105 σ) (hI106 : jI106 σ) (hI119 : jI119 σ) (hs_jKept : jKept σ) (hs_jTR : jTR σ) : jM l yX12_worth cX12_worth 5 (some .int) ({ frames := 104, cells := 0, slots := 0, locals := 5081 }) D cI cL ad zz [.ref (ad 55), .int a1, .int a2] σ τ (fun r σ' τ' => τ = τ' ∧ (∀ i : Nat, (i < 55 ∨ 55 < i) ∧ (i < 66 ∨ 66 < i) ∧ (i < 68 ∨ 69 < i) ∧ (i < 74 ∨ 78 < i) → σ' i = σ i) ∧ (∀ k : Nat, (k < 18 ∨ 18 < k) ∧ (k < 19 ∨ 19 < k) ∧ (k < 20 ∨ 20 < k) ∧ (k < 21 ∨ 21 < k) ∧ (k < 22 ∨ 22 < k) ∧ (k < 25 ∨ 25 < k) ∧ (k < 26 ∨ 26 < k) ∧ (k < 27 ∨ 27 < k) ∧ (k < 30 ∨ 30 < k) ∧ (k < 31 ∨ 31 < k) ∧ (k < 37 ∨ 37 < k) ∧ (k < 42 ∨ 42 < k) → σ' 55 k = σ 55 k) ∧ (jI119 σ') ∧ (jKept σ') ∧ (jTR σ') ∧ (((σ' 55 30).toInt = (-1) ∧ (σ' 55 31).toInt = (-1)) ∨ ((σ' 55 30).toInt = (σ 55 30).toInt ∧ (σ' 55 31).toInt = (σ 55 31).toInt)) ∧ True) := by
  refine jM.of hJ (by decide +kernel) (nt := .int) rfl (Nat.le_of_ble_eq_true rfl) ?_
  intro p e s m args below meth c Q ls hC hret hl hP
  obtain ⟨hx, hb, hr, hml, hown, hts, hK, -, hlocks, hZ⟩ := hC
  have hown : s.vm.findClass RX12 = some m.cls := hown
  have hS : va_S (jA ad) s.heap s.heap [] := va_S.rf
  have hA : ∀ q, jA ad q → jA ad q := fun _ h => h
  have hl : lv_has ls 5 [(0, .ref (ad 55)), (1, .int a1), (2, .int a2)] := hl
  have g1 := jrg t1
  have g2 := jrg t2
  obtain ⟨i1, w2, w3⟩ : (0 ≤ (σ 55 6).toInt ∧ (σ 55 6).toInt ≤ 4) ∧ (∀ k : Nat, k < 4 → 0 ≤ (σ 60 k).toInt ∧ (σ 60 k).toInt ≤ 50) ∧ (∀ k : Nat, k < 4 → 0 ≤ (σ 61 k).toInt ∧ (σ 61 k).toInt ≤ 20) := id hI102
  obtain ⟨i4, i5, i6, w7, w8⟩ : (1 ≤ (σ 55 10).toInt ∧ (σ 55 10).toInt ≤ 8) ∧ (1 ≤ (σ 55 12).toInt ∧ (σ 55 12).toInt ≤ 12) ∧ (0 ≤ (σ 55 13).toInt ∧ (σ 55 13).toInt ≤ 999) ∧ (∀ k : Nat, k < 8 → 0 ≤ (σ 62 k).toInt ∧ (σ 62 k).toInt ≤ 3) ∧ (∀ k : Nat, k < 8 → 0 ≤ (σ 67 k).toInt ∧ (σ 67 k).toInt ≤ 3) := id hI104
  refine lv_aload_n hx hb dX12_worth_0 rfl (lv_at hl 0 rfl) ?_
  refine lv_iload_n hx hb dX12_worth_1 rfl (lv_at hl 1 rfl) ?_
  refine jcallV (As := [.int a1]) (rest := []) ⟨hx, hb, hml, hown, hts⟩ hK hP hA hS hZ (c_X12_isBowler l D cI cL ad zz hJ σ τ a1 (A1) t1 hI102) cw_RX12_146 (jc_55 cI cL ad σ τ) rfl ⟨Nat.le_of_ble_eq_true rfl, Nat.le_of_ble_eq_true rfl⟩ rfl rfl rfl hl.1 rfl (Nat.le_of_ble_eq_true rfl) dX12_worth_2 ⟨Nat.zero_le _, Nat.zero_le _⟩ (fun r10 σ9 τ9 H locs h9 hP hS => ?_)
  obtain ⟨⟨rfl, rfl⟩, h9⟩ := h9
  rcases h9 with h11 | h12
  · obtain ⟨q14, k13⟩ := h11
    have q14 := q14.symm
    subst q14
    refine lv_if_eq (tgt := 27) hx hb dX12_worth_5 (by decide) (fun c => absurd c (by decide)) (fun _ => ?_)
    refine lv_iload_n hx hb dX12_worth_8 rfl (lv_at hl 2 rfl) ?_
    refine lv_i2l (v := a2.toInt64) hx hb dX12_worth_9 rfl ?_
    refine lv_lconst (v := 0) hx hb dX12_worth_10 (by decide) ?_
    refine lv_lconst (v := 1) hx hb dX12_worth_11 (by decide) ?_
    refine jcallS (As := [.long a2.toInt64, .long 0, .long 1]) (rest := []) ⟨hx, hb, hml, hown, hts⟩ hK hP hA hS hZ (c_X12_within l D cI cL ad zz hJ σ τ a2.toInt64 (A2) (jtoL t2) 0 (0) jzl_0 1 (1) jzl_1) cw_RX12_136 ⟨Nat.le_of_ble_eq_true rfl, Nat.le_of_ble_eq_true rfl⟩ rfl rfl rfl hl.1 rfl (Nat.le_of_ble_eq_true rfl) dX12_worth_12 ⟨Nat.zero_le _, Nat.zero_le _⟩ (fun r16 σ15 τ15 H locs h15 hP hS => ?_)
    obtain ⟨⟨rfl, rfl⟩, h15⟩ := h15
    rcases h15 with h17 | h18
    · obtain ⟨q20, k19⟩ := h17
      have q20 := q20.symm
      subst q20
      refine lv_if_eq (tgt := 27) hx hb dX12_worth_15 (by decide) (fun c => absurd c (by decide)) (fun _ => ?_)
      refine lv_aload_n hx hb dX12_worth_18 rfl (lv_at hl 0 rfl) ?_
      refine va_get (D := D) hx hb hts inlX12 hown hK hP 55 (jc_55 cI cL ad σ τ) rfl 12 (by decide) (hts _ kw_8_16) (fun _ h9 => h9) rfl dX12_worth_19 ?_
      refine lv_bipush (v := 8) hx hb dX12_worth_22 (by decide) ?_
      refine lv_icmp_le (tgt := 30) hx hb dX12_worth_24 (by decide) (fun c21 => ?_) (fun c21 => ?_)
      · have kc21 := jle c21 rfl jz_8
        refine lv_aload_n hx hb dX12_worth_30 rfl (lv_at hl 0 rfl) ?_
        refine jcallV (As := []) (rest := []) ⟨hx, hb, hml, hown, hts⟩ hK hP hA hS hZ (c_X12_bestNow l D cI cL ad zz hJ σ τ hI101 hI102 hI103 hI104 hI105 hI106 hI119 hs_jKept hs_jTR (by omega)) cw_RX12_346 (jc_55 cI cL ad σ τ) rfl ⟨Nat.le_of_ble_eq_true rfl, Nat.le_of_ble_eq_true rfl⟩ rfl rfl rfl hl.1 rfl (Nat.le_of_ble_eq_true rfl) dX12_worth_31 ⟨Nat.zero_le _, Nat.zero_le _⟩ (fun r23 σ22 τ22 H locs h22 hP hS => ?_)
        obtain ⟨rfl, f24, f25, I26, p27, p28, h22⟩ := h22
        refine lv_istore_n (lv' := [(3, .int r23), (0, .ref (ad 55)), (1, .int a1), (2, .int a2)]) hx hb dX12_worth_34 rfl hl (by decide) rfl (fun ls hl => ?_)
        refine lv_iload_n hx hb dX12_worth_35 rfl (lv_at hl 3 rfl) ?_
        refine lv_if_ne (tgt := 47) hx hb dX12_worth_36 (by decide) (fun c30 => ?_) (fun c30 => ?_)
        · have kc30 := jne c30 t2 jz_0
          refine lv_aload_n hx hb dX12_worth_47 rfl (lv_at hl 1 rfl) ?_
          refine lv_iload_n hx hb dX12_worth_48 rfl (lv_at hl 2 rfl) ?_
          refine jput (ty := .int) hx hb hts inlX12 tyX12 tyX12_ok nmX12 hown hK hP hJ hA hS (jc_55 cI cL ad σ22 τ) rfl (k := 31) (by decide) (Nat.le_of_ble_eq_true rfl) (jp_55_31 cI cL ad σ22 τ a1) (hts _ kw_7_17) (fun _ h9 => h9) rfl (by decide +kernel) rfl rfl dX12_worth_49 (fun σ31 H locs eσ31 hP hS => ?_)
          refine lv_aload_n hx hb dX12_worth_52 rfl (lv_at hl 1 rfl) ?_
          have I32 : jI101 σ31 := jI101_fr ((jkp 4 eσ31 (by decide)).trans (f25 4 (by decide))) ((jkp 5 eσ31 (by decide)).trans (f25 5 (by decide))) ((jnp 56 eσ31 (by decide)).trans (f24 56 (by decide))) ((jnp 57 eσ31 (by decide)).trans (f24 57 (by decide))) ((jnp 58 eσ31 (by decide)).trans (f24 58 (by decide))) ((jnp 59 eσ31 (by decide)).trans (f24 59 (by decide))) hI101
          have I33 : jI102 σ31 := jI102_fr ((jkp 6 eσ31 (by decide)).trans (f25 6 (by decide))) ((jnp 60 eσ31 (by decide)).trans (f24 60 (by decide))) ((jnp 61 eσ31 (by decide)).trans (f24 61 (by decide))) hI102
          have I34 : jI103 σ31 := jI103_fr ((jkp 9 eσ31 (by decide)).trans (f25 9 (by decide))) hI103
          have I35 : jI104 σ31 := jI104_fr ((jkp 10 eσ31 (by decide)).trans (f25 10 (by decide))) ((jkp 12 eσ31 (by decide)).trans (f25 12 (by decide))) ((jkp 13 eσ31 (by decide)).trans (f25 13 (by decide))) ((jnp 62 eσ31 (by decide)).trans (f24 62 (by decide))) ((jnp 67 eσ31 (by decide)).trans (f24 67 (by decide))) hI104
          have I36 : jI105 σ31 := jI105_fr ((jkp 15 eσ31 (by decide)).trans (f25 15 (by decide))) ((jnp 65 eσ31 (by decide)).trans (f24 65 (by decide))) hI105
          have I37 : jI106 σ31 := jI106_fr ((jkp 32 eσ31 (by decide)).trans (f25 32 (by decide))) ((jnp 70 eσ31 (by decide)).trans (f24 70 (by decide))) ((jnp 71 eσ31 (by decide)).trans (f24 71 (by decide))) ((jnp 72 eσ31 (by decide)).trans (f24 72 (by decide))) hI106
          have I38 : jI119 σ31 := jI119_fr (jnp 68 eσ31 (by decide)) I26
          have p39 : jKept σ31 := jKept.fr (jnp 75 eσ31 (by decide)) (jnp 76 eσ31 (by decide)) (jnp 77 eσ31 (by decide)) p27
          have p40 : jTR σ31 := jTR.fr (jnp 64 eσ31 (by decide)) (jnp 65 eσ31 (by decide)) p28
          have z41 : (σ31 55 12).toInt = (σ 55 12).toInt := (congrArg Int32.toInt (show σ31 55 12 = (σ 55 12) from ((jkp 12 eσ31 (by decide)).trans (f25 12 (by decide)))))
          refine jcallV (As := []) (rest := []) ⟨hx, hb, hml, hown, hts⟩ hK hP hA hS hZ (c_X12_bestNow l D cI cL ad zz hJ σ31 τ I32 I33 I34 I35 I36 I37 I38 p39 p40 (by omega)) cw_RX12_346 (jc_55 cI cL ad σ31 τ) rfl ⟨Nat.le_of_ble_eq_true rfl, Nat.le_of_ble_eq_true rfl⟩ rfl rfl rfl hl.1 rfl (Nat.le_of_ble_eq_true rfl) dX12_worth_53 ⟨Nat.zero_le _, Nat.zero_le _⟩ (fun r43 σ42 τ42 H locs h42 hP hS => ?_)
          obtain ⟨rfl, f44, f45, I46, p47, p48, h42⟩ := h42
          refine lv_istore (lv' := [(4, .int r43), (3, .int r23), (0, .ref (ad 55)), (1, .int a1), (2, .int a2)]) hx hb dX12_worth_56 hl (by decide) rfl (fun ls hl => ?_)
          refine lv_aload_n hx hb dX12_worth_58 rfl (lv_at hl 2 rfl) ?_
          refine lv_iconst (v := (-1)) hx hb dX12_worth_59 (by decide) ?_
          refine jput (ty := .int) hx hb hts inlX12 tyX12 tyX12_ok nmX12 hown hK hP hJ hA hS (jc_55 cI cL ad σ42 τ) rfl (k := 30) (by decide) (Nat.le_of_ble_eq_true rfl) (jp_55_30 cI cL ad σ42 τ (-1)) (hts _ kw_7_16) (fun _ h9 => h9) rfl (by decide +kernel) rfl rfl dX12_worth_60 (fun σ50 H locs eσ50 hP hS => ?_)
          refine lv_aload_n hx hb dX12_worth_63 rfl (lv_at hl 2 rfl) ?_
          refine lv_iconst (v := (-1)) hx hb dX12_worth_64 (by decide) ?_
          refine jput (ty := .int) hx hb hts inlX12 tyX12 tyX12_ok nmX12 hown hK hP hJ hA hS (jc_55 cI cL ad σ50 τ) rfl (k := 31) (by decide) (Nat.le_of_ble_eq_true rfl) (jp_55_31 cI cL ad σ50 τ (-1)) (hts _ kw_7_17) (fun _ h9 => h9) rfl (by decide +kernel) rfl rfl dX12_worth_65 (fun σ51 H locs eσ51 hP hS => ?_)
          refine lv_iload_n hx hb dX12_worth_68 rfl (lv_at hl 4 rfl) ?_
          refine lv_if_ne (tgt := 79) hx hb dX12_worth_69 (by decide) (fun c52 => ?_) (fun c => absurd (jeq c t2 jz_0) (by omega))
          have kc52 := jne c52 t2 jz_0
          refine lv_iload_n hx hb dX12_worth_79 rfl (lv_at hl 1 rfl) ?_
          refine lv_iload hx hb dX12_worth_80 (lv_at hl 0 rfl) ?_
          have g53 := jrg (rfl : r23.toInt = r23.toInt)
          have g54 := jrg (rfl : r43.toInt = r43.toInt)
          refine lv_isub hx hb dX12_worth_82 ?_
          refine lv_topi (fun x55 ex55 => ?_)
          have gx55 := jrg (rfl : x55.toInt = x55.toInt)
          have I56 : jI119 σ51 := jI119_fr ((jnp 68 eσ51 (by decide)).trans (jnp 68 eσ50 (by decide))) I46
          have p57 : jKept σ51 := jKept.fr ((jnp 75 eσ51 (by decide)).trans (jnp 75 eσ50 (by decide))) ((jnp 76 eσ51 (by decide)).trans (jnp 76 eσ50 (by decide))) ((jnp 77 eσ51 (by decide)).trans (jnp 77 eσ50 (by decide))) p47
          have p58 : jTR σ51 := jTR.fr ((jnp 64 eσ51 (by decide)).trans (jnp 64 eσ50 (by decide))) ((jnp 65 eσ51 (by decide)).trans (jnp 65 eσ50 (by decide))) p48
          have z59 : (σ51 55 30).toInt = (-1) := ((congrArg Int32.toInt (show σ51 55 30 = (-1) from ((jkp 30 eσ51 (by decide)).trans (jsp eσ50)))).trans jz_m1)
          have z60 : (σ51 55 31).toInt = (-1) := ((congrArg Int32.toInt (show σ51 55 31 = (-1) from (jsp eσ51))).trans jz_m1)
          exact hret x55 σ51 τ _ _ _ _ rfl ⟨rfl, (fun i hi => ((jnp i eσ51 (imp_262 i hi)).trans ((jnp i eσ50 (imp_262 i hi)).trans ((f44 i hi).trans ((jnp i eσ31 (imp_262 i hi)).trans (f24 i hi)))))), (fun i hi => ((jkp i eσ51 (imp_263 i hi)).trans ((jkp i eσ50 (imp_264 i hi)).trans ((f45 i (imp_265 i hi)).trans ((jkp i eσ31 (imp_263 i hi)).trans (f25 i (imp_265 i hi))))))), I56, p57, p58, (by omega), trivial⟩ hP hS dX12_worth_83
        · have kc30 := jeq c30 t2 jz_0
          refine lv_aload_n hx hb dX12_worth_39 rfl (lv_at hl 1 rfl) ?_
          refine lv_iload_n hx hb dX12_worth_40 rfl (lv_at hl 2 rfl) ?_
          refine jput (ty := .int) hx hb hts inlX12 tyX12 tyX12_ok nmX12 hown hK hP hJ hA hS (jc_55 cI cL ad σ22 τ) rfl (k := 30) (by decide) (Nat.le_of_ble_eq_true rfl) (jp_55_30 cI cL ad σ22 τ a1) (hts _ kw_7_16) (fun _ h9 => h9) rfl (by decide +kernel) rfl rfl dX12_worth_41 (fun σ61 H locs eσ61 hP hS => ?_)
          refine lv_goto (tgt := 52) hx hb dX12_worth_44 (by decide) ?_
          refine lv_aload_n hx hb dX12_worth_52 rfl (lv_at hl 1 rfl) ?_
          have I62 : jI101 σ61 := jI101_fr ((jkp 4 eσ61 (by decide)).trans (f25 4 (by decide))) ((jkp 5 eσ61 (by decide)).trans (f25 5 (by decide))) ((jnp 56 eσ61 (by decide)).trans (f24 56 (by decide))) ((jnp 57 eσ61 (by decide)).trans (f24 57 (by decide))) ((jnp 58 eσ61 (by decide)).trans (f24 58 (by decide))) ((jnp 59 eσ61 (by decide)).trans (f24 59 (by decide))) hI101
          have I63 : jI102 σ61 := jI102_fr ((jkp 6 eσ61 (by decide)).trans (f25 6 (by decide))) ((jnp 60 eσ61 (by decide)).trans (f24 60 (by decide))) ((jnp 61 eσ61 (by decide)).trans (f24 61 (by decide))) hI102
          have I64 : jI103 σ61 := jI103_fr ((jkp 9 eσ61 (by decide)).trans (f25 9 (by decide))) hI103
          have I65 : jI104 σ61 := jI104_fr ((jkp 10 eσ61 (by decide)).trans (f25 10 (by decide))) ((jkp 12 eσ61 (by decide)).trans (f25 12 (by decide))) ((jkp 13 eσ61 (by decide)).trans (f25 13 (by decide))) ((jnp 62 eσ61 (by decide)).trans (f24 62 (by decide))) ((jnp 67 eσ61 (by decide)).trans (f24 67 (by decide))) hI104
          have I66 : jI105 σ61 := jI105_fr ((jkp 15 eσ61 (by decide)).trans (f25 15 (by decide))) ((jnp 65 eσ61 (by decide)).trans (f24 65 (by decide))) hI105
          have I67 : jI106 σ61 := jI106_fr ((jkp 32 eσ61 (by decide)).trans (f25 32 (by decide))) ((jnp 70 eσ61 (by decide)).trans (f24 70 (by decide))) ((jnp 71 eσ61 (by decide)).trans (f24 71 (by decide))) ((jnp 72 eσ61 (by decide)).trans (f24 72 (by decide))) hI106
          have I68 : jI119 σ61 := jI119_fr (jnp 68 eσ61 (by decide)) I26
          have p69 : jKept σ61 := jKept.fr (jnp 75 eσ61 (by decide)) (jnp 76 eσ61 (by decide)) (jnp 77 eσ61 (by decide)) p27
          have p70 : jTR σ61 := jTR.fr (jnp 64 eσ61 (by decide)) (jnp 65 eσ61 (by decide)) p28
          have z71 : (σ61 55 12).toInt = (σ 55 12).toInt := (congrArg Int32.toInt (show σ61 55 12 = (σ 55 12) from ((jkp 12 eσ61 (by decide)).trans (f25 12 (by decide)))))
          refine jcallV (As := []) (rest := []) ⟨hx, hb, hml, hown, hts⟩ hK hP hA hS hZ (c_X12_bestNow l D cI cL ad zz hJ σ61 τ I62 I63 I64 I65 I66 I67 I68 p69 p70 (by omega)) cw_RX12_346 (jc_55 cI cL ad σ61 τ) rfl ⟨Nat.le_of_ble_eq_true rfl, Nat.le_of_ble_eq_true rfl⟩ rfl rfl rfl hl.1 rfl (Nat.le_of_ble_eq_true rfl) dX12_worth_53 ⟨Nat.zero_le _, Nat.zero_le _⟩ (fun r73 σ72 τ72 H locs h72 hP hS => ?_)
          obtain ⟨rfl, f74, f75, I76, p77, p78, h72⟩ := h72
          refine lv_istore (lv' := [(4, .int r73), (3, .int r23), (0, .ref (ad 55)), (1, .int a1), (2, .int a2)]) hx hb dX12_worth_56 hl (by decide) rfl (fun ls hl => ?_)
          refine lv_aload_n hx hb dX12_worth_58 rfl (lv_at hl 2 rfl) ?_
          refine lv_iconst (v := (-1)) hx hb dX12_worth_59 (by decide) ?_
          refine jput (ty := .int) hx hb hts inlX12 tyX12 tyX12_ok nmX12 hown hK hP hJ hA hS (jc_55 cI cL ad σ72 τ) rfl (k := 30) (by decide) (Nat.le_of_ble_eq_true rfl) (jp_55_30 cI cL ad σ72 τ (-1)) (hts _ kw_7_16) (fun _ h9 => h9) rfl (by decide +kernel) rfl rfl dX12_worth_60 (fun σ80 H locs eσ80 hP hS => ?_)
          refine lv_aload_n hx hb dX12_worth_63 rfl (lv_at hl 2 rfl) ?_
          refine lv_iconst (v := (-1)) hx hb dX12_worth_64 (by decide) ?_
          refine jput (ty := .int) hx hb hts inlX12 tyX12 tyX12_ok nmX12 hown hK hP hJ hA hS (jc_55 cI cL ad σ80 τ) rfl (k := 31) (by decide) (Nat.le_of_ble_eq_true rfl) (jp_55_31 cI cL ad σ80 τ (-1)) (hts _ kw_7_17) (fun _ h9 => h9) rfl (by decide +kernel) rfl rfl dX12_worth_65 (fun σ81 H locs eσ81 hP hS => ?_)
          refine lv_iload_n hx hb dX12_worth_68 rfl (lv_at hl 4 rfl) ?_
          refine lv_if_ne (tgt := 79) hx hb dX12_worth_69 (by decide) (fun c => absurd (jne c t2 jz_0) (by omega)) (fun c82 => ?_)
          have kc82 := jeq c82 t2 jz_0
          refine lv_iload hx hb dX12_worth_72 (lv_at hl 0 rfl) ?_
          refine lv_iload_n hx hb dX12_worth_74 rfl (lv_at hl 1 rfl) ?_
          have g83 := jrg (rfl : r73.toInt = r73.toInt)
          have g84 := jrg (rfl : r23.toInt = r23.toInt)
          refine lv_isub hx hb dX12_worth_75 ?_
          refine lv_topi (fun x85 ex85 => ?_)
          have gx85 := jrg (rfl : x85.toInt = x85.toInt)
          refine lv_goto (tgt := 83) hx hb dX12_worth_76 (by decide) ?_
          have I86 : jI119 σ81 := jI119_fr ((jnp 68 eσ81 (by decide)).trans (jnp 68 eσ80 (by decide))) I76
          have p87 : jKept σ81 := jKept.fr ((jnp 75 eσ81 (by decide)).trans (jnp 75 eσ80 (by decide))) ((jnp 76 eσ81 (by decide)).trans (jnp 76 eσ80 (by decide))) ((jnp 77 eσ81 (by decide)).trans (jnp 77 eσ80 (by decide))) p77
          have p88 : jTR σ81 := jTR.fr ((jnp 64 eσ81 (by decide)).trans (jnp 64 eσ80 (by decide))) ((jnp 65 eσ81 (by decide)).trans (jnp 65 eσ80 (by decide))) p78
          have z89 : (σ81 55 30).toInt = (-1) := ((congrArg Int32.toInt (show σ81 55 30 = (-1) from ((jkp 30 eσ81 (by decide)).trans (jsp eσ80)))).trans jz_m1)
          have z90 : (σ81 55 31).toInt = (-1) := ((congrArg Int32.toInt (show σ81 55 31 = (-1) from (jsp eσ81))).trans jz_m1)
          exact hret x85 σ81 τ _ _ _ _ rfl ⟨rfl, (fun i hi => ((jnp i eσ81 (imp_262 i hi)).trans ((jnp i eσ80 (imp_262 i hi)).trans ((f74 i hi).trans ((jnp i eσ61 (imp_262 i hi)).trans (f24 i hi)))))), (fun i hi => ((jkp i eσ81 (imp_263 i hi)).trans ((jkp i eσ80 (imp_264 i hi)).trans ((f75 i (imp_265 i hi)).trans ((jkp i eσ61 (imp_264 i hi)).trans (f25 i (imp_265 i hi))))))), I86, p87, p88, (by omega), trivial⟩ hP hS dX12_worth_83
      · have kc21 := jnle c21 rfl jz_8
        refine lv_ldc (v := (-2000000000)) hx hb hown (hts _ kw_11_4) dX12_worth_27 ?_
        exact hret (-2000000000) σ τ _ _ _ _ rfl ⟨rfl, (fun _ _ => rfl), (fun _ _ => rfl), hI119, hs_jKept, hs_jTR, (by omega), trivial⟩ hP hS dX12_worth_29
    · obtain ⟨q92, k91⟩ := h18
      have q92 := q92.symm
      subst q92
      refine lv_if_eq (tgt := 27) hx hb dX12_worth_15 (by decide) (fun _ => ?_) (fun c => absurd (by decide) c)
      refine lv_ldc (v := (-2000000000)) hx hb hown (hts _ kw_11_4) dX12_worth_27 ?_
      exact hret (-2000000000) σ τ _ _ _ _ rfl ⟨rfl, (fun _ _ => rfl), (fun _ _ => rfl), hI119, hs_jKept, hs_jTR, (by omega), trivial⟩ hP hS dX12_worth_29
  · obtain ⟨q94, k93⟩ := h12
    have q94 := q94.symm
    subst q94
    refine lv_if_eq (tgt := 27) hx hb dX12_worth_5 (by decide) (fun _ => ?_) (fun c => absurd (by decide) c)
    refine lv_ldc (v := (-2000000000)) hx hb hown (hts _ kw_11_4) dX12_worth_27 ?_
    exact hret (-2000000000) σ τ _ _ _ _ rfl ⟨rfl, (fun _ _ => rfl), (fun _ _ => rfl), hI119, hs_jKept, hs_jTR, (by omega), trivial⟩ hP hS dX12_worth_29
set_option maxHeartbeats 4000000 in
set_option maxRecDepth 100000 in
theorem c_X12_fielded (l : Launch) (D : va_G) (cI cL : ClassId) (ad zz : Nat → Nat) (hJ : jD ad) (σ : Nat → Nat → Int32) (τ : Nat → Nat → Int64) (a1 : Int32) (A1 : Int) (t1 : a1.toInt = A1) (a2 : Int32) (A2 : Int) (t2 : a2.toInt = A2) (hI101 : jI101 σ) (hI102 : jI102 σ) (hI103 : jI103 σ) (hI104 : jI104 σ) (hI105 : jI105 σ) (hI106 : jI106 σ) (hI119 : jI119 σ) (hs_jKept : jKept σ) (hs_jTR : jTR σ) : jM l yX12_fielded cX12_fielded 9 (some .int) ({ frames := 104, cells := 0, slots := 0, locals := 5081 }) D cI cL ad zz [.ref (ad 55), .int a1, .int a2] σ τ (fun r σ' τ' => τ = τ' ∧ (∀ i : Nat, (i < 55 ∨ 55 < i) ∧ (i < 66 ∨ 66 < i) ∧ (i < 68 ∨ 69 < i) ∧ (i < 74 ∨ 78 < i) → σ' i = σ i) ∧ (∀ k : Nat, (k < 9 ∨ 9 < k) ∧ (k < 18 ∨ 18 < k) ∧ (k < 19 ∨ 19 < k) ∧ (k < 20 ∨ 20 < k) ∧ (k < 21 ∨ 21 < k) ∧ (k < 22 ∨ 22 < k) ∧ (k < 25 ∨ 25 < k) ∧ (k < 26 ∨ 26 < k) ∧ (k < 27 ∨ 27 < k) ∧ (k < 37 ∨ 37 < k) ∧ (k < 42 ∨ 42 < k) → σ' 55 k = σ 55 k) ∧ (jI103 σ') ∧ (jI119 σ') ∧ (jKept σ') ∧ (jTR σ') ∧ ((σ' 55 9).toInt = (σ 55 9).toInt) ∧ True) := by
  refine jM.of hJ (by decide +kernel) (nt := .int) rfl (Nat.le_of_ble_eq_true rfl) ?_
  intro p e s m args below meth c Q ls hC hret hl hP
  obtain ⟨hx, hb, hr, hml, hown, hts, hK, -, hlocks, hZ⟩ := hC
  have hown : s.vm.findClass RX12 = some m.cls := hown
  have hS : va_S (jA ad) s.heap s.heap [] := va_S.rf
  have hA : ∀ q, jA ad q → jA ad q := fun _ h => h
  have hl : lv_has ls 9 [(0, .ref (ad 55)), (1, .int a1), (2, .int a2)] := hl
  have g1 := jrg t1
  have g2 := jrg t2
  have i1 : 0 ≤ (σ 55 9).toInt ∧ (σ 55 9).toInt ≤ 3 := hI103
  obtain ⟨i2, i3, i4, w5, w6⟩ : (1 ≤ (σ 55 10).toInt ∧ (σ 55 10).toInt ≤ 8) ∧ (1 ≤ (σ 55 12).toInt ∧ (σ 55 12).toInt ≤ 12) ∧ (0 ≤ (σ 55 13).toInt ∧ (σ 55 13).toInt ≤ 999) ∧ (∀ k : Nat, k < 8 → 0 ≤ (σ 62 k).toInt ∧ (σ 62 k).toInt ≤ 3) ∧ (∀ k : Nat, k < 8 → 0 ≤ (σ 67 k).toInt ∧ (σ 67 k).toInt ≤ 3) := id hI104
  refine lv_iload_n hx hb dX12_fielded_0 rfl (lv_at hl 2 rfl) ?_
  refine lv_i2l (v := a2.toInt64) hx hb dX12_fielded_1 rfl ?_
  refine lv_lconst (v := 0) hx hb dX12_fielded_2 (by decide) ?_
  refine lv_lconst (v := 1) hx hb dX12_fielded_3 (by decide) ?_
  refine jcallS (As := [.long a2.toInt64, .long 0, .long 1]) (rest := []) ⟨hx, hb, hml, hown, hts⟩ hK hP hA hS hZ (c_X12_within l D cI cL ad zz hJ σ τ a2.toInt64 (A2) (jtoL t2) 0 (0) jzl_0 1 (1) jzl_1) cw_RX12_136 ⟨Nat.le_of_ble_eq_true rfl, Nat.le_of_ble_eq_true rfl⟩ rfl rfl rfl hl.1 rfl (Nat.le_of_ble_eq_true rfl) dX12_fielded_4 ⟨Nat.zero_le _, Nat.zero_le _⟩ (fun r8 σ7 τ7 H locs h7 hP hS => ?_)
  obtain ⟨⟨rfl, rfl⟩, h7⟩ := h7
  rcases h7 with h9 | h10
  · obtain ⟨q12, k11⟩ := h9
    have q12 := q12.symm
    subst q12
    refine lv_if_eq (tgt := 26) hx hb dX12_fielded_7 (by decide) (fun c => absurd c (by decide)) (fun _ => ?_)
    refine lv_iload_n hx hb dX12_fielded_10 rfl (lv_at hl 2 rfl) ?_
    refine lv_if_ne (tgt := 28) hx hb dX12_fielded_11 (by decide) (fun c13 => ?_) (fun c13 => ?_)
    · have kc13 := jne c13 t2 jz_0
      refine lv_aload_n hx hb dX12_fielded_28 rfl (lv_at hl 0 rfl) ?_
      refine va_get (D := D) hx hb hts inlX12 hown hK hP 55 (jc_55 cI cL ad σ τ) rfl 12 (by decide) (hts _ kw_8_16) (fun _ h9 => h9) rfl dX12_fielded_29 ?_
      refine lv_bipush (v := 8) hx hb dX12_fielded_32 (by decide) ?_
      refine lv_icmp_le (tgt := 40) hx hb dX12_fielded_34 (by decide) (fun c14 => ?_) (fun c14 => ?_)
      · have kc14 := jle c14 rfl jz_8
        refine lv_aload_n hx hb dX12_fielded_40 rfl (lv_at hl 0 rfl) ?_
        refine va_get (D := D) hx hb hts inlX12 hown hK hP 55 (jc_55 cI cL ad σ τ) rfl 9 (by decide) (hts _ kw_12_14) (fun _ h9 => h9) rfl dX12_fielded_41 ?_
        refine lv_istore_n (lv' := [(3, .int (σ 55 9)), (0, .ref (ad 55)), (1, .int a1), (2, .int a2)]) hx hb dX12_fielded_44 rfl hl (by decide) rfl (fun ls hl => ?_)
        refine lv_iconst (v := 0) hx hb dX12_fielded_45 (by decide) ?_
        refine lv_istore (lv' := [(4, .int 0), (3, .int (σ 55 9)), (0, .ref (ad 55)), (1, .int a1), (2, .int a2)]) hx hb dX12_fielded_46 hl (by decide) rfl (fun ls hl => ?_)
        refine lv_ldcw (v := 2000000000) hx hb hown (hts _ kw_34_4) dX12_fielded_48 ?_
        refine lv_istore (lv' := [(5, .int 2000000000), (4, .int 0), (3, .int (σ 55 9)), (0, .ref (ad 55)), (1, .int a1), (2, .int a2)]) hx hb dX12_fielded_51 hl (by decide) rfl (fun ls hl => ?_)
        refine lv_iconst (v := 0) hx hb dX12_fielded_53 (by decide) ?_
        refine lv_istore (lv' := [(6, .int 0), (5, .int 2000000000), (4, .int 0), (3, .int (σ 55 9)), (0, .ref (ad 55)), (1, .int a1), (2, .int a2)]) hx hb dX12_fielded_54 hl (by decide) rfl (fun ls hl => ?_)
        refine lv_iconst (v := 0) hx hb dX12_fielded_56 (by decide) ?_
        refine lv_istore (lv' := [(7, .int 0), (6, .int 0), (5, .int 2000000000), (4, .int 0), (3, .int (σ 55 9)), (0, .ref (ad 55)), (1, .int a1), (2, .int a2)]) hx hb dX12_fielded_57 hl (by decide) rfl (fun ls hl => ?_)
        have lp15 : ∀ (n16 : Nat) (x17 : Int32) (x18 : Int32) (x19 : Int32) (x20 : Int32) (σ22 : Nat → Nat → Int32) (H : Heap) (locs : List Loc) (ls : Array Slot), (-x20.toInt + 4 : Int) < n16 → 0 ≤ x20.toInt → x20.toInt ≤ 4 → (∀ i : Nat, (i < 55 ∨ 55 < i) ∧ (i < 66 ∨ 66 < i) ∧ (i < 68 ∨ 69 < i) ∧ (i < 74 ∨ 78 < i) → σ22 i = σ i) → (∀ k : Nat, (k < 9 ∨ 9 < k) ∧ (k < 18 ∨ 18 < k) ∧ (k < 19 ∨ 19 < k) ∧ (k < 20 ∨ 20 < k) ∧ (k < 21 ∨ 21 < k) ∧ (k < 22 ∨ 22 < k) ∧ (k < 25 ∨ 25 < k) ∧ (k < 26 ∨ 26 < k) ∧ (k < 27 ∨ 27 < k) ∧ (k < 37 ∨ 37 < k) ∧ (k < 42 ∨ 42 < k) → σ22 55 k = σ 55 k) → jKept σ22 → jI103 σ22 → jI119 σ22 → jH D cI cL ad σ22 τ H → va_S (jA ad) s.heap H locs → lv_has ls 9 [(7, .int x20), (6, .int x19), (5, .int x18), (4, .int x17), (3, .int (σ 55 9)), (0, .ref (ad 55)), (1, .int a1), (2, .int a2)] → W p l e ({ frames := 104, cells := 0, slots := 0, locals := 5081 }) s m args below meth c H locs 0 0 Q (F0 m 59 ls []) := by
          intro n16
          induction n16 with
          | zero => intro x17 x18 x19 x20 σ22 H locs ls h24 h25 h26; have gx17 := jrg (rfl : x17.toInt = x17.toInt); have gx18 := jrg (rfl : x18.toInt = x18.toInt); have gx19 := jrg (rfl : x19.toInt = x19.toInt); exact absurd h24 (by omega)
          | succ n16 ihlp15 =>
            intro x17 x18 x19 x20 σ22 H locs ls h24 h25 h26 f27 f28 p29 p30 p31 hP hS hl
            have gx17 := jrg (rfl : x17.toInt = x17.toInt); have gx18 := jrg (rfl : x18.toInt = x18.toInt); have gx19 := jrg (rfl : x19.toInt = x19.toInt)
            have i32 : 0 ≤ (σ22 55 9).toInt ∧ (σ22 55 9).toInt ≤ 3 := p30
            refine lv_iload hx hb dX12_fielded_59 (lv_at hl 0 rfl) ?_
            refine lv_iconst (v := 4) hx hb dX12_fielded_61 (by decide) ?_
            refine lv_icmp_ge (tgt := 129) hx hb dX12_fielded_62 (by decide) (fun c33 => ?_) (fun c33 => ?_)
            · have kc33 := jle c33 jz_4 rfl
              refine lv_aload_n hx hb dX12_fielded_129 rfl (lv_at hl 5 rfl) ?_
              refine lv_iload_n hx hb dX12_fielded_130 rfl (lv_at hl 4 rfl) ?_
              refine jput (ty := .int) hx hb hts inlX12 tyX12 tyX12_ok nmX12 hown hK hP hJ hA hS (jc_55 cI cL ad σ22 τ) rfl (k := 9) (by decide) (Nat.le_of_ble_eq_true rfl) (jp_55_9 cI cL ad σ22 τ (σ 55 9)) (hts _ kw_12_14) (fun _ h9 => h9) rfl (by decide +kernel) rfl rfl dX12_fielded_131 (fun σ34 H locs eσ34 hP hS => ?_)
              refine lv_iload_n hx hb dX12_fielded_134 rfl (lv_at hl 7 rfl) ?_
              refine lv_if_ne (tgt := 143) hx hb dX12_fielded_135 (by decide) (fun c35 => ?_) (fun c => absurd (jeq c t2 jz_0) (by omega))
              have kc35 := jne c35 t2 jz_0
              refine lv_iload hx hb dX12_fielded_143 (lv_at hl 3 rfl) ?_
              have z36 : (σ34 55 9).toInt = (σ 55 9).toInt := (congrArg Int32.toInt (show σ34 55 9 = (σ 55 9) from (jsp eσ34)))
              have I37 : jI103 σ34 := (show 0 ≤ (σ34 55 9).toInt ∧ (σ34 55 9).toInt ≤ 3 by omega)
              have I38 : jI119 σ34 := jI119_fr (jnp 68 eσ34 (by decide)) p31
              have p39 : jKept σ34 := jKept.fr (jnp 75 eσ34 (by decide)) (jnp 76 eσ34 (by decide)) (jnp 77 eσ34 (by decide)) p29
              have p40 : jTR σ34 := jTR.fr ((jnp 64 eσ34 (by decide)).trans (f27 64 (by decide))) ((jnp 65 eσ34 (by decide)).trans (f27 65 (by decide))) hs_jTR
              exact hret x17 σ34 τ _ _ _ _ rfl ⟨rfl, (fun i hi => ((jnp i eσ34 (imp_262 i hi)).trans (f27 i hi))), (fun i hi => ((jkp i eσ34 (imp_266 i hi)).trans (f28 i hi))), I37, I38, p39, p40, (by omega), trivial⟩ hP hS dX12_fielded_145
            · have kc33 := jnle c33 jz_4 rfl
              refine lv_aload_n hx hb dX12_fielded_65 rfl (lv_at hl 5 rfl) ?_
              refine lv_iload hx hb dX12_fielded_66 (lv_at hl 0 rfl) ?_
              refine jput (ty := .int) hx hb hts inlX12 tyX12 tyX12_ok nmX12 hown hK hP hJ hA hS (jc_55 cI cL ad σ22 τ) rfl (k := 9) (by decide) (Nat.le_of_ble_eq_true rfl) (jp_55_9 cI cL ad σ22 τ x20) (hts _ kw_12_14) (fun _ h9 => h9) rfl (by decide +kernel) rfl rfl dX12_fielded_68 (fun σ41 H locs eσ41 hP hS => ?_)
              refine lv_iload_n hx hb dX12_fielded_71 rfl (lv_at hl 7 rfl) ?_
              refine lv_if_ne (tgt := 87) hx hb dX12_fielded_72 (by decide) (fun c42 => ?_) (fun c => absurd (jeq c t2 jz_0) (by omega))
              have kc42 := jne c42 t2 jz_0
              refine lv_aload_n hx hb dX12_fielded_87 rfl (lv_at hl 5 rfl) ?_
              have I43 : jI101 σ41 := jI101_fr ((jkp 4 eσ41 (by decide)).trans (f28 4 (by decide))) ((jkp 5 eσ41 (by decide)).trans (f28 5 (by decide))) ((jnp 56 eσ41 (by decide)).trans (f27 56 (by decide))) ((jnp 57 eσ41 (by decide)).trans (f27 57 (by decide))) ((jnp 58 eσ41 (by decide)).trans (f27 58 (by decide))) ((jnp 59 eσ41 (by decide)).trans (f27 59 (by decide))) hI101
              have I44 : jI102 σ41 := jI102_fr ((jkp 6 eσ41 (by decide)).trans (f28 6 (by decide))) ((jnp 60 eσ41 (by decide)).trans (f27 60 (by decide))) ((jnp 61 eσ41 (by decide)).trans (f27 61 (by decide))) hI102
              have z45 : (σ41 55 9).toInt = x20.toInt := (congrArg Int32.toInt (show σ41 55 9 = x20 from (jsp eσ41)))
              have I46 : jI103 σ41 := (show 0 ≤ (σ41 55 9).toInt ∧ (σ41 55 9).toInt ≤ 3 by omega)
              have I47 : jI104 σ41 := jI104_fr ((jkp 10 eσ41 (by decide)).trans (f28 10 (by decide))) ((jkp 12 eσ41 (by decide)).trans (f28 12 (by decide))) ((jkp 13 eσ41 (by decide)).trans (f28 13 (by decide))) ((jnp 62 eσ41 (by decide)).trans (f27 62 (by decide))) ((jnp 67 eσ41 (by decide)).trans (f27 67 (by decide))) hI104
              have I48 : jI105 σ41 := jI105_fr ((jkp 15 eσ41 (by decide)).trans (f28 15 (by decide))) ((jnp 65 eσ41 (by decide)).trans (f27 65 (by decide))) hI105
              have I49 : jI106 σ41 := jI106_fr ((jkp 32 eσ41 (by decide)).trans (f28 32 (by decide))) ((jnp 70 eσ41 (by decide)).trans (f27 70 (by decide))) ((jnp 71 eσ41 (by decide)).trans (f27 71 (by decide))) ((jnp 72 eσ41 (by decide)).trans (f27 72 (by decide))) hI106
              have I50 : jI119 σ41 := jI119_fr (jnp 68 eσ41 (by decide)) p31
              have p51 : jKept σ41 := jKept.fr (jnp 75 eσ41 (by decide)) (jnp 76 eσ41 (by decide)) (jnp 77 eσ41 (by decide)) p29
              have p52 : jTR σ41 := jTR.fr ((jnp 64 eσ41 (by decide)).trans (f27 64 (by decide))) ((jnp 65 eσ41 (by decide)).trans (f27 65 (by decide))) hs_jTR
              have z53 : (σ41 55 12).toInt = (σ 55 12).toInt := (congrArg Int32.toInt (show σ41 55 12 = (σ 55 12) from ((jkp 12 eσ41 (by decide)).trans (f28 12 (by decide)))))
              refine jcallV (As := []) (rest := []) ⟨hx, hb, hml, hown, hts⟩ hK hP hA hS hZ (c_X12_bestNow l D cI cL ad zz hJ σ41 τ I43 I44 I46 I47 I48 I49 I50 p51 p52 (by omega)) cw_RX12_346 (jc_55 cI cL ad σ41 τ) rfl ⟨Nat.le_of_ble_eq_true rfl, Nat.le_of_ble_eq_true rfl⟩ rfl rfl rfl hl.1 rfl (Nat.le_of_ble_eq_true rfl) dX12_fielded_88 ⟨Nat.zero_le _, Nat.zero_le _⟩ (fun r55 σ54 τ54 H locs h54 hP hS => ?_)
              obtain ⟨rfl, f56, f57, I58, p59, p60, h54⟩ := h54
              refine lv_istore (lv' := [(8, .int r55), (7, .int x20), (6, .int x19), (5, .int x18), (4, .int x17), (3, .int (σ 55 9)), (0, .ref (ad 55)), (1, .int a1), (2, .int a2)]) hx hb dX12_fielded_91 hl (by decide) rfl (fun ls hl => ?_)
              refine lv_iload hx hb dX12_fielded_93 (lv_at hl 1 rfl) ?_
              refine lv_iload_n hx hb dX12_fielded_95 rfl (lv_at hl 7 rfl) ?_
              refine lv_icmp_ne (tgt := 104) hx hb dX12_fielded_96 (by decide) (fun c62 => ?_) (fun c62 => ?_)
              · have kc62 := jne c62 rfl t1
                refine lv_iload hx hb dX12_fielded_104 (lv_at hl 2 rfl) ?_
                refine lv_istore (lv' := [(6, .int x19), (8, .int r55), (7, .int x20), (5, .int x18), (4, .int x17), (3, .int (σ 55 9)), (0, .ref (ad 55)), (1, .int a1), (2, .int a2)]) hx hb dX12_fielded_106 hl (by decide) rfl (fun ls hl => ?_)
                refine lv_iload hx hb dX12_fielded_108 (lv_at hl 1 rfl) ?_
                refine lv_iload hx hb dX12_fielded_110 (lv_at hl 3 rfl) ?_
                refine lv_icmp_ge (tgt := 123) hx hb dX12_fielded_112 (by decide) (fun c63 => ?_) (fun c63 => ?_)
                · have kc63 := jle c63 rfl rfl
                  obtain ⟨x64, ex64⟩ : ∃ y : Int32, y = x20 + 1 := ⟨_, rfl⟩
                  have tx64 : x64.toInt = x20.toInt + 1 := (jadd ex64 rfl jz_1 (by omega) (by omega)).trans (by omega)
                  refine lv_iinc (v := x64) (lv' := [(7, .int x64), (6, .int x19), (8, .int r55), (5, .int x18), (4, .int x17), (3, .int (σ 55 9)), (0, .ref (ad 55)), (1, .int a1), (2, .int a2)]) hx hb dX12_fielded_123 hl (k := 2) rfl (by rw [ex64]; rfl) (by decide) rfl (fun ls hl => ?_)
                  refine lv_goto (tgt := 59) hx hb dX12_fielded_126 (by decide) ?_
                  have I65 : jI103 σ54 := jI103_fr (f57 9 (by decide)) I46
                  exact ihlp15 x17 x18 x19 x64 σ54 _ _ ls (by have h93 := tx64; omega) (by have h93 := tx64; omega) (by have h93 := tx64; omega) (fun i hi => ((f56 i hi).trans ((jnp i eσ41 (imp_262 i hi)).trans (f27 i hi)))) (fun i hi => ((f57 i (imp_267 i hi)).trans ((jkp i eσ41 (imp_266 i hi)).trans (f28 i hi))))  p59 I65 I58 hP hS (lv_sub hl [0, 1, 3, 4, 5, 6, 7, 8] rfl)
                · have kc63 := jnle c63 rfl rfl
                  refine lv_iload hx hb dX12_fielded_115 (lv_at hl 2 rfl) ?_
                  refine lv_istore (lv' := [(4, .int x20), (6, .int x19), (8, .int r55), (7, .int x20), (5, .int x18), (3, .int (σ 55 9)), (0, .ref (ad 55)), (1, .int a1), (2, .int a2)]) hx hb dX12_fielded_117 hl (by decide) rfl (fun ls hl => ?_)
                  refine lv_iload hx hb dX12_fielded_119 (lv_at hl 2 rfl) ?_
                  refine lv_istore (lv' := [(5, .int r55), (4, .int x20), (6, .int x19), (8, .int r55), (7, .int x20), (3, .int (σ 55 9)), (0, .ref (ad 55)), (1, .int a1), (2, .int a2)]) hx hb dX12_fielded_121 hl (by decide) rfl (fun ls hl => ?_)
                  obtain ⟨x66, ex66⟩ : ∃ y : Int32, y = x20 + 1 := ⟨_, rfl⟩
                  have tx66 : x66.toInt = x20.toInt + 1 := (jadd ex66 rfl jz_1 (by omega) (by omega)).trans (by omega)
                  refine lv_iinc (v := x66) (lv' := [(7, .int x66), (5, .int r55), (4, .int x20), (6, .int x19), (8, .int r55), (3, .int (σ 55 9)), (0, .ref (ad 55)), (1, .int a1), (2, .int a2)]) hx hb dX12_fielded_123 hl (k := 4) rfl (by rw [ex66]; rfl) (by decide) rfl (fun ls hl => ?_)
                  refine lv_goto (tgt := 59) hx hb dX12_fielded_126 (by decide) ?_
                  have I67 : jI103 σ54 := jI103_fr (f57 9 (by decide)) I46
                  exact ihlp15 x20 r55 x19 x66 σ54 _ _ ls (by have h93 := tx66; omega) (by have h93 := tx66; omega) (by have h93 := tx66; omega) (fun i hi => ((f56 i hi).trans ((jnp i eσ41 (imp_262 i hi)).trans (f27 i hi)))) (fun i hi => ((f57 i (imp_267 i hi)).trans ((jkp i eσ41 (imp_266 i hi)).trans (f28 i hi))))  p59 I67 I58 hP hS (lv_sub hl [0, 3, 1, 2, 5, 6, 7, 8] rfl)
              · have kc62 := jeq c62 rfl t1
                refine lv_iload hx hb dX12_fielded_99 (lv_at hl 0 rfl) ?_
                refine lv_goto (tgt := 106) hx hb dX12_fielded_101 (by decide) ?_
                refine lv_istore (lv' := [(6, .int r55), (8, .int r55), (7, .int x20), (5, .int x18), (4, .int x17), (3, .int (σ 55 9)), (0, .ref (ad 55)), (1, .int a1), (2, .int a2)]) hx hb dX12_fielded_106 hl (by decide) rfl (fun ls hl => ?_)
                refine lv_iload hx hb dX12_fielded_108 (lv_at hl 1 rfl) ?_
                refine lv_iload hx hb dX12_fielded_110 (lv_at hl 3 rfl) ?_
                refine lv_icmp_ge (tgt := 123) hx hb dX12_fielded_112 (by decide) (fun c68 => ?_) (fun c68 => ?_)
                · have kc68 := jle c68 rfl rfl
                  obtain ⟨x69, ex69⟩ : ∃ y : Int32, y = x20 + 1 := ⟨_, rfl⟩
                  have tx69 : x69.toInt = x20.toInt + 1 := (jadd ex69 rfl jz_1 (by omega) (by omega)).trans (by omega)
                  refine lv_iinc (v := x69) (lv' := [(7, .int x69), (6, .int r55), (8, .int r55), (5, .int x18), (4, .int x17), (3, .int (σ 55 9)), (0, .ref (ad 55)), (1, .int a1), (2, .int a2)]) hx hb dX12_fielded_123 hl (k := 2) rfl (by rw [ex69]; rfl) (by decide) rfl (fun ls hl => ?_)
                  refine lv_goto (tgt := 59) hx hb dX12_fielded_126 (by decide) ?_
                  have I70 : jI103 σ54 := jI103_fr (f57 9 (by decide)) I46
                  exact ihlp15 x17 x18 r55 x69 σ54 _ _ ls (by have h93 := tx69; omega) (by have h93 := tx69; omega) (by have h93 := tx69; omega) (fun i hi => ((f56 i hi).trans ((jnp i eσ41 (imp_262 i hi)).trans (f27 i hi)))) (fun i hi => ((f57 i (imp_267 i hi)).trans ((jkp i eσ41 (imp_266 i hi)).trans (f28 i hi))))  p59 I70 I58 hP hS (lv_sub hl [0, 1, 3, 4, 5, 6, 7, 8] rfl)
                · have kc68 := jnle c68 rfl rfl
                  refine lv_iload hx hb dX12_fielded_115 (lv_at hl 2 rfl) ?_
                  refine lv_istore (lv' := [(4, .int x20), (6, .int r55), (8, .int r55), (7, .int x20), (5, .int x18), (3, .int (σ 55 9)), (0, .ref (ad 55)), (1, .int a1), (2, .int a2)]) hx hb dX12_fielded_117 hl (by decide) rfl (fun ls hl => ?_)
                  refine lv_iload hx hb dX12_fielded_119 (lv_at hl 2 rfl) ?_
                  refine lv_istore (lv' := [(5, .int r55), (4, .int x20), (6, .int r55), (8, .int r55), (7, .int x20), (3, .int (σ 55 9)), (0, .ref (ad 55)), (1, .int a1), (2, .int a2)]) hx hb dX12_fielded_121 hl (by decide) rfl (fun ls hl => ?_)
                  obtain ⟨x71, ex71⟩ : ∃ y : Int32, y = x20 + 1 := ⟨_, rfl⟩
                  have tx71 : x71.toInt = x20.toInt + 1 := (jadd ex71 rfl jz_1 (by omega) (by omega)).trans (by omega)
                  refine lv_iinc (v := x71) (lv' := [(7, .int x71), (5, .int r55), (4, .int x20), (6, .int r55), (8, .int r55), (3, .int (σ 55 9)), (0, .ref (ad 55)), (1, .int a1), (2, .int a2)]) hx hb dX12_fielded_123 hl (k := 4) rfl (by rw [ex71]; rfl) (by decide) rfl (fun ls hl => ?_)
                  refine lv_goto (tgt := 59) hx hb dX12_fielded_126 (by decide) ?_
                  have I72 : jI103 σ54 := jI103_fr (f57 9 (by decide)) I46
                  exact ihlp15 x20 r55 r55 x71 σ54 _ _ ls (by have h93 := tx71; omega) (by have h93 := tx71; omega) (by have h93 := tx71; omega) (fun i hi => ((f56 i hi).trans ((jnp i eσ41 (imp_262 i hi)).trans (f27 i hi)))) (fun i hi => ((f57 i (imp_267 i hi)).trans ((jkp i eσ41 (imp_266 i hi)).trans (f28 i hi))))  p59 I72 I58 hP hS (lv_sub hl [0, 3, 1, 2, 5, 6, 7, 8] rfl)
        exact lp15 1000000 0 2000000000 0 0 σ _ _ ls (by have h90 := jz_0; have h91 := jz_2000000000; have h92 := jz_0; have h93 := jz_0; omega) (by have h90 := jz_0; have h91 := jz_2000000000; have h92 := jz_0; have h93 := jz_0; omega) (by have h90 := jz_0; have h91 := jz_2000000000; have h92 := jz_0; have h93 := jz_0; omega) (fun _ _ => rfl) (fun _ _ => rfl)  hs_jKept hI103 hI119 hP hS hl
      · have kc14 := jnle c14 rfl jz_8
        refine lv_bipush (v := (-4)) hx hb dX12_fielded_37 (by decide) ?_
        exact hret (-4) σ τ _ _ _ _ rfl ⟨rfl, (fun _ _ => rfl), (fun _ _ => rfl), hI103, hI119, hs_jKept, hs_jTR, (by omega), trivial⟩ hP hS dX12_fielded_39
    · have kc13 := jeq c13 t2 jz_0
      refine lv_iload_n hx hb dX12_fielded_14 rfl (lv_at hl 1 rfl) ?_
      refine lv_i2l (v := a1.toInt64) hx hb dX12_fielded_15 rfl ?_
      refine lv_lconst (v := 0) hx hb dX12_fielded_16 (by decide) ?_
      refine lv_ldc2 (v := 3) hx hb hown (hts _ kw_12_13) dX12_fielded_17 ?_
      refine jcallS (As := [.long a1.toInt64, .long 0, .long 3]) (rest := []) ⟨hx, hb, hml, hown, hts⟩ hK hP hA hS hZ (c_X12_within l D cI cL ad zz hJ σ τ a1.toInt64 (A1) (jtoL t1) 0 (0) jzl_0 3 (3) jzl_3) cw_RX12_136 ⟨Nat.le_of_ble_eq_true rfl, Nat.le_of_ble_eq_true rfl⟩ rfl rfl rfl hl.1 rfl (Nat.le_of_ble_eq_true rfl) dX12_fielded_20 ⟨Nat.zero_le _, Nat.zero_le _⟩ (fun r74 σ73 τ73 H locs h73 hP hS => ?_)
      obtain ⟨⟨rfl, rfl⟩, h73⟩ := h73
      rcases h73 with h75 | h76
      · obtain ⟨q78, k77⟩ := h75
        have q78 := q78.symm
        subst q78
        refine lv_if_ne (tgt := 28) hx hb dX12_fielded_23 (by decide) (fun _ => ?_) (fun c => absurd c (by decide))
        refine lv_aload_n hx hb dX12_fielded_28 rfl (lv_at hl 0 rfl) ?_
        refine va_get (D := D) hx hb hts inlX12 hown hK hP 55 (jc_55 cI cL ad σ τ) rfl 12 (by decide) (hts _ kw_8_16) (fun _ h9 => h9) rfl dX12_fielded_29 ?_
        refine lv_bipush (v := 8) hx hb dX12_fielded_32 (by decide) ?_
        refine lv_icmp_le (tgt := 40) hx hb dX12_fielded_34 (by decide) (fun c79 => ?_) (fun c79 => ?_)
        · have kc79 := jle c79 rfl jz_8
          refine lv_aload_n hx hb dX12_fielded_40 rfl (lv_at hl 0 rfl) ?_
          refine va_get (D := D) hx hb hts inlX12 hown hK hP 55 (jc_55 cI cL ad σ τ) rfl 9 (by decide) (hts _ kw_12_14) (fun _ h9 => h9) rfl dX12_fielded_41 ?_
          refine lv_istore_n (lv' := [(3, .int (σ 55 9)), (0, .ref (ad 55)), (1, .int a1), (2, .int a2)]) hx hb dX12_fielded_44 rfl hl (by decide) rfl (fun ls hl => ?_)
          refine lv_iconst (v := 0) hx hb dX12_fielded_45 (by decide) ?_
          refine lv_istore (lv' := [(4, .int 0), (3, .int (σ 55 9)), (0, .ref (ad 55)), (1, .int a1), (2, .int a2)]) hx hb dX12_fielded_46 hl (by decide) rfl (fun ls hl => ?_)
          refine lv_ldcw (v := 2000000000) hx hb hown (hts _ kw_34_4) dX12_fielded_48 ?_
          refine lv_istore (lv' := [(5, .int 2000000000), (4, .int 0), (3, .int (σ 55 9)), (0, .ref (ad 55)), (1, .int a1), (2, .int a2)]) hx hb dX12_fielded_51 hl (by decide) rfl (fun ls hl => ?_)
          refine lv_iconst (v := 0) hx hb dX12_fielded_53 (by decide) ?_
          refine lv_istore (lv' := [(6, .int 0), (5, .int 2000000000), (4, .int 0), (3, .int (σ 55 9)), (0, .ref (ad 55)), (1, .int a1), (2, .int a2)]) hx hb dX12_fielded_54 hl (by decide) rfl (fun ls hl => ?_)
          refine lv_iconst (v := 0) hx hb dX12_fielded_56 (by decide) ?_
          refine lv_istore (lv' := [(7, .int 0), (6, .int 0), (5, .int 2000000000), (4, .int 0), (3, .int (σ 55 9)), (0, .ref (ad 55)), (1, .int a1), (2, .int a2)]) hx hb dX12_fielded_57 hl (by decide) rfl (fun ls hl => ?_)
          have lp80 : ∀ (n81 : Nat) (x82 : Int32) (x83 : Int32) (x84 : Int32) (x85 : Int32) (σ87 : Nat → Nat → Int32) (H : Heap) (locs : List Loc) (ls : Array Slot), (-x85.toInt + 4 : Int) < n81 → 0 ≤ x85.toInt → x85.toInt ≤ 4 → (∀ i : Nat, (i < 55 ∨ 55 < i) ∧ (i < 66 ∨ 66 < i) ∧ (i < 68 ∨ 69 < i) ∧ (i < 74 ∨ 78 < i) → σ87 i = σ i) → (∀ k : Nat, (k < 9 ∨ 9 < k) ∧ (k < 18 ∨ 18 < k) ∧ (k < 19 ∨ 19 < k) ∧ (k < 20 ∨ 20 < k) ∧ (k < 21 ∨ 21 < k) ∧ (k < 22 ∨ 22 < k) ∧ (k < 25 ∨ 25 < k) ∧ (k < 26 ∨ 26 < k) ∧ (k < 27 ∨ 27 < k) ∧ (k < 37 ∨ 37 < k) ∧ (k < 42 ∨ 42 < k) → σ87 55 k = σ 55 k) → jKept σ87 → jI103 σ87 → jI119 σ87 → jH D cI cL ad σ87 τ H → va_S (jA ad) s.heap H locs → lv_has ls 9 [(7, .int x85), (6, .int x84), (5, .int x83), (4, .int x82), (3, .int (σ 55 9)), (0, .ref (ad 55)), (1, .int a1), (2, .int a2)] → W p l e ({ frames := 104, cells := 0, slots := 0, locals := 5081 }) s m args below meth c H locs 0 0 Q (F0 m 59 ls []) := by
            intro n81
            induction n81 with
            | zero => intro x82 x83 x84 x85 σ87 H locs ls h89 h90 h91; have gx82 := jrg (rfl : x82.toInt = x82.toInt); have gx83 := jrg (rfl : x83.toInt = x83.toInt); have gx84 := jrg (rfl : x84.toInt = x84.toInt); exact absurd h89 (by omega)
            | succ n81 ihlp80 =>
              intro x82 x83 x84 x85 σ87 H locs ls h89 h90 h91 f92 f93 p94 p95 p96 hP hS hl
              have gx82 := jrg (rfl : x82.toInt = x82.toInt); have gx83 := jrg (rfl : x83.toInt = x83.toInt); have gx84 := jrg (rfl : x84.toInt = x84.toInt)
              have i97 : 0 ≤ (σ87 55 9).toInt ∧ (σ87 55 9).toInt ≤ 3 := p95
              refine lv_iload hx hb dX12_fielded_59 (lv_at hl 0 rfl) ?_
              refine lv_iconst (v := 4) hx hb dX12_fielded_61 (by decide) ?_
              refine lv_icmp_ge (tgt := 129) hx hb dX12_fielded_62 (by decide) (fun c98 => ?_) (fun c98 => ?_)
              · have kc98 := jle c98 jz_4 rfl
                refine lv_aload_n hx hb dX12_fielded_129 rfl (lv_at hl 5 rfl) ?_
                refine lv_iload_n hx hb dX12_fielded_130 rfl (lv_at hl 4 rfl) ?_
                refine jput (ty := .int) hx hb hts inlX12 tyX12 tyX12_ok nmX12 hown hK hP hJ hA hS (jc_55 cI cL ad σ87 τ) rfl (k := 9) (by decide) (Nat.le_of_ble_eq_true rfl) (jp_55_9 cI cL ad σ87 τ (σ 55 9)) (hts _ kw_12_14) (fun _ h9 => h9) rfl (by decide +kernel) rfl rfl dX12_fielded_131 (fun σ99 H locs eσ99 hP hS => ?_)
                refine lv_iload_n hx hb dX12_fielded_134 rfl (lv_at hl 7 rfl) ?_
                refine lv_if_ne (tgt := 143) hx hb dX12_fielded_135 (by decide) (fun c => absurd (jne c t2 jz_0) (by omega)) (fun c100 => ?_)
                have kc100 := jeq c100 t2 jz_0
                refine lv_iload hx hb dX12_fielded_138 (lv_at hl 1 rfl) ?_
                refine lv_goto (tgt := 145) hx hb dX12_fielded_140 (by decide) ?_
                have z101 : (σ99 55 9).toInt = (σ 55 9).toInt := (congrArg Int32.toInt (show σ99 55 9 = (σ 55 9) from (jsp eσ99)))
                have I102 : jI103 σ99 := (show 0 ≤ (σ99 55 9).toInt ∧ (σ99 55 9).toInt ≤ 3 by omega)
                have I103 : jI119 σ99 := jI119_fr (jnp 68 eσ99 (by decide)) p96
                have p104 : jKept σ99 := jKept.fr (jnp 75 eσ99 (by decide)) (jnp 76 eσ99 (by decide)) (jnp 77 eσ99 (by decide)) p94
                have p105 : jTR σ99 := jTR.fr ((jnp 64 eσ99 (by decide)).trans (f92 64 (by decide))) ((jnp 65 eσ99 (by decide)).trans (f92 65 (by decide))) hs_jTR
                exact hret x84 σ99 τ _ _ _ _ rfl ⟨rfl, (fun i hi => ((jnp i eσ99 (imp_262 i hi)).trans (f92 i hi))), (fun i hi => ((jkp i eσ99 (imp_266 i hi)).trans (f93 i hi))), I102, I103, p104, p105, (by omega), trivial⟩ hP hS dX12_fielded_145
              · have kc98 := jnle c98 jz_4 rfl
                refine lv_aload_n hx hb dX12_fielded_65 rfl (lv_at hl 5 rfl) ?_
                refine lv_iload hx hb dX12_fielded_66 (lv_at hl 0 rfl) ?_
                refine jput (ty := .int) hx hb hts inlX12 tyX12 tyX12_ok nmX12 hown hK hP hJ hA hS (jc_55 cI cL ad σ87 τ) rfl (k := 9) (by decide) (Nat.le_of_ble_eq_true rfl) (jp_55_9 cI cL ad σ87 τ x85) (hts _ kw_12_14) (fun _ h9 => h9) rfl (by decide +kernel) rfl rfl dX12_fielded_68 (fun σ106 H locs eσ106 hP hS => ?_)
                refine lv_iload_n hx hb dX12_fielded_71 rfl (lv_at hl 7 rfl) ?_
                refine lv_if_ne (tgt := 87) hx hb dX12_fielded_72 (by decide) (fun c => absurd (jne c t2 jz_0) (by omega)) (fun c107 => ?_)
                have kc107 := jeq c107 t2 jz_0
                refine lv_iload hx hb dX12_fielded_75 (lv_at hl 0 rfl) ?_
                refine lv_iload_n hx hb dX12_fielded_77 rfl (lv_at hl 6 rfl) ?_
                refine lv_icmp_eq (tgt := 87) hx hb dX12_fielded_78 (by decide) (fun c108 => ?_) (fun c108 => ?_)
                · have kc108 := jeq c108 rfl t1
                  refine lv_aload_n hx hb dX12_fielded_87 rfl (lv_at hl 5 rfl) ?_
                  have I109 : jI101 σ106 := jI101_fr ((jkp 4 eσ106 (by decide)).trans (f93 4 (by decide))) ((jkp 5 eσ106 (by decide)).trans (f93 5 (by decide))) ((jnp 56 eσ106 (by decide)).trans (f92 56 (by decide))) ((jnp 57 eσ106 (by decide)).trans (f92 57 (by decide))) ((jnp 58 eσ106 (by decide)).trans (f92 58 (by decide))) ((jnp 59 eσ106 (by decide)).trans (f92 59 (by decide))) hI101
                  have I110 : jI102 σ106 := jI102_fr ((jkp 6 eσ106 (by decide)).trans (f93 6 (by decide))) ((jnp 60 eσ106 (by decide)).trans (f92 60 (by decide))) ((jnp 61 eσ106 (by decide)).trans (f92 61 (by decide))) hI102
                  have z111 : (σ106 55 9).toInt = x85.toInt := (congrArg Int32.toInt (show σ106 55 9 = x85 from (jsp eσ106)))
                  have I112 : jI103 σ106 := (show 0 ≤ (σ106 55 9).toInt ∧ (σ106 55 9).toInt ≤ 3 by omega)
                  have I113 : jI104 σ106 := jI104_fr ((jkp 10 eσ106 (by decide)).trans (f93 10 (by decide))) ((jkp 12 eσ106 (by decide)).trans (f93 12 (by decide))) ((jkp 13 eσ106 (by decide)).trans (f93 13 (by decide))) ((jnp 62 eσ106 (by decide)).trans (f92 62 (by decide))) ((jnp 67 eσ106 (by decide)).trans (f92 67 (by decide))) hI104
                  have I114 : jI105 σ106 := jI105_fr ((jkp 15 eσ106 (by decide)).trans (f93 15 (by decide))) ((jnp 65 eσ106 (by decide)).trans (f92 65 (by decide))) hI105
                  have I115 : jI106 σ106 := jI106_fr ((jkp 32 eσ106 (by decide)).trans (f93 32 (by decide))) ((jnp 70 eσ106 (by decide)).trans (f92 70 (by decide))) ((jnp 71 eσ106 (by decide)).trans (f92 71 (by decide))) ((jnp 72 eσ106 (by decide)).trans (f92 72 (by decide))) hI106
                  have I116 : jI119 σ106 := jI119_fr (jnp 68 eσ106 (by decide)) p96
                  have p117 : jKept σ106 := jKept.fr (jnp 75 eσ106 (by decide)) (jnp 76 eσ106 (by decide)) (jnp 77 eσ106 (by decide)) p94
                  have p118 : jTR σ106 := jTR.fr ((jnp 64 eσ106 (by decide)).trans (f92 64 (by decide))) ((jnp 65 eσ106 (by decide)).trans (f92 65 (by decide))) hs_jTR
                  have z119 : (σ106 55 12).toInt = (σ 55 12).toInt := (congrArg Int32.toInt (show σ106 55 12 = (σ 55 12) from ((jkp 12 eσ106 (by decide)).trans (f93 12 (by decide)))))
                  refine jcallV (As := []) (rest := []) ⟨hx, hb, hml, hown, hts⟩ hK hP hA hS hZ (c_X12_bestNow l D cI cL ad zz hJ σ106 τ I109 I110 I112 I113 I114 I115 I116 p117 p118 (by omega)) cw_RX12_346 (jc_55 cI cL ad σ106 τ) rfl ⟨Nat.le_of_ble_eq_true rfl, Nat.le_of_ble_eq_true rfl⟩ rfl rfl rfl hl.1 rfl (Nat.le_of_ble_eq_true rfl) dX12_fielded_88 ⟨Nat.zero_le _, Nat.zero_le _⟩ (fun r121 σ120 τ120 H locs h120 hP hS => ?_)
                  obtain ⟨rfl, f122, f123, I124, p125, p126, h120⟩ := h120
                  refine lv_istore (lv' := [(8, .int r121), (7, .int x85), (6, .int x84), (5, .int x83), (4, .int x82), (3, .int (σ 55 9)), (0, .ref (ad 55)), (1, .int a1), (2, .int a2)]) hx hb dX12_fielded_91 hl (by decide) rfl (fun ls hl => ?_)
                  refine lv_iload hx hb dX12_fielded_93 (lv_at hl 1 rfl) ?_
                  refine lv_iload_n hx hb dX12_fielded_95 rfl (lv_at hl 7 rfl) ?_
                  refine lv_icmp_ne (tgt := 104) hx hb dX12_fielded_96 (by decide) (fun c128 => ?_) (fun c128 => ?_)
                  · have kc128 := jne c128 rfl t1
                    refine lv_iload hx hb dX12_fielded_104 (lv_at hl 2 rfl) ?_
                    refine lv_istore (lv' := [(6, .int x84), (8, .int r121), (7, .int x85), (5, .int x83), (4, .int x82), (3, .int (σ 55 9)), (0, .ref (ad 55)), (1, .int a1), (2, .int a2)]) hx hb dX12_fielded_106 hl (by decide) rfl (fun ls hl => ?_)
                    refine lv_iload hx hb dX12_fielded_108 (lv_at hl 1 rfl) ?_
                    refine lv_iload hx hb dX12_fielded_110 (lv_at hl 3 rfl) ?_
                    refine lv_icmp_ge (tgt := 123) hx hb dX12_fielded_112 (by decide) (fun c129 => ?_) (fun c129 => ?_)
                    · have kc129 := jle c129 rfl rfl
                      obtain ⟨x130, ex130⟩ : ∃ y : Int32, y = x85 + 1 := ⟨_, rfl⟩
                      have tx130 : x130.toInt = x85.toInt + 1 := (jadd ex130 rfl jz_1 (by omega) (by omega)).trans (by omega)
                      refine lv_iinc (v := x130) (lv' := [(7, .int x130), (6, .int x84), (8, .int r121), (5, .int x83), (4, .int x82), (3, .int (σ 55 9)), (0, .ref (ad 55)), (1, .int a1), (2, .int a2)]) hx hb dX12_fielded_123 hl (k := 2) rfl (by rw [ex130]; rfl) (by decide) rfl (fun ls hl => ?_)
                      refine lv_goto (tgt := 59) hx hb dX12_fielded_126 (by decide) ?_
                      have I131 : jI103 σ120 := jI103_fr (f123 9 (by decide)) I112
                      exact ihlp80 x82 x83 x84 x130 σ120 _ _ ls (by have h93 := tx130; omega) (by have h93 := tx130; omega) (by have h93 := tx130; omega) (fun i hi => ((f122 i hi).trans ((jnp i eσ106 (imp_262 i hi)).trans (f92 i hi)))) (fun i hi => ((f123 i (imp_267 i hi)).trans ((jkp i eσ106 (imp_266 i hi)).trans (f93 i hi))))  p125 I131 I124 hP hS (lv_sub hl [0, 1, 3, 4, 5, 6, 7, 8] rfl)
                    · have kc129 := jnle c129 rfl rfl
                      refine lv_iload hx hb dX12_fielded_115 (lv_at hl 2 rfl) ?_
                      refine lv_istore (lv' := [(4, .int x85), (6, .int x84), (8, .int r121), (7, .int x85), (5, .int x83), (3, .int (σ 55 9)), (0, .ref (ad 55)), (1, .int a1), (2, .int a2)]) hx hb dX12_fielded_117 hl (by decide) rfl (fun ls hl => ?_)
                      refine lv_iload hx hb dX12_fielded_119 (lv_at hl 2 rfl) ?_
                      refine lv_istore (lv' := [(5, .int r121), (4, .int x85), (6, .int x84), (8, .int r121), (7, .int x85), (3, .int (σ 55 9)), (0, .ref (ad 55)), (1, .int a1), (2, .int a2)]) hx hb dX12_fielded_121 hl (by decide) rfl (fun ls hl => ?_)
                      obtain ⟨x132, ex132⟩ : ∃ y : Int32, y = x85 + 1 := ⟨_, rfl⟩
                      have tx132 : x132.toInt = x85.toInt + 1 := (jadd ex132 rfl jz_1 (by omega) (by omega)).trans (by omega)
                      refine lv_iinc (v := x132) (lv' := [(7, .int x132), (5, .int r121), (4, .int x85), (6, .int x84), (8, .int r121), (3, .int (σ 55 9)), (0, .ref (ad 55)), (1, .int a1), (2, .int a2)]) hx hb dX12_fielded_123 hl (k := 4) rfl (by rw [ex132]; rfl) (by decide) rfl (fun ls hl => ?_)
                      refine lv_goto (tgt := 59) hx hb dX12_fielded_126 (by decide) ?_
                      have I133 : jI103 σ120 := jI103_fr (f123 9 (by decide)) I112
                      exact ihlp80 x85 r121 x84 x132 σ120 _ _ ls (by have h93 := tx132; omega) (by have h93 := tx132; omega) (by have h93 := tx132; omega) (fun i hi => ((f122 i hi).trans ((jnp i eσ106 (imp_262 i hi)).trans (f92 i hi)))) (fun i hi => ((f123 i (imp_267 i hi)).trans ((jkp i eσ106 (imp_266 i hi)).trans (f93 i hi))))  p125 I133 I124 hP hS (lv_sub hl [0, 3, 1, 2, 5, 6, 7, 8] rfl)
                  · have kc128 := jeq c128 rfl t1
                    refine lv_iload hx hb dX12_fielded_99 (lv_at hl 0 rfl) ?_
                    refine lv_goto (tgt := 106) hx hb dX12_fielded_101 (by decide) ?_
                    refine lv_istore (lv' := [(6, .int r121), (8, .int r121), (7, .int x85), (5, .int x83), (4, .int x82), (3, .int (σ 55 9)), (0, .ref (ad 55)), (1, .int a1), (2, .int a2)]) hx hb dX12_fielded_106 hl (by decide) rfl (fun ls hl => ?_)
                    refine lv_iload hx hb dX12_fielded_108 (lv_at hl 1 rfl) ?_
                    refine lv_iload hx hb dX12_fielded_110 (lv_at hl 3 rfl) ?_
                    refine lv_icmp_ge (tgt := 123) hx hb dX12_fielded_112 (by decide) (fun c134 => ?_) (fun c134 => ?_)
                    · have kc134 := jle c134 rfl rfl
                      obtain ⟨x135, ex135⟩ : ∃ y : Int32, y = x85 + 1 := ⟨_, rfl⟩
                      have tx135 : x135.toInt = x85.toInt + 1 := (jadd ex135 rfl jz_1 (by omega) (by omega)).trans (by omega)
                      refine lv_iinc (v := x135) (lv' := [(7, .int x135), (6, .int r121), (8, .int r121), (5, .int x83), (4, .int x82), (3, .int (σ 55 9)), (0, .ref (ad 55)), (1, .int a1), (2, .int a2)]) hx hb dX12_fielded_123 hl (k := 2) rfl (by rw [ex135]; rfl) (by decide) rfl (fun ls hl => ?_)
                      refine lv_goto (tgt := 59) hx hb dX12_fielded_126 (by decide) ?_
                      have I136 : jI103 σ120 := jI103_fr (f123 9 (by decide)) I112
                      exact ihlp80 x82 x83 r121 x135 σ120 _ _ ls (by have h93 := tx135; omega) (by have h93 := tx135; omega) (by have h93 := tx135; omega) (fun i hi => ((f122 i hi).trans ((jnp i eσ106 (imp_262 i hi)).trans (f92 i hi)))) (fun i hi => ((f123 i (imp_267 i hi)).trans ((jkp i eσ106 (imp_266 i hi)).trans (f93 i hi))))  p125 I136 I124 hP hS (lv_sub hl [0, 1, 3, 4, 5, 6, 7, 8] rfl)
                    · have kc134 := jnle c134 rfl rfl
                      refine lv_iload hx hb dX12_fielded_115 (lv_at hl 2 rfl) ?_
                      refine lv_istore (lv' := [(4, .int x85), (6, .int r121), (8, .int r121), (7, .int x85), (5, .int x83), (3, .int (σ 55 9)), (0, .ref (ad 55)), (1, .int a1), (2, .int a2)]) hx hb dX12_fielded_117 hl (by decide) rfl (fun ls hl => ?_)
                      refine lv_iload hx hb dX12_fielded_119 (lv_at hl 2 rfl) ?_
                      refine lv_istore (lv' := [(5, .int r121), (4, .int x85), (6, .int r121), (8, .int r121), (7, .int x85), (3, .int (σ 55 9)), (0, .ref (ad 55)), (1, .int a1), (2, .int a2)]) hx hb dX12_fielded_121 hl (by decide) rfl (fun ls hl => ?_)
                      obtain ⟨x137, ex137⟩ : ∃ y : Int32, y = x85 + 1 := ⟨_, rfl⟩
                      have tx137 : x137.toInt = x85.toInt + 1 := (jadd ex137 rfl jz_1 (by omega) (by omega)).trans (by omega)
                      refine lv_iinc (v := x137) (lv' := [(7, .int x137), (5, .int r121), (4, .int x85), (6, .int r121), (8, .int r121), (3, .int (σ 55 9)), (0, .ref (ad 55)), (1, .int a1), (2, .int a2)]) hx hb dX12_fielded_123 hl (k := 4) rfl (by rw [ex137]; rfl) (by decide) rfl (fun ls hl => ?_)
                      refine lv_goto (tgt := 59) hx hb dX12_fielded_126 (by decide) ?_
                      have I138 : jI103 σ120 := jI103_fr (f123 9 (by decide)) I112
                      exact ihlp80 x85 r121 r121 x137 σ120 _ _ ls (by have h93 := tx137; omega) (by have h93 := tx137; omega) (by have h93 := tx137; omega) (fun i hi => ((f122 i hi).trans ((jnp i eσ106 (imp_262 i hi)).trans (f92 i hi)))) (fun i hi => ((f123 i (imp_267 i hi)).trans ((jkp i eσ106 (imp_266 i hi)).trans (f93 i hi))))  p125 I138 I124 hP hS (lv_sub hl [0, 3, 1, 2, 5, 6, 7, 8] rfl)
                · have kc108 := jne c108 rfl t1
                  refine lv_ldcw (v := 2000000000) hx hb hown (hts _ kw_34_4) dX12_fielded_81 ?_
                  refine lv_goto (tgt := 91) hx hb dX12_fielded_84 (by decide) ?_
                  refine lv_istore (lv' := [(8, .int 2000000000), (7, .int x85), (6, .int x84), (5, .int x83), (4, .int x82), (3, .int (σ 55 9)), (0, .ref (ad 55)), (1, .int a1), (2, .int a2)]) hx hb dX12_fielded_91 hl (by decide) rfl (fun ls hl => ?_)
                  refine lv_iload hx hb dX12_fielded_93 (lv_at hl 1 rfl) ?_
                  refine lv_iload_n hx hb dX12_fielded_95 rfl (lv_at hl 7 rfl) ?_
                  refine lv_icmp_ne (tgt := 104) hx hb dX12_fielded_96 (by decide) (fun c139 => ?_) (fun c139 => ?_)
                  · have kc139 := jne c139 rfl t1
                    refine lv_iload hx hb dX12_fielded_104 (lv_at hl 2 rfl) ?_
                    refine lv_istore (lv' := [(6, .int x84), (8, .int 2000000000), (7, .int x85), (5, .int x83), (4, .int x82), (3, .int (σ 55 9)), (0, .ref (ad 55)), (1, .int a1), (2, .int a2)]) hx hb dX12_fielded_106 hl (by decide) rfl (fun ls hl => ?_)
                    refine lv_iload hx hb dX12_fielded_108 (lv_at hl 1 rfl) ?_
                    refine lv_iload hx hb dX12_fielded_110 (lv_at hl 3 rfl) ?_
                    refine lv_icmp_ge (tgt := 123) hx hb dX12_fielded_112 (by decide) (fun c140 => ?_) (fun c140 => ?_)
                    · have kc140 := jle c140 rfl jz_2000000000
                      obtain ⟨x141, ex141⟩ : ∃ y : Int32, y = x85 + 1 := ⟨_, rfl⟩
                      have tx141 : x141.toInt = x85.toInt + 1 := (jadd ex141 rfl jz_1 (by omega) (by omega)).trans (by omega)
                      refine lv_iinc (v := x141) (lv' := [(7, .int x141), (6, .int x84), (8, .int 2000000000), (5, .int x83), (4, .int x82), (3, .int (σ 55 9)), (0, .ref (ad 55)), (1, .int a1), (2, .int a2)]) hx hb dX12_fielded_123 hl (k := 2) rfl (by rw [ex141]; rfl) (by decide) rfl (fun ls hl => ?_)
                      refine lv_goto (tgt := 59) hx hb dX12_fielded_126 (by decide) ?_
                      have p142 : jKept σ106 := jKept.fr (jnp 75 eσ106 (by decide)) (jnp 76 eσ106 (by decide)) (jnp 77 eσ106 (by decide)) p94
                      have z143 : (σ106 55 9).toInt = x85.toInt := (congrArg Int32.toInt (show σ106 55 9 = x85 from (jsp eσ106)))
                      have I144 : jI103 σ106 := (show 0 ≤ (σ106 55 9).toInt ∧ (σ106 55 9).toInt ≤ 3 by omega)
                      have I145 : jI119 σ106 := jI119_fr (jnp 68 eσ106 (by decide)) p96
                      exact ihlp80 x82 x83 x84 x141 σ106 _ _ ls (by have h93 := tx141; omega) (by have h93 := tx141; omega) (by have h93 := tx141; omega) (fun i hi => ((jnp i eσ106 (imp_262 i hi)).trans (f92 i hi))) (fun i hi => ((jkp i eσ106 (imp_266 i hi)).trans (f93 i hi)))  p142 I144 I145 hP hS (lv_sub hl [0, 1, 3, 4, 5, 6, 7, 8] rfl)
                    · have kc140 := jnle c140 rfl jz_2000000000
                      refine lv_iload hx hb dX12_fielded_115 (lv_at hl 2 rfl) ?_
                      refine lv_istore (lv' := [(4, .int x85), (6, .int x84), (8, .int 2000000000), (7, .int x85), (5, .int x83), (3, .int (σ 55 9)), (0, .ref (ad 55)), (1, .int a1), (2, .int a2)]) hx hb dX12_fielded_117 hl (by decide) rfl (fun ls hl => ?_)
                      refine lv_iload hx hb dX12_fielded_119 (lv_at hl 2 rfl) ?_
                      refine lv_istore (lv' := [(5, .int 2000000000), (4, .int x85), (6, .int x84), (8, .int 2000000000), (7, .int x85), (3, .int (σ 55 9)), (0, .ref (ad 55)), (1, .int a1), (2, .int a2)]) hx hb dX12_fielded_121 hl (by decide) rfl (fun ls hl => ?_)
                      obtain ⟨x146, ex146⟩ : ∃ y : Int32, y = x85 + 1 := ⟨_, rfl⟩
                      have tx146 : x146.toInt = x85.toInt + 1 := (jadd ex146 rfl jz_1 (by omega) (by omega)).trans (by omega)
                      refine lv_iinc (v := x146) (lv' := [(7, .int x146), (5, .int 2000000000), (4, .int x85), (6, .int x84), (8, .int 2000000000), (3, .int (σ 55 9)), (0, .ref (ad 55)), (1, .int a1), (2, .int a2)]) hx hb dX12_fielded_123 hl (k := 4) rfl (by rw [ex146]; rfl) (by decide) rfl (fun ls hl => ?_)
                      refine lv_goto (tgt := 59) hx hb dX12_fielded_126 (by decide) ?_
                      have p147 : jKept σ106 := jKept.fr (jnp 75 eσ106 (by decide)) (jnp 76 eσ106 (by decide)) (jnp 77 eσ106 (by decide)) p94
                      have z148 : (σ106 55 9).toInt = x85.toInt := (congrArg Int32.toInt (show σ106 55 9 = x85 from (jsp eσ106)))
                      have I149 : jI103 σ106 := (show 0 ≤ (σ106 55 9).toInt ∧ (σ106 55 9).toInt ≤ 3 by omega)
                      have I150 : jI119 σ106 := jI119_fr (jnp 68 eσ106 (by decide)) p96
                      exact ihlp80 x85 2000000000 x84 x146 σ106 _ _ ls (by have h91 := jz_2000000000; have h93 := tx146; omega) (by have h91 := jz_2000000000; have h93 := tx146; omega) (by have h91 := jz_2000000000; have h93 := tx146; omega) (fun i hi => ((jnp i eσ106 (imp_262 i hi)).trans (f92 i hi))) (fun i hi => ((jkp i eσ106 (imp_266 i hi)).trans (f93 i hi)))  p147 I149 I150 hP hS (lv_sub hl [0, 3, 1, 2, 5, 6, 7, 8] rfl)
                  · have kc139 := jeq c139 rfl t1
                    refine lv_iload hx hb dX12_fielded_99 (lv_at hl 0 rfl) ?_
                    refine lv_goto (tgt := 106) hx hb dX12_fielded_101 (by decide) ?_
                    refine lv_istore (lv' := [(6, .int 2000000000), (8, .int 2000000000), (7, .int x85), (5, .int x83), (4, .int x82), (3, .int (σ 55 9)), (0, .ref (ad 55)), (1, .int a1), (2, .int a2)]) hx hb dX12_fielded_106 hl (by decide) rfl (fun ls hl => ?_)
                    refine lv_iload hx hb dX12_fielded_108 (lv_at hl 1 rfl) ?_
                    refine lv_iload hx hb dX12_fielded_110 (lv_at hl 3 rfl) ?_
                    refine lv_icmp_ge (tgt := 123) hx hb dX12_fielded_112 (by decide) (fun c151 => ?_) (fun c151 => ?_)
                    · have kc151 := jle c151 rfl jz_2000000000
                      obtain ⟨x152, ex152⟩ : ∃ y : Int32, y = x85 + 1 := ⟨_, rfl⟩
                      have tx152 : x152.toInt = x85.toInt + 1 := (jadd ex152 rfl jz_1 (by omega) (by omega)).trans (by omega)
                      refine lv_iinc (v := x152) (lv' := [(7, .int x152), (6, .int 2000000000), (8, .int 2000000000), (5, .int x83), (4, .int x82), (3, .int (σ 55 9)), (0, .ref (ad 55)), (1, .int a1), (2, .int a2)]) hx hb dX12_fielded_123 hl (k := 2) rfl (by rw [ex152]; rfl) (by decide) rfl (fun ls hl => ?_)
                      refine lv_goto (tgt := 59) hx hb dX12_fielded_126 (by decide) ?_
                      have p153 : jKept σ106 := jKept.fr (jnp 75 eσ106 (by decide)) (jnp 76 eσ106 (by decide)) (jnp 77 eσ106 (by decide)) p94
                      have z154 : (σ106 55 9).toInt = x85.toInt := (congrArg Int32.toInt (show σ106 55 9 = x85 from (jsp eσ106)))
                      have I155 : jI103 σ106 := (show 0 ≤ (σ106 55 9).toInt ∧ (σ106 55 9).toInt ≤ 3 by omega)
                      have I156 : jI119 σ106 := jI119_fr (jnp 68 eσ106 (by decide)) p96
                      exact ihlp80 x82 x83 2000000000 x152 σ106 _ _ ls (by have h92 := jz_2000000000; have h93 := tx152; omega) (by have h92 := jz_2000000000; have h93 := tx152; omega) (by have h92 := jz_2000000000; have h93 := tx152; omega) (fun i hi => ((jnp i eσ106 (imp_262 i hi)).trans (f92 i hi))) (fun i hi => ((jkp i eσ106 (imp_266 i hi)).trans (f93 i hi)))  p153 I155 I156 hP hS (lv_sub hl [0, 1, 3, 4, 5, 6, 7, 8] rfl)
                    · have kc151 := jnle c151 rfl jz_2000000000
                      refine lv_iload hx hb dX12_fielded_115 (lv_at hl 2 rfl) ?_
                      refine lv_istore (lv' := [(4, .int x85), (6, .int 2000000000), (8, .int 2000000000), (7, .int x85), (5, .int x83), (3, .int (σ 55 9)), (0, .ref (ad 55)), (1, .int a1), (2, .int a2)]) hx hb dX12_fielded_117 hl (by decide) rfl (fun ls hl => ?_)
                      refine lv_iload hx hb dX12_fielded_119 (lv_at hl 2 rfl) ?_
                      refine lv_istore (lv' := [(5, .int 2000000000), (4, .int x85), (6, .int 2000000000), (8, .int 2000000000), (7, .int x85), (3, .int (σ 55 9)), (0, .ref (ad 55)), (1, .int a1), (2, .int a2)]) hx hb dX12_fielded_121 hl (by decide) rfl (fun ls hl => ?_)
                      obtain ⟨x157, ex157⟩ : ∃ y : Int32, y = x85 + 1 := ⟨_, rfl⟩
                      have tx157 : x157.toInt = x85.toInt + 1 := (jadd ex157 rfl jz_1 (by omega) (by omega)).trans (by omega)
                      refine lv_iinc (v := x157) (lv' := [(7, .int x157), (5, .int 2000000000), (4, .int x85), (6, .int 2000000000), (8, .int 2000000000), (3, .int (σ 55 9)), (0, .ref (ad 55)), (1, .int a1), (2, .int a2)]) hx hb dX12_fielded_123 hl (k := 4) rfl (by rw [ex157]; rfl) (by decide) rfl (fun ls hl => ?_)
                      refine lv_goto (tgt := 59) hx hb dX12_fielded_126 (by decide) ?_
                      have p158 : jKept σ106 := jKept.fr (jnp 75 eσ106 (by decide)) (jnp 76 eσ106 (by decide)) (jnp 77 eσ106 (by decide)) p94
                      have z159 : (σ106 55 9).toInt = x85.toInt := (congrArg Int32.toInt (show σ106 55 9 = x85 from (jsp eσ106)))
                      have I160 : jI103 σ106 := (show 0 ≤ (σ106 55 9).toInt ∧ (σ106 55 9).toInt ≤ 3 by omega)
                      have I161 : jI119 σ106 := jI119_fr (jnp 68 eσ106 (by decide)) p96
                      exact ihlp80 x85 2000000000 2000000000 x157 σ106 _ _ ls (by have h91 := jz_2000000000; have h92 := jz_2000000000; have h93 := tx157; omega) (by have h91 := jz_2000000000; have h92 := jz_2000000000; have h93 := tx157; omega) (by have h91 := jz_2000000000; have h92 := jz_2000000000; have h93 := tx157; omega) (fun i hi => ((jnp i eσ106 (imp_262 i hi)).trans (f92 i hi))) (fun i hi => ((jkp i eσ106 (imp_266 i hi)).trans (f93 i hi)))  p158 I160 I161 hP hS (lv_sub hl [0, 3, 1, 2, 5, 6, 7, 8] rfl)
          exact lp80 1000000 0 2000000000 0 0 σ _ _ ls (by have h90 := jz_0; have h91 := jz_2000000000; have h92 := jz_0; have h93 := jz_0; omega) (by have h90 := jz_0; have h91 := jz_2000000000; have h92 := jz_0; have h93 := jz_0; omega) (by have h90 := jz_0; have h91 := jz_2000000000; have h92 := jz_0; have h93 := jz_0; omega) (fun _ _ => rfl) (fun _ _ => rfl)  hs_jKept hI103 hI119 hP hS hl
        · have kc79 := jnle c79 rfl jz_8
          refine lv_bipush (v := (-4)) hx hb dX12_fielded_37 (by decide) ?_
          exact hret (-4) σ τ _ _ _ _ rfl ⟨rfl, (fun _ _ => rfl), (fun _ _ => rfl), hI103, hI119, hs_jKept, hs_jTR, (by omega), trivial⟩ hP hS dX12_fielded_39
      · obtain ⟨q163, k162⟩ := h76
        have q163 := q163.symm
        subst q163
        refine lv_if_ne (tgt := 28) hx hb dX12_fielded_23 (by decide) (fun c => absurd (by decide) c) (fun _ => ?_)
        refine lv_iconst (v := (-1)) hx hb dX12_fielded_26 (by decide) ?_
        exact hret (-1) σ τ _ _ _ _ rfl ⟨rfl, (fun _ _ => rfl), (fun _ _ => rfl), hI103, hI119, hs_jKept, hs_jTR, (by omega), trivial⟩ hP hS dX12_fielded_27
  · obtain ⟨q165, k164⟩ := h10
    have q165 := q165.symm
    subst q165
    refine lv_if_eq (tgt := 26) hx hb dX12_fielded_7 (by decide) (fun _ => ?_) (fun c => absurd (by decide) c)
    refine lv_iconst (v := (-1)) hx hb dX12_fielded_26 (by decide) ?_
    exact hret (-1) σ τ _ _ _ _ rfl ⟨rfl, (fun _ _ => rfl), (fun _ _ => rfl), hI103, hI119, hs_jKept, hs_jTR, (by omega), trivial⟩ hP hS dX12_fielded_27
