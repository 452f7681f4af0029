set_option maxHeartbeats 4000000 in
set_option maxRecDepth 100000 in
theorem law_case_9 {p : Program} {e : Env} {s : State} {m : MethodId} {below : List Frame} {meth : Method} {c : Code} (l : Launch) {b L : Nat} {xs : Nat → Int32} {D : va_G} {cI cL : ClassId} {ad zz : Nat → Nat} (C0 : lw_At p s m meth c b L xs) (hJ : jD ad) (hA : ∀ q, jA ad q → s.heap.size ≤ q) (hK : jK D cI cL s) (hZ : jZ zz (fun q : Nat => s.heap.size ≤ q) s s.heap) {x0 : Int32} (hx0 : 0 ≤ x0.toInt) (hxL : x0.toInt + 6 ≤ (L : Int)) (hL : L ≤ 384) {σ : Nat → Nat → Int32} {τ : Nat → Nat → Int64} {H : Heap} {locs : List Loc} (hS : va_S (fun q : Nat => s.heap.size ≤ q) s.heap H locs) {ls : Array Slot} (hAll : jAll x0.toInt σ τ) (hP : jH D cI cL ad σ τ H) (hl : lv_has ls 4 [(3, .int x0), (2, .ref (ad 55)), (1, .ref (ad 0)), (0, .ref b)]) (ih : ∀ (x1 : Int32) (σ : Nat → Nat → Int32) (τ : Nat → Nat → Int64) (H : Heap) (locs : List Loc) (ls : Array Slot), x1.toInt = x0.toInt + 6 → jAll x1.toInt σ τ → jH D cI cL ad σ τ H → va_S (fun q : Nat => s.heap.size ≤ q) s.heap H locs → lv_has ls 4 [(3, .int x1), (2, .ref (ad 55)), (1, .ref (ad 0)), (0, .ref b)] → W p l e room_1 s m #[Value.ref b] below meth c H locs 90 348600 (lw_Z below #[Value.ref b] s) (F0 m 18 ls [])) : W p l e room_1 s m #[Value.ref b] below meth c H locs 90 348600 (lw_Z below #[Value.ref b] s) (F0 m 483 ls []) := by
  obtain ⟨hx, hb, hr, hml, hown, hts0, hX, hbl, hlocks, hgv⟩ := C0
  have hts : ∀ w ∈ wsL_law, w.before #[Value.ref b] s = true := fun w h => hts0 w (wsL_law_in w h)
  have hbA : ¬ (fun q : Nat => s.heap.size ≤ q) b := Nat.not_le.mpr hbl
  have hown : s.vm.findClass RL = some m.cls := hown
  obtain ⟨hI2, hI9, hI12, hI16, hI18, hI22, hI31, hI38, hI43, hI47, hI50, hI0, hI26, hI101, hI102, hI103, hI104, hI105, hI106, hI107, hI109, hI110, hI111, hI119, hs_jKept, hs_jBook, hs_jNd12, hs_jN67, hs_jBl, hs_jKb, hs_jTR, hs_jKh, hs_jKg, hs_jNz, hs_jqSt, ht0, ht1, ht2, ht3, ht4, ht5, ht6, ht7, ht8, ht9, ht10, ht11, ht12, ht13, ht14, ht15, hr0, hr1, hr2, hr3, hr4, hr5, hr6, hr7, hr8, hr9, hr10, hr11, hr12, hr13, hr14, hr15⟩ := hAll
  have hL9 : (L : Int) ≤ 384 := by omega
  obtain ⟨i1, i2, i3, i4, i5, w6, w7⟩ : (0 ≤ (σ 2 0).toInt ∧ (σ 2 0).toInt ≤ 4) ∧ (0 ≤ (σ 2 1).toInt ∧ (σ 2 1).toInt ≤ 3) ∧ (0 ≤ (σ 2 2).toInt) ∧ (0 ≤ (σ 2 3).toInt) ∧ ((σ 2 2).toInt + (σ 2 3).toInt ≤ 40) ∧ (∀ k : Nat, k < 40 → 0 ≤ (σ 6 k).toInt ∧ (σ 6 k).toInt ≤ 67) ∧ (∀ k : Nat, k < 4 → 0 ≤ (σ 5 k).toInt ∧ (σ 5 k).toInt ≤ 20) := id hI2
  obtain ⟨i8, w9, w10⟩ : (0 ≤ (σ 9 0).toInt ∧ (σ 9 0).toInt ≤ 80) ∧ (∀ k : Nat, k < 80 → 0 ≤ (σ 10 k).toInt ∧ (σ 10 k).toInt ≤ 255) ∧ (∀ k : Nat, k < 8 → 0 ≤ (σ 11 k).toInt ∧ (σ 11 k).toInt ≤ 3) := id hI9
  obtain ⟨i11, i12, i13, w14⟩ : (1 ≤ (σ 16 0).toInt ∧ (σ 16 0).toInt ≤ 8) ∧ (1 ≤ (σ 16 1).toInt ∧ (σ 16 1).toInt ≤ 12) ∧ (0 ≤ (σ 16 2).toInt ∧ (σ 16 2).toInt ≤ 999) ∧ (∀ k : Nat, k < 8 → 0 ≤ (σ 17 k).toInt ∧ (σ 17 k).toInt ≤ 3) := id hI16
  obtain ⟨i15, i16, w17⟩ : (0 ≤ (σ 38 0).toInt ∧ (σ 38 0).toInt ≤ 20) ∧ (0 ≤ (σ 38 1).toInt ∧ (σ 38 1).toInt ≤ 1000) ∧ (∀ k : Nat, k < 20 → 0 ≤ (σ 39 k).toInt ∧ (σ 39 k).toInt ≤ 6) := id hI38
  obtain ⟨i18, w19, w20⟩ : (0 ≤ (σ 47 0).toInt ∧ (σ 47 0).toInt ≤ 12) ∧ (∀ k : Nat, k < 12 → 0 ≤ (σ 48 k).toInt ∧ (σ 48 k).toInt ≤ 3) ∧ (∀ k : Nat, k < 12 → 0 ≤ (σ 49 k).toInt ∧ (σ 49 k).toInt ≤ 1) := id hI47
  have w21 : ∀ k : Nat, k < 6 → 0 ≤ (σ 52 k).toInt ∧ (σ 52 k).toInt ≤ 60 := hI50
  have i22 : 1 ≤ (σ 26 6).toInt ∧ (σ 26 6).toInt ≤ 8000 := hI26
  obtain ⟨i23, i24, i25, w26, w27, w28, w29⟩ : (0 ≤ (σ 55 5).toInt) ∧ ((σ 55 5).toInt ≤ (σ 55 4).toInt) ∧ ((σ 55 4).toInt ≤ 40) ∧ (∀ k : Nat, k < 68 → (-200) ≤ (σ 56 k).toInt ∧ (σ 56 k).toInt ≤ 500) ∧ (∀ k : Nat, k < 40 → 0 ≤ (σ 57 k).toInt ∧ (σ 57 k).toInt ≤ 67) ∧ (∀ k : Nat, k < 40 → (-200) ≤ (σ 58 k).toInt ∧ (σ 58 k).toInt ≤ 500) ∧ (∀ k : Nat, k < 40 → (-200) ≤ (σ 59 k).toInt ∧ (σ 59 k).toInt ≤ 500) := id hI101
  obtain ⟨i30, w31, w32⟩ : (0 ≤ (σ 55 6).toInt ∧ (σ 55 6).toInt ≤ 4) ∧ (∀ k : Nat, k < 4 → 0 ≤ (σ 60 k).toInt ∧ (σ 60 k).toInt ≤ 50) ∧ (∀ k : Nat, k < 4 → 0 ≤ (σ 61 k).toInt ∧ (σ 61 k).toInt ≤ 20) := id hI102
  have i33 : 0 ≤ (σ 55 9).toInt ∧ (σ 55 9).toInt ≤ 3 := hI103
  obtain ⟨i34, i35, i36, w37, w38⟩ : (1 ≤ (σ 55 10).toInt ∧ (σ 55 10).toInt ≤ 8) ∧ (1 ≤ (σ 55 12).toInt ∧ (σ 55 12).toInt ≤ 12) ∧ (0 ≤ (σ 55 13).toInt ∧ (σ 55 13).toInt ≤ 999) ∧ (∀ k : Nat, k < 8 → 0 ≤ (σ 62 k).toInt ∧ (σ 62 k).toInt ≤ 3) ∧ (∀ k : Nat, k < 8 → 0 ≤ (σ 67 k).toInt ∧ (σ 67 k).toInt ≤ 3) := id hI104
  obtain ⟨i39, w40⟩ : (0 ≤ (σ 55 15).toInt ∧ (σ 55 15).toInt ≤ 80) ∧ (∀ k : Nat, k < 2 → (-1) ≤ (σ 65 k).toInt ∧ (σ 65 k).toInt ≤ 80) := id hI105
  obtain ⟨i41, w42, w43, w44⟩ : (0 ≤ (σ 55 32).toInt ∧ (σ 55 32).toInt ≤ 20) ∧ (∀ k : Nat, k < 20 → 0 ≤ (σ 70 k).toInt ∧ (σ 70 k).toInt ≤ 6) ∧ (∀ k : Nat, k < 20 → 0 ≤ (σ 71 k).toInt ∧ (σ 71 k).toInt ≤ 8) ∧ (∀ k : Nat, k < 160 → 0 ≤ (σ 72 k).toInt ∧ (σ 72 k).toInt ≤ 3) := id hI106
  obtain ⟨i45, i46, w47⟩ : (0 ≤ (σ 55 47).toInt ∧ (σ 55 47).toInt ≤ 12) ∧ ((σ 55 47).toInt ≤ (σ 55 12).toInt) ∧ (∀ k : Nat, k < 12 → 0 ≤ (σ 80 k).toInt ∧ (σ 80 k).toInt ≤ 3) := id hI107
  have hs_jOk3 : jOk3 σ := hr0.ok hr1.1
  refine lv_aload_n hx hb dL_law_483 rfl (lv_at hl 2 rfl) ?_
  refine lv_aload_n hx hb dL_law_484 rfl (lv_at hl 3 rfl) ?_
  refine lv_iload_n hx hb dL_law_485 rfl (lv_at hl 0 rfl) ?_
  refine lv_iconst (v := 1) hx hb dL_law_486 (by decide) ?_
  have g48 := jrg (rfl : x0.toInt = x0.toInt)
  refine lv_iadd hx hb dL_law_487 ?_
  refine lv_topi (fun x49 ex49 => ?_)
  have tx49 : x49.toInt = x0.toInt + 1 := (jadd ex49 rfl jz_1 (by omega) (by omega)).trans (by omega)
  refine va_sld hx hb hX hbl hbA hS (jin tx49 (by omega) (by omega)) dL_law_488 ?_
  have g50 := jrg (rfl : (xs x49.toNatClampNeg).toInt = (xs x49.toNatClampNeg).toInt)
  refine lv_aload_n hx hb dL_law_489 rfl (lv_at hl 3 rfl) ?_
  refine lv_iload_n hx hb dL_law_490 rfl (lv_at hl 0 rfl) ?_
  refine lv_iconst (v := 2) hx hb dL_law_491 (by decide) ?_
  refine lv_iadd hx hb dL_law_492 ?_
  refine lv_topi (fun x51 ex51 => ?_)
  have tx51 : x51.toInt = x0.toInt + 2 := (jadd ex51 rfl jz_2 (by omega) (by omega)).trans (by omega)
  refine va_sld hx hb hX hbl hbA hS (jin tx51 (by omega) (by omega)) dL_law_493 ?_
  have g52 := jrg (rfl : (xs x51.toNatClampNeg).toInt = (xs x51.toNatClampNeg).toInt)
  refine lv_aload_n hx hb dL_law_494 rfl (lv_at hl 3 rfl) ?_
  refine lv_iload_n hx hb dL_law_495 rfl (lv_at hl 0 rfl) ?_
  refine lv_iconst (v := 3) hx hb dL_law_496 (by decide) ?_
  refine lv_iadd hx hb dL_law_497 ?_
  refine lv_topi (fun x53 ex53 => ?_)
  have tx53 : x53.toInt = x0.toInt + 3 := (jadd ex53 rfl jz_3 (by omega) (by omega)).trans (by omega)
  refine va_sld hx hb hX hbl hbA hS (jin tx53 (by omega) (by omega)) dL_law_498 ?_
  have g54 := jrg (rfl : (xs x53.toNatClampNeg).toInt = (xs x53.toNatClampNeg).toInt)
  refine jcallV (As := [.int (xs x49.toNatClampNeg), .int (xs x51.toNatClampNeg), .int (xs x53.toNatClampNeg)]) (rest := []) ⟨hx, hb, hml, hown, hts⟩ hK hP hA hS hZ (c_X11_rule l D cI cL ad zz hJ σ τ (xs x49.toNatClampNeg) ((xs x49.toNatClampNeg).toInt) rfl (xs x51.toNatClampNeg) ((xs x51.toNatClampNeg).toInt) rfl (xs x53.toNatClampNeg) ((xs x53.toNatClampNeg).toInt) rfl hI38) cw_RL_53 (jc_0 cI cL ad σ τ) rfl ⟨Nat.le_of_ble_eq_true rfl, Nat.le_of_ble_eq_true rfl⟩ rfl rfl rfl hl.1 rfl (Nat.le_of_ble_eq_true rfl) dL_law_499 ⟨Nat.le_of_ble_eq_true rfl, Nat.le_of_ble_eq_true rfl⟩ (fun r56 σ55 τ55 H locs h55 hP hS => ?_)
  obtain ⟨rfl, f57, f58, I59, h55⟩ := h55
  obtain ⟨i61, i62, w63⟩ : (0 ≤ (σ55 38 0).toInt ∧ (σ55 38 0).toInt ≤ 20) ∧ (0 ≤ (σ55 38 1).toInt ∧ (σ55 38 1).toInt ≤ 1000) ∧ (∀ k : Nat, k < 20 → 0 ≤ (σ55 39 k).toInt ∧ (σ55 39 k).toInt ≤ 6) := id I59
  have z64 : (σ55 38 1).toInt = (σ 38 1).toInt := (congrArg Int32.toInt (show σ55 38 1 = (σ 38 1) from (f58 1 (by decide))))
  rcases h55 with h65 | h66 | h67
  · obtain ⟨q71, k68, k69, k70⟩ := h65
    have q71 := q71.symm
    subst q71
    refine lv_pop hx hb dL_law_502 rfl ?_
    refine lv_aload_n hx hb dL_law_503 rfl (lv_at hl 1 rfl) ?_
    refine lv_aload_n hx hb dL_law_504 rfl (lv_at hl 3 rfl) ?_
    refine lv_iload_n hx hb dL_law_505 rfl (lv_at hl 0 rfl) ?_
    refine lv_iconst (v := 1) hx hb dL_law_506 (by decide) ?_
    refine lv_iadd hx hb dL_law_507 ?_
    refine jtopr ex49.symm ?_
    refine va_sld hx hb hX hbl hbA hS (jin tx49 (by omega) (by omega)) dL_law_508 ?_
    refine lv_aload_n hx hb dL_law_509 rfl (lv_at hl 3 rfl) ?_
    refine lv_iload_n hx hb dL_law_510 rfl (lv_at hl 0 rfl) ?_
    refine lv_iconst (v := 2) hx hb dL_law_511 (by decide) ?_
    refine lv_iadd hx hb dL_law_512 ?_
    refine jtopr ex51.symm ?_
    refine va_sld hx hb hX hbl hbA hS (jin tx51 (by omega) (by omega)) dL_law_513 ?_
    refine lv_aload_n hx hb dL_law_514 rfl (lv_at hl 3 rfl) ?_
    refine lv_iload_n hx hb dL_law_515 rfl (lv_at hl 0 rfl) ?_
    refine lv_iconst (v := 3) hx hb dL_law_516 (by decide) ?_
    refine lv_iadd hx hb dL_law_517 ?_
    refine jtopr ex53.symm ?_
    refine va_sld hx hb hX hbl hbA hS (jin tx53 (by omega) (by omega)) dL_law_518 ?_
    have I72 : jI106 σ55 := jI106_fr (congrFun (f57 55 (by decide)) 32) (f57 70 (by decide)) (f57 71 (by decide)) (f57 72 (by decide)) hI106
    have z73 : (σ55 55 32).toInt = (σ 55 32).toInt := (congrArg Int32.toInt (show σ55 55 32 = (σ 55 32) from (congrFun (f57 55 (by decide)) 32)))
    refine jcallV (As := [.int (xs x49.toNatClampNeg), .int (xs x51.toNatClampNeg), .int (xs x53.toNatClampNeg)]) (rest := []) ⟨hx, hb, hml, hown, hts⟩ hK hP hA hS hZ (c_X12_rule l D cI cL ad zz hJ σ55 τ (xs x49.toNatClampNeg) ((xs x49.toNatClampNeg).toInt) rfl (xs x51.toNatClampNeg) ((xs x51.toNatClampNeg).toInt) rfl (xs x53.toNatClampNeg) ((xs x53.toNatClampNeg).toInt) rfl I72) cw_RL_56 (jc_55 cI cL ad σ55 τ) rfl ⟨Nat.le_of_ble_eq_true rfl, Nat.le_of_ble_eq_true rfl⟩ rfl rfl rfl hl.1 rfl (Nat.le_of_ble_eq_true rfl) dL_law_519 ⟨Nat.le_of_ble_eq_true rfl, Nat.le_of_ble_eq_true rfl⟩ (fun r75 σ74 τ74 H locs h74 hP hS => ?_)
    obtain ⟨rfl, f76, f77, I78, h74⟩ := h74
    obtain ⟨i80, w81, w82, w83⟩ : (0 ≤ (σ74 55 32).toInt ∧ (σ74 55 32).toInt ≤ 20) ∧ (∀ k : Nat, k < 20 → 0 ≤ (σ74 70 k).toInt ∧ (σ74 70 k).toInt ≤ 6) ∧ (∀ k : Nat, k < 20 → 0 ≤ (σ74 71 k).toInt ∧ (σ74 71 k).toInt ≤ 8) ∧ (∀ k : Nat, k < 160 → 0 ≤ (σ74 72 k).toInt ∧ (σ74 72 k).toInt ≤ 3) := id I78
    rcases h74 with h84 | h85 | h86
    · obtain ⟨q90, k87, k88, k89⟩ := h84
      have q90 := q90.symm
      subst q90
      refine lv_pop hx hb dL_law_522 rfl ?_
      refine lv_goto (tgt := 1357) hx hb dL_law_523 (by decide) ?_
      obtain ⟨x91, ex91⟩ : ∃ y : Int32, y = x0 + 6 := ⟨_, rfl⟩
      have tx91 : x91.toInt = x0.toInt + 6 := (jadd ex91 rfl jz_6 (by omega) (by omega)).trans (by omega)
      refine lv_iinc (v := x91) (lv' := [(3, .int x91), (2, .ref (ad 55)), (1, .ref (ad 0)), (0, .ref b)]) hx hb dL_law_1357 hl (k := 0) rfl (by rw [ex91]; rfl) (by decide) rfl (fun ls hl => ?_)
      refine lv_goto (tgt := 18) hx hb dL_law_1360 (by decide) ?_
      have I92 : jI2 σ74 := jI2_fr ((congrFun (f76 2 (by decide)) 0).trans (congrFun (f57 2 (by decide)) 0)) ((congrFun (f76 2 (by decide)) 1).trans (congrFun (f57 2 (by decide)) 1)) ((congrFun (f76 2 (by decide)) 2).trans (congrFun (f57 2 (by decide)) 2)) ((congrFun (f76 2 (by decide)) 3).trans (congrFun (f57 2 (by decide)) 3)) ((f76 6 (by decide)).trans (f57 6 (by decide))) ((f76 5 (by decide)).trans (f57 5 (by decide))) hI2
      have I93 : jI9 σ74 := jI9_fr ((congrFun (f76 9 (by decide)) 0).trans (congrFun (f57 9 (by decide)) 0)) ((f76 10 (by decide)).trans (f57 10 (by decide))) ((f76 11 (by decide)).trans (f57 11 (by decide))) hI9
      have I94 : jI12 σ74 := jI12_fr ((congrFun (f76 12 (by decide)) 0).trans (congrFun (f57 12 (by decide)) 0)) ((f76 13 (by decide)).trans (f57 13 (by decide))) hI12
      have I95 : jI16 σ74 := jI16_fr ((congrFun (f76 16 (by decide)) 0).trans (congrFun (f57 16 (by decide)) 0)) ((congrFun (f76 16 (by decide)) 1).trans (congrFun (f57 16 (by decide)) 1)) ((congrFun (f76 16 (by decide)) 2).trans (congrFun (f57 16 (by decide)) 2)) ((f76 17 (by decide)).trans (f57 17 (by decide))) hI16
      have I96 : jI18 σ74 := jI18_fr ((congrFun (f76 18 (by decide)) 0).trans (congrFun (f57 18 (by decide)) 0)) ((f76 19 (by decide)).trans (f57 19 (by decide))) hI18
      have I97 : jI22 σ74 := jI22_fr ((congrFun (f76 22 (by decide)) 0).trans (congrFun (f57 22 (by decide)) 0)) ((f76 23 (by decide)).trans (f57 23 (by decide))) hI22
      have I98 : jI31 σ74 := jI31_fr ((congrFun (f76 31 (by decide)) 8).trans (congrFun (f57 31 (by decide)) 8)) ((congrFun (f76 31 (by decide)) 10).trans (congrFun (f57 31 (by decide)) 10)) ((congrFun (f76 31 (by decide)) 11).trans (congrFun (f57 31 (by decide)) 11)) ((f76 33 (by decide)).trans (f57 33 (by decide))) ((f76 35 (by decide)).trans (f57 35 (by decide))) ((f76 36 (by decide)).trans (f57 36 (by decide))) hI31
      have I99 : jI38 σ74 := jI38_fr (congrFun (f76 38 (by decide)) 0) (congrFun (f76 38 (by decide)) 1) (f76 39 (by decide)) I59
      have I100 : jI43 σ74 := jI43_fr ((congrFun (f76 43 (by decide)) 8).trans (congrFun (f57 43 (by decide)) 8)) hI43
      have I101 : jI47 σ74 := jI47_fr ((congrFun (f76 47 (by decide)) 0).trans (congrFun (f57 47 (by decide)) 0)) ((f76 48 (by decide)).trans (f57 48 (by decide))) ((f76 49 (by decide)).trans (f57 49 (by decide))) hI47
      have I102 : jI50 σ74 := jI50_fr ((f76 52 (by decide)).trans (f57 52 (by decide))) hI50
      have I103 : jI0 σ74 := jI0_fr ((f76 1 (by decide)).trans (f57 1 (by decide))) hI0
      have I104 : jI26 σ74 := jI26_fr ((congrFun (f76 26 (by decide)) 6).trans (congrFun (f57 26 (by decide)) 6)) hI26
      have I105 : jI101 σ74 := jI101_fr ((f77 4 (by decide)).trans (congrFun (f57 55 (by decide)) 4)) ((f77 5 (by decide)).trans (congrFun (f57 55 (by decide)) 5)) ((f76 56 (by decide)).trans (f57 56 (by decide))) ((f76 57 (by decide)).trans (f57 57 (by decide))) ((f76 58 (by decide)).trans (f57 58 (by decide))) ((f76 59 (by decide)).trans (f57 59 (by decide))) hI101
      have I106 : jI102 σ74 := jI102_fr ((f77 6 (by decide)).trans (congrFun (f57 55 (by decide)) 6)) ((f76 60 (by decide)).trans (f57 60 (by decide))) ((f76 61 (by decide)).trans (f57 61 (by decide))) hI102
      have I107 : jI103 σ74 := jI103_fr ((f77 9 (by decide)).trans (congrFun (f57 55 (by decide)) 9)) hI103
      have I108 : jI104 σ74 := jI104_fr ((f77 10 (by decide)).trans (congrFun (f57 55 (by decide)) 10)) ((f77 12 (by decide)).trans (congrFun (f57 55 (by decide)) 12)) ((f77 13 (by decide)).trans (congrFun (f57 55 (by decide)) 13)) ((f76 62 (by decide)).trans (f57 62 (by decide))) ((f76 67 (by decide)).trans (f57 67 (by decide))) hI104
      have I109 : jI105 σ74 := jI105_fr ((f77 15 (by decide)).trans (congrFun (f57 55 (by decide)) 15)) ((f76 65 (by decide)).trans (f57 65 (by decide))) hI105
      have I110 : jI107 σ74 := jI107_fr ((f77 12 (by decide)).trans (congrFun (f57 55 (by decide)) 12)) ((f77 47 (by decide)).trans (congrFun (f57 55 (by decide)) 47)) ((f76 80 (by decide)).trans (f57 80 (by decide))) hI107
      have I111 : jI109 σ74 := jI109_fr ((f77 50 (by decide)).trans (congrFun (f57 55 (by decide)) 50)) hI109
      have I112 : jI110 σ74 := jI110_fr ((f76 86 (by decide)).trans (f57 86 (by decide))) ((f76 87 (by decide)).trans (f57 87 (by decide))) hI110
      have I113 : jI111 σ74 := jI111_fr ((f76 79 (by decide)).trans (f57 79 (by decide))) hI111
      have I114 : jI119 σ74 := jI119_fr ((f76 68 (by decide)).trans (f57 68 (by decide))) hI119
      have p115 : jKept σ74 := jKept.fr ((f76 75 (by decide)).trans (f57 75 (by decide))) ((f76 76 (by decide)).trans (f57 76 (by decide))) ((f76 77 (by decide)).trans (f57 77 (by decide))) hs_jKept
      have p116 : jBook σ74 := jBook.fr ((f77 47 (by decide)).trans (congrFun (f57 55 (by decide)) 47)) ((f77 10 (by decide)).trans (congrFun (f57 55 (by decide)) 10)) ((f76 81 (by decide)).trans (f57 81 (by decide))) hs_jBook
      have p117 : jNd12 σ74 := jNd12.fr ((congrFun (f76 12 (by decide)) 0).trans (congrFun (f57 12 (by decide)) 0)) ((congrFun (f76 12 (by decide)) 1).trans (congrFun (f57 12 (by decide)) 1)) ((f76 13 (by decide)).trans (f57 13 (by decide))) hs_jNd12
      have p118 : jN67 σ74 := jN67.fr ((f76 24 (by decide)).trans (f57 24 (by decide))) hs_jN67
      have p119 : jBl σ74 := jBl.fr ((congrFun (f76 22 (by decide)) 0).trans (congrFun (f57 22 (by decide)) 0)) ((congrFun (f76 22 (by decide)) 1).trans (congrFun (f57 22 (by decide)) 1)) ((f76 23 (by decide)).trans (f57 23 (by decide))) ((congrFun (f76 26 (by decide)) 6).trans (congrFun (f57 26 (by decide)) 6)) ((congrFun (f76 26 (by decide)) 7).trans (congrFun (f57 26 (by decide)) 7)) ((f76 29 (by decide)).trans (f57 29 (by decide))) ((f76 30 (by decide)).trans (f57 30 (by decide))) hs_jBl
      have p120 : jKb σ74 := jKb.fr ((congrFun (f76 31 (by decide)) 8).trans (congrFun (f57 31 (by decide)) 8)) ((congrFun (f76 31 (by decide)) 11).trans (congrFun (f57 31 (by decide)) 11)) ((f76 32 (by decide)).trans (f57 32 (by decide))) hs_jKb
      have p121 : jTR σ74 := jTR.fr ((f76 64 (by decide)).trans (f57 64 (by decide))) ((f76 65 (by decide)).trans (f57 65 (by decide))) hs_jTR
      have p122 : jKh σ74 := jKh.fr ((congrFun (f76 31 (by decide)) 8).trans (congrFun (f57 31 (by decide)) 8)) ((f76 32 (by decide)).trans (f57 32 (by decide))) ((f76 36 (by decide)).trans (f57 36 (by decide))) ((f76 37 (by decide)).trans (f57 37 (by decide))) hs_jKh
      have p123 : jKg σ74 := jKg.fr ((congrFun (f76 31 (by decide)) 8).trans (congrFun (f57 31 (by decide)) 8)) ((congrFun (f76 31 (by decide)) 9).trans (congrFun (f57 31 (by decide)) 9)) ((congrFun (f76 31 (by decide)) 11).trans (congrFun (f57 31 (by decide)) 11)) ((congrFun (f76 31 (by decide)) 12).trans (congrFun (f57 31 (by decide)) 12)) ((f76 32 (by decide)).trans (f57 32 (by decide))) ((f76 33 (by decide)).trans (f57 33 (by decide))) hs_jKg
      have p124 : jNz σ74 := jNz.fr ((f76 34 (by decide)).trans (f57 34 (by decide))) hs_jNz
      have p125 : jqSt σ74 := jqSt.fr ((f76 78 (by decide)).trans (f57 78 (by decide))) ((f77 42 (by decide)).trans (congrFun (f57 55 (by decide)) 42)) hs_jqSt
      have z126 : (σ74 2 0).toInt = (σ 2 0).toInt := (congrArg Int32.toInt (show σ74 2 0 = (σ 2 0) from ((congrFun (f76 2 (by decide)) 0).trans (congrFun (f57 2 (by decide)) 0))))
      have z127 : (σ74 55 6).toInt = (σ 55 6).toInt := (congrArg Int32.toInt (show σ74 55 6 = (σ 55 6) from ((f77 6 (by decide)).trans (congrFun (f57 55 (by decide)) 6))))
      have z128 : (σ74 2 2).toInt = (σ 2 2).toInt := (congrArg Int32.toInt (show σ74 2 2 = (σ 2 2) from ((congrFun (f76 2 (by decide)) 2).trans (congrFun (f57 2 (by decide)) 2))))
      have z129 : (σ74 55 5).toInt = (σ 55 5).toInt := (congrArg Int32.toInt (show σ74 55 5 = (σ 55 5) from ((f77 5 (by decide)).trans (congrFun (f57 55 (by decide)) 5))))
      have z130 : (σ74 2 3).toInt = (σ 2 3).toInt := (congrArg Int32.toInt (show σ74 2 3 = (σ 2 3) from ((congrFun (f76 2 (by decide)) 3).trans (congrFun (f57 2 (by decide)) 3))))
      have z131 : (σ74 55 4).toInt = (σ 55 4).toInt := (congrArg Int32.toInt (show σ74 55 4 = (σ 55 4) from ((f77 4 (by decide)).trans (congrFun (f57 55 (by decide)) 4))))
      have z132 : (σ74 9 0).toInt = (σ 9 0).toInt := (congrArg Int32.toInt (show σ74 9 0 = (σ 9 0) from ((congrFun (f76 9 (by decide)) 0).trans (congrFun (f57 9 (by decide)) 0))))
      have z133 : (σ74 55 15).toInt = (σ 55 15).toInt := (congrArg Int32.toInt (show σ74 55 15 = (σ 55 15) from ((f77 15 (by decide)).trans (congrFun (f57 55 (by decide)) 15))))
      have z134 : (σ74 16 0).toInt = (σ 16 0).toInt := (congrArg Int32.toInt (show σ74 16 0 = (σ 16 0) from ((congrFun (f76 16 (by decide)) 0).trans (congrFun (f57 16 (by decide)) 0))))
      have z135 : (σ74 55 10).toInt = (σ 55 10).toInt := (congrArg Int32.toInt (show σ74 55 10 = (σ 55 10) from ((f77 10 (by decide)).trans (congrFun (f57 55 (by decide)) 10))))
      have z136 : (σ74 16 1).toInt = (σ 16 1).toInt := (congrArg Int32.toInt (show σ74 16 1 = (σ 16 1) from ((congrFun (f76 16 (by decide)) 1).trans (congrFun (f57 16 (by decide)) 1))))
      have z137 : (σ74 55 12).toInt = (σ 55 12).toInt := (congrArg Int32.toInt (show σ74 55 12 = (σ 55 12) from ((f77 12 (by decide)).trans (congrFun (f57 55 (by decide)) 12))))
      have z138 : (σ74 16 2).toInt = (σ 16 2).toInt := (congrArg Int32.toInt (show σ74 16 2 = (σ 16 2) from ((congrFun (f76 16 (by decide)) 2).trans (congrFun (f57 16 (by decide)) 2))))
      have z139 : (σ74 55 13).toInt = (σ 55 13).toInt := (congrArg Int32.toInt (show σ74 55 13 = (σ 55 13) from ((f77 13 (by decide)).trans (congrFun (f57 55 (by decide)) 13))))
      have z140 : (σ74 38 0).toInt = (σ55 38 0).toInt := (congrArg Int32.toInt (show σ74 38 0 = (σ55 38 0) from (congrFun (f76 38 (by decide)) 0)))
      have z141 : (σ74 38 1).toInt = (σ 38 1).toInt := (congrArg Int32.toInt (show σ74 38 1 = (σ 38 1) from ((congrFun (f76 38 (by decide)) 1).trans (f58 1 (by decide)))))
      have z142 : (σ74 55 55).toInt = (σ 55 55).toInt := (congrArg Int32.toInt (show σ74 55 55 = (σ 55 55) from ((f77 55 (by decide)).trans (congrFun (f57 55 (by decide)) 55))))
      have z143 : (σ74 47 0).toInt = (σ 47 0).toInt := (congrArg Int32.toInt (show σ74 47 0 = (σ 47 0) from ((congrFun (f76 47 (by decide)) 0).trans (congrFun (f57 47 (by decide)) 0))))
      have z144 : (σ74 55 47).toInt = (σ 55 47).toInt := (congrArg Int32.toInt (show σ74 55 47 = (σ 55 47) from ((f77 47 (by decide)).trans (congrFun (f57 55 (by decide)) 47))))
      have z145 : (σ74 55 30).toInt = (σ 55 30).toInt := (congrArg Int32.toInt (show σ74 55 30 = (σ 55 30) from ((f77 30 (by decide)).trans (congrFun (f57 55 (by decide)) 30))))
      have z146 : (σ74 55 31).toInt = (σ 55 31).toInt := (congrArg Int32.toInt (show σ74 55 31 = (σ 55 31) from ((f77 31 (by decide)).trans (congrFun (f57 55 (by decide)) 31))))
      have z147 : (σ74 2 1).toInt = (σ 2 1).toInt := (congrArg Int32.toInt (show σ74 2 1 = (σ 2 1) from ((congrFun (f76 2 (by decide)) 1).trans (congrFun (f57 2 (by decide)) 1))))
      have z148 : (σ74 55 9).toInt = (σ 55 9).toInt := (congrArg Int32.toInt (show σ74 55 9 = (σ 55 9) from ((f77 9 (by decide)).trans (congrFun (f57 55 (by decide)) 9))))
      have z149 : (σ74 55 42).toInt = (σ 55 42).toInt := (congrArg Int32.toInt (show σ74 55 42 = (σ 55 42) from ((f77 42 (by decide)).trans (congrFun (f57 55 (by decide)) 42))))
      have z150 : (σ74 26 6).toInt = (σ 26 6).toInt := (congrArg Int32.toInt (show σ74 26 6 = (σ 26 6) from ((congrFun (f76 26 (by decide)) 6).trans (congrFun (f57 26 (by decide)) 6))))
      have z152 : (σ74 18 0).toInt = (σ 18 0).toInt := (congrArg Int32.toInt (show σ74 18 0 = (σ 18 0) from ((congrFun (f76 18 (by decide)) 0).trans (congrFun (f57 18 (by decide)) 0))))
      have z153 : (σ74 22 0).toInt = (σ 22 0).toInt := (congrArg Int32.toInt (show σ74 22 0 = (σ 22 0) from ((congrFun (f76 22 (by decide)) 0).trans (congrFun (f57 22 (by decide)) 0))))
      exact ih x91 σ74 τ _ _ ls (by have h9 := tx91; omega) ⟨I92, I93, I94, I95, I96, I97, I98, I99, I100, I101, I102, I103, I104, I105, I106, I107, I108, I109, I78, I110, I111, I112, I113, I114, p115, p116, p117, p118, p119, p120, p121, p122, p123, p124, p125, (by omega), (by omega), (by omega), (by omega), (by omega), (by omega), (by omega), (by omega), (by omega), (by omega), (by omega), (by omega), (by omega), (by omega), (by have h9 := tx91; omega), (by have h9 := tx91; omega), (show jNumP (σ74 3) (σ74 56) (σ74 6) (σ74 57) (σ74 7) (σ74 58) (σ74 8) (σ74 59) (σ74 55 6).toInt (σ74 55 4).toInt by rw [show σ74 3 = σ 3 from ((f76 3 (by decide)).trans (f57 3 (by decide))), show σ74 56 = σ 56 from ((f76 56 (by decide)).trans (f57 56 (by decide))), show σ74 6 = σ 6 from ((f76 6 (by decide)).trans (f57 6 (by decide))), show σ74 57 = σ 57 from ((f76 57 (by decide)).trans (f57 57 (by decide))), show σ74 7 = σ 7 from ((f76 7 (by decide)).trans (f57 7 (by decide))), show σ74 58 = σ 58 from ((f76 58 (by decide)).trans (f57 58 (by decide))), show σ74 8 = σ 8 from ((f76 8 (by decide)).trans (f57 8 (by decide))), show σ74 59 = σ 59 from ((f76 59 (by decide)).trans (f57 59 (by decide))), show (σ74 55 6).toInt = (σ 55 6).toInt from by omega, show (σ74 55 4).toInt = (σ 55 4).toInt from by omega]; exact hr0), (show jOvP (σ74 56) (σ74 57) (σ74 58) (σ74 59) (σ74 55 4).toInt by rw [show σ74 56 = σ 56 from ((f76 56 (by decide)).trans (f57 56 (by decide))), show σ74 57 = σ 57 from ((f76 57 (by decide)).trans (f57 57 (by decide))), show σ74 58 = σ 58 from ((f76 58 (by decide)).trans (f57 58 (by decide))), show σ74 59 = σ 59 from ((f76 59 (by decide)).trans (f57 59 (by decide))), show (σ74 55 4).toInt = (σ 55 4).toInt from by omega]; exact hr1), (show jTp (σ74 10) (σ74 63) (σ74 55 15).toInt by rw [show σ74 10 = σ 10 from ((f76 10 (by decide)).trans (f57 10 (by decide))), show σ74 63 = σ 63 from ((f76 63 (by decide)).trans (f57 63 (by decide)))]; exact hr2.le (by omega)), (show jSo (σ74 17) (σ74 62) (σ74 16 0).toInt by rw [show σ74 17 = σ 17 from ((f76 17 (by decide)).trans (f57 17 (by decide))), show σ74 62 = σ 62 from ((f76 62 (by decide)).trans (f57 62 (by decide))), show (σ74 16 0).toInt = (σ 16 0).toInt from by omega]; exact hr3), (show jShP (σ74 51) (σ74 52) (σ74 53) (σ74 86) (σ74 87) (σ74 55 32).toInt by rw [show σ74 51 = σ 51 from ((f76 51 (by decide)).trans (f57 51 (by decide))), show σ74 52 = σ 52 from ((f76 52 (by decide)).trans (f57 52 (by decide))), show σ74 53 = σ 53 from ((f76 53 (by decide)).trans (f57 53 (by decide))), show σ74 86 = σ 86 from ((f76 86 (by decide)).trans (f57 86 (by decide))), show σ74 87 = σ 87 from ((f76 87 (by decide)).trans (f57 87 (by decide)))]; exact (hr4.up (by omega) (by omega))), (show jEl (σ74 51) (σ74 52) (τ 54) (τ 88) by rw [show σ74 51 = σ 51 from ((f76 51 (by decide)).trans (f57 51 (by decide))), show σ74 52 = σ 52 from ((f76 52 (by decide)).trans (f57 52 (by decide)))]; exact hr5), (show jByP (σ74 51) (σ74 52) (τ 54) by rw [show σ74 51 = σ 51 from ((f76 51 (by decide)).trans (f57 51 (by decide))), show σ74 52 = σ 52 from ((f76 52 (by decide)).trans (f57 52 (by decide)))]; exact hr6), (show jBk (σ74 48) (σ74 80) (σ74 49) (σ74 81) (σ74 55 47).toInt by rw [show σ74 48 = σ 48 from ((f76 48 (by decide)).trans (f57 48 (by decide))), show σ74 49 = σ 49 from ((f76 49 (by decide)).trans (f57 49 (by decide))), show σ74 80 = σ 80 from ((f76 80 (by decide)).trans (f57 80 (by decide))), show σ74 81 = σ 81 from ((f76 81 (by decide)).trans (f57 81 (by decide))), show (σ74 55 47).toInt = (σ 55 47).toInt from by omega]; exact hr7), (show jKd (σ74 39) (σ74 70) (σ74 55 32).toInt by rw [show σ74 39 = σ 39 from ((f76 39 (by decide)).trans k70.1), show σ74 70 = σ 70 from (k89.1.trans (f57 70 (by decide))), show (σ74 55 32).toInt = (σ 55 32).toInt from by omega]; exact hr8), (show jTt (σ74 42) (σ74 85) (σ74 55 55).toInt by rw [show σ74 42 = σ 42 from ((f76 42 (by decide)).trans (f57 42 (by decide))), show σ74 85 = σ 85 from ((f76 85 (by decide)).trans (f57 85 (by decide))), show (σ74 55 55).toInt = (σ 55 55).toInt from by omega]; exact hr9), (fun k hk => by rw [show σ74 4 = σ 4 from ((f76 4 (by decide)).trans (f57 4 (by decide))), show σ74 5 = σ 5 from ((f76 5 (by decide)).trans (f57 5 (by decide))), show σ74 60 = σ 60 from ((f76 60 (by decide)).trans (f57 60 (by decide))), show σ74 61 = σ 61 from ((f76 61 (by decide)).trans (f57 61 (by decide)))]; exact hr10 k (by omega)), (fun nm => by rw [show σ74 19 = σ 19 from ((f76 19 (by decide)).trans (f57 19 (by decide))), show σ74 64 = σ 64 from ((f76 64 (by decide)).trans (f57 64 (by decide))), show σ74 65 = σ 65 from ((f76 65 (by decide)).trans (f57 65 (by decide))), show (σ74 18 0).toInt = (σ 18 0).toInt from by omega]; exact hr11 nm), (fun nm => by rw [show σ74 23 = σ 23 from ((f76 23 (by decide)).trans (f57 23 (by decide))), show σ74 64 = σ 64 from ((f76 64 (by decide)).trans (f57 64 (by decide))), show σ74 65 = σ 65 from ((f76 65 (by decide)).trans (f57 65 (by decide))), show (σ74 22 0).toInt = (σ 22 0).toInt from by omega]; exact hr12 nm), (show jAlP (σ74 56) (σ74 57) (σ74 58) (σ74 59) (σ74 55 4).toInt by rw [show σ74 56 = σ 56 from ((f76 56 (by decide)).trans (f57 56 (by decide))), show σ74 57 = σ 57 from ((f76 57 (by decide)).trans (f57 57 (by decide))), show σ74 58 = σ 58 from ((f76 58 (by decide)).trans (f57 58 (by decide))), show σ74 59 = σ 59 from ((f76 59 (by decide)).trans (f57 59 (by decide))), show (σ74 55 4).toInt = (σ 55 4).toInt from by omega]; exact hr13), (show jqbN (σ74 80) (σ74 55 47).toInt by rw [show σ74 80 = σ 80 from ((f76 80 (by decide)).trans (f57 80 (by decide))), show (σ74 55 47).toInt = (σ 55 47).toInt from by omega]; exact hr14), (show jRu (σ74 40) (σ74 41) (σ74 71) (σ74 72) (σ74 73) (σ74 55 32).toInt by rw [show σ74 40 = σ 40 from ((f76 40 (by decide)).trans k70.2.1), show σ74 41 = σ 41 from ((f76 41 (by decide)).trans k70.2.2), show σ74 71 = σ 71 from (k89.2.1.trans (f57 71 (by decide))), show σ74 72 = σ 72 from (k89.2.2.1.trans (f57 72 (by decide))), show σ74 73 = σ 73 from (k89.2.2.2.trans (f57 73 (by decide))), show (σ74 55 32).toInt = (σ 55 32).toInt from by omega]; exact hr15)⟩ hP hS (lv_sub hl [0, 1, 2, 3] rfl)
    · obtain ⟨q158, k154, k155, k156, k157⟩ := h85
      have q158 := q158.symm
      subst q158
      exact absurd k156 k69
    · obtain ⟨q165, k159, k160, k161, k162, k163, k164⟩ := h86
      exact absurd k162 k69
  · obtain ⟨q170, k166, k167, k168, k169⟩ := h66
    have q170 := q170.symm
    subst q170
    refine lv_pop hx hb dL_law_502 rfl ?_
    refine lv_aload_n hx hb dL_law_503 rfl (lv_at hl 1 rfl) ?_
    refine lv_aload_n hx hb dL_law_504 rfl (lv_at hl 3 rfl) ?_
    refine lv_iload_n hx hb dL_law_505 rfl (lv_at hl 0 rfl) ?_
    refine lv_iconst (v := 1) hx hb dL_law_506 (by decide) ?_
    refine lv_iadd hx hb dL_law_507 ?_
    refine jtopr ex49.symm ?_
    refine va_sld hx hb hX hbl hbA hS (jin tx49 (by omega) (by omega)) dL_law_508 ?_
    refine lv_aload_n hx hb dL_law_509 rfl (lv_at hl 3 rfl) ?_
    refine lv_iload_n hx hb dL_law_510 rfl (lv_at hl 0 rfl) ?_
    refine lv_iconst (v := 2) hx hb dL_law_511 (by decide) ?_
    refine lv_iadd hx hb dL_law_512 ?_
    refine jtopr ex51.symm ?_
    refine va_sld hx hb hX hbl hbA hS (jin tx51 (by omega) (by omega)) dL_law_513 ?_
    refine lv_aload_n hx hb dL_law_514 rfl (lv_at hl 3 rfl) ?_
    refine lv_iload_n hx hb dL_law_515 rfl (lv_at hl 0 rfl) ?_
    refine lv_iconst (v := 3) hx hb dL_law_516 (by decide) ?_
    refine lv_iadd hx hb dL_law_517 ?_
    refine jtopr ex53.symm ?_
    refine va_sld hx hb hX hbl hbA hS (jin tx53 (by omega) (by omega)) dL_law_518 ?_
    have I171 : jI106 σ55 := jI106_fr (congrFun (f57 55 (by decide)) 32) (f57 70 (by decide)) (f57 71 (by decide)) (f57 72 (by decide)) hI106
    have z172 : (σ55 55 32).toInt = (σ 55 32).toInt := (congrArg Int32.toInt (show σ55 55 32 = (σ 55 32) from (congrFun (f57 55 (by decide)) 32)))
    refine jcallV (As := [.int (xs x49.toNatClampNeg), .int (xs x51.toNatClampNeg), .int (xs x53.toNatClampNeg)]) (rest := []) ⟨hx, hb, hml, hown, hts⟩ hK hP hA hS hZ (c_X12_rule l D cI cL ad zz hJ σ55 τ (xs x49.toNatClampNeg) ((xs x49.toNatClampNeg).toInt) rfl (xs x51.toNatClampNeg) ((xs x51.toNatClampNeg).toInt) rfl (xs x53.toNatClampNeg) ((xs x53.toNatClampNeg).toInt) rfl I171) cw_RL_56 (jc_55 cI cL ad σ55 τ) rfl ⟨Nat.le_of_ble_eq_true rfl, Nat.le_of_ble_eq_true rfl⟩ rfl rfl rfl hl.1 rfl (Nat.le_of_ble_eq_true rfl) dL_law_519 ⟨Nat.le_of_ble_eq_true rfl, Nat.le_of_ble_eq_true rfl⟩ (fun r174 σ173 τ173 H locs h173 hP hS => ?_)
    obtain ⟨rfl, f175, f176, I177, h173⟩ := h173
    obtain ⟨i179, w180, w181, w182⟩ : (0 ≤ (σ173 55 32).toInt ∧ (σ173 55 32).toInt ≤ 20) ∧ (∀ k : Nat, k < 20 → 0 ≤ (σ173 70 k).toInt ∧ (σ173 70 k).toInt ≤ 6) ∧ (∀ k : Nat, k < 20 → 0 ≤ (σ173 71 k).toInt ∧ (σ173 71 k).toInt ≤ 8) ∧ (∀ k : Nat, k < 160 → 0 ≤ (σ173 72 k).toInt ∧ (σ173 72 k).toInt ≤ 3) := id I177
    rcases h173 with h183 | h184 | h185
    · obtain ⟨q189, k186, k187, k188⟩ := h183
      have q189 := q189.symm
      subst q189
      exact absurd k168 k187
    · obtain ⟨q194, k190, k191, k192, k193⟩ := h184
      have q194 := q194.symm
      subst q194
      refine lv_pop hx hb dL_law_522 rfl ?_
      refine lv_goto (tgt := 1357) hx hb dL_law_523 (by decide) ?_
      obtain ⟨x195, ex195⟩ : ∃ y : Int32, y = x0 + 6 := ⟨_, rfl⟩
      have tx195 : x195.toInt = x0.toInt + 6 := (jadd ex195 rfl jz_6 (by omega) (by omega)).trans (by omega)
      refine lv_iinc (v := x195) (lv' := [(3, .int x195), (2, .ref (ad 55)), (1, .ref (ad 0)), (0, .ref b)]) hx hb dL_law_1357 hl (k := 0) rfl (by rw [ex195]; rfl) (by decide) rfl (fun ls hl => ?_)
      refine lv_goto (tgt := 18) hx hb dL_law_1360 (by decide) ?_
      have I196 : jI2 σ173 := jI2_fr ((congrFun (f175 2 (by decide)) 0).trans (congrFun (f57 2 (by decide)) 0)) ((congrFun (f175 2 (by decide)) 1).trans (congrFun (f57 2 (by decide)) 1)) ((congrFun (f175 2 (by decide)) 2).trans (congrFun (f57 2 (by decide)) 2)) ((congrFun (f175 2 (by decide)) 3).trans (congrFun (f57 2 (by decide)) 3)) ((f175 6 (by decide)).trans (f57 6 (by decide))) ((f175 5 (by decide)).trans (f57 5 (by decide))) hI2
      have I197 : jI9 σ173 := jI9_fr ((congrFun (f175 9 (by decide)) 0).trans (congrFun (f57 9 (by decide)) 0)) ((f175 10 (by decide)).trans (f57 10 (by decide))) ((f175 11 (by decide)).trans (f57 11 (by decide))) hI9
      have I198 : jI12 σ173 := jI12_fr ((congrFun (f175 12 (by decide)) 0).trans (congrFun (f57 12 (by decide)) 0)) ((f175 13 (by decide)).trans (f57 13 (by decide))) hI12
      have I199 : jI16 σ173 := jI16_fr ((congrFun (f175 16 (by decide)) 0).trans (congrFun (f57 16 (by decide)) 0)) ((congrFun (f175 16 (by decide)) 1).trans (congrFun (f57 16 (by decide)) 1)) ((congrFun (f175 16 (by decide)) 2).trans (congrFun (f57 16 (by decide)) 2)) ((f175 17 (by decide)).trans (f57 17 (by decide))) hI16
      have I200 : jI18 σ173 := jI18_fr ((congrFun (f175 18 (by decide)) 0).trans (congrFun (f57 18 (by decide)) 0)) ((f175 19 (by decide)).trans (f57 19 (by decide))) hI18
      have I201 : jI22 σ173 := jI22_fr ((congrFun (f175 22 (by decide)) 0).trans (congrFun (f57 22 (by decide)) 0)) ((f175 23 (by decide)).trans (f57 23 (by decide))) hI22
      have I202 : jI31 σ173 := jI31_fr ((congrFun (f175 31 (by decide)) 8).trans (congrFun (f57 31 (by decide)) 8)) ((congrFun (f175 31 (by decide)) 10).trans (congrFun (f57 31 (by decide)) 10)) ((congrFun (f175 31 (by decide)) 11).trans (congrFun (f57 31 (by decide)) 11)) ((f175 33 (by decide)).trans (f57 33 (by decide))) ((f175 35 (by decide)).trans (f57 35 (by decide))) ((f175 36 (by decide)).trans (f57 36 (by decide))) hI31
      have I203 : jI38 σ173 := jI38_fr (congrFun (f175 38 (by decide)) 0) (congrFun (f175 38 (by decide)) 1) (f175 39 (by decide)) I59
      have I204 : jI43 σ173 := jI43_fr ((congrFun (f175 43 (by decide)) 8).trans (congrFun (f57 43 (by decide)) 8)) hI43
      have I205 : jI47 σ173 := jI47_fr ((congrFun (f175 47 (by decide)) 0).trans (congrFun (f57 47 (by decide)) 0)) ((f175 48 (by decide)).trans (f57 48 (by decide))) ((f175 49 (by decide)).trans (f57 49 (by decide))) hI47
      have I206 : jI50 σ173 := jI50_fr ((f175 52 (by decide)).trans (f57 52 (by decide))) hI50
      have I207 : jI0 σ173 := jI0_fr ((f175 1 (by decide)).trans (f57 1 (by decide))) hI0
      have I208 : jI26 σ173 := jI26_fr ((congrFun (f175 26 (by decide)) 6).trans (congrFun (f57 26 (by decide)) 6)) hI26
      have I209 : jI101 σ173 := jI101_fr ((f176 4 (by decide)).trans (congrFun (f57 55 (by decide)) 4)) ((f176 5 (by decide)).trans (congrFun (f57 55 (by decide)) 5)) ((f175 56 (by decide)).trans (f57 56 (by decide))) ((f175 57 (by decide)).trans (f57 57 (by decide))) ((f175 58 (by decide)).trans (f57 58 (by decide))) ((f175 59 (by decide)).trans (f57 59 (by decide))) hI101
      have I210 : jI102 σ173 := jI102_fr ((f176 6 (by decide)).trans (congrFun (f57 55 (by decide)) 6)) ((f175 60 (by decide)).trans (f57 60 (by decide))) ((f175 61 (by decide)).trans (f57 61 (by decide))) hI102
      have I211 : jI103 σ173 := jI103_fr ((f176 9 (by decide)).trans (congrFun (f57 55 (by decide)) 9)) hI103
      have I212 : jI104 σ173 := jI104_fr ((f176 10 (by decide)).trans (congrFun (f57 55 (by decide)) 10)) ((f176 12 (by decide)).trans (congrFun (f57 55 (by decide)) 12)) ((f176 13 (by decide)).trans (congrFun (f57 55 (by decide)) 13)) ((f175 62 (by decide)).trans (f57 62 (by decide))) ((f175 67 (by decide)).trans (f57 67 (by decide))) hI104
      have I213 : jI105 σ173 := jI105_fr ((f176 15 (by decide)).trans (congrFun (f57 55 (by decide)) 15)) ((f175 65 (by decide)).trans (f57 65 (by decide))) hI105
      have I214 : jI107 σ173 := jI107_fr ((f176 12 (by decide)).trans (congrFun (f57 55 (by decide)) 12)) ((f176 47 (by decide)).trans (congrFun (f57 55 (by decide)) 47)) ((f175 80 (by decide)).trans (f57 80 (by decide))) hI107
      have I215 : jI109 σ173 := jI109_fr ((f176 50 (by decide)).trans (congrFun (f57 55 (by decide)) 50)) hI109
      have I216 : jI110 σ173 := jI110_fr ((f175 86 (by decide)).trans (f57 86 (by decide))) ((f175 87 (by decide)).trans (f57 87 (by decide))) hI110
      have I217 : jI111 σ173 := jI111_fr ((f175 79 (by decide)).trans (f57 79 (by decide))) hI111
      have I218 : jI119 σ173 := jI119_fr ((f175 68 (by decide)).trans (f57 68 (by decide))) hI119
      have p219 : jKept σ173 := jKept.fr ((f175 75 (by decide)).trans (f57 75 (by decide))) ((f175 76 (by decide)).trans (f57 76 (by decide))) ((f175 77 (by decide)).trans (f57 77 (by decide))) hs_jKept
      have p220 : jBook σ173 := jBook.fr ((f176 47 (by decide)).trans (congrFun (f57 55 (by decide)) 47)) ((f176 10 (by decide)).trans (congrFun (f57 55 (by decide)) 10)) ((f175 81 (by decide)).trans (f57 81 (by decide))) hs_jBook
      have p221 : jNd12 σ173 := jNd12.fr ((congrFun (f175 12 (by decide)) 0).trans (congrFun (f57 12 (by decide)) 0)) ((congrFun (f175 12 (by decide)) 1).trans (congrFun (f57 12 (by decide)) 1)) ((f175 13 (by decide)).trans (f57 13 (by decide))) hs_jNd12
      have p222 : jN67 σ173 := jN67.fr ((f175 24 (by decide)).trans (f57 24 (by decide))) hs_jN67
      have p223 : jBl σ173 := jBl.fr ((congrFun (f175 22 (by decide)) 0).trans (congrFun (f57 22 (by decide)) 0)) ((congrFun (f175 22 (by decide)) 1).trans (congrFun (f57 22 (by decide)) 1)) ((f175 23 (by decide)).trans (f57 23 (by decide))) ((congrFun (f175 26 (by decide)) 6).trans (congrFun (f57 26 (by decide)) 6)) ((congrFun (f175 26 (by decide)) 7).trans (congrFun (f57 26 (by decide)) 7)) ((f175 29 (by decide)).trans (f57 29 (by decide))) ((f175 30 (by decide)).trans (f57 30 (by decide))) hs_jBl
      have p224 : jKb σ173 := jKb.fr ((congrFun (f175 31 (by decide)) 8).trans (congrFun (f57 31 (by decide)) 8)) ((congrFun (f175 31 (by decide)) 11).trans (congrFun (f57 31 (by decide)) 11)) ((f175 32 (by decide)).trans (f57 32 (by decide))) hs_jKb
      have p225 : jTR σ173 := jTR.fr ((f175 64 (by decide)).trans (f57 64 (by decide))) ((f175 65 (by decide)).trans (f57 65 (by decide))) hs_jTR
      have p226 : jKh σ173 := jKh.fr ((congrFun (f175 31 (by decide)) 8).trans (congrFun (f57 31 (by decide)) 8)) ((f175 32 (by decide)).trans (f57 32 (by decide))) ((f175 36 (by decide)).trans (f57 36 (by decide))) ((f175 37 (by decide)).trans (f57 37 (by decide))) hs_jKh
      have p227 : jKg σ173 := jKg.fr ((congrFun (f175 31 (by decide)) 8).trans (congrFun (f57 31 (by decide)) 8)) ((congrFun (f175 31 (by decide)) 9).trans (congrFun (f57 31 (by decide)) 9)) ((congrFun (f175 31 (by decide)) 11).trans (congrFun (f57 31 (by decide)) 11)) ((congrFun (f175 31 (by decide)) 12).trans (congrFun (f57 31 (by decide)) 12)) ((f175 32 (by decide)).trans (f57 32 (by decide))) ((f175 33 (by decide)).trans (f57 33 (by decide))) hs_jKg
      have p228 : jNz σ173 := jNz.fr ((f175 34 (by decide)).trans (f57 34 (by decide))) hs_jNz
      have p229 : jqSt σ173 := jqSt.fr ((f175 78 (by decide)).trans (f57 78 (by decide))) ((f176 42 (by decide)).trans (congrFun (f57 55 (by decide)) 42)) hs_jqSt
      have z230 : (σ173 2 0).toInt = (σ 2 0).toInt := (congrArg Int32.toInt (show σ173 2 0 = (σ 2 0) from ((congrFun (f175 2 (by decide)) 0).trans (congrFun (f57 2 (by decide)) 0))))
      have z231 : (σ173 55 6).toInt = (σ 55 6).toInt := (congrArg Int32.toInt (show σ173 55 6 = (σ 55 6) from ((f176 6 (by decide)).trans (congrFun (f57 55 (by decide)) 6))))
      have z232 : (σ173 2 2).toInt = (σ 2 2).toInt := (congrArg Int32.toInt (show σ173 2 2 = (σ 2 2) from ((congrFun (f175 2 (by decide)) 2).trans (congrFun (f57 2 (by decide)) 2))))
      have z233 : (σ173 55 5).toInt = (σ 55 5).toInt := (congrArg Int32.toInt (show σ173 55 5 = (σ 55 5) from ((f176 5 (by decide)).trans (congrFun (f57 55 (by decide)) 5))))
      have z234 : (σ173 2 3).toInt = (σ 2 3).toInt := (congrArg Int32.toInt (show σ173 2 3 = (σ 2 3) from ((congrFun (f175 2 (by decide)) 3).trans (congrFun (f57 2 (by decide)) 3))))
      have z235 : (σ173 55 4).toInt = (σ 55 4).toInt := (congrArg Int32.toInt (show σ173 55 4 = (σ 55 4) from ((f176 4 (by decide)).trans (congrFun (f57 55 (by decide)) 4))))
      have z236 : (σ173 9 0).toInt = (σ 9 0).toInt := (congrArg Int32.toInt (show σ173 9 0 = (σ 9 0) from ((congrFun (f175 9 (by decide)) 0).trans (congrFun (f57 9 (by decide)) 0))))
      have z237 : (σ173 55 15).toInt = (σ 55 15).toInt := (congrArg Int32.toInt (show σ173 55 15 = (σ 55 15) from ((f176 15 (by decide)).trans (congrFun (f57 55 (by decide)) 15))))
      have z238 : (σ173 16 0).toInt = (σ 16 0).toInt := (congrArg Int32.toInt (show σ173 16 0 = (σ 16 0) from ((congrFun (f175 16 (by decide)) 0).trans (congrFun (f57 16 (by decide)) 0))))
      have z239 : (σ173 55 10).toInt = (σ 55 10).toInt := (congrArg Int32.toInt (show σ173 55 10 = (σ 55 10) from ((f176 10 (by decide)).trans (congrFun (f57 55 (by decide)) 10))))
      have z240 : (σ173 16 1).toInt = (σ 16 1).toInt := (congrArg Int32.toInt (show σ173 16 1 = (σ 16 1) from ((congrFun (f175 16 (by decide)) 1).trans (congrFun (f57 16 (by decide)) 1))))
      have z241 : (σ173 55 12).toInt = (σ 55 12).toInt := (congrArg Int32.toInt (show σ173 55 12 = (σ 55 12) from ((f176 12 (by decide)).trans (congrFun (f57 55 (by decide)) 12))))
      have z242 : (σ173 16 2).toInt = (σ 16 2).toInt := (congrArg Int32.toInt (show σ173 16 2 = (σ 16 2) from ((congrFun (f175 16 (by decide)) 2).trans (congrFun (f57 16 (by decide)) 2))))
      have z243 : (σ173 55 13).toInt = (σ 55 13).toInt := (congrArg Int32.toInt (show σ173 55 13 = (σ 55 13) from ((f176 13 (by decide)).trans (congrFun (f57 55 (by decide)) 13))))
      have z244 : (σ173 38 0).toInt = (σ55 38 0).toInt := (congrArg Int32.toInt (show σ173 38 0 = (σ55 38 0) from (congrFun (f175 38 (by decide)) 0)))
      have z245 : (σ173 38 1).toInt = (σ 38 1).toInt := (congrArg Int32.toInt (show σ173 38 1 = (σ 38 1) from ((congrFun (f175 38 (by decide)) 1).trans (f58 1 (by decide)))))
      have z246 : (σ173 55 55).toInt = (σ 55 55).toInt := (congrArg Int32.toInt (show σ173 55 55 = (σ 55 55) from ((f176 55 (by decide)).trans (congrFun (f57 55 (by decide)) 55))))
      have z247 : (σ173 47 0).toInt = (σ 47 0).toInt := (congrArg Int32.toInt (show σ173 47 0 = (σ 47 0) from ((congrFun (f175 47 (by decide)) 0).trans (congrFun (f57 47 (by decide)) 0))))
      have z248 : (σ173 55 47).toInt = (σ 55 47).toInt := (congrArg Int32.toInt (show σ173 55 47 = (σ 55 47) from ((f176 47 (by decide)).trans (congrFun (f57 55 (by decide)) 47))))
      have z249 : (σ173 55 30).toInt = (σ 55 30).toInt := (congrArg Int32.toInt (show σ173 55 30 = (σ 55 30) from ((f176 30 (by decide)).trans (congrFun (f57 55 (by decide)) 30))))
      have z250 : (σ173 55 31).toInt = (σ 55 31).toInt := (congrArg Int32.toInt (show σ173 55 31 = (σ 55 31) from ((f176 31 (by decide)).trans (congrFun (f57 55 (by decide)) 31))))
      have z251 : (σ173 2 1).toInt = (σ 2 1).toInt := (congrArg Int32.toInt (show σ173 2 1 = (σ 2 1) from ((congrFun (f175 2 (by decide)) 1).trans (congrFun (f57 2 (by decide)) 1))))
      have z252 : (σ173 55 9).toInt = (σ 55 9).toInt := (congrArg Int32.toInt (show σ173 55 9 = (σ 55 9) from ((f176 9 (by decide)).trans (congrFun (f57 55 (by decide)) 9))))
      have z253 : (σ173 55 42).toInt = (σ 55 42).toInt := (congrArg Int32.toInt (show σ173 55 42 = (σ 55 42) from ((f176 42 (by decide)).trans (congrFun (f57 55 (by decide)) 42))))
      have z254 : (σ173 26 6).toInt = (σ 26 6).toInt := (congrArg Int32.toInt (show σ173 26 6 = (σ 26 6) from ((congrFun (f175 26 (by decide)) 6).trans (congrFun (f57 26 (by decide)) 6))))
      have z256 : (σ173 18 0).toInt = (σ 18 0).toInt := (congrArg Int32.toInt (show σ173 18 0 = (σ 18 0) from ((congrFun (f175 18 (by decide)) 0).trans (congrFun (f57 18 (by decide)) 0))))
      have z257 : (σ173 22 0).toInt = (σ 22 0).toInt := (congrArg Int32.toInt (show σ173 22 0 = (σ 22 0) from ((congrFun (f175 22 (by decide)) 0).trans (congrFun (f57 22 (by decide)) 0))))
      exact ih x195 σ173 τ _ _ ls (by have h9 := tx195; omega) ⟨I196, I197, I198, I199, I200, I201, I202, I203, I204, I205, I206, I207, I208, I209, I210, I211, I212, I213, I177, I214, I215, I216, I217, I218, p219, p220, p221, p222, p223, p224, p225, p226, p227, p228, p229, (by omega), (by omega), (by omega), (by omega), (by omega), (by omega), (by omega), (by omega), (by omega), (by omega), (by omega), (by omega), (by omega), (by omega), (by have h9 := tx195; omega), (by have h9 := tx195; omega), (show jNumP (σ173 3) (σ173 56) (σ173 6) (σ173 57) (σ173 7) (σ173 58) (σ173 8) (σ173 59) (σ173 55 6).toInt (σ173 55 4).toInt by rw [show σ173 3 = σ 3 from ((f175 3 (by decide)).trans (f57 3 (by decide))), show σ173 56 = σ 56 from ((f175 56 (by decide)).trans (f57 56 (by decide))), show σ173 6 = σ 6 from ((f175 6 (by decide)).trans (f57 6 (by decide))), show σ173 57 = σ 57 from ((f175 57 (by decide)).trans (f57 57 (by decide))), show σ173 7 = σ 7 from ((f175 7 (by decide)).trans (f57 7 (by decide))), show σ173 58 = σ 58 from ((f175 58 (by decide)).trans (f57 58 (by decide))), show σ173 8 = σ 8 from ((f175 8 (by decide)).trans (f57 8 (by decide))), show σ173 59 = σ 59 from ((f175 59 (by decide)).trans (f57 59 (by decide))), show (σ173 55 6).toInt = (σ 55 6).toInt from by omega, show (σ173 55 4).toInt = (σ 55 4).toInt from by omega]; exact hr0), (show jOvP (σ173 56) (σ173 57) (σ173 58) (σ173 59) (σ173 55 4).toInt by rw [show σ173 56 = σ 56 from ((f175 56 (by decide)).trans (f57 56 (by decide))), show σ173 57 = σ 57 from ((f175 57 (by decide)).trans (f57 57 (by decide))), show σ173 58 = σ 58 from ((f175 58 (by decide)).trans (f57 58 (by decide))), show σ173 59 = σ 59 from ((f175 59 (by decide)).trans (f57 59 (by decide))), show (σ173 55 4).toInt = (σ 55 4).toInt from by omega]; exact hr1), (show jTp (σ173 10) (σ173 63) (σ173 55 15).toInt by rw [show σ173 10 = σ 10 from ((f175 10 (by decide)).trans (f57 10 (by decide))), show σ173 63 = σ 63 from ((f175 63 (by decide)).trans (f57 63 (by decide)))]; exact hr2.le (by omega)), (show jSo (σ173 17) (σ173 62) (σ173 16 0).toInt by rw [show σ173 17 = σ 17 from ((f175 17 (by decide)).trans (f57 17 (by decide))), show σ173 62 = σ 62 from ((f175 62 (by decide)).trans (f57 62 (by decide))), show (σ173 16 0).toInt = (σ 16 0).toInt from by omega]; exact hr3), (show jShP (σ173 51) (σ173 52) (σ173 53) (σ173 86) (σ173 87) (σ173 55 32).toInt by rw [show σ173 51 = σ 51 from ((f175 51 (by decide)).trans (f57 51 (by decide))), show σ173 52 = σ 52 from ((f175 52 (by decide)).trans (f57 52 (by decide))), show σ173 53 = σ 53 from ((f175 53 (by decide)).trans (f57 53 (by decide))), show σ173 86 = σ 86 from ((f175 86 (by decide)).trans (f57 86 (by decide))), show σ173 87 = σ 87 from ((f175 87 (by decide)).trans (f57 87 (by decide)))]; exact (hr4.up (by omega) (by omega))), (show jEl (σ173 51) (σ173 52) (τ 54) (τ 88) by rw [show σ173 51 = σ 51 from ((f175 51 (by decide)).trans (f57 51 (by decide))), show σ173 52 = σ 52 from ((f175 52 (by decide)).trans (f57 52 (by decide)))]; exact hr5), (show jByP (σ173 51) (σ173 52) (τ 54) by rw [show σ173 51 = σ 51 from ((f175 51 (by decide)).trans (f57 51 (by decide))), show σ173 52 = σ 52 from ((f175 52 (by decide)).trans (f57 52 (by decide)))]; exact hr6), (show jBk (σ173 48) (σ173 80) (σ173 49) (σ173 81) (σ173 55 47).toInt by rw [show σ173 48 = σ 48 from ((f175 48 (by decide)).trans (f57 48 (by decide))), show σ173 49 = σ 49 from ((f175 49 (by decide)).trans (f57 49 (by decide))), show σ173 80 = σ 80 from ((f175 80 (by decide)).trans (f57 80 (by decide))), show σ173 81 = σ 81 from ((f175 81 (by decide)).trans (f57 81 (by decide))), show (σ173 55 47).toInt = (σ 55 47).toInt from by omega]; exact hr7), (show jKd (σ173 39) (σ173 70) (σ173 55 32).toInt by rw [show σ173 39 = σ 39 from ((f175 39 (by decide)).trans k169.1), show σ173 70 = σ 70 from (k193.1.trans (f57 70 (by decide))), show (σ173 55 32).toInt = (σ 55 32).toInt from by omega]; exact hr8), (show jTt (σ173 42) (σ173 85) (σ173 55 55).toInt by rw [show σ173 42 = σ 42 from ((f175 42 (by decide)).trans (f57 42 (by decide))), show σ173 85 = σ 85 from ((f175 85 (by decide)).trans (f57 85 (by decide))), show (σ173 55 55).toInt = (σ 55 55).toInt from by omega]; exact hr9), (fun k hk => by rw [show σ173 4 = σ 4 from ((f175 4 (by decide)).trans (f57 4 (by decide))), show σ173 5 = σ 5 from ((f175 5 (by decide)).trans (f57 5 (by decide))), show σ173 60 = σ 60 from ((f175 60 (by decide)).trans (f57 60 (by decide))), show σ173 61 = σ 61 from ((f175 61 (by decide)).trans (f57 61 (by decide)))]; exact hr10 k (by omega)), (fun nm => by rw [show σ173 19 = σ 19 from ((f175 19 (by decide)).trans (f57 19 (by decide))), show σ173 64 = σ 64 from ((f175 64 (by decide)).trans (f57 64 (by decide))), show σ173 65 = σ 65 from ((f175 65 (by decide)).trans (f57 65 (by decide))), show (σ173 18 0).toInt = (σ 18 0).toInt from by omega]; exact hr11 nm), (fun nm => by rw [show σ173 23 = σ 23 from ((f175 23 (by decide)).trans (f57 23 (by decide))), show σ173 64 = σ 64 from ((f175 64 (by decide)).trans (f57 64 (by decide))), show σ173 65 = σ 65 from ((f175 65 (by decide)).trans (f57 65 (by decide))), show (σ173 22 0).toInt = (σ 22 0).toInt from by omega]; exact hr12 nm), (show jAlP (σ173 56) (σ173 57) (σ173 58) (σ173 59) (σ173 55 4).toInt by rw [show σ173 56 = σ 56 from ((f175 56 (by decide)).trans (f57 56 (by decide))), show σ173 57 = σ 57 from ((f175 57 (by decide)).trans (f57 57 (by decide))), show σ173 58 = σ 58 from ((f175 58 (by decide)).trans (f57 58 (by decide))), show σ173 59 = σ 59 from ((f175 59 (by decide)).trans (f57 59 (by decide))), show (σ173 55 4).toInt = (σ 55 4).toInt from by omega]; exact hr13), (show jqbN (σ173 80) (σ173 55 47).toInt by rw [show σ173 80 = σ 80 from ((f175 80 (by decide)).trans (f57 80 (by decide))), show (σ173 55 47).toInt = (σ 55 47).toInt from by omega]; exact hr14), (show jRu (σ173 40) (σ173 41) (σ173 71) (σ173 72) (σ173 73) (σ173 55 32).toInt by rw [show σ173 40 = σ 40 from ((f175 40 (by decide)).trans k169.2.1), show σ173 41 = σ 41 from ((f175 41 (by decide)).trans k169.2.2), show σ173 71 = σ 71 from (k193.2.1.trans (f57 71 (by decide))), show σ173 72 = σ 72 from (k193.2.2.1.trans (f57 72 (by decide))), show σ173 73 = σ 73 from (k193.2.2.2.trans (f57 73 (by decide))), show (σ173 55 32).toInt = (σ 55 32).toInt from by omega]; exact hr15)⟩ hP hS (lv_sub hl [0, 1, 2, 3] rfl)
    · obtain ⟨q264, k258, k259, k260, k261, k262, k263⟩ := h185
      exact absurd (by omega : False) id
  · obtain ⟨q271, k265, k266, k267, k268, k269, k270⟩ := h67
    refine lv_pop hx hb dL_law_502 rfl ?_
    refine lv_aload_n hx hb dL_law_503 rfl (lv_at hl 1 rfl) ?_
    refine lv_aload_n hx hb dL_law_504 rfl (lv_at hl 3 rfl) ?_
    refine lv_iload_n hx hb dL_law_505 rfl (lv_at hl 0 rfl) ?_
    refine lv_iconst (v := 1) hx hb dL_law_506 (by decide) ?_
    refine lv_iadd hx hb dL_law_507 ?_
    refine jtopr ex49.symm ?_
    refine va_sld hx hb hX hbl hbA hS (jin tx49 (by omega) (by omega)) dL_law_508 ?_
    refine lv_aload_n hx hb dL_law_509 rfl (lv_at hl 3 rfl) ?_
    refine lv_iload_n hx hb dL_law_510 rfl (lv_at hl 0 rfl) ?_
    refine lv_iconst (v := 2) hx hb dL_law_511 (by decide) ?_
    refine lv_iadd hx hb dL_law_512 ?_
    refine jtopr ex51.symm ?_
    refine va_sld hx hb hX hbl hbA hS (jin tx51 (by omega) (by omega)) dL_law_513 ?_
    refine lv_aload_n hx hb dL_law_514 rfl (lv_at hl 3 rfl) ?_
    refine lv_iload_n hx hb dL_law_515 rfl (lv_at hl 0 rfl) ?_
    refine lv_iconst (v := 3) hx hb dL_law_516 (by decide) ?_
    refine lv_iadd hx hb dL_law_517 ?_
    refine jtopr ex53.symm ?_
    refine va_sld hx hb hX hbl hbA hS (jin tx53 (by omega) (by omega)) dL_law_518 ?_
    have I272 : jI106 σ55 := jI106_fr (congrFun (f57 55 (by decide)) 32) (f57 70 (by decide)) (f57 71 (by decide)) (f57 72 (by decide)) hI106
    have z273 : (σ55 55 32).toInt = (σ 55 32).toInt := (congrArg Int32.toInt (show σ55 55 32 = (σ 55 32) from (congrFun (f57 55 (by decide)) 32)))
    refine jcallV (As := [.int (xs x49.toNatClampNeg), .int (xs x51.toNatClampNeg), .int (xs x53.toNatClampNeg)]) (rest := []) ⟨hx, hb, hml, hown, hts⟩ hK hP hA hS hZ (c_X12_rule l D cI cL ad zz hJ σ55 τ (xs x49.toNatClampNeg) ((xs x49.toNatClampNeg).toInt) rfl (xs x51.toNatClampNeg) ((xs x51.toNatClampNeg).toInt) rfl (xs x53.toNatClampNeg) ((xs x53.toNatClampNeg).toInt) rfl I272) cw_RL_56 (jc_55 cI cL ad σ55 τ) rfl ⟨Nat.le_of_ble_eq_true rfl, Nat.le_of_ble_eq_true rfl⟩ rfl rfl rfl hl.1 rfl (Nat.le_of_ble_eq_true rfl) dL_law_519 ⟨Nat.le_of_ble_eq_true rfl, Nat.le_of_ble_eq_true rfl⟩ (fun r275 σ274 τ274 H locs h274 hP hS => ?_)
    obtain ⟨rfl, f276, f277, I278, h274⟩ := h274
    obtain ⟨i280, w281, w282, w283⟩ : (0 ≤ (σ274 55 32).toInt ∧ (σ274 55 32).toInt ≤ 20) ∧ (∀ k : Nat, k < 20 → 0 ≤ (σ274 70 k).toInt ∧ (σ274 70 k).toInt ≤ 6) ∧ (∀ k : Nat, k < 20 → 0 ≤ (σ274 71 k).toInt ∧ (σ274 71 k).toInt ≤ 8) ∧ (∀ k : Nat, k < 160 → 0 ≤ (σ274 72 k).toInt ∧ (σ274 72 k).toInt ≤ 3) := id I278
    rcases h274 with h284 | h285 | h286
    · obtain ⟨q290, k287, k288, k289⟩ := h284
      have q290 := q290.symm
      subst q290
      exact absurd k268 k288
    · obtain ⟨q295, k291, k292, k293, k294⟩ := h285
      exact absurd (by omega : False) id
    · obtain ⟨q302, k296, k297, k298, k299, k300, k301⟩ := h286
      refine lv_pop hx hb dL_law_522 rfl ?_
      refine lv_goto (tgt := 1357) hx hb dL_law_523 (by decide) ?_
      obtain ⟨x303, ex303⟩ : ∃ y : Int32, y = x0 + 6 := ⟨_, rfl⟩
      have tx303 : x303.toInt = x0.toInt + 6 := (jadd ex303 rfl jz_6 (by omega) (by omega)).trans (by omega)
      refine lv_iinc (v := x303) (lv' := [(3, .int x303), (2, .ref (ad 55)), (1, .ref (ad 0)), (0, .ref b)]) hx hb dL_law_1357 hl (k := 0) rfl (by rw [ex303]; rfl) (by decide) rfl (fun ls hl => ?_)
      refine lv_goto (tgt := 18) hx hb dL_law_1360 (by decide) ?_
      have I304 : jI2 σ274 := jI2_fr ((congrFun (f276 2 (by decide)) 0).trans (congrFun (f57 2 (by decide)) 0)) ((congrFun (f276 2 (by decide)) 1).trans (congrFun (f57 2 (by decide)) 1)) ((congrFun (f276 2 (by decide)) 2).trans (congrFun (f57 2 (by decide)) 2)) ((congrFun (f276 2 (by decide)) 3).trans (congrFun (f57 2 (by decide)) 3)) ((f276 6 (by decide)).trans (f57 6 (by decide))) ((f276 5 (by decide)).trans (f57 5 (by decide))) hI2
      have I305 : jI9 σ274 := jI9_fr ((congrFun (f276 9 (by decide)) 0).trans (congrFun (f57 9 (by decide)) 0)) ((f276 10 (by decide)).trans (f57 10 (by decide))) ((f276 11 (by decide)).trans (f57 11 (by decide))) hI9
      have I306 : jI12 σ274 := jI12_fr ((congrFun (f276 12 (by decide)) 0).trans (congrFun (f57 12 (by decide)) 0)) ((f276 13 (by decide)).trans (f57 13 (by decide))) hI12
      have I307 : jI16 σ274 := jI16_fr ((congrFun (f276 16 (by decide)) 0).trans (congrFun (f57 16 (by decide)) 0)) ((congrFun (f276 16 (by decide)) 1).trans (congrFun (f57 16 (by decide)) 1)) ((congrFun (f276 16 (by decide)) 2).trans (congrFun (f57 16 (by decide)) 2)) ((f276 17 (by decide)).trans (f57 17 (by decide))) hI16
      have I308 : jI18 σ274 := jI18_fr ((congrFun (f276 18 (by decide)) 0).trans (congrFun (f57 18 (by decide)) 0)) ((f276 19 (by decide)).trans (f57 19 (by decide))) hI18
      have I309 : jI22 σ274 := jI22_fr ((congrFun (f276 22 (by decide)) 0).trans (congrFun (f57 22 (by decide)) 0)) ((f276 23 (by decide)).trans (f57 23 (by decide))) hI22
      have I310 : jI31 σ274 := jI31_fr ((congrFun (f276 31 (by decide)) 8).trans (congrFun (f57 31 (by decide)) 8)) ((congrFun (f276 31 (by decide)) 10).trans (congrFun (f57 31 (by decide)) 10)) ((congrFun (f276 31 (by decide)) 11).trans (congrFun (f57 31 (by decide)) 11)) ((f276 33 (by decide)).trans (f57 33 (by decide))) ((f276 35 (by decide)).trans (f57 35 (by decide))) ((f276 36 (by decide)).trans (f57 36 (by decide))) hI31
      have I311 : jI38 σ274 := jI38_fr (congrFun (f276 38 (by decide)) 0) (congrFun (f276 38 (by decide)) 1) (f276 39 (by decide)) I59
      have I312 : jI43 σ274 := jI43_fr ((congrFun (f276 43 (by decide)) 8).trans (congrFun (f57 43 (by decide)) 8)) hI43
      have I313 : jI47 σ274 := jI47_fr ((congrFun (f276 47 (by decide)) 0).trans (congrFun (f57 47 (by decide)) 0)) ((f276 48 (by decide)).trans (f57 48 (by decide))) ((f276 49 (by decide)).trans (f57 49 (by decide))) hI47
      have I314 : jI50 σ274 := jI50_fr ((f276 52 (by decide)).trans (f57 52 (by decide))) hI50
      have I315 : jI0 σ274 := jI0_fr ((f276 1 (by decide)).trans (f57 1 (by decide))) hI0
      have I316 : jI26 σ274 := jI26_fr ((congrFun (f276 26 (by decide)) 6).trans (congrFun (f57 26 (by decide)) 6)) hI26
      have I317 : jI101 σ274 := jI101_fr ((f277 4 (by decide)).trans (congrFun (f57 55 (by decide)) 4)) ((f277 5 (by decide)).trans (congrFun (f57 55 (by decide)) 5)) ((f276 56 (by decide)).trans (f57 56 (by decide))) ((f276 57 (by decide)).trans (f57 57 (by decide))) ((f276 58 (by decide)).trans (f57 58 (by decide))) ((f276 59 (by decide)).trans (f57 59 (by decide))) hI101
      have I318 : jI102 σ274 := jI102_fr ((f277 6 (by decide)).trans (congrFun (f57 55 (by decide)) 6)) ((f276 60 (by decide)).trans (f57 60 (by decide))) ((f276 61 (by decide)).trans (f57 61 (by decide))) hI102
      have I319 : jI103 σ274 := jI103_fr ((f277 9 (by decide)).trans (congrFun (f57 55 (by decide)) 9)) hI103
      have I320 : jI104 σ274 := jI104_fr ((f277 10 (by decide)).trans (congrFun (f57 55 (by decide)) 10)) ((f277 12 (by decide)).trans (congrFun (f57 55 (by decide)) 12)) ((f277 13 (by decide)).trans (congrFun (f57 55 (by decide)) 13)) ((f276 62 (by decide)).trans (f57 62 (by decide))) ((f276 67 (by decide)).trans (f57 67 (by decide))) hI104
      have I321 : jI105 σ274 := jI105_fr ((f277 15 (by decide)).trans (congrFun (f57 55 (by decide)) 15)) ((f276 65 (by decide)).trans (f57 65 (by decide))) hI105
      have I322 : jI107 σ274 := jI107_fr ((f277 12 (by decide)).trans (congrFun (f57 55 (by decide)) 12)) ((f277 47 (by decide)).trans (congrFun (f57 55 (by decide)) 47)) ((f276 80 (by decide)).trans (f57 80 (by decide))) hI107
      have I323 : jI109 σ274 := jI109_fr ((f277 50 (by decide)).trans (congrFun (f57 55 (by decide)) 50)) hI109
      have I324 : jI110 σ274 := jI110_fr ((f276 86 (by decide)).trans (f57 86 (by decide))) ((f276 87 (by decide)).trans (f57 87 (by decide))) hI110
      have I325 : jI111 σ274 := jI111_fr ((f276 79 (by decide)).trans (f57 79 (by decide))) hI111
      have I326 : jI119 σ274 := jI119_fr ((f276 68 (by decide)).trans (f57 68 (by decide))) hI119
      have p327 : jKept σ274 := jKept.fr ((f276 75 (by decide)).trans (f57 75 (by decide))) ((f276 76 (by decide)).trans (f57 76 (by decide))) ((f276 77 (by decide)).trans (f57 77 (by decide))) hs_jKept
      have p328 : jBook σ274 := jBook.fr ((f277 47 (by decide)).trans (congrFun (f57 55 (by decide)) 47)) ((f277 10 (by decide)).trans (congrFun (f57 55 (by decide)) 10)) ((f276 81 (by decide)).trans (f57 81 (by decide))) hs_jBook
      have p329 : jNd12 σ274 := jNd12.fr ((congrFun (f276 12 (by decide)) 0).trans (congrFun (f57 12 (by decide)) 0)) ((congrFun (f276 12 (by decide)) 1).trans (congrFun (f57 12 (by decide)) 1)) ((f276 13 (by decide)).trans (f57 13 (by decide))) hs_jNd12
      have p330 : jN67 σ274 := jN67.fr ((f276 24 (by decide)).trans (f57 24 (by decide))) hs_jN67
      have p331 : jBl σ274 := jBl.fr ((congrFun (f276 22 (by decide)) 0).trans (congrFun (f57 22 (by decide)) 0)) ((congrFun (f276 22 (by decide)) 1).trans (congrFun (f57 22 (by decide)) 1)) ((f276 23 (by decide)).trans (f57 23 (by decide))) ((congrFun (f276 26 (by decide)) 6).trans (congrFun (f57 26 (by decide)) 6)) ((congrFun (f276 26 (by decide)) 7).trans (congrFun (f57 26 (by decide)) 7)) ((f276 29 (by decide)).trans (f57 29 (by decide))) ((f276 30 (by decide)).trans (f57 30 (by decide))) hs_jBl
      have p332 : jKb σ274 := jKb.fr ((congrFun (f276 31 (by decide)) 8).trans (congrFun (f57 31 (by decide)) 8)) ((congrFun (f276 31 (by decide)) 11).trans (congrFun (f57 31 (by decide)) 11)) ((f276 32 (by decide)).trans (f57 32 (by decide))) hs_jKb
      have p333 : jTR σ274 := jTR.fr ((f276 64 (by decide)).trans (f57 64 (by decide))) ((f276 65 (by decide)).trans (f57 65 (by decide))) hs_jTR
      have p334 : jKh σ274 := jKh.fr ((congrFun (f276 31 (by decide)) 8).trans (congrFun (f57 31 (by decide)) 8)) ((f276 32 (by decide)).trans (f57 32 (by decide))) ((f276 36 (by decide)).trans (f57 36 (by decide))) ((f276 37 (by decide)).trans (f57 37 (by decide))) hs_jKh
      have p335 : jKg σ274 := jKg.fr ((congrFun (f276 31 (by decide)) 8).trans (congrFun (f57 31 (by decide)) 8)) ((congrFun (f276 31 (by decide)) 9).trans (congrFun (f57 31 (by decide)) 9)) ((congrFun (f276 31 (by decide)) 11).trans (congrFun (f57 31 (by decide)) 11)) ((congrFun (f276 31 (by decide)) 12).trans (congrFun (f57 31 (by decide)) 12)) ((f276 32 (by decide)).trans (f57 32 (by decide))) ((f276 33 (by decide)).trans (f57 33 (by decide))) hs_jKg
      have p336 : jNz σ274 := jNz.fr ((f276 34 (by decide)).trans (f57 34 (by decide))) hs_jNz
      have p337 : jqSt σ274 := jqSt.fr ((f276 78 (by decide)).trans (f57 78 (by decide))) ((f277 42 (by decide)).trans (congrFun (f57 55 (by decide)) 42)) hs_jqSt
      have z338 : (σ274 2 0).toInt = (σ 2 0).toInt := (congrArg Int32.toInt (show σ274 2 0 = (σ 2 0) from ((congrFun (f276 2 (by decide)) 0).trans (congrFun (f57 2 (by decide)) 0))))
      have z339 : (σ274 55 6).toInt = (σ 55 6).toInt := (congrArg Int32.toInt (show σ274 55 6 = (σ 55 6) from ((f277 6 (by decide)).trans (congrFun (f57 55 (by decide)) 6))))
      have z340 : (σ274 2 2).toInt = (σ 2 2).toInt := (congrArg Int32.toInt (show σ274 2 2 = (σ 2 2) from ((congrFun (f276 2 (by decide)) 2).trans (congrFun (f57 2 (by decide)) 2))))
      have z341 : (σ274 55 5).toInt = (σ 55 5).toInt := (congrArg Int32.toInt (show σ274 55 5 = (σ 55 5) from ((f277 5 (by decide)).trans (congrFun (f57 55 (by decide)) 5))))
      have z342 : (σ274 2 3).toInt = (σ 2 3).toInt := (congrArg Int32.toInt (show σ274 2 3 = (σ 2 3) from ((congrFun (f276 2 (by decide)) 3).trans (congrFun (f57 2 (by decide)) 3))))
      have z343 : (σ274 55 4).toInt = (σ 55 4).toInt := (congrArg Int32.toInt (show σ274 55 4 = (σ 55 4) from ((f277 4 (by decide)).trans (congrFun (f57 55 (by decide)) 4))))
      have z344 : (σ274 9 0).toInt = (σ 9 0).toInt := (congrArg Int32.toInt (show σ274 9 0 = (σ 9 0) from ((congrFun (f276 9 (by decide)) 0).trans (congrFun (f57 9 (by decide)) 0))))
      have z345 : (σ274 55 15).toInt = (σ 55 15).toInt := (congrArg Int32.toInt (show σ274 55 15 = (σ 55 15) from ((f277 15 (by decide)).trans (congrFun (f57 55 (by decide)) 15))))
      have z346 : (σ274 16 0).toInt = (σ 16 0).toInt := (congrArg Int32.toInt (show σ274 16 0 = (σ 16 0) from ((congrFun (f276 16 (by decide)) 0).trans (congrFun (f57 16 (by decide)) 0))))
      have z347 : (σ274 55 10).toInt = (σ 55 10).toInt := (congrArg Int32.toInt (show σ274 55 10 = (σ 55 10) from ((f277 10 (by decide)).trans (congrFun (f57 55 (by decide)) 10))))
      have z348 : (σ274 16 1).toInt = (σ 16 1).toInt := (congrArg Int32.toInt (show σ274 16 1 = (σ 16 1) from ((congrFun (f276 16 (by decide)) 1).trans (congrFun (f57 16 (by decide)) 1))))
      have z349 : (σ274 55 12).toInt = (σ 55 12).toInt := (congrArg Int32.toInt (show σ274 55 12 = (σ 55 12) from ((f277 12 (by decide)).trans (congrFun (f57 55 (by decide)) 12))))
      have z350 : (σ274 16 2).toInt = (σ 16 2).toInt := (congrArg Int32.toInt (show σ274 16 2 = (σ 16 2) from ((congrFun (f276 16 (by decide)) 2).trans (congrFun (f57 16 (by decide)) 2))))
      have z351 : (σ274 55 13).toInt = (σ 55 13).toInt := (congrArg Int32.toInt (show σ274 55 13 = (σ 55 13) from ((f277 13 (by decide)).trans (congrFun (f57 55 (by decide)) 13))))
      have z352 : (σ274 38 0).toInt = (σ55 38 0).toInt := (congrArg Int32.toInt (show σ274 38 0 = (σ55 38 0) from (congrFun (f276 38 (by decide)) 0)))
      have z353 : (σ274 38 1).toInt = (σ 38 1).toInt := (congrArg Int32.toInt (show σ274 38 1 = (σ 38 1) from ((congrFun (f276 38 (by decide)) 1).trans (f58 1 (by decide)))))
      have z354 : (σ274 55 55).toInt = (σ 55 55).toInt := (congrArg Int32.toInt (show σ274 55 55 = (σ 55 55) from ((f277 55 (by decide)).trans (congrFun (f57 55 (by decide)) 55))))
      have z355 : (σ274 47 0).toInt = (σ 47 0).toInt := (congrArg Int32.toInt (show σ274 47 0 = (σ 47 0) from ((congrFun (f276 47 (by decide)) 0).trans (congrFun (f57 47 (by decide)) 0))))
      have z356 : (σ274 55 47).toInt = (σ 55 47).toInt := (congrArg Int32.toInt (show σ274 55 47 = (σ 55 47) from ((f277 47 (by decide)).trans (congrFun (f57 55 (by decide)) 47))))
      have z357 : (σ274 55 30).toInt = (σ 55 30).toInt := (congrArg Int32.toInt (show σ274 55 30 = (σ 55 30) from ((f277 30 (by decide)).trans (congrFun (f57 55 (by decide)) 30))))
      have z358 : (σ274 55 31).toInt = (σ 55 31).toInt := (congrArg Int32.toInt (show σ274 55 31 = (σ 55 31) from ((f277 31 (by decide)).trans (congrFun (f57 55 (by decide)) 31))))
      have z359 : (σ274 2 1).toInt = (σ 2 1).toInt := (congrArg Int32.toInt (show σ274 2 1 = (σ 2 1) from ((congrFun (f276 2 (by decide)) 1).trans (congrFun (f57 2 (by decide)) 1))))
      have z360 : (σ274 55 9).toInt = (σ 55 9).toInt := (congrArg Int32.toInt (show σ274 55 9 = (σ 55 9) from ((f277 9 (by decide)).trans (congrFun (f57 55 (by decide)) 9))))
      have z361 : (σ274 55 42).toInt = (σ 55 42).toInt := (congrArg Int32.toInt (show σ274 55 42 = (σ 55 42) from ((f277 42 (by decide)).trans (congrFun (f57 55 (by decide)) 42))))
      have z362 : (σ274 26 6).toInt = (σ 26 6).toInt := (congrArg Int32.toInt (show σ274 26 6 = (σ 26 6) from ((congrFun (f276 26 (by decide)) 6).trans (congrFun (f57 26 (by decide)) 6))))
      rw [show (σ 38 0).toInt = (σ 55 32).toInt from by omega] at k269
      rw [show (σ55 55 32).toInt = (σ 55 32).toInt from by omega, show σ55 70 = σ 70 from (f57 70 (by decide))] at k300
      have p364 : jKd (σ274 39) (σ274 70) (σ274 55 32).toInt := hr8.on (by rw [show σ274 39 = σ55 39 from (f276 39 (by decide))]; exact k269) k300 (by omega) (by omega)
      have z365 : (σ274 18 0).toInt = (σ 18 0).toInt := (congrArg Int32.toInt (show σ274 18 0 = (σ 18 0) from ((congrFun (f276 18 (by decide)) 0).trans (congrFun (f57 18 (by decide)) 0))))
      have z366 : (σ274 22 0).toInt = (σ 22 0).toInt := (congrArg Int32.toInt (show σ274 22 0 = (σ 22 0) from ((congrFun (f276 22 (by decide)) 0).trans (congrFun (f57 22 (by decide)) 0))))
      rw [show (σ 38 0).toInt = (σ 55 32).toInt from by omega] at k270
      obtain ⟨k368, k369, k370, k371, k372, k373, k374, k375, k376⟩ := k301
      rw [show (σ55 55 32).toInt = (σ 55 32).toInt from by omega, show σ55 71 = σ 71 from (f57 71 (by decide))] at k371
      rw [show (σ55 55 32).toInt = (σ 55 32).toInt from by omega, show σ55 73 = σ 73 from (f57 73 (by decide))] at k372
      rw [show (σ55 55 32).toInt = (σ 55 32).toInt from by omega, show σ55 72 = σ 72 from (f57 72 (by decide))] at k373
      have p367 : jRu (σ274 40) (σ274 41) (σ274 71) (σ274 72) (σ274 73) (σ274 55 32).toInt := jRu.on hr15 (by omega) ((show σ274 40 = σ55 40 from (f276 40 (by decide))).trans k270.1) ((show σ274 41 = σ55 41 from (f276 41 (by decide))).trans k270.2) k371 k372 k373 k374 rfl rfl rfl k375 k376 (by omega)
      exact ih x303 σ274 τ _ _ ls (by have h9 := tx303; omega) ⟨I304, I305, I306, I307, I308, I309, I310, I311, I312, I313, I314, I315, I316, I317, I318, I319, I320, I321, I278, I322, I323, I324, I325, I326, p327, p328, p329, p330, p331, p332, p333, p334, p335, p336, p337, (by omega), (by omega), (by omega), (by omega), (by omega), (by omega), (by omega), (by omega), (by omega), (by omega), (by omega), (by omega), (by omega), (by omega), (by have h9 := tx303; omega), (by have h9 := tx303; omega), (show jNumP (σ274 3) (σ274 56) (σ274 6) (σ274 57) (σ274 7) (σ274 58) (σ274 8) (σ274 59) (σ274 55 6).toInt (σ274 55 4).toInt by rw [show σ274 3 = σ 3 from ((f276 3 (by decide)).trans (f57 3 (by decide))), show σ274 56 = σ 56 from ((f276 56 (by decide)).trans (f57 56 (by decide))), show σ274 6 = σ 6 from ((f276 6 (by decide)).trans (f57 6 (by decide))), show σ274 57 = σ 57 from ((f276 57 (by decide)).trans (f57 57 (by decide))), show σ274 7 = σ 7 from ((f276 7 (by decide)).trans (f57 7 (by decide))), show σ274 58 = σ 58 from ((f276 58 (by decide)).trans (f57 58 (by decide))), show σ274 8 = σ 8 from ((f276 8 (by decide)).trans (f57 8 (by decide))), show σ274 59 = σ 59 from ((f276 59 (by decide)).trans (f57 59 (by decide))), show (σ274 55 6).toInt = (σ 55 6).toInt from by omega, show (σ274 55 4).toInt = (σ 55 4).toInt from by omega]; exact hr0), (show jOvP (σ274 56) (σ274 57) (σ274 58) (σ274 59) (σ274 55 4).toInt by rw [show σ274 56 = σ 56 from ((f276 56 (by decide)).trans (f57 56 (by decide))), show σ274 57 = σ 57 from ((f276 57 (by decide)).trans (f57 57 (by decide))), show σ274 58 = σ 58 from ((f276 58 (by decide)).trans (f57 58 (by decide))), show σ274 59 = σ 59 from ((f276 59 (by decide)).trans (f57 59 (by decide))), show (σ274 55 4).toInt = (σ 55 4).toInt from by omega]; exact hr1), (show jTp (σ274 10) (σ274 63) (σ274 55 15).toInt by rw [show σ274 10 = σ 10 from ((f276 10 (by decide)).trans (f57 10 (by decide))), show σ274 63 = σ 63 from ((f276 63 (by decide)).trans (f57 63 (by decide)))]; exact hr2.le (by omega)), (show jSo (σ274 17) (σ274 62) (σ274 16 0).toInt by rw [show σ274 17 = σ 17 from ((f276 17 (by decide)).trans (f57 17 (by decide))), show σ274 62 = σ 62 from ((f276 62 (by decide)).trans (f57 62 (by decide))), show (σ274 16 0).toInt = (σ 16 0).toInt from by omega]; exact hr3), (show jShP (σ274 51) (σ274 52) (σ274 53) (σ274 86) (σ274 87) (σ274 55 32).toInt by rw [show σ274 51 = σ 51 from ((f276 51 (by decide)).trans (f57 51 (by decide))), show σ274 52 = σ 52 from ((f276 52 (by decide)).trans (f57 52 (by decide))), show σ274 53 = σ 53 from ((f276 53 (by decide)).trans (f57 53 (by decide))), show σ274 86 = σ 86 from ((f276 86 (by decide)).trans (f57 86 (by decide))), show σ274 87 = σ 87 from ((f276 87 (by decide)).trans (f57 87 (by decide)))]; exact (hr4.up (by omega) (by omega))), (show jEl (σ274 51) (σ274 52) (τ 54) (τ 88) by rw [show σ274 51 = σ 51 from ((f276 51 (by decide)).trans (f57 51 (by decide))), show σ274 52 = σ 52 from ((f276 52 (by decide)).trans (f57 52 (by decide)))]; exact hr5), (show jByP (σ274 51) (σ274 52) (τ 54) by rw [show σ274 51 = σ 51 from ((f276 51 (by decide)).trans (f57 51 (by decide))), show σ274 52 = σ 52 from ((f276 52 (by decide)).trans (f57 52 (by decide)))]; exact hr6), (show jBk (σ274 48) (σ274 80) (σ274 49) (σ274 81) (σ274 55 47).toInt by rw [show σ274 48 = σ 48 from ((f276 48 (by decide)).trans (f57 48 (by decide))), show σ274 49 = σ 49 from ((f276 49 (by decide)).trans (f57 49 (by decide))), show σ274 80 = σ 80 from ((f276 80 (by decide)).trans (f57 80 (by decide))), show σ274 81 = σ 81 from ((f276 81 (by decide)).trans (f57 81 (by decide))), show (σ274 55 47).toInt = (σ 55 47).toInt from by omega]; exact hr7), p364, (show jTt (σ274 42) (σ274 85) (σ274 55 55).toInt by rw [show σ274 42 = σ 42 from ((f276 42 (by decide)).trans (f57 42 (by decide))), show σ274 85 = σ 85 from ((f276 85 (by decide)).trans (f57 85 (by decide))), show (σ274 55 55).toInt = (σ 55 55).toInt from by omega]; exact hr9), (fun k hk => by rw [show σ274 4 = σ 4 from ((f276 4 (by decide)).trans (f57 4 (by decide))), show σ274 5 = σ 5 from ((f276 5 (by decide)).trans (f57 5 (by decide))), show σ274 60 = σ 60 from ((f276 60 (by decide)).trans (f57 60 (by decide))), show σ274 61 = σ 61 from ((f276 61 (by decide)).trans (f57 61 (by decide)))]; exact hr10 k (by omega)), (fun nm => by rw [show σ274 19 = σ 19 from ((f276 19 (by decide)).trans (f57 19 (by decide))), show σ274 64 = σ 64 from ((f276 64 (by decide)).trans (f57 64 (by decide))), show σ274 65 = σ 65 from ((f276 65 (by decide)).trans (f57 65 (by decide))), show (σ274 18 0).toInt = (σ 18 0).toInt from by omega]; exact hr11 nm), (fun nm => by rw [show σ274 23 = σ 23 from ((f276 23 (by decide)).trans (f57 23 (by decide))), show σ274 64 = σ 64 from ((f276 64 (by decide)).trans (f57 64 (by decide))), show σ274 65 = σ 65 from ((f276 65 (by decide)).trans (f57 65 (by decide))), show (σ274 22 0).toInt = (σ 22 0).toInt from by omega]; exact hr12 nm), (show jAlP (σ274 56) (σ274 57) (σ274 58) (σ274 59) (σ274 55 4).toInt by rw [show σ274 56 = σ 56 from ((f276 56 (by decide)).trans (f57 56 (by decide))), show σ274 57 = σ 57 from ((f276 57 (by decide)).trans (f57 57 (by decide))), show σ274 58 = σ 58 from ((f276 58 (by decide)).trans (f57 58 (by decide))), show σ274 59 = σ 59 from ((f276 59 (by decide)).trans (f57 59 (by decide))), show (σ274 55 4).toInt = (σ 55 4).toInt from by omega]; exact hr13), (show jqbN (σ274 80) (σ274 55 47).toInt by rw [show σ274 80 = σ 80 from ((f276 80 (by decide)).trans (f57 80 (by decide))), show (σ274 55 47).toInt = (σ 55 47).toInt from by omega]; exact hr14), p367⟩ hP hS (lv_sub hl [0, 1, 2, 3] rfl)

set_option maxHeartbeats 4000000 in
set_option maxRecDepth 100000 in
theorem law_case_10 {p : Program} {e : Env} {s : State} {m : MethodId} {below : List Frame} {meth : Method} {c : Code} (l : Launch) {b L : Nat} {xs : Nat → Int32} {D : va_G} {cI cL : ClassId} {ad zz : Nat → Nat} (C0 : lw_At p s m meth c b L xs) (hJ : jD ad) (hA : ∀ q, jA ad q → s.heap.size ≤ q) (hK : jK D cI cL s) (hZ : jZ zz (fun q : Nat => s.heap.size ≤ q) s s.heap) {x0 : Int32} (hx0 : 0 ≤ x0.toInt) (hxL : x0.toInt + 6 ≤ (L : Int)) (hL : L ≤ 384) {σ : Nat → Nat → Int32} {τ : Nat → Nat → Int64} {H : Heap} {locs : List Loc} (hS : va_S (fun q : Nat => s.heap.size ≤ q) s.heap H locs) {ls : Array Slot} (hAll : jAll x0.toInt σ τ) (hP : jH D cI cL ad σ τ H) (hl : lv_has ls 4 [(3, .int x0), (2, .ref (ad 55)), (1, .ref (ad 0)), (0, .ref b)]) (ih : ∀ (x1 : Int32) (σ : Nat → Nat → Int32) (τ : Nat → Nat → Int64) (H : Heap) (locs : List Loc) (ls : Array Slot), x1.toInt = x0.toInt + 6 → jAll x1.toInt σ τ → jH D cI cL ad σ τ H → va_S (fun q : Nat => s.heap.size ≤ q) s.heap H locs → lv_has ls 4 [(3, .int x1), (2, .ref (ad 55)), (1, .ref (ad 0)), (0, .ref b)] → W p l e room_1 s m #[Value.ref b] below meth c H locs 90 348600 (lw_Z below #[Value.ref b] s) (F0 m 18 ls [])) : W p l e room_1 s m #[Value.ref b] below meth c H locs 90 348600 (lw_Z below #[Value.ref b] s) (F0 m 526 ls []) := by
  obtain ⟨hx, hb, hr, hml, hown, hts0, hX, hbl, hlocks, hgv⟩ := C0
  have hts : ∀ w ∈ wsL_law, w.before #[Value.ref b] s = true := fun w h => hts0 w (wsL_law_in w h)
  have hbA : ¬ (fun q : Nat => s.heap.size ≤ q) b := Nat.not_le.mpr hbl
  have hown : s.vm.findClass RL = some m.cls := hown
  obtain ⟨hI2, hI9, hI12, hI16, hI18, hI22, hI31, hI38, hI43, hI47, hI50, hI0, hI26, hI101, hI102, hI103, hI104, hI105, hI106, hI107, hI109, hI110, hI111, hI119, hs_jKept, hs_jBook, hs_jNd12, hs_jN67, hs_jBl, hs_jKb, hs_jTR, hs_jKh, hs_jKg, hs_jNz, hs_jqSt, ht0, ht1, ht2, ht3, ht4, ht5, ht6, ht7, ht8, ht9, ht10, ht11, ht12, ht13, ht14, ht15, hr0, hr1, hr2, hr3, hr4, hr5, hr6, hr7, hr8, hr9, hr10, hr11, hr12, hr13, hr14, hr15⟩ := hAll
  have hL9 : (L : Int) ≤ 384 := by omega
  obtain ⟨i1, i2, i3, i4, i5, w6, w7⟩ : (0 ≤ (σ 2 0).toInt ∧ (σ 2 0).toInt ≤ 4) ∧ (0 ≤ (σ 2 1).toInt ∧ (σ 2 1).toInt ≤ 3) ∧ (0 ≤ (σ 2 2).toInt) ∧ (0 ≤ (σ 2 3).toInt) ∧ ((σ 2 2).toInt + (σ 2 3).toInt ≤ 40) ∧ (∀ k : Nat, k < 40 → 0 ≤ (σ 6 k).toInt ∧ (σ 6 k).toInt ≤ 67) ∧ (∀ k : Nat, k < 4 → 0 ≤ (σ 5 k).toInt ∧ (σ 5 k).toInt ≤ 20) := id hI2
  obtain ⟨i8, w9, w10⟩ : (0 ≤ (σ 9 0).toInt ∧ (σ 9 0).toInt ≤ 80) ∧ (∀ k : Nat, k < 80 → 0 ≤ (σ 10 k).toInt ∧ (σ 10 k).toInt ≤ 255) ∧ (∀ k : Nat, k < 8 → 0 ≤ (σ 11 k).toInt ∧ (σ 11 k).toInt ≤ 3) := id hI9
  obtain ⟨i11, i12, i13, w14⟩ : (1 ≤ (σ 16 0).toInt ∧ (σ 16 0).toInt ≤ 8) ∧ (1 ≤ (σ 16 1).toInt ∧ (σ 16 1).toInt ≤ 12) ∧ (0 ≤ (σ 16 2).toInt ∧ (σ 16 2).toInt ≤ 999) ∧ (∀ k : Nat, k < 8 → 0 ≤ (σ 17 k).toInt ∧ (σ 17 k).toInt ≤ 3) := id hI16
  obtain ⟨i15, i16, w17⟩ : (0 ≤ (σ 38 0).toInt ∧ (σ 38 0).toInt ≤ 20) ∧ (0 ≤ (σ 38 1).toInt ∧ (σ 38 1).toInt ≤ 1000) ∧ (∀ k : Nat, k < 20 → 0 ≤ (σ 39 k).toInt ∧ (σ 39 k).toInt ≤ 6) := id hI38
  obtain ⟨i18, w19, w20⟩ : (0 ≤ (σ 47 0).toInt ∧ (σ 47 0).toInt ≤ 12) ∧ (∀ k : Nat, k < 12 → 0 ≤ (σ 48 k).toInt ∧ (σ 48 k).toInt ≤ 3) ∧ (∀ k : Nat, k < 12 → 0 ≤ (σ 49 k).toInt ∧ (σ 49 k).toInt ≤ 1) := id hI47
  have w21 : ∀ k : Nat, k < 6 → 0 ≤ (σ 52 k).toInt ∧ (σ 52 k).toInt ≤ 60 := hI50
  have i22 : 1 ≤ (σ 26 6).toInt ∧ (σ 26 6).toInt ≤ 8000 := hI26
  obtain ⟨i23, i24, i25, w26, w27, w28, w29⟩ : (0 ≤ (σ 55 5).toInt) ∧ ((σ 55 5).toInt ≤ (σ 55 4).toInt) ∧ ((σ 55 4).toInt ≤ 40) ∧ (∀ k : Nat, k < 68 → (-200) ≤ (σ 56 k).toInt ∧ (σ 56 k).toInt ≤ 500) ∧ (∀ k : Nat, k < 40 → 0 ≤ (σ 57 k).toInt ∧ (σ 57 k).toInt ≤ 67) ∧ (∀ k : Nat, k < 40 → (-200) ≤ (σ 58 k).toInt ∧ (σ 58 k).toInt ≤ 500) ∧ (∀ k : Nat, k < 40 → (-200) ≤ (σ 59 k).toInt ∧ (σ 59 k).toInt ≤ 500) := id hI101
  obtain ⟨i30, w31, w32⟩ : (0 ≤ (σ 55 6).toInt ∧ (σ 55 6).toInt ≤ 4) ∧ (∀ k : Nat, k < 4 → 0 ≤ (σ 60 k).toInt ∧ (σ 60 k).toInt ≤ 50) ∧ (∀ k : Nat, k < 4 → 0 ≤ (σ 61 k).toInt ∧ (σ 61 k).toInt ≤ 20) := id hI102
  have i33 : 0 ≤ (σ 55 9).toInt ∧ (σ 55 9).toInt ≤ 3 := hI103
  obtain ⟨i34, i35, i36, w37, w38⟩ : (1 ≤ (σ 55 10).toInt ∧ (σ 55 10).toInt ≤ 8) ∧ (1 ≤ (σ 55 12).toInt ∧ (σ 55 12).toInt ≤ 12) ∧ (0 ≤ (σ 55 13).toInt ∧ (σ 55 13).toInt ≤ 999) ∧ (∀ k : Nat, k < 8 → 0 ≤ (σ 62 k).toInt ∧ (σ 62 k).toInt ≤ 3) ∧ (∀ k : Nat, k < 8 → 0 ≤ (σ 67 k).toInt ∧ (σ 67 k).toInt ≤ 3) := id hI104
  obtain ⟨i39, w40⟩ : (0 ≤ (σ 55 15).toInt ∧ (σ 55 15).toInt ≤ 80) ∧ (∀ k : Nat, k < 2 → (-1) ≤ (σ 65 k).toInt ∧ (σ 65 k).toInt ≤ 80) := id hI105
  obtain ⟨i41, w42, w43, w44⟩ : (0 ≤ (σ 55 32).toInt ∧ (σ 55 32).toInt ≤ 20) ∧ (∀ k : Nat, k < 20 → 0 ≤ (σ 70 k).toInt ∧ (σ 70 k).toInt ≤ 6) ∧ (∀ k : Nat, k < 20 → 0 ≤ (σ 71 k).toInt ∧ (σ 71 k).toInt ≤ 8) ∧ (∀ k : Nat, k < 160 → 0 ≤ (σ 72 k).toInt ∧ (σ 72 k).toInt ≤ 3) := id hI106
  obtain ⟨i45, i46, w47⟩ : (0 ≤ (σ 55 47).toInt ∧ (σ 55 47).toInt ≤ 12) ∧ ((σ 55 47).toInt ≤ (σ 55 12).toInt) ∧ (∀ k : Nat, k < 12 → 0 ≤ (σ 80 k).toInt ∧ (σ 80 k).toInt ≤ 3) := id hI107
  have hs_jOk3 : jOk3 σ := hr0.ok hr1.1
  refine lv_aload_n hx hb dL_law_526 rfl (lv_at hl 2 rfl) ?_
  refine lv_aload_n hx hb dL_law_527 rfl (lv_at hl 3 rfl) ?_
  refine lv_iload_n hx hb dL_law_528 rfl (lv_at hl 0 rfl) ?_
  refine lv_iconst (v := 1) hx hb dL_law_529 (by decide) ?_
  have g48 := jrg (rfl : x0.toInt = x0.toInt)
  refine lv_iadd hx hb dL_law_530 ?_
  refine lv_topi (fun x49 ex49 => ?_)
  have tx49 : x49.toInt = x0.toInt + 1 := (jadd ex49 rfl jz_1 (by omega) (by omega)).trans (by omega)
  refine va_sld hx hb hX hbl hbA hS (jin tx49 (by omega) (by omega)) dL_law_531 ?_
  have g50 := jrg (rfl : (xs x49.toNatClampNeg).toInt = (xs x49.toNatClampNeg).toInt)
  refine jcallV (As := [.int (xs x49.toNatClampNeg)]) (rest := []) ⟨hx, hb, hml, hown, hts⟩ hK hP hA hS hZ (c_X11_puts l D cI cL ad zz hJ σ τ (xs x49.toNatClampNeg) ((xs x49.toNatClampNeg).toInt) rfl hI2 hI16 hI18 hI22 hI31 hI38 hI47 hI26 hs_jN67 hs_jBl hs_jKb hs_jKh hs_jKg hs_jNz hs_jKh) cw_RL_57 (jc_0 cI cL ad σ τ) rfl ⟨Nat.le_of_ble_eq_true rfl, Nat.le_of_ble_eq_true rfl⟩ rfl rfl rfl hl.1 rfl (Nat.le_of_ble_eq_true rfl) dL_law_532 ⟨Nat.le_of_ble_eq_true rfl, Nat.le_of_ble_eq_true rfl⟩ (fun r52 σ51 τ51 H locs h51 hP hS => ?_)
  obtain ⟨rfl, f53, f54, I55, p56, p57, p58, p59, p60, p61, p62, w63, h51⟩ := h51
  refine lv_aload_n hx hb dL_law_535 rfl (lv_at hl 1 rfl) ?_
  refine lv_aload_n hx hb dL_law_536 rfl (lv_at hl 3 rfl) ?_
  refine lv_iload_n hx hb dL_law_537 rfl (lv_at hl 0 rfl) ?_
  refine lv_iconst (v := 1) hx hb dL_law_538 (by decide) ?_
  refine lv_iadd hx hb dL_law_539 ?_
  refine jtopr ex49.symm ?_
  refine va_sld hx hb hX hbl hbA hS (jin tx49 (by omega) (by omega)) dL_law_540 ?_
  have I65 : jI101 σ51 := jI101_fr (congrFun (f53 55 (by decide)) 4) (congrFun (f53 55 (by decide)) 5) (f53 56 (by decide)) (f53 57 (by decide)) (f53 58 (by decide)) (f53 59 (by decide)) hI101
  have I66 : jI102 σ51 := jI102_fr (congrFun (f53 55 (by decide)) 6) (f53 60 (by decide)) (f53 61 (by decide)) hI102
  have I67 : jI103 σ51 := jI103_fr (congrFun (f53 55 (by decide)) 9) hI103
  have I68 : jI104 σ51 := jI104_fr (congrFun (f53 55 (by decide)) 10) (congrFun (f53 55 (by decide)) 12) (congrFun (f53 55 (by decide)) 13) (f53 62 (by decide)) (f53 67 (by decide)) hI104
  have I69 : jI105 σ51 := jI105_fr (congrFun (f53 55 (by decide)) 15) (f53 65 (by decide)) hI105
  have I70 : jI106 σ51 := jI106_fr (congrFun (f53 55 (by decide)) 32) (f53 70 (by decide)) (f53 71 (by decide)) (f53 72 (by decide)) hI106
  have I71 : jI107 σ51 := jI107_fr (congrFun (f53 55 (by decide)) 12) (congrFun (f53 55 (by decide)) 47) (f53 80 (by decide)) hI107
  have I72 : jI119 σ51 := jI119_fr (f53 68 (by decide)) hI119
  have p73 : jKept σ51 := jKept.fr (f53 75 (by decide)) (f53 76 (by decide)) (f53 77 (by decide)) hs_jKept
  have p74 : jBook σ51 := jBook.fr (congrFun (f53 55 (by decide)) 47) (congrFun (f53 55 (by decide)) 10) (f53 81 (by decide)) hs_jBook
  have p75 : jTR σ51 := jTR.fr (f53 64 (by decide)) (f53 65 (by decide)) hs_jTR
  have p76 : jqSt σ51 := jqSt.fr (f53 78 (by decide)) (congrFun (f53 55 (by decide)) 42) hs_jqSt
  have z77 : (σ51 55 42).toInt = (σ 55 42).toInt := (congrArg Int32.toInt (show σ51 55 42 = (σ 55 42) from (congrFun (f53 55 (by decide)) 42)))
  refine jcallV (As := [.int (xs x49.toNatClampNeg)]) (rest := [.int r52]) ⟨hx, hb, hml, hown, hts⟩ hK hP hA hS hZ (c_X12_puts l D cI cL ad zz hJ σ51 τ (xs x49.toNatClampNeg) ((xs x49.toNatClampNeg).toInt) rfl I65 I66 I67 I68 I69 I70 I71 I72 p73 p74 p75 p76 (by omega)) cw_RL_60 (jc_55 cI cL ad σ51 τ) rfl ⟨Nat.le_of_ble_eq_true rfl, Nat.le_of_ble_eq_true rfl⟩ rfl rfl rfl hl.1 rfl (Nat.le_of_ble_eq_true rfl) dL_law_541 ⟨Nat.le_of_ble_eq_true rfl, Nat.le_of_ble_eq_true rfl⟩ (fun r79 σ78 τ78 H locs h78 hP hS => ?_)
  obtain ⟨rfl, f80, f81, I82, p83, p84, p85, p86, w87, h78⟩ := h78
  obtain ⟨k89, k90, h78⟩ := h78
  have e91 : jqSm σ := ⟨⟨by omega, by omega, by omega, by omega, by omega, by omega, by omega⟩, hr0.1, hr10, hr12, hr3, w14, hr1.1⟩
  have k92 := w63 (fun j hj => by rw [hr0.1 j (by unfold jPl at hj; omega) (Or.inr (by unfold jPl at hj; omega))]; exact hr13.1 j hj) (hr0.ok hr1.1) (jqbN.bk hr14 hr7 (by omega)) (fun r r0 rn => by rw [hr15.rd r0 (by omega) (by decide)]; exact jqRd_r w43 w44 r0 (by omega))
  rw [show (σ 38 0).toInt = (σ 55 32).toInt from by omega, show (σ 16 1).toInt = (σ 55 12).toInt from by omega, show (σ 47 0).toInt = (σ 55 47).toInt from by omega] at k92
  have k93 := e91.pu (r := (xs x49.toNatClampNeg).toInt) hr15 hr8 hr11 (by omega) ⟨by omega, by omega⟩ (by omega) (by omega) hr7
  have k94 := w87
  have z95 : (σ51 55 12).toInt = (σ 55 12).toInt := (congrArg Int32.toInt (show σ51 55 12 = (σ 55 12) from (congrFun (f53 55 (by decide)) 12)))
  have z96 : (σ51 55 32).toInt = (σ 55 32).toInt := (congrArg Int32.toInt (show σ51 55 32 = (σ 55 32) from (congrFun (f53 55 (by decide)) 32)))
  have z97 : (σ51 55 47).toInt = (σ 55 47).toInt := (congrArg Int32.toInt (show σ51 55 47 = (σ 55 47) from (congrFun (f53 55 (by decide)) 47)))
  have z98 : (σ51 55 30).toInt = (σ 55 30).toInt := (congrArg Int32.toInt (show σ51 55 30 = (σ 55 30) from (congrFun (f53 55 (by decide)) 30)))
  have z99 : (σ51 55 31).toInt = (σ 55 31).toInt := (congrArg Int32.toInt (show σ51 55 31 = (σ 55 31) from (congrFun (f53 55 (by decide)) 31)))
  rw [(jrPw_eq (σ := σ) (u := σ51) ⟨⟨(f53 56 (by decide)), (f53 60 (by decide)), (f53 61 (by decide)), (f53 62 (by decide)), (f53 64 (by decide)), (f53 65 (by decide))⟩, (congrFun (f53 55 (by decide)) 6), (congrFun (f53 55 (by decide)) 9), (congrFun (f53 55 (by decide)) 10), (congrFun (f53 55 (by decide)) 12), (congrFun (f53 55 (by decide)) 13), (congrFun (f53 55 (by decide)) 30), (congrFun (f53 55 (by decide)) 31)⟩ ⟨(f53 70 (by decide)), (f53 71 (by decide)), (f53 72 (by decide)), (f53 73 (by decide))⟩ (f53 80 (by decide)) (f53 81 (by decide)) (congrFun (f53 55 (by decide)) 47)).1, (jrPw_eq (σ := σ) (u := σ51) ⟨⟨(f53 56 (by decide)), (f53 60 (by decide)), (f53 61 (by decide)), (f53 62 (by decide)), (f53 64 (by decide)), (f53 65 (by decide))⟩, (congrFun (f53 55 (by decide)) 6), (congrFun (f53 55 (by decide)) 9), (congrFun (f53 55 (by decide)) 10), (congrFun (f53 55 (by decide)) 12), (congrFun (f53 55 (by decide)) 13), (congrFun (f53 55 (by decide)) 30), (congrFun (f53 55 (by decide)) 31)⟩ ⟨(f53 70 (by decide)), (f53 71 (by decide)), (f53 72 (by decide)), (f53 73 (by decide))⟩ (f53 80 (by decide)) (f53 81 (by decide)) (congrFun (f53 55 (by decide)) 47)).2, show (σ51 55 12).toInt = (σ 55 12).toInt from by omega, show (σ51 55 32).toInt = (σ 55 32).toInt from by omega, show (σ51 55 47).toInt = (σ 55 47).toInt from by omega, show (σ51 55 30).toInt = (σ 55 30).toInt from by omega, show (σ51 55 31).toInt = (σ 55 31).toInt from by omega, show σ51 56 = σ 56 from (f53 56 (by decide)), show σ51 80 = σ 80 from (f53 80 (by decide)), show σ51 70 = σ 70 from (f53 70 (by decide))] at k94
  refine lv_icmp_eq (tgt := 1357) hx hb dL_law_544 (by decide) (fun _ => ?_) (fun c => absurd ((Int32.toInt_inj.mp (jqPu.same k92 (k94 (by omega) (by omega) hr1.1 hr14) Iff.rfl (fun o9 => by rw [hr8 ((xs x49.toNatClampNeg).toInt).toNat (by have o1 := o9.1; have o2 := o9.2; omega)]) k93.1 (fun o9 _ nd => k93.2 o9.1 o9.2 (fun z => nd (k93.1.mpr z)))))) c)
  obtain ⟨x100, ex100⟩ : ∃ y : Int32, y = x0 + 6 := ⟨_, rfl⟩
  have tx100 : x100.toInt = x0.toInt + 6 := (jadd ex100 rfl jz_6 (by omega) (by omega)).trans (by omega)
  refine lv_iinc (v := x100) (lv' := [(3, .int x100), (2, .ref (ad 55)), (1, .ref (ad 0)), (0, .ref b)]) hx hb dL_law_1357 hl (k := 0) rfl (by rw [ex100]; rfl) (by decide) rfl (fun ls hl => ?_)
  refine lv_goto (tgt := 18) hx hb dL_law_1360 (by decide) ?_
  have I101 : jI2 σ78 := jI2_fr ((congrFun (f80 2 (by decide)) 0).trans (congrFun (f53 2 (by decide)) 0)) ((congrFun (f80 2 (by decide)) 1).trans (congrFun (f53 2 (by decide)) 1)) ((congrFun (f80 2 (by decide)) 2).trans (congrFun (f53 2 (by decide)) 2)) ((congrFun (f80 2 (by decide)) 3).trans (congrFun (f53 2 (by decide)) 3)) ((f80 6 (by decide)).trans (f53 6 (by decide))) ((f80 5 (by decide)).trans (f53 5 (by decide))) hI2
  have I102 : jI9 σ78 := jI9_fr ((congrFun (f80 9 (by decide)) 0).trans (congrFun (f53 9 (by decide)) 0)) ((f80 10 (by decide)).trans (f53 10 (by decide))) ((f80 11 (by decide)).trans (f53 11 (by decide))) hI9
  have I103 : jI12 σ78 := jI12_fr ((congrFun (f80 12 (by decide)) 0).trans (congrFun (f53 12 (by decide)) 0)) ((f80 13 (by decide)).trans (f53 13 (by decide))) hI12
  have I104 : jI16 σ78 := jI16_fr ((congrFun (f80 16 (by decide)) 0).trans (congrFun (f53 16 (by decide)) 0)) ((congrFun (f80 16 (by decide)) 1).trans (congrFun (f53 16 (by decide)) 1)) ((congrFun (f80 16 (by decide)) 2).trans (congrFun (f53 16 (by decide)) 2)) ((f80 17 (by decide)).trans (f53 17 (by decide))) hI16
  have I105 : jI18 σ78 := jI18_fr ((congrFun (f80 18 (by decide)) 0).trans (congrFun (f53 18 (by decide)) 0)) ((f80 19 (by decide)).trans (f53 19 (by decide))) hI18
  have I106 : jI22 σ78 := jI22_fr ((congrFun (f80 22 (by decide)) 0).trans (congrFun (f53 22 (by decide)) 0)) ((f80 23 (by decide)).trans (f53 23 (by decide))) hI22
  have I107 : jI31 σ78 := jI31_fr (congrFun (f80 31 (by decide)) 8) (congrFun (f80 31 (by decide)) 10) (congrFun (f80 31 (by decide)) 11) (f80 33 (by decide)) (f80 35 (by decide)) (f80 36 (by decide)) I55
  have I108 : jI38 σ78 := jI38_fr ((congrFun (f80 38 (by decide)) 0).trans (congrFun (f53 38 (by decide)) 0)) ((congrFun (f80 38 (by decide)) 1).trans (congrFun (f53 38 (by decide)) 1)) ((f80 39 (by decide)).trans (f53 39 (by decide))) hI38
  have I109 : jI43 σ78 := jI43_fr ((congrFun (f80 43 (by decide)) 8).trans (congrFun (f53 43 (by decide)) 8)) hI43
  have I110 : jI47 σ78 := jI47_fr ((congrFun (f80 47 (by decide)) 0).trans (congrFun (f53 47 (by decide)) 0)) ((f80 48 (by decide)).trans (f53 48 (by decide))) ((f80 49 (by decide)).trans (f53 49 (by decide))) hI47
  have I111 : jI50 σ78 := jI50_fr ((f80 52 (by decide)).trans (f53 52 (by decide))) hI50
  have I112 : jI0 σ78 := jI0_fr ((f80 1 (by decide)).trans (f53 1 (by decide))) hI0
  have I113 : jI26 σ78 := jI26_fr ((congrFun (f80 26 (by decide)) 6).trans (congrFun (f53 26 (by decide)) 6)) hI26
  have I114 : jI101 σ78 := jI101_fr (f81 4 (by decide)) (f81 5 (by decide)) (f80 56 (by decide)) (f80 57 (by decide)) (f80 58 (by decide)) (f80 59 (by decide)) I65
  have I115 : jI102 σ78 := jI102_fr (f81 6 (by decide)) (f80 60 (by decide)) (f80 61 (by decide)) I66
  have I116 : jI103 σ78 := jI103_fr (f81 9 (by decide)) I67
  have I117 : jI104 σ78 := jI104_fr (f81 10 (by decide)) (f81 12 (by decide)) (f81 13 (by decide)) (f80 62 (by decide)) (f80 67 (by decide)) I68
  have I118 : jI105 σ78 := jI105_fr (f81 15 (by decide)) (f80 65 (by decide)) I69
  have I119 : jI106 σ78 := jI106_fr (f81 32 (by decide)) (f80 70 (by decide)) (f80 71 (by decide)) (f80 72 (by decide)) I70
  have I120 : jI107 σ78 := jI107_fr (f81 12 (by decide)) (f81 47 (by decide)) (f80 80 (by decide)) I71
  have I121 : jI109 σ78 := jI109_fr ((f81 50 (by decide)).trans (congrFun (f53 55 (by decide)) 50)) hI109
  have I122 : jI110 σ78 := jI110_fr ((f80 86 (by decide)).trans (f53 86 (by decide))) ((f80 87 (by decide)).trans (f53 87 (by decide))) hI110
  have I123 : jI111 σ78 := jI111_fr ((f80 79 (by decide)).trans (f53 79 (by decide))) hI111
  have p124 : jNd12 σ78 := jNd12.fr ((congrFun (f80 12 (by decide)) 0).trans (congrFun (f53 12 (by decide)) 0)) ((congrFun (f80 12 (by decide)) 1).trans (congrFun (f53 12 (by decide)) 1)) ((f80 13 (by decide)).trans (f53 13 (by decide))) hs_jNd12
  have p125 : jN67 σ78 := jN67.fr (f80 24 (by decide)) p56
  have p126 : jBl σ78 := jBl.fr (congrFun (f80 22 (by decide)) 0) (congrFun (f80 22 (by decide)) 1) (f80 23 (by decide)) (congrFun (f80 26 (by decide)) 6) (congrFun (f80 26 (by decide)) 7) (f80 29 (by decide)) (f80 30 (by decide)) p57
  have p127 : jKb σ78 := jKb.fr (congrFun (f80 31 (by decide)) 8) (congrFun (f80 31 (by decide)) 11) (f80 32 (by decide)) p58
  have p128 : jKh σ78 := jKh.fr (congrFun (f80 31 (by decide)) 8) (f80 32 (by decide)) (f80 36 (by decide)) (f80 37 (by decide)) p62
  have p129 : jKg σ78 := jKg.fr (congrFun (f80 31 (by decide)) 8) (congrFun (f80 31 (by decide)) 9) (congrFun (f80 31 (by decide)) 11) (congrFun (f80 31 (by decide)) 12) (f80 32 (by decide)) (f80 33 (by decide)) p60
  have p130 : jNz σ78 := jNz.fr (f80 34 (by decide)) p61
  have z131 : (σ78 2 0).toInt = (σ 2 0).toInt := (congrArg Int32.toInt (show σ78 2 0 = (σ 2 0) from ((congrFun (f80 2 (by decide)) 0).trans (congrFun (f53 2 (by decide)) 0))))
  have z132 : (σ78 55 6).toInt = (σ 55 6).toInt := (congrArg Int32.toInt (show σ78 55 6 = (σ 55 6) from ((f81 6 (by decide)).trans (congrFun (f53 55 (by decide)) 6))))
  have z133 : (σ78 2 2).toInt = (σ 2 2).toInt := (congrArg Int32.toInt (show σ78 2 2 = (σ 2 2) from ((congrFun (f80 2 (by decide)) 2).trans (congrFun (f53 2 (by decide)) 2))))
  have z134 : (σ78 55 5).toInt = (σ 55 5).toInt := (congrArg Int32.toInt (show σ78 55 5 = (σ 55 5) from ((f81 5 (by decide)).trans (congrFun (f53 55 (by decide)) 5))))
  have z135 : (σ78 2 3).toInt = (σ 2 3).toInt := (congrArg Int32.toInt (show σ78 2 3 = (σ 2 3) from ((congrFun (f80 2 (by decide)) 3).trans (congrFun (f53 2 (by decide)) 3))))
  have z136 : (σ78 55 4).toInt = (σ 55 4).toInt := (congrArg Int32.toInt (show σ78 55 4 = (σ 55 4) from ((f81 4 (by decide)).trans (congrFun (f53 55 (by decide)) 4))))
  have z137 : (σ78 9 0).toInt = (σ 9 0).toInt := (congrArg Int32.toInt (show σ78 9 0 = (σ 9 0) from ((congrFun (f80 9 (by decide)) 0).trans (congrFun (f53 9 (by decide)) 0))))
  have z138 : (σ78 55 15).toInt = (σ 55 15).toInt := (congrArg Int32.toInt (show σ78 55 15 = (σ 55 15) from ((f81 15 (by decide)).trans (congrFun (f53 55 (by decide)) 15))))
  have z139 : (σ78 16 0).toInt = (σ 16 0).toInt := (congrArg Int32.toInt (show σ78 16 0 = (σ 16 0) from ((congrFun (f80 16 (by decide)) 0).trans (congrFun (f53 16 (by decide)) 0))))
  have z140 : (σ78 55 10).toInt = (σ 55 10).toInt := (congrArg Int32.toInt (show σ78 55 10 = (σ 55 10) from ((f81 10 (by decide)).trans (congrFun (f53 55 (by decide)) 10))))
  have z141 : (σ78 16 1).toInt = (σ 16 1).toInt := (congrArg Int32.toInt (show σ78 16 1 = (σ 16 1) from ((congrFun (f80 16 (by decide)) 1).trans (congrFun (f53 16 (by decide)) 1))))
  have z142 : (σ78 55 12).toInt = (σ 55 12).toInt := (congrArg Int32.toInt (show σ78 55 12 = (σ 55 12) from ((f81 12 (by decide)).trans (congrFun (f53 55 (by decide)) 12))))
  have z143 : (σ78 16 2).toInt = (σ 16 2).toInt := (congrArg Int32.toInt (show σ78 16 2 = (σ 16 2) from ((congrFun (f80 16 (by decide)) 2).trans (congrFun (f53 16 (by decide)) 2))))
  have z144 : (σ78 55 13).toInt = (σ 55 13).toInt := (congrArg Int32.toInt (show σ78 55 13 = (σ 55 13) from ((f81 13 (by decide)).trans (congrFun (f53 55 (by decide)) 13))))
  have z145 : (σ78 38 0).toInt = (σ 38 0).toInt := (congrArg Int32.toInt (show σ78 38 0 = (σ 38 0) from ((congrFun (f80 38 (by decide)) 0).trans (congrFun (f53 38 (by decide)) 0))))
  have z146 : (σ78 55 32).toInt = (σ 55 32).toInt := (congrArg Int32.toInt (show σ78 55 32 = (σ 55 32) from ((f81 32 (by decide)).trans (congrFun (f53 55 (by decide)) 32))))
  have z147 : (σ78 38 1).toInt = (σ 38 1).toInt := (congrArg Int32.toInt (show σ78 38 1 = (σ 38 1) from ((congrFun (f80 38 (by decide)) 1).trans (congrFun (f53 38 (by decide)) 1))))
  have z148 : (σ78 55 55).toInt = (σ 55 55).toInt := (congrArg Int32.toInt (show σ78 55 55 = (σ 55 55) from ((f81 55 (by decide)).trans (congrFun (f53 55 (by decide)) 55))))
  have z149 : (σ78 47 0).toInt = (σ 47 0).toInt := (congrArg Int32.toInt (show σ78 47 0 = (σ 47 0) from ((congrFun (f80 47 (by decide)) 0).trans (congrFun (f53 47 (by decide)) 0))))
  have z150 : (σ78 55 47).toInt = (σ 55 47).toInt := (congrArg Int32.toInt (show σ78 55 47 = (σ 55 47) from ((f81 47 (by decide)).trans (congrFun (f53 55 (by decide)) 47))))
  have z151 : (σ78 55 30).toInt = (σ 55 30).toInt := (congrArg Int32.toInt (show σ78 55 30 = (σ 55 30) from ((f81 30 (by decide)).trans (congrFun (f53 55 (by decide)) 30))))
  have z152 : (σ78 55 31).toInt = (σ 55 31).toInt := (congrArg Int32.toInt (show σ78 55 31 = (σ 55 31) from ((f81 31 (by decide)).trans (congrFun (f53 55 (by decide)) 31))))
  have z153 : (σ78 2 1).toInt = (σ 2 1).toInt := (congrArg Int32.toInt (show σ78 2 1 = (σ 2 1) from ((congrFun (f80 2 (by decide)) 1).trans (congrFun (f53 2 (by decide)) 1))))
  have z154 : (σ78 55 9).toInt = (σ 55 9).toInt := (congrArg Int32.toInt (show σ78 55 9 = (σ 55 9) from ((f81 9 (by decide)).trans (congrFun (f53 55 (by decide)) 9))))
  have z155 : (σ78 26 6).toInt = (σ 26 6).toInt := (congrArg Int32.toInt (show σ78 26 6 = (σ 26 6) from ((congrFun (f80 26 (by decide)) 6).trans (congrFun (f53 26 (by decide)) 6))))
  have z157 : (σ78 18 0).toInt = (σ 18 0).toInt := (congrArg Int32.toInt (show σ78 18 0 = (σ 18 0) from ((congrFun (f80 18 (by decide)) 0).trans (congrFun (f53 18 (by decide)) 0))))
  have z158 : (σ78 22 0).toInt = (σ 22 0).toInt := (congrArg Int32.toInt (show σ78 22 0 = (σ 22 0) from ((congrFun (f80 22 (by decide)) 0).trans (congrFun (f53 22 (by decide)) 0))))
  exact ih x100 σ78 τ _ _ ls (by have h9 := tx100; omega) ⟨I101, I102, I103, I104, I105, I106, I107, I108, I109, I110, I111, I112, I113, I114, I115, I116, I117, I118, I119, I120, I121, I122, I123, I82, p83, p84, p124, p125, p126, p127, p85, p128, p129, p130, p86, (by omega), (by omega), (by omega), (by omega), (by omega), (by omega), (by omega), (by omega), (by omega), (by omega), (by omega), (by omega), (by omega), (by omega), (by have h9 := tx100; omega), (by have h9 := tx100; omega), (show jNumP (σ78 3) (σ78 56) (σ78 6) (σ78 57) (σ78 7) (σ78 58) (σ78 8) (σ78 59) (σ78 55 6).toInt (σ78 55 4).toInt by rw [show σ78 3 = σ 3 from ((f80 3 (by decide)).trans (f53 3 (by decide))), show σ78 56 = σ 56 from ((f80 56 (by decide)).trans (f53 56 (by decide))), show σ78 6 = σ 6 from ((f80 6 (by decide)).trans (f53 6 (by decide))), show σ78 57 = σ 57 from ((f80 57 (by decide)).trans (f53 57 (by decide))), show σ78 7 = σ 7 from ((f80 7 (by decide)).trans (f53 7 (by decide))), show σ78 58 = σ 58 from ((f80 58 (by decide)).trans (f53 58 (by decide))), show σ78 8 = σ 8 from ((f80 8 (by decide)).trans (f53 8 (by decide))), show σ78 59 = σ 59 from ((f80 59 (by decide)).trans (f53 59 (by decide))), show (σ78 55 6).toInt = (σ 55 6).toInt from by omega, show (σ78 55 4).toInt = (σ 55 4).toInt from by omega]; exact hr0), (show jOvP (σ78 56) (σ78 57) (σ78 58) (σ78 59) (σ78 55 4).toInt by rw [show σ78 56 = σ 56 from ((f80 56 (by decide)).trans (f53 56 (by decide))), show σ78 57 = σ 57 from ((f80 57 (by decide)).trans (f53 57 (by decide))), show σ78 58 = σ 58 from ((f80 58 (by decide)).trans (f53 58 (by decide))), show σ78 59 = σ 59 from ((f80 59 (by decide)).trans (f53 59 (by decide))), show (σ78 55 4).toInt = (σ 55 4).toInt from by omega]; exact hr1), (show jTp (σ78 10) (σ78 63) (σ78 55 15).toInt by rw [show σ78 10 = σ 10 from ((f80 10 (by decide)).trans (f53 10 (by decide))), show σ78 63 = σ 63 from ((f80 63 (by decide)).trans (f53 63 (by decide)))]; exact hr2.le (by omega)), (show jSo (σ78 17) (σ78 62) (σ78 16 0).toInt by rw [show σ78 17 = σ 17 from ((f80 17 (by decide)).trans (f53 17 (by decide))), show σ78 62 = σ 62 from ((f80 62 (by decide)).trans (f53 62 (by decide))), show (σ78 16 0).toInt = (σ 16 0).toInt from by omega]; exact hr3), (show jShP (σ78 51) (σ78 52) (σ78 53) (σ78 86) (σ78 87) (σ78 55 32).toInt by rw [show σ78 51 = σ 51 from ((f80 51 (by decide)).trans (f53 51 (by decide))), show σ78 52 = σ 52 from ((f80 52 (by decide)).trans (f53 52 (by decide))), show σ78 53 = σ 53 from ((f80 53 (by decide)).trans (f53 53 (by decide))), show σ78 86 = σ 86 from ((f80 86 (by decide)).trans (f53 86 (by decide))), show σ78 87 = σ 87 from ((f80 87 (by decide)).trans (f53 87 (by decide)))]; exact (hr4.up (by omega) (by omega))), (show jEl (σ78 51) (σ78 52) (τ 54) (τ 88) by rw [show σ78 51 = σ 51 from ((f80 51 (by decide)).trans (f53 51 (by decide))), show σ78 52 = σ 52 from ((f80 52 (by decide)).trans (f53 52 (by decide)))]; exact hr5), (show jByP (σ78 51) (σ78 52) (τ 54) by rw [show σ78 51 = σ 51 from ((f80 51 (by decide)).trans (f53 51 (by decide))), show σ78 52 = σ 52 from ((f80 52 (by decide)).trans (f53 52 (by decide)))]; exact hr6), (show jBk (σ78 48) (σ78 80) (σ78 49) (σ78 81) (σ78 55 47).toInt by rw [show σ78 48 = σ 48 from ((f80 48 (by decide)).trans (f53 48 (by decide))), show σ78 49 = σ 49 from ((f80 49 (by decide)).trans (f53 49 (by decide))), show σ78 80 = σ 80 from ((f80 80 (by decide)).trans (f53 80 (by decide))), show σ78 81 = σ 81 from ((f80 81 (by decide)).trans (f53 81 (by decide))), show (σ78 55 47).toInt = (σ 55 47).toInt from by omega]; exact hr7), (show jKd (σ78 39) (σ78 70) (σ78 55 32).toInt by rw [show σ78 39 = σ 39 from ((f80 39 (by decide)).trans (f53 39 (by decide))), show σ78 70 = σ 70 from ((f80 70 (by decide)).trans (f53 70 (by decide))), show (σ78 55 32).toInt = (σ 55 32).toInt from by omega]; exact hr8), (show jTt (σ78 42) (σ78 85) (σ78 55 55).toInt by rw [show σ78 42 = σ 42 from ((f80 42 (by decide)).trans (f53 42 (by decide))), show σ78 85 = σ 85 from ((f80 85 (by decide)).trans (f53 85 (by decide))), show (σ78 55 55).toInt = (σ 55 55).toInt from by omega]; exact hr9), (fun k hk => by rw [show σ78 4 = σ 4 from ((f80 4 (by decide)).trans (f53 4 (by decide))), show σ78 5 = σ 5 from ((f80 5 (by decide)).trans (f53 5 (by decide))), show σ78 60 = σ 60 from ((f80 60 (by decide)).trans (f53 60 (by decide))), show σ78 61 = σ 61 from ((f80 61 (by decide)).trans (f53 61 (by decide)))]; exact hr10 k (by omega)), (fun nm => by rw [show σ78 19 = σ 19 from ((f80 19 (by decide)).trans (f53 19 (by decide))), show σ78 64 = σ 64 from ((f80 64 (by decide)).trans (f53 64 (by decide))), show σ78 65 = σ 65 from ((f80 65 (by decide)).trans (f53 65 (by decide))), show (σ78 18 0).toInt = (σ 18 0).toInt from by omega]; exact hr11 nm), (fun nm => by rw [show σ78 23 = σ 23 from ((f80 23 (by decide)).trans (f53 23 (by decide))), show σ78 64 = σ 64 from ((f80 64 (by decide)).trans (f53 64 (by decide))), show σ78 65 = σ 65 from ((f80 65 (by decide)).trans (f53 65 (by decide))), show (σ78 22 0).toInt = (σ 22 0).toInt from by omega]; exact hr12 nm), (show jAlP (σ78 56) (σ78 57) (σ78 58) (σ78 59) (σ78 55 4).toInt by rw [show σ78 56 = σ 56 from ((f80 56 (by decide)).trans (f53 56 (by decide))), show σ78 57 = σ 57 from ((f80 57 (by decide)).trans (f53 57 (by decide))), show σ78 58 = σ 58 from ((f80 58 (by decide)).trans (f53 58 (by decide))), show σ78 59 = σ 59 from ((f80 59 (by decide)).trans (f53 59 (by decide))), show (σ78 55 4).toInt = (σ 55 4).toInt from by omega]; exact hr13), (show jqbN (σ78 80) (σ78 55 47).toInt by rw [show σ78 80 = σ 80 from ((f80 80 (by decide)).trans (f53 80 (by decide))), show (σ78 55 47).toInt = (σ 55 47).toInt from by omega]; exact hr14), (show jRu (σ78 40) (σ78 41) (σ78 71) (σ78 72) (σ78 73) (σ78 55 32).toInt by rw [show σ78 40 = σ 40 from ((f80 40 (by decide)).trans (f53 40 (by decide))), show σ78 41 = σ 41 from ((f80 41 (by decide)).trans (f53 41 (by decide))), show σ78 71 = σ 71 from ((f80 71 (by decide)).trans (f53 71 (by decide))), show σ78 72 = σ 72 from ((f80 72 (by decide)).trans (f53 72 (by decide))), show σ78 73 = σ 73 from ((f80 73 (by decide)).trans (f53 73 (by decide))), show (σ78 55 32).toInt = (σ 55 32).toInt from by omega]; exact hr15)⟩ hP hS (lv_sub hl [0, 1, 2, 3] rfl)

set_option maxHeartbeats 4000000 in
set_option maxRecDepth 100000 in
theorem law_case_30 {p : Program} {e : Env} {s : State} {m : MethodId} {below : List Frame} {meth : Method} {c : Code} (l : Launch) {b L : Nat} {xs : Nat → Int32} {D : va_G} {cI cL : ClassId} {ad zz : Nat → Nat} (C0 : lw_At p s m meth c b L xs) (hJ : jD ad) (hA : ∀ q, jA ad q → s.heap.size ≤ q) (hK : jK D cI cL s) (hZ : jZ zz (fun q : Nat => s.heap.size ≤ q) s s.heap) {x0 : Int32} (hx0 : 0 ≤ x0.toInt) (hxL : x0.toInt + 6 ≤ (L : Int)) (hL : L ≤ 384) {σ : Nat → Nat → Int32} {τ : Nat → Nat → Int64} {H : Heap} {locs : List Loc} (hS : va_S (fun q : Nat => s.heap.size ≤ q) s.heap H locs) {ls : Array Slot} (hAll : jAll x0.toInt σ τ) (hP : jH D cI cL ad σ τ H) (hl : lv_has ls 4 [(3, .int x0), (2, .ref (ad 55)), (1, .ref (ad 0)), (0, .ref b)]) (ih : ∀ (x1 : Int32) (σ : Nat → Nat → Int32) (τ : Nat → Nat → Int64) (H : Heap) (locs : List Loc) (ls : Array Slot), x1.toInt = x0.toInt + 6 → jAll x1.toInt σ τ → jH D cI cL ad σ τ H → va_S (fun q : Nat => s.heap.size ≤ q) s.heap H locs → lv_has ls 4 [(3, .int x1), (2, .ref (ad 55)), (1, .ref (ad 0)), (0, .ref b)] → W p l e room_1 s m #[Value.ref b] below meth c H locs 90 348600 (lw_Z below #[Value.ref b] s) (F0 m 18 ls [])) : W p l e room_1 s m #[Value.ref b] below meth c H locs 90 348600 (lw_Z below #[Value.ref b] s) (F0 m 1056 ls []) := by
  obtain ⟨hx, hb, hr, hml, hown, hts0, hX, hbl, hlocks, hgv⟩ := C0
  have hts : ∀ w ∈ wsL_law, w.before #[Value.ref b] s = true := fun w h => hts0 w (wsL_law_in w h)
  have hbA : ¬ (fun q : Nat => s.heap.size ≤ q) b := Nat.not_le.mpr hbl
  have hown : s.vm.findClass RL = some m.cls := hown
  obtain ⟨hI2, hI9, hI12, hI16, hI18, hI22, hI31, hI38, hI43, hI47, hI50, hI0, hI26, hI101, hI102, hI103, hI104, hI105, hI106, hI107, hI109, hI110, hI111, hI119, hs_jKept, hs_jBook, hs_jNd12, hs_jN67, hs_jBl, hs_jKb, hs_jTR, hs_jKh, hs_jKg, hs_jNz, hs_jqSt, ht0, ht1, ht2, ht3, ht4, ht5, ht6, ht7, ht8, ht9, ht10, ht11, ht12, ht13, ht14, ht15, hr0, hr1, hr2, hr3, hr4, hr5, hr6, hr7, hr8, hr9, hr10, hr11, hr12, hr13, hr14, hr15⟩ := hAll
  have hL9 : (L : Int) ≤ 384 := by omega
  obtain ⟨i1, i2, i3, i4, i5, w6, w7⟩ : (0 ≤ (σ 2 0).toInt ∧ (σ 2 0).toInt ≤ 4) ∧ (0 ≤ (σ 2 1).toInt ∧ (σ 2 1).toInt ≤ 3) ∧ (0 ≤ (σ 2 2).toInt) ∧ (0 ≤ (σ 2 3).toInt) ∧ ((σ 2 2).toInt + (σ 2 3).toInt ≤ 40) ∧ (∀ k : Nat, k < 40 → 0 ≤ (σ 6 k).toInt ∧ (σ 6 k).toInt ≤ 67) ∧ (∀ k : Nat, k < 4 → 0 ≤ (σ 5 k).toInt ∧ (σ 5 k).toInt ≤ 20) := id hI2
  obtain ⟨i8, w9, w10⟩ : (0 ≤ (σ 9 0).toInt ∧ (σ 9 0).toInt ≤ 80) ∧ (∀ k : Nat, k < 80 → 0 ≤ (σ 10 k).toInt ∧ (σ 10 k).toInt ≤ 255) ∧ (∀ k : Nat, k < 8 → 0 ≤ (σ 11 k).toInt ∧ (σ 11 k).toInt ≤ 3) := id hI9
  obtain ⟨i11, i12, i13, w14⟩ : (1 ≤ (σ 16 0).toInt ∧ (σ 16 0).toInt ≤ 8) ∧ (1 ≤ (σ 16 1).toInt ∧ (σ 16 1).toInt ≤ 12) ∧ (0 ≤ (σ 16 2).toInt ∧ (σ 16 2).toInt ≤ 999) ∧ (∀ k : Nat, k < 8 → 0 ≤ (σ 17 k).toInt ∧ (σ 17 k).toInt ≤ 3) := id hI16
  obtain ⟨i15, i16, w17⟩ : (0 ≤ (σ 38 0).toInt ∧ (σ 38 0).toInt ≤ 20) ∧ (0 ≤ (σ 38 1).toInt ∧ (σ 38 1).toInt ≤ 1000) ∧ (∀ k : Nat, k < 20 → 0 ≤ (σ 39 k).toInt ∧ (σ 39 k).toInt ≤ 6) := id hI38
  obtain ⟨i18, w19, w20⟩ : (0 ≤ (σ 47 0).toInt ∧ (σ 47 0).toInt ≤ 12) ∧ (∀ k : Nat, k < 12 → 0 ≤ (σ 48 k).toInt ∧ (σ 48 k).toInt ≤ 3) ∧ (∀ k : Nat, k < 12 → 0 ≤ (σ 49 k).toInt ∧ (σ 49 k).toInt ≤ 1) := id hI47
  have w21 : ∀ k : Nat, k < 6 → 0 ≤ (σ 52 k).toInt ∧ (σ 52 k).toInt ≤ 60 := hI50
  have i22 : 1 ≤ (σ 26 6).toInt ∧ (σ 26 6).toInt ≤ 8000 := hI26
  obtain ⟨i23, i24, i25, w26, w27, w28, w29⟩ : (0 ≤ (σ 55 5).toInt) ∧ ((σ 55 5).toInt ≤ (σ 55 4).toInt) ∧ ((σ 55 4).toInt ≤ 40) ∧ (∀ k : Nat, k < 68 → (-200) ≤ (σ 56 k).toInt ∧ (σ 56 k).toInt ≤ 500) ∧ (∀ k : Nat, k < 40 → 0 ≤ (σ 57 k).toInt ∧ (σ 57 k).toInt ≤ 67) ∧ (∀ k : Nat, k < 40 → (-200) ≤ (σ 58 k).toInt ∧ (σ 58 k).toInt ≤ 500) ∧ (∀ k : Nat, k < 40 → (-200) ≤ (σ 59 k).toInt ∧ (σ 59 k).toInt ≤ 500) := id hI101
  obtain ⟨i30, w31, w32⟩ : (0 ≤ (σ 55 6).toInt ∧ (σ 55 6).toInt ≤ 4) ∧ (∀ k : Nat, k < 4 → 0 ≤ (σ 60 k).toInt ∧ (σ 60 k).toInt ≤ 50) ∧ (∀ k : Nat, k < 4 → 0 ≤ (σ 61 k).toInt ∧ (σ 61 k).toInt ≤ 20) := id hI102
  have i33 : 0 ≤ (σ 55 9).toInt ∧ (σ 55 9).toInt ≤ 3 := hI103
  obtain ⟨i34, i35, i36, w37, w38⟩ : (1 ≤ (σ 55 10).toInt ∧ (σ 55 10).toInt ≤ 8) ∧ (1 ≤ (σ 55 12).toInt ∧ (σ 55 12).toInt ≤ 12) ∧ (0 ≤ (σ 55 13).toInt ∧ (σ 55 13).toInt ≤ 999) ∧ (∀ k : Nat, k < 8 → 0 ≤ (σ 62 k).toInt ∧ (σ 62 k).toInt ≤ 3) ∧ (∀ k : Nat, k < 8 → 0 ≤ (σ 67 k).toInt ∧ (σ 67 k).toInt ≤ 3) := id hI104
  obtain ⟨i39, w40⟩ : (0 ≤ (σ 55 15).toInt ∧ (σ 55 15).toInt ≤ 80) ∧ (∀ k : Nat, k < 2 → (-1) ≤ (σ 65 k).toInt ∧ (σ 65 k).toInt ≤ 80) := id hI105
  obtain ⟨i41, w42, w43, w44⟩ : (0 ≤ (σ 55 32).toInt ∧ (σ 55 32).toInt ≤ 20) ∧ (∀ k : Nat, k < 20 → 0 ≤ (σ 70 k).toInt ∧ (σ 70 k).toInt ≤ 6) ∧ (∀ k : Nat, k < 20 → 0 ≤ (σ 71 k).toInt ∧ (σ 71 k).toInt ≤ 8) ∧ (∀ k : Nat, k < 160 → 0 ≤ (σ 72 k).toInt ∧ (σ 72 k).toInt ≤ 3) := id hI106
  obtain ⟨i45, i46, w47⟩ : (0 ≤ (σ 55 47).toInt ∧ (σ 55 47).toInt ≤ 12) ∧ ((σ 55 47).toInt ≤ (σ 55 12).toInt) ∧ (∀ k : Nat, k < 12 → 0 ≤ (σ 80 k).toInt ∧ (σ 80 k).toInt ≤ 3) := id hI107
  have hs_jOk3 : jOk3 σ := hr0.ok hr1.1
  refine lv_aload_n hx hb dL_law_1056 rfl (lv_at hl 2 rfl) ?_
  refine lv_aload_n hx hb dL_law_1057 rfl (lv_at hl 3 rfl) ?_
  refine lv_iload_n hx hb dL_law_1058 rfl (lv_at hl 0 rfl) ?_
  refine lv_iconst (v := 1) hx hb dL_law_1059 (by decide) ?_
  have g48 := jrg (rfl : x0.toInt = x0.toInt)
  refine lv_iadd hx hb dL_law_1060 ?_
  refine lv_topi (fun x49 ex49 => ?_)
  have tx49 : x49.toInt = x0.toInt + 1 := (jadd ex49 rfl jz_1 (by omega) (by omega)).trans (by omega)
  refine va_sld hx hb hX hbl hbA hS (jin tx49 (by omega) (by omega)) dL_law_1061 ?_
  have g50 := jrg (rfl : (xs x49.toNatClampNeg).toInt = (xs x49.toNatClampNeg).toInt)
  refine lv_aload_n hx hb dL_law_1062 rfl (lv_at hl 3 rfl) ?_
  refine lv_iload_n hx hb dL_law_1063 rfl (lv_at hl 0 rfl) ?_
  refine lv_iconst (v := 2) hx hb dL_law_1064 (by decide) ?_
  refine lv_iadd hx hb dL_law_1065 ?_
  refine lv_topi (fun x51 ex51 => ?_)
  have tx51 : x51.toInt = x0.toInt + 2 := (jadd ex51 rfl jz_2 (by omega) (by omega)).trans (by omega)
  refine va_sld hx hb hX hbl hbA hS (jin tx51 (by omega) (by omega)) dL_law_1066 ?_
  have g52 := jrg (rfl : (xs x51.toNatClampNeg).toInt = (xs x51.toNatClampNeg).toInt)
  refine jcallV (As := [.int (xs x49.toNatClampNeg), .int (xs x51.toNatClampNeg)]) (rest := []) ⟨hx, hb, hml, hown, hts⟩ hK hP hA hS hZ (c_X11_keep l D cI cL ad zz hJ σ τ (xs x49.toNatClampNeg) ((xs x49.toNatClampNeg).toInt) rfl (xs x51.toNatClampNeg) ((xs x51.toNatClampNeg).toInt) rfl hI38 hI50) cw_RL_137 (jc_0 cI cL ad σ τ) rfl ⟨Nat.le_of_ble_eq_true rfl, Nat.le_of_ble_eq_true rfl⟩ rfl rfl rfl hl.1 rfl (Nat.le_of_ble_eq_true rfl) dL_law_1067 ⟨Nat.le_of_ble_eq_true rfl, Nat.le_of_ble_eq_true rfl⟩ (fun r54 σ53 τ53 H locs h53 hP hS => ?_)
  obtain ⟨rfl, f55, I56, h53⟩ := h53
  have w58 : ∀ k : Nat, k < 6 → 0 ≤ (σ53 52 k).toInt ∧ (σ53 52 k).toInt ≤ 60 := I56
  rcases h53 with h59 | h60 | h61
  · obtain ⟨q65, k62, k63, k64⟩ := h59
    have q65 := q65.symm
    subst q65
    refine lv_pop hx hb dL_law_1070 rfl ?_
    refine lv_aload_n hx hb dL_law_1071 rfl (lv_at hl 1 rfl) ?_
    refine lv_aload_n hx hb dL_law_1072 rfl (lv_at hl 3 rfl) ?_
    refine lv_iload_n hx hb dL_law_1073 rfl (lv_at hl 0 rfl) ?_
    refine lv_iconst (v := 1) hx hb dL_law_1074 (by decide) ?_
    refine lv_iadd hx hb dL_law_1075 ?_
    refine jtopr ex49.symm ?_
    refine va_sld hx hb hX hbl hbA hS (jin tx49 (by omega) (by omega)) dL_law_1076 ?_
    refine lv_aload_n hx hb dL_law_1077 rfl (lv_at hl 3 rfl) ?_
    refine lv_iload_n hx hb dL_law_1078 rfl (lv_at hl 0 rfl) ?_
    refine lv_iconst (v := 2) hx hb dL_law_1079 (by decide) ?_
    refine lv_iadd hx hb dL_law_1080 ?_
    refine jtopr ex51.symm ?_
    refine va_sld hx hb hX hbl hbA hS (jin tx51 (by omega) (by omega)) dL_law_1081 ?_
    have I66 : jI106 σ53 := jI106_fr (congrFun (f55 55 (by decide)) 32) (f55 70 (by decide)) (f55 71 (by decide)) (f55 72 (by decide)) hI106
    have I67 : jI110 σ53 := jI110_fr (f55 86 (by decide)) (f55 87 (by decide)) hI110
    have z68 : (σ53 55 32).toInt = (σ 55 32).toInt := (congrArg Int32.toInt (show σ53 55 32 = (σ 55 32) from (congrFun (f55 55 (by decide)) 32)))
    refine jcallV (As := [.int (xs x49.toNatClampNeg), .int (xs x51.toNatClampNeg)]) (rest := []) ⟨hx, hb, hml, hown, hts⟩ hK hP hA hS hZ (c_X12_keep l D cI cL ad zz hJ σ53 τ (xs x49.toNatClampNeg) ((xs x49.toNatClampNeg).toInt) rfl (xs x51.toNatClampNeg) ((xs x51.toNatClampNeg).toInt) rfl I66 I67) cw_RL_140 (jc_55 cI cL ad σ53 τ) rfl ⟨Nat.le_of_ble_eq_true rfl, Nat.le_of_ble_eq_true rfl⟩ rfl rfl rfl hl.1 rfl (Nat.le_of_ble_eq_true rfl) dL_law_1082 ⟨Nat.le_of_ble_eq_true rfl, Nat.le_of_ble_eq_true rfl⟩ (fun r70 σ69 τ69 H locs h69 hP hS => ?_)
    obtain ⟨rfl, f71, I72, h69⟩ := h69
    rcases h69 with h74 | h75 | h76
    · obtain ⟨q80, k77, k78, k79⟩ := h74
      have q80 := q80.symm
      subst q80
      refine lv_pop hx hb dL_law_1085 rfl ?_
      refine lv_goto (tgt := 1357) hx hb dL_law_1086 (by decide) ?_
      obtain ⟨x81, ex81⟩ : ∃ y : Int32, y = x0 + 6 := ⟨_, rfl⟩
      have tx81 : x81.toInt = x0.toInt + 6 := (jadd ex81 rfl jz_6 (by omega) (by omega)).trans (by omega)
      refine lv_iinc (v := x81) (lv' := [(3, .int x81), (2, .ref (ad 55)), (1, .ref (ad 0)), (0, .ref b)]) hx hb dL_law_1357 hl (k := 0) rfl (by rw [ex81]; rfl) (by decide) rfl (fun ls hl => ?_)
      refine lv_goto (tgt := 18) hx hb dL_law_1360 (by decide) ?_
      have I82 : jI2 σ69 := jI2_fr ((congrFun (f71 2 (by decide)) 0).trans (congrFun (f55 2 (by decide)) 0)) ((congrFun (f71 2 (by decide)) 1).trans (congrFun (f55 2 (by decide)) 1)) ((congrFun (f71 2 (by decide)) 2).trans (congrFun (f55 2 (by decide)) 2)) ((congrFun (f71 2 (by decide)) 3).trans (congrFun (f55 2 (by decide)) 3)) ((f71 6 (by decide)).trans (f55 6 (by decide))) ((f71 5 (by decide)).trans (f55 5 (by decide))) hI2
      have I83 : jI9 σ69 := jI9_fr ((congrFun (f71 9 (by decide)) 0).trans (congrFun (f55 9 (by decide)) 0)) ((f71 10 (by decide)).trans (f55 10 (by decide))) ((f71 11 (by decide)).trans (f55 11 (by decide))) hI9
      have I84 : jI12 σ69 := jI12_fr ((congrFun (f71 12 (by decide)) 0).trans (congrFun (f55 12 (by decide)) 0)) ((f71 13 (by decide)).trans (f55 13 (by decide))) hI12
      have I85 : jI16 σ69 := jI16_fr ((congrFun (f71 16 (by decide)) 0).trans (congrFun (f55 16 (by decide)) 0)) ((congrFun (f71 16 (by decide)) 1).trans (congrFun (f55 16 (by decide)) 1)) ((congrFun (f71 16 (by decide)) 2).trans (congrFun (f55 16 (by decide)) 2)) ((f71 17 (by decide)).trans (f55 17 (by decide))) hI16
      have I86 : jI18 σ69 := jI18_fr ((congrFun (f71 18 (by decide)) 0).trans (congrFun (f55 18 (by decide)) 0)) ((f71 19 (by decide)).trans (f55 19 (by decide))) hI18
      have I87 : jI22 σ69 := jI22_fr ((congrFun (f71 22 (by decide)) 0).trans (congrFun (f55 22 (by decide)) 0)) ((f71 23 (by decide)).trans (f55 23 (by decide))) hI22
      have I88 : jI31 σ69 := jI31_fr ((congrFun (f71 31 (by decide)) 8).trans (congrFun (f55 31 (by decide)) 8)) ((congrFun (f71 31 (by decide)) 10).trans (congrFun (f55 31 (by decide)) 10)) ((congrFun (f71 31 (by decide)) 11).trans (congrFun (f55 31 (by decide)) 11)) ((f71 33 (by decide)).trans (f55 33 (by decide))) ((f71 35 (by decide)).trans (f55 35 (by decide))) ((f71 36 (by decide)).trans (f55 36 (by decide))) hI31
      have I89 : jI38 σ69 := jI38_fr ((congrFun (f71 38 (by decide)) 0).trans (congrFun (f55 38 (by decide)) 0)) ((congrFun (f71 38 (by decide)) 1).trans (congrFun (f55 38 (by decide)) 1)) ((f71 39 (by decide)).trans (f55 39 (by decide))) hI38
      have I90 : jI43 σ69 := jI43_fr ((congrFun (f71 43 (by decide)) 8).trans (congrFun (f55 43 (by decide)) 8)) hI43
      have I91 : jI47 σ69 := jI47_fr ((congrFun (f71 47 (by decide)) 0).trans (congrFun (f55 47 (by decide)) 0)) ((f71 48 (by decide)).trans (f55 48 (by decide))) ((f71 49 (by decide)).trans (f55 49 (by decide))) hI47
      have I92 : jI50 σ69 := jI50_fr (f71 52 (by decide)) I56
      have I93 : jI0 σ69 := jI0_fr ((f71 1 (by decide)).trans (f55 1 (by decide))) hI0
      have I94 : jI26 σ69 := jI26_fr ((congrFun (f71 26 (by decide)) 6).trans (congrFun (f55 26 (by decide)) 6)) hI26
      have I95 : jI101 σ69 := jI101_fr ((congrFun (f71 55 (by decide)) 4).trans (congrFun (f55 55 (by decide)) 4)) ((congrFun (f71 55 (by decide)) 5).trans (congrFun (f55 55 (by decide)) 5)) ((f71 56 (by decide)).trans (f55 56 (by decide))) ((f71 57 (by decide)).trans (f55 57 (by decide))) ((f71 58 (by decide)).trans (f55 58 (by decide))) ((f71 59 (by decide)).trans (f55 59 (by decide))) hI101
      have I96 : jI102 σ69 := jI102_fr ((congrFun (f71 55 (by decide)) 6).trans (congrFun (f55 55 (by decide)) 6)) ((f71 60 (by decide)).trans (f55 60 (by decide))) ((f71 61 (by decide)).trans (f55 61 (by decide))) hI102
      have I97 : jI103 σ69 := jI103_fr ((congrFun (f71 55 (by decide)) 9).trans (congrFun (f55 55 (by decide)) 9)) hI103
      have I98 : jI104 σ69 := jI104_fr ((congrFun (f71 55 (by decide)) 10).trans (congrFun (f55 55 (by decide)) 10)) ((congrFun (f71 55 (by decide)) 12).trans (congrFun (f55 55 (by decide)) 12)) ((congrFun (f71 55 (by decide)) 13).trans (congrFun (f55 55 (by decide)) 13)) ((f71 62 (by decide)).trans (f55 62 (by decide))) ((f71 67 (by decide)).trans (f55 67 (by decide))) hI104
      have I99 : jI105 σ69 := jI105_fr ((congrFun (f71 55 (by decide)) 15).trans (congrFun (f55 55 (by decide)) 15)) ((f71 65 (by decide)).trans (f55 65 (by decide))) hI105
      have I100 : jI106 σ69 := jI106_fr (congrFun (f71 55 (by decide)) 32) (f71 70 (by decide)) (f71 71 (by decide)) (f71 72 (by decide)) I66
      have I101 : jI107 σ69 := jI107_fr ((congrFun (f71 55 (by decide)) 12).trans (congrFun (f55 55 (by decide)) 12)) ((congrFun (f71 55 (by decide)) 47).trans (congrFun (f55 55 (by decide)) 47)) ((f71 80 (by decide)).trans (f55 80 (by decide))) hI107
      have I102 : jI109 σ69 := jI109_fr ((congrFun (f71 55 (by decide)) 50).trans (congrFun (f55 55 (by decide)) 50)) hI109
      have I103 : jI111 σ69 := jI111_fr ((f71 79 (by decide)).trans (f55 79 (by decide))) hI111
      have I104 : jI119 σ69 := jI119_fr ((f71 68 (by decide)).trans (f55 68 (by decide))) hI119
      have p105 : jKept σ69 := jKept.fr ((f71 75 (by decide)).trans (f55 75 (by decide))) ((f71 76 (by decide)).trans (f55 76 (by decide))) ((f71 77 (by decide)).trans (f55 77 (by decide))) hs_jKept
      have p106 : jBook σ69 := jBook.fr ((congrFun (f71 55 (by decide)) 47).trans (congrFun (f55 55 (by decide)) 47)) ((congrFun (f71 55 (by decide)) 10).trans (congrFun (f55 55 (by decide)) 10)) ((f71 81 (by decide)).trans (f55 81 (by decide))) hs_jBook
      have p107 : jNd12 σ69 := jNd12.fr ((congrFun (f71 12 (by decide)) 0).trans (congrFun (f55 12 (by decide)) 0)) ((congrFun (f71 12 (by decide)) 1).trans (congrFun (f55 12 (by decide)) 1)) ((f71 13 (by decide)).trans (f55 13 (by decide))) hs_jNd12
      have p108 : jN67 σ69 := jN67.fr ((f71 24 (by decide)).trans (f55 24 (by decide))) hs_jN67
      have p109 : jBl σ69 := jBl.fr ((congrFun (f71 22 (by decide)) 0).trans (congrFun (f55 22 (by decide)) 0)) ((congrFun (f71 22 (by decide)) 1).trans (congrFun (f55 22 (by decide)) 1)) ((f71 23 (by decide)).trans (f55 23 (by decide))) ((congrFun (f71 26 (by decide)) 6).trans (congrFun (f55 26 (by decide)) 6)) ((congrFun (f71 26 (by decide)) 7).trans (congrFun (f55 26 (by decide)) 7)) ((f71 29 (by decide)).trans (f55 29 (by decide))) ((f71 30 (by decide)).trans (f55 30 (by decide))) hs_jBl
      have p110 : jKb σ69 := jKb.fr ((congrFun (f71 31 (by decide)) 8).trans (congrFun (f55 31 (by decide)) 8)) ((congrFun (f71 31 (by decide)) 11).trans (congrFun (f55 31 (by decide)) 11)) ((f71 32 (by decide)).trans (f55 32 (by decide))) hs_jKb
      have p111 : jTR σ69 := jTR.fr ((f71 64 (by decide)).trans (f55 64 (by decide))) ((f71 65 (by decide)).trans (f55 65 (by decide))) hs_jTR
      have p112 : jKh σ69 := jKh.fr ((congrFun (f71 31 (by decide)) 8).trans (congrFun (f55 31 (by decide)) 8)) ((f71 32 (by decide)).trans (f55 32 (by decide))) ((f71 36 (by decide)).trans (f55 36 (by decide))) ((f71 37 (by decide)).trans (f55 37 (by decide))) hs_jKh
      have p113 : jKg σ69 := jKg.fr ((congrFun (f71 31 (by decide)) 8).trans (congrFun (f55 31 (by decide)) 8)) ((congrFun (f71 31 (by decide)) 9).trans (congrFun (f55 31 (by decide)) 9)) ((congrFun (f71 31 (by decide)) 11).trans (congrFun (f55 31 (by decide)) 11)) ((congrFun (f71 31 (by decide)) 12).trans (congrFun (f55 31 (by decide)) 12)) ((f71 32 (by decide)).trans (f55 32 (by decide))) ((f71 33 (by decide)).trans (f55 33 (by decide))) hs_jKg
      have p114 : jNz σ69 := jNz.fr ((f71 34 (by decide)).trans (f55 34 (by decide))) hs_jNz
      have p115 : jqSt σ69 := jqSt.fr ((f71 78 (by decide)).trans (f55 78 (by decide))) ((congrFun (f71 55 (by decide)) 42).trans (congrFun (f55 55 (by decide)) 42)) hs_jqSt
      have z116 : (σ69 2 0).toInt = (σ 2 0).toInt := (congrArg Int32.toInt (show σ69 2 0 = (σ 2 0) from ((congrFun (f71 2 (by decide)) 0).trans (congrFun (f55 2 (by decide)) 0))))
      have z117 : (σ69 55 6).toInt = (σ 55 6).toInt := (congrArg Int32.toInt (show σ69 55 6 = (σ 55 6) from ((congrFun (f71 55 (by decide)) 6).trans (congrFun (f55 55 (by decide)) 6))))
      have z118 : (σ69 2 2).toInt = (σ 2 2).toInt := (congrArg Int32.toInt (show σ69 2 2 = (σ 2 2) from ((congrFun (f71 2 (by decide)) 2).trans (congrFun (f55 2 (by decide)) 2))))
      have z119 : (σ69 55 5).toInt = (σ 55 5).toInt := (congrArg Int32.toInt (show σ69 55 5 = (σ 55 5) from ((congrFun (f71 55 (by decide)) 5).trans (congrFun (f55 55 (by decide)) 5))))
      have z120 : (σ69 2 3).toInt = (σ 2 3).toInt := (congrArg Int32.toInt (show σ69 2 3 = (σ 2 3) from ((congrFun (f71 2 (by decide)) 3).trans (congrFun (f55 2 (by decide)) 3))))
      have z121 : (σ69 55 4).toInt = (σ 55 4).toInt := (congrArg Int32.toInt (show σ69 55 4 = (σ 55 4) from ((congrFun (f71 55 (by decide)) 4).trans (congrFun (f55 55 (by decide)) 4))))
      have z122 : (σ69 9 0).toInt = (σ 9 0).toInt := (congrArg Int32.toInt (show σ69 9 0 = (σ 9 0) from ((congrFun (f71 9 (by decide)) 0).trans (congrFun (f55 9 (by decide)) 0))))
      have z123 : (σ69 55 15).toInt = (σ 55 15).toInt := (congrArg Int32.toInt (show σ69 55 15 = (σ 55 15) from ((congrFun (f71 55 (by decide)) 15).trans (congrFun (f55 55 (by decide)) 15))))
      have z124 : (σ69 16 0).toInt = (σ 16 0).toInt := (congrArg Int32.toInt (show σ69 16 0 = (σ 16 0) from ((congrFun (f71 16 (by decide)) 0).trans (congrFun (f55 16 (by decide)) 0))))
      have z125 : (σ69 55 10).toInt = (σ 55 10).toInt := (congrArg Int32.toInt (show σ69 55 10 = (σ 55 10) from ((congrFun (f71 55 (by decide)) 10).trans (congrFun (f55 55 (by decide)) 10))))
      have z126 : (σ69 16 1).toInt = (σ 16 1).toInt := (congrArg Int32.toInt (show σ69 16 1 = (σ 16 1) from ((congrFun (f71 16 (by decide)) 1).trans (congrFun (f55 16 (by decide)) 1))))
      have z127 : (σ69 55 12).toInt = (σ 55 12).toInt := (congrArg Int32.toInt (show σ69 55 12 = (σ 55 12) from ((congrFun (f71 55 (by decide)) 12).trans (congrFun (f55 55 (by decide)) 12))))
      have z128 : (σ69 16 2).toInt = (σ 16 2).toInt := (congrArg Int32.toInt (show σ69 16 2 = (σ 16 2) from ((congrFun (f71 16 (by decide)) 2).trans (congrFun (f55 16 (by decide)) 2))))
      have z129 : (σ69 55 13).toInt = (σ 55 13).toInt := (congrArg Int32.toInt (show σ69 55 13 = (σ 55 13) from ((congrFun (f71 55 (by decide)) 13).trans (congrFun (f55 55 (by decide)) 13))))
      have z130 : (σ69 38 0).toInt = (σ 38 0).toInt := (congrArg Int32.toInt (show σ69 38 0 = (σ 38 0) from ((congrFun (f71 38 (by decide)) 0).trans (congrFun (f55 38 (by decide)) 0))))
      have z131 : (σ69 55 32).toInt = (σ 55 32).toInt := (congrArg Int32.toInt (show σ69 55 32 = (σ 55 32) from ((congrFun (f71 55 (by decide)) 32).trans (congrFun (f55 55 (by decide)) 32))))
      have z132 : (σ69 38 1).toInt = (σ 38 1).toInt := (congrArg Int32.toInt (show σ69 38 1 = (σ 38 1) from ((congrFun (f71 38 (by decide)) 1).trans (congrFun (f55 38 (by decide)) 1))))
      have z133 : (σ69 55 55).toInt = (σ 55 55).toInt := (congrArg Int32.toInt (show σ69 55 55 = (σ 55 55) from ((congrFun (f71 55 (by decide)) 55).trans (congrFun (f55 55 (by decide)) 55))))
      have z134 : (σ69 47 0).toInt = (σ 47 0).toInt := (congrArg Int32.toInt (show σ69 47 0 = (σ 47 0) from ((congrFun (f71 47 (by decide)) 0).trans (congrFun (f55 47 (by decide)) 0))))
      have z135 : (σ69 55 47).toInt = (σ 55 47).toInt := (congrArg Int32.toInt (show σ69 55 47 = (σ 55 47) from ((congrFun (f71 55 (by decide)) 47).trans (congrFun (f55 55 (by decide)) 47))))
      have z136 : (σ69 55 30).toInt = (σ 55 30).toInt := (congrArg Int32.toInt (show σ69 55 30 = (σ 55 30) from ((congrFun (f71 55 (by decide)) 30).trans (congrFun (f55 55 (by decide)) 30))))
      have z137 : (σ69 55 31).toInt = (σ 55 31).toInt := (congrArg Int32.toInt (show σ69 55 31 = (σ 55 31) from ((congrFun (f71 55 (by decide)) 31).trans (congrFun (f55 55 (by decide)) 31))))
      have z138 : (σ69 2 1).toInt = (σ 2 1).toInt := (congrArg Int32.toInt (show σ69 2 1 = (σ 2 1) from ((congrFun (f71 2 (by decide)) 1).trans (congrFun (f55 2 (by decide)) 1))))
      have z139 : (σ69 55 9).toInt = (σ 55 9).toInt := (congrArg Int32.toInt (show σ69 55 9 = (σ 55 9) from ((congrFun (f71 55 (by decide)) 9).trans (congrFun (f55 55 (by decide)) 9))))
      have z140 : (σ69 55 42).toInt = (σ 55 42).toInt := (congrArg Int32.toInt (show σ69 55 42 = (σ 55 42) from ((congrFun (f71 55 (by decide)) 42).trans (congrFun (f55 55 (by decide)) 42))))
      have z141 : (σ69 26 6).toInt = (σ 26 6).toInt := (congrArg Int32.toInt (show σ69 26 6 = (σ 26 6) from ((congrFun (f71 26 (by decide)) 6).trans (congrFun (f55 26 (by decide)) 6))))
      rw [show σ53 86 = σ 86 from (f55 86 (by decide)), show σ53 87 = σ 87 from (f55 87 (by decide))] at k79
      have p142 := hr4.set k64.1 k64.2.2 k64.2.1 k79.1 k79.2 (Or.inl ⟨rfl, Int32.toInt_inj.mp (show (xs x51.toNatClampNeg).toInt = (-1 : Int32).toInt by rw [show (-1 : Int32).toInt = -1 by decide]; omega)⟩)
      have p143 := hr5.keep k64.1 k64.2.2 (by decide)
      have z144 : (σ69 18 0).toInt = (σ 18 0).toInt := (congrArg Int32.toInt (show σ69 18 0 = (σ 18 0) from ((congrFun (f71 18 (by decide)) 0).trans (congrFun (f55 18 (by decide)) 0))))
      have z145 : (σ69 22 0).toInt = (σ 22 0).toInt := (congrArg Int32.toInt (show σ69 22 0 = (σ 22 0) from ((congrFun (f71 22 (by decide)) 0).trans (congrFun (f55 22 (by decide)) 0))))
      exact ih x81 σ69 τ _ _ ls (by have h9 := tx81; omega) ⟨I82, I83, I84, I85, I86, I87, I88, I89, I90, I91, I92, I93, I94, I95, I96, I97, I98, I99, I100, I101, I102, I72, I103, I104, p105, p106, p107, p108, p109, p110, p111, p112, p113, p114, p115, (by omega), (by omega), (by omega), (by omega), (by omega), (by omega), (by omega), (by omega), (by omega), (by omega), (by omega), (by omega), (by omega), (by omega), (by have h9 := tx81; omega), (by have h9 := tx81; omega), (show jNumP (σ69 3) (σ69 56) (σ69 6) (σ69 57) (σ69 7) (σ69 58) (σ69 8) (σ69 59) (σ69 55 6).toInt (σ69 55 4).toInt by rw [show σ69 3 = σ 3 from ((f71 3 (by decide)).trans (f55 3 (by decide))), show σ69 56 = σ 56 from ((f71 56 (by decide)).trans (f55 56 (by decide))), show σ69 6 = σ 6 from ((f71 6 (by decide)).trans (f55 6 (by decide))), show σ69 57 = σ 57 from ((f71 57 (by decide)).trans (f55 57 (by decide))), show σ69 7 = σ 7 from ((f71 7 (by decide)).trans (f55 7 (by decide))), show σ69 58 = σ 58 from ((f71 58 (by decide)).trans (f55 58 (by decide))), show σ69 8 = σ 8 from ((f71 8 (by decide)).trans (f55 8 (by decide))), show σ69 59 = σ 59 from ((f71 59 (by decide)).trans (f55 59 (by decide))), show (σ69 55 6).toInt = (σ 55 6).toInt from by omega, show (σ69 55 4).toInt = (σ 55 4).toInt from by omega]; exact hr0), (show jOvP (σ69 56) (σ69 57) (σ69 58) (σ69 59) (σ69 55 4).toInt by rw [show σ69 56 = σ 56 from ((f71 56 (by decide)).trans (f55 56 (by decide))), show σ69 57 = σ 57 from ((f71 57 (by decide)).trans (f55 57 (by decide))), show σ69 58 = σ 58 from ((f71 58 (by decide)).trans (f55 58 (by decide))), show σ69 59 = σ 59 from ((f71 59 (by decide)).trans (f55 59 (by decide))), show (σ69 55 4).toInt = (σ 55 4).toInt from by omega]; exact hr1), (show jTp (σ69 10) (σ69 63) (σ69 55 15).toInt by rw [show σ69 10 = σ 10 from ((f71 10 (by decide)).trans (f55 10 (by decide))), show σ69 63 = σ 63 from ((f71 63 (by decide)).trans (f55 63 (by decide)))]; exact hr2.le (by omega)), (show jSo (σ69 17) (σ69 62) (σ69 16 0).toInt by rw [show σ69 17 = σ 17 from ((f71 17 (by decide)).trans (f55 17 (by decide))), show σ69 62 = σ 62 from ((f71 62 (by decide)).trans (f55 62 (by decide))), show (σ69 16 0).toInt = (σ 16 0).toInt from by omega]; exact hr3), (show jShP (σ69 51) (σ69 52) (σ69 53) (σ69 86) (σ69 87) (σ69 55 32).toInt by rw [show σ69 51 = σ53 51 from (f71 51 (by decide)), show σ69 52 = σ53 52 from (f71 52 (by decide)), show σ69 53 = σ53 53 from (f71 53 (by decide))]; exact (p142.up (by omega) (by omega))), (show jEl (σ69 51) (σ69 52) (τ 54) (τ 88) by rw [show σ69 51 = σ53 51 from (f71 51 (by decide)), show σ69 52 = σ53 52 from (f71 52 (by decide))]; exact p143), (show jByP (σ69 51) (σ69 52) (τ 54) by rw [show σ69 51 = σ53 51 from (f71 51 (by decide)), show σ69 52 = σ53 52 from (f71 52 (by decide))]; exact (hr6.keep k64.1 k64.2.2 (by decide))), (show jBk (σ69 48) (σ69 80) (σ69 49) (σ69 81) (σ69 55 47).toInt by rw [show σ69 48 = σ 48 from ((f71 48 (by decide)).trans (f55 48 (by decide))), show σ69 49 = σ 49 from ((f71 49 (by decide)).trans (f55 49 (by decide))), show σ69 80 = σ 80 from ((f71 80 (by decide)).trans (f55 80 (by decide))), show σ69 81 = σ 81 from ((f71 81 (by decide)).trans (f55 81 (by decide))), show (σ69 55 47).toInt = (σ 55 47).toInt from by omega]; exact hr7), (show jKd (σ69 39) (σ69 70) (σ69 55 32).toInt by rw [show σ69 39 = σ 39 from ((f71 39 (by decide)).trans (f55 39 (by decide))), show σ69 70 = σ 70 from ((f71 70 (by decide)).trans (f55 70 (by decide))), show (σ69 55 32).toInt = (σ 55 32).toInt from by omega]; exact hr8), (show jTt (σ69 42) (σ69 85) (σ69 55 55).toInt by rw [show σ69 42 = σ 42 from ((f71 42 (by decide)).trans (f55 42 (by decide))), show σ69 85 = σ 85 from ((f71 85 (by decide)).trans (f55 85 (by decide))), show (σ69 55 55).toInt = (σ 55 55).toInt from by omega]; exact hr9), (fun k hk => by rw [show σ69 4 = σ 4 from ((f71 4 (by decide)).trans (f55 4 (by decide))), show σ69 5 = σ 5 from ((f71 5 (by decide)).trans (f55 5 (by decide))), show σ69 60 = σ 60 from ((f71 60 (by decide)).trans (f55 60 (by decide))), show σ69 61 = σ 61 from ((f71 61 (by decide)).trans (f55 61 (by decide)))]; exact hr10 k (by omega)), (fun nm => by rw [show σ69 19 = σ 19 from ((f71 19 (by decide)).trans (f55 19 (by decide))), show σ69 64 = σ 64 from ((f71 64 (by decide)).trans (f55 64 (by decide))), show σ69 65 = σ 65 from ((f71 65 (by decide)).trans (f55 65 (by decide))), show (σ69 18 0).toInt = (σ 18 0).toInt from by omega]; exact hr11 nm), (fun nm => by rw [show σ69 23 = σ 23 from ((f71 23 (by decide)).trans (f55 23 (by decide))), show σ69 64 = σ 64 from ((f71 64 (by decide)).trans (f55 64 (by decide))), show σ69 65 = σ 65 from ((f71 65 (by decide)).trans (f55 65 (by decide))), show (σ69 22 0).toInt = (σ 22 0).toInt from by omega]; exact hr12 nm), (show jAlP (σ69 56) (σ69 57) (σ69 58) (σ69 59) (σ69 55 4).toInt by rw [show σ69 56 = σ 56 from ((f71 56 (by decide)).trans (f55 56 (by decide))), show σ69 57 = σ 57 from ((f71 57 (by decide)).trans (f55 57 (by decide))), show σ69 58 = σ 58 from ((f71 58 (by decide)).trans (f55 58 (by decide))), show σ69 59 = σ 59 from ((f71 59 (by decide)).trans (f55 59 (by decide))), show (σ69 55 4).toInt = (σ 55 4).toInt from by omega]; exact hr13), (show jqbN (σ69 80) (σ69 55 47).toInt by rw [show σ69 80 = σ 80 from ((f71 80 (by decide)).trans (f55 80 (by decide))), show (σ69 55 47).toInt = (σ 55 47).toInt from by omega]; exact hr14), (show jRu (σ69 40) (σ69 41) (σ69 71) (σ69 72) (σ69 73) (σ69 55 32).toInt by rw [show σ69 40 = σ 40 from ((f71 40 (by decide)).trans (f55 40 (by decide))), show σ69 41 = σ 41 from ((f71 41 (by decide)).trans (f55 41 (by decide))), show σ69 71 = σ 71 from ((f71 71 (by decide)).trans (f55 71 (by decide))), show σ69 72 = σ 72 from ((f71 72 (by decide)).trans (f55 72 (by decide))), show σ69 73 = σ 73 from ((f71 73 (by decide)).trans (f55 73 (by decide))), show (σ69 55 32).toInt = (σ 55 32).toInt from by omega]; exact hr15)⟩ hP hS (lv_sub hl [0, 1, 2, 3] rfl)
    · obtain ⟨q149, k146, k147, k148⟩ := h75
      exact absurd (by omega : False) id
    · obtain ⟨q152, k150, k151⟩ := h76
      exact absurd (by omega : False) id
  · obtain ⟨q156, k153, k154, k155⟩ := h60
    have q156 := q156.symm
    subst q156
    refine lv_pop hx hb dL_law_1070 rfl ?_
    refine lv_aload_n hx hb dL_law_1071 rfl (lv_at hl 1 rfl) ?_
    refine lv_aload_n hx hb dL_law_1072 rfl (lv_at hl 3 rfl) ?_
    refine lv_iload_n hx hb dL_law_1073 rfl (lv_at hl 0 rfl) ?_
    refine lv_iconst (v := 1) hx hb dL_law_1074 (by decide) ?_
    refine lv_iadd hx hb dL_law_1075 ?_
    refine jtopr ex49.symm ?_
    refine va_sld hx hb hX hbl hbA hS (jin tx49 (by omega) (by omega)) dL_law_1076 ?_
    refine lv_aload_n hx hb dL_law_1077 rfl (lv_at hl 3 rfl) ?_
    refine lv_iload_n hx hb dL_law_1078 rfl (lv_at hl 0 rfl) ?_
    refine lv_iconst (v := 2) hx hb dL_law_1079 (by decide) ?_
    refine lv_iadd hx hb dL_law_1080 ?_
    refine jtopr ex51.symm ?_
    refine va_sld hx hb hX hbl hbA hS (jin tx51 (by omega) (by omega)) dL_law_1081 ?_
    have I157 : jI106 σ53 := jI106_fr (congrFun (f55 55 (by decide)) 32) (f55 70 (by decide)) (f55 71 (by decide)) (f55 72 (by decide)) hI106
    have I158 : jI110 σ53 := jI110_fr (f55 86 (by decide)) (f55 87 (by decide)) hI110
    have z159 : (σ53 55 32).toInt = (σ 55 32).toInt := (congrArg Int32.toInt (show σ53 55 32 = (σ 55 32) from (congrFun (f55 55 (by decide)) 32)))
    refine jcallV (As := [.int (xs x49.toNatClampNeg), .int (xs x51.toNatClampNeg)]) (rest := []) ⟨hx, hb, hml, hown, hts⟩ hK hP hA hS hZ (c_X12_keep l D cI cL ad zz hJ σ53 τ (xs x49.toNatClampNeg) ((xs x49.toNatClampNeg).toInt) rfl (xs x51.toNatClampNeg) ((xs x51.toNatClampNeg).toInt) rfl I157 I158) cw_RL_140 (jc_55 cI cL ad σ53 τ) rfl ⟨Nat.le_of_ble_eq_true rfl, Nat.le_of_ble_eq_true rfl⟩ rfl rfl rfl hl.1 rfl (Nat.le_of_ble_eq_true rfl) dL_law_1082 ⟨Nat.le_of_ble_eq_true rfl, Nat.le_of_ble_eq_true rfl⟩ (fun r161 σ160 τ160 H locs h160 hP hS => ?_)
    obtain ⟨rfl, f162, I163, h160⟩ := h160
    rcases h160 with h165 | h166 | h167
    · obtain ⟨q171, k168, k169, k170⟩ := h165
      exact absurd (by omega : False) id
    · obtain ⟨q175, k172, k173, k174⟩ := h166
      have q175 := q175.symm
      subst q175
      refine lv_pop hx hb dL_law_1085 rfl ?_
      refine lv_goto (tgt := 1357) hx hb dL_law_1086 (by decide) ?_
      obtain ⟨x176, ex176⟩ : ∃ y : Int32, y = x0 + 6 := ⟨_, rfl⟩
      have tx176 : x176.toInt = x0.toInt + 6 := (jadd ex176 rfl jz_6 (by omega) (by omega)).trans (by omega)
      refine lv_iinc (v := x176) (lv' := [(3, .int x176), (2, .ref (ad 55)), (1, .ref (ad 0)), (0, .ref b)]) hx hb dL_law_1357 hl (k := 0) rfl (by rw [ex176]; rfl) (by decide) rfl (fun ls hl => ?_)
      refine lv_goto (tgt := 18) hx hb dL_law_1360 (by decide) ?_
      have I177 : jI2 σ160 := jI2_fr ((congrFun (f162 2 (by decide)) 0).trans (congrFun (f55 2 (by decide)) 0)) ((congrFun (f162 2 (by decide)) 1).trans (congrFun (f55 2 (by decide)) 1)) ((congrFun (f162 2 (by decide)) 2).trans (congrFun (f55 2 (by decide)) 2)) ((congrFun (f162 2 (by decide)) 3).trans (congrFun (f55 2 (by decide)) 3)) ((f162 6 (by decide)).trans (f55 6 (by decide))) ((f162 5 (by decide)).trans (f55 5 (by decide))) hI2
      have I178 : jI9 σ160 := jI9_fr ((congrFun (f162 9 (by decide)) 0).trans (congrFun (f55 9 (by decide)) 0)) ((f162 10 (by decide)).trans (f55 10 (by decide))) ((f162 11 (by decide)).trans (f55 11 (by decide))) hI9
      have I179 : jI12 σ160 := jI12_fr ((congrFun (f162 12 (by decide)) 0).trans (congrFun (f55 12 (by decide)) 0)) ((f162 13 (by decide)).trans (f55 13 (by decide))) hI12
      have I180 : jI16 σ160 := jI16_fr ((congrFun (f162 16 (by decide)) 0).trans (congrFun (f55 16 (by decide)) 0)) ((congrFun (f162 16 (by decide)) 1).trans (congrFun (f55 16 (by decide)) 1)) ((congrFun (f162 16 (by decide)) 2).trans (congrFun (f55 16 (by decide)) 2)) ((f162 17 (by decide)).trans (f55 17 (by decide))) hI16
      have I181 : jI18 σ160 := jI18_fr ((congrFun (f162 18 (by decide)) 0).trans (congrFun (f55 18 (by decide)) 0)) ((f162 19 (by decide)).trans (f55 19 (by decide))) hI18
      have I182 : jI22 σ160 := jI22_fr ((congrFun (f162 22 (by decide)) 0).trans (congrFun (f55 22 (by decide)) 0)) ((f162 23 (by decide)).trans (f55 23 (by decide))) hI22
      have I183 : jI31 σ160 := jI31_fr ((congrFun (f162 31 (by decide)) 8).trans (congrFun (f55 31 (by decide)) 8)) ((congrFun (f162 31 (by decide)) 10).trans (congrFun (f55 31 (by decide)) 10)) ((congrFun (f162 31 (by decide)) 11).trans (congrFun (f55 31 (by decide)) 11)) ((f162 33 (by decide)).trans (f55 33 (by decide))) ((f162 35 (by decide)).trans (f55 35 (by decide))) ((f162 36 (by decide)).trans (f55 36 (by decide))) hI31
      have I184 : jI38 σ160 := jI38_fr ((congrFun (f162 38 (by decide)) 0).trans (congrFun (f55 38 (by decide)) 0)) ((congrFun (f162 38 (by decide)) 1).trans (congrFun (f55 38 (by decide)) 1)) ((f162 39 (by decide)).trans (f55 39 (by decide))) hI38
      have I185 : jI43 σ160 := jI43_fr ((congrFun (f162 43 (by decide)) 8).trans (congrFun (f55 43 (by decide)) 8)) hI43
      have I186 : jI47 σ160 := jI47_fr ((congrFun (f162 47 (by decide)) 0).trans (congrFun (f55 47 (by decide)) 0)) ((f162 48 (by decide)).trans (f55 48 (by decide))) ((f162 49 (by decide)).trans (f55 49 (by decide))) hI47
      have I187 : jI50 σ160 := jI50_fr (f162 52 (by decide)) I56
      have I188 : jI0 σ160 := jI0_fr ((f162 1 (by decide)).trans (f55 1 (by decide))) hI0
      have I189 : jI26 σ160 := jI26_fr ((congrFun (f162 26 (by decide)) 6).trans (congrFun (f55 26 (by decide)) 6)) hI26
      have I190 : jI101 σ160 := jI101_fr ((congrFun (f162 55 (by decide)) 4).trans (congrFun (f55 55 (by decide)) 4)) ((congrFun (f162 55 (by decide)) 5).trans (congrFun (f55 55 (by decide)) 5)) ((f162 56 (by decide)).trans (f55 56 (by decide))) ((f162 57 (by decide)).trans (f55 57 (by decide))) ((f162 58 (by decide)).trans (f55 58 (by decide))) ((f162 59 (by decide)).trans (f55 59 (by decide))) hI101
      have I191 : jI102 σ160 := jI102_fr ((congrFun (f162 55 (by decide)) 6).trans (congrFun (f55 55 (by decide)) 6)) ((f162 60 (by decide)).trans (f55 60 (by decide))) ((f162 61 (by decide)).trans (f55 61 (by decide))) hI102
      have I192 : jI103 σ160 := jI103_fr ((congrFun (f162 55 (by decide)) 9).trans (congrFun (f55 55 (by decide)) 9)) hI103
      have I193 : jI104 σ160 := jI104_fr ((congrFun (f162 55 (by decide)) 10).trans (congrFun (f55 55 (by decide)) 10)) ((congrFun (f162 55 (by decide)) 12).trans (congrFun (f55 55 (by decide)) 12)) ((congrFun (f162 55 (by decide)) 13).trans (congrFun (f55 55 (by decide)) 13)) ((f162 62 (by decide)).trans (f55 62 (by decide))) ((f162 67 (by decide)).trans (f55 67 (by decide))) hI104
      have I194 : jI105 σ160 := jI105_fr ((congrFun (f162 55 (by decide)) 15).trans (congrFun (f55 55 (by decide)) 15)) ((f162 65 (by decide)).trans (f55 65 (by decide))) hI105
      have I195 : jI106 σ160 := jI106_fr (congrFun (f162 55 (by decide)) 32) (f162 70 (by decide)) (f162 71 (by decide)) (f162 72 (by decide)) I157
      have I196 : jI107 σ160 := jI107_fr ((congrFun (f162 55 (by decide)) 12).trans (congrFun (f55 55 (by decide)) 12)) ((congrFun (f162 55 (by decide)) 47).trans (congrFun (f55 55 (by decide)) 47)) ((f162 80 (by decide)).trans (f55 80 (by decide))) hI107
      have I197 : jI109 σ160 := jI109_fr ((congrFun (f162 55 (by decide)) 50).trans (congrFun (f55 55 (by decide)) 50)) hI109
      have I198 : jI111 σ160 := jI111_fr ((f162 79 (by decide)).trans (f55 79 (by decide))) hI111
      have I199 : jI119 σ160 := jI119_fr ((f162 68 (by decide)).trans (f55 68 (by decide))) hI119
      have p200 : jKept σ160 := jKept.fr ((f162 75 (by decide)).trans (f55 75 (by decide))) ((f162 76 (by decide)).trans (f55 76 (by decide))) ((f162 77 (by decide)).trans (f55 77 (by decide))) hs_jKept
      have p201 : jBook σ160 := jBook.fr ((congrFun (f162 55 (by decide)) 47).trans (congrFun (f55 55 (by decide)) 47)) ((congrFun (f162 55 (by decide)) 10).trans (congrFun (f55 55 (by decide)) 10)) ((f162 81 (by decide)).trans (f55 81 (by decide))) hs_jBook
      have p202 : jNd12 σ160 := jNd12.fr ((congrFun (f162 12 (by decide)) 0).trans (congrFun (f55 12 (by decide)) 0)) ((congrFun (f162 12 (by decide)) 1).trans (congrFun (f55 12 (by decide)) 1)) ((f162 13 (by decide)).trans (f55 13 (by decide))) hs_jNd12
      have p203 : jN67 σ160 := jN67.fr ((f162 24 (by decide)).trans (f55 24 (by decide))) hs_jN67
      have p204 : jBl σ160 := jBl.fr ((congrFun (f162 22 (by decide)) 0).trans (congrFun (f55 22 (by decide)) 0)) ((congrFun (f162 22 (by decide)) 1).trans (congrFun (f55 22 (by decide)) 1)) ((f162 23 (by decide)).trans (f55 23 (by decide))) ((congrFun (f162 26 (by decide)) 6).trans (congrFun (f55 26 (by decide)) 6)) ((congrFun (f162 26 (by decide)) 7).trans (congrFun (f55 26 (by decide)) 7)) ((f162 29 (by decide)).trans (f55 29 (by decide))) ((f162 30 (by decide)).trans (f55 30 (by decide))) hs_jBl
      have p205 : jKb σ160 := jKb.fr ((congrFun (f162 31 (by decide)) 8).trans (congrFun (f55 31 (by decide)) 8)) ((congrFun (f162 31 (by decide)) 11).trans (congrFun (f55 31 (by decide)) 11)) ((f162 32 (by decide)).trans (f55 32 (by decide))) hs_jKb
      have p206 : jTR σ160 := jTR.fr ((f162 64 (by decide)).trans (f55 64 (by decide))) ((f162 65 (by decide)).trans (f55 65 (by decide))) hs_jTR
      have p207 : jKh σ160 := jKh.fr ((congrFun (f162 31 (by decide)) 8).trans (congrFun (f55 31 (by decide)) 8)) ((f162 32 (by decide)).trans (f55 32 (by decide))) ((f162 36 (by decide)).trans (f55 36 (by decide))) ((f162 37 (by decide)).trans (f55 37 (by decide))) hs_jKh
      have p208 : jKg σ160 := jKg.fr ((congrFun (f162 31 (by decide)) 8).trans (congrFun (f55 31 (by decide)) 8)) ((congrFun (f162 31 (by decide)) 9).trans (congrFun (f55 31 (by decide)) 9)) ((congrFun (f162 31 (by decide)) 11).trans (congrFun (f55 31 (by decide)) 11)) ((congrFun (f162 31 (by decide)) 12).trans (congrFun (f55 31 (by decide)) 12)) ((f162 32 (by decide)).trans (f55 32 (by decide))) ((f162 33 (by decide)).trans (f55 33 (by decide))) hs_jKg
      have p209 : jNz σ160 := jNz.fr ((f162 34 (by decide)).trans (f55 34 (by decide))) hs_jNz
      have p210 : jqSt σ160 := jqSt.fr ((f162 78 (by decide)).trans (f55 78 (by decide))) ((congrFun (f162 55 (by decide)) 42).trans (congrFun (f55 55 (by decide)) 42)) hs_jqSt
      have z211 : (σ160 2 0).toInt = (σ 2 0).toInt := (congrArg Int32.toInt (show σ160 2 0 = (σ 2 0) from ((congrFun (f162 2 (by decide)) 0).trans (congrFun (f55 2 (by decide)) 0))))
      have z212 : (σ160 55 6).toInt = (σ 55 6).toInt := (congrArg Int32.toInt (show σ160 55 6 = (σ 55 6) from ((congrFun (f162 55 (by decide)) 6).trans (congrFun (f55 55 (by decide)) 6))))
      have z213 : (σ160 2 2).toInt = (σ 2 2).toInt := (congrArg Int32.toInt (show σ160 2 2 = (σ 2 2) from ((congrFun (f162 2 (by decide)) 2).trans (congrFun (f55 2 (by decide)) 2))))
      have z214 : (σ160 55 5).toInt = (σ 55 5).toInt := (congrArg Int32.toInt (show σ160 55 5 = (σ 55 5) from ((congrFun (f162 55 (by decide)) 5).trans (congrFun (f55 55 (by decide)) 5))))
      have z215 : (σ160 2 3).toInt = (σ 2 3).toInt := (congrArg Int32.toInt (show σ160 2 3 = (σ 2 3) from ((congrFun (f162 2 (by decide)) 3).trans (congrFun (f55 2 (by decide)) 3))))
      have z216 : (σ160 55 4).toInt = (σ 55 4).toInt := (congrArg Int32.toInt (show σ160 55 4 = (σ 55 4) from ((congrFun (f162 55 (by decide)) 4).trans (congrFun (f55 55 (by decide)) 4))))
      have z217 : (σ160 9 0).toInt = (σ 9 0).toInt := (congrArg Int32.toInt (show σ160 9 0 = (σ 9 0) from ((congrFun (f162 9 (by decide)) 0).trans (congrFun (f55 9 (by decide)) 0))))
      have z218 : (σ160 55 15).toInt = (σ 55 15).toInt := (congrArg Int32.toInt (show σ160 55 15 = (σ 55 15) from ((congrFun (f162 55 (by decide)) 15).trans (congrFun (f55 55 (by decide)) 15))))
      have z219 : (σ160 16 0).toInt = (σ 16 0).toInt := (congrArg Int32.toInt (show σ160 16 0 = (σ 16 0) from ((congrFun (f162 16 (by decide)) 0).trans (congrFun (f55 16 (by decide)) 0))))
      have z220 : (σ160 55 10).toInt = (σ 55 10).toInt := (congrArg Int32.toInt (show σ160 55 10 = (σ 55 10) from ((congrFun (f162 55 (by decide)) 10).trans (congrFun (f55 55 (by decide)) 10))))
      have z221 : (σ160 16 1).toInt = (σ 16 1).toInt := (congrArg Int32.toInt (show σ160 16 1 = (σ 16 1) from ((congrFun (f162 16 (by decide)) 1).trans (congrFun (f55 16 (by decide)) 1))))
      have z222 : (σ160 55 12).toInt = (σ 55 12).toInt := (congrArg Int32.toInt (show σ160 55 12 = (σ 55 12) from ((congrFun (f162 55 (by decide)) 12).trans (congrFun (f55 55 (by decide)) 12))))
      have z223 : (σ160 16 2).toInt = (σ 16 2).toInt := (congrArg Int32.toInt (show σ160 16 2 = (σ 16 2) from ((congrFun (f162 16 (by decide)) 2).trans (congrFun (f55 16 (by decide)) 2))))
      have z224 : (σ160 55 13).toInt = (σ 55 13).toInt := (congrArg Int32.toInt (show σ160 55 13 = (σ 55 13) from ((congrFun (f162 55 (by decide)) 13).trans (congrFun (f55 55 (by decide)) 13))))
      have z225 : (σ160 38 0).toInt = (σ 38 0).toInt := (congrArg Int32.toInt (show σ160 38 0 = (σ 38 0) from ((congrFun (f162 38 (by decide)) 0).trans (congrFun (f55 38 (by decide)) 0))))
      have z226 : (σ160 55 32).toInt = (σ 55 32).toInt := (congrArg Int32.toInt (show σ160 55 32 = (σ 55 32) from ((congrFun (f162 55 (by decide)) 32).trans (congrFun (f55 55 (by decide)) 32))))
      have z227 : (σ160 38 1).toInt = (σ 38 1).toInt := (congrArg Int32.toInt (show σ160 38 1 = (σ 38 1) from ((congrFun (f162 38 (by decide)) 1).trans (congrFun (f55 38 (by decide)) 1))))
      have z228 : (σ160 55 55).toInt = (σ 55 55).toInt := (congrArg Int32.toInt (show σ160 55 55 = (σ 55 55) from ((congrFun (f162 55 (by decide)) 55).trans (congrFun (f55 55 (by decide)) 55))))
      have z229 : (σ160 47 0).toInt = (σ 47 0).toInt := (congrArg Int32.toInt (show σ160 47 0 = (σ 47 0) from ((congrFun (f162 47 (by decide)) 0).trans (congrFun (f55 47 (by decide)) 0))))
      have z230 : (σ160 55 47).toInt = (σ 55 47).toInt := (congrArg Int32.toInt (show σ160 55 47 = (σ 55 47) from ((congrFun (f162 55 (by decide)) 47).trans (congrFun (f55 55 (by decide)) 47))))
      have z231 : (σ160 55 30).toInt = (σ 55 30).toInt := (congrArg Int32.toInt (show σ160 55 30 = (σ 55 30) from ((congrFun (f162 55 (by decide)) 30).trans (congrFun (f55 55 (by decide)) 30))))
      have z232 : (σ160 55 31).toInt = (σ 55 31).toInt := (congrArg Int32.toInt (show σ160 55 31 = (σ 55 31) from ((congrFun (f162 55 (by decide)) 31).trans (congrFun (f55 55 (by decide)) 31))))
      have z233 : (σ160 2 1).toInt = (σ 2 1).toInt := (congrArg Int32.toInt (show σ160 2 1 = (σ 2 1) from ((congrFun (f162 2 (by decide)) 1).trans (congrFun (f55 2 (by decide)) 1))))
      have z234 : (σ160 55 9).toInt = (σ 55 9).toInt := (congrArg Int32.toInt (show σ160 55 9 = (σ 55 9) from ((congrFun (f162 55 (by decide)) 9).trans (congrFun (f55 55 (by decide)) 9))))
      have z235 : (σ160 55 42).toInt = (σ 55 42).toInt := (congrArg Int32.toInt (show σ160 55 42 = (σ 55 42) from ((congrFun (f162 55 (by decide)) 42).trans (congrFun (f55 55 (by decide)) 42))))
      have z236 : (σ160 26 6).toInt = (σ 26 6).toInt := (congrArg Int32.toInt (show σ160 26 6 = (σ 26 6) from ((congrFun (f162 26 (by decide)) 6).trans (congrFun (f55 26 (by decide)) 6))))
      rw [show σ53 86 = σ 86 from (f55 86 (by decide)), show σ53 87 = σ 87 from (f55 87 (by decide))] at k174
      have p237 := hr4.set k155.1 k155.2.2 k155.2.1 k174.1 k174.2 (Or.inr (Or.inl ⟨rfl, rfl, by omega, by omega⟩))
      have p238 := hr5.keep k155.1 k155.2.2 (by decide)
      have z239 : (σ160 18 0).toInt = (σ 18 0).toInt := (congrArg Int32.toInt (show σ160 18 0 = (σ 18 0) from ((congrFun (f162 18 (by decide)) 0).trans (congrFun (f55 18 (by decide)) 0))))
      have z240 : (σ160 22 0).toInt = (σ 22 0).toInt := (congrArg Int32.toInt (show σ160 22 0 = (σ 22 0) from ((congrFun (f162 22 (by decide)) 0).trans (congrFun (f55 22 (by decide)) 0))))
      exact ih x176 σ160 τ _ _ ls (by have h9 := tx176; omega) ⟨I177, I178, I179, I180, I181, I182, I183, I184, I185, I186, I187, I188, I189, I190, I191, I192, I193, I194, I195, I196, I197, I163, I198, I199, p200, p201, p202, p203, p204, p205, p206, p207, p208, p209, p210, (by omega), (by omega), (by omega), (by omega), (by omega), (by omega), (by omega), (by omega), (by omega), (by omega), (by omega), (by omega), (by omega), (by omega), (by have h9 := tx176; omega), (by have h9 := tx176; omega), (show jNumP (σ160 3) (σ160 56) (σ160 6) (σ160 57) (σ160 7) (σ160 58) (σ160 8) (σ160 59) (σ160 55 6).toInt (σ160 55 4).toInt by rw [show σ160 3 = σ 3 from ((f162 3 (by decide)).trans (f55 3 (by decide))), show σ160 56 = σ 56 from ((f162 56 (by decide)).trans (f55 56 (by decide))), show σ160 6 = σ 6 from ((f162 6 (by decide)).trans (f55 6 (by decide))), show σ160 57 = σ 57 from ((f162 57 (by decide)).trans (f55 57 (by decide))), show σ160 7 = σ 7 from ((f162 7 (by decide)).trans (f55 7 (by decide))), show σ160 58 = σ 58 from ((f162 58 (by decide)).trans (f55 58 (by decide))), show σ160 8 = σ 8 from ((f162 8 (by decide)).trans (f55 8 (by decide))), show σ160 59 = σ 59 from ((f162 59 (by decide)).trans (f55 59 (by decide))), show (σ160 55 6).toInt = (σ 55 6).toInt from by omega, show (σ160 55 4).toInt = (σ 55 4).toInt from by omega]; exact hr0), (show jOvP (σ160 56) (σ160 57) (σ160 58) (σ160 59) (σ160 55 4).toInt by rw [show σ160 56 = σ 56 from ((f162 56 (by decide)).trans (f55 56 (by decide))), show σ160 57 = σ 57 from ((f162 57 (by decide)).trans (f55 57 (by decide))), show σ160 58 = σ 58 from ((f162 58 (by decide)).trans (f55 58 (by decide))), show σ160 59 = σ 59 from ((f162 59 (by decide)).trans (f55 59 (by decide))), show (σ160 55 4).toInt = (σ 55 4).toInt from by omega]; exact hr1), (show jTp (σ160 10) (σ160 63) (σ160 55 15).toInt by rw [show σ160 10 = σ 10 from ((f162 10 (by decide)).trans (f55 10 (by decide))), show σ160 63 = σ 63 from ((f162 63 (by decide)).trans (f55 63 (by decide)))]; exact hr2.le (by omega)), (show jSo (σ160 17) (σ160 62) (σ160 16 0).toInt by rw [show σ160 17 = σ 17 from ((f162 17 (by decide)).trans (f55 17 (by decide))), show σ160 62 = σ 62 from ((f162 62 (by decide)).trans (f55 62 (by decide))), show (σ160 16 0).toInt = (σ 16 0).toInt from by omega]; exact hr3), (show jShP (σ160 51) (σ160 52) (σ160 53) (σ160 86) (σ160 87) (σ160 55 32).toInt by rw [show σ160 51 = σ53 51 from (f162 51 (by decide)), show σ160 52 = σ53 52 from (f162 52 (by decide)), show σ160 53 = σ53 53 from (f162 53 (by decide))]; exact (p237.up (by omega) (by omega))), (show jEl (σ160 51) (σ160 52) (τ 54) (τ 88) by rw [show σ160 51 = σ53 51 from (f162 51 (by decide)), show σ160 52 = σ53 52 from (f162 52 (by decide))]; exact p238), (show jByP (σ160 51) (σ160 52) (τ 54) by rw [show σ160 51 = σ53 51 from (f162 51 (by decide)), show σ160 52 = σ53 52 from (f162 52 (by decide))]; exact (hr6.keep k155.1 k155.2.2 (by decide))), (show jBk (σ160 48) (σ160 80) (σ160 49) (σ160 81) (σ160 55 47).toInt by rw [show σ160 48 = σ 48 from ((f162 48 (by decide)).trans (f55 48 (by decide))), show σ160 49 = σ 49 from ((f162 49 (by decide)).trans (f55 49 (by decide))), show σ160 80 = σ 80 from ((f162 80 (by decide)).trans (f55 80 (by decide))), show σ160 81 = σ 81 from ((f162 81 (by decide)).trans (f55 81 (by decide))), show (σ160 55 47).toInt = (σ 55 47).toInt from by omega]; exact hr7), (show jKd (σ160 39) (σ160 70) (σ160 55 32).toInt by rw [show σ160 39 = σ 39 from ((f162 39 (by decide)).trans (f55 39 (by decide))), show σ160 70 = σ 70 from ((f162 70 (by decide)).trans (f55 70 (by decide))), show (σ160 55 32).toInt = (σ 55 32).toInt from by omega]; exact hr8), (show jTt (σ160 42) (σ160 85) (σ160 55 55).toInt by rw [show σ160 42 = σ 42 from ((f162 42 (by decide)).trans (f55 42 (by decide))), show σ160 85 = σ 85 from ((f162 85 (by decide)).trans (f55 85 (by decide))), show (σ160 55 55).toInt = (σ 55 55).toInt from by omega]; exact hr9), (fun k hk => by rw [show σ160 4 = σ 4 from ((f162 4 (by decide)).trans (f55 4 (by decide))), show σ160 5 = σ 5 from ((f162 5 (by decide)).trans (f55 5 (by decide))), show σ160 60 = σ 60 from ((f162 60 (by decide)).trans (f55 60 (by decide))), show σ160 61 = σ 61 from ((f162 61 (by decide)).trans (f55 61 (by decide)))]; exact hr10 k (by omega)), (fun nm => by rw [show σ160 19 = σ 19 from ((f162 19 (by decide)).trans (f55 19 (by decide))), show σ160 64 = σ 64 from ((f162 64 (by decide)).trans (f55 64 (by decide))), show σ160 65 = σ 65 from ((f162 65 (by decide)).trans (f55 65 (by decide))), show (σ160 18 0).toInt = (σ 18 0).toInt from by omega]; exact hr11 nm), (fun nm => by rw [show σ160 23 = σ 23 from ((f162 23 (by decide)).trans (f55 23 (by decide))), show σ160 64 = σ 64 from ((f162 64 (by decide)).trans (f55 64 (by decide))), show σ160 65 = σ 65 from ((f162 65 (by decide)).trans (f55 65 (by decide))), show (σ160 22 0).toInt = (σ 22 0).toInt from by omega]; exact hr12 nm), (show jAlP (σ160 56) (σ160 57) (σ160 58) (σ160 59) (σ160 55 4).toInt by rw [show σ160 56 = σ 56 from ((f162 56 (by decide)).trans (f55 56 (by decide))), show σ160 57 = σ 57 from ((f162 57 (by decide)).trans (f55 57 (by decide))), show σ160 58 = σ 58 from ((f162 58 (by decide)).trans (f55 58 (by decide))), show σ160 59 = σ 59 from ((f162 59 (by decide)).trans (f55 59 (by decide))), show (σ160 55 4).toInt = (σ 55 4).toInt from by omega]; exact hr13), (show jqbN (σ160 80) (σ160 55 47).toInt by rw [show σ160 80 = σ 80 from ((f162 80 (by decide)).trans (f55 80 (by decide))), show (σ160 55 47).toInt = (σ 55 47).toInt from by omega]; exact hr14), (show jRu (σ160 40) (σ160 41) (σ160 71) (σ160 72) (σ160 73) (σ160 55 32).toInt by rw [show σ160 40 = σ 40 from ((f162 40 (by decide)).trans (f55 40 (by decide))), show σ160 41 = σ 41 from ((f162 41 (by decide)).trans (f55 41 (by decide))), show σ160 71 = σ 71 from ((f162 71 (by decide)).trans (f55 71 (by decide))), show σ160 72 = σ 72 from ((f162 72 (by decide)).trans (f55 72 (by decide))), show σ160 73 = σ 73 from ((f162 73 (by decide)).trans (f55 73 (by decide))), show (σ160 55 32).toInt = (σ 55 32).toInt from by omega]; exact hr15)⟩ hP hS (lv_sub hl [0, 1, 2, 3] rfl)
    · obtain ⟨q243, k241, k242⟩ := h167
      exact absurd (by omega : False) id
  · obtain ⟨q246, k244, k245⟩ := h61
    have q246 := q246.symm
    subst q246
    refine lv_pop hx hb dL_law_1070 rfl ?_
    refine lv_aload_n hx hb dL_law_1071 rfl (lv_at hl 1 rfl) ?_
    refine lv_aload_n hx hb dL_law_1072 rfl (lv_at hl 3 rfl) ?_
    refine lv_iload_n hx hb dL_law_1073 rfl (lv_at hl 0 rfl) ?_
    refine lv_iconst (v := 1) hx hb dL_law_1074 (by decide) ?_
    refine lv_iadd hx hb dL_law_1075 ?_
    refine jtopr ex49.symm ?_
    refine va_sld hx hb hX hbl hbA hS (jin tx49 (by omega) (by omega)) dL_law_1076 ?_
    refine lv_aload_n hx hb dL_law_1077 rfl (lv_at hl 3 rfl) ?_
    refine lv_iload_n hx hb dL_law_1078 rfl (lv_at hl 0 rfl) ?_
    refine lv_iconst (v := 2) hx hb dL_law_1079 (by decide) ?_
    refine lv_iadd hx hb dL_law_1080 ?_
    refine jtopr ex51.symm ?_
    refine va_sld hx hb hX hbl hbA hS (jin tx51 (by omega) (by omega)) dL_law_1081 ?_
    have I247 : jI106 σ53 := jI106_fr (congrFun (f55 55 (by decide)) 32) (f55 70 (by decide)) (f55 71 (by decide)) (f55 72 (by decide)) hI106
    have I248 : jI110 σ53 := jI110_fr (f55 86 (by decide)) (f55 87 (by decide)) hI110
    have z249 : (σ53 55 32).toInt = (σ 55 32).toInt := (congrArg Int32.toInt (show σ53 55 32 = (σ 55 32) from (congrFun (f55 55 (by decide)) 32)))
    refine jcallV (As := [.int (xs x49.toNatClampNeg), .int (xs x51.toNatClampNeg)]) (rest := []) ⟨hx, hb, hml, hown, hts⟩ hK hP hA hS hZ (c_X12_keep l D cI cL ad zz hJ σ53 τ (xs x49.toNatClampNeg) ((xs x49.toNatClampNeg).toInt) rfl (xs x51.toNatClampNeg) ((xs x51.toNatClampNeg).toInt) rfl I247 I248) cw_RL_140 (jc_55 cI cL ad σ53 τ) rfl ⟨Nat.le_of_ble_eq_true rfl, Nat.le_of_ble_eq_true rfl⟩ rfl rfl rfl hl.1 rfl (Nat.le_of_ble_eq_true rfl) dL_law_1082 ⟨Nat.le_of_ble_eq_true rfl, Nat.le_of_ble_eq_true rfl⟩ (fun r251 σ250 τ250 H locs h250 hP hS => ?_)
    obtain ⟨rfl, f252, I253, h250⟩ := h250
    rcases h250 with h255 | h256 | h257
    · obtain ⟨q261, k258, k259, k260⟩ := h255
      exact absurd (by omega : False) id
    · obtain ⟨q265, k262, k263, k264⟩ := h256
      exact absurd (by omega : False) id
    · obtain ⟨q268, k266, k267⟩ := h257
      have q268 := q268.symm
      subst q268
      refine lv_pop hx hb dL_law_1085 rfl ?_
      refine lv_goto (tgt := 1357) hx hb dL_law_1086 (by decide) ?_
      obtain ⟨x269, ex269⟩ : ∃ y : Int32, y = x0 + 6 := ⟨_, rfl⟩
      have tx269 : x269.toInt = x0.toInt + 6 := (jadd ex269 rfl jz_6 (by omega) (by omega)).trans (by omega)
      refine lv_iinc (v := x269) (lv' := [(3, .int x269), (2, .ref (ad 55)), (1, .ref (ad 0)), (0, .ref b)]) hx hb dL_law_1357 hl (k := 0) rfl (by rw [ex269]; rfl) (by decide) rfl (fun ls hl => ?_)
      refine lv_goto (tgt := 18) hx hb dL_law_1360 (by decide) ?_
      have I270 : jI2 σ250 := jI2_fr ((congrFun (f252 2 (by decide)) 0).trans (congrFun (f55 2 (by decide)) 0)) ((congrFun (f252 2 (by decide)) 1).trans (congrFun (f55 2 (by decide)) 1)) ((congrFun (f252 2 (by decide)) 2).trans (congrFun (f55 2 (by decide)) 2)) ((congrFun (f252 2 (by decide)) 3).trans (congrFun (f55 2 (by decide)) 3)) ((f252 6 (by decide)).trans (f55 6 (by decide))) ((f252 5 (by decide)).trans (f55 5 (by decide))) hI2
      have I271 : jI9 σ250 := jI9_fr ((congrFun (f252 9 (by decide)) 0).trans (congrFun (f55 9 (by decide)) 0)) ((f252 10 (by decide)).trans (f55 10 (by decide))) ((f252 11 (by decide)).trans (f55 11 (by decide))) hI9
      have I272 : jI12 σ250 := jI12_fr ((congrFun (f252 12 (by decide)) 0).trans (congrFun (f55 12 (by decide)) 0)) ((f252 13 (by decide)).trans (f55 13 (by decide))) hI12
      have I273 : jI16 σ250 := jI16_fr ((congrFun (f252 16 (by decide)) 0).trans (congrFun (f55 16 (by decide)) 0)) ((congrFun (f252 16 (by decide)) 1).trans (congrFun (f55 16 (by decide)) 1)) ((congrFun (f252 16 (by decide)) 2).trans (congrFun (f55 16 (by decide)) 2)) ((f252 17 (by decide)).trans (f55 17 (by decide))) hI16
      have I274 : jI18 σ250 := jI18_fr ((congrFun (f252 18 (by decide)) 0).trans (congrFun (f55 18 (by decide)) 0)) ((f252 19 (by decide)).trans (f55 19 (by decide))) hI18
      have I275 : jI22 σ250 := jI22_fr ((congrFun (f252 22 (by decide)) 0).trans (congrFun (f55 22 (by decide)) 0)) ((f252 23 (by decide)).trans (f55 23 (by decide))) hI22
      have I276 : jI31 σ250 := jI31_fr ((congrFun (f252 31 (by decide)) 8).trans (congrFun (f55 31 (by decide)) 8)) ((congrFun (f252 31 (by decide)) 10).trans (congrFun (f55 31 (by decide)) 10)) ((congrFun (f252 31 (by decide)) 11).trans (congrFun (f55 31 (by decide)) 11)) ((f252 33 (by decide)).trans (f55 33 (by decide))) ((f252 35 (by decide)).trans (f55 35 (by decide))) ((f252 36 (by decide)).trans (f55 36 (by decide))) hI31
      have I277 : jI38 σ250 := jI38_fr ((congrFun (f252 38 (by decide)) 0).trans (congrFun (f55 38 (by decide)) 0)) ((congrFun (f252 38 (by decide)) 1).trans (congrFun (f55 38 (by decide)) 1)) ((f252 39 (by decide)).trans (f55 39 (by decide))) hI38
      have I278 : jI43 σ250 := jI43_fr ((congrFun (f252 43 (by decide)) 8).trans (congrFun (f55 43 (by decide)) 8)) hI43
      have I279 : jI47 σ250 := jI47_fr ((congrFun (f252 47 (by decide)) 0).trans (congrFun (f55 47 (by decide)) 0)) ((f252 48 (by decide)).trans (f55 48 (by decide))) ((f252 49 (by decide)).trans (f55 49 (by decide))) hI47
      have I280 : jI50 σ250 := jI50_fr (f252 52 (by decide)) I56
      have I281 : jI0 σ250 := jI0_fr ((f252 1 (by decide)).trans (f55 1 (by decide))) hI0
      have I282 : jI26 σ250 := jI26_fr ((congrFun (f252 26 (by decide)) 6).trans (congrFun (f55 26 (by decide)) 6)) hI26
      have I283 : jI101 σ250 := jI101_fr ((congrFun (f252 55 (by decide)) 4).trans (congrFun (f55 55 (by decide)) 4)) ((congrFun (f252 55 (by decide)) 5).trans (congrFun (f55 55 (by decide)) 5)) ((f252 56 (by decide)).trans (f55 56 (by decide))) ((f252 57 (by decide)).trans (f55 57 (by decide))) ((f252 58 (by decide)).trans (f55 58 (by decide))) ((f252 59 (by decide)).trans (f55 59 (by decide))) hI101
      have I284 : jI102 σ250 := jI102_fr ((congrFun (f252 55 (by decide)) 6).trans (congrFun (f55 55 (by decide)) 6)) ((f252 60 (by decide)).trans (f55 60 (by decide))) ((f252 61 (by decide)).trans (f55 61 (by decide))) hI102
      have I285 : jI103 σ250 := jI103_fr ((congrFun (f252 55 (by decide)) 9).trans (congrFun (f55 55 (by decide)) 9)) hI103
      have I286 : jI104 σ250 := jI104_fr ((congrFun (f252 55 (by decide)) 10).trans (congrFun (f55 55 (by decide)) 10)) ((congrFun (f252 55 (by decide)) 12).trans (congrFun (f55 55 (by decide)) 12)) ((congrFun (f252 55 (by decide)) 13).trans (congrFun (f55 55 (by decide)) 13)) ((f252 62 (by decide)).trans (f55 62 (by decide))) ((f252 67 (by decide)).trans (f55 67 (by decide))) hI104
      have I287 : jI105 σ250 := jI105_fr ((congrFun (f252 55 (by decide)) 15).trans (congrFun (f55 55 (by decide)) 15)) ((f252 65 (by decide)).trans (f55 65 (by decide))) hI105
      have I288 : jI106 σ250 := jI106_fr (congrFun (f252 55 (by decide)) 32) (f252 70 (by decide)) (f252 71 (by decide)) (f252 72 (by decide)) I247
      have I289 : jI107 σ250 := jI107_fr ((congrFun (f252 55 (by decide)) 12).trans (congrFun (f55 55 (by decide)) 12)) ((congrFun (f252 55 (by decide)) 47).trans (congrFun (f55 55 (by decide)) 47)) ((f252 80 (by decide)).trans (f55 80 (by decide))) hI107
      have I290 : jI109 σ250 := jI109_fr ((congrFun (f252 55 (by decide)) 50).trans (congrFun (f55 55 (by decide)) 50)) hI109
      have I291 : jI111 σ250 := jI111_fr ((f252 79 (by decide)).trans (f55 79 (by decide))) hI111
      have I292 : jI119 σ250 := jI119_fr ((f252 68 (by decide)).trans (f55 68 (by decide))) hI119
      have p293 : jKept σ250 := jKept.fr ((f252 75 (by decide)).trans (f55 75 (by decide))) ((f252 76 (by decide)).trans (f55 76 (by decide))) ((f252 77 (by decide)).trans (f55 77 (by decide))) hs_jKept
      have p294 : jBook σ250 := jBook.fr ((congrFun (f252 55 (by decide)) 47).trans (congrFun (f55 55 (by decide)) 47)) ((congrFun (f252 55 (by decide)) 10).trans (congrFun (f55 55 (by decide)) 10)) ((f252 81 (by decide)).trans (f55 81 (by decide))) hs_jBook
      have p295 : jNd12 σ250 := jNd12.fr ((congrFun (f252 12 (by decide)) 0).trans (congrFun (f55 12 (by decide)) 0)) ((congrFun (f252 12 (by decide)) 1).trans (congrFun (f55 12 (by decide)) 1)) ((f252 13 (by decide)).trans (f55 13 (by decide))) hs_jNd12
      have p296 : jN67 σ250 := jN67.fr ((f252 24 (by decide)).trans (f55 24 (by decide))) hs_jN67
      have p297 : jBl σ250 := jBl.fr ((congrFun (f252 22 (by decide)) 0).trans (congrFun (f55 22 (by decide)) 0)) ((congrFun (f252 22 (by decide)) 1).trans (congrFun (f55 22 (by decide)) 1)) ((f252 23 (by decide)).trans (f55 23 (by decide))) ((congrFun (f252 26 (by decide)) 6).trans (congrFun (f55 26 (by decide)) 6)) ((congrFun (f252 26 (by decide)) 7).trans (congrFun (f55 26 (by decide)) 7)) ((f252 29 (by decide)).trans (f55 29 (by decide))) ((f252 30 (by decide)).trans (f55 30 (by decide))) hs_jBl
      have p298 : jKb σ250 := jKb.fr ((congrFun (f252 31 (by decide)) 8).trans (congrFun (f55 31 (by decide)) 8)) ((congrFun (f252 31 (by decide)) 11).trans (congrFun (f55 31 (by decide)) 11)) ((f252 32 (by decide)).trans (f55 32 (by decide))) hs_jKb
      have p299 : jTR σ250 := jTR.fr ((f252 64 (by decide)).trans (f55 64 (by decide))) ((f252 65 (by decide)).trans (f55 65 (by decide))) hs_jTR
      have p300 : jKh σ250 := jKh.fr ((congrFun (f252 31 (by decide)) 8).trans (congrFun (f55 31 (by decide)) 8)) ((f252 32 (by decide)).trans (f55 32 (by decide))) ((f252 36 (by decide)).trans (f55 36 (by decide))) ((f252 37 (by decide)).trans (f55 37 (by decide))) hs_jKh
      have p301 : jKg σ250 := jKg.fr ((congrFun (f252 31 (by decide)) 8).trans (congrFun (f55 31 (by decide)) 8)) ((congrFun (f252 31 (by decide)) 9).trans (congrFun (f55 31 (by decide)) 9)) ((congrFun (f252 31 (by decide)) 11).trans (congrFun (f55 31 (by decide)) 11)) ((congrFun (f252 31 (by decide)) 12).trans (congrFun (f55 31 (by decide)) 12)) ((f252 32 (by decide)).trans (f55 32 (by decide))) ((f252 33 (by decide)).trans (f55 33 (by decide))) hs_jKg
      have p302 : jNz σ250 := jNz.fr ((f252 34 (by decide)).trans (f55 34 (by decide))) hs_jNz
      have p303 : jqSt σ250 := jqSt.fr ((f252 78 (by decide)).trans (f55 78 (by decide))) ((congrFun (f252 55 (by decide)) 42).trans (congrFun (f55 55 (by decide)) 42)) hs_jqSt
      have z304 : (σ250 2 0).toInt = (σ 2 0).toInt := (congrArg Int32.toInt (show σ250 2 0 = (σ 2 0) from ((congrFun (f252 2 (by decide)) 0).trans (congrFun (f55 2 (by decide)) 0))))
      have z305 : (σ250 55 6).toInt = (σ 55 6).toInt := (congrArg Int32.toInt (show σ250 55 6 = (σ 55 6) from ((congrFun (f252 55 (by decide)) 6).trans (congrFun (f55 55 (by decide)) 6))))
      have z306 : (σ250 2 2).toInt = (σ 2 2).toInt := (congrArg Int32.toInt (show σ250 2 2 = (σ 2 2) from ((congrFun (f252 2 (by decide)) 2).trans (congrFun (f55 2 (by decide)) 2))))
      have z307 : (σ250 55 5).toInt = (σ 55 5).toInt := (congrArg Int32.toInt (show σ250 55 5 = (σ 55 5) from ((congrFun (f252 55 (by decide)) 5).trans (congrFun (f55 55 (by decide)) 5))))
      have z308 : (σ250 2 3).toInt = (σ 2 3).toInt := (congrArg Int32.toInt (show σ250 2 3 = (σ 2 3) from ((congrFun (f252 2 (by decide)) 3).trans (congrFun (f55 2 (by decide)) 3))))
      have z309 : (σ250 55 4).toInt = (σ 55 4).toInt := (congrArg Int32.toInt (show σ250 55 4 = (σ 55 4) from ((congrFun (f252 55 (by decide)) 4).trans (congrFun (f55 55 (by decide)) 4))))
      have z310 : (σ250 9 0).toInt = (σ 9 0).toInt := (congrArg Int32.toInt (show σ250 9 0 = (σ 9 0) from ((congrFun (f252 9 (by decide)) 0).trans (congrFun (f55 9 (by decide)) 0))))
      have z311 : (σ250 55 15).toInt = (σ 55 15).toInt := (congrArg Int32.toInt (show σ250 55 15 = (σ 55 15) from ((congrFun (f252 55 (by decide)) 15).trans (congrFun (f55 55 (by decide)) 15))))
      have z312 : (σ250 16 0).toInt = (σ 16 0).toInt := (congrArg Int32.toInt (show σ250 16 0 = (σ 16 0) from ((congrFun (f252 16 (by decide)) 0).trans (congrFun (f55 16 (by decide)) 0))))
      have z313 : (σ250 55 10).toInt = (σ 55 10).toInt := (congrArg Int32.toInt (show σ250 55 10 = (σ 55 10) from ((congrFun (f252 55 (by decide)) 10).trans (congrFun (f55 55 (by decide)) 10))))
      have z314 : (σ250 16 1).toInt = (σ 16 1).toInt := (congrArg Int32.toInt (show σ250 16 1 = (σ 16 1) from ((congrFun (f252 16 (by decide)) 1).trans (congrFun (f55 16 (by decide)) 1))))
      have z315 : (σ250 55 12).toInt = (σ 55 12).toInt := (congrArg Int32.toInt (show σ250 55 12 = (σ 55 12) from ((congrFun (f252 55 (by decide)) 12).trans (congrFun (f55 55 (by decide)) 12))))
      have z316 : (σ250 16 2).toInt = (σ 16 2).toInt := (congrArg Int32.toInt (show σ250 16 2 = (σ 16 2) from ((congrFun (f252 16 (by decide)) 2).trans (congrFun (f55 16 (by decide)) 2))))
      have z317 : (σ250 55 13).toInt = (σ 55 13).toInt := (congrArg Int32.toInt (show σ250 55 13 = (σ 55 13) from ((congrFun (f252 55 (by decide)) 13).trans (congrFun (f55 55 (by decide)) 13))))
      have z318 : (σ250 38 0).toInt = (σ 38 0).toInt := (congrArg Int32.toInt (show σ250 38 0 = (σ 38 0) from ((congrFun (f252 38 (by decide)) 0).trans (congrFun (f55 38 (by decide)) 0))))
      have z319 : (σ250 55 32).toInt = (σ 55 32).toInt := (congrArg Int32.toInt (show σ250 55 32 = (σ 55 32) from ((congrFun (f252 55 (by decide)) 32).trans (congrFun (f55 55 (by decide)) 32))))
      have z320 : (σ250 38 1).toInt = (σ 38 1).toInt := (congrArg Int32.toInt (show σ250 38 1 = (σ 38 1) from ((congrFun (f252 38 (by decide)) 1).trans (congrFun (f55 38 (by decide)) 1))))
      have z321 : (σ250 55 55).toInt = (σ 55 55).toInt := (congrArg Int32.toInt (show σ250 55 55 = (σ 55 55) from ((congrFun (f252 55 (by decide)) 55).trans (congrFun (f55 55 (by decide)) 55))))
      have z322 : (σ250 47 0).toInt = (σ 47 0).toInt := (congrArg Int32.toInt (show σ250 47 0 = (σ 47 0) from ((congrFun (f252 47 (by decide)) 0).trans (congrFun (f55 47 (by decide)) 0))))
      have z323 : (σ250 55 47).toInt = (σ 55 47).toInt := (congrArg Int32.toInt (show σ250 55 47 = (σ 55 47) from ((congrFun (f252 55 (by decide)) 47).trans (congrFun (f55 55 (by decide)) 47))))
      have z324 : (σ250 55 30).toInt = (σ 55 30).toInt := (congrArg Int32.toInt (show σ250 55 30 = (σ 55 30) from ((congrFun (f252 55 (by decide)) 30).trans (congrFun (f55 55 (by decide)) 30))))
      have z325 : (σ250 55 31).toInt = (σ 55 31).toInt := (congrArg Int32.toInt (show σ250 55 31 = (σ 55 31) from ((congrFun (f252 55 (by decide)) 31).trans (congrFun (f55 55 (by decide)) 31))))
      have z326 : (σ250 2 1).toInt = (σ 2 1).toInt := (congrArg Int32.toInt (show σ250 2 1 = (σ 2 1) from ((congrFun (f252 2 (by decide)) 1).trans (congrFun (f55 2 (by decide)) 1))))
      have z327 : (σ250 55 9).toInt = (σ 55 9).toInt := (congrArg Int32.toInt (show σ250 55 9 = (σ 55 9) from ((congrFun (f252 55 (by decide)) 9).trans (congrFun (f55 55 (by decide)) 9))))
      have z328 : (σ250 55 42).toInt = (σ 55 42).toInt := (congrArg Int32.toInt (show σ250 55 42 = (σ 55 42) from ((congrFun (f252 55 (by decide)) 42).trans (congrFun (f55 55 (by decide)) 42))))
      have z329 : (σ250 26 6).toInt = (σ 26 6).toInt := (congrArg Int32.toInt (show σ250 26 6 = (σ 26 6) from ((congrFun (f252 26 (by decide)) 6).trans (congrFun (f55 26 (by decide)) 6))))
      have z331 : (σ250 18 0).toInt = (σ 18 0).toInt := (congrArg Int32.toInt (show σ250 18 0 = (σ 18 0) from ((congrFun (f252 18 (by decide)) 0).trans (congrFun (f55 18 (by decide)) 0))))
      have z332 : (σ250 22 0).toInt = (σ 22 0).toInt := (congrArg Int32.toInt (show σ250 22 0 = (σ 22 0) from ((congrFun (f252 22 (by decide)) 0).trans (congrFun (f55 22 (by decide)) 0))))
      exact ih x269 σ250 τ _ _ ls (by have h9 := tx269; omega) ⟨I270, I271, I272, I273, I274, I275, I276, I277, I278, I279, I280, I281, I282, I283, I284, I285, I286, I287, I288, I289, I290, I253, I291, I292, p293, p294, p295, p296, p297, p298, p299, p300, p301, p302, p303, (by omega), (by omega), (by omega), (by omega), (by omega), (by omega), (by omega), (by omega), (by omega), (by omega), (by omega), (by omega), (by omega), (by omega), (by have h9 := tx269; omega), (by have h9 := tx269; omega), (show jNumP (σ250 3) (σ250 56) (σ250 6) (σ250 57) (σ250 7) (σ250 58) (σ250 8) (σ250 59) (σ250 55 6).toInt (σ250 55 4).toInt by rw [show σ250 3 = σ 3 from ((f252 3 (by decide)).trans (f55 3 (by decide))), show σ250 56 = σ 56 from ((f252 56 (by decide)).trans (f55 56 (by decide))), show σ250 6 = σ 6 from ((f252 6 (by decide)).trans (f55 6 (by decide))), show σ250 57 = σ 57 from ((f252 57 (by decide)).trans (f55 57 (by decide))), show σ250 7 = σ 7 from ((f252 7 (by decide)).trans (f55 7 (by decide))), show σ250 58 = σ 58 from ((f252 58 (by decide)).trans (f55 58 (by decide))), show σ250 8 = σ 8 from ((f252 8 (by decide)).trans (f55 8 (by decide))), show σ250 59 = σ 59 from ((f252 59 (by decide)).trans (f55 59 (by decide))), show (σ250 55 6).toInt = (σ 55 6).toInt from by omega, show (σ250 55 4).toInt = (σ 55 4).toInt from by omega]; exact hr0), (show jOvP (σ250 56) (σ250 57) (σ250 58) (σ250 59) (σ250 55 4).toInt by rw [show σ250 56 = σ 56 from ((f252 56 (by decide)).trans (f55 56 (by decide))), show σ250 57 = σ 57 from ((f252 57 (by decide)).trans (f55 57 (by decide))), show σ250 58 = σ 58 from ((f252 58 (by decide)).trans (f55 58 (by decide))), show σ250 59 = σ 59 from ((f252 59 (by decide)).trans (f55 59 (by decide))), show (σ250 55 4).toInt = (σ 55 4).toInt from by omega]; exact hr1), (show jTp (σ250 10) (σ250 63) (σ250 55 15).toInt by rw [show σ250 10 = σ 10 from ((f252 10 (by decide)).trans (f55 10 (by decide))), show σ250 63 = σ 63 from ((f252 63 (by decide)).trans (f55 63 (by decide)))]; exact hr2.le (by omega)), (show jSo (σ250 17) (σ250 62) (σ250 16 0).toInt by rw [show σ250 17 = σ 17 from ((f252 17 (by decide)).trans (f55 17 (by decide))), show σ250 62 = σ 62 from ((f252 62 (by decide)).trans (f55 62 (by decide))), show (σ250 16 0).toInt = (σ 16 0).toInt from by omega]; exact hr3), (show jShP (σ250 51) (σ250 52) (σ250 53) (σ250 86) (σ250 87) (σ250 55 32).toInt by rw [show σ250 51 = σ 51 from ((f252 51 (by decide)).trans k245.1), show σ250 52 = σ 52 from ((f252 52 (by decide)).trans k245.2.1), show σ250 53 = σ 53 from ((f252 53 (by decide)).trans k245.2.2), show σ250 86 = σ 86 from (k267.1.trans (f55 86 (by decide))), show σ250 87 = σ 87 from (k267.2.trans (f55 87 (by decide)))]; exact (hr4.up (by omega) (by omega))), (show jEl (σ250 51) (σ250 52) (τ 54) (τ 88) by rw [show σ250 51 = σ 51 from ((f252 51 (by decide)).trans k245.1), show σ250 52 = σ 52 from ((f252 52 (by decide)).trans k245.2.1)]; exact hr5), (show jByP (σ250 51) (σ250 52) (τ 54) by rw [show σ250 51 = σ 51 from ((f252 51 (by decide)).trans k245.1), show σ250 52 = σ 52 from ((f252 52 (by decide)).trans k245.2.1)]; exact hr6), (show jBk (σ250 48) (σ250 80) (σ250 49) (σ250 81) (σ250 55 47).toInt by rw [show σ250 48 = σ 48 from ((f252 48 (by decide)).trans (f55 48 (by decide))), show σ250 49 = σ 49 from ((f252 49 (by decide)).trans (f55 49 (by decide))), show σ250 80 = σ 80 from ((f252 80 (by decide)).trans (f55 80 (by decide))), show σ250 81 = σ 81 from ((f252 81 (by decide)).trans (f55 81 (by decide))), show (σ250 55 47).toInt = (σ 55 47).toInt from by omega]; exact hr7), (show jKd (σ250 39) (σ250 70) (σ250 55 32).toInt by rw [show σ250 39 = σ 39 from ((f252 39 (by decide)).trans (f55 39 (by decide))), show σ250 70 = σ 70 from ((f252 70 (by decide)).trans (f55 70 (by decide))), show (σ250 55 32).toInt = (σ 55 32).toInt from by omega]; exact hr8), (show jTt (σ250 42) (σ250 85) (σ250 55 55).toInt by rw [show σ250 42 = σ 42 from ((f252 42 (by decide)).trans (f55 42 (by decide))), show σ250 85 = σ 85 from ((f252 85 (by decide)).trans (f55 85 (by decide))), show (σ250 55 55).toInt = (σ 55 55).toInt from by omega]; exact hr9), (fun k hk => by rw [show σ250 4 = σ 4 from ((f252 4 (by decide)).trans (f55 4 (by decide))), show σ250 5 = σ 5 from ((f252 5 (by decide)).trans (f55 5 (by decide))), show σ250 60 = σ 60 from ((f252 60 (by decide)).trans (f55 60 (by decide))), show σ250 61 = σ 61 from ((f252 61 (by decide)).trans (f55 61 (by decide)))]; exact hr10 k (by omega)), (fun nm => by rw [show σ250 19 = σ 19 from ((f252 19 (by decide)).trans (f55 19 (by decide))), show σ250 64 = σ 64 from ((f252 64 (by decide)).trans (f55 64 (by decide))), show σ250 65 = σ 65 from ((f252 65 (by decide)).trans (f55 65 (by decide))), show (σ250 18 0).toInt = (σ 18 0).toInt from by omega]; exact hr11 nm), (fun nm => by rw [show σ250 23 = σ 23 from ((f252 23 (by decide)).trans (f55 23 (by decide))), show σ250 64 = σ 64 from ((f252 64 (by decide)).trans (f55 64 (by decide))), show σ250 65 = σ 65 from ((f252 65 (by decide)).trans (f55 65 (by decide))), show (σ250 22 0).toInt = (σ 22 0).toInt from by omega]; exact hr12 nm), (show jAlP (σ250 56) (σ250 57) (σ250 58) (σ250 59) (σ250 55 4).toInt by rw [show σ250 56 = σ 56 from ((f252 56 (by decide)).trans (f55 56 (by decide))), show σ250 57 = σ 57 from ((f252 57 (by decide)).trans (f55 57 (by decide))), show σ250 58 = σ 58 from ((f252 58 (by decide)).trans (f55 58 (by decide))), show σ250 59 = σ 59 from ((f252 59 (by decide)).trans (f55 59 (by decide))), show (σ250 55 4).toInt = (σ 55 4).toInt from by omega]; exact hr13), (show jqbN (σ250 80) (σ250 55 47).toInt by rw [show σ250 80 = σ 80 from ((f252 80 (by decide)).trans (f55 80 (by decide))), show (σ250 55 47).toInt = (σ 55 47).toInt from by omega]; exact hr14), (show jRu (σ250 40) (σ250 41) (σ250 71) (σ250 72) (σ250 73) (σ250 55 32).toInt by rw [show σ250 40 = σ 40 from ((f252 40 (by decide)).trans (f55 40 (by decide))), show σ250 41 = σ 41 from ((f252 41 (by decide)).trans (f55 41 (by decide))), show σ250 71 = σ 71 from ((f252 71 (by decide)).trans (f55 71 (by decide))), show σ250 72 = σ 72 from ((f252 72 (by decide)).trans (f55 72 (by decide))), show σ250 73 = σ 73 from ((f252 73 (by decide)).trans (f55 73 (by decide))), show (σ250 55 32).toInt = (σ 55 32).toInt from by omega]; exact hr15)⟩ hP hS (lv_sub hl [0, 1, 2, 3] rfl)

set_option maxHeartbeats 4000000 in
set_option maxRecDepth 100000 in
theorem law_case_36 {p : Program} {e : Env} {s : State} {m : MethodId} {below : List Frame} {meth : Method} {c : Code} (l : Launch) {b L : Nat} {xs : Nat → Int32} {D : va_G} {cI cL : ClassId} {ad zz : Nat → Nat} (C0 : lw_At p s m meth c b L xs) (hJ : jD ad) (hA : ∀ q, jA ad q → s.heap.size ≤ q) (hK : jK D cI cL s) (hZ : jZ zz (fun q : Nat => s.heap.size ≤ q) s s.heap) {x0 : Int32} (hx0 : 0 ≤ x0.toInt) (hxL : x0.toInt + 6 ≤ (L : Int)) (hL : L ≤ 384) {σ : Nat → Nat → Int32} {τ : Nat → Nat → Int64} {H : Heap} {locs : List Loc} (hS : va_S (fun q : Nat => s.heap.size ≤ q) s.heap H locs) {ls : Array Slot} (hAll : jAll x0.toInt σ τ) (hP : jH D cI cL ad σ τ H) (hl : lv_has ls 4 [(3, .int x0), (2, .ref (ad 55)), (1, .ref (ad 0)), (0, .ref b)]) (ih : ∀ (x1 : Int32) (σ : Nat → Nat → Int32) (τ : Nat → Nat → Int64) (H : Heap) (locs : List Loc) (ls : Array Slot), x1.toInt = x0.toInt + 6 → jAll x1.toInt σ τ → jH D cI cL ad σ τ H → va_S (fun q : Nat => s.heap.size ≤ q) s.heap H locs → lv_has ls 4 [(3, .int x1), (2, .ref (ad 55)), (1, .ref (ad 0)), (0, .ref b)] → W p l e room_1 s m #[Value.ref b] below meth c H locs 90 348600 (lw_Z below #[Value.ref b] s) (F0 m 18 ls [])) : W p l e room_1 s m #[Value.ref b] below meth c H locs 90 348600 (lw_Z below #[Value.ref b] s) (F0 m 1334 ls []) := by
  obtain ⟨hx, hb, hr, hml, hown, hts0, hX, hbl, hlocks, hgv⟩ := C0
  have hts : ∀ w ∈ wsL_law, w.before #[Value.ref b] s = true := fun w h => hts0 w (wsL_law_in w h)
  have hbA : ¬ (fun q : Nat => s.heap.size ≤ q) b := Nat.not_le.mpr hbl
  have hown : s.vm.findClass RL = some m.cls := hown
  obtain ⟨hI2, hI9, hI12, hI16, hI18, hI22, hI31, hI38, hI43, hI47, hI50, hI0, hI26, hI101, hI102, hI103, hI104, hI105, hI106, hI107, hI109, hI110, hI111, hI119, hs_jKept, hs_jBook, hs_jNd12, hs_jN67, hs_jBl, hs_jKb, hs_jTR, hs_jKh, hs_jKg, hs_jNz, hs_jqSt, ht0, ht1, ht2, ht3, ht4, ht5, ht6, ht7, ht8, ht9, ht10, ht11, ht12, ht13, ht14, ht15, hr0, hr1, hr2, hr3, hr4, hr5, hr6, hr7, hr8, hr9, hr10, hr11, hr12, hr13, hr14, hr15⟩ := hAll
  have hL9 : (L : Int) ≤ 384 := by omega
  obtain ⟨i1, i2, i3, i4, i5, w6, w7⟩ : (0 ≤ (σ 2 0).toInt ∧ (σ 2 0).toInt ≤ 4) ∧ (0 ≤ (σ 2 1).toInt ∧ (σ 2 1).toInt ≤ 3) ∧ (0 ≤ (σ 2 2).toInt) ∧ (0 ≤ (σ 2 3).toInt) ∧ ((σ 2 2).toInt + (σ 2 3).toInt ≤ 40) ∧ (∀ k : Nat, k < 40 → 0 ≤ (σ 6 k).toInt ∧ (σ 6 k).toInt ≤ 67) ∧ (∀ k : Nat, k < 4 → 0 ≤ (σ 5 k).toInt ∧ (σ 5 k).toInt ≤ 20) := id hI2
  obtain ⟨i8, w9, w10⟩ : (0 ≤ (σ 9 0).toInt ∧ (σ 9 0).toInt ≤ 80) ∧ (∀ k : Nat, k < 80 → 0 ≤ (σ 10 k).toInt ∧ (σ 10 k).toInt ≤ 255) ∧ (∀ k : Nat, k < 8 → 0 ≤ (σ 11 k).toInt ∧ (σ 11 k).toInt ≤ 3) := id hI9
  obtain ⟨i11, i12, i13, w14⟩ : (1 ≤ (σ 16 0).toInt ∧ (σ 16 0).toInt ≤ 8) ∧ (1 ≤ (σ 16 1).toInt ∧ (σ 16 1).toInt ≤ 12) ∧ (0 ≤ (σ 16 2).toInt ∧ (σ 16 2).toInt ≤ 999) ∧ (∀ k : Nat, k < 8 → 0 ≤ (σ 17 k).toInt ∧ (σ 17 k).toInt ≤ 3) := id hI16
  obtain ⟨i15, i16, w17⟩ : (0 ≤ (σ 38 0).toInt ∧ (σ 38 0).toInt ≤ 20) ∧ (0 ≤ (σ 38 1).toInt ∧ (σ 38 1).toInt ≤ 1000) ∧ (∀ k : Nat, k < 20 → 0 ≤ (σ 39 k).toInt ∧ (σ 39 k).toInt ≤ 6) := id hI38
  obtain ⟨i18, w19, w20⟩ : (0 ≤ (σ 47 0).toInt ∧ (σ 47 0).toInt ≤ 12) ∧ (∀ k : Nat, k < 12 → 0 ≤ (σ 48 k).toInt ∧ (σ 48 k).toInt ≤ 3) ∧ (∀ k : Nat, k < 12 → 0 ≤ (σ 49 k).toInt ∧ (σ 49 k).toInt ≤ 1) := id hI47
  have w21 : ∀ k : Nat, k < 6 → 0 ≤ (σ 52 k).toInt ∧ (σ 52 k).toInt ≤ 60 := hI50
  have i22 : 1 ≤ (σ 26 6).toInt ∧ (σ 26 6).toInt ≤ 8000 := hI26
  obtain ⟨i23, i24, i25, w26, w27, w28, w29⟩ : (0 ≤ (σ 55 5).toInt) ∧ ((σ 55 5).toInt ≤ (σ 55 4).toInt) ∧ ((σ 55 4).toInt ≤ 40) ∧ (∀ k : Nat, k < 68 → (-200) ≤ (σ 56 k).toInt ∧ (σ 56 k).toInt ≤ 500) ∧ (∀ k : Nat, k < 40 → 0 ≤ (σ 57 k).toInt ∧ (σ 57 k).toInt ≤ 67) ∧ (∀ k : Nat, k < 40 → (-200) ≤ (σ 58 k).toInt ∧ (σ 58 k).toInt ≤ 500) ∧ (∀ k : Nat, k < 40 → (-200) ≤ (σ 59 k).toInt ∧ (σ 59 k).toInt ≤ 500) := id hI101
  obtain ⟨i30, w31, w32⟩ : (0 ≤ (σ 55 6).toInt ∧ (σ 55 6).toInt ≤ 4) ∧ (∀ k : Nat, k < 4 → 0 ≤ (σ 60 k).toInt ∧ (σ 60 k).toInt ≤ 50) ∧ (∀ k : Nat, k < 4 → 0 ≤ (σ 61 k).toInt ∧ (σ 61 k).toInt ≤ 20) := id hI102
  have i33 : 0 ≤ (σ 55 9).toInt ∧ (σ 55 9).toInt ≤ 3 := hI103
  obtain ⟨i34, i35, i36, w37, w38⟩ : (1 ≤ (σ 55 10).toInt ∧ (σ 55 10).toInt ≤ 8) ∧ (1 ≤ (σ 55 12).toInt ∧ (σ 55 12).toInt ≤ 12) ∧ (0 ≤ (σ 55 13).toInt ∧ (σ 55 13).toInt ≤ 999) ∧ (∀ k : Nat, k < 8 → 0 ≤ (σ 62 k).toInt ∧ (σ 62 k).toInt ≤ 3) ∧ (∀ k : Nat, k < 8 → 0 ≤ (σ 67 k).toInt ∧ (σ 67 k).toInt ≤ 3) := id hI104
  obtain ⟨i39, w40⟩ : (0 ≤ (σ 55 15).toInt ∧ (σ 55 15).toInt ≤ 80) ∧ (∀ k : Nat, k < 2 → (-1) ≤ (σ 65 k).toInt ∧ (σ 65 k).toInt ≤ 80) := id hI105
  obtain ⟨i41, w42, w43, w44⟩ : (0 ≤ (σ 55 32).toInt ∧ (σ 55 32).toInt ≤ 20) ∧ (∀ k : Nat, k < 20 → 0 ≤ (σ 70 k).toInt ∧ (σ 70 k).toInt ≤ 6) ∧ (∀ k : Nat, k < 20 → 0 ≤ (σ 71 k).toInt ∧ (σ 71 k).toInt ≤ 8) ∧ (∀ k : Nat, k < 160 → 0 ≤ (σ 72 k).toInt ∧ (σ 72 k).toInt ≤ 3) := id hI106
  obtain ⟨i45, i46, w47⟩ : (0 ≤ (σ 55 47).toInt ∧ (σ 55 47).toInt ≤ 12) ∧ ((σ 55 47).toInt ≤ (σ 55 12).toInt) ∧ (∀ k : Nat, k < 12 → 0 ≤ (σ 80 k).toInt ∧ (σ 80 k).toInt ≤ 3) := id hI107
  have hs_jOk3 : jOk3 σ := hr0.ok hr1.1
  refine lv_aload_n hx hb dL_law_1334 rfl (lv_at hl 2 rfl) ?_
  refine lv_aload_n hx hb dL_law_1335 rfl (lv_at hl 3 rfl) ?_
  refine lv_iload_n hx hb dL_law_1336 rfl (lv_at hl 0 rfl) ?_
  refine lv_iconst (v := 1) hx hb dL_law_1337 (by decide) ?_
  have g48 := jrg (rfl : x0.toInt = x0.toInt)
  refine lv_iadd hx hb dL_law_1338 ?_
  refine lv_topi (fun x49 ex49 => ?_)
  have tx49 : x49.toInt = x0.toInt + 1 := (jadd ex49 rfl jz_1 (by omega) (by omega)).trans (by omega)
  refine va_sld hx hb hX hbl hbA hS (jin tx49 (by omega) (by omega)) dL_law_1339 ?_
  have g50 := jrg (rfl : (xs x49.toNatClampNeg).toInt = (xs x49.toNatClampNeg).toInt)
  refine jcallV (As := [.int (xs x49.toNatClampNeg)]) (rest := []) ⟨hx, hb, hml, hown, hts⟩ hK hP hA hS hZ (c_X11_count l D cI cL ad zz hJ σ τ (xs x49.toNatClampNeg) ((xs x49.toNatClampNeg).toInt) rfl hI2 hI9 hI38 hI47) cw_RL_166 (jc_0 cI cL ad σ τ) rfl ⟨Nat.le_of_ble_eq_true rfl, Nat.le_of_ble_eq_true rfl⟩ rfl rfl rfl hl.1 rfl (Nat.le_of_ble_eq_true rfl) dL_law_1340 ⟨Nat.le_of_ble_eq_true rfl, Nat.le_of_ble_eq_true rfl⟩ (fun r52 σ51 τ51 H locs h51 hP hS => ?_)
  obtain ⟨⟨rfl, rfl⟩, h51⟩ := h51
  rcases h51 with h53 | h54 | h55 | h56 | h57 | h58 | h59
  · obtain ⟨q62, k60, k61⟩ := h53
    refine lv_pop hx hb dL_law_1343 rfl ?_
    refine lv_aload_n hx hb dL_law_1344 rfl (lv_at hl 1 rfl) ?_
    refine lv_aload_n hx hb dL_law_1345 rfl (lv_at hl 3 rfl) ?_
    refine lv_iload_n hx hb dL_law_1346 rfl (lv_at hl 0 rfl) ?_
    refine lv_iconst (v := 1) hx hb dL_law_1347 (by decide) ?_
    refine lv_iadd hx hb dL_law_1348 ?_
    refine jtopr ex49.symm ?_
    refine va_sld hx hb hX hbl hbA hS (jin tx49 (by omega) (by omega)) dL_law_1349 ?_
    refine jcallV (As := [.int (xs x49.toNatClampNeg)]) (rest := []) ⟨hx, hb, hml, hown, hts⟩ hK hP hA hS hZ (c_X12_count l D cI cL ad zz hJ σ τ (xs x49.toNatClampNeg) ((xs x49.toNatClampNeg).toInt) rfl hI101 hI102 hI105 hI106 hI107) cw_RL_169 (jc_55 cI cL ad σ τ) rfl ⟨Nat.le_of_ble_eq_true rfl, Nat.le_of_ble_eq_true rfl⟩ rfl rfl rfl hl.1 rfl (Nat.le_of_ble_eq_true rfl) dL_law_1350 ⟨Nat.le_of_ble_eq_true rfl, Nat.le_of_ble_eq_true rfl⟩ (fun r64 σ63 τ63 H locs h63 hP hS => ?_)
    obtain ⟨⟨rfl, rfl⟩, h63⟩ := h63
    rcases h63 with h65 | h66 | h67 | h68 | h69 | h70 | h71
    · obtain ⟨q74, k72, k73⟩ := h65
      refine lv_pop hx hb dL_law_1353 rfl ?_
      refine lv_goto (tgt := 1357) hx hb dL_law_1354 (by decide) ?_
      obtain ⟨x75, ex75⟩ : ∃ y : Int32, y = x0 + 6 := ⟨_, rfl⟩
      have tx75 : x75.toInt = x0.toInt + 6 := (jadd ex75 rfl jz_6 (by omega) (by omega)).trans (by omega)
      refine lv_iinc (v := x75) (lv' := [(3, .int x75), (2, .ref (ad 55)), (1, .ref (ad 0)), (0, .ref b)]) hx hb dL_law_1357 hl (k := 0) rfl (by rw [ex75]; rfl) (by decide) rfl (fun ls hl => ?_)
      refine lv_goto (tgt := 18) hx hb dL_law_1360 (by decide) ?_
      exact ih x75 σ τ _ _ ls (by have h9 := tx75; omega) ⟨hI2, hI9, hI12, hI16, hI18, hI22, hI31, hI38, hI43, hI47, hI50, hI0, hI26, hI101, hI102, hI103, hI104, hI105, hI106, hI107, hI109, hI110, hI111, hI119, hs_jKept, hs_jBook, hs_jNd12, hs_jN67, hs_jBl, hs_jKb, hs_jTR, hs_jKh, hs_jKg, hs_jNz, hs_jqSt, (by omega), (by omega), (by omega), (by omega), (by omega), (by omega), (by omega), (by omega), (by omega), (by omega), (by omega), (by omega), (by omega), (by omega), (by have h9 := tx75; omega), (by have h9 := tx75; omega), hr0, hr1, hr2, hr3, hr4, hr5, hr6, hr7, hr8, hr9, hr10, hr11, hr12, hr13, hr14, hr15⟩ hP hS (lv_sub hl [0, 1, 2, 3] rfl)
    · obtain ⟨q78, k76, k77⟩ := h66
      exact absurd (by omega : False) id
    · obtain ⟨q81, k79, k80⟩ := h67
      exact absurd (by omega : False) id
    · obtain ⟨q84, k82, k83⟩ := h68
      exact absurd (by omega : False) id
    · obtain ⟨q87, k85, k86⟩ := h69
      exact absurd (by omega : False) id
    · obtain ⟨q90, k88, k89⟩ := h70
      exact absurd (by omega : False) id
    · obtain ⟨q92, k91⟩ := h71
      exact absurd (by omega : False) id
  · obtain ⟨q95, k93, k94⟩ := h54
    refine lv_pop hx hb dL_law_1343 rfl ?_
    refine lv_aload_n hx hb dL_law_1344 rfl (lv_at hl 1 rfl) ?_
    refine lv_aload_n hx hb dL_law_1345 rfl (lv_at hl 3 rfl) ?_
    refine lv_iload_n hx hb dL_law_1346 rfl (lv_at hl 0 rfl) ?_
    refine lv_iconst (v := 1) hx hb dL_law_1347 (by decide) ?_
    refine lv_iadd hx hb dL_law_1348 ?_
    refine jtopr ex49.symm ?_
    refine va_sld hx hb hX hbl hbA hS (jin tx49 (by omega) (by omega)) dL_law_1349 ?_
    refine jcallV (As := [.int (xs x49.toNatClampNeg)]) (rest := []) ⟨hx, hb, hml, hown, hts⟩ hK hP hA hS hZ (c_X12_count l D cI cL ad zz hJ σ τ (xs x49.toNatClampNeg) ((xs x49.toNatClampNeg).toInt) rfl hI101 hI102 hI105 hI106 hI107) cw_RL_169 (jc_55 cI cL ad σ τ) rfl ⟨Nat.le_of_ble_eq_true rfl, Nat.le_of_ble_eq_true rfl⟩ rfl rfl rfl hl.1 rfl (Nat.le_of_ble_eq_true rfl) dL_law_1350 ⟨Nat.le_of_ble_eq_true rfl, Nat.le_of_ble_eq_true rfl⟩ (fun r97 σ96 τ96 H locs h96 hP hS => ?_)
    obtain ⟨⟨rfl, rfl⟩, h96⟩ := h96
    rcases h96 with h98 | h99 | h100 | h101 | h102 | h103 | h104
    · obtain ⟨q107, k105, k106⟩ := h98
      exact absurd (by omega : False) id
    · obtain ⟨q110, k108, k109⟩ := h99
      refine lv_pop hx hb dL_law_1353 rfl ?_
      refine lv_goto (tgt := 1357) hx hb dL_law_1354 (by decide) ?_
      obtain ⟨x111, ex111⟩ : ∃ y : Int32, y = x0 + 6 := ⟨_, rfl⟩
      have tx111 : x111.toInt = x0.toInt + 6 := (jadd ex111 rfl jz_6 (by omega) (by omega)).trans (by omega)
      refine lv_iinc (v := x111) (lv' := [(3, .int x111), (2, .ref (ad 55)), (1, .ref (ad 0)), (0, .ref b)]) hx hb dL_law_1357 hl (k := 0) rfl (by rw [ex111]; rfl) (by decide) rfl (fun ls hl => ?_)
      refine lv_goto (tgt := 18) hx hb dL_law_1360 (by decide) ?_
      exact ih x111 σ τ _ _ ls (by have h9 := tx111; omega) ⟨hI2, hI9, hI12, hI16, hI18, hI22, hI31, hI38, hI43, hI47, hI50, hI0, hI26, hI101, hI102, hI103, hI104, hI105, hI106, hI107, hI109, hI110, hI111, hI119, hs_jKept, hs_jBook, hs_jNd12, hs_jN67, hs_jBl, hs_jKb, hs_jTR, hs_jKh, hs_jKg, hs_jNz, hs_jqSt, (by omega), (by omega), (by omega), (by omega), (by omega), (by omega), (by omega), (by omega), (by omega), (by omega), (by omega), (by omega), (by omega), (by omega), (by have h9 := tx111; omega), (by have h9 := tx111; omega), hr0, hr1, hr2, hr3, hr4, hr5, hr6, hr7, hr8, hr9, hr10, hr11, hr12, hr13, hr14, hr15⟩ hP hS (lv_sub hl [0, 1, 2, 3] rfl)
    · obtain ⟨q114, k112, k113⟩ := h100
      exact absurd (by omega : False) id
    · obtain ⟨q117, k115, k116⟩ := h101
      exact absurd (by omega : False) id
    · obtain ⟨q120, k118, k119⟩ := h102
      exact absurd (by omega : False) id
    · obtain ⟨q123, k121, k122⟩ := h103
      exact absurd (by omega : False) id
    · obtain ⟨q125, k124⟩ := h104
      exact absurd (by omega : False) id
  · obtain ⟨q128, k126, k127⟩ := h55
    refine lv_pop hx hb dL_law_1343 rfl ?_
    refine lv_aload_n hx hb dL_law_1344 rfl (lv_at hl 1 rfl) ?_
    refine lv_aload_n hx hb dL_law_1345 rfl (lv_at hl 3 rfl) ?_
    refine lv_iload_n hx hb dL_law_1346 rfl (lv_at hl 0 rfl) ?_
    refine lv_iconst (v := 1) hx hb dL_law_1347 (by decide) ?_
    refine lv_iadd hx hb dL_law_1348 ?_
    refine jtopr ex49.symm ?_
    refine va_sld hx hb hX hbl hbA hS (jin tx49 (by omega) (by omega)) dL_law_1349 ?_
    refine jcallV (As := [.int (xs x49.toNatClampNeg)]) (rest := []) ⟨hx, hb, hml, hown, hts⟩ hK hP hA hS hZ (c_X12_count l D cI cL ad zz hJ σ τ (xs x49.toNatClampNeg) ((xs x49.toNatClampNeg).toInt) rfl hI101 hI102 hI105 hI106 hI107) cw_RL_169 (jc_55 cI cL ad σ τ) rfl ⟨Nat.le_of_ble_eq_true rfl, Nat.le_of_ble_eq_true rfl⟩ rfl rfl rfl hl.1 rfl (Nat.le_of_ble_eq_true rfl) dL_law_1350 ⟨Nat.le_of_ble_eq_true rfl, Nat.le_of_ble_eq_true rfl⟩ (fun r130 σ129 τ129 H locs h129 hP hS => ?_)
    obtain ⟨⟨rfl, rfl⟩, h129⟩ := h129
    rcases h129 with h131 | h132 | h133 | h134 | h135 | h136 | h137
    · obtain ⟨q140, k138, k139⟩ := h131
      exact absurd (by omega : False) id
    · obtain ⟨q143, k141, k142⟩ := h132
      exact absurd (by omega : False) id
    · obtain ⟨q146, k144, k145⟩ := h133
      refine lv_pop hx hb dL_law_1353 rfl ?_
      refine lv_goto (tgt := 1357) hx hb dL_law_1354 (by decide) ?_
      obtain ⟨x147, ex147⟩ : ∃ y : Int32, y = x0 + 6 := ⟨_, rfl⟩
      have tx147 : x147.toInt = x0.toInt + 6 := (jadd ex147 rfl jz_6 (by omega) (by omega)).trans (by omega)
      refine lv_iinc (v := x147) (lv' := [(3, .int x147), (2, .ref (ad 55)), (1, .ref (ad 0)), (0, .ref b)]) hx hb dL_law_1357 hl (k := 0) rfl (by rw [ex147]; rfl) (by decide) rfl (fun ls hl => ?_)
      refine lv_goto (tgt := 18) hx hb dL_law_1360 (by decide) ?_
      exact ih x147 σ τ _ _ ls (by have h9 := tx147; omega) ⟨hI2, hI9, hI12, hI16, hI18, hI22, hI31, hI38, hI43, hI47, hI50, hI0, hI26, hI101, hI102, hI103, hI104, hI105, hI106, hI107, hI109, hI110, hI111, hI119, hs_jKept, hs_jBook, hs_jNd12, hs_jN67, hs_jBl, hs_jKb, hs_jTR, hs_jKh, hs_jKg, hs_jNz, hs_jqSt, (by omega), (by omega), (by omega), (by omega), (by omega), (by omega), (by omega), (by omega), (by omega), (by omega), (by omega), (by omega), (by omega), (by omega), (by have h9 := tx147; omega), (by have h9 := tx147; omega), hr0, hr1, hr2, hr3, hr4, hr5, hr6, hr7, hr8, hr9, hr10, hr11, hr12, hr13, hr14, hr15⟩ hP hS (lv_sub hl [0, 1, 2, 3] rfl)
    · obtain ⟨q150, k148, k149⟩ := h134
      exact absurd (by omega : False) id
    · obtain ⟨q153, k151, k152⟩ := h135
      exact absurd (by omega : False) id
    · obtain ⟨q156, k154, k155⟩ := h136
      exact absurd (by omega : False) id
    · obtain ⟨q158, k157⟩ := h137
      exact absurd (by omega : False) id
  · obtain ⟨q161, k159, k160⟩ := h56
    refine lv_pop hx hb dL_law_1343 rfl ?_
    refine lv_aload_n hx hb dL_law_1344 rfl (lv_at hl 1 rfl) ?_
    refine lv_aload_n hx hb dL_law_1345 rfl (lv_at hl 3 rfl) ?_
    refine lv_iload_n hx hb dL_law_1346 rfl (lv_at hl 0 rfl) ?_
    refine lv_iconst (v := 1) hx hb dL_law_1347 (by decide) ?_
    refine lv_iadd hx hb dL_law_1348 ?_
    refine jtopr ex49.symm ?_
    refine va_sld hx hb hX hbl hbA hS (jin tx49 (by omega) (by omega)) dL_law_1349 ?_
    refine jcallV (As := [.int (xs x49.toNatClampNeg)]) (rest := []) ⟨hx, hb, hml, hown, hts⟩ hK hP hA hS hZ (c_X12_count l D cI cL ad zz hJ σ τ (xs x49.toNatClampNeg) ((xs x49.toNatClampNeg).toInt) rfl hI101 hI102 hI105 hI106 hI107) cw_RL_169 (jc_55 cI cL ad σ τ) rfl ⟨Nat.le_of_ble_eq_true rfl, Nat.le_of_ble_eq_true rfl⟩ rfl rfl rfl hl.1 rfl (Nat.le_of_ble_eq_true rfl) dL_law_1350 ⟨Nat.le_of_ble_eq_true rfl, Nat.le_of_ble_eq_true rfl⟩ (fun r163 σ162 τ162 H locs h162 hP hS => ?_)
    obtain ⟨⟨rfl, rfl⟩, h162⟩ := h162
    rcases h162 with h164 | h165 | h166 | h167 | h168 | h169 | h170
    · obtain ⟨q173, k171, k172⟩ := h164
      exact absurd (by omega : False) id
    · obtain ⟨q176, k174, k175⟩ := h165
      exact absurd (by omega : False) id
    · obtain ⟨q179, k177, k178⟩ := h166
      exact absurd (by omega : False) id
    · obtain ⟨q182, k180, k181⟩ := h167
      refine lv_pop hx hb dL_law_1353 rfl ?_
      refine lv_goto (tgt := 1357) hx hb dL_law_1354 (by decide) ?_
      obtain ⟨x183, ex183⟩ : ∃ y : Int32, y = x0 + 6 := ⟨_, rfl⟩
      have tx183 : x183.toInt = x0.toInt + 6 := (jadd ex183 rfl jz_6 (by omega) (by omega)).trans (by omega)
      refine lv_iinc (v := x183) (lv' := [(3, .int x183), (2, .ref (ad 55)), (1, .ref (ad 0)), (0, .ref b)]) hx hb dL_law_1357 hl (k := 0) rfl (by rw [ex183]; rfl) (by decide) rfl (fun ls hl => ?_)
      refine lv_goto (tgt := 18) hx hb dL_law_1360 (by decide) ?_
      exact ih x183 σ τ _ _ ls (by have h9 := tx183; omega) ⟨hI2, hI9, hI12, hI16, hI18, hI22, hI31, hI38, hI43, hI47, hI50, hI0, hI26, hI101, hI102, hI103, hI104, hI105, hI106, hI107, hI109, hI110, hI111, hI119, hs_jKept, hs_jBook, hs_jNd12, hs_jN67, hs_jBl, hs_jKb, hs_jTR, hs_jKh, hs_jKg, hs_jNz, hs_jqSt, (by omega), (by omega), (by omega), (by omega), (by omega), (by omega), (by omega), (by omega), (by omega), (by omega), (by omega), (by omega), (by omega), (by omega), (by have h9 := tx183; omega), (by have h9 := tx183; omega), hr0, hr1, hr2, hr3, hr4, hr5, hr6, hr7, hr8, hr9, hr10, hr11, hr12, hr13, hr14, hr15⟩ hP hS (lv_sub hl [0, 1, 2, 3] rfl)
    · obtain ⟨q186, k184, k185⟩ := h168
      exact absurd (by omega : False) id
    · obtain ⟨q189, k187, k188⟩ := h169
      exact absurd (by omega : False) id
    · obtain ⟨q191, k190⟩ := h170
      exact absurd (by omega : False) id
  · obtain ⟨q194, k192, k193⟩ := h57
    refine lv_pop hx hb dL_law_1343 rfl ?_
    refine lv_aload_n hx hb dL_law_1344 rfl (lv_at hl 1 rfl) ?_
    refine lv_aload_n hx hb dL_law_1345 rfl (lv_at hl 3 rfl) ?_
    refine lv_iload_n hx hb dL_law_1346 rfl (lv_at hl 0 rfl) ?_
    refine lv_iconst (v := 1) hx hb dL_law_1347 (by decide) ?_
    refine lv_iadd hx hb dL_law_1348 ?_
    refine jtopr ex49.symm ?_
    refine va_sld hx hb hX hbl hbA hS (jin tx49 (by omega) (by omega)) dL_law_1349 ?_
    refine jcallV (As := [.int (xs x49.toNatClampNeg)]) (rest := []) ⟨hx, hb, hml, hown, hts⟩ hK hP hA hS hZ (c_X12_count l D cI cL ad zz hJ σ τ (xs x49.toNatClampNeg) ((xs x49.toNatClampNeg).toInt) rfl hI101 hI102 hI105 hI106 hI107) cw_RL_169 (jc_55 cI cL ad σ τ) rfl ⟨Nat.le_of_ble_eq_true rfl, Nat.le_of_ble_eq_true rfl⟩ rfl rfl rfl hl.1 rfl (Nat.le_of_ble_eq_true rfl) dL_law_1350 ⟨Nat.le_of_ble_eq_true rfl, Nat.le_of_ble_eq_true rfl⟩ (fun r196 σ195 τ195 H locs h195 hP hS => ?_)
    obtain ⟨⟨rfl, rfl⟩, h195⟩ := h195
    rcases h195 with h197 | h198 | h199 | h200 | h201 | h202 | h203
    · obtain ⟨q206, k204, k205⟩ := h197
      exact absurd (by omega : False) id
    · obtain ⟨q209, k207, k208⟩ := h198
      exact absurd (by omega : False) id
    · obtain ⟨q212, k210, k211⟩ := h199
      exact absurd (by omega : False) id
    · obtain ⟨q215, k213, k214⟩ := h200
      exact absurd (by omega : False) id
    · obtain ⟨q218, k216, k217⟩ := h201
      refine lv_pop hx hb dL_law_1353 rfl ?_
      refine lv_goto (tgt := 1357) hx hb dL_law_1354 (by decide) ?_
      obtain ⟨x219, ex219⟩ : ∃ y : Int32, y = x0 + 6 := ⟨_, rfl⟩
      have tx219 : x219.toInt = x0.toInt + 6 := (jadd ex219 rfl jz_6 (by omega) (by omega)).trans (by omega)
      refine lv_iinc (v := x219) (lv' := [(3, .int x219), (2, .ref (ad 55)), (1, .ref (ad 0)), (0, .ref b)]) hx hb dL_law_1357 hl (k := 0) rfl (by rw [ex219]; rfl) (by decide) rfl (fun ls hl => ?_)
      refine lv_goto (tgt := 18) hx hb dL_law_1360 (by decide) ?_
      exact ih x219 σ τ _ _ ls (by have h9 := tx219; omega) ⟨hI2, hI9, hI12, hI16, hI18, hI22, hI31, hI38, hI43, hI47, hI50, hI0, hI26, hI101, hI102, hI103, hI104, hI105, hI106, hI107, hI109, hI110, hI111, hI119, hs_jKept, hs_jBook, hs_jNd12, hs_jN67, hs_jBl, hs_jKb, hs_jTR, hs_jKh, hs_jKg, hs_jNz, hs_jqSt, (by omega), (by omega), (by omega), (by omega), (by omega), (by omega), (by omega), (by omega), (by omega), (by omega), (by omega), (by omega), (by omega), (by omega), (by have h9 := tx219; omega), (by have h9 := tx219; omega), hr0, hr1, hr2, hr3, hr4, hr5, hr6, hr7, hr8, hr9, hr10, hr11, hr12, hr13, hr14, hr15⟩ hP hS (lv_sub hl [0, 1, 2, 3] rfl)
    · obtain ⟨q222, k220, k221⟩ := h202
      exact absurd (by omega : False) id
    · obtain ⟨q224, k223⟩ := h203
      exact absurd (by omega : False) id
  · obtain ⟨q227, k225, k226⟩ := h58
    refine lv_pop hx hb dL_law_1343 rfl ?_
    refine lv_aload_n hx hb dL_law_1344 rfl (lv_at hl 1 rfl) ?_
    refine lv_aload_n hx hb dL_law_1345 rfl (lv_at hl 3 rfl) ?_
    refine lv_iload_n hx hb dL_law_1346 rfl (lv_at hl 0 rfl) ?_
    refine lv_iconst (v := 1) hx hb dL_law_1347 (by decide) ?_
    refine lv_iadd hx hb dL_law_1348 ?_
    refine jtopr ex49.symm ?_
    refine va_sld hx hb hX hbl hbA hS (jin tx49 (by omega) (by omega)) dL_law_1349 ?_
    refine jcallV (As := [.int (xs x49.toNatClampNeg)]) (rest := []) ⟨hx, hb, hml, hown, hts⟩ hK hP hA hS hZ (c_X12_count l D cI cL ad zz hJ σ τ (xs x49.toNatClampNeg) ((xs x49.toNatClampNeg).toInt) rfl hI101 hI102 hI105 hI106 hI107) cw_RL_169 (jc_55 cI cL ad σ τ) rfl ⟨Nat.le_of_ble_eq_true rfl, Nat.le_of_ble_eq_true rfl⟩ rfl rfl rfl hl.1 rfl (Nat.le_of_ble_eq_true rfl) dL_law_1350 ⟨Nat.le_of_ble_eq_true rfl, Nat.le_of_ble_eq_true rfl⟩ (fun r229 σ228 τ228 H locs h228 hP hS => ?_)
    obtain ⟨⟨rfl, rfl⟩, h228⟩ := h228
    rcases h228 with h230 | h231 | h232 | h233 | h234 | h235 | h236
    · obtain ⟨q239, k237, k238⟩ := h230
      exact absurd (by omega : False) id
    · obtain ⟨q242, k240, k241⟩ := h231
      exact absurd (by omega : False) id
    · obtain ⟨q245, k243, k244⟩ := h232
      exact absurd (by omega : False) id
    · obtain ⟨q248, k246, k247⟩ := h233
      exact absurd (by omega : False) id
    · obtain ⟨q251, k249, k250⟩ := h234
      exact absurd (by omega : False) id
    · obtain ⟨q254, k252, k253⟩ := h235
      refine lv_pop hx hb dL_law_1353 rfl ?_
      refine lv_goto (tgt := 1357) hx hb dL_law_1354 (by decide) ?_
      obtain ⟨x255, ex255⟩ : ∃ y : Int32, y = x0 + 6 := ⟨_, rfl⟩
      have tx255 : x255.toInt = x0.toInt + 6 := (jadd ex255 rfl jz_6 (by omega) (by omega)).trans (by omega)
      refine lv_iinc (v := x255) (lv' := [(3, .int x255), (2, .ref (ad 55)), (1, .ref (ad 0)), (0, .ref b)]) hx hb dL_law_1357 hl (k := 0) rfl (by rw [ex255]; rfl) (by decide) rfl (fun ls hl => ?_)
      refine lv_goto (tgt := 18) hx hb dL_law_1360 (by decide) ?_
      exact ih x255 σ τ _ _ ls (by have h9 := tx255; omega) ⟨hI2, hI9, hI12, hI16, hI18, hI22, hI31, hI38, hI43, hI47, hI50, hI0, hI26, hI101, hI102, hI103, hI104, hI105, hI106, hI107, hI109, hI110, hI111, hI119, hs_jKept, hs_jBook, hs_jNd12, hs_jN67, hs_jBl, hs_jKb, hs_jTR, hs_jKh, hs_jKg, hs_jNz, hs_jqSt, (by omega), (by omega), (by omega), (by omega), (by omega), (by omega), (by omega), (by omega), (by omega), (by omega), (by omega), (by omega), (by omega), (by omega), (by have h9 := tx255; omega), (by have h9 := tx255; omega), hr0, hr1, hr2, hr3, hr4, hr5, hr6, hr7, hr8, hr9, hr10, hr11, hr12, hr13, hr14, hr15⟩ hP hS (lv_sub hl [0, 1, 2, 3] rfl)
    · obtain ⟨q257, k256⟩ := h236
      exact absurd (by omega : False) id
  · obtain ⟨q259, k258⟩ := h59
    have q259 := q259.symm
    subst q259
    refine lv_pop hx hb dL_law_1343 rfl ?_
    refine lv_aload_n hx hb dL_law_1344 rfl (lv_at hl 1 rfl) ?_
    refine lv_aload_n hx hb dL_law_1345 rfl (lv_at hl 3 rfl) ?_
    refine lv_iload_n hx hb dL_law_1346 rfl (lv_at hl 0 rfl) ?_
    refine lv_iconst (v := 1) hx hb dL_law_1347 (by decide) ?_
    refine lv_iadd hx hb dL_law_1348 ?_
    refine jtopr ex49.symm ?_
    refine va_sld hx hb hX hbl hbA hS (jin tx49 (by omega) (by omega)) dL_law_1349 ?_
    refine jcallV (As := [.int (xs x49.toNatClampNeg)]) (rest := []) ⟨hx, hb, hml, hown, hts⟩ hK hP hA hS hZ (c_X12_count l D cI cL ad zz hJ σ τ (xs x49.toNatClampNeg) ((xs x49.toNatClampNeg).toInt) rfl hI101 hI102 hI105 hI106 hI107) cw_RL_169 (jc_55 cI cL ad σ τ) rfl ⟨Nat.le_of_ble_eq_true rfl, Nat.le_of_ble_eq_true rfl⟩ rfl rfl rfl hl.1 rfl (Nat.le_of_ble_eq_true rfl) dL_law_1350 ⟨Nat.le_of_ble_eq_true rfl, Nat.le_of_ble_eq_true rfl⟩ (fun r261 σ260 τ260 H locs h260 hP hS => ?_)
    obtain ⟨⟨rfl, rfl⟩, h260⟩ := h260
    rcases h260 with h262 | h263 | h264 | h265 | h266 | h267 | h268
    · obtain ⟨q271, k269, k270⟩ := h262
      exact absurd (by omega : False) id
    · obtain ⟨q274, k272, k273⟩ := h263
      exact absurd (by omega : False) id
    · obtain ⟨q277, k275, k276⟩ := h264
      exact absurd (by omega : False) id
    · obtain ⟨q280, k278, k279⟩ := h265
      exact absurd (by omega : False) id
    · obtain ⟨q283, k281, k282⟩ := h266
      exact absurd (by omega : False) id
    · obtain ⟨q286, k284, k285⟩ := h267
      exact absurd (by omega : False) id
    · obtain ⟨q288, k287⟩ := h268
      have q288 := q288.symm
      subst q288
      refine lv_pop hx hb dL_law_1353 rfl ?_
      refine lv_goto (tgt := 1357) hx hb dL_law_1354 (by decide) ?_
      obtain ⟨x289, ex289⟩ : ∃ y : Int32, y = x0 + 6 := ⟨_, rfl⟩
      have tx289 : x289.toInt = x0.toInt + 6 := (jadd ex289 rfl jz_6 (by omega) (by omega)).trans (by omega)
      refine lv_iinc (v := x289) (lv' := [(3, .int x289), (2, .ref (ad 55)), (1, .ref (ad 0)), (0, .ref b)]) hx hb dL_law_1357 hl (k := 0) rfl (by rw [ex289]; rfl) (by decide) rfl (fun ls hl => ?_)
      refine lv_goto (tgt := 18) hx hb dL_law_1360 (by decide) ?_
      exact ih x289 σ τ _ _ ls (by have h9 := tx289; omega) ⟨hI2, hI9, hI12, hI16, hI18, hI22, hI31, hI38, hI43, hI47, hI50, hI0, hI26, hI101, hI102, hI103, hI104, hI105, hI106, hI107, hI109, hI110, hI111, hI119, hs_jKept, hs_jBook, hs_jNd12, hs_jN67, hs_jBl, hs_jKb, hs_jTR, hs_jKh, hs_jKg, hs_jNz, hs_jqSt, (by omega), (by omega), (by omega), (by omega), (by omega), (by omega), (by omega), (by omega), (by omega), (by omega), (by omega), (by omega), (by omega), (by omega), (by have h9 := tx289; omega), (by have h9 := tx289; omega), hr0, hr1, hr2, hr3, hr4, hr5, hr6, hr7, hr8, hr9, hr10, hr11, hr12, hr13, hr14, hr15⟩ hP hS (lv_sub hl [0, 1, 2, 3] rfl)
