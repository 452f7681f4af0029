set_option maxHeartbeats 4000000 in
set_option maxRecDepth 100000 in
theorem law_case_19 {p : Program} {e : Env} {s : State} {m : MethodId} {below : List Frame} {meth : Method} {c : Code} (l : Launch) {b L : Nat} {xs : Nat → Int32} {D : va_G} {cI cL : ClassId} {ad zz : Nat → Nat} (C0 : lw_At p s m meth c b L xs) (hJ : jD ad) (hA : ∀ q, jA ad q → s.heap.size ≤ q) (hK : jK D cI cL s) (hZ : jZ zz (fun q : Nat => s.heap.size ≤ q) s s.heap) {x0 : Int32} (hx0 : 0 ≤ x0.toInt) (hxL : x0.toInt + 6 ≤ (L : Int)) (hL : L ≤ 384) {σ : Nat → Nat → Int32} {τ : Nat → Nat → Int64} {H : Heap} {locs : List Loc} (hS : va_S (fun q : Nat => s.heap.size ≤ q) s.heap H locs) {ls : Array Slot} (hAll : jAll x0.toInt σ τ) (hP : jH D cI cL ad σ τ H) (hl : lv_has ls 4 [(3, .int x0), (2, .ref (ad 55)), (1, .ref (ad 0)), (0, .ref b)]) (ih : ∀ (x1 : Int32) (σ : Nat → Nat → Int32) (τ : Nat → Nat → Int64) (H : Heap) (locs : List Loc) (ls : Array Slot), x1.toInt = x0.toInt + 6 → jAll x1.toInt σ τ → jH D cI cL ad σ τ H → va_S (fun q : Nat => s.heap.size ≤ q) s.heap H locs → lv_has ls 4 [(3, .int x1), (2, .ref (ad 55)), (1, .ref (ad 0)), (0, .ref b)] → W p l e room_1 s m #[Value.ref b] below meth c H locs 90 348600 (lw_Z below #[Value.ref b] s) (F0 m 18 ls [])) : W p l e room_1 s m #[Value.ref b] below meth c H locs 90 348600 (lw_Z below #[Value.ref b] s) (F0 m 773 ls []) := by
  obtain ⟨hx, hb, hr, hml, hown, hts0, hX, hbl, hlocks, hgv⟩ := C0
  have hts : ∀ w ∈ wsL_law, w.before #[Value.ref b] s = true := fun w h => hts0 w (wsL_law_in w h)
  have hbA : ¬ (fun q : Nat => s.heap.size ≤ q) b := Nat.not_le.mpr hbl
  have hown : s.vm.findClass RL = some m.cls := hown
  obtain ⟨hI2, hI9, hI12, hI16, hI18, hI22, hI31, hI38, hI43, hI47, hI50, hI0, hI26, hI101, hI102, hI103, hI104, hI105, hI106, hI107, hI109, hI110, hI111, hI119, hs_jKept, hs_jBook, hs_jNd12, hs_jN67, hs_jBl, hs_jKb, hs_jTR, hs_jKh, hs_jKg, hs_jNz, hs_jqSt, ht0, ht1, ht2, ht3, ht4, ht5, ht6, ht7, ht8, ht9, ht10, ht11, ht12, ht13, ht14, ht15, hr0, hr1, hr2, hr3, hr4, hr5, hr6, hr7, hr8, hr9, hr10, hr11, hr12, hr13, hr14⟩ := hAll
  have hL9 : (L : Int) ≤ 384 := by omega
  obtain ⟨i1, i2, i3, i4, i5, w6, w7⟩ : (0 ≤ (σ 2 0).toInt ∧ (σ 2 0).toInt ≤ 4) ∧ (0 ≤ (σ 2 1).toInt ∧ (σ 2 1).toInt ≤ 3) ∧ (0 ≤ (σ 2 2).toInt) ∧ (0 ≤ (σ 2 3).toInt) ∧ ((σ 2 2).toInt + (σ 2 3).toInt ≤ 40) ∧ (∀ k : Nat, k < 40 → 0 ≤ (σ 6 k).toInt ∧ (σ 6 k).toInt ≤ 67) ∧ (∀ k : Nat, k < 4 → 0 ≤ (σ 5 k).toInt ∧ (σ 5 k).toInt ≤ 20) := id hI2
  obtain ⟨i8, w9, w10⟩ : (0 ≤ (σ 9 0).toInt ∧ (σ 9 0).toInt ≤ 80) ∧ (∀ k : Nat, k < 80 → 0 ≤ (σ 10 k).toInt ∧ (σ 10 k).toInt ≤ 255) ∧ (∀ k : Nat, k < 8 → 0 ≤ (σ 11 k).toInt ∧ (σ 11 k).toInt ≤ 3) := id hI9
  obtain ⟨i11, i12, i13, w14⟩ : (1 ≤ (σ 16 0).toInt ∧ (σ 16 0).toInt ≤ 8) ∧ (1 ≤ (σ 16 1).toInt ∧ (σ 16 1).toInt ≤ 12) ∧ (0 ≤ (σ 16 2).toInt ∧ (σ 16 2).toInt ≤ 999) ∧ (∀ k : Nat, k < 8 → 0 ≤ (σ 17 k).toInt ∧ (σ 17 k).toInt ≤ 3) := id hI16
  obtain ⟨i15, i16, w17⟩ : (0 ≤ (σ 38 0).toInt ∧ (σ 38 0).toInt ≤ 20) ∧ (0 ≤ (σ 38 1).toInt ∧ (σ 38 1).toInt ≤ 1000) ∧ (∀ k : Nat, k < 20 → 0 ≤ (σ 39 k).toInt ∧ (σ 39 k).toInt ≤ 6) := id hI38
  obtain ⟨i18, w19, w20⟩ : (0 ≤ (σ 47 0).toInt ∧ (σ 47 0).toInt ≤ 12) ∧ (∀ k : Nat, k < 12 → 0 ≤ (σ 48 k).toInt ∧ (σ 48 k).toInt ≤ 3) ∧ (∀ k : Nat, k < 12 → 0 ≤ (σ 49 k).toInt ∧ (σ 49 k).toInt ≤ 1) := id hI47
  have w21 : ∀ k : Nat, k < 6 → 0 ≤ (σ 52 k).toInt ∧ (σ 52 k).toInt ≤ 60 := hI50
  have i22 : 1 ≤ (σ 26 6).toInt ∧ (σ 26 6).toInt ≤ 8000 := hI26
  obtain ⟨i23, i24, i25, w26, w27, w28, w29⟩ : (0 ≤ (σ 55 5).toInt) ∧ ((σ 55 5).toInt ≤ (σ 55 4).toInt) ∧ ((σ 55 4).toInt ≤ 40) ∧ (∀ k : Nat, k < 68 → (-200) ≤ (σ 56 k).toInt ∧ (σ 56 k).toInt ≤ 500) ∧ (∀ k : Nat, k < 40 → 0 ≤ (σ 57 k).toInt ∧ (σ 57 k).toInt ≤ 67) ∧ (∀ k : Nat, k < 40 → (-200) ≤ (σ 58 k).toInt ∧ (σ 58 k).toInt ≤ 500) ∧ (∀ k : Nat, k < 40 → (-200) ≤ (σ 59 k).toInt ∧ (σ 59 k).toInt ≤ 500) := id hI101
  obtain ⟨i30, w31, w32⟩ : (0 ≤ (σ 55 6).toInt ∧ (σ 55 6).toInt ≤ 4) ∧ (∀ k : Nat, k < 4 → 0 ≤ (σ 60 k).toInt ∧ (σ 60 k).toInt ≤ 50) ∧ (∀ k : Nat, k < 4 → 0 ≤ (σ 61 k).toInt ∧ (σ 61 k).toInt ≤ 20) := id hI102
  have i33 : 0 ≤ (σ 55 9).toInt ∧ (σ 55 9).toInt ≤ 3 := hI103
  obtain ⟨i34, i35, i36, w37, w38⟩ : (1 ≤ (σ 55 10).toInt ∧ (σ 55 10).toInt ≤ 8) ∧ (1 ≤ (σ 55 12).toInt ∧ (σ 55 12).toInt ≤ 12) ∧ (0 ≤ (σ 55 13).toInt ∧ (σ 55 13).toInt ≤ 999) ∧ (∀ k : Nat, k < 8 → 0 ≤ (σ 62 k).toInt ∧ (σ 62 k).toInt ≤ 3) ∧ (∀ k : Nat, k < 8 → 0 ≤ (σ 67 k).toInt ∧ (σ 67 k).toInt ≤ 3) := id hI104
  obtain ⟨i39, w40⟩ : (0 ≤ (σ 55 15).toInt ∧ (σ 55 15).toInt ≤ 80) ∧ (∀ k : Nat, k < 2 → (-1) ≤ (σ 65 k).toInt ∧ (σ 65 k).toInt ≤ 80) := id hI105
  obtain ⟨i41, w42, w43, w44⟩ : (0 ≤ (σ 55 32).toInt ∧ (σ 55 32).toInt ≤ 20) ∧ (∀ k : Nat, k < 20 → 0 ≤ (σ 70 k).toInt ∧ (σ 70 k).toInt ≤ 6) ∧ (∀ k : Nat, k < 20 → 0 ≤ (σ 71 k).toInt ∧ (σ 71 k).toInt ≤ 8) ∧ (∀ k : Nat, k < 160 → 0 ≤ (σ 72 k).toInt ∧ (σ 72 k).toInt ≤ 3) := id hI106
  obtain ⟨i45, i46, w47⟩ : (0 ≤ (σ 55 47).toInt ∧ (σ 55 47).toInt ≤ 12) ∧ ((σ 55 47).toInt ≤ (σ 55 12).toInt) ∧ (∀ k : Nat, k < 12 → 0 ≤ (σ 80 k).toInt ∧ (σ 80 k).toInt ≤ 3) := id hI107
  have hs_jOk3 : jOk3 σ := hr0.ok hr1.1
  refine lv_aload_n hx hb dL_law_773 rfl (lv_at hl 2 rfl) ?_
  refine lv_aload_n hx hb dL_law_774 rfl (lv_at hl 3 rfl) ?_
  refine lv_iload_n hx hb dL_law_775 rfl (lv_at hl 0 rfl) ?_
  refine lv_iconst (v := 1) hx hb dL_law_776 (by decide) ?_
  have g48 := jrg (rfl : x0.toInt = x0.toInt)
  refine lv_iadd hx hb dL_law_777 ?_
  refine lv_topi (fun x49 ex49 => ?_)
  exact by
   have tx49 : x49.toInt = x0.toInt + 1 := (jadd ex49 rfl jz_1 (by omega) (by omega)).trans (by omega)
   refine va_sld hx hb hX hbl hbA hS (jin tx49 (by omega) (by omega)) dL_law_778 ?_
   have g50 := jrg (rfl : (xs x49.toNatClampNeg).toInt = (xs x49.toNatClampNeg).toInt)
   refine lv_aload_n hx hb dL_law_779 rfl (lv_at hl 3 rfl) ?_
   refine lv_iload_n hx hb dL_law_780 rfl (lv_at hl 0 rfl) ?_
   refine lv_iconst (v := 2) hx hb dL_law_781 (by decide) ?_
   refine lv_iadd hx hb dL_law_782 ?_
   refine lv_topi (fun x51 ex51 => ?_)
   have tx51 : x51.toInt = x0.toInt + 2 := (jadd ex51 rfl jz_2 (by omega) (by omega)).trans (by omega)
   exact by
    refine va_sld hx hb hX hbl hbA hS (jin tx51 (by omega) (by omega)) dL_law_783 ?_
    have g52 := jrg (rfl : (xs x51.toNatClampNeg).toInt = (xs x51.toNatClampNeg).toInt)
    refine jcallV (As := [.int (xs x49.toNatClampNeg), .int (xs x51.toNatClampNeg)]) (rest := []) ⟨hx, hb, hml, hown, hts⟩ hK hP hA hS hZ (c_X11_book l D cI cL ad zz hJ σ τ (xs x49.toNatClampNeg) ((xs x49.toNatClampNeg).toInt) rfl (xs x51.toNatClampNeg) ((xs x51.toNatClampNeg).toInt) rfl hI2 hI16 hI47) cw_RL_93 (jc_0 cI cL ad σ τ) rfl ⟨Nat.le_of_ble_eq_true rfl, Nat.le_of_ble_eq_true rfl⟩ rfl rfl rfl hl.1 rfl (Nat.le_of_ble_eq_true rfl) dL_law_784 ⟨Nat.le_of_ble_eq_true rfl, Nat.le_of_ble_eq_true rfl⟩ (fun r54 σ53 τ53 H locs h53 hP hS => ?_)
    obtain ⟨rfl, f55, f56, I57, w58, h53⟩ := h53
    obtain ⟨i60, w61, w62⟩ : (0 ≤ (σ53 47 0).toInt ∧ (σ53 47 0).toInt ≤ 12) ∧ (∀ k : Nat, k < 12 → 0 ≤ (σ53 48 k).toInt ∧ (σ53 48 k).toInt ≤ 3) ∧ (∀ k : Nat, k < 12 → 0 ≤ (σ53 49 k).toInt ∧ (σ53 49 k).toInt ≤ 1) := id I57
    refine lv_pop hx hb dL_law_787 rfl ?_
    refine lv_aload_n hx hb dL_law_788 rfl (lv_at hl 1 rfl) ?_
    refine lv_aload_n hx hb dL_law_789 rfl (lv_at hl 3 rfl) ?_
    refine lv_iload_n hx hb dL_law_790 rfl (lv_at hl 0 rfl) ?_
    refine lv_iconst (v := 1) hx hb dL_law_791 (by decide) ?_
    refine lv_iadd hx hb dL_law_792 ?_
    refine jtopr ex49.symm ?_
    exact by
     refine va_sld hx hb hX hbl hbA hS (jin tx49 (by omega) (by omega)) dL_law_793 ?_
     refine lv_aload_n hx hb dL_law_794 rfl (lv_at hl 3 rfl) ?_
     refine lv_iload_n hx hb dL_law_795 rfl (lv_at hl 0 rfl) ?_
     refine lv_iconst (v := 2) hx hb dL_law_796 (by decide) ?_
     refine lv_iadd hx hb dL_law_797 ?_
     refine jtopr ex51.symm ?_
     refine va_sld hx hb hX hbl hbA hS (jin tx51 (by omega) (by omega)) dL_law_798 ?_
     have I63 : jI102 σ53 := jI102_fr (congrFun (f55 55 (by decide)) 6) (f55 60 (by decide)) (f55 61 (by decide)) hI102
     have I64 : jI104 σ53 := jI104_fr (congrFun (f55 55 (by decide)) 10) (congrFun (f55 55 (by decide)) 12) (congrFun (f55 55 (by decide)) 13) (f55 62 (by decide)) (f55 67 (by decide)) hI104
     exact by
      have I65 : jI107 σ53 := jI107_fr (congrFun (f55 55 (by decide)) 12) (congrFun (f55 55 (by decide)) 47) (f55 80 (by decide)) hI107
      have w66 : ∀ k : Nat, k < 4 → 0 ≤ (σ 68 k).toInt ∧ (σ 68 k).toInt ≤ 3 := hI119
      have w67 : ∀ k : Nat, k < 4 → 0 ≤ (σ53 68 k).toInt ∧ (σ53 68 k).toInt ≤ 3 := (jrr_fr (f55 68 (by decide)) w66)
      have p68 : jBook σ53 := jBook.fr (congrFun (f55 55 (by decide)) 47) (congrFun (f55 55 (by decide)) 10) (f55 81 (by decide)) hs_jBook
      have z69 : (σ53 55 47).toInt = (σ 55 47).toInt := (congrArg Int32.toInt (show σ53 55 47 = (σ 55 47) from (congrFun (f55 55 (by decide)) 47)))
      refine jcallV (As := [.int (xs x49.toNatClampNeg), .int (xs x51.toNatClampNeg)]) (rest := []) ⟨hx, hb, hml, hown, hts⟩ hK hP hA hS hZ (c_X12_book l D cI cL ad zz hJ σ53 τ (xs x49.toNatClampNeg) ((xs x49.toNatClampNeg).toInt) rfl (xs x51.toNatClampNeg) ((xs x51.toNatClampNeg).toInt) rfl I63 I64 I65 w67 p68) cw_RL_96 (jc_55 cI cL ad σ53 τ) rfl ⟨Nat.le_of_ble_eq_true rfl, Nat.le_of_ble_eq_true rfl⟩ rfl rfl rfl hl.1 rfl (Nat.le_of_ble_eq_true rfl) dL_law_799 ⟨Nat.le_of_ble_eq_true rfl, Nat.le_of_ble_eq_true rfl⟩ (fun r71 σ70 τ70 H locs h70 hP hS => ?_)
      obtain ⟨rfl, f72, f73, I74, w75, p76, w77, h70⟩ := h70
      obtain ⟨i79, i80, w81⟩ : (0 ≤ (σ70 55 47).toInt ∧ (σ70 55 47).toInt ≤ 12) ∧ ((σ70 55 47).toInt ≤ (σ70 55 12).toInt) ∧ (∀ k : Nat, k < 12 → 0 ≤ (σ70 80 k).toInt ∧ (σ70 80 k).toInt ≤ 3) := id I74
      have z82 : (σ53 55 6).toInt = (σ 55 6).toInt := (congrArg Int32.toInt (show σ53 55 6 = (σ 55 6) from (congrFun (f55 55 (by decide)) 6)))
      have z83 : (σ53 55 10).toInt = (σ 55 10).toInt := (congrArg Int32.toInt (show σ53 55 10 = (σ 55 10) from (congrFun (f55 55 (by decide)) 10)))
      have z84 : (σ53 55 12).toInt = (σ 55 12).toInt := (congrArg Int32.toInt (show σ53 55 12 = (σ 55 12) from (congrFun (f55 55 (by decide)) 12)))
      have z85 : (σ53 55 30).toInt = (σ 55 30).toInt := (congrArg Int32.toInt (show σ53 55 30 = (σ 55 30) from (congrFun (f55 55 (by decide)) 30)))
      have z86 : (σ53 55 31).toInt = (σ 55 31).toInt := (congrArg Int32.toInt (show σ53 55 31 = (σ 55 31) from (congrFun (f55 55 (by decide)) 31)))
      rw [show (σ53 55 6).toInt = (σ 55 6).toInt from by omega, show (σ53 55 47).toInt = (σ 55 47).toInt from by omega, show (σ53 55 10).toInt = (σ 55 10).toInt from by omega, show (σ53 55 12).toInt = (σ 55 12).toInt from by omega, show (σ53 55 30).toInt = (σ 55 30).toInt from by omega, show (σ53 55 31).toInt = (σ 55 31).toInt from by omega, show σ53 56 = σ 56 from (f55 56 (by decide)), show σ53 80 = σ 80 from (f55 80 (by decide)), show σ53 81 = σ 81 from (f55 81 (by decide))] at w77
      rw [show (σ 2 0).toInt = (σ 55 6).toInt from by omega, show (σ 47 0).toInt = (σ 55 47).toInt from by omega, show (σ 16 0).toInt = (σ 55 10).toInt from by omega, show (σ 16 1).toInt = (σ 55 12).toInt from by omega] at w58
      exact by
       have p87 := hr7.bo (by omega) (w58 (hr0.ok hr1.1)) (w77 (by omega) (by omega) hr1.1) Iff.rfl (fun _ => jMy.iff hr7 hr0.t4)
       have n90 := jBo.nt hr14 (w77 (by omega) (by omega) hr1.1) (by omega)
       obtain ⟨k88, k89, p87⟩ := p87
       have z91 : (σ70 55 12).toInt = (σ 55 12).toInt := (congrArg Int32.toInt (show σ70 55 12 = (σ 55 12) from ((f73 12 (by decide)).trans (congrFun (f55 55 (by decide)) 12))))
       rcases h70 with h92 | h93
       · obtain ⟨q96, k94, k95⟩ := h92
         refine lv_pop hx hb dL_law_802 rfl ?_
         refine lv_goto (tgt := 1357) hx hb dL_law_803 (by decide) ?_
         obtain ⟨x97, ex97⟩ : ∃ y : Int32, y = x0 + 6 := ⟨_, rfl⟩
         exact by
          have tx97 : x97.toInt = x0.toInt + 6 := (jadd ex97 rfl jz_6 (by omega) (by omega)).trans (by omega)
          refine lv_iinc (v := x97) (lv' := [(3, .int x97), (2, .ref (ad 55)), (1, .ref (ad 0)), (0, .ref b)]) hx hb dL_law_1357 hl (k := 0) rfl (by rw [ex97]; rfl) (by decide) rfl (fun ls hl => ?_)
          refine lv_goto (tgt := 18) hx hb dL_law_1360 (by decide) ?_
          have I98 : jI2 σ70 := jI2_fr ((congrFun (f72 2 (by decide)) 0).trans (congrFun (f55 2 (by decide)) 0)) ((congrFun (f72 2 (by decide)) 1).trans (congrFun (f55 2 (by decide)) 1)) ((congrFun (f72 2 (by decide)) 2).trans (congrFun (f55 2 (by decide)) 2)) ((congrFun (f72 2 (by decide)) 3).trans (congrFun (f55 2 (by decide)) 3)) ((f72 6 (by decide)).trans (f55 6 (by decide))) ((f72 5 (by decide)).trans (f55 5 (by decide))) hI2
          have I99 : jI9 σ70 := jI9_fr ((congrFun (f72 9 (by decide)) 0).trans (congrFun (f55 9 (by decide)) 0)) ((f72 10 (by decide)).trans (f55 10 (by decide))) ((f72 11 (by decide)).trans (f55 11 (by decide))) hI9
          have I100 : jI12 σ70 := jI12_fr ((congrFun (f72 12 (by decide)) 0).trans (congrFun (f55 12 (by decide)) 0)) ((f72 13 (by decide)).trans (f55 13 (by decide))) hI12
          have I101 : jI16 σ70 := jI16_fr ((congrFun (f72 16 (by decide)) 0).trans (congrFun (f55 16 (by decide)) 0)) ((congrFun (f72 16 (by decide)) 1).trans (congrFun (f55 16 (by decide)) 1)) ((congrFun (f72 16 (by decide)) 2).trans (congrFun (f55 16 (by decide)) 2)) ((f72 17 (by decide)).trans (f55 17 (by decide))) hI16
          have I102 : jI18 σ70 := jI18_fr ((congrFun (f72 18 (by decide)) 0).trans (congrFun (f55 18 (by decide)) 0)) ((f72 19 (by decide)).trans (f55 19 (by decide))) hI18
          have I103 : jI22 σ70 := jI22_fr ((congrFun (f72 22 (by decide)) 0).trans (congrFun (f55 22 (by decide)) 0)) ((f72 23 (by decide)).trans (f55 23 (by decide))) hI22
          exact by
           have I104 : jI31 σ70 := jI31_fr ((congrFun (f72 31 (by decide)) 8).trans (congrFun (f55 31 (by decide)) 8)) ((congrFun (f72 31 (by decide)) 10).trans (congrFun (f55 31 (by decide)) 10)) ((congrFun (f72 31 (by decide)) 11).trans (congrFun (f55 31 (by decide)) 11)) ((f72 33 (by decide)).trans (f55 33 (by decide))) ((f72 35 (by decide)).trans (f55 35 (by decide))) ((f72 36 (by decide)).trans (f55 36 (by decide))) hI31
           have I105 : jI38 σ70 := jI38_fr ((congrFun (f72 38 (by decide)) 0).trans (congrFun (f55 38 (by decide)) 0)) ((congrFun (f72 38 (by decide)) 1).trans (congrFun (f55 38 (by decide)) 1)) ((f72 39 (by decide)).trans (f55 39 (by decide))) hI38
           have I106 : jI43 σ70 := jI43_fr ((congrFun (f72 43 (by decide)) 8).trans (congrFun (f55 43 (by decide)) 8)) hI43
           have I107 : jI47 σ70 := jI47_fr (congrFun (f72 47 (by decide)) 0) (f72 48 (by decide)) (f72 49 (by decide)) I57
           have I108 : jI50 σ70 := jI50_fr ((f72 52 (by decide)).trans (f55 52 (by decide))) hI50
           have I109 : jI0 σ70 := jI0_fr ((f72 1 (by decide)).trans (f55 1 (by decide))) hI0
           have I110 : jI26 σ70 := jI26_fr ((congrFun (f72 26 (by decide)) 6).trans (congrFun (f55 26 (by decide)) 6)) hI26
           have I111 : jI101 σ70 := jI101_fr ((f73 4 (by decide)).trans (congrFun (f55 55 (by decide)) 4)) ((f73 5 (by decide)).trans (congrFun (f55 55 (by decide)) 5)) ((f72 56 (by decide)).trans (f55 56 (by decide))) ((f72 57 (by decide)).trans (f55 57 (by decide))) ((f72 58 (by decide)).trans (f55 58 (by decide))) ((f72 59 (by decide)).trans (f55 59 (by decide))) hI101
           have I112 : jI102 σ70 := jI102_fr (f73 6 (by decide)) (f72 60 (by decide)) (f72 61 (by decide)) I63
           have I113 : jI103 σ70 := jI103_fr ((f73 9 (by decide)).trans (congrFun (f55 55 (by decide)) 9)) hI103
           have I114 : jI104 σ70 := jI104_fr (f73 10 (by decide)) (f73 12 (by decide)) (f73 13 (by decide)) (f72 62 (by decide)) (f72 67 (by decide)) I64
           have I115 : jI105 σ70 := jI105_fr ((f73 15 (by decide)).trans (congrFun (f55 55 (by decide)) 15)) ((f72 65 (by decide)).trans (f55 65 (by decide))) hI105
           have I116 : jI106 σ70 := jI106_fr ((f73 32 (by decide)).trans (congrFun (f55 55 (by decide)) 32)) ((f72 70 (by decide)).trans (f55 70 (by decide))) ((f72 71 (by decide)).trans (f55 71 (by decide))) ((f72 72 (by decide)).trans (f55 72 (by decide))) hI106
           have I117 : jI109 σ70 := jI109_fr ((f73 50 (by decide)).trans (congrFun (f55 55 (by decide)) 50)) hI109
           have I118 : jI110 σ70 := jI110_fr ((f72 86 (by decide)).trans (f55 86 (by decide))) ((f72 87 (by decide)).trans (f55 87 (by decide))) hI110
           have I119 : jI111 σ70 := jI111_fr ((f72 79 (by decide)).trans (f55 79 (by decide))) hI111
           have I120 : jI119 σ70 := w75
           have p121 : jKept σ70 := jKept.fr ((f72 75 (by decide)).trans (f55 75 (by decide))) ((f72 76 (by decide)).trans (f55 76 (by decide))) ((f72 77 (by decide)).trans (f55 77 (by decide))) hs_jKept
           have p122 : jNd12 σ70 := jNd12.fr ((congrFun (f72 12 (by decide)) 0).trans (congrFun (f55 12 (by decide)) 0)) ((congrFun (f72 12 (by decide)) 1).trans (congrFun (f55 12 (by decide)) 1)) ((f72 13 (by decide)).trans (f55 13 (by decide))) hs_jNd12
           have p123 : jN67 σ70 := jN67.fr ((f72 24 (by decide)).trans (f55 24 (by decide))) hs_jN67
           have p124 : jBl σ70 := jBl.fr ((congrFun (f72 22 (by decide)) 0).trans (congrFun (f55 22 (by decide)) 0)) ((congrFun (f72 22 (by decide)) 1).trans (congrFun (f55 22 (by decide)) 1)) ((f72 23 (by decide)).trans (f55 23 (by decide))) ((congrFun (f72 26 (by decide)) 6).trans (congrFun (f55 26 (by decide)) 6)) ((congrFun (f72 26 (by decide)) 7).trans (congrFun (f55 26 (by decide)) 7)) ((f72 29 (by decide)).trans (f55 29 (by decide))) ((f72 30 (by decide)).trans (f55 30 (by decide))) hs_jBl
           have p125 : jKb σ70 := jKb.fr ((congrFun (f72 31 (by decide)) 8).trans (congrFun (f55 31 (by decide)) 8)) ((congrFun (f72 31 (by decide)) 11).trans (congrFun (f55 31 (by decide)) 11)) ((f72 32 (by decide)).trans (f55 32 (by decide))) hs_jKb
           have p126 : jTR σ70 := jTR.fr ((f72 64 (by decide)).trans (f55 64 (by decide))) ((f72 65 (by decide)).trans (f55 65 (by decide))) hs_jTR
           have p127 : jKh σ70 := jKh.fr ((congrFun (f72 31 (by decide)) 8).trans (congrFun (f55 31 (by decide)) 8)) ((f72 32 (by decide)).trans (f55 32 (by decide))) ((f72 36 (by decide)).trans (f55 36 (by decide))) ((f72 37 (by decide)).trans (f55 37 (by decide))) hs_jKh
           have p128 : jKg σ70 := jKg.fr ((congrFun (f72 31 (by decide)) 8).trans (congrFun (f55 31 (by decide)) 8)) ((congrFun (f72 31 (by decide)) 9).trans (congrFun (f55 31 (by decide)) 9)) ((congrFun (f72 31 (by decide)) 11).trans (congrFun (f55 31 (by decide)) 11)) ((congrFun (f72 31 (by decide)) 12).trans (congrFun (f55 31 (by decide)) 12)) ((f72 32 (by decide)).trans (f55 32 (by decide))) ((f72 33 (by decide)).trans (f55 33 (by decide))) hs_jKg
           have p129 : jNz σ70 := jNz.fr ((f72 34 (by decide)).trans (f55 34 (by decide))) hs_jNz
           have p130 : jqSt σ70 := jqSt.fr ((f72 78 (by decide)).trans (f55 78 (by decide))) ((f73 42 (by decide)).trans (congrFun (f55 55 (by decide)) 42)) hs_jqSt
           have z131 : (σ70 2 0).toInt = (σ 2 0).toInt := (congrArg Int32.toInt (show σ70 2 0 = (σ 2 0) from ((congrFun (f72 2 (by decide)) 0).trans (congrFun (f55 2 (by decide)) 0))))
           have z132 : (σ70 55 6).toInt = (σ 55 6).toInt := (congrArg Int32.toInt (show σ70 55 6 = (σ 55 6) from ((f73 6 (by decide)).trans (congrFun (f55 55 (by decide)) 6))))
           have z133 : (σ70 2 2).toInt = (σ 2 2).toInt := (congrArg Int32.toInt (show σ70 2 2 = (σ 2 2) from ((congrFun (f72 2 (by decide)) 2).trans (congrFun (f55 2 (by decide)) 2))))
           have z134 : (σ70 55 5).toInt = (σ 55 5).toInt := (congrArg Int32.toInt (show σ70 55 5 = (σ 55 5) from ((f73 5 (by decide)).trans (congrFun (f55 55 (by decide)) 5))))
           have z135 : (σ70 2 3).toInt = (σ 2 3).toInt := (congrArg Int32.toInt (show σ70 2 3 = (σ 2 3) from ((congrFun (f72 2 (by decide)) 3).trans (congrFun (f55 2 (by decide)) 3))))
           have z136 : (σ70 55 4).toInt = (σ 55 4).toInt := (congrArg Int32.toInt (show σ70 55 4 = (σ 55 4) from ((f73 4 (by decide)).trans (congrFun (f55 55 (by decide)) 4))))
           have z137 : (σ70 9 0).toInt = (σ 9 0).toInt := (congrArg Int32.toInt (show σ70 9 0 = (σ 9 0) from ((congrFun (f72 9 (by decide)) 0).trans (congrFun (f55 9 (by decide)) 0))))
           have z138 : (σ70 55 15).toInt = (σ 55 15).toInt := (congrArg Int32.toInt (show σ70 55 15 = (σ 55 15) from ((f73 15 (by decide)).trans (congrFun (f55 55 (by decide)) 15))))
           have z139 : (σ70 16 0).toInt = (σ 16 0).toInt := (congrArg Int32.toInt (show σ70 16 0 = (σ 16 0) from ((congrFun (f72 16 (by decide)) 0).trans (congrFun (f55 16 (by decide)) 0))))
           have z140 : (σ70 55 10).toInt = (σ 55 10).toInt := (congrArg Int32.toInt (show σ70 55 10 = (σ 55 10) from ((f73 10 (by decide)).trans (congrFun (f55 55 (by decide)) 10))))
           have z141 : (σ70 16 1).toInt = (σ 16 1).toInt := (congrArg Int32.toInt (show σ70 16 1 = (σ 16 1) from ((congrFun (f72 16 (by decide)) 1).trans (congrFun (f55 16 (by decide)) 1))))
           have z142 : (σ70 16 2).toInt = (σ 16 2).toInt := (congrArg Int32.toInt (show σ70 16 2 = (σ 16 2) from ((congrFun (f72 16 (by decide)) 2).trans (congrFun (f55 16 (by decide)) 2))))
           have z143 : (σ70 55 13).toInt = (σ 55 13).toInt := (congrArg Int32.toInt (show σ70 55 13 = (σ 55 13) from ((f73 13 (by decide)).trans (congrFun (f55 55 (by decide)) 13))))
           have z144 : (σ70 38 0).toInt = (σ 38 0).toInt := (congrArg Int32.toInt (show σ70 38 0 = (σ 38 0) from ((congrFun (f72 38 (by decide)) 0).trans (congrFun (f55 38 (by decide)) 0))))
           have z145 : (σ70 55 32).toInt = (σ 55 32).toInt := (congrArg Int32.toInt (show σ70 55 32 = (σ 55 32) from ((f73 32 (by decide)).trans (congrFun (f55 55 (by decide)) 32))))
           have z146 : (σ70 38 1).toInt = (σ 38 1).toInt := (congrArg Int32.toInt (show σ70 38 1 = (σ 38 1) from ((congrFun (f72 38 (by decide)) 1).trans (congrFun (f55 38 (by decide)) 1))))
           have z147 : (σ70 55 55).toInt = (σ 55 55).toInt := (congrArg Int32.toInt (show σ70 55 55 = (σ 55 55) from ((f73 55 (by decide)).trans (congrFun (f55 55 (by decide)) 55))))
           have z148 : (σ70 47 0).toInt = (σ53 47 0).toInt := (congrArg Int32.toInt (show σ70 47 0 = (σ53 47 0) from (congrFun (f72 47 (by decide)) 0)))
           have z149 : (σ70 55 30).toInt = (σ 55 30).toInt := (congrArg Int32.toInt (show σ70 55 30 = (σ 55 30) from ((f73 30 (by decide)).trans (congrFun (f55 55 (by decide)) 30))))
           have z150 : (σ70 55 31).toInt = (σ 55 31).toInt := (congrArg Int32.toInt (show σ70 55 31 = (σ 55 31) from ((f73 31 (by decide)).trans (congrFun (f55 55 (by decide)) 31))))
           have z151 : (σ70 2 1).toInt = (σ 2 1).toInt := (congrArg Int32.toInt (show σ70 2 1 = (σ 2 1) from ((congrFun (f72 2 (by decide)) 1).trans (congrFun (f55 2 (by decide)) 1))))
           have z152 : (σ70 55 9).toInt = (σ 55 9).toInt := (congrArg Int32.toInt (show σ70 55 9 = (σ 55 9) from ((f73 9 (by decide)).trans (congrFun (f55 55 (by decide)) 9))))
           have z153 : (σ70 55 42).toInt = (σ 55 42).toInt := (congrArg Int32.toInt (show σ70 55 42 = (σ 55 42) from ((f73 42 (by decide)).trans (congrFun (f55 55 (by decide)) 42))))
           have z154 : (σ70 26 6).toInt = (σ 26 6).toInt := (congrArg Int32.toInt (show σ70 26 6 = (σ 26 6) from ((congrFun (f72 26 (by decide)) 6).trans (congrFun (f55 26 (by decide)) 6))))
           have z156 : (σ70 18 0).toInt = (σ 18 0).toInt := (congrArg Int32.toInt (show σ70 18 0 = (σ 18 0) from ((congrFun (f72 18 (by decide)) 0).trans (congrFun (f55 18 (by decide)) 0))))
           have z157 : (σ70 22 0).toInt = (σ 22 0).toInt := (congrArg Int32.toInt (show σ70 22 0 = (σ 22 0) from ((congrFun (f72 22 (by decide)) 0).trans (congrFun (f55 22 (by decide)) 0))))
           exact by exact ih x97 σ70 τ _ _ ls (by have h9 := tx97; omega) ⟨I98, I99, I100, I101, I102, I103, I104, I105, I106, I107, I108, I109, I110, I111, I112, I113, I114, I115, I116, I74, I117, I118, I119, I120, p121, p76, p122, p123, p124, p125, p126, p127, p128, p129, p130, (by rw [z131, z132]; exact ht0), (by rw [z133, z134]; exact ht1), (by rw [z133, z135, z136]; exact ht2), (by rw [z137, z138]; exact ht3), (by rw [z139, z140]; exact ht4), (by rw [z141, z91]; exact ht5), (by rw [z142, z143]; exact ht6), (by rw [z144, z145]; exact ht7), (by rw [z146, z147]; exact ht8), (by omega), (by rw [z149]; exact ht10), (by rw [z150]; exact ht11), (by rw [z151, z152]; exact ht12), (by rw [z153]; exact ht13), (by have h9 := tx97; omega), (by have h9 := tx97; omega), (show jNumP (σ70 3) (σ70 56) (σ70 6) (σ70 57) (σ70 7) (σ70 58) (σ70 8) (σ70 59) (σ70 55 6).toInt (σ70 55 4).toInt by rw [show σ70 3 = σ 3 from ((f72 3 (by decide)).trans (f55 3 (by decide))), show σ70 56 = σ 56 from ((f72 56 (by decide)).trans (f55 56 (by decide))), show σ70 6 = σ 6 from ((f72 6 (by decide)).trans (f55 6 (by decide))), show σ70 57 = σ 57 from ((f72 57 (by decide)).trans (f55 57 (by decide))), show σ70 7 = σ 7 from ((f72 7 (by decide)).trans (f55 7 (by decide))), show σ70 58 = σ 58 from ((f72 58 (by decide)).trans (f55 58 (by decide))), show σ70 8 = σ 8 from ((f72 8 (by decide)).trans (f55 8 (by decide))), show σ70 59 = σ 59 from ((f72 59 (by decide)).trans (f55 59 (by decide))), show (σ70 55 6).toInt = (σ 55 6).toInt from z132, show (σ70 55 4).toInt = (σ 55 4).toInt from z136]; exact hr0), (show jOvP (σ70 56) (σ70 57) (σ70 58) (σ70 59) (σ70 55 4).toInt by rw [show σ70 56 = σ 56 from ((f72 56 (by decide)).trans (f55 56 (by decide))), show σ70 57 = σ 57 from ((f72 57 (by decide)).trans (f55 57 (by decide))), show σ70 58 = σ 58 from ((f72 58 (by decide)).trans (f55 58 (by decide))), show σ70 59 = σ 59 from ((f72 59 (by decide)).trans (f55 59 (by decide))), show (σ70 55 4).toInt = (σ 55 4).toInt from z136]; exact hr1), (show jTp (σ70 10) (σ70 63) (σ70 55 15).toInt by rw [show σ70 10 = σ 10 from ((f72 10 (by decide)).trans (f55 10 (by decide))), show σ70 63 = σ 63 from ((f72 63 (by decide)).trans (f55 63 (by decide)))]; exact hr2.le (by omega)), (show jSo (σ70 17) (σ70 62) (σ70 16 0).toInt by rw [show σ70 17 = σ 17 from ((f72 17 (by decide)).trans (f55 17 (by decide))), show σ70 62 = σ 62 from ((f72 62 (by decide)).trans (f55 62 (by decide))), show (σ70 16 0).toInt = (σ 16 0).toInt from z139]; exact hr3), (show jShP (σ70 51) (σ70 52) (σ70 53) (σ70 86) (σ70 87) (σ70 55 32).toInt by rw [show σ70 51 = σ 51 from ((f72 51 (by decide)).trans (f55 51 (by decide))), show σ70 52 = σ 52 from ((f72 52 (by decide)).trans (f55 52 (by decide))), show σ70 53 = σ 53 from ((f72 53 (by decide)).trans (f55 53 (by decide))), show σ70 86 = σ 86 from ((f72 86 (by decide)).trans (f55 86 (by decide))), show σ70 87 = σ 87 from ((f72 87 (by decide)).trans (f55 87 (by decide)))]; exact (hr4.up (by omega) (by omega))), (show jEl (σ70 51) (σ70 52) (τ 54) (τ 88) by rw [show σ70 51 = σ 51 from ((f72 51 (by decide)).trans (f55 51 (by decide))), show σ70 52 = σ 52 from ((f72 52 (by decide)).trans (f55 52 (by decide)))]; exact hr5), (show jByP (σ70 51) (σ70 52) (τ 54) by rw [show σ70 51 = σ 51 from ((f72 51 (by decide)).trans (f55 51 (by decide))), show σ70 52 = σ 52 from ((f72 52 (by decide)).trans (f55 52 (by decide)))]; exact hr6), (show jBk (σ70 48) (σ70 80) (σ70 49) (σ70 81) (σ70 55 47).toInt by rw [show σ70 48 = σ53 48 from (f72 48 (by decide)), show σ70 49 = σ53 49 from (f72 49 (by decide)), show (σ70 55 47).toInt = (σ53 47 0).toInt from by omega]; exact p87), (show jKd (σ70 39) (σ70 70) (σ70 55 32).toInt by rw [show σ70 39 = σ 39 from ((f72 39 (by decide)).trans (f55 39 (by decide))), show σ70 70 = σ 70 from ((f72 70 (by decide)).trans (f55 70 (by decide))), show (σ70 55 32).toInt = (σ 55 32).toInt from z145]; exact hr8), (show jTt (σ70 42) (σ70 85) (σ70 55 55).toInt by rw [show σ70 42 = σ 42 from ((f72 42 (by decide)).trans (f55 42 (by decide))), show σ70 85 = σ 85 from ((f72 85 (by decide)).trans (f55 85 (by decide))), show (σ70 55 55).toInt = (σ 55 55).toInt from z147]; exact hr9), (fun k hk => by rw [show σ70 4 = σ 4 from ((f72 4 (by decide)).trans (f55 4 (by decide))), show σ70 5 = σ 5 from ((f72 5 (by decide)).trans (f55 5 (by decide))), show σ70 60 = σ 60 from ((f72 60 (by decide)).trans (f55 60 (by decide))), show σ70 61 = σ 61 from ((f72 61 (by decide)).trans (f55 61 (by decide)))]; exact hr10 k (by omega)), (fun nm => by rw [show σ70 19 = σ 19 from ((f72 19 (by decide)).trans (f55 19 (by decide))), show σ70 64 = σ 64 from ((f72 64 (by decide)).trans (f55 64 (by decide))), show σ70 65 = σ 65 from ((f72 65 (by decide)).trans (f55 65 (by decide))), show (σ70 18 0).toInt = (σ 18 0).toInt from z156]; exact hr11 nm), (fun nm => by rw [show σ70 23 = σ 23 from ((f72 23 (by decide)).trans (f55 23 (by decide))), show σ70 64 = σ 64 from ((f72 64 (by decide)).trans (f55 64 (by decide))), show σ70 65 = σ 65 from ((f72 65 (by decide)).trans (f55 65 (by decide))), show (σ70 22 0).toInt = (σ 22 0).toInt from z157]; exact hr12 nm), (show jAlP (σ70 56) (σ70 57) (σ70 58) (σ70 59) (σ70 55 4).toInt by rw [show σ70 56 = σ 56 from ((f72 56 (by decide)).trans (f55 56 (by decide))), show σ70 57 = σ 57 from ((f72 57 (by decide)).trans (f55 57 (by decide))), show σ70 58 = σ 58 from ((f72 58 (by decide)).trans (f55 58 (by decide))), show σ70 59 = σ 59 from ((f72 59 (by decide)).trans (f55 59 (by decide))), show (σ70 55 4).toInt = (σ 55 4).toInt from z136]; exact hr13), n90⟩ hP hS (lv_sub hl [0, 1, 2, 3] rfl)
       · obtain ⟨q160, k158, k159⟩ := h93
         refine lv_pop hx hb dL_law_802 rfl ?_
         refine lv_goto (tgt := 1357) hx hb dL_law_803 (by decide) ?_
         obtain ⟨x161, ex161⟩ : ∃ y : Int32, y = x0 + 6 := ⟨_, rfl⟩
         exact by
          have tx161 : x161.toInt = x0.toInt + 6 := (jadd ex161 rfl jz_6 (by omega) (by omega)).trans (by omega)
          refine lv_iinc (v := x161) (lv' := [(3, .int x161), (2, .ref (ad 55)), (1, .ref (ad 0)), (0, .ref b)]) hx hb dL_law_1357 hl (k := 0) rfl (by rw [ex161]; rfl) (by decide) rfl (fun ls hl => ?_)
          refine lv_goto (tgt := 18) hx hb dL_law_1360 (by decide) ?_
          have I162 : jI2 σ70 := jI2_fr ((congrFun (f72 2 (by decide)) 0).trans (congrFun (f55 2 (by decide)) 0)) ((congrFun (f72 2 (by decide)) 1).trans (congrFun (f55 2 (by decide)) 1)) ((congrFun (f72 2 (by decide)) 2).trans (congrFun (f55 2 (by decide)) 2)) ((congrFun (f72 2 (by decide)) 3).trans (congrFun (f55 2 (by decide)) 3)) ((f72 6 (by decide)).trans (f55 6 (by decide))) ((f72 5 (by decide)).trans (f55 5 (by decide))) hI2
          have I163 : jI9 σ70 := jI9_fr ((congrFun (f72 9 (by decide)) 0).trans (congrFun (f55 9 (by decide)) 0)) ((f72 10 (by decide)).trans (f55 10 (by decide))) ((f72 11 (by decide)).trans (f55 11 (by decide))) hI9
          have I164 : jI12 σ70 := jI12_fr ((congrFun (f72 12 (by decide)) 0).trans (congrFun (f55 12 (by decide)) 0)) ((f72 13 (by decide)).trans (f55 13 (by decide))) hI12
          have I165 : jI16 σ70 := jI16_fr ((congrFun (f72 16 (by decide)) 0).trans (congrFun (f55 16 (by decide)) 0)) ((congrFun (f72 16 (by decide)) 1).trans (congrFun (f55 16 (by decide)) 1)) ((congrFun (f72 16 (by decide)) 2).trans (congrFun (f55 16 (by decide)) 2)) ((f72 17 (by decide)).trans (f55 17 (by decide))) hI16
          have I166 : jI18 σ70 := jI18_fr ((congrFun (f72 18 (by decide)) 0).trans (congrFun (f55 18 (by decide)) 0)) ((f72 19 (by decide)).trans (f55 19 (by decide))) hI18
          have I167 : jI22 σ70 := jI22_fr ((congrFun (f72 22 (by decide)) 0).trans (congrFun (f55 22 (by decide)) 0)) ((f72 23 (by decide)).trans (f55 23 (by decide))) hI22
          exact by
           have I168 : jI31 σ70 := jI31_fr ((congrFun (f72 31 (by decide)) 8).trans (congrFun (f55 31 (by decide)) 8)) ((congrFun (f72 31 (by decide)) 10).trans (congrFun (f55 31 (by decide)) 10)) ((congrFun (f72 31 (by decide)) 11).trans (congrFun (f55 31 (by decide)) 11)) ((f72 33 (by decide)).trans (f55 33 (by decide))) ((f72 35 (by decide)).trans (f55 35 (by decide))) ((f72 36 (by decide)).trans (f55 36 (by decide))) hI31
           have I169 : jI38 σ70 := jI38_fr ((congrFun (f72 38 (by decide)) 0).trans (congrFun (f55 38 (by decide)) 0)) ((congrFun (f72 38 (by decide)) 1).trans (congrFun (f55 38 (by decide)) 1)) ((f72 39 (by decide)).trans (f55 39 (by decide))) hI38
           have I170 : jI43 σ70 := jI43_fr ((congrFun (f72 43 (by decide)) 8).trans (congrFun (f55 43 (by decide)) 8)) hI43
           have I171 : jI47 σ70 := jI47_fr (congrFun (f72 47 (by decide)) 0) (f72 48 (by decide)) (f72 49 (by decide)) I57
           have I172 : jI50 σ70 := jI50_fr ((f72 52 (by decide)).trans (f55 52 (by decide))) hI50
           have I173 : jI0 σ70 := jI0_fr ((f72 1 (by decide)).trans (f55 1 (by decide))) hI0
           have I174 : jI26 σ70 := jI26_fr ((congrFun (f72 26 (by decide)) 6).trans (congrFun (f55 26 (by decide)) 6)) hI26
           have I175 : jI101 σ70 := jI101_fr ((f73 4 (by decide)).trans (congrFun (f55 55 (by decide)) 4)) ((f73 5 (by decide)).trans (congrFun (f55 55 (by decide)) 5)) ((f72 56 (by decide)).trans (f55 56 (by decide))) ((f72 57 (by decide)).trans (f55 57 (by decide))) ((f72 58 (by decide)).trans (f55 58 (by decide))) ((f72 59 (by decide)).trans (f55 59 (by decide))) hI101
           have I176 : jI102 σ70 := jI102_fr (f73 6 (by decide)) (f72 60 (by decide)) (f72 61 (by decide)) I63
           have I177 : jI103 σ70 := jI103_fr ((f73 9 (by decide)).trans (congrFun (f55 55 (by decide)) 9)) hI103
           have I178 : jI104 σ70 := jI104_fr (f73 10 (by decide)) (f73 12 (by decide)) (f73 13 (by decide)) (f72 62 (by decide)) (f72 67 (by decide)) I64
           have I179 : jI105 σ70 := jI105_fr ((f73 15 (by decide)).trans (congrFun (f55 55 (by decide)) 15)) ((f72 65 (by decide)).trans (f55 65 (by decide))) hI105
           have I180 : jI106 σ70 := jI106_fr ((f73 32 (by decide)).trans (congrFun (f55 55 (by decide)) 32)) ((f72 70 (by decide)).trans (f55 70 (by decide))) ((f72 71 (by decide)).trans (f55 71 (by decide))) ((f72 72 (by decide)).trans (f55 72 (by decide))) hI106
           have I181 : jI109 σ70 := jI109_fr ((f73 50 (by decide)).trans (congrFun (f55 55 (by decide)) 50)) hI109
           have I182 : jI110 σ70 := jI110_fr ((f72 86 (by decide)).trans (f55 86 (by decide))) ((f72 87 (by decide)).trans (f55 87 (by decide))) hI110
           have I183 : jI111 σ70 := jI111_fr ((f72 79 (by decide)).trans (f55 79 (by decide))) hI111
           have I184 : jI119 σ70 := w75
           have p185 : jKept σ70 := jKept.fr ((f72 75 (by decide)).trans (f55 75 (by decide))) ((f72 76 (by decide)).trans (f55 76 (by decide))) ((f72 77 (by decide)).trans (f55 77 (by decide))) hs_jKept
           have p186 : jNd12 σ70 := jNd12.fr ((congrFun (f72 12 (by decide)) 0).trans (congrFun (f55 12 (by decide)) 0)) ((congrFun (f72 12 (by decide)) 1).trans (congrFun (f55 12 (by decide)) 1)) ((f72 13 (by decide)).trans (f55 13 (by decide))) hs_jNd12
           have p187 : jN67 σ70 := jN67.fr ((f72 24 (by decide)).trans (f55 24 (by decide))) hs_jN67
           have p188 : jBl σ70 := jBl.fr ((congrFun (f72 22 (by decide)) 0).trans (congrFun (f55 22 (by decide)) 0)) ((congrFun (f72 22 (by decide)) 1).trans (congrFun (f55 22 (by decide)) 1)) ((f72 23 (by decide)).trans (f55 23 (by decide))) ((congrFun (f72 26 (by decide)) 6).trans (congrFun (f55 26 (by decide)) 6)) ((congrFun (f72 26 (by decide)) 7).trans (congrFun (f55 26 (by decide)) 7)) ((f72 29 (by decide)).trans (f55 29 (by decide))) ((f72 30 (by decide)).trans (f55 30 (by decide))) hs_jBl
           have p189 : jKb σ70 := jKb.fr ((congrFun (f72 31 (by decide)) 8).trans (congrFun (f55 31 (by decide)) 8)) ((congrFun (f72 31 (by decide)) 11).trans (congrFun (f55 31 (by decide)) 11)) ((f72 32 (by decide)).trans (f55 32 (by decide))) hs_jKb
           have p190 : jTR σ70 := jTR.fr ((f72 64 (by decide)).trans (f55 64 (by decide))) ((f72 65 (by decide)).trans (f55 65 (by decide))) hs_jTR
           have p191 : jKh σ70 := jKh.fr ((congrFun (f72 31 (by decide)) 8).trans (congrFun (f55 31 (by decide)) 8)) ((f72 32 (by decide)).trans (f55 32 (by decide))) ((f72 36 (by decide)).trans (f55 36 (by decide))) ((f72 37 (by decide)).trans (f55 37 (by decide))) hs_jKh
           have p192 : jKg σ70 := jKg.fr ((congrFun (f72 31 (by decide)) 8).trans (congrFun (f55 31 (by decide)) 8)) ((congrFun (f72 31 (by decide)) 9).trans (congrFun (f55 31 (by decide)) 9)) ((congrFun (f72 31 (by decide)) 11).trans (congrFun (f55 31 (by decide)) 11)) ((congrFun (f72 31 (by decide)) 12).trans (congrFun (f55 31 (by decide)) 12)) ((f72 32 (by decide)).trans (f55 32 (by decide))) ((f72 33 (by decide)).trans (f55 33 (by decide))) hs_jKg
           have p193 : jNz σ70 := jNz.fr ((f72 34 (by decide)).trans (f55 34 (by decide))) hs_jNz
           have p194 : jqSt σ70 := jqSt.fr ((f72 78 (by decide)).trans (f55 78 (by decide))) ((f73 42 (by decide)).trans (congrFun (f55 55 (by decide)) 42)) hs_jqSt
           have z195 : (σ70 2 0).toInt = (σ 2 0).toInt := (congrArg Int32.toInt (show σ70 2 0 = (σ 2 0) from ((congrFun (f72 2 (by decide)) 0).trans (congrFun (f55 2 (by decide)) 0))))
           have z196 : (σ70 55 6).toInt = (σ 55 6).toInt := (congrArg Int32.toInt (show σ70 55 6 = (σ 55 6) from ((f73 6 (by decide)).trans (congrFun (f55 55 (by decide)) 6))))
           have z197 : (σ70 2 2).toInt = (σ 2 2).toInt := (congrArg Int32.toInt (show σ70 2 2 = (σ 2 2) from ((congrFun (f72 2 (by decide)) 2).trans (congrFun (f55 2 (by decide)) 2))))
           have z198 : (σ70 55 5).toInt = (σ 55 5).toInt := (congrArg Int32.toInt (show σ70 55 5 = (σ 55 5) from ((f73 5 (by decide)).trans (congrFun (f55 55 (by decide)) 5))))
           have z199 : (σ70 2 3).toInt = (σ 2 3).toInt := (congrArg Int32.toInt (show σ70 2 3 = (σ 2 3) from ((congrFun (f72 2 (by decide)) 3).trans (congrFun (f55 2 (by decide)) 3))))
           have z200 : (σ70 55 4).toInt = (σ 55 4).toInt := (congrArg Int32.toInt (show σ70 55 4 = (σ 55 4) from ((f73 4 (by decide)).trans (congrFun (f55 55 (by decide)) 4))))
           have z201 : (σ70 9 0).toInt = (σ 9 0).toInt := (congrArg Int32.toInt (show σ70 9 0 = (σ 9 0) from ((congrFun (f72 9 (by decide)) 0).trans (congrFun (f55 9 (by decide)) 0))))
           have z202 : (σ70 55 15).toInt = (σ 55 15).toInt := (congrArg Int32.toInt (show σ70 55 15 = (σ 55 15) from ((f73 15 (by decide)).trans (congrFun (f55 55 (by decide)) 15))))
           have z203 : (σ70 16 0).toInt = (σ 16 0).toInt := (congrArg Int32.toInt (show σ70 16 0 = (σ 16 0) from ((congrFun (f72 16 (by decide)) 0).trans (congrFun (f55 16 (by decide)) 0))))
           have z204 : (σ70 55 10).toInt = (σ 55 10).toInt := (congrArg Int32.toInt (show σ70 55 10 = (σ 55 10) from ((f73 10 (by decide)).trans (congrFun (f55 55 (by decide)) 10))))
           have z205 : (σ70 16 1).toInt = (σ 16 1).toInt := (congrArg Int32.toInt (show σ70 16 1 = (σ 16 1) from ((congrFun (f72 16 (by decide)) 1).trans (congrFun (f55 16 (by decide)) 1))))
           have z206 : (σ70 16 2).toInt = (σ 16 2).toInt := (congrArg Int32.toInt (show σ70 16 2 = (σ 16 2) from ((congrFun (f72 16 (by decide)) 2).trans (congrFun (f55 16 (by decide)) 2))))
           have z207 : (σ70 55 13).toInt = (σ 55 13).toInt := (congrArg Int32.toInt (show σ70 55 13 = (σ 55 13) from ((f73 13 (by decide)).trans (congrFun (f55 55 (by decide)) 13))))
           have z208 : (σ70 38 0).toInt = (σ 38 0).toInt := (congrArg Int32.toInt (show σ70 38 0 = (σ 38 0) from ((congrFun (f72 38 (by decide)) 0).trans (congrFun (f55 38 (by decide)) 0))))
           have z209 : (σ70 55 32).toInt = (σ 55 32).toInt := (congrArg Int32.toInt (show σ70 55 32 = (σ 55 32) from ((f73 32 (by decide)).trans (congrFun (f55 55 (by decide)) 32))))
           have z210 : (σ70 38 1).toInt = (σ 38 1).toInt := (congrArg Int32.toInt (show σ70 38 1 = (σ 38 1) from ((congrFun (f72 38 (by decide)) 1).trans (congrFun (f55 38 (by decide)) 1))))
           have z211 : (σ70 55 55).toInt = (σ 55 55).toInt := (congrArg Int32.toInt (show σ70 55 55 = (σ 55 55) from ((f73 55 (by decide)).trans (congrFun (f55 55 (by decide)) 55))))
           have z212 : (σ70 47 0).toInt = (σ53 47 0).toInt := (congrArg Int32.toInt (show σ70 47 0 = (σ53 47 0) from (congrFun (f72 47 (by decide)) 0)))
           have z213 : (σ70 55 30).toInt = (σ 55 30).toInt := (congrArg Int32.toInt (show σ70 55 30 = (σ 55 30) from ((f73 30 (by decide)).trans (congrFun (f55 55 (by decide)) 30))))
           have z214 : (σ70 55 31).toInt = (σ 55 31).toInt := (congrArg Int32.toInt (show σ70 55 31 = (σ 55 31) from ((f73 31 (by decide)).trans (congrFun (f55 55 (by decide)) 31))))
           have z215 : (σ70 2 1).toInt = (σ 2 1).toInt := (congrArg Int32.toInt (show σ70 2 1 = (σ 2 1) from ((congrFun (f72 2 (by decide)) 1).trans (congrFun (f55 2 (by decide)) 1))))
           have z216 : (σ70 55 9).toInt = (σ 55 9).toInt := (congrArg Int32.toInt (show σ70 55 9 = (σ 55 9) from ((f73 9 (by decide)).trans (congrFun (f55 55 (by decide)) 9))))
           have z217 : (σ70 55 42).toInt = (σ 55 42).toInt := (congrArg Int32.toInt (show σ70 55 42 = (σ 55 42) from ((f73 42 (by decide)).trans (congrFun (f55 55 (by decide)) 42))))
           have z218 : (σ70 26 6).toInt = (σ 26 6).toInt := (congrArg Int32.toInt (show σ70 26 6 = (σ 26 6) from ((congrFun (f72 26 (by decide)) 6).trans (congrFun (f55 26 (by decide)) 6))))
           have z220 : (σ70 18 0).toInt = (σ 18 0).toInt := (congrArg Int32.toInt (show σ70 18 0 = (σ 18 0) from ((congrFun (f72 18 (by decide)) 0).trans (congrFun (f55 18 (by decide)) 0))))
           have z221 : (σ70 22 0).toInt = (σ 22 0).toInt := (congrArg Int32.toInt (show σ70 22 0 = (σ 22 0) from ((congrFun (f72 22 (by decide)) 0).trans (congrFun (f55 22 (by decide)) 0))))
           exact by exact ih x161 σ70 τ _ _ ls (by have h9 := tx161; omega) ⟨I162, I163, I164, I165, I166, I167, I168, I169, I170, I171, I172, I173, I174, I175, I176, I177, I178, I179, I180, I74, I181, I182, I183, I184, p185, p76, p186, p187, p188, p189, p190, p191, p192, p193, p194, (by rw [z195, z196]; exact ht0), (by rw [z197, z198]; exact ht1), (by rw [z197, z199, z200]; exact ht2), (by rw [z201, z202]; exact ht3), (by rw [z203, z204]; exact ht4), (by rw [z205, z91]; exact ht5), (by rw [z206, z207]; exact ht6), (by rw [z208, z209]; exact ht7), (by rw [z210, z211]; exact ht8), (by omega), (by rw [z213]; exact ht10), (by rw [z214]; exact ht11), (by rw [z215, z216]; exact ht12), (by rw [z217]; exact ht13), (by have h9 := tx161; omega), (by have h9 := tx161; omega), (show jNumP (σ70 3) (σ70 56) (σ70 6) (σ70 57) (σ70 7) (σ70 58) (σ70 8) (σ70 59) (σ70 55 6).toInt (σ70 55 4).toInt by rw [show σ70 3 = σ 3 from ((f72 3 (by decide)).trans (f55 3 (by decide))), show σ70 56 = σ 56 from ((f72 56 (by decide)).trans (f55 56 (by decide))), show σ70 6 = σ 6 from ((f72 6 (by decide)).trans (f55 6 (by decide))), show σ70 57 = σ 57 from ((f72 57 (by decide)).trans (f55 57 (by decide))), show σ70 7 = σ 7 from ((f72 7 (by decide)).trans (f55 7 (by decide))), show σ70 58 = σ 58 from ((f72 58 (by decide)).trans (f55 58 (by decide))), show σ70 8 = σ 8 from ((f72 8 (by decide)).trans (f55 8 (by decide))), show σ70 59 = σ 59 from ((f72 59 (by decide)).trans (f55 59 (by decide))), show (σ70 55 6).toInt = (σ 55 6).toInt from z196, show (σ70 55 4).toInt = (σ 55 4).toInt from z200]; exact hr0), (show jOvP (σ70 56) (σ70 57) (σ70 58) (σ70 59) (σ70 55 4).toInt by rw [show σ70 56 = σ 56 from ((f72 56 (by decide)).trans (f55 56 (by decide))), show σ70 57 = σ 57 from ((f72 57 (by decide)).trans (f55 57 (by decide))), show σ70 58 = σ 58 from ((f72 58 (by decide)).trans (f55 58 (by decide))), show σ70 59 = σ 59 from ((f72 59 (by decide)).trans (f55 59 (by decide))), show (σ70 55 4).toInt = (σ 55 4).toInt from z200]; exact hr1), (show jTp (σ70 10) (σ70 63) (σ70 55 15).toInt by rw [show σ70 10 = σ 10 from ((f72 10 (by decide)).trans (f55 10 (by decide))), show σ70 63 = σ 63 from ((f72 63 (by decide)).trans (f55 63 (by decide)))]; exact hr2.le (by omega)), (show jSo (σ70 17) (σ70 62) (σ70 16 0).toInt by rw [show σ70 17 = σ 17 from ((f72 17 (by decide)).trans (f55 17 (by decide))), show σ70 62 = σ 62 from ((f72 62 (by decide)).trans (f55 62 (by decide))), show (σ70 16 0).toInt = (σ 16 0).toInt from z203]; exact hr3), (show jShP (σ70 51) (σ70 52) (σ70 53) (σ70 86) (σ70 87) (σ70 55 32).toInt by rw [show σ70 51 = σ 51 from ((f72 51 (by decide)).trans (f55 51 (by decide))), show σ70 52 = σ 52 from ((f72 52 (by decide)).trans (f55 52 (by decide))), show σ70 53 = σ 53 from ((f72 53 (by decide)).trans (f55 53 (by decide))), show σ70 86 = σ 86 from ((f72 86 (by decide)).trans (f55 86 (by decide))), show σ70 87 = σ 87 from ((f72 87 (by decide)).trans (f55 87 (by decide)))]; exact (hr4.up (by omega) (by omega))), (show jEl (σ70 51) (σ70 52) (τ 54) (τ 88) by rw [show σ70 51 = σ 51 from ((f72 51 (by decide)).trans (f55 51 (by decide))), show σ70 52 = σ 52 from ((f72 52 (by decide)).trans (f55 52 (by decide)))]; exact hr5), (show jByP (σ70 51) (σ70 52) (τ 54) by rw [show σ70 51 = σ 51 from ((f72 51 (by decide)).trans (f55 51 (by decide))), show σ70 52 = σ 52 from ((f72 52 (by decide)).trans (f55 52 (by decide)))]; exact hr6), (show jBk (σ70 48) (σ70 80) (σ70 49) (σ70 81) (σ70 55 47).toInt by rw [show σ70 48 = σ53 48 from (f72 48 (by decide)), show σ70 49 = σ53 49 from (f72 49 (by decide)), show (σ70 55 47).toInt = (σ53 47 0).toInt from by omega]; exact p87), (show jKd (σ70 39) (σ70 70) (σ70 55 32).toInt by rw [show σ70 39 = σ 39 from ((f72 39 (by decide)).trans (f55 39 (by decide))), show σ70 70 = σ 70 from ((f72 70 (by decide)).trans (f55 70 (by decide))), show (σ70 55 32).toInt = (σ 55 32).toInt from z209]; exact hr8), (show jTt (σ70 42) (σ70 85) (σ70 55 55).toInt by rw [show σ70 42 = σ 42 from ((f72 42 (by decide)).trans (f55 42 (by decide))), show σ70 85 = σ 85 from ((f72 85 (by decide)).trans (f55 85 (by decide))), show (σ70 55 55).toInt = (σ 55 55).toInt from z211]; exact hr9), (fun k hk => by rw [show σ70 4 = σ 4 from ((f72 4 (by decide)).trans (f55 4 (by decide))), show σ70 5 = σ 5 from ((f72 5 (by decide)).trans (f55 5 (by decide))), show σ70 60 = σ 60 from ((f72 60 (by decide)).trans (f55 60 (by decide))), show σ70 61 = σ 61 from ((f72 61 (by decide)).trans (f55 61 (by decide)))]; exact hr10 k (by omega)), (fun nm => by rw [show σ70 19 = σ 19 from ((f72 19 (by decide)).trans (f55 19 (by decide))), show σ70 64 = σ 64 from ((f72 64 (by decide)).trans (f55 64 (by decide))), show σ70 65 = σ 65 from ((f72 65 (by decide)).trans (f55 65 (by decide))), show (σ70 18 0).toInt = (σ 18 0).toInt from z220]; exact hr11 nm), (fun nm => by rw [show σ70 23 = σ 23 from ((f72 23 (by decide)).trans (f55 23 (by decide))), show σ70 64 = σ 64 from ((f72 64 (by decide)).trans (f55 64 (by decide))), show σ70 65 = σ 65 from ((f72 65 (by decide)).trans (f55 65 (by decide))), show (σ70 22 0).toInt = (σ 22 0).toInt from z221]; exact hr12 nm), (show jAlP (σ70 56) (σ70 57) (σ70 58) (σ70 59) (σ70 55 4).toInt by rw [show σ70 56 = σ 56 from ((f72 56 (by decide)).trans (f55 56 (by decide))), show σ70 57 = σ 57 from ((f72 57 (by decide)).trans (f55 57 (by decide))), show σ70 58 = σ 58 from ((f72 58 (by decide)).trans (f55 58 (by decide))), show σ70 59 = σ 59 from ((f72 59 (by decide)).trans (f55 59 (by decide))), show (σ70 55 4).toInt = (σ 55 4).toInt from z200]; exact hr13), n90⟩ hP hS (lv_sub hl [0, 1, 2, 3] rfl)
set_option maxHeartbeats 4000000 in
set_option maxRecDepth 100000 in
theorem law_case_20 {p : Program} {e : Env} {s : State} {m : MethodId} {below : List Frame} {meth : Method} {c : Code} (l : Launch) {b L : Nat} {xs : Nat → Int32} {D : va_G} {cI cL : ClassId} {ad zz : Nat → Nat} (C0 : lw_At p s m meth c b L xs) (hJ : jD ad) (hA : ∀ q, jA ad q → s.heap.size ≤ q) (hK : jK D cI cL s) (hZ : jZ zz (fun q : Nat => s.heap.size ≤ q) s s.heap) {x0 : Int32} (hx0 : 0 ≤ x0.toInt) (hxL : x0.toInt + 6 ≤ (L : Int)) (hL : L ≤ 384) {σ : Nat → Nat → Int32} {τ : Nat → Nat → Int64} {H : Heap} {locs : List Loc} (hS : va_S (fun q : Nat => s.heap.size ≤ q) s.heap H locs) {ls : Array Slot} (hAll : jAll x0.toInt σ τ) (hP : jH D cI cL ad σ τ H) (hl : lv_has ls 4 [(3, .int x0), (2, .ref (ad 55)), (1, .ref (ad 0)), (0, .ref b)]) (ih : ∀ (x1 : Int32) (σ : Nat → Nat → Int32) (τ : Nat → Nat → Int64) (H : Heap) (locs : List Loc) (ls : Array Slot), x1.toInt = x0.toInt + 6 → jAll x1.toInt σ τ → jH D cI cL ad σ τ H → va_S (fun q : Nat => s.heap.size ≤ q) s.heap H locs → lv_has ls 4 [(3, .int x1), (2, .ref (ad 55)), (1, .ref (ad 0)), (0, .ref b)] → W p l e room_1 s m #[Value.ref b] below meth c H locs 90 348600 (lw_Z below #[Value.ref b] s) (F0 m 18 ls [])) : W p l e room_1 s m #[Value.ref b] below meth c H locs 90 348600 (lw_Z below #[Value.ref b] s) (F0 m 806 ls []) := by
  obtain ⟨hx, hb, hr, hml, hown, hts0, hX, hbl, hlocks, hgv⟩ := C0
  have hts : ∀ w ∈ wsL_law, w.before #[Value.ref b] s = true := fun w h => hts0 w (wsL_law_in w h)
  have hbA : ¬ (fun q : Nat => s.heap.size ≤ q) b := Nat.not_le.mpr hbl
  have hown : s.vm.findClass RL = some m.cls := hown
  obtain ⟨hI2, hI9, hI12, hI16, hI18, hI22, hI31, hI38, hI43, hI47, hI50, hI0, hI26, hI101, hI102, hI103, hI104, hI105, hI106, hI107, hI109, hI110, hI111, hI119, hs_jKept, hs_jBook, hs_jNd12, hs_jN67, hs_jBl, hs_jKb, hs_jTR, hs_jKh, hs_jKg, hs_jNz, hs_jqSt, ht0, ht1, ht2, ht3, ht4, ht5, ht6, ht7, ht8, ht9, ht10, ht11, ht12, ht13, ht14, ht15, hr0, hr1, hr2, hr3, hr4, hr5, hr6, hr7, hr8, hr9, hr10, hr11, hr12, hr13, hr14⟩ := hAll
  have hL9 : (L : Int) ≤ 384 := by omega
  obtain ⟨i1, i2, i3, i4, i5, w6, w7⟩ : (0 ≤ (σ 2 0).toInt ∧ (σ 2 0).toInt ≤ 4) ∧ (0 ≤ (σ 2 1).toInt ∧ (σ 2 1).toInt ≤ 3) ∧ (0 ≤ (σ 2 2).toInt) ∧ (0 ≤ (σ 2 3).toInt) ∧ ((σ 2 2).toInt + (σ 2 3).toInt ≤ 40) ∧ (∀ k : Nat, k < 40 → 0 ≤ (σ 6 k).toInt ∧ (σ 6 k).toInt ≤ 67) ∧ (∀ k : Nat, k < 4 → 0 ≤ (σ 5 k).toInt ∧ (σ 5 k).toInt ≤ 20) := id hI2
  obtain ⟨i8, w9, w10⟩ : (0 ≤ (σ 9 0).toInt ∧ (σ 9 0).toInt ≤ 80) ∧ (∀ k : Nat, k < 80 → 0 ≤ (σ 10 k).toInt ∧ (σ 10 k).toInt ≤ 255) ∧ (∀ k : Nat, k < 8 → 0 ≤ (σ 11 k).toInt ∧ (σ 11 k).toInt ≤ 3) := id hI9
  obtain ⟨i11, i12, i13, w14⟩ : (1 ≤ (σ 16 0).toInt ∧ (σ 16 0).toInt ≤ 8) ∧ (1 ≤ (σ 16 1).toInt ∧ (σ 16 1).toInt ≤ 12) ∧ (0 ≤ (σ 16 2).toInt ∧ (σ 16 2).toInt ≤ 999) ∧ (∀ k : Nat, k < 8 → 0 ≤ (σ 17 k).toInt ∧ (σ 17 k).toInt ≤ 3) := id hI16
  obtain ⟨i15, i16, w17⟩ : (0 ≤ (σ 38 0).toInt ∧ (σ 38 0).toInt ≤ 20) ∧ (0 ≤ (σ 38 1).toInt ∧ (σ 38 1).toInt ≤ 1000) ∧ (∀ k : Nat, k < 20 → 0 ≤ (σ 39 k).toInt ∧ (σ 39 k).toInt ≤ 6) := id hI38
  obtain ⟨i18, w19, w20⟩ : (0 ≤ (σ 47 0).toInt ∧ (σ 47 0).toInt ≤ 12) ∧ (∀ k : Nat, k < 12 → 0 ≤ (σ 48 k).toInt ∧ (σ 48 k).toInt ≤ 3) ∧ (∀ k : Nat, k < 12 → 0 ≤ (σ 49 k).toInt ∧ (σ 49 k).toInt ≤ 1) := id hI47
  have w21 : ∀ k : Nat, k < 6 → 0 ≤ (σ 52 k).toInt ∧ (σ 52 k).toInt ≤ 60 := hI50
  have i22 : 1 ≤ (σ 26 6).toInt ∧ (σ 26 6).toInt ≤ 8000 := hI26
  obtain ⟨i23, i24, i25, w26, w27, w28, w29⟩ : (0 ≤ (σ 55 5).toInt) ∧ ((σ 55 5).toInt ≤ (σ 55 4).toInt) ∧ ((σ 55 4).toInt ≤ 40) ∧ (∀ k : Nat, k < 68 → (-200) ≤ (σ 56 k).toInt ∧ (σ 56 k).toInt ≤ 500) ∧ (∀ k : Nat, k < 40 → 0 ≤ (σ 57 k).toInt ∧ (σ 57 k).toInt ≤ 67) ∧ (∀ k : Nat, k < 40 → (-200) ≤ (σ 58 k).toInt ∧ (σ 58 k).toInt ≤ 500) ∧ (∀ k : Nat, k < 40 → (-200) ≤ (σ 59 k).toInt ∧ (σ 59 k).toInt ≤ 500) := id hI101
  obtain ⟨i30, w31, w32⟩ : (0 ≤ (σ 55 6).toInt ∧ (σ 55 6).toInt ≤ 4) ∧ (∀ k : Nat, k < 4 → 0 ≤ (σ 60 k).toInt ∧ (σ 60 k).toInt ≤ 50) ∧ (∀ k : Nat, k < 4 → 0 ≤ (σ 61 k).toInt ∧ (σ 61 k).toInt ≤ 20) := id hI102
  have i33 : 0 ≤ (σ 55 9).toInt ∧ (σ 55 9).toInt ≤ 3 := hI103
  obtain ⟨i34, i35, i36, w37, w38⟩ : (1 ≤ (σ 55 10).toInt ∧ (σ 55 10).toInt ≤ 8) ∧ (1 ≤ (σ 55 12).toInt ∧ (σ 55 12).toInt ≤ 12) ∧ (0 ≤ (σ 55 13).toInt ∧ (σ 55 13).toInt ≤ 999) ∧ (∀ k : Nat, k < 8 → 0 ≤ (σ 62 k).toInt ∧ (σ 62 k).toInt ≤ 3) ∧ (∀ k : Nat, k < 8 → 0 ≤ (σ 67 k).toInt ∧ (σ 67 k).toInt ≤ 3) := id hI104
  obtain ⟨i39, w40⟩ : (0 ≤ (σ 55 15).toInt ∧ (σ 55 15).toInt ≤ 80) ∧ (∀ k : Nat, k < 2 → (-1) ≤ (σ 65 k).toInt ∧ (σ 65 k).toInt ≤ 80) := id hI105
  obtain ⟨i41, w42, w43, w44⟩ : (0 ≤ (σ 55 32).toInt ∧ (σ 55 32).toInt ≤ 20) ∧ (∀ k : Nat, k < 20 → 0 ≤ (σ 70 k).toInt ∧ (σ 70 k).toInt ≤ 6) ∧ (∀ k : Nat, k < 20 → 0 ≤ (σ 71 k).toInt ∧ (σ 71 k).toInt ≤ 8) ∧ (∀ k : Nat, k < 160 → 0 ≤ (σ 72 k).toInt ∧ (σ 72 k).toInt ≤ 3) := id hI106
  obtain ⟨i45, i46, w47⟩ : (0 ≤ (σ 55 47).toInt ∧ (σ 55 47).toInt ≤ 12) ∧ ((σ 55 47).toInt ≤ (σ 55 12).toInt) ∧ (∀ k : Nat, k < 12 → 0 ≤ (σ 80 k).toInt ∧ (σ 80 k).toInt ≤ 3) := id hI107
  have hs_jOk3 : jOk3 σ := hr0.ok hr1.1
  refine lv_aload_n hx hb dL_law_806 rfl (lv_at hl 2 rfl) ?_
  refine lv_aload_n hx hb dL_law_807 rfl (lv_at hl 3 rfl) ?_
  refine lv_iload_n hx hb dL_law_808 rfl (lv_at hl 0 rfl) ?_
  refine lv_iconst (v := 1) hx hb dL_law_809 (by decide) ?_
  have g48 := jrg (rfl : x0.toInt = x0.toInt)
  refine lv_iadd hx hb dL_law_810 ?_
  refine lv_topi (fun x49 ex49 => ?_)
  exact by
   have tx49 : x49.toInt = x0.toInt + 1 := (jadd ex49 rfl jz_1 (by omega) (by omega)).trans (by omega)
   refine va_sld hx hb hX hbl hbA hS (jin tx49 (by omega) (by omega)) dL_law_811 ?_
   have g50 := jrg (rfl : (xs x49.toNatClampNeg).toInt = (xs x49.toNatClampNeg).toInt)
   refine lv_aload_n hx hb dL_law_812 rfl (lv_at hl 3 rfl) ?_
   refine lv_iload_n hx hb dL_law_813 rfl (lv_at hl 0 rfl) ?_
   refine lv_iconst (v := 2) hx hb dL_law_814 (by decide) ?_
   refine lv_iadd hx hb dL_law_815 ?_
   refine lv_topi (fun x51 ex51 => ?_)
   have tx51 : x51.toInt = x0.toInt + 2 := (jadd ex51 rfl jz_2 (by omega) (by omega)).trans (by omega)
   exact by
    refine va_sld hx hb hX hbl hbA hS (jin tx51 (by omega) (by omega)) dL_law_816 ?_
    have g52 := jrg (rfl : (xs x51.toNatClampNeg).toInt = (xs x51.toNatClampNeg).toInt)
    refine jcallV (As := [.int (xs x49.toNatClampNeg), .int (xs x51.toNatClampNeg)]) (rest := []) ⟨hx, hb, hml, hown, hts⟩ hK hP hA hS hZ (c_X11_books l D cI cL ad zz hJ σ τ (xs x49.toNatClampNeg) ((xs x49.toNatClampNeg).toInt) rfl (xs x51.toNatClampNeg) ((xs x51.toNatClampNeg).toInt) rfl hI2 hI16 hI47 hI50) cw_RL_97 (jc_0 cI cL ad σ τ) rfl ⟨Nat.le_of_ble_eq_true rfl, Nat.le_of_ble_eq_true rfl⟩ rfl rfl rfl hl.1 rfl (Nat.le_of_ble_eq_true rfl) dL_law_817 ⟨Nat.le_of_ble_eq_true rfl, Nat.le_of_ble_eq_true rfl⟩ (fun r54 σ53 τ53 H locs h53 hP hS => ?_)
    obtain ⟨rfl, f55, f56, I57, w58, h53⟩ := h53
    obtain ⟨i60, w61, w62⟩ : (0 ≤ (σ53 47 0).toInt ∧ (σ53 47 0).toInt ≤ 12) ∧ (∀ k : Nat, k < 12 → 0 ≤ (σ53 48 k).toInt ∧ (σ53 48 k).toInt ≤ 3) ∧ (∀ k : Nat, k < 12 → 0 ≤ (σ53 49 k).toInt ∧ (σ53 49 k).toInt ≤ 1) := id I57
    refine lv_pop hx hb dL_law_820 rfl ?_
    refine lv_aload_n hx hb dL_law_821 rfl (lv_at hl 1 rfl) ?_
    refine lv_aload_n hx hb dL_law_822 rfl (lv_at hl 3 rfl) ?_
    refine lv_iload_n hx hb dL_law_823 rfl (lv_at hl 0 rfl) ?_
    refine lv_iconst (v := 1) hx hb dL_law_824 (by decide) ?_
    refine lv_iadd hx hb dL_law_825 ?_
    refine jtopr ex49.symm ?_
    exact by
     refine va_sld hx hb hX hbl hbA hS (jin tx49 (by omega) (by omega)) dL_law_826 ?_
     refine lv_aload_n hx hb dL_law_827 rfl (lv_at hl 3 rfl) ?_
     refine lv_iload_n hx hb dL_law_828 rfl (lv_at hl 0 rfl) ?_
     refine lv_iconst (v := 2) hx hb dL_law_829 (by decide) ?_
     refine lv_iadd hx hb dL_law_830 ?_
     refine jtopr ex51.symm ?_
     refine va_sld hx hb hX hbl hbA hS (jin tx51 (by omega) (by omega)) dL_law_831 ?_
     have I63 : jI102 σ53 := jI102_fr (congrFun (f55 55 (by decide)) 6) (f55 60 (by decide)) (f55 61 (by decide)) hI102
     have I64 : jI104 σ53 := jI104_fr (congrFun (f55 55 (by decide)) 10) (congrFun (f55 55 (by decide)) 12) (congrFun (f55 55 (by decide)) 13) (f55 62 (by decide)) (f55 67 (by decide)) hI104
     exact by
      have I65 : jI107 σ53 := jI107_fr (congrFun (f55 55 (by decide)) 12) (congrFun (f55 55 (by decide)) 47) (f55 80 (by decide)) hI107
      have I66 : jI110 σ53 := jI110_fr (f55 86 (by decide)) (f55 87 (by decide)) hI110
      have I67 : jI119 σ53 := jI119_fr (f55 68 (by decide)) hI119
      have p68 : jBook σ53 := jBook.fr (congrFun (f55 55 (by decide)) 47) (congrFun (f55 55 (by decide)) 10) (f55 81 (by decide)) hs_jBook
      refine jcallV (As := [.int (xs x49.toNatClampNeg), .int (xs x51.toNatClampNeg)]) (rest := []) ⟨hx, hb, hml, hown, hts⟩ hK hP hA hS hZ (c_X12_books l D cI cL ad zz hJ σ53 τ (xs x49.toNatClampNeg) ((xs x49.toNatClampNeg).toInt) rfl (xs x51.toNatClampNeg) ((xs x51.toNatClampNeg).toInt) rfl I63 I64 I65 I66 I67 p68) cw_RL_100 (jc_55 cI cL ad σ53 τ) rfl ⟨Nat.le_of_ble_eq_true rfl, Nat.le_of_ble_eq_true rfl⟩ rfl rfl rfl hl.1 rfl (Nat.le_of_ble_eq_true rfl) dL_law_832 ⟨Nat.le_of_ble_eq_true rfl, Nat.le_of_ble_eq_true rfl⟩ (fun r70 σ69 τ69 H locs h69 hP hS => ?_)
      obtain ⟨rfl, f71, f72, I73, I74, p75, w76, h69⟩ := h69
      obtain ⟨i78, i79, w80⟩ : (0 ≤ (σ69 55 47).toInt ∧ (σ69 55 47).toInt ≤ 12) ∧ ((σ69 55 47).toInt ≤ (σ69 55 12).toInt) ∧ (∀ k : Nat, k < 12 → 0 ≤ (σ69 80 k).toInt ∧ (σ69 80 k).toInt ≤ 3) := id I73
      have z81 : (σ53 55 6).toInt = (σ 55 6).toInt := (congrArg Int32.toInt (show σ53 55 6 = (σ 55 6) from (congrFun (f55 55 (by decide)) 6)))
      have z82 : (σ53 55 47).toInt = (σ 55 47).toInt := (congrArg Int32.toInt (show σ53 55 47 = (σ 55 47) from (congrFun (f55 55 (by decide)) 47)))
      have z83 : (σ53 55 10).toInt = (σ 55 10).toInt := (congrArg Int32.toInt (show σ53 55 10 = (σ 55 10) from (congrFun (f55 55 (by decide)) 10)))
      have z84 : (σ53 55 12).toInt = (σ 55 12).toInt := (congrArg Int32.toInt (show σ53 55 12 = (σ 55 12) from (congrFun (f55 55 (by decide)) 12)))
      have z85 : (σ53 55 30).toInt = (σ 55 30).toInt := (congrArg Int32.toInt (show σ53 55 30 = (σ 55 30) from (congrFun (f55 55 (by decide)) 30)))
      have z86 : (σ53 55 31).toInt = (σ 55 31).toInt := (congrArg Int32.toInt (show σ53 55 31 = (σ 55 31) from (congrFun (f55 55 (by decide)) 31)))
      rw [show (σ53 55 6).toInt = (σ 55 6).toInt from by omega, show (σ53 55 47).toInt = (σ 55 47).toInt from by omega, show (σ53 55 10).toInt = (σ 55 10).toInt from by omega, show (σ53 55 12).toInt = (σ 55 12).toInt from by omega, show (σ53 55 30).toInt = (σ 55 30).toInt from by omega, show (σ53 55 31).toInt = (σ 55 31).toInt from by omega, show σ53 56 = σ 56 from (f55 56 (by decide)), show σ53 80 = σ 80 from (f55 80 (by decide)), show σ53 81 = σ 81 from (f55 81 (by decide)), show σ53 86 = σ 86 from (f55 86 (by decide)), show σ53 87 = σ 87 from (f55 87 (by decide))] at w76
      rw [show (σ 2 0).toInt = (σ 55 6).toInt from by omega, show (σ 47 0).toInt = (σ 55 47).toInt from by omega, show (σ 16 0).toInt = (σ 55 10).toInt from by omega, show (σ 16 1).toInt = (σ 55 12).toInt from by omega] at w58
      have p87 := jBb.det (J := 0) hr7 (w58 (hr0.ok hr1.1) (fun d0 d5 z q hq => by
          rw [jnc (rfl : (xs x49.toNatClampNeg).toInt = (xs x49.toNatClampNeg).toInt)] at z hq
          exact by
           have w := hr6 ((xs x49.toNatClampNeg).toInt).toNat (by omega) z q hq
           rw [show 60 * ((xs x49.toNatClampNeg).toInt).toNat + q = (60 * ((xs x49.toNatClampNeg).toInt) + (q : Int)).toNat by omega] at w; exact w)) (w76 (by omega) (by omega) hr1.1) Iff.rfl (fun z => by
           rcases hr4.at (d := (xs x49.toNatClampNeg)) (by omega) (by omega) with ⟨x1, x2⟩ | ⟨x1, x2, x3, x4⟩ | ⟨x1, x2, x3, x4, x5⟩
           · omega
           · have x5 : (σ 86 (xs x49.toNatClampNeg).toNatClampNeg).toInt = (σ 53 (xs x49.toNatClampNeg).toNatClampNeg).toInt := by rw [x2]
             have hn9 := hr4.1
             omega
           · omega) (fun z1 z2 s1 s2 => by
           have hx := hr4.at (d := (xs x49.toNatClampNeg)) (by omega) (by omega)
           exact by
            have hL : (if (σ 51 (xs x49.toNatClampNeg).toNatClampNeg).toInt = 0 ∧ 0 ≤ (xs x51.toNatClampNeg).toInt then (σ 52 (xs x49.toNatClampNeg).toNatClampNeg).toInt - ((xs x51.toNatClampNeg).toInt) else 0) = (if (σ 86 (xs x49.toNatClampNeg).toNatClampNeg).toInt = 20 ∧ 0 ≤ (xs x51.toNatClampNeg).toInt then (σ 87 (xs x49.toNatClampNeg).toNatClampNeg).toInt - ((xs x51.toNatClampNeg).toInt) else 0) := by
              rcases hx with ⟨x1, x2⟩ | ⟨x1, x2, x3, x4⟩ | ⟨x1, x2, x3, x4, x5⟩
              · rw [if_neg (by omega), if_neg (by omega)]
              · have x5 : (σ 86 (xs x49.toNatClampNeg).toNatClampNeg).toInt = (σ 53 (xs x49.toNatClampNeg).toNatClampNeg).toInt := by rw [x2]
                have hn9 := hr4.1
                rw [if_neg (by omega), if_neg (by omega)]
              · by_cases c : (σ 51 (xs x49.toNatClampNeg).toNatClampNeg).toInt = 0 ∧ 0 ≤ (xs x51.toNatClampNeg).toInt
                · rw [if_pos c, if_pos (by omega), x5]
                · rw [if_neg c, if_neg (by omega)]
            rw [← hL] at s2
            exact by
             refine jBs.det (fun k hk => ?_) hr0.t4 s1 s2
             by_cases c : (σ 51 (xs x49.toNatClampNeg).toNatClampNeg).toInt = 0 ∧ 0 ≤ (xs x51.toNatClampNeg).toInt
             · rw [if_pos c] at hk
               show τ 54 (60 * ((xs x49.toNatClampNeg).toInt) + ((xs x51.toNatClampNeg).toInt) + (k : Int)).toNat = τ 88 (60 * ((xs x49.toNatClampNeg).toInt) + ((xs x51.toNatClampNeg).toInt) + (k : Int)).toNat
               obtain ⟨c1, c2⟩ := c
               rw [jnc (rfl : (xs x49.toNatClampNeg).toInt = (xs x49.toNatClampNeg).toInt)] at c1 hk
               have hd : 0 ≤ (xs x49.toNatClampNeg).toInt ∧ (xs x49.toNatClampNeg).toInt ≤ 5 := by omega
               have w := hr5 ((xs x49.toNatClampNeg).toInt).toNat (by omega) (by omega) (((xs x51.toNatClampNeg).toInt).toNat + k) (by omega)
               rw [show (60 * ((xs x49.toNatClampNeg).toInt) + ((xs x51.toNatClampNeg).toInt) + (k : Int)).toNat = 60 * ((xs x49.toNatClampNeg).toInt).toNat + (((xs x51.toNatClampNeg).toInt).toNat + k) by omega]; exact w
             · rw [if_neg c] at hk; exact absurd hk (by omega)) rfl
      exact by
       have n90 := jBb.nt hr14 (w76 (by omega) (by omega) hr1.1)
       obtain ⟨k88, k89, p87⟩ := p87
       have z91 : (σ69 55 12).toInt = (σ 55 12).toInt := (congrArg Int32.toInt (show σ69 55 12 = (σ 55 12) from ((f72 12 (by decide)).trans (congrFun (f55 55 (by decide)) 12))))
       refine lv_pop hx hb dL_law_835 rfl ?_
       refine lv_goto (tgt := 1357) hx hb dL_law_836 (by decide) ?_
       obtain ⟨x92, ex92⟩ : ∃ y : Int32, y = x0 + 6 := ⟨_, rfl⟩
       have tx92 : x92.toInt = x0.toInt + 6 := (jadd ex92 rfl jz_6 (by omega) (by omega)).trans (by omega)
       refine lv_iinc (v := x92) (lv' := [(3, .int x92), (2, .ref (ad 55)), (1, .ref (ad 0)), (0, .ref b)]) hx hb dL_law_1357 hl (k := 0) rfl (by rw [ex92]; rfl) (by decide) rfl (fun ls hl => ?_)
       refine lv_goto (tgt := 18) hx hb dL_law_1360 (by decide) ?_
       exact by
        have I93 : jI2 σ69 := jI2_fr ((congrFun (f71 2 (by decide)) 0).trans (congrFun (f55 2 (by decide)) 0)) ((congrFun (f71 2 (by decide)) 1).trans (congrFun (f55 2 (by decide)) 1)) ((congrFun (f71 2 (by decide)) 2).trans (congrFun (f55 2 (by decide)) 2)) ((congrFun (f71 2 (by decide)) 3).trans (congrFun (f55 2 (by decide)) 3)) ((f71 6 (by decide)).trans (f55 6 (by decide))) ((f71 5 (by decide)).trans (f55 5 (by decide))) hI2
        have I94 : jI9 σ69 := jI9_fr ((congrFun (f71 9 (by decide)) 0).trans (congrFun (f55 9 (by decide)) 0)) ((f71 10 (by decide)).trans (f55 10 (by decide))) ((f71 11 (by decide)).trans (f55 11 (by decide))) hI9
        have I95 : jI12 σ69 := jI12_fr ((congrFun (f71 12 (by decide)) 0).trans (congrFun (f55 12 (by decide)) 0)) ((f71 13 (by decide)).trans (f55 13 (by decide))) hI12
        have I96 : jI16 σ69 := jI16_fr ((congrFun (f71 16 (by decide)) 0).trans (congrFun (f55 16 (by decide)) 0)) ((congrFun (f71 16 (by decide)) 1).trans (congrFun (f55 16 (by decide)) 1)) ((congrFun (f71 16 (by decide)) 2).trans (congrFun (f55 16 (by decide)) 2)) ((f71 17 (by decide)).trans (f55 17 (by decide))) hI16
        have I97 : jI18 σ69 := jI18_fr ((congrFun (f71 18 (by decide)) 0).trans (congrFun (f55 18 (by decide)) 0)) ((f71 19 (by decide)).trans (f55 19 (by decide))) hI18
        have I98 : jI22 σ69 := jI22_fr ((congrFun (f71 22 (by decide)) 0).trans (congrFun (f55 22 (by decide)) 0)) ((f71 23 (by decide)).trans (f55 23 (by decide))) hI22
        have I99 : jI31 σ69 := jI31_fr ((congrFun (f71 31 (by decide)) 8).trans (congrFun (f55 31 (by decide)) 8)) ((congrFun (f71 31 (by decide)) 10).trans (congrFun (f55 31 (by decide)) 10)) ((congrFun (f71 31 (by decide)) 11).trans (congrFun (f55 31 (by decide)) 11)) ((f71 33 (by decide)).trans (f55 33 (by decide))) ((f71 35 (by decide)).trans (f55 35 (by decide))) ((f71 36 (by decide)).trans (f55 36 (by decide))) hI31
        have I100 : jI38 σ69 := jI38_fr ((congrFun (f71 38 (by decide)) 0).trans (congrFun (f55 38 (by decide)) 0)) ((congrFun (f71 38 (by decide)) 1).trans (congrFun (f55 38 (by decide)) 1)) ((f71 39 (by decide)).trans (f55 39 (by decide))) hI38
        have I101 : jI43 σ69 := jI43_fr ((congrFun (f71 43 (by decide)) 8).trans (congrFun (f55 43 (by decide)) 8)) hI43
        have I102 : jI47 σ69 := jI47_fr (congrFun (f71 47 (by decide)) 0) (f71 48 (by decide)) (f71 49 (by decide)) I57
        have I103 : jI50 σ69 := jI50_fr ((f71 52 (by decide)).trans (f55 52 (by decide))) hI50
        have I104 : jI0 σ69 := jI0_fr ((f71 1 (by decide)).trans (f55 1 (by decide))) hI0
        have I105 : jI26 σ69 := jI26_fr ((congrFun (f71 26 (by decide)) 6).trans (congrFun (f55 26 (by decide)) 6)) hI26
        have I106 : jI101 σ69 := jI101_fr ((f72 4 (by decide)).trans (congrFun (f55 55 (by decide)) 4)) ((f72 5 (by decide)).trans (congrFun (f55 55 (by decide)) 5)) ((f71 56 (by decide)).trans (f55 56 (by decide))) ((f71 57 (by decide)).trans (f55 57 (by decide))) ((f71 58 (by decide)).trans (f55 58 (by decide))) ((f71 59 (by decide)).trans (f55 59 (by decide))) hI101
        have I107 : jI102 σ69 := jI102_fr (f72 6 (by decide)) (f71 60 (by decide)) (f71 61 (by decide)) I63
        have I108 : jI103 σ69 := jI103_fr ((f72 9 (by decide)).trans (congrFun (f55 55 (by decide)) 9)) hI103
        have I109 : jI104 σ69 := jI104_fr (f72 10 (by decide)) (f72 12 (by decide)) (f72 13 (by decide)) (f71 62 (by decide)) (f71 67 (by decide)) I64
        have I110 : jI105 σ69 := jI105_fr ((f72 15 (by decide)).trans (congrFun (f55 55 (by decide)) 15)) ((f71 65 (by decide)).trans (f55 65 (by decide))) hI105
        have I111 : jI106 σ69 := jI106_fr ((f72 32 (by decide)).trans (congrFun (f55 55 (by decide)) 32)) ((f71 70 (by decide)).trans (f55 70 (by decide))) ((f71 71 (by decide)).trans (f55 71 (by decide))) ((f71 72 (by decide)).trans (f55 72 (by decide))) hI106
        have I112 : jI109 σ69 := jI109_fr ((f72 50 (by decide)).trans (congrFun (f55 55 (by decide)) 50)) hI109
        have I113 : jI110 σ69 := jI110_fr (f71 86 (by decide)) (f71 87 (by decide)) I66
        have I114 : jI111 σ69 := jI111_fr ((f71 79 (by decide)).trans (f55 79 (by decide))) hI111
        have p115 : jKept σ69 := jKept.fr ((f71 75 (by decide)).trans (f55 75 (by decide))) ((f71 76 (by decide)).trans (f55 76 (by decide))) ((f71 77 (by decide)).trans (f55 77 (by decide))) hs_jKept
        have p116 : jNd12 σ69 := jNd12.fr ((congrFun (f71 12 (by decide)) 0).trans (congrFun (f55 12 (by decide)) 0)) ((congrFun (f71 12 (by decide)) 1).trans (congrFun (f55 12 (by decide)) 1)) ((f71 13 (by decide)).trans (f55 13 (by decide))) hs_jNd12
        have p117 : jN67 σ69 := jN67.fr ((f71 24 (by decide)).trans (f55 24 (by decide))) hs_jN67
        have p118 : jBl σ69 := jBl.fr ((congrFun (f71 22 (by decide)) 0).trans (congrFun (f55 22 (by decide)) 0)) ((congrFun (f71 22 (by decide)) 1).trans (congrFun (f55 22 (by decide)) 1)) ((f71 23 (by decide)).trans (f55 23 (by decide))) ((congrFun (f71 26 (by decide)) 6).trans (congrFun (f55 26 (by decide)) 6)) ((congrFun (f71 26 (by decide)) 7).trans (congrFun (f55 26 (by decide)) 7)) ((f71 29 (by decide)).trans (f55 29 (by decide))) ((f71 30 (by decide)).trans (f55 30 (by decide))) hs_jBl
        have p119 : jKb σ69 := jKb.fr ((congrFun (f71 31 (by decide)) 8).trans (congrFun (f55 31 (by decide)) 8)) ((congrFun (f71 31 (by decide)) 11).trans (congrFun (f55 31 (by decide)) 11)) ((f71 32 (by decide)).trans (f55 32 (by decide))) hs_jKb
        have p120 : jTR σ69 := jTR.fr ((f71 64 (by decide)).trans (f55 64 (by decide))) ((f71 65 (by decide)).trans (f55 65 (by decide))) hs_jTR
        have p121 : jKh σ69 := jKh.fr ((congrFun (f71 31 (by decide)) 8).trans (congrFun (f55 31 (by decide)) 8)) ((f71 32 (by decide)).trans (f55 32 (by decide))) ((f71 36 (by decide)).trans (f55 36 (by decide))) ((f71 37 (by decide)).trans (f55 37 (by decide))) hs_jKh
        have p122 : jKg σ69 := jKg.fr ((congrFun (f71 31 (by decide)) 8).trans (congrFun (f55 31 (by decide)) 8)) ((congrFun (f71 31 (by decide)) 9).trans (congrFun (f55 31 (by decide)) 9)) ((congrFun (f71 31 (by decide)) 11).trans (congrFun (f55 31 (by decide)) 11)) ((congrFun (f71 31 (by decide)) 12).trans (congrFun (f55 31 (by decide)) 12)) ((f71 32 (by decide)).trans (f55 32 (by decide))) ((f71 33 (by decide)).trans (f55 33 (by decide))) hs_jKg
        have p123 : jNz σ69 := jNz.fr ((f71 34 (by decide)).trans (f55 34 (by decide))) hs_jNz
        have p124 : jqSt σ69 := jqSt.fr ((f71 78 (by decide)).trans (f55 78 (by decide))) ((f72 42 (by decide)).trans (congrFun (f55 55 (by decide)) 42)) hs_jqSt
        have z125 : (σ69 2 0).toInt = (σ 2 0).toInt := (congrArg Int32.toInt (show σ69 2 0 = (σ 2 0) from ((congrFun (f71 2 (by decide)) 0).trans (congrFun (f55 2 (by decide)) 0))))
        have z126 : (σ69 55 6).toInt = (σ 55 6).toInt := (congrArg Int32.toInt (show σ69 55 6 = (σ 55 6) from ((f72 6 (by decide)).trans (congrFun (f55 55 (by decide)) 6))))
        have z127 : (σ69 2 2).toInt = (σ 2 2).toInt := (congrArg Int32.toInt (show σ69 2 2 = (σ 2 2) from ((congrFun (f71 2 (by decide)) 2).trans (congrFun (f55 2 (by decide)) 2))))
        have z128 : (σ69 55 5).toInt = (σ 55 5).toInt := (congrArg Int32.toInt (show σ69 55 5 = (σ 55 5) from ((f72 5 (by decide)).trans (congrFun (f55 55 (by decide)) 5))))
        have z129 : (σ69 2 3).toInt = (σ 2 3).toInt := (congrArg Int32.toInt (show σ69 2 3 = (σ 2 3) from ((congrFun (f71 2 (by decide)) 3).trans (congrFun (f55 2 (by decide)) 3))))
        have z130 : (σ69 55 4).toInt = (σ 55 4).toInt := (congrArg Int32.toInt (show σ69 55 4 = (σ 55 4) from ((f72 4 (by decide)).trans (congrFun (f55 55 (by decide)) 4))))
        have z131 : (σ69 9 0).toInt = (σ 9 0).toInt := (congrArg Int32.toInt (show σ69 9 0 = (σ 9 0) from ((congrFun (f71 9 (by decide)) 0).trans (congrFun (f55 9 (by decide)) 0))))
        have z132 : (σ69 55 15).toInt = (σ 55 15).toInt := (congrArg Int32.toInt (show σ69 55 15 = (σ 55 15) from ((f72 15 (by decide)).trans (congrFun (f55 55 (by decide)) 15))))
        have z133 : (σ69 16 0).toInt = (σ 16 0).toInt := (congrArg Int32.toInt (show σ69 16 0 = (σ 16 0) from ((congrFun (f71 16 (by decide)) 0).trans (congrFun (f55 16 (by decide)) 0))))
        have z134 : (σ69 55 10).toInt = (σ 55 10).toInt := (congrArg Int32.toInt (show σ69 55 10 = (σ 55 10) from ((f72 10 (by decide)).trans (congrFun (f55 55 (by decide)) 10))))
        have z135 : (σ69 16 1).toInt = (σ 16 1).toInt := (congrArg Int32.toInt (show σ69 16 1 = (σ 16 1) from ((congrFun (f71 16 (by decide)) 1).trans (congrFun (f55 16 (by decide)) 1))))
        have z136 : (σ69 16 2).toInt = (σ 16 2).toInt := (congrArg Int32.toInt (show σ69 16 2 = (σ 16 2) from ((congrFun (f71 16 (by decide)) 2).trans (congrFun (f55 16 (by decide)) 2))))
        have z137 : (σ69 55 13).toInt = (σ 55 13).toInt := (congrArg Int32.toInt (show σ69 55 13 = (σ 55 13) from ((f72 13 (by decide)).trans (congrFun (f55 55 (by decide)) 13))))
        have z138 : (σ69 38 0).toInt = (σ 38 0).toInt := (congrArg Int32.toInt (show σ69 38 0 = (σ 38 0) from ((congrFun (f71 38 (by decide)) 0).trans (congrFun (f55 38 (by decide)) 0))))
        have z139 : (σ69 55 32).toInt = (σ 55 32).toInt := (congrArg Int32.toInt (show σ69 55 32 = (σ 55 32) from ((f72 32 (by decide)).trans (congrFun (f55 55 (by decide)) 32))))
        have z140 : (σ69 38 1).toInt = (σ 38 1).toInt := (congrArg Int32.toInt (show σ69 38 1 = (σ 38 1) from ((congrFun (f71 38 (by decide)) 1).trans (congrFun (f55 38 (by decide)) 1))))
        have z141 : (σ69 55 55).toInt = (σ 55 55).toInt := (congrArg Int32.toInt (show σ69 55 55 = (σ 55 55) from ((f72 55 (by decide)).trans (congrFun (f55 55 (by decide)) 55))))
        have z142 : (σ69 47 0).toInt = (σ53 47 0).toInt := (congrArg Int32.toInt (show σ69 47 0 = (σ53 47 0) from (congrFun (f71 47 (by decide)) 0)))
        have z143 : (σ69 55 30).toInt = (σ 55 30).toInt := (congrArg Int32.toInt (show σ69 55 30 = (σ 55 30) from ((f72 30 (by decide)).trans (congrFun (f55 55 (by decide)) 30))))
        have z144 : (σ69 55 31).toInt = (σ 55 31).toInt := (congrArg Int32.toInt (show σ69 55 31 = (σ 55 31) from ((f72 31 (by decide)).trans (congrFun (f55 55 (by decide)) 31))))
        have z145 : (σ69 2 1).toInt = (σ 2 1).toInt := (congrArg Int32.toInt (show σ69 2 1 = (σ 2 1) from ((congrFun (f71 2 (by decide)) 1).trans (congrFun (f55 2 (by decide)) 1))))
        have z146 : (σ69 55 9).toInt = (σ 55 9).toInt := (congrArg Int32.toInt (show σ69 55 9 = (σ 55 9) from ((f72 9 (by decide)).trans (congrFun (f55 55 (by decide)) 9))))
        have z147 : (σ69 55 42).toInt = (σ 55 42).toInt := (congrArg Int32.toInt (show σ69 55 42 = (σ 55 42) from ((f72 42 (by decide)).trans (congrFun (f55 55 (by decide)) 42))))
        have z148 : (σ69 26 6).toInt = (σ 26 6).toInt := (congrArg Int32.toInt (show σ69 26 6 = (σ 26 6) from ((congrFun (f71 26 (by decide)) 6).trans (congrFun (f55 26 (by decide)) 6))))
        have z150 : (σ69 18 0).toInt = (σ 18 0).toInt := (congrArg Int32.toInt (show σ69 18 0 = (σ 18 0) from ((congrFun (f71 18 (by decide)) 0).trans (congrFun (f55 18 (by decide)) 0))))
        have z151 : (σ69 22 0).toInt = (σ 22 0).toInt := (congrArg Int32.toInt (show σ69 22 0 = (σ 22 0) from ((congrFun (f71 22 (by decide)) 0).trans (congrFun (f55 22 (by decide)) 0))))
        exact by exact ih x92 σ69 τ _ _ ls (by have h9 := tx92; omega) ⟨I93, I94, I95, I96, I97, I98, I99, I100, I101, I102, I103, I104, I105, I106, I107, I108, I109, I110, I111, I73, I112, I113, I114, I74, p115, p75, p116, p117, p118, p119, p120, p121, p122, p123, p124, (by rw [z125, z126]; exact ht0), (by rw [z127, z128]; exact ht1), (by rw [z127, z129, z130]; exact ht2), (by rw [z131, z132]; exact ht3), (by rw [z133, z134]; exact ht4), (by rw [z135, z91]; exact ht5), (by rw [z136, z137]; exact ht6), (by rw [z138, z139]; exact ht7), (by rw [z140, z141]; exact ht8), (by omega), (by rw [z143]; exact ht10), (by rw [z144]; exact ht11), (by rw [z145, z146]; exact ht12), (by rw [z147]; exact ht13), (by have h9 := tx92; omega), (by have h9 := tx92; omega), (show jNumP (σ69 3) (σ69 56) (σ69 6) (σ69 57) (σ69 7) (σ69 58) (σ69 8) (σ69 59) (σ69 55 6).toInt (σ69 55 4).toInt by rw [show σ69 3 = σ 3 from ((f71 3 (by decide)).trans (f55 3 (by decide))), show σ69 56 = σ 56 from ((f71 56 (by decide)).trans (f55 56 (by decide))), show σ69 6 = σ 6 from ((f71 6 (by decide)).trans (f55 6 (by decide))), show σ69 57 = σ 57 from ((f71 57 (by decide)).trans (f55 57 (by decide))), show σ69 7 = σ 7 from ((f71 7 (by decide)).trans (f55 7 (by decide))), show σ69 58 = σ 58 from ((f71 58 (by decide)).trans (f55 58 (by decide))), show σ69 8 = σ 8 from ((f71 8 (by decide)).trans (f55 8 (by decide))), show σ69 59 = σ 59 from ((f71 59 (by decide)).trans (f55 59 (by decide))), show (σ69 55 6).toInt = (σ 55 6).toInt from z126, show (σ69 55 4).toInt = (σ 55 4).toInt from z130]; exact hr0), (show jOvP (σ69 56) (σ69 57) (σ69 58) (σ69 59) (σ69 55 4).toInt by rw [show σ69 56 = σ 56 from ((f71 56 (by decide)).trans (f55 56 (by decide))), show σ69 57 = σ 57 from ((f71 57 (by decide)).trans (f55 57 (by decide))), show σ69 58 = σ 58 from ((f71 58 (by decide)).trans (f55 58 (by decide))), show σ69 59 = σ 59 from ((f71 59 (by decide)).trans (f55 59 (by decide))), show (σ69 55 4).toInt = (σ 55 4).toInt from z130]; exact hr1), (show jTp (σ69 10) (σ69 63) (σ69 55 15).toInt by rw [show σ69 10 = σ 10 from ((f71 10 (by decide)).trans (f55 10 (by decide))), show σ69 63 = σ 63 from ((f71 63 (by decide)).trans (f55 63 (by decide)))]; exact hr2.le (by omega)), (show jSo (σ69 17) (σ69 62) (σ69 16 0).toInt by rw [show σ69 17 = σ 17 from ((f71 17 (by decide)).trans (f55 17 (by decide))), show σ69 62 = σ 62 from ((f71 62 (by decide)).trans (f55 62 (by decide))), show (σ69 16 0).toInt = (σ 16 0).toInt from z133]; exact hr3), (show jShP (σ69 51) (σ69 52) (σ69 53) (σ69 86) (σ69 87) (σ69 55 32).toInt by rw [show σ69 51 = σ 51 from ((f71 51 (by decide)).trans (f55 51 (by decide))), show σ69 52 = σ 52 from ((f71 52 (by decide)).trans (f55 52 (by decide))), show σ69 53 = σ 53 from ((f71 53 (by decide)).trans (f55 53 (by decide))), show σ69 86 = σ 86 from ((f71 86 (by decide)).trans (f55 86 (by decide))), show σ69 87 = σ 87 from ((f71 87 (by decide)).trans (f55 87 (by decide)))]; exact (hr4.up (by omega) (by omega))), (show jEl (σ69 51) (σ69 52) (τ 54) (τ 88) by rw [show σ69 51 = σ 51 from ((f71 51 (by decide)).trans (f55 51 (by decide))), show σ69 52 = σ 52 from ((f71 52 (by decide)).trans (f55 52 (by decide)))]; exact hr5), (show jByP (σ69 51) (σ69 52) (τ 54) by rw [show σ69 51 = σ 51 from ((f71 51 (by decide)).trans (f55 51 (by decide))), show σ69 52 = σ 52 from ((f71 52 (by decide)).trans (f55 52 (by decide)))]; exact hr6), (show jBk (σ69 48) (σ69 80) (σ69 49) (σ69 81) (σ69 55 47).toInt by rw [show σ69 48 = σ53 48 from (f71 48 (by decide)), show σ69 49 = σ53 49 from (f71 49 (by decide)), show (σ69 55 47).toInt = (σ53 47 0).toInt from by omega]; exact p87), (show jKd (σ69 39) (σ69 70) (σ69 55 32).toInt by rw [show σ69 39 = σ 39 from ((f71 39 (by decide)).trans (f55 39 (by decide))), show σ69 70 = σ 70 from ((f71 70 (by decide)).trans (f55 70 (by decide))), show (σ69 55 32).toInt = (σ 55 32).toInt from z139]; exact hr8), (show jTt (σ69 42) (σ69 85) (σ69 55 55).toInt by rw [show σ69 42 = σ 42 from ((f71 42 (by decide)).trans (f55 42 (by decide))), show σ69 85 = σ 85 from ((f71 85 (by decide)).trans (f55 85 (by decide))), show (σ69 55 55).toInt = (σ 55 55).toInt from z141]; exact hr9), (fun k hk => by rw [show σ69 4 = σ 4 from ((f71 4 (by decide)).trans (f55 4 (by decide))), show σ69 5 = σ 5 from ((f71 5 (by decide)).trans (f55 5 (by decide))), show σ69 60 = σ 60 from ((f71 60 (by decide)).trans (f55 60 (by decide))), show σ69 61 = σ 61 from ((f71 61 (by decide)).trans (f55 61 (by decide)))]; exact hr10 k (by omega)), (fun nm => by rw [show σ69 19 = σ 19 from ((f71 19 (by decide)).trans (f55 19 (by decide))), show σ69 64 = σ 64 from ((f71 64 (by decide)).trans (f55 64 (by decide))), show σ69 65 = σ 65 from ((f71 65 (by decide)).trans (f55 65 (by decide))), show (σ69 18 0).toInt = (σ 18 0).toInt from z150]; exact hr11 nm), (fun nm => by rw [show σ69 23 = σ 23 from ((f71 23 (by decide)).trans (f55 23 (by decide))), show σ69 64 = σ 64 from ((f71 64 (by decide)).trans (f55 64 (by decide))), show σ69 65 = σ 65 from ((f71 65 (by decide)).trans (f55 65 (by decide))), show (σ69 22 0).toInt = (σ 22 0).toInt from z151]; exact hr12 nm), (show jAlP (σ69 56) (σ69 57) (σ69 58) (σ69 59) (σ69 55 4).toInt by rw [show σ69 56 = σ 56 from ((f71 56 (by decide)).trans (f55 56 (by decide))), show σ69 57 = σ 57 from ((f71 57 (by decide)).trans (f55 57 (by decide))), show σ69 58 = σ 58 from ((f71 58 (by decide)).trans (f55 58 (by decide))), show σ69 59 = σ 59 from ((f71 59 (by decide)).trans (f55 59 (by decide))), show (σ69 55 4).toInt = (σ 55 4).toInt from z130]; exact hr13), n90⟩ hP hS (lv_sub hl [0, 1, 2, 3] rfl)
set_option maxHeartbeats 4000000 in
set_option maxRecDepth 100000 in
theorem law_case_21 {p : Program} {e : Env} {s : State} {m : MethodId} {below : List Frame} {meth : Method} {c : Code} (l : Launch) {b L : Nat} {xs : Nat → Int32} {D : va_G} {cI cL : ClassId} {ad zz : Nat → Nat} (C0 : lw_At p s m meth c b L xs) (hJ : jD ad) (hA : ∀ q, jA ad q → s.heap.size ≤ q) (hK : jK D cI cL s) (hZ : jZ zz (fun q : Nat => s.heap.size ≤ q) s s.heap) {x0 : Int32} (hx0 : 0 ≤ x0.toInt) (hxL : x0.toInt + 6 ≤ (L : Int)) (hL : L ≤ 384) {σ : Nat → Nat → Int32} {τ : Nat → Nat → Int64} {H : Heap} {locs : List Loc} (hS : va_S (fun q : Nat => s.heap.size ≤ q) s.heap H locs) {ls : Array Slot} (hAll : jAll x0.toInt σ τ) (hP : jH D cI cL ad σ τ H) (hl : lv_has ls 4 [(3, .int x0), (2, .ref (ad 55)), (1, .ref (ad 0)), (0, .ref b)]) (ih : ∀ (x1 : Int32) (σ : Nat → Nat → Int32) (τ : Nat → Nat → Int64) (H : Heap) (locs : List Loc) (ls : Array Slot), x1.toInt = x0.toInt + 6 → jAll x1.toInt σ τ → jH D cI cL ad σ τ H → va_S (fun q : Nat => s.heap.size ≤ q) s.heap H locs → lv_has ls 4 [(3, .int x1), (2, .ref (ad 55)), (1, .ref (ad 0)), (0, .ref b)] → W p l e room_1 s m #[Value.ref b] below meth c H locs 90 348600 (lw_Z below #[Value.ref b] s) (F0 m 18 ls [])) : W p l e room_1 s m #[Value.ref b] below meth c H locs 90 348600 (lw_Z below #[Value.ref b] s) (F0 m 839 ls []) := by
  obtain ⟨hx, hb, hr, hml, hown, hts0, hX, hbl, hlocks, hgv⟩ := C0
  have hts : ∀ w ∈ wsL_law, w.before #[Value.ref b] s = true := fun w h => hts0 w (wsL_law_in w h)
  have hbA : ¬ (fun q : Nat => s.heap.size ≤ q) b := Nat.not_le.mpr hbl
  have hown : s.vm.findClass RL = some m.cls := hown
  obtain ⟨hI2, hI9, hI12, hI16, hI18, hI22, hI31, hI38, hI43, hI47, hI50, hI0, hI26, hI101, hI102, hI103, hI104, hI105, hI106, hI107, hI109, hI110, hI111, hI119, hs_jKept, hs_jBook, hs_jNd12, hs_jN67, hs_jBl, hs_jKb, hs_jTR, hs_jKh, hs_jKg, hs_jNz, hs_jqSt, ht0, ht1, ht2, ht3, ht4, ht5, ht6, ht7, ht8, ht9, ht10, ht11, ht12, ht13, ht14, ht15, hr0, hr1, hr2, hr3, hr4, hr5, hr6, hr7, hr8, hr9, hr10, hr11, hr12, hr13, hr14⟩ := hAll
  have hL9 : (L : Int) ≤ 384 := by omega
  obtain ⟨i1, i2, i3, i4, i5, w6, w7⟩ : (0 ≤ (σ 2 0).toInt ∧ (σ 2 0).toInt ≤ 4) ∧ (0 ≤ (σ 2 1).toInt ∧ (σ 2 1).toInt ≤ 3) ∧ (0 ≤ (σ 2 2).toInt) ∧ (0 ≤ (σ 2 3).toInt) ∧ ((σ 2 2).toInt + (σ 2 3).toInt ≤ 40) ∧ (∀ k : Nat, k < 40 → 0 ≤ (σ 6 k).toInt ∧ (σ 6 k).toInt ≤ 67) ∧ (∀ k : Nat, k < 4 → 0 ≤ (σ 5 k).toInt ∧ (σ 5 k).toInt ≤ 20) := id hI2
  obtain ⟨i8, w9, w10⟩ : (0 ≤ (σ 9 0).toInt ∧ (σ 9 0).toInt ≤ 80) ∧ (∀ k : Nat, k < 80 → 0 ≤ (σ 10 k).toInt ∧ (σ 10 k).toInt ≤ 255) ∧ (∀ k : Nat, k < 8 → 0 ≤ (σ 11 k).toInt ∧ (σ 11 k).toInt ≤ 3) := id hI9
  obtain ⟨i11, i12, i13, w14⟩ : (1 ≤ (σ 16 0).toInt ∧ (σ 16 0).toInt ≤ 8) ∧ (1 ≤ (σ 16 1).toInt ∧ (σ 16 1).toInt ≤ 12) ∧ (0 ≤ (σ 16 2).toInt ∧ (σ 16 2).toInt ≤ 999) ∧ (∀ k : Nat, k < 8 → 0 ≤ (σ 17 k).toInt ∧ (σ 17 k).toInt ≤ 3) := id hI16
  obtain ⟨i15, i16, w17⟩ : (0 ≤ (σ 38 0).toInt ∧ (σ 38 0).toInt ≤ 20) ∧ (0 ≤ (σ 38 1).toInt ∧ (σ 38 1).toInt ≤ 1000) ∧ (∀ k : Nat, k < 20 → 0 ≤ (σ 39 k).toInt ∧ (σ 39 k).toInt ≤ 6) := id hI38
  obtain ⟨i18, w19, w20⟩ : (0 ≤ (σ 47 0).toInt ∧ (σ 47 0).toInt ≤ 12) ∧ (∀ k : Nat, k < 12 → 0 ≤ (σ 48 k).toInt ∧ (σ 48 k).toInt ≤ 3) ∧ (∀ k : Nat, k < 12 → 0 ≤ (σ 49 k).toInt ∧ (σ 49 k).toInt ≤ 1) := id hI47
  have w21 : ∀ k : Nat, k < 6 → 0 ≤ (σ 52 k).toInt ∧ (σ 52 k).toInt ≤ 60 := hI50
  have i22 : 1 ≤ (σ 26 6).toInt ∧ (σ 26 6).toInt ≤ 8000 := hI26
  obtain ⟨i23, i24, i25, w26, w27, w28, w29⟩ : (0 ≤ (σ 55 5).toInt) ∧ ((σ 55 5).toInt ≤ (σ 55 4).toInt) ∧ ((σ 55 4).toInt ≤ 40) ∧ (∀ k : Nat, k < 68 → (-200) ≤ (σ 56 k).toInt ∧ (σ 56 k).toInt ≤ 500) ∧ (∀ k : Nat, k < 40 → 0 ≤ (σ 57 k).toInt ∧ (σ 57 k).toInt ≤ 67) ∧ (∀ k : Nat, k < 40 → (-200) ≤ (σ 58 k).toInt ∧ (σ 58 k).toInt ≤ 500) ∧ (∀ k : Nat, k < 40 → (-200) ≤ (σ 59 k).toInt ∧ (σ 59 k).toInt ≤ 500) := id hI101
  obtain ⟨i30, w31, w32⟩ : (0 ≤ (σ 55 6).toInt ∧ (σ 55 6).toInt ≤ 4) ∧ (∀ k : Nat, k < 4 → 0 ≤ (σ 60 k).toInt ∧ (σ 60 k).toInt ≤ 50) ∧ (∀ k : Nat, k < 4 → 0 ≤ (σ 61 k).toInt ∧ (σ 61 k).toInt ≤ 20) := id hI102
  have i33 : 0 ≤ (σ 55 9).toInt ∧ (σ 55 9).toInt ≤ 3 := hI103
  obtain ⟨i34, i35, i36, w37, w38⟩ : (1 ≤ (σ 55 10).toInt ∧ (σ 55 10).toInt ≤ 8) ∧ (1 ≤ (σ 55 12).toInt ∧ (σ 55 12).toInt ≤ 12) ∧ (0 ≤ (σ 55 13).toInt ∧ (σ 55 13).toInt ≤ 999) ∧ (∀ k : Nat, k < 8 → 0 ≤ (σ 62 k).toInt ∧ (σ 62 k).toInt ≤ 3) ∧ (∀ k : Nat, k < 8 → 0 ≤ (σ 67 k).toInt ∧ (σ 67 k).toInt ≤ 3) := id hI104
  obtain ⟨i39, w40⟩ : (0 ≤ (σ 55 15).toInt ∧ (σ 55 15).toInt ≤ 80) ∧ (∀ k : Nat, k < 2 → (-1) ≤ (σ 65 k).toInt ∧ (σ 65 k).toInt ≤ 80) := id hI105
  obtain ⟨i41, w42, w43, w44⟩ : (0 ≤ (σ 55 32).toInt ∧ (σ 55 32).toInt ≤ 20) ∧ (∀ k : Nat, k < 20 → 0 ≤ (σ 70 k).toInt ∧ (σ 70 k).toInt ≤ 6) ∧ (∀ k : Nat, k < 20 → 0 ≤ (σ 71 k).toInt ∧ (σ 71 k).toInt ≤ 8) ∧ (∀ k : Nat, k < 160 → 0 ≤ (σ 72 k).toInt ∧ (σ 72 k).toInt ≤ 3) := id hI106
  obtain ⟨i45, i46, w47⟩ : (0 ≤ (σ 55 47).toInt ∧ (σ 55 47).toInt ≤ 12) ∧ ((σ 55 47).toInt ≤ (σ 55 12).toInt) ∧ (∀ k : Nat, k < 12 → 0 ≤ (σ 80 k).toInt ∧ (σ 80 k).toInt ≤ 3) := id hI107
  have hs_jOk3 : jOk3 σ := hr0.ok hr1.1
  refine lv_aload_n hx hb dL_law_839 rfl (lv_at hl 2 rfl) ?_
  refine jcallV (As := []) (rest := []) ⟨hx, hb, hml, hown, hts⟩ hK hP hA hS hZ (c_X11_close l D cI cL ad zz hJ σ τ hI47) cw_RL_101 (jc_0 cI cL ad σ τ) rfl ⟨Nat.le_of_ble_eq_true rfl, Nat.le_of_ble_eq_true rfl⟩ rfl rfl rfl hl.1 rfl (Nat.le_of_ble_eq_true rfl) dL_law_840 ⟨Nat.le_of_ble_eq_true rfl, Nat.le_of_ble_eq_true rfl⟩ (fun r49 σ48 τ48 H locs h48 hP hS => ?_)
  obtain ⟨rfl, f50, f51, I52, h48⟩ := h48
  obtain ⟨i54, w55, w56⟩ : (0 ≤ (σ48 47 0).toInt ∧ (σ48 47 0).toInt ≤ 12) ∧ (∀ k : Nat, k < 12 → 0 ≤ (σ48 48 k).toInt ∧ (σ48 48 k).toInt ≤ 3) ∧ (∀ k : Nat, k < 12 → 0 ≤ (σ48 49 k).toInt ∧ (σ48 49 k).toInt ≤ 1) := id I52
  have h57 := h48
  obtain ⟨q60, k58, k59⟩ := h57
  refine lv_pop hx hb dL_law_843 rfl ?_
  refine lv_aload_n hx hb dL_law_844 rfl (lv_at hl 1 rfl) ?_
  have I61 : jI104 σ48 := jI104_fr (congrFun (f50 55 (by decide)) 10) (congrFun (f50 55 (by decide)) 12) (congrFun (f50 55 (by decide)) 13) (f50 62 (by decide)) (f50 67 (by decide)) hI104
  have I62 : jI107 σ48 := jI107_fr (congrFun (f50 55 (by decide)) 12) (congrFun (f50 55 (by decide)) 47) (f50 80 (by decide)) hI107
  have p63 : jBook σ48 := jBook.fr (congrFun (f50 55 (by decide)) 47) (congrFun (f50 55 (by decide)) 10) (f50 81 (by decide)) hs_jBook
  have z64 : (σ48 55 47).toInt = (σ 55 47).toInt := (congrArg Int32.toInt (show σ48 55 47 = (σ 55 47) from (congrFun (f50 55 (by decide)) 47)))
  refine jcallV (As := []) (rest := []) ⟨hx, hb, hml, hown, hts⟩ hK hP hA hS hZ (c_X12_close l D cI cL ad zz hJ σ48 τ I61 I62 p63) cw_RL_104 (jc_55 cI cL ad σ48 τ) rfl ⟨Nat.le_of_ble_eq_true rfl, Nat.le_of_ble_eq_true rfl⟩ rfl rfl rfl hl.1 rfl (Nat.le_of_ble_eq_true rfl) dL_law_845 ⟨Nat.le_of_ble_eq_true rfl, Nat.le_of_ble_eq_true rfl⟩ (fun r66 σ65 τ65 H locs h65 hP hS => ?_)
  obtain ⟨rfl, f67, f68, I69, p70, h65⟩ := h65
  obtain ⟨i72, i73, w74⟩ : (0 ≤ (σ65 55 47).toInt ∧ (σ65 55 47).toInt ≤ 12) ∧ ((σ65 55 47).toInt ≤ (σ65 55 12).toInt) ∧ (∀ k : Nat, k < 12 → 0 ≤ (σ65 80 k).toInt ∧ (σ65 80 k).toInt ≤ 3) := id I69
  have z75 : (σ65 55 12).toInt = (σ 55 12).toInt := (congrArg Int32.toInt (show σ65 55 12 = (σ 55 12) from ((f68 12 (by decide)).trans (congrFun (f50 55 (by decide)) 12))))
  have h76 := h65
  obtain ⟨q79, k77, k78⟩ := h76
  refine lv_pop hx hb dL_law_848 rfl ?_
  refine lv_goto (tgt := 1357) hx hb dL_law_849 (by decide) ?_
  obtain ⟨x80, ex80⟩ : ∃ y : Int32, y = x0 + 6 := ⟨_, rfl⟩
  exact by
   have tx80 : x80.toInt = x0.toInt + 6 := (jadd ex80 rfl jz_6 (by omega) (by omega)).trans (by omega)
   refine lv_iinc (v := x80) (lv' := [(3, .int x80), (2, .ref (ad 55)), (1, .ref (ad 0)), (0, .ref b)]) hx hb dL_law_1357 hl (k := 0) rfl (by rw [ex80]; rfl) (by decide) rfl (fun ls hl => ?_)
   refine lv_goto (tgt := 18) hx hb dL_law_1360 (by decide) ?_
   have I81 : jI2 σ65 := jI2_fr ((congrFun (f67 2 (by decide)) 0).trans (congrFun (f50 2 (by decide)) 0)) ((congrFun (f67 2 (by decide)) 1).trans (congrFun (f50 2 (by decide)) 1)) ((congrFun (f67 2 (by decide)) 2).trans (congrFun (f50 2 (by decide)) 2)) ((congrFun (f67 2 (by decide)) 3).trans (congrFun (f50 2 (by decide)) 3)) ((f67 6 (by decide)).trans (f50 6 (by decide))) ((f67 5 (by decide)).trans (f50 5 (by decide))) hI2
   have I82 : jI9 σ65 := jI9_fr ((congrFun (f67 9 (by decide)) 0).trans (congrFun (f50 9 (by decide)) 0)) ((f67 10 (by decide)).trans (f50 10 (by decide))) ((f67 11 (by decide)).trans (f50 11 (by decide))) hI9
   have I83 : jI12 σ65 := jI12_fr ((congrFun (f67 12 (by decide)) 0).trans (congrFun (f50 12 (by decide)) 0)) ((f67 13 (by decide)).trans (f50 13 (by decide))) hI12
   have I84 : jI16 σ65 := jI16_fr ((congrFun (f67 16 (by decide)) 0).trans (congrFun (f50 16 (by decide)) 0)) ((congrFun (f67 16 (by decide)) 1).trans (congrFun (f50 16 (by decide)) 1)) ((congrFun (f67 16 (by decide)) 2).trans (congrFun (f50 16 (by decide)) 2)) ((f67 17 (by decide)).trans (f50 17 (by decide))) hI16
   have I85 : jI18 σ65 := jI18_fr ((congrFun (f67 18 (by decide)) 0).trans (congrFun (f50 18 (by decide)) 0)) ((f67 19 (by decide)).trans (f50 19 (by decide))) hI18
   have I86 : jI22 σ65 := jI22_fr ((congrFun (f67 22 (by decide)) 0).trans (congrFun (f50 22 (by decide)) 0)) ((f67 23 (by decide)).trans (f50 23 (by decide))) hI22
   exact by
    have I87 : jI31 σ65 := jI31_fr ((congrFun (f67 31 (by decide)) 8).trans (congrFun (f50 31 (by decide)) 8)) ((congrFun (f67 31 (by decide)) 10).trans (congrFun (f50 31 (by decide)) 10)) ((congrFun (f67 31 (by decide)) 11).trans (congrFun (f50 31 (by decide)) 11)) ((f67 33 (by decide)).trans (f50 33 (by decide))) ((f67 35 (by decide)).trans (f50 35 (by decide))) ((f67 36 (by decide)).trans (f50 36 (by decide))) hI31
    have I88 : jI38 σ65 := jI38_fr ((congrFun (f67 38 (by decide)) 0).trans (congrFun (f50 38 (by decide)) 0)) ((congrFun (f67 38 (by decide)) 1).trans (congrFun (f50 38 (by decide)) 1)) ((f67 39 (by decide)).trans (f50 39 (by decide))) hI38
    have I89 : jI43 σ65 := jI43_fr ((congrFun (f67 43 (by decide)) 8).trans (congrFun (f50 43 (by decide)) 8)) hI43
    have I90 : jI47 σ65 := jI47_fr (congrFun (f67 47 (by decide)) 0) (f67 48 (by decide)) (f67 49 (by decide)) I52
    have I91 : jI50 σ65 := jI50_fr ((f67 52 (by decide)).trans (f50 52 (by decide))) hI50
    have I92 : jI0 σ65 := jI0_fr ((f67 1 (by decide)).trans (f50 1 (by decide))) hI0
    have I93 : jI26 σ65 := jI26_fr ((congrFun (f67 26 (by decide)) 6).trans (congrFun (f50 26 (by decide)) 6)) hI26
    have I94 : jI101 σ65 := jI101_fr ((f68 4 (by decide)).trans (congrFun (f50 55 (by decide)) 4)) ((f68 5 (by decide)).trans (congrFun (f50 55 (by decide)) 5)) ((f67 56 (by decide)).trans (f50 56 (by decide))) ((f67 57 (by decide)).trans (f50 57 (by decide))) ((f67 58 (by decide)).trans (f50 58 (by decide))) ((f67 59 (by decide)).trans (f50 59 (by decide))) hI101
    have I95 : jI102 σ65 := jI102_fr ((f68 6 (by decide)).trans (congrFun (f50 55 (by decide)) 6)) ((f67 60 (by decide)).trans (f50 60 (by decide))) ((f67 61 (by decide)).trans (f50 61 (by decide))) hI102
    have I96 : jI103 σ65 := jI103_fr ((f68 9 (by decide)).trans (congrFun (f50 55 (by decide)) 9)) hI103
    have I97 : jI104 σ65 := jI104_fr (f68 10 (by decide)) (f68 12 (by decide)) (f68 13 (by decide)) (f67 62 (by decide)) (f67 67 (by decide)) I61
    have I98 : jI105 σ65 := jI105_fr ((f68 15 (by decide)).trans (congrFun (f50 55 (by decide)) 15)) ((f67 65 (by decide)).trans (f50 65 (by decide))) hI105
    have I99 : jI106 σ65 := jI106_fr ((f68 32 (by decide)).trans (congrFun (f50 55 (by decide)) 32)) ((f67 70 (by decide)).trans (f50 70 (by decide))) ((f67 71 (by decide)).trans (f50 71 (by decide))) ((f67 72 (by decide)).trans (f50 72 (by decide))) hI106
    have I100 : jI109 σ65 := jI109_fr ((f68 50 (by decide)).trans (congrFun (f50 55 (by decide)) 50)) hI109
    have I101 : jI110 σ65 := jI110_fr ((f67 86 (by decide)).trans (f50 86 (by decide))) ((f67 87 (by decide)).trans (f50 87 (by decide))) hI110
    have I102 : jI111 σ65 := jI111_fr ((f67 79 (by decide)).trans (f50 79 (by decide))) hI111
    have I103 : jI119 σ65 := jI119_fr ((f67 68 (by decide)).trans (f50 68 (by decide))) hI119
    have p104 : jKept σ65 := jKept.fr ((f67 75 (by decide)).trans (f50 75 (by decide))) ((f67 76 (by decide)).trans (f50 76 (by decide))) ((f67 77 (by decide)).trans (f50 77 (by decide))) hs_jKept
    have p105 : jNd12 σ65 := jNd12.fr ((congrFun (f67 12 (by decide)) 0).trans (congrFun (f50 12 (by decide)) 0)) ((congrFun (f67 12 (by decide)) 1).trans (congrFun (f50 12 (by decide)) 1)) ((f67 13 (by decide)).trans (f50 13 (by decide))) hs_jNd12
    have p106 : jN67 σ65 := jN67.fr ((f67 24 (by decide)).trans (f50 24 (by decide))) hs_jN67
    have p107 : jBl σ65 := jBl.fr ((congrFun (f67 22 (by decide)) 0).trans (congrFun (f50 22 (by decide)) 0)) ((congrFun (f67 22 (by decide)) 1).trans (congrFun (f50 22 (by decide)) 1)) ((f67 23 (by decide)).trans (f50 23 (by decide))) ((congrFun (f67 26 (by decide)) 6).trans (congrFun (f50 26 (by decide)) 6)) ((congrFun (f67 26 (by decide)) 7).trans (congrFun (f50 26 (by decide)) 7)) ((f67 29 (by decide)).trans (f50 29 (by decide))) ((f67 30 (by decide)).trans (f50 30 (by decide))) hs_jBl
    have p108 : jKb σ65 := jKb.fr ((congrFun (f67 31 (by decide)) 8).trans (congrFun (f50 31 (by decide)) 8)) ((congrFun (f67 31 (by decide)) 11).trans (congrFun (f50 31 (by decide)) 11)) ((f67 32 (by decide)).trans (f50 32 (by decide))) hs_jKb
    have p109 : jTR σ65 := jTR.fr ((f67 64 (by decide)).trans (f50 64 (by decide))) ((f67 65 (by decide)).trans (f50 65 (by decide))) hs_jTR
    have p110 : jKh σ65 := jKh.fr ((congrFun (f67 31 (by decide)) 8).trans (congrFun (f50 31 (by decide)) 8)) ((f67 32 (by decide)).trans (f50 32 (by decide))) ((f67 36 (by decide)).trans (f50 36 (by decide))) ((f67 37 (by decide)).trans (f50 37 (by decide))) hs_jKh
    have p111 : jKg σ65 := jKg.fr ((congrFun (f67 31 (by decide)) 8).trans (congrFun (f50 31 (by decide)) 8)) ((congrFun (f67 31 (by decide)) 9).trans (congrFun (f50 31 (by decide)) 9)) ((congrFun (f67 31 (by decide)) 11).trans (congrFun (f50 31 (by decide)) 11)) ((congrFun (f67 31 (by decide)) 12).trans (congrFun (f50 31 (by decide)) 12)) ((f67 32 (by decide)).trans (f50 32 (by decide))) ((f67 33 (by decide)).trans (f50 33 (by decide))) hs_jKg
    have p112 : jNz σ65 := jNz.fr ((f67 34 (by decide)).trans (f50 34 (by decide))) hs_jNz
    have p113 : jqSt σ65 := jqSt.fr ((f67 78 (by decide)).trans (f50 78 (by decide))) ((f68 42 (by decide)).trans (congrFun (f50 55 (by decide)) 42)) hs_jqSt
    have z114 : (σ65 2 0).toInt = (σ 2 0).toInt := (congrArg Int32.toInt (show σ65 2 0 = (σ 2 0) from ((congrFun (f67 2 (by decide)) 0).trans (congrFun (f50 2 (by decide)) 0))))
    have z115 : (σ65 55 6).toInt = (σ 55 6).toInt := (congrArg Int32.toInt (show σ65 55 6 = (σ 55 6) from ((f68 6 (by decide)).trans (congrFun (f50 55 (by decide)) 6))))
    have z116 : (σ65 2 2).toInt = (σ 2 2).toInt := (congrArg Int32.toInt (show σ65 2 2 = (σ 2 2) from ((congrFun (f67 2 (by decide)) 2).trans (congrFun (f50 2 (by decide)) 2))))
    have z117 : (σ65 55 5).toInt = (σ 55 5).toInt := (congrArg Int32.toInt (show σ65 55 5 = (σ 55 5) from ((f68 5 (by decide)).trans (congrFun (f50 55 (by decide)) 5))))
    have z118 : (σ65 2 3).toInt = (σ 2 3).toInt := (congrArg Int32.toInt (show σ65 2 3 = (σ 2 3) from ((congrFun (f67 2 (by decide)) 3).trans (congrFun (f50 2 (by decide)) 3))))
    have z119 : (σ65 55 4).toInt = (σ 55 4).toInt := (congrArg Int32.toInt (show σ65 55 4 = (σ 55 4) from ((f68 4 (by decide)).trans (congrFun (f50 55 (by decide)) 4))))
    have z120 : (σ65 9 0).toInt = (σ 9 0).toInt := (congrArg Int32.toInt (show σ65 9 0 = (σ 9 0) from ((congrFun (f67 9 (by decide)) 0).trans (congrFun (f50 9 (by decide)) 0))))
    have z121 : (σ65 55 15).toInt = (σ 55 15).toInt := (congrArg Int32.toInt (show σ65 55 15 = (σ 55 15) from ((f68 15 (by decide)).trans (congrFun (f50 55 (by decide)) 15))))
    have z122 : (σ65 16 0).toInt = (σ 16 0).toInt := (congrArg Int32.toInt (show σ65 16 0 = (σ 16 0) from ((congrFun (f67 16 (by decide)) 0).trans (congrFun (f50 16 (by decide)) 0))))
    have z123 : (σ65 55 10).toInt = (σ 55 10).toInt := (congrArg Int32.toInt (show σ65 55 10 = (σ 55 10) from ((f68 10 (by decide)).trans (congrFun (f50 55 (by decide)) 10))))
    have z124 : (σ65 16 1).toInt = (σ 16 1).toInt := (congrArg Int32.toInt (show σ65 16 1 = (σ 16 1) from ((congrFun (f67 16 (by decide)) 1).trans (congrFun (f50 16 (by decide)) 1))))
    have z125 : (σ65 16 2).toInt = (σ 16 2).toInt := (congrArg Int32.toInt (show σ65 16 2 = (σ 16 2) from ((congrFun (f67 16 (by decide)) 2).trans (congrFun (f50 16 (by decide)) 2))))
    have z126 : (σ65 55 13).toInt = (σ 55 13).toInt := (congrArg Int32.toInt (show σ65 55 13 = (σ 55 13) from ((f68 13 (by decide)).trans (congrFun (f50 55 (by decide)) 13))))
    have z127 : (σ65 38 0).toInt = (σ 38 0).toInt := (congrArg Int32.toInt (show σ65 38 0 = (σ 38 0) from ((congrFun (f67 38 (by decide)) 0).trans (congrFun (f50 38 (by decide)) 0))))
    have z128 : (σ65 55 32).toInt = (σ 55 32).toInt := (congrArg Int32.toInt (show σ65 55 32 = (σ 55 32) from ((f68 32 (by decide)).trans (congrFun (f50 55 (by decide)) 32))))
    have z129 : (σ65 38 1).toInt = (σ 38 1).toInt := (congrArg Int32.toInt (show σ65 38 1 = (σ 38 1) from ((congrFun (f67 38 (by decide)) 1).trans (congrFun (f50 38 (by decide)) 1))))
    have z130 : (σ65 55 55).toInt = (σ 55 55).toInt := (congrArg Int32.toInt (show σ65 55 55 = (σ 55 55) from ((f68 55 (by decide)).trans (congrFun (f50 55 (by decide)) 55))))
    have z131 : (σ65 47 0).toInt = (σ48 47 0).toInt := (congrArg Int32.toInt (show σ65 47 0 = (σ48 47 0) from (congrFun (f67 47 (by decide)) 0)))
    have z132 : (σ65 55 30).toInt = (σ 55 30).toInt := (congrArg Int32.toInt (show σ65 55 30 = (σ 55 30) from ((f68 30 (by decide)).trans (congrFun (f50 55 (by decide)) 30))))
    have z133 : (σ65 55 31).toInt = (σ 55 31).toInt := (congrArg Int32.toInt (show σ65 55 31 = (σ 55 31) from ((f68 31 (by decide)).trans (congrFun (f50 55 (by decide)) 31))))
    have z134 : (σ65 2 1).toInt = (σ 2 1).toInt := (congrArg Int32.toInt (show σ65 2 1 = (σ 2 1) from ((congrFun (f67 2 (by decide)) 1).trans (congrFun (f50 2 (by decide)) 1))))
    have z135 : (σ65 55 9).toInt = (σ 55 9).toInt := (congrArg Int32.toInt (show σ65 55 9 = (σ 55 9) from ((f68 9 (by decide)).trans (congrFun (f50 55 (by decide)) 9))))
    have z136 : (σ65 55 42).toInt = (σ 55 42).toInt := (congrArg Int32.toInt (show σ65 55 42 = (σ 55 42) from ((f68 42 (by decide)).trans (congrFun (f50 55 (by decide)) 42))))
    have z137 : (σ65 26 6).toInt = (σ 26 6).toInt := (congrArg Int32.toInt (show σ65 26 6 = (σ 26 6) from ((congrFun (f67 26 (by decide)) 6).trans (congrFun (f50 26 (by decide)) 6))))
    have z139 : (σ65 18 0).toInt = (σ 18 0).toInt := (congrArg Int32.toInt (show σ65 18 0 = (σ 18 0) from ((congrFun (f67 18 (by decide)) 0).trans (congrFun (f50 18 (by decide)) 0))))
    have z140 : (σ65 22 0).toInt = (σ 22 0).toInt := (congrArg Int32.toInt (show σ65 22 0 = (σ 22 0) from ((congrFun (f67 22 (by decide)) 0).trans (congrFun (f50 22 (by decide)) 0))))
    exact by exact ih x80 σ65 τ _ _ ls (by have h9 := tx80; omega) ⟨I81, I82, I83, I84, I85, I86, I87, I88, I89, I90, I91, I92, I93, I94, I95, I96, I97, I98, I99, I69, I100, I101, I102, I103, p104, p70, p105, p106, p107, p108, p109, p110, p111, p112, p113, (by rw [z114, z115]; exact ht0), (by rw [z116, z117]; exact ht1), (by rw [z116, z118, z119]; exact ht2), (by rw [z120, z121]; exact ht3), (by rw [z122, z123]; exact ht4), (by rw [z124, z75]; exact ht5), (by rw [z125, z126]; exact ht6), (by rw [z127, z128]; exact ht7), (by rw [z129, z130]; exact ht8), (by omega), (by rw [z132]; exact ht10), (by rw [z133]; exact ht11), (by rw [z134, z135]; exact ht12), (by rw [z136]; exact ht13), (by have h9 := tx80; omega), (by have h9 := tx80; omega), (show jNumP (σ65 3) (σ65 56) (σ65 6) (σ65 57) (σ65 7) (σ65 58) (σ65 8) (σ65 59) (σ65 55 6).toInt (σ65 55 4).toInt by rw [show σ65 3 = σ 3 from ((f67 3 (by decide)).trans (f50 3 (by decide))), show σ65 56 = σ 56 from ((f67 56 (by decide)).trans (f50 56 (by decide))), show σ65 6 = σ 6 from ((f67 6 (by decide)).trans (f50 6 (by decide))), show σ65 57 = σ 57 from ((f67 57 (by decide)).trans (f50 57 (by decide))), show σ65 7 = σ 7 from ((f67 7 (by decide)).trans (f50 7 (by decide))), show σ65 58 = σ 58 from ((f67 58 (by decide)).trans (f50 58 (by decide))), show σ65 8 = σ 8 from ((f67 8 (by decide)).trans (f50 8 (by decide))), show σ65 59 = σ 59 from ((f67 59 (by decide)).trans (f50 59 (by decide))), show (σ65 55 6).toInt = (σ 55 6).toInt from z115, show (σ65 55 4).toInt = (σ 55 4).toInt from z119]; exact hr0), (show jOvP (σ65 56) (σ65 57) (σ65 58) (σ65 59) (σ65 55 4).toInt by rw [show σ65 56 = σ 56 from ((f67 56 (by decide)).trans (f50 56 (by decide))), show σ65 57 = σ 57 from ((f67 57 (by decide)).trans (f50 57 (by decide))), show σ65 58 = σ 58 from ((f67 58 (by decide)).trans (f50 58 (by decide))), show σ65 59 = σ 59 from ((f67 59 (by decide)).trans (f50 59 (by decide))), show (σ65 55 4).toInt = (σ 55 4).toInt from z119]; exact hr1), (show jTp (σ65 10) (σ65 63) (σ65 55 15).toInt by rw [show σ65 10 = σ 10 from ((f67 10 (by decide)).trans (f50 10 (by decide))), show σ65 63 = σ 63 from ((f67 63 (by decide)).trans (f50 63 (by decide)))]; exact hr2.le (by omega)), (show jSo (σ65 17) (σ65 62) (σ65 16 0).toInt by rw [show σ65 17 = σ 17 from ((f67 17 (by decide)).trans (f50 17 (by decide))), show σ65 62 = σ 62 from ((f67 62 (by decide)).trans (f50 62 (by decide))), show (σ65 16 0).toInt = (σ 16 0).toInt from z122]; exact hr3), (show jShP (σ65 51) (σ65 52) (σ65 53) (σ65 86) (σ65 87) (σ65 55 32).toInt by rw [show σ65 51 = σ 51 from ((f67 51 (by decide)).trans (f50 51 (by decide))), show σ65 52 = σ 52 from ((f67 52 (by decide)).trans (f50 52 (by decide))), show σ65 53 = σ 53 from ((f67 53 (by decide)).trans (f50 53 (by decide))), show σ65 86 = σ 86 from ((f67 86 (by decide)).trans (f50 86 (by decide))), show σ65 87 = σ 87 from ((f67 87 (by decide)).trans (f50 87 (by decide)))]; exact (hr4.up (by omega) (by omega))), (show jEl (σ65 51) (σ65 52) (τ 54) (τ 88) by rw [show σ65 51 = σ 51 from ((f67 51 (by decide)).trans (f50 51 (by decide))), show σ65 52 = σ 52 from ((f67 52 (by decide)).trans (f50 52 (by decide)))]; exact hr5), (show jByP (σ65 51) (σ65 52) (τ 54) by rw [show σ65 51 = σ 51 from ((f67 51 (by decide)).trans (f50 51 (by decide))), show σ65 52 = σ 52 from ((f67 52 (by decide)).trans (f50 52 (by decide)))]; exact hr6), (jBk.nil (by omega)), (show jKd (σ65 39) (σ65 70) (σ65 55 32).toInt by rw [show σ65 39 = σ 39 from ((f67 39 (by decide)).trans (f50 39 (by decide))), show σ65 70 = σ 70 from ((f67 70 (by decide)).trans (f50 70 (by decide))), show (σ65 55 32).toInt = (σ 55 32).toInt from z128]; exact hr8), (show jTt (σ65 42) (σ65 85) (σ65 55 55).toInt by rw [show σ65 42 = σ 42 from ((f67 42 (by decide)).trans (f50 42 (by decide))), show σ65 85 = σ 85 from ((f67 85 (by decide)).trans (f50 85 (by decide))), show (σ65 55 55).toInt = (σ 55 55).toInt from z130]; exact hr9), (fun k hk => by rw [show σ65 4 = σ 4 from ((f67 4 (by decide)).trans (f50 4 (by decide))), show σ65 5 = σ 5 from ((f67 5 (by decide)).trans (f50 5 (by decide))), show σ65 60 = σ 60 from ((f67 60 (by decide)).trans (f50 60 (by decide))), show σ65 61 = σ 61 from ((f67 61 (by decide)).trans (f50 61 (by decide)))]; exact hr10 k (by omega)), (fun nm => by rw [show σ65 19 = σ 19 from ((f67 19 (by decide)).trans (f50 19 (by decide))), show σ65 64 = σ 64 from ((f67 64 (by decide)).trans (f50 64 (by decide))), show σ65 65 = σ 65 from ((f67 65 (by decide)).trans (f50 65 (by decide))), show (σ65 18 0).toInt = (σ 18 0).toInt from z139]; exact hr11 nm), (fun nm => by rw [show σ65 23 = σ 23 from ((f67 23 (by decide)).trans (f50 23 (by decide))), show σ65 64 = σ 64 from ((f67 64 (by decide)).trans (f50 64 (by decide))), show σ65 65 = σ 65 from ((f67 65 (by decide)).trans (f50 65 (by decide))), show (σ65 22 0).toInt = (σ 22 0).toInt from z140]; exact hr12 nm), (show jAlP (σ65 56) (σ65 57) (σ65 58) (σ65 59) (σ65 55 4).toInt by rw [show σ65 56 = σ 56 from ((f67 56 (by decide)).trans (f50 56 (by decide))), show σ65 57 = σ 57 from ((f67 57 (by decide)).trans (f50 57 (by decide))), show σ65 58 = σ 58 from ((f67 58 (by decide)).trans (f50 58 (by decide))), show σ65 59 = σ 59 from ((f67 59 (by decide)).trans (f50 59 (by decide))), show (σ65 55 4).toInt = (σ 55 4).toInt from z119]; exact hr13), (jqbN.nil (by omega))⟩ hP hS (lv_sub hl [0, 1, 2, 3] rfl)
set_option maxHeartbeats 4000000 in
set_option maxRecDepth 100000 in
theorem law_case_22 {p : Program} {e : Env} {s : State} {m : MethodId} {below : List Frame} {meth : Method} {c : Code} (l : Launch) {b L : Nat} {xs : Nat → Int32} {D : va_G} {cI cL : ClassId} {ad zz : Nat → Nat} (C0 : lw_At p s m meth c b L xs) (hJ : jD ad) (hA : ∀ q, jA ad q → s.heap.size ≤ q) (hK : jK D cI cL s) (hZ : jZ zz (fun q : Nat => s.heap.size ≤ q) s s.heap) {x0 : Int32} (hx0 : 0 ≤ x0.toInt) (hxL : x0.toInt + 6 ≤ (L : Int)) (hL : L ≤ 384) {σ : Nat → Nat → Int32} {τ : Nat → Nat → Int64} {H : Heap} {locs : List Loc} (hS : va_S (fun q : Nat => s.heap.size ≤ q) s.heap H locs) {ls : Array Slot} (hAll : jAll x0.toInt σ τ) (hP : jH D cI cL ad σ τ H) (hl : lv_has ls 4 [(3, .int x0), (2, .ref (ad 55)), (1, .ref (ad 0)), (0, .ref b)]) (ih : ∀ (x1 : Int32) (σ : Nat → Nat → Int32) (τ : Nat → Nat → Int64) (H : Heap) (locs : List Loc) (ls : Array Slot), x1.toInt = x0.toInt + 6 → jAll x1.toInt σ τ → jH D cI cL ad σ τ H → va_S (fun q : Nat => s.heap.size ≤ q) s.heap H locs → lv_has ls 4 [(3, .int x1), (2, .ref (ad 55)), (1, .ref (ad 0)), (0, .ref b)] → W p l e room_1 s m #[Value.ref b] below meth c H locs 90 348600 (lw_Z below #[Value.ref b] s) (F0 m 18 ls [])) : W p l e room_1 s m #[Value.ref b] below meth c H locs 90 348600 (lw_Z below #[Value.ref b] s) (F0 m 852 ls []) := by
  obtain ⟨hx, hb, hr, hml, hown, hts0, hX, hbl, hlocks, hgv⟩ := C0
  have hts : ∀ w ∈ wsL_law, w.before #[Value.ref b] s = true := fun w h => hts0 w (wsL_law_in w h)
  have hbA : ¬ (fun q : Nat => s.heap.size ≤ q) b := Nat.not_le.mpr hbl
  have hown : s.vm.findClass RL = some m.cls := hown
  obtain ⟨hI2, hI9, hI12, hI16, hI18, hI22, hI31, hI38, hI43, hI47, hI50, hI0, hI26, hI101, hI102, hI103, hI104, hI105, hI106, hI107, hI109, hI110, hI111, hI119, hs_jKept, hs_jBook, hs_jNd12, hs_jN67, hs_jBl, hs_jKb, hs_jTR, hs_jKh, hs_jKg, hs_jNz, hs_jqSt, ht0, ht1, ht2, ht3, ht4, ht5, ht6, ht7, ht8, ht9, ht10, ht11, ht12, ht13, ht14, ht15, hr0, hr1, hr2, hr3, hr4, hr5, hr6, hr7, hr8, hr9, hr10, hr11, hr12, hr13, hr14⟩ := hAll
  have hL9 : (L : Int) ≤ 384 := by omega
  obtain ⟨i1, i2, i3, i4, i5, w6, w7⟩ : (0 ≤ (σ 2 0).toInt ∧ (σ 2 0).toInt ≤ 4) ∧ (0 ≤ (σ 2 1).toInt ∧ (σ 2 1).toInt ≤ 3) ∧ (0 ≤ (σ 2 2).toInt) ∧ (0 ≤ (σ 2 3).toInt) ∧ ((σ 2 2).toInt + (σ 2 3).toInt ≤ 40) ∧ (∀ k : Nat, k < 40 → 0 ≤ (σ 6 k).toInt ∧ (σ 6 k).toInt ≤ 67) ∧ (∀ k : Nat, k < 4 → 0 ≤ (σ 5 k).toInt ∧ (σ 5 k).toInt ≤ 20) := id hI2
  obtain ⟨i8, w9, w10⟩ : (0 ≤ (σ 9 0).toInt ∧ (σ 9 0).toInt ≤ 80) ∧ (∀ k : Nat, k < 80 → 0 ≤ (σ 10 k).toInt ∧ (σ 10 k).toInt ≤ 255) ∧ (∀ k : Nat, k < 8 → 0 ≤ (σ 11 k).toInt ∧ (σ 11 k).toInt ≤ 3) := id hI9
  obtain ⟨i11, i12, i13, w14⟩ : (1 ≤ (σ 16 0).toInt ∧ (σ 16 0).toInt ≤ 8) ∧ (1 ≤ (σ 16 1).toInt ∧ (σ 16 1).toInt ≤ 12) ∧ (0 ≤ (σ 16 2).toInt ∧ (σ 16 2).toInt ≤ 999) ∧ (∀ k : Nat, k < 8 → 0 ≤ (σ 17 k).toInt ∧ (σ 17 k).toInt ≤ 3) := id hI16
  obtain ⟨i15, i16, w17⟩ : (0 ≤ (σ 38 0).toInt ∧ (σ 38 0).toInt ≤ 20) ∧ (0 ≤ (σ 38 1).toInt ∧ (σ 38 1).toInt ≤ 1000) ∧ (∀ k : Nat, k < 20 → 0 ≤ (σ 39 k).toInt ∧ (σ 39 k).toInt ≤ 6) := id hI38
  obtain ⟨i18, w19, w20⟩ : (0 ≤ (σ 47 0).toInt ∧ (σ 47 0).toInt ≤ 12) ∧ (∀ k : Nat, k < 12 → 0 ≤ (σ 48 k).toInt ∧ (σ 48 k).toInt ≤ 3) ∧ (∀ k : Nat, k < 12 → 0 ≤ (σ 49 k).toInt ∧ (σ 49 k).toInt ≤ 1) := id hI47
  have w21 : ∀ k : Nat, k < 6 → 0 ≤ (σ 52 k).toInt ∧ (σ 52 k).toInt ≤ 60 := hI50
  have i22 : 1 ≤ (σ 26 6).toInt ∧ (σ 26 6).toInt ≤ 8000 := hI26
  obtain ⟨i23, i24, i25, w26, w27, w28, w29⟩ : (0 ≤ (σ 55 5).toInt) ∧ ((σ 55 5).toInt ≤ (σ 55 4).toInt) ∧ ((σ 55 4).toInt ≤ 40) ∧ (∀ k : Nat, k < 68 → (-200) ≤ (σ 56 k).toInt ∧ (σ 56 k).toInt ≤ 500) ∧ (∀ k : Nat, k < 40 → 0 ≤ (σ 57 k).toInt ∧ (σ 57 k).toInt ≤ 67) ∧ (∀ k : Nat, k < 40 → (-200) ≤ (σ 58 k).toInt ∧ (σ 58 k).toInt ≤ 500) ∧ (∀ k : Nat, k < 40 → (-200) ≤ (σ 59 k).toInt ∧ (σ 59 k).toInt ≤ 500) := id hI101
  obtain ⟨i30, w31, w32⟩ : (0 ≤ (σ 55 6).toInt ∧ (σ 55 6).toInt ≤ 4) ∧ (∀ k : Nat, k < 4 → 0 ≤ (σ 60 k).toInt ∧ (σ 60 k).toInt ≤ 50) ∧ (∀ k : Nat, k < 4 → 0 ≤ (σ 61 k).toInt ∧ (σ 61 k).toInt ≤ 20) := id hI102
  have i33 : 0 ≤ (σ 55 9).toInt ∧ (σ 55 9).toInt ≤ 3 := hI103
  obtain ⟨i34, i35, i36, w37, w38⟩ : (1 ≤ (σ 55 10).toInt ∧ (σ 55 10).toInt ≤ 8) ∧ (1 ≤ (σ 55 12).toInt ∧ (σ 55 12).toInt ≤ 12) ∧ (0 ≤ (σ 55 13).toInt ∧ (σ 55 13).toInt ≤ 999) ∧ (∀ k : Nat, k < 8 → 0 ≤ (σ 62 k).toInt ∧ (σ 62 k).toInt ≤ 3) ∧ (∀ k : Nat, k < 8 → 0 ≤ (σ 67 k).toInt ∧ (σ 67 k).toInt ≤ 3) := id hI104
  obtain ⟨i39, w40⟩ : (0 ≤ (σ 55 15).toInt ∧ (σ 55 15).toInt ≤ 80) ∧ (∀ k : Nat, k < 2 → (-1) ≤ (σ 65 k).toInt ∧ (σ 65 k).toInt ≤ 80) := id hI105
  obtain ⟨i41, w42, w43, w44⟩ : (0 ≤ (σ 55 32).toInt ∧ (σ 55 32).toInt ≤ 20) ∧ (∀ k : Nat, k < 20 → 0 ≤ (σ 70 k).toInt ∧ (σ 70 k).toInt ≤ 6) ∧ (∀ k : Nat, k < 20 → 0 ≤ (σ 71 k).toInt ∧ (σ 71 k).toInt ≤ 8) ∧ (∀ k : Nat, k < 160 → 0 ≤ (σ 72 k).toInt ∧ (σ 72 k).toInt ≤ 3) := id hI106
  obtain ⟨i45, i46, w47⟩ : (0 ≤ (σ 55 47).toInt ∧ (σ 55 47).toInt ≤ 12) ∧ ((σ 55 47).toInt ≤ (σ 55 12).toInt) ∧ (∀ k : Nat, k < 12 → 0 ≤ (σ 80 k).toInt ∧ (σ 80 k).toInt ≤ 3) := id hI107
  have hs_jOk3 : jOk3 σ := hr0.ok hr1.1
  refine lv_aload_n hx hb dL_law_852 rfl (lv_at hl 2 rfl) ?_
  refine lv_aload_n hx hb dL_law_853 rfl (lv_at hl 3 rfl) ?_
  refine lv_iload_n hx hb dL_law_854 rfl (lv_at hl 0 rfl) ?_
  refine lv_iconst (v := 1) hx hb dL_law_855 (by decide) ?_
  have g48 := jrg (rfl : x0.toInt = x0.toInt)
  refine lv_iadd hx hb dL_law_856 ?_
  refine lv_topi (fun x49 ex49 => ?_)
  exact by
   have tx49 : x49.toInt = x0.toInt + 1 := (jadd ex49 rfl jz_1 (by omega) (by omega)).trans (by omega)
   refine va_sld hx hb hX hbl hbA hS (jin tx49 (by omega) (by omega)) dL_law_857 ?_
   have g50 := jrg (rfl : (xs x49.toNatClampNeg).toInt = (xs x49.toNatClampNeg).toInt)
   refine jcallV (As := [.int (xs x49.toNatClampNeg)]) (rest := []) ⟨hx, hb, hml, hown, hts⟩ hK hP hA hS hZ (c_X11_cost l D cI cL ad zz hJ σ τ (xs x49.toNatClampNeg) ((xs x49.toNatClampNeg).toInt) rfl hI2 hI16 hI22 hI31 hI47 hI26 hs_jOk3 hs_jN67 hs_jBl hs_jKb hs_jKh hs_jKg hs_jNz) cw_RL_105 (jc_0 cI cL ad σ τ) rfl ⟨Nat.le_of_ble_eq_true rfl, Nat.le_of_ble_eq_true rfl⟩ rfl rfl rfl hl.1 rfl (Nat.le_of_ble_eq_true rfl) dL_law_858 ⟨Nat.le_of_ble_eq_true rfl, Nat.le_of_ble_eq_true rfl⟩ (fun r52 σ51 τ51 H locs h51 hP hS => ?_)
   obtain ⟨rfl, f53, f54, I55, p56, p57, p58, p59, p60, p61, p62, h51⟩ := h51
   refine lv_pop hx hb dL_law_861 rfl ?_
   refine lv_aload_n hx hb dL_law_862 rfl (lv_at hl 1 rfl) ?_
   refine lv_aload_n hx hb dL_law_863 rfl (lv_at hl 3 rfl) ?_
   refine lv_iload_n hx hb dL_law_864 rfl (lv_at hl 0 rfl) ?_
   exact by
    refine lv_iconst (v := 1) hx hb dL_law_865 (by decide) ?_
    refine lv_iadd hx hb dL_law_866 ?_
    refine jtopr ex49.symm ?_
    refine va_sld hx hb hX hbl hbA hS (jin tx49 (by omega) (by omega)) dL_law_867 ?_
    have I64 : jI101 σ51 := jI101_fr (congrFun (f53 55 (by decide)) 4) (congrFun (f53 55 (by decide)) 5) (f53 56 (by decide)) (f53 57 (by decide)) (f53 58 (by decide)) (f53 59 (by decide)) hI101
    have I65 : jI102 σ51 := jI102_fr (congrFun (f53 55 (by decide)) 6) (f53 60 (by decide)) (f53 61 (by decide)) hI102
    have I66 : jI103 σ51 := jI103_fr (congrFun (f53 55 (by decide)) 9) hI103
    have I67 : jI104 σ51 := jI104_fr (congrFun (f53 55 (by decide)) 10) (congrFun (f53 55 (by decide)) 12) (congrFun (f53 55 (by decide)) 13) (f53 62 (by decide)) (f53 67 (by decide)) hI104
    have I68 : jI105 σ51 := jI105_fr (congrFun (f53 55 (by decide)) 15) (f53 65 (by decide)) hI105
    exact by
     have I69 : jI106 σ51 := jI106_fr (congrFun (f53 55 (by decide)) 32) (f53 70 (by decide)) (f53 71 (by decide)) (f53 72 (by decide)) hI106
     have I70 : jI107 σ51 := jI107_fr (congrFun (f53 55 (by decide)) 12) (congrFun (f53 55 (by decide)) 47) (f53 80 (by decide)) hI107
     have I71 : jI119 σ51 := jI119_fr (f53 68 (by decide)) hI119
     have p72 : jKept σ51 := jKept.fr (f53 75 (by decide)) (f53 76 (by decide)) (f53 77 (by decide)) hs_jKept
     have p73 : jBook σ51 := jBook.fr (congrFun (f53 55 (by decide)) 47) (congrFun (f53 55 (by decide)) 10) (f53 81 (by decide)) hs_jBook
     have p74 : jTR σ51 := jTR.fr (f53 64 (by decide)) (f53 65 (by decide)) hs_jTR
     have p75 : jqSt σ51 := jqSt.fr (f53 78 (by decide)) (congrFun (f53 55 (by decide)) 42) hs_jqSt
     have z76 : (σ51 55 42).toInt = (σ 55 42).toInt := (congrArg Int32.toInt (show σ51 55 42 = (σ 55 42) from (congrFun (f53 55 (by decide)) 42)))
     refine jcallV (As := [.int (xs x49.toNatClampNeg)]) (rest := []) ⟨hx, hb, hml, hown, hts⟩ hK hP hA hS hZ (c_X12_cost l D cI cL ad zz hJ σ51 τ (xs x49.toNatClampNeg) ((xs x49.toNatClampNeg).toInt) rfl I64 I65 I66 I67 I68 I69 I70 I71 p72 p73 p74 p75 (by omega)) cw_RL_108 (jc_55 cI cL ad σ51 τ) rfl ⟨Nat.le_of_ble_eq_true rfl, Nat.le_of_ble_eq_true rfl⟩ rfl rfl rfl hl.1 rfl (Nat.le_of_ble_eq_true rfl) dL_law_868 ⟨Nat.le_of_ble_eq_true rfl, Nat.le_of_ble_eq_true rfl⟩ (fun r78 σ77 τ77 H locs h77 hP hS => ?_)
     exact by
      obtain ⟨rfl, f79, f80, I81, p82, p83, p84, p85, h77⟩ := h77
      obtain ⟨k87, k88, h77⟩ := h77
      refine lv_pop hx hb dL_law_871 rfl ?_
      refine lv_goto (tgt := 1357) hx hb dL_law_872 (by decide) ?_
      obtain ⟨x89, ex89⟩ : ∃ y : Int32, y = x0 + 6 := ⟨_, rfl⟩
      have tx89 : x89.toInt = x0.toInt + 6 := (jadd ex89 rfl jz_6 (by omega) (by omega)).trans (by omega)
      refine lv_iinc (v := x89) (lv' := [(3, .int x89), (2, .ref (ad 55)), (1, .ref (ad 0)), (0, .ref b)]) hx hb dL_law_1357 hl (k := 0) rfl (by rw [ex89]; rfl) (by decide) rfl (fun ls hl => ?_)
      refine lv_goto (tgt := 18) hx hb dL_law_1360 (by decide) ?_
      have I90 : jI2 σ77 := jI2_fr ((congrFun (f79 2 (by decide)) 0).trans (congrFun (f53 2 (by decide)) 0)) ((congrFun (f79 2 (by decide)) 1).trans (congrFun (f53 2 (by decide)) 1)) ((congrFun (f79 2 (by decide)) 2).trans (congrFun (f53 2 (by decide)) 2)) ((congrFun (f79 2 (by decide)) 3).trans (congrFun (f53 2 (by decide)) 3)) ((f79 6 (by decide)).trans (f53 6 (by decide))) ((f79 5 (by decide)).trans (f53 5 (by decide))) hI2
      exact by
       have I91 : jI9 σ77 := jI9_fr ((congrFun (f79 9 (by decide)) 0).trans (congrFun (f53 9 (by decide)) 0)) ((f79 10 (by decide)).trans (f53 10 (by decide))) ((f79 11 (by decide)).trans (f53 11 (by decide))) hI9
       have I92 : jI12 σ77 := jI12_fr ((congrFun (f79 12 (by decide)) 0).trans (congrFun (f53 12 (by decide)) 0)) ((f79 13 (by decide)).trans (f53 13 (by decide))) hI12
       have I93 : jI16 σ77 := jI16_fr ((congrFun (f79 16 (by decide)) 0).trans (congrFun (f53 16 (by decide)) 0)) ((congrFun (f79 16 (by decide)) 1).trans (congrFun (f53 16 (by decide)) 1)) ((congrFun (f79 16 (by decide)) 2).trans (congrFun (f53 16 (by decide)) 2)) ((f79 17 (by decide)).trans (f53 17 (by decide))) hI16
       have I94 : jI18 σ77 := jI18_fr ((congrFun (f79 18 (by decide)) 0).trans (congrFun (f53 18 (by decide)) 0)) ((f79 19 (by decide)).trans (f53 19 (by decide))) hI18
       have I95 : jI22 σ77 := jI22_fr ((congrFun (f79 22 (by decide)) 0).trans (congrFun (f53 22 (by decide)) 0)) ((f79 23 (by decide)).trans (f53 23 (by decide))) hI22
       have I96 : jI31 σ77 := jI31_fr (congrFun (f79 31 (by decide)) 8) (congrFun (f79 31 (by decide)) 10) (congrFun (f79 31 (by decide)) 11) (f79 33 (by decide)) (f79 35 (by decide)) (f79 36 (by decide)) I55
       have I97 : jI38 σ77 := jI38_fr ((congrFun (f79 38 (by decide)) 0).trans (congrFun (f53 38 (by decide)) 0)) ((congrFun (f79 38 (by decide)) 1).trans (congrFun (f53 38 (by decide)) 1)) ((f79 39 (by decide)).trans (f53 39 (by decide))) hI38
       have I98 : jI43 σ77 := jI43_fr ((congrFun (f79 43 (by decide)) 8).trans (congrFun (f53 43 (by decide)) 8)) hI43
       have I99 : jI47 σ77 := jI47_fr ((congrFun (f79 47 (by decide)) 0).trans (congrFun (f53 47 (by decide)) 0)) ((f79 48 (by decide)).trans (f53 48 (by decide))) ((f79 49 (by decide)).trans (f53 49 (by decide))) hI47
       have I100 : jI50 σ77 := jI50_fr ((f79 52 (by decide)).trans (f53 52 (by decide))) hI50
       have I101 : jI0 σ77 := jI0_fr ((f79 1 (by decide)).trans (f53 1 (by decide))) hI0
       have I102 : jI26 σ77 := jI26_fr ((congrFun (f79 26 (by decide)) 6).trans (congrFun (f53 26 (by decide)) 6)) hI26
       have I103 : jI101 σ77 := jI101_fr (f80 4 (by decide)) (f80 5 (by decide)) (f79 56 (by decide)) (f79 57 (by decide)) (f79 58 (by decide)) (f79 59 (by decide)) I64
       have I104 : jI102 σ77 := jI102_fr (f80 6 (by decide)) (f79 60 (by decide)) (f79 61 (by decide)) I65
       have I105 : jI103 σ77 := jI103_fr (f80 9 (by decide)) I66
       have I106 : jI104 σ77 := jI104_fr (f80 10 (by decide)) (f80 12 (by decide)) (f80 13 (by decide)) (f79 62 (by decide)) (f79 67 (by decide)) I67
       have I107 : jI105 σ77 := jI105_fr (f80 15 (by decide)) (f79 65 (by decide)) I68
       have I108 : jI106 σ77 := jI106_fr (f80 32 (by decide)) (f79 70 (by decide)) (f79 71 (by decide)) (f79 72 (by decide)) I69
       have I109 : jI107 σ77 := jI107_fr (f80 12 (by decide)) (f80 47 (by decide)) (f79 80 (by decide)) I70
       have I110 : jI109 σ77 := jI109_fr ((f80 50 (by decide)).trans (congrFun (f53 55 (by decide)) 50)) hI109
       have I111 : jI110 σ77 := jI110_fr ((f79 86 (by decide)).trans (f53 86 (by decide))) ((f79 87 (by decide)).trans (f53 87 (by decide))) hI110
       have I112 : jI111 σ77 := jI111_fr ((f79 79 (by decide)).trans (f53 79 (by decide))) hI111
       have p113 : jNd12 σ77 := jNd12.fr ((congrFun (f79 12 (by decide)) 0).trans (congrFun (f53 12 (by decide)) 0)) ((congrFun (f79 12 (by decide)) 1).trans (congrFun (f53 12 (by decide)) 1)) ((f79 13 (by decide)).trans (f53 13 (by decide))) hs_jNd12
       have p114 : jN67 σ77 := jN67.fr (f79 24 (by decide)) p57
       have p115 : jBl σ77 := jBl.fr (congrFun (f79 22 (by decide)) 0) (congrFun (f79 22 (by decide)) 1) (f79 23 (by decide)) (congrFun (f79 26 (by decide)) 6) (congrFun (f79 26 (by decide)) 7) (f79 29 (by decide)) (f79 30 (by decide)) p58
       have p116 : jKb σ77 := jKb.fr (congrFun (f79 31 (by decide)) 8) (congrFun (f79 31 (by decide)) 11) (f79 32 (by decide)) p59
       have p117 : jKh σ77 := jKh.fr (congrFun (f79 31 (by decide)) 8) (f79 32 (by decide)) (f79 36 (by decide)) (f79 37 (by decide)) p60
       have p118 : jKg σ77 := jKg.fr (congrFun (f79 31 (by decide)) 8) (congrFun (f79 31 (by decide)) 9) (congrFun (f79 31 (by decide)) 11) (congrFun (f79 31 (by decide)) 12) (f79 32 (by decide)) (f79 33 (by decide)) p61
       have p119 : jNz σ77 := jNz.fr (f79 34 (by decide)) p62
       have z120 : (σ77 2 0).toInt = (σ 2 0).toInt := (congrArg Int32.toInt (show σ77 2 0 = (σ 2 0) from ((congrFun (f79 2 (by decide)) 0).trans (congrFun (f53 2 (by decide)) 0))))
       have z121 : (σ77 55 6).toInt = (σ 55 6).toInt := (congrArg Int32.toInt (show σ77 55 6 = (σ 55 6) from ((f80 6 (by decide)).trans (congrFun (f53 55 (by decide)) 6))))
       have z122 : (σ77 2 2).toInt = (σ 2 2).toInt := (congrArg Int32.toInt (show σ77 2 2 = (σ 2 2) from ((congrFun (f79 2 (by decide)) 2).trans (congrFun (f53 2 (by decide)) 2))))
       have z123 : (σ77 55 5).toInt = (σ 55 5).toInt := (congrArg Int32.toInt (show σ77 55 5 = (σ 55 5) from ((f80 5 (by decide)).trans (congrFun (f53 55 (by decide)) 5))))
       have z124 : (σ77 2 3).toInt = (σ 2 3).toInt := (congrArg Int32.toInt (show σ77 2 3 = (σ 2 3) from ((congrFun (f79 2 (by decide)) 3).trans (congrFun (f53 2 (by decide)) 3))))
       have z125 : (σ77 55 4).toInt = (σ 55 4).toInt := (congrArg Int32.toInt (show σ77 55 4 = (σ 55 4) from ((f80 4 (by decide)).trans (congrFun (f53 55 (by decide)) 4))))
       have z126 : (σ77 9 0).toInt = (σ 9 0).toInt := (congrArg Int32.toInt (show σ77 9 0 = (σ 9 0) from ((congrFun (f79 9 (by decide)) 0).trans (congrFun (f53 9 (by decide)) 0))))
       have z127 : (σ77 55 15).toInt = (σ 55 15).toInt := (congrArg Int32.toInt (show σ77 55 15 = (σ 55 15) from ((f80 15 (by decide)).trans (congrFun (f53 55 (by decide)) 15))))
       have z128 : (σ77 16 0).toInt = (σ 16 0).toInt := (congrArg Int32.toInt (show σ77 16 0 = (σ 16 0) from ((congrFun (f79 16 (by decide)) 0).trans (congrFun (f53 16 (by decide)) 0))))
       have z129 : (σ77 55 10).toInt = (σ 55 10).toInt := (congrArg Int32.toInt (show σ77 55 10 = (σ 55 10) from ((f80 10 (by decide)).trans (congrFun (f53 55 (by decide)) 10))))
       have z130 : (σ77 16 1).toInt = (σ 16 1).toInt := (congrArg Int32.toInt (show σ77 16 1 = (σ 16 1) from ((congrFun (f79 16 (by decide)) 1).trans (congrFun (f53 16 (by decide)) 1))))
       have z131 : (σ77 55 12).toInt = (σ 55 12).toInt := (congrArg Int32.toInt (show σ77 55 12 = (σ 55 12) from ((f80 12 (by decide)).trans (congrFun (f53 55 (by decide)) 12))))
       have z132 : (σ77 16 2).toInt = (σ 16 2).toInt := (congrArg Int32.toInt (show σ77 16 2 = (σ 16 2) from ((congrFun (f79 16 (by decide)) 2).trans (congrFun (f53 16 (by decide)) 2))))
       have z133 : (σ77 55 13).toInt = (σ 55 13).toInt := (congrArg Int32.toInt (show σ77 55 13 = (σ 55 13) from ((f80 13 (by decide)).trans (congrFun (f53 55 (by decide)) 13))))
       have z134 : (σ77 38 0).toInt = (σ 38 0).toInt := (congrArg Int32.toInt (show σ77 38 0 = (σ 38 0) from ((congrFun (f79 38 (by decide)) 0).trans (congrFun (f53 38 (by decide)) 0))))
       have z135 : (σ77 55 32).toInt = (σ 55 32).toInt := (congrArg Int32.toInt (show σ77 55 32 = (σ 55 32) from ((f80 32 (by decide)).trans (congrFun (f53 55 (by decide)) 32))))
       have z136 : (σ77 38 1).toInt = (σ 38 1).toInt := (congrArg Int32.toInt (show σ77 38 1 = (σ 38 1) from ((congrFun (f79 38 (by decide)) 1).trans (congrFun (f53 38 (by decide)) 1))))
       have z137 : (σ77 55 55).toInt = (σ 55 55).toInt := (congrArg Int32.toInt (show σ77 55 55 = (σ 55 55) from ((f80 55 (by decide)).trans (congrFun (f53 55 (by decide)) 55))))
       have z138 : (σ77 47 0).toInt = (σ 47 0).toInt := (congrArg Int32.toInt (show σ77 47 0 = (σ 47 0) from ((congrFun (f79 47 (by decide)) 0).trans (congrFun (f53 47 (by decide)) 0))))
       have z139 : (σ77 55 47).toInt = (σ 55 47).toInt := (congrArg Int32.toInt (show σ77 55 47 = (σ 55 47) from ((f80 47 (by decide)).trans (congrFun (f53 55 (by decide)) 47))))
       have z140 : (σ77 55 30).toInt = (σ 55 30).toInt := (congrArg Int32.toInt (show σ77 55 30 = (σ 55 30) from ((f80 30 (by decide)).trans (congrFun (f53 55 (by decide)) 30))))
       have z141 : (σ77 55 31).toInt = (σ 55 31).toInt := (congrArg Int32.toInt (show σ77 55 31 = (σ 55 31) from ((f80 31 (by decide)).trans (congrFun (f53 55 (by decide)) 31))))
       have z142 : (σ77 2 1).toInt = (σ 2 1).toInt := (congrArg Int32.toInt (show σ77 2 1 = (σ 2 1) from ((congrFun (f79 2 (by decide)) 1).trans (congrFun (f53 2 (by decide)) 1))))
       have z143 : (σ77 55 9).toInt = (σ 55 9).toInt := (congrArg Int32.toInt (show σ77 55 9 = (σ 55 9) from ((f80 9 (by decide)).trans (congrFun (f53 55 (by decide)) 9))))
       have z144 : (σ77 26 6).toInt = (σ 26 6).toInt := (congrArg Int32.toInt (show σ77 26 6 = (σ 26 6) from ((congrFun (f79 26 (by decide)) 6).trans (congrFun (f53 26 (by decide)) 6))))
       have z146 : (σ77 18 0).toInt = (σ 18 0).toInt := (congrArg Int32.toInt (show σ77 18 0 = (σ 18 0) from ((congrFun (f79 18 (by decide)) 0).trans (congrFun (f53 18 (by decide)) 0))))
       have z147 : (σ77 22 0).toInt = (σ 22 0).toInt := (congrArg Int32.toInt (show σ77 22 0 = (σ 22 0) from ((congrFun (f79 22 (by decide)) 0).trans (congrFun (f53 22 (by decide)) 0))))
       exact by exact ih x89 σ77 τ _ _ ls (by have h9 := tx89; omega) ⟨I90, I91, I92, I93, I94, I95, I96, I97, I98, I99, I100, I101, I102, I103, I104, I105, I106, I107, I108, I109, I110, I111, I112, I81, p82, p83, p113, p114, p115, p116, p84, p117, p118, p119, p85, (by rw [z120, z121]; exact ht0), (by rw [z122, z123]; exact ht1), (by rw [z122, z124, z125]; exact ht2), (by rw [z126, z127]; exact ht3), (by rw [z128, z129]; exact ht4), (by rw [z130, z131]; exact ht5), (by rw [z132, z133]; exact ht6), (by rw [z134, z135]; exact ht7), (by rw [z136, z137]; exact ht8), (by rw [z138, z139]; exact ht9), (by rw [z140]; exact ht10), (by rw [z141]; exact ht11), (by rw [z142, z143]; exact ht12), (by omega), (by have h9 := tx89; omega), (by have h9 := tx89; omega), (show jNumP (σ77 3) (σ77 56) (σ77 6) (σ77 57) (σ77 7) (σ77 58) (σ77 8) (σ77 59) (σ77 55 6).toInt (σ77 55 4).toInt by rw [show σ77 3 = σ 3 from ((f79 3 (by decide)).trans (f53 3 (by decide))), show σ77 56 = σ 56 from ((f79 56 (by decide)).trans (f53 56 (by decide))), show σ77 6 = σ 6 from ((f79 6 (by decide)).trans (f53 6 (by decide))), show σ77 57 = σ 57 from ((f79 57 (by decide)).trans (f53 57 (by decide))), show σ77 7 = σ 7 from ((f79 7 (by decide)).trans (f53 7 (by decide))), show σ77 58 = σ 58 from ((f79 58 (by decide)).trans (f53 58 (by decide))), show σ77 8 = σ 8 from ((f79 8 (by decide)).trans (f53 8 (by decide))), show σ77 59 = σ 59 from ((f79 59 (by decide)).trans (f53 59 (by decide))), show (σ77 55 6).toInt = (σ 55 6).toInt from z121, show (σ77 55 4).toInt = (σ 55 4).toInt from z125]; exact hr0), (show jOvP (σ77 56) (σ77 57) (σ77 58) (σ77 59) (σ77 55 4).toInt by rw [show σ77 56 = σ 56 from ((f79 56 (by decide)).trans (f53 56 (by decide))), show σ77 57 = σ 57 from ((f79 57 (by decide)).trans (f53 57 (by decide))), show σ77 58 = σ 58 from ((f79 58 (by decide)).trans (f53 58 (by decide))), show σ77 59 = σ 59 from ((f79 59 (by decide)).trans (f53 59 (by decide))), show (σ77 55 4).toInt = (σ 55 4).toInt from z125]; exact hr1), (show jTp (σ77 10) (σ77 63) (σ77 55 15).toInt by rw [show σ77 10 = σ 10 from ((f79 10 (by decide)).trans (f53 10 (by decide))), show σ77 63 = σ 63 from ((f79 63 (by decide)).trans (f53 63 (by decide)))]; exact hr2.le (by omega)), (show jSo (σ77 17) (σ77 62) (σ77 16 0).toInt by rw [show σ77 17 = σ 17 from ((f79 17 (by decide)).trans (f53 17 (by decide))), show σ77 62 = σ 62 from ((f79 62 (by decide)).trans (f53 62 (by decide))), show (σ77 16 0).toInt = (σ 16 0).toInt from z128]; exact hr3), (show jShP (σ77 51) (σ77 52) (σ77 53) (σ77 86) (σ77 87) (σ77 55 32).toInt by rw [show σ77 51 = σ 51 from ((f79 51 (by decide)).trans (f53 51 (by decide))), show σ77 52 = σ 52 from ((f79 52 (by decide)).trans (f53 52 (by decide))), show σ77 53 = σ 53 from ((f79 53 (by decide)).trans (f53 53 (by decide))), show σ77 86 = σ 86 from ((f79 86 (by decide)).trans (f53 86 (by decide))), show σ77 87 = σ 87 from ((f79 87 (by decide)).trans (f53 87 (by decide)))]; exact (hr4.up (by omega) (by omega))), (show jEl (σ77 51) (σ77 52) (τ 54) (τ 88) by rw [show σ77 51 = σ 51 from ((f79 51 (by decide)).trans (f53 51 (by decide))), show σ77 52 = σ 52 from ((f79 52 (by decide)).trans (f53 52 (by decide)))]; exact hr5), (show jByP (σ77 51) (σ77 52) (τ 54) by rw [show σ77 51 = σ 51 from ((f79 51 (by decide)).trans (f53 51 (by decide))), show σ77 52 = σ 52 from ((f79 52 (by decide)).trans (f53 52 (by decide)))]; exact hr6), (show jBk (σ77 48) (σ77 80) (σ77 49) (σ77 81) (σ77 55 47).toInt by rw [show σ77 48 = σ 48 from ((f79 48 (by decide)).trans (f53 48 (by decide))), show σ77 49 = σ 49 from ((f79 49 (by decide)).trans (f53 49 (by decide))), show σ77 80 = σ 80 from ((f79 80 (by decide)).trans (f53 80 (by decide))), show σ77 81 = σ 81 from ((f79 81 (by decide)).trans (f53 81 (by decide))), show (σ77 55 47).toInt = (σ 55 47).toInt from z139]; exact hr7), (show jKd (σ77 39) (σ77 70) (σ77 55 32).toInt by rw [show σ77 39 = σ 39 from ((f79 39 (by decide)).trans (f53 39 (by decide))), show σ77 70 = σ 70 from ((f79 70 (by decide)).trans (f53 70 (by decide))), show (σ77 55 32).toInt = (σ 55 32).toInt from z135]; exact hr8), (show jTt (σ77 42) (σ77 85) (σ77 55 55).toInt by rw [show σ77 42 = σ 42 from ((f79 42 (by decide)).trans (f53 42 (by decide))), show σ77 85 = σ 85 from ((f79 85 (by decide)).trans (f53 85 (by decide))), show (σ77 55 55).toInt = (σ 55 55).toInt from z137]; exact hr9), (fun k hk => by rw [show σ77 4 = σ 4 from ((f79 4 (by decide)).trans (f53 4 (by decide))), show σ77 5 = σ 5 from ((f79 5 (by decide)).trans (f53 5 (by decide))), show σ77 60 = σ 60 from ((f79 60 (by decide)).trans (f53 60 (by decide))), show σ77 61 = σ 61 from ((f79 61 (by decide)).trans (f53 61 (by decide)))]; exact hr10 k (by omega)), (fun nm => by rw [show σ77 19 = σ 19 from ((f79 19 (by decide)).trans (f53 19 (by decide))), show σ77 64 = σ 64 from ((f79 64 (by decide)).trans (f53 64 (by decide))), show σ77 65 = σ 65 from ((f79 65 (by decide)).trans (f53 65 (by decide))), show (σ77 18 0).toInt = (σ 18 0).toInt from z146]; exact hr11 nm), (fun nm => by rw [show σ77 23 = σ 23 from ((f79 23 (by decide)).trans (f53 23 (by decide))), show σ77 64 = σ 64 from ((f79 64 (by decide)).trans (f53 64 (by decide))), show σ77 65 = σ 65 from ((f79 65 (by decide)).trans (f53 65 (by decide))), show (σ77 22 0).toInt = (σ 22 0).toInt from z147]; exact hr12 nm), (show jAlP (σ77 56) (σ77 57) (σ77 58) (σ77 59) (σ77 55 4).toInt by rw [show σ77 56 = σ 56 from ((f79 56 (by decide)).trans (f53 56 (by decide))), show σ77 57 = σ 57 from ((f79 57 (by decide)).trans (f53 57 (by decide))), show σ77 58 = σ 58 from ((f79 58 (by decide)).trans (f53 58 (by decide))), show σ77 59 = σ 59 from ((f79 59 (by decide)).trans (f53 59 (by decide))), show (σ77 55 4).toInt = (σ 55 4).toInt from z125]; exact hr13), (show jqbN (σ77 80) (σ77 55 47).toInt by rw [show σ77 80 = σ 80 from ((f79 80 (by decide)).trans (f53 80 (by decide))), show (σ77 55 47).toInt = (σ 55 47).toInt from z139]; exact hr14)⟩ hP hS (lv_sub hl [0, 1, 2, 3] rfl)
set_option maxHeartbeats 4000000 in
set_option maxRecDepth 100000 in
theorem law_case_23 {p : Program} {e : Env} {s : State} {m : MethodId} {below : List Frame} {meth : Method} {c : Code} (l : Launch) {b L : Nat} {xs : Nat → Int32} {D : va_G} {cI cL : ClassId} {ad zz : Nat → Nat} (C0 : lw_At p s m meth c b L xs) (hJ : jD ad) (hA : ∀ q, jA ad q → s.heap.size ≤ q) (hK : jK D cI cL s) (hZ : jZ zz (fun q : Nat => s.heap.size ≤ q) s s.heap) {x0 : Int32} (hx0 : 0 ≤ x0.toInt) (hxL : x0.toInt + 6 ≤ (L : Int)) (hL : L ≤ 384) {σ : Nat → Nat → Int32} {τ : Nat → Nat → Int64} {H : Heap} {locs : List Loc} (hS : va_S (fun q : Nat => s.heap.size ≤ q) s.heap H locs) {ls : Array Slot} (hAll : jAll x0.toInt σ τ) (hP : jH D cI cL ad σ τ H) (hl : lv_has ls 4 [(3, .int x0), (2, .ref (ad 55)), (1, .ref (ad 0)), (0, .ref b)]) (ih : ∀ (x1 : Int32) (σ : Nat → Nat → Int32) (τ : Nat → Nat → Int64) (H : Heap) (locs : List Loc) (ls : Array Slot), x1.toInt = x0.toInt + 6 → jAll x1.toInt σ τ → jH D cI cL ad σ τ H → va_S (fun q : Nat => s.heap.size ≤ q) s.heap H locs → lv_has ls 4 [(3, .int x1), (2, .ref (ad 55)), (1, .ref (ad 0)), (0, .ref b)] → W p l e room_1 s m #[Value.ref b] below meth c H locs 90 348600 (lw_Z below #[Value.ref b] s) (F0 m 18 ls [])) : W p l e room_1 s m #[Value.ref b] below meth c H locs 90 348600 (lw_Z below #[Value.ref b] s) (F0 m 875 ls []) := by
  obtain ⟨hx, hb, hr, hml, hown, hts0, hX, hbl, hlocks, hgv⟩ := C0
  have hts : ∀ w ∈ wsL_law, w.before #[Value.ref b] s = true := fun w h => hts0 w (wsL_law_in w h)
  have hbA : ¬ (fun q : Nat => s.heap.size ≤ q) b := Nat.not_le.mpr hbl
  have hown : s.vm.findClass RL = some m.cls := hown
  obtain ⟨hI2, hI9, hI12, hI16, hI18, hI22, hI31, hI38, hI43, hI47, hI50, hI0, hI26, hI101, hI102, hI103, hI104, hI105, hI106, hI107, hI109, hI110, hI111, hI119, hs_jKept, hs_jBook, hs_jNd12, hs_jN67, hs_jBl, hs_jKb, hs_jTR, hs_jKh, hs_jKg, hs_jNz, hs_jqSt, ht0, ht1, ht2, ht3, ht4, ht5, ht6, ht7, ht8, ht9, ht10, ht11, ht12, ht13, ht14, ht15, hr0, hr1, hr2, hr3, hr4, hr5, hr6, hr7, hr8, hr9, hr10, hr11, hr12, hr13, hr14⟩ := hAll
  have hL9 : (L : Int) ≤ 384 := by omega
  obtain ⟨i1, i2, i3, i4, i5, w6, w7⟩ : (0 ≤ (σ 2 0).toInt ∧ (σ 2 0).toInt ≤ 4) ∧ (0 ≤ (σ 2 1).toInt ∧ (σ 2 1).toInt ≤ 3) ∧ (0 ≤ (σ 2 2).toInt) ∧ (0 ≤ (σ 2 3).toInt) ∧ ((σ 2 2).toInt + (σ 2 3).toInt ≤ 40) ∧ (∀ k : Nat, k < 40 → 0 ≤ (σ 6 k).toInt ∧ (σ 6 k).toInt ≤ 67) ∧ (∀ k : Nat, k < 4 → 0 ≤ (σ 5 k).toInt ∧ (σ 5 k).toInt ≤ 20) := id hI2
  obtain ⟨i8, w9, w10⟩ : (0 ≤ (σ 9 0).toInt ∧ (σ 9 0).toInt ≤ 80) ∧ (∀ k : Nat, k < 80 → 0 ≤ (σ 10 k).toInt ∧ (σ 10 k).toInt ≤ 255) ∧ (∀ k : Nat, k < 8 → 0 ≤ (σ 11 k).toInt ∧ (σ 11 k).toInt ≤ 3) := id hI9
  obtain ⟨i11, i12, i13, w14⟩ : (1 ≤ (σ 16 0).toInt ∧ (σ 16 0).toInt ≤ 8) ∧ (1 ≤ (σ 16 1).toInt ∧ (σ 16 1).toInt ≤ 12) ∧ (0 ≤ (σ 16 2).toInt ∧ (σ 16 2).toInt ≤ 999) ∧ (∀ k : Nat, k < 8 → 0 ≤ (σ 17 k).toInt ∧ (σ 17 k).toInt ≤ 3) := id hI16
  obtain ⟨i15, i16, w17⟩ : (0 ≤ (σ 38 0).toInt ∧ (σ 38 0).toInt ≤ 20) ∧ (0 ≤ (σ 38 1).toInt ∧ (σ 38 1).toInt ≤ 1000) ∧ (∀ k : Nat, k < 20 → 0 ≤ (σ 39 k).toInt ∧ (σ 39 k).toInt ≤ 6) := id hI38
  obtain ⟨i18, w19, w20⟩ : (0 ≤ (σ 47 0).toInt ∧ (σ 47 0).toInt ≤ 12) ∧ (∀ k : Nat, k < 12 → 0 ≤ (σ 48 k).toInt ∧ (σ 48 k).toInt ≤ 3) ∧ (∀ k : Nat, k < 12 → 0 ≤ (σ 49 k).toInt ∧ (σ 49 k).toInt ≤ 1) := id hI47
  have w21 : ∀ k : Nat, k < 6 → 0 ≤ (σ 52 k).toInt ∧ (σ 52 k).toInt ≤ 60 := hI50
  have i22 : 1 ≤ (σ 26 6).toInt ∧ (σ 26 6).toInt ≤ 8000 := hI26
  obtain ⟨i23, i24, i25, w26, w27, w28, w29⟩ : (0 ≤ (σ 55 5).toInt) ∧ ((σ 55 5).toInt ≤ (σ 55 4).toInt) ∧ ((σ 55 4).toInt ≤ 40) ∧ (∀ k : Nat, k < 68 → (-200) ≤ (σ 56 k).toInt ∧ (σ 56 k).toInt ≤ 500) ∧ (∀ k : Nat, k < 40 → 0 ≤ (σ 57 k).toInt ∧ (σ 57 k).toInt ≤ 67) ∧ (∀ k : Nat, k < 40 → (-200) ≤ (σ 58 k).toInt ∧ (σ 58 k).toInt ≤ 500) ∧ (∀ k : Nat, k < 40 → (-200) ≤ (σ 59 k).toInt ∧ (σ 59 k).toInt ≤ 500) := id hI101
  obtain ⟨i30, w31, w32⟩ : (0 ≤ (σ 55 6).toInt ∧ (σ 55 6).toInt ≤ 4) ∧ (∀ k : Nat, k < 4 → 0 ≤ (σ 60 k).toInt ∧ (σ 60 k).toInt ≤ 50) ∧ (∀ k : Nat, k < 4 → 0 ≤ (σ 61 k).toInt ∧ (σ 61 k).toInt ≤ 20) := id hI102
  have i33 : 0 ≤ (σ 55 9).toInt ∧ (σ 55 9).toInt ≤ 3 := hI103
  obtain ⟨i34, i35, i36, w37, w38⟩ : (1 ≤ (σ 55 10).toInt ∧ (σ 55 10).toInt ≤ 8) ∧ (1 ≤ (σ 55 12).toInt ∧ (σ 55 12).toInt ≤ 12) ∧ (0 ≤ (σ 55 13).toInt ∧ (σ 55 13).toInt ≤ 999) ∧ (∀ k : Nat, k < 8 → 0 ≤ (σ 62 k).toInt ∧ (σ 62 k).toInt ≤ 3) ∧ (∀ k : Nat, k < 8 → 0 ≤ (σ 67 k).toInt ∧ (σ 67 k).toInt ≤ 3) := id hI104
  obtain ⟨i39, w40⟩ : (0 ≤ (σ 55 15).toInt ∧ (σ 55 15).toInt ≤ 80) ∧ (∀ k : Nat, k < 2 → (-1) ≤ (σ 65 k).toInt ∧ (σ 65 k).toInt ≤ 80) := id hI105
  obtain ⟨i41, w42, w43, w44⟩ : (0 ≤ (σ 55 32).toInt ∧ (σ 55 32).toInt ≤ 20) ∧ (∀ k : Nat, k < 20 → 0 ≤ (σ 70 k).toInt ∧ (σ 70 k).toInt ≤ 6) ∧ (∀ k : Nat, k < 20 → 0 ≤ (σ 71 k).toInt ∧ (σ 71 k).toInt ≤ 8) ∧ (∀ k : Nat, k < 160 → 0 ≤ (σ 72 k).toInt ∧ (σ 72 k).toInt ≤ 3) := id hI106
  obtain ⟨i45, i46, w47⟩ : (0 ≤ (σ 55 47).toInt ∧ (σ 55 47).toInt ≤ 12) ∧ ((σ 55 47).toInt ≤ (σ 55 12).toInt) ∧ (∀ k : Nat, k < 12 → 0 ≤ (σ 80 k).toInt ∧ (σ 80 k).toInt ≤ 3) := id hI107
  have hs_jOk3 : jOk3 σ := hr0.ok hr1.1
  refine lv_aload_n hx hb dL_law_875 rfl (lv_at hl 2 rfl) ?_
  refine lv_aload_n hx hb dL_law_876 rfl (lv_at hl 3 rfl) ?_
  refine lv_iload_n hx hb dL_law_877 rfl (lv_at hl 0 rfl) ?_
  refine lv_iconst (v := 1) hx hb dL_law_878 (by decide) ?_
  have g48 := jrg (rfl : x0.toInt = x0.toInt)
  refine lv_iadd hx hb dL_law_879 ?_
  refine lv_topi (fun x49 ex49 => ?_)
  exact by
   have tx49 : x49.toInt = x0.toInt + 1 := (jadd ex49 rfl jz_1 (by omega) (by omega)).trans (by omega)
   refine va_sld hx hb hX hbl hbA hS (jin tx49 (by omega) (by omega)) dL_law_880 ?_
   have g50 := jrg (rfl : (xs x49.toNatClampNeg).toInt = (xs x49.toNatClampNeg).toInt)
   refine jcallV (As := [.int (xs x49.toNatClampNeg)]) (rest := []) ⟨hx, hb, hml, hown, hts⟩ hK hP hA hS hZ (c_X11_lost l D cI cL ad zz hJ σ τ (xs x49.toNatClampNeg) ((xs x49.toNatClampNeg).toInt) rfl hI2 hI16 hI22 hI31 hI47 hI26 hs_jOk3 hs_jN67 hs_jBl hs_jKb hs_jKh hs_jKg hs_jNz) cw_RL_109 (jc_0 cI cL ad σ τ) rfl ⟨Nat.le_of_ble_eq_true rfl, Nat.le_of_ble_eq_true rfl⟩ rfl rfl rfl hl.1 rfl (Nat.le_of_ble_eq_true rfl) dL_law_881 ⟨Nat.le_of_ble_eq_true rfl, Nat.le_of_ble_eq_true rfl⟩ (fun r52 σ51 τ51 H locs h51 hP hS => ?_)
   obtain ⟨rfl, f53, f54, I55, p56, p57, p58, p59, p60, p61, p62, h51⟩ := h51
   refine lv_pop hx hb dL_law_884 rfl ?_
   refine lv_aload_n hx hb dL_law_885 rfl (lv_at hl 1 rfl) ?_
   refine lv_aload_n hx hb dL_law_886 rfl (lv_at hl 3 rfl) ?_
   refine lv_iload_n hx hb dL_law_887 rfl (lv_at hl 0 rfl) ?_
   exact by
    refine lv_iconst (v := 1) hx hb dL_law_888 (by decide) ?_
    refine lv_iadd hx hb dL_law_889 ?_
    refine jtopr ex49.symm ?_
    refine va_sld hx hb hX hbl hbA hS (jin tx49 (by omega) (by omega)) dL_law_890 ?_
    have I64 : jI101 σ51 := jI101_fr (congrFun (f53 55 (by decide)) 4) (congrFun (f53 55 (by decide)) 5) (f53 56 (by decide)) (f53 57 (by decide)) (f53 58 (by decide)) (f53 59 (by decide)) hI101
    have I65 : jI102 σ51 := jI102_fr (congrFun (f53 55 (by decide)) 6) (f53 60 (by decide)) (f53 61 (by decide)) hI102
    have I66 : jI103 σ51 := jI103_fr (congrFun (f53 55 (by decide)) 9) hI103
    have I67 : jI104 σ51 := jI104_fr (congrFun (f53 55 (by decide)) 10) (congrFun (f53 55 (by decide)) 12) (congrFun (f53 55 (by decide)) 13) (f53 62 (by decide)) (f53 67 (by decide)) hI104
    have I68 : jI105 σ51 := jI105_fr (congrFun (f53 55 (by decide)) 15) (f53 65 (by decide)) hI105
    exact by
     have I69 : jI106 σ51 := jI106_fr (congrFun (f53 55 (by decide)) 32) (f53 70 (by decide)) (f53 71 (by decide)) (f53 72 (by decide)) hI106
     have I70 : jI107 σ51 := jI107_fr (congrFun (f53 55 (by decide)) 12) (congrFun (f53 55 (by decide)) 47) (f53 80 (by decide)) hI107
     have I71 : jI119 σ51 := jI119_fr (f53 68 (by decide)) hI119
     have p72 : jKept σ51 := jKept.fr (f53 75 (by decide)) (f53 76 (by decide)) (f53 77 (by decide)) hs_jKept
     have p73 : jBook σ51 := jBook.fr (congrFun (f53 55 (by decide)) 47) (congrFun (f53 55 (by decide)) 10) (f53 81 (by decide)) hs_jBook
     have p74 : jTR σ51 := jTR.fr (f53 64 (by decide)) (f53 65 (by decide)) hs_jTR
     have p75 : jqSt σ51 := jqSt.fr (f53 78 (by decide)) (congrFun (f53 55 (by decide)) 42) hs_jqSt
     have z76 : (σ51 55 42).toInt = (σ 55 42).toInt := (congrArg Int32.toInt (show σ51 55 42 = (σ 55 42) from (congrFun (f53 55 (by decide)) 42)))
     refine jcallV (As := [.int (xs x49.toNatClampNeg)]) (rest := []) ⟨hx, hb, hml, hown, hts⟩ hK hP hA hS hZ (c_X12_lost l D cI cL ad zz hJ σ51 τ (xs x49.toNatClampNeg) ((xs x49.toNatClampNeg).toInt) rfl I64 I65 I66 I67 I68 I69 I70 I71 p72 p73 p74 p75 (by omega)) cw_RL_112 (jc_55 cI cL ad σ51 τ) rfl ⟨Nat.le_of_ble_eq_true rfl, Nat.le_of_ble_eq_true rfl⟩ rfl rfl rfl hl.1 rfl (Nat.le_of_ble_eq_true rfl) dL_law_891 ⟨Nat.le_of_ble_eq_true rfl, Nat.le_of_ble_eq_true rfl⟩ (fun r78 σ77 τ77 H locs h77 hP hS => ?_)
     exact by
      obtain ⟨rfl, f79, f80, I81, p82, p83, p84, p85, h77⟩ := h77
      obtain ⟨k87, k88, h77⟩ := h77
      refine lv_pop hx hb dL_law_894 rfl ?_
      refine lv_goto (tgt := 1357) hx hb dL_law_895 (by decide) ?_
      obtain ⟨x89, ex89⟩ : ∃ y : Int32, y = x0 + 6 := ⟨_, rfl⟩
      have tx89 : x89.toInt = x0.toInt + 6 := (jadd ex89 rfl jz_6 (by omega) (by omega)).trans (by omega)
      refine lv_iinc (v := x89) (lv' := [(3, .int x89), (2, .ref (ad 55)), (1, .ref (ad 0)), (0, .ref b)]) hx hb dL_law_1357 hl (k := 0) rfl (by rw [ex89]; rfl) (by decide) rfl (fun ls hl => ?_)
      refine lv_goto (tgt := 18) hx hb dL_law_1360 (by decide) ?_
      have I90 : jI2 σ77 := jI2_fr ((congrFun (f79 2 (by decide)) 0).trans (congrFun (f53 2 (by decide)) 0)) ((congrFun (f79 2 (by decide)) 1).trans (congrFun (f53 2 (by decide)) 1)) ((congrFun (f79 2 (by decide)) 2).trans (congrFun (f53 2 (by decide)) 2)) ((congrFun (f79 2 (by decide)) 3).trans (congrFun (f53 2 (by decide)) 3)) ((f79 6 (by decide)).trans (f53 6 (by decide))) ((f79 5 (by decide)).trans (f53 5 (by decide))) hI2
      exact by
       have I91 : jI9 σ77 := jI9_fr ((congrFun (f79 9 (by decide)) 0).trans (congrFun (f53 9 (by decide)) 0)) ((f79 10 (by decide)).trans (f53 10 (by decide))) ((f79 11 (by decide)).trans (f53 11 (by decide))) hI9
       have I92 : jI12 σ77 := jI12_fr ((congrFun (f79 12 (by decide)) 0).trans (congrFun (f53 12 (by decide)) 0)) ((f79 13 (by decide)).trans (f53 13 (by decide))) hI12
       have I93 : jI16 σ77 := jI16_fr ((congrFun (f79 16 (by decide)) 0).trans (congrFun (f53 16 (by decide)) 0)) ((congrFun (f79 16 (by decide)) 1).trans (congrFun (f53 16 (by decide)) 1)) ((congrFun (f79 16 (by decide)) 2).trans (congrFun (f53 16 (by decide)) 2)) ((f79 17 (by decide)).trans (f53 17 (by decide))) hI16
       have I94 : jI18 σ77 := jI18_fr ((congrFun (f79 18 (by decide)) 0).trans (congrFun (f53 18 (by decide)) 0)) ((f79 19 (by decide)).trans (f53 19 (by decide))) hI18
       have I95 : jI22 σ77 := jI22_fr ((congrFun (f79 22 (by decide)) 0).trans (congrFun (f53 22 (by decide)) 0)) ((f79 23 (by decide)).trans (f53 23 (by decide))) hI22
       have I96 : jI31 σ77 := jI31_fr (congrFun (f79 31 (by decide)) 8) (congrFun (f79 31 (by decide)) 10) (congrFun (f79 31 (by decide)) 11) (f79 33 (by decide)) (f79 35 (by decide)) (f79 36 (by decide)) I55
       have I97 : jI38 σ77 := jI38_fr ((congrFun (f79 38 (by decide)) 0).trans (congrFun (f53 38 (by decide)) 0)) ((congrFun (f79 38 (by decide)) 1).trans (congrFun (f53 38 (by decide)) 1)) ((f79 39 (by decide)).trans (f53 39 (by decide))) hI38
       have I98 : jI43 σ77 := jI43_fr ((congrFun (f79 43 (by decide)) 8).trans (congrFun (f53 43 (by decide)) 8)) hI43
       have I99 : jI47 σ77 := jI47_fr ((congrFun (f79 47 (by decide)) 0).trans (congrFun (f53 47 (by decide)) 0)) ((f79 48 (by decide)).trans (f53 48 (by decide))) ((f79 49 (by decide)).trans (f53 49 (by decide))) hI47
       have I100 : jI50 σ77 := jI50_fr ((f79 52 (by decide)).trans (f53 52 (by decide))) hI50
       have I101 : jI0 σ77 := jI0_fr ((f79 1 (by decide)).trans (f53 1 (by decide))) hI0
       have I102 : jI26 σ77 := jI26_fr ((congrFun (f79 26 (by decide)) 6).trans (congrFun (f53 26 (by decide)) 6)) hI26
       have I103 : jI101 σ77 := jI101_fr (f80 4 (by decide)) (f80 5 (by decide)) (f79 56 (by decide)) (f79 57 (by decide)) (f79 58 (by decide)) (f79 59 (by decide)) I64
       have I104 : jI102 σ77 := jI102_fr (f80 6 (by decide)) (f79 60 (by decide)) (f79 61 (by decide)) I65
       have I105 : jI103 σ77 := jI103_fr (f80 9 (by decide)) I66
       have I106 : jI104 σ77 := jI104_fr (f80 10 (by decide)) (f80 12 (by decide)) (f80 13 (by decide)) (f79 62 (by decide)) (f79 67 (by decide)) I67
       have I107 : jI105 σ77 := jI105_fr (f80 15 (by decide)) (f79 65 (by decide)) I68
       have I108 : jI106 σ77 := jI106_fr (f80 32 (by decide)) (f79 70 (by decide)) (f79 71 (by decide)) (f79 72 (by decide)) I69
       have I109 : jI107 σ77 := jI107_fr (f80 12 (by decide)) (f80 47 (by decide)) (f79 80 (by decide)) I70
       have I110 : jI109 σ77 := jI109_fr ((f80 50 (by decide)).trans (congrFun (f53 55 (by decide)) 50)) hI109
       have I111 : jI110 σ77 := jI110_fr ((f79 86 (by decide)).trans (f53 86 (by decide))) ((f79 87 (by decide)).trans (f53 87 (by decide))) hI110
       have I112 : jI111 σ77 := jI111_fr ((f79 79 (by decide)).trans (f53 79 (by decide))) hI111
       have p113 : jNd12 σ77 := jNd12.fr ((congrFun (f79 12 (by decide)) 0).trans (congrFun (f53 12 (by decide)) 0)) ((congrFun (f79 12 (by decide)) 1).trans (congrFun (f53 12 (by decide)) 1)) ((f79 13 (by decide)).trans (f53 13 (by decide))) hs_jNd12
       have p114 : jN67 σ77 := jN67.fr (f79 24 (by decide)) p57
       have p115 : jBl σ77 := jBl.fr (congrFun (f79 22 (by decide)) 0) (congrFun (f79 22 (by decide)) 1) (f79 23 (by decide)) (congrFun (f79 26 (by decide)) 6) (congrFun (f79 26 (by decide)) 7) (f79 29 (by decide)) (f79 30 (by decide)) p58
       have p116 : jKb σ77 := jKb.fr (congrFun (f79 31 (by decide)) 8) (congrFun (f79 31 (by decide)) 11) (f79 32 (by decide)) p59
       have p117 : jKh σ77 := jKh.fr (congrFun (f79 31 (by decide)) 8) (f79 32 (by decide)) (f79 36 (by decide)) (f79 37 (by decide)) p60
       have p118 : jKg σ77 := jKg.fr (congrFun (f79 31 (by decide)) 8) (congrFun (f79 31 (by decide)) 9) (congrFun (f79 31 (by decide)) 11) (congrFun (f79 31 (by decide)) 12) (f79 32 (by decide)) (f79 33 (by decide)) p61
       have p119 : jNz σ77 := jNz.fr (f79 34 (by decide)) p62
       have z120 : (σ77 2 0).toInt = (σ 2 0).toInt := (congrArg Int32.toInt (show σ77 2 0 = (σ 2 0) from ((congrFun (f79 2 (by decide)) 0).trans (congrFun (f53 2 (by decide)) 0))))
       have z121 : (σ77 55 6).toInt = (σ 55 6).toInt := (congrArg Int32.toInt (show σ77 55 6 = (σ 55 6) from ((f80 6 (by decide)).trans (congrFun (f53 55 (by decide)) 6))))
       have z122 : (σ77 2 2).toInt = (σ 2 2).toInt := (congrArg Int32.toInt (show σ77 2 2 = (σ 2 2) from ((congrFun (f79 2 (by decide)) 2).trans (congrFun (f53 2 (by decide)) 2))))
       have z123 : (σ77 55 5).toInt = (σ 55 5).toInt := (congrArg Int32.toInt (show σ77 55 5 = (σ 55 5) from ((f80 5 (by decide)).trans (congrFun (f53 55 (by decide)) 5))))
       have z124 : (σ77 2 3).toInt = (σ 2 3).toInt := (congrArg Int32.toInt (show σ77 2 3 = (σ 2 3) from ((congrFun (f79 2 (by decide)) 3).trans (congrFun (f53 2 (by decide)) 3))))
       have z125 : (σ77 55 4).toInt = (σ 55 4).toInt := (congrArg Int32.toInt (show σ77 55 4 = (σ 55 4) from ((f80 4 (by decide)).trans (congrFun (f53 55 (by decide)) 4))))
       have z126 : (σ77 9 0).toInt = (σ 9 0).toInt := (congrArg Int32.toInt (show σ77 9 0 = (σ 9 0) from ((congrFun (f79 9 (by decide)) 0).trans (congrFun (f53 9 (by decide)) 0))))
       have z127 : (σ77 55 15).toInt = (σ 55 15).toInt := (congrArg Int32.toInt (show σ77 55 15 = (σ 55 15) from ((f80 15 (by decide)).trans (congrFun (f53 55 (by decide)) 15))))
       have z128 : (σ77 16 0).toInt = (σ 16 0).toInt := (congrArg Int32.toInt (show σ77 16 0 = (σ 16 0) from ((congrFun (f79 16 (by decide)) 0).trans (congrFun (f53 16 (by decide)) 0))))
       have z129 : (σ77 55 10).toInt = (σ 55 10).toInt := (congrArg Int32.toInt (show σ77 55 10 = (σ 55 10) from ((f80 10 (by decide)).trans (congrFun (f53 55 (by decide)) 10))))
       have z130 : (σ77 16 1).toInt = (σ 16 1).toInt := (congrArg Int32.toInt (show σ77 16 1 = (σ 16 1) from ((congrFun (f79 16 (by decide)) 1).trans (congrFun (f53 16 (by decide)) 1))))
       have z131 : (σ77 55 12).toInt = (σ 55 12).toInt := (congrArg Int32.toInt (show σ77 55 12 = (σ 55 12) from ((f80 12 (by decide)).trans (congrFun (f53 55 (by decide)) 12))))
       have z132 : (σ77 16 2).toInt = (σ 16 2).toInt := (congrArg Int32.toInt (show σ77 16 2 = (σ 16 2) from ((congrFun (f79 16 (by decide)) 2).trans (congrFun (f53 16 (by decide)) 2))))
       have z133 : (σ77 55 13).toInt = (σ 55 13).toInt := (congrArg Int32.toInt (show σ77 55 13 = (σ 55 13) from ((f80 13 (by decide)).trans (congrFun (f53 55 (by decide)) 13))))
       have z134 : (σ77 38 0).toInt = (σ 38 0).toInt := (congrArg Int32.toInt (show σ77 38 0 = (σ 38 0) from ((congrFun (f79 38 (by decide)) 0).trans (congrFun (f53 38 (by decide)) 0))))
       have z135 : (σ77 55 32).toInt = (σ 55 32).toInt := (congrArg Int32.toInt (show σ77 55 32 = (σ 55 32) from ((f80 32 (by decide)).trans (congrFun (f53 55 (by decide)) 32))))
       have z136 : (σ77 38 1).toInt = (σ 38 1).toInt := (congrArg Int32.toInt (show σ77 38 1 = (σ 38 1) from ((congrFun (f79 38 (by decide)) 1).trans (congrFun (f53 38 (by decide)) 1))))
       have z137 : (σ77 55 55).toInt = (σ 55 55).toInt := (congrArg Int32.toInt (show σ77 55 55 = (σ 55 55) from ((f80 55 (by decide)).trans (congrFun (f53 55 (by decide)) 55))))
       have z138 : (σ77 47 0).toInt = (σ 47 0).toInt := (congrArg Int32.toInt (show σ77 47 0 = (σ 47 0) from ((congrFun (f79 47 (by decide)) 0).trans (congrFun (f53 47 (by decide)) 0))))
       have z139 : (σ77 55 47).toInt = (σ 55 47).toInt := (congrArg Int32.toInt (show σ77 55 47 = (σ 55 47) from ((f80 47 (by decide)).trans (congrFun (f53 55 (by decide)) 47))))
       have z140 : (σ77 55 30).toInt = (σ 55 30).toInt := (congrArg Int32.toInt (show σ77 55 30 = (σ 55 30) from ((f80 30 (by decide)).trans (congrFun (f53 55 (by decide)) 30))))
       have z141 : (σ77 55 31).toInt = (σ 55 31).toInt := (congrArg Int32.toInt (show σ77 55 31 = (σ 55 31) from ((f80 31 (by decide)).trans (congrFun (f53 55 (by decide)) 31))))
       have z142 : (σ77 2 1).toInt = (σ 2 1).toInt := (congrArg Int32.toInt (show σ77 2 1 = (σ 2 1) from ((congrFun (f79 2 (by decide)) 1).trans (congrFun (f53 2 (by decide)) 1))))
       have z143 : (σ77 55 9).toInt = (σ 55 9).toInt := (congrArg Int32.toInt (show σ77 55 9 = (σ 55 9) from ((f80 9 (by decide)).trans (congrFun (f53 55 (by decide)) 9))))
       have z144 : (σ77 26 6).toInt = (σ 26 6).toInt := (congrArg Int32.toInt (show σ77 26 6 = (σ 26 6) from ((congrFun (f79 26 (by decide)) 6).trans (congrFun (f53 26 (by decide)) 6))))
       have z146 : (σ77 18 0).toInt = (σ 18 0).toInt := (congrArg Int32.toInt (show σ77 18 0 = (σ 18 0) from ((congrFun (f79 18 (by decide)) 0).trans (congrFun (f53 18 (by decide)) 0))))
       have z147 : (σ77 22 0).toInt = (σ 22 0).toInt := (congrArg Int32.toInt (show σ77 22 0 = (σ 22 0) from ((congrFun (f79 22 (by decide)) 0).trans (congrFun (f53 22 (by decide)) 0))))
       exact by exact ih x89 σ77 τ _ _ ls (by have h9 := tx89; omega) ⟨I90, I91, I92, I93, I94, I95, I96, I97, I98, I99, I100, I101, I102, I103, I104, I105, I106, I107, I108, I109, I110, I111, I112, I81, p82, p83, p113, p114, p115, p116, p84, p117, p118, p119, p85, (by rw [z120, z121]; exact ht0), (by rw [z122, z123]; exact ht1), (by rw [z122, z124, z125]; exact ht2), (by rw [z126, z127]; exact ht3), (by rw [z128, z129]; exact ht4), (by rw [z130, z131]; exact ht5), (by rw [z132, z133]; exact ht6), (by rw [z134, z135]; exact ht7), (by rw [z136, z137]; exact ht8), (by rw [z138, z139]; exact ht9), (by rw [z140]; exact ht10), (by rw [z141]; exact ht11), (by rw [z142, z143]; exact ht12), (by omega), (by have h9 := tx89; omega), (by have h9 := tx89; omega), (show jNumP (σ77 3) (σ77 56) (σ77 6) (σ77 57) (σ77 7) (σ77 58) (σ77 8) (σ77 59) (σ77 55 6).toInt (σ77 55 4).toInt by rw [show σ77 3 = σ 3 from ((f79 3 (by decide)).trans (f53 3 (by decide))), show σ77 56 = σ 56 from ((f79 56 (by decide)).trans (f53 56 (by decide))), show σ77 6 = σ 6 from ((f79 6 (by decide)).trans (f53 6 (by decide))), show σ77 57 = σ 57 from ((f79 57 (by decide)).trans (f53 57 (by decide))), show σ77 7 = σ 7 from ((f79 7 (by decide)).trans (f53 7 (by decide))), show σ77 58 = σ 58 from ((f79 58 (by decide)).trans (f53 58 (by decide))), show σ77 8 = σ 8 from ((f79 8 (by decide)).trans (f53 8 (by decide))), show σ77 59 = σ 59 from ((f79 59 (by decide)).trans (f53 59 (by decide))), show (σ77 55 6).toInt = (σ 55 6).toInt from z121, show (σ77 55 4).toInt = (σ 55 4).toInt from z125]; exact hr0), (show jOvP (σ77 56) (σ77 57) (σ77 58) (σ77 59) (σ77 55 4).toInt by rw [show σ77 56 = σ 56 from ((f79 56 (by decide)).trans (f53 56 (by decide))), show σ77 57 = σ 57 from ((f79 57 (by decide)).trans (f53 57 (by decide))), show σ77 58 = σ 58 from ((f79 58 (by decide)).trans (f53 58 (by decide))), show σ77 59 = σ 59 from ((f79 59 (by decide)).trans (f53 59 (by decide))), show (σ77 55 4).toInt = (σ 55 4).toInt from z125]; exact hr1), (show jTp (σ77 10) (σ77 63) (σ77 55 15).toInt by rw [show σ77 10 = σ 10 from ((f79 10 (by decide)).trans (f53 10 (by decide))), show σ77 63 = σ 63 from ((f79 63 (by decide)).trans (f53 63 (by decide)))]; exact hr2.le (by omega)), (show jSo (σ77 17) (σ77 62) (σ77 16 0).toInt by rw [show σ77 17 = σ 17 from ((f79 17 (by decide)).trans (f53 17 (by decide))), show σ77 62 = σ 62 from ((f79 62 (by decide)).trans (f53 62 (by decide))), show (σ77 16 0).toInt = (σ 16 0).toInt from z128]; exact hr3), (show jShP (σ77 51) (σ77 52) (σ77 53) (σ77 86) (σ77 87) (σ77 55 32).toInt by rw [show σ77 51 = σ 51 from ((f79 51 (by decide)).trans (f53 51 (by decide))), show σ77 52 = σ 52 from ((f79 52 (by decide)).trans (f53 52 (by decide))), show σ77 53 = σ 53 from ((f79 53 (by decide)).trans (f53 53 (by decide))), show σ77 86 = σ 86 from ((f79 86 (by decide)).trans (f53 86 (by decide))), show σ77 87 = σ 87 from ((f79 87 (by decide)).trans (f53 87 (by decide)))]; exact (hr4.up (by omega) (by omega))), (show jEl (σ77 51) (σ77 52) (τ 54) (τ 88) by rw [show σ77 51 = σ 51 from ((f79 51 (by decide)).trans (f53 51 (by decide))), show σ77 52 = σ 52 from ((f79 52 (by decide)).trans (f53 52 (by decide)))]; exact hr5), (show jByP (σ77 51) (σ77 52) (τ 54) by rw [show σ77 51 = σ 51 from ((f79 51 (by decide)).trans (f53 51 (by decide))), show σ77 52 = σ 52 from ((f79 52 (by decide)).trans (f53 52 (by decide)))]; exact hr6), (show jBk (σ77 48) (σ77 80) (σ77 49) (σ77 81) (σ77 55 47).toInt by rw [show σ77 48 = σ 48 from ((f79 48 (by decide)).trans (f53 48 (by decide))), show σ77 49 = σ 49 from ((f79 49 (by decide)).trans (f53 49 (by decide))), show σ77 80 = σ 80 from ((f79 80 (by decide)).trans (f53 80 (by decide))), show σ77 81 = σ 81 from ((f79 81 (by decide)).trans (f53 81 (by decide))), show (σ77 55 47).toInt = (σ 55 47).toInt from z139]; exact hr7), (show jKd (σ77 39) (σ77 70) (σ77 55 32).toInt by rw [show σ77 39 = σ 39 from ((f79 39 (by decide)).trans (f53 39 (by decide))), show σ77 70 = σ 70 from ((f79 70 (by decide)).trans (f53 70 (by decide))), show (σ77 55 32).toInt = (σ 55 32).toInt from z135]; exact hr8), (show jTt (σ77 42) (σ77 85) (σ77 55 55).toInt by rw [show σ77 42 = σ 42 from ((f79 42 (by decide)).trans (f53 42 (by decide))), show σ77 85 = σ 85 from ((f79 85 (by decide)).trans (f53 85 (by decide))), show (σ77 55 55).toInt = (σ 55 55).toInt from z137]; exact hr9), (fun k hk => by rw [show σ77 4 = σ 4 from ((f79 4 (by decide)).trans (f53 4 (by decide))), show σ77 5 = σ 5 from ((f79 5 (by decide)).trans (f53 5 (by decide))), show σ77 60 = σ 60 from ((f79 60 (by decide)).trans (f53 60 (by decide))), show σ77 61 = σ 61 from ((f79 61 (by decide)).trans (f53 61 (by decide)))]; exact hr10 k (by omega)), (fun nm => by rw [show σ77 19 = σ 19 from ((f79 19 (by decide)).trans (f53 19 (by decide))), show σ77 64 = σ 64 from ((f79 64 (by decide)).trans (f53 64 (by decide))), show σ77 65 = σ 65 from ((f79 65 (by decide)).trans (f53 65 (by decide))), show (σ77 18 0).toInt = (σ 18 0).toInt from z146]; exact hr11 nm), (fun nm => by rw [show σ77 23 = σ 23 from ((f79 23 (by decide)).trans (f53 23 (by decide))), show σ77 64 = σ 64 from ((f79 64 (by decide)).trans (f53 64 (by decide))), show σ77 65 = σ 65 from ((f79 65 (by decide)).trans (f53 65 (by decide))), show (σ77 22 0).toInt = (σ 22 0).toInt from z147]; exact hr12 nm), (show jAlP (σ77 56) (σ77 57) (σ77 58) (σ77 59) (σ77 55 4).toInt by rw [show σ77 56 = σ 56 from ((f79 56 (by decide)).trans (f53 56 (by decide))), show σ77 57 = σ 57 from ((f79 57 (by decide)).trans (f53 57 (by decide))), show σ77 58 = σ 58 from ((f79 58 (by decide)).trans (f53 58 (by decide))), show σ77 59 = σ 59 from ((f79 59 (by decide)).trans (f53 59 (by decide))), show (σ77 55 4).toInt = (σ 55 4).toInt from z125]; exact hr13), (show jqbN (σ77 80) (σ77 55 47).toInt by rw [show σ77 80 = σ 80 from ((f79 80 (by decide)).trans (f53 80 (by decide))), show (σ77 55 47).toInt = (σ 55 47).toInt from z139]; exact hr14)⟩ hP hS (lv_sub hl [0, 1, 2, 3] rfl)
set_option maxHeartbeats 4000000 in
set_option maxRecDepth 100000 in
theorem law_case_24 {p : Program} {e : Env} {s : State} {m : MethodId} {below : List Frame} {meth : Method} {c : Code} (l : Launch) {b L : Nat} {xs : Nat → Int32} {D : va_G} {cI cL : ClassId} {ad zz : Nat → Nat} (C0 : lw_At p s m meth c b L xs) (hJ : jD ad) (hA : ∀ q, jA ad q → s.heap.size ≤ q) (hK : jK D cI cL s) (hZ : jZ zz (fun q : Nat => s.heap.size ≤ q) s s.heap) {x0 : Int32} (hx0 : 0 ≤ x0.toInt) (hxL : x0.toInt + 6 ≤ (L : Int)) (hL : L ≤ 384) {σ : Nat → Nat → Int32} {τ : Nat → Nat → Int64} {H : Heap} {locs : List Loc} (hS : va_S (fun q : Nat => s.heap.size ≤ q) s.heap H locs) {ls : Array Slot} (hAll : jAll x0.toInt σ τ) (hP : jH D cI cL ad σ τ H) (hl : lv_has ls 4 [(3, .int x0), (2, .ref (ad 55)), (1, .ref (ad 0)), (0, .ref b)]) (ih : ∀ (x1 : Int32) (σ : Nat → Nat → Int32) (τ : Nat → Nat → Int64) (H : Heap) (locs : List Loc) (ls : Array Slot), x1.toInt = x0.toInt + 6 → jAll x1.toInt σ τ → jH D cI cL ad σ τ H → va_S (fun q : Nat => s.heap.size ≤ q) s.heap H locs → lv_has ls 4 [(3, .int x1), (2, .ref (ad 55)), (1, .ref (ad 0)), (0, .ref b)] → W p l e room_1 s m #[Value.ref b] below meth c H locs 90 348600 (lw_Z below #[Value.ref b] s) (F0 m 18 ls [])) : W p l e room_1 s m #[Value.ref b] below meth c H locs 90 348600 (lw_Z below #[Value.ref b] s) (F0 m 898 ls []) := by
  obtain ⟨hx, hb, hr, hml, hown, hts0, hX, hbl, hlocks, hgv⟩ := C0
  have hts : ∀ w ∈ wsL_law, w.before #[Value.ref b] s = true := fun w h => hts0 w (wsL_law_in w h)
  have hbA : ¬ (fun q : Nat => s.heap.size ≤ q) b := Nat.not_le.mpr hbl
  have hown : s.vm.findClass RL = some m.cls := hown
  obtain ⟨hI2, hI9, hI12, hI16, hI18, hI22, hI31, hI38, hI43, hI47, hI50, hI0, hI26, hI101, hI102, hI103, hI104, hI105, hI106, hI107, hI109, hI110, hI111, hI119, hs_jKept, hs_jBook, hs_jNd12, hs_jN67, hs_jBl, hs_jKb, hs_jTR, hs_jKh, hs_jKg, hs_jNz, hs_jqSt, ht0, ht1, ht2, ht3, ht4, ht5, ht6, ht7, ht8, ht9, ht10, ht11, ht12, ht13, ht14, ht15, hr0, hr1, hr2, hr3, hr4, hr5, hr6, hr7, hr8, hr9, hr10, hr11, hr12, hr13, hr14⟩ := hAll
  have hL9 : (L : Int) ≤ 384 := by omega
  obtain ⟨i1, i2, i3, i4, i5, w6, w7⟩ : (0 ≤ (σ 2 0).toInt ∧ (σ 2 0).toInt ≤ 4) ∧ (0 ≤ (σ 2 1).toInt ∧ (σ 2 1).toInt ≤ 3) ∧ (0 ≤ (σ 2 2).toInt) ∧ (0 ≤ (σ 2 3).toInt) ∧ ((σ 2 2).toInt + (σ 2 3).toInt ≤ 40) ∧ (∀ k : Nat, k < 40 → 0 ≤ (σ 6 k).toInt ∧ (σ 6 k).toInt ≤ 67) ∧ (∀ k : Nat, k < 4 → 0 ≤ (σ 5 k).toInt ∧ (σ 5 k).toInt ≤ 20) := id hI2
  obtain ⟨i8, w9, w10⟩ : (0 ≤ (σ 9 0).toInt ∧ (σ 9 0).toInt ≤ 80) ∧ (∀ k : Nat, k < 80 → 0 ≤ (σ 10 k).toInt ∧ (σ 10 k).toInt ≤ 255) ∧ (∀ k : Nat, k < 8 → 0 ≤ (σ 11 k).toInt ∧ (σ 11 k).toInt ≤ 3) := id hI9
  obtain ⟨i11, i12, i13, w14⟩ : (1 ≤ (σ 16 0).toInt ∧ (σ 16 0).toInt ≤ 8) ∧ (1 ≤ (σ 16 1).toInt ∧ (σ 16 1).toInt ≤ 12) ∧ (0 ≤ (σ 16 2).toInt ∧ (σ 16 2).toInt ≤ 999) ∧ (∀ k : Nat, k < 8 → 0 ≤ (σ 17 k).toInt ∧ (σ 17 k).toInt ≤ 3) := id hI16
  obtain ⟨i15, i16, w17⟩ : (0 ≤ (σ 38 0).toInt ∧ (σ 38 0).toInt ≤ 20) ∧ (0 ≤ (σ 38 1).toInt ∧ (σ 38 1).toInt ≤ 1000) ∧ (∀ k : Nat, k < 20 → 0 ≤ (σ 39 k).toInt ∧ (σ 39 k).toInt ≤ 6) := id hI38
  obtain ⟨i18, w19, w20⟩ : (0 ≤ (σ 47 0).toInt ∧ (σ 47 0).toInt ≤ 12) ∧ (∀ k : Nat, k < 12 → 0 ≤ (σ 48 k).toInt ∧ (σ 48 k).toInt ≤ 3) ∧ (∀ k : Nat, k < 12 → 0 ≤ (σ 49 k).toInt ∧ (σ 49 k).toInt ≤ 1) := id hI47
  have w21 : ∀ k : Nat, k < 6 → 0 ≤ (σ 52 k).toInt ∧ (σ 52 k).toInt ≤ 60 := hI50
  have i22 : 1 ≤ (σ 26 6).toInt ∧ (σ 26 6).toInt ≤ 8000 := hI26
  obtain ⟨i23, i24, i25, w26, w27, w28, w29⟩ : (0 ≤ (σ 55 5).toInt) ∧ ((σ 55 5).toInt ≤ (σ 55 4).toInt) ∧ ((σ 55 4).toInt ≤ 40) ∧ (∀ k : Nat, k < 68 → (-200) ≤ (σ 56 k).toInt ∧ (σ 56 k).toInt ≤ 500) ∧ (∀ k : Nat, k < 40 → 0 ≤ (σ 57 k).toInt ∧ (σ 57 k).toInt ≤ 67) ∧ (∀ k : Nat, k < 40 → (-200) ≤ (σ 58 k).toInt ∧ (σ 58 k).toInt ≤ 500) ∧ (∀ k : Nat, k < 40 → (-200) ≤ (σ 59 k).toInt ∧ (σ 59 k).toInt ≤ 500) := id hI101
  obtain ⟨i30, w31, w32⟩ : (0 ≤ (σ 55 6).toInt ∧ (σ 55 6).toInt ≤ 4) ∧ (∀ k : Nat, k < 4 → 0 ≤ (σ 60 k).toInt ∧ (σ 60 k).toInt ≤ 50) ∧ (∀ k : Nat, k < 4 → 0 ≤ (σ 61 k).toInt ∧ (σ 61 k).toInt ≤ 20) := id hI102
  have i33 : 0 ≤ (σ 55 9).toInt ∧ (σ 55 9).toInt ≤ 3 := hI103
  obtain ⟨i34, i35, i36, w37, w38⟩ : (1 ≤ (σ 55 10).toInt ∧ (σ 55 10).toInt ≤ 8) ∧ (1 ≤ (σ 55 12).toInt ∧ (σ 55 12).toInt ≤ 12) ∧ (0 ≤ (σ 55 13).toInt ∧ (σ 55 13).toInt ≤ 999) ∧ (∀ k : Nat, k < 8 → 0 ≤ (σ 62 k).toInt ∧ (σ 62 k).toInt ≤ 3) ∧ (∀ k : Nat, k < 8 → 0 ≤ (σ 67 k).toInt ∧ (σ 67 k).toInt ≤ 3) := id hI104
  obtain ⟨i39, w40⟩ : (0 ≤ (σ 55 15).toInt ∧ (σ 55 15).toInt ≤ 80) ∧ (∀ k : Nat, k < 2 → (-1) ≤ (σ 65 k).toInt ∧ (σ 65 k).toInt ≤ 80) := id hI105
  obtain ⟨i41, w42, w43, w44⟩ : (0 ≤ (σ 55 32).toInt ∧ (σ 55 32).toInt ≤ 20) ∧ (∀ k : Nat, k < 20 → 0 ≤ (σ 70 k).toInt ∧ (σ 70 k).toInt ≤ 6) ∧ (∀ k : Nat, k < 20 → 0 ≤ (σ 71 k).toInt ∧ (σ 71 k).toInt ≤ 8) ∧ (∀ k : Nat, k < 160 → 0 ≤ (σ 72 k).toInt ∧ (σ 72 k).toInt ≤ 3) := id hI106
  obtain ⟨i45, i46, w47⟩ : (0 ≤ (σ 55 47).toInt ∧ (σ 55 47).toInt ≤ 12) ∧ ((σ 55 47).toInt ≤ (σ 55 12).toInt) ∧ (∀ k : Nat, k < 12 → 0 ≤ (σ 80 k).toInt ∧ (σ 80 k).toInt ≤ 3) := id hI107
  have hs_jOk3 : jOk3 σ := hr0.ok hr1.1
  refine lv_aload_n hx hb dL_law_898 rfl (lv_at hl 2 rfl) ?_
  refine lv_aload_n hx hb dL_law_899 rfl (lv_at hl 3 rfl) ?_
  refine lv_iload_n hx hb dL_law_900 rfl (lv_at hl 0 rfl) ?_
  refine lv_iconst (v := 1) hx hb dL_law_901 (by decide) ?_
  have g48 := jrg (rfl : x0.toInt = x0.toInt)
  refine lv_iadd hx hb dL_law_902 ?_
  refine lv_topi (fun x49 ex49 => ?_)
  exact by
   have tx49 : x49.toInt = x0.toInt + 1 := (jadd ex49 rfl jz_1 (by omega) (by omega)).trans (by omega)
   refine va_sld hx hb hX hbl hbA hS (jin tx49 (by omega) (by omega)) dL_law_903 ?_
   have g50 := jrg (rfl : (xs x49.toNatClampNeg).toInt = (xs x49.toNatClampNeg).toInt)
   refine lv_aload_n hx hb dL_law_904 rfl (lv_at hl 3 rfl) ?_
   refine lv_iload_n hx hb dL_law_905 rfl (lv_at hl 0 rfl) ?_
   refine lv_iconst (v := 2) hx hb dL_law_906 (by decide) ?_
   refine lv_iadd hx hb dL_law_907 ?_
   refine lv_topi (fun x51 ex51 => ?_)
   have tx51 : x51.toInt = x0.toInt + 2 := (jadd ex51 rfl jz_2 (by omega) (by omega)).trans (by omega)
   exact by
    refine va_sld hx hb hX hbl hbA hS (jin tx51 (by omega) (by omega)) dL_law_908 ?_
    have g52 := jrg (rfl : (xs x51.toNatClampNeg).toInt = (xs x51.toNatClampNeg).toInt)
    refine jcallV (As := [.int (xs x49.toNatClampNeg), .int (xs x51.toNatClampNeg)]) (rest := []) ⟨hx, hb, hml, hown, hts⟩ hK hP hA hS hZ (c_X11_game l D cI cL ad zz hJ σ τ (xs x49.toNatClampNeg) ((xs x49.toNatClampNeg).toInt) rfl (xs x51.toNatClampNeg) ((xs x51.toNatClampNeg).toInt) rfl hI2 hI16 hI18 hI22 hI31 hI38 hI43 hI26 hs_jN67 hs_jBl hs_jKb hs_jKh hs_jKg hs_jNz hs_jKh) cw_RL_113 (jc_0 cI cL ad σ τ) rfl ⟨Nat.le_of_ble_eq_true rfl, Nat.le_of_ble_eq_true rfl⟩ rfl rfl rfl hl.1 rfl (Nat.le_of_ble_eq_true rfl) dL_law_909 ⟨Nat.le_of_ble_eq_true rfl, Nat.le_of_ble_eq_true rfl⟩ (fun r54 σ53 τ53 H locs h53 hP hS => ?_)
    obtain ⟨rfl, f55, f56, f57, I58, I59, p60, p61, p62, p63, p64, p65, p66, w67, h53⟩ := h53
    refine lv_pop hx hb dL_law_912 rfl ?_
    refine lv_aload_n hx hb dL_law_913 rfl (lv_at hl 1 rfl) ?_
    refine lv_aload_n hx hb dL_law_914 rfl (lv_at hl 3 rfl) ?_
    refine lv_iload_n hx hb dL_law_915 rfl (lv_at hl 0 rfl) ?_
    refine lv_iconst (v := 1) hx hb dL_law_916 (by decide) ?_
    refine lv_iadd hx hb dL_law_917 ?_
    refine jtopr ex49.symm ?_
    exact by
     refine va_sld hx hb hX hbl hbA hS (jin tx49 (by omega) (by omega)) dL_law_918 ?_
     refine lv_aload_n hx hb dL_law_919 rfl (lv_at hl 3 rfl) ?_
     refine lv_iload_n hx hb dL_law_920 rfl (lv_at hl 0 rfl) ?_
     refine lv_iconst (v := 2) hx hb dL_law_921 (by decide) ?_
     refine lv_iadd hx hb dL_law_922 ?_
     refine jtopr ex51.symm ?_
     refine va_sld hx hb hX hbl hbA hS (jin tx51 (by omega) (by omega)) dL_law_923 ?_
     have I69 : jI101 σ53 := jI101_fr (congrFun (f55 55 (by decide)) 4) (congrFun (f55 55 (by decide)) 5) (f55 56 (by decide)) (f55 57 (by decide)) (f55 58 (by decide)) (f55 59 (by decide)) hI101
     have I70 : jI102 σ53 := jI102_fr (congrFun (f55 55 (by decide)) 6) (f55 60 (by decide)) (f55 61 (by decide)) hI102
     exact by
      have I71 : jI103 σ53 := jI103_fr (congrFun (f55 55 (by decide)) 9) hI103
      have I72 : jI104 σ53 := jI104_fr (congrFun (f55 55 (by decide)) 10) (congrFun (f55 55 (by decide)) 12) (congrFun (f55 55 (by decide)) 13) (f55 62 (by decide)) (f55 67 (by decide)) hI104
      have I73 : jI105 σ53 := jI105_fr (congrFun (f55 55 (by decide)) 15) (f55 65 (by decide)) hI105
      have I74 : jI106 σ53 := jI106_fr (congrFun (f55 55 (by decide)) 32) (f55 70 (by decide)) (f55 71 (by decide)) (f55 72 (by decide)) hI106
      have I75 : jI119 σ53 := jI119_fr (f55 68 (by decide)) hI119
      have I76 : jI109 σ53 := jI109_fr (congrFun (f55 55 (by decide)) 50) hI109
      have p77 : jKept σ53 := jKept.fr (f55 75 (by decide)) (f55 76 (by decide)) (f55 77 (by decide)) hs_jKept
      have p78 : jTR σ53 := jTR.fr (f55 64 (by decide)) (f55 65 (by decide)) hs_jTR
      have p79 : jqSt σ53 := jqSt.fr (f55 78 (by decide)) (congrFun (f55 55 (by decide)) 42) hs_jqSt
      have z80 : (σ53 55 42).toInt = (σ 55 42).toInt := (congrArg Int32.toInt (show σ53 55 42 = (σ 55 42) from (congrFun (f55 55 (by decide)) 42)))
      exact by
       refine jcallV (As := [.int (xs x49.toNatClampNeg), .int (xs x51.toNatClampNeg)]) (rest := []) ⟨hx, hb, hml, hown, hts⟩ hK hP hA hS hZ (c_X12_game l D cI cL ad zz hJ σ53 τ (xs x49.toNatClampNeg) ((xs x49.toNatClampNeg).toInt) rfl (xs x51.toNatClampNeg) ((xs x51.toNatClampNeg).toInt) rfl I69 I70 I71 I72 I73 I74 I75 I76 p77 p78 p79 (by omega)) cw_RL_116 (jc_55 cI cL ad σ53 τ) rfl ⟨Nat.le_of_ble_eq_true rfl, Nat.le_of_ble_eq_true rfl⟩ rfl rfl rfl hl.1 rfl (Nat.le_of_ble_eq_true rfl) dL_law_924 ⟨Nat.le_of_ble_eq_true rfl, Nat.le_of_ble_eq_true rfl⟩ (fun r82 σ81 τ81 H locs h81 hP hS => ?_)
       obtain ⟨rfl, f83, f84, I85, I86, p87, p88, p89, w90, h81⟩ := h81
       obtain ⟨k92, k93, h81⟩ := h81
       refine lv_pop hx hb dL_law_927 rfl ?_
       refine lv_goto (tgt := 1357) hx hb dL_law_928 (by decide) ?_
       obtain ⟨x94, ex94⟩ : ∃ y : Int32, y = x0 + 6 := ⟨_, rfl⟩
       have tx94 : x94.toInt = x0.toInt + 6 := (jadd ex94 rfl jz_6 (by omega) (by omega)).trans (by omega)
       refine lv_iinc (v := x94) (lv' := [(3, .int x94), (2, .ref (ad 55)), (1, .ref (ad 0)), (0, .ref b)]) hx hb dL_law_1357 hl (k := 0) rfl (by rw [ex94]; rfl) (by decide) rfl (fun ls hl => ?_)
       refine lv_goto (tgt := 18) hx hb dL_law_1360 (by decide) ?_
       exact by
        have I95 : jI2 σ81 := jI2_fr ((congrFun (f83 2 (by decide)) 0).trans (congrFun (f55 2 (by decide)) 0)) ((congrFun (f83 2 (by decide)) 1).trans (congrFun (f55 2 (by decide)) 1)) ((congrFun (f83 2 (by decide)) 2).trans (congrFun (f55 2 (by decide)) 2)) ((congrFun (f83 2 (by decide)) 3).trans (congrFun (f55 2 (by decide)) 3)) ((f83 6 (by decide)).trans (f55 6 (by decide))) ((f83 5 (by decide)).trans (f55 5 (by decide))) hI2
        have I96 : jI9 σ81 := jI9_fr ((congrFun (f83 9 (by decide)) 0).trans (congrFun (f55 9 (by decide)) 0)) ((f83 10 (by decide)).trans (f55 10 (by decide))) ((f83 11 (by decide)).trans (f55 11 (by decide))) hI9
        have I97 : jI12 σ81 := jI12_fr ((congrFun (f83 12 (by decide)) 0).trans (congrFun (f55 12 (by decide)) 0)) ((f83 13 (by decide)).trans (f55 13 (by decide))) hI12
        have I98 : jI16 σ81 := jI16_fr ((congrFun (f83 16 (by decide)) 0).trans (congrFun (f55 16 (by decide)) 0)) ((congrFun (f83 16 (by decide)) 1).trans (congrFun (f55 16 (by decide)) 1)) ((congrFun (f83 16 (by decide)) 2).trans (congrFun (f55 16 (by decide)) 2)) ((f83 17 (by decide)).trans (f55 17 (by decide))) hI16
        have I99 : jI18 σ81 := jI18_fr ((congrFun (f83 18 (by decide)) 0).trans (congrFun (f55 18 (by decide)) 0)) ((f83 19 (by decide)).trans (f55 19 (by decide))) hI18
        have I100 : jI22 σ81 := jI22_fr ((congrFun (f83 22 (by decide)) 0).trans (congrFun (f55 22 (by decide)) 0)) ((f83 23 (by decide)).trans (f55 23 (by decide))) hI22
        have I101 : jI31 σ81 := jI31_fr (congrFun (f83 31 (by decide)) 8) (congrFun (f83 31 (by decide)) 10) (congrFun (f83 31 (by decide)) 11) (f83 33 (by decide)) (f83 35 (by decide)) (f83 36 (by decide)) I58
        have I102 : jI38 σ81 := jI38_fr ((congrFun (f83 38 (by decide)) 0).trans (congrFun (f55 38 (by decide)) 0)) ((congrFun (f83 38 (by decide)) 1).trans (congrFun (f55 38 (by decide)) 1)) ((f83 39 (by decide)).trans (f55 39 (by decide))) hI38
        have I103 : jI43 σ81 := jI43_fr (congrFun (f83 43 (by decide)) 8) I59
        have I104 : jI47 σ81 := jI47_fr ((congrFun (f83 47 (by decide)) 0).trans (congrFun (f55 47 (by decide)) 0)) ((f83 48 (by decide)).trans (f55 48 (by decide))) ((f83 49 (by decide)).trans (f55 49 (by decide))) hI47
        have I105 : jI50 σ81 := jI50_fr ((f83 52 (by decide)).trans (f55 52 (by decide))) hI50
        have I106 : jI0 σ81 := jI0_fr ((f83 1 (by decide)).trans (f55 1 (by decide))) hI0
        have I107 : jI26 σ81 := jI26_fr ((congrFun (f83 26 (by decide)) 6).trans (congrFun (f55 26 (by decide)) 6)) hI26
        have I108 : jI101 σ81 := jI101_fr (f84 4 (by decide)) (f84 5 (by decide)) (f83 56 (by decide)) (f83 57 (by decide)) (f83 58 (by decide)) (f83 59 (by decide)) I69
        have I109 : jI102 σ81 := jI102_fr (f84 6 (by decide)) (f83 60 (by decide)) (f83 61 (by decide)) I70
        have I110 : jI103 σ81 := jI103_fr (f84 9 (by decide)) I71
        have I111 : jI104 σ81 := jI104_fr (f84 10 (by decide)) (f84 12 (by decide)) (f84 13 (by decide)) (f83 62 (by decide)) (f83 67 (by decide)) I72
        have I112 : jI105 σ81 := jI105_fr (f84 15 (by decide)) (f83 65 (by decide)) I73
        have I113 : jI106 σ81 := jI106_fr (f84 32 (by decide)) (f83 70 (by decide)) (f83 71 (by decide)) (f83 72 (by decide)) I74
        have I114 : jI107 σ81 := jI107_fr ((f84 12 (by decide)).trans (congrFun (f55 55 (by decide)) 12)) ((f84 47 (by decide)).trans (congrFun (f55 55 (by decide)) 47)) ((f83 80 (by decide)).trans (f55 80 (by decide))) hI107
        have I115 : jI110 σ81 := jI110_fr ((f83 86 (by decide)).trans (f55 86 (by decide))) ((f83 87 (by decide)).trans (f55 87 (by decide))) hI110
        have I116 : jI111 σ81 := jI111_fr ((f83 79 (by decide)).trans (f55 79 (by decide))) hI111
        have p117 : jBook σ81 := jBook.fr ((f84 47 (by decide)).trans (congrFun (f55 55 (by decide)) 47)) ((f84 10 (by decide)).trans (congrFun (f55 55 (by decide)) 10)) ((f83 81 (by decide)).trans (f55 81 (by decide))) hs_jBook
        have p118 : jNd12 σ81 := jNd12.fr ((congrFun (f83 12 (by decide)) 0).trans (congrFun (f55 12 (by decide)) 0)) ((congrFun (f83 12 (by decide)) 1).trans (congrFun (f55 12 (by decide)) 1)) ((f83 13 (by decide)).trans (f55 13 (by decide))) hs_jNd12
        have p119 : jN67 σ81 := jN67.fr (f83 24 (by decide)) p60
        have p120 : jBl σ81 := jBl.fr (congrFun (f83 22 (by decide)) 0) (congrFun (f83 22 (by decide)) 1) (f83 23 (by decide)) (congrFun (f83 26 (by decide)) 6) (congrFun (f83 26 (by decide)) 7) (f83 29 (by decide)) (f83 30 (by decide)) p61
        have p121 : jKb σ81 := jKb.fr (congrFun (f83 31 (by decide)) 8) (congrFun (f83 31 (by decide)) 11) (f83 32 (by decide)) p62
        have p122 : jKh σ81 := jKh.fr (congrFun (f83 31 (by decide)) 8) (f83 32 (by decide)) (f83 36 (by decide)) (f83 37 (by decide)) p66
        have p123 : jKg σ81 := jKg.fr (congrFun (f83 31 (by decide)) 8) (congrFun (f83 31 (by decide)) 9) (congrFun (f83 31 (by decide)) 11) (congrFun (f83 31 (by decide)) 12) (f83 32 (by decide)) (f83 33 (by decide)) p64
        have p124 : jNz σ81 := jNz.fr (f83 34 (by decide)) p65
        have z125 : (σ81 2 0).toInt = (σ 2 0).toInt := (congrArg Int32.toInt (show σ81 2 0 = (σ 2 0) from ((congrFun (f83 2 (by decide)) 0).trans (congrFun (f55 2 (by decide)) 0))))
        have z126 : (σ81 55 6).toInt = (σ 55 6).toInt := (congrArg Int32.toInt (show σ81 55 6 = (σ 55 6) from ((f84 6 (by decide)).trans (congrFun (f55 55 (by decide)) 6))))
        have z127 : (σ81 2 2).toInt = (σ 2 2).toInt := (congrArg Int32.toInt (show σ81 2 2 = (σ 2 2) from ((congrFun (f83 2 (by decide)) 2).trans (congrFun (f55 2 (by decide)) 2))))
        have z128 : (σ81 55 5).toInt = (σ 55 5).toInt := (congrArg Int32.toInt (show σ81 55 5 = (σ 55 5) from ((f84 5 (by decide)).trans (congrFun (f55 55 (by decide)) 5))))
        have z129 : (σ81 2 3).toInt = (σ 2 3).toInt := (congrArg Int32.toInt (show σ81 2 3 = (σ 2 3) from ((congrFun (f83 2 (by decide)) 3).trans (congrFun (f55 2 (by decide)) 3))))
        have z130 : (σ81 55 4).toInt = (σ 55 4).toInt := (congrArg Int32.toInt (show σ81 55 4 = (σ 55 4) from ((f84 4 (by decide)).trans (congrFun (f55 55 (by decide)) 4))))
        have z131 : (σ81 9 0).toInt = (σ 9 0).toInt := (congrArg Int32.toInt (show σ81 9 0 = (σ 9 0) from ((congrFun (f83 9 (by decide)) 0).trans (congrFun (f55 9 (by decide)) 0))))
        have z132 : (σ81 55 15).toInt = (σ 55 15).toInt := (congrArg Int32.toInt (show σ81 55 15 = (σ 55 15) from ((f84 15 (by decide)).trans (congrFun (f55 55 (by decide)) 15))))
        have z133 : (σ81 16 0).toInt = (σ 16 0).toInt := (congrArg Int32.toInt (show σ81 16 0 = (σ 16 0) from ((congrFun (f83 16 (by decide)) 0).trans (congrFun (f55 16 (by decide)) 0))))
        have z134 : (σ81 55 10).toInt = (σ 55 10).toInt := (congrArg Int32.toInt (show σ81 55 10 = (σ 55 10) from ((f84 10 (by decide)).trans (congrFun (f55 55 (by decide)) 10))))
        have z135 : (σ81 16 1).toInt = (σ 16 1).toInt := (congrArg Int32.toInt (show σ81 16 1 = (σ 16 1) from ((congrFun (f83 16 (by decide)) 1).trans (congrFun (f55 16 (by decide)) 1))))
        have z136 : (σ81 55 12).toInt = (σ 55 12).toInt := (congrArg Int32.toInt (show σ81 55 12 = (σ 55 12) from ((f84 12 (by decide)).trans (congrFun (f55 55 (by decide)) 12))))
        have z137 : (σ81 16 2).toInt = (σ 16 2).toInt := (congrArg Int32.toInt (show σ81 16 2 = (σ 16 2) from ((congrFun (f83 16 (by decide)) 2).trans (congrFun (f55 16 (by decide)) 2))))
        have z138 : (σ81 55 13).toInt = (σ 55 13).toInt := (congrArg Int32.toInt (show σ81 55 13 = (σ 55 13) from ((f84 13 (by decide)).trans (congrFun (f55 55 (by decide)) 13))))
        have z139 : (σ81 38 0).toInt = (σ 38 0).toInt := (congrArg Int32.toInt (show σ81 38 0 = (σ 38 0) from ((congrFun (f83 38 (by decide)) 0).trans (congrFun (f55 38 (by decide)) 0))))
        have z140 : (σ81 55 32).toInt = (σ 55 32).toInt := (congrArg Int32.toInt (show σ81 55 32 = (σ 55 32) from ((f84 32 (by decide)).trans (congrFun (f55 55 (by decide)) 32))))
        have z141 : (σ81 38 1).toInt = (σ 38 1).toInt := (congrArg Int32.toInt (show σ81 38 1 = (σ 38 1) from ((congrFun (f83 38 (by decide)) 1).trans (congrFun (f55 38 (by decide)) 1))))
        have z142 : (σ81 55 55).toInt = (σ 55 55).toInt := (congrArg Int32.toInt (show σ81 55 55 = (σ 55 55) from ((f84 55 (by decide)).trans (congrFun (f55 55 (by decide)) 55))))
        have z143 : (σ81 47 0).toInt = (σ 47 0).toInt := (congrArg Int32.toInt (show σ81 47 0 = (σ 47 0) from ((congrFun (f83 47 (by decide)) 0).trans (congrFun (f55 47 (by decide)) 0))))
        have z144 : (σ81 55 47).toInt = (σ 55 47).toInt := (congrArg Int32.toInt (show σ81 55 47 = (σ 55 47) from ((f84 47 (by decide)).trans (congrFun (f55 55 (by decide)) 47))))
        have z145 : (σ81 55 30).toInt = (σ 55 30).toInt := (congrArg Int32.toInt (show σ81 55 30 = (σ 55 30) from ((f84 30 (by decide)).trans (congrFun (f55 55 (by decide)) 30))))
        have z146 : (σ81 55 31).toInt = (σ 55 31).toInt := (congrArg Int32.toInt (show σ81 55 31 = (σ 55 31) from ((f84 31 (by decide)).trans (congrFun (f55 55 (by decide)) 31))))
        have z147 : (σ81 2 1).toInt = (σ 2 1).toInt := (congrArg Int32.toInt (show σ81 2 1 = (σ 2 1) from ((congrFun (f83 2 (by decide)) 1).trans (congrFun (f55 2 (by decide)) 1))))
        have z148 : (σ81 55 9).toInt = (σ 55 9).toInt := (congrArg Int32.toInt (show σ81 55 9 = (σ 55 9) from ((f84 9 (by decide)).trans (congrFun (f55 55 (by decide)) 9))))
        have z149 : (σ81 26 6).toInt = (σ 26 6).toInt := (congrArg Int32.toInt (show σ81 26 6 = (σ 26 6) from ((congrFun (f83 26 (by decide)) 6).trans (congrFun (f55 26 (by decide)) 6))))
        have z151 : (σ81 18 0).toInt = (σ 18 0).toInt := (congrArg Int32.toInt (show σ81 18 0 = (σ 18 0) from ((congrFun (f83 18 (by decide)) 0).trans (congrFun (f55 18 (by decide)) 0))))
        have z152 : (σ81 22 0).toInt = (σ 22 0).toInt := (congrArg Int32.toInt (show σ81 22 0 = (σ 22 0) from ((congrFun (f83 22 (by decide)) 0).trans (congrFun (f55 22 (by decide)) 0))))
        exact by exact ih x94 σ81 τ _ _ ls (by have h9 := tx94; omega) ⟨I95, I96, I97, I98, I99, I100, I101, I102, I103, I104, I105, I106, I107, I108, I109, I110, I111, I112, I113, I114, I85, I115, I116, I86, p87, p117, p118, p119, p120, p121, p88, p122, p123, p124, p89, (by rw [z125, z126]; exact ht0), (by rw [z127, z128]; exact ht1), (by rw [z127, z129, z130]; exact ht2), (by rw [z131, z132]; exact ht3), (by rw [z133, z134]; exact ht4), (by rw [z135, z136]; exact ht5), (by rw [z137, z138]; exact ht6), (by rw [z139, z140]; exact ht7), (by rw [z141, z142]; exact ht8), (by rw [z143, z144]; exact ht9), (by rw [z145]; exact ht10), (by rw [z146]; exact ht11), (by rw [z147, z148]; exact ht12), (by omega), (by have h9 := tx94; omega), (by have h9 := tx94; omega), (show jNumP (σ81 3) (σ81 56) (σ81 6) (σ81 57) (σ81 7) (σ81 58) (σ81 8) (σ81 59) (σ81 55 6).toInt (σ81 55 4).toInt by rw [show σ81 3 = σ 3 from ((f83 3 (by decide)).trans (f55 3 (by decide))), show σ81 56 = σ 56 from ((f83 56 (by decide)).trans (f55 56 (by decide))), show σ81 6 = σ 6 from ((f83 6 (by decide)).trans (f55 6 (by decide))), show σ81 57 = σ 57 from ((f83 57 (by decide)).trans (f55 57 (by decide))), show σ81 7 = σ 7 from ((f83 7 (by decide)).trans (f55 7 (by decide))), show σ81 58 = σ 58 from ((f83 58 (by decide)).trans (f55 58 (by decide))), show σ81 8 = σ 8 from ((f83 8 (by decide)).trans (f55 8 (by decide))), show σ81 59 = σ 59 from ((f83 59 (by decide)).trans (f55 59 (by decide))), show (σ81 55 6).toInt = (σ 55 6).toInt from z126, show (σ81 55 4).toInt = (σ 55 4).toInt from z130]; exact hr0), (show jOvP (σ81 56) (σ81 57) (σ81 58) (σ81 59) (σ81 55 4).toInt by rw [show σ81 56 = σ 56 from ((f83 56 (by decide)).trans (f55 56 (by decide))), show σ81 57 = σ 57 from ((f83 57 (by decide)).trans (f55 57 (by decide))), show σ81 58 = σ 58 from ((f83 58 (by decide)).trans (f55 58 (by decide))), show σ81 59 = σ 59 from ((f83 59 (by decide)).trans (f55 59 (by decide))), show (σ81 55 4).toInt = (σ 55 4).toInt from z130]; exact hr1), (show jTp (σ81 10) (σ81 63) (σ81 55 15).toInt by rw [show σ81 10 = σ 10 from ((f83 10 (by decide)).trans (f55 10 (by decide))), show σ81 63 = σ 63 from ((f83 63 (by decide)).trans (f55 63 (by decide)))]; exact hr2.le (by omega)), (show jSo (σ81 17) (σ81 62) (σ81 16 0).toInt by rw [show σ81 17 = σ 17 from ((f83 17 (by decide)).trans (f55 17 (by decide))), show σ81 62 = σ 62 from ((f83 62 (by decide)).trans (f55 62 (by decide))), show (σ81 16 0).toInt = (σ 16 0).toInt from z133]; exact hr3), (show jShP (σ81 51) (σ81 52) (σ81 53) (σ81 86) (σ81 87) (σ81 55 32).toInt by rw [show σ81 51 = σ 51 from ((f83 51 (by decide)).trans (f55 51 (by decide))), show σ81 52 = σ 52 from ((f83 52 (by decide)).trans (f55 52 (by decide))), show σ81 53 = σ 53 from ((f83 53 (by decide)).trans (f55 53 (by decide))), show σ81 86 = σ 86 from ((f83 86 (by decide)).trans (f55 86 (by decide))), show σ81 87 = σ 87 from ((f83 87 (by decide)).trans (f55 87 (by decide)))]; exact (hr4.up (by omega) (by omega))), (show jEl (σ81 51) (σ81 52) (τ 54) (τ 88) by rw [show σ81 51 = σ 51 from ((f83 51 (by decide)).trans (f55 51 (by decide))), show σ81 52 = σ 52 from ((f83 52 (by decide)).trans (f55 52 (by decide)))]; exact hr5), (show jByP (σ81 51) (σ81 52) (τ 54) by rw [show σ81 51 = σ 51 from ((f83 51 (by decide)).trans (f55 51 (by decide))), show σ81 52 = σ 52 from ((f83 52 (by decide)).trans (f55 52 (by decide)))]; exact hr6), (show jBk (σ81 48) (σ81 80) (σ81 49) (σ81 81) (σ81 55 47).toInt by rw [show σ81 48 = σ 48 from ((f83 48 (by decide)).trans (f55 48 (by decide))), show σ81 49 = σ 49 from ((f83 49 (by decide)).trans (f55 49 (by decide))), show σ81 80 = σ 80 from ((f83 80 (by decide)).trans (f55 80 (by decide))), show σ81 81 = σ 81 from ((f83 81 (by decide)).trans (f55 81 (by decide))), show (σ81 55 47).toInt = (σ 55 47).toInt from z144]; exact hr7), (show jKd (σ81 39) (σ81 70) (σ81 55 32).toInt by rw [show σ81 39 = σ 39 from ((f83 39 (by decide)).trans (f55 39 (by decide))), show σ81 70 = σ 70 from ((f83 70 (by decide)).trans (f55 70 (by decide))), show (σ81 55 32).toInt = (σ 55 32).toInt from z140]; exact hr8), (show jTt (σ81 42) (σ81 85) (σ81 55 55).toInt by rw [show σ81 42 = σ 42 from ((f83 42 (by decide)).trans (f55 42 (by decide))), show σ81 85 = σ 85 from ((f83 85 (by decide)).trans (f55 85 (by decide))), show (σ81 55 55).toInt = (σ 55 55).toInt from z142]; exact hr9), (fun k hk => by rw [show σ81 4 = σ 4 from ((f83 4 (by decide)).trans (f55 4 (by decide))), show σ81 5 = σ 5 from ((f83 5 (by decide)).trans (f55 5 (by decide))), show σ81 60 = σ 60 from ((f83 60 (by decide)).trans (f55 60 (by decide))), show σ81 61 = σ 61 from ((f83 61 (by decide)).trans (f55 61 (by decide)))]; exact hr10 k (by omega)), (fun nm => by rw [show σ81 19 = σ 19 from ((f83 19 (by decide)).trans (f55 19 (by decide))), show σ81 64 = σ 64 from ((f83 64 (by decide)).trans (f55 64 (by decide))), show σ81 65 = σ 65 from ((f83 65 (by decide)).trans (f55 65 (by decide))), show (σ81 18 0).toInt = (σ 18 0).toInt from z151]; exact hr11 nm), (fun nm => by rw [show σ81 23 = σ 23 from ((f83 23 (by decide)).trans (f55 23 (by decide))), show σ81 64 = σ 64 from ((f83 64 (by decide)).trans (f55 64 (by decide))), show σ81 65 = σ 65 from ((f83 65 (by decide)).trans (f55 65 (by decide))), show (σ81 22 0).toInt = (σ 22 0).toInt from z152]; exact hr12 nm), (show jAlP (σ81 56) (σ81 57) (σ81 58) (σ81 59) (σ81 55 4).toInt by rw [show σ81 56 = σ 56 from ((f83 56 (by decide)).trans (f55 56 (by decide))), show σ81 57 = σ 57 from ((f83 57 (by decide)).trans (f55 57 (by decide))), show σ81 58 = σ 58 from ((f83 58 (by decide)).trans (f55 58 (by decide))), show σ81 59 = σ 59 from ((f83 59 (by decide)).trans (f55 59 (by decide))), show (σ81 55 4).toInt = (σ 55 4).toInt from z130]; exact hr13), (show jqbN (σ81 80) (σ81 55 47).toInt by rw [show σ81 80 = σ 80 from ((f83 80 (by decide)).trans (f55 80 (by decide))), show (σ81 55 47).toInt = (σ 55 47).toInt from z144]; exact hr14)⟩ hP hS (lv_sub hl [0, 1, 2, 3] rfl)
set_option maxHeartbeats 4000000 in
set_option maxRecDepth 100000 in
theorem law_case_25 {p : Program} {e : Env} {s : State} {m : MethodId} {below : List Frame} {meth : Method} {c : Code} (l : Launch) {b L : Nat} {xs : Nat → Int32} {D : va_G} {cI cL : ClassId} {ad zz : Nat → Nat} (C0 : lw_At p s m meth c b L xs) (hJ : jD ad) (hA : ∀ q, jA ad q → s.heap.size ≤ q) (hK : jK D cI cL s) (hZ : jZ zz (fun q : Nat => s.heap.size ≤ q) s s.heap) {x0 : Int32} (hx0 : 0 ≤ x0.toInt) (hxL : x0.toInt + 6 ≤ (L : Int)) (hL : L ≤ 384) {σ : Nat → Nat → Int32} {τ : Nat → Nat → Int64} {H : Heap} {locs : List Loc} (hS : va_S (fun q : Nat => s.heap.size ≤ q) s.heap H locs) {ls : Array Slot} (hAll : jAll x0.toInt σ τ) (hP : jH D cI cL ad σ τ H) (hl : lv_has ls 4 [(3, .int x0), (2, .ref (ad 55)), (1, .ref (ad 0)), (0, .ref b)]) (ih : ∀ (x1 : Int32) (σ : Nat → Nat → Int32) (τ : Nat → Nat → Int64) (H : Heap) (locs : List Loc) (ls : Array Slot), x1.toInt = x0.toInt + 6 → jAll x1.toInt σ τ → jH D cI cL ad σ τ H → va_S (fun q : Nat => s.heap.size ≤ q) s.heap H locs → lv_has ls 4 [(3, .int x1), (2, .ref (ad 55)), (1, .ref (ad 0)), (0, .ref b)] → W p l e room_1 s m #[Value.ref b] below meth c H locs 90 348600 (lw_Z below #[Value.ref b] s) (F0 m 18 ls [])) : W p l e room_1 s m #[Value.ref b] below meth c H locs 90 348600 (lw_Z below #[Value.ref b] s) (F0 m 931 ls []) := by
  obtain ⟨hx, hb, hr, hml, hown, hts0, hX, hbl, hlocks, hgv⟩ := C0
  have hts : ∀ w ∈ wsL_law, w.before #[Value.ref b] s = true := fun w h => hts0 w (wsL_law_in w h)
  have hbA : ¬ (fun q : Nat => s.heap.size ≤ q) b := Nat.not_le.mpr hbl
  have hown : s.vm.findClass RL = some m.cls := hown
  obtain ⟨hI2, hI9, hI12, hI16, hI18, hI22, hI31, hI38, hI43, hI47, hI50, hI0, hI26, hI101, hI102, hI103, hI104, hI105, hI106, hI107, hI109, hI110, hI111, hI119, hs_jKept, hs_jBook, hs_jNd12, hs_jN67, hs_jBl, hs_jKb, hs_jTR, hs_jKh, hs_jKg, hs_jNz, hs_jqSt, ht0, ht1, ht2, ht3, ht4, ht5, ht6, ht7, ht8, ht9, ht10, ht11, ht12, ht13, ht14, ht15, hr0, hr1, hr2, hr3, hr4, hr5, hr6, hr7, hr8, hr9, hr10, hr11, hr12, hr13, hr14⟩ := hAll
  have hL9 : (L : Int) ≤ 384 := by omega
  obtain ⟨i1, i2, i3, i4, i5, w6, w7⟩ : (0 ≤ (σ 2 0).toInt ∧ (σ 2 0).toInt ≤ 4) ∧ (0 ≤ (σ 2 1).toInt ∧ (σ 2 1).toInt ≤ 3) ∧ (0 ≤ (σ 2 2).toInt) ∧ (0 ≤ (σ 2 3).toInt) ∧ ((σ 2 2).toInt + (σ 2 3).toInt ≤ 40) ∧ (∀ k : Nat, k < 40 → 0 ≤ (σ 6 k).toInt ∧ (σ 6 k).toInt ≤ 67) ∧ (∀ k : Nat, k < 4 → 0 ≤ (σ 5 k).toInt ∧ (σ 5 k).toInt ≤ 20) := id hI2
  obtain ⟨i8, w9, w10⟩ : (0 ≤ (σ 9 0).toInt ∧ (σ 9 0).toInt ≤ 80) ∧ (∀ k : Nat, k < 80 → 0 ≤ (σ 10 k).toInt ∧ (σ 10 k).toInt ≤ 255) ∧ (∀ k : Nat, k < 8 → 0 ≤ (σ 11 k).toInt ∧ (σ 11 k).toInt ≤ 3) := id hI9
  obtain ⟨i11, i12, i13, w14⟩ : (1 ≤ (σ 16 0).toInt ∧ (σ 16 0).toInt ≤ 8) ∧ (1 ≤ (σ 16 1).toInt ∧ (σ 16 1).toInt ≤ 12) ∧ (0 ≤ (σ 16 2).toInt ∧ (σ 16 2).toInt ≤ 999) ∧ (∀ k : Nat, k < 8 → 0 ≤ (σ 17 k).toInt ∧ (σ 17 k).toInt ≤ 3) := id hI16
  obtain ⟨i15, i16, w17⟩ : (0 ≤ (σ 38 0).toInt ∧ (σ 38 0).toInt ≤ 20) ∧ (0 ≤ (σ 38 1).toInt ∧ (σ 38 1).toInt ≤ 1000) ∧ (∀ k : Nat, k < 20 → 0 ≤ (σ 39 k).toInt ∧ (σ 39 k).toInt ≤ 6) := id hI38
  obtain ⟨i18, w19, w20⟩ : (0 ≤ (σ 47 0).toInt ∧ (σ 47 0).toInt ≤ 12) ∧ (∀ k : Nat, k < 12 → 0 ≤ (σ 48 k).toInt ∧ (σ 48 k).toInt ≤ 3) ∧ (∀ k : Nat, k < 12 → 0 ≤ (σ 49 k).toInt ∧ (σ 49 k).toInt ≤ 1) := id hI47
  have w21 : ∀ k : Nat, k < 6 → 0 ≤ (σ 52 k).toInt ∧ (σ 52 k).toInt ≤ 60 := hI50
  have i22 : 1 ≤ (σ 26 6).toInt ∧ (σ 26 6).toInt ≤ 8000 := hI26
  obtain ⟨i23, i24, i25, w26, w27, w28, w29⟩ : (0 ≤ (σ 55 5).toInt) ∧ ((σ 55 5).toInt ≤ (σ 55 4).toInt) ∧ ((σ 55 4).toInt ≤ 40) ∧ (∀ k : Nat, k < 68 → (-200) ≤ (σ 56 k).toInt ∧ (σ 56 k).toInt ≤ 500) ∧ (∀ k : Nat, k < 40 → 0 ≤ (σ 57 k).toInt ∧ (σ 57 k).toInt ≤ 67) ∧ (∀ k : Nat, k < 40 → (-200) ≤ (σ 58 k).toInt ∧ (σ 58 k).toInt ≤ 500) ∧ (∀ k : Nat, k < 40 → (-200) ≤ (σ 59 k).toInt ∧ (σ 59 k).toInt ≤ 500) := id hI101
  obtain ⟨i30, w31, w32⟩ : (0 ≤ (σ 55 6).toInt ∧ (σ 55 6).toInt ≤ 4) ∧ (∀ k : Nat, k < 4 → 0 ≤ (σ 60 k).toInt ∧ (σ 60 k).toInt ≤ 50) ∧ (∀ k : Nat, k < 4 → 0 ≤ (σ 61 k).toInt ∧ (σ 61 k).toInt ≤ 20) := id hI102
  have i33 : 0 ≤ (σ 55 9).toInt ∧ (σ 55 9).toInt ≤ 3 := hI103
  obtain ⟨i34, i35, i36, w37, w38⟩ : (1 ≤ (σ 55 10).toInt ∧ (σ 55 10).toInt ≤ 8) ∧ (1 ≤ (σ 55 12).toInt ∧ (σ 55 12).toInt ≤ 12) ∧ (0 ≤ (σ 55 13).toInt ∧ (σ 55 13).toInt ≤ 999) ∧ (∀ k : Nat, k < 8 → 0 ≤ (σ 62 k).toInt ∧ (σ 62 k).toInt ≤ 3) ∧ (∀ k : Nat, k < 8 → 0 ≤ (σ 67 k).toInt ∧ (σ 67 k).toInt ≤ 3) := id hI104
  obtain ⟨i39, w40⟩ : (0 ≤ (σ 55 15).toInt ∧ (σ 55 15).toInt ≤ 80) ∧ (∀ k : Nat, k < 2 → (-1) ≤ (σ 65 k).toInt ∧ (σ 65 k).toInt ≤ 80) := id hI105
  obtain ⟨i41, w42, w43, w44⟩ : (0 ≤ (σ 55 32).toInt ∧ (σ 55 32).toInt ≤ 20) ∧ (∀ k : Nat, k < 20 → 0 ≤ (σ 70 k).toInt ∧ (σ 70 k).toInt ≤ 6) ∧ (∀ k : Nat, k < 20 → 0 ≤ (σ 71 k).toInt ∧ (σ 71 k).toInt ≤ 8) ∧ (∀ k : Nat, k < 160 → 0 ≤ (σ 72 k).toInt ∧ (σ 72 k).toInt ≤ 3) := id hI106
  obtain ⟨i45, i46, w47⟩ : (0 ≤ (σ 55 47).toInt ∧ (σ 55 47).toInt ≤ 12) ∧ ((σ 55 47).toInt ≤ (σ 55 12).toInt) ∧ (∀ k : Nat, k < 12 → 0 ≤ (σ 80 k).toInt ∧ (σ 80 k).toInt ≤ 3) := id hI107
  have hs_jOk3 : jOk3 σ := hr0.ok hr1.1
  refine lv_aload_n hx hb dL_law_931 rfl (lv_at hl 2 rfl) ?_
  refine lv_aload_n hx hb dL_law_932 rfl (lv_at hl 3 rfl) ?_
  refine lv_iload_n hx hb dL_law_933 rfl (lv_at hl 0 rfl) ?_
  refine lv_iconst (v := 1) hx hb dL_law_934 (by decide) ?_
  have g48 := jrg (rfl : x0.toInt = x0.toInt)
  refine lv_iadd hx hb dL_law_935 ?_
  refine lv_topi (fun x49 ex49 => ?_)
  exact by
   have tx49 : x49.toInt = x0.toInt + 1 := (jadd ex49 rfl jz_1 (by omega) (by omega)).trans (by omega)
   refine va_sld hx hb hX hbl hbA hS (jin tx49 (by omega) (by omega)) dL_law_936 ?_
   have g50 := jrg (rfl : (xs x49.toNatClampNeg).toInt = (xs x49.toNatClampNeg).toInt)
   refine lv_aload_n hx hb dL_law_937 rfl (lv_at hl 3 rfl) ?_
   refine lv_iload_n hx hb dL_law_938 rfl (lv_at hl 0 rfl) ?_
   refine lv_iconst (v := 2) hx hb dL_law_939 (by decide) ?_
   refine lv_iadd hx hb dL_law_940 ?_
   refine lv_topi (fun x51 ex51 => ?_)
   have tx51 : x51.toInt = x0.toInt + 2 := (jadd ex51 rfl jz_2 (by omega) (by omega)).trans (by omega)
   exact by
    refine va_sld hx hb hX hbl hbA hS (jin tx51 (by omega) (by omega)) dL_law_941 ?_
    have g52 := jrg (rfl : (xs x51.toNatClampNeg).toInt = (xs x51.toNatClampNeg).toInt)
    refine jcallV (As := [.int (xs x49.toNatClampNeg), .int (xs x51.toNatClampNeg)]) (rest := []) ⟨hx, hb, hml, hown, hts⟩ hK hP hA hS hZ (c_X11_led l D cI cL ad zz hJ σ τ (xs x49.toNatClampNeg) ((xs x49.toNatClampNeg).toInt) rfl (xs x51.toNatClampNeg) ((xs x51.toNatClampNeg).toInt) rfl hI43) cw_RL_117 (jc_0 cI cL ad σ τ) rfl ⟨Nat.le_of_ble_eq_true rfl, Nat.le_of_ble_eq_true rfl⟩ rfl rfl rfl hl.1 rfl (Nat.le_of_ble_eq_true rfl) dL_law_942 ⟨Nat.le_of_ble_eq_true rfl, Nat.le_of_ble_eq_true rfl⟩ (fun r54 σ53 τ53 H locs h53 hP hS => ?_)
    obtain ⟨⟨rfl, rfl⟩, w55, h53⟩ := h53
    refine lv_pop hx hb dL_law_945 rfl ?_
    refine lv_aload_n hx hb dL_law_946 rfl (lv_at hl 1 rfl) ?_
    refine lv_aload_n hx hb dL_law_947 rfl (lv_at hl 3 rfl) ?_
    refine lv_iload_n hx hb dL_law_948 rfl (lv_at hl 0 rfl) ?_
    refine lv_iconst (v := 1) hx hb dL_law_949 (by decide) ?_
    refine lv_iadd hx hb dL_law_950 ?_
    refine jtopr ex49.symm ?_
    exact by
     refine va_sld hx hb hX hbl hbA hS (jin tx49 (by omega) (by omega)) dL_law_951 ?_
     refine lv_aload_n hx hb dL_law_952 rfl (lv_at hl 3 rfl) ?_
     refine lv_iload_n hx hb dL_law_953 rfl (lv_at hl 0 rfl) ?_
     refine lv_iconst (v := 2) hx hb dL_law_954 (by decide) ?_
     refine lv_iadd hx hb dL_law_955 ?_
     refine jtopr ex51.symm ?_
     refine va_sld hx hb hX hbl hbA hS (jin tx51 (by omega) (by omega)) dL_law_956 ?_
     refine jcallV (As := [.int (xs x49.toNatClampNeg), .int (xs x51.toNatClampNeg)]) (rest := []) ⟨hx, hb, hml, hown, hts⟩ hK hP hA hS hZ (c_X12_led l D cI cL ad zz hJ σ τ (xs x49.toNatClampNeg) ((xs x49.toNatClampNeg).toInt) rfl (xs x51.toNatClampNeg) ((xs x51.toNatClampNeg).toInt) rfl hI109) cw_RL_120 (jc_55 cI cL ad σ τ) rfl ⟨Nat.le_of_ble_eq_true rfl, Nat.le_of_ble_eq_true rfl⟩ rfl rfl rfl hl.1 rfl (Nat.le_of_ble_eq_true rfl) dL_law_957 ⟨Nat.le_of_ble_eq_true rfl, Nat.le_of_ble_eq_true rfl⟩ (fun r57 σ56 τ56 H locs h56 hP hS => ?_)
     obtain ⟨⟨rfl, rfl⟩, w58, h56⟩ := h56
     exact by
      refine lv_pop hx hb dL_law_960 rfl ?_
      refine lv_goto (tgt := 1357) hx hb dL_law_961 (by decide) ?_
      obtain ⟨x59, ex59⟩ : ∃ y : Int32, y = x0 + 6 := ⟨_, rfl⟩
      have tx59 : x59.toInt = x0.toInt + 6 := (jadd ex59 rfl jz_6 (by omega) (by omega)).trans (by omega)
      refine lv_iinc (v := x59) (lv' := [(3, .int x59), (2, .ref (ad 55)), (1, .ref (ad 0)), (0, .ref b)]) hx hb dL_law_1357 hl (k := 0) rfl (by rw [ex59]; rfl) (by decide) rfl (fun ls hl => ?_)
      refine lv_goto (tgt := 18) hx hb dL_law_1360 (by decide) ?_
      exact by exact ih x59 σ τ _ _ ls (by have h9 := tx59; omega) ⟨hI2, hI9, hI12, hI16, hI18, hI22, hI31, hI38, hI43, hI47, hI50, hI0, hI26, hI101, hI102, hI103, hI104, hI105, hI106, hI107, hI109, hI110, hI111, hI119, hs_jKept, hs_jBook, hs_jNd12, hs_jN67, hs_jBl, hs_jKb, hs_jTR, hs_jKh, hs_jKg, hs_jNz, hs_jqSt, ht0, ht1, ht2, ht3, ht4, ht5, ht6, ht7, ht8, ht9, ht10, ht11, ht12, ht13, (by have h9 := tx59; omega), (by have h9 := tx59; omega), hr0, hr1, hr2, hr3, hr4, hr5, hr6, hr7, hr8, hr9, hr10, hr11, hr12, hr13, hr14⟩ hP hS (lv_sub hl [0, 1, 2, 3] rfl)
set_option maxHeartbeats 4000000 in
set_option maxRecDepth 100000 in
theorem law_case_26 {p : Program} {e : Env} {s : State} {m : MethodId} {below : List Frame} {meth : Method} {c : Code} (l : Launch) {b L : Nat} {xs : Nat → Int32} {D : va_G} {cI cL : ClassId} {ad zz : Nat → Nat} (C0 : lw_At p s m meth c b L xs) (hJ : jD ad) (hA : ∀ q, jA ad q → s.heap.size ≤ q) (hK : jK D cI cL s) (hZ : jZ zz (fun q : Nat => s.heap.size ≤ q) s s.heap) {x0 : Int32} (hx0 : 0 ≤ x0.toInt) (hxL : x0.toInt + 6 ≤ (L : Int)) (hL : L ≤ 384) {σ : Nat → Nat → Int32} {τ : Nat → Nat → Int64} {H : Heap} {locs : List Loc} (hS : va_S (fun q : Nat => s.heap.size ≤ q) s.heap H locs) {ls : Array Slot} (hAll : jAll x0.toInt σ τ) (hP : jH D cI cL ad σ τ H) (hl : lv_has ls 4 [(3, .int x0), (2, .ref (ad 55)), (1, .ref (ad 0)), (0, .ref b)]) (ih : ∀ (x1 : Int32) (σ : Nat → Nat → Int32) (τ : Nat → Nat → Int64) (H : Heap) (locs : List Loc) (ls : Array Slot), x1.toInt = x0.toInt + 6 → jAll x1.toInt σ τ → jH D cI cL ad σ τ H → va_S (fun q : Nat => s.heap.size ≤ q) s.heap H locs → lv_has ls 4 [(3, .int x1), (2, .ref (ad 55)), (1, .ref (ad 0)), (0, .ref b)] → W p l e room_1 s m #[Value.ref b] below meth c H locs 90 348600 (lw_Z below #[Value.ref b] s) (F0 m 18 ls [])) : W p l e room_1 s m #[Value.ref b] below meth c H locs 90 348600 (lw_Z below #[Value.ref b] s) (F0 m 964 ls []) := by
  obtain ⟨hx, hb, hr, hml, hown, hts0, hX, hbl, hlocks, hgv⟩ := C0
  have hts : ∀ w ∈ wsL_law, w.before #[Value.ref b] s = true := fun w h => hts0 w (wsL_law_in w h)
  have hbA : ¬ (fun q : Nat => s.heap.size ≤ q) b := Nat.not_le.mpr hbl
  have hown : s.vm.findClass RL = some m.cls := hown
  obtain ⟨hI2, hI9, hI12, hI16, hI18, hI22, hI31, hI38, hI43, hI47, hI50, hI0, hI26, hI101, hI102, hI103, hI104, hI105, hI106, hI107, hI109, hI110, hI111, hI119, hs_jKept, hs_jBook, hs_jNd12, hs_jN67, hs_jBl, hs_jKb, hs_jTR, hs_jKh, hs_jKg, hs_jNz, hs_jqSt, ht0, ht1, ht2, ht3, ht4, ht5, ht6, ht7, ht8, ht9, ht10, ht11, ht12, ht13, ht14, ht15, hr0, hr1, hr2, hr3, hr4, hr5, hr6, hr7, hr8, hr9, hr10, hr11, hr12, hr13, hr14⟩ := hAll
  have hL9 : (L : Int) ≤ 384 := by omega
  obtain ⟨i1, i2, i3, i4, i5, w6, w7⟩ : (0 ≤ (σ 2 0).toInt ∧ (σ 2 0).toInt ≤ 4) ∧ (0 ≤ (σ 2 1).toInt ∧ (σ 2 1).toInt ≤ 3) ∧ (0 ≤ (σ 2 2).toInt) ∧ (0 ≤ (σ 2 3).toInt) ∧ ((σ 2 2).toInt + (σ 2 3).toInt ≤ 40) ∧ (∀ k : Nat, k < 40 → 0 ≤ (σ 6 k).toInt ∧ (σ 6 k).toInt ≤ 67) ∧ (∀ k : Nat, k < 4 → 0 ≤ (σ 5 k).toInt ∧ (σ 5 k).toInt ≤ 20) := id hI2
  obtain ⟨i8, w9, w10⟩ : (0 ≤ (σ 9 0).toInt ∧ (σ 9 0).toInt ≤ 80) ∧ (∀ k : Nat, k < 80 → 0 ≤ (σ 10 k).toInt ∧ (σ 10 k).toInt ≤ 255) ∧ (∀ k : Nat, k < 8 → 0 ≤ (σ 11 k).toInt ∧ (σ 11 k).toInt ≤ 3) := id hI9
  obtain ⟨i11, i12, i13, w14⟩ : (1 ≤ (σ 16 0).toInt ∧ (σ 16 0).toInt ≤ 8) ∧ (1 ≤ (σ 16 1).toInt ∧ (σ 16 1).toInt ≤ 12) ∧ (0 ≤ (σ 16 2).toInt ∧ (σ 16 2).toInt ≤ 999) ∧ (∀ k : Nat, k < 8 → 0 ≤ (σ 17 k).toInt ∧ (σ 17 k).toInt ≤ 3) := id hI16
  obtain ⟨i15, i16, w17⟩ : (0 ≤ (σ 38 0).toInt ∧ (σ 38 0).toInt ≤ 20) ∧ (0 ≤ (σ 38 1).toInt ∧ (σ 38 1).toInt ≤ 1000) ∧ (∀ k : Nat, k < 20 → 0 ≤ (σ 39 k).toInt ∧ (σ 39 k).toInt ≤ 6) := id hI38
  obtain ⟨i18, w19, w20⟩ : (0 ≤ (σ 47 0).toInt ∧ (σ 47 0).toInt ≤ 12) ∧ (∀ k : Nat, k < 12 → 0 ≤ (σ 48 k).toInt ∧ (σ 48 k).toInt ≤ 3) ∧ (∀ k : Nat, k < 12 → 0 ≤ (σ 49 k).toInt ∧ (σ 49 k).toInt ≤ 1) := id hI47
  have w21 : ∀ k : Nat, k < 6 → 0 ≤ (σ 52 k).toInt ∧ (σ 52 k).toInt ≤ 60 := hI50
  have i22 : 1 ≤ (σ 26 6).toInt ∧ (σ 26 6).toInt ≤ 8000 := hI26
  obtain ⟨i23, i24, i25, w26, w27, w28, w29⟩ : (0 ≤ (σ 55 5).toInt) ∧ ((σ 55 5).toInt ≤ (σ 55 4).toInt) ∧ ((σ 55 4).toInt ≤ 40) ∧ (∀ k : Nat, k < 68 → (-200) ≤ (σ 56 k).toInt ∧ (σ 56 k).toInt ≤ 500) ∧ (∀ k : Nat, k < 40 → 0 ≤ (σ 57 k).toInt ∧ (σ 57 k).toInt ≤ 67) ∧ (∀ k : Nat, k < 40 → (-200) ≤ (σ 58 k).toInt ∧ (σ 58 k).toInt ≤ 500) ∧ (∀ k : Nat, k < 40 → (-200) ≤ (σ 59 k).toInt ∧ (σ 59 k).toInt ≤ 500) := id hI101
  obtain ⟨i30, w31, w32⟩ : (0 ≤ (σ 55 6).toInt ∧ (σ 55 6).toInt ≤ 4) ∧ (∀ k : Nat, k < 4 → 0 ≤ (σ 60 k).toInt ∧ (σ 60 k).toInt ≤ 50) ∧ (∀ k : Nat, k < 4 → 0 ≤ (σ 61 k).toInt ∧ (σ 61 k).toInt ≤ 20) := id hI102
  have i33 : 0 ≤ (σ 55 9).toInt ∧ (σ 55 9).toInt ≤ 3 := hI103
  obtain ⟨i34, i35, i36, w37, w38⟩ : (1 ≤ (σ 55 10).toInt ∧ (σ 55 10).toInt ≤ 8) ∧ (1 ≤ (σ 55 12).toInt ∧ (σ 55 12).toInt ≤ 12) ∧ (0 ≤ (σ 55 13).toInt ∧ (σ 55 13).toInt ≤ 999) ∧ (∀ k : Nat, k < 8 → 0 ≤ (σ 62 k).toInt ∧ (σ 62 k).toInt ≤ 3) ∧ (∀ k : Nat, k < 8 → 0 ≤ (σ 67 k).toInt ∧ (σ 67 k).toInt ≤ 3) := id hI104
  obtain ⟨i39, w40⟩ : (0 ≤ (σ 55 15).toInt ∧ (σ 55 15).toInt ≤ 80) ∧ (∀ k : Nat, k < 2 → (-1) ≤ (σ 65 k).toInt ∧ (σ 65 k).toInt ≤ 80) := id hI105
  obtain ⟨i41, w42, w43, w44⟩ : (0 ≤ (σ 55 32).toInt ∧ (σ 55 32).toInt ≤ 20) ∧ (∀ k : Nat, k < 20 → 0 ≤ (σ 70 k).toInt ∧ (σ 70 k).toInt ≤ 6) ∧ (∀ k : Nat, k < 20 → 0 ≤ (σ 71 k).toInt ∧ (σ 71 k).toInt ≤ 8) ∧ (∀ k : Nat, k < 160 → 0 ≤ (σ 72 k).toInt ∧ (σ 72 k).toInt ≤ 3) := id hI106
  obtain ⟨i45, i46, w47⟩ : (0 ≤ (σ 55 47).toInt ∧ (σ 55 47).toInt ≤ 12) ∧ ((σ 55 47).toInt ≤ (σ 55 12).toInt) ∧ (∀ k : Nat, k < 12 → 0 ≤ (σ 80 k).toInt ∧ (σ 80 k).toInt ≤ 3) := id hI107
  have hs_jOk3 : jOk3 σ := hr0.ok hr1.1
  refine lv_aload_n hx hb dL_law_964 rfl (lv_at hl 2 rfl) ?_
  refine jcallV (As := []) (rest := []) ⟨hx, hb, hml, hown, hts⟩ hK hP hA hS hZ (c_X11_undo l D cI cL ad zz hJ σ τ hI2) cw_RL_121 (jc_0 cI cL ad σ τ) rfl ⟨Nat.le_of_ble_eq_true rfl, Nat.le_of_ble_eq_true rfl⟩ rfl rfl rfl hl.1 rfl (Nat.le_of_ble_eq_true rfl) dL_law_965 ⟨Nat.le_of_ble_eq_true rfl, Nat.le_of_ble_eq_true rfl⟩ (fun r49 σ48 τ48 H locs h48 hP hS => ?_)
  obtain ⟨rfl, f50, f51, I52, h48⟩ := h48
  obtain ⟨i54, i55, i56, i57, i58, w59, w60⟩ : (0 ≤ (σ48 2 0).toInt ∧ (σ48 2 0).toInt ≤ 4) ∧ (0 ≤ (σ48 2 1).toInt ∧ (σ48 2 1).toInt ≤ 3) ∧ (0 ≤ (σ48 2 2).toInt) ∧ (0 ≤ (σ48 2 3).toInt) ∧ ((σ48 2 2).toInt + (σ48 2 3).toInt ≤ 40) ∧ (∀ k : Nat, k < 40 → 0 ≤ (σ48 6 k).toInt ∧ (σ48 6 k).toInt ≤ 67) ∧ (∀ k : Nat, k < 4 → 0 ≤ (σ48 5 k).toInt ∧ (σ48 5 k).toInt ≤ 20) := id I52
  have z61 : (σ48 2 0).toInt = (σ 2 0).toInt := (congrArg Int32.toInt (show σ48 2 0 = (σ 2 0) from (f51 0 (by decide))))
  have z62 : (σ48 2 1).toInt = (σ 2 1).toInt := (congrArg Int32.toInt (show σ48 2 1 = (σ 2 1) from (f51 1 (by decide))))
  rcases h48 with h63 | h64
  · obtain ⟨q69, k65, k66, k67, k68⟩ := h63
    have q69 := q69.symm
    subst q69
    refine lv_pop hx hb dL_law_968 rfl ?_
    refine lv_aload_n hx hb dL_law_969 rfl (lv_at hl 1 rfl) ?_
    have I70 : jI101 σ48 := jI101_fr (congrFun (f50 55 (by decide)) 4) (congrFun (f50 55 (by decide)) 5) (f50 56 (by decide)) (f50 57 (by decide)) (f50 58 (by decide)) (f50 59 (by decide)) hI101
    have z71 : (σ48 55 5).toInt = (σ 55 5).toInt := (congrArg Int32.toInt (show σ48 55 5 = (σ 55 5) from (congrFun (f50 55 (by decide)) 5)))
    refine jcallV (As := []) (rest := []) ⟨hx, hb, hml, hown, hts⟩ hK hP hA hS hZ (c_X12_undo l D cI cL ad zz hJ σ48 τ I70) cw_RL_124 (jc_55 cI cL ad σ48 τ) rfl ⟨Nat.le_of_ble_eq_true rfl, Nat.le_of_ble_eq_true rfl⟩ rfl rfl rfl hl.1 rfl (Nat.le_of_ble_eq_true rfl) dL_law_970 ⟨Nat.le_of_ble_eq_true rfl, Nat.le_of_ble_eq_true rfl⟩ (fun r73 σ72 τ72 H locs h72 hP hS => ?_)
    obtain ⟨rfl, f74, f75, I76, h72⟩ := h72
    obtain ⟨i78, i79, i80, w81, w82, w83, w84⟩ : (0 ≤ (σ72 55 5).toInt) ∧ ((σ72 55 5).toInt ≤ (σ72 55 4).toInt) ∧ ((σ72 55 4).toInt ≤ 40) ∧ (∀ k : Nat, k < 68 → (-200) ≤ (σ72 56 k).toInt ∧ (σ72 56 k).toInt ≤ 500) ∧ (∀ k : Nat, k < 40 → 0 ≤ (σ72 57 k).toInt ∧ (σ72 57 k).toInt ≤ 67) ∧ (∀ k : Nat, k < 40 → (-200) ≤ (σ72 58 k).toInt ∧ (σ72 58 k).toInt ≤ 500) ∧ (∀ k : Nat, k < 40 → (-200) ≤ (σ72 59 k).toInt ∧ (σ72 59 k).toInt ≤ 500) := id I76
    have z85 : (σ72 55 4).toInt = (σ 55 4).toInt := (congrArg Int32.toInt (show σ72 55 4 = (σ 55 4) from ((f75 4 (by decide)).trans (congrFun (f50 55 (by decide)) 4))))
    rcases h72 with h86 | h87
    · obtain ⟨q91, k88, k89, k90⟩ := h86
      have q91 := q91.symm
      subst q91
      refine lv_pop hx hb dL_law_973 rfl ?_
      refine lv_goto (tgt := 1357) hx hb dL_law_974 (by decide) ?_
      obtain ⟨x92, ex92⟩ : ∃ y : Int32, y = x0 + 6 := ⟨_, rfl⟩
      exact by
       have tx92 : x92.toInt = x0.toInt + 6 := (jadd ex92 rfl jz_6 (by omega) (by omega)).trans (by omega)
       refine lv_iinc (v := x92) (lv' := [(3, .int x92), (2, .ref (ad 55)), (1, .ref (ad 0)), (0, .ref b)]) hx hb dL_law_1357 hl (k := 0) rfl (by rw [ex92]; rfl) (by decide) rfl (fun ls hl => ?_)
       refine lv_goto (tgt := 18) hx hb dL_law_1360 (by decide) ?_
       have I93 : jI2 σ72 := jI2_fr (congrFun (f74 2 (by decide)) 0) (congrFun (f74 2 (by decide)) 1) (congrFun (f74 2 (by decide)) 2) (congrFun (f74 2 (by decide)) 3) (f74 6 (by decide)) (f74 5 (by decide)) I52
       have I94 : jI9 σ72 := jI9_fr ((congrFun (f74 9 (by decide)) 0).trans (congrFun (f50 9 (by decide)) 0)) ((f74 10 (by decide)).trans (f50 10 (by decide))) ((f74 11 (by decide)).trans (f50 11 (by decide))) hI9
       have I95 : jI12 σ72 := jI12_fr ((congrFun (f74 12 (by decide)) 0).trans (congrFun (f50 12 (by decide)) 0)) ((f74 13 (by decide)).trans (f50 13 (by decide))) hI12
       have I96 : jI16 σ72 := jI16_fr ((congrFun (f74 16 (by decide)) 0).trans (congrFun (f50 16 (by decide)) 0)) ((congrFun (f74 16 (by decide)) 1).trans (congrFun (f50 16 (by decide)) 1)) ((congrFun (f74 16 (by decide)) 2).trans (congrFun (f50 16 (by decide)) 2)) ((f74 17 (by decide)).trans (f50 17 (by decide))) hI16
       have I97 : jI18 σ72 := jI18_fr ((congrFun (f74 18 (by decide)) 0).trans (congrFun (f50 18 (by decide)) 0)) ((f74 19 (by decide)).trans (f50 19 (by decide))) hI18
       have I98 : jI22 σ72 := jI22_fr ((congrFun (f74 22 (by decide)) 0).trans (congrFun (f50 22 (by decide)) 0)) ((f74 23 (by decide)).trans (f50 23 (by decide))) hI22
       exact by
        have I99 : jI31 σ72 := jI31_fr ((congrFun (f74 31 (by decide)) 8).trans (congrFun (f50 31 (by decide)) 8)) ((congrFun (f74 31 (by decide)) 10).trans (congrFun (f50 31 (by decide)) 10)) ((congrFun (f74 31 (by decide)) 11).trans (congrFun (f50 31 (by decide)) 11)) ((f74 33 (by decide)).trans (f50 33 (by decide))) ((f74 35 (by decide)).trans (f50 35 (by decide))) ((f74 36 (by decide)).trans (f50 36 (by decide))) hI31
        have I100 : jI38 σ72 := jI38_fr ((congrFun (f74 38 (by decide)) 0).trans (congrFun (f50 38 (by decide)) 0)) ((congrFun (f74 38 (by decide)) 1).trans (congrFun (f50 38 (by decide)) 1)) ((f74 39 (by decide)).trans (f50 39 (by decide))) hI38
        have I101 : jI43 σ72 := jI43_fr ((congrFun (f74 43 (by decide)) 8).trans (congrFun (f50 43 (by decide)) 8)) hI43
        have I102 : jI47 σ72 := jI47_fr ((congrFun (f74 47 (by decide)) 0).trans (congrFun (f50 47 (by decide)) 0)) ((f74 48 (by decide)).trans (f50 48 (by decide))) ((f74 49 (by decide)).trans (f50 49 (by decide))) hI47
        have I103 : jI50 σ72 := jI50_fr ((f74 52 (by decide)).trans (f50 52 (by decide))) hI50
        have I104 : jI0 σ72 := jI0_fr ((f74 1 (by decide)).trans (f50 1 (by decide))) hI0
        have I105 : jI26 σ72 := jI26_fr ((congrFun (f74 26 (by decide)) 6).trans (congrFun (f50 26 (by decide)) 6)) hI26
        have I106 : jI102 σ72 := jI102_fr ((f75 6 (by decide)).trans (congrFun (f50 55 (by decide)) 6)) ((f74 60 (by decide)).trans (f50 60 (by decide))) ((f74 61 (by decide)).trans (f50 61 (by decide))) hI102
        have I107 : jI103 σ72 := jI103_fr ((f75 9 (by decide)).trans (congrFun (f50 55 (by decide)) 9)) hI103
        have I108 : jI104 σ72 := jI104_fr ((f75 10 (by decide)).trans (congrFun (f50 55 (by decide)) 10)) ((f75 12 (by decide)).trans (congrFun (f50 55 (by decide)) 12)) ((f75 13 (by decide)).trans (congrFun (f50 55 (by decide)) 13)) ((f74 62 (by decide)).trans (f50 62 (by decide))) ((f74 67 (by decide)).trans (f50 67 (by decide))) hI104
        have I109 : jI105 σ72 := jI105_fr ((f75 15 (by decide)).trans (congrFun (f50 55 (by decide)) 15)) ((f74 65 (by decide)).trans (f50 65 (by decide))) hI105
        have I110 : jI106 σ72 := jI106_fr ((f75 32 (by decide)).trans (congrFun (f50 55 (by decide)) 32)) ((f74 70 (by decide)).trans (f50 70 (by decide))) ((f74 71 (by decide)).trans (f50 71 (by decide))) ((f74 72 (by decide)).trans (f50 72 (by decide))) hI106
        have I111 : jI107 σ72 := jI107_fr ((f75 12 (by decide)).trans (congrFun (f50 55 (by decide)) 12)) ((f75 47 (by decide)).trans (congrFun (f50 55 (by decide)) 47)) ((f74 80 (by decide)).trans (f50 80 (by decide))) hI107
        have I112 : jI109 σ72 := jI109_fr ((f75 50 (by decide)).trans (congrFun (f50 55 (by decide)) 50)) hI109
        have I113 : jI110 σ72 := jI110_fr ((f74 86 (by decide)).trans (f50 86 (by decide))) ((f74 87 (by decide)).trans (f50 87 (by decide))) hI110
        have I114 : jI111 σ72 := jI111_fr ((f74 79 (by decide)).trans (f50 79 (by decide))) hI111
        have I115 : jI119 σ72 := jI119_fr ((f74 68 (by decide)).trans (f50 68 (by decide))) hI119
        have p116 : jKept σ72 := jKept.fr ((f74 75 (by decide)).trans (f50 75 (by decide))) ((f74 76 (by decide)).trans (f50 76 (by decide))) ((f74 77 (by decide)).trans (f50 77 (by decide))) hs_jKept
        have p117 : jBook σ72 := jBook.fr ((f75 47 (by decide)).trans (congrFun (f50 55 (by decide)) 47)) ((f75 10 (by decide)).trans (congrFun (f50 55 (by decide)) 10)) ((f74 81 (by decide)).trans (f50 81 (by decide))) hs_jBook
        have p118 : jNd12 σ72 := jNd12.fr ((congrFun (f74 12 (by decide)) 0).trans (congrFun (f50 12 (by decide)) 0)) ((congrFun (f74 12 (by decide)) 1).trans (congrFun (f50 12 (by decide)) 1)) ((f74 13 (by decide)).trans (f50 13 (by decide))) hs_jNd12
        have p119 : jN67 σ72 := jN67.fr ((f74 24 (by decide)).trans (f50 24 (by decide))) hs_jN67
        have p120 : jBl σ72 := jBl.fr ((congrFun (f74 22 (by decide)) 0).trans (congrFun (f50 22 (by decide)) 0)) ((congrFun (f74 22 (by decide)) 1).trans (congrFun (f50 22 (by decide)) 1)) ((f74 23 (by decide)).trans (f50 23 (by decide))) ((congrFun (f74 26 (by decide)) 6).trans (congrFun (f50 26 (by decide)) 6)) ((congrFun (f74 26 (by decide)) 7).trans (congrFun (f50 26 (by decide)) 7)) ((f74 29 (by decide)).trans (f50 29 (by decide))) ((f74 30 (by decide)).trans (f50 30 (by decide))) hs_jBl
        have p121 : jKb σ72 := jKb.fr ((congrFun (f74 31 (by decide)) 8).trans (congrFun (f50 31 (by decide)) 8)) ((congrFun (f74 31 (by decide)) 11).trans (congrFun (f50 31 (by decide)) 11)) ((f74 32 (by decide)).trans (f50 32 (by decide))) hs_jKb
        have p122 : jTR σ72 := jTR.fr ((f74 64 (by decide)).trans (f50 64 (by decide))) ((f74 65 (by decide)).trans (f50 65 (by decide))) hs_jTR
        have p123 : jKh σ72 := jKh.fr ((congrFun (f74 31 (by decide)) 8).trans (congrFun (f50 31 (by decide)) 8)) ((f74 32 (by decide)).trans (f50 32 (by decide))) ((f74 36 (by decide)).trans (f50 36 (by decide))) ((f74 37 (by decide)).trans (f50 37 (by decide))) hs_jKh
        have p124 : jKg σ72 := jKg.fr ((congrFun (f74 31 (by decide)) 8).trans (congrFun (f50 31 (by decide)) 8)) ((congrFun (f74 31 (by decide)) 9).trans (congrFun (f50 31 (by decide)) 9)) ((congrFun (f74 31 (by decide)) 11).trans (congrFun (f50 31 (by decide)) 11)) ((congrFun (f74 31 (by decide)) 12).trans (congrFun (f50 31 (by decide)) 12)) ((f74 32 (by decide)).trans (f50 32 (by decide))) ((f74 33 (by decide)).trans (f50 33 (by decide))) hs_jKg
        have p125 : jNz σ72 := jNz.fr ((f74 34 (by decide)).trans (f50 34 (by decide))) hs_jNz
        have p126 : jqSt σ72 := jqSt.fr ((f74 78 (by decide)).trans (f50 78 (by decide))) ((f75 42 (by decide)).trans (congrFun (f50 55 (by decide)) 42)) hs_jqSt
        have z127 : (σ72 2 0).toInt = (σ 2 0).toInt := (congrArg Int32.toInt (show σ72 2 0 = (σ 2 0) from ((congrFun (f74 2 (by decide)) 0).trans (f51 0 (by decide)))))
        have z128 : (σ72 55 6).toInt = (σ 55 6).toInt := (congrArg Int32.toInt (show σ72 55 6 = (σ 55 6) from ((f75 6 (by decide)).trans (congrFun (f50 55 (by decide)) 6))))
        have z129 : (σ72 2 2).toInt = (σ48 2 2).toInt := (congrArg Int32.toInt (show σ72 2 2 = (σ48 2 2) from (congrFun (f74 2 (by decide)) 2)))
        have z130 : (σ72 2 3).toInt = (σ48 2 3).toInt := (congrArg Int32.toInt (show σ72 2 3 = (σ48 2 3) from (congrFun (f74 2 (by decide)) 3)))
        have z131 : (σ72 9 0).toInt = (σ 9 0).toInt := (congrArg Int32.toInt (show σ72 9 0 = (σ 9 0) from ((congrFun (f74 9 (by decide)) 0).trans (congrFun (f50 9 (by decide)) 0))))
        have z132 : (σ72 55 15).toInt = (σ 55 15).toInt := (congrArg Int32.toInt (show σ72 55 15 = (σ 55 15) from ((f75 15 (by decide)).trans (congrFun (f50 55 (by decide)) 15))))
        have z133 : (σ72 16 0).toInt = (σ 16 0).toInt := (congrArg Int32.toInt (show σ72 16 0 = (σ 16 0) from ((congrFun (f74 16 (by decide)) 0).trans (congrFun (f50 16 (by decide)) 0))))
        have z134 : (σ72 55 10).toInt = (σ 55 10).toInt := (congrArg Int32.toInt (show σ72 55 10 = (σ 55 10) from ((f75 10 (by decide)).trans (congrFun (f50 55 (by decide)) 10))))
        have z135 : (σ72 16 1).toInt = (σ 16 1).toInt := (congrArg Int32.toInt (show σ72 16 1 = (σ 16 1) from ((congrFun (f74 16 (by decide)) 1).trans (congrFun (f50 16 (by decide)) 1))))
        have z136 : (σ72 55 12).toInt = (σ 55 12).toInt := (congrArg Int32.toInt (show σ72 55 12 = (σ 55 12) from ((f75 12 (by decide)).trans (congrFun (f50 55 (by decide)) 12))))
        have z137 : (σ72 16 2).toInt = (σ 16 2).toInt := (congrArg Int32.toInt (show σ72 16 2 = (σ 16 2) from ((congrFun (f74 16 (by decide)) 2).trans (congrFun (f50 16 (by decide)) 2))))
        have z138 : (σ72 55 13).toInt = (σ 55 13).toInt := (congrArg Int32.toInt (show σ72 55 13 = (σ 55 13) from ((f75 13 (by decide)).trans (congrFun (f50 55 (by decide)) 13))))
        have z139 : (σ72 38 0).toInt = (σ 38 0).toInt := (congrArg Int32.toInt (show σ72 38 0 = (σ 38 0) from ((congrFun (f74 38 (by decide)) 0).trans (congrFun (f50 38 (by decide)) 0))))
        have z140 : (σ72 55 32).toInt = (σ 55 32).toInt := (congrArg Int32.toInt (show σ72 55 32 = (σ 55 32) from ((f75 32 (by decide)).trans (congrFun (f50 55 (by decide)) 32))))
        have z141 : (σ72 38 1).toInt = (σ 38 1).toInt := (congrArg Int32.toInt (show σ72 38 1 = (σ 38 1) from ((congrFun (f74 38 (by decide)) 1).trans (congrFun (f50 38 (by decide)) 1))))
        have z142 : (σ72 55 55).toInt = (σ 55 55).toInt := (congrArg Int32.toInt (show σ72 55 55 = (σ 55 55) from ((f75 55 (by decide)).trans (congrFun (f50 55 (by decide)) 55))))
        have z143 : (σ72 47 0).toInt = (σ 47 0).toInt := (congrArg Int32.toInt (show σ72 47 0 = (σ 47 0) from ((congrFun (f74 47 (by decide)) 0).trans (congrFun (f50 47 (by decide)) 0))))
        have z144 : (σ72 55 47).toInt = (σ 55 47).toInt := (congrArg Int32.toInt (show σ72 55 47 = (σ 55 47) from ((f75 47 (by decide)).trans (congrFun (f50 55 (by decide)) 47))))
        have z145 : (σ72 55 30).toInt = (σ 55 30).toInt := (congrArg Int32.toInt (show σ72 55 30 = (σ 55 30) from ((f75 30 (by decide)).trans (congrFun (f50 55 (by decide)) 30))))
        have z146 : (σ72 55 31).toInt = (σ 55 31).toInt := (congrArg Int32.toInt (show σ72 55 31 = (σ 55 31) from ((f75 31 (by decide)).trans (congrFun (f50 55 (by decide)) 31))))
        have z147 : (σ72 2 1).toInt = (σ 2 1).toInt := (congrArg Int32.toInt (show σ72 2 1 = (σ 2 1) from ((congrFun (f74 2 (by decide)) 1).trans (f51 1 (by decide)))))
        have z148 : (σ72 55 9).toInt = (σ 55 9).toInt := (congrArg Int32.toInt (show σ72 55 9 = (σ 55 9) from ((f75 9 (by decide)).trans (congrFun (f50 55 (by decide)) 9))))
        have z149 : (σ72 55 42).toInt = (σ 55 42).toInt := (congrArg Int32.toInt (show σ72 55 42 = (σ 55 42) from ((f75 42 (by decide)).trans (congrFun (f50 55 (by decide)) 42))))
        have z150 : (σ72 26 6).toInt = (σ 26 6).toInt := (congrArg Int32.toInt (show σ72 26 6 = (σ 26 6) from ((congrFun (f74 26 (by decide)) 6).trans (congrFun (f50 26 (by decide)) 6))))
        have z152 : (σ72 18 0).toInt = (σ 18 0).toInt := (congrArg Int32.toInt (show σ72 18 0 = (σ 18 0) from ((congrFun (f74 18 (by decide)) 0).trans (congrFun (f50 18 (by decide)) 0))))
        have z153 : (σ72 22 0).toInt = (σ 22 0).toInt := (congrArg Int32.toInt (show σ72 22 0 = (σ 22 0) from ((congrFun (f74 22 (by decide)) 0).trans (congrFun (f50 22 (by decide)) 0))))
        exact by exact ih x92 σ72 τ _ _ ls (by have h9 := tx92; omega) ⟨I93, I94, I95, I96, I97, I98, I99, I100, I101, I102, I103, I104, I105, I76, I106, I107, I108, I109, I110, I111, I112, I113, I114, I115, p116, p117, p118, p119, p120, p121, p122, p123, p124, p125, p126, (by rw [z127, z128]; exact ht0), (by omega), (by omega), (by rw [z131, z132]; exact ht3), (by rw [z133, z134]; exact ht4), (by rw [z135, z136]; exact ht5), (by rw [z137, z138]; exact ht6), (by rw [z139, z140]; exact ht7), (by rw [z141, z142]; exact ht8), (by rw [z143, z144]; exact ht9), (by rw [z145]; exact ht10), (by rw [z146]; exact ht11), (by rw [z147, z148]; exact ht12), (by rw [z149]; exact ht13), (by have h9 := tx92; omega), (by have h9 := tx92; omega), (show jNumP (σ72 3) (σ72 56) (σ72 6) (σ72 57) (σ72 7) (σ72 58) (σ72 8) (σ72 59) (σ72 55 6).toInt (σ72 55 4).toInt by rw [show σ72 3 = σ 3 from ((f74 3 (by decide)).trans k68), show σ72 56 = σ 56 from (k90.trans (f50 56 (by decide))), show σ72 6 = σ 6 from ((f74 6 (by decide)).trans (f50 6 (by decide))), show σ72 57 = σ 57 from ((f74 57 (by decide)).trans (f50 57 (by decide))), show σ72 7 = σ 7 from ((f74 7 (by decide)).trans (f50 7 (by decide))), show σ72 58 = σ 58 from ((f74 58 (by decide)).trans (f50 58 (by decide))), show σ72 8 = σ 8 from ((f74 8 (by decide)).trans (f50 8 (by decide))), show σ72 59 = σ 59 from ((f74 59 (by decide)).trans (f50 59 (by decide))), show (σ72 55 6).toInt = (σ 55 6).toInt from z128, show (σ72 55 4).toInt = (σ 55 4).toInt from z85]; exact hr0), (show jOvP (σ72 56) (σ72 57) (σ72 58) (σ72 59) (σ72 55 4).toInt by rw [show σ72 56 = σ 56 from (k90.trans (f50 56 (by decide))), show σ72 57 = σ 57 from ((f74 57 (by decide)).trans (f50 57 (by decide))), show σ72 58 = σ 58 from ((f74 58 (by decide)).trans (f50 58 (by decide))), show σ72 59 = σ 59 from ((f74 59 (by decide)).trans (f50 59 (by decide))), show (σ72 55 4).toInt = (σ 55 4).toInt from z85]; exact hr1), (show jTp (σ72 10) (σ72 63) (σ72 55 15).toInt by rw [show σ72 10 = σ 10 from ((f74 10 (by decide)).trans (f50 10 (by decide))), show σ72 63 = σ 63 from ((f74 63 (by decide)).trans (f50 63 (by decide)))]; exact hr2.le (by omega)), (show jSo (σ72 17) (σ72 62) (σ72 16 0).toInt by rw [show σ72 17 = σ 17 from ((f74 17 (by decide)).trans (f50 17 (by decide))), show σ72 62 = σ 62 from ((f74 62 (by decide)).trans (f50 62 (by decide))), show (σ72 16 0).toInt = (σ 16 0).toInt from z133]; exact hr3), (show jShP (σ72 51) (σ72 52) (σ72 53) (σ72 86) (σ72 87) (σ72 55 32).toInt by rw [show σ72 51 = σ 51 from ((f74 51 (by decide)).trans (f50 51 (by decide))), show σ72 52 = σ 52 from ((f74 52 (by decide)).trans (f50 52 (by decide))), show σ72 53 = σ 53 from ((f74 53 (by decide)).trans (f50 53 (by decide))), show σ72 86 = σ 86 from ((f74 86 (by decide)).trans (f50 86 (by decide))), show σ72 87 = σ 87 from ((f74 87 (by decide)).trans (f50 87 (by decide)))]; exact (hr4.up (by omega) (by omega))), (show jEl (σ72 51) (σ72 52) (τ 54) (τ 88) by rw [show σ72 51 = σ 51 from ((f74 51 (by decide)).trans (f50 51 (by decide))), show σ72 52 = σ 52 from ((f74 52 (by decide)).trans (f50 52 (by decide)))]; exact hr5), (show jByP (σ72 51) (σ72 52) (τ 54) by rw [show σ72 51 = σ 51 from ((f74 51 (by decide)).trans (f50 51 (by decide))), show σ72 52 = σ 52 from ((f74 52 (by decide)).trans (f50 52 (by decide)))]; exact hr6), (show jBk (σ72 48) (σ72 80) (σ72 49) (σ72 81) (σ72 55 47).toInt by rw [show σ72 48 = σ 48 from ((f74 48 (by decide)).trans (f50 48 (by decide))), show σ72 49 = σ 49 from ((f74 49 (by decide)).trans (f50 49 (by decide))), show σ72 80 = σ 80 from ((f74 80 (by decide)).trans (f50 80 (by decide))), show σ72 81 = σ 81 from ((f74 81 (by decide)).trans (f50 81 (by decide))), show (σ72 55 47).toInt = (σ 55 47).toInt from z144]; exact hr7), (show jKd (σ72 39) (σ72 70) (σ72 55 32).toInt by rw [show σ72 39 = σ 39 from ((f74 39 (by decide)).trans (f50 39 (by decide))), show σ72 70 = σ 70 from ((f74 70 (by decide)).trans (f50 70 (by decide))), show (σ72 55 32).toInt = (σ 55 32).toInt from z140]; exact hr8), (show jTt (σ72 42) (σ72 85) (σ72 55 55).toInt by rw [show σ72 42 = σ 42 from ((f74 42 (by decide)).trans (f50 42 (by decide))), show σ72 85 = σ 85 from ((f74 85 (by decide)).trans (f50 85 (by decide))), show (σ72 55 55).toInt = (σ 55 55).toInt from z142]; exact hr9), (fun k hk => by rw [show σ72 4 = σ 4 from ((f74 4 (by decide)).trans (f50 4 (by decide))), show σ72 5 = σ 5 from ((f74 5 (by decide)).trans (f50 5 (by decide))), show σ72 60 = σ 60 from ((f74 60 (by decide)).trans (f50 60 (by decide))), show σ72 61 = σ 61 from ((f74 61 (by decide)).trans (f50 61 (by decide)))]; exact hr10 k (by omega)), (fun nm => by rw [show σ72 19 = σ 19 from ((f74 19 (by decide)).trans (f50 19 (by decide))), show σ72 64 = σ 64 from ((f74 64 (by decide)).trans (f50 64 (by decide))), show σ72 65 = σ 65 from ((f74 65 (by decide)).trans (f50 65 (by decide))), show (σ72 18 0).toInt = (σ 18 0).toInt from z152]; exact hr11 nm), (fun nm => by rw [show σ72 23 = σ 23 from ((f74 23 (by decide)).trans (f50 23 (by decide))), show σ72 64 = σ 64 from ((f74 64 (by decide)).trans (f50 64 (by decide))), show σ72 65 = σ 65 from ((f74 65 (by decide)).trans (f50 65 (by decide))), show (σ72 22 0).toInt = (σ 22 0).toInt from z153]; exact hr12 nm), (show jAlP (σ72 56) (σ72 57) (σ72 58) (σ72 59) (σ72 55 4).toInt by rw [show σ72 56 = σ 56 from (k90.trans (f50 56 (by decide))), show σ72 57 = σ 57 from ((f74 57 (by decide)).trans (f50 57 (by decide))), show σ72 58 = σ 58 from ((f74 58 (by decide)).trans (f50 58 (by decide))), show σ72 59 = σ 59 from ((f74 59 (by decide)).trans (f50 59 (by decide))), show (σ72 55 4).toInt = (σ 55 4).toInt from z85]; exact hr13), (show jqbN (σ72 80) (σ72 55 47).toInt by rw [show σ72 80 = σ 80 from ((f74 80 (by decide)).trans (f50 80 (by decide))), show (σ72 55 47).toInt = (σ 55 47).toInt from z144]; exact hr14)⟩ hP hS (lv_sub hl [0, 1, 2, 3] rfl)
    · obtain ⟨q159, k154, k155, k156, k157, k158⟩ := h87
      exact absurd (by omega : False) id
  · obtain ⟨q166, k160, k161, k162, k163, k164, k165⟩ := h64
    refine lv_pop hx hb dL_law_968 rfl ?_
    refine lv_aload_n hx hb dL_law_969 rfl (lv_at hl 1 rfl) ?_
    have I167 : jI101 σ48 := jI101_fr (congrFun (f50 55 (by decide)) 4) (congrFun (f50 55 (by decide)) 5) (f50 56 (by decide)) (f50 57 (by decide)) (f50 58 (by decide)) (f50 59 (by decide)) hI101
    have z168 : (σ48 55 5).toInt = (σ 55 5).toInt := (congrArg Int32.toInt (show σ48 55 5 = (σ 55 5) from (congrFun (f50 55 (by decide)) 5)))
    refine jcallV (As := []) (rest := []) ⟨hx, hb, hml, hown, hts⟩ hK hP hA hS hZ (c_X12_undo l D cI cL ad zz hJ σ48 τ I167) cw_RL_124 (jc_55 cI cL ad σ48 τ) rfl ⟨Nat.le_of_ble_eq_true rfl, Nat.le_of_ble_eq_true rfl⟩ rfl rfl rfl hl.1 rfl (Nat.le_of_ble_eq_true rfl) dL_law_970 ⟨Nat.le_of_ble_eq_true rfl, Nat.le_of_ble_eq_true rfl⟩ (fun r170 σ169 τ169 H locs h169 hP hS => ?_)
    obtain ⟨rfl, f171, f172, I173, h169⟩ := h169
    obtain ⟨i175, i176, i177, w178, w179, w180, w181⟩ : (0 ≤ (σ169 55 5).toInt) ∧ ((σ169 55 5).toInt ≤ (σ169 55 4).toInt) ∧ ((σ169 55 4).toInt ≤ 40) ∧ (∀ k : Nat, k < 68 → (-200) ≤ (σ169 56 k).toInt ∧ (σ169 56 k).toInt ≤ 500) ∧ (∀ k : Nat, k < 40 → 0 ≤ (σ169 57 k).toInt ∧ (σ169 57 k).toInt ≤ 67) ∧ (∀ k : Nat, k < 40 → (-200) ≤ (σ169 58 k).toInt ∧ (σ169 58 k).toInt ≤ 500) ∧ (∀ k : Nat, k < 40 → (-200) ≤ (σ169 59 k).toInt ∧ (σ169 59 k).toInt ≤ 500) := id I173
    have z182 : (σ169 55 4).toInt = (σ 55 4).toInt := (congrArg Int32.toInt (show σ169 55 4 = (σ 55 4) from ((f172 4 (by decide)).trans (congrFun (f50 55 (by decide)) 4))))
    rcases h169 with h183 | h184
    · obtain ⟨q188, k185, k186, k187⟩ := h183
      exact absurd (by omega : False) id
    · obtain ⟨q194, k189, k190, k191, k192, k193⟩ := h184
      refine lv_pop hx hb dL_law_973 rfl ?_
      refine lv_goto (tgt := 1357) hx hb dL_law_974 (by decide) ?_
      obtain ⟨x195, ex195⟩ : ∃ y : Int32, y = x0 + 6 := ⟨_, rfl⟩
      exact by
       have tx195 : x195.toInt = x0.toInt + 6 := (jadd ex195 rfl jz_6 (by omega) (by omega)).trans (by omega)
       refine lv_iinc (v := x195) (lv' := [(3, .int x195), (2, .ref (ad 55)), (1, .ref (ad 0)), (0, .ref b)]) hx hb dL_law_1357 hl (k := 0) rfl (by rw [ex195]; rfl) (by decide) rfl (fun ls hl => ?_)
       refine lv_goto (tgt := 18) hx hb dL_law_1360 (by decide) ?_
       have I196 : jI2 σ169 := jI2_fr (congrFun (f171 2 (by decide)) 0) (congrFun (f171 2 (by decide)) 1) (congrFun (f171 2 (by decide)) 2) (congrFun (f171 2 (by decide)) 3) (f171 6 (by decide)) (f171 5 (by decide)) I52
       have I197 : jI9 σ169 := jI9_fr ((congrFun (f171 9 (by decide)) 0).trans (congrFun (f50 9 (by decide)) 0)) ((f171 10 (by decide)).trans (f50 10 (by decide))) ((f171 11 (by decide)).trans (f50 11 (by decide))) hI9
       have I198 : jI12 σ169 := jI12_fr ((congrFun (f171 12 (by decide)) 0).trans (congrFun (f50 12 (by decide)) 0)) ((f171 13 (by decide)).trans (f50 13 (by decide))) hI12
       have I199 : jI16 σ169 := jI16_fr ((congrFun (f171 16 (by decide)) 0).trans (congrFun (f50 16 (by decide)) 0)) ((congrFun (f171 16 (by decide)) 1).trans (congrFun (f50 16 (by decide)) 1)) ((congrFun (f171 16 (by decide)) 2).trans (congrFun (f50 16 (by decide)) 2)) ((f171 17 (by decide)).trans (f50 17 (by decide))) hI16
       have I200 : jI18 σ169 := jI18_fr ((congrFun (f171 18 (by decide)) 0).trans (congrFun (f50 18 (by decide)) 0)) ((f171 19 (by decide)).trans (f50 19 (by decide))) hI18
       have I201 : jI22 σ169 := jI22_fr ((congrFun (f171 22 (by decide)) 0).trans (congrFun (f50 22 (by decide)) 0)) ((f171 23 (by decide)).trans (f50 23 (by decide))) hI22
       exact by
        have I202 : jI31 σ169 := jI31_fr ((congrFun (f171 31 (by decide)) 8).trans (congrFun (f50 31 (by decide)) 8)) ((congrFun (f171 31 (by decide)) 10).trans (congrFun (f50 31 (by decide)) 10)) ((congrFun (f171 31 (by decide)) 11).trans (congrFun (f50 31 (by decide)) 11)) ((f171 33 (by decide)).trans (f50 33 (by decide))) ((f171 35 (by decide)).trans (f50 35 (by decide))) ((f171 36 (by decide)).trans (f50 36 (by decide))) hI31
        have I203 : jI38 σ169 := jI38_fr ((congrFun (f171 38 (by decide)) 0).trans (congrFun (f50 38 (by decide)) 0)) ((congrFun (f171 38 (by decide)) 1).trans (congrFun (f50 38 (by decide)) 1)) ((f171 39 (by decide)).trans (f50 39 (by decide))) hI38
        have I204 : jI43 σ169 := jI43_fr ((congrFun (f171 43 (by decide)) 8).trans (congrFun (f50 43 (by decide)) 8)) hI43
        have I205 : jI47 σ169 := jI47_fr ((congrFun (f171 47 (by decide)) 0).trans (congrFun (f50 47 (by decide)) 0)) ((f171 48 (by decide)).trans (f50 48 (by decide))) ((f171 49 (by decide)).trans (f50 49 (by decide))) hI47
        have I206 : jI50 σ169 := jI50_fr ((f171 52 (by decide)).trans (f50 52 (by decide))) hI50
        have I207 : jI0 σ169 := jI0_fr ((f171 1 (by decide)).trans (f50 1 (by decide))) hI0
        have I208 : jI26 σ169 := jI26_fr ((congrFun (f171 26 (by decide)) 6).trans (congrFun (f50 26 (by decide)) 6)) hI26
        have I209 : jI102 σ169 := jI102_fr ((f172 6 (by decide)).trans (congrFun (f50 55 (by decide)) 6)) ((f171 60 (by decide)).trans (f50 60 (by decide))) ((f171 61 (by decide)).trans (f50 61 (by decide))) hI102
        have I210 : jI103 σ169 := jI103_fr ((f172 9 (by decide)).trans (congrFun (f50 55 (by decide)) 9)) hI103
        have I211 : jI104 σ169 := jI104_fr ((f172 10 (by decide)).trans (congrFun (f50 55 (by decide)) 10)) ((f172 12 (by decide)).trans (congrFun (f50 55 (by decide)) 12)) ((f172 13 (by decide)).trans (congrFun (f50 55 (by decide)) 13)) ((f171 62 (by decide)).trans (f50 62 (by decide))) ((f171 67 (by decide)).trans (f50 67 (by decide))) hI104
        have I212 : jI105 σ169 := jI105_fr ((f172 15 (by decide)).trans (congrFun (f50 55 (by decide)) 15)) ((f171 65 (by decide)).trans (f50 65 (by decide))) hI105
        have I213 : jI106 σ169 := jI106_fr ((f172 32 (by decide)).trans (congrFun (f50 55 (by decide)) 32)) ((f171 70 (by decide)).trans (f50 70 (by decide))) ((f171 71 (by decide)).trans (f50 71 (by decide))) ((f171 72 (by decide)).trans (f50 72 (by decide))) hI106
        have I214 : jI107 σ169 := jI107_fr ((f172 12 (by decide)).trans (congrFun (f50 55 (by decide)) 12)) ((f172 47 (by decide)).trans (congrFun (f50 55 (by decide)) 47)) ((f171 80 (by decide)).trans (f50 80 (by decide))) hI107
        have I215 : jI109 σ169 := jI109_fr ((f172 50 (by decide)).trans (congrFun (f50 55 (by decide)) 50)) hI109
        have I216 : jI110 σ169 := jI110_fr ((f171 86 (by decide)).trans (f50 86 (by decide))) ((f171 87 (by decide)).trans (f50 87 (by decide))) hI110
        have I217 : jI111 σ169 := jI111_fr ((f171 79 (by decide)).trans (f50 79 (by decide))) hI111
        have I218 : jI119 σ169 := jI119_fr ((f171 68 (by decide)).trans (f50 68 (by decide))) hI119
        have p219 : jKept σ169 := jKept.fr ((f171 75 (by decide)).trans (f50 75 (by decide))) ((f171 76 (by decide)).trans (f50 76 (by decide))) ((f171 77 (by decide)).trans (f50 77 (by decide))) hs_jKept
        have p220 : jBook σ169 := jBook.fr ((f172 47 (by decide)).trans (congrFun (f50 55 (by decide)) 47)) ((f172 10 (by decide)).trans (congrFun (f50 55 (by decide)) 10)) ((f171 81 (by decide)).trans (f50 81 (by decide))) hs_jBook
        have p221 : jNd12 σ169 := jNd12.fr ((congrFun (f171 12 (by decide)) 0).trans (congrFun (f50 12 (by decide)) 0)) ((congrFun (f171 12 (by decide)) 1).trans (congrFun (f50 12 (by decide)) 1)) ((f171 13 (by decide)).trans (f50 13 (by decide))) hs_jNd12
        have p222 : jN67 σ169 := jN67.fr ((f171 24 (by decide)).trans (f50 24 (by decide))) hs_jN67
        have p223 : jBl σ169 := jBl.fr ((congrFun (f171 22 (by decide)) 0).trans (congrFun (f50 22 (by decide)) 0)) ((congrFun (f171 22 (by decide)) 1).trans (congrFun (f50 22 (by decide)) 1)) ((f171 23 (by decide)).trans (f50 23 (by decide))) ((congrFun (f171 26 (by decide)) 6).trans (congrFun (f50 26 (by decide)) 6)) ((congrFun (f171 26 (by decide)) 7).trans (congrFun (f50 26 (by decide)) 7)) ((f171 29 (by decide)).trans (f50 29 (by decide))) ((f171 30 (by decide)).trans (f50 30 (by decide))) hs_jBl
        have p224 : jKb σ169 := jKb.fr ((congrFun (f171 31 (by decide)) 8).trans (congrFun (f50 31 (by decide)) 8)) ((congrFun (f171 31 (by decide)) 11).trans (congrFun (f50 31 (by decide)) 11)) ((f171 32 (by decide)).trans (f50 32 (by decide))) hs_jKb
        have p225 : jTR σ169 := jTR.fr ((f171 64 (by decide)).trans (f50 64 (by decide))) ((f171 65 (by decide)).trans (f50 65 (by decide))) hs_jTR
        have p226 : jKh σ169 := jKh.fr ((congrFun (f171 31 (by decide)) 8).trans (congrFun (f50 31 (by decide)) 8)) ((f171 32 (by decide)).trans (f50 32 (by decide))) ((f171 36 (by decide)).trans (f50 36 (by decide))) ((f171 37 (by decide)).trans (f50 37 (by decide))) hs_jKh
        have p227 : jKg σ169 := jKg.fr ((congrFun (f171 31 (by decide)) 8).trans (congrFun (f50 31 (by decide)) 8)) ((congrFun (f171 31 (by decide)) 9).trans (congrFun (f50 31 (by decide)) 9)) ((congrFun (f171 31 (by decide)) 11).trans (congrFun (f50 31 (by decide)) 11)) ((congrFun (f171 31 (by decide)) 12).trans (congrFun (f50 31 (by decide)) 12)) ((f171 32 (by decide)).trans (f50 32 (by decide))) ((f171 33 (by decide)).trans (f50 33 (by decide))) hs_jKg
        have p228 : jNz σ169 := jNz.fr ((f171 34 (by decide)).trans (f50 34 (by decide))) hs_jNz
        have p229 : jqSt σ169 := jqSt.fr ((f171 78 (by decide)).trans (f50 78 (by decide))) ((f172 42 (by decide)).trans (congrFun (f50 55 (by decide)) 42)) hs_jqSt
        have z230 : (σ169 2 0).toInt = (σ 2 0).toInt := (congrArg Int32.toInt (show σ169 2 0 = (σ 2 0) from ((congrFun (f171 2 (by decide)) 0).trans (f51 0 (by decide)))))
        have z231 : (σ169 55 6).toInt = (σ 55 6).toInt := (congrArg Int32.toInt (show σ169 55 6 = (σ 55 6) from ((f172 6 (by decide)).trans (congrFun (f50 55 (by decide)) 6))))
        have z232 : (σ169 2 2).toInt = (σ48 2 2).toInt := (congrArg Int32.toInt (show σ169 2 2 = (σ48 2 2) from (congrFun (f171 2 (by decide)) 2)))
        have z233 : (σ169 2 3).toInt = (σ48 2 3).toInt := (congrArg Int32.toInt (show σ169 2 3 = (σ48 2 3) from (congrFun (f171 2 (by decide)) 3)))
        have z234 : (σ169 9 0).toInt = (σ 9 0).toInt := (congrArg Int32.toInt (show σ169 9 0 = (σ 9 0) from ((congrFun (f171 9 (by decide)) 0).trans (congrFun (f50 9 (by decide)) 0))))
        have z235 : (σ169 55 15).toInt = (σ 55 15).toInt := (congrArg Int32.toInt (show σ169 55 15 = (σ 55 15) from ((f172 15 (by decide)).trans (congrFun (f50 55 (by decide)) 15))))
        have z236 : (σ169 16 0).toInt = (σ 16 0).toInt := (congrArg Int32.toInt (show σ169 16 0 = (σ 16 0) from ((congrFun (f171 16 (by decide)) 0).trans (congrFun (f50 16 (by decide)) 0))))
        have z237 : (σ169 55 10).toInt = (σ 55 10).toInt := (congrArg Int32.toInt (show σ169 55 10 = (σ 55 10) from ((f172 10 (by decide)).trans (congrFun (f50 55 (by decide)) 10))))
        have z238 : (σ169 16 1).toInt = (σ 16 1).toInt := (congrArg Int32.toInt (show σ169 16 1 = (σ 16 1) from ((congrFun (f171 16 (by decide)) 1).trans (congrFun (f50 16 (by decide)) 1))))
        have z239 : (σ169 55 12).toInt = (σ 55 12).toInt := (congrArg Int32.toInt (show σ169 55 12 = (σ 55 12) from ((f172 12 (by decide)).trans (congrFun (f50 55 (by decide)) 12))))
        have z240 : (σ169 16 2).toInt = (σ 16 2).toInt := (congrArg Int32.toInt (show σ169 16 2 = (σ 16 2) from ((congrFun (f171 16 (by decide)) 2).trans (congrFun (f50 16 (by decide)) 2))))
        have z241 : (σ169 55 13).toInt = (σ 55 13).toInt := (congrArg Int32.toInt (show σ169 55 13 = (σ 55 13) from ((f172 13 (by decide)).trans (congrFun (f50 55 (by decide)) 13))))
        have z242 : (σ169 38 0).toInt = (σ 38 0).toInt := (congrArg Int32.toInt (show σ169 38 0 = (σ 38 0) from ((congrFun (f171 38 (by decide)) 0).trans (congrFun (f50 38 (by decide)) 0))))
        have z243 : (σ169 55 32).toInt = (σ 55 32).toInt := (congrArg Int32.toInt (show σ169 55 32 = (σ 55 32) from ((f172 32 (by decide)).trans (congrFun (f50 55 (by decide)) 32))))
        have z244 : (σ169 38 1).toInt = (σ 38 1).toInt := (congrArg Int32.toInt (show σ169 38 1 = (σ 38 1) from ((congrFun (f171 38 (by decide)) 1).trans (congrFun (f50 38 (by decide)) 1))))
        have z245 : (σ169 55 55).toInt = (σ 55 55).toInt := (congrArg Int32.toInt (show σ169 55 55 = (σ 55 55) from ((f172 55 (by decide)).trans (congrFun (f50 55 (by decide)) 55))))
        have z246 : (σ169 47 0).toInt = (σ 47 0).toInt := (congrArg Int32.toInt (show σ169 47 0 = (σ 47 0) from ((congrFun (f171 47 (by decide)) 0).trans (congrFun (f50 47 (by decide)) 0))))
        have z247 : (σ169 55 47).toInt = (σ 55 47).toInt := (congrArg Int32.toInt (show σ169 55 47 = (σ 55 47) from ((f172 47 (by decide)).trans (congrFun (f50 55 (by decide)) 47))))
        have z248 : (σ169 55 30).toInt = (σ 55 30).toInt := (congrArg Int32.toInt (show σ169 55 30 = (σ 55 30) from ((f172 30 (by decide)).trans (congrFun (f50 55 (by decide)) 30))))
        have z249 : (σ169 55 31).toInt = (σ 55 31).toInt := (congrArg Int32.toInt (show σ169 55 31 = (σ 55 31) from ((f172 31 (by decide)).trans (congrFun (f50 55 (by decide)) 31))))
        have z250 : (σ169 2 1).toInt = (σ 2 1).toInt := (congrArg Int32.toInt (show σ169 2 1 = (σ 2 1) from ((congrFun (f171 2 (by decide)) 1).trans (f51 1 (by decide)))))
        have z251 : (σ169 55 9).toInt = (σ 55 9).toInt := (congrArg Int32.toInt (show σ169 55 9 = (σ 55 9) from ((f172 9 (by decide)).trans (congrFun (f50 55 (by decide)) 9))))
        have z252 : (σ169 55 42).toInt = (σ 55 42).toInt := (congrArg Int32.toInt (show σ169 55 42 = (σ 55 42) from ((f172 42 (by decide)).trans (congrFun (f50 55 (by decide)) 42))))
        have z253 : (σ169 26 6).toInt = (σ 26 6).toInt := (congrArg Int32.toInt (show σ169 26 6 = (σ 26 6) from ((congrFun (f171 26 (by decide)) 6).trans (congrFun (f50 26 (by decide)) 6))))
        rw [show r49.toInt = ((σ 55 5).toInt - 1) from by omega] at k165
        rw [show r170.toInt = ((σ 55 5).toInt - 1) from by omega, show σ48 56 = σ 56 from (f50 56 (by decide)), show σ48 57 = σ 57 from (f50 57 (by decide)), show σ48 58 = σ 58 from (f50 58 (by decide))] at k193
        exact by
         have p254 := hr0.back (by omega) (by omega) k165 k193
         have z256 : (σ169 18 0).toInt = (σ 18 0).toInt := (congrArg Int32.toInt (show σ169 18 0 = (σ 18 0) from ((congrFun (f171 18 (by decide)) 0).trans (congrFun (f50 18 (by decide)) 0))))
         have z257 : (σ169 22 0).toInt = (σ 22 0).toInt := (congrArg Int32.toInt (show σ169 22 0 = (σ 22 0) from ((congrFun (f171 22 (by decide)) 0).trans (congrFun (f50 22 (by decide)) 0))))
         exact by exact ih x195 σ169 τ _ _ ls (by have h9 := tx195; omega) ⟨I196, I197, I198, I199, I200, I201, I202, I203, I204, I205, I206, I207, I208, I173, I209, I210, I211, I212, I213, I214, I215, I216, I217, I218, p219, p220, p221, p222, p223, p224, p225, p226, p227, p228, p229, (by rw [z230, z231]; exact ht0), (by omega), (by omega), (by rw [z234, z235]; exact ht3), (by rw [z236, z237]; exact ht4), (by rw [z238, z239]; exact ht5), (by rw [z240, z241]; exact ht6), (by rw [z242, z243]; exact ht7), (by rw [z244, z245]; exact ht8), (by rw [z246, z247]; exact ht9), (by rw [z248]; exact ht10), (by rw [z249]; exact ht11), (by rw [z250, z251]; exact ht12), (by rw [z252]; exact ht13), (by have h9 := tx195; omega), (by have h9 := tx195; omega), (show jNumP (σ169 3) (σ169 56) (σ169 6) (σ169 57) (σ169 7) (σ169 58) (σ169 8) (σ169 59) (σ169 55 6).toInt (σ169 55 4).toInt by rw [show σ169 3 = σ48 3 from (f171 3 (by decide)), show σ169 6 = σ 6 from ((f171 6 (by decide)).trans (f50 6 (by decide))), show σ169 57 = σ 57 from ((f171 57 (by decide)).trans (f50 57 (by decide))), show σ169 7 = σ 7 from ((f171 7 (by decide)).trans (f50 7 (by decide))), show σ169 58 = σ 58 from ((f171 58 (by decide)).trans (f50 58 (by decide))), show σ169 8 = σ 8 from ((f171 8 (by decide)).trans (f50 8 (by decide))), show σ169 59 = σ 59 from ((f171 59 (by decide)).trans (f50 59 (by decide))), show (σ169 55 6).toInt = (σ 55 6).toInt from z231, show (σ169 55 4).toInt = (σ 55 4).toInt from z182]; exact p254), (show jOvP (σ169 56) (σ169 57) (σ169 58) (σ169 59) (σ169 55 4).toInt by rw [show σ169 57 = σ 57 from ((f171 57 (by decide)).trans (f50 57 (by decide))), show σ169 58 = σ 58 from ((f171 58 (by decide)).trans (f50 58 (by decide))), show σ169 59 = σ 59 from ((f171 59 (by decide)).trans (f50 59 (by decide))), show (σ169 55 4).toInt = (σ 55 4).toInt from z182]; exact (hr1.back (by omega) (by omega) ((hr0.2.2 (((σ 55 5).toInt - 1)).toNat (by omega)).2.1.1) k193)), (show jTp (σ169 10) (σ169 63) (σ169 55 15).toInt by rw [show σ169 10 = σ 10 from ((f171 10 (by decide)).trans (f50 10 (by decide))), show σ169 63 = σ 63 from ((f171 63 (by decide)).trans (f50 63 (by decide)))]; exact hr2.le (by omega)), (show jSo (σ169 17) (σ169 62) (σ169 16 0).toInt by rw [show σ169 17 = σ 17 from ((f171 17 (by decide)).trans (f50 17 (by decide))), show σ169 62 = σ 62 from ((f171 62 (by decide)).trans (f50 62 (by decide))), show (σ169 16 0).toInt = (σ 16 0).toInt from z236]; exact hr3), (show jShP (σ169 51) (σ169 52) (σ169 53) (σ169 86) (σ169 87) (σ169 55 32).toInt by rw [show σ169 51 = σ 51 from ((f171 51 (by decide)).trans (f50 51 (by decide))), show σ169 52 = σ 52 from ((f171 52 (by decide)).trans (f50 52 (by decide))), show σ169 53 = σ 53 from ((f171 53 (by decide)).trans (f50 53 (by decide))), show σ169 86 = σ 86 from ((f171 86 (by decide)).trans (f50 86 (by decide))), show σ169 87 = σ 87 from ((f171 87 (by decide)).trans (f50 87 (by decide)))]; exact (hr4.up (by omega) (by omega))), (show jEl (σ169 51) (σ169 52) (τ 54) (τ 88) by rw [show σ169 51 = σ 51 from ((f171 51 (by decide)).trans (f50 51 (by decide))), show σ169 52 = σ 52 from ((f171 52 (by decide)).trans (f50 52 (by decide)))]; exact hr5), (show jByP (σ169 51) (σ169 52) (τ 54) by rw [show σ169 51 = σ 51 from ((f171 51 (by decide)).trans (f50 51 (by decide))), show σ169 52 = σ 52 from ((f171 52 (by decide)).trans (f50 52 (by decide)))]; exact hr6), (show jBk (σ169 48) (σ169 80) (σ169 49) (σ169 81) (σ169 55 47).toInt by rw [show σ169 48 = σ 48 from ((f171 48 (by decide)).trans (f50 48 (by decide))), show σ169 49 = σ 49 from ((f171 49 (by decide)).trans (f50 49 (by decide))), show σ169 80 = σ 80 from ((f171 80 (by decide)).trans (f50 80 (by decide))), show σ169 81 = σ 81 from ((f171 81 (by decide)).trans (f50 81 (by decide))), show (σ169 55 47).toInt = (σ 55 47).toInt from z247]; exact hr7), (show jKd (σ169 39) (σ169 70) (σ169 55 32).toInt by rw [show σ169 39 = σ 39 from ((f171 39 (by decide)).trans (f50 39 (by decide))), show σ169 70 = σ 70 from ((f171 70 (by decide)).trans (f50 70 (by decide))), show (σ169 55 32).toInt = (σ 55 32).toInt from z243]; exact hr8), (show jTt (σ169 42) (σ169 85) (σ169 55 55).toInt by rw [show σ169 42 = σ 42 from ((f171 42 (by decide)).trans (f50 42 (by decide))), show σ169 85 = σ 85 from ((f171 85 (by decide)).trans (f50 85 (by decide))), show (σ169 55 55).toInt = (σ 55 55).toInt from z245]; exact hr9), (fun k hk => by rw [show σ169 4 = σ 4 from ((f171 4 (by decide)).trans (f50 4 (by decide))), show σ169 5 = σ 5 from ((f171 5 (by decide)).trans (f50 5 (by decide))), show σ169 60 = σ 60 from ((f171 60 (by decide)).trans (f50 60 (by decide))), show σ169 61 = σ 61 from ((f171 61 (by decide)).trans (f50 61 (by decide)))]; exact hr10 k (by omega)), (fun nm => by rw [show σ169 19 = σ 19 from ((f171 19 (by decide)).trans (f50 19 (by decide))), show σ169 64 = σ 64 from ((f171 64 (by decide)).trans (f50 64 (by decide))), show σ169 65 = σ 65 from ((f171 65 (by decide)).trans (f50 65 (by decide))), show (σ169 18 0).toInt = (σ 18 0).toInt from z256]; exact hr11 nm), (fun nm => by rw [show σ169 23 = σ 23 from ((f171 23 (by decide)).trans (f50 23 (by decide))), show σ169 64 = σ 64 from ((f171 64 (by decide)).trans (f50 64 (by decide))), show σ169 65 = σ 65 from ((f171 65 (by decide)).trans (f50 65 (by decide))), show (σ169 22 0).toInt = (σ 22 0).toInt from z257]; exact hr12 nm), (show jAlP (σ169 56) (σ169 57) (σ169 58) (σ169 59) (σ169 55 4).toInt by rw [show σ169 57 = σ 57 from ((f171 57 (by decide)).trans (f50 57 (by decide))), show σ169 58 = σ 58 from ((f171 58 (by decide)).trans (f50 58 (by decide))), show σ169 59 = σ 59 from ((f171 59 (by decide)).trans (f50 59 (by decide))), show (σ169 55 4).toInt = (σ 55 4).toInt from z182]; exact (hr13.back (by omega) (by omega) ((hr0.2.2 (((σ 55 5).toInt - 1)).toNat (by omega)).2.1.1) k193)), (show jqbN (σ169 80) (σ169 55 47).toInt by rw [show σ169 80 = σ 80 from ((f171 80 (by decide)).trans (f50 80 (by decide))), show (σ169 55 47).toInt = (σ 55 47).toInt from z247]; exact hr14)⟩ hP hS (lv_sub hl [0, 1, 2, 3] rfl)
set_option maxHeartbeats 4000000 in
set_option maxRecDepth 100000 in
theorem law_case_27 {p : Program} {e : Env} {s : State} {m : MethodId} {below : List Frame} {meth : Method} {c : Code} (l : Launch) {b L : Nat} {xs : Nat → Int32} {D : va_G} {cI cL : ClassId} {ad zz : Nat → Nat} (C0 : lw_At p s m meth c b L xs) (hJ : jD ad) (hA : ∀ q, jA ad q → s.heap.size ≤ q) (hK : jK D cI cL s) (hZ : jZ zz (fun q : Nat => s.heap.size ≤ q) s s.heap) {x0 : Int32} (hx0 : 0 ≤ x0.toInt) (hxL : x0.toInt + 6 ≤ (L : Int)) (hL : L ≤ 384) {σ : Nat → Nat → Int32} {τ : Nat → Nat → Int64} {H : Heap} {locs : List Loc} (hS : va_S (fun q : Nat => s.heap.size ≤ q) s.heap H locs) {ls : Array Slot} (hAll : jAll x0.toInt σ τ) (hP : jH D cI cL ad σ τ H) (hl : lv_has ls 4 [(3, .int x0), (2, .ref (ad 55)), (1, .ref (ad 0)), (0, .ref b)]) (ih : ∀ (x1 : Int32) (σ : Nat → Nat → Int32) (τ : Nat → Nat → Int64) (H : Heap) (locs : List Loc) (ls : Array Slot), x1.toInt = x0.toInt + 6 → jAll x1.toInt σ τ → jH D cI cL ad σ τ H → va_S (fun q : Nat => s.heap.size ≤ q) s.heap H locs → lv_has ls 4 [(3, .int x1), (2, .ref (ad 55)), (1, .ref (ad 0)), (0, .ref b)] → W p l e room_1 s m #[Value.ref b] below meth c H locs 90 348600 (lw_Z below #[Value.ref b] s) (F0 m 18 ls [])) : W p l e room_1 s m #[Value.ref b] below meth c H locs 90 348600 (lw_Z below #[Value.ref b] s) (F0 m 977 ls []) := by
  obtain ⟨hx, hb, hr, hml, hown, hts0, hX, hbl, hlocks, hgv⟩ := C0
  have hts : ∀ w ∈ wsL_law, w.before #[Value.ref b] s = true := fun w h => hts0 w (wsL_law_in w h)
  have hbA : ¬ (fun q : Nat => s.heap.size ≤ q) b := Nat.not_le.mpr hbl
  have hown : s.vm.findClass RL = some m.cls := hown
  obtain ⟨hI2, hI9, hI12, hI16, hI18, hI22, hI31, hI38, hI43, hI47, hI50, hI0, hI26, hI101, hI102, hI103, hI104, hI105, hI106, hI107, hI109, hI110, hI111, hI119, hs_jKept, hs_jBook, hs_jNd12, hs_jN67, hs_jBl, hs_jKb, hs_jTR, hs_jKh, hs_jKg, hs_jNz, hs_jqSt, ht0, ht1, ht2, ht3, ht4, ht5, ht6, ht7, ht8, ht9, ht10, ht11, ht12, ht13, ht14, ht15, hr0, hr1, hr2, hr3, hr4, hr5, hr6, hr7, hr8, hr9, hr10, hr11, hr12, hr13, hr14⟩ := hAll
  have hL9 : (L : Int) ≤ 384 := by omega
  obtain ⟨i1, i2, i3, i4, i5, w6, w7⟩ : (0 ≤ (σ 2 0).toInt ∧ (σ 2 0).toInt ≤ 4) ∧ (0 ≤ (σ 2 1).toInt ∧ (σ 2 1).toInt ≤ 3) ∧ (0 ≤ (σ 2 2).toInt) ∧ (0 ≤ (σ 2 3).toInt) ∧ ((σ 2 2).toInt + (σ 2 3).toInt ≤ 40) ∧ (∀ k : Nat, k < 40 → 0 ≤ (σ 6 k).toInt ∧ (σ 6 k).toInt ≤ 67) ∧ (∀ k : Nat, k < 4 → 0 ≤ (σ 5 k).toInt ∧ (σ 5 k).toInt ≤ 20) := id hI2
  obtain ⟨i8, w9, w10⟩ : (0 ≤ (σ 9 0).toInt ∧ (σ 9 0).toInt ≤ 80) ∧ (∀ k : Nat, k < 80 → 0 ≤ (σ 10 k).toInt ∧ (σ 10 k).toInt ≤ 255) ∧ (∀ k : Nat, k < 8 → 0 ≤ (σ 11 k).toInt ∧ (σ 11 k).toInt ≤ 3) := id hI9
  obtain ⟨i11, i12, i13, w14⟩ : (1 ≤ (σ 16 0).toInt ∧ (σ 16 0).toInt ≤ 8) ∧ (1 ≤ (σ 16 1).toInt ∧ (σ 16 1).toInt ≤ 12) ∧ (0 ≤ (σ 16 2).toInt ∧ (σ 16 2).toInt ≤ 999) ∧ (∀ k : Nat, k < 8 → 0 ≤ (σ 17 k).toInt ∧ (σ 17 k).toInt ≤ 3) := id hI16
  obtain ⟨i15, i16, w17⟩ : (0 ≤ (σ 38 0).toInt ∧ (σ 38 0).toInt ≤ 20) ∧ (0 ≤ (σ 38 1).toInt ∧ (σ 38 1).toInt ≤ 1000) ∧ (∀ k : Nat, k < 20 → 0 ≤ (σ 39 k).toInt ∧ (σ 39 k).toInt ≤ 6) := id hI38
  obtain ⟨i18, w19, w20⟩ : (0 ≤ (σ 47 0).toInt ∧ (σ 47 0).toInt ≤ 12) ∧ (∀ k : Nat, k < 12 → 0 ≤ (σ 48 k).toInt ∧ (σ 48 k).toInt ≤ 3) ∧ (∀ k : Nat, k < 12 → 0 ≤ (σ 49 k).toInt ∧ (σ 49 k).toInt ≤ 1) := id hI47
  have w21 : ∀ k : Nat, k < 6 → 0 ≤ (σ 52 k).toInt ∧ (σ 52 k).toInt ≤ 60 := hI50
  have i22 : 1 ≤ (σ 26 6).toInt ∧ (σ 26 6).toInt ≤ 8000 := hI26
  obtain ⟨i23, i24, i25, w26, w27, w28, w29⟩ : (0 ≤ (σ 55 5).toInt) ∧ ((σ 55 5).toInt ≤ (σ 55 4).toInt) ∧ ((σ 55 4).toInt ≤ 40) ∧ (∀ k : Nat, k < 68 → (-200) ≤ (σ 56 k).toInt ∧ (σ 56 k).toInt ≤ 500) ∧ (∀ k : Nat, k < 40 → 0 ≤ (σ 57 k).toInt ∧ (σ 57 k).toInt ≤ 67) ∧ (∀ k : Nat, k < 40 → (-200) ≤ (σ 58 k).toInt ∧ (σ 58 k).toInt ≤ 500) ∧ (∀ k : Nat, k < 40 → (-200) ≤ (σ 59 k).toInt ∧ (σ 59 k).toInt ≤ 500) := id hI101
  obtain ⟨i30, w31, w32⟩ : (0 ≤ (σ 55 6).toInt ∧ (σ 55 6).toInt ≤ 4) ∧ (∀ k : Nat, k < 4 → 0 ≤ (σ 60 k).toInt ∧ (σ 60 k).toInt ≤ 50) ∧ (∀ k : Nat, k < 4 → 0 ≤ (σ 61 k).toInt ∧ (σ 61 k).toInt ≤ 20) := id hI102
  have i33 : 0 ≤ (σ 55 9).toInt ∧ (σ 55 9).toInt ≤ 3 := hI103
  obtain ⟨i34, i35, i36, w37, w38⟩ : (1 ≤ (σ 55 10).toInt ∧ (σ 55 10).toInt ≤ 8) ∧ (1 ≤ (σ 55 12).toInt ∧ (σ 55 12).toInt ≤ 12) ∧ (0 ≤ (σ 55 13).toInt ∧ (σ 55 13).toInt ≤ 999) ∧ (∀ k : Nat, k < 8 → 0 ≤ (σ 62 k).toInt ∧ (σ 62 k).toInt ≤ 3) ∧ (∀ k : Nat, k < 8 → 0 ≤ (σ 67 k).toInt ∧ (σ 67 k).toInt ≤ 3) := id hI104
  obtain ⟨i39, w40⟩ : (0 ≤ (σ 55 15).toInt ∧ (σ 55 15).toInt ≤ 80) ∧ (∀ k : Nat, k < 2 → (-1) ≤ (σ 65 k).toInt ∧ (σ 65 k).toInt ≤ 80) := id hI105
  obtain ⟨i41, w42, w43, w44⟩ : (0 ≤ (σ 55 32).toInt ∧ (σ 55 32).toInt ≤ 20) ∧ (∀ k : Nat, k < 20 → 0 ≤ (σ 70 k).toInt ∧ (σ 70 k).toInt ≤ 6) ∧ (∀ k : Nat, k < 20 → 0 ≤ (σ 71 k).toInt ∧ (σ 71 k).toInt ≤ 8) ∧ (∀ k : Nat, k < 160 → 0 ≤ (σ 72 k).toInt ∧ (σ 72 k).toInt ≤ 3) := id hI106
  obtain ⟨i45, i46, w47⟩ : (0 ≤ (σ 55 47).toInt ∧ (σ 55 47).toInt ≤ 12) ∧ ((σ 55 47).toInt ≤ (σ 55 12).toInt) ∧ (∀ k : Nat, k < 12 → 0 ≤ (σ 80 k).toInt ∧ (σ 80 k).toInt ≤ 3) := id hI107
  have hs_jOk3 : jOk3 σ := hr0.ok hr1.1
  refine lv_aload_n hx hb dL_law_977 rfl (lv_at hl 2 rfl) ?_
  refine jcallV (As := []) (rest := []) ⟨hx, hb, hml, hown, hts⟩ hK hP hA hS hZ (c_X11_redo l D cI cL ad zz hJ σ τ hI2) cw_RL_125 (jc_0 cI cL ad σ τ) rfl ⟨Nat.le_of_ble_eq_true rfl, Nat.le_of_ble_eq_true rfl⟩ rfl rfl rfl hl.1 rfl (Nat.le_of_ble_eq_true rfl) dL_law_978 ⟨Nat.le_of_ble_eq_true rfl, Nat.le_of_ble_eq_true rfl⟩ (fun r49 σ48 τ48 H locs h48 hP hS => ?_)
  obtain ⟨rfl, f50, f51, I52, h48⟩ := h48
  obtain ⟨i54, i55, i56, i57, i58, w59, w60⟩ : (0 ≤ (σ48 2 0).toInt ∧ (σ48 2 0).toInt ≤ 4) ∧ (0 ≤ (σ48 2 1).toInt ∧ (σ48 2 1).toInt ≤ 3) ∧ (0 ≤ (σ48 2 2).toInt) ∧ (0 ≤ (σ48 2 3).toInt) ∧ ((σ48 2 2).toInt + (σ48 2 3).toInt ≤ 40) ∧ (∀ k : Nat, k < 40 → 0 ≤ (σ48 6 k).toInt ∧ (σ48 6 k).toInt ≤ 67) ∧ (∀ k : Nat, k < 4 → 0 ≤ (σ48 5 k).toInt ∧ (σ48 5 k).toInt ≤ 20) := id I52
  have z61 : (σ48 2 0).toInt = (σ 2 0).toInt := (congrArg Int32.toInt (show σ48 2 0 = (σ 2 0) from (f51 0 (by decide))))
  have z62 : (σ48 2 1).toInt = (σ 2 1).toInt := (congrArg Int32.toInt (show σ48 2 1 = (σ 2 1) from (f51 1 (by decide))))
  rcases h48 with h63 | h64
  · obtain ⟨q69, k65, k66, k67, k68⟩ := h63
    have q69 := q69.symm
    subst q69
    refine lv_pop hx hb dL_law_981 rfl ?_
    refine lv_aload_n hx hb dL_law_982 rfl (lv_at hl 1 rfl) ?_
    have I70 : jI101 σ48 := jI101_fr (congrFun (f50 55 (by decide)) 4) (congrFun (f50 55 (by decide)) 5) (f50 56 (by decide)) (f50 57 (by decide)) (f50 58 (by decide)) (f50 59 (by decide)) hI101
    have z71 : (σ48 55 5).toInt = (σ 55 5).toInt := (congrArg Int32.toInt (show σ48 55 5 = (σ 55 5) from (congrFun (f50 55 (by decide)) 5)))
    have z72 : (σ48 55 4).toInt = (σ 55 4).toInt := (congrArg Int32.toInt (show σ48 55 4 = (σ 55 4) from (congrFun (f50 55 (by decide)) 4)))
    refine jcallV (As := []) (rest := []) ⟨hx, hb, hml, hown, hts⟩ hK hP hA hS hZ (c_X12_redo l D cI cL ad zz hJ σ48 τ I70) cw_RL_128 (jc_55 cI cL ad σ48 τ) rfl ⟨Nat.le_of_ble_eq_true rfl, Nat.le_of_ble_eq_true rfl⟩ rfl rfl rfl hl.1 rfl (Nat.le_of_ble_eq_true rfl) dL_law_983 ⟨Nat.le_of_ble_eq_true rfl, Nat.le_of_ble_eq_true rfl⟩ (fun r74 σ73 τ73 H locs h73 hP hS => ?_)
    obtain ⟨rfl, f75, f76, I77, h73⟩ := h73
    obtain ⟨i79, i80, i81, w82, w83, w84, w85⟩ : (0 ≤ (σ73 55 5).toInt) ∧ ((σ73 55 5).toInt ≤ (σ73 55 4).toInt) ∧ ((σ73 55 4).toInt ≤ 40) ∧ (∀ k : Nat, k < 68 → (-200) ≤ (σ73 56 k).toInt ∧ (σ73 56 k).toInt ≤ 500) ∧ (∀ k : Nat, k < 40 → 0 ≤ (σ73 57 k).toInt ∧ (σ73 57 k).toInt ≤ 67) ∧ (∀ k : Nat, k < 40 → (-200) ≤ (σ73 58 k).toInt ∧ (σ73 58 k).toInt ≤ 500) ∧ (∀ k : Nat, k < 40 → (-200) ≤ (σ73 59 k).toInt ∧ (σ73 59 k).toInt ≤ 500) := id I77
    have z86 : (σ73 55 4).toInt = (σ 55 4).toInt := (congrArg Int32.toInt (show σ73 55 4 = (σ 55 4) from ((f76 4 (by decide)).trans (congrFun (f50 55 (by decide)) 4))))
    rcases h73 with h87 | h88
    · obtain ⟨q92, k89, k90, k91⟩ := h87
      have q92 := q92.symm
      subst q92
      refine lv_pop hx hb dL_law_986 rfl ?_
      refine lv_goto (tgt := 1357) hx hb dL_law_987 (by decide) ?_
      obtain ⟨x93, ex93⟩ : ∃ y : Int32, y = x0 + 6 := ⟨_, rfl⟩
      exact by
       have tx93 : x93.toInt = x0.toInt + 6 := (jadd ex93 rfl jz_6 (by omega) (by omega)).trans (by omega)
       refine lv_iinc (v := x93) (lv' := [(3, .int x93), (2, .ref (ad 55)), (1, .ref (ad 0)), (0, .ref b)]) hx hb dL_law_1357 hl (k := 0) rfl (by rw [ex93]; rfl) (by decide) rfl (fun ls hl => ?_)
       refine lv_goto (tgt := 18) hx hb dL_law_1360 (by decide) ?_
       have I94 : jI2 σ73 := jI2_fr (congrFun (f75 2 (by decide)) 0) (congrFun (f75 2 (by decide)) 1) (congrFun (f75 2 (by decide)) 2) (congrFun (f75 2 (by decide)) 3) (f75 6 (by decide)) (f75 5 (by decide)) I52
       have I95 : jI9 σ73 := jI9_fr ((congrFun (f75 9 (by decide)) 0).trans (congrFun (f50 9 (by decide)) 0)) ((f75 10 (by decide)).trans (f50 10 (by decide))) ((f75 11 (by decide)).trans (f50 11 (by decide))) hI9
       have I96 : jI12 σ73 := jI12_fr ((congrFun (f75 12 (by decide)) 0).trans (congrFun (f50 12 (by decide)) 0)) ((f75 13 (by decide)).trans (f50 13 (by decide))) hI12
       have I97 : jI16 σ73 := jI16_fr ((congrFun (f75 16 (by decide)) 0).trans (congrFun (f50 16 (by decide)) 0)) ((congrFun (f75 16 (by decide)) 1).trans (congrFun (f50 16 (by decide)) 1)) ((congrFun (f75 16 (by decide)) 2).trans (congrFun (f50 16 (by decide)) 2)) ((f75 17 (by decide)).trans (f50 17 (by decide))) hI16
       have I98 : jI18 σ73 := jI18_fr ((congrFun (f75 18 (by decide)) 0).trans (congrFun (f50 18 (by decide)) 0)) ((f75 19 (by decide)).trans (f50 19 (by decide))) hI18
       have I99 : jI22 σ73 := jI22_fr ((congrFun (f75 22 (by decide)) 0).trans (congrFun (f50 22 (by decide)) 0)) ((f75 23 (by decide)).trans (f50 23 (by decide))) hI22
       exact by
        have I100 : jI31 σ73 := jI31_fr ((congrFun (f75 31 (by decide)) 8).trans (congrFun (f50 31 (by decide)) 8)) ((congrFun (f75 31 (by decide)) 10).trans (congrFun (f50 31 (by decide)) 10)) ((congrFun (f75 31 (by decide)) 11).trans (congrFun (f50 31 (by decide)) 11)) ((f75 33 (by decide)).trans (f50 33 (by decide))) ((f75 35 (by decide)).trans (f50 35 (by decide))) ((f75 36 (by decide)).trans (f50 36 (by decide))) hI31
        have I101 : jI38 σ73 := jI38_fr ((congrFun (f75 38 (by decide)) 0).trans (congrFun (f50 38 (by decide)) 0)) ((congrFun (f75 38 (by decide)) 1).trans (congrFun (f50 38 (by decide)) 1)) ((f75 39 (by decide)).trans (f50 39 (by decide))) hI38
        have I102 : jI43 σ73 := jI43_fr ((congrFun (f75 43 (by decide)) 8).trans (congrFun (f50 43 (by decide)) 8)) hI43
        have I103 : jI47 σ73 := jI47_fr ((congrFun (f75 47 (by decide)) 0).trans (congrFun (f50 47 (by decide)) 0)) ((f75 48 (by decide)).trans (f50 48 (by decide))) ((f75 49 (by decide)).trans (f50 49 (by decide))) hI47
        have I104 : jI50 σ73 := jI50_fr ((f75 52 (by decide)).trans (f50 52 (by decide))) hI50
        have I105 : jI0 σ73 := jI0_fr ((f75 1 (by decide)).trans (f50 1 (by decide))) hI0
        have I106 : jI26 σ73 := jI26_fr ((congrFun (f75 26 (by decide)) 6).trans (congrFun (f50 26 (by decide)) 6)) hI26
        have I107 : jI102 σ73 := jI102_fr ((f76 6 (by decide)).trans (congrFun (f50 55 (by decide)) 6)) ((f75 60 (by decide)).trans (f50 60 (by decide))) ((f75 61 (by decide)).trans (f50 61 (by decide))) hI102
        have I108 : jI103 σ73 := jI103_fr ((f76 9 (by decide)).trans (congrFun (f50 55 (by decide)) 9)) hI103
        have I109 : jI104 σ73 := jI104_fr ((f76 10 (by decide)).trans (congrFun (f50 55 (by decide)) 10)) ((f76 12 (by decide)).trans (congrFun (f50 55 (by decide)) 12)) ((f76 13 (by decide)).trans (congrFun (f50 55 (by decide)) 13)) ((f75 62 (by decide)).trans (f50 62 (by decide))) ((f75 67 (by decide)).trans (f50 67 (by decide))) hI104
        have I110 : jI105 σ73 := jI105_fr ((f76 15 (by decide)).trans (congrFun (f50 55 (by decide)) 15)) ((f75 65 (by decide)).trans (f50 65 (by decide))) hI105
        have I111 : jI106 σ73 := jI106_fr ((f76 32 (by decide)).trans (congrFun (f50 55 (by decide)) 32)) ((f75 70 (by decide)).trans (f50 70 (by decide))) ((f75 71 (by decide)).trans (f50 71 (by decide))) ((f75 72 (by decide)).trans (f50 72 (by decide))) hI106
        have I112 : jI107 σ73 := jI107_fr ((f76 12 (by decide)).trans (congrFun (f50 55 (by decide)) 12)) ((f76 47 (by decide)).trans (congrFun (f50 55 (by decide)) 47)) ((f75 80 (by decide)).trans (f50 80 (by decide))) hI107
        have I113 : jI109 σ73 := jI109_fr ((f76 50 (by decide)).trans (congrFun (f50 55 (by decide)) 50)) hI109
        have I114 : jI110 σ73 := jI110_fr ((f75 86 (by decide)).trans (f50 86 (by decide))) ((f75 87 (by decide)).trans (f50 87 (by decide))) hI110
        have I115 : jI111 σ73 := jI111_fr ((f75 79 (by decide)).trans (f50 79 (by decide))) hI111
        have I116 : jI119 σ73 := jI119_fr ((f75 68 (by decide)).trans (f50 68 (by decide))) hI119
        have p117 : jKept σ73 := jKept.fr ((f75 75 (by decide)).trans (f50 75 (by decide))) ((f75 76 (by decide)).trans (f50 76 (by decide))) ((f75 77 (by decide)).trans (f50 77 (by decide))) hs_jKept
        have p118 : jBook σ73 := jBook.fr ((f76 47 (by decide)).trans (congrFun (f50 55 (by decide)) 47)) ((f76 10 (by decide)).trans (congrFun (f50 55 (by decide)) 10)) ((f75 81 (by decide)).trans (f50 81 (by decide))) hs_jBook
        have p119 : jNd12 σ73 := jNd12.fr ((congrFun (f75 12 (by decide)) 0).trans (congrFun (f50 12 (by decide)) 0)) ((congrFun (f75 12 (by decide)) 1).trans (congrFun (f50 12 (by decide)) 1)) ((f75 13 (by decide)).trans (f50 13 (by decide))) hs_jNd12
        have p120 : jN67 σ73 := jN67.fr ((f75 24 (by decide)).trans (f50 24 (by decide))) hs_jN67
        have p121 : jBl σ73 := jBl.fr ((congrFun (f75 22 (by decide)) 0).trans (congrFun (f50 22 (by decide)) 0)) ((congrFun (f75 22 (by decide)) 1).trans (congrFun (f50 22 (by decide)) 1)) ((f75 23 (by decide)).trans (f50 23 (by decide))) ((congrFun (f75 26 (by decide)) 6).trans (congrFun (f50 26 (by decide)) 6)) ((congrFun (f75 26 (by decide)) 7).trans (congrFun (f50 26 (by decide)) 7)) ((f75 29 (by decide)).trans (f50 29 (by decide))) ((f75 30 (by decide)).trans (f50 30 (by decide))) hs_jBl
        have p122 : jKb σ73 := jKb.fr ((congrFun (f75 31 (by decide)) 8).trans (congrFun (f50 31 (by decide)) 8)) ((congrFun (f75 31 (by decide)) 11).trans (congrFun (f50 31 (by decide)) 11)) ((f75 32 (by decide)).trans (f50 32 (by decide))) hs_jKb
        have p123 : jTR σ73 := jTR.fr ((f75 64 (by decide)).trans (f50 64 (by decide))) ((f75 65 (by decide)).trans (f50 65 (by decide))) hs_jTR
        have p124 : jKh σ73 := jKh.fr ((congrFun (f75 31 (by decide)) 8).trans (congrFun (f50 31 (by decide)) 8)) ((f75 32 (by decide)).trans (f50 32 (by decide))) ((f75 36 (by decide)).trans (f50 36 (by decide))) ((f75 37 (by decide)).trans (f50 37 (by decide))) hs_jKh
        have p125 : jKg σ73 := jKg.fr ((congrFun (f75 31 (by decide)) 8).trans (congrFun (f50 31 (by decide)) 8)) ((congrFun (f75 31 (by decide)) 9).trans (congrFun (f50 31 (by decide)) 9)) ((congrFun (f75 31 (by decide)) 11).trans (congrFun (f50 31 (by decide)) 11)) ((congrFun (f75 31 (by decide)) 12).trans (congrFun (f50 31 (by decide)) 12)) ((f75 32 (by decide)).trans (f50 32 (by decide))) ((f75 33 (by decide)).trans (f50 33 (by decide))) hs_jKg
        have p126 : jNz σ73 := jNz.fr ((f75 34 (by decide)).trans (f50 34 (by decide))) hs_jNz
        have p127 : jqSt σ73 := jqSt.fr ((f75 78 (by decide)).trans (f50 78 (by decide))) ((f76 42 (by decide)).trans (congrFun (f50 55 (by decide)) 42)) hs_jqSt
        have z128 : (σ73 2 0).toInt = (σ 2 0).toInt := (congrArg Int32.toInt (show σ73 2 0 = (σ 2 0) from ((congrFun (f75 2 (by decide)) 0).trans (f51 0 (by decide)))))
        have z129 : (σ73 55 6).toInt = (σ 55 6).toInt := (congrArg Int32.toInt (show σ73 55 6 = (σ 55 6) from ((f76 6 (by decide)).trans (congrFun (f50 55 (by decide)) 6))))
        have z130 : (σ73 2 2).toInt = (σ48 2 2).toInt := (congrArg Int32.toInt (show σ73 2 2 = (σ48 2 2) from (congrFun (f75 2 (by decide)) 2)))
        have z131 : (σ73 2 3).toInt = (σ48 2 3).toInt := (congrArg Int32.toInt (show σ73 2 3 = (σ48 2 3) from (congrFun (f75 2 (by decide)) 3)))
        have z132 : (σ73 9 0).toInt = (σ 9 0).toInt := (congrArg Int32.toInt (show σ73 9 0 = (σ 9 0) from ((congrFun (f75 9 (by decide)) 0).trans (congrFun (f50 9 (by decide)) 0))))
        have z133 : (σ73 55 15).toInt = (σ 55 15).toInt := (congrArg Int32.toInt (show σ73 55 15 = (σ 55 15) from ((f76 15 (by decide)).trans (congrFun (f50 55 (by decide)) 15))))
        have z134 : (σ73 16 0).toInt = (σ 16 0).toInt := (congrArg Int32.toInt (show σ73 16 0 = (σ 16 0) from ((congrFun (f75 16 (by decide)) 0).trans (congrFun (f50 16 (by decide)) 0))))
        have z135 : (σ73 55 10).toInt = (σ 55 10).toInt := (congrArg Int32.toInt (show σ73 55 10 = (σ 55 10) from ((f76 10 (by decide)).trans (congrFun (f50 55 (by decide)) 10))))
        have z136 : (σ73 16 1).toInt = (σ 16 1).toInt := (congrArg Int32.toInt (show σ73 16 1 = (σ 16 1) from ((congrFun (f75 16 (by decide)) 1).trans (congrFun (f50 16 (by decide)) 1))))
        have z137 : (σ73 55 12).toInt = (σ 55 12).toInt := (congrArg Int32.toInt (show σ73 55 12 = (σ 55 12) from ((f76 12 (by decide)).trans (congrFun (f50 55 (by decide)) 12))))
        have z138 : (σ73 16 2).toInt = (σ 16 2).toInt := (congrArg Int32.toInt (show σ73 16 2 = (σ 16 2) from ((congrFun (f75 16 (by decide)) 2).trans (congrFun (f50 16 (by decide)) 2))))
        have z139 : (σ73 55 13).toInt = (σ 55 13).toInt := (congrArg Int32.toInt (show σ73 55 13 = (σ 55 13) from ((f76 13 (by decide)).trans (congrFun (f50 55 (by decide)) 13))))
        have z140 : (σ73 38 0).toInt = (σ 38 0).toInt := (congrArg Int32.toInt (show σ73 38 0 = (σ 38 0) from ((congrFun (f75 38 (by decide)) 0).trans (congrFun (f50 38 (by decide)) 0))))
        have z141 : (σ73 55 32).toInt = (σ 55 32).toInt := (congrArg Int32.toInt (show σ73 55 32 = (σ 55 32) from ((f76 32 (by decide)).trans (congrFun (f50 55 (by decide)) 32))))
        have z142 : (σ73 38 1).toInt = (σ 38 1).toInt := (congrArg Int32.toInt (show σ73 38 1 = (σ 38 1) from ((congrFun (f75 38 (by decide)) 1).trans (congrFun (f50 38 (by decide)) 1))))
        have z143 : (σ73 55 55).toInt = (σ 55 55).toInt := (congrArg Int32.toInt (show σ73 55 55 = (σ 55 55) from ((f76 55 (by decide)).trans (congrFun (f50 55 (by decide)) 55))))
        have z144 : (σ73 47 0).toInt = (σ 47 0).toInt := (congrArg Int32.toInt (show σ73 47 0 = (σ 47 0) from ((congrFun (f75 47 (by decide)) 0).trans (congrFun (f50 47 (by decide)) 0))))
        have z145 : (σ73 55 47).toInt = (σ 55 47).toInt := (congrArg Int32.toInt (show σ73 55 47 = (σ 55 47) from ((f76 47 (by decide)).trans (congrFun (f50 55 (by decide)) 47))))
        have z146 : (σ73 55 30).toInt = (σ 55 30).toInt := (congrArg Int32.toInt (show σ73 55 30 = (σ 55 30) from ((f76 30 (by decide)).trans (congrFun (f50 55 (by decide)) 30))))
        have z147 : (σ73 55 31).toInt = (σ 55 31).toInt := (congrArg Int32.toInt (show σ73 55 31 = (σ 55 31) from ((f76 31 (by decide)).trans (congrFun (f50 55 (by decide)) 31))))
        have z148 : (σ73 2 1).toInt = (σ 2 1).toInt := (congrArg Int32.toInt (show σ73 2 1 = (σ 2 1) from ((congrFun (f75 2 (by decide)) 1).trans (f51 1 (by decide)))))
        have z149 : (σ73 55 9).toInt = (σ 55 9).toInt := (congrArg Int32.toInt (show σ73 55 9 = (σ 55 9) from ((f76 9 (by decide)).trans (congrFun (f50 55 (by decide)) 9))))
        have z150 : (σ73 55 42).toInt = (σ 55 42).toInt := (congrArg Int32.toInt (show σ73 55 42 = (σ 55 42) from ((f76 42 (by decide)).trans (congrFun (f50 55 (by decide)) 42))))
        have z151 : (σ73 26 6).toInt = (σ 26 6).toInt := (congrArg Int32.toInt (show σ73 26 6 = (σ 26 6) from ((congrFun (f75 26 (by decide)) 6).trans (congrFun (f50 26 (by decide)) 6))))
        have z153 : (σ73 18 0).toInt = (σ 18 0).toInt := (congrArg Int32.toInt (show σ73 18 0 = (σ 18 0) from ((congrFun (f75 18 (by decide)) 0).trans (congrFun (f50 18 (by decide)) 0))))
        have z154 : (σ73 22 0).toInt = (σ 22 0).toInt := (congrArg Int32.toInt (show σ73 22 0 = (σ 22 0) from ((congrFun (f75 22 (by decide)) 0).trans (congrFun (f50 22 (by decide)) 0))))
        exact by exact ih x93 σ73 τ _ _ ls (by have h9 := tx93; omega) ⟨I94, I95, I96, I97, I98, I99, I100, I101, I102, I103, I104, I105, I106, I77, I107, I108, I109, I110, I111, I112, I113, I114, I115, I116, p117, p118, p119, p120, p121, p122, p123, p124, p125, p126, p127, (by rw [z128, z129]; exact ht0), (by omega), (by omega), (by rw [z132, z133]; exact ht3), (by rw [z134, z135]; exact ht4), (by rw [z136, z137]; exact ht5), (by rw [z138, z139]; exact ht6), (by rw [z140, z141]; exact ht7), (by rw [z142, z143]; exact ht8), (by rw [z144, z145]; exact ht9), (by rw [z146]; exact ht10), (by rw [z147]; exact ht11), (by rw [z148, z149]; exact ht12), (by rw [z150]; exact ht13), (by have h9 := tx93; omega), (by have h9 := tx93; omega), (show jNumP (σ73 3) (σ73 56) (σ73 6) (σ73 57) (σ73 7) (σ73 58) (σ73 8) (σ73 59) (σ73 55 6).toInt (σ73 55 4).toInt by rw [show σ73 3 = σ 3 from ((f75 3 (by decide)).trans k68), show σ73 56 = σ 56 from (k91.trans (f50 56 (by decide))), show σ73 6 = σ 6 from ((f75 6 (by decide)).trans (f50 6 (by decide))), show σ73 57 = σ 57 from ((f75 57 (by decide)).trans (f50 57 (by decide))), show σ73 7 = σ 7 from ((f75 7 (by decide)).trans (f50 7 (by decide))), show σ73 58 = σ 58 from ((f75 58 (by decide)).trans (f50 58 (by decide))), show σ73 8 = σ 8 from ((f75 8 (by decide)).trans (f50 8 (by decide))), show σ73 59 = σ 59 from ((f75 59 (by decide)).trans (f50 59 (by decide))), show (σ73 55 6).toInt = (σ 55 6).toInt from z129, show (σ73 55 4).toInt = (σ 55 4).toInt from z86]; exact hr0), (show jOvP (σ73 56) (σ73 57) (σ73 58) (σ73 59) (σ73 55 4).toInt by rw [show σ73 56 = σ 56 from (k91.trans (f50 56 (by decide))), show σ73 57 = σ 57 from ((f75 57 (by decide)).trans (f50 57 (by decide))), show σ73 58 = σ 58 from ((f75 58 (by decide)).trans (f50 58 (by decide))), show σ73 59 = σ 59 from ((f75 59 (by decide)).trans (f50 59 (by decide))), show (σ73 55 4).toInt = (σ 55 4).toInt from z86]; exact hr1), (show jTp (σ73 10) (σ73 63) (σ73 55 15).toInt by rw [show σ73 10 = σ 10 from ((f75 10 (by decide)).trans (f50 10 (by decide))), show σ73 63 = σ 63 from ((f75 63 (by decide)).trans (f50 63 (by decide)))]; exact hr2.le (by omega)), (show jSo (σ73 17) (σ73 62) (σ73 16 0).toInt by rw [show σ73 17 = σ 17 from ((f75 17 (by decide)).trans (f50 17 (by decide))), show σ73 62 = σ 62 from ((f75 62 (by decide)).trans (f50 62 (by decide))), show (σ73 16 0).toInt = (σ 16 0).toInt from z134]; exact hr3), (show jShP (σ73 51) (σ73 52) (σ73 53) (σ73 86) (σ73 87) (σ73 55 32).toInt by rw [show σ73 51 = σ 51 from ((f75 51 (by decide)).trans (f50 51 (by decide))), show σ73 52 = σ 52 from ((f75 52 (by decide)).trans (f50 52 (by decide))), show σ73 53 = σ 53 from ((f75 53 (by decide)).trans (f50 53 (by decide))), show σ73 86 = σ 86 from ((f75 86 (by decide)).trans (f50 86 (by decide))), show σ73 87 = σ 87 from ((f75 87 (by decide)).trans (f50 87 (by decide)))]; exact (hr4.up (by omega) (by omega))), (show jEl (σ73 51) (σ73 52) (τ 54) (τ 88) by rw [show σ73 51 = σ 51 from ((f75 51 (by decide)).trans (f50 51 (by decide))), show σ73 52 = σ 52 from ((f75 52 (by decide)).trans (f50 52 (by decide)))]; exact hr5), (show jByP (σ73 51) (σ73 52) (τ 54) by rw [show σ73 51 = σ 51 from ((f75 51 (by decide)).trans (f50 51 (by decide))), show σ73 52 = σ 52 from ((f75 52 (by decide)).trans (f50 52 (by decide)))]; exact hr6), (show jBk (σ73 48) (σ73 80) (σ73 49) (σ73 81) (σ73 55 47).toInt by rw [show σ73 48 = σ 48 from ((f75 48 (by decide)).trans (f50 48 (by decide))), show σ73 49 = σ 49 from ((f75 49 (by decide)).trans (f50 49 (by decide))), show σ73 80 = σ 80 from ((f75 80 (by decide)).trans (f50 80 (by decide))), show σ73 81 = σ 81 from ((f75 81 (by decide)).trans (f50 81 (by decide))), show (σ73 55 47).toInt = (σ 55 47).toInt from z145]; exact hr7), (show jKd (σ73 39) (σ73 70) (σ73 55 32).toInt by rw [show σ73 39 = σ 39 from ((f75 39 (by decide)).trans (f50 39 (by decide))), show σ73 70 = σ 70 from ((f75 70 (by decide)).trans (f50 70 (by decide))), show (σ73 55 32).toInt = (σ 55 32).toInt from z141]; exact hr8), (show jTt (σ73 42) (σ73 85) (σ73 55 55).toInt by rw [show σ73 42 = σ 42 from ((f75 42 (by decide)).trans (f50 42 (by decide))), show σ73 85 = σ 85 from ((f75 85 (by decide)).trans (f50 85 (by decide))), show (σ73 55 55).toInt = (σ 55 55).toInt from z143]; exact hr9), (fun k hk => by rw [show σ73 4 = σ 4 from ((f75 4 (by decide)).trans (f50 4 (by decide))), show σ73 5 = σ 5 from ((f75 5 (by decide)).trans (f50 5 (by decide))), show σ73 60 = σ 60 from ((f75 60 (by decide)).trans (f50 60 (by decide))), show σ73 61 = σ 61 from ((f75 61 (by decide)).trans (f50 61 (by decide)))]; exact hr10 k (by omega)), (fun nm => by rw [show σ73 19 = σ 19 from ((f75 19 (by decide)).trans (f50 19 (by decide))), show σ73 64 = σ 64 from ((f75 64 (by decide)).trans (f50 64 (by decide))), show σ73 65 = σ 65 from ((f75 65 (by decide)).trans (f50 65 (by decide))), show (σ73 18 0).toInt = (σ 18 0).toInt from z153]; exact hr11 nm), (fun nm => by rw [show σ73 23 = σ 23 from ((f75 23 (by decide)).trans (f50 23 (by decide))), show σ73 64 = σ 64 from ((f75 64 (by decide)).trans (f50 64 (by decide))), show σ73 65 = σ 65 from ((f75 65 (by decide)).trans (f50 65 (by decide))), show (σ73 22 0).toInt = (σ 22 0).toInt from z154]; exact hr12 nm), (show jAlP (σ73 56) (σ73 57) (σ73 58) (σ73 59) (σ73 55 4).toInt by rw [show σ73 56 = σ 56 from (k91.trans (f50 56 (by decide))), show σ73 57 = σ 57 from ((f75 57 (by decide)).trans (f50 57 (by decide))), show σ73 58 = σ 58 from ((f75 58 (by decide)).trans (f50 58 (by decide))), show σ73 59 = σ 59 from ((f75 59 (by decide)).trans (f50 59 (by decide))), show (σ73 55 4).toInt = (σ 55 4).toInt from z86]; exact hr13), (show jqbN (σ73 80) (σ73 55 47).toInt by rw [show σ73 80 = σ 80 from ((f75 80 (by decide)).trans (f50 80 (by decide))), show (σ73 55 47).toInt = (σ 55 47).toInt from z145]; exact hr14)⟩ hP hS (lv_sub hl [0, 1, 2, 3] rfl)
    · obtain ⟨q160, k155, k156, k157, k158, k159⟩ := h88
      exact absurd (by omega : False) id
  · obtain ⟨q167, k161, k162, k163, k164, k165, k166⟩ := h64
    refine lv_pop hx hb dL_law_981 rfl ?_
    refine lv_aload_n hx hb dL_law_982 rfl (lv_at hl 1 rfl) ?_
    have I168 : jI101 σ48 := jI101_fr (congrFun (f50 55 (by decide)) 4) (congrFun (f50 55 (by decide)) 5) (f50 56 (by decide)) (f50 57 (by decide)) (f50 58 (by decide)) (f50 59 (by decide)) hI101
    have z169 : (σ48 55 5).toInt = (σ 55 5).toInt := (congrArg Int32.toInt (show σ48 55 5 = (σ 55 5) from (congrFun (f50 55 (by decide)) 5)))
    have z170 : (σ48 55 4).toInt = (σ 55 4).toInt := (congrArg Int32.toInt (show σ48 55 4 = (σ 55 4) from (congrFun (f50 55 (by decide)) 4)))
    refine jcallV (As := []) (rest := []) ⟨hx, hb, hml, hown, hts⟩ hK hP hA hS hZ (c_X12_redo l D cI cL ad zz hJ σ48 τ I168) cw_RL_128 (jc_55 cI cL ad σ48 τ) rfl ⟨Nat.le_of_ble_eq_true rfl, Nat.le_of_ble_eq_true rfl⟩ rfl rfl rfl hl.1 rfl (Nat.le_of_ble_eq_true rfl) dL_law_983 ⟨Nat.le_of_ble_eq_true rfl, Nat.le_of_ble_eq_true rfl⟩ (fun r172 σ171 τ171 H locs h171 hP hS => ?_)
    obtain ⟨rfl, f173, f174, I175, h171⟩ := h171
    obtain ⟨i177, i178, i179, w180, w181, w182, w183⟩ : (0 ≤ (σ171 55 5).toInt) ∧ ((σ171 55 5).toInt ≤ (σ171 55 4).toInt) ∧ ((σ171 55 4).toInt ≤ 40) ∧ (∀ k : Nat, k < 68 → (-200) ≤ (σ171 56 k).toInt ∧ (σ171 56 k).toInt ≤ 500) ∧ (∀ k : Nat, k < 40 → 0 ≤ (σ171 57 k).toInt ∧ (σ171 57 k).toInt ≤ 67) ∧ (∀ k : Nat, k < 40 → (-200) ≤ (σ171 58 k).toInt ∧ (σ171 58 k).toInt ≤ 500) ∧ (∀ k : Nat, k < 40 → (-200) ≤ (σ171 59 k).toInt ∧ (σ171 59 k).toInt ≤ 500) := id I175
    have z184 : (σ171 55 4).toInt = (σ 55 4).toInt := (congrArg Int32.toInt (show σ171 55 4 = (σ 55 4) from ((f174 4 (by decide)).trans (congrFun (f50 55 (by decide)) 4))))
    rcases h171 with h185 | h186
    · obtain ⟨q190, k187, k188, k189⟩ := h185
      exact absurd (by omega : False) id
    · obtain ⟨q196, k191, k192, k193, k194, k195⟩ := h186
      refine lv_pop hx hb dL_law_986 rfl ?_
      refine lv_goto (tgt := 1357) hx hb dL_law_987 (by decide) ?_
      obtain ⟨x197, ex197⟩ : ∃ y : Int32, y = x0 + 6 := ⟨_, rfl⟩
      exact by
       have tx197 : x197.toInt = x0.toInt + 6 := (jadd ex197 rfl jz_6 (by omega) (by omega)).trans (by omega)
       refine lv_iinc (v := x197) (lv' := [(3, .int x197), (2, .ref (ad 55)), (1, .ref (ad 0)), (0, .ref b)]) hx hb dL_law_1357 hl (k := 0) rfl (by rw [ex197]; rfl) (by decide) rfl (fun ls hl => ?_)
       refine lv_goto (tgt := 18) hx hb dL_law_1360 (by decide) ?_
       have I198 : jI2 σ171 := jI2_fr (congrFun (f173 2 (by decide)) 0) (congrFun (f173 2 (by decide)) 1) (congrFun (f173 2 (by decide)) 2) (congrFun (f173 2 (by decide)) 3) (f173 6 (by decide)) (f173 5 (by decide)) I52
       have I199 : jI9 σ171 := jI9_fr ((congrFun (f173 9 (by decide)) 0).trans (congrFun (f50 9 (by decide)) 0)) ((f173 10 (by decide)).trans (f50 10 (by decide))) ((f173 11 (by decide)).trans (f50 11 (by decide))) hI9
       have I200 : jI12 σ171 := jI12_fr ((congrFun (f173 12 (by decide)) 0).trans (congrFun (f50 12 (by decide)) 0)) ((f173 13 (by decide)).trans (f50 13 (by decide))) hI12
       have I201 : jI16 σ171 := jI16_fr ((congrFun (f173 16 (by decide)) 0).trans (congrFun (f50 16 (by decide)) 0)) ((congrFun (f173 16 (by decide)) 1).trans (congrFun (f50 16 (by decide)) 1)) ((congrFun (f173 16 (by decide)) 2).trans (congrFun (f50 16 (by decide)) 2)) ((f173 17 (by decide)).trans (f50 17 (by decide))) hI16
       have I202 : jI18 σ171 := jI18_fr ((congrFun (f173 18 (by decide)) 0).trans (congrFun (f50 18 (by decide)) 0)) ((f173 19 (by decide)).trans (f50 19 (by decide))) hI18
       have I203 : jI22 σ171 := jI22_fr ((congrFun (f173 22 (by decide)) 0).trans (congrFun (f50 22 (by decide)) 0)) ((f173 23 (by decide)).trans (f50 23 (by decide))) hI22
       exact by
        have I204 : jI31 σ171 := jI31_fr ((congrFun (f173 31 (by decide)) 8).trans (congrFun (f50 31 (by decide)) 8)) ((congrFun (f173 31 (by decide)) 10).trans (congrFun (f50 31 (by decide)) 10)) ((congrFun (f173 31 (by decide)) 11).trans (congrFun (f50 31 (by decide)) 11)) ((f173 33 (by decide)).trans (f50 33 (by decide))) ((f173 35 (by decide)).trans (f50 35 (by decide))) ((f173 36 (by decide)).trans (f50 36 (by decide))) hI31
        have I205 : jI38 σ171 := jI38_fr ((congrFun (f173 38 (by decide)) 0).trans (congrFun (f50 38 (by decide)) 0)) ((congrFun (f173 38 (by decide)) 1).trans (congrFun (f50 38 (by decide)) 1)) ((f173 39 (by decide)).trans (f50 39 (by decide))) hI38
        have I206 : jI43 σ171 := jI43_fr ((congrFun (f173 43 (by decide)) 8).trans (congrFun (f50 43 (by decide)) 8)) hI43
        have I207 : jI47 σ171 := jI47_fr ((congrFun (f173 47 (by decide)) 0).trans (congrFun (f50 47 (by decide)) 0)) ((f173 48 (by decide)).trans (f50 48 (by decide))) ((f173 49 (by decide)).trans (f50 49 (by decide))) hI47
        have I208 : jI50 σ171 := jI50_fr ((f173 52 (by decide)).trans (f50 52 (by decide))) hI50
        have I209 : jI0 σ171 := jI0_fr ((f173 1 (by decide)).trans (f50 1 (by decide))) hI0
        have I210 : jI26 σ171 := jI26_fr ((congrFun (f173 26 (by decide)) 6).trans (congrFun (f50 26 (by decide)) 6)) hI26
        have I211 : jI102 σ171 := jI102_fr ((f174 6 (by decide)).trans (congrFun (f50 55 (by decide)) 6)) ((f173 60 (by decide)).trans (f50 60 (by decide))) ((f173 61 (by decide)).trans (f50 61 (by decide))) hI102
        have I212 : jI103 σ171 := jI103_fr ((f174 9 (by decide)).trans (congrFun (f50 55 (by decide)) 9)) hI103
        have I213 : jI104 σ171 := jI104_fr ((f174 10 (by decide)).trans (congrFun (f50 55 (by decide)) 10)) ((f174 12 (by decide)).trans (congrFun (f50 55 (by decide)) 12)) ((f174 13 (by decide)).trans (congrFun (f50 55 (by decide)) 13)) ((f173 62 (by decide)).trans (f50 62 (by decide))) ((f173 67 (by decide)).trans (f50 67 (by decide))) hI104
        have I214 : jI105 σ171 := jI105_fr ((f174 15 (by decide)).trans (congrFun (f50 55 (by decide)) 15)) ((f173 65 (by decide)).trans (f50 65 (by decide))) hI105
        have I215 : jI106 σ171 := jI106_fr ((f174 32 (by decide)).trans (congrFun (f50 55 (by decide)) 32)) ((f173 70 (by decide)).trans (f50 70 (by decide))) ((f173 71 (by decide)).trans (f50 71 (by decide))) ((f173 72 (by decide)).trans (f50 72 (by decide))) hI106
        have I216 : jI107 σ171 := jI107_fr ((f174 12 (by decide)).trans (congrFun (f50 55 (by decide)) 12)) ((f174 47 (by decide)).trans (congrFun (f50 55 (by decide)) 47)) ((f173 80 (by decide)).trans (f50 80 (by decide))) hI107
        have I217 : jI109 σ171 := jI109_fr ((f174 50 (by decide)).trans (congrFun (f50 55 (by decide)) 50)) hI109
        have I218 : jI110 σ171 := jI110_fr ((f173 86 (by decide)).trans (f50 86 (by decide))) ((f173 87 (by decide)).trans (f50 87 (by decide))) hI110
        have I219 : jI111 σ171 := jI111_fr ((f173 79 (by decide)).trans (f50 79 (by decide))) hI111
        have I220 : jI119 σ171 := jI119_fr ((f173 68 (by decide)).trans (f50 68 (by decide))) hI119
        have p221 : jKept σ171 := jKept.fr ((f173 75 (by decide)).trans (f50 75 (by decide))) ((f173 76 (by decide)).trans (f50 76 (by decide))) ((f173 77 (by decide)).trans (f50 77 (by decide))) hs_jKept
        have p222 : jBook σ171 := jBook.fr ((f174 47 (by decide)).trans (congrFun (f50 55 (by decide)) 47)) ((f174 10 (by decide)).trans (congrFun (f50 55 (by decide)) 10)) ((f173 81 (by decide)).trans (f50 81 (by decide))) hs_jBook
        have p223 : jNd12 σ171 := jNd12.fr ((congrFun (f173 12 (by decide)) 0).trans (congrFun (f50 12 (by decide)) 0)) ((congrFun (f173 12 (by decide)) 1).trans (congrFun (f50 12 (by decide)) 1)) ((f173 13 (by decide)).trans (f50 13 (by decide))) hs_jNd12
        have p224 : jN67 σ171 := jN67.fr ((f173 24 (by decide)).trans (f50 24 (by decide))) hs_jN67
        have p225 : jBl σ171 := jBl.fr ((congrFun (f173 22 (by decide)) 0).trans (congrFun (f50 22 (by decide)) 0)) ((congrFun (f173 22 (by decide)) 1).trans (congrFun (f50 22 (by decide)) 1)) ((f173 23 (by decide)).trans (f50 23 (by decide))) ((congrFun (f173 26 (by decide)) 6).trans (congrFun (f50 26 (by decide)) 6)) ((congrFun (f173 26 (by decide)) 7).trans (congrFun (f50 26 (by decide)) 7)) ((f173 29 (by decide)).trans (f50 29 (by decide))) ((f173 30 (by decide)).trans (f50 30 (by decide))) hs_jBl
        have p226 : jKb σ171 := jKb.fr ((congrFun (f173 31 (by decide)) 8).trans (congrFun (f50 31 (by decide)) 8)) ((congrFun (f173 31 (by decide)) 11).trans (congrFun (f50 31 (by decide)) 11)) ((f173 32 (by decide)).trans (f50 32 (by decide))) hs_jKb
        have p227 : jTR σ171 := jTR.fr ((f173 64 (by decide)).trans (f50 64 (by decide))) ((f173 65 (by decide)).trans (f50 65 (by decide))) hs_jTR
        have p228 : jKh σ171 := jKh.fr ((congrFun (f173 31 (by decide)) 8).trans (congrFun (f50 31 (by decide)) 8)) ((f173 32 (by decide)).trans (f50 32 (by decide))) ((f173 36 (by decide)).trans (f50 36 (by decide))) ((f173 37 (by decide)).trans (f50 37 (by decide))) hs_jKh
        have p229 : jKg σ171 := jKg.fr ((congrFun (f173 31 (by decide)) 8).trans (congrFun (f50 31 (by decide)) 8)) ((congrFun (f173 31 (by decide)) 9).trans (congrFun (f50 31 (by decide)) 9)) ((congrFun (f173 31 (by decide)) 11).trans (congrFun (f50 31 (by decide)) 11)) ((congrFun (f173 31 (by decide)) 12).trans (congrFun (f50 31 (by decide)) 12)) ((f173 32 (by decide)).trans (f50 32 (by decide))) ((f173 33 (by decide)).trans (f50 33 (by decide))) hs_jKg
        have p230 : jNz σ171 := jNz.fr ((f173 34 (by decide)).trans (f50 34 (by decide))) hs_jNz
        have p231 : jqSt σ171 := jqSt.fr ((f173 78 (by decide)).trans (f50 78 (by decide))) ((f174 42 (by decide)).trans (congrFun (f50 55 (by decide)) 42)) hs_jqSt
        have z232 : (σ171 2 0).toInt = (σ 2 0).toInt := (congrArg Int32.toInt (show σ171 2 0 = (σ 2 0) from ((congrFun (f173 2 (by decide)) 0).trans (f51 0 (by decide)))))
        have z233 : (σ171 55 6).toInt = (σ 55 6).toInt := (congrArg Int32.toInt (show σ171 55 6 = (σ 55 6) from ((f174 6 (by decide)).trans (congrFun (f50 55 (by decide)) 6))))
        have z234 : (σ171 2 2).toInt = (σ48 2 2).toInt := (congrArg Int32.toInt (show σ171 2 2 = (σ48 2 2) from (congrFun (f173 2 (by decide)) 2)))
        have z235 : (σ171 2 3).toInt = (σ48 2 3).toInt := (congrArg Int32.toInt (show σ171 2 3 = (σ48 2 3) from (congrFun (f173 2 (by decide)) 3)))
        have z236 : (σ171 9 0).toInt = (σ 9 0).toInt := (congrArg Int32.toInt (show σ171 9 0 = (σ 9 0) from ((congrFun (f173 9 (by decide)) 0).trans (congrFun (f50 9 (by decide)) 0))))
        have z237 : (σ171 55 15).toInt = (σ 55 15).toInt := (congrArg Int32.toInt (show σ171 55 15 = (σ 55 15) from ((f174 15 (by decide)).trans (congrFun (f50 55 (by decide)) 15))))
        have z238 : (σ171 16 0).toInt = (σ 16 0).toInt := (congrArg Int32.toInt (show σ171 16 0 = (σ 16 0) from ((congrFun (f173 16 (by decide)) 0).trans (congrFun (f50 16 (by decide)) 0))))
        have z239 : (σ171 55 10).toInt = (σ 55 10).toInt := (congrArg Int32.toInt (show σ171 55 10 = (σ 55 10) from ((f174 10 (by decide)).trans (congrFun (f50 55 (by decide)) 10))))
        have z240 : (σ171 16 1).toInt = (σ 16 1).toInt := (congrArg Int32.toInt (show σ171 16 1 = (σ 16 1) from ((congrFun (f173 16 (by decide)) 1).trans (congrFun (f50 16 (by decide)) 1))))
        have z241 : (σ171 55 12).toInt = (σ 55 12).toInt := (congrArg Int32.toInt (show σ171 55 12 = (σ 55 12) from ((f174 12 (by decide)).trans (congrFun (f50 55 (by decide)) 12))))
        have z242 : (σ171 16 2).toInt = (σ 16 2).toInt := (congrArg Int32.toInt (show σ171 16 2 = (σ 16 2) from ((congrFun (f173 16 (by decide)) 2).trans (congrFun (f50 16 (by decide)) 2))))
        have z243 : (σ171 55 13).toInt = (σ 55 13).toInt := (congrArg Int32.toInt (show σ171 55 13 = (σ 55 13) from ((f174 13 (by decide)).trans (congrFun (f50 55 (by decide)) 13))))
        have z244 : (σ171 38 0).toInt = (σ 38 0).toInt := (congrArg Int32.toInt (show σ171 38 0 = (σ 38 0) from ((congrFun (f173 38 (by decide)) 0).trans (congrFun (f50 38 (by decide)) 0))))
        have z245 : (σ171 55 32).toInt = (σ 55 32).toInt := (congrArg Int32.toInt (show σ171 55 32 = (σ 55 32) from ((f174 32 (by decide)).trans (congrFun (f50 55 (by decide)) 32))))
        have z246 : (σ171 38 1).toInt = (σ 38 1).toInt := (congrArg Int32.toInt (show σ171 38 1 = (σ 38 1) from ((congrFun (f173 38 (by decide)) 1).trans (congrFun (f50 38 (by decide)) 1))))
        have z247 : (σ171 55 55).toInt = (σ 55 55).toInt := (congrArg Int32.toInt (show σ171 55 55 = (σ 55 55) from ((f174 55 (by decide)).trans (congrFun (f50 55 (by decide)) 55))))
        have z248 : (σ171 47 0).toInt = (σ 47 0).toInt := (congrArg Int32.toInt (show σ171 47 0 = (σ 47 0) from ((congrFun (f173 47 (by decide)) 0).trans (congrFun (f50 47 (by decide)) 0))))
        have z249 : (σ171 55 47).toInt = (σ 55 47).toInt := (congrArg Int32.toInt (show σ171 55 47 = (σ 55 47) from ((f174 47 (by decide)).trans (congrFun (f50 55 (by decide)) 47))))
        have z250 : (σ171 55 30).toInt = (σ 55 30).toInt := (congrArg Int32.toInt (show σ171 55 30 = (σ 55 30) from ((f174 30 (by decide)).trans (congrFun (f50 55 (by decide)) 30))))
        have z251 : (σ171 55 31).toInt = (σ 55 31).toInt := (congrArg Int32.toInt (show σ171 55 31 = (σ 55 31) from ((f174 31 (by decide)).trans (congrFun (f50 55 (by decide)) 31))))
        have z252 : (σ171 2 1).toInt = (σ 2 1).toInt := (congrArg Int32.toInt (show σ171 2 1 = (σ 2 1) from ((congrFun (f173 2 (by decide)) 1).trans (f51 1 (by decide)))))
        have z253 : (σ171 55 9).toInt = (σ 55 9).toInt := (congrArg Int32.toInt (show σ171 55 9 = (σ 55 9) from ((f174 9 (by decide)).trans (congrFun (f50 55 (by decide)) 9))))
        have z254 : (σ171 55 42).toInt = (σ 55 42).toInt := (congrArg Int32.toInt (show σ171 55 42 = (σ 55 42) from ((f174 42 (by decide)).trans (congrFun (f50 55 (by decide)) 42))))
        have z255 : (σ171 26 6).toInt = (σ 26 6).toInt := (congrArg Int32.toInt (show σ171 26 6 = (σ 26 6) from ((congrFun (f173 26 (by decide)) 6).trans (congrFun (f50 26 (by decide)) 6))))
        rw [show (σ 2 2).toInt = (σ 55 5).toInt from by omega] at k166
        rw [show (σ48 55 5).toInt = (σ 55 5).toInt from z169, show σ48 56 = σ 56 from (f50 56 (by decide)), show σ48 57 = σ 57 from (f50 57 (by decide)), show σ48 59 = σ 59 from (f50 59 (by decide))] at k195
        exact by
         have p256 := hr0.forth (by omega) (by omega) k166 k195
         have z258 : (σ171 18 0).toInt = (σ 18 0).toInt := (congrArg Int32.toInt (show σ171 18 0 = (σ 18 0) from ((congrFun (f173 18 (by decide)) 0).trans (congrFun (f50 18 (by decide)) 0))))
         have z259 : (σ171 22 0).toInt = (σ 22 0).toInt := (congrArg Int32.toInt (show σ171 22 0 = (σ 22 0) from ((congrFun (f173 22 (by decide)) 0).trans (congrFun (f50 22 (by decide)) 0))))
         exact by exact ih x197 σ171 τ _ _ ls (by have h9 := tx197; omega) ⟨I198, I199, I200, I201, I202, I203, I204, I205, I206, I207, I208, I209, I210, I175, I211, I212, I213, I214, I215, I216, I217, I218, I219, I220, p221, p222, p223, p224, p225, p226, p227, p228, p229, p230, p231, (by rw [z232, z233]; exact ht0), (by omega), (by omega), (by rw [z236, z237]; exact ht3), (by rw [z238, z239]; exact ht4), (by rw [z240, z241]; exact ht5), (by rw [z242, z243]; exact ht6), (by rw [z244, z245]; exact ht7), (by rw [z246, z247]; exact ht8), (by rw [z248, z249]; exact ht9), (by rw [z250]; exact ht10), (by rw [z251]; exact ht11), (by rw [z252, z253]; exact ht12), (by rw [z254]; exact ht13), (by have h9 := tx197; omega), (by have h9 := tx197; omega), (show jNumP (σ171 3) (σ171 56) (σ171 6) (σ171 57) (σ171 7) (σ171 58) (σ171 8) (σ171 59) (σ171 55 6).toInt (σ171 55 4).toInt by rw [show σ171 3 = σ48 3 from (f173 3 (by decide)), show σ171 6 = σ 6 from ((f173 6 (by decide)).trans (f50 6 (by decide))), show σ171 57 = σ 57 from ((f173 57 (by decide)).trans (f50 57 (by decide))), show σ171 7 = σ 7 from ((f173 7 (by decide)).trans (f50 7 (by decide))), show σ171 58 = σ 58 from ((f173 58 (by decide)).trans (f50 58 (by decide))), show σ171 8 = σ 8 from ((f173 8 (by decide)).trans (f50 8 (by decide))), show σ171 59 = σ 59 from ((f173 59 (by decide)).trans (f50 59 (by decide))), show (σ171 55 6).toInt = (σ 55 6).toInt from z233, show (σ171 55 4).toInt = (σ 55 4).toInt from z184]; exact p256), (show jOvP (σ171 56) (σ171 57) (σ171 58) (σ171 59) (σ171 55 4).toInt by rw [show σ171 57 = σ 57 from ((f173 57 (by decide)).trans (f50 57 (by decide))), show σ171 58 = σ 58 from ((f173 58 (by decide)).trans (f50 58 (by decide))), show σ171 59 = σ 59 from ((f173 59 (by decide)).trans (f50 59 (by decide))), show (σ171 55 4).toInt = (σ 55 4).toInt from z184]; exact (hr1.forth (by omega) (by omega) ((hr0.2.2 ((σ 55 5).toInt).toNat (by omega)).2.1.1) k195)), (show jTp (σ171 10) (σ171 63) (σ171 55 15).toInt by rw [show σ171 10 = σ 10 from ((f173 10 (by decide)).trans (f50 10 (by decide))), show σ171 63 = σ 63 from ((f173 63 (by decide)).trans (f50 63 (by decide)))]; exact hr2.le (by omega)), (show jSo (σ171 17) (σ171 62) (σ171 16 0).toInt by rw [show σ171 17 = σ 17 from ((f173 17 (by decide)).trans (f50 17 (by decide))), show σ171 62 = σ 62 from ((f173 62 (by decide)).trans (f50 62 (by decide))), show (σ171 16 0).toInt = (σ 16 0).toInt from z238]; exact hr3), (show jShP (σ171 51) (σ171 52) (σ171 53) (σ171 86) (σ171 87) (σ171 55 32).toInt by rw [show σ171 51 = σ 51 from ((f173 51 (by decide)).trans (f50 51 (by decide))), show σ171 52 = σ 52 from ((f173 52 (by decide)).trans (f50 52 (by decide))), show σ171 53 = σ 53 from ((f173 53 (by decide)).trans (f50 53 (by decide))), show σ171 86 = σ 86 from ((f173 86 (by decide)).trans (f50 86 (by decide))), show σ171 87 = σ 87 from ((f173 87 (by decide)).trans (f50 87 (by decide)))]; exact (hr4.up (by omega) (by omega))), (show jEl (σ171 51) (σ171 52) (τ 54) (τ 88) by rw [show σ171 51 = σ 51 from ((f173 51 (by decide)).trans (f50 51 (by decide))), show σ171 52 = σ 52 from ((f173 52 (by decide)).trans (f50 52 (by decide)))]; exact hr5), (show jByP (σ171 51) (σ171 52) (τ 54) by rw [show σ171 51 = σ 51 from ((f173 51 (by decide)).trans (f50 51 (by decide))), show σ171 52 = σ 52 from ((f173 52 (by decide)).trans (f50 52 (by decide)))]; exact hr6), (show jBk (σ171 48) (σ171 80) (σ171 49) (σ171 81) (σ171 55 47).toInt by rw [show σ171 48 = σ 48 from ((f173 48 (by decide)).trans (f50 48 (by decide))), show σ171 49 = σ 49 from ((f173 49 (by decide)).trans (f50 49 (by decide))), show σ171 80 = σ 80 from ((f173 80 (by decide)).trans (f50 80 (by decide))), show σ171 81 = σ 81 from ((f173 81 (by decide)).trans (f50 81 (by decide))), show (σ171 55 47).toInt = (σ 55 47).toInt from z249]; exact hr7), (show jKd (σ171 39) (σ171 70) (σ171 55 32).toInt by rw [show σ171 39 = σ 39 from ((f173 39 (by decide)).trans (f50 39 (by decide))), show σ171 70 = σ 70 from ((f173 70 (by decide)).trans (f50 70 (by decide))), show (σ171 55 32).toInt = (σ 55 32).toInt from z245]; exact hr8), (show jTt (σ171 42) (σ171 85) (σ171 55 55).toInt by rw [show σ171 42 = σ 42 from ((f173 42 (by decide)).trans (f50 42 (by decide))), show σ171 85 = σ 85 from ((f173 85 (by decide)).trans (f50 85 (by decide))), show (σ171 55 55).toInt = (σ 55 55).toInt from z247]; exact hr9), (fun k hk => by rw [show σ171 4 = σ 4 from ((f173 4 (by decide)).trans (f50 4 (by decide))), show σ171 5 = σ 5 from ((f173 5 (by decide)).trans (f50 5 (by decide))), show σ171 60 = σ 60 from ((f173 60 (by decide)).trans (f50 60 (by decide))), show σ171 61 = σ 61 from ((f173 61 (by decide)).trans (f50 61 (by decide)))]; exact hr10 k (by omega)), (fun nm => by rw [show σ171 19 = σ 19 from ((f173 19 (by decide)).trans (f50 19 (by decide))), show σ171 64 = σ 64 from ((f173 64 (by decide)).trans (f50 64 (by decide))), show σ171 65 = σ 65 from ((f173 65 (by decide)).trans (f50 65 (by decide))), show (σ171 18 0).toInt = (σ 18 0).toInt from z258]; exact hr11 nm), (fun nm => by rw [show σ171 23 = σ 23 from ((f173 23 (by decide)).trans (f50 23 (by decide))), show σ171 64 = σ 64 from ((f173 64 (by decide)).trans (f50 64 (by decide))), show σ171 65 = σ 65 from ((f173 65 (by decide)).trans (f50 65 (by decide))), show (σ171 22 0).toInt = (σ 22 0).toInt from z259]; exact hr12 nm), (show jAlP (σ171 56) (σ171 57) (σ171 58) (σ171 59) (σ171 55 4).toInt by rw [show σ171 57 = σ 57 from ((f173 57 (by decide)).trans (f50 57 (by decide))), show σ171 58 = σ 58 from ((f173 58 (by decide)).trans (f50 58 (by decide))), show σ171 59 = σ 59 from ((f173 59 (by decide)).trans (f50 59 (by decide))), show (σ171 55 4).toInt = (σ 55 4).toInt from z184]; exact (hr13.forth (by omega) (by omega) ((hr0.2.2 ((σ 55 5).toInt).toNat (by omega)).2.1.1) k195)), (show jqbN (σ171 80) (σ171 55 47).toInt by rw [show σ171 80 = σ 80 from ((f173 80 (by decide)).trans (f50 80 (by decide))), show (σ171 55 47).toInt = (σ 55 47).toInt from z249]; exact hr14)⟩ hP hS (lv_sub hl [0, 1, 2, 3] rfl)
set_option maxHeartbeats 4000000 in
set_option maxRecDepth 100000 in
theorem law_case_28 {p : Program} {e : Env} {s : State} {m : MethodId} {below : List Frame} {meth : Method} {c : Code} (l : Launch) {b L : Nat} {xs : Nat → Int32} {D : va_G} {cI cL : ClassId} {ad zz : Nat → Nat} (C0 : lw_At p s m meth c b L xs) (hJ : jD ad) (hA : ∀ q, jA ad q → s.heap.size ≤ q) (hK : jK D cI cL s) (hZ : jZ zz (fun q : Nat => s.heap.size ≤ q) s s.heap) {x0 : Int32} (hx0 : 0 ≤ x0.toInt) (hxL : x0.toInt + 6 ≤ (L : Int)) (hL : L ≤ 384) {σ : Nat → Nat → Int32} {τ : Nat → Nat → Int64} {H : Heap} {locs : List Loc} (hS : va_S (fun q : Nat => s.heap.size ≤ q) s.heap H locs) {ls : Array Slot} (hAll : jAll x0.toInt σ τ) (hP : jH D cI cL ad σ τ H) (hl : lv_has ls 4 [(3, .int x0), (2, .ref (ad 55)), (1, .ref (ad 0)), (0, .ref b)]) (ih : ∀ (x1 : Int32) (σ : Nat → Nat → Int32) (τ : Nat → Nat → Int64) (H : Heap) (locs : List Loc) (ls : Array Slot), x1.toInt = x0.toInt + 6 → jAll x1.toInt σ τ → jH D cI cL ad σ τ H → va_S (fun q : Nat => s.heap.size ≤ q) s.heap H locs → lv_has ls 4 [(3, .int x1), (2, .ref (ad 55)), (1, .ref (ad 0)), (0, .ref b)] → W p l e room_1 s m #[Value.ref b] below meth c H locs 90 348600 (lw_Z below #[Value.ref b] s) (F0 m 18 ls [])) : W p l e room_1 s m #[Value.ref b] below meth c H locs 90 348600 (lw_Z below #[Value.ref b] s) (F0 m 990 ls []) := by
  obtain ⟨hx, hb, hr, hml, hown, hts0, hX, hbl, hlocks, hgv⟩ := C0
  have hts : ∀ w ∈ wsL_law, w.before #[Value.ref b] s = true := fun w h => hts0 w (wsL_law_in w h)
  have hbA : ¬ (fun q : Nat => s.heap.size ≤ q) b := Nat.not_le.mpr hbl
  have hown : s.vm.findClass RL = some m.cls := hown
  obtain ⟨hI2, hI9, hI12, hI16, hI18, hI22, hI31, hI38, hI43, hI47, hI50, hI0, hI26, hI101, hI102, hI103, hI104, hI105, hI106, hI107, hI109, hI110, hI111, hI119, hs_jKept, hs_jBook, hs_jNd12, hs_jN67, hs_jBl, hs_jKb, hs_jTR, hs_jKh, hs_jKg, hs_jNz, hs_jqSt, ht0, ht1, ht2, ht3, ht4, ht5, ht6, ht7, ht8, ht9, ht10, ht11, ht12, ht13, ht14, ht15, hr0, hr1, hr2, hr3, hr4, hr5, hr6, hr7, hr8, hr9, hr10, hr11, hr12, hr13, hr14⟩ := hAll
  have hL9 : (L : Int) ≤ 384 := by omega
  obtain ⟨i1, i2, i3, i4, i5, w6, w7⟩ : (0 ≤ (σ 2 0).toInt ∧ (σ 2 0).toInt ≤ 4) ∧ (0 ≤ (σ 2 1).toInt ∧ (σ 2 1).toInt ≤ 3) ∧ (0 ≤ (σ 2 2).toInt) ∧ (0 ≤ (σ 2 3).toInt) ∧ ((σ 2 2).toInt + (σ 2 3).toInt ≤ 40) ∧ (∀ k : Nat, k < 40 → 0 ≤ (σ 6 k).toInt ∧ (σ 6 k).toInt ≤ 67) ∧ (∀ k : Nat, k < 4 → 0 ≤ (σ 5 k).toInt ∧ (σ 5 k).toInt ≤ 20) := id hI2
  obtain ⟨i8, w9, w10⟩ : (0 ≤ (σ 9 0).toInt ∧ (σ 9 0).toInt ≤ 80) ∧ (∀ k : Nat, k < 80 → 0 ≤ (σ 10 k).toInt ∧ (σ 10 k).toInt ≤ 255) ∧ (∀ k : Nat, k < 8 → 0 ≤ (σ 11 k).toInt ∧ (σ 11 k).toInt ≤ 3) := id hI9
  obtain ⟨i11, i12, i13, w14⟩ : (1 ≤ (σ 16 0).toInt ∧ (σ 16 0).toInt ≤ 8) ∧ (1 ≤ (σ 16 1).toInt ∧ (σ 16 1).toInt ≤ 12) ∧ (0 ≤ (σ 16 2).toInt ∧ (σ 16 2).toInt ≤ 999) ∧ (∀ k : Nat, k < 8 → 0 ≤ (σ 17 k).toInt ∧ (σ 17 k).toInt ≤ 3) := id hI16
  obtain ⟨i15, i16, w17⟩ : (0 ≤ (σ 38 0).toInt ∧ (σ 38 0).toInt ≤ 20) ∧ (0 ≤ (σ 38 1).toInt ∧ (σ 38 1).toInt ≤ 1000) ∧ (∀ k : Nat, k < 20 → 0 ≤ (σ 39 k).toInt ∧ (σ 39 k).toInt ≤ 6) := id hI38
  obtain ⟨i18, w19, w20⟩ : (0 ≤ (σ 47 0).toInt ∧ (σ 47 0).toInt ≤ 12) ∧ (∀ k : Nat, k < 12 → 0 ≤ (σ 48 k).toInt ∧ (σ 48 k).toInt ≤ 3) ∧ (∀ k : Nat, k < 12 → 0 ≤ (σ 49 k).toInt ∧ (σ 49 k).toInt ≤ 1) := id hI47
  have w21 : ∀ k : Nat, k < 6 → 0 ≤ (σ 52 k).toInt ∧ (σ 52 k).toInt ≤ 60 := hI50
  have i22 : 1 ≤ (σ 26 6).toInt ∧ (σ 26 6).toInt ≤ 8000 := hI26
  obtain ⟨i23, i24, i25, w26, w27, w28, w29⟩ : (0 ≤ (σ 55 5).toInt) ∧ ((σ 55 5).toInt ≤ (σ 55 4).toInt) ∧ ((σ 55 4).toInt ≤ 40) ∧ (∀ k : Nat, k < 68 → (-200) ≤ (σ 56 k).toInt ∧ (σ 56 k).toInt ≤ 500) ∧ (∀ k : Nat, k < 40 → 0 ≤ (σ 57 k).toInt ∧ (σ 57 k).toInt ≤ 67) ∧ (∀ k : Nat, k < 40 → (-200) ≤ (σ 58 k).toInt ∧ (σ 58 k).toInt ≤ 500) ∧ (∀ k : Nat, k < 40 → (-200) ≤ (σ 59 k).toInt ∧ (σ 59 k).toInt ≤ 500) := id hI101
  obtain ⟨i30, w31, w32⟩ : (0 ≤ (σ 55 6).toInt ∧ (σ 55 6).toInt ≤ 4) ∧ (∀ k : Nat, k < 4 → 0 ≤ (σ 60 k).toInt ∧ (σ 60 k).toInt ≤ 50) ∧ (∀ k : Nat, k < 4 → 0 ≤ (σ 61 k).toInt ∧ (σ 61 k).toInt ≤ 20) := id hI102
  have i33 : 0 ≤ (σ 55 9).toInt ∧ (σ 55 9).toInt ≤ 3 := hI103
  obtain ⟨i34, i35, i36, w37, w38⟩ : (1 ≤ (σ 55 10).toInt ∧ (σ 55 10).toInt ≤ 8) ∧ (1 ≤ (σ 55 12).toInt ∧ (σ 55 12).toInt ≤ 12) ∧ (0 ≤ (σ 55 13).toInt ∧ (σ 55 13).toInt ≤ 999) ∧ (∀ k : Nat, k < 8 → 0 ≤ (σ 62 k).toInt ∧ (σ 62 k).toInt ≤ 3) ∧ (∀ k : Nat, k < 8 → 0 ≤ (σ 67 k).toInt ∧ (σ 67 k).toInt ≤ 3) := id hI104
  obtain ⟨i39, w40⟩ : (0 ≤ (σ 55 15).toInt ∧ (σ 55 15).toInt ≤ 80) ∧ (∀ k : Nat, k < 2 → (-1) ≤ (σ 65 k).toInt ∧ (σ 65 k).toInt ≤ 80) := id hI105
  obtain ⟨i41, w42, w43, w44⟩ : (0 ≤ (σ 55 32).toInt ∧ (σ 55 32).toInt ≤ 20) ∧ (∀ k : Nat, k < 20 → 0 ≤ (σ 70 k).toInt ∧ (σ 70 k).toInt ≤ 6) ∧ (∀ k : Nat, k < 20 → 0 ≤ (σ 71 k).toInt ∧ (σ 71 k).toInt ≤ 8) ∧ (∀ k : Nat, k < 160 → 0 ≤ (σ 72 k).toInt ∧ (σ 72 k).toInt ≤ 3) := id hI106
  obtain ⟨i45, i46, w47⟩ : (0 ≤ (σ 55 47).toInt ∧ (σ 55 47).toInt ≤ 12) ∧ ((σ 55 47).toInt ≤ (σ 55 12).toInt) ∧ (∀ k : Nat, k < 12 → 0 ≤ (σ 80 k).toInt ∧ (σ 80 k).toInt ≤ 3) := id hI107
  have hs_jOk3 : jOk3 σ := hr0.ok hr1.1
  refine lv_aload_n hx hb dL_law_990 rfl (lv_at hl 2 rfl) ?_
  refine lv_aload_n hx hb dL_law_991 rfl (lv_at hl 3 rfl) ?_
  refine lv_iload_n hx hb dL_law_992 rfl (lv_at hl 0 rfl) ?_
  refine lv_iconst (v := 1) hx hb dL_law_993 (by decide) ?_
  have g48 := jrg (rfl : x0.toInt = x0.toInt)
  refine lv_iadd hx hb dL_law_994 ?_
  refine lv_topi (fun x49 ex49 => ?_)
  exact by
   have tx49 : x49.toInt = x0.toInt + 1 := (jadd ex49 rfl jz_1 (by omega) (by omega)).trans (by omega)
   refine va_sld hx hb hX hbl hbA hS (jin tx49 (by omega) (by omega)) dL_law_995 ?_
   have g50 := jrg (rfl : (xs x49.toNatClampNeg).toInt = (xs x49.toNatClampNeg).toInt)
   refine lv_aload_n hx hb dL_law_996 rfl (lv_at hl 3 rfl) ?_
   refine lv_iload_n hx hb dL_law_997 rfl (lv_at hl 0 rfl) ?_
   refine lv_iconst (v := 2) hx hb dL_law_998 (by decide) ?_
   refine lv_iadd hx hb dL_law_999 ?_
   refine lv_topi (fun x51 ex51 => ?_)
   have tx51 : x51.toInt = x0.toInt + 2 := (jadd ex51 rfl jz_2 (by omega) (by omega)).trans (by omega)
   exact by
    refine va_sld hx hb hX hbl hbA hS (jin tx51 (by omega) (by omega)) dL_law_1000 ?_
    have g52 := jrg (rfl : (xs x51.toNatClampNeg).toInt = (xs x51.toNatClampNeg).toInt)
    refine lv_aload_n hx hb dL_law_1001 rfl (lv_at hl 3 rfl) ?_
    refine lv_iload_n hx hb dL_law_1002 rfl (lv_at hl 0 rfl) ?_
    refine lv_iconst (v := 3) hx hb dL_law_1003 (by decide) ?_
    refine lv_iadd hx hb dL_law_1004 ?_
    refine lv_topi (fun x53 ex53 => ?_)
    have tx53 : x53.toInt = x0.toInt + 3 := (jadd ex53 rfl jz_3 (by omega) (by omega)).trans (by omega)
    refine va_sld hx hb hX hbl hbA hS (jin tx53 (by omega) (by omega)) dL_law_1005 ?_
    exact by
     have g54 := jrg (rfl : (xs x53.toNatClampNeg).toInt = (xs x53.toNatClampNeg).toInt)
     refine jcallV (As := [.int (xs x49.toNatClampNeg), .int (xs x51.toNatClampNeg), .int (xs x53.toNatClampNeg)]) (rest := []) ⟨hx, hb, hml, hown, hts⟩ hK hP hA hS hZ (c_X11_act l D cI cL ad zz hJ σ τ (xs x49.toNatClampNeg) ((xs x49.toNatClampNeg).toInt) rfl (xs x51.toNatClampNeg) ((xs x51.toNatClampNeg).toInt) rfl (xs x53.toNatClampNeg) ((xs x53.toNatClampNeg).toInt) rfl hI38) cw_RL_129 (jc_0 cI cL ad σ τ) rfl ⟨Nat.le_of_ble_eq_true rfl, Nat.le_of_ble_eq_true rfl⟩ rfl rfl rfl hl.1 rfl (Nat.le_of_ble_eq_true rfl) dL_law_1006 ⟨Nat.le_of_ble_eq_true rfl, Nat.le_of_ble_eq_true rfl⟩ (fun r56 σ55 τ55 H locs h55 hP hS => ?_)
     obtain ⟨rfl, f57, f58, I59, h55⟩ := h55
     obtain ⟨i61, i62, w63⟩ : (0 ≤ (σ55 38 0).toInt ∧ (σ55 38 0).toInt ≤ 20) ∧ (0 ≤ (σ55 38 1).toInt ∧ (σ55 38 1).toInt ≤ 1000) ∧ (∀ k : Nat, k < 20 → 0 ≤ (σ55 39 k).toInt ∧ (σ55 39 k).toInt ≤ 6) := id I59
     have z64 : (σ55 38 0).toInt = (σ 38 0).toInt := (congrArg Int32.toInt (show σ55 38 0 = (σ 38 0) from (f58 0 (by decide))))
     rcases h55 with h65 | h66
     · obtain ⟨q69, k67, k68⟩ := h65
       have q69 := q69.symm
       subst q69
       refine lv_pop hx hb dL_law_1009 rfl ?_
       refine lv_aload_n hx hb dL_law_1010 rfl (lv_at hl 1 rfl) ?_
       refine lv_aload_n hx hb dL_law_1011 rfl (lv_at hl 3 rfl) ?_
       refine lv_iload_n hx hb dL_law_1012 rfl (lv_at hl 0 rfl) ?_
       refine lv_iconst (v := 1) hx hb dL_law_1013 (by decide) ?_
       refine lv_iadd hx hb dL_law_1014 ?_
       refine jtopr ex49.symm ?_
       exact by
        refine va_sld hx hb hX hbl hbA hS (jin tx49 (by omega) (by omega)) dL_law_1015 ?_
        refine lv_aload_n hx hb dL_law_1016 rfl (lv_at hl 3 rfl) ?_
        refine lv_iload_n hx hb dL_law_1017 rfl (lv_at hl 0 rfl) ?_
        refine lv_iconst (v := 2) hx hb dL_law_1018 (by decide) ?_
        refine lv_iadd hx hb dL_law_1019 ?_
        refine jtopr ex51.symm ?_
        refine va_sld hx hb hX hbl hbA hS (jin tx51 (by omega) (by omega)) dL_law_1020 ?_
        refine lv_aload_n hx hb dL_law_1021 rfl (lv_at hl 3 rfl) ?_
        refine lv_iload_n hx hb dL_law_1022 rfl (lv_at hl 0 rfl) ?_
        exact by
         refine lv_iconst (v := 3) hx hb dL_law_1023 (by decide) ?_
         refine lv_iadd hx hb dL_law_1024 ?_
         refine jtopr ex53.symm ?_
         refine va_sld hx hb hX hbl hbA hS (jin tx53 (by omega) (by omega)) dL_law_1025 ?_
         have I70 : jI106 σ55 := jI106_fr (congrFun (f57 55 (by decide)) 32) (f57 70 (by decide)) (f57 71 (by decide)) (f57 72 (by decide)) hI106
         have z71 : (σ55 55 32).toInt = (σ 55 32).toInt := (congrArg Int32.toInt (show σ55 55 32 = (σ 55 32) from (congrFun (f57 55 (by decide)) 32)))
         refine jcallV (As := [.int (xs x49.toNatClampNeg), .int (xs x51.toNatClampNeg), .int (xs x53.toNatClampNeg)]) (rest := []) ⟨hx, hb, hml, hown, hts⟩ hK hP hA hS hZ (c_X12_act l D cI cL ad zz hJ σ55 τ (xs x49.toNatClampNeg) ((xs x49.toNatClampNeg).toInt) rfl (xs x51.toNatClampNeg) ((xs x51.toNatClampNeg).toInt) rfl (xs x53.toNatClampNeg) ((xs x53.toNatClampNeg).toInt) rfl I70) cw_RL_132 (jc_55 cI cL ad σ55 τ) rfl ⟨Nat.le_of_ble_eq_true rfl, Nat.le_of_ble_eq_true rfl⟩ rfl rfl rfl hl.1 rfl (Nat.le_of_ble_eq_true rfl) dL_law_1026 ⟨Nat.le_of_ble_eq_true rfl, Nat.le_of_ble_eq_true rfl⟩ (fun r73 σ72 τ72 H locs h72 hP hS => ?_)
         obtain ⟨rfl, f74, f75, h72⟩ := h72
         rcases h72 with h77 | h78
         · exact by
            obtain ⟨q81, k79, k80⟩ := h77
            have q81 := q81.symm
            subst q81
            refine lv_pop hx hb dL_law_1029 rfl ?_
            refine lv_goto (tgt := 1357) hx hb dL_law_1030 (by decide) ?_
            obtain ⟨x82, ex82⟩ : ∃ y : Int32, y = x0 + 6 := ⟨_, rfl⟩
            have tx82 : x82.toInt = x0.toInt + 6 := (jadd ex82 rfl jz_6 (by omega) (by omega)).trans (by omega)
            refine lv_iinc (v := x82) (lv' := [(3, .int x82), (2, .ref (ad 55)), (1, .ref (ad 0)), (0, .ref b)]) hx hb dL_law_1357 hl (k := 0) rfl (by rw [ex82]; rfl) (by decide) rfl (fun ls hl => ?_)
            refine lv_goto (tgt := 18) hx hb dL_law_1360 (by decide) ?_
            exact by
             have I83 : jI2 σ72 := jI2_fr ((congrFun (f74 2 (by decide)) 0).trans (congrFun (f57 2 (by decide)) 0)) ((congrFun (f74 2 (by decide)) 1).trans (congrFun (f57 2 (by decide)) 1)) ((congrFun (f74 2 (by decide)) 2).trans (congrFun (f57 2 (by decide)) 2)) ((congrFun (f74 2 (by decide)) 3).trans (congrFun (f57 2 (by decide)) 3)) ((f74 6 (by decide)).trans (f57 6 (by decide))) ((f74 5 (by decide)).trans (f57 5 (by decide))) hI2
             have I84 : jI9 σ72 := jI9_fr ((congrFun (f74 9 (by decide)) 0).trans (congrFun (f57 9 (by decide)) 0)) ((f74 10 (by decide)).trans (f57 10 (by decide))) ((f74 11 (by decide)).trans (f57 11 (by decide))) hI9
             have I85 : jI12 σ72 := jI12_fr ((congrFun (f74 12 (by decide)) 0).trans (congrFun (f57 12 (by decide)) 0)) ((f74 13 (by decide)).trans (f57 13 (by decide))) hI12
             have I86 : jI16 σ72 := jI16_fr ((congrFun (f74 16 (by decide)) 0).trans (congrFun (f57 16 (by decide)) 0)) ((congrFun (f74 16 (by decide)) 1).trans (congrFun (f57 16 (by decide)) 1)) ((congrFun (f74 16 (by decide)) 2).trans (congrFun (f57 16 (by decide)) 2)) ((f74 17 (by decide)).trans (f57 17 (by decide))) hI16
             have I87 : jI18 σ72 := jI18_fr ((congrFun (f74 18 (by decide)) 0).trans (congrFun (f57 18 (by decide)) 0)) ((f74 19 (by decide)).trans (f57 19 (by decide))) hI18
             have I88 : jI22 σ72 := jI22_fr ((congrFun (f74 22 (by decide)) 0).trans (congrFun (f57 22 (by decide)) 0)) ((f74 23 (by decide)).trans (f57 23 (by decide))) hI22
             have I89 : jI31 σ72 := jI31_fr ((congrFun (f74 31 (by decide)) 8).trans (congrFun (f57 31 (by decide)) 8)) ((congrFun (f74 31 (by decide)) 10).trans (congrFun (f57 31 (by decide)) 10)) ((congrFun (f74 31 (by decide)) 11).trans (congrFun (f57 31 (by decide)) 11)) ((f74 33 (by decide)).trans (f57 33 (by decide))) ((f74 35 (by decide)).trans (f57 35 (by decide))) ((f74 36 (by decide)).trans (f57 36 (by decide))) hI31
             have I90 : jI38 σ72 := jI38_fr (congrFun (f74 38 (by decide)) 0) (congrFun (f74 38 (by decide)) 1) (f74 39 (by decide)) I59
             have I91 : jI43 σ72 := jI43_fr ((congrFun (f74 43 (by decide)) 8).trans (congrFun (f57 43 (by decide)) 8)) hI43
             have I92 : jI47 σ72 := jI47_fr ((congrFun (f74 47 (by decide)) 0).trans (congrFun (f57 47 (by decide)) 0)) ((f74 48 (by decide)).trans (f57 48 (by decide))) ((f74 49 (by decide)).trans (f57 49 (by decide))) hI47
             have I93 : jI50 σ72 := jI50_fr ((f74 52 (by decide)).trans (f57 52 (by decide))) hI50
             have I94 : jI0 σ72 := jI0_fr ((f74 1 (by decide)).trans (f57 1 (by decide))) hI0
             have I95 : jI26 σ72 := jI26_fr ((congrFun (f74 26 (by decide)) 6).trans (congrFun (f57 26 (by decide)) 6)) hI26
             have I96 : jI101 σ72 := jI101_fr ((f75 4 (by decide)).trans (congrFun (f57 55 (by decide)) 4)) ((f75 5 (by decide)).trans (congrFun (f57 55 (by decide)) 5)) ((f74 56 (by decide)).trans (f57 56 (by decide))) ((f74 57 (by decide)).trans (f57 57 (by decide))) ((f74 58 (by decide)).trans (f57 58 (by decide))) ((f74 59 (by decide)).trans (f57 59 (by decide))) hI101
             have I97 : jI102 σ72 := jI102_fr ((f75 6 (by decide)).trans (congrFun (f57 55 (by decide)) 6)) ((f74 60 (by decide)).trans (f57 60 (by decide))) ((f74 61 (by decide)).trans (f57 61 (by decide))) hI102
             have I98 : jI103 σ72 := jI103_fr ((f75 9 (by decide)).trans (congrFun (f57 55 (by decide)) 9)) hI103
             have I99 : jI104 σ72 := jI104_fr ((f75 10 (by decide)).trans (congrFun (f57 55 (by decide)) 10)) ((f75 12 (by decide)).trans (congrFun (f57 55 (by decide)) 12)) ((f75 13 (by decide)).trans (congrFun (f57 55 (by decide)) 13)) ((f74 62 (by decide)).trans (f57 62 (by decide))) ((f74 67 (by decide)).trans (f57 67 (by decide))) hI104
             have I100 : jI105 σ72 := jI105_fr ((f75 15 (by decide)).trans (congrFun (f57 55 (by decide)) 15)) ((f74 65 (by decide)).trans (f57 65 (by decide))) hI105
             have I101 : jI106 σ72 := jI106_fr (f75 32 (by decide)) (f74 70 (by decide)) (f74 71 (by decide)) (f74 72 (by decide)) I70
             have I102 : jI107 σ72 := jI107_fr ((f75 12 (by decide)).trans (congrFun (f57 55 (by decide)) 12)) ((f75 47 (by decide)).trans (congrFun (f57 55 (by decide)) 47)) ((f74 80 (by decide)).trans (f57 80 (by decide))) hI107
             have I103 : jI109 σ72 := jI109_fr ((f75 50 (by decide)).trans (congrFun (f57 55 (by decide)) 50)) hI109
             have I104 : jI110 σ72 := jI110_fr ((f74 86 (by decide)).trans (f57 86 (by decide))) ((f74 87 (by decide)).trans (f57 87 (by decide))) hI110
             have I105 : jI111 σ72 := jI111_fr ((f74 79 (by decide)).trans (f57 79 (by decide))) hI111
             have I106 : jI119 σ72 := jI119_fr ((f74 68 (by decide)).trans (f57 68 (by decide))) hI119
             have p107 : jKept σ72 := jKept.fr ((f74 75 (by decide)).trans (f57 75 (by decide))) ((f74 76 (by decide)).trans (f57 76 (by decide))) ((f74 77 (by decide)).trans (f57 77 (by decide))) hs_jKept
             have p108 : jBook σ72 := jBook.fr ((f75 47 (by decide)).trans (congrFun (f57 55 (by decide)) 47)) ((f75 10 (by decide)).trans (congrFun (f57 55 (by decide)) 10)) ((f74 81 (by decide)).trans (f57 81 (by decide))) hs_jBook
             have p109 : jNd12 σ72 := jNd12.fr ((congrFun (f74 12 (by decide)) 0).trans (congrFun (f57 12 (by decide)) 0)) ((congrFun (f74 12 (by decide)) 1).trans (congrFun (f57 12 (by decide)) 1)) ((f74 13 (by decide)).trans (f57 13 (by decide))) hs_jNd12
             have p110 : jN67 σ72 := jN67.fr ((f74 24 (by decide)).trans (f57 24 (by decide))) hs_jN67
             have p111 : jBl σ72 := jBl.fr ((congrFun (f74 22 (by decide)) 0).trans (congrFun (f57 22 (by decide)) 0)) ((congrFun (f74 22 (by decide)) 1).trans (congrFun (f57 22 (by decide)) 1)) ((f74 23 (by decide)).trans (f57 23 (by decide))) ((congrFun (f74 26 (by decide)) 6).trans (congrFun (f57 26 (by decide)) 6)) ((congrFun (f74 26 (by decide)) 7).trans (congrFun (f57 26 (by decide)) 7)) ((f74 29 (by decide)).trans (f57 29 (by decide))) ((f74 30 (by decide)).trans (f57 30 (by decide))) hs_jBl
             have p112 : jKb σ72 := jKb.fr ((congrFun (f74 31 (by decide)) 8).trans (congrFun (f57 31 (by decide)) 8)) ((congrFun (f74 31 (by decide)) 11).trans (congrFun (f57 31 (by decide)) 11)) ((f74 32 (by decide)).trans (f57 32 (by decide))) hs_jKb
             have p113 : jTR σ72 := jTR.fr ((f74 64 (by decide)).trans (f57 64 (by decide))) ((f74 65 (by decide)).trans (f57 65 (by decide))) hs_jTR
             have p114 : jKh σ72 := jKh.fr ((congrFun (f74 31 (by decide)) 8).trans (congrFun (f57 31 (by decide)) 8)) ((f74 32 (by decide)).trans (f57 32 (by decide))) ((f74 36 (by decide)).trans (f57 36 (by decide))) ((f74 37 (by decide)).trans (f57 37 (by decide))) hs_jKh
             have p115 : jKg σ72 := jKg.fr ((congrFun (f74 31 (by decide)) 8).trans (congrFun (f57 31 (by decide)) 8)) ((congrFun (f74 31 (by decide)) 9).trans (congrFun (f57 31 (by decide)) 9)) ((congrFun (f74 31 (by decide)) 11).trans (congrFun (f57 31 (by decide)) 11)) ((congrFun (f74 31 (by decide)) 12).trans (congrFun (f57 31 (by decide)) 12)) ((f74 32 (by decide)).trans (f57 32 (by decide))) ((f74 33 (by decide)).trans (f57 33 (by decide))) hs_jKg
             have p116 : jNz σ72 := jNz.fr ((f74 34 (by decide)).trans (f57 34 (by decide))) hs_jNz
             have p117 : jqSt σ72 := jqSt.fr ((f74 78 (by decide)).trans (f57 78 (by decide))) ((f75 42 (by decide)).trans (congrFun (f57 55 (by decide)) 42)) hs_jqSt
             have z118 : (σ72 2 0).toInt = (σ 2 0).toInt := (congrArg Int32.toInt (show σ72 2 0 = (σ 2 0) from ((congrFun (f74 2 (by decide)) 0).trans (congrFun (f57 2 (by decide)) 0))))
             have z119 : (σ72 55 6).toInt = (σ 55 6).toInt := (congrArg Int32.toInt (show σ72 55 6 = (σ 55 6) from ((f75 6 (by decide)).trans (congrFun (f57 55 (by decide)) 6))))
             have z120 : (σ72 2 2).toInt = (σ 2 2).toInt := (congrArg Int32.toInt (show σ72 2 2 = (σ 2 2) from ((congrFun (f74 2 (by decide)) 2).trans (congrFun (f57 2 (by decide)) 2))))
             have z121 : (σ72 55 5).toInt = (σ 55 5).toInt := (congrArg Int32.toInt (show σ72 55 5 = (σ 55 5) from ((f75 5 (by decide)).trans (congrFun (f57 55 (by decide)) 5))))
             have z122 : (σ72 2 3).toInt = (σ 2 3).toInt := (congrArg Int32.toInt (show σ72 2 3 = (σ 2 3) from ((congrFun (f74 2 (by decide)) 3).trans (congrFun (f57 2 (by decide)) 3))))
             have z123 : (σ72 55 4).toInt = (σ 55 4).toInt := (congrArg Int32.toInt (show σ72 55 4 = (σ 55 4) from ((f75 4 (by decide)).trans (congrFun (f57 55 (by decide)) 4))))
             have z124 : (σ72 9 0).toInt = (σ 9 0).toInt := (congrArg Int32.toInt (show σ72 9 0 = (σ 9 0) from ((congrFun (f74 9 (by decide)) 0).trans (congrFun (f57 9 (by decide)) 0))))
             have z125 : (σ72 55 15).toInt = (σ 55 15).toInt := (congrArg Int32.toInt (show σ72 55 15 = (σ 55 15) from ((f75 15 (by decide)).trans (congrFun (f57 55 (by decide)) 15))))
             have z126 : (σ72 16 0).toInt = (σ 16 0).toInt := (congrArg Int32.toInt (show σ72 16 0 = (σ 16 0) from ((congrFun (f74 16 (by decide)) 0).trans (congrFun (f57 16 (by decide)) 0))))
             have z127 : (σ72 55 10).toInt = (σ 55 10).toInt := (congrArg Int32.toInt (show σ72 55 10 = (σ 55 10) from ((f75 10 (by decide)).trans (congrFun (f57 55 (by decide)) 10))))
             have z128 : (σ72 16 1).toInt = (σ 16 1).toInt := (congrArg Int32.toInt (show σ72 16 1 = (σ 16 1) from ((congrFun (f74 16 (by decide)) 1).trans (congrFun (f57 16 (by decide)) 1))))
             have z129 : (σ72 55 12).toInt = (σ 55 12).toInt := (congrArg Int32.toInt (show σ72 55 12 = (σ 55 12) from ((f75 12 (by decide)).trans (congrFun (f57 55 (by decide)) 12))))
             have z130 : (σ72 16 2).toInt = (σ 16 2).toInt := (congrArg Int32.toInt (show σ72 16 2 = (σ 16 2) from ((congrFun (f74 16 (by decide)) 2).trans (congrFun (f57 16 (by decide)) 2))))
             have z131 : (σ72 55 13).toInt = (σ 55 13).toInt := (congrArg Int32.toInt (show σ72 55 13 = (σ 55 13) from ((f75 13 (by decide)).trans (congrFun (f57 55 (by decide)) 13))))
             have z132 : (σ72 38 0).toInt = (σ 38 0).toInt := (congrArg Int32.toInt (show σ72 38 0 = (σ 38 0) from ((congrFun (f74 38 (by decide)) 0).trans (f58 0 (by decide)))))
             have z133 : (σ72 55 32).toInt = (σ 55 32).toInt := (congrArg Int32.toInt (show σ72 55 32 = (σ 55 32) from ((f75 32 (by decide)).trans (congrFun (f57 55 (by decide)) 32))))
             have z134 : (σ72 38 1).toInt = (σ55 38 1).toInt := (congrArg Int32.toInt (show σ72 38 1 = (σ55 38 1) from (congrFun (f74 38 (by decide)) 1)))
             have z135 : (σ72 47 0).toInt = (σ 47 0).toInt := (congrArg Int32.toInt (show σ72 47 0 = (σ 47 0) from ((congrFun (f74 47 (by decide)) 0).trans (congrFun (f57 47 (by decide)) 0))))
             have z136 : (σ72 55 47).toInt = (σ 55 47).toInt := (congrArg Int32.toInt (show σ72 55 47 = (σ 55 47) from ((f75 47 (by decide)).trans (congrFun (f57 55 (by decide)) 47))))
             have z137 : (σ72 55 30).toInt = (σ 55 30).toInt := (congrArg Int32.toInt (show σ72 55 30 = (σ 55 30) from ((f75 30 (by decide)).trans (congrFun (f57 55 (by decide)) 30))))
             have z138 : (σ72 55 31).toInt = (σ 55 31).toInt := (congrArg Int32.toInt (show σ72 55 31 = (σ 55 31) from ((f75 31 (by decide)).trans (congrFun (f57 55 (by decide)) 31))))
             have z139 : (σ72 2 1).toInt = (σ 2 1).toInt := (congrArg Int32.toInt (show σ72 2 1 = (σ 2 1) from ((congrFun (f74 2 (by decide)) 1).trans (congrFun (f57 2 (by decide)) 1))))
             have z140 : (σ72 55 9).toInt = (σ 55 9).toInt := (congrArg Int32.toInt (show σ72 55 9 = (σ 55 9) from ((f75 9 (by decide)).trans (congrFun (f57 55 (by decide)) 9))))
             have z141 : (σ72 55 42).toInt = (σ 55 42).toInt := (congrArg Int32.toInt (show σ72 55 42 = (σ 55 42) from ((f75 42 (by decide)).trans (congrFun (f57 55 (by decide)) 42))))
             have z142 : (σ72 26 6).toInt = (σ 26 6).toInt := (congrArg Int32.toInt (show σ72 26 6 = (σ 26 6) from ((congrFun (f74 26 (by decide)) 6).trans (congrFun (f57 26 (by decide)) 6))))
             have z144 : (σ72 18 0).toInt = (σ 18 0).toInt := (congrArg Int32.toInt (show σ72 18 0 = (σ 18 0) from ((congrFun (f74 18 (by decide)) 0).trans (congrFun (f57 18 (by decide)) 0))))
             have z145 : (σ72 22 0).toInt = (σ 22 0).toInt := (congrArg Int32.toInt (show σ72 22 0 = (σ 22 0) from ((congrFun (f74 22 (by decide)) 0).trans (congrFun (f57 22 (by decide)) 0))))
             exact by exact ih x82 σ72 τ _ _ ls (by have h9 := tx82; omega) ⟨I83, I84, I85, I86, I87, I88, I89, I90, I91, I92, I93, I94, I95, I96, I97, I98, I99, I100, I101, I102, I103, I104, I105, I106, p107, p108, p109, p110, p111, p112, p113, p114, p115, p116, p117, (by rw [z118, z119]; exact ht0), (by rw [z120, z121]; exact ht1), (by rw [z120, z122, z123]; exact ht2), (by rw [z124, z125]; exact ht3), (by rw [z126, z127]; exact ht4), (by rw [z128, z129]; exact ht5), (by rw [z130, z131]; exact ht6), (by rw [z132, z133]; exact ht7), (by omega), (by rw [z135, z136]; exact ht9), (by rw [z137]; exact ht10), (by rw [z138]; exact ht11), (by rw [z139, z140]; exact ht12), (by rw [z141]; exact ht13), (by have h9 := tx82; omega), (by have h9 := tx82; omega), (show jNumP (σ72 3) (σ72 56) (σ72 6) (σ72 57) (σ72 7) (σ72 58) (σ72 8) (σ72 59) (σ72 55 6).toInt (σ72 55 4).toInt by rw [show σ72 3 = σ 3 from ((f74 3 (by decide)).trans (f57 3 (by decide))), show σ72 56 = σ 56 from ((f74 56 (by decide)).trans (f57 56 (by decide))), show σ72 6 = σ 6 from ((f74 6 (by decide)).trans (f57 6 (by decide))), show σ72 57 = σ 57 from ((f74 57 (by decide)).trans (f57 57 (by decide))), show σ72 7 = σ 7 from ((f74 7 (by decide)).trans (f57 7 (by decide))), show σ72 58 = σ 58 from ((f74 58 (by decide)).trans (f57 58 (by decide))), show σ72 8 = σ 8 from ((f74 8 (by decide)).trans (f57 8 (by decide))), show σ72 59 = σ 59 from ((f74 59 (by decide)).trans (f57 59 (by decide))), show (σ72 55 6).toInt = (σ 55 6).toInt from z119, show (σ72 55 4).toInt = (σ 55 4).toInt from z123]; exact hr0), (show jOvP (σ72 56) (σ72 57) (σ72 58) (σ72 59) (σ72 55 4).toInt by rw [show σ72 56 = σ 56 from ((f74 56 (by decide)).trans (f57 56 (by decide))), show σ72 57 = σ 57 from ((f74 57 (by decide)).trans (f57 57 (by decide))), show σ72 58 = σ 58 from ((f74 58 (by decide)).trans (f57 58 (by decide))), show σ72 59 = σ 59 from ((f74 59 (by decide)).trans (f57 59 (by decide))), show (σ72 55 4).toInt = (σ 55 4).toInt from z123]; exact hr1), (show jTp (σ72 10) (σ72 63) (σ72 55 15).toInt by rw [show σ72 10 = σ 10 from ((f74 10 (by decide)).trans (f57 10 (by decide))), show σ72 63 = σ 63 from ((f74 63 (by decide)).trans (f57 63 (by decide)))]; exact hr2.le (by omega)), (show jSo (σ72 17) (σ72 62) (σ72 16 0).toInt by rw [show σ72 17 = σ 17 from ((f74 17 (by decide)).trans (f57 17 (by decide))), show σ72 62 = σ 62 from ((f74 62 (by decide)).trans (f57 62 (by decide))), show (σ72 16 0).toInt = (σ 16 0).toInt from z126]; exact hr3), (show jShP (σ72 51) (σ72 52) (σ72 53) (σ72 86) (σ72 87) (σ72 55 32).toInt by rw [show σ72 51 = σ 51 from ((f74 51 (by decide)).trans (f57 51 (by decide))), show σ72 52 = σ 52 from ((f74 52 (by decide)).trans (f57 52 (by decide))), show σ72 53 = σ 53 from ((f74 53 (by decide)).trans (f57 53 (by decide))), show σ72 86 = σ 86 from ((f74 86 (by decide)).trans (f57 86 (by decide))), show σ72 87 = σ 87 from ((f74 87 (by decide)).trans (f57 87 (by decide)))]; exact (hr4.up (by omega) (by omega))), (show jEl (σ72 51) (σ72 52) (τ 54) (τ 88) by rw [show σ72 51 = σ 51 from ((f74 51 (by decide)).trans (f57 51 (by decide))), show σ72 52 = σ 52 from ((f74 52 (by decide)).trans (f57 52 (by decide)))]; exact hr5), (show jByP (σ72 51) (σ72 52) (τ 54) by rw [show σ72 51 = σ 51 from ((f74 51 (by decide)).trans (f57 51 (by decide))), show σ72 52 = σ 52 from ((f74 52 (by decide)).trans (f57 52 (by decide)))]; exact hr6), (show jBk (σ72 48) (σ72 80) (σ72 49) (σ72 81) (σ72 55 47).toInt by rw [show σ72 48 = σ 48 from ((f74 48 (by decide)).trans (f57 48 (by decide))), show σ72 49 = σ 49 from ((f74 49 (by decide)).trans (f57 49 (by decide))), show σ72 80 = σ 80 from ((f74 80 (by decide)).trans (f57 80 (by decide))), show σ72 81 = σ 81 from ((f74 81 (by decide)).trans (f57 81 (by decide))), show (σ72 55 47).toInt = (σ 55 47).toInt from z136]; exact hr7), (show jKd (σ72 39) (σ72 70) (σ72 55 32).toInt by rw [show σ72 39 = σ 39 from ((f74 39 (by decide)).trans (f57 39 (by decide))), show σ72 70 = σ 70 from ((f74 70 (by decide)).trans (f57 70 (by decide))), show (σ72 55 32).toInt = (σ 55 32).toInt from z133]; exact hr8), (jTt.nil (by omega)), (fun k hk => by rw [show σ72 4 = σ 4 from ((f74 4 (by decide)).trans (f57 4 (by decide))), show σ72 5 = σ 5 from ((f74 5 (by decide)).trans (f57 5 (by decide))), show σ72 60 = σ 60 from ((f74 60 (by decide)).trans (f57 60 (by decide))), show σ72 61 = σ 61 from ((f74 61 (by decide)).trans (f57 61 (by decide)))]; exact hr10 k (by omega)), (fun nm => by rw [show σ72 19 = σ 19 from ((f74 19 (by decide)).trans (f57 19 (by decide))), show σ72 64 = σ 64 from ((f74 64 (by decide)).trans (f57 64 (by decide))), show σ72 65 = σ 65 from ((f74 65 (by decide)).trans (f57 65 (by decide))), show (σ72 18 0).toInt = (σ 18 0).toInt from z144]; exact hr11 nm), (fun nm => by rw [show σ72 23 = σ 23 from ((f74 23 (by decide)).trans (f57 23 (by decide))), show σ72 64 = σ 64 from ((f74 64 (by decide)).trans (f57 64 (by decide))), show σ72 65 = σ 65 from ((f74 65 (by decide)).trans (f57 65 (by decide))), show (σ72 22 0).toInt = (σ 22 0).toInt from z145]; exact hr12 nm), (show jAlP (σ72 56) (σ72 57) (σ72 58) (σ72 59) (σ72 55 4).toInt by rw [show σ72 56 = σ 56 from ((f74 56 (by decide)).trans (f57 56 (by decide))), show σ72 57 = σ 57 from ((f74 57 (by decide)).trans (f57 57 (by decide))), show σ72 58 = σ 58 from ((f74 58 (by decide)).trans (f57 58 (by decide))), show σ72 59 = σ 59 from ((f74 59 (by decide)).trans (f57 59 (by decide))), show (σ72 55 4).toInt = (σ 55 4).toInt from z123]; exact hr13), (show jqbN (σ72 80) (σ72 55 47).toInt by rw [show σ72 80 = σ 80 from ((f74 80 (by decide)).trans (f57 80 (by decide))), show (σ72 55 47).toInt = (σ 55 47).toInt from z136]; exact hr14)⟩ hP hS (lv_sub hl [0, 1, 2, 3] rfl)
         · obtain ⟨q150, k146, k147, k148, k149⟩ := h78
           exact absurd (by omega : False) id
     · obtain ⟨q155, k151, k152, k153, k154⟩ := h66
       refine lv_pop hx hb dL_law_1009 rfl ?_
       refine lv_aload_n hx hb dL_law_1010 rfl (lv_at hl 1 rfl) ?_
       refine lv_aload_n hx hb dL_law_1011 rfl (lv_at hl 3 rfl) ?_
       refine lv_iload_n hx hb dL_law_1012 rfl (lv_at hl 0 rfl) ?_
       refine lv_iconst (v := 1) hx hb dL_law_1013 (by decide) ?_
       refine lv_iadd hx hb dL_law_1014 ?_
       refine jtopr ex49.symm ?_
       exact by
        refine va_sld hx hb hX hbl hbA hS (jin tx49 (by omega) (by omega)) dL_law_1015 ?_
        refine lv_aload_n hx hb dL_law_1016 rfl (lv_at hl 3 rfl) ?_
        refine lv_iload_n hx hb dL_law_1017 rfl (lv_at hl 0 rfl) ?_
        refine lv_iconst (v := 2) hx hb dL_law_1018 (by decide) ?_
        refine lv_iadd hx hb dL_law_1019 ?_
        refine jtopr ex51.symm ?_
        refine va_sld hx hb hX hbl hbA hS (jin tx51 (by omega) (by omega)) dL_law_1020 ?_
        refine lv_aload_n hx hb dL_law_1021 rfl (lv_at hl 3 rfl) ?_
        refine lv_iload_n hx hb dL_law_1022 rfl (lv_at hl 0 rfl) ?_
        exact by
         refine lv_iconst (v := 3) hx hb dL_law_1023 (by decide) ?_
         refine lv_iadd hx hb dL_law_1024 ?_
         refine jtopr ex53.symm ?_
         refine va_sld hx hb hX hbl hbA hS (jin tx53 (by omega) (by omega)) dL_law_1025 ?_
         have I156 : jI106 σ55 := jI106_fr (congrFun (f57 55 (by decide)) 32) (f57 70 (by decide)) (f57 71 (by decide)) (f57 72 (by decide)) hI106
         have z157 : (σ55 55 32).toInt = (σ 55 32).toInt := (congrArg Int32.toInt (show σ55 55 32 = (σ 55 32) from (congrFun (f57 55 (by decide)) 32)))
         refine jcallV (As := [.int (xs x49.toNatClampNeg), .int (xs x51.toNatClampNeg), .int (xs x53.toNatClampNeg)]) (rest := []) ⟨hx, hb, hml, hown, hts⟩ hK hP hA hS hZ (c_X12_act l D cI cL ad zz hJ σ55 τ (xs x49.toNatClampNeg) ((xs x49.toNatClampNeg).toInt) rfl (xs x51.toNatClampNeg) ((xs x51.toNatClampNeg).toInt) rfl (xs x53.toNatClampNeg) ((xs x53.toNatClampNeg).toInt) rfl I156) cw_RL_132 (jc_55 cI cL ad σ55 τ) rfl ⟨Nat.le_of_ble_eq_true rfl, Nat.le_of_ble_eq_true rfl⟩ rfl rfl rfl hl.1 rfl (Nat.le_of_ble_eq_true rfl) dL_law_1026 ⟨Nat.le_of_ble_eq_true rfl, Nat.le_of_ble_eq_true rfl⟩ (fun r159 σ158 τ158 H locs h158 hP hS => ?_)
         obtain ⟨rfl, f160, f161, h158⟩ := h158
         rcases h158 with h163 | h164
         · exact by
            obtain ⟨q167, k165, k166⟩ := h163
            exact absurd (by omega : False) id
         · obtain ⟨q172, k168, k169, k170, k171⟩ := h164
           rw [show σ55 70 = σ 70 from (f57 70 (by decide))] at k171
           have k173 : σ 39 (xs x49.toNatClampNeg).toNatClampNeg = σ 70 (xs x49.toNatClampNeg).toNatClampNeg := hr8 _ (by rw [jnc (rfl : (xs x49.toNatClampNeg).toInt = (xs x49.toNatClampNeg).toInt)]; omega)
           rw [k173] at k154
           have p174 := k154.2.tt k171.2
           have k175 := p174.2
           refine lv_pop hx hb dL_law_1029 rfl ?_
           exact by
            refine lv_goto (tgt := 1357) hx hb dL_law_1030 (by decide) ?_
            obtain ⟨x176, ex176⟩ : ∃ y : Int32, y = x0 + 6 := ⟨_, rfl⟩
            have tx176 : x176.toInt = x0.toInt + 6 := (jadd ex176 rfl jz_6 (by omega) (by omega)).trans (by omega)
            refine lv_iinc (v := x176) (lv' := [(3, .int x176), (2, .ref (ad 55)), (1, .ref (ad 0)), (0, .ref b)]) hx hb dL_law_1357 hl (k := 0) rfl (by rw [ex176]; rfl) (by decide) rfl (fun ls hl => ?_)
            refine lv_goto (tgt := 18) hx hb dL_law_1360 (by decide) ?_
            have I177 : jI2 σ158 := jI2_fr ((congrFun (f160 2 (by decide)) 0).trans (congrFun (f57 2 (by decide)) 0)) ((congrFun (f160 2 (by decide)) 1).trans (congrFun (f57 2 (by decide)) 1)) ((congrFun (f160 2 (by decide)) 2).trans (congrFun (f57 2 (by decide)) 2)) ((congrFun (f160 2 (by decide)) 3).trans (congrFun (f57 2 (by decide)) 3)) ((f160 6 (by decide)).trans (f57 6 (by decide))) ((f160 5 (by decide)).trans (f57 5 (by decide))) hI2
            have I178 : jI9 σ158 := jI9_fr ((congrFun (f160 9 (by decide)) 0).trans (congrFun (f57 9 (by decide)) 0)) ((f160 10 (by decide)).trans (f57 10 (by decide))) ((f160 11 (by decide)).trans (f57 11 (by decide))) hI9
            have I179 : jI12 σ158 := jI12_fr ((congrFun (f160 12 (by decide)) 0).trans (congrFun (f57 12 (by decide)) 0)) ((f160 13 (by decide)).trans (f57 13 (by decide))) hI12
            have I180 : jI16 σ158 := jI16_fr ((congrFun (f160 16 (by decide)) 0).trans (congrFun (f57 16 (by decide)) 0)) ((congrFun (f160 16 (by decide)) 1).trans (congrFun (f57 16 (by decide)) 1)) ((congrFun (f160 16 (by decide)) 2).trans (congrFun (f57 16 (by decide)) 2)) ((f160 17 (by decide)).trans (f57 17 (by decide))) hI16
            exact by
             have I181 : jI18 σ158 := jI18_fr ((congrFun (f160 18 (by decide)) 0).trans (congrFun (f57 18 (by decide)) 0)) ((f160 19 (by decide)).trans (f57 19 (by decide))) hI18
             have I182 : jI22 σ158 := jI22_fr ((congrFun (f160 22 (by decide)) 0).trans (congrFun (f57 22 (by decide)) 0)) ((f160 23 (by decide)).trans (f57 23 (by decide))) hI22
             have I183 : jI31 σ158 := jI31_fr ((congrFun (f160 31 (by decide)) 8).trans (congrFun (f57 31 (by decide)) 8)) ((congrFun (f160 31 (by decide)) 10).trans (congrFun (f57 31 (by decide)) 10)) ((congrFun (f160 31 (by decide)) 11).trans (congrFun (f57 31 (by decide)) 11)) ((f160 33 (by decide)).trans (f57 33 (by decide))) ((f160 35 (by decide)).trans (f57 35 (by decide))) ((f160 36 (by decide)).trans (f57 36 (by decide))) hI31
             have I184 : jI38 σ158 := jI38_fr (congrFun (f160 38 (by decide)) 0) (congrFun (f160 38 (by decide)) 1) (f160 39 (by decide)) I59
             have I185 : jI43 σ158 := jI43_fr ((congrFun (f160 43 (by decide)) 8).trans (congrFun (f57 43 (by decide)) 8)) hI43
             have I186 : jI47 σ158 := jI47_fr ((congrFun (f160 47 (by decide)) 0).trans (congrFun (f57 47 (by decide)) 0)) ((f160 48 (by decide)).trans (f57 48 (by decide))) ((f160 49 (by decide)).trans (f57 49 (by decide))) hI47
             have I187 : jI50 σ158 := jI50_fr ((f160 52 (by decide)).trans (f57 52 (by decide))) hI50
             have I188 : jI0 σ158 := jI0_fr ((f160 1 (by decide)).trans (f57 1 (by decide))) hI0
             have I189 : jI26 σ158 := jI26_fr ((congrFun (f160 26 (by decide)) 6).trans (congrFun (f57 26 (by decide)) 6)) hI26
             have I190 : jI101 σ158 := jI101_fr ((f161 4 (by decide)).trans (congrFun (f57 55 (by decide)) 4)) ((f161 5 (by decide)).trans (congrFun (f57 55 (by decide)) 5)) ((f160 56 (by decide)).trans (f57 56 (by decide))) ((f160 57 (by decide)).trans (f57 57 (by decide))) ((f160 58 (by decide)).trans (f57 58 (by decide))) ((f160 59 (by decide)).trans (f57 59 (by decide))) hI101
             have I191 : jI102 σ158 := jI102_fr ((f161 6 (by decide)).trans (congrFun (f57 55 (by decide)) 6)) ((f160 60 (by decide)).trans (f57 60 (by decide))) ((f160 61 (by decide)).trans (f57 61 (by decide))) hI102
             have I192 : jI103 σ158 := jI103_fr ((f161 9 (by decide)).trans (congrFun (f57 55 (by decide)) 9)) hI103
             have I193 : jI104 σ158 := jI104_fr ((f161 10 (by decide)).trans (congrFun (f57 55 (by decide)) 10)) ((f161 12 (by decide)).trans (congrFun (f57 55 (by decide)) 12)) ((f161 13 (by decide)).trans (congrFun (f57 55 (by decide)) 13)) ((f160 62 (by decide)).trans (f57 62 (by decide))) ((f160 67 (by decide)).trans (f57 67 (by decide))) hI104
             have I194 : jI105 σ158 := jI105_fr ((f161 15 (by decide)).trans (congrFun (f57 55 (by decide)) 15)) ((f160 65 (by decide)).trans (f57 65 (by decide))) hI105
             have I195 : jI106 σ158 := jI106_fr (f161 32 (by decide)) (f160 70 (by decide)) (f160 71 (by decide)) (f160 72 (by decide)) I156
             have I196 : jI107 σ158 := jI107_fr ((f161 12 (by decide)).trans (congrFun (f57 55 (by decide)) 12)) ((f161 47 (by decide)).trans (congrFun (f57 55 (by decide)) 47)) ((f160 80 (by decide)).trans (f57 80 (by decide))) hI107
             have I197 : jI109 σ158 := jI109_fr ((f161 50 (by decide)).trans (congrFun (f57 55 (by decide)) 50)) hI109
             have I198 : jI110 σ158 := jI110_fr ((f160 86 (by decide)).trans (f57 86 (by decide))) ((f160 87 (by decide)).trans (f57 87 (by decide))) hI110
             have I199 : jI111 σ158 := jI111_fr ((f160 79 (by decide)).trans (f57 79 (by decide))) hI111
             have I200 : jI119 σ158 := jI119_fr ((f160 68 (by decide)).trans (f57 68 (by decide))) hI119
             have p201 : jKept σ158 := jKept.fr ((f160 75 (by decide)).trans (f57 75 (by decide))) ((f160 76 (by decide)).trans (f57 76 (by decide))) ((f160 77 (by decide)).trans (f57 77 (by decide))) hs_jKept
             have p202 : jBook σ158 := jBook.fr ((f161 47 (by decide)).trans (congrFun (f57 55 (by decide)) 47)) ((f161 10 (by decide)).trans (congrFun (f57 55 (by decide)) 10)) ((f160 81 (by decide)).trans (f57 81 (by decide))) hs_jBook
             have p203 : jNd12 σ158 := jNd12.fr ((congrFun (f160 12 (by decide)) 0).trans (congrFun (f57 12 (by decide)) 0)) ((congrFun (f160 12 (by decide)) 1).trans (congrFun (f57 12 (by decide)) 1)) ((f160 13 (by decide)).trans (f57 13 (by decide))) hs_jNd12
             have p204 : jN67 σ158 := jN67.fr ((f160 24 (by decide)).trans (f57 24 (by decide))) hs_jN67
             have p205 : jBl σ158 := jBl.fr ((congrFun (f160 22 (by decide)) 0).trans (congrFun (f57 22 (by decide)) 0)) ((congrFun (f160 22 (by decide)) 1).trans (congrFun (f57 22 (by decide)) 1)) ((f160 23 (by decide)).trans (f57 23 (by decide))) ((congrFun (f160 26 (by decide)) 6).trans (congrFun (f57 26 (by decide)) 6)) ((congrFun (f160 26 (by decide)) 7).trans (congrFun (f57 26 (by decide)) 7)) ((f160 29 (by decide)).trans (f57 29 (by decide))) ((f160 30 (by decide)).trans (f57 30 (by decide))) hs_jBl
             have p206 : jKb σ158 := jKb.fr ((congrFun (f160 31 (by decide)) 8).trans (congrFun (f57 31 (by decide)) 8)) ((congrFun (f160 31 (by decide)) 11).trans (congrFun (f57 31 (by decide)) 11)) ((f160 32 (by decide)).trans (f57 32 (by decide))) hs_jKb
             have p207 : jTR σ158 := jTR.fr ((f160 64 (by decide)).trans (f57 64 (by decide))) ((f160 65 (by decide)).trans (f57 65 (by decide))) hs_jTR
             have p208 : jKh σ158 := jKh.fr ((congrFun (f160 31 (by decide)) 8).trans (congrFun (f57 31 (by decide)) 8)) ((f160 32 (by decide)).trans (f57 32 (by decide))) ((f160 36 (by decide)).trans (f57 36 (by decide))) ((f160 37 (by decide)).trans (f57 37 (by decide))) hs_jKh
             have p209 : jKg σ158 := jKg.fr ((congrFun (f160 31 (by decide)) 8).trans (congrFun (f57 31 (by decide)) 8)) ((congrFun (f160 31 (by decide)) 9).trans (congrFun (f57 31 (by decide)) 9)) ((congrFun (f160 31 (by decide)) 11).trans (congrFun (f57 31 (by decide)) 11)) ((congrFun (f160 31 (by decide)) 12).trans (congrFun (f57 31 (by decide)) 12)) ((f160 32 (by decide)).trans (f57 32 (by decide))) ((f160 33 (by decide)).trans (f57 33 (by decide))) hs_jKg
             have p210 : jNz σ158 := jNz.fr ((f160 34 (by decide)).trans (f57 34 (by decide))) hs_jNz
             have p211 : jqSt σ158 := jqSt.fr ((f160 78 (by decide)).trans (f57 78 (by decide))) ((f161 42 (by decide)).trans (congrFun (f57 55 (by decide)) 42)) hs_jqSt
             have z212 : (σ158 2 0).toInt = (σ 2 0).toInt := (congrArg Int32.toInt (show σ158 2 0 = (σ 2 0) from ((congrFun (f160 2 (by decide)) 0).trans (congrFun (f57 2 (by decide)) 0))))
             have z213 : (σ158 55 6).toInt = (σ 55 6).toInt := (congrArg Int32.toInt (show σ158 55 6 = (σ 55 6) from ((f161 6 (by decide)).trans (congrFun (f57 55 (by decide)) 6))))
             have z214 : (σ158 2 2).toInt = (σ 2 2).toInt := (congrArg Int32.toInt (show σ158 2 2 = (σ 2 2) from ((congrFun (f160 2 (by decide)) 2).trans (congrFun (f57 2 (by decide)) 2))))
             have z215 : (σ158 55 5).toInt = (σ 55 5).toInt := (congrArg Int32.toInt (show σ158 55 5 = (σ 55 5) from ((f161 5 (by decide)).trans (congrFun (f57 55 (by decide)) 5))))
             have z216 : (σ158 2 3).toInt = (σ 2 3).toInt := (congrArg Int32.toInt (show σ158 2 3 = (σ 2 3) from ((congrFun (f160 2 (by decide)) 3).trans (congrFun (f57 2 (by decide)) 3))))
             have z217 : (σ158 55 4).toInt = (σ 55 4).toInt := (congrArg Int32.toInt (show σ158 55 4 = (σ 55 4) from ((f161 4 (by decide)).trans (congrFun (f57 55 (by decide)) 4))))
             have z218 : (σ158 9 0).toInt = (σ 9 0).toInt := (congrArg Int32.toInt (show σ158 9 0 = (σ 9 0) from ((congrFun (f160 9 (by decide)) 0).trans (congrFun (f57 9 (by decide)) 0))))
             have z219 : (σ158 55 15).toInt = (σ 55 15).toInt := (congrArg Int32.toInt (show σ158 55 15 = (σ 55 15) from ((f161 15 (by decide)).trans (congrFun (f57 55 (by decide)) 15))))
             have z220 : (σ158 16 0).toInt = (σ 16 0).toInt := (congrArg Int32.toInt (show σ158 16 0 = (σ 16 0) from ((congrFun (f160 16 (by decide)) 0).trans (congrFun (f57 16 (by decide)) 0))))
             have z221 : (σ158 55 10).toInt = (σ 55 10).toInt := (congrArg Int32.toInt (show σ158 55 10 = (σ 55 10) from ((f161 10 (by decide)).trans (congrFun (f57 55 (by decide)) 10))))
             have z222 : (σ158 16 1).toInt = (σ 16 1).toInt := (congrArg Int32.toInt (show σ158 16 1 = (σ 16 1) from ((congrFun (f160 16 (by decide)) 1).trans (congrFun (f57 16 (by decide)) 1))))
             have z223 : (σ158 55 12).toInt = (σ 55 12).toInt := (congrArg Int32.toInt (show σ158 55 12 = (σ 55 12) from ((f161 12 (by decide)).trans (congrFun (f57 55 (by decide)) 12))))
             have z224 : (σ158 16 2).toInt = (σ 16 2).toInt := (congrArg Int32.toInt (show σ158 16 2 = (σ 16 2) from ((congrFun (f160 16 (by decide)) 2).trans (congrFun (f57 16 (by decide)) 2))))
             have z225 : (σ158 55 13).toInt = (σ 55 13).toInt := (congrArg Int32.toInt (show σ158 55 13 = (σ 55 13) from ((f161 13 (by decide)).trans (congrFun (f57 55 (by decide)) 13))))
             have z226 : (σ158 38 0).toInt = (σ 38 0).toInt := (congrArg Int32.toInt (show σ158 38 0 = (σ 38 0) from ((congrFun (f160 38 (by decide)) 0).trans (f58 0 (by decide)))))
             have z227 : (σ158 55 32).toInt = (σ 55 32).toInt := (congrArg Int32.toInt (show σ158 55 32 = (σ 55 32) from ((f161 32 (by decide)).trans (congrFun (f57 55 (by decide)) 32))))
             have z228 : (σ158 38 1).toInt = (σ55 38 1).toInt := (congrArg Int32.toInt (show σ158 38 1 = (σ55 38 1) from (congrFun (f160 38 (by decide)) 1)))
             have z229 : (σ158 47 0).toInt = (σ 47 0).toInt := (congrArg Int32.toInt (show σ158 47 0 = (σ 47 0) from ((congrFun (f160 47 (by decide)) 0).trans (congrFun (f57 47 (by decide)) 0))))
             have z230 : (σ158 55 47).toInt = (σ 55 47).toInt := (congrArg Int32.toInt (show σ158 55 47 = (σ 55 47) from ((f161 47 (by decide)).trans (congrFun (f57 55 (by decide)) 47))))
             have z231 : (σ158 55 30).toInt = (σ 55 30).toInt := (congrArg Int32.toInt (show σ158 55 30 = (σ 55 30) from ((f161 30 (by decide)).trans (congrFun (f57 55 (by decide)) 30))))
             have z232 : (σ158 55 31).toInt = (σ 55 31).toInt := (congrArg Int32.toInt (show σ158 55 31 = (σ 55 31) from ((f161 31 (by decide)).trans (congrFun (f57 55 (by decide)) 31))))
             have z233 : (σ158 2 1).toInt = (σ 2 1).toInt := (congrArg Int32.toInt (show σ158 2 1 = (σ 2 1) from ((congrFun (f160 2 (by decide)) 1).trans (congrFun (f57 2 (by decide)) 1))))
             have z234 : (σ158 55 9).toInt = (σ 55 9).toInt := (congrArg Int32.toInt (show σ158 55 9 = (σ 55 9) from ((f161 9 (by decide)).trans (congrFun (f57 55 (by decide)) 9))))
             have z235 : (σ158 55 42).toInt = (σ 55 42).toInt := (congrArg Int32.toInt (show σ158 55 42 = (σ 55 42) from ((f161 42 (by decide)).trans (congrFun (f57 55 (by decide)) 42))))
             have z236 : (σ158 26 6).toInt = (σ 26 6).toInt := (congrArg Int32.toInt (show σ158 26 6 = (σ 26 6) from ((congrFun (f160 26 (by decide)) 6).trans (congrFun (f57 26 (by decide)) 6))))
             have z238 : (σ158 18 0).toInt = (σ 18 0).toInt := (congrArg Int32.toInt (show σ158 18 0 = (σ 18 0) from ((congrFun (f160 18 (by decide)) 0).trans (congrFun (f57 18 (by decide)) 0))))
             have z239 : (σ158 22 0).toInt = (σ 22 0).toInt := (congrArg Int32.toInt (show σ158 22 0 = (σ 22 0) from ((congrFun (f160 22 (by decide)) 0).trans (congrFun (f57 22 (by decide)) 0))))
             exact by exact ih x176 σ158 τ _ _ ls (by have h9 := tx176; omega) ⟨I177, I178, I179, I180, I181, I182, I183, I184, I185, I186, I187, I188, I189, I190, I191, I192, I193, I194, I195, I196, I197, I198, I199, I200, p201, p202, p203, p204, p205, p206, p207, p208, p209, p210, p211, (by rw [z212, z213]; exact ht0), (by rw [z214, z215]; exact ht1), (by rw [z214, z216, z217]; exact ht2), (by rw [z218, z219]; exact ht3), (by rw [z220, z221]; exact ht4), (by rw [z222, z223]; exact ht5), (by rw [z224, z225]; exact ht6), (by rw [z226, z227]; exact ht7), (by omega), (by rw [z229, z230]; exact ht9), (by rw [z231]; exact ht10), (by rw [z232]; exact ht11), (by rw [z233, z234]; exact ht12), (by rw [z235]; exact ht13), (by have h9 := tx176; omega), (by have h9 := tx176; omega), (show jNumP (σ158 3) (σ158 56) (σ158 6) (σ158 57) (σ158 7) (σ158 58) (σ158 8) (σ158 59) (σ158 55 6).toInt (σ158 55 4).toInt by rw [show σ158 3 = σ 3 from ((f160 3 (by decide)).trans (f57 3 (by decide))), show σ158 56 = σ 56 from ((f160 56 (by decide)).trans (f57 56 (by decide))), show σ158 6 = σ 6 from ((f160 6 (by decide)).trans (f57 6 (by decide))), show σ158 57 = σ 57 from ((f160 57 (by decide)).trans (f57 57 (by decide))), show σ158 7 = σ 7 from ((f160 7 (by decide)).trans (f57 7 (by decide))), show σ158 58 = σ 58 from ((f160 58 (by decide)).trans (f57 58 (by decide))), show σ158 8 = σ 8 from ((f160 8 (by decide)).trans (f57 8 (by decide))), show σ158 59 = σ 59 from ((f160 59 (by decide)).trans (f57 59 (by decide))), show (σ158 55 6).toInt = (σ 55 6).toInt from z213, show (σ158 55 4).toInt = (σ 55 4).toInt from z217]; exact hr0), (show jOvP (σ158 56) (σ158 57) (σ158 58) (σ158 59) (σ158 55 4).toInt by rw [show σ158 56 = σ 56 from ((f160 56 (by decide)).trans (f57 56 (by decide))), show σ158 57 = σ 57 from ((f160 57 (by decide)).trans (f57 57 (by decide))), show σ158 58 = σ 58 from ((f160 58 (by decide)).trans (f57 58 (by decide))), show σ158 59 = σ 59 from ((f160 59 (by decide)).trans (f57 59 (by decide))), show (σ158 55 4).toInt = (σ 55 4).toInt from z217]; exact hr1), (show jTp (σ158 10) (σ158 63) (σ158 55 15).toInt by rw [show σ158 10 = σ 10 from ((f160 10 (by decide)).trans (f57 10 (by decide))), show σ158 63 = σ 63 from ((f160 63 (by decide)).trans (f57 63 (by decide)))]; exact hr2.le (by omega)), (show jSo (σ158 17) (σ158 62) (σ158 16 0).toInt by rw [show σ158 17 = σ 17 from ((f160 17 (by decide)).trans (f57 17 (by decide))), show σ158 62 = σ 62 from ((f160 62 (by decide)).trans (f57 62 (by decide))), show (σ158 16 0).toInt = (σ 16 0).toInt from z220]; exact hr3), (show jShP (σ158 51) (σ158 52) (σ158 53) (σ158 86) (σ158 87) (σ158 55 32).toInt by rw [show σ158 51 = σ 51 from ((f160 51 (by decide)).trans (f57 51 (by decide))), show σ158 52 = σ 52 from ((f160 52 (by decide)).trans (f57 52 (by decide))), show σ158 53 = σ 53 from ((f160 53 (by decide)).trans (f57 53 (by decide))), show σ158 86 = σ 86 from ((f160 86 (by decide)).trans (f57 86 (by decide))), show σ158 87 = σ 87 from ((f160 87 (by decide)).trans (f57 87 (by decide)))]; exact (hr4.up (by omega) (by omega))), (show jEl (σ158 51) (σ158 52) (τ 54) (τ 88) by rw [show σ158 51 = σ 51 from ((f160 51 (by decide)).trans (f57 51 (by decide))), show σ158 52 = σ 52 from ((f160 52 (by decide)).trans (f57 52 (by decide)))]; exact hr5), (show jByP (σ158 51) (σ158 52) (τ 54) by rw [show σ158 51 = σ 51 from ((f160 51 (by decide)).trans (f57 51 (by decide))), show σ158 52 = σ 52 from ((f160 52 (by decide)).trans (f57 52 (by decide)))]; exact hr6), (show jBk (σ158 48) (σ158 80) (σ158 49) (σ158 81) (σ158 55 47).toInt by rw [show σ158 48 = σ 48 from ((f160 48 (by decide)).trans (f57 48 (by decide))), show σ158 49 = σ 49 from ((f160 49 (by decide)).trans (f57 49 (by decide))), show σ158 80 = σ 80 from ((f160 80 (by decide)).trans (f57 80 (by decide))), show σ158 81 = σ 81 from ((f160 81 (by decide)).trans (f57 81 (by decide))), show (σ158 55 47).toInt = (σ 55 47).toInt from z230]; exact hr7), (show jKd (σ158 39) (σ158 70) (σ158 55 32).toInt by rw [show σ158 39 = σ 39 from ((f160 39 (by decide)).trans (f57 39 (by decide))), show σ158 70 = σ 70 from ((f160 70 (by decide)).trans (f57 70 (by decide))), show (σ158 55 32).toInt = (σ 55 32).toInt from z227]; exact hr8), (show jTt (σ158 42) (σ158 85) (σ158 55 55).toInt by rw [show σ158 42 = σ55 42 from (f160 42 (by decide))]; exact p174.1), (fun k hk => by rw [show σ158 4 = σ 4 from ((f160 4 (by decide)).trans (f57 4 (by decide))), show σ158 5 = σ 5 from ((f160 5 (by decide)).trans (f57 5 (by decide))), show σ158 60 = σ 60 from ((f160 60 (by decide)).trans (f57 60 (by decide))), show σ158 61 = σ 61 from ((f160 61 (by decide)).trans (f57 61 (by decide)))]; exact hr10 k (by omega)), (fun nm => by rw [show σ158 19 = σ 19 from ((f160 19 (by decide)).trans (f57 19 (by decide))), show σ158 64 = σ 64 from ((f160 64 (by decide)).trans (f57 64 (by decide))), show σ158 65 = σ 65 from ((f160 65 (by decide)).trans (f57 65 (by decide))), show (σ158 18 0).toInt = (σ 18 0).toInt from z238]; exact hr11 nm), (fun nm => by rw [show σ158 23 = σ 23 from ((f160 23 (by decide)).trans (f57 23 (by decide))), show σ158 64 = σ 64 from ((f160 64 (by decide)).trans (f57 64 (by decide))), show σ158 65 = σ 65 from ((f160 65 (by decide)).trans (f57 65 (by decide))), show (σ158 22 0).toInt = (σ 22 0).toInt from z239]; exact hr12 nm), (show jAlP (σ158 56) (σ158 57) (σ158 58) (σ158 59) (σ158 55 4).toInt by rw [show σ158 56 = σ 56 from ((f160 56 (by decide)).trans (f57 56 (by decide))), show σ158 57 = σ 57 from ((f160 57 (by decide)).trans (f57 57 (by decide))), show σ158 58 = σ 58 from ((f160 58 (by decide)).trans (f57 58 (by decide))), show σ158 59 = σ 59 from ((f160 59 (by decide)).trans (f57 59 (by decide))), show (σ158 55 4).toInt = (σ 55 4).toInt from z217]; exact hr13), (show jqbN (σ158 80) (σ158 55 47).toInt by rw [show σ158 80 = σ 80 from ((f160 80 (by decide)).trans (f57 80 (by decide))), show (σ158 55 47).toInt = (σ 55 47).toInt from z230]; exact hr14)⟩ hP hS (lv_sub hl [0, 1, 2, 3] rfl)
set_option maxHeartbeats 4000000 in
set_option maxRecDepth 100000 in
theorem law_case_29 {p : Program} {e : Env} {s : State} {m : MethodId} {below : List Frame} {meth : Method} {c : Code} (l : Launch) {b L : Nat} {xs : Nat → Int32} {D : va_G} {cI cL : ClassId} {ad zz : Nat → Nat} (C0 : lw_At p s m meth c b L xs) (hJ : jD ad) (hA : ∀ q, jA ad q → s.heap.size ≤ q) (hK : jK D cI cL s) (hZ : jZ zz (fun q : Nat => s.heap.size ≤ q) s s.heap) {x0 : Int32} (hx0 : 0 ≤ x0.toInt) (hxL : x0.toInt + 6 ≤ (L : Int)) (hL : L ≤ 384) {σ : Nat → Nat → Int32} {τ : Nat → Nat → Int64} {H : Heap} {locs : List Loc} (hS : va_S (fun q : Nat => s.heap.size ≤ q) s.heap H locs) {ls : Array Slot} (hAll : jAll x0.toInt σ τ) (hP : jH D cI cL ad σ τ H) (hl : lv_has ls 4 [(3, .int x0), (2, .ref (ad 55)), (1, .ref (ad 0)), (0, .ref b)]) (ih : ∀ (x1 : Int32) (σ : Nat → Nat → Int32) (τ : Nat → Nat → Int64) (H : Heap) (locs : List Loc) (ls : Array Slot), x1.toInt = x0.toInt + 6 → jAll x1.toInt σ τ → jH D cI cL ad σ τ H → va_S (fun q : Nat => s.heap.size ≤ q) s.heap H locs → lv_has ls 4 [(3, .int x1), (2, .ref (ad 55)), (1, .ref (ad 0)), (0, .ref b)] → W p l e room_1 s m #[Value.ref b] below meth c H locs 90 348600 (lw_Z below #[Value.ref b] s) (F0 m 18 ls [])) : W p l e room_1 s m #[Value.ref b] below meth c H locs 90 348600 (lw_Z below #[Value.ref b] s) (F0 m 1033 ls []) := by
  obtain ⟨hx, hb, hr, hml, hown, hts0, hX, hbl, hlocks, hgv⟩ := C0
  have hts : ∀ w ∈ wsL_law, w.before #[Value.ref b] s = true := fun w h => hts0 w (wsL_law_in w h)
  have hbA : ¬ (fun q : Nat => s.heap.size ≤ q) b := Nat.not_le.mpr hbl
  have hown : s.vm.findClass RL = some m.cls := hown
  obtain ⟨hI2, hI9, hI12, hI16, hI18, hI22, hI31, hI38, hI43, hI47, hI50, hI0, hI26, hI101, hI102, hI103, hI104, hI105, hI106, hI107, hI109, hI110, hI111, hI119, hs_jKept, hs_jBook, hs_jNd12, hs_jN67, hs_jBl, hs_jKb, hs_jTR, hs_jKh, hs_jKg, hs_jNz, hs_jqSt, ht0, ht1, ht2, ht3, ht4, ht5, ht6, ht7, ht8, ht9, ht10, ht11, ht12, ht13, ht14, ht15, hr0, hr1, hr2, hr3, hr4, hr5, hr6, hr7, hr8, hr9, hr10, hr11, hr12, hr13, hr14⟩ := hAll
  have hL9 : (L : Int) ≤ 384 := by omega
  obtain ⟨i1, i2, i3, i4, i5, w6, w7⟩ : (0 ≤ (σ 2 0).toInt ∧ (σ 2 0).toInt ≤ 4) ∧ (0 ≤ (σ 2 1).toInt ∧ (σ 2 1).toInt ≤ 3) ∧ (0 ≤ (σ 2 2).toInt) ∧ (0 ≤ (σ 2 3).toInt) ∧ ((σ 2 2).toInt + (σ 2 3).toInt ≤ 40) ∧ (∀ k : Nat, k < 40 → 0 ≤ (σ 6 k).toInt ∧ (σ 6 k).toInt ≤ 67) ∧ (∀ k : Nat, k < 4 → 0 ≤ (σ 5 k).toInt ∧ (σ 5 k).toInt ≤ 20) := id hI2
  obtain ⟨i8, w9, w10⟩ : (0 ≤ (σ 9 0).toInt ∧ (σ 9 0).toInt ≤ 80) ∧ (∀ k : Nat, k < 80 → 0 ≤ (σ 10 k).toInt ∧ (σ 10 k).toInt ≤ 255) ∧ (∀ k : Nat, k < 8 → 0 ≤ (σ 11 k).toInt ∧ (σ 11 k).toInt ≤ 3) := id hI9
  obtain ⟨i11, i12, i13, w14⟩ : (1 ≤ (σ 16 0).toInt ∧ (σ 16 0).toInt ≤ 8) ∧ (1 ≤ (σ 16 1).toInt ∧ (σ 16 1).toInt ≤ 12) ∧ (0 ≤ (σ 16 2).toInt ∧ (σ 16 2).toInt ≤ 999) ∧ (∀ k : Nat, k < 8 → 0 ≤ (σ 17 k).toInt ∧ (σ 17 k).toInt ≤ 3) := id hI16
  obtain ⟨i15, i16, w17⟩ : (0 ≤ (σ 38 0).toInt ∧ (σ 38 0).toInt ≤ 20) ∧ (0 ≤ (σ 38 1).toInt ∧ (σ 38 1).toInt ≤ 1000) ∧ (∀ k : Nat, k < 20 → 0 ≤ (σ 39 k).toInt ∧ (σ 39 k).toInt ≤ 6) := id hI38
  obtain ⟨i18, w19, w20⟩ : (0 ≤ (σ 47 0).toInt ∧ (σ 47 0).toInt ≤ 12) ∧ (∀ k : Nat, k < 12 → 0 ≤ (σ 48 k).toInt ∧ (σ 48 k).toInt ≤ 3) ∧ (∀ k : Nat, k < 12 → 0 ≤ (σ 49 k).toInt ∧ (σ 49 k).toInt ≤ 1) := id hI47
  have w21 : ∀ k : Nat, k < 6 → 0 ≤ (σ 52 k).toInt ∧ (σ 52 k).toInt ≤ 60 := hI50
  have i22 : 1 ≤ (σ 26 6).toInt ∧ (σ 26 6).toInt ≤ 8000 := hI26
  obtain ⟨i23, i24, i25, w26, w27, w28, w29⟩ : (0 ≤ (σ 55 5).toInt) ∧ ((σ 55 5).toInt ≤ (σ 55 4).toInt) ∧ ((σ 55 4).toInt ≤ 40) ∧ (∀ k : Nat, k < 68 → (-200) ≤ (σ 56 k).toInt ∧ (σ 56 k).toInt ≤ 500) ∧ (∀ k : Nat, k < 40 → 0 ≤ (σ 57 k).toInt ∧ (σ 57 k).toInt ≤ 67) ∧ (∀ k : Nat, k < 40 → (-200) ≤ (σ 58 k).toInt ∧ (σ 58 k).toInt ≤ 500) ∧ (∀ k : Nat, k < 40 → (-200) ≤ (σ 59 k).toInt ∧ (σ 59 k).toInt ≤ 500) := id hI101
  obtain ⟨i30, w31, w32⟩ : (0 ≤ (σ 55 6).toInt ∧ (σ 55 6).toInt ≤ 4) ∧ (∀ k : Nat, k < 4 → 0 ≤ (σ 60 k).toInt ∧ (σ 60 k).toInt ≤ 50) ∧ (∀ k : Nat, k < 4 → 0 ≤ (σ 61 k).toInt ∧ (σ 61 k).toInt ≤ 20) := id hI102
  have i33 : 0 ≤ (σ 55 9).toInt ∧ (σ 55 9).toInt ≤ 3 := hI103
  obtain ⟨i34, i35, i36, w37, w38⟩ : (1 ≤ (σ 55 10).toInt ∧ (σ 55 10).toInt ≤ 8) ∧ (1 ≤ (σ 55 12).toInt ∧ (σ 55 12).toInt ≤ 12) ∧ (0 ≤ (σ 55 13).toInt ∧ (σ 55 13).toInt ≤ 999) ∧ (∀ k : Nat, k < 8 → 0 ≤ (σ 62 k).toInt ∧ (σ 62 k).toInt ≤ 3) ∧ (∀ k : Nat, k < 8 → 0 ≤ (σ 67 k).toInt ∧ (σ 67 k).toInt ≤ 3) := id hI104
  obtain ⟨i39, w40⟩ : (0 ≤ (σ 55 15).toInt ∧ (σ 55 15).toInt ≤ 80) ∧ (∀ k : Nat, k < 2 → (-1) ≤ (σ 65 k).toInt ∧ (σ 65 k).toInt ≤ 80) := id hI105
  obtain ⟨i41, w42, w43, w44⟩ : (0 ≤ (σ 55 32).toInt ∧ (σ 55 32).toInt ≤ 20) ∧ (∀ k : Nat, k < 20 → 0 ≤ (σ 70 k).toInt ∧ (σ 70 k).toInt ≤ 6) ∧ (∀ k : Nat, k < 20 → 0 ≤ (σ 71 k).toInt ∧ (σ 71 k).toInt ≤ 8) ∧ (∀ k : Nat, k < 160 → 0 ≤ (σ 72 k).toInt ∧ (σ 72 k).toInt ≤ 3) := id hI106
  obtain ⟨i45, i46, w47⟩ : (0 ≤ (σ 55 47).toInt ∧ (σ 55 47).toInt ≤ 12) ∧ ((σ 55 47).toInt ≤ (σ 55 12).toInt) ∧ (∀ k : Nat, k < 12 → 0 ≤ (σ 80 k).toInt ∧ (σ 80 k).toInt ≤ 3) := id hI107
  have hs_jOk3 : jOk3 σ := hr0.ok hr1.1
  refine lv_aload_n hx hb dL_law_1033 rfl (lv_at hl 2 rfl) ?_
  refine lv_aload_n hx hb dL_law_1034 rfl (lv_at hl 3 rfl) ?_
  refine lv_iload_n hx hb dL_law_1035 rfl (lv_at hl 0 rfl) ?_
  refine lv_iconst (v := 1) hx hb dL_law_1036 (by decide) ?_
  have g48 := jrg (rfl : x0.toInt = x0.toInt)
  refine lv_iadd hx hb dL_law_1037 ?_
  refine lv_topi (fun x49 ex49 => ?_)
  exact by
   have tx49 : x49.toInt = x0.toInt + 1 := (jadd ex49 rfl jz_1 (by omega) (by omega)).trans (by omega)
   refine va_sld hx hb hX hbl hbA hS (jin tx49 (by omega) (by omega)) dL_law_1038 ?_
   have g50 := jrg (rfl : (xs x49.toNatClampNeg).toInt = (xs x49.toNatClampNeg).toInt)
   refine jcallV (As := [.int (xs x49.toNatClampNeg)]) (rest := []) ⟨hx, hb, hml, hown, hts⟩ hK hP hA hS hZ (c_X11_trace l D cI cL ad zz hJ σ τ (xs x49.toNatClampNeg) ((xs x49.toNatClampNeg).toInt) rfl hI38) cw_RL_133 (jc_0 cI cL ad σ τ) rfl ⟨Nat.le_of_ble_eq_true rfl, Nat.le_of_ble_eq_true rfl⟩ rfl rfl rfl hl.1 rfl (Nat.le_of_ble_eq_true rfl) dL_law_1039 ⟨Nat.le_of_ble_eq_true rfl, Nat.le_of_ble_eq_true rfl⟩ (fun r52 σ51 τ51 H locs h51 hP hS => ?_)
   obtain ⟨⟨rfl, rfl⟩, h51⟩ := h51
   rcases h51 with h53 | h54
   · obtain ⟨q58, k55, k56, k57⟩ := h53
     have q59 : r52 = (σ 42 (xs x49.toNatClampNeg).toNatClampNeg) := q58.trans rfl
     have q59 := q59.symm
     exact by
      subst q59
      refine lv_pop hx hb dL_law_1042 rfl ?_
      refine lv_aload_n hx hb dL_law_1043 rfl (lv_at hl 1 rfl) ?_
      refine lv_aload_n hx hb dL_law_1044 rfl (lv_at hl 3 rfl) ?_
      refine lv_iload_n hx hb dL_law_1045 rfl (lv_at hl 0 rfl) ?_
      refine lv_iconst (v := 1) hx hb dL_law_1046 (by decide) ?_
      refine lv_iadd hx hb dL_law_1047 ?_
      refine jtopr ex49.symm ?_
      refine va_sld hx hb hX hbl hbA hS (jin tx49 (by omega) (by omega)) dL_law_1048 ?_
      exact by
       refine jcallV (As := [.int (xs x49.toNatClampNeg)]) (rest := []) ⟨hx, hb, hml, hown, hts⟩ hK hP hA hS hZ (c_X12_trace l D cI cL ad zz hJ σ τ (xs x49.toNatClampNeg) ((xs x49.toNatClampNeg).toInt) rfl) cw_RL_136 (jc_55 cI cL ad σ τ) rfl ⟨Nat.le_of_ble_eq_true rfl, Nat.le_of_ble_eq_true rfl⟩ rfl rfl rfl hl.1 rfl (Nat.le_of_ble_eq_true rfl) dL_law_1049 ⟨Nat.le_of_ble_eq_true rfl, Nat.le_of_ble_eq_true rfl⟩ (fun r61 σ60 τ60 H locs h60 hP hS => ?_)
       obtain ⟨⟨rfl, rfl⟩, h60⟩ := h60
       rcases h60 with h62 | h63
       · obtain ⟨q67, k64, k65, k66⟩ := h62
         have q68 : r61 = (σ 85 (xs x49.toNatClampNeg).toNatClampNeg) := q67.trans rfl
         have q68 := q68.symm
         subst q68
         refine lv_pop hx hb dL_law_1052 rfl ?_
         refine lv_goto (tgt := 1357) hx hb dL_law_1053 (by decide) ?_
         obtain ⟨x69, ex69⟩ : ∃ y : Int32, y = x0 + 6 := ⟨_, rfl⟩
         exact by
          have tx69 : x69.toInt = x0.toInt + 6 := (jadd ex69 rfl jz_6 (by omega) (by omega)).trans (by omega)
          refine lv_iinc (v := x69) (lv' := [(3, .int x69), (2, .ref (ad 55)), (1, .ref (ad 0)), (0, .ref b)]) hx hb dL_law_1357 hl (k := 0) rfl (by rw [ex69]; rfl) (by decide) rfl (fun ls hl => ?_)
          refine lv_goto (tgt := 18) hx hb dL_law_1360 (by decide) ?_
          exact by exact ih x69 σ τ _ _ ls (by have h9 := tx69; omega) ⟨hI2, hI9, hI12, hI16, hI18, hI22, hI31, hI38, hI43, hI47, hI50, hI0, hI26, hI101, hI102, hI103, hI104, hI105, hI106, hI107, hI109, hI110, hI111, hI119, hs_jKept, hs_jBook, hs_jNd12, hs_jN67, hs_jBl, hs_jKb, hs_jTR, hs_jKh, hs_jKg, hs_jNz, hs_jqSt, ht0, ht1, ht2, ht3, ht4, ht5, ht6, ht7, ht8, ht9, ht10, ht11, ht12, ht13, (by have h9 := tx69; omega), (by have h9 := tx69; omega), hr0, hr1, hr2, hr3, hr4, hr5, hr6, hr7, hr8, hr9, hr10, hr11, hr12, hr13, hr14⟩ hP hS (lv_sub hl [0, 1, 2, 3] rfl)
       · obtain ⟨q71, k70⟩ := h63
         exact absurd (by omega : False) id
   · obtain ⟨q73, k72⟩ := h54
     have q73 := q73.symm
     subst q73
     exact by
      refine lv_pop hx hb dL_law_1042 rfl ?_
      refine lv_aload_n hx hb dL_law_1043 rfl (lv_at hl 1 rfl) ?_
      refine lv_aload_n hx hb dL_law_1044 rfl (lv_at hl 3 rfl) ?_
      refine lv_iload_n hx hb dL_law_1045 rfl (lv_at hl 0 rfl) ?_
      refine lv_iconst (v := 1) hx hb dL_law_1046 (by decide) ?_
      refine lv_iadd hx hb dL_law_1047 ?_
      refine jtopr ex49.symm ?_
      refine va_sld hx hb hX hbl hbA hS (jin tx49 (by omega) (by omega)) dL_law_1048 ?_
      refine jcallV (As := [.int (xs x49.toNatClampNeg)]) (rest := []) ⟨hx, hb, hml, hown, hts⟩ hK hP hA hS hZ (c_X12_trace l D cI cL ad zz hJ σ τ (xs x49.toNatClampNeg) ((xs x49.toNatClampNeg).toInt) rfl) cw_RL_136 (jc_55 cI cL ad σ τ) rfl ⟨Nat.le_of_ble_eq_true rfl, Nat.le_of_ble_eq_true rfl⟩ rfl rfl rfl hl.1 rfl (Nat.le_of_ble_eq_true rfl) dL_law_1049 ⟨Nat.le_of_ble_eq_true rfl, Nat.le_of_ble_eq_true rfl⟩ (fun r75 σ74 τ74 H locs h74 hP hS => ?_)
      exact by
       obtain ⟨⟨rfl, rfl⟩, h74⟩ := h74
       rcases h74 with h76 | h77
       · obtain ⟨q81, k78, k79, k80⟩ := h76
         exact absurd (by omega : False) id
       · obtain ⟨q83, k82⟩ := h77
         have q83 := q83.symm
         subst q83
         refine lv_pop hx hb dL_law_1052 rfl ?_
         refine lv_goto (tgt := 1357) hx hb dL_law_1053 (by decide) ?_
         obtain ⟨x84, ex84⟩ : ∃ y : Int32, y = x0 + 6 := ⟨_, rfl⟩
         exact by
          have tx84 : x84.toInt = x0.toInt + 6 := (jadd ex84 rfl jz_6 (by omega) (by omega)).trans (by omega)
          refine lv_iinc (v := x84) (lv' := [(3, .int x84), (2, .ref (ad 55)), (1, .ref (ad 0)), (0, .ref b)]) hx hb dL_law_1357 hl (k := 0) rfl (by rw [ex84]; rfl) (by decide) rfl (fun ls hl => ?_)
          refine lv_goto (tgt := 18) hx hb dL_law_1360 (by decide) ?_
          exact by exact ih x84 σ τ _ _ ls (by have h9 := tx84; omega) ⟨hI2, hI9, hI12, hI16, hI18, hI22, hI31, hI38, hI43, hI47, hI50, hI0, hI26, hI101, hI102, hI103, hI104, hI105, hI106, hI107, hI109, hI110, hI111, hI119, hs_jKept, hs_jBook, hs_jNd12, hs_jN67, hs_jBl, hs_jKb, hs_jTR, hs_jKh, hs_jKg, hs_jNz, hs_jqSt, ht0, ht1, ht2, ht3, ht4, ht5, ht6, ht7, ht8, ht9, ht10, ht11, ht12, ht13, (by have h9 := tx84; omega), (by have h9 := tx84; omega), hr0, hr1, hr2, hr3, hr4, hr5, hr6, hr7, hr8, hr9, hr10, hr11, hr12, hr13, hr14⟩ hP hS (lv_sub hl [0, 1, 2, 3] rfl)
set_option maxHeartbeats 4000000 in
set_option maxRecDepth 100000 in
theorem law_case_30 {p : Program} {e : Env} {s : State} {m : MethodId} {below : List Frame} {meth : Method} {c : Code} (l : Launch) {b L : Nat} {xs : Nat → Int32} {D : va_G} {cI cL : ClassId} {ad zz : Nat → Nat} (C0 : lw_At p s m meth c b L xs) (hJ : jD ad) (hA : ∀ q, jA ad q → s.heap.size ≤ q) (hK : jK D cI cL s) (hZ : jZ zz (fun q : Nat => s.heap.size ≤ q) s s.heap) {x0 : Int32} (hx0 : 0 ≤ x0.toInt) (hxL : x0.toInt + 6 ≤ (L : Int)) (hL : L ≤ 384) {σ : Nat → Nat → Int32} {τ : Nat → Nat → Int64} {H : Heap} {locs : List Loc} (hS : va_S (fun q : Nat => s.heap.size ≤ q) s.heap H locs) {ls : Array Slot} (hAll : jAll x0.toInt σ τ) (hP : jH D cI cL ad σ τ H) (hl : lv_has ls 4 [(3, .int x0), (2, .ref (ad 55)), (1, .ref (ad 0)), (0, .ref b)]) (ih : ∀ (x1 : Int32) (σ : Nat → Nat → Int32) (τ : Nat → Nat → Int64) (H : Heap) (locs : List Loc) (ls : Array Slot), x1.toInt = x0.toInt + 6 → jAll x1.toInt σ τ → jH D cI cL ad σ τ H → va_S (fun q : Nat => s.heap.size ≤ q) s.heap H locs → lv_has ls 4 [(3, .int x1), (2, .ref (ad 55)), (1, .ref (ad 0)), (0, .ref b)] → W p l e room_1 s m #[Value.ref b] below meth c H locs 90 348600 (lw_Z below #[Value.ref b] s) (F0 m 18 ls [])) : W p l e room_1 s m #[Value.ref b] below meth c H locs 90 348600 (lw_Z below #[Value.ref b] s) (F0 m 1056 ls []) := by
  obtain ⟨hx, hb, hr, hml, hown, hts0, hX, hbl, hlocks, hgv⟩ := C0
  have hts : ∀ w ∈ wsL_law, w.before #[Value.ref b] s = true := fun w h => hts0 w (wsL_law_in w h)
  have hbA : ¬ (fun q : Nat => s.heap.size ≤ q) b := Nat.not_le.mpr hbl
  have hown : s.vm.findClass RL = some m.cls := hown
  obtain ⟨hI2, hI9, hI12, hI16, hI18, hI22, hI31, hI38, hI43, hI47, hI50, hI0, hI26, hI101, hI102, hI103, hI104, hI105, hI106, hI107, hI109, hI110, hI111, hI119, hs_jKept, hs_jBook, hs_jNd12, hs_jN67, hs_jBl, hs_jKb, hs_jTR, hs_jKh, hs_jKg, hs_jNz, hs_jqSt, ht0, ht1, ht2, ht3, ht4, ht5, ht6, ht7, ht8, ht9, ht10, ht11, ht12, ht13, ht14, ht15, hr0, hr1, hr2, hr3, hr4, hr5, hr6, hr7, hr8, hr9, hr10, hr11, hr12, hr13, hr14⟩ := hAll
  have hL9 : (L : Int) ≤ 384 := by omega
  obtain ⟨i1, i2, i3, i4, i5, w6, w7⟩ : (0 ≤ (σ 2 0).toInt ∧ (σ 2 0).toInt ≤ 4) ∧ (0 ≤ (σ 2 1).toInt ∧ (σ 2 1).toInt ≤ 3) ∧ (0 ≤ (σ 2 2).toInt) ∧ (0 ≤ (σ 2 3).toInt) ∧ ((σ 2 2).toInt + (σ 2 3).toInt ≤ 40) ∧ (∀ k : Nat, k < 40 → 0 ≤ (σ 6 k).toInt ∧ (σ 6 k).toInt ≤ 67) ∧ (∀ k : Nat, k < 4 → 0 ≤ (σ 5 k).toInt ∧ (σ 5 k).toInt ≤ 20) := id hI2
  obtain ⟨i8, w9, w10⟩ : (0 ≤ (σ 9 0).toInt ∧ (σ 9 0).toInt ≤ 80) ∧ (∀ k : Nat, k < 80 → 0 ≤ (σ 10 k).toInt ∧ (σ 10 k).toInt ≤ 255) ∧ (∀ k : Nat, k < 8 → 0 ≤ (σ 11 k).toInt ∧ (σ 11 k).toInt ≤ 3) := id hI9
  obtain ⟨i11, i12, i13, w14⟩ : (1 ≤ (σ 16 0).toInt ∧ (σ 16 0).toInt ≤ 8) ∧ (1 ≤ (σ 16 1).toInt ∧ (σ 16 1).toInt ≤ 12) ∧ (0 ≤ (σ 16 2).toInt ∧ (σ 16 2).toInt ≤ 999) ∧ (∀ k : Nat, k < 8 → 0 ≤ (σ 17 k).toInt ∧ (σ 17 k).toInt ≤ 3) := id hI16
  obtain ⟨i15, i16, w17⟩ : (0 ≤ (σ 38 0).toInt ∧ (σ 38 0).toInt ≤ 20) ∧ (0 ≤ (σ 38 1).toInt ∧ (σ 38 1).toInt ≤ 1000) ∧ (∀ k : Nat, k < 20 → 0 ≤ (σ 39 k).toInt ∧ (σ 39 k).toInt ≤ 6) := id hI38
  obtain ⟨i18, w19, w20⟩ : (0 ≤ (σ 47 0).toInt ∧ (σ 47 0).toInt ≤ 12) ∧ (∀ k : Nat, k < 12 → 0 ≤ (σ 48 k).toInt ∧ (σ 48 k).toInt ≤ 3) ∧ (∀ k : Nat, k < 12 → 0 ≤ (σ 49 k).toInt ∧ (σ 49 k).toInt ≤ 1) := id hI47
  have w21 : ∀ k : Nat, k < 6 → 0 ≤ (σ 52 k).toInt ∧ (σ 52 k).toInt ≤ 60 := hI50
  have i22 : 1 ≤ (σ 26 6).toInt ∧ (σ 26 6).toInt ≤ 8000 := hI26
  obtain ⟨i23, i24, i25, w26, w27, w28, w29⟩ : (0 ≤ (σ 55 5).toInt) ∧ ((σ 55 5).toInt ≤ (σ 55 4).toInt) ∧ ((σ 55 4).toInt ≤ 40) ∧ (∀ k : Nat, k < 68 → (-200) ≤ (σ 56 k).toInt ∧ (σ 56 k).toInt ≤ 500) ∧ (∀ k : Nat, k < 40 → 0 ≤ (σ 57 k).toInt ∧ (σ 57 k).toInt ≤ 67) ∧ (∀ k : Nat, k < 40 → (-200) ≤ (σ 58 k).toInt ∧ (σ 58 k).toInt ≤ 500) ∧ (∀ k : Nat, k < 40 → (-200) ≤ (σ 59 k).toInt ∧ (σ 59 k).toInt ≤ 500) := id hI101
  obtain ⟨i30, w31, w32⟩ : (0 ≤ (σ 55 6).toInt ∧ (σ 55 6).toInt ≤ 4) ∧ (∀ k : Nat, k < 4 → 0 ≤ (σ 60 k).toInt ∧ (σ 60 k).toInt ≤ 50) ∧ (∀ k : Nat, k < 4 → 0 ≤ (σ 61 k).toInt ∧ (σ 61 k).toInt ≤ 20) := id hI102
  have i33 : 0 ≤ (σ 55 9).toInt ∧ (σ 55 9).toInt ≤ 3 := hI103
  obtain ⟨i34, i35, i36, w37, w38⟩ : (1 ≤ (σ 55 10).toInt ∧ (σ 55 10).toInt ≤ 8) ∧ (1 ≤ (σ 55 12).toInt ∧ (σ 55 12).toInt ≤ 12) ∧ (0 ≤ (σ 55 13).toInt ∧ (σ 55 13).toInt ≤ 999) ∧ (∀ k : Nat, k < 8 → 0 ≤ (σ 62 k).toInt ∧ (σ 62 k).toInt ≤ 3) ∧ (∀ k : Nat, k < 8 → 0 ≤ (σ 67 k).toInt ∧ (σ 67 k).toInt ≤ 3) := id hI104
  obtain ⟨i39, w40⟩ : (0 ≤ (σ 55 15).toInt ∧ (σ 55 15).toInt ≤ 80) ∧ (∀ k : Nat, k < 2 → (-1) ≤ (σ 65 k).toInt ∧ (σ 65 k).toInt ≤ 80) := id hI105
  obtain ⟨i41, w42, w43, w44⟩ : (0 ≤ (σ 55 32).toInt ∧ (σ 55 32).toInt ≤ 20) ∧ (∀ k : Nat, k < 20 → 0 ≤ (σ 70 k).toInt ∧ (σ 70 k).toInt ≤ 6) ∧ (∀ k : Nat, k < 20 → 0 ≤ (σ 71 k).toInt ∧ (σ 71 k).toInt ≤ 8) ∧ (∀ k : Nat, k < 160 → 0 ≤ (σ 72 k).toInt ∧ (σ 72 k).toInt ≤ 3) := id hI106
  obtain ⟨i45, i46, w47⟩ : (0 ≤ (σ 55 47).toInt ∧ (σ 55 47).toInt ≤ 12) ∧ ((σ 55 47).toInt ≤ (σ 55 12).toInt) ∧ (∀ k : Nat, k < 12 → 0 ≤ (σ 80 k).toInt ∧ (σ 80 k).toInt ≤ 3) := id hI107
  have hs_jOk3 : jOk3 σ := hr0.ok hr1.1
  refine lv_aload_n hx hb dL_law_1056 rfl (lv_at hl 2 rfl) ?_
  refine lv_aload_n hx hb dL_law_1057 rfl (lv_at hl 3 rfl) ?_
  refine lv_iload_n hx hb dL_law_1058 rfl (lv_at hl 0 rfl) ?_
  refine lv_iconst (v := 1) hx hb dL_law_1059 (by decide) ?_
  have g48 := jrg (rfl : x0.toInt = x0.toInt)
  refine lv_iadd hx hb dL_law_1060 ?_
  refine lv_topi (fun x49 ex49 => ?_)
  exact by
   have tx49 : x49.toInt = x0.toInt + 1 := (jadd ex49 rfl jz_1 (by omega) (by omega)).trans (by omega)
   refine va_sld hx hb hX hbl hbA hS (jin tx49 (by omega) (by omega)) dL_law_1061 ?_
   have g50 := jrg (rfl : (xs x49.toNatClampNeg).toInt = (xs x49.toNatClampNeg).toInt)
   refine lv_aload_n hx hb dL_law_1062 rfl (lv_at hl 3 rfl) ?_
   refine lv_iload_n hx hb dL_law_1063 rfl (lv_at hl 0 rfl) ?_
   refine lv_iconst (v := 2) hx hb dL_law_1064 (by decide) ?_
   refine lv_iadd hx hb dL_law_1065 ?_
   refine lv_topi (fun x51 ex51 => ?_)
   have tx51 : x51.toInt = x0.toInt + 2 := (jadd ex51 rfl jz_2 (by omega) (by omega)).trans (by omega)
   exact by
    refine va_sld hx hb hX hbl hbA hS (jin tx51 (by omega) (by omega)) dL_law_1066 ?_
    have g52 := jrg (rfl : (xs x51.toNatClampNeg).toInt = (xs x51.toNatClampNeg).toInt)
    refine jcallV (As := [.int (xs x49.toNatClampNeg), .int (xs x51.toNatClampNeg)]) (rest := []) ⟨hx, hb, hml, hown, hts⟩ hK hP hA hS hZ (c_X11_keep l D cI cL ad zz hJ σ τ (xs x49.toNatClampNeg) ((xs x49.toNatClampNeg).toInt) rfl (xs x51.toNatClampNeg) ((xs x51.toNatClampNeg).toInt) rfl hI38 hI50) cw_RL_137 (jc_0 cI cL ad σ τ) rfl ⟨Nat.le_of_ble_eq_true rfl, Nat.le_of_ble_eq_true rfl⟩ rfl rfl rfl hl.1 rfl (Nat.le_of_ble_eq_true rfl) dL_law_1067 ⟨Nat.le_of_ble_eq_true rfl, Nat.le_of_ble_eq_true rfl⟩ (fun r54 σ53 τ53 H locs h53 hP hS => ?_)
    obtain ⟨rfl, f55, I56, h53⟩ := h53
    have w58 : ∀ k : Nat, k < 6 → 0 ≤ (σ53 52 k).toInt ∧ (σ53 52 k).toInt ≤ 60 := I56
    rcases h53 with h59 | h60 | h61
    · obtain ⟨q65, k62, k63, k64⟩ := h59
      have q65 := q65.symm
      subst q65
      refine lv_pop hx hb dL_law_1070 rfl ?_
      refine lv_aload_n hx hb dL_law_1071 rfl (lv_at hl 1 rfl) ?_
      refine lv_aload_n hx hb dL_law_1072 rfl (lv_at hl 3 rfl) ?_
      refine lv_iload_n hx hb dL_law_1073 rfl (lv_at hl 0 rfl) ?_
      refine lv_iconst (v := 1) hx hb dL_law_1074 (by decide) ?_
      refine lv_iadd hx hb dL_law_1075 ?_
      refine jtopr ex49.symm ?_
      exact by
       refine va_sld hx hb hX hbl hbA hS (jin tx49 (by omega) (by omega)) dL_law_1076 ?_
       refine lv_aload_n hx hb dL_law_1077 rfl (lv_at hl 3 rfl) ?_
       refine lv_iload_n hx hb dL_law_1078 rfl (lv_at hl 0 rfl) ?_
       refine lv_iconst (v := 2) hx hb dL_law_1079 (by decide) ?_
       refine lv_iadd hx hb dL_law_1080 ?_
       refine jtopr ex51.symm ?_
       refine va_sld hx hb hX hbl hbA hS (jin tx51 (by omega) (by omega)) dL_law_1081 ?_
       have I66 : jI106 σ53 := jI106_fr (congrFun (f55 55 (by decide)) 32) (f55 70 (by decide)) (f55 71 (by decide)) (f55 72 (by decide)) hI106
       have I67 : jI110 σ53 := jI110_fr (f55 86 (by decide)) (f55 87 (by decide)) hI110
       exact by
        have z68 : (σ53 55 32).toInt = (σ 55 32).toInt := (congrArg Int32.toInt (show σ53 55 32 = (σ 55 32) from (congrFun (f55 55 (by decide)) 32)))
        refine jcallV (As := [.int (xs x49.toNatClampNeg), .int (xs x51.toNatClampNeg)]) (rest := []) ⟨hx, hb, hml, hown, hts⟩ hK hP hA hS hZ (c_X12_keep l D cI cL ad zz hJ σ53 τ (xs x49.toNatClampNeg) ((xs x49.toNatClampNeg).toInt) rfl (xs x51.toNatClampNeg) ((xs x51.toNatClampNeg).toInt) rfl I66 I67) cw_RL_140 (jc_55 cI cL ad σ53 τ) rfl ⟨Nat.le_of_ble_eq_true rfl, Nat.le_of_ble_eq_true rfl⟩ rfl rfl rfl hl.1 rfl (Nat.le_of_ble_eq_true rfl) dL_law_1082 ⟨Nat.le_of_ble_eq_true rfl, Nat.le_of_ble_eq_true rfl⟩ (fun r70 σ69 τ69 H locs h69 hP hS => ?_)
        obtain ⟨rfl, f71, I72, h69⟩ := h69
        rcases h69 with h74 | h75 | h76
        · obtain ⟨q80, k77, k78, k79⟩ := h74
          have q80 := q80.symm
          subst q80
          refine lv_pop hx hb dL_law_1085 rfl ?_
          refine lv_goto (tgt := 1357) hx hb dL_law_1086 (by decide) ?_
          obtain ⟨x81, ex81⟩ : ∃ y : Int32, y = x0 + 6 := ⟨_, rfl⟩
          exact by
           have tx81 : x81.toInt = x0.toInt + 6 := (jadd ex81 rfl jz_6 (by omega) (by omega)).trans (by omega)
           refine lv_iinc (v := x81) (lv' := [(3, .int x81), (2, .ref (ad 55)), (1, .ref (ad 0)), (0, .ref b)]) hx hb dL_law_1357 hl (k := 0) rfl (by rw [ex81]; rfl) (by decide) rfl (fun ls hl => ?_)
           refine lv_goto (tgt := 18) hx hb dL_law_1360 (by decide) ?_
           have I82 : jI2 σ69 := jI2_fr ((congrFun (f71 2 (by decide)) 0).trans (congrFun (f55 2 (by decide)) 0)) ((congrFun (f71 2 (by decide)) 1).trans (congrFun (f55 2 (by decide)) 1)) ((congrFun (f71 2 (by decide)) 2).trans (congrFun (f55 2 (by decide)) 2)) ((congrFun (f71 2 (by decide)) 3).trans (congrFun (f55 2 (by decide)) 3)) ((f71 6 (by decide)).trans (f55 6 (by decide))) ((f71 5 (by decide)).trans (f55 5 (by decide))) hI2
           have I83 : jI9 σ69 := jI9_fr ((congrFun (f71 9 (by decide)) 0).trans (congrFun (f55 9 (by decide)) 0)) ((f71 10 (by decide)).trans (f55 10 (by decide))) ((f71 11 (by decide)).trans (f55 11 (by decide))) hI9
           have I84 : jI12 σ69 := jI12_fr ((congrFun (f71 12 (by decide)) 0).trans (congrFun (f55 12 (by decide)) 0)) ((f71 13 (by decide)).trans (f55 13 (by decide))) hI12
           have I85 : jI16 σ69 := jI16_fr ((congrFun (f71 16 (by decide)) 0).trans (congrFun (f55 16 (by decide)) 0)) ((congrFun (f71 16 (by decide)) 1).trans (congrFun (f55 16 (by decide)) 1)) ((congrFun (f71 16 (by decide)) 2).trans (congrFun (f55 16 (by decide)) 2)) ((f71 17 (by decide)).trans (f55 17 (by decide))) hI16
           have I86 : jI18 σ69 := jI18_fr ((congrFun (f71 18 (by decide)) 0).trans (congrFun (f55 18 (by decide)) 0)) ((f71 19 (by decide)).trans (f55 19 (by decide))) hI18
           have I87 : jI22 σ69 := jI22_fr ((congrFun (f71 22 (by decide)) 0).trans (congrFun (f55 22 (by decide)) 0)) ((f71 23 (by decide)).trans (f55 23 (by decide))) hI22
           exact by
            have I88 : jI31 σ69 := jI31_fr ((congrFun (f71 31 (by decide)) 8).trans (congrFun (f55 31 (by decide)) 8)) ((congrFun (f71 31 (by decide)) 10).trans (congrFun (f55 31 (by decide)) 10)) ((congrFun (f71 31 (by decide)) 11).trans (congrFun (f55 31 (by decide)) 11)) ((f71 33 (by decide)).trans (f55 33 (by decide))) ((f71 35 (by decide)).trans (f55 35 (by decide))) ((f71 36 (by decide)).trans (f55 36 (by decide))) hI31
            have I89 : jI38 σ69 := jI38_fr ((congrFun (f71 38 (by decide)) 0).trans (congrFun (f55 38 (by decide)) 0)) ((congrFun (f71 38 (by decide)) 1).trans (congrFun (f55 38 (by decide)) 1)) ((f71 39 (by decide)).trans (f55 39 (by decide))) hI38
            have I90 : jI43 σ69 := jI43_fr ((congrFun (f71 43 (by decide)) 8).trans (congrFun (f55 43 (by decide)) 8)) hI43
            have I91 : jI47 σ69 := jI47_fr ((congrFun (f71 47 (by decide)) 0).trans (congrFun (f55 47 (by decide)) 0)) ((f71 48 (by decide)).trans (f55 48 (by decide))) ((f71 49 (by decide)).trans (f55 49 (by decide))) hI47
            have I92 : jI50 σ69 := jI50_fr (f71 52 (by decide)) I56
            have I93 : jI0 σ69 := jI0_fr ((f71 1 (by decide)).trans (f55 1 (by decide))) hI0
            have I94 : jI26 σ69 := jI26_fr ((congrFun (f71 26 (by decide)) 6).trans (congrFun (f55 26 (by decide)) 6)) hI26
            have I95 : jI101 σ69 := jI101_fr ((congrFun (f71 55 (by decide)) 4).trans (congrFun (f55 55 (by decide)) 4)) ((congrFun (f71 55 (by decide)) 5).trans (congrFun (f55 55 (by decide)) 5)) ((f71 56 (by decide)).trans (f55 56 (by decide))) ((f71 57 (by decide)).trans (f55 57 (by decide))) ((f71 58 (by decide)).trans (f55 58 (by decide))) ((f71 59 (by decide)).trans (f55 59 (by decide))) hI101
            have I96 : jI102 σ69 := jI102_fr ((congrFun (f71 55 (by decide)) 6).trans (congrFun (f55 55 (by decide)) 6)) ((f71 60 (by decide)).trans (f55 60 (by decide))) ((f71 61 (by decide)).trans (f55 61 (by decide))) hI102
            have I97 : jI103 σ69 := jI103_fr ((congrFun (f71 55 (by decide)) 9).trans (congrFun (f55 55 (by decide)) 9)) hI103
            have I98 : jI104 σ69 := jI104_fr ((congrFun (f71 55 (by decide)) 10).trans (congrFun (f55 55 (by decide)) 10)) ((congrFun (f71 55 (by decide)) 12).trans (congrFun (f55 55 (by decide)) 12)) ((congrFun (f71 55 (by decide)) 13).trans (congrFun (f55 55 (by decide)) 13)) ((f71 62 (by decide)).trans (f55 62 (by decide))) ((f71 67 (by decide)).trans (f55 67 (by decide))) hI104
            have I99 : jI105 σ69 := jI105_fr ((congrFun (f71 55 (by decide)) 15).trans (congrFun (f55 55 (by decide)) 15)) ((f71 65 (by decide)).trans (f55 65 (by decide))) hI105
            have I100 : jI106 σ69 := jI106_fr (congrFun (f71 55 (by decide)) 32) (f71 70 (by decide)) (f71 71 (by decide)) (f71 72 (by decide)) I66
            have I101 : jI107 σ69 := jI107_fr ((congrFun (f71 55 (by decide)) 12).trans (congrFun (f55 55 (by decide)) 12)) ((congrFun (f71 55 (by decide)) 47).trans (congrFun (f55 55 (by decide)) 47)) ((f71 80 (by decide)).trans (f55 80 (by decide))) hI107
            have I102 : jI109 σ69 := jI109_fr ((congrFun (f71 55 (by decide)) 50).trans (congrFun (f55 55 (by decide)) 50)) hI109
            have I103 : jI111 σ69 := jI111_fr ((f71 79 (by decide)).trans (f55 79 (by decide))) hI111
            have I104 : jI119 σ69 := jI119_fr ((f71 68 (by decide)).trans (f55 68 (by decide))) hI119
            have p105 : jKept σ69 := jKept.fr ((f71 75 (by decide)).trans (f55 75 (by decide))) ((f71 76 (by decide)).trans (f55 76 (by decide))) ((f71 77 (by decide)).trans (f55 77 (by decide))) hs_jKept
            have p106 : jBook σ69 := jBook.fr ((congrFun (f71 55 (by decide)) 47).trans (congrFun (f55 55 (by decide)) 47)) ((congrFun (f71 55 (by decide)) 10).trans (congrFun (f55 55 (by decide)) 10)) ((f71 81 (by decide)).trans (f55 81 (by decide))) hs_jBook
            have p107 : jNd12 σ69 := jNd12.fr ((congrFun (f71 12 (by decide)) 0).trans (congrFun (f55 12 (by decide)) 0)) ((congrFun (f71 12 (by decide)) 1).trans (congrFun (f55 12 (by decide)) 1)) ((f71 13 (by decide)).trans (f55 13 (by decide))) hs_jNd12
            have p108 : jN67 σ69 := jN67.fr ((f71 24 (by decide)).trans (f55 24 (by decide))) hs_jN67
            have p109 : jBl σ69 := jBl.fr ((congrFun (f71 22 (by decide)) 0).trans (congrFun (f55 22 (by decide)) 0)) ((congrFun (f71 22 (by decide)) 1).trans (congrFun (f55 22 (by decide)) 1)) ((f71 23 (by decide)).trans (f55 23 (by decide))) ((congrFun (f71 26 (by decide)) 6).trans (congrFun (f55 26 (by decide)) 6)) ((congrFun (f71 26 (by decide)) 7).trans (congrFun (f55 26 (by decide)) 7)) ((f71 29 (by decide)).trans (f55 29 (by decide))) ((f71 30 (by decide)).trans (f55 30 (by decide))) hs_jBl
            have p110 : jKb σ69 := jKb.fr ((congrFun (f71 31 (by decide)) 8).trans (congrFun (f55 31 (by decide)) 8)) ((congrFun (f71 31 (by decide)) 11).trans (congrFun (f55 31 (by decide)) 11)) ((f71 32 (by decide)).trans (f55 32 (by decide))) hs_jKb
            have p111 : jTR σ69 := jTR.fr ((f71 64 (by decide)).trans (f55 64 (by decide))) ((f71 65 (by decide)).trans (f55 65 (by decide))) hs_jTR
            have p112 : jKh σ69 := jKh.fr ((congrFun (f71 31 (by decide)) 8).trans (congrFun (f55 31 (by decide)) 8)) ((f71 32 (by decide)).trans (f55 32 (by decide))) ((f71 36 (by decide)).trans (f55 36 (by decide))) ((f71 37 (by decide)).trans (f55 37 (by decide))) hs_jKh
            have p113 : jKg σ69 := jKg.fr ((congrFun (f71 31 (by decide)) 8).trans (congrFun (f55 31 (by decide)) 8)) ((congrFun (f71 31 (by decide)) 9).trans (congrFun (f55 31 (by decide)) 9)) ((congrFun (f71 31 (by decide)) 11).trans (congrFun (f55 31 (by decide)) 11)) ((congrFun (f71 31 (by decide)) 12).trans (congrFun (f55 31 (by decide)) 12)) ((f71 32 (by decide)).trans (f55 32 (by decide))) ((f71 33 (by decide)).trans (f55 33 (by decide))) hs_jKg
            have p114 : jNz σ69 := jNz.fr ((f71 34 (by decide)).trans (f55 34 (by decide))) hs_jNz
            have p115 : jqSt σ69 := jqSt.fr ((f71 78 (by decide)).trans (f55 78 (by decide))) ((congrFun (f71 55 (by decide)) 42).trans (congrFun (f55 55 (by decide)) 42)) hs_jqSt
            have z116 : (σ69 2 0).toInt = (σ 2 0).toInt := (congrArg Int32.toInt (show σ69 2 0 = (σ 2 0) from ((congrFun (f71 2 (by decide)) 0).trans (congrFun (f55 2 (by decide)) 0))))
            have z117 : (σ69 55 6).toInt = (σ 55 6).toInt := (congrArg Int32.toInt (show σ69 55 6 = (σ 55 6) from ((congrFun (f71 55 (by decide)) 6).trans (congrFun (f55 55 (by decide)) 6))))
            have z118 : (σ69 2 2).toInt = (σ 2 2).toInt := (congrArg Int32.toInt (show σ69 2 2 = (σ 2 2) from ((congrFun (f71 2 (by decide)) 2).trans (congrFun (f55 2 (by decide)) 2))))
            have z119 : (σ69 55 5).toInt = (σ 55 5).toInt := (congrArg Int32.toInt (show σ69 55 5 = (σ 55 5) from ((congrFun (f71 55 (by decide)) 5).trans (congrFun (f55 55 (by decide)) 5))))
            have z120 : (σ69 2 3).toInt = (σ 2 3).toInt := (congrArg Int32.toInt (show σ69 2 3 = (σ 2 3) from ((congrFun (f71 2 (by decide)) 3).trans (congrFun (f55 2 (by decide)) 3))))
            have z121 : (σ69 55 4).toInt = (σ 55 4).toInt := (congrArg Int32.toInt (show σ69 55 4 = (σ 55 4) from ((congrFun (f71 55 (by decide)) 4).trans (congrFun (f55 55 (by decide)) 4))))
            have z122 : (σ69 9 0).toInt = (σ 9 0).toInt := (congrArg Int32.toInt (show σ69 9 0 = (σ 9 0) from ((congrFun (f71 9 (by decide)) 0).trans (congrFun (f55 9 (by decide)) 0))))
            have z123 : (σ69 55 15).toInt = (σ 55 15).toInt := (congrArg Int32.toInt (show σ69 55 15 = (σ 55 15) from ((congrFun (f71 55 (by decide)) 15).trans (congrFun (f55 55 (by decide)) 15))))
            have z124 : (σ69 16 0).toInt = (σ 16 0).toInt := (congrArg Int32.toInt (show σ69 16 0 = (σ 16 0) from ((congrFun (f71 16 (by decide)) 0).trans (congrFun (f55 16 (by decide)) 0))))
            have z125 : (σ69 55 10).toInt = (σ 55 10).toInt := (congrArg Int32.toInt (show σ69 55 10 = (σ 55 10) from ((congrFun (f71 55 (by decide)) 10).trans (congrFun (f55 55 (by decide)) 10))))
            have z126 : (σ69 16 1).toInt = (σ 16 1).toInt := (congrArg Int32.toInt (show σ69 16 1 = (σ 16 1) from ((congrFun (f71 16 (by decide)) 1).trans (congrFun (f55 16 (by decide)) 1))))
            have z127 : (σ69 55 12).toInt = (σ 55 12).toInt := (congrArg Int32.toInt (show σ69 55 12 = (σ 55 12) from ((congrFun (f71 55 (by decide)) 12).trans (congrFun (f55 55 (by decide)) 12))))
            have z128 : (σ69 16 2).toInt = (σ 16 2).toInt := (congrArg Int32.toInt (show σ69 16 2 = (σ 16 2) from ((congrFun (f71 16 (by decide)) 2).trans (congrFun (f55 16 (by decide)) 2))))
            have z129 : (σ69 55 13).toInt = (σ 55 13).toInt := (congrArg Int32.toInt (show σ69 55 13 = (σ 55 13) from ((congrFun (f71 55 (by decide)) 13).trans (congrFun (f55 55 (by decide)) 13))))
            have z130 : (σ69 38 0).toInt = (σ 38 0).toInt := (congrArg Int32.toInt (show σ69 38 0 = (σ 38 0) from ((congrFun (f71 38 (by decide)) 0).trans (congrFun (f55 38 (by decide)) 0))))
            have z131 : (σ69 55 32).toInt = (σ 55 32).toInt := (congrArg Int32.toInt (show σ69 55 32 = (σ 55 32) from ((congrFun (f71 55 (by decide)) 32).trans (congrFun (f55 55 (by decide)) 32))))
            have z132 : (σ69 38 1).toInt = (σ 38 1).toInt := (congrArg Int32.toInt (show σ69 38 1 = (σ 38 1) from ((congrFun (f71 38 (by decide)) 1).trans (congrFun (f55 38 (by decide)) 1))))
            have z133 : (σ69 55 55).toInt = (σ 55 55).toInt := (congrArg Int32.toInt (show σ69 55 55 = (σ 55 55) from ((congrFun (f71 55 (by decide)) 55).trans (congrFun (f55 55 (by decide)) 55))))
            have z134 : (σ69 47 0).toInt = (σ 47 0).toInt := (congrArg Int32.toInt (show σ69 47 0 = (σ 47 0) from ((congrFun (f71 47 (by decide)) 0).trans (congrFun (f55 47 (by decide)) 0))))
            have z135 : (σ69 55 47).toInt = (σ 55 47).toInt := (congrArg Int32.toInt (show σ69 55 47 = (σ 55 47) from ((congrFun (f71 55 (by decide)) 47).trans (congrFun (f55 55 (by decide)) 47))))
            have z136 : (σ69 55 30).toInt = (σ 55 30).toInt := (congrArg Int32.toInt (show σ69 55 30 = (σ 55 30) from ((congrFun (f71 55 (by decide)) 30).trans (congrFun (f55 55 (by decide)) 30))))
            have z137 : (σ69 55 31).toInt = (σ 55 31).toInt := (congrArg Int32.toInt (show σ69 55 31 = (σ 55 31) from ((congrFun (f71 55 (by decide)) 31).trans (congrFun (f55 55 (by decide)) 31))))
            have z138 : (σ69 2 1).toInt = (σ 2 1).toInt := (congrArg Int32.toInt (show σ69 2 1 = (σ 2 1) from ((congrFun (f71 2 (by decide)) 1).trans (congrFun (f55 2 (by decide)) 1))))
            have z139 : (σ69 55 9).toInt = (σ 55 9).toInt := (congrArg Int32.toInt (show σ69 55 9 = (σ 55 9) from ((congrFun (f71 55 (by decide)) 9).trans (congrFun (f55 55 (by decide)) 9))))
            have z140 : (σ69 55 42).toInt = (σ 55 42).toInt := (congrArg Int32.toInt (show σ69 55 42 = (σ 55 42) from ((congrFun (f71 55 (by decide)) 42).trans (congrFun (f55 55 (by decide)) 42))))
            have z141 : (σ69 26 6).toInt = (σ 26 6).toInt := (congrArg Int32.toInt (show σ69 26 6 = (σ 26 6) from ((congrFun (f71 26 (by decide)) 6).trans (congrFun (f55 26 (by decide)) 6))))
            rw [show σ53 86 = σ 86 from (f55 86 (by decide)), show σ53 87 = σ 87 from (f55 87 (by decide))] at k79
            have p142 := hr4.set k64.1 k64.2.2 k64.2.1 k79.1 k79.2 (Or.inl ⟨rfl, Int32.toInt_inj.mp (show (xs x51.toNatClampNeg).toInt = (-1 : Int32).toInt by rw [show (-1 : Int32).toInt = -1 by decide]; omega)⟩)
            have p143 := hr5.keep k64.1 k64.2.2 (by decide)
            have z144 : (σ69 18 0).toInt = (σ 18 0).toInt := (congrArg Int32.toInt (show σ69 18 0 = (σ 18 0) from ((congrFun (f71 18 (by decide)) 0).trans (congrFun (f55 18 (by decide)) 0))))
            have z145 : (σ69 22 0).toInt = (σ 22 0).toInt := (congrArg Int32.toInt (show σ69 22 0 = (σ 22 0) from ((congrFun (f71 22 (by decide)) 0).trans (congrFun (f55 22 (by decide)) 0))))
            exact by exact ih x81 σ69 τ _ _ ls (by have h9 := tx81; omega) ⟨I82, I83, I84, I85, I86, I87, I88, I89, I90, I91, I92, I93, I94, I95, I96, I97, I98, I99, I100, I101, I102, I72, I103, I104, p105, p106, p107, p108, p109, p110, p111, p112, p113, p114, p115, (by rw [z116, z117]; exact ht0), (by rw [z118, z119]; exact ht1), (by rw [z118, z120, z121]; exact ht2), (by rw [z122, z123]; exact ht3), (by rw [z124, z125]; exact ht4), (by rw [z126, z127]; exact ht5), (by rw [z128, z129]; exact ht6), (by rw [z130, z131]; exact ht7), (by rw [z132, z133]; exact ht8), (by rw [z134, z135]; exact ht9), (by rw [z136]; exact ht10), (by rw [z137]; exact ht11), (by rw [z138, z139]; exact ht12), (by rw [z140]; exact ht13), (by have h9 := tx81; omega), (by have h9 := tx81; omega), (show jNumP (σ69 3) (σ69 56) (σ69 6) (σ69 57) (σ69 7) (σ69 58) (σ69 8) (σ69 59) (σ69 55 6).toInt (σ69 55 4).toInt by rw [show σ69 3 = σ 3 from ((f71 3 (by decide)).trans (f55 3 (by decide))), show σ69 56 = σ 56 from ((f71 56 (by decide)).trans (f55 56 (by decide))), show σ69 6 = σ 6 from ((f71 6 (by decide)).trans (f55 6 (by decide))), show σ69 57 = σ 57 from ((f71 57 (by decide)).trans (f55 57 (by decide))), show σ69 7 = σ 7 from ((f71 7 (by decide)).trans (f55 7 (by decide))), show σ69 58 = σ 58 from ((f71 58 (by decide)).trans (f55 58 (by decide))), show σ69 8 = σ 8 from ((f71 8 (by decide)).trans (f55 8 (by decide))), show σ69 59 = σ 59 from ((f71 59 (by decide)).trans (f55 59 (by decide))), show (σ69 55 6).toInt = (σ 55 6).toInt from z117, show (σ69 55 4).toInt = (σ 55 4).toInt from z121]; exact hr0), (show jOvP (σ69 56) (σ69 57) (σ69 58) (σ69 59) (σ69 55 4).toInt by rw [show σ69 56 = σ 56 from ((f71 56 (by decide)).trans (f55 56 (by decide))), show σ69 57 = σ 57 from ((f71 57 (by decide)).trans (f55 57 (by decide))), show σ69 58 = σ 58 from ((f71 58 (by decide)).trans (f55 58 (by decide))), show σ69 59 = σ 59 from ((f71 59 (by decide)).trans (f55 59 (by decide))), show (σ69 55 4).toInt = (σ 55 4).toInt from z121]; exact hr1), (show jTp (σ69 10) (σ69 63) (σ69 55 15).toInt by rw [show σ69 10 = σ 10 from ((f71 10 (by decide)).trans (f55 10 (by decide))), show σ69 63 = σ 63 from ((f71 63 (by decide)).trans (f55 63 (by decide)))]; exact hr2.le (by omega)), (show jSo (σ69 17) (σ69 62) (σ69 16 0).toInt by rw [show σ69 17 = σ 17 from ((f71 17 (by decide)).trans (f55 17 (by decide))), show σ69 62 = σ 62 from ((f71 62 (by decide)).trans (f55 62 (by decide))), show (σ69 16 0).toInt = (σ 16 0).toInt from z124]; exact hr3), (show jShP (σ69 51) (σ69 52) (σ69 53) (σ69 86) (σ69 87) (σ69 55 32).toInt by rw [show σ69 51 = σ53 51 from (f71 51 (by decide)), show σ69 52 = σ53 52 from (f71 52 (by decide)), show σ69 53 = σ53 53 from (f71 53 (by decide))]; exact (p142.up (by omega) (by omega))), (show jEl (σ69 51) (σ69 52) (τ 54) (τ 88) by rw [show σ69 51 = σ53 51 from (f71 51 (by decide)), show σ69 52 = σ53 52 from (f71 52 (by decide))]; exact p143), (show jByP (σ69 51) (σ69 52) (τ 54) by rw [show σ69 51 = σ53 51 from (f71 51 (by decide)), show σ69 52 = σ53 52 from (f71 52 (by decide))]; exact (hr6.keep k64.1 k64.2.2 (by decide))), (show jBk (σ69 48) (σ69 80) (σ69 49) (σ69 81) (σ69 55 47).toInt by rw [show σ69 48 = σ 48 from ((f71 48 (by decide)).trans (f55 48 (by decide))), show σ69 49 = σ 49 from ((f71 49 (by decide)).trans (f55 49 (by decide))), show σ69 80 = σ 80 from ((f71 80 (by decide)).trans (f55 80 (by decide))), show σ69 81 = σ 81 from ((f71 81 (by decide)).trans (f55 81 (by decide))), show (σ69 55 47).toInt = (σ 55 47).toInt from z135]; exact hr7), (show jKd (σ69 39) (σ69 70) (σ69 55 32).toInt by rw [show σ69 39 = σ 39 from ((f71 39 (by decide)).trans (f55 39 (by decide))), show σ69 70 = σ 70 from ((f71 70 (by decide)).trans (f55 70 (by decide))), show (σ69 55 32).toInt = (σ 55 32).toInt from z131]; exact hr8), (show jTt (σ69 42) (σ69 85) (σ69 55 55).toInt by rw [show σ69 42 = σ 42 from ((f71 42 (by decide)).trans (f55 42 (by decide))), show σ69 85 = σ 85 from ((f71 85 (by decide)).trans (f55 85 (by decide))), show (σ69 55 55).toInt = (σ 55 55).toInt from z133]; exact hr9), (fun k hk => by rw [show σ69 4 = σ 4 from ((f71 4 (by decide)).trans (f55 4 (by decide))), show σ69 5 = σ 5 from ((f71 5 (by decide)).trans (f55 5 (by decide))), show σ69 60 = σ 60 from ((f71 60 (by decide)).trans (f55 60 (by decide))), show σ69 61 = σ 61 from ((f71 61 (by decide)).trans (f55 61 (by decide)))]; exact hr10 k (by omega)), (fun nm => by rw [show σ69 19 = σ 19 from ((f71 19 (by decide)).trans (f55 19 (by decide))), show σ69 64 = σ 64 from ((f71 64 (by decide)).trans (f55 64 (by decide))), show σ69 65 = σ 65 from ((f71 65 (by decide)).trans (f55 65 (by decide))), show (σ69 18 0).toInt = (σ 18 0).toInt from z144]; exact hr11 nm), (fun nm => by rw [show σ69 23 = σ 23 from ((f71 23 (by decide)).trans (f55 23 (by decide))), show σ69 64 = σ 64 from ((f71 64 (by decide)).trans (f55 64 (by decide))), show σ69 65 = σ 65 from ((f71 65 (by decide)).trans (f55 65 (by decide))), show (σ69 22 0).toInt = (σ 22 0).toInt from z145]; exact hr12 nm), (show jAlP (σ69 56) (σ69 57) (σ69 58) (σ69 59) (σ69 55 4).toInt by rw [show σ69 56 = σ 56 from ((f71 56 (by decide)).trans (f55 56 (by decide))), show σ69 57 = σ 57 from ((f71 57 (by decide)).trans (f55 57 (by decide))), show σ69 58 = σ 58 from ((f71 58 (by decide)).trans (f55 58 (by decide))), show σ69 59 = σ 59 from ((f71 59 (by decide)).trans (f55 59 (by decide))), show (σ69 55 4).toInt = (σ 55 4).toInt from z121]; exact hr13), (show jqbN (σ69 80) (σ69 55 47).toInt by rw [show σ69 80 = σ 80 from ((f71 80 (by decide)).trans (f55 80 (by decide))), show (σ69 55 47).toInt = (σ 55 47).toInt from z135]; exact hr14)⟩ hP hS (lv_sub hl [0, 1, 2, 3] rfl)
        · obtain ⟨q149, k146, k147, k148⟩ := h75
          exact absurd (by omega : False) id
        · obtain ⟨q152, k150, k151⟩ := h76
          exact absurd (by omega : False) id
    · obtain ⟨q156, k153, k154, k155⟩ := h60
      have q156 := q156.symm
      subst q156
      refine lv_pop hx hb dL_law_1070 rfl ?_
      refine lv_aload_n hx hb dL_law_1071 rfl (lv_at hl 1 rfl) ?_
      refine lv_aload_n hx hb dL_law_1072 rfl (lv_at hl 3 rfl) ?_
      refine lv_iload_n hx hb dL_law_1073 rfl (lv_at hl 0 rfl) ?_
      refine lv_iconst (v := 1) hx hb dL_law_1074 (by decide) ?_
      refine lv_iadd hx hb dL_law_1075 ?_
      refine jtopr ex49.symm ?_
      exact by
       refine va_sld hx hb hX hbl hbA hS (jin tx49 (by omega) (by omega)) dL_law_1076 ?_
       refine lv_aload_n hx hb dL_law_1077 rfl (lv_at hl 3 rfl) ?_
       refine lv_iload_n hx hb dL_law_1078 rfl (lv_at hl 0 rfl) ?_
       refine lv_iconst (v := 2) hx hb dL_law_1079 (by decide) ?_
       refine lv_iadd hx hb dL_law_1080 ?_
       refine jtopr ex51.symm ?_
       refine va_sld hx hb hX hbl hbA hS (jin tx51 (by omega) (by omega)) dL_law_1081 ?_
       have I157 : jI106 σ53 := jI106_fr (congrFun (f55 55 (by decide)) 32) (f55 70 (by decide)) (f55 71 (by decide)) (f55 72 (by decide)) hI106
       have I158 : jI110 σ53 := jI110_fr (f55 86 (by decide)) (f55 87 (by decide)) hI110
       exact by
        have z159 : (σ53 55 32).toInt = (σ 55 32).toInt := (congrArg Int32.toInt (show σ53 55 32 = (σ 55 32) from (congrFun (f55 55 (by decide)) 32)))
        refine jcallV (As := [.int (xs x49.toNatClampNeg), .int (xs x51.toNatClampNeg)]) (rest := []) ⟨hx, hb, hml, hown, hts⟩ hK hP hA hS hZ (c_X12_keep l D cI cL ad zz hJ σ53 τ (xs x49.toNatClampNeg) ((xs x49.toNatClampNeg).toInt) rfl (xs x51.toNatClampNeg) ((xs x51.toNatClampNeg).toInt) rfl I157 I158) cw_RL_140 (jc_55 cI cL ad σ53 τ) rfl ⟨Nat.le_of_ble_eq_true rfl, Nat.le_of_ble_eq_true rfl⟩ rfl rfl rfl hl.1 rfl (Nat.le_of_ble_eq_true rfl) dL_law_1082 ⟨Nat.le_of_ble_eq_true rfl, Nat.le_of_ble_eq_true rfl⟩ (fun r161 σ160 τ160 H locs h160 hP hS => ?_)
        obtain ⟨rfl, f162, I163, h160⟩ := h160
        rcases h160 with h165 | h166 | h167
        · obtain ⟨q171, k168, k169, k170⟩ := h165
          exact absurd (by omega : False) id
        · obtain ⟨q175, k172, k173, k174⟩ := h166
          have q175 := q175.symm
          subst q175
          refine lv_pop hx hb dL_law_1085 rfl ?_
          refine lv_goto (tgt := 1357) hx hb dL_law_1086 (by decide) ?_
          obtain ⟨x176, ex176⟩ : ∃ y : Int32, y = x0 + 6 := ⟨_, rfl⟩
          exact by
           have tx176 : x176.toInt = x0.toInt + 6 := (jadd ex176 rfl jz_6 (by omega) (by omega)).trans (by omega)
           refine lv_iinc (v := x176) (lv' := [(3, .int x176), (2, .ref (ad 55)), (1, .ref (ad 0)), (0, .ref b)]) hx hb dL_law_1357 hl (k := 0) rfl (by rw [ex176]; rfl) (by decide) rfl (fun ls hl => ?_)
           refine lv_goto (tgt := 18) hx hb dL_law_1360 (by decide) ?_
           have I177 : jI2 σ160 := jI2_fr ((congrFun (f162 2 (by decide)) 0).trans (congrFun (f55 2 (by decide)) 0)) ((congrFun (f162 2 (by decide)) 1).trans (congrFun (f55 2 (by decide)) 1)) ((congrFun (f162 2 (by decide)) 2).trans (congrFun (f55 2 (by decide)) 2)) ((congrFun (f162 2 (by decide)) 3).trans (congrFun (f55 2 (by decide)) 3)) ((f162 6 (by decide)).trans (f55 6 (by decide))) ((f162 5 (by decide)).trans (f55 5 (by decide))) hI2
           have I178 : jI9 σ160 := jI9_fr ((congrFun (f162 9 (by decide)) 0).trans (congrFun (f55 9 (by decide)) 0)) ((f162 10 (by decide)).trans (f55 10 (by decide))) ((f162 11 (by decide)).trans (f55 11 (by decide))) hI9
           have I179 : jI12 σ160 := jI12_fr ((congrFun (f162 12 (by decide)) 0).trans (congrFun (f55 12 (by decide)) 0)) ((f162 13 (by decide)).trans (f55 13 (by decide))) hI12
           have I180 : jI16 σ160 := jI16_fr ((congrFun (f162 16 (by decide)) 0).trans (congrFun (f55 16 (by decide)) 0)) ((congrFun (f162 16 (by decide)) 1).trans (congrFun (f55 16 (by decide)) 1)) ((congrFun (f162 16 (by decide)) 2).trans (congrFun (f55 16 (by decide)) 2)) ((f162 17 (by decide)).trans (f55 17 (by decide))) hI16
           have I181 : jI18 σ160 := jI18_fr ((congrFun (f162 18 (by decide)) 0).trans (congrFun (f55 18 (by decide)) 0)) ((f162 19 (by decide)).trans (f55 19 (by decide))) hI18
           have I182 : jI22 σ160 := jI22_fr ((congrFun (f162 22 (by decide)) 0).trans (congrFun (f55 22 (by decide)) 0)) ((f162 23 (by decide)).trans (f55 23 (by decide))) hI22
           exact by
            have I183 : jI31 σ160 := jI31_fr ((congrFun (f162 31 (by decide)) 8).trans (congrFun (f55 31 (by decide)) 8)) ((congrFun (f162 31 (by decide)) 10).trans (congrFun (f55 31 (by decide)) 10)) ((congrFun (f162 31 (by decide)) 11).trans (congrFun (f55 31 (by decide)) 11)) ((f162 33 (by decide)).trans (f55 33 (by decide))) ((f162 35 (by decide)).trans (f55 35 (by decide))) ((f162 36 (by decide)).trans (f55 36 (by decide))) hI31
            have I184 : jI38 σ160 := jI38_fr ((congrFun (f162 38 (by decide)) 0).trans (congrFun (f55 38 (by decide)) 0)) ((congrFun (f162 38 (by decide)) 1).trans (congrFun (f55 38 (by decide)) 1)) ((f162 39 (by decide)).trans (f55 39 (by decide))) hI38
            have I185 : jI43 σ160 := jI43_fr ((congrFun (f162 43 (by decide)) 8).trans (congrFun (f55 43 (by decide)) 8)) hI43
            have I186 : jI47 σ160 := jI47_fr ((congrFun (f162 47 (by decide)) 0).trans (congrFun (f55 47 (by decide)) 0)) ((f162 48 (by decide)).trans (f55 48 (by decide))) ((f162 49 (by decide)).trans (f55 49 (by decide))) hI47
            have I187 : jI50 σ160 := jI50_fr (f162 52 (by decide)) I56
            have I188 : jI0 σ160 := jI0_fr ((f162 1 (by decide)).trans (f55 1 (by decide))) hI0
            have I189 : jI26 σ160 := jI26_fr ((congrFun (f162 26 (by decide)) 6).trans (congrFun (f55 26 (by decide)) 6)) hI26
            have I190 : jI101 σ160 := jI101_fr ((congrFun (f162 55 (by decide)) 4).trans (congrFun (f55 55 (by decide)) 4)) ((congrFun (f162 55 (by decide)) 5).trans (congrFun (f55 55 (by decide)) 5)) ((f162 56 (by decide)).trans (f55 56 (by decide))) ((f162 57 (by decide)).trans (f55 57 (by decide))) ((f162 58 (by decide)).trans (f55 58 (by decide))) ((f162 59 (by decide)).trans (f55 59 (by decide))) hI101
            have I191 : jI102 σ160 := jI102_fr ((congrFun (f162 55 (by decide)) 6).trans (congrFun (f55 55 (by decide)) 6)) ((f162 60 (by decide)).trans (f55 60 (by decide))) ((f162 61 (by decide)).trans (f55 61 (by decide))) hI102
            have I192 : jI103 σ160 := jI103_fr ((congrFun (f162 55 (by decide)) 9).trans (congrFun (f55 55 (by decide)) 9)) hI103
            have I193 : jI104 σ160 := jI104_fr ((congrFun (f162 55 (by decide)) 10).trans (congrFun (f55 55 (by decide)) 10)) ((congrFun (f162 55 (by decide)) 12).trans (congrFun (f55 55 (by decide)) 12)) ((congrFun (f162 55 (by decide)) 13).trans (congrFun (f55 55 (by decide)) 13)) ((f162 62 (by decide)).trans (f55 62 (by decide))) ((f162 67 (by decide)).trans (f55 67 (by decide))) hI104
            have I194 : jI105 σ160 := jI105_fr ((congrFun (f162 55 (by decide)) 15).trans (congrFun (f55 55 (by decide)) 15)) ((f162 65 (by decide)).trans (f55 65 (by decide))) hI105
            have I195 : jI106 σ160 := jI106_fr (congrFun (f162 55 (by decide)) 32) (f162 70 (by decide)) (f162 71 (by decide)) (f162 72 (by decide)) I157
            have I196 : jI107 σ160 := jI107_fr ((congrFun (f162 55 (by decide)) 12).trans (congrFun (f55 55 (by decide)) 12)) ((congrFun (f162 55 (by decide)) 47).trans (congrFun (f55 55 (by decide)) 47)) ((f162 80 (by decide)).trans (f55 80 (by decide))) hI107
            have I197 : jI109 σ160 := jI109_fr ((congrFun (f162 55 (by decide)) 50).trans (congrFun (f55 55 (by decide)) 50)) hI109
            have I198 : jI111 σ160 := jI111_fr ((f162 79 (by decide)).trans (f55 79 (by decide))) hI111
            have I199 : jI119 σ160 := jI119_fr ((f162 68 (by decide)).trans (f55 68 (by decide))) hI119
            have p200 : jKept σ160 := jKept.fr ((f162 75 (by decide)).trans (f55 75 (by decide))) ((f162 76 (by decide)).trans (f55 76 (by decide))) ((f162 77 (by decide)).trans (f55 77 (by decide))) hs_jKept
            have p201 : jBook σ160 := jBook.fr ((congrFun (f162 55 (by decide)) 47).trans (congrFun (f55 55 (by decide)) 47)) ((congrFun (f162 55 (by decide)) 10).trans (congrFun (f55 55 (by decide)) 10)) ((f162 81 (by decide)).trans (f55 81 (by decide))) hs_jBook
            have p202 : jNd12 σ160 := jNd12.fr ((congrFun (f162 12 (by decide)) 0).trans (congrFun (f55 12 (by decide)) 0)) ((congrFun (f162 12 (by decide)) 1).trans (congrFun (f55 12 (by decide)) 1)) ((f162 13 (by decide)).trans (f55 13 (by decide))) hs_jNd12
            have p203 : jN67 σ160 := jN67.fr ((f162 24 (by decide)).trans (f55 24 (by decide))) hs_jN67
            have p204 : jBl σ160 := jBl.fr ((congrFun (f162 22 (by decide)) 0).trans (congrFun (f55 22 (by decide)) 0)) ((congrFun (f162 22 (by decide)) 1).trans (congrFun (f55 22 (by decide)) 1)) ((f162 23 (by decide)).trans (f55 23 (by decide))) ((congrFun (f162 26 (by decide)) 6).trans (congrFun (f55 26 (by decide)) 6)) ((congrFun (f162 26 (by decide)) 7).trans (congrFun (f55 26 (by decide)) 7)) ((f162 29 (by decide)).trans (f55 29 (by decide))) ((f162 30 (by decide)).trans (f55 30 (by decide))) hs_jBl
            have p205 : jKb σ160 := jKb.fr ((congrFun (f162 31 (by decide)) 8).trans (congrFun (f55 31 (by decide)) 8)) ((congrFun (f162 31 (by decide)) 11).trans (congrFun (f55 31 (by decide)) 11)) ((f162 32 (by decide)).trans (f55 32 (by decide))) hs_jKb
            have p206 : jTR σ160 := jTR.fr ((f162 64 (by decide)).trans (f55 64 (by decide))) ((f162 65 (by decide)).trans (f55 65 (by decide))) hs_jTR
            have p207 : jKh σ160 := jKh.fr ((congrFun (f162 31 (by decide)) 8).trans (congrFun (f55 31 (by decide)) 8)) ((f162 32 (by decide)).trans (f55 32 (by decide))) ((f162 36 (by decide)).trans (f55 36 (by decide))) ((f162 37 (by decide)).trans (f55 37 (by decide))) hs_jKh
            have p208 : jKg σ160 := jKg.fr ((congrFun (f162 31 (by decide)) 8).trans (congrFun (f55 31 (by decide)) 8)) ((congrFun (f162 31 (by decide)) 9).trans (congrFun (f55 31 (by decide)) 9)) ((congrFun (f162 31 (by decide)) 11).trans (congrFun (f55 31 (by decide)) 11)) ((congrFun (f162 31 (by decide)) 12).trans (congrFun (f55 31 (by decide)) 12)) ((f162 32 (by decide)).trans (f55 32 (by decide))) ((f162 33 (by decide)).trans (f55 33 (by decide))) hs_jKg
            have p209 : jNz σ160 := jNz.fr ((f162 34 (by decide)).trans (f55 34 (by decide))) hs_jNz
            have p210 : jqSt σ160 := jqSt.fr ((f162 78 (by decide)).trans (f55 78 (by decide))) ((congrFun (f162 55 (by decide)) 42).trans (congrFun (f55 55 (by decide)) 42)) hs_jqSt
            have z211 : (σ160 2 0).toInt = (σ 2 0).toInt := (congrArg Int32.toInt (show σ160 2 0 = (σ 2 0) from ((congrFun (f162 2 (by decide)) 0).trans (congrFun (f55 2 (by decide)) 0))))
            have z212 : (σ160 55 6).toInt = (σ 55 6).toInt := (congrArg Int32.toInt (show σ160 55 6 = (σ 55 6) from ((congrFun (f162 55 (by decide)) 6).trans (congrFun (f55 55 (by decide)) 6))))
            have z213 : (σ160 2 2).toInt = (σ 2 2).toInt := (congrArg Int32.toInt (show σ160 2 2 = (σ 2 2) from ((congrFun (f162 2 (by decide)) 2).trans (congrFun (f55 2 (by decide)) 2))))
            have z214 : (σ160 55 5).toInt = (σ 55 5).toInt := (congrArg Int32.toInt (show σ160 55 5 = (σ 55 5) from ((congrFun (f162 55 (by decide)) 5).trans (congrFun (f55 55 (by decide)) 5))))
            have z215 : (σ160 2 3).toInt = (σ 2 3).toInt := (congrArg Int32.toInt (show σ160 2 3 = (σ 2 3) from ((congrFun (f162 2 (by decide)) 3).trans (congrFun (f55 2 (by decide)) 3))))
            have z216 : (σ160 55 4).toInt = (σ 55 4).toInt := (congrArg Int32.toInt (show σ160 55 4 = (σ 55 4) from ((congrFun (f162 55 (by decide)) 4).trans (congrFun (f55 55 (by decide)) 4))))
            have z217 : (σ160 9 0).toInt = (σ 9 0).toInt := (congrArg Int32.toInt (show σ160 9 0 = (σ 9 0) from ((congrFun (f162 9 (by decide)) 0).trans (congrFun (f55 9 (by decide)) 0))))
            have z218 : (σ160 55 15).toInt = (σ 55 15).toInt := (congrArg Int32.toInt (show σ160 55 15 = (σ 55 15) from ((congrFun (f162 55 (by decide)) 15).trans (congrFun (f55 55 (by decide)) 15))))
            have z219 : (σ160 16 0).toInt = (σ 16 0).toInt := (congrArg Int32.toInt (show σ160 16 0 = (σ 16 0) from ((congrFun (f162 16 (by decide)) 0).trans (congrFun (f55 16 (by decide)) 0))))
            have z220 : (σ160 55 10).toInt = (σ 55 10).toInt := (congrArg Int32.toInt (show σ160 55 10 = (σ 55 10) from ((congrFun (f162 55 (by decide)) 10).trans (congrFun (f55 55 (by decide)) 10))))
            have z221 : (σ160 16 1).toInt = (σ 16 1).toInt := (congrArg Int32.toInt (show σ160 16 1 = (σ 16 1) from ((congrFun (f162 16 (by decide)) 1).trans (congrFun (f55 16 (by decide)) 1))))
            have z222 : (σ160 55 12).toInt = (σ 55 12).toInt := (congrArg Int32.toInt (show σ160 55 12 = (σ 55 12) from ((congrFun (f162 55 (by decide)) 12).trans (congrFun (f55 55 (by decide)) 12))))
            have z223 : (σ160 16 2).toInt = (σ 16 2).toInt := (congrArg Int32.toInt (show σ160 16 2 = (σ 16 2) from ((congrFun (f162 16 (by decide)) 2).trans (congrFun (f55 16 (by decide)) 2))))
            have z224 : (σ160 55 13).toInt = (σ 55 13).toInt := (congrArg Int32.toInt (show σ160 55 13 = (σ 55 13) from ((congrFun (f162 55 (by decide)) 13).trans (congrFun (f55 55 (by decide)) 13))))
            have z225 : (σ160 38 0).toInt = (σ 38 0).toInt := (congrArg Int32.toInt (show σ160 38 0 = (σ 38 0) from ((congrFun (f162 38 (by decide)) 0).trans (congrFun (f55 38 (by decide)) 0))))
            have z226 : (σ160 55 32).toInt = (σ 55 32).toInt := (congrArg Int32.toInt (show σ160 55 32 = (σ 55 32) from ((congrFun (f162 55 (by decide)) 32).trans (congrFun (f55 55 (by decide)) 32))))
            have z227 : (σ160 38 1).toInt = (σ 38 1).toInt := (congrArg Int32.toInt (show σ160 38 1 = (σ 38 1) from ((congrFun (f162 38 (by decide)) 1).trans (congrFun (f55 38 (by decide)) 1))))
            have z228 : (σ160 55 55).toInt = (σ 55 55).toInt := (congrArg Int32.toInt (show σ160 55 55 = (σ 55 55) from ((congrFun (f162 55 (by decide)) 55).trans (congrFun (f55 55 (by decide)) 55))))
            have z229 : (σ160 47 0).toInt = (σ 47 0).toInt := (congrArg Int32.toInt (show σ160 47 0 = (σ 47 0) from ((congrFun (f162 47 (by decide)) 0).trans (congrFun (f55 47 (by decide)) 0))))
            have z230 : (σ160 55 47).toInt = (σ 55 47).toInt := (congrArg Int32.toInt (show σ160 55 47 = (σ 55 47) from ((congrFun (f162 55 (by decide)) 47).trans (congrFun (f55 55 (by decide)) 47))))
            have z231 : (σ160 55 30).toInt = (σ 55 30).toInt := (congrArg Int32.toInt (show σ160 55 30 = (σ 55 30) from ((congrFun (f162 55 (by decide)) 30).trans (congrFun (f55 55 (by decide)) 30))))
            have z232 : (σ160 55 31).toInt = (σ 55 31).toInt := (congrArg Int32.toInt (show σ160 55 31 = (σ 55 31) from ((congrFun (f162 55 (by decide)) 31).trans (congrFun (f55 55 (by decide)) 31))))
            have z233 : (σ160 2 1).toInt = (σ 2 1).toInt := (congrArg Int32.toInt (show σ160 2 1 = (σ 2 1) from ((congrFun (f162 2 (by decide)) 1).trans (congrFun (f55 2 (by decide)) 1))))
            have z234 : (σ160 55 9).toInt = (σ 55 9).toInt := (congrArg Int32.toInt (show σ160 55 9 = (σ 55 9) from ((congrFun (f162 55 (by decide)) 9).trans (congrFun (f55 55 (by decide)) 9))))
            have z235 : (σ160 55 42).toInt = (σ 55 42).toInt := (congrArg Int32.toInt (show σ160 55 42 = (σ 55 42) from ((congrFun (f162 55 (by decide)) 42).trans (congrFun (f55 55 (by decide)) 42))))
            have z236 : (σ160 26 6).toInt = (σ 26 6).toInt := (congrArg Int32.toInt (show σ160 26 6 = (σ 26 6) from ((congrFun (f162 26 (by decide)) 6).trans (congrFun (f55 26 (by decide)) 6))))
            rw [show σ53 86 = σ 86 from (f55 86 (by decide)), show σ53 87 = σ 87 from (f55 87 (by decide))] at k174
            have p237 := hr4.set k155.1 k155.2.2 k155.2.1 k174.1 k174.2 (Or.inr (Or.inl ⟨rfl, rfl, by omega, by omega⟩))
            have p238 := hr5.keep k155.1 k155.2.2 (by decide)
            have z239 : (σ160 18 0).toInt = (σ 18 0).toInt := (congrArg Int32.toInt (show σ160 18 0 = (σ 18 0) from ((congrFun (f162 18 (by decide)) 0).trans (congrFun (f55 18 (by decide)) 0))))
            have z240 : (σ160 22 0).toInt = (σ 22 0).toInt := (congrArg Int32.toInt (show σ160 22 0 = (σ 22 0) from ((congrFun (f162 22 (by decide)) 0).trans (congrFun (f55 22 (by decide)) 0))))
            exact by exact ih x176 σ160 τ _ _ ls (by have h9 := tx176; omega) ⟨I177, I178, I179, I180, I181, I182, I183, I184, I185, I186, I187, I188, I189, I190, I191, I192, I193, I194, I195, I196, I197, I163, I198, I199, p200, p201, p202, p203, p204, p205, p206, p207, p208, p209, p210, (by rw [z211, z212]; exact ht0), (by rw [z213, z214]; exact ht1), (by rw [z213, z215, z216]; exact ht2), (by rw [z217, z218]; exact ht3), (by rw [z219, z220]; exact ht4), (by rw [z221, z222]; exact ht5), (by rw [z223, z224]; exact ht6), (by rw [z225, z226]; exact ht7), (by rw [z227, z228]; exact ht8), (by rw [z229, z230]; exact ht9), (by rw [z231]; exact ht10), (by rw [z232]; exact ht11), (by rw [z233, z234]; exact ht12), (by rw [z235]; exact ht13), (by have h9 := tx176; omega), (by have h9 := tx176; omega), (show jNumP (σ160 3) (σ160 56) (σ160 6) (σ160 57) (σ160 7) (σ160 58) (σ160 8) (σ160 59) (σ160 55 6).toInt (σ160 55 4).toInt by rw [show σ160 3 = σ 3 from ((f162 3 (by decide)).trans (f55 3 (by decide))), show σ160 56 = σ 56 from ((f162 56 (by decide)).trans (f55 56 (by decide))), show σ160 6 = σ 6 from ((f162 6 (by decide)).trans (f55 6 (by decide))), show σ160 57 = σ 57 from ((f162 57 (by decide)).trans (f55 57 (by decide))), show σ160 7 = σ 7 from ((f162 7 (by decide)).trans (f55 7 (by decide))), show σ160 58 = σ 58 from ((f162 58 (by decide)).trans (f55 58 (by decide))), show σ160 8 = σ 8 from ((f162 8 (by decide)).trans (f55 8 (by decide))), show σ160 59 = σ 59 from ((f162 59 (by decide)).trans (f55 59 (by decide))), show (σ160 55 6).toInt = (σ 55 6).toInt from z212, show (σ160 55 4).toInt = (σ 55 4).toInt from z216]; exact hr0), (show jOvP (σ160 56) (σ160 57) (σ160 58) (σ160 59) (σ160 55 4).toInt by rw [show σ160 56 = σ 56 from ((f162 56 (by decide)).trans (f55 56 (by decide))), show σ160 57 = σ 57 from ((f162 57 (by decide)).trans (f55 57 (by decide))), show σ160 58 = σ 58 from ((f162 58 (by decide)).trans (f55 58 (by decide))), show σ160 59 = σ 59 from ((f162 59 (by decide)).trans (f55 59 (by decide))), show (σ160 55 4).toInt = (σ 55 4).toInt from z216]; exact hr1), (show jTp (σ160 10) (σ160 63) (σ160 55 15).toInt by rw [show σ160 10 = σ 10 from ((f162 10 (by decide)).trans (f55 10 (by decide))), show σ160 63 = σ 63 from ((f162 63 (by decide)).trans (f55 63 (by decide)))]; exact hr2.le (by omega)), (show jSo (σ160 17) (σ160 62) (σ160 16 0).toInt by rw [show σ160 17 = σ 17 from ((f162 17 (by decide)).trans (f55 17 (by decide))), show σ160 62 = σ 62 from ((f162 62 (by decide)).trans (f55 62 (by decide))), show (σ160 16 0).toInt = (σ 16 0).toInt from z219]; exact hr3), (show jShP (σ160 51) (σ160 52) (σ160 53) (σ160 86) (σ160 87) (σ160 55 32).toInt by rw [show σ160 51 = σ53 51 from (f162 51 (by decide)), show σ160 52 = σ53 52 from (f162 52 (by decide)), show σ160 53 = σ53 53 from (f162 53 (by decide))]; exact (p237.up (by omega) (by omega))), (show jEl (σ160 51) (σ160 52) (τ 54) (τ 88) by rw [show σ160 51 = σ53 51 from (f162 51 (by decide)), show σ160 52 = σ53 52 from (f162 52 (by decide))]; exact p238), (show jByP (σ160 51) (σ160 52) (τ 54) by rw [show σ160 51 = σ53 51 from (f162 51 (by decide)), show σ160 52 = σ53 52 from (f162 52 (by decide))]; exact (hr6.keep k155.1 k155.2.2 (by decide))), (show jBk (σ160 48) (σ160 80) (σ160 49) (σ160 81) (σ160 55 47).toInt by rw [show σ160 48 = σ 48 from ((f162 48 (by decide)).trans (f55 48 (by decide))), show σ160 49 = σ 49 from ((f162 49 (by decide)).trans (f55 49 (by decide))), show σ160 80 = σ 80 from ((f162 80 (by decide)).trans (f55 80 (by decide))), show σ160 81 = σ 81 from ((f162 81 (by decide)).trans (f55 81 (by decide))), show (σ160 55 47).toInt = (σ 55 47).toInt from z230]; exact hr7), (show jKd (σ160 39) (σ160 70) (σ160 55 32).toInt by rw [show σ160 39 = σ 39 from ((f162 39 (by decide)).trans (f55 39 (by decide))), show σ160 70 = σ 70 from ((f162 70 (by decide)).trans (f55 70 (by decide))), show (σ160 55 32).toInt = (σ 55 32).toInt from z226]; exact hr8), (show jTt (σ160 42) (σ160 85) (σ160 55 55).toInt by rw [show σ160 42 = σ 42 from ((f162 42 (by decide)).trans (f55 42 (by decide))), show σ160 85 = σ 85 from ((f162 85 (by decide)).trans (f55 85 (by decide))), show (σ160 55 55).toInt = (σ 55 55).toInt from z228]; exact hr9), (fun k hk => by rw [show σ160 4 = σ 4 from ((f162 4 (by decide)).trans (f55 4 (by decide))), show σ160 5 = σ 5 from ((f162 5 (by decide)).trans (f55 5 (by decide))), show σ160 60 = σ 60 from ((f162 60 (by decide)).trans (f55 60 (by decide))), show σ160 61 = σ 61 from ((f162 61 (by decide)).trans (f55 61 (by decide)))]; exact hr10 k (by omega)), (fun nm => by rw [show σ160 19 = σ 19 from ((f162 19 (by decide)).trans (f55 19 (by decide))), show σ160 64 = σ 64 from ((f162 64 (by decide)).trans (f55 64 (by decide))), show σ160 65 = σ 65 from ((f162 65 (by decide)).trans (f55 65 (by decide))), show (σ160 18 0).toInt = (σ 18 0).toInt from z239]; exact hr11 nm), (fun nm => by rw [show σ160 23 = σ 23 from ((f162 23 (by decide)).trans (f55 23 (by decide))), show σ160 64 = σ 64 from ((f162 64 (by decide)).trans (f55 64 (by decide))), show σ160 65 = σ 65 from ((f162 65 (by decide)).trans (f55 65 (by decide))), show (σ160 22 0).toInt = (σ 22 0).toInt from z240]; exact hr12 nm), (show jAlP (σ160 56) (σ160 57) (σ160 58) (σ160 59) (σ160 55 4).toInt by rw [show σ160 56 = σ 56 from ((f162 56 (by decide)).trans (f55 56 (by decide))), show σ160 57 = σ 57 from ((f162 57 (by decide)).trans (f55 57 (by decide))), show σ160 58 = σ 58 from ((f162 58 (by decide)).trans (f55 58 (by decide))), show σ160 59 = σ 59 from ((f162 59 (by decide)).trans (f55 59 (by decide))), show (σ160 55 4).toInt = (σ 55 4).toInt from z216]; exact hr13), (show jqbN (σ160 80) (σ160 55 47).toInt by rw [show σ160 80 = σ 80 from ((f162 80 (by decide)).trans (f55 80 (by decide))), show (σ160 55 47).toInt = (σ 55 47).toInt from z230]; exact hr14)⟩ hP hS (lv_sub hl [0, 1, 2, 3] rfl)
        · obtain ⟨q243, k241, k242⟩ := h167
          exact absurd (by omega : False) id
    · obtain ⟨q246, k244, k245⟩ := h61
      have q246 := q246.symm
      subst q246
      refine lv_pop hx hb dL_law_1070 rfl ?_
      refine lv_aload_n hx hb dL_law_1071 rfl (lv_at hl 1 rfl) ?_
      refine lv_aload_n hx hb dL_law_1072 rfl (lv_at hl 3 rfl) ?_
      refine lv_iload_n hx hb dL_law_1073 rfl (lv_at hl 0 rfl) ?_
      refine lv_iconst (v := 1) hx hb dL_law_1074 (by decide) ?_
      refine lv_iadd hx hb dL_law_1075 ?_
      refine jtopr ex49.symm ?_
      exact by
       refine va_sld hx hb hX hbl hbA hS (jin tx49 (by omega) (by omega)) dL_law_1076 ?_
       refine lv_aload_n hx hb dL_law_1077 rfl (lv_at hl 3 rfl) ?_
       refine lv_iload_n hx hb dL_law_1078 rfl (lv_at hl 0 rfl) ?_
       refine lv_iconst (v := 2) hx hb dL_law_1079 (by decide) ?_
       refine lv_iadd hx hb dL_law_1080 ?_
       refine jtopr ex51.symm ?_
       refine va_sld hx hb hX hbl hbA hS (jin tx51 (by omega) (by omega)) dL_law_1081 ?_
       have I247 : jI106 σ53 := jI106_fr (congrFun (f55 55 (by decide)) 32) (f55 70 (by decide)) (f55 71 (by decide)) (f55 72 (by decide)) hI106
       have I248 : jI110 σ53 := jI110_fr (f55 86 (by decide)) (f55 87 (by decide)) hI110
       exact by
        have z249 : (σ53 55 32).toInt = (σ 55 32).toInt := (congrArg Int32.toInt (show σ53 55 32 = (σ 55 32) from (congrFun (f55 55 (by decide)) 32)))
        refine jcallV (As := [.int (xs x49.toNatClampNeg), .int (xs x51.toNatClampNeg)]) (rest := []) ⟨hx, hb, hml, hown, hts⟩ hK hP hA hS hZ (c_X12_keep l D cI cL ad zz hJ σ53 τ (xs x49.toNatClampNeg) ((xs x49.toNatClampNeg).toInt) rfl (xs x51.toNatClampNeg) ((xs x51.toNatClampNeg).toInt) rfl I247 I248) cw_RL_140 (jc_55 cI cL ad σ53 τ) rfl ⟨Nat.le_of_ble_eq_true rfl, Nat.le_of_ble_eq_true rfl⟩ rfl rfl rfl hl.1 rfl (Nat.le_of_ble_eq_true rfl) dL_law_1082 ⟨Nat.le_of_ble_eq_true rfl, Nat.le_of_ble_eq_true rfl⟩ (fun r251 σ250 τ250 H locs h250 hP hS => ?_)
        obtain ⟨rfl, f252, I253, h250⟩ := h250
        rcases h250 with h255 | h256 | h257
        · obtain ⟨q261, k258, k259, k260⟩ := h255
          exact absurd (by omega : False) id
        · obtain ⟨q265, k262, k263, k264⟩ := h256
          exact absurd (by omega : False) id
        · obtain ⟨q268, k266, k267⟩ := h257
          have q268 := q268.symm
          subst q268
          refine lv_pop hx hb dL_law_1085 rfl ?_
          refine lv_goto (tgt := 1357) hx hb dL_law_1086 (by decide) ?_
          obtain ⟨x269, ex269⟩ : ∃ y : Int32, y = x0 + 6 := ⟨_, rfl⟩
          exact by
           have tx269 : x269.toInt = x0.toInt + 6 := (jadd ex269 rfl jz_6 (by omega) (by omega)).trans (by omega)
           refine lv_iinc (v := x269) (lv' := [(3, .int x269), (2, .ref (ad 55)), (1, .ref (ad 0)), (0, .ref b)]) hx hb dL_law_1357 hl (k := 0) rfl (by rw [ex269]; rfl) (by decide) rfl (fun ls hl => ?_)
           refine lv_goto (tgt := 18) hx hb dL_law_1360 (by decide) ?_
           have I270 : jI2 σ250 := jI2_fr ((congrFun (f252 2 (by decide)) 0).trans (congrFun (f55 2 (by decide)) 0)) ((congrFun (f252 2 (by decide)) 1).trans (congrFun (f55 2 (by decide)) 1)) ((congrFun (f252 2 (by decide)) 2).trans (congrFun (f55 2 (by decide)) 2)) ((congrFun (f252 2 (by decide)) 3).trans (congrFun (f55 2 (by decide)) 3)) ((f252 6 (by decide)).trans (f55 6 (by decide))) ((f252 5 (by decide)).trans (f55 5 (by decide))) hI2
           have I271 : jI9 σ250 := jI9_fr ((congrFun (f252 9 (by decide)) 0).trans (congrFun (f55 9 (by decide)) 0)) ((f252 10 (by decide)).trans (f55 10 (by decide))) ((f252 11 (by decide)).trans (f55 11 (by decide))) hI9
           have I272 : jI12 σ250 := jI12_fr ((congrFun (f252 12 (by decide)) 0).trans (congrFun (f55 12 (by decide)) 0)) ((f252 13 (by decide)).trans (f55 13 (by decide))) hI12
           have I273 : jI16 σ250 := jI16_fr ((congrFun (f252 16 (by decide)) 0).trans (congrFun (f55 16 (by decide)) 0)) ((congrFun (f252 16 (by decide)) 1).trans (congrFun (f55 16 (by decide)) 1)) ((congrFun (f252 16 (by decide)) 2).trans (congrFun (f55 16 (by decide)) 2)) ((f252 17 (by decide)).trans (f55 17 (by decide))) hI16
           have I274 : jI18 σ250 := jI18_fr ((congrFun (f252 18 (by decide)) 0).trans (congrFun (f55 18 (by decide)) 0)) ((f252 19 (by decide)).trans (f55 19 (by decide))) hI18
           have I275 : jI22 σ250 := jI22_fr ((congrFun (f252 22 (by decide)) 0).trans (congrFun (f55 22 (by decide)) 0)) ((f252 23 (by decide)).trans (f55 23 (by decide))) hI22
           exact by
            have I276 : jI31 σ250 := jI31_fr ((congrFun (f252 31 (by decide)) 8).trans (congrFun (f55 31 (by decide)) 8)) ((congrFun (f252 31 (by decide)) 10).trans (congrFun (f55 31 (by decide)) 10)) ((congrFun (f252 31 (by decide)) 11).trans (congrFun (f55 31 (by decide)) 11)) ((f252 33 (by decide)).trans (f55 33 (by decide))) ((f252 35 (by decide)).trans (f55 35 (by decide))) ((f252 36 (by decide)).trans (f55 36 (by decide))) hI31
            have I277 : jI38 σ250 := jI38_fr ((congrFun (f252 38 (by decide)) 0).trans (congrFun (f55 38 (by decide)) 0)) ((congrFun (f252 38 (by decide)) 1).trans (congrFun (f55 38 (by decide)) 1)) ((f252 39 (by decide)).trans (f55 39 (by decide))) hI38
            have I278 : jI43 σ250 := jI43_fr ((congrFun (f252 43 (by decide)) 8).trans (congrFun (f55 43 (by decide)) 8)) hI43
            have I279 : jI47 σ250 := jI47_fr ((congrFun (f252 47 (by decide)) 0).trans (congrFun (f55 47 (by decide)) 0)) ((f252 48 (by decide)).trans (f55 48 (by decide))) ((f252 49 (by decide)).trans (f55 49 (by decide))) hI47
            have I280 : jI50 σ250 := jI50_fr (f252 52 (by decide)) I56
            have I281 : jI0 σ250 := jI0_fr ((f252 1 (by decide)).trans (f55 1 (by decide))) hI0
            have I282 : jI26 σ250 := jI26_fr ((congrFun (f252 26 (by decide)) 6).trans (congrFun (f55 26 (by decide)) 6)) hI26
            have I283 : jI101 σ250 := jI101_fr ((congrFun (f252 55 (by decide)) 4).trans (congrFun (f55 55 (by decide)) 4)) ((congrFun (f252 55 (by decide)) 5).trans (congrFun (f55 55 (by decide)) 5)) ((f252 56 (by decide)).trans (f55 56 (by decide))) ((f252 57 (by decide)).trans (f55 57 (by decide))) ((f252 58 (by decide)).trans (f55 58 (by decide))) ((f252 59 (by decide)).trans (f55 59 (by decide))) hI101
            have I284 : jI102 σ250 := jI102_fr ((congrFun (f252 55 (by decide)) 6).trans (congrFun (f55 55 (by decide)) 6)) ((f252 60 (by decide)).trans (f55 60 (by decide))) ((f252 61 (by decide)).trans (f55 61 (by decide))) hI102
            have I285 : jI103 σ250 := jI103_fr ((congrFun (f252 55 (by decide)) 9).trans (congrFun (f55 55 (by decide)) 9)) hI103
            have I286 : jI104 σ250 := jI104_fr ((congrFun (f252 55 (by decide)) 10).trans (congrFun (f55 55 (by decide)) 10)) ((congrFun (f252 55 (by decide)) 12).trans (congrFun (f55 55 (by decide)) 12)) ((congrFun (f252 55 (by decide)) 13).trans (congrFun (f55 55 (by decide)) 13)) ((f252 62 (by decide)).trans (f55 62 (by decide))) ((f252 67 (by decide)).trans (f55 67 (by decide))) hI104
            have I287 : jI105 σ250 := jI105_fr ((congrFun (f252 55 (by decide)) 15).trans (congrFun (f55 55 (by decide)) 15)) ((f252 65 (by decide)).trans (f55 65 (by decide))) hI105
            have I288 : jI106 σ250 := jI106_fr (congrFun (f252 55 (by decide)) 32) (f252 70 (by decide)) (f252 71 (by decide)) (f252 72 (by decide)) I247
            have I289 : jI107 σ250 := jI107_fr ((congrFun (f252 55 (by decide)) 12).trans (congrFun (f55 55 (by decide)) 12)) ((congrFun (f252 55 (by decide)) 47).trans (congrFun (f55 55 (by decide)) 47)) ((f252 80 (by decide)).trans (f55 80 (by decide))) hI107
            have I290 : jI109 σ250 := jI109_fr ((congrFun (f252 55 (by decide)) 50).trans (congrFun (f55 55 (by decide)) 50)) hI109
            have I291 : jI111 σ250 := jI111_fr ((f252 79 (by decide)).trans (f55 79 (by decide))) hI111
            have I292 : jI119 σ250 := jI119_fr ((f252 68 (by decide)).trans (f55 68 (by decide))) hI119
            have p293 : jKept σ250 := jKept.fr ((f252 75 (by decide)).trans (f55 75 (by decide))) ((f252 76 (by decide)).trans (f55 76 (by decide))) ((f252 77 (by decide)).trans (f55 77 (by decide))) hs_jKept
            have p294 : jBook σ250 := jBook.fr ((congrFun (f252 55 (by decide)) 47).trans (congrFun (f55 55 (by decide)) 47)) ((congrFun (f252 55 (by decide)) 10).trans (congrFun (f55 55 (by decide)) 10)) ((f252 81 (by decide)).trans (f55 81 (by decide))) hs_jBook
            have p295 : jNd12 σ250 := jNd12.fr ((congrFun (f252 12 (by decide)) 0).trans (congrFun (f55 12 (by decide)) 0)) ((congrFun (f252 12 (by decide)) 1).trans (congrFun (f55 12 (by decide)) 1)) ((f252 13 (by decide)).trans (f55 13 (by decide))) hs_jNd12
            have p296 : jN67 σ250 := jN67.fr ((f252 24 (by decide)).trans (f55 24 (by decide))) hs_jN67
            have p297 : jBl σ250 := jBl.fr ((congrFun (f252 22 (by decide)) 0).trans (congrFun (f55 22 (by decide)) 0)) ((congrFun (f252 22 (by decide)) 1).trans (congrFun (f55 22 (by decide)) 1)) ((f252 23 (by decide)).trans (f55 23 (by decide))) ((congrFun (f252 26 (by decide)) 6).trans (congrFun (f55 26 (by decide)) 6)) ((congrFun (f252 26 (by decide)) 7).trans (congrFun (f55 26 (by decide)) 7)) ((f252 29 (by decide)).trans (f55 29 (by decide))) ((f252 30 (by decide)).trans (f55 30 (by decide))) hs_jBl
            have p298 : jKb σ250 := jKb.fr ((congrFun (f252 31 (by decide)) 8).trans (congrFun (f55 31 (by decide)) 8)) ((congrFun (f252 31 (by decide)) 11).trans (congrFun (f55 31 (by decide)) 11)) ((f252 32 (by decide)).trans (f55 32 (by decide))) hs_jKb
            have p299 : jTR σ250 := jTR.fr ((f252 64 (by decide)).trans (f55 64 (by decide))) ((f252 65 (by decide)).trans (f55 65 (by decide))) hs_jTR
            have p300 : jKh σ250 := jKh.fr ((congrFun (f252 31 (by decide)) 8).trans (congrFun (f55 31 (by decide)) 8)) ((f252 32 (by decide)).trans (f55 32 (by decide))) ((f252 36 (by decide)).trans (f55 36 (by decide))) ((f252 37 (by decide)).trans (f55 37 (by decide))) hs_jKh
            have p301 : jKg σ250 := jKg.fr ((congrFun (f252 31 (by decide)) 8).trans (congrFun (f55 31 (by decide)) 8)) ((congrFun (f252 31 (by decide)) 9).trans (congrFun (f55 31 (by decide)) 9)) ((congrFun (f252 31 (by decide)) 11).trans (congrFun (f55 31 (by decide)) 11)) ((congrFun (f252 31 (by decide)) 12).trans (congrFun (f55 31 (by decide)) 12)) ((f252 32 (by decide)).trans (f55 32 (by decide))) ((f252 33 (by decide)).trans (f55 33 (by decide))) hs_jKg
            have p302 : jNz σ250 := jNz.fr ((f252 34 (by decide)).trans (f55 34 (by decide))) hs_jNz
            have p303 : jqSt σ250 := jqSt.fr ((f252 78 (by decide)).trans (f55 78 (by decide))) ((congrFun (f252 55 (by decide)) 42).trans (congrFun (f55 55 (by decide)) 42)) hs_jqSt
            have z304 : (σ250 2 0).toInt = (σ 2 0).toInt := (congrArg Int32.toInt (show σ250 2 0 = (σ 2 0) from ((congrFun (f252 2 (by decide)) 0).trans (congrFun (f55 2 (by decide)) 0))))
            have z305 : (σ250 55 6).toInt = (σ 55 6).toInt := (congrArg Int32.toInt (show σ250 55 6 = (σ 55 6) from ((congrFun (f252 55 (by decide)) 6).trans (congrFun (f55 55 (by decide)) 6))))
            have z306 : (σ250 2 2).toInt = (σ 2 2).toInt := (congrArg Int32.toInt (show σ250 2 2 = (σ 2 2) from ((congrFun (f252 2 (by decide)) 2).trans (congrFun (f55 2 (by decide)) 2))))
            have z307 : (σ250 55 5).toInt = (σ 55 5).toInt := (congrArg Int32.toInt (show σ250 55 5 = (σ 55 5) from ((congrFun (f252 55 (by decide)) 5).trans (congrFun (f55 55 (by decide)) 5))))
            have z308 : (σ250 2 3).toInt = (σ 2 3).toInt := (congrArg Int32.toInt (show σ250 2 3 = (σ 2 3) from ((congrFun (f252 2 (by decide)) 3).trans (congrFun (f55 2 (by decide)) 3))))
            have z309 : (σ250 55 4).toInt = (σ 55 4).toInt := (congrArg Int32.toInt (show σ250 55 4 = (σ 55 4) from ((congrFun (f252 55 (by decide)) 4).trans (congrFun (f55 55 (by decide)) 4))))
            have z310 : (σ250 9 0).toInt = (σ 9 0).toInt := (congrArg Int32.toInt (show σ250 9 0 = (σ 9 0) from ((congrFun (f252 9 (by decide)) 0).trans (congrFun (f55 9 (by decide)) 0))))
            have z311 : (σ250 55 15).toInt = (σ 55 15).toInt := (congrArg Int32.toInt (show σ250 55 15 = (σ 55 15) from ((congrFun (f252 55 (by decide)) 15).trans (congrFun (f55 55 (by decide)) 15))))
            have z312 : (σ250 16 0).toInt = (σ 16 0).toInt := (congrArg Int32.toInt (show σ250 16 0 = (σ 16 0) from ((congrFun (f252 16 (by decide)) 0).trans (congrFun (f55 16 (by decide)) 0))))
            have z313 : (σ250 55 10).toInt = (σ 55 10).toInt := (congrArg Int32.toInt (show σ250 55 10 = (σ 55 10) from ((congrFun (f252 55 (by decide)) 10).trans (congrFun (f55 55 (by decide)) 10))))
            have z314 : (σ250 16 1).toInt = (σ 16 1).toInt := (congrArg Int32.toInt (show σ250 16 1 = (σ 16 1) from ((congrFun (f252 16 (by decide)) 1).trans (congrFun (f55 16 (by decide)) 1))))
            have z315 : (σ250 55 12).toInt = (σ 55 12).toInt := (congrArg Int32.toInt (show σ250 55 12 = (σ 55 12) from ((congrFun (f252 55 (by decide)) 12).trans (congrFun (f55 55 (by decide)) 12))))
            have z316 : (σ250 16 2).toInt = (σ 16 2).toInt := (congrArg Int32.toInt (show σ250 16 2 = (σ 16 2) from ((congrFun (f252 16 (by decide)) 2).trans (congrFun (f55 16 (by decide)) 2))))
            have z317 : (σ250 55 13).toInt = (σ 55 13).toInt := (congrArg Int32.toInt (show σ250 55 13 = (σ 55 13) from ((congrFun (f252 55 (by decide)) 13).trans (congrFun (f55 55 (by decide)) 13))))
            have z318 : (σ250 38 0).toInt = (σ 38 0).toInt := (congrArg Int32.toInt (show σ250 38 0 = (σ 38 0) from ((congrFun (f252 38 (by decide)) 0).trans (congrFun (f55 38 (by decide)) 0))))
            have z319 : (σ250 55 32).toInt = (σ 55 32).toInt := (congrArg Int32.toInt (show σ250 55 32 = (σ 55 32) from ((congrFun (f252 55 (by decide)) 32).trans (congrFun (f55 55 (by decide)) 32))))
            have z320 : (σ250 38 1).toInt = (σ 38 1).toInt := (congrArg Int32.toInt (show σ250 38 1 = (σ 38 1) from ((congrFun (f252 38 (by decide)) 1).trans (congrFun (f55 38 (by decide)) 1))))
            have z321 : (σ250 55 55).toInt = (σ 55 55).toInt := (congrArg Int32.toInt (show σ250 55 55 = (σ 55 55) from ((congrFun (f252 55 (by decide)) 55).trans (congrFun (f55 55 (by decide)) 55))))
            have z322 : (σ250 47 0).toInt = (σ 47 0).toInt := (congrArg Int32.toInt (show σ250 47 0 = (σ 47 0) from ((congrFun (f252 47 (by decide)) 0).trans (congrFun (f55 47 (by decide)) 0))))
            have z323 : (σ250 55 47).toInt = (σ 55 47).toInt := (congrArg Int32.toInt (show σ250 55 47 = (σ 55 47) from ((congrFun (f252 55 (by decide)) 47).trans (congrFun (f55 55 (by decide)) 47))))
            have z324 : (σ250 55 30).toInt = (σ 55 30).toInt := (congrArg Int32.toInt (show σ250 55 30 = (σ 55 30) from ((congrFun (f252 55 (by decide)) 30).trans (congrFun (f55 55 (by decide)) 30))))
            have z325 : (σ250 55 31).toInt = (σ 55 31).toInt := (congrArg Int32.toInt (show σ250 55 31 = (σ 55 31) from ((congrFun (f252 55 (by decide)) 31).trans (congrFun (f55 55 (by decide)) 31))))
            have z326 : (σ250 2 1).toInt = (σ 2 1).toInt := (congrArg Int32.toInt (show σ250 2 1 = (σ 2 1) from ((congrFun (f252 2 (by decide)) 1).trans (congrFun (f55 2 (by decide)) 1))))
            have z327 : (σ250 55 9).toInt = (σ 55 9).toInt := (congrArg Int32.toInt (show σ250 55 9 = (σ 55 9) from ((congrFun (f252 55 (by decide)) 9).trans (congrFun (f55 55 (by decide)) 9))))
            have z328 : (σ250 55 42).toInt = (σ 55 42).toInt := (congrArg Int32.toInt (show σ250 55 42 = (σ 55 42) from ((congrFun (f252 55 (by decide)) 42).trans (congrFun (f55 55 (by decide)) 42))))
            have z329 : (σ250 26 6).toInt = (σ 26 6).toInt := (congrArg Int32.toInt (show σ250 26 6 = (σ 26 6) from ((congrFun (f252 26 (by decide)) 6).trans (congrFun (f55 26 (by decide)) 6))))
            have z331 : (σ250 18 0).toInt = (σ 18 0).toInt := (congrArg Int32.toInt (show σ250 18 0 = (σ 18 0) from ((congrFun (f252 18 (by decide)) 0).trans (congrFun (f55 18 (by decide)) 0))))
            have z332 : (σ250 22 0).toInt = (σ 22 0).toInt := (congrArg Int32.toInt (show σ250 22 0 = (σ 22 0) from ((congrFun (f252 22 (by decide)) 0).trans (congrFun (f55 22 (by decide)) 0))))
            exact by exact ih x269 σ250 τ _ _ ls (by have h9 := tx269; omega) ⟨I270, I271, I272, I273, I274, I275, I276, I277, I278, I279, I280, I281, I282, I283, I284, I285, I286, I287, I288, I289, I290, I253, I291, I292, p293, p294, p295, p296, p297, p298, p299, p300, p301, p302, p303, (by rw [z304, z305]; exact ht0), (by rw [z306, z307]; exact ht1), (by rw [z306, z308, z309]; exact ht2), (by rw [z310, z311]; exact ht3), (by rw [z312, z313]; exact ht4), (by rw [z314, z315]; exact ht5), (by rw [z316, z317]; exact ht6), (by rw [z318, z319]; exact ht7), (by rw [z320, z321]; exact ht8), (by rw [z322, z323]; exact ht9), (by rw [z324]; exact ht10), (by rw [z325]; exact ht11), (by rw [z326, z327]; exact ht12), (by rw [z328]; exact ht13), (by have h9 := tx269; omega), (by have h9 := tx269; omega), (show jNumP (σ250 3) (σ250 56) (σ250 6) (σ250 57) (σ250 7) (σ250 58) (σ250 8) (σ250 59) (σ250 55 6).toInt (σ250 55 4).toInt by rw [show σ250 3 = σ 3 from ((f252 3 (by decide)).trans (f55 3 (by decide))), show σ250 56 = σ 56 from ((f252 56 (by decide)).trans (f55 56 (by decide))), show σ250 6 = σ 6 from ((f252 6 (by decide)).trans (f55 6 (by decide))), show σ250 57 = σ 57 from ((f252 57 (by decide)).trans (f55 57 (by decide))), show σ250 7 = σ 7 from ((f252 7 (by decide)).trans (f55 7 (by decide))), show σ250 58 = σ 58 from ((f252 58 (by decide)).trans (f55 58 (by decide))), show σ250 8 = σ 8 from ((f252 8 (by decide)).trans (f55 8 (by decide))), show σ250 59 = σ 59 from ((f252 59 (by decide)).trans (f55 59 (by decide))), show (σ250 55 6).toInt = (σ 55 6).toInt from z305, show (σ250 55 4).toInt = (σ 55 4).toInt from z309]; exact hr0), (show jOvP (σ250 56) (σ250 57) (σ250 58) (σ250 59) (σ250 55 4).toInt by rw [show σ250 56 = σ 56 from ((f252 56 (by decide)).trans (f55 56 (by decide))), show σ250 57 = σ 57 from ((f252 57 (by decide)).trans (f55 57 (by decide))), show σ250 58 = σ 58 from ((f252 58 (by decide)).trans (f55 58 (by decide))), show σ250 59 = σ 59 from ((f252 59 (by decide)).trans (f55 59 (by decide))), show (σ250 55 4).toInt = (σ 55 4).toInt from z309]; exact hr1), (show jTp (σ250 10) (σ250 63) (σ250 55 15).toInt by rw [show σ250 10 = σ 10 from ((f252 10 (by decide)).trans (f55 10 (by decide))), show σ250 63 = σ 63 from ((f252 63 (by decide)).trans (f55 63 (by decide)))]; exact hr2.le (by omega)), (show jSo (σ250 17) (σ250 62) (σ250 16 0).toInt by rw [show σ250 17 = σ 17 from ((f252 17 (by decide)).trans (f55 17 (by decide))), show σ250 62 = σ 62 from ((f252 62 (by decide)).trans (f55 62 (by decide))), show (σ250 16 0).toInt = (σ 16 0).toInt from z312]; exact hr3), (show jShP (σ250 51) (σ250 52) (σ250 53) (σ250 86) (σ250 87) (σ250 55 32).toInt by rw [show σ250 51 = σ 51 from ((f252 51 (by decide)).trans k245.1), show σ250 52 = σ 52 from ((f252 52 (by decide)).trans k245.2.1), show σ250 53 = σ 53 from ((f252 53 (by decide)).trans k245.2.2), show σ250 86 = σ 86 from (k267.1.trans (f55 86 (by decide))), show σ250 87 = σ 87 from (k267.2.trans (f55 87 (by decide)))]; exact (hr4.up (by omega) (by omega))), (show jEl (σ250 51) (σ250 52) (τ 54) (τ 88) by rw [show σ250 51 = σ 51 from ((f252 51 (by decide)).trans k245.1), show σ250 52 = σ 52 from ((f252 52 (by decide)).trans k245.2.1)]; exact hr5), (show jByP (σ250 51) (σ250 52) (τ 54) by rw [show σ250 51 = σ 51 from ((f252 51 (by decide)).trans k245.1), show σ250 52 = σ 52 from ((f252 52 (by decide)).trans k245.2.1)]; exact hr6), (show jBk (σ250 48) (σ250 80) (σ250 49) (σ250 81) (σ250 55 47).toInt by rw [show σ250 48 = σ 48 from ((f252 48 (by decide)).trans (f55 48 (by decide))), show σ250 49 = σ 49 from ((f252 49 (by decide)).trans (f55 49 (by decide))), show σ250 80 = σ 80 from ((f252 80 (by decide)).trans (f55 80 (by decide))), show σ250 81 = σ 81 from ((f252 81 (by decide)).trans (f55 81 (by decide))), show (σ250 55 47).toInt = (σ 55 47).toInt from z323]; exact hr7), (show jKd (σ250 39) (σ250 70) (σ250 55 32).toInt by rw [show σ250 39 = σ 39 from ((f252 39 (by decide)).trans (f55 39 (by decide))), show σ250 70 = σ 70 from ((f252 70 (by decide)).trans (f55 70 (by decide))), show (σ250 55 32).toInt = (σ 55 32).toInt from z319]; exact hr8), (show jTt (σ250 42) (σ250 85) (σ250 55 55).toInt by rw [show σ250 42 = σ 42 from ((f252 42 (by decide)).trans (f55 42 (by decide))), show σ250 85 = σ 85 from ((f252 85 (by decide)).trans (f55 85 (by decide))), show (σ250 55 55).toInt = (σ 55 55).toInt from z321]; exact hr9), (fun k hk => by rw [show σ250 4 = σ 4 from ((f252 4 (by decide)).trans (f55 4 (by decide))), show σ250 5 = σ 5 from ((f252 5 (by decide)).trans (f55 5 (by decide))), show σ250 60 = σ 60 from ((f252 60 (by decide)).trans (f55 60 (by decide))), show σ250 61 = σ 61 from ((f252 61 (by decide)).trans (f55 61 (by decide)))]; exact hr10 k (by omega)), (fun nm => by rw [show σ250 19 = σ 19 from ((f252 19 (by decide)).trans (f55 19 (by decide))), show σ250 64 = σ 64 from ((f252 64 (by decide)).trans (f55 64 (by decide))), show σ250 65 = σ 65 from ((f252 65 (by decide)).trans (f55 65 (by decide))), show (σ250 18 0).toInt = (σ 18 0).toInt from z331]; exact hr11 nm), (fun nm => by rw [show σ250 23 = σ 23 from ((f252 23 (by decide)).trans (f55 23 (by decide))), show σ250 64 = σ 64 from ((f252 64 (by decide)).trans (f55 64 (by decide))), show σ250 65 = σ 65 from ((f252 65 (by decide)).trans (f55 65 (by decide))), show (σ250 22 0).toInt = (σ 22 0).toInt from z332]; exact hr12 nm), (show jAlP (σ250 56) (σ250 57) (σ250 58) (σ250 59) (σ250 55 4).toInt by rw [show σ250 56 = σ 56 from ((f252 56 (by decide)).trans (f55 56 (by decide))), show σ250 57 = σ 57 from ((f252 57 (by decide)).trans (f55 57 (by decide))), show σ250 58 = σ 58 from ((f252 58 (by decide)).trans (f55 58 (by decide))), show σ250 59 = σ 59 from ((f252 59 (by decide)).trans (f55 59 (by decide))), show (σ250 55 4).toInt = (σ 55 4).toInt from z309]; exact hr13), (show jqbN (σ250 80) (σ250 55 47).toInt by rw [show σ250 80 = σ 80 from ((f252 80 (by decide)).trans (f55 80 (by decide))), show (σ250 55 47).toInt = (σ 55 47).toInt from z323]; exact hr14)⟩ hP hS (lv_sub hl [0, 1, 2, 3] rfl)
set_option maxHeartbeats 4000000 in
set_option maxRecDepth 100000 in
theorem law_case_31 {p : Program} {e : Env} {s : State} {m : MethodId} {below : List Frame} {meth : Method} {c : Code} (l : Launch) {b L : Nat} {xs : Nat → Int32} {D : va_G} {cI cL : ClassId} {ad zz : Nat → Nat} (C0 : lw_At p s m meth c b L xs) (hJ : jD ad) (hA : ∀ q, jA ad q → s.heap.size ≤ q) (hK : jK D cI cL s) (hZ : jZ zz (fun q : Nat => s.heap.size ≤ q) s s.heap) {x0 : Int32} (hx0 : 0 ≤ x0.toInt) (hxL : x0.toInt + 6 ≤ (L : Int)) (hL : L ≤ 384) {σ : Nat → Nat → Int32} {τ : Nat → Nat → Int64} {H : Heap} {locs : List Loc} (hS : va_S (fun q : Nat => s.heap.size ≤ q) s.heap H locs) {ls : Array Slot} (hAll : jAll x0.toInt σ τ) (hP : jH D cI cL ad σ τ H) (hl : lv_has ls 4 [(3, .int x0), (2, .ref (ad 55)), (1, .ref (ad 0)), (0, .ref b)]) (ih : ∀ (x1 : Int32) (σ : Nat → Nat → Int32) (τ : Nat → Nat → Int64) (H : Heap) (locs : List Loc) (ls : Array Slot), x1.toInt = x0.toInt + 6 → jAll x1.toInt σ τ → jH D cI cL ad σ τ H → va_S (fun q : Nat => s.heap.size ≤ q) s.heap H locs → lv_has ls 4 [(3, .int x1), (2, .ref (ad 55)), (1, .ref (ad 0)), (0, .ref b)] → W p l e room_1 s m #[Value.ref b] below meth c H locs 90 348600 (lw_Z below #[Value.ref b] s) (F0 m 18 ls [])) : W p l e room_1 s m #[Value.ref b] below meth c H locs 90 348600 (lw_Z below #[Value.ref b] s) (F0 m 1089 ls []) := by
  obtain ⟨hx, hb, hr, hml, hown, hts0, hX, hbl, hlocks, hgv⟩ := C0
  have hts : ∀ w ∈ wsL_law, w.before #[Value.ref b] s = true := fun w h => hts0 w (wsL_law_in w h)
  have hbA : ¬ (fun q : Nat => s.heap.size ≤ q) b := Nat.not_le.mpr hbl
  have hown : s.vm.findClass RL = some m.cls := hown
  obtain ⟨hI2, hI9, hI12, hI16, hI18, hI22, hI31, hI38, hI43, hI47, hI50, hI0, hI26, hI101, hI102, hI103, hI104, hI105, hI106, hI107, hI109, hI110, hI111, hI119, hs_jKept, hs_jBook, hs_jNd12, hs_jN67, hs_jBl, hs_jKb, hs_jTR, hs_jKh, hs_jKg, hs_jNz, hs_jqSt, ht0, ht1, ht2, ht3, ht4, ht5, ht6, ht7, ht8, ht9, ht10, ht11, ht12, ht13, ht14, ht15, hr0, hr1, hr2, hr3, hr4, hr5, hr6, hr7, hr8, hr9, hr10, hr11, hr12, hr13, hr14⟩ := hAll
  have hL9 : (L : Int) ≤ 384 := by omega
  obtain ⟨i1, i2, i3, i4, i5, w6, w7⟩ : (0 ≤ (σ 2 0).toInt ∧ (σ 2 0).toInt ≤ 4) ∧ (0 ≤ (σ 2 1).toInt ∧ (σ 2 1).toInt ≤ 3) ∧ (0 ≤ (σ 2 2).toInt) ∧ (0 ≤ (σ 2 3).toInt) ∧ ((σ 2 2).toInt + (σ 2 3).toInt ≤ 40) ∧ (∀ k : Nat, k < 40 → 0 ≤ (σ 6 k).toInt ∧ (σ 6 k).toInt ≤ 67) ∧ (∀ k : Nat, k < 4 → 0 ≤ (σ 5 k).toInt ∧ (σ 5 k).toInt ≤ 20) := id hI2
  obtain ⟨i8, w9, w10⟩ : (0 ≤ (σ 9 0).toInt ∧ (σ 9 0).toInt ≤ 80) ∧ (∀ k : Nat, k < 80 → 0 ≤ (σ 10 k).toInt ∧ (σ 10 k).toInt ≤ 255) ∧ (∀ k : Nat, k < 8 → 0 ≤ (σ 11 k).toInt ∧ (σ 11 k).toInt ≤ 3) := id hI9
  obtain ⟨i11, i12, i13, w14⟩ : (1 ≤ (σ 16 0).toInt ∧ (σ 16 0).toInt ≤ 8) ∧ (1 ≤ (σ 16 1).toInt ∧ (σ 16 1).toInt ≤ 12) ∧ (0 ≤ (σ 16 2).toInt ∧ (σ 16 2).toInt ≤ 999) ∧ (∀ k : Nat, k < 8 → 0 ≤ (σ 17 k).toInt ∧ (σ 17 k).toInt ≤ 3) := id hI16
  obtain ⟨i15, i16, w17⟩ : (0 ≤ (σ 38 0).toInt ∧ (σ 38 0).toInt ≤ 20) ∧ (0 ≤ (σ 38 1).toInt ∧ (σ 38 1).toInt ≤ 1000) ∧ (∀ k : Nat, k < 20 → 0 ≤ (σ 39 k).toInt ∧ (σ 39 k).toInt ≤ 6) := id hI38
  obtain ⟨i18, w19, w20⟩ : (0 ≤ (σ 47 0).toInt ∧ (σ 47 0).toInt ≤ 12) ∧ (∀ k : Nat, k < 12 → 0 ≤ (σ 48 k).toInt ∧ (σ 48 k).toInt ≤ 3) ∧ (∀ k : Nat, k < 12 → 0 ≤ (σ 49 k).toInt ∧ (σ 49 k).toInt ≤ 1) := id hI47
  have w21 : ∀ k : Nat, k < 6 → 0 ≤ (σ 52 k).toInt ∧ (σ 52 k).toInt ≤ 60 := hI50
  have i22 : 1 ≤ (σ 26 6).toInt ∧ (σ 26 6).toInt ≤ 8000 := hI26
  obtain ⟨i23, i24, i25, w26, w27, w28, w29⟩ : (0 ≤ (σ 55 5).toInt) ∧ ((σ 55 5).toInt ≤ (σ 55 4).toInt) ∧ ((σ 55 4).toInt ≤ 40) ∧ (∀ k : Nat, k < 68 → (-200) ≤ (σ 56 k).toInt ∧ (σ 56 k).toInt ≤ 500) ∧ (∀ k : Nat, k < 40 → 0 ≤ (σ 57 k).toInt ∧ (σ 57 k).toInt ≤ 67) ∧ (∀ k : Nat, k < 40 → (-200) ≤ (σ 58 k).toInt ∧ (σ 58 k).toInt ≤ 500) ∧ (∀ k : Nat, k < 40 → (-200) ≤ (σ 59 k).toInt ∧ (σ 59 k).toInt ≤ 500) := id hI101
  obtain ⟨i30, w31, w32⟩ : (0 ≤ (σ 55 6).toInt ∧ (σ 55 6).toInt ≤ 4) ∧ (∀ k : Nat, k < 4 → 0 ≤ (σ 60 k).toInt ∧ (σ 60 k).toInt ≤ 50) ∧ (∀ k : Nat, k < 4 → 0 ≤ (σ 61 k).toInt ∧ (σ 61 k).toInt ≤ 20) := id hI102
  have i33 : 0 ≤ (σ 55 9).toInt ∧ (σ 55 9).toInt ≤ 3 := hI103
  obtain ⟨i34, i35, i36, w37, w38⟩ : (1 ≤ (σ 55 10).toInt ∧ (σ 55 10).toInt ≤ 8) ∧ (1 ≤ (σ 55 12).toInt ∧ (σ 55 12).toInt ≤ 12) ∧ (0 ≤ (σ 55 13).toInt ∧ (σ 55 13).toInt ≤ 999) ∧ (∀ k : Nat, k < 8 → 0 ≤ (σ 62 k).toInt ∧ (σ 62 k).toInt ≤ 3) ∧ (∀ k : Nat, k < 8 → 0 ≤ (σ 67 k).toInt ∧ (σ 67 k).toInt ≤ 3) := id hI104
  obtain ⟨i39, w40⟩ : (0 ≤ (σ 55 15).toInt ∧ (σ 55 15).toInt ≤ 80) ∧ (∀ k : Nat, k < 2 → (-1) ≤ (σ 65 k).toInt ∧ (σ 65 k).toInt ≤ 80) := id hI105
  obtain ⟨i41, w42, w43, w44⟩ : (0 ≤ (σ 55 32).toInt ∧ (σ 55 32).toInt ≤ 20) ∧ (∀ k : Nat, k < 20 → 0 ≤ (σ 70 k).toInt ∧ (σ 70 k).toInt ≤ 6) ∧ (∀ k : Nat, k < 20 → 0 ≤ (σ 71 k).toInt ∧ (σ 71 k).toInt ≤ 8) ∧ (∀ k : Nat, k < 160 → 0 ≤ (σ 72 k).toInt ∧ (σ 72 k).toInt ≤ 3) := id hI106
  obtain ⟨i45, i46, w47⟩ : (0 ≤ (σ 55 47).toInt ∧ (σ 55 47).toInt ≤ 12) ∧ ((σ 55 47).toInt ≤ (σ 55 12).toInt) ∧ (∀ k : Nat, k < 12 → 0 ≤ (σ 80 k).toInt ∧ (σ 80 k).toInt ≤ 3) := id hI107
  have hs_jOk3 : jOk3 σ := hr0.ok hr1.1
  refine lv_aload_n hx hb dL_law_1089 rfl (lv_at hl 2 rfl) ?_
  refine lv_aload_n hx hb dL_law_1090 rfl (lv_at hl 3 rfl) ?_
  refine lv_iload_n hx hb dL_law_1091 rfl (lv_at hl 0 rfl) ?_
  refine lv_iconst (v := 1) hx hb dL_law_1092 (by decide) ?_
  have g48 := jrg (rfl : x0.toInt = x0.toInt)
  refine lv_iadd hx hb dL_law_1093 ?_
  refine lv_topi (fun x49 ex49 => ?_)
  exact by
   have tx49 : x49.toInt = x0.toInt + 1 := (jadd ex49 rfl jz_1 (by omega) (by omega)).trans (by omega)
   refine va_sld hx hb hX hbl hbA hS (jin tx49 (by omega) (by omega)) dL_law_1094 ?_
   have g50 := jrg (rfl : (xs x49.toNatClampNeg).toInt = (xs x49.toNatClampNeg).toInt)
   refine lv_aload_n hx hb dL_law_1095 rfl (lv_at hl 3 rfl) ?_
   refine lv_iload_n hx hb dL_law_1096 rfl (lv_at hl 0 rfl) ?_
   refine lv_iconst (v := 2) hx hb dL_law_1097 (by decide) ?_
   refine lv_iadd hx hb dL_law_1098 ?_
   refine lv_topi (fun x51 ex51 => ?_)
   have tx51 : x51.toInt = x0.toInt + 2 := (jadd ex51 rfl jz_2 (by omega) (by omega)).trans (by omega)
   exact by
    refine va_sld hx hb hX hbl hbA hS (jin tx51 (by omega) (by omega)) dL_law_1099 ?_
    have g52 := jrg (rfl : (xs x51.toNatClampNeg).toInt = (xs x51.toNatClampNeg).toInt)
    refine lv_aload_n hx hb dL_law_1100 rfl (lv_at hl 3 rfl) ?_
    refine lv_iload_n hx hb dL_law_1101 rfl (lv_at hl 0 rfl) ?_
    refine lv_iconst (v := 3) hx hb dL_law_1102 (by decide) ?_
    refine lv_iadd hx hb dL_law_1103 ?_
    refine lv_topi (fun x53 ex53 => ?_)
    have tx53 : x53.toInt = x0.toInt + 3 := (jadd ex53 rfl jz_3 (by omega) (by omega)).trans (by omega)
    refine va_sld hx hb hX hbl hbA hS (jin tx53 (by omega) (by omega)) dL_law_1104 ?_
    exact by
     have g54 := jrg (rfl : (xs x53.toNatClampNeg).toInt = (xs x53.toNatClampNeg).toInt)
     refine jcallV (As := [.int (xs x49.toNatClampNeg), .int (xs x51.toNatClampNeg), .int (xs x53.toNatClampNeg)]) (rest := []) ⟨hx, hb, hml, hown, hts⟩ hK hP hA hS hZ (c_X11_row l D cI cL ad zz hJ σ τ (xs x49.toNatClampNeg) ((xs x49.toNatClampNeg).toInt) rfl (xs x51.toNatClampNeg) ((xs x51.toNatClampNeg).toInt) rfl (xs x53.toNatClampNeg) ((xs x53.toNatClampNeg).toInt) rfl hI50) cw_RL_141 (jc_0 cI cL ad σ τ) rfl ⟨Nat.le_of_ble_eq_true rfl, Nat.le_of_ble_eq_true rfl⟩ rfl rfl rfl hl.1 rfl (Nat.le_of_ble_eq_true rfl) dL_law_1105 ⟨Nat.le_of_ble_eq_true rfl, Nat.le_of_ble_eq_true rfl⟩ (fun r56 σ55 τ55 H locs h55 hP hS => ?_)
     obtain ⟨f59, f57, I58, h55⟩ := h55
     have w60 : ∀ k : Nat, k < 6 → 0 ≤ (σ55 52 k).toInt ∧ (σ55 52 k).toInt ≤ 60 := I58
     rcases h55 with h61 | h62 | h63
     · obtain ⟨q67, k64, k65, k66⟩ := h61
       have q67 := q67.symm
       subst q67
       refine lv_pop hx hb dL_law_1108 rfl ?_
       refine lv_aload_n hx hb dL_law_1109 rfl (lv_at hl 1 rfl) ?_
       refine lv_aload_n hx hb dL_law_1110 rfl (lv_at hl 3 rfl) ?_
       refine lv_iload_n hx hb dL_law_1111 rfl (lv_at hl 0 rfl) ?_
       refine lv_iconst (v := 1) hx hb dL_law_1112 (by decide) ?_
       refine lv_iadd hx hb dL_law_1113 ?_
       refine jtopr ex49.symm ?_
       exact by
        refine va_sld hx hb hX hbl hbA hS (jin tx49 (by omega) (by omega)) dL_law_1114 ?_
        refine lv_aload_n hx hb dL_law_1115 rfl (lv_at hl 3 rfl) ?_
        refine lv_iload_n hx hb dL_law_1116 rfl (lv_at hl 0 rfl) ?_
        refine lv_iconst (v := 2) hx hb dL_law_1117 (by decide) ?_
        refine lv_iadd hx hb dL_law_1118 ?_
        refine jtopr ex51.symm ?_
        refine va_sld hx hb hX hbl hbA hS (jin tx51 (by omega) (by omega)) dL_law_1119 ?_
        refine lv_aload_n hx hb dL_law_1120 rfl (lv_at hl 3 rfl) ?_
        refine lv_iload_n hx hb dL_law_1121 rfl (lv_at hl 0 rfl) ?_
        exact by
         refine lv_iconst (v := 3) hx hb dL_law_1122 (by decide) ?_
         refine lv_iadd hx hb dL_law_1123 ?_
         refine jtopr ex53.symm ?_
         refine va_sld hx hb hX hbl hbA hS (jin tx53 (by omega) (by omega)) dL_law_1124 ?_
         have I68 : jI110 σ55 := jI110_fr (f57 86 (by decide)) (f57 87 (by decide)) hI110
         refine jcallV (As := [.int (xs x49.toNatClampNeg), .int (xs x51.toNatClampNeg), .int (xs x53.toNatClampNeg)]) (rest := []) ⟨hx, hb, hml, hown, hts⟩ hK hP hA hS hZ (c_X12_row l D cI cL ad zz hJ σ55 τ55 (xs x49.toNatClampNeg) ((xs x49.toNatClampNeg).toInt) rfl (xs x51.toNatClampNeg) ((xs x51.toNatClampNeg).toInt) rfl (xs x53.toNatClampNeg) ((xs x53.toNatClampNeg).toInt) rfl I68) cw_RL_144 (jc_55 cI cL ad σ55 τ55) rfl ⟨Nat.le_of_ble_eq_true rfl, Nat.le_of_ble_eq_true rfl⟩ rfl rfl rfl hl.1 rfl (Nat.le_of_ble_eq_true rfl) dL_law_1125 ⟨Nat.le_of_ble_eq_true rfl, Nat.le_of_ble_eq_true rfl⟩ (fun r70 σ69 τ69 H locs h69 hP hS => ?_)
         obtain ⟨f73, f71, I72, h69⟩ := h69
         rcases h69 with h74 | h75 | h76
         · obtain ⟨q80, k77, k78, k79⟩ := h74
           exact by
            have q80 := q80.symm
            subst q80
            refine lv_pop hx hb dL_law_1128 rfl ?_
            refine lv_goto (tgt := 1357) hx hb dL_law_1129 (by decide) ?_
            obtain ⟨x81, ex81⟩ : ∃ y : Int32, y = x0 + 6 := ⟨_, rfl⟩
            have tx81 : x81.toInt = x0.toInt + 6 := (jadd ex81 rfl jz_6 (by omega) (by omega)).trans (by omega)
            refine lv_iinc (v := x81) (lv' := [(3, .int x81), (2, .ref (ad 55)), (1, .ref (ad 0)), (0, .ref b)]) hx hb dL_law_1357 hl (k := 0) rfl (by rw [ex81]; rfl) (by decide) rfl (fun ls hl => ?_)
            refine lv_goto (tgt := 18) hx hb dL_law_1360 (by decide) ?_
            have I82 : jI2 σ69 := jI2_fr ((congrFun (f71 2 (by decide)) 0).trans (congrFun (f57 2 (by decide)) 0)) ((congrFun (f71 2 (by decide)) 1).trans (congrFun (f57 2 (by decide)) 1)) ((congrFun (f71 2 (by decide)) 2).trans (congrFun (f57 2 (by decide)) 2)) ((congrFun (f71 2 (by decide)) 3).trans (congrFun (f57 2 (by decide)) 3)) ((f71 6 (by decide)).trans (f57 6 (by decide))) ((f71 5 (by decide)).trans (f57 5 (by decide))) hI2
            exact by
             have I83 : jI9 σ69 := jI9_fr ((congrFun (f71 9 (by decide)) 0).trans (congrFun (f57 9 (by decide)) 0)) ((f71 10 (by decide)).trans (f57 10 (by decide))) ((f71 11 (by decide)).trans (f57 11 (by decide))) hI9
             have I84 : jI12 σ69 := jI12_fr ((congrFun (f71 12 (by decide)) 0).trans (congrFun (f57 12 (by decide)) 0)) ((f71 13 (by decide)).trans (f57 13 (by decide))) hI12
             have I85 : jI16 σ69 := jI16_fr ((congrFun (f71 16 (by decide)) 0).trans (congrFun (f57 16 (by decide)) 0)) ((congrFun (f71 16 (by decide)) 1).trans (congrFun (f57 16 (by decide)) 1)) ((congrFun (f71 16 (by decide)) 2).trans (congrFun (f57 16 (by decide)) 2)) ((f71 17 (by decide)).trans (f57 17 (by decide))) hI16
             have I86 : jI18 σ69 := jI18_fr ((congrFun (f71 18 (by decide)) 0).trans (congrFun (f57 18 (by decide)) 0)) ((f71 19 (by decide)).trans (f57 19 (by decide))) hI18
             have I87 : jI22 σ69 := jI22_fr ((congrFun (f71 22 (by decide)) 0).trans (congrFun (f57 22 (by decide)) 0)) ((f71 23 (by decide)).trans (f57 23 (by decide))) hI22
             have I88 : jI31 σ69 := jI31_fr ((congrFun (f71 31 (by decide)) 8).trans (congrFun (f57 31 (by decide)) 8)) ((congrFun (f71 31 (by decide)) 10).trans (congrFun (f57 31 (by decide)) 10)) ((congrFun (f71 31 (by decide)) 11).trans (congrFun (f57 31 (by decide)) 11)) ((f71 33 (by decide)).trans (f57 33 (by decide))) ((f71 35 (by decide)).trans (f57 35 (by decide))) ((f71 36 (by decide)).trans (f57 36 (by decide))) hI31
             have I89 : jI38 σ69 := jI38_fr ((congrFun (f71 38 (by decide)) 0).trans (congrFun (f57 38 (by decide)) 0)) ((congrFun (f71 38 (by decide)) 1).trans (congrFun (f57 38 (by decide)) 1)) ((f71 39 (by decide)).trans (f57 39 (by decide))) hI38
             have I90 : jI43 σ69 := jI43_fr ((congrFun (f71 43 (by decide)) 8).trans (congrFun (f57 43 (by decide)) 8)) hI43
             have I91 : jI47 σ69 := jI47_fr ((congrFun (f71 47 (by decide)) 0).trans (congrFun (f57 47 (by decide)) 0)) ((f71 48 (by decide)).trans (f57 48 (by decide))) ((f71 49 (by decide)).trans (f57 49 (by decide))) hI47
             have I92 : jI50 σ69 := jI50_fr (f71 52 (by decide)) I58
             have I93 : jI0 σ69 := jI0_fr ((f71 1 (by decide)).trans (f57 1 (by decide))) hI0
             have I94 : jI26 σ69 := jI26_fr ((congrFun (f71 26 (by decide)) 6).trans (congrFun (f57 26 (by decide)) 6)) hI26
             have I95 : jI101 σ69 := jI101_fr ((congrFun (f71 55 (by decide)) 4).trans (congrFun (f57 55 (by decide)) 4)) ((congrFun (f71 55 (by decide)) 5).trans (congrFun (f57 55 (by decide)) 5)) ((f71 56 (by decide)).trans (f57 56 (by decide))) ((f71 57 (by decide)).trans (f57 57 (by decide))) ((f71 58 (by decide)).trans (f57 58 (by decide))) ((f71 59 (by decide)).trans (f57 59 (by decide))) hI101
             have I96 : jI102 σ69 := jI102_fr ((congrFun (f71 55 (by decide)) 6).trans (congrFun (f57 55 (by decide)) 6)) ((f71 60 (by decide)).trans (f57 60 (by decide))) ((f71 61 (by decide)).trans (f57 61 (by decide))) hI102
             have I97 : jI103 σ69 := jI103_fr ((congrFun (f71 55 (by decide)) 9).trans (congrFun (f57 55 (by decide)) 9)) hI103
             have I98 : jI104 σ69 := jI104_fr ((congrFun (f71 55 (by decide)) 10).trans (congrFun (f57 55 (by decide)) 10)) ((congrFun (f71 55 (by decide)) 12).trans (congrFun (f57 55 (by decide)) 12)) ((congrFun (f71 55 (by decide)) 13).trans (congrFun (f57 55 (by decide)) 13)) ((f71 62 (by decide)).trans (f57 62 (by decide))) ((f71 67 (by decide)).trans (f57 67 (by decide))) hI104
             have I99 : jI105 σ69 := jI105_fr ((congrFun (f71 55 (by decide)) 15).trans (congrFun (f57 55 (by decide)) 15)) ((f71 65 (by decide)).trans (f57 65 (by decide))) hI105
             have I100 : jI106 σ69 := jI106_fr ((congrFun (f71 55 (by decide)) 32).trans (congrFun (f57 55 (by decide)) 32)) ((f71 70 (by decide)).trans (f57 70 (by decide))) ((f71 71 (by decide)).trans (f57 71 (by decide))) ((f71 72 (by decide)).trans (f57 72 (by decide))) hI106
             have I101 : jI107 σ69 := jI107_fr ((congrFun (f71 55 (by decide)) 12).trans (congrFun (f57 55 (by decide)) 12)) ((congrFun (f71 55 (by decide)) 47).trans (congrFun (f57 55 (by decide)) 47)) ((f71 80 (by decide)).trans (f57 80 (by decide))) hI107
             have I102 : jI109 σ69 := jI109_fr ((congrFun (f71 55 (by decide)) 50).trans (congrFun (f57 55 (by decide)) 50)) hI109
             have I103 : jI111 σ69 := jI111_fr ((f71 79 (by decide)).trans (f57 79 (by decide))) hI111
             have I104 : jI119 σ69 := jI119_fr ((f71 68 (by decide)).trans (f57 68 (by decide))) hI119
             have p105 : jKept σ69 := jKept.fr ((f71 75 (by decide)).trans (f57 75 (by decide))) ((f71 76 (by decide)).trans (f57 76 (by decide))) ((f71 77 (by decide)).trans (f57 77 (by decide))) hs_jKept
             have p106 : jBook σ69 := jBook.fr ((congrFun (f71 55 (by decide)) 47).trans (congrFun (f57 55 (by decide)) 47)) ((congrFun (f71 55 (by decide)) 10).trans (congrFun (f57 55 (by decide)) 10)) ((f71 81 (by decide)).trans (f57 81 (by decide))) hs_jBook
             have p107 : jNd12 σ69 := jNd12.fr ((congrFun (f71 12 (by decide)) 0).trans (congrFun (f57 12 (by decide)) 0)) ((congrFun (f71 12 (by decide)) 1).trans (congrFun (f57 12 (by decide)) 1)) ((f71 13 (by decide)).trans (f57 13 (by decide))) hs_jNd12
             have p108 : jN67 σ69 := jN67.fr ((f71 24 (by decide)).trans (f57 24 (by decide))) hs_jN67
             have p109 : jBl σ69 := jBl.fr ((congrFun (f71 22 (by decide)) 0).trans (congrFun (f57 22 (by decide)) 0)) ((congrFun (f71 22 (by decide)) 1).trans (congrFun (f57 22 (by decide)) 1)) ((f71 23 (by decide)).trans (f57 23 (by decide))) ((congrFun (f71 26 (by decide)) 6).trans (congrFun (f57 26 (by decide)) 6)) ((congrFun (f71 26 (by decide)) 7).trans (congrFun (f57 26 (by decide)) 7)) ((f71 29 (by decide)).trans (f57 29 (by decide))) ((f71 30 (by decide)).trans (f57 30 (by decide))) hs_jBl
             have p110 : jKb σ69 := jKb.fr ((congrFun (f71 31 (by decide)) 8).trans (congrFun (f57 31 (by decide)) 8)) ((congrFun (f71 31 (by decide)) 11).trans (congrFun (f57 31 (by decide)) 11)) ((f71 32 (by decide)).trans (f57 32 (by decide))) hs_jKb
             have p111 : jTR σ69 := jTR.fr ((f71 64 (by decide)).trans (f57 64 (by decide))) ((f71 65 (by decide)).trans (f57 65 (by decide))) hs_jTR
             have p112 : jKh σ69 := jKh.fr ((congrFun (f71 31 (by decide)) 8).trans (congrFun (f57 31 (by decide)) 8)) ((f71 32 (by decide)).trans (f57 32 (by decide))) ((f71 36 (by decide)).trans (f57 36 (by decide))) ((f71 37 (by decide)).trans (f57 37 (by decide))) hs_jKh
             have p113 : jKg σ69 := jKg.fr ((congrFun (f71 31 (by decide)) 8).trans (congrFun (f57 31 (by decide)) 8)) ((congrFun (f71 31 (by decide)) 9).trans (congrFun (f57 31 (by decide)) 9)) ((congrFun (f71 31 (by decide)) 11).trans (congrFun (f57 31 (by decide)) 11)) ((congrFun (f71 31 (by decide)) 12).trans (congrFun (f57 31 (by decide)) 12)) ((f71 32 (by decide)).trans (f57 32 (by decide))) ((f71 33 (by decide)).trans (f57 33 (by decide))) hs_jKg
             have p114 : jNz σ69 := jNz.fr ((f71 34 (by decide)).trans (f57 34 (by decide))) hs_jNz
             have p115 : jqSt σ69 := jqSt.fr ((f71 78 (by decide)).trans (f57 78 (by decide))) ((congrFun (f71 55 (by decide)) 42).trans (congrFun (f57 55 (by decide)) 42)) hs_jqSt
             have z116 : (σ69 2 0).toInt = (σ 2 0).toInt := (congrArg Int32.toInt (show σ69 2 0 = (σ 2 0) from ((congrFun (f71 2 (by decide)) 0).trans (congrFun (f57 2 (by decide)) 0))))
             have z117 : (σ69 55 6).toInt = (σ 55 6).toInt := (congrArg Int32.toInt (show σ69 55 6 = (σ 55 6) from ((congrFun (f71 55 (by decide)) 6).trans (congrFun (f57 55 (by decide)) 6))))
             have z118 : (σ69 2 2).toInt = (σ 2 2).toInt := (congrArg Int32.toInt (show σ69 2 2 = (σ 2 2) from ((congrFun (f71 2 (by decide)) 2).trans (congrFun (f57 2 (by decide)) 2))))
             have z119 : (σ69 55 5).toInt = (σ 55 5).toInt := (congrArg Int32.toInt (show σ69 55 5 = (σ 55 5) from ((congrFun (f71 55 (by decide)) 5).trans (congrFun (f57 55 (by decide)) 5))))
             have z120 : (σ69 2 3).toInt = (σ 2 3).toInt := (congrArg Int32.toInt (show σ69 2 3 = (σ 2 3) from ((congrFun (f71 2 (by decide)) 3).trans (congrFun (f57 2 (by decide)) 3))))
             have z121 : (σ69 55 4).toInt = (σ 55 4).toInt := (congrArg Int32.toInt (show σ69 55 4 = (σ 55 4) from ((congrFun (f71 55 (by decide)) 4).trans (congrFun (f57 55 (by decide)) 4))))
             have z122 : (σ69 9 0).toInt = (σ 9 0).toInt := (congrArg Int32.toInt (show σ69 9 0 = (σ 9 0) from ((congrFun (f71 9 (by decide)) 0).trans (congrFun (f57 9 (by decide)) 0))))
             have z123 : (σ69 55 15).toInt = (σ 55 15).toInt := (congrArg Int32.toInt (show σ69 55 15 = (σ 55 15) from ((congrFun (f71 55 (by decide)) 15).trans (congrFun (f57 55 (by decide)) 15))))
             have z124 : (σ69 16 0).toInt = (σ 16 0).toInt := (congrArg Int32.toInt (show σ69 16 0 = (σ 16 0) from ((congrFun (f71 16 (by decide)) 0).trans (congrFun (f57 16 (by decide)) 0))))
             have z125 : (σ69 55 10).toInt = (σ 55 10).toInt := (congrArg Int32.toInt (show σ69 55 10 = (σ 55 10) from ((congrFun (f71 55 (by decide)) 10).trans (congrFun (f57 55 (by decide)) 10))))
             have z126 : (σ69 16 1).toInt = (σ 16 1).toInt := (congrArg Int32.toInt (show σ69 16 1 = (σ 16 1) from ((congrFun (f71 16 (by decide)) 1).trans (congrFun (f57 16 (by decide)) 1))))
             have z127 : (σ69 55 12).toInt = (σ 55 12).toInt := (congrArg Int32.toInt (show σ69 55 12 = (σ 55 12) from ((congrFun (f71 55 (by decide)) 12).trans (congrFun (f57 55 (by decide)) 12))))
             have z128 : (σ69 16 2).toInt = (σ 16 2).toInt := (congrArg Int32.toInt (show σ69 16 2 = (σ 16 2) from ((congrFun (f71 16 (by decide)) 2).trans (congrFun (f57 16 (by decide)) 2))))
             have z129 : (σ69 55 13).toInt = (σ 55 13).toInt := (congrArg Int32.toInt (show σ69 55 13 = (σ 55 13) from ((congrFun (f71 55 (by decide)) 13).trans (congrFun (f57 55 (by decide)) 13))))
             have z130 : (σ69 38 0).toInt = (σ 38 0).toInt := (congrArg Int32.toInt (show σ69 38 0 = (σ 38 0) from ((congrFun (f71 38 (by decide)) 0).trans (congrFun (f57 38 (by decide)) 0))))
             have z131 : (σ69 55 32).toInt = (σ 55 32).toInt := (congrArg Int32.toInt (show σ69 55 32 = (σ 55 32) from ((congrFun (f71 55 (by decide)) 32).trans (congrFun (f57 55 (by decide)) 32))))
             have z132 : (σ69 38 1).toInt = (σ 38 1).toInt := (congrArg Int32.toInt (show σ69 38 1 = (σ 38 1) from ((congrFun (f71 38 (by decide)) 1).trans (congrFun (f57 38 (by decide)) 1))))
             have z133 : (σ69 55 55).toInt = (σ 55 55).toInt := (congrArg Int32.toInt (show σ69 55 55 = (σ 55 55) from ((congrFun (f71 55 (by decide)) 55).trans (congrFun (f57 55 (by decide)) 55))))
             have z134 : (σ69 47 0).toInt = (σ 47 0).toInt := (congrArg Int32.toInt (show σ69 47 0 = (σ 47 0) from ((congrFun (f71 47 (by decide)) 0).trans (congrFun (f57 47 (by decide)) 0))))
             have z135 : (σ69 55 47).toInt = (σ 55 47).toInt := (congrArg Int32.toInt (show σ69 55 47 = (σ 55 47) from ((congrFun (f71 55 (by decide)) 47).trans (congrFun (f57 55 (by decide)) 47))))
             have z136 : (σ69 55 30).toInt = (σ 55 30).toInt := (congrArg Int32.toInt (show σ69 55 30 = (σ 55 30) from ((congrFun (f71 55 (by decide)) 30).trans (congrFun (f57 55 (by decide)) 30))))
             have z137 : (σ69 55 31).toInt = (σ 55 31).toInt := (congrArg Int32.toInt (show σ69 55 31 = (σ 55 31) from ((congrFun (f71 55 (by decide)) 31).trans (congrFun (f57 55 (by decide)) 31))))
             have z138 : (σ69 2 1).toInt = (σ 2 1).toInt := (congrArg Int32.toInt (show σ69 2 1 = (σ 2 1) from ((congrFun (f71 2 (by decide)) 1).trans (congrFun (f57 2 (by decide)) 1))))
             have z139 : (σ69 55 9).toInt = (σ 55 9).toInt := (congrArg Int32.toInt (show σ69 55 9 = (σ 55 9) from ((congrFun (f71 55 (by decide)) 9).trans (congrFun (f57 55 (by decide)) 9))))
             have z140 : (σ69 55 42).toInt = (σ 55 42).toInt := (congrArg Int32.toInt (show σ69 55 42 = (σ 55 42) from ((congrFun (f71 55 (by decide)) 42).trans (congrFun (f57 55 (by decide)) 42))))
             have z141 : (σ69 26 6).toInt = (σ 26 6).toInt := (congrArg Int32.toInt (show σ69 26 6 = (σ 26 6) from ((congrFun (f71 26 (by decide)) 6).trans (congrFun (f57 26 (by decide)) 6))))
             have z143 : (σ69 18 0).toInt = (σ 18 0).toInt := (congrArg Int32.toInt (show σ69 18 0 = (σ 18 0) from ((congrFun (f71 18 (by decide)) 0).trans (congrFun (f57 18 (by decide)) 0))))
             have z144 : (σ69 22 0).toInt = (σ 22 0).toInt := (congrArg Int32.toInt (show σ69 22 0 = (σ 22 0) from ((congrFun (f71 22 (by decide)) 0).trans (congrFun (f57 22 (by decide)) 0))))
             exact by exact ih x81 σ69 τ69 _ _ ls (by have h9 := tx81; omega) ⟨I82, I83, I84, I85, I86, I87, I88, I89, I90, I91, I92, I93, I94, I95, I96, I97, I98, I99, I100, I101, I102, I72, I103, I104, p105, p106, p107, p108, p109, p110, p111, p112, p113, p114, p115, (by rw [z116, z117]; exact ht0), (by rw [z118, z119]; exact ht1), (by rw [z118, z120, z121]; exact ht2), (by rw [z122, z123]; exact ht3), (by rw [z124, z125]; exact ht4), (by rw [z126, z127]; exact ht5), (by rw [z128, z129]; exact ht6), (by rw [z130, z131]; exact ht7), (by rw [z132, z133]; exact ht8), (by rw [z134, z135]; exact ht9), (by rw [z136]; exact ht10), (by rw [z137]; exact ht11), (by rw [z138, z139]; exact ht12), (by rw [z140]; exact ht13), (by have h9 := tx81; omega), (by have h9 := tx81; omega), (show jNumP (σ69 3) (σ69 56) (σ69 6) (σ69 57) (σ69 7) (σ69 58) (σ69 8) (σ69 59) (σ69 55 6).toInt (σ69 55 4).toInt by rw [show σ69 3 = σ 3 from ((f71 3 (by decide)).trans (f57 3 (by decide))), show σ69 56 = σ 56 from ((f71 56 (by decide)).trans (f57 56 (by decide))), show σ69 6 = σ 6 from ((f71 6 (by decide)).trans (f57 6 (by decide))), show σ69 57 = σ 57 from ((f71 57 (by decide)).trans (f57 57 (by decide))), show σ69 7 = σ 7 from ((f71 7 (by decide)).trans (f57 7 (by decide))), show σ69 58 = σ 58 from ((f71 58 (by decide)).trans (f57 58 (by decide))), show σ69 8 = σ 8 from ((f71 8 (by decide)).trans (f57 8 (by decide))), show σ69 59 = σ 59 from ((f71 59 (by decide)).trans (f57 59 (by decide))), show (σ69 55 6).toInt = (σ 55 6).toInt from z117, show (σ69 55 4).toInt = (σ 55 4).toInt from z121]; exact hr0), (show jOvP (σ69 56) (σ69 57) (σ69 58) (σ69 59) (σ69 55 4).toInt by rw [show σ69 56 = σ 56 from ((f71 56 (by decide)).trans (f57 56 (by decide))), show σ69 57 = σ 57 from ((f71 57 (by decide)).trans (f57 57 (by decide))), show σ69 58 = σ 58 from ((f71 58 (by decide)).trans (f57 58 (by decide))), show σ69 59 = σ 59 from ((f71 59 (by decide)).trans (f57 59 (by decide))), show (σ69 55 4).toInt = (σ 55 4).toInt from z121]; exact hr1), (show jTp (σ69 10) (σ69 63) (σ69 55 15).toInt by rw [show σ69 10 = σ 10 from ((f71 10 (by decide)).trans (f57 10 (by decide))), show σ69 63 = σ 63 from ((f71 63 (by decide)).trans (f57 63 (by decide)))]; exact hr2.le (by omega)), (show jSo (σ69 17) (σ69 62) (σ69 16 0).toInt by rw [show σ69 17 = σ 17 from ((f71 17 (by decide)).trans (f57 17 (by decide))), show σ69 62 = σ 62 from ((f71 62 (by decide)).trans (f57 62 (by decide))), show (σ69 16 0).toInt = (σ 16 0).toInt from z124]; exact hr3), (show jShP (σ69 51) (σ69 52) (σ69 53) (σ69 86) (σ69 87) (σ69 55 32).toInt by rw [show σ69 51 = σ 51 from ((f71 51 (by decide)).trans k65.1), show σ69 52 = σ 52 from ((f71 52 (by decide)).trans k65.2.1), show σ69 53 = σ 53 from ((f71 53 (by decide)).trans k65.2.2), show σ69 86 = σ 86 from (k78.1.trans (f57 86 (by decide))), show σ69 87 = σ 87 from (k78.2.trans (f57 87 (by decide)))]; exact (hr4.up (by omega) (by omega))), (show jEl (σ69 51) (σ69 52) (τ69 54) (τ69 88) by rw [show σ69 51 = σ 51 from ((f71 51 (by decide)).trans k65.1), show σ69 52 = σ 52 from ((f71 52 (by decide)).trans k65.2.1), show τ69 54 = τ 54 from ((f73 54 (by decide)).trans k66), show τ69 88 = τ 88 from (k79.trans (f59 88 (by decide)))]; exact hr5), (show jByP (σ69 51) (σ69 52) (τ69 54) by rw [show σ69 51 = σ 51 from ((f71 51 (by decide)).trans k65.1), show σ69 52 = σ 52 from ((f71 52 (by decide)).trans k65.2.1), show τ69 54 = τ 54 from ((f73 54 (by decide)).trans k66)]; exact hr6), (show jBk (σ69 48) (σ69 80) (σ69 49) (σ69 81) (σ69 55 47).toInt by rw [show σ69 48 = σ 48 from ((f71 48 (by decide)).trans (f57 48 (by decide))), show σ69 49 = σ 49 from ((f71 49 (by decide)).trans (f57 49 (by decide))), show σ69 80 = σ 80 from ((f71 80 (by decide)).trans (f57 80 (by decide))), show σ69 81 = σ 81 from ((f71 81 (by decide)).trans (f57 81 (by decide))), show (σ69 55 47).toInt = (σ 55 47).toInt from z135]; exact hr7), (show jKd (σ69 39) (σ69 70) (σ69 55 32).toInt by rw [show σ69 39 = σ 39 from ((f71 39 (by decide)).trans (f57 39 (by decide))), show σ69 70 = σ 70 from ((f71 70 (by decide)).trans (f57 70 (by decide))), show (σ69 55 32).toInt = (σ 55 32).toInt from z131]; exact hr8), (show jTt (σ69 42) (σ69 85) (σ69 55 55).toInt by rw [show σ69 42 = σ 42 from ((f71 42 (by decide)).trans (f57 42 (by decide))), show σ69 85 = σ 85 from ((f71 85 (by decide)).trans (f57 85 (by decide))), show (σ69 55 55).toInt = (σ 55 55).toInt from z133]; exact hr9), (fun k hk => by rw [show σ69 4 = σ 4 from ((f71 4 (by decide)).trans (f57 4 (by decide))), show σ69 5 = σ 5 from ((f71 5 (by decide)).trans (f57 5 (by decide))), show σ69 60 = σ 60 from ((f71 60 (by decide)).trans (f57 60 (by decide))), show σ69 61 = σ 61 from ((f71 61 (by decide)).trans (f57 61 (by decide)))]; exact hr10 k (by omega)), (fun nm => by rw [show σ69 19 = σ 19 from ((f71 19 (by decide)).trans (f57 19 (by decide))), show σ69 64 = σ 64 from ((f71 64 (by decide)).trans (f57 64 (by decide))), show σ69 65 = σ 65 from ((f71 65 (by decide)).trans (f57 65 (by decide))), show (σ69 18 0).toInt = (σ 18 0).toInt from z143]; exact hr11 nm), (fun nm => by rw [show σ69 23 = σ 23 from ((f71 23 (by decide)).trans (f57 23 (by decide))), show σ69 64 = σ 64 from ((f71 64 (by decide)).trans (f57 64 (by decide))), show σ69 65 = σ 65 from ((f71 65 (by decide)).trans (f57 65 (by decide))), show (σ69 22 0).toInt = (σ 22 0).toInt from z144]; exact hr12 nm), (show jAlP (σ69 56) (σ69 57) (σ69 58) (σ69 59) (σ69 55 4).toInt by rw [show σ69 56 = σ 56 from ((f71 56 (by decide)).trans (f57 56 (by decide))), show σ69 57 = σ 57 from ((f71 57 (by decide)).trans (f57 57 (by decide))), show σ69 58 = σ 58 from ((f71 58 (by decide)).trans (f57 58 (by decide))), show σ69 59 = σ 59 from ((f71 59 (by decide)).trans (f57 59 (by decide))), show (σ69 55 4).toInt = (σ 55 4).toInt from z121]; exact hr13), (show jqbN (σ69 80) (σ69 55 47).toInt by rw [show σ69 80 = σ 80 from ((f71 80 (by decide)).trans (f57 80 (by decide))), show (σ69 55 47).toInt = (σ 55 47).toInt from z135]; exact hr14)⟩ hP hS (lv_sub hl [0, 1, 2, 3] rfl)
         · obtain ⟨q150, k145, k146, k147, k148, k149⟩ := h75
           exact absurd (by omega : False) id
         · obtain ⟨q156, k151, k152, k153, k154, k155⟩ := h76
           exact absurd (by omega : False) id
     · obtain ⟨q162, k157, k158, k159, k160, k161⟩ := h62
       have q162 := q162.symm
       subst q162
       refine lv_pop hx hb dL_law_1108 rfl ?_
       refine lv_aload_n hx hb dL_law_1109 rfl (lv_at hl 1 rfl) ?_
       refine lv_aload_n hx hb dL_law_1110 rfl (lv_at hl 3 rfl) ?_
       refine lv_iload_n hx hb dL_law_1111 rfl (lv_at hl 0 rfl) ?_
       refine lv_iconst (v := 1) hx hb dL_law_1112 (by decide) ?_
       refine lv_iadd hx hb dL_law_1113 ?_
       refine jtopr ex49.symm ?_
       exact by
        refine va_sld hx hb hX hbl hbA hS (jin tx49 (by omega) (by omega)) dL_law_1114 ?_
        refine lv_aload_n hx hb dL_law_1115 rfl (lv_at hl 3 rfl) ?_
        refine lv_iload_n hx hb dL_law_1116 rfl (lv_at hl 0 rfl) ?_
        refine lv_iconst (v := 2) hx hb dL_law_1117 (by decide) ?_
        refine lv_iadd hx hb dL_law_1118 ?_
        refine jtopr ex51.symm ?_
        refine va_sld hx hb hX hbl hbA hS (jin tx51 (by omega) (by omega)) dL_law_1119 ?_
        refine lv_aload_n hx hb dL_law_1120 rfl (lv_at hl 3 rfl) ?_
        refine lv_iload_n hx hb dL_law_1121 rfl (lv_at hl 0 rfl) ?_
        exact by
         refine lv_iconst (v := 3) hx hb dL_law_1122 (by decide) ?_
         refine lv_iadd hx hb dL_law_1123 ?_
         refine jtopr ex53.symm ?_
         refine va_sld hx hb hX hbl hbA hS (jin tx53 (by omega) (by omega)) dL_law_1124 ?_
         have I163 : jI110 σ55 := jI110_fr (f57 86 (by decide)) (f57 87 (by decide)) hI110
         refine jcallV (As := [.int (xs x49.toNatClampNeg), .int (xs x51.toNatClampNeg), .int (xs x53.toNatClampNeg)]) (rest := []) ⟨hx, hb, hml, hown, hts⟩ hK hP hA hS hZ (c_X12_row l D cI cL ad zz hJ σ55 τ55 (xs x49.toNatClampNeg) ((xs x49.toNatClampNeg).toInt) rfl (xs x51.toNatClampNeg) ((xs x51.toNatClampNeg).toInt) rfl (xs x53.toNatClampNeg) ((xs x53.toNatClampNeg).toInt) rfl I163) cw_RL_144 (jc_55 cI cL ad σ55 τ55) rfl ⟨Nat.le_of_ble_eq_true rfl, Nat.le_of_ble_eq_true rfl⟩ rfl rfl rfl hl.1 rfl (Nat.le_of_ble_eq_true rfl) dL_law_1125 ⟨Nat.le_of_ble_eq_true rfl, Nat.le_of_ble_eq_true rfl⟩ (fun r165 σ164 τ164 H locs h164 hP hS => ?_)
         obtain ⟨f168, f166, I167, h164⟩ := h164
         rcases h164 with h169 | h170 | h171
         · obtain ⟨q175, k172, k173, k174⟩ := h169
           exact absurd (by omega : False) id
         · exact by
            obtain ⟨q181, k176, k177, k178, k179, k180⟩ := h170
            have q181 := q181.symm
            subst q181
            refine lv_pop hx hb dL_law_1128 rfl ?_
            refine lv_goto (tgt := 1357) hx hb dL_law_1129 (by decide) ?_
            obtain ⟨x182, ex182⟩ : ∃ y : Int32, y = x0 + 6 := ⟨_, rfl⟩
            have tx182 : x182.toInt = x0.toInt + 6 := (jadd ex182 rfl jz_6 (by omega) (by omega)).trans (by omega)
            refine lv_iinc (v := x182) (lv' := [(3, .int x182), (2, .ref (ad 55)), (1, .ref (ad 0)), (0, .ref b)]) hx hb dL_law_1357 hl (k := 0) rfl (by rw [ex182]; rfl) (by decide) rfl (fun ls hl => ?_)
            refine lv_goto (tgt := 18) hx hb dL_law_1360 (by decide) ?_
            exact by
             have I183 : jI2 σ164 := jI2_fr ((congrFun (f166 2 (by decide)) 0).trans (congrFun (f57 2 (by decide)) 0)) ((congrFun (f166 2 (by decide)) 1).trans (congrFun (f57 2 (by decide)) 1)) ((congrFun (f166 2 (by decide)) 2).trans (congrFun (f57 2 (by decide)) 2)) ((congrFun (f166 2 (by decide)) 3).trans (congrFun (f57 2 (by decide)) 3)) ((f166 6 (by decide)).trans (f57 6 (by decide))) ((f166 5 (by decide)).trans (f57 5 (by decide))) hI2
             have I184 : jI9 σ164 := jI9_fr ((congrFun (f166 9 (by decide)) 0).trans (congrFun (f57 9 (by decide)) 0)) ((f166 10 (by decide)).trans (f57 10 (by decide))) ((f166 11 (by decide)).trans (f57 11 (by decide))) hI9
             have I185 : jI12 σ164 := jI12_fr ((congrFun (f166 12 (by decide)) 0).trans (congrFun (f57 12 (by decide)) 0)) ((f166 13 (by decide)).trans (f57 13 (by decide))) hI12
             have I186 : jI16 σ164 := jI16_fr ((congrFun (f166 16 (by decide)) 0).trans (congrFun (f57 16 (by decide)) 0)) ((congrFun (f166 16 (by decide)) 1).trans (congrFun (f57 16 (by decide)) 1)) ((congrFun (f166 16 (by decide)) 2).trans (congrFun (f57 16 (by decide)) 2)) ((f166 17 (by decide)).trans (f57 17 (by decide))) hI16
             have I187 : jI18 σ164 := jI18_fr ((congrFun (f166 18 (by decide)) 0).trans (congrFun (f57 18 (by decide)) 0)) ((f166 19 (by decide)).trans (f57 19 (by decide))) hI18
             have I188 : jI22 σ164 := jI22_fr ((congrFun (f166 22 (by decide)) 0).trans (congrFun (f57 22 (by decide)) 0)) ((f166 23 (by decide)).trans (f57 23 (by decide))) hI22
             have I189 : jI31 σ164 := jI31_fr ((congrFun (f166 31 (by decide)) 8).trans (congrFun (f57 31 (by decide)) 8)) ((congrFun (f166 31 (by decide)) 10).trans (congrFun (f57 31 (by decide)) 10)) ((congrFun (f166 31 (by decide)) 11).trans (congrFun (f57 31 (by decide)) 11)) ((f166 33 (by decide)).trans (f57 33 (by decide))) ((f166 35 (by decide)).trans (f57 35 (by decide))) ((f166 36 (by decide)).trans (f57 36 (by decide))) hI31
             have I190 : jI38 σ164 := jI38_fr ((congrFun (f166 38 (by decide)) 0).trans (congrFun (f57 38 (by decide)) 0)) ((congrFun (f166 38 (by decide)) 1).trans (congrFun (f57 38 (by decide)) 1)) ((f166 39 (by decide)).trans (f57 39 (by decide))) hI38
             have I191 : jI43 σ164 := jI43_fr ((congrFun (f166 43 (by decide)) 8).trans (congrFun (f57 43 (by decide)) 8)) hI43
             have I192 : jI47 σ164 := jI47_fr ((congrFun (f166 47 (by decide)) 0).trans (congrFun (f57 47 (by decide)) 0)) ((f166 48 (by decide)).trans (f57 48 (by decide))) ((f166 49 (by decide)).trans (f57 49 (by decide))) hI47
             have I193 : jI50 σ164 := jI50_fr (f166 52 (by decide)) I58
             have I194 : jI0 σ164 := jI0_fr ((f166 1 (by decide)).trans (f57 1 (by decide))) hI0
             have I195 : jI26 σ164 := jI26_fr ((congrFun (f166 26 (by decide)) 6).trans (congrFun (f57 26 (by decide)) 6)) hI26
             have I196 : jI101 σ164 := jI101_fr ((congrFun (f166 55 (by decide)) 4).trans (congrFun (f57 55 (by decide)) 4)) ((congrFun (f166 55 (by decide)) 5).trans (congrFun (f57 55 (by decide)) 5)) ((f166 56 (by decide)).trans (f57 56 (by decide))) ((f166 57 (by decide)).trans (f57 57 (by decide))) ((f166 58 (by decide)).trans (f57 58 (by decide))) ((f166 59 (by decide)).trans (f57 59 (by decide))) hI101
             have I197 : jI102 σ164 := jI102_fr ((congrFun (f166 55 (by decide)) 6).trans (congrFun (f57 55 (by decide)) 6)) ((f166 60 (by decide)).trans (f57 60 (by decide))) ((f166 61 (by decide)).trans (f57 61 (by decide))) hI102
             have I198 : jI103 σ164 := jI103_fr ((congrFun (f166 55 (by decide)) 9).trans (congrFun (f57 55 (by decide)) 9)) hI103
             have I199 : jI104 σ164 := jI104_fr ((congrFun (f166 55 (by decide)) 10).trans (congrFun (f57 55 (by decide)) 10)) ((congrFun (f166 55 (by decide)) 12).trans (congrFun (f57 55 (by decide)) 12)) ((congrFun (f166 55 (by decide)) 13).trans (congrFun (f57 55 (by decide)) 13)) ((f166 62 (by decide)).trans (f57 62 (by decide))) ((f166 67 (by decide)).trans (f57 67 (by decide))) hI104
             have I200 : jI105 σ164 := jI105_fr ((congrFun (f166 55 (by decide)) 15).trans (congrFun (f57 55 (by decide)) 15)) ((f166 65 (by decide)).trans (f57 65 (by decide))) hI105
             have I201 : jI106 σ164 := jI106_fr ((congrFun (f166 55 (by decide)) 32).trans (congrFun (f57 55 (by decide)) 32)) ((f166 70 (by decide)).trans (f57 70 (by decide))) ((f166 71 (by decide)).trans (f57 71 (by decide))) ((f166 72 (by decide)).trans (f57 72 (by decide))) hI106
             have I202 : jI107 σ164 := jI107_fr ((congrFun (f166 55 (by decide)) 12).trans (congrFun (f57 55 (by decide)) 12)) ((congrFun (f166 55 (by decide)) 47).trans (congrFun (f57 55 (by decide)) 47)) ((f166 80 (by decide)).trans (f57 80 (by decide))) hI107
             have I203 : jI109 σ164 := jI109_fr ((congrFun (f166 55 (by decide)) 50).trans (congrFun (f57 55 (by decide)) 50)) hI109
             have I204 : jI111 σ164 := jI111_fr ((f166 79 (by decide)).trans (f57 79 (by decide))) hI111
             have I205 : jI119 σ164 := jI119_fr ((f166 68 (by decide)).trans (f57 68 (by decide))) hI119
             have p206 : jKept σ164 := jKept.fr ((f166 75 (by decide)).trans (f57 75 (by decide))) ((f166 76 (by decide)).trans (f57 76 (by decide))) ((f166 77 (by decide)).trans (f57 77 (by decide))) hs_jKept
             have p207 : jBook σ164 := jBook.fr ((congrFun (f166 55 (by decide)) 47).trans (congrFun (f57 55 (by decide)) 47)) ((congrFun (f166 55 (by decide)) 10).trans (congrFun (f57 55 (by decide)) 10)) ((f166 81 (by decide)).trans (f57 81 (by decide))) hs_jBook
             have p208 : jNd12 σ164 := jNd12.fr ((congrFun (f166 12 (by decide)) 0).trans (congrFun (f57 12 (by decide)) 0)) ((congrFun (f166 12 (by decide)) 1).trans (congrFun (f57 12 (by decide)) 1)) ((f166 13 (by decide)).trans (f57 13 (by decide))) hs_jNd12
             have p209 : jN67 σ164 := jN67.fr ((f166 24 (by decide)).trans (f57 24 (by decide))) hs_jN67
             have p210 : jBl σ164 := jBl.fr ((congrFun (f166 22 (by decide)) 0).trans (congrFun (f57 22 (by decide)) 0)) ((congrFun (f166 22 (by decide)) 1).trans (congrFun (f57 22 (by decide)) 1)) ((f166 23 (by decide)).trans (f57 23 (by decide))) ((congrFun (f166 26 (by decide)) 6).trans (congrFun (f57 26 (by decide)) 6)) ((congrFun (f166 26 (by decide)) 7).trans (congrFun (f57 26 (by decide)) 7)) ((f166 29 (by decide)).trans (f57 29 (by decide))) ((f166 30 (by decide)).trans (f57 30 (by decide))) hs_jBl
             have p211 : jKb σ164 := jKb.fr ((congrFun (f166 31 (by decide)) 8).trans (congrFun (f57 31 (by decide)) 8)) ((congrFun (f166 31 (by decide)) 11).trans (congrFun (f57 31 (by decide)) 11)) ((f166 32 (by decide)).trans (f57 32 (by decide))) hs_jKb
             have p212 : jTR σ164 := jTR.fr ((f166 64 (by decide)).trans (f57 64 (by decide))) ((f166 65 (by decide)).trans (f57 65 (by decide))) hs_jTR
             have p213 : jKh σ164 := jKh.fr ((congrFun (f166 31 (by decide)) 8).trans (congrFun (f57 31 (by decide)) 8)) ((f166 32 (by decide)).trans (f57 32 (by decide))) ((f166 36 (by decide)).trans (f57 36 (by decide))) ((f166 37 (by decide)).trans (f57 37 (by decide))) hs_jKh
             have p214 : jKg σ164 := jKg.fr ((congrFun (f166 31 (by decide)) 8).trans (congrFun (f57 31 (by decide)) 8)) ((congrFun (f166 31 (by decide)) 9).trans (congrFun (f57 31 (by decide)) 9)) ((congrFun (f166 31 (by decide)) 11).trans (congrFun (f57 31 (by decide)) 11)) ((congrFun (f166 31 (by decide)) 12).trans (congrFun (f57 31 (by decide)) 12)) ((f166 32 (by decide)).trans (f57 32 (by decide))) ((f166 33 (by decide)).trans (f57 33 (by decide))) hs_jKg
             have p215 : jNz σ164 := jNz.fr ((f166 34 (by decide)).trans (f57 34 (by decide))) hs_jNz
             have p216 : jqSt σ164 := jqSt.fr ((f166 78 (by decide)).trans (f57 78 (by decide))) ((congrFun (f166 55 (by decide)) 42).trans (congrFun (f57 55 (by decide)) 42)) hs_jqSt
             have z217 : (σ164 2 0).toInt = (σ 2 0).toInt := (congrArg Int32.toInt (show σ164 2 0 = (σ 2 0) from ((congrFun (f166 2 (by decide)) 0).trans (congrFun (f57 2 (by decide)) 0))))
             have z218 : (σ164 55 6).toInt = (σ 55 6).toInt := (congrArg Int32.toInt (show σ164 55 6 = (σ 55 6) from ((congrFun (f166 55 (by decide)) 6).trans (congrFun (f57 55 (by decide)) 6))))
             have z219 : (σ164 2 2).toInt = (σ 2 2).toInt := (congrArg Int32.toInt (show σ164 2 2 = (σ 2 2) from ((congrFun (f166 2 (by decide)) 2).trans (congrFun (f57 2 (by decide)) 2))))
             have z220 : (σ164 55 5).toInt = (σ 55 5).toInt := (congrArg Int32.toInt (show σ164 55 5 = (σ 55 5) from ((congrFun (f166 55 (by decide)) 5).trans (congrFun (f57 55 (by decide)) 5))))
             have z221 : (σ164 2 3).toInt = (σ 2 3).toInt := (congrArg Int32.toInt (show σ164 2 3 = (σ 2 3) from ((congrFun (f166 2 (by decide)) 3).trans (congrFun (f57 2 (by decide)) 3))))
             have z222 : (σ164 55 4).toInt = (σ 55 4).toInt := (congrArg Int32.toInt (show σ164 55 4 = (σ 55 4) from ((congrFun (f166 55 (by decide)) 4).trans (congrFun (f57 55 (by decide)) 4))))
             have z223 : (σ164 9 0).toInt = (σ 9 0).toInt := (congrArg Int32.toInt (show σ164 9 0 = (σ 9 0) from ((congrFun (f166 9 (by decide)) 0).trans (congrFun (f57 9 (by decide)) 0))))
             have z224 : (σ164 55 15).toInt = (σ 55 15).toInt := (congrArg Int32.toInt (show σ164 55 15 = (σ 55 15) from ((congrFun (f166 55 (by decide)) 15).trans (congrFun (f57 55 (by decide)) 15))))
             have z225 : (σ164 16 0).toInt = (σ 16 0).toInt := (congrArg Int32.toInt (show σ164 16 0 = (σ 16 0) from ((congrFun (f166 16 (by decide)) 0).trans (congrFun (f57 16 (by decide)) 0))))
             have z226 : (σ164 55 10).toInt = (σ 55 10).toInt := (congrArg Int32.toInt (show σ164 55 10 = (σ 55 10) from ((congrFun (f166 55 (by decide)) 10).trans (congrFun (f57 55 (by decide)) 10))))
             have z227 : (σ164 16 1).toInt = (σ 16 1).toInt := (congrArg Int32.toInt (show σ164 16 1 = (σ 16 1) from ((congrFun (f166 16 (by decide)) 1).trans (congrFun (f57 16 (by decide)) 1))))
             have z228 : (σ164 55 12).toInt = (σ 55 12).toInt := (congrArg Int32.toInt (show σ164 55 12 = (σ 55 12) from ((congrFun (f166 55 (by decide)) 12).trans (congrFun (f57 55 (by decide)) 12))))
             have z229 : (σ164 16 2).toInt = (σ 16 2).toInt := (congrArg Int32.toInt (show σ164 16 2 = (σ 16 2) from ((congrFun (f166 16 (by decide)) 2).trans (congrFun (f57 16 (by decide)) 2))))
             have z230 : (σ164 55 13).toInt = (σ 55 13).toInt := (congrArg Int32.toInt (show σ164 55 13 = (σ 55 13) from ((congrFun (f166 55 (by decide)) 13).trans (congrFun (f57 55 (by decide)) 13))))
             have z231 : (σ164 38 0).toInt = (σ 38 0).toInt := (congrArg Int32.toInt (show σ164 38 0 = (σ 38 0) from ((congrFun (f166 38 (by decide)) 0).trans (congrFun (f57 38 (by decide)) 0))))
             have z232 : (σ164 55 32).toInt = (σ 55 32).toInt := (congrArg Int32.toInt (show σ164 55 32 = (σ 55 32) from ((congrFun (f166 55 (by decide)) 32).trans (congrFun (f57 55 (by decide)) 32))))
             have z233 : (σ164 38 1).toInt = (σ 38 1).toInt := (congrArg Int32.toInt (show σ164 38 1 = (σ 38 1) from ((congrFun (f166 38 (by decide)) 1).trans (congrFun (f57 38 (by decide)) 1))))
             have z234 : (σ164 55 55).toInt = (σ 55 55).toInt := (congrArg Int32.toInt (show σ164 55 55 = (σ 55 55) from ((congrFun (f166 55 (by decide)) 55).trans (congrFun (f57 55 (by decide)) 55))))
             have z235 : (σ164 47 0).toInt = (σ 47 0).toInt := (congrArg Int32.toInt (show σ164 47 0 = (σ 47 0) from ((congrFun (f166 47 (by decide)) 0).trans (congrFun (f57 47 (by decide)) 0))))
             have z236 : (σ164 55 47).toInt = (σ 55 47).toInt := (congrArg Int32.toInt (show σ164 55 47 = (σ 55 47) from ((congrFun (f166 55 (by decide)) 47).trans (congrFun (f57 55 (by decide)) 47))))
             have z237 : (σ164 55 30).toInt = (σ 55 30).toInt := (congrArg Int32.toInt (show σ164 55 30 = (σ 55 30) from ((congrFun (f166 55 (by decide)) 30).trans (congrFun (f57 55 (by decide)) 30))))
             have z238 : (σ164 55 31).toInt = (σ 55 31).toInt := (congrArg Int32.toInt (show σ164 55 31 = (σ 55 31) from ((congrFun (f166 55 (by decide)) 31).trans (congrFun (f57 55 (by decide)) 31))))
             have z239 : (σ164 2 1).toInt = (σ 2 1).toInt := (congrArg Int32.toInt (show σ164 2 1 = (σ 2 1) from ((congrFun (f166 2 (by decide)) 1).trans (congrFun (f57 2 (by decide)) 1))))
             have z240 : (σ164 55 9).toInt = (σ 55 9).toInt := (congrArg Int32.toInt (show σ164 55 9 = (σ 55 9) from ((congrFun (f166 55 (by decide)) 9).trans (congrFun (f57 55 (by decide)) 9))))
             have z241 : (σ164 55 42).toInt = (σ 55 42).toInt := (congrArg Int32.toInt (show σ164 55 42 = (σ 55 42) from ((congrFun (f166 55 (by decide)) 42).trans (congrFun (f57 55 (by decide)) 42))))
             have z242 : (σ164 26 6).toInt = (σ 26 6).toInt := (congrArg Int32.toInt (show σ164 26 6 = (σ 26 6) from ((congrFun (f166 26 (by decide)) 6).trans (congrFun (f57 26 (by decide)) 6))))
             have z244 : (σ164 18 0).toInt = (σ 18 0).toInt := (congrArg Int32.toInt (show σ164 18 0 = (σ 18 0) from ((congrFun (f166 18 (by decide)) 0).trans (congrFun (f57 18 (by decide)) 0))))
             have z245 : (σ164 22 0).toInt = (σ 22 0).toInt := (congrArg Int32.toInt (show σ164 22 0 = (σ 22 0) from ((congrFun (f166 22 (by decide)) 0).trans (congrFun (f57 22 (by decide)) 0))))
             exact by exact ih x182 σ164 τ164 _ _ ls (by have h9 := tx182; omega) ⟨I183, I184, I185, I186, I187, I188, I189, I190, I191, I192, I193, I194, I195, I196, I197, I198, I199, I200, I201, I202, I203, I167, I204, I205, p206, p207, p208, p209, p210, p211, p212, p213, p214, p215, p216, (by rw [z217, z218]; exact ht0), (by rw [z219, z220]; exact ht1), (by rw [z219, z221, z222]; exact ht2), (by rw [z223, z224]; exact ht3), (by rw [z225, z226]; exact ht4), (by rw [z227, z228]; exact ht5), (by rw [z229, z230]; exact ht6), (by rw [z231, z232]; exact ht7), (by rw [z233, z234]; exact ht8), (by rw [z235, z236]; exact ht9), (by rw [z237]; exact ht10), (by rw [z238]; exact ht11), (by rw [z239, z240]; exact ht12), (by rw [z241]; exact ht13), (by have h9 := tx182; omega), (by have h9 := tx182; omega), (show jNumP (σ164 3) (σ164 56) (σ164 6) (σ164 57) (σ164 7) (σ164 58) (σ164 8) (σ164 59) (σ164 55 6).toInt (σ164 55 4).toInt by rw [show σ164 3 = σ 3 from ((f166 3 (by decide)).trans (f57 3 (by decide))), show σ164 56 = σ 56 from ((f166 56 (by decide)).trans (f57 56 (by decide))), show σ164 6 = σ 6 from ((f166 6 (by decide)).trans (f57 6 (by decide))), show σ164 57 = σ 57 from ((f166 57 (by decide)).trans (f57 57 (by decide))), show σ164 7 = σ 7 from ((f166 7 (by decide)).trans (f57 7 (by decide))), show σ164 58 = σ 58 from ((f166 58 (by decide)).trans (f57 58 (by decide))), show σ164 8 = σ 8 from ((f166 8 (by decide)).trans (f57 8 (by decide))), show σ164 59 = σ 59 from ((f166 59 (by decide)).trans (f57 59 (by decide))), show (σ164 55 6).toInt = (σ 55 6).toInt from z218, show (σ164 55 4).toInt = (σ 55 4).toInt from z222]; exact hr0), (show jOvP (σ164 56) (σ164 57) (σ164 58) (σ164 59) (σ164 55 4).toInt by rw [show σ164 56 = σ 56 from ((f166 56 (by decide)).trans (f57 56 (by decide))), show σ164 57 = σ 57 from ((f166 57 (by decide)).trans (f57 57 (by decide))), show σ164 58 = σ 58 from ((f166 58 (by decide)).trans (f57 58 (by decide))), show σ164 59 = σ 59 from ((f166 59 (by decide)).trans (f57 59 (by decide))), show (σ164 55 4).toInt = (σ 55 4).toInt from z222]; exact hr1), (show jTp (σ164 10) (σ164 63) (σ164 55 15).toInt by rw [show σ164 10 = σ 10 from ((f166 10 (by decide)).trans (f57 10 (by decide))), show σ164 63 = σ 63 from ((f166 63 (by decide)).trans (f57 63 (by decide)))]; exact hr2.le (by omega)), (show jSo (σ164 17) (σ164 62) (σ164 16 0).toInt by rw [show σ164 17 = σ 17 from ((f166 17 (by decide)).trans (f57 17 (by decide))), show σ164 62 = σ 62 from ((f166 62 (by decide)).trans (f57 62 (by decide))), show (σ164 16 0).toInt = (σ 16 0).toInt from z225]; exact hr3), (show jShP (σ164 51) (σ164 52) (σ164 53) (σ164 86) (σ164 87) (σ164 55 32).toInt by rw [show σ164 51 = σ 51 from ((f166 51 (by decide)).trans k160.1), show σ164 52 = σ 52 from ((f166 52 (by decide)).trans k160.2.1), show σ164 53 = σ 53 from ((f166 53 (by decide)).trans k160.2.2), show σ164 86 = σ 86 from (k179.1.trans (f57 86 (by decide))), show σ164 87 = σ 87 from (k179.2.trans (f57 87 (by decide)))]; exact (hr4.up (by omega) (by omega))), (show jEl (σ164 51) (σ164 52) (τ164 54) (τ164 88) by rw [show σ164 51 = σ 51 from ((f166 51 (by decide)).trans k160.1), show σ164 52 = σ 52 from ((f166 52 (by decide)).trans k160.2.1), show τ164 54 = τ 54 from ((f168 54 (by decide)).trans k161), show τ164 88 = τ 88 from (k180.trans (f59 88 (by decide)))]; exact hr5), (show jByP (σ164 51) (σ164 52) (τ164 54) by rw [show σ164 51 = σ 51 from ((f166 51 (by decide)).trans k160.1), show σ164 52 = σ 52 from ((f166 52 (by decide)).trans k160.2.1), show τ164 54 = τ 54 from ((f168 54 (by decide)).trans k161)]; exact hr6), (show jBk (σ164 48) (σ164 80) (σ164 49) (σ164 81) (σ164 55 47).toInt by rw [show σ164 48 = σ 48 from ((f166 48 (by decide)).trans (f57 48 (by decide))), show σ164 49 = σ 49 from ((f166 49 (by decide)).trans (f57 49 (by decide))), show σ164 80 = σ 80 from ((f166 80 (by decide)).trans (f57 80 (by decide))), show σ164 81 = σ 81 from ((f166 81 (by decide)).trans (f57 81 (by decide))), show (σ164 55 47).toInt = (σ 55 47).toInt from z236]; exact hr7), (show jKd (σ164 39) (σ164 70) (σ164 55 32).toInt by rw [show σ164 39 = σ 39 from ((f166 39 (by decide)).trans (f57 39 (by decide))), show σ164 70 = σ 70 from ((f166 70 (by decide)).trans (f57 70 (by decide))), show (σ164 55 32).toInt = (σ 55 32).toInt from z232]; exact hr8), (show jTt (σ164 42) (σ164 85) (σ164 55 55).toInt by rw [show σ164 42 = σ 42 from ((f166 42 (by decide)).trans (f57 42 (by decide))), show σ164 85 = σ 85 from ((f166 85 (by decide)).trans (f57 85 (by decide))), show (σ164 55 55).toInt = (σ 55 55).toInt from z234]; exact hr9), (fun k hk => by rw [show σ164 4 = σ 4 from ((f166 4 (by decide)).trans (f57 4 (by decide))), show σ164 5 = σ 5 from ((f166 5 (by decide)).trans (f57 5 (by decide))), show σ164 60 = σ 60 from ((f166 60 (by decide)).trans (f57 60 (by decide))), show σ164 61 = σ 61 from ((f166 61 (by decide)).trans (f57 61 (by decide)))]; exact hr10 k (by omega)), (fun nm => by rw [show σ164 19 = σ 19 from ((f166 19 (by decide)).trans (f57 19 (by decide))), show σ164 64 = σ 64 from ((f166 64 (by decide)).trans (f57 64 (by decide))), show σ164 65 = σ 65 from ((f166 65 (by decide)).trans (f57 65 (by decide))), show (σ164 18 0).toInt = (σ 18 0).toInt from z244]; exact hr11 nm), (fun nm => by rw [show σ164 23 = σ 23 from ((f166 23 (by decide)).trans (f57 23 (by decide))), show σ164 64 = σ 64 from ((f166 64 (by decide)).trans (f57 64 (by decide))), show σ164 65 = σ 65 from ((f166 65 (by decide)).trans (f57 65 (by decide))), show (σ164 22 0).toInt = (σ 22 0).toInt from z245]; exact hr12 nm), (show jAlP (σ164 56) (σ164 57) (σ164 58) (σ164 59) (σ164 55 4).toInt by rw [show σ164 56 = σ 56 from ((f166 56 (by decide)).trans (f57 56 (by decide))), show σ164 57 = σ 57 from ((f166 57 (by decide)).trans (f57 57 (by decide))), show σ164 58 = σ 58 from ((f166 58 (by decide)).trans (f57 58 (by decide))), show σ164 59 = σ 59 from ((f166 59 (by decide)).trans (f57 59 (by decide))), show (σ164 55 4).toInt = (σ 55 4).toInt from z222]; exact hr13), (show jqbN (σ164 80) (σ164 55 47).toInt by rw [show σ164 80 = σ 80 from ((f166 80 (by decide)).trans (f57 80 (by decide))), show (σ164 55 47).toInt = (σ 55 47).toInt from z236]; exact hr14)⟩ hP hS (lv_sub hl [0, 1, 2, 3] rfl)
         · obtain ⟨q251, k246, k247, k248, k249, k250⟩ := h171
           exact absurd (by omega : False) id
     · obtain ⟨q257, k252, k253, k254, k255, k256⟩ := h63
       have q257 := q257.symm
       subst q257
       refine lv_pop hx hb dL_law_1108 rfl ?_
       refine lv_aload_n hx hb dL_law_1109 rfl (lv_at hl 1 rfl) ?_
       refine lv_aload_n hx hb dL_law_1110 rfl (lv_at hl 3 rfl) ?_
       refine lv_iload_n hx hb dL_law_1111 rfl (lv_at hl 0 rfl) ?_
       refine lv_iconst (v := 1) hx hb dL_law_1112 (by decide) ?_
       refine lv_iadd hx hb dL_law_1113 ?_
       refine jtopr ex49.symm ?_
       exact by
        refine va_sld hx hb hX hbl hbA hS (jin tx49 (by omega) (by omega)) dL_law_1114 ?_
        refine lv_aload_n hx hb dL_law_1115 rfl (lv_at hl 3 rfl) ?_
        refine lv_iload_n hx hb dL_law_1116 rfl (lv_at hl 0 rfl) ?_
        refine lv_iconst (v := 2) hx hb dL_law_1117 (by decide) ?_
        refine lv_iadd hx hb dL_law_1118 ?_
        refine jtopr ex51.symm ?_
        refine va_sld hx hb hX hbl hbA hS (jin tx51 (by omega) (by omega)) dL_law_1119 ?_
        refine lv_aload_n hx hb dL_law_1120 rfl (lv_at hl 3 rfl) ?_
        refine lv_iload_n hx hb dL_law_1121 rfl (lv_at hl 0 rfl) ?_
        exact by
         refine lv_iconst (v := 3) hx hb dL_law_1122 (by decide) ?_
         refine lv_iadd hx hb dL_law_1123 ?_
         refine jtopr ex53.symm ?_
         refine va_sld hx hb hX hbl hbA hS (jin tx53 (by omega) (by omega)) dL_law_1124 ?_
         have I258 : jI110 σ55 := jI110_fr (f57 86 (by decide)) (f57 87 (by decide)) hI110
         refine jcallV (As := [.int (xs x49.toNatClampNeg), .int (xs x51.toNatClampNeg), .int (xs x53.toNatClampNeg)]) (rest := []) ⟨hx, hb, hml, hown, hts⟩ hK hP hA hS hZ (c_X12_row l D cI cL ad zz hJ σ55 τ55 (xs x49.toNatClampNeg) ((xs x49.toNatClampNeg).toInt) rfl (xs x51.toNatClampNeg) ((xs x51.toNatClampNeg).toInt) rfl (xs x53.toNatClampNeg) ((xs x53.toNatClampNeg).toInt) rfl I258) cw_RL_144 (jc_55 cI cL ad σ55 τ55) rfl ⟨Nat.le_of_ble_eq_true rfl, Nat.le_of_ble_eq_true rfl⟩ rfl rfl rfl hl.1 rfl (Nat.le_of_ble_eq_true rfl) dL_law_1125 ⟨Nat.le_of_ble_eq_true rfl, Nat.le_of_ble_eq_true rfl⟩ (fun r260 σ259 τ259 H locs h259 hP hS => ?_)
         obtain ⟨f263, f261, I262, h259⟩ := h259
         rcases h259 with h264 | h265 | h266
         · obtain ⟨q270, k267, k268, k269⟩ := h264
           exact absurd (by omega : False) id
         · exact by
            obtain ⟨q276, k271, k272, k273, k274, k275⟩ := h265
            exact absurd (by omega : False) id
         · obtain ⟨q282, k277, k278, k279, k280, k281⟩ := h266
           have q282 := q282.symm
           subst q282
           refine lv_pop hx hb dL_law_1128 rfl ?_
           refine lv_goto (tgt := 1357) hx hb dL_law_1129 (by decide) ?_
           obtain ⟨x283, ex283⟩ : ∃ y : Int32, y = x0 + 6 := ⟨_, rfl⟩
           have tx283 : x283.toInt = x0.toInt + 6 := (jadd ex283 rfl jz_6 (by omega) (by omega)).trans (by omega)
           exact by
            refine lv_iinc (v := x283) (lv' := [(3, .int x283), (2, .ref (ad 55)), (1, .ref (ad 0)), (0, .ref b)]) hx hb dL_law_1357 hl (k := 0) rfl (by rw [ex283]; rfl) (by decide) rfl (fun ls hl => ?_)
            refine lv_goto (tgt := 18) hx hb dL_law_1360 (by decide) ?_
            have I284 : jI2 σ259 := jI2_fr ((congrFun (f261 2 (by decide)) 0).trans (congrFun (f57 2 (by decide)) 0)) ((congrFun (f261 2 (by decide)) 1).trans (congrFun (f57 2 (by decide)) 1)) ((congrFun (f261 2 (by decide)) 2).trans (congrFun (f57 2 (by decide)) 2)) ((congrFun (f261 2 (by decide)) 3).trans (congrFun (f57 2 (by decide)) 3)) ((f261 6 (by decide)).trans (f57 6 (by decide))) ((f261 5 (by decide)).trans (f57 5 (by decide))) hI2
            have I285 : jI9 σ259 := jI9_fr ((congrFun (f261 9 (by decide)) 0).trans (congrFun (f57 9 (by decide)) 0)) ((f261 10 (by decide)).trans (f57 10 (by decide))) ((f261 11 (by decide)).trans (f57 11 (by decide))) hI9
            have I286 : jI12 σ259 := jI12_fr ((congrFun (f261 12 (by decide)) 0).trans (congrFun (f57 12 (by decide)) 0)) ((f261 13 (by decide)).trans (f57 13 (by decide))) hI12
            have I287 : jI16 σ259 := jI16_fr ((congrFun (f261 16 (by decide)) 0).trans (congrFun (f57 16 (by decide)) 0)) ((congrFun (f261 16 (by decide)) 1).trans (congrFun (f57 16 (by decide)) 1)) ((congrFun (f261 16 (by decide)) 2).trans (congrFun (f57 16 (by decide)) 2)) ((f261 17 (by decide)).trans (f57 17 (by decide))) hI16
            have I288 : jI18 σ259 := jI18_fr ((congrFun (f261 18 (by decide)) 0).trans (congrFun (f57 18 (by decide)) 0)) ((f261 19 (by decide)).trans (f57 19 (by decide))) hI18
            have I289 : jI22 σ259 := jI22_fr ((congrFun (f261 22 (by decide)) 0).trans (congrFun (f57 22 (by decide)) 0)) ((f261 23 (by decide)).trans (f57 23 (by decide))) hI22
            have I290 : jI31 σ259 := jI31_fr ((congrFun (f261 31 (by decide)) 8).trans (congrFun (f57 31 (by decide)) 8)) ((congrFun (f261 31 (by decide)) 10).trans (congrFun (f57 31 (by decide)) 10)) ((congrFun (f261 31 (by decide)) 11).trans (congrFun (f57 31 (by decide)) 11)) ((f261 33 (by decide)).trans (f57 33 (by decide))) ((f261 35 (by decide)).trans (f57 35 (by decide))) ((f261 36 (by decide)).trans (f57 36 (by decide))) hI31
            have I291 : jI38 σ259 := jI38_fr ((congrFun (f261 38 (by decide)) 0).trans (congrFun (f57 38 (by decide)) 0)) ((congrFun (f261 38 (by decide)) 1).trans (congrFun (f57 38 (by decide)) 1)) ((f261 39 (by decide)).trans (f57 39 (by decide))) hI38
            have I292 : jI43 σ259 := jI43_fr ((congrFun (f261 43 (by decide)) 8).trans (congrFun (f57 43 (by decide)) 8)) hI43
            have I293 : jI47 σ259 := jI47_fr ((congrFun (f261 47 (by decide)) 0).trans (congrFun (f57 47 (by decide)) 0)) ((f261 48 (by decide)).trans (f57 48 (by decide))) ((f261 49 (by decide)).trans (f57 49 (by decide))) hI47
            have I294 : jI50 σ259 := jI50_fr (f261 52 (by decide)) I58
            have I295 : jI0 σ259 := jI0_fr ((f261 1 (by decide)).trans (f57 1 (by decide))) hI0
            have I296 : jI26 σ259 := jI26_fr ((congrFun (f261 26 (by decide)) 6).trans (congrFun (f57 26 (by decide)) 6)) hI26
            have I297 : jI101 σ259 := jI101_fr ((congrFun (f261 55 (by decide)) 4).trans (congrFun (f57 55 (by decide)) 4)) ((congrFun (f261 55 (by decide)) 5).trans (congrFun (f57 55 (by decide)) 5)) ((f261 56 (by decide)).trans (f57 56 (by decide))) ((f261 57 (by decide)).trans (f57 57 (by decide))) ((f261 58 (by decide)).trans (f57 58 (by decide))) ((f261 59 (by decide)).trans (f57 59 (by decide))) hI101
            have I298 : jI102 σ259 := jI102_fr ((congrFun (f261 55 (by decide)) 6).trans (congrFun (f57 55 (by decide)) 6)) ((f261 60 (by decide)).trans (f57 60 (by decide))) ((f261 61 (by decide)).trans (f57 61 (by decide))) hI102
            have I299 : jI103 σ259 := jI103_fr ((congrFun (f261 55 (by decide)) 9).trans (congrFun (f57 55 (by decide)) 9)) hI103
            have I300 : jI104 σ259 := jI104_fr ((congrFun (f261 55 (by decide)) 10).trans (congrFun (f57 55 (by decide)) 10)) ((congrFun (f261 55 (by decide)) 12).trans (congrFun (f57 55 (by decide)) 12)) ((congrFun (f261 55 (by decide)) 13).trans (congrFun (f57 55 (by decide)) 13)) ((f261 62 (by decide)).trans (f57 62 (by decide))) ((f261 67 (by decide)).trans (f57 67 (by decide))) hI104
            have I301 : jI105 σ259 := jI105_fr ((congrFun (f261 55 (by decide)) 15).trans (congrFun (f57 55 (by decide)) 15)) ((f261 65 (by decide)).trans (f57 65 (by decide))) hI105
            have I302 : jI106 σ259 := jI106_fr ((congrFun (f261 55 (by decide)) 32).trans (congrFun (f57 55 (by decide)) 32)) ((f261 70 (by decide)).trans (f57 70 (by decide))) ((f261 71 (by decide)).trans (f57 71 (by decide))) ((f261 72 (by decide)).trans (f57 72 (by decide))) hI106
            have I303 : jI107 σ259 := jI107_fr ((congrFun (f261 55 (by decide)) 12).trans (congrFun (f57 55 (by decide)) 12)) ((congrFun (f261 55 (by decide)) 47).trans (congrFun (f57 55 (by decide)) 47)) ((f261 80 (by decide)).trans (f57 80 (by decide))) hI107
            have I304 : jI109 σ259 := jI109_fr ((congrFun (f261 55 (by decide)) 50).trans (congrFun (f57 55 (by decide)) 50)) hI109
            have I305 : jI111 σ259 := jI111_fr ((f261 79 (by decide)).trans (f57 79 (by decide))) hI111
            have I306 : jI119 σ259 := jI119_fr ((f261 68 (by decide)).trans (f57 68 (by decide))) hI119
            have p307 : jKept σ259 := jKept.fr ((f261 75 (by decide)).trans (f57 75 (by decide))) ((f261 76 (by decide)).trans (f57 76 (by decide))) ((f261 77 (by decide)).trans (f57 77 (by decide))) hs_jKept
            have p308 : jBook σ259 := jBook.fr ((congrFun (f261 55 (by decide)) 47).trans (congrFun (f57 55 (by decide)) 47)) ((congrFun (f261 55 (by decide)) 10).trans (congrFun (f57 55 (by decide)) 10)) ((f261 81 (by decide)).trans (f57 81 (by decide))) hs_jBook
            have p309 : jNd12 σ259 := jNd12.fr ((congrFun (f261 12 (by decide)) 0).trans (congrFun (f57 12 (by decide)) 0)) ((congrFun (f261 12 (by decide)) 1).trans (congrFun (f57 12 (by decide)) 1)) ((f261 13 (by decide)).trans (f57 13 (by decide))) hs_jNd12
            have p310 : jN67 σ259 := jN67.fr ((f261 24 (by decide)).trans (f57 24 (by decide))) hs_jN67
            have p311 : jBl σ259 := jBl.fr ((congrFun (f261 22 (by decide)) 0).trans (congrFun (f57 22 (by decide)) 0)) ((congrFun (f261 22 (by decide)) 1).trans (congrFun (f57 22 (by decide)) 1)) ((f261 23 (by decide)).trans (f57 23 (by decide))) ((congrFun (f261 26 (by decide)) 6).trans (congrFun (f57 26 (by decide)) 6)) ((congrFun (f261 26 (by decide)) 7).trans (congrFun (f57 26 (by decide)) 7)) ((f261 29 (by decide)).trans (f57 29 (by decide))) ((f261 30 (by decide)).trans (f57 30 (by decide))) hs_jBl
            have p312 : jKb σ259 := jKb.fr ((congrFun (f261 31 (by decide)) 8).trans (congrFun (f57 31 (by decide)) 8)) ((congrFun (f261 31 (by decide)) 11).trans (congrFun (f57 31 (by decide)) 11)) ((f261 32 (by decide)).trans (f57 32 (by decide))) hs_jKb
            have p313 : jTR σ259 := jTR.fr ((f261 64 (by decide)).trans (f57 64 (by decide))) ((f261 65 (by decide)).trans (f57 65 (by decide))) hs_jTR
            have p314 : jKh σ259 := jKh.fr ((congrFun (f261 31 (by decide)) 8).trans (congrFun (f57 31 (by decide)) 8)) ((f261 32 (by decide)).trans (f57 32 (by decide))) ((f261 36 (by decide)).trans (f57 36 (by decide))) ((f261 37 (by decide)).trans (f57 37 (by decide))) hs_jKh
            have p315 : jKg σ259 := jKg.fr ((congrFun (f261 31 (by decide)) 8).trans (congrFun (f57 31 (by decide)) 8)) ((congrFun (f261 31 (by decide)) 9).trans (congrFun (f57 31 (by decide)) 9)) ((congrFun (f261 31 (by decide)) 11).trans (congrFun (f57 31 (by decide)) 11)) ((congrFun (f261 31 (by decide)) 12).trans (congrFun (f57 31 (by decide)) 12)) ((f261 32 (by decide)).trans (f57 32 (by decide))) ((f261 33 (by decide)).trans (f57 33 (by decide))) hs_jKg
            have p316 : jNz σ259 := jNz.fr ((f261 34 (by decide)).trans (f57 34 (by decide))) hs_jNz
            have p317 : jqSt σ259 := jqSt.fr ((f261 78 (by decide)).trans (f57 78 (by decide))) ((congrFun (f261 55 (by decide)) 42).trans (congrFun (f57 55 (by decide)) 42)) hs_jqSt
            have z318 : (σ259 2 0).toInt = (σ 2 0).toInt := (congrArg Int32.toInt (show σ259 2 0 = (σ 2 0) from ((congrFun (f261 2 (by decide)) 0).trans (congrFun (f57 2 (by decide)) 0))))
            have z319 : (σ259 55 6).toInt = (σ 55 6).toInt := (congrArg Int32.toInt (show σ259 55 6 = (σ 55 6) from ((congrFun (f261 55 (by decide)) 6).trans (congrFun (f57 55 (by decide)) 6))))
            have z320 : (σ259 2 2).toInt = (σ 2 2).toInt := (congrArg Int32.toInt (show σ259 2 2 = (σ 2 2) from ((congrFun (f261 2 (by decide)) 2).trans (congrFun (f57 2 (by decide)) 2))))
            have z321 : (σ259 55 5).toInt = (σ 55 5).toInt := (congrArg Int32.toInt (show σ259 55 5 = (σ 55 5) from ((congrFun (f261 55 (by decide)) 5).trans (congrFun (f57 55 (by decide)) 5))))
            have z322 : (σ259 2 3).toInt = (σ 2 3).toInt := (congrArg Int32.toInt (show σ259 2 3 = (σ 2 3) from ((congrFun (f261 2 (by decide)) 3).trans (congrFun (f57 2 (by decide)) 3))))
            have z323 : (σ259 55 4).toInt = (σ 55 4).toInt := (congrArg Int32.toInt (show σ259 55 4 = (σ 55 4) from ((congrFun (f261 55 (by decide)) 4).trans (congrFun (f57 55 (by decide)) 4))))
            have z324 : (σ259 9 0).toInt = (σ 9 0).toInt := (congrArg Int32.toInt (show σ259 9 0 = (σ 9 0) from ((congrFun (f261 9 (by decide)) 0).trans (congrFun (f57 9 (by decide)) 0))))
            have z325 : (σ259 55 15).toInt = (σ 55 15).toInt := (congrArg Int32.toInt (show σ259 55 15 = (σ 55 15) from ((congrFun (f261 55 (by decide)) 15).trans (congrFun (f57 55 (by decide)) 15))))
            have z326 : (σ259 16 0).toInt = (σ 16 0).toInt := (congrArg Int32.toInt (show σ259 16 0 = (σ 16 0) from ((congrFun (f261 16 (by decide)) 0).trans (congrFun (f57 16 (by decide)) 0))))
            have z327 : (σ259 55 10).toInt = (σ 55 10).toInt := (congrArg Int32.toInt (show σ259 55 10 = (σ 55 10) from ((congrFun (f261 55 (by decide)) 10).trans (congrFun (f57 55 (by decide)) 10))))
            have z328 : (σ259 16 1).toInt = (σ 16 1).toInt := (congrArg Int32.toInt (show σ259 16 1 = (σ 16 1) from ((congrFun (f261 16 (by decide)) 1).trans (congrFun (f57 16 (by decide)) 1))))
            have z329 : (σ259 55 12).toInt = (σ 55 12).toInt := (congrArg Int32.toInt (show σ259 55 12 = (σ 55 12) from ((congrFun (f261 55 (by decide)) 12).trans (congrFun (f57 55 (by decide)) 12))))
            have z330 : (σ259 16 2).toInt = (σ 16 2).toInt := (congrArg Int32.toInt (show σ259 16 2 = (σ 16 2) from ((congrFun (f261 16 (by decide)) 2).trans (congrFun (f57 16 (by decide)) 2))))
            have z331 : (σ259 55 13).toInt = (σ 55 13).toInt := (congrArg Int32.toInt (show σ259 55 13 = (σ 55 13) from ((congrFun (f261 55 (by decide)) 13).trans (congrFun (f57 55 (by decide)) 13))))
            have z332 : (σ259 38 0).toInt = (σ 38 0).toInt := (congrArg Int32.toInt (show σ259 38 0 = (σ 38 0) from ((congrFun (f261 38 (by decide)) 0).trans (congrFun (f57 38 (by decide)) 0))))
            have z333 : (σ259 55 32).toInt = (σ 55 32).toInt := (congrArg Int32.toInt (show σ259 55 32 = (σ 55 32) from ((congrFun (f261 55 (by decide)) 32).trans (congrFun (f57 55 (by decide)) 32))))
            have z334 : (σ259 38 1).toInt = (σ 38 1).toInt := (congrArg Int32.toInt (show σ259 38 1 = (σ 38 1) from ((congrFun (f261 38 (by decide)) 1).trans (congrFun (f57 38 (by decide)) 1))))
            have z335 : (σ259 55 55).toInt = (σ 55 55).toInt := (congrArg Int32.toInt (show σ259 55 55 = (σ 55 55) from ((congrFun (f261 55 (by decide)) 55).trans (congrFun (f57 55 (by decide)) 55))))
            have z336 : (σ259 47 0).toInt = (σ 47 0).toInt := (congrArg Int32.toInt (show σ259 47 0 = (σ 47 0) from ((congrFun (f261 47 (by decide)) 0).trans (congrFun (f57 47 (by decide)) 0))))
            have z337 : (σ259 55 47).toInt = (σ 55 47).toInt := (congrArg Int32.toInt (show σ259 55 47 = (σ 55 47) from ((congrFun (f261 55 (by decide)) 47).trans (congrFun (f57 55 (by decide)) 47))))
            have z338 : (σ259 55 30).toInt = (σ 55 30).toInt := (congrArg Int32.toInt (show σ259 55 30 = (σ 55 30) from ((congrFun (f261 55 (by decide)) 30).trans (congrFun (f57 55 (by decide)) 30))))
            have z339 : (σ259 55 31).toInt = (σ 55 31).toInt := (congrArg Int32.toInt (show σ259 55 31 = (σ 55 31) from ((congrFun (f261 55 (by decide)) 31).trans (congrFun (f57 55 (by decide)) 31))))
            have z340 : (σ259 2 1).toInt = (σ 2 1).toInt := (congrArg Int32.toInt (show σ259 2 1 = (σ 2 1) from ((congrFun (f261 2 (by decide)) 1).trans (congrFun (f57 2 (by decide)) 1))))
            have z341 : (σ259 55 9).toInt = (σ 55 9).toInt := (congrArg Int32.toInt (show σ259 55 9 = (σ 55 9) from ((congrFun (f261 55 (by decide)) 9).trans (congrFun (f57 55 (by decide)) 9))))
            have z342 : (σ259 55 42).toInt = (σ 55 42).toInt := (congrArg Int32.toInt (show σ259 55 42 = (σ 55 42) from ((congrFun (f261 55 (by decide)) 42).trans (congrFun (f57 55 (by decide)) 42))))
            have z343 : (σ259 26 6).toInt = (σ 26 6).toInt := (congrArg Int32.toInt (show σ259 26 6 = (σ 26 6) from ((congrFun (f261 26 (by decide)) 6).trans (congrFun (f57 26 (by decide)) 6))))
            rw [show σ55 86 = σ 86 from (f57 86 (by decide)), show σ55 87 = σ 87 from (f57 87 (by decide))] at k280
            obtain ⟨⟨z345, k346, k347⟩, k348⟩ := k280
            have p344 := hr4.set k255.1 k255.2.1 k255.2.2 k347 k348 (Or.inr (Or.inr ⟨by omega, by omega, k346, rfl, rfl⟩))
            rw [show τ55 88 = τ 88 from (f59 88 (by decide))] at k281
            exact by
             have p349 := hr5.row w21 k255.1 k255.2.1 k256 k281 (by omega) (by omega) (by omega) (by omega) (by omega) (by omega)
             have z350 : (σ259 18 0).toInt = (σ 18 0).toInt := (congrArg Int32.toInt (show σ259 18 0 = (σ 18 0) from ((congrFun (f261 18 (by decide)) 0).trans (congrFun (f57 18 (by decide)) 0))))
             have z351 : (σ259 22 0).toInt = (σ 22 0).toInt := (congrArg Int32.toInt (show σ259 22 0 = (σ 22 0) from ((congrFun (f261 22 (by decide)) 0).trans (congrFun (f57 22 (by decide)) 0))))
             exact by exact ih x283 σ259 τ259 _ _ ls (by have h9 := tx283; omega) ⟨I284, I285, I286, I287, I288, I289, I290, I291, I292, I293, I294, I295, I296, I297, I298, I299, I300, I301, I302, I303, I304, I262, I305, I306, p307, p308, p309, p310, p311, p312, p313, p314, p315, p316, p317, (by rw [z318, z319]; exact ht0), (by rw [z320, z321]; exact ht1), (by rw [z320, z322, z323]; exact ht2), (by rw [z324, z325]; exact ht3), (by rw [z326, z327]; exact ht4), (by rw [z328, z329]; exact ht5), (by rw [z330, z331]; exact ht6), (by rw [z332, z333]; exact ht7), (by rw [z334, z335]; exact ht8), (by rw [z336, z337]; exact ht9), (by rw [z338]; exact ht10), (by rw [z339]; exact ht11), (by rw [z340, z341]; exact ht12), (by rw [z342]; exact ht13), (by have h9 := tx283; omega), (by have h9 := tx283; omega), (show jNumP (σ259 3) (σ259 56) (σ259 6) (σ259 57) (σ259 7) (σ259 58) (σ259 8) (σ259 59) (σ259 55 6).toInt (σ259 55 4).toInt by rw [show σ259 3 = σ 3 from ((f261 3 (by decide)).trans (f57 3 (by decide))), show σ259 56 = σ 56 from ((f261 56 (by decide)).trans (f57 56 (by decide))), show σ259 6 = σ 6 from ((f261 6 (by decide)).trans (f57 6 (by decide))), show σ259 57 = σ 57 from ((f261 57 (by decide)).trans (f57 57 (by decide))), show σ259 7 = σ 7 from ((f261 7 (by decide)).trans (f57 7 (by decide))), show σ259 58 = σ 58 from ((f261 58 (by decide)).trans (f57 58 (by decide))), show σ259 8 = σ 8 from ((f261 8 (by decide)).trans (f57 8 (by decide))), show σ259 59 = σ 59 from ((f261 59 (by decide)).trans (f57 59 (by decide))), show (σ259 55 6).toInt = (σ 55 6).toInt from z319, show (σ259 55 4).toInt = (σ 55 4).toInt from z323]; exact hr0), (show jOvP (σ259 56) (σ259 57) (σ259 58) (σ259 59) (σ259 55 4).toInt by rw [show σ259 56 = σ 56 from ((f261 56 (by decide)).trans (f57 56 (by decide))), show σ259 57 = σ 57 from ((f261 57 (by decide)).trans (f57 57 (by decide))), show σ259 58 = σ 58 from ((f261 58 (by decide)).trans (f57 58 (by decide))), show σ259 59 = σ 59 from ((f261 59 (by decide)).trans (f57 59 (by decide))), show (σ259 55 4).toInt = (σ 55 4).toInt from z323]; exact hr1), (show jTp (σ259 10) (σ259 63) (σ259 55 15).toInt by rw [show σ259 10 = σ 10 from ((f261 10 (by decide)).trans (f57 10 (by decide))), show σ259 63 = σ 63 from ((f261 63 (by decide)).trans (f57 63 (by decide)))]; exact hr2.le (by omega)), (show jSo (σ259 17) (σ259 62) (σ259 16 0).toInt by rw [show σ259 17 = σ 17 from ((f261 17 (by decide)).trans (f57 17 (by decide))), show σ259 62 = σ 62 from ((f261 62 (by decide)).trans (f57 62 (by decide))), show (σ259 16 0).toInt = (σ 16 0).toInt from z326]; exact hr3), (show jShP (σ259 51) (σ259 52) (σ259 53) (σ259 86) (σ259 87) (σ259 55 32).toInt by rw [show σ259 51 = σ55 51 from (f261 51 (by decide)), show σ259 52 = σ55 52 from (f261 52 (by decide)), show σ259 53 = σ55 53 from (f261 53 (by decide))]; exact (p344.up (by omega) (by omega))), (show jEl (σ259 51) (σ259 52) (τ259 54) (τ259 88) by rw [show σ259 51 = σ55 51 from (f261 51 (by decide)), show σ259 52 = σ55 52 from (f261 52 (by decide)), show τ259 54 = τ55 54 from (f263 54 (by decide))]; exact p349), (show jByP (σ259 51) (σ259 52) (τ259 54) by rw [show σ259 51 = σ55 51 from (f261 51 (by decide)), show σ259 52 = σ55 52 from (f261 52 (by decide)), show τ259 54 = τ55 54 from (f263 54 (by decide))]; exact (hr6.row w21 k255.1 k255.2.1 k256 (by omega) (by omega) (by omega))), (show jBk (σ259 48) (σ259 80) (σ259 49) (σ259 81) (σ259 55 47).toInt by rw [show σ259 48 = σ 48 from ((f261 48 (by decide)).trans (f57 48 (by decide))), show σ259 49 = σ 49 from ((f261 49 (by decide)).trans (f57 49 (by decide))), show σ259 80 = σ 80 from ((f261 80 (by decide)).trans (f57 80 (by decide))), show σ259 81 = σ 81 from ((f261 81 (by decide)).trans (f57 81 (by decide))), show (σ259 55 47).toInt = (σ 55 47).toInt from z337]; exact hr7), (show jKd (σ259 39) (σ259 70) (σ259 55 32).toInt by rw [show σ259 39 = σ 39 from ((f261 39 (by decide)).trans (f57 39 (by decide))), show σ259 70 = σ 70 from ((f261 70 (by decide)).trans (f57 70 (by decide))), show (σ259 55 32).toInt = (σ 55 32).toInt from z333]; exact hr8), (show jTt (σ259 42) (σ259 85) (σ259 55 55).toInt by rw [show σ259 42 = σ 42 from ((f261 42 (by decide)).trans (f57 42 (by decide))), show σ259 85 = σ 85 from ((f261 85 (by decide)).trans (f57 85 (by decide))), show (σ259 55 55).toInt = (σ 55 55).toInt from z335]; exact hr9), (fun k hk => by rw [show σ259 4 = σ 4 from ((f261 4 (by decide)).trans (f57 4 (by decide))), show σ259 5 = σ 5 from ((f261 5 (by decide)).trans (f57 5 (by decide))), show σ259 60 = σ 60 from ((f261 60 (by decide)).trans (f57 60 (by decide))), show σ259 61 = σ 61 from ((f261 61 (by decide)).trans (f57 61 (by decide)))]; exact hr10 k (by omega)), (fun nm => by rw [show σ259 19 = σ 19 from ((f261 19 (by decide)).trans (f57 19 (by decide))), show σ259 64 = σ 64 from ((f261 64 (by decide)).trans (f57 64 (by decide))), show σ259 65 = σ 65 from ((f261 65 (by decide)).trans (f57 65 (by decide))), show (σ259 18 0).toInt = (σ 18 0).toInt from z350]; exact hr11 nm), (fun nm => by rw [show σ259 23 = σ 23 from ((f261 23 (by decide)).trans (f57 23 (by decide))), show σ259 64 = σ 64 from ((f261 64 (by decide)).trans (f57 64 (by decide))), show σ259 65 = σ 65 from ((f261 65 (by decide)).trans (f57 65 (by decide))), show (σ259 22 0).toInt = (σ 22 0).toInt from z351]; exact hr12 nm), (show jAlP (σ259 56) (σ259 57) (σ259 58) (σ259 59) (σ259 55 4).toInt by rw [show σ259 56 = σ 56 from ((f261 56 (by decide)).trans (f57 56 (by decide))), show σ259 57 = σ 57 from ((f261 57 (by decide)).trans (f57 57 (by decide))), show σ259 58 = σ 58 from ((f261 58 (by decide)).trans (f57 58 (by decide))), show σ259 59 = σ 59 from ((f261 59 (by decide)).trans (f57 59 (by decide))), show (σ259 55 4).toInt = (σ 55 4).toInt from z323]; exact hr13), (show jqbN (σ259 80) (σ259 55 47).toInt by rw [show σ259 80 = σ 80 from ((f261 80 (by decide)).trans (f57 80 (by decide))), show (σ259 55 47).toInt = (σ 55 47).toInt from z337]; exact hr14)⟩ hP hS (lv_sub hl [0, 1, 2, 3] rfl)
set_option maxHeartbeats 4000000 in
set_option maxRecDepth 100000 in
theorem law_case_32 {p : Program} {e : Env} {s : State} {m : MethodId} {below : List Frame} {meth : Method} {c : Code} (l : Launch) {b L : Nat} {xs : Nat → Int32} {D : va_G} {cI cL : ClassId} {ad zz : Nat → Nat} (C0 : lw_At p s m meth c b L xs) (hJ : jD ad) (hA : ∀ q, jA ad q → s.heap.size ≤ q) (hK : jK D cI cL s) (hZ : jZ zz (fun q : Nat => s.heap.size ≤ q) s s.heap) {x0 : Int32} (hx0 : 0 ≤ x0.toInt) (hxL : x0.toInt + 6 ≤ (L : Int)) (hL : L ≤ 384) {σ : Nat → Nat → Int32} {τ : Nat → Nat → Int64} {H : Heap} {locs : List Loc} (hS : va_S (fun q : Nat => s.heap.size ≤ q) s.heap H locs) {ls : Array Slot} (hAll : jAll x0.toInt σ τ) (hP : jH D cI cL ad σ τ H) (hl : lv_has ls 4 [(3, .int x0), (2, .ref (ad 55)), (1, .ref (ad 0)), (0, .ref b)]) (ih : ∀ (x1 : Int32) (σ : Nat → Nat → Int32) (τ : Nat → Nat → Int64) (H : Heap) (locs : List Loc) (ls : Array Slot), x1.toInt = x0.toInt + 6 → jAll x1.toInt σ τ → jH D cI cL ad σ τ H → va_S (fun q : Nat => s.heap.size ≤ q) s.heap H locs → lv_has ls 4 [(3, .int x1), (2, .ref (ad 55)), (1, .ref (ad 0)), (0, .ref b)] → W p l e room_1 s m #[Value.ref b] below meth c H locs 90 348600 (lw_Z below #[Value.ref b] s) (F0 m 18 ls [])) : W p l e room_1 s m #[Value.ref b] below meth c H locs 90 348600 (lw_Z below #[Value.ref b] s) (F0 m 1132 ls []) := by
  obtain ⟨hx, hb, hr, hml, hown, hts0, hX, hbl, hlocks, hgv⟩ := C0
  have hts : ∀ w ∈ wsL_law, w.before #[Value.ref b] s = true := fun w h => hts0 w (wsL_law_in w h)
  have hbA : ¬ (fun q : Nat => s.heap.size ≤ q) b := Nat.not_le.mpr hbl
  have hown : s.vm.findClass RL = some m.cls := hown
  obtain ⟨hI2, hI9, hI12, hI16, hI18, hI22, hI31, hI38, hI43, hI47, hI50, hI0, hI26, hI101, hI102, hI103, hI104, hI105, hI106, hI107, hI109, hI110, hI111, hI119, hs_jKept, hs_jBook, hs_jNd12, hs_jN67, hs_jBl, hs_jKb, hs_jTR, hs_jKh, hs_jKg, hs_jNz, hs_jqSt, ht0, ht1, ht2, ht3, ht4, ht5, ht6, ht7, ht8, ht9, ht10, ht11, ht12, ht13, ht14, ht15, hr0, hr1, hr2, hr3, hr4, hr5, hr6, hr7, hr8, hr9, hr10, hr11, hr12, hr13, hr14⟩ := hAll
  have hL9 : (L : Int) ≤ 384 := by omega
  obtain ⟨i1, i2, i3, i4, i5, w6, w7⟩ : (0 ≤ (σ 2 0).toInt ∧ (σ 2 0).toInt ≤ 4) ∧ (0 ≤ (σ 2 1).toInt ∧ (σ 2 1).toInt ≤ 3) ∧ (0 ≤ (σ 2 2).toInt) ∧ (0 ≤ (σ 2 3).toInt) ∧ ((σ 2 2).toInt + (σ 2 3).toInt ≤ 40) ∧ (∀ k : Nat, k < 40 → 0 ≤ (σ 6 k).toInt ∧ (σ 6 k).toInt ≤ 67) ∧ (∀ k : Nat, k < 4 → 0 ≤ (σ 5 k).toInt ∧ (σ 5 k).toInt ≤ 20) := id hI2
  obtain ⟨i8, w9, w10⟩ : (0 ≤ (σ 9 0).toInt ∧ (σ 9 0).toInt ≤ 80) ∧ (∀ k : Nat, k < 80 → 0 ≤ (σ 10 k).toInt ∧ (σ 10 k).toInt ≤ 255) ∧ (∀ k : Nat, k < 8 → 0 ≤ (σ 11 k).toInt ∧ (σ 11 k).toInt ≤ 3) := id hI9
  obtain ⟨i11, i12, i13, w14⟩ : (1 ≤ (σ 16 0).toInt ∧ (σ 16 0).toInt ≤ 8) ∧ (1 ≤ (σ 16 1).toInt ∧ (σ 16 1).toInt ≤ 12) ∧ (0 ≤ (σ 16 2).toInt ∧ (σ 16 2).toInt ≤ 999) ∧ (∀ k : Nat, k < 8 → 0 ≤ (σ 17 k).toInt ∧ (σ 17 k).toInt ≤ 3) := id hI16
  obtain ⟨i15, i16, w17⟩ : (0 ≤ (σ 38 0).toInt ∧ (σ 38 0).toInt ≤ 20) ∧ (0 ≤ (σ 38 1).toInt ∧ (σ 38 1).toInt ≤ 1000) ∧ (∀ k : Nat, k < 20 → 0 ≤ (σ 39 k).toInt ∧ (σ 39 k).toInt ≤ 6) := id hI38
  obtain ⟨i18, w19, w20⟩ : (0 ≤ (σ 47 0).toInt ∧ (σ 47 0).toInt ≤ 12) ∧ (∀ k : Nat, k < 12 → 0 ≤ (σ 48 k).toInt ∧ (σ 48 k).toInt ≤ 3) ∧ (∀ k : Nat, k < 12 → 0 ≤ (σ 49 k).toInt ∧ (σ 49 k).toInt ≤ 1) := id hI47
  have w21 : ∀ k : Nat, k < 6 → 0 ≤ (σ 52 k).toInt ∧ (σ 52 k).toInt ≤ 60 := hI50
  have i22 : 1 ≤ (σ 26 6).toInt ∧ (σ 26 6).toInt ≤ 8000 := hI26
  obtain ⟨i23, i24, i25, w26, w27, w28, w29⟩ : (0 ≤ (σ 55 5).toInt) ∧ ((σ 55 5).toInt ≤ (σ 55 4).toInt) ∧ ((σ 55 4).toInt ≤ 40) ∧ (∀ k : Nat, k < 68 → (-200) ≤ (σ 56 k).toInt ∧ (σ 56 k).toInt ≤ 500) ∧ (∀ k : Nat, k < 40 → 0 ≤ (σ 57 k).toInt ∧ (σ 57 k).toInt ≤ 67) ∧ (∀ k : Nat, k < 40 → (-200) ≤ (σ 58 k).toInt ∧ (σ 58 k).toInt ≤ 500) ∧ (∀ k : Nat, k < 40 → (-200) ≤ (σ 59 k).toInt ∧ (σ 59 k).toInt ≤ 500) := id hI101
  obtain ⟨i30, w31, w32⟩ : (0 ≤ (σ 55 6).toInt ∧ (σ 55 6).toInt ≤ 4) ∧ (∀ k : Nat, k < 4 → 0 ≤ (σ 60 k).toInt ∧ (σ 60 k).toInt ≤ 50) ∧ (∀ k : Nat, k < 4 → 0 ≤ (σ 61 k).toInt ∧ (σ 61 k).toInt ≤ 20) := id hI102
  have i33 : 0 ≤ (σ 55 9).toInt ∧ (σ 55 9).toInt ≤ 3 := hI103
  obtain ⟨i34, i35, i36, w37, w38⟩ : (1 ≤ (σ 55 10).toInt ∧ (σ 55 10).toInt ≤ 8) ∧ (1 ≤ (σ 55 12).toInt ∧ (σ 55 12).toInt ≤ 12) ∧ (0 ≤ (σ 55 13).toInt ∧ (σ 55 13).toInt ≤ 999) ∧ (∀ k : Nat, k < 8 → 0 ≤ (σ 62 k).toInt ∧ (σ 62 k).toInt ≤ 3) ∧ (∀ k : Nat, k < 8 → 0 ≤ (σ 67 k).toInt ∧ (σ 67 k).toInt ≤ 3) := id hI104
  obtain ⟨i39, w40⟩ : (0 ≤ (σ 55 15).toInt ∧ (σ 55 15).toInt ≤ 80) ∧ (∀ k : Nat, k < 2 → (-1) ≤ (σ 65 k).toInt ∧ (σ 65 k).toInt ≤ 80) := id hI105
  obtain ⟨i41, w42, w43, w44⟩ : (0 ≤ (σ 55 32).toInt ∧ (σ 55 32).toInt ≤ 20) ∧ (∀ k : Nat, k < 20 → 0 ≤ (σ 70 k).toInt ∧ (σ 70 k).toInt ≤ 6) ∧ (∀ k : Nat, k < 20 → 0 ≤ (σ 71 k).toInt ∧ (σ 71 k).toInt ≤ 8) ∧ (∀ k : Nat, k < 160 → 0 ≤ (σ 72 k).toInt ∧ (σ 72 k).toInt ≤ 3) := id hI106
  obtain ⟨i45, i46, w47⟩ : (0 ≤ (σ 55 47).toInt ∧ (σ 55 47).toInt ≤ 12) ∧ ((σ 55 47).toInt ≤ (σ 55 12).toInt) ∧ (∀ k : Nat, k < 12 → 0 ≤ (σ 80 k).toInt ∧ (σ 80 k).toInt ≤ 3) := id hI107
  have hs_jOk3 : jOk3 σ := hr0.ok hr1.1
  refine lv_aload_n hx hb dL_law_1132 rfl (lv_at hl 2 rfl) ?_
  refine lv_aload_n hx hb dL_law_1133 rfl (lv_at hl 3 rfl) ?_
  refine lv_iload_n hx hb dL_law_1134 rfl (lv_at hl 0 rfl) ?_
  refine lv_iconst (v := 1) hx hb dL_law_1135 (by decide) ?_
  have g48 := jrg (rfl : x0.toInt = x0.toInt)
  refine lv_iadd hx hb dL_law_1136 ?_
  refine lv_topi (fun x49 ex49 => ?_)
  exact by
   have tx49 : x49.toInt = x0.toInt + 1 := (jadd ex49 rfl jz_1 (by omega) (by omega)).trans (by omega)
   refine va_sld hx hb hX hbl hbA hS (jin tx49 (by omega) (by omega)) dL_law_1137 ?_
   have g50 := jrg (rfl : (xs x49.toNatClampNeg).toInt = (xs x49.toNatClampNeg).toInt)
   refine lv_aload_n hx hb dL_law_1138 rfl (lv_at hl 3 rfl) ?_
   refine lv_iload_n hx hb dL_law_1139 rfl (lv_at hl 0 rfl) ?_
   refine lv_iconst (v := 2) hx hb dL_law_1140 (by decide) ?_
   refine lv_iadd hx hb dL_law_1141 ?_
   refine lv_topi (fun x51 ex51 => ?_)
   have tx51 : x51.toInt = x0.toInt + 2 := (jadd ex51 rfl jz_2 (by omega) (by omega)).trans (by omega)
   exact by
    refine va_sld hx hb hX hbl hbA hS (jin tx51 (by omega) (by omega)) dL_law_1142 ?_
    have g52 := jrg (rfl : (xs x51.toNatClampNeg).toInt = (xs x51.toNatClampNeg).toInt)
    refine lv_aload_n hx hb dL_law_1143 rfl (lv_at hl 3 rfl) ?_
    refine lv_iload_n hx hb dL_law_1144 rfl (lv_at hl 0 rfl) ?_
    refine lv_iconst (v := 3) hx hb dL_law_1145 (by decide) ?_
    refine lv_iadd hx hb dL_law_1146 ?_
    refine lv_topi (fun x53 ex53 => ?_)
    have tx53 : x53.toInt = x0.toInt + 3 := (jadd ex53 rfl jz_3 (by omega) (by omega)).trans (by omega)
    refine va_sld hx hb hX hbl hbA hS (jin tx53 (by omega) (by omega)) dL_law_1147 ?_
    exact by
     have g54 := jrg (rfl : (xs x53.toNatClampNeg).toInt = (xs x53.toNatClampNeg).toInt)
     refine lv_i2l (v := (xs x53.toNatClampNeg).toInt64) hx hb dL_law_1148 rfl ?_
     refine lv_bipush (v := 32) hx hb dL_law_1149 (by decide) ?_
     refine lv_lshl hx hb dL_law_1151 rfl ?_
     refine lv_topl (fun lx55 elx55 => ?_)
     refine lv_aload_n hx hb dL_law_1152 rfl (lv_at hl 3 rfl) ?_
     refine lv_iload_n hx hb dL_law_1153 rfl (lv_at hl 0 rfl) ?_
     refine lv_iconst (v := 4) hx hb dL_law_1154 (by decide) ?_
     refine lv_iadd hx hb dL_law_1155 ?_
     refine lv_topi (fun x56 ex56 => ?_)
     exact by
      have tx56 : x56.toInt = x0.toInt + 4 := (jadd ex56 rfl jz_4 (by omega) (by omega)).trans (by omega)
      refine va_sld hx hb hX hbl hbA hS (jin tx56 (by omega) (by omega)) dL_law_1156 ?_
      have g57 := jrg (rfl : (xs x56.toNatClampNeg).toInt = (xs x56.toNatClampNeg).toInt)
      refine lv_i2l (v := (xs x56.toNatClampNeg).toInt64) hx hb dL_law_1157 rfl ?_
      refine lv_ldc2 (v := 4294967295) hx hb hown (hts _ kw_1_6) dL_law_1158 ?_
      refine lv_land hx hb dL_law_1161 ?_
      refine lv_topl (fun lx58 elx58 => ?_)
      refine lv_lor hx hb dL_law_1162 ?_
      refine lv_topl (fun lx59 elx59 => ?_)
      exact by
       refine jcallV (As := [.int (xs x49.toNatClampNeg), .int (xs x51.toNatClampNeg), .long lx59]) (rest := []) ⟨hx, hb, hml, hown, hts⟩ hK hP hA hS hZ (c_X11_put l D cI cL ad zz hJ σ τ (xs x49.toNatClampNeg) ((xs x49.toNatClampNeg).toInt) rfl (xs x51.toNatClampNeg) ((xs x51.toNatClampNeg).toInt) rfl lx59 (lx59.toInt) rfl hI50) cw_RL_147 (jc_0 cI cL ad σ τ) rfl ⟨Nat.le_of_ble_eq_true rfl, Nat.le_of_ble_eq_true rfl⟩ rfl rfl rfl hl.1 rfl (Nat.le_of_ble_eq_true rfl) dL_law_1163 ⟨Nat.le_of_ble_eq_true rfl, Nat.le_of_ble_eq_true rfl⟩ (fun r61 σ60 τ60 H locs h60 hP hS => ?_)
       obtain ⟨f65, f62, w63, w64, h60⟩ := h60
       refine lv_pop hx hb dL_law_1166 rfl ?_
       refine lv_aload_n hx hb dL_law_1167 rfl (lv_at hl 1 rfl) ?_
       refine lv_aload_n hx hb dL_law_1168 rfl (lv_at hl 3 rfl) ?_
       refine lv_iload_n hx hb dL_law_1169 rfl (lv_at hl 0 rfl) ?_
       refine lv_iconst (v := 1) hx hb dL_law_1170 (by decide) ?_
       refine lv_iadd hx hb dL_law_1171 ?_
       refine jtopr ex49.symm ?_
       exact by
        refine va_sld hx hb hX hbl hbA hS (jin tx49 (by omega) (by omega)) dL_law_1172 ?_
        refine lv_aload_n hx hb dL_law_1173 rfl (lv_at hl 3 rfl) ?_
        refine lv_iload_n hx hb dL_law_1174 rfl (lv_at hl 0 rfl) ?_
        refine lv_iconst (v := 2) hx hb dL_law_1175 (by decide) ?_
        refine lv_iadd hx hb dL_law_1176 ?_
        refine jtopr ex51.symm ?_
        refine va_sld hx hb hX hbl hbA hS (jin tx51 (by omega) (by omega)) dL_law_1177 ?_
        refine lv_aload_n hx hb dL_law_1178 rfl (lv_at hl 3 rfl) ?_
        refine lv_iload_n hx hb dL_law_1179 rfl (lv_at hl 0 rfl) ?_
        exact by
         refine lv_iconst (v := 3) hx hb dL_law_1180 (by decide) ?_
         refine lv_iadd hx hb dL_law_1181 ?_
         refine jtopr ex53.symm ?_
         refine va_sld hx hb hX hbl hbA hS (jin tx53 (by omega) (by omega)) dL_law_1182 ?_
         refine lv_i2l (v := (xs x53.toNatClampNeg).toInt64) hx hb dL_law_1183 rfl ?_
         refine lv_bipush (v := 32) hx hb dL_law_1184 (by decide) ?_
         refine lv_lshl hx hb dL_law_1186 rfl ?_
         refine lv_topl (fun lx66 elx66 => ?_)
         refine lv_aload_n hx hb dL_law_1187 rfl (lv_at hl 3 rfl) ?_
         exact by
          refine lv_iload_n hx hb dL_law_1188 rfl (lv_at hl 0 rfl) ?_
          refine lv_iconst (v := 4) hx hb dL_law_1189 (by decide) ?_
          refine lv_iadd hx hb dL_law_1190 ?_
          refine jtopr ex56.symm ?_
          refine va_sld hx hb hX hbl hbA hS (jin tx56 (by omega) (by omega)) dL_law_1191 ?_
          refine lv_i2l (v := (xs x56.toNatClampNeg).toInt64) hx hb dL_law_1192 rfl ?_
          refine lv_ldc2 (v := 4294967295) hx hb hown (hts _ kw_1_6) dL_law_1193 ?_
          refine lv_land hx hb dL_law_1196 ?_
          refine lv_topl (fun lx67 elx67 => ?_)
          exact by
           refine lv_lor hx hb dL_law_1197 ?_
           refine lv_topl (fun lx68 elx68 => ?_)
           have I69 : jI110 σ60 := jI110_fr (f62 86 (by decide)) (f62 87 (by decide)) hI110
           refine jcallV (As := [.int (xs x49.toNatClampNeg), .int (xs x51.toNatClampNeg), .long lx68]) (rest := []) ⟨hx, hb, hml, hown, hts⟩ hK hP hA hS hZ (c_X12_put l D cI cL ad zz hJ σ60 τ60 (xs x49.toNatClampNeg) ((xs x49.toNatClampNeg).toInt) rfl (xs x51.toNatClampNeg) ((xs x51.toNatClampNeg).toInt) rfl lx68 (lx68.toInt) rfl I69) cw_RL_151 (jc_55 cI cL ad σ60 τ60) rfl ⟨Nat.le_of_ble_eq_true rfl, Nat.le_of_ble_eq_true rfl⟩ rfl rfl rfl hl.1 rfl (Nat.le_of_ble_eq_true rfl) dL_law_1198 ⟨Nat.le_of_ble_eq_true rfl, Nat.le_of_ble_eq_true rfl⟩ (fun r71 σ70 τ70 H locs h70 hP hS => ?_)
           obtain ⟨f75, f72, w73, w74, h70⟩ := h70
           refine lv_pop hx hb dL_law_1201 rfl ?_
           refine lv_goto (tgt := 1357) hx hb dL_law_1202 (by decide) ?_
           obtain ⟨x76, ex76⟩ : ∃ y : Int32, y = x0 + 6 := ⟨_, rfl⟩
           have tx76 : x76.toInt = x0.toInt + 6 := (jadd ex76 rfl jz_6 (by omega) (by omega)).trans (by omega)
           exact by
            refine lv_iinc (v := x76) (lv' := [(3, .int x76), (2, .ref (ad 55)), (1, .ref (ad 0)), (0, .ref b)]) hx hb dL_law_1357 hl (k := 0) rfl (by rw [ex76]; rfl) (by decide) rfl (fun ls hl => ?_)
            refine lv_goto (tgt := 18) hx hb dL_law_1360 (by decide) ?_
            have I77 : jI2 σ70 := jI2_fr ((congrFun (f72 2 (by decide)) 0).trans (congrFun (f62 2 (by decide)) 0)) ((congrFun (f72 2 (by decide)) 1).trans (congrFun (f62 2 (by decide)) 1)) ((congrFun (f72 2 (by decide)) 2).trans (congrFun (f62 2 (by decide)) 2)) ((congrFun (f72 2 (by decide)) 3).trans (congrFun (f62 2 (by decide)) 3)) ((f72 6 (by decide)).trans (f62 6 (by decide))) ((f72 5 (by decide)).trans (f62 5 (by decide))) hI2
            have I78 : jI9 σ70 := jI9_fr ((congrFun (f72 9 (by decide)) 0).trans (congrFun (f62 9 (by decide)) 0)) ((f72 10 (by decide)).trans (f62 10 (by decide))) ((f72 11 (by decide)).trans (f62 11 (by decide))) hI9
            have I79 : jI12 σ70 := jI12_fr ((congrFun (f72 12 (by decide)) 0).trans (congrFun (f62 12 (by decide)) 0)) ((f72 13 (by decide)).trans (f62 13 (by decide))) hI12
            have I80 : jI16 σ70 := jI16_fr ((congrFun (f72 16 (by decide)) 0).trans (congrFun (f62 16 (by decide)) 0)) ((congrFun (f72 16 (by decide)) 1).trans (congrFun (f62 16 (by decide)) 1)) ((congrFun (f72 16 (by decide)) 2).trans (congrFun (f62 16 (by decide)) 2)) ((f72 17 (by decide)).trans (f62 17 (by decide))) hI16
            have I81 : jI18 σ70 := jI18_fr ((congrFun (f72 18 (by decide)) 0).trans (congrFun (f62 18 (by decide)) 0)) ((f72 19 (by decide)).trans (f62 19 (by decide))) hI18
            have I82 : jI22 σ70 := jI22_fr ((congrFun (f72 22 (by decide)) 0).trans (congrFun (f62 22 (by decide)) 0)) ((f72 23 (by decide)).trans (f62 23 (by decide))) hI22
            have I83 : jI31 σ70 := jI31_fr ((congrFun (f72 31 (by decide)) 8).trans (congrFun (f62 31 (by decide)) 8)) ((congrFun (f72 31 (by decide)) 10).trans (congrFun (f62 31 (by decide)) 10)) ((congrFun (f72 31 (by decide)) 11).trans (congrFun (f62 31 (by decide)) 11)) ((f72 33 (by decide)).trans (f62 33 (by decide))) ((f72 35 (by decide)).trans (f62 35 (by decide))) ((f72 36 (by decide)).trans (f62 36 (by decide))) hI31
            have I84 : jI38 σ70 := jI38_fr ((congrFun (f72 38 (by decide)) 0).trans (congrFun (f62 38 (by decide)) 0)) ((congrFun (f72 38 (by decide)) 1).trans (congrFun (f62 38 (by decide)) 1)) ((f72 39 (by decide)).trans (f62 39 (by decide))) hI38
            have I85 : jI43 σ70 := jI43_fr ((congrFun (f72 43 (by decide)) 8).trans (congrFun (f62 43 (by decide)) 8)) hI43
            have I86 : jI47 σ70 := jI47_fr ((congrFun (f72 47 (by decide)) 0).trans (congrFun (f62 47 (by decide)) 0)) ((f72 48 (by decide)).trans (f62 48 (by decide))) ((f72 49 (by decide)).trans (f62 49 (by decide))) hI47
            have I87 : jI50 σ70 := jI50_fr ((f72 52 (by decide)).trans (f62 52 (by decide))) hI50
            have I88 : jI0 σ70 := jI0_fr ((f72 1 (by decide)).trans (f62 1 (by decide))) hI0
            have I89 : jI26 σ70 := jI26_fr ((congrFun (f72 26 (by decide)) 6).trans (congrFun (f62 26 (by decide)) 6)) hI26
            have I90 : jI101 σ70 := jI101_fr ((congrFun (f72 55 (by decide)) 4).trans (congrFun (f62 55 (by decide)) 4)) ((congrFun (f72 55 (by decide)) 5).trans (congrFun (f62 55 (by decide)) 5)) ((f72 56 (by decide)).trans (f62 56 (by decide))) ((f72 57 (by decide)).trans (f62 57 (by decide))) ((f72 58 (by decide)).trans (f62 58 (by decide))) ((f72 59 (by decide)).trans (f62 59 (by decide))) hI101
            have I91 : jI102 σ70 := jI102_fr ((congrFun (f72 55 (by decide)) 6).trans (congrFun (f62 55 (by decide)) 6)) ((f72 60 (by decide)).trans (f62 60 (by decide))) ((f72 61 (by decide)).trans (f62 61 (by decide))) hI102
            have I92 : jI103 σ70 := jI103_fr ((congrFun (f72 55 (by decide)) 9).trans (congrFun (f62 55 (by decide)) 9)) hI103
            have I93 : jI104 σ70 := jI104_fr ((congrFun (f72 55 (by decide)) 10).trans (congrFun (f62 55 (by decide)) 10)) ((congrFun (f72 55 (by decide)) 12).trans (congrFun (f62 55 (by decide)) 12)) ((congrFun (f72 55 (by decide)) 13).trans (congrFun (f62 55 (by decide)) 13)) ((f72 62 (by decide)).trans (f62 62 (by decide))) ((f72 67 (by decide)).trans (f62 67 (by decide))) hI104
            have I94 : jI105 σ70 := jI105_fr ((congrFun (f72 55 (by decide)) 15).trans (congrFun (f62 55 (by decide)) 15)) ((f72 65 (by decide)).trans (f62 65 (by decide))) hI105
            have I95 : jI106 σ70 := jI106_fr ((congrFun (f72 55 (by decide)) 32).trans (congrFun (f62 55 (by decide)) 32)) ((f72 70 (by decide)).trans (f62 70 (by decide))) ((f72 71 (by decide)).trans (f62 71 (by decide))) ((f72 72 (by decide)).trans (f62 72 (by decide))) hI106
            have I96 : jI107 σ70 := jI107_fr ((congrFun (f72 55 (by decide)) 12).trans (congrFun (f62 55 (by decide)) 12)) ((congrFun (f72 55 (by decide)) 47).trans (congrFun (f62 55 (by decide)) 47)) ((f72 80 (by decide)).trans (f62 80 (by decide))) hI107
            have I97 : jI109 σ70 := jI109_fr ((congrFun (f72 55 (by decide)) 50).trans (congrFun (f62 55 (by decide)) 50)) hI109
            have I98 : jI110 σ70 := jI110_fr (f72 86 (by decide)) (f72 87 (by decide)) I69
            have I99 : jI111 σ70 := jI111_fr ((f72 79 (by decide)).trans (f62 79 (by decide))) hI111
            have I100 : jI119 σ70 := jI119_fr ((f72 68 (by decide)).trans (f62 68 (by decide))) hI119
            have p101 : jKept σ70 := jKept.fr ((f72 75 (by decide)).trans (f62 75 (by decide))) ((f72 76 (by decide)).trans (f62 76 (by decide))) ((f72 77 (by decide)).trans (f62 77 (by decide))) hs_jKept
            have p102 : jBook σ70 := jBook.fr ((congrFun (f72 55 (by decide)) 47).trans (congrFun (f62 55 (by decide)) 47)) ((congrFun (f72 55 (by decide)) 10).trans (congrFun (f62 55 (by decide)) 10)) ((f72 81 (by decide)).trans (f62 81 (by decide))) hs_jBook
            have p103 : jNd12 σ70 := jNd12.fr ((congrFun (f72 12 (by decide)) 0).trans (congrFun (f62 12 (by decide)) 0)) ((congrFun (f72 12 (by decide)) 1).trans (congrFun (f62 12 (by decide)) 1)) ((f72 13 (by decide)).trans (f62 13 (by decide))) hs_jNd12
            have p104 : jN67 σ70 := jN67.fr ((f72 24 (by decide)).trans (f62 24 (by decide))) hs_jN67
            have p105 : jBl σ70 := jBl.fr ((congrFun (f72 22 (by decide)) 0).trans (congrFun (f62 22 (by decide)) 0)) ((congrFun (f72 22 (by decide)) 1).trans (congrFun (f62 22 (by decide)) 1)) ((f72 23 (by decide)).trans (f62 23 (by decide))) ((congrFun (f72 26 (by decide)) 6).trans (congrFun (f62 26 (by decide)) 6)) ((congrFun (f72 26 (by decide)) 7).trans (congrFun (f62 26 (by decide)) 7)) ((f72 29 (by decide)).trans (f62 29 (by decide))) ((f72 30 (by decide)).trans (f62 30 (by decide))) hs_jBl
            have p106 : jKb σ70 := jKb.fr ((congrFun (f72 31 (by decide)) 8).trans (congrFun (f62 31 (by decide)) 8)) ((congrFun (f72 31 (by decide)) 11).trans (congrFun (f62 31 (by decide)) 11)) ((f72 32 (by decide)).trans (f62 32 (by decide))) hs_jKb
            have p107 : jTR σ70 := jTR.fr ((f72 64 (by decide)).trans (f62 64 (by decide))) ((f72 65 (by decide)).trans (f62 65 (by decide))) hs_jTR
            have p108 : jKh σ70 := jKh.fr ((congrFun (f72 31 (by decide)) 8).trans (congrFun (f62 31 (by decide)) 8)) ((f72 32 (by decide)).trans (f62 32 (by decide))) ((f72 36 (by decide)).trans (f62 36 (by decide))) ((f72 37 (by decide)).trans (f62 37 (by decide))) hs_jKh
            have p109 : jKg σ70 := jKg.fr ((congrFun (f72 31 (by decide)) 8).trans (congrFun (f62 31 (by decide)) 8)) ((congrFun (f72 31 (by decide)) 9).trans (congrFun (f62 31 (by decide)) 9)) ((congrFun (f72 31 (by decide)) 11).trans (congrFun (f62 31 (by decide)) 11)) ((congrFun (f72 31 (by decide)) 12).trans (congrFun (f62 31 (by decide)) 12)) ((f72 32 (by decide)).trans (f62 32 (by decide))) ((f72 33 (by decide)).trans (f62 33 (by decide))) hs_jKg
            have p110 : jNz σ70 := jNz.fr ((f72 34 (by decide)).trans (f62 34 (by decide))) hs_jNz
            have p111 : jqSt σ70 := jqSt.fr ((f72 78 (by decide)).trans (f62 78 (by decide))) ((congrFun (f72 55 (by decide)) 42).trans (congrFun (f62 55 (by decide)) 42)) hs_jqSt
            have z112 : (σ70 2 0).toInt = (σ 2 0).toInt := (congrArg Int32.toInt (show σ70 2 0 = (σ 2 0) from ((congrFun (f72 2 (by decide)) 0).trans (congrFun (f62 2 (by decide)) 0))))
            have z113 : (σ70 55 6).toInt = (σ 55 6).toInt := (congrArg Int32.toInt (show σ70 55 6 = (σ 55 6) from ((congrFun (f72 55 (by decide)) 6).trans (congrFun (f62 55 (by decide)) 6))))
            have z114 : (σ70 2 2).toInt = (σ 2 2).toInt := (congrArg Int32.toInt (show σ70 2 2 = (σ 2 2) from ((congrFun (f72 2 (by decide)) 2).trans (congrFun (f62 2 (by decide)) 2))))
            have z115 : (σ70 55 5).toInt = (σ 55 5).toInt := (congrArg Int32.toInt (show σ70 55 5 = (σ 55 5) from ((congrFun (f72 55 (by decide)) 5).trans (congrFun (f62 55 (by decide)) 5))))
            have z116 : (σ70 2 3).toInt = (σ 2 3).toInt := (congrArg Int32.toInt (show σ70 2 3 = (σ 2 3) from ((congrFun (f72 2 (by decide)) 3).trans (congrFun (f62 2 (by decide)) 3))))
            have z117 : (σ70 55 4).toInt = (σ 55 4).toInt := (congrArg Int32.toInt (show σ70 55 4 = (σ 55 4) from ((congrFun (f72 55 (by decide)) 4).trans (congrFun (f62 55 (by decide)) 4))))
            have z118 : (σ70 9 0).toInt = (σ 9 0).toInt := (congrArg Int32.toInt (show σ70 9 0 = (σ 9 0) from ((congrFun (f72 9 (by decide)) 0).trans (congrFun (f62 9 (by decide)) 0))))
            have z119 : (σ70 55 15).toInt = (σ 55 15).toInt := (congrArg Int32.toInt (show σ70 55 15 = (σ 55 15) from ((congrFun (f72 55 (by decide)) 15).trans (congrFun (f62 55 (by decide)) 15))))
            have z120 : (σ70 16 0).toInt = (σ 16 0).toInt := (congrArg Int32.toInt (show σ70 16 0 = (σ 16 0) from ((congrFun (f72 16 (by decide)) 0).trans (congrFun (f62 16 (by decide)) 0))))
            have z121 : (σ70 55 10).toInt = (σ 55 10).toInt := (congrArg Int32.toInt (show σ70 55 10 = (σ 55 10) from ((congrFun (f72 55 (by decide)) 10).trans (congrFun (f62 55 (by decide)) 10))))
            have z122 : (σ70 16 1).toInt = (σ 16 1).toInt := (congrArg Int32.toInt (show σ70 16 1 = (σ 16 1) from ((congrFun (f72 16 (by decide)) 1).trans (congrFun (f62 16 (by decide)) 1))))
            have z123 : (σ70 55 12).toInt = (σ 55 12).toInt := (congrArg Int32.toInt (show σ70 55 12 = (σ 55 12) from ((congrFun (f72 55 (by decide)) 12).trans (congrFun (f62 55 (by decide)) 12))))
            have z124 : (σ70 16 2).toInt = (σ 16 2).toInt := (congrArg Int32.toInt (show σ70 16 2 = (σ 16 2) from ((congrFun (f72 16 (by decide)) 2).trans (congrFun (f62 16 (by decide)) 2))))
            have z125 : (σ70 55 13).toInt = (σ 55 13).toInt := (congrArg Int32.toInt (show σ70 55 13 = (σ 55 13) from ((congrFun (f72 55 (by decide)) 13).trans (congrFun (f62 55 (by decide)) 13))))
            have z126 : (σ70 38 0).toInt = (σ 38 0).toInt := (congrArg Int32.toInt (show σ70 38 0 = (σ 38 0) from ((congrFun (f72 38 (by decide)) 0).trans (congrFun (f62 38 (by decide)) 0))))
            have z127 : (σ70 55 32).toInt = (σ 55 32).toInt := (congrArg Int32.toInt (show σ70 55 32 = (σ 55 32) from ((congrFun (f72 55 (by decide)) 32).trans (congrFun (f62 55 (by decide)) 32))))
            have z128 : (σ70 38 1).toInt = (σ 38 1).toInt := (congrArg Int32.toInt (show σ70 38 1 = (σ 38 1) from ((congrFun (f72 38 (by decide)) 1).trans (congrFun (f62 38 (by decide)) 1))))
            have z129 : (σ70 55 55).toInt = (σ 55 55).toInt := (congrArg Int32.toInt (show σ70 55 55 = (σ 55 55) from ((congrFun (f72 55 (by decide)) 55).trans (congrFun (f62 55 (by decide)) 55))))
            have z130 : (σ70 47 0).toInt = (σ 47 0).toInt := (congrArg Int32.toInt (show σ70 47 0 = (σ 47 0) from ((congrFun (f72 47 (by decide)) 0).trans (congrFun (f62 47 (by decide)) 0))))
            have z131 : (σ70 55 47).toInt = (σ 55 47).toInt := (congrArg Int32.toInt (show σ70 55 47 = (σ 55 47) from ((congrFun (f72 55 (by decide)) 47).trans (congrFun (f62 55 (by decide)) 47))))
            have z132 : (σ70 55 30).toInt = (σ 55 30).toInt := (congrArg Int32.toInt (show σ70 55 30 = (σ 55 30) from ((congrFun (f72 55 (by decide)) 30).trans (congrFun (f62 55 (by decide)) 30))))
            have z133 : (σ70 55 31).toInt = (σ 55 31).toInt := (congrArg Int32.toInt (show σ70 55 31 = (σ 55 31) from ((congrFun (f72 55 (by decide)) 31).trans (congrFun (f62 55 (by decide)) 31))))
            have z134 : (σ70 2 1).toInt = (σ 2 1).toInt := (congrArg Int32.toInt (show σ70 2 1 = (σ 2 1) from ((congrFun (f72 2 (by decide)) 1).trans (congrFun (f62 2 (by decide)) 1))))
            have z135 : (σ70 55 9).toInt = (σ 55 9).toInt := (congrArg Int32.toInt (show σ70 55 9 = (σ 55 9) from ((congrFun (f72 55 (by decide)) 9).trans (congrFun (f62 55 (by decide)) 9))))
            have z136 : (σ70 55 42).toInt = (σ 55 42).toInt := (congrArg Int32.toInt (show σ70 55 42 = (σ 55 42) from ((congrFun (f72 55 (by decide)) 42).trans (congrFun (f62 55 (by decide)) 42))))
            have z137 : (σ70 26 6).toInt = (σ 26 6).toInt := (congrArg Int32.toInt (show σ70 26 6 = (σ 26 6) from ((congrFun (f72 26 (by decide)) 6).trans (congrFun (f62 26 (by decide)) 6))))
            rw [show τ60 88 = τ 88 from (f65 88 (by decide))] at w74
            have s139 := w73
            rw [show σ60 86 = σ 86 from (f62 86 (by decide)), show σ60 87 = σ 87 from (f62 87 (by decide))] at s139
            rw [show σ60 86 = σ 86 from (f62 86 (by decide))] at w74
            have v140 : lx68 = lx59 := by rw [elx68, elx66, elx67, elx59, elx55, elx58]
            rw [v140] at w74
            have p138 := hr5.put w64 w74 (w63.trans (hr4.rf.trans s139.symm)) rfl (fun z => by rw [(hr4.cut w63 z).1])
            have z141 : (σ70 18 0).toInt = (σ 18 0).toInt := (congrArg Int32.toInt (show σ70 18 0 = (σ 18 0) from ((congrFun (f72 18 (by decide)) 0).trans (congrFun (f62 18 (by decide)) 0))))
            have z142 : (σ70 22 0).toInt = (σ 22 0).toInt := (congrArg Int32.toInt (show σ70 22 0 = (σ 22 0) from ((congrFun (f72 22 (by decide)) 0).trans (congrFun (f62 22 (by decide)) 0))))
            exact by exact ih x76 σ70 τ70 _ _ ls (by have h9 := tx76; omega) ⟨I77, I78, I79, I80, I81, I82, I83, I84, I85, I86, I87, I88, I89, I90, I91, I92, I93, I94, I95, I96, I97, I98, I99, I100, p101, p102, p103, p104, p105, p106, p107, p108, p109, p110, p111, (by rw [z112, z113]; exact ht0), (by rw [z114, z115]; exact ht1), (by rw [z114, z116, z117]; exact ht2), (by rw [z118, z119]; exact ht3), (by rw [z120, z121]; exact ht4), (by rw [z122, z123]; exact ht5), (by rw [z124, z125]; exact ht6), (by rw [z126, z127]; exact ht7), (by rw [z128, z129]; exact ht8), (by rw [z130, z131]; exact ht9), (by rw [z132]; exact ht10), (by rw [z133]; exact ht11), (by rw [z134, z135]; exact ht12), (by rw [z136]; exact ht13), (by have h9 := tx76; omega), (by have h9 := tx76; omega), (show jNumP (σ70 3) (σ70 56) (σ70 6) (σ70 57) (σ70 7) (σ70 58) (σ70 8) (σ70 59) (σ70 55 6).toInt (σ70 55 4).toInt by rw [show σ70 3 = σ 3 from ((f72 3 (by decide)).trans (f62 3 (by decide))), show σ70 56 = σ 56 from ((f72 56 (by decide)).trans (f62 56 (by decide))), show σ70 6 = σ 6 from ((f72 6 (by decide)).trans (f62 6 (by decide))), show σ70 57 = σ 57 from ((f72 57 (by decide)).trans (f62 57 (by decide))), show σ70 7 = σ 7 from ((f72 7 (by decide)).trans (f62 7 (by decide))), show σ70 58 = σ 58 from ((f72 58 (by decide)).trans (f62 58 (by decide))), show σ70 8 = σ 8 from ((f72 8 (by decide)).trans (f62 8 (by decide))), show σ70 59 = σ 59 from ((f72 59 (by decide)).trans (f62 59 (by decide))), show (σ70 55 6).toInt = (σ 55 6).toInt from z113, show (σ70 55 4).toInt = (σ 55 4).toInt from z117]; exact hr0), (show jOvP (σ70 56) (σ70 57) (σ70 58) (σ70 59) (σ70 55 4).toInt by rw [show σ70 56 = σ 56 from ((f72 56 (by decide)).trans (f62 56 (by decide))), show σ70 57 = σ 57 from ((f72 57 (by decide)).trans (f62 57 (by decide))), show σ70 58 = σ 58 from ((f72 58 (by decide)).trans (f62 58 (by decide))), show σ70 59 = σ 59 from ((f72 59 (by decide)).trans (f62 59 (by decide))), show (σ70 55 4).toInt = (σ 55 4).toInt from z117]; exact hr1), (show jTp (σ70 10) (σ70 63) (σ70 55 15).toInt by rw [show σ70 10 = σ 10 from ((f72 10 (by decide)).trans (f62 10 (by decide))), show σ70 63 = σ 63 from ((f72 63 (by decide)).trans (f62 63 (by decide)))]; exact hr2.le (by omega)), (show jSo (σ70 17) (σ70 62) (σ70 16 0).toInt by rw [show σ70 17 = σ 17 from ((f72 17 (by decide)).trans (f62 17 (by decide))), show σ70 62 = σ 62 from ((f72 62 (by decide)).trans (f62 62 (by decide))), show (σ70 16 0).toInt = (σ 16 0).toInt from z120]; exact hr3), (show jShP (σ70 51) (σ70 52) (σ70 53) (σ70 86) (σ70 87) (σ70 55 32).toInt by rw [show σ70 51 = σ 51 from ((f72 51 (by decide)).trans (f62 51 (by decide))), show σ70 52 = σ 52 from ((f72 52 (by decide)).trans (f62 52 (by decide))), show σ70 53 = σ 53 from ((f72 53 (by decide)).trans (f62 53 (by decide))), show σ70 86 = σ 86 from ((f72 86 (by decide)).trans (f62 86 (by decide))), show σ70 87 = σ 87 from ((f72 87 (by decide)).trans (f62 87 (by decide)))]; exact (hr4.up (by omega) (by omega))), (show jEl (σ70 51) (σ70 52) (τ70 54) (τ70 88) by rw [show σ70 51 = σ 51 from ((f72 51 (by decide)).trans (f62 51 (by decide))), show σ70 52 = σ 52 from ((f72 52 (by decide)).trans (f62 52 (by decide))), show τ70 54 = τ60 54 from (f75 54 (by decide))]; exact p138), (show jByP (σ70 51) (σ70 52) (τ70 54) by rw [show σ70 51 = σ 51 from ((f72 51 (by decide)).trans (f62 51 (by decide))), show σ70 52 = σ 52 from ((f72 52 (by decide)).trans (f62 52 (by decide))), show τ70 54 = τ60 54 from (f75 54 (by decide))]; exact (hr6.put (d := (xs x49.toNatClampNeg).toInt) (i := (xs x51.toNatClampNeg).toInt) w21 w64 rfl (fun z => by
              have w := hr4.cut w63 z
              rw [jnc (rfl : (xs x49.toNatClampNeg).toInt = (xs x49.toNatClampNeg).toInt)] at w
              exact ⟨w.2.1, w.2.2.1, w.2.2.2.1, by rw [jnc (rfl : (xs x49.toNatClampNeg).toInt = (xs x49.toNatClampNeg).toInt)]⟩))), (show jBk (σ70 48) (σ70 80) (σ70 49) (σ70 81) (σ70 55 47).toInt by rw [show σ70 48 = σ 48 from ((f72 48 (by decide)).trans (f62 48 (by decide))), show σ70 49 = σ 49 from ((f72 49 (by decide)).trans (f62 49 (by decide))), show σ70 80 = σ 80 from ((f72 80 (by decide)).trans (f62 80 (by decide))), show σ70 81 = σ 81 from ((f72 81 (by decide)).trans (f62 81 (by decide))), show (σ70 55 47).toInt = (σ 55 47).toInt from z131]; exact hr7), (show jKd (σ70 39) (σ70 70) (σ70 55 32).toInt by rw [show σ70 39 = σ 39 from ((f72 39 (by decide)).trans (f62 39 (by decide))), show σ70 70 = σ 70 from ((f72 70 (by decide)).trans (f62 70 (by decide))), show (σ70 55 32).toInt = (σ 55 32).toInt from z127]; exact hr8), (show jTt (σ70 42) (σ70 85) (σ70 55 55).toInt by rw [show σ70 42 = σ 42 from ((f72 42 (by decide)).trans (f62 42 (by decide))), show σ70 85 = σ 85 from ((f72 85 (by decide)).trans (f62 85 (by decide))), show (σ70 55 55).toInt = (σ 55 55).toInt from z129]; exact hr9), (fun k hk => by rw [show σ70 4 = σ 4 from ((f72 4 (by decide)).trans (f62 4 (by decide))), show σ70 5 = σ 5 from ((f72 5 (by decide)).trans (f62 5 (by decide))), show σ70 60 = σ 60 from ((f72 60 (by decide)).trans (f62 60 (by decide))), show σ70 61 = σ 61 from ((f72 61 (by decide)).trans (f62 61 (by decide)))]; exact hr10 k (by omega)), (fun nm => by rw [show σ70 19 = σ 19 from ((f72 19 (by decide)).trans (f62 19 (by decide))), show σ70 64 = σ 64 from ((f72 64 (by decide)).trans (f62 64 (by decide))), show σ70 65 = σ 65 from ((f72 65 (by decide)).trans (f62 65 (by decide))), show (σ70 18 0).toInt = (σ 18 0).toInt from z141]; exact hr11 nm), (fun nm => by rw [show σ70 23 = σ 23 from ((f72 23 (by decide)).trans (f62 23 (by decide))), show σ70 64 = σ 64 from ((f72 64 (by decide)).trans (f62 64 (by decide))), show σ70 65 = σ 65 from ((f72 65 (by decide)).trans (f62 65 (by decide))), show (σ70 22 0).toInt = (σ 22 0).toInt from z142]; exact hr12 nm), (show jAlP (σ70 56) (σ70 57) (σ70 58) (σ70 59) (σ70 55 4).toInt by rw [show σ70 56 = σ 56 from ((f72 56 (by decide)).trans (f62 56 (by decide))), show σ70 57 = σ 57 from ((f72 57 (by decide)).trans (f62 57 (by decide))), show σ70 58 = σ 58 from ((f72 58 (by decide)).trans (f62 58 (by decide))), show σ70 59 = σ 59 from ((f72 59 (by decide)).trans (f62 59 (by decide))), show (σ70 55 4).toInt = (σ 55 4).toInt from z117]; exact hr13), (show jqbN (σ70 80) (σ70 55 47).toInt by rw [show σ70 80 = σ 80 from ((f72 80 (by decide)).trans (f62 80 (by decide))), show (σ70 55 47).toInt = (σ 55 47).toInt from z131]; exact hr14)⟩ hP hS (lv_sub hl [0, 1, 2, 3] rfl)
set_option maxHeartbeats 4000000 in
set_option maxRecDepth 100000 in
theorem law_case_33 {p : Program} {e : Env} {s : State} {m : MethodId} {below : List Frame} {meth : Method} {c : Code} (l : Launch) {b L : Nat} {xs : Nat → Int32} {D : va_G} {cI cL : ClassId} {ad zz : Nat → Nat} (C0 : lw_At p s m meth c b L xs) (hJ : jD ad) (hA : ∀ q, jA ad q → s.heap.size ≤ q) (hK : jK D cI cL s) (hZ : jZ zz (fun q : Nat => s.heap.size ≤ q) s s.heap) {x0 : Int32} (hx0 : 0 ≤ x0.toInt) (hxL : x0.toInt + 6 ≤ (L : Int)) (hL : L ≤ 384) {σ : Nat → Nat → Int32} {τ : Nat → Nat → Int64} {H : Heap} {locs : List Loc} (hS : va_S (fun q : Nat => s.heap.size ≤ q) s.heap H locs) {ls : Array Slot} (hAll : jAll x0.toInt σ τ) (hP : jH D cI cL ad σ τ H) (hl : lv_has ls 4 [(3, .int x0), (2, .ref (ad 55)), (1, .ref (ad 0)), (0, .ref b)]) (ih : ∀ (x1 : Int32) (σ : Nat → Nat → Int32) (τ : Nat → Nat → Int64) (H : Heap) (locs : List Loc) (ls : Array Slot), x1.toInt = x0.toInt + 6 → jAll x1.toInt σ τ → jH D cI cL ad σ τ H → va_S (fun q : Nat => s.heap.size ≤ q) s.heap H locs → lv_has ls 4 [(3, .int x1), (2, .ref (ad 55)), (1, .ref (ad 0)), (0, .ref b)] → W p l e room_1 s m #[Value.ref b] below meth c H locs 90 348600 (lw_Z below #[Value.ref b] s) (F0 m 18 ls [])) : W p l e room_1 s m #[Value.ref b] below meth c H locs 90 348600 (lw_Z below #[Value.ref b] s) (F0 m 1205 ls []) := by
  obtain ⟨hx, hb, hr, hml, hown, hts0, hX, hbl, hlocks, hgv⟩ := C0
  have hts : ∀ w ∈ wsL_law, w.before #[Value.ref b] s = true := fun w h => hts0 w (wsL_law_in w h)
  have hbA : ¬ (fun q : Nat => s.heap.size ≤ q) b := Nat.not_le.mpr hbl
  have hown : s.vm.findClass RL = some m.cls := hown
  obtain ⟨hI2, hI9, hI12, hI16, hI18, hI22, hI31, hI38, hI43, hI47, hI50, hI0, hI26, hI101, hI102, hI103, hI104, hI105, hI106, hI107, hI109, hI110, hI111, hI119, hs_jKept, hs_jBook, hs_jNd12, hs_jN67, hs_jBl, hs_jKb, hs_jTR, hs_jKh, hs_jKg, hs_jNz, hs_jqSt, ht0, ht1, ht2, ht3, ht4, ht5, ht6, ht7, ht8, ht9, ht10, ht11, ht12, ht13, ht14, ht15, hr0, hr1, hr2, hr3, hr4, hr5, hr6, hr7, hr8, hr9, hr10, hr11, hr12, hr13, hr14⟩ := hAll
  have hL9 : (L : Int) ≤ 384 := by omega
  obtain ⟨i1, i2, i3, i4, i5, w6, w7⟩ : (0 ≤ (σ 2 0).toInt ∧ (σ 2 0).toInt ≤ 4) ∧ (0 ≤ (σ 2 1).toInt ∧ (σ 2 1).toInt ≤ 3) ∧ (0 ≤ (σ 2 2).toInt) ∧ (0 ≤ (σ 2 3).toInt) ∧ ((σ 2 2).toInt + (σ 2 3).toInt ≤ 40) ∧ (∀ k : Nat, k < 40 → 0 ≤ (σ 6 k).toInt ∧ (σ 6 k).toInt ≤ 67) ∧ (∀ k : Nat, k < 4 → 0 ≤ (σ 5 k).toInt ∧ (σ 5 k).toInt ≤ 20) := id hI2
  obtain ⟨i8, w9, w10⟩ : (0 ≤ (σ 9 0).toInt ∧ (σ 9 0).toInt ≤ 80) ∧ (∀ k : Nat, k < 80 → 0 ≤ (σ 10 k).toInt ∧ (σ 10 k).toInt ≤ 255) ∧ (∀ k : Nat, k < 8 → 0 ≤ (σ 11 k).toInt ∧ (σ 11 k).toInt ≤ 3) := id hI9
  obtain ⟨i11, i12, i13, w14⟩ : (1 ≤ (σ 16 0).toInt ∧ (σ 16 0).toInt ≤ 8) ∧ (1 ≤ (σ 16 1).toInt ∧ (σ 16 1).toInt ≤ 12) ∧ (0 ≤ (σ 16 2).toInt ∧ (σ 16 2).toInt ≤ 999) ∧ (∀ k : Nat, k < 8 → 0 ≤ (σ 17 k).toInt ∧ (σ 17 k).toInt ≤ 3) := id hI16
  obtain ⟨i15, i16, w17⟩ : (0 ≤ (σ 38 0).toInt ∧ (σ 38 0).toInt ≤ 20) ∧ (0 ≤ (σ 38 1).toInt ∧ (σ 38 1).toInt ≤ 1000) ∧ (∀ k : Nat, k < 20 → 0 ≤ (σ 39 k).toInt ∧ (σ 39 k).toInt ≤ 6) := id hI38
  obtain ⟨i18, w19, w20⟩ : (0 ≤ (σ 47 0).toInt ∧ (σ 47 0).toInt ≤ 12) ∧ (∀ k : Nat, k < 12 → 0 ≤ (σ 48 k).toInt ∧ (σ 48 k).toInt ≤ 3) ∧ (∀ k : Nat, k < 12 → 0 ≤ (σ 49 k).toInt ∧ (σ 49 k).toInt ≤ 1) := id hI47
  have w21 : ∀ k : Nat, k < 6 → 0 ≤ (σ 52 k).toInt ∧ (σ 52 k).toInt ≤ 60 := hI50
  have i22 : 1 ≤ (σ 26 6).toInt ∧ (σ 26 6).toInt ≤ 8000 := hI26
  obtain ⟨i23, i24, i25, w26, w27, w28, w29⟩ : (0 ≤ (σ 55 5).toInt) ∧ ((σ 55 5).toInt ≤ (σ 55 4).toInt) ∧ ((σ 55 4).toInt ≤ 40) ∧ (∀ k : Nat, k < 68 → (-200) ≤ (σ 56 k).toInt ∧ (σ 56 k).toInt ≤ 500) ∧ (∀ k : Nat, k < 40 → 0 ≤ (σ 57 k).toInt ∧ (σ 57 k).toInt ≤ 67) ∧ (∀ k : Nat, k < 40 → (-200) ≤ (σ 58 k).toInt ∧ (σ 58 k).toInt ≤ 500) ∧ (∀ k : Nat, k < 40 → (-200) ≤ (σ 59 k).toInt ∧ (σ 59 k).toInt ≤ 500) := id hI101
  obtain ⟨i30, w31, w32⟩ : (0 ≤ (σ 55 6).toInt ∧ (σ 55 6).toInt ≤ 4) ∧ (∀ k : Nat, k < 4 → 0 ≤ (σ 60 k).toInt ∧ (σ 60 k).toInt ≤ 50) ∧ (∀ k : Nat, k < 4 → 0 ≤ (σ 61 k).toInt ∧ (σ 61 k).toInt ≤ 20) := id hI102
  have i33 : 0 ≤ (σ 55 9).toInt ∧ (σ 55 9).toInt ≤ 3 := hI103
  obtain ⟨i34, i35, i36, w37, w38⟩ : (1 ≤ (σ 55 10).toInt ∧ (σ 55 10).toInt ≤ 8) ∧ (1 ≤ (σ 55 12).toInt ∧ (σ 55 12).toInt ≤ 12) ∧ (0 ≤ (σ 55 13).toInt ∧ (σ 55 13).toInt ≤ 999) ∧ (∀ k : Nat, k < 8 → 0 ≤ (σ 62 k).toInt ∧ (σ 62 k).toInt ≤ 3) ∧ (∀ k : Nat, k < 8 → 0 ≤ (σ 67 k).toInt ∧ (σ 67 k).toInt ≤ 3) := id hI104
  obtain ⟨i39, w40⟩ : (0 ≤ (σ 55 15).toInt ∧ (σ 55 15).toInt ≤ 80) ∧ (∀ k : Nat, k < 2 → (-1) ≤ (σ 65 k).toInt ∧ (σ 65 k).toInt ≤ 80) := id hI105
  obtain ⟨i41, w42, w43, w44⟩ : (0 ≤ (σ 55 32).toInt ∧ (σ 55 32).toInt ≤ 20) ∧ (∀ k : Nat, k < 20 → 0 ≤ (σ 70 k).toInt ∧ (σ 70 k).toInt ≤ 6) ∧ (∀ k : Nat, k < 20 → 0 ≤ (σ 71 k).toInt ∧ (σ 71 k).toInt ≤ 8) ∧ (∀ k : Nat, k < 160 → 0 ≤ (σ 72 k).toInt ∧ (σ 72 k).toInt ≤ 3) := id hI106
  obtain ⟨i45, i46, w47⟩ : (0 ≤ (σ 55 47).toInt ∧ (σ 55 47).toInt ≤ 12) ∧ ((σ 55 47).toInt ≤ (σ 55 12).toInt) ∧ (∀ k : Nat, k < 12 → 0 ≤ (σ 80 k).toInt ∧ (σ 80 k).toInt ≤ 3) := id hI107
  have hs_jOk3 : jOk3 σ := hr0.ok hr1.1
  refine lv_aload_n hx hb dL_law_1205 rfl (lv_at hl 2 rfl) ?_
  refine lv_aload_n hx hb dL_law_1206 rfl (lv_at hl 3 rfl) ?_
  refine lv_iload_n hx hb dL_law_1207 rfl (lv_at hl 0 rfl) ?_
  refine lv_iconst (v := 1) hx hb dL_law_1208 (by decide) ?_
  have g48 := jrg (rfl : x0.toInt = x0.toInt)
  refine lv_iadd hx hb dL_law_1209 ?_
  refine lv_topi (fun x49 ex49 => ?_)
  exact by
   have tx49 : x49.toInt = x0.toInt + 1 := (jadd ex49 rfl jz_1 (by omega) (by omega)).trans (by omega)
   refine va_sld hx hb hX hbl hbA hS (jin tx49 (by omega) (by omega)) dL_law_1210 ?_
   have g50 := jrg (rfl : (xs x49.toNatClampNeg).toInt = (xs x49.toNatClampNeg).toInt)
   refine lv_aload_n hx hb dL_law_1211 rfl (lv_at hl 3 rfl) ?_
   refine lv_iload_n hx hb dL_law_1212 rfl (lv_at hl 0 rfl) ?_
   refine lv_iconst (v := 2) hx hb dL_law_1213 (by decide) ?_
   refine lv_iadd hx hb dL_law_1214 ?_
   refine lv_topi (fun x51 ex51 => ?_)
   have tx51 : x51.toInt = x0.toInt + 2 := (jadd ex51 rfl jz_2 (by omega) (by omega)).trans (by omega)
   exact by
    refine va_sld hx hb hX hbl hbA hS (jin tx51 (by omega) (by omega)) dL_law_1215 ?_
    have g52 := jrg (rfl : (xs x51.toNatClampNeg).toInt = (xs x51.toNatClampNeg).toInt)
    refine jcallVl (As := [.int (xs x49.toNatClampNeg), .int (xs x51.toNatClampNeg)]) (rest := []) ⟨hx, hb, hml, hown, hts⟩ hK hP hA hS hZ (c_X11_element l D cI cL ad zz hJ σ τ (xs x49.toNatClampNeg) ((xs x49.toNatClampNeg).toInt) rfl (xs x51.toNatClampNeg) ((xs x51.toNatClampNeg).toInt) rfl hI50) cw_RL_152 (jc_0 cI cL ad σ τ) rfl ⟨Nat.le_of_ble_eq_true rfl, Nat.le_of_ble_eq_true rfl⟩ rfl rfl rfl hl.1 rfl (Nat.le_of_ble_eq_true rfl) dL_law_1216 ⟨Nat.le_of_ble_eq_true rfl, Nat.le_of_ble_eq_true rfl⟩ (fun lxr54 σ53 τ53 H locs h53 hP hS => ?_)
    obtain ⟨⟨rfl, rfl⟩, w55, h53⟩ := h53
    refine lv_pop2_2 hx hb dL_law_1219 rfl ?_
    refine lv_aload_n hx hb dL_law_1220 rfl (lv_at hl 1 rfl) ?_
    refine lv_aload_n hx hb dL_law_1221 rfl (lv_at hl 3 rfl) ?_
    refine lv_iload_n hx hb dL_law_1222 rfl (lv_at hl 0 rfl) ?_
    refine lv_iconst (v := 1) hx hb dL_law_1223 (by decide) ?_
    refine lv_iadd hx hb dL_law_1224 ?_
    refine jtopr ex49.symm ?_
    exact by
     refine va_sld hx hb hX hbl hbA hS (jin tx49 (by omega) (by omega)) dL_law_1225 ?_
     refine lv_aload_n hx hb dL_law_1226 rfl (lv_at hl 3 rfl) ?_
     refine lv_iload_n hx hb dL_law_1227 rfl (lv_at hl 0 rfl) ?_
     refine lv_iconst (v := 2) hx hb dL_law_1228 (by decide) ?_
     refine lv_iadd hx hb dL_law_1229 ?_
     refine jtopr ex51.symm ?_
     refine va_sld hx hb hX hbl hbA hS (jin tx51 (by omega) (by omega)) dL_law_1230 ?_
     refine jcallVl (As := [.int (xs x49.toNatClampNeg), .int (xs x51.toNatClampNeg)]) (rest := []) ⟨hx, hb, hml, hown, hts⟩ hK hP hA hS hZ (c_X12_element l D cI cL ad zz hJ σ τ (xs x49.toNatClampNeg) ((xs x49.toNatClampNeg).toInt) rfl (xs x51.toNatClampNeg) ((xs x51.toNatClampNeg).toInt) rfl hI110) cw_RL_156 (jc_55 cI cL ad σ τ) rfl ⟨Nat.le_of_ble_eq_true rfl, Nat.le_of_ble_eq_true rfl⟩ rfl rfl rfl hl.1 rfl (Nat.le_of_ble_eq_true rfl) dL_law_1231 ⟨Nat.le_of_ble_eq_true rfl, Nat.le_of_ble_eq_true rfl⟩ (fun lxr57 σ56 τ56 H locs h56 hP hS => ?_)
     obtain ⟨⟨rfl, rfl⟩, w58, h56⟩ := h56
     exact by
      refine lv_pop2_2 hx hb dL_law_1234 rfl ?_
      refine lv_goto (tgt := 1357) hx hb dL_law_1235 (by decide) ?_
      obtain ⟨x59, ex59⟩ : ∃ y : Int32, y = x0 + 6 := ⟨_, rfl⟩
      have tx59 : x59.toInt = x0.toInt + 6 := (jadd ex59 rfl jz_6 (by omega) (by omega)).trans (by omega)
      refine lv_iinc (v := x59) (lv' := [(3, .int x59), (2, .ref (ad 55)), (1, .ref (ad 0)), (0, .ref b)]) hx hb dL_law_1357 hl (k := 0) rfl (by rw [ex59]; rfl) (by decide) rfl (fun ls hl => ?_)
      refine lv_goto (tgt := 18) hx hb dL_law_1360 (by decide) ?_
      exact by exact ih x59 σ τ _ _ ls (by have h9 := tx59; omega) ⟨hI2, hI9, hI12, hI16, hI18, hI22, hI31, hI38, hI43, hI47, hI50, hI0, hI26, hI101, hI102, hI103, hI104, hI105, hI106, hI107, hI109, hI110, hI111, hI119, hs_jKept, hs_jBook, hs_jNd12, hs_jN67, hs_jBl, hs_jKb, hs_jTR, hs_jKh, hs_jKg, hs_jNz, hs_jqSt, ht0, ht1, ht2, ht3, ht4, ht5, ht6, ht7, ht8, ht9, ht10, ht11, ht12, ht13, (by have h9 := tx59; omega), (by have h9 := tx59; omega), hr0, hr1, hr2, hr3, hr4, hr5, hr6, hr7, hr8, hr9, hr10, hr11, hr12, hr13, hr14⟩ hP hS (lv_sub hl [0, 1, 2, 3] rfl)
set_option maxHeartbeats 4000000 in
set_option maxRecDepth 100000 in
theorem law_case_34 {p : Program} {e : Env} {s : State} {m : MethodId} {below : List Frame} {meth : Method} {c : Code} (l : Launch) {b L : Nat} {xs : Nat → Int32} {D : va_G} {cI cL : ClassId} {ad zz : Nat → Nat} (C0 : lw_At p s m meth c b L xs) (hJ : jD ad) (hA : ∀ q, jA ad q → s.heap.size ≤ q) (hK : jK D cI cL s) (hZ : jZ zz (fun q : Nat => s.heap.size ≤ q) s s.heap) {x0 : Int32} (hx0 : 0 ≤ x0.toInt) (hxL : x0.toInt + 6 ≤ (L : Int)) (hL : L ≤ 384) {σ : Nat → Nat → Int32} {τ : Nat → Nat → Int64} {H : Heap} {locs : List Loc} (hS : va_S (fun q : Nat => s.heap.size ≤ q) s.heap H locs) {ls : Array Slot} (hAll : jAll x0.toInt σ τ) (hP : jH D cI cL ad σ τ H) (hl : lv_has ls 4 [(3, .int x0), (2, .ref (ad 55)), (1, .ref (ad 0)), (0, .ref b)]) (ih : ∀ (x1 : Int32) (σ : Nat → Nat → Int32) (τ : Nat → Nat → Int64) (H : Heap) (locs : List Loc) (ls : Array Slot), x1.toInt = x0.toInt + 6 → jAll x1.toInt σ τ → jH D cI cL ad σ τ H → va_S (fun q : Nat => s.heap.size ≤ q) s.heap H locs → lv_has ls 4 [(3, .int x1), (2, .ref (ad 55)), (1, .ref (ad 0)), (0, .ref b)] → W p l e room_1 s m #[Value.ref b] below meth c H locs 90 348600 (lw_Z below #[Value.ref b] s) (F0 m 18 ls [])) : W p l e room_1 s m #[Value.ref b] below meth c H locs 90 348600 (lw_Z below #[Value.ref b] s) (F0 m 1238 ls []) := by
  obtain ⟨hx, hb, hr, hml, hown, hts0, hX, hbl, hlocks, hgv⟩ := C0
  have hts : ∀ w ∈ wsL_law, w.before #[Value.ref b] s = true := fun w h => hts0 w (wsL_law_in w h)
  have hbA : ¬ (fun q : Nat => s.heap.size ≤ q) b := Nat.not_le.mpr hbl
  have hown : s.vm.findClass RL = some m.cls := hown
  obtain ⟨hI2, hI9, hI12, hI16, hI18, hI22, hI31, hI38, hI43, hI47, hI50, hI0, hI26, hI101, hI102, hI103, hI104, hI105, hI106, hI107, hI109, hI110, hI111, hI119, hs_jKept, hs_jBook, hs_jNd12, hs_jN67, hs_jBl, hs_jKb, hs_jTR, hs_jKh, hs_jKg, hs_jNz, hs_jqSt, ht0, ht1, ht2, ht3, ht4, ht5, ht6, ht7, ht8, ht9, ht10, ht11, ht12, ht13, ht14, ht15, hr0, hr1, hr2, hr3, hr4, hr5, hr6, hr7, hr8, hr9, hr10, hr11, hr12, hr13, hr14⟩ := hAll
  have hL9 : (L : Int) ≤ 384 := by omega
  obtain ⟨i1, i2, i3, i4, i5, w6, w7⟩ : (0 ≤ (σ 2 0).toInt ∧ (σ 2 0).toInt ≤ 4) ∧ (0 ≤ (σ 2 1).toInt ∧ (σ 2 1).toInt ≤ 3) ∧ (0 ≤ (σ 2 2).toInt) ∧ (0 ≤ (σ 2 3).toInt) ∧ ((σ 2 2).toInt + (σ 2 3).toInt ≤ 40) ∧ (∀ k : Nat, k < 40 → 0 ≤ (σ 6 k).toInt ∧ (σ 6 k).toInt ≤ 67) ∧ (∀ k : Nat, k < 4 → 0 ≤ (σ 5 k).toInt ∧ (σ 5 k).toInt ≤ 20) := id hI2
  obtain ⟨i8, w9, w10⟩ : (0 ≤ (σ 9 0).toInt ∧ (σ 9 0).toInt ≤ 80) ∧ (∀ k : Nat, k < 80 → 0 ≤ (σ 10 k).toInt ∧ (σ 10 k).toInt ≤ 255) ∧ (∀ k : Nat, k < 8 → 0 ≤ (σ 11 k).toInt ∧ (σ 11 k).toInt ≤ 3) := id hI9
  obtain ⟨i11, i12, i13, w14⟩ : (1 ≤ (σ 16 0).toInt ∧ (σ 16 0).toInt ≤ 8) ∧ (1 ≤ (σ 16 1).toInt ∧ (σ 16 1).toInt ≤ 12) ∧ (0 ≤ (σ 16 2).toInt ∧ (σ 16 2).toInt ≤ 999) ∧ (∀ k : Nat, k < 8 → 0 ≤ (σ 17 k).toInt ∧ (σ 17 k).toInt ≤ 3) := id hI16
  obtain ⟨i15, i16, w17⟩ : (0 ≤ (σ 38 0).toInt ∧ (σ 38 0).toInt ≤ 20) ∧ (0 ≤ (σ 38 1).toInt ∧ (σ 38 1).toInt ≤ 1000) ∧ (∀ k : Nat, k < 20 → 0 ≤ (σ 39 k).toInt ∧ (σ 39 k).toInt ≤ 6) := id hI38
  obtain ⟨i18, w19, w20⟩ : (0 ≤ (σ 47 0).toInt ∧ (σ 47 0).toInt ≤ 12) ∧ (∀ k : Nat, k < 12 → 0 ≤ (σ 48 k).toInt ∧ (σ 48 k).toInt ≤ 3) ∧ (∀ k : Nat, k < 12 → 0 ≤ (σ 49 k).toInt ∧ (σ 49 k).toInt ≤ 1) := id hI47
  have w21 : ∀ k : Nat, k < 6 → 0 ≤ (σ 52 k).toInt ∧ (σ 52 k).toInt ≤ 60 := hI50
  have i22 : 1 ≤ (σ 26 6).toInt ∧ (σ 26 6).toInt ≤ 8000 := hI26
  obtain ⟨i23, i24, i25, w26, w27, w28, w29⟩ : (0 ≤ (σ 55 5).toInt) ∧ ((σ 55 5).toInt ≤ (σ 55 4).toInt) ∧ ((σ 55 4).toInt ≤ 40) ∧ (∀ k : Nat, k < 68 → (-200) ≤ (σ 56 k).toInt ∧ (σ 56 k).toInt ≤ 500) ∧ (∀ k : Nat, k < 40 → 0 ≤ (σ 57 k).toInt ∧ (σ 57 k).toInt ≤ 67) ∧ (∀ k : Nat, k < 40 → (-200) ≤ (σ 58 k).toInt ∧ (σ 58 k).toInt ≤ 500) ∧ (∀ k : Nat, k < 40 → (-200) ≤ (σ 59 k).toInt ∧ (σ 59 k).toInt ≤ 500) := id hI101
  obtain ⟨i30, w31, w32⟩ : (0 ≤ (σ 55 6).toInt ∧ (σ 55 6).toInt ≤ 4) ∧ (∀ k : Nat, k < 4 → 0 ≤ (σ 60 k).toInt ∧ (σ 60 k).toInt ≤ 50) ∧ (∀ k : Nat, k < 4 → 0 ≤ (σ 61 k).toInt ∧ (σ 61 k).toInt ≤ 20) := id hI102
  have i33 : 0 ≤ (σ 55 9).toInt ∧ (σ 55 9).toInt ≤ 3 := hI103
  obtain ⟨i34, i35, i36, w37, w38⟩ : (1 ≤ (σ 55 10).toInt ∧ (σ 55 10).toInt ≤ 8) ∧ (1 ≤ (σ 55 12).toInt ∧ (σ 55 12).toInt ≤ 12) ∧ (0 ≤ (σ 55 13).toInt ∧ (σ 55 13).toInt ≤ 999) ∧ (∀ k : Nat, k < 8 → 0 ≤ (σ 62 k).toInt ∧ (σ 62 k).toInt ≤ 3) ∧ (∀ k : Nat, k < 8 → 0 ≤ (σ 67 k).toInt ∧ (σ 67 k).toInt ≤ 3) := id hI104
  obtain ⟨i39, w40⟩ : (0 ≤ (σ 55 15).toInt ∧ (σ 55 15).toInt ≤ 80) ∧ (∀ k : Nat, k < 2 → (-1) ≤ (σ 65 k).toInt ∧ (σ 65 k).toInt ≤ 80) := id hI105
  obtain ⟨i41, w42, w43, w44⟩ : (0 ≤ (σ 55 32).toInt ∧ (σ 55 32).toInt ≤ 20) ∧ (∀ k : Nat, k < 20 → 0 ≤ (σ 70 k).toInt ∧ (σ 70 k).toInt ≤ 6) ∧ (∀ k : Nat, k < 20 → 0 ≤ (σ 71 k).toInt ∧ (σ 71 k).toInt ≤ 8) ∧ (∀ k : Nat, k < 160 → 0 ≤ (σ 72 k).toInt ∧ (σ 72 k).toInt ≤ 3) := id hI106
  obtain ⟨i45, i46, w47⟩ : (0 ≤ (σ 55 47).toInt ∧ (σ 55 47).toInt ≤ 12) ∧ ((σ 55 47).toInt ≤ (σ 55 12).toInt) ∧ (∀ k : Nat, k < 12 → 0 ≤ (σ 80 k).toInt ∧ (σ 80 k).toInt ≤ 3) := id hI107
  have hs_jOk3 : jOk3 σ := hr0.ok hr1.1
  refine lv_aload_n hx hb dL_law_1238 rfl (lv_at hl 2 rfl) ?_
  refine lv_aload_n hx hb dL_law_1239 rfl (lv_at hl 3 rfl) ?_
  refine lv_iload_n hx hb dL_law_1240 rfl (lv_at hl 0 rfl) ?_
  refine lv_iconst (v := 1) hx hb dL_law_1241 (by decide) ?_
  have g48 := jrg (rfl : x0.toInt = x0.toInt)
  refine lv_iadd hx hb dL_law_1242 ?_
  refine lv_topi (fun x49 ex49 => ?_)
  exact by
   have tx49 : x49.toInt = x0.toInt + 1 := (jadd ex49 rfl jz_1 (by omega) (by omega)).trans (by omega)
   refine va_sld hx hb hX hbl hbA hS (jin tx49 (by omega) (by omega)) dL_law_1243 ?_
   have g50 := jrg (rfl : (xs x49.toNatClampNeg).toInt = (xs x49.toNatClampNeg).toInt)
   refine lv_aload_n hx hb dL_law_1244 rfl (lv_at hl 3 rfl) ?_
   refine lv_iload_n hx hb dL_law_1245 rfl (lv_at hl 0 rfl) ?_
   refine lv_iconst (v := 2) hx hb dL_law_1246 (by decide) ?_
   refine lv_iadd hx hb dL_law_1247 ?_
   refine lv_topi (fun x51 ex51 => ?_)
   have tx51 : x51.toInt = x0.toInt + 2 := (jadd ex51 rfl jz_2 (by omega) (by omega)).trans (by omega)
   exact by
    refine va_sld hx hb hX hbl hbA hS (jin tx51 (by omega) (by omega)) dL_law_1248 ?_
    have g52 := jrg (rfl : (xs x51.toNatClampNeg).toInt = (xs x51.toNatClampNeg).toInt)
    refine lv_aload_n hx hb dL_law_1249 rfl (lv_at hl 3 rfl) ?_
    refine lv_iload_n hx hb dL_law_1250 rfl (lv_at hl 0 rfl) ?_
    refine lv_iconst (v := 3) hx hb dL_law_1251 (by decide) ?_
    refine lv_iadd hx hb dL_law_1252 ?_
    refine lv_topi (fun x53 ex53 => ?_)
    have tx53 : x53.toInt = x0.toInt + 3 := (jadd ex53 rfl jz_3 (by omega) (by omega)).trans (by omega)
    refine va_sld hx hb hX hbl hbA hS (jin tx53 (by omega) (by omega)) dL_law_1253 ?_
    exact by
     have g54 := jrg (rfl : (xs x53.toNatClampNeg).toInt = (xs x53.toNatClampNeg).toInt)
     refine lv_aload_n hx hb dL_law_1254 rfl (lv_at hl 3 rfl) ?_
     refine lv_iload_n hx hb dL_law_1255 rfl (lv_at hl 0 rfl) ?_
     refine lv_iconst (v := 4) hx hb dL_law_1256 (by decide) ?_
     refine lv_iadd hx hb dL_law_1257 ?_
     refine lv_topi (fun x55 ex55 => ?_)
     have tx55 : x55.toInt = x0.toInt + 4 := (jadd ex55 rfl jz_4 (by omega) (by omega)).trans (by omega)
     refine va_sld hx hb hX hbl hbA hS (jin tx55 (by omega) (by omega)) dL_law_1258 ?_
     have g56 := jrg (rfl : (xs x55.toNatClampNeg).toInt = (xs x55.toNatClampNeg).toInt)
     exact by
      refine lv_aload_n hx hb dL_law_1259 rfl (lv_at hl 3 rfl) ?_
      refine lv_iload_n hx hb dL_law_1260 rfl (lv_at hl 0 rfl) ?_
      refine lv_iconst (v := 5) hx hb dL_law_1261 (by decide) ?_
      refine lv_iadd hx hb dL_law_1262 ?_
      refine lv_topi (fun x57 ex57 => ?_)
      have tx57 : x57.toInt = x0.toInt + 5 := (jadd ex57 rfl jz_5 (by omega) (by omega)).trans (by omega)
      refine va_sld hx hb hX hbl hbA hS (jin tx57 (by omega) (by omega)) dL_law_1263 ?_
      have g58 := jrg (rfl : (xs x57.toNatClampNeg).toInt = (xs x57.toNatClampNeg).toInt)
      refine jcallV (As := [.int (xs x49.toNatClampNeg), .int (xs x51.toNatClampNeg), .int (xs x53.toNatClampNeg), .int (xs x55.toNatClampNeg), .int (xs x57.toNatClampNeg)]) (rest := []) ⟨hx, hb, hml, hown, hts⟩ hK hP hA hS hZ (c_X11_shift l D cI cL ad zz hJ σ τ (xs x49.toNatClampNeg) ((xs x49.toNatClampNeg).toInt) rfl (xs x51.toNatClampNeg) ((xs x51.toNatClampNeg).toInt) rfl (xs x53.toNatClampNeg) ((xs x53.toNatClampNeg).toInt) rfl (xs x55.toNatClampNeg) ((xs x55.toNatClampNeg).toInt) rfl (xs x57.toNatClampNeg) ((xs x57.toNatClampNeg).toInt) rfl hI50) cw_RL_157 (jc_0 cI cL ad σ τ) rfl ⟨Nat.le_of_ble_eq_true rfl, Nat.le_of_ble_eq_true rfl⟩ rfl rfl rfl hl.1 rfl (Nat.le_of_ble_eq_true rfl) dL_law_1264 ⟨Nat.le_of_ble_eq_true rfl, Nat.le_of_ble_eq_true rfl⟩ (fun r60 σ59 τ59 H locs h59 hP hS => ?_)
      exact by
       obtain ⟨f64, f61, w62, w63, h59⟩ := h59
       refine lv_pop hx hb dL_law_1267 rfl ?_
       refine lv_aload_n hx hb dL_law_1268 rfl (lv_at hl 1 rfl) ?_
       refine lv_aload_n hx hb dL_law_1269 rfl (lv_at hl 3 rfl) ?_
       refine lv_iload_n hx hb dL_law_1270 rfl (lv_at hl 0 rfl) ?_
       refine lv_iconst (v := 1) hx hb dL_law_1271 (by decide) ?_
       refine lv_iadd hx hb dL_law_1272 ?_
       refine jtopr ex49.symm ?_
       refine va_sld hx hb hX hbl hbA hS (jin tx49 (by omega) (by omega)) dL_law_1273 ?_
       exact by
        refine lv_aload_n hx hb dL_law_1274 rfl (lv_at hl 3 rfl) ?_
        refine lv_iload_n hx hb dL_law_1275 rfl (lv_at hl 0 rfl) ?_
        refine lv_iconst (v := 2) hx hb dL_law_1276 (by decide) ?_
        refine lv_iadd hx hb dL_law_1277 ?_
        refine jtopr ex51.symm ?_
        refine va_sld hx hb hX hbl hbA hS (jin tx51 (by omega) (by omega)) dL_law_1278 ?_
        refine lv_aload_n hx hb dL_law_1279 rfl (lv_at hl 3 rfl) ?_
        refine lv_iload_n hx hb dL_law_1280 rfl (lv_at hl 0 rfl) ?_
        refine lv_iconst (v := 3) hx hb dL_law_1281 (by decide) ?_
        exact by
         refine lv_iadd hx hb dL_law_1282 ?_
         refine jtopr ex53.symm ?_
         refine va_sld hx hb hX hbl hbA hS (jin tx53 (by omega) (by omega)) dL_law_1283 ?_
         refine lv_aload_n hx hb dL_law_1284 rfl (lv_at hl 3 rfl) ?_
         refine lv_iload_n hx hb dL_law_1285 rfl (lv_at hl 0 rfl) ?_
         refine lv_iconst (v := 4) hx hb dL_law_1286 (by decide) ?_
         refine lv_iadd hx hb dL_law_1287 ?_
         refine jtopr ex55.symm ?_
         refine va_sld hx hb hX hbl hbA hS (jin tx55 (by omega) (by omega)) dL_law_1288 ?_
         exact by
          refine lv_aload_n hx hb dL_law_1289 rfl (lv_at hl 3 rfl) ?_
          refine lv_iload_n hx hb dL_law_1290 rfl (lv_at hl 0 rfl) ?_
          refine lv_iconst (v := 5) hx hb dL_law_1291 (by decide) ?_
          refine lv_iadd hx hb dL_law_1292 ?_
          refine jtopr ex57.symm ?_
          refine va_sld hx hb hX hbl hbA hS (jin tx57 (by omega) (by omega)) dL_law_1293 ?_
          have I65 : jI110 σ59 := jI110_fr (f61 86 (by decide)) (f61 87 (by decide)) hI110
          refine jcallV (As := [.int (xs x49.toNatClampNeg), .int (xs x51.toNatClampNeg), .int (xs x53.toNatClampNeg), .int (xs x55.toNatClampNeg), .int (xs x57.toNatClampNeg)]) (rest := []) ⟨hx, hb, hml, hown, hts⟩ hK hP hA hS hZ (c_X12_shift l D cI cL ad zz hJ σ59 τ59 (xs x49.toNatClampNeg) ((xs x49.toNatClampNeg).toInt) rfl (xs x51.toNatClampNeg) ((xs x51.toNatClampNeg).toInt) rfl (xs x53.toNatClampNeg) ((xs x53.toNatClampNeg).toInt) rfl (xs x55.toNatClampNeg) ((xs x55.toNatClampNeg).toInt) rfl (xs x57.toNatClampNeg) ((xs x57.toNatClampNeg).toInt) rfl I65) cw_RL_161 (jc_55 cI cL ad σ59 τ59) rfl ⟨Nat.le_of_ble_eq_true rfl, Nat.le_of_ble_eq_true rfl⟩ rfl rfl rfl hl.1 rfl (Nat.le_of_ble_eq_true rfl) dL_law_1294 ⟨Nat.le_of_ble_eq_true rfl, Nat.le_of_ble_eq_true rfl⟩ (fun r67 σ66 τ66 H locs h66 hP hS => ?_)
          obtain ⟨f71, f68, w69, w70, h66⟩ := h66
          exact by
           refine lv_pop hx hb dL_law_1297 rfl ?_
           refine lv_goto (tgt := 1357) hx hb dL_law_1298 (by decide) ?_
           obtain ⟨x72, ex72⟩ : ∃ y : Int32, y = x0 + 6 := ⟨_, rfl⟩
           have tx72 : x72.toInt = x0.toInt + 6 := (jadd ex72 rfl jz_6 (by omega) (by omega)).trans (by omega)
           refine lv_iinc (v := x72) (lv' := [(3, .int x72), (2, .ref (ad 55)), (1, .ref (ad 0)), (0, .ref b)]) hx hb dL_law_1357 hl (k := 0) rfl (by rw [ex72]; rfl) (by decide) rfl (fun ls hl => ?_)
           refine lv_goto (tgt := 18) hx hb dL_law_1360 (by decide) ?_
           have I73 : jI2 σ66 := jI2_fr ((congrFun (f68 2 (by decide)) 0).trans (congrFun (f61 2 (by decide)) 0)) ((congrFun (f68 2 (by decide)) 1).trans (congrFun (f61 2 (by decide)) 1)) ((congrFun (f68 2 (by decide)) 2).trans (congrFun (f61 2 (by decide)) 2)) ((congrFun (f68 2 (by decide)) 3).trans (congrFun (f61 2 (by decide)) 3)) ((f68 6 (by decide)).trans (f61 6 (by decide))) ((f68 5 (by decide)).trans (f61 5 (by decide))) hI2
           have I74 : jI9 σ66 := jI9_fr ((congrFun (f68 9 (by decide)) 0).trans (congrFun (f61 9 (by decide)) 0)) ((f68 10 (by decide)).trans (f61 10 (by decide))) ((f68 11 (by decide)).trans (f61 11 (by decide))) hI9
           have I75 : jI12 σ66 := jI12_fr ((congrFun (f68 12 (by decide)) 0).trans (congrFun (f61 12 (by decide)) 0)) ((f68 13 (by decide)).trans (f61 13 (by decide))) hI12
           exact by
            have I76 : jI16 σ66 := jI16_fr ((congrFun (f68 16 (by decide)) 0).trans (congrFun (f61 16 (by decide)) 0)) ((congrFun (f68 16 (by decide)) 1).trans (congrFun (f61 16 (by decide)) 1)) ((congrFun (f68 16 (by decide)) 2).trans (congrFun (f61 16 (by decide)) 2)) ((f68 17 (by decide)).trans (f61 17 (by decide))) hI16
            have I77 : jI18 σ66 := jI18_fr ((congrFun (f68 18 (by decide)) 0).trans (congrFun (f61 18 (by decide)) 0)) ((f68 19 (by decide)).trans (f61 19 (by decide))) hI18
            have I78 : jI22 σ66 := jI22_fr ((congrFun (f68 22 (by decide)) 0).trans (congrFun (f61 22 (by decide)) 0)) ((f68 23 (by decide)).trans (f61 23 (by decide))) hI22
            have I79 : jI31 σ66 := jI31_fr ((congrFun (f68 31 (by decide)) 8).trans (congrFun (f61 31 (by decide)) 8)) ((congrFun (f68 31 (by decide)) 10).trans (congrFun (f61 31 (by decide)) 10)) ((congrFun (f68 31 (by decide)) 11).trans (congrFun (f61 31 (by decide)) 11)) ((f68 33 (by decide)).trans (f61 33 (by decide))) ((f68 35 (by decide)).trans (f61 35 (by decide))) ((f68 36 (by decide)).trans (f61 36 (by decide))) hI31
            have I80 : jI38 σ66 := jI38_fr ((congrFun (f68 38 (by decide)) 0).trans (congrFun (f61 38 (by decide)) 0)) ((congrFun (f68 38 (by decide)) 1).trans (congrFun (f61 38 (by decide)) 1)) ((f68 39 (by decide)).trans (f61 39 (by decide))) hI38
            have I81 : jI43 σ66 := jI43_fr ((congrFun (f68 43 (by decide)) 8).trans (congrFun (f61 43 (by decide)) 8)) hI43
            have I82 : jI47 σ66 := jI47_fr ((congrFun (f68 47 (by decide)) 0).trans (congrFun (f61 47 (by decide)) 0)) ((f68 48 (by decide)).trans (f61 48 (by decide))) ((f68 49 (by decide)).trans (f61 49 (by decide))) hI47
            have I83 : jI50 σ66 := jI50_fr ((f68 52 (by decide)).trans (f61 52 (by decide))) hI50
            have I84 : jI0 σ66 := jI0_fr ((f68 1 (by decide)).trans (f61 1 (by decide))) hI0
            have I85 : jI26 σ66 := jI26_fr ((congrFun (f68 26 (by decide)) 6).trans (congrFun (f61 26 (by decide)) 6)) hI26
            have I86 : jI101 σ66 := jI101_fr ((congrFun (f68 55 (by decide)) 4).trans (congrFun (f61 55 (by decide)) 4)) ((congrFun (f68 55 (by decide)) 5).trans (congrFun (f61 55 (by decide)) 5)) ((f68 56 (by decide)).trans (f61 56 (by decide))) ((f68 57 (by decide)).trans (f61 57 (by decide))) ((f68 58 (by decide)).trans (f61 58 (by decide))) ((f68 59 (by decide)).trans (f61 59 (by decide))) hI101
            have I87 : jI102 σ66 := jI102_fr ((congrFun (f68 55 (by decide)) 6).trans (congrFun (f61 55 (by decide)) 6)) ((f68 60 (by decide)).trans (f61 60 (by decide))) ((f68 61 (by decide)).trans (f61 61 (by decide))) hI102
            have I88 : jI103 σ66 := jI103_fr ((congrFun (f68 55 (by decide)) 9).trans (congrFun (f61 55 (by decide)) 9)) hI103
            have I89 : jI104 σ66 := jI104_fr ((congrFun (f68 55 (by decide)) 10).trans (congrFun (f61 55 (by decide)) 10)) ((congrFun (f68 55 (by decide)) 12).trans (congrFun (f61 55 (by decide)) 12)) ((congrFun (f68 55 (by decide)) 13).trans (congrFun (f61 55 (by decide)) 13)) ((f68 62 (by decide)).trans (f61 62 (by decide))) ((f68 67 (by decide)).trans (f61 67 (by decide))) hI104
            have I90 : jI105 σ66 := jI105_fr ((congrFun (f68 55 (by decide)) 15).trans (congrFun (f61 55 (by decide)) 15)) ((f68 65 (by decide)).trans (f61 65 (by decide))) hI105
            have I91 : jI106 σ66 := jI106_fr ((congrFun (f68 55 (by decide)) 32).trans (congrFun (f61 55 (by decide)) 32)) ((f68 70 (by decide)).trans (f61 70 (by decide))) ((f68 71 (by decide)).trans (f61 71 (by decide))) ((f68 72 (by decide)).trans (f61 72 (by decide))) hI106
            have I92 : jI107 σ66 := jI107_fr ((congrFun (f68 55 (by decide)) 12).trans (congrFun (f61 55 (by decide)) 12)) ((congrFun (f68 55 (by decide)) 47).trans (congrFun (f61 55 (by decide)) 47)) ((f68 80 (by decide)).trans (f61 80 (by decide))) hI107
            have I93 : jI109 σ66 := jI109_fr ((congrFun (f68 55 (by decide)) 50).trans (congrFun (f61 55 (by decide)) 50)) hI109
            have I94 : jI110 σ66 := jI110_fr (f68 86 (by decide)) (f68 87 (by decide)) I65
            have I95 : jI111 σ66 := jI111_fr ((f68 79 (by decide)).trans (f61 79 (by decide))) hI111
            have I96 : jI119 σ66 := jI119_fr ((f68 68 (by decide)).trans (f61 68 (by decide))) hI119
            have p97 : jKept σ66 := jKept.fr ((f68 75 (by decide)).trans (f61 75 (by decide))) ((f68 76 (by decide)).trans (f61 76 (by decide))) ((f68 77 (by decide)).trans (f61 77 (by decide))) hs_jKept
            have p98 : jBook σ66 := jBook.fr ((congrFun (f68 55 (by decide)) 47).trans (congrFun (f61 55 (by decide)) 47)) ((congrFun (f68 55 (by decide)) 10).trans (congrFun (f61 55 (by decide)) 10)) ((f68 81 (by decide)).trans (f61 81 (by decide))) hs_jBook
            have p99 : jNd12 σ66 := jNd12.fr ((congrFun (f68 12 (by decide)) 0).trans (congrFun (f61 12 (by decide)) 0)) ((congrFun (f68 12 (by decide)) 1).trans (congrFun (f61 12 (by decide)) 1)) ((f68 13 (by decide)).trans (f61 13 (by decide))) hs_jNd12
            have p100 : jN67 σ66 := jN67.fr ((f68 24 (by decide)).trans (f61 24 (by decide))) hs_jN67
            have p101 : jBl σ66 := jBl.fr ((congrFun (f68 22 (by decide)) 0).trans (congrFun (f61 22 (by decide)) 0)) ((congrFun (f68 22 (by decide)) 1).trans (congrFun (f61 22 (by decide)) 1)) ((f68 23 (by decide)).trans (f61 23 (by decide))) ((congrFun (f68 26 (by decide)) 6).trans (congrFun (f61 26 (by decide)) 6)) ((congrFun (f68 26 (by decide)) 7).trans (congrFun (f61 26 (by decide)) 7)) ((f68 29 (by decide)).trans (f61 29 (by decide))) ((f68 30 (by decide)).trans (f61 30 (by decide))) hs_jBl
            have p102 : jKb σ66 := jKb.fr ((congrFun (f68 31 (by decide)) 8).trans (congrFun (f61 31 (by decide)) 8)) ((congrFun (f68 31 (by decide)) 11).trans (congrFun (f61 31 (by decide)) 11)) ((f68 32 (by decide)).trans (f61 32 (by decide))) hs_jKb
            have p103 : jTR σ66 := jTR.fr ((f68 64 (by decide)).trans (f61 64 (by decide))) ((f68 65 (by decide)).trans (f61 65 (by decide))) hs_jTR
            have p104 : jKh σ66 := jKh.fr ((congrFun (f68 31 (by decide)) 8).trans (congrFun (f61 31 (by decide)) 8)) ((f68 32 (by decide)).trans (f61 32 (by decide))) ((f68 36 (by decide)).trans (f61 36 (by decide))) ((f68 37 (by decide)).trans (f61 37 (by decide))) hs_jKh
            have p105 : jKg σ66 := jKg.fr ((congrFun (f68 31 (by decide)) 8).trans (congrFun (f61 31 (by decide)) 8)) ((congrFun (f68 31 (by decide)) 9).trans (congrFun (f61 31 (by decide)) 9)) ((congrFun (f68 31 (by decide)) 11).trans (congrFun (f61 31 (by decide)) 11)) ((congrFun (f68 31 (by decide)) 12).trans (congrFun (f61 31 (by decide)) 12)) ((f68 32 (by decide)).trans (f61 32 (by decide))) ((f68 33 (by decide)).trans (f61 33 (by decide))) hs_jKg
            have p106 : jNz σ66 := jNz.fr ((f68 34 (by decide)).trans (f61 34 (by decide))) hs_jNz
            have p107 : jqSt σ66 := jqSt.fr ((f68 78 (by decide)).trans (f61 78 (by decide))) ((congrFun (f68 55 (by decide)) 42).trans (congrFun (f61 55 (by decide)) 42)) hs_jqSt
            have z108 : (σ66 2 0).toInt = (σ 2 0).toInt := (congrArg Int32.toInt (show σ66 2 0 = (σ 2 0) from ((congrFun (f68 2 (by decide)) 0).trans (congrFun (f61 2 (by decide)) 0))))
            have z109 : (σ66 55 6).toInt = (σ 55 6).toInt := (congrArg Int32.toInt (show σ66 55 6 = (σ 55 6) from ((congrFun (f68 55 (by decide)) 6).trans (congrFun (f61 55 (by decide)) 6))))
            have z110 : (σ66 2 2).toInt = (σ 2 2).toInt := (congrArg Int32.toInt (show σ66 2 2 = (σ 2 2) from ((congrFun (f68 2 (by decide)) 2).trans (congrFun (f61 2 (by decide)) 2))))
            have z111 : (σ66 55 5).toInt = (σ 55 5).toInt := (congrArg Int32.toInt (show σ66 55 5 = (σ 55 5) from ((congrFun (f68 55 (by decide)) 5).trans (congrFun (f61 55 (by decide)) 5))))
            have z112 : (σ66 2 3).toInt = (σ 2 3).toInt := (congrArg Int32.toInt (show σ66 2 3 = (σ 2 3) from ((congrFun (f68 2 (by decide)) 3).trans (congrFun (f61 2 (by decide)) 3))))
            have z113 : (σ66 55 4).toInt = (σ 55 4).toInt := (congrArg Int32.toInt (show σ66 55 4 = (σ 55 4) from ((congrFun (f68 55 (by decide)) 4).trans (congrFun (f61 55 (by decide)) 4))))
            have z114 : (σ66 9 0).toInt = (σ 9 0).toInt := (congrArg Int32.toInt (show σ66 9 0 = (σ 9 0) from ((congrFun (f68 9 (by decide)) 0).trans (congrFun (f61 9 (by decide)) 0))))
            have z115 : (σ66 55 15).toInt = (σ 55 15).toInt := (congrArg Int32.toInt (show σ66 55 15 = (σ 55 15) from ((congrFun (f68 55 (by decide)) 15).trans (congrFun (f61 55 (by decide)) 15))))
            have z116 : (σ66 16 0).toInt = (σ 16 0).toInt := (congrArg Int32.toInt (show σ66 16 0 = (σ 16 0) from ((congrFun (f68 16 (by decide)) 0).trans (congrFun (f61 16 (by decide)) 0))))
            have z117 : (σ66 55 10).toInt = (σ 55 10).toInt := (congrArg Int32.toInt (show σ66 55 10 = (σ 55 10) from ((congrFun (f68 55 (by decide)) 10).trans (congrFun (f61 55 (by decide)) 10))))
            have z118 : (σ66 16 1).toInt = (σ 16 1).toInt := (congrArg Int32.toInt (show σ66 16 1 = (σ 16 1) from ((congrFun (f68 16 (by decide)) 1).trans (congrFun (f61 16 (by decide)) 1))))
            have z119 : (σ66 55 12).toInt = (σ 55 12).toInt := (congrArg Int32.toInt (show σ66 55 12 = (σ 55 12) from ((congrFun (f68 55 (by decide)) 12).trans (congrFun (f61 55 (by decide)) 12))))
            have z120 : (σ66 16 2).toInt = (σ 16 2).toInt := (congrArg Int32.toInt (show σ66 16 2 = (σ 16 2) from ((congrFun (f68 16 (by decide)) 2).trans (congrFun (f61 16 (by decide)) 2))))
            have z121 : (σ66 55 13).toInt = (σ 55 13).toInt := (congrArg Int32.toInt (show σ66 55 13 = (σ 55 13) from ((congrFun (f68 55 (by decide)) 13).trans (congrFun (f61 55 (by decide)) 13))))
            have z122 : (σ66 38 0).toInt = (σ 38 0).toInt := (congrArg Int32.toInt (show σ66 38 0 = (σ 38 0) from ((congrFun (f68 38 (by decide)) 0).trans (congrFun (f61 38 (by decide)) 0))))
            have z123 : (σ66 55 32).toInt = (σ 55 32).toInt := (congrArg Int32.toInt (show σ66 55 32 = (σ 55 32) from ((congrFun (f68 55 (by decide)) 32).trans (congrFun (f61 55 (by decide)) 32))))
            have z124 : (σ66 38 1).toInt = (σ 38 1).toInt := (congrArg Int32.toInt (show σ66 38 1 = (σ 38 1) from ((congrFun (f68 38 (by decide)) 1).trans (congrFun (f61 38 (by decide)) 1))))
            have z125 : (σ66 55 55).toInt = (σ 55 55).toInt := (congrArg Int32.toInt (show σ66 55 55 = (σ 55 55) from ((congrFun (f68 55 (by decide)) 55).trans (congrFun (f61 55 (by decide)) 55))))
            have z126 : (σ66 47 0).toInt = (σ 47 0).toInt := (congrArg Int32.toInt (show σ66 47 0 = (σ 47 0) from ((congrFun (f68 47 (by decide)) 0).trans (congrFun (f61 47 (by decide)) 0))))
            have z127 : (σ66 55 47).toInt = (σ 55 47).toInt := (congrArg Int32.toInt (show σ66 55 47 = (σ 55 47) from ((congrFun (f68 55 (by decide)) 47).trans (congrFun (f61 55 (by decide)) 47))))
            have z128 : (σ66 55 30).toInt = (σ 55 30).toInt := (congrArg Int32.toInt (show σ66 55 30 = (σ 55 30) from ((congrFun (f68 55 (by decide)) 30).trans (congrFun (f61 55 (by decide)) 30))))
            have z129 : (σ66 55 31).toInt = (σ 55 31).toInt := (congrArg Int32.toInt (show σ66 55 31 = (σ 55 31) from ((congrFun (f68 55 (by decide)) 31).trans (congrFun (f61 55 (by decide)) 31))))
            have z130 : (σ66 2 1).toInt = (σ 2 1).toInt := (congrArg Int32.toInt (show σ66 2 1 = (σ 2 1) from ((congrFun (f68 2 (by decide)) 1).trans (congrFun (f61 2 (by decide)) 1))))
            have z131 : (σ66 55 9).toInt = (σ 55 9).toInt := (congrArg Int32.toInt (show σ66 55 9 = (σ 55 9) from ((congrFun (f68 55 (by decide)) 9).trans (congrFun (f61 55 (by decide)) 9))))
            have z132 : (σ66 55 42).toInt = (σ 55 42).toInt := (congrArg Int32.toInt (show σ66 55 42 = (σ 55 42) from ((congrFun (f68 55 (by decide)) 42).trans (congrFun (f61 55 (by decide)) 42))))
            have z133 : (σ66 26 6).toInt = (σ 26 6).toInt := (congrArg Int32.toInt (show σ66 26 6 = (σ 26 6) from ((congrFun (f68 26 (by decide)) 6).trans (congrFun (f61 26 (by decide)) 6))))
            rw [show τ59 88 = τ 88 from (f64 88 (by decide))] at w70
            have s135 := w69
            rw [show σ59 86 = σ 86 from (f61 86 (by decide)), show σ59 87 = σ 87 from (f61 87 (by decide))] at s135
            have p134 := hr5.move w21 w63 w70 (w62.trans (hr4.sf.trans s135.symm)) rfl rfl rfl rfl rfl (fun z => hr4.mvok w62 z)
            have z136 : (σ66 18 0).toInt = (σ 18 0).toInt := (congrArg Int32.toInt (show σ66 18 0 = (σ 18 0) from ((congrFun (f68 18 (by decide)) 0).trans (congrFun (f61 18 (by decide)) 0))))
            have z137 : (σ66 22 0).toInt = (σ 22 0).toInt := (congrArg Int32.toInt (show σ66 22 0 = (σ 22 0) from ((congrFun (f68 22 (by decide)) 0).trans (congrFun (f61 22 (by decide)) 0))))
            exact by exact ih x72 σ66 τ66 _ _ ls (by have h9 := tx72; omega) ⟨I73, I74, I75, I76, I77, I78, I79, I80, I81, I82, I83, I84, I85, I86, I87, I88, I89, I90, I91, I92, I93, I94, I95, I96, p97, p98, p99, p100, p101, p102, p103, p104, p105, p106, p107, (by rw [z108, z109]; exact ht0), (by rw [z110, z111]; exact ht1), (by rw [z110, z112, z113]; exact ht2), (by rw [z114, z115]; exact ht3), (by rw [z116, z117]; exact ht4), (by rw [z118, z119]; exact ht5), (by rw [z120, z121]; exact ht6), (by rw [z122, z123]; exact ht7), (by rw [z124, z125]; exact ht8), (by rw [z126, z127]; exact ht9), (by rw [z128]; exact ht10), (by rw [z129]; exact ht11), (by rw [z130, z131]; exact ht12), (by rw [z132]; exact ht13), (by have h9 := tx72; omega), (by have h9 := tx72; omega), (show jNumP (σ66 3) (σ66 56) (σ66 6) (σ66 57) (σ66 7) (σ66 58) (σ66 8) (σ66 59) (σ66 55 6).toInt (σ66 55 4).toInt by rw [show σ66 3 = σ 3 from ((f68 3 (by decide)).trans (f61 3 (by decide))), show σ66 56 = σ 56 from ((f68 56 (by decide)).trans (f61 56 (by decide))), show σ66 6 = σ 6 from ((f68 6 (by decide)).trans (f61 6 (by decide))), show σ66 57 = σ 57 from ((f68 57 (by decide)).trans (f61 57 (by decide))), show σ66 7 = σ 7 from ((f68 7 (by decide)).trans (f61 7 (by decide))), show σ66 58 = σ 58 from ((f68 58 (by decide)).trans (f61 58 (by decide))), show σ66 8 = σ 8 from ((f68 8 (by decide)).trans (f61 8 (by decide))), show σ66 59 = σ 59 from ((f68 59 (by decide)).trans (f61 59 (by decide))), show (σ66 55 6).toInt = (σ 55 6).toInt from z109, show (σ66 55 4).toInt = (σ 55 4).toInt from z113]; exact hr0), (show jOvP (σ66 56) (σ66 57) (σ66 58) (σ66 59) (σ66 55 4).toInt by rw [show σ66 56 = σ 56 from ((f68 56 (by decide)).trans (f61 56 (by decide))), show σ66 57 = σ 57 from ((f68 57 (by decide)).trans (f61 57 (by decide))), show σ66 58 = σ 58 from ((f68 58 (by decide)).trans (f61 58 (by decide))), show σ66 59 = σ 59 from ((f68 59 (by decide)).trans (f61 59 (by decide))), show (σ66 55 4).toInt = (σ 55 4).toInt from z113]; exact hr1), (show jTp (σ66 10) (σ66 63) (σ66 55 15).toInt by rw [show σ66 10 = σ 10 from ((f68 10 (by decide)).trans (f61 10 (by decide))), show σ66 63 = σ 63 from ((f68 63 (by decide)).trans (f61 63 (by decide)))]; exact hr2.le (by omega)), (show jSo (σ66 17) (σ66 62) (σ66 16 0).toInt by rw [show σ66 17 = σ 17 from ((f68 17 (by decide)).trans (f61 17 (by decide))), show σ66 62 = σ 62 from ((f68 62 (by decide)).trans (f61 62 (by decide))), show (σ66 16 0).toInt = (σ 16 0).toInt from z116]; exact hr3), (show jShP (σ66 51) (σ66 52) (σ66 53) (σ66 86) (σ66 87) (σ66 55 32).toInt by rw [show σ66 51 = σ 51 from ((f68 51 (by decide)).trans (f61 51 (by decide))), show σ66 52 = σ 52 from ((f68 52 (by decide)).trans (f61 52 (by decide))), show σ66 53 = σ 53 from ((f68 53 (by decide)).trans (f61 53 (by decide))), show σ66 86 = σ 86 from ((f68 86 (by decide)).trans (f61 86 (by decide))), show σ66 87 = σ 87 from ((f68 87 (by decide)).trans (f61 87 (by decide)))]; exact (hr4.up (by omega) (by omega))), (show jEl (σ66 51) (σ66 52) (τ66 54) (τ66 88) by rw [show σ66 51 = σ 51 from ((f68 51 (by decide)).trans (f61 51 (by decide))), show σ66 52 = σ 52 from ((f68 52 (by decide)).trans (f61 52 (by decide))), show τ66 54 = τ59 54 from (f71 54 (by decide))]; exact p134), (show jByP (σ66 51) (σ66 52) (τ66 54) by rw [show σ66 51 = σ 51 from ((f68 51 (by decide)).trans (f61 51 (by decide))), show σ66 52 = σ 52 from ((f68 52 (by decide)).trans (f61 52 (by decide))), show τ66 54 = τ59 54 from (f71 54 (by decide))]; exact (hr6.move (d := (xs x49.toNatClampNeg).toInt) (i := (xs x51.toNatClampNeg).toInt) (e := (xs x53.toNatClampNeg).toInt) (j := (xs x55.toNatClampNeg).toInt) w21 w63 rfl rfl (fun z => hr4.mvok w62 z) (fun z => hr4.mvs w62 z))), (show jBk (σ66 48) (σ66 80) (σ66 49) (σ66 81) (σ66 55 47).toInt by rw [show σ66 48 = σ 48 from ((f68 48 (by decide)).trans (f61 48 (by decide))), show σ66 49 = σ 49 from ((f68 49 (by decide)).trans (f61 49 (by decide))), show σ66 80 = σ 80 from ((f68 80 (by decide)).trans (f61 80 (by decide))), show σ66 81 = σ 81 from ((f68 81 (by decide)).trans (f61 81 (by decide))), show (σ66 55 47).toInt = (σ 55 47).toInt from z127]; exact hr7), (show jKd (σ66 39) (σ66 70) (σ66 55 32).toInt by rw [show σ66 39 = σ 39 from ((f68 39 (by decide)).trans (f61 39 (by decide))), show σ66 70 = σ 70 from ((f68 70 (by decide)).trans (f61 70 (by decide))), show (σ66 55 32).toInt = (σ 55 32).toInt from z123]; exact hr8), (show jTt (σ66 42) (σ66 85) (σ66 55 55).toInt by rw [show σ66 42 = σ 42 from ((f68 42 (by decide)).trans (f61 42 (by decide))), show σ66 85 = σ 85 from ((f68 85 (by decide)).trans (f61 85 (by decide))), show (σ66 55 55).toInt = (σ 55 55).toInt from z125]; exact hr9), (fun k hk => by rw [show σ66 4 = σ 4 from ((f68 4 (by decide)).trans (f61 4 (by decide))), show σ66 5 = σ 5 from ((f68 5 (by decide)).trans (f61 5 (by decide))), show σ66 60 = σ 60 from ((f68 60 (by decide)).trans (f61 60 (by decide))), show σ66 61 = σ 61 from ((f68 61 (by decide)).trans (f61 61 (by decide)))]; exact hr10 k (by omega)), (fun nm => by rw [show σ66 19 = σ 19 from ((f68 19 (by decide)).trans (f61 19 (by decide))), show σ66 64 = σ 64 from ((f68 64 (by decide)).trans (f61 64 (by decide))), show σ66 65 = σ 65 from ((f68 65 (by decide)).trans (f61 65 (by decide))), show (σ66 18 0).toInt = (σ 18 0).toInt from z136]; exact hr11 nm), (fun nm => by rw [show σ66 23 = σ 23 from ((f68 23 (by decide)).trans (f61 23 (by decide))), show σ66 64 = σ 64 from ((f68 64 (by decide)).trans (f61 64 (by decide))), show σ66 65 = σ 65 from ((f68 65 (by decide)).trans (f61 65 (by decide))), show (σ66 22 0).toInt = (σ 22 0).toInt from z137]; exact hr12 nm), (show jAlP (σ66 56) (σ66 57) (σ66 58) (σ66 59) (σ66 55 4).toInt by rw [show σ66 56 = σ 56 from ((f68 56 (by decide)).trans (f61 56 (by decide))), show σ66 57 = σ 57 from ((f68 57 (by decide)).trans (f61 57 (by decide))), show σ66 58 = σ 58 from ((f68 58 (by decide)).trans (f61 58 (by decide))), show σ66 59 = σ 59 from ((f68 59 (by decide)).trans (f61 59 (by decide))), show (σ66 55 4).toInt = (σ 55 4).toInt from z113]; exact hr13), (show jqbN (σ66 80) (σ66 55 47).toInt by rw [show σ66 80 = σ 80 from ((f68 80 (by decide)).trans (f61 80 (by decide))), show (σ66 55 47).toInt = (σ 55 47).toInt from z127]; exact hr14)⟩ hP hS (lv_sub hl [0, 1, 2, 3] rfl)
set_option maxHeartbeats 4000000 in
set_option maxRecDepth 100000 in
theorem law_case_35 {p : Program} {e : Env} {s : State} {m : MethodId} {below : List Frame} {meth : Method} {c : Code} (l : Launch) {b L : Nat} {xs : Nat → Int32} {D : va_G} {cI cL : ClassId} {ad zz : Nat → Nat} (C0 : lw_At p s m meth c b L xs) (hJ : jD ad) (hA : ∀ q, jA ad q → s.heap.size ≤ q) (hK : jK D cI cL s) (hZ : jZ zz (fun q : Nat => s.heap.size ≤ q) s s.heap) {x0 : Int32} (hx0 : 0 ≤ x0.toInt) (hxL : x0.toInt + 6 ≤ (L : Int)) (hL : L ≤ 384) {σ : Nat → Nat → Int32} {τ : Nat → Nat → Int64} {H : Heap} {locs : List Loc} (hS : va_S (fun q : Nat => s.heap.size ≤ q) s.heap H locs) {ls : Array Slot} (hAll : jAll x0.toInt σ τ) (hP : jH D cI cL ad σ τ H) (hl : lv_has ls 4 [(3, .int x0), (2, .ref (ad 55)), (1, .ref (ad 0)), (0, .ref b)]) (ih : ∀ (x1 : Int32) (σ : Nat → Nat → Int32) (τ : Nat → Nat → Int64) (H : Heap) (locs : List Loc) (ls : Array Slot), x1.toInt = x0.toInt + 6 → jAll x1.toInt σ τ → jH D cI cL ad σ τ H → va_S (fun q : Nat => s.heap.size ≤ q) s.heap H locs → lv_has ls 4 [(3, .int x1), (2, .ref (ad 55)), (1, .ref (ad 0)), (0, .ref b)] → W p l e room_1 s m #[Value.ref b] below meth c H locs 90 348600 (lw_Z below #[Value.ref b] s) (F0 m 18 ls [])) : W p l e room_1 s m #[Value.ref b] below meth c H locs 90 348600 (lw_Z below #[Value.ref b] s) (F0 m 1301 ls []) := by
  obtain ⟨hx, hb, hr, hml, hown, hts0, hX, hbl, hlocks, hgv⟩ := C0
  have hts : ∀ w ∈ wsL_law, w.before #[Value.ref b] s = true := fun w h => hts0 w (wsL_law_in w h)
  have hbA : ¬ (fun q : Nat => s.heap.size ≤ q) b := Nat.not_le.mpr hbl
  have hown : s.vm.findClass RL = some m.cls := hown
  obtain ⟨hI2, hI9, hI12, hI16, hI18, hI22, hI31, hI38, hI43, hI47, hI50, hI0, hI26, hI101, hI102, hI103, hI104, hI105, hI106, hI107, hI109, hI110, hI111, hI119, hs_jKept, hs_jBook, hs_jNd12, hs_jN67, hs_jBl, hs_jKb, hs_jTR, hs_jKh, hs_jKg, hs_jNz, hs_jqSt, ht0, ht1, ht2, ht3, ht4, ht5, ht6, ht7, ht8, ht9, ht10, ht11, ht12, ht13, ht14, ht15, hr0, hr1, hr2, hr3, hr4, hr5, hr6, hr7, hr8, hr9, hr10, hr11, hr12, hr13, hr14⟩ := hAll
  have hL9 : (L : Int) ≤ 384 := by omega
  obtain ⟨i1, i2, i3, i4, i5, w6, w7⟩ : (0 ≤ (σ 2 0).toInt ∧ (σ 2 0).toInt ≤ 4) ∧ (0 ≤ (σ 2 1).toInt ∧ (σ 2 1).toInt ≤ 3) ∧ (0 ≤ (σ 2 2).toInt) ∧ (0 ≤ (σ 2 3).toInt) ∧ ((σ 2 2).toInt + (σ 2 3).toInt ≤ 40) ∧ (∀ k : Nat, k < 40 → 0 ≤ (σ 6 k).toInt ∧ (σ 6 k).toInt ≤ 67) ∧ (∀ k : Nat, k < 4 → 0 ≤ (σ 5 k).toInt ∧ (σ 5 k).toInt ≤ 20) := id hI2
  obtain ⟨i8, w9, w10⟩ : (0 ≤ (σ 9 0).toInt ∧ (σ 9 0).toInt ≤ 80) ∧ (∀ k : Nat, k < 80 → 0 ≤ (σ 10 k).toInt ∧ (σ 10 k).toInt ≤ 255) ∧ (∀ k : Nat, k < 8 → 0 ≤ (σ 11 k).toInt ∧ (σ 11 k).toInt ≤ 3) := id hI9
  obtain ⟨i11, i12, i13, w14⟩ : (1 ≤ (σ 16 0).toInt ∧ (σ 16 0).toInt ≤ 8) ∧ (1 ≤ (σ 16 1).toInt ∧ (σ 16 1).toInt ≤ 12) ∧ (0 ≤ (σ 16 2).toInt ∧ (σ 16 2).toInt ≤ 999) ∧ (∀ k : Nat, k < 8 → 0 ≤ (σ 17 k).toInt ∧ (σ 17 k).toInt ≤ 3) := id hI16
  obtain ⟨i15, i16, w17⟩ : (0 ≤ (σ 38 0).toInt ∧ (σ 38 0).toInt ≤ 20) ∧ (0 ≤ (σ 38 1).toInt ∧ (σ 38 1).toInt ≤ 1000) ∧ (∀ k : Nat, k < 20 → 0 ≤ (σ 39 k).toInt ∧ (σ 39 k).toInt ≤ 6) := id hI38
  obtain ⟨i18, w19, w20⟩ : (0 ≤ (σ 47 0).toInt ∧ (σ 47 0).toInt ≤ 12) ∧ (∀ k : Nat, k < 12 → 0 ≤ (σ 48 k).toInt ∧ (σ 48 k).toInt ≤ 3) ∧ (∀ k : Nat, k < 12 → 0 ≤ (σ 49 k).toInt ∧ (σ 49 k).toInt ≤ 1) := id hI47
  have w21 : ∀ k : Nat, k < 6 → 0 ≤ (σ 52 k).toInt ∧ (σ 52 k).toInt ≤ 60 := hI50
  have i22 : 1 ≤ (σ 26 6).toInt ∧ (σ 26 6).toInt ≤ 8000 := hI26
  obtain ⟨i23, i24, i25, w26, w27, w28, w29⟩ : (0 ≤ (σ 55 5).toInt) ∧ ((σ 55 5).toInt ≤ (σ 55 4).toInt) ∧ ((σ 55 4).toInt ≤ 40) ∧ (∀ k : Nat, k < 68 → (-200) ≤ (σ 56 k).toInt ∧ (σ 56 k).toInt ≤ 500) ∧ (∀ k : Nat, k < 40 → 0 ≤ (σ 57 k).toInt ∧ (σ 57 k).toInt ≤ 67) ∧ (∀ k : Nat, k < 40 → (-200) ≤ (σ 58 k).toInt ∧ (σ 58 k).toInt ≤ 500) ∧ (∀ k : Nat, k < 40 → (-200) ≤ (σ 59 k).toInt ∧ (σ 59 k).toInt ≤ 500) := id hI101
  obtain ⟨i30, w31, w32⟩ : (0 ≤ (σ 55 6).toInt ∧ (σ 55 6).toInt ≤ 4) ∧ (∀ k : Nat, k < 4 → 0 ≤ (σ 60 k).toInt ∧ (σ 60 k).toInt ≤ 50) ∧ (∀ k : Nat, k < 4 → 0 ≤ (σ 61 k).toInt ∧ (σ 61 k).toInt ≤ 20) := id hI102
  have i33 : 0 ≤ (σ 55 9).toInt ∧ (σ 55 9).toInt ≤ 3 := hI103
  obtain ⟨i34, i35, i36, w37, w38⟩ : (1 ≤ (σ 55 10).toInt ∧ (σ 55 10).toInt ≤ 8) ∧ (1 ≤ (σ 55 12).toInt ∧ (σ 55 12).toInt ≤ 12) ∧ (0 ≤ (σ 55 13).toInt ∧ (σ 55 13).toInt ≤ 999) ∧ (∀ k : Nat, k < 8 → 0 ≤ (σ 62 k).toInt ∧ (σ 62 k).toInt ≤ 3) ∧ (∀ k : Nat, k < 8 → 0 ≤ (σ 67 k).toInt ∧ (σ 67 k).toInt ≤ 3) := id hI104
  obtain ⟨i39, w40⟩ : (0 ≤ (σ 55 15).toInt ∧ (σ 55 15).toInt ≤ 80) ∧ (∀ k : Nat, k < 2 → (-1) ≤ (σ 65 k).toInt ∧ (σ 65 k).toInt ≤ 80) := id hI105
  obtain ⟨i41, w42, w43, w44⟩ : (0 ≤ (σ 55 32).toInt ∧ (σ 55 32).toInt ≤ 20) ∧ (∀ k : Nat, k < 20 → 0 ≤ (σ 70 k).toInt ∧ (σ 70 k).toInt ≤ 6) ∧ (∀ k : Nat, k < 20 → 0 ≤ (σ 71 k).toInt ∧ (σ 71 k).toInt ≤ 8) ∧ (∀ k : Nat, k < 160 → 0 ≤ (σ 72 k).toInt ∧ (σ 72 k).toInt ≤ 3) := id hI106
  obtain ⟨i45, i46, w47⟩ : (0 ≤ (σ 55 47).toInt ∧ (σ 55 47).toInt ≤ 12) ∧ ((σ 55 47).toInt ≤ (σ 55 12).toInt) ∧ (∀ k : Nat, k < 12 → 0 ≤ (σ 80 k).toInt ∧ (σ 80 k).toInt ≤ 3) := id hI107
  have hs_jOk3 : jOk3 σ := hr0.ok hr1.1
  refine lv_aload_n hx hb dL_law_1301 rfl (lv_at hl 2 rfl) ?_
  refine lv_aload_n hx hb dL_law_1302 rfl (lv_at hl 3 rfl) ?_
  refine lv_iload_n hx hb dL_law_1303 rfl (lv_at hl 0 rfl) ?_
  refine lv_iconst (v := 1) hx hb dL_law_1304 (by decide) ?_
  have g48 := jrg (rfl : x0.toInt = x0.toInt)
  refine lv_iadd hx hb dL_law_1305 ?_
  refine lv_topi (fun x49 ex49 => ?_)
  exact by
   have tx49 : x49.toInt = x0.toInt + 1 := (jadd ex49 rfl jz_1 (by omega) (by omega)).trans (by omega)
   refine va_sld hx hb hX hbl hbA hS (jin tx49 (by omega) (by omega)) dL_law_1306 ?_
   have g50 := jrg (rfl : (xs x49.toNatClampNeg).toInt = (xs x49.toNatClampNeg).toInt)
   refine lv_aload_n hx hb dL_law_1307 rfl (lv_at hl 3 rfl) ?_
   refine lv_iload_n hx hb dL_law_1308 rfl (lv_at hl 0 rfl) ?_
   refine lv_iconst (v := 2) hx hb dL_law_1309 (by decide) ?_
   refine lv_iadd hx hb dL_law_1310 ?_
   refine lv_topi (fun x51 ex51 => ?_)
   have tx51 : x51.toInt = x0.toInt + 2 := (jadd ex51 rfl jz_2 (by omega) (by omega)).trans (by omega)
   exact by
    refine va_sld hx hb hX hbl hbA hS (jin tx51 (by omega) (by omega)) dL_law_1311 ?_
    have g52 := jrg (rfl : (xs x51.toNatClampNeg).toInt = (xs x51.toNatClampNeg).toInt)
    refine jcallV (As := [.int (xs x49.toNatClampNeg), .int (xs x51.toNatClampNeg)]) (rest := []) ⟨hx, hb, hml, hown, hts⟩ hK hP hA hS hZ (c_X11_taken l D cI cL ad zz hJ σ τ (xs x49.toNatClampNeg) ((xs x49.toNatClampNeg).toInt) rfl (xs x51.toNatClampNeg) ((xs x51.toNatClampNeg).toInt) rfl hI38) cw_RL_162 (jc_0 cI cL ad σ τ) rfl ⟨Nat.le_of_ble_eq_true rfl, Nat.le_of_ble_eq_true rfl⟩ rfl rfl rfl hl.1 rfl (Nat.le_of_ble_eq_true rfl) dL_law_1312 ⟨Nat.le_of_ble_eq_true rfl, Nat.le_of_ble_eq_true rfl⟩ (fun r54 σ53 τ53 H locs h53 hP hS => ?_)
    obtain ⟨⟨rfl, rfl⟩, w55, h53⟩ := h53
    refine lv_pop hx hb dL_law_1315 rfl ?_
    refine lv_aload_n hx hb dL_law_1316 rfl (lv_at hl 1 rfl) ?_
    refine lv_aload_n hx hb dL_law_1317 rfl (lv_at hl 3 rfl) ?_
    refine lv_iload_n hx hb dL_law_1318 rfl (lv_at hl 0 rfl) ?_
    refine lv_iconst (v := 1) hx hb dL_law_1319 (by decide) ?_
    refine lv_iadd hx hb dL_law_1320 ?_
    refine jtopr ex49.symm ?_
    exact by
     refine va_sld hx hb hX hbl hbA hS (jin tx49 (by omega) (by omega)) dL_law_1321 ?_
     refine lv_aload_n hx hb dL_law_1322 rfl (lv_at hl 3 rfl) ?_
     refine lv_iload_n hx hb dL_law_1323 rfl (lv_at hl 0 rfl) ?_
     refine lv_iconst (v := 2) hx hb dL_law_1324 (by decide) ?_
     refine lv_iadd hx hb dL_law_1325 ?_
     refine jtopr ex51.symm ?_
     refine va_sld hx hb hX hbl hbA hS (jin tx51 (by omega) (by omega)) dL_law_1326 ?_
     refine jcallV (As := [.int (xs x49.toNatClampNeg), .int (xs x51.toNatClampNeg)]) (rest := []) ⟨hx, hb, hml, hown, hts⟩ hK hP hA hS hZ (c_X12_taken l D cI cL ad zz hJ σ τ (xs x49.toNatClampNeg) ((xs x49.toNatClampNeg).toInt) rfl (xs x51.toNatClampNeg) ((xs x51.toNatClampNeg).toInt) rfl hI106 hI110) cw_RL_165 (jc_55 cI cL ad σ τ) rfl ⟨Nat.le_of_ble_eq_true rfl, Nat.le_of_ble_eq_true rfl⟩ rfl rfl rfl hl.1 rfl (Nat.le_of_ble_eq_true rfl) dL_law_1327 ⟨Nat.le_of_ble_eq_true rfl, Nat.le_of_ble_eq_true rfl⟩ (fun r57 σ56 τ56 H locs h56 hP hS => ?_)
     obtain ⟨⟨rfl, rfl⟩, w58, h56⟩ := h56
     exact by
      refine lv_pop hx hb dL_law_1330 rfl ?_
      refine lv_goto (tgt := 1357) hx hb dL_law_1331 (by decide) ?_
      obtain ⟨x59, ex59⟩ : ∃ y : Int32, y = x0 + 6 := ⟨_, rfl⟩
      have tx59 : x59.toInt = x0.toInt + 6 := (jadd ex59 rfl jz_6 (by omega) (by omega)).trans (by omega)
      refine lv_iinc (v := x59) (lv' := [(3, .int x59), (2, .ref (ad 55)), (1, .ref (ad 0)), (0, .ref b)]) hx hb dL_law_1357 hl (k := 0) rfl (by rw [ex59]; rfl) (by decide) rfl (fun ls hl => ?_)
      refine lv_goto (tgt := 18) hx hb dL_law_1360 (by decide) ?_
      exact by exact ih x59 σ τ _ _ ls (by have h9 := tx59; omega) ⟨hI2, hI9, hI12, hI16, hI18, hI22, hI31, hI38, hI43, hI47, hI50, hI0, hI26, hI101, hI102, hI103, hI104, hI105, hI106, hI107, hI109, hI110, hI111, hI119, hs_jKept, hs_jBook, hs_jNd12, hs_jN67, hs_jBl, hs_jKb, hs_jTR, hs_jKh, hs_jKg, hs_jNz, hs_jqSt, ht0, ht1, ht2, ht3, ht4, ht5, ht6, ht7, ht8, ht9, ht10, ht11, ht12, ht13, (by have h9 := tx59; omega), (by have h9 := tx59; omega), hr0, hr1, hr2, hr3, hr4, hr5, hr6, hr7, hr8, hr9, hr10, hr11, hr12, hr13, hr14⟩ hP hS (lv_sub hl [0, 1, 2, 3] rfl)
set_option maxHeartbeats 4000000 in
set_option maxRecDepth 100000 in
theorem law_case_36 {p : Program} {e : Env} {s : State} {m : MethodId} {below : List Frame} {meth : Method} {c : Code} (l : Launch) {b L : Nat} {xs : Nat → Int32} {D : va_G} {cI cL : ClassId} {ad zz : Nat → Nat} (C0 : lw_At p s m meth c b L xs) (hJ : jD ad) (hA : ∀ q, jA ad q → s.heap.size ≤ q) (hK : jK D cI cL s) (hZ : jZ zz (fun q : Nat => s.heap.size ≤ q) s s.heap) {x0 : Int32} (hx0 : 0 ≤ x0.toInt) (hxL : x0.toInt + 6 ≤ (L : Int)) (hL : L ≤ 384) {σ : Nat → Nat → Int32} {τ : Nat → Nat → Int64} {H : Heap} {locs : List Loc} (hS : va_S (fun q : Nat => s.heap.size ≤ q) s.heap H locs) {ls : Array Slot} (hAll : jAll x0.toInt σ τ) (hP : jH D cI cL ad σ τ H) (hl : lv_has ls 4 [(3, .int x0), (2, .ref (ad 55)), (1, .ref (ad 0)), (0, .ref b)]) (ih : ∀ (x1 : Int32) (σ : Nat → Nat → Int32) (τ : Nat → Nat → Int64) (H : Heap) (locs : List Loc) (ls : Array Slot), x1.toInt = x0.toInt + 6 → jAll x1.toInt σ τ → jH D cI cL ad σ τ H → va_S (fun q : Nat => s.heap.size ≤ q) s.heap H locs → lv_has ls 4 [(3, .int x1), (2, .ref (ad 55)), (1, .ref (ad 0)), (0, .ref b)] → W p l e room_1 s m #[Value.ref b] below meth c H locs 90 348600 (lw_Z below #[Value.ref b] s) (F0 m 18 ls [])) : W p l e room_1 s m #[Value.ref b] below meth c H locs 90 348600 (lw_Z below #[Value.ref b] s) (F0 m 1334 ls []) := by
  obtain ⟨hx, hb, hr, hml, hown, hts0, hX, hbl, hlocks, hgv⟩ := C0
  have hts : ∀ w ∈ wsL_law, w.before #[Value.ref b] s = true := fun w h => hts0 w (wsL_law_in w h)
  have hbA : ¬ (fun q : Nat => s.heap.size ≤ q) b := Nat.not_le.mpr hbl
  have hown : s.vm.findClass RL = some m.cls := hown
  obtain ⟨hI2, hI9, hI12, hI16, hI18, hI22, hI31, hI38, hI43, hI47, hI50, hI0, hI26, hI101, hI102, hI103, hI104, hI105, hI106, hI107, hI109, hI110, hI111, hI119, hs_jKept, hs_jBook, hs_jNd12, hs_jN67, hs_jBl, hs_jKb, hs_jTR, hs_jKh, hs_jKg, hs_jNz, hs_jqSt, ht0, ht1, ht2, ht3, ht4, ht5, ht6, ht7, ht8, ht9, ht10, ht11, ht12, ht13, ht14, ht15, hr0, hr1, hr2, hr3, hr4, hr5, hr6, hr7, hr8, hr9, hr10, hr11, hr12, hr13, hr14⟩ := hAll
  have hL9 : (L : Int) ≤ 384 := by omega
  obtain ⟨i1, i2, i3, i4, i5, w6, w7⟩ : (0 ≤ (σ 2 0).toInt ∧ (σ 2 0).toInt ≤ 4) ∧ (0 ≤ (σ 2 1).toInt ∧ (σ 2 1).toInt ≤ 3) ∧ (0 ≤ (σ 2 2).toInt) ∧ (0 ≤ (σ 2 3).toInt) ∧ ((σ 2 2).toInt + (σ 2 3).toInt ≤ 40) ∧ (∀ k : Nat, k < 40 → 0 ≤ (σ 6 k).toInt ∧ (σ 6 k).toInt ≤ 67) ∧ (∀ k : Nat, k < 4 → 0 ≤ (σ 5 k).toInt ∧ (σ 5 k).toInt ≤ 20) := id hI2
  obtain ⟨i8, w9, w10⟩ : (0 ≤ (σ 9 0).toInt ∧ (σ 9 0).toInt ≤ 80) ∧ (∀ k : Nat, k < 80 → 0 ≤ (σ 10 k).toInt ∧ (σ 10 k).toInt ≤ 255) ∧ (∀ k : Nat, k < 8 → 0 ≤ (σ 11 k).toInt ∧ (σ 11 k).toInt ≤ 3) := id hI9
  obtain ⟨i11, i12, i13, w14⟩ : (1 ≤ (σ 16 0).toInt ∧ (σ 16 0).toInt ≤ 8) ∧ (1 ≤ (σ 16 1).toInt ∧ (σ 16 1).toInt ≤ 12) ∧ (0 ≤ (σ 16 2).toInt ∧ (σ 16 2).toInt ≤ 999) ∧ (∀ k : Nat, k < 8 → 0 ≤ (σ 17 k).toInt ∧ (σ 17 k).toInt ≤ 3) := id hI16
  obtain ⟨i15, i16, w17⟩ : (0 ≤ (σ 38 0).toInt ∧ (σ 38 0).toInt ≤ 20) ∧ (0 ≤ (σ 38 1).toInt ∧ (σ 38 1).toInt ≤ 1000) ∧ (∀ k : Nat, k < 20 → 0 ≤ (σ 39 k).toInt ∧ (σ 39 k).toInt ≤ 6) := id hI38
  obtain ⟨i18, w19, w20⟩ : (0 ≤ (σ 47 0).toInt ∧ (σ 47 0).toInt ≤ 12) ∧ (∀ k : Nat, k < 12 → 0 ≤ (σ 48 k).toInt ∧ (σ 48 k).toInt ≤ 3) ∧ (∀ k : Nat, k < 12 → 0 ≤ (σ 49 k).toInt ∧ (σ 49 k).toInt ≤ 1) := id hI47
  have w21 : ∀ k : Nat, k < 6 → 0 ≤ (σ 52 k).toInt ∧ (σ 52 k).toInt ≤ 60 := hI50
  have i22 : 1 ≤ (σ 26 6).toInt ∧ (σ 26 6).toInt ≤ 8000 := hI26
  obtain ⟨i23, i24, i25, w26, w27, w28, w29⟩ : (0 ≤ (σ 55 5).toInt) ∧ ((σ 55 5).toInt ≤ (σ 55 4).toInt) ∧ ((σ 55 4).toInt ≤ 40) ∧ (∀ k : Nat, k < 68 → (-200) ≤ (σ 56 k).toInt ∧ (σ 56 k).toInt ≤ 500) ∧ (∀ k : Nat, k < 40 → 0 ≤ (σ 57 k).toInt ∧ (σ 57 k).toInt ≤ 67) ∧ (∀ k : Nat, k < 40 → (-200) ≤ (σ 58 k).toInt ∧ (σ 58 k).toInt ≤ 500) ∧ (∀ k : Nat, k < 40 → (-200) ≤ (σ 59 k).toInt ∧ (σ 59 k).toInt ≤ 500) := id hI101
  obtain ⟨i30, w31, w32⟩ : (0 ≤ (σ 55 6).toInt ∧ (σ 55 6).toInt ≤ 4) ∧ (∀ k : Nat, k < 4 → 0 ≤ (σ 60 k).toInt ∧ (σ 60 k).toInt ≤ 50) ∧ (∀ k : Nat, k < 4 → 0 ≤ (σ 61 k).toInt ∧ (σ 61 k).toInt ≤ 20) := id hI102
  have i33 : 0 ≤ (σ 55 9).toInt ∧ (σ 55 9).toInt ≤ 3 := hI103
  obtain ⟨i34, i35, i36, w37, w38⟩ : (1 ≤ (σ 55 10).toInt ∧ (σ 55 10).toInt ≤ 8) ∧ (1 ≤ (σ 55 12).toInt ∧ (σ 55 12).toInt ≤ 12) ∧ (0 ≤ (σ 55 13).toInt ∧ (σ 55 13).toInt ≤ 999) ∧ (∀ k : Nat, k < 8 → 0 ≤ (σ 62 k).toInt ∧ (σ 62 k).toInt ≤ 3) ∧ (∀ k : Nat, k < 8 → 0 ≤ (σ 67 k).toInt ∧ (σ 67 k).toInt ≤ 3) := id hI104
  obtain ⟨i39, w40⟩ : (0 ≤ (σ 55 15).toInt ∧ (σ 55 15).toInt ≤ 80) ∧ (∀ k : Nat, k < 2 → (-1) ≤ (σ 65 k).toInt ∧ (σ 65 k).toInt ≤ 80) := id hI105
  obtain ⟨i41, w42, w43, w44⟩ : (0 ≤ (σ 55 32).toInt ∧ (σ 55 32).toInt ≤ 20) ∧ (∀ k : Nat, k < 20 → 0 ≤ (σ 70 k).toInt ∧ (σ 70 k).toInt ≤ 6) ∧ (∀ k : Nat, k < 20 → 0 ≤ (σ 71 k).toInt ∧ (σ 71 k).toInt ≤ 8) ∧ (∀ k : Nat, k < 160 → 0 ≤ (σ 72 k).toInt ∧ (σ 72 k).toInt ≤ 3) := id hI106
  obtain ⟨i45, i46, w47⟩ : (0 ≤ (σ 55 47).toInt ∧ (σ 55 47).toInt ≤ 12) ∧ ((σ 55 47).toInt ≤ (σ 55 12).toInt) ∧ (∀ k : Nat, k < 12 → 0 ≤ (σ 80 k).toInt ∧ (σ 80 k).toInt ≤ 3) := id hI107
  have hs_jOk3 : jOk3 σ := hr0.ok hr1.1
  refine lv_aload_n hx hb dL_law_1334 rfl (lv_at hl 2 rfl) ?_
  refine lv_aload_n hx hb dL_law_1335 rfl (lv_at hl 3 rfl) ?_
  refine lv_iload_n hx hb dL_law_1336 rfl (lv_at hl 0 rfl) ?_
  refine lv_iconst (v := 1) hx hb dL_law_1337 (by decide) ?_
  have g48 := jrg (rfl : x0.toInt = x0.toInt)
  refine lv_iadd hx hb dL_law_1338 ?_
  refine lv_topi (fun x49 ex49 => ?_)
  exact by
   have tx49 : x49.toInt = x0.toInt + 1 := (jadd ex49 rfl jz_1 (by omega) (by omega)).trans (by omega)
   refine va_sld hx hb hX hbl hbA hS (jin tx49 (by omega) (by omega)) dL_law_1339 ?_
   have g50 := jrg (rfl : (xs x49.toNatClampNeg).toInt = (xs x49.toNatClampNeg).toInt)
   refine jcallV (As := [.int (xs x49.toNatClampNeg)]) (rest := []) ⟨hx, hb, hml, hown, hts⟩ hK hP hA hS hZ (c_X11_count l D cI cL ad zz hJ σ τ (xs x49.toNatClampNeg) ((xs x49.toNatClampNeg).toInt) rfl hI2 hI9 hI38 hI47) cw_RL_166 (jc_0 cI cL ad σ τ) rfl ⟨Nat.le_of_ble_eq_true rfl, Nat.le_of_ble_eq_true rfl⟩ rfl rfl rfl hl.1 rfl (Nat.le_of_ble_eq_true rfl) dL_law_1340 ⟨Nat.le_of_ble_eq_true rfl, Nat.le_of_ble_eq_true rfl⟩ (fun r52 σ51 τ51 H locs h51 hP hS => ?_)
   obtain ⟨⟨rfl, rfl⟩, h51⟩ := h51
   rcases h51 with h53 | h54 | h55 | h56 | h57 | h58 | h59
   · obtain ⟨q62, k60, k61⟩ := h53
     refine lv_pop hx hb dL_law_1343 rfl ?_
     refine lv_aload_n hx hb dL_law_1344 rfl (lv_at hl 1 rfl) ?_
     exact by
      refine lv_aload_n hx hb dL_law_1345 rfl (lv_at hl 3 rfl) ?_
      refine lv_iload_n hx hb dL_law_1346 rfl (lv_at hl 0 rfl) ?_
      refine lv_iconst (v := 1) hx hb dL_law_1347 (by decide) ?_
      refine lv_iadd hx hb dL_law_1348 ?_
      refine jtopr ex49.symm ?_
      refine va_sld hx hb hX hbl hbA hS (jin tx49 (by omega) (by omega)) dL_law_1349 ?_
      refine jcallV (As := [.int (xs x49.toNatClampNeg)]) (rest := []) ⟨hx, hb, hml, hown, hts⟩ hK hP hA hS hZ (c_X12_count l D cI cL ad zz hJ σ τ (xs x49.toNatClampNeg) ((xs x49.toNatClampNeg).toInt) rfl hI101 hI102 hI105 hI106 hI107) cw_RL_169 (jc_55 cI cL ad σ τ) rfl ⟨Nat.le_of_ble_eq_true rfl, Nat.le_of_ble_eq_true rfl⟩ rfl rfl rfl hl.1 rfl (Nat.le_of_ble_eq_true rfl) dL_law_1350 ⟨Nat.le_of_ble_eq_true rfl, Nat.le_of_ble_eq_true rfl⟩ (fun r64 σ63 τ63 H locs h63 hP hS => ?_)
      obtain ⟨⟨rfl, rfl⟩, h63⟩ := h63
      rcases h63 with h65 | h66 | h67 | h68 | h69 | h70 | h71
      · exact by
         obtain ⟨q74, k72, k73⟩ := h65
         refine lv_pop hx hb dL_law_1353 rfl ?_
         refine lv_goto (tgt := 1357) hx hb dL_law_1354 (by decide) ?_
         obtain ⟨x75, ex75⟩ : ∃ y : Int32, y = x0 + 6 := ⟨_, rfl⟩
         have tx75 : x75.toInt = x0.toInt + 6 := (jadd ex75 rfl jz_6 (by omega) (by omega)).trans (by omega)
         refine lv_iinc (v := x75) (lv' := [(3, .int x75), (2, .ref (ad 55)), (1, .ref (ad 0)), (0, .ref b)]) hx hb dL_law_1357 hl (k := 0) rfl (by rw [ex75]; rfl) (by decide) rfl (fun ls hl => ?_)
         refine lv_goto (tgt := 18) hx hb dL_law_1360 (by decide) ?_
         exact by exact ih x75 σ τ _ _ ls (by have h9 := tx75; omega) ⟨hI2, hI9, hI12, hI16, hI18, hI22, hI31, hI38, hI43, hI47, hI50, hI0, hI26, hI101, hI102, hI103, hI104, hI105, hI106, hI107, hI109, hI110, hI111, hI119, hs_jKept, hs_jBook, hs_jNd12, hs_jN67, hs_jBl, hs_jKb, hs_jTR, hs_jKh, hs_jKg, hs_jNz, hs_jqSt, ht0, ht1, ht2, ht3, ht4, ht5, ht6, ht7, ht8, ht9, ht10, ht11, ht12, ht13, (by have h9 := tx75; omega), (by have h9 := tx75; omega), hr0, hr1, hr2, hr3, hr4, hr5, hr6, hr7, hr8, hr9, hr10, hr11, hr12, hr13, hr14⟩ hP hS (lv_sub hl [0, 1, 2, 3] rfl)
      · obtain ⟨q78, k76, k77⟩ := h66
        exact absurd (by omega : False) id
      · exact by
         obtain ⟨q81, k79, k80⟩ := h67
         exact absurd (by omega : False) id
      · obtain ⟨q84, k82, k83⟩ := h68
        exact absurd (by omega : False) id
      · obtain ⟨q87, k85, k86⟩ := h69
        exact absurd (by omega : False) id
      · obtain ⟨q90, k88, k89⟩ := h70
        exact absurd (by omega : False) id
      · obtain ⟨q92, k91⟩ := h71
        exact absurd (by omega : False) id
   · obtain ⟨q95, k93, k94⟩ := h54
     refine lv_pop hx hb dL_law_1343 rfl ?_
     refine lv_aload_n hx hb dL_law_1344 rfl (lv_at hl 1 rfl) ?_
     refine lv_aload_n hx hb dL_law_1345 rfl (lv_at hl 3 rfl) ?_
     refine lv_iload_n hx hb dL_law_1346 rfl (lv_at hl 0 rfl) ?_
     refine lv_iconst (v := 1) hx hb dL_law_1347 (by decide) ?_
     refine lv_iadd hx hb dL_law_1348 ?_
     refine jtopr ex49.symm ?_
     exact by
      refine va_sld hx hb hX hbl hbA hS (jin tx49 (by omega) (by omega)) dL_law_1349 ?_
      refine jcallV (As := [.int (xs x49.toNatClampNeg)]) (rest := []) ⟨hx, hb, hml, hown, hts⟩ hK hP hA hS hZ (c_X12_count l D cI cL ad zz hJ σ τ (xs x49.toNatClampNeg) ((xs x49.toNatClampNeg).toInt) rfl hI101 hI102 hI105 hI106 hI107) cw_RL_169 (jc_55 cI cL ad σ τ) rfl ⟨Nat.le_of_ble_eq_true rfl, Nat.le_of_ble_eq_true rfl⟩ rfl rfl rfl hl.1 rfl (Nat.le_of_ble_eq_true rfl) dL_law_1350 ⟨Nat.le_of_ble_eq_true rfl, Nat.le_of_ble_eq_true rfl⟩ (fun r97 σ96 τ96 H locs h96 hP hS => ?_)
      obtain ⟨⟨rfl, rfl⟩, h96⟩ := h96
      rcases h96 with h98 | h99 | h100 | h101 | h102 | h103 | h104
      · obtain ⟨q107, k105, k106⟩ := h98
        exact absurd (by omega : False) id
      · obtain ⟨q110, k108, k109⟩ := h99
        refine lv_pop hx hb dL_law_1353 rfl ?_
        refine lv_goto (tgt := 1357) hx hb dL_law_1354 (by decide) ?_
        obtain ⟨x111, ex111⟩ : ∃ y : Int32, y = x0 + 6 := ⟨_, rfl⟩
        exact by
         have tx111 : x111.toInt = x0.toInt + 6 := (jadd ex111 rfl jz_6 (by omega) (by omega)).trans (by omega)
         refine lv_iinc (v := x111) (lv' := [(3, .int x111), (2, .ref (ad 55)), (1, .ref (ad 0)), (0, .ref b)]) hx hb dL_law_1357 hl (k := 0) rfl (by rw [ex111]; rfl) (by decide) rfl (fun ls hl => ?_)
         refine lv_goto (tgt := 18) hx hb dL_law_1360 (by decide) ?_
         exact by exact ih x111 σ τ _ _ ls (by have h9 := tx111; omega) ⟨hI2, hI9, hI12, hI16, hI18, hI22, hI31, hI38, hI43, hI47, hI50, hI0, hI26, hI101, hI102, hI103, hI104, hI105, hI106, hI107, hI109, hI110, hI111, hI119, hs_jKept, hs_jBook, hs_jNd12, hs_jN67, hs_jBl, hs_jKb, hs_jTR, hs_jKh, hs_jKg, hs_jNz, hs_jqSt, ht0, ht1, ht2, ht3, ht4, ht5, ht6, ht7, ht8, ht9, ht10, ht11, ht12, ht13, (by have h9 := tx111; omega), (by have h9 := tx111; omega), hr0, hr1, hr2, hr3, hr4, hr5, hr6, hr7, hr8, hr9, hr10, hr11, hr12, hr13, hr14⟩ hP hS (lv_sub hl [0, 1, 2, 3] rfl)
      · obtain ⟨q114, k112, k113⟩ := h100
        exact absurd (by omega : False) id
      · obtain ⟨q117, k115, k116⟩ := h101
        exact absurd (by omega : False) id
      · obtain ⟨q120, k118, k119⟩ := h102
        exact absurd (by omega : False) id
      · exact by
         obtain ⟨q123, k121, k122⟩ := h103
         exact absurd (by omega : False) id
      · obtain ⟨q125, k124⟩ := h104
        exact absurd (by omega : False) id
   · obtain ⟨q128, k126, k127⟩ := h55
     refine lv_pop hx hb dL_law_1343 rfl ?_
     refine lv_aload_n hx hb dL_law_1344 rfl (lv_at hl 1 rfl) ?_
     refine lv_aload_n hx hb dL_law_1345 rfl (lv_at hl 3 rfl) ?_
     refine lv_iload_n hx hb dL_law_1346 rfl (lv_at hl 0 rfl) ?_
     refine lv_iconst (v := 1) hx hb dL_law_1347 (by decide) ?_
     refine lv_iadd hx hb dL_law_1348 ?_
     refine jtopr ex49.symm ?_
     exact by
      refine va_sld hx hb hX hbl hbA hS (jin tx49 (by omega) (by omega)) dL_law_1349 ?_
      refine jcallV (As := [.int (xs x49.toNatClampNeg)]) (rest := []) ⟨hx, hb, hml, hown, hts⟩ hK hP hA hS hZ (c_X12_count l D cI cL ad zz hJ σ τ (xs x49.toNatClampNeg) ((xs x49.toNatClampNeg).toInt) rfl hI101 hI102 hI105 hI106 hI107) cw_RL_169 (jc_55 cI cL ad σ τ) rfl ⟨Nat.le_of_ble_eq_true rfl, Nat.le_of_ble_eq_true rfl⟩ rfl rfl rfl hl.1 rfl (Nat.le_of_ble_eq_true rfl) dL_law_1350 ⟨Nat.le_of_ble_eq_true rfl, Nat.le_of_ble_eq_true rfl⟩ (fun r130 σ129 τ129 H locs h129 hP hS => ?_)
      obtain ⟨⟨rfl, rfl⟩, h129⟩ := h129
      rcases h129 with h131 | h132 | h133 | h134 | h135 | h136 | h137
      · obtain ⟨q140, k138, k139⟩ := h131
        exact absurd (by omega : False) id
      · obtain ⟨q143, k141, k142⟩ := h132
        exact absurd (by omega : False) id
      · obtain ⟨q146, k144, k145⟩ := h133
        refine lv_pop hx hb dL_law_1353 rfl ?_
        refine lv_goto (tgt := 1357) hx hb dL_law_1354 (by decide) ?_
        obtain ⟨x147, ex147⟩ : ∃ y : Int32, y = x0 + 6 := ⟨_, rfl⟩
        exact by
         have tx147 : x147.toInt = x0.toInt + 6 := (jadd ex147 rfl jz_6 (by omega) (by omega)).trans (by omega)
         refine lv_iinc (v := x147) (lv' := [(3, .int x147), (2, .ref (ad 55)), (1, .ref (ad 0)), (0, .ref b)]) hx hb dL_law_1357 hl (k := 0) rfl (by rw [ex147]; rfl) (by decide) rfl (fun ls hl => ?_)
         refine lv_goto (tgt := 18) hx hb dL_law_1360 (by decide) ?_
         exact by exact ih x147 σ τ _ _ ls (by have h9 := tx147; omega) ⟨hI2, hI9, hI12, hI16, hI18, hI22, hI31, hI38, hI43, hI47, hI50, hI0, hI26, hI101, hI102, hI103, hI104, hI105, hI106, hI107, hI109, hI110, hI111, hI119, hs_jKept, hs_jBook, hs_jNd12, hs_jN67, hs_jBl, hs_jKb, hs_jTR, hs_jKh, hs_jKg, hs_jNz, hs_jqSt, ht0, ht1, ht2, ht3, ht4, ht5, ht6, ht7, ht8, ht9, ht10, ht11, ht12, ht13, (by have h9 := tx147; omega), (by have h9 := tx147; omega), hr0, hr1, hr2, hr3, hr4, hr5, hr6, hr7, hr8, hr9, hr10, hr11, hr12, hr13, hr14⟩ hP hS (lv_sub hl [0, 1, 2, 3] rfl)
      · obtain ⟨q150, k148, k149⟩ := h134
        exact absurd (by omega : False) id
      · obtain ⟨q153, k151, k152⟩ := h135
        exact absurd (by omega : False) id
      · obtain ⟨q156, k154, k155⟩ := h136
        exact absurd (by omega : False) id
      · exact by
         obtain ⟨q158, k157⟩ := h137
         exact absurd (by omega : False) id
   · obtain ⟨q161, k159, k160⟩ := h56
     refine lv_pop hx hb dL_law_1343 rfl ?_
     refine lv_aload_n hx hb dL_law_1344 rfl (lv_at hl 1 rfl) ?_
     refine lv_aload_n hx hb dL_law_1345 rfl (lv_at hl 3 rfl) ?_
     refine lv_iload_n hx hb dL_law_1346 rfl (lv_at hl 0 rfl) ?_
     refine lv_iconst (v := 1) hx hb dL_law_1347 (by decide) ?_
     refine lv_iadd hx hb dL_law_1348 ?_
     refine jtopr ex49.symm ?_
     exact by
      refine va_sld hx hb hX hbl hbA hS (jin tx49 (by omega) (by omega)) dL_law_1349 ?_
      refine jcallV (As := [.int (xs x49.toNatClampNeg)]) (rest := []) ⟨hx, hb, hml, hown, hts⟩ hK hP hA hS hZ (c_X12_count l D cI cL ad zz hJ σ τ (xs x49.toNatClampNeg) ((xs x49.toNatClampNeg).toInt) rfl hI101 hI102 hI105 hI106 hI107) cw_RL_169 (jc_55 cI cL ad σ τ) rfl ⟨Nat.le_of_ble_eq_true rfl, Nat.le_of_ble_eq_true rfl⟩ rfl rfl rfl hl.1 rfl (Nat.le_of_ble_eq_true rfl) dL_law_1350 ⟨Nat.le_of_ble_eq_true rfl, Nat.le_of_ble_eq_true rfl⟩ (fun r163 σ162 τ162 H locs h162 hP hS => ?_)
      obtain ⟨⟨rfl, rfl⟩, h162⟩ := h162
      rcases h162 with h164 | h165 | h166 | h167 | h168 | h169 | h170
      · obtain ⟨q173, k171, k172⟩ := h164
        exact absurd (by omega : False) id
      · obtain ⟨q176, k174, k175⟩ := h165
        exact absurd (by omega : False) id
      · obtain ⟨q179, k177, k178⟩ := h166
        exact absurd (by omega : False) id
      · obtain ⟨q182, k180, k181⟩ := h167
        refine lv_pop hx hb dL_law_1353 rfl ?_
        refine lv_goto (tgt := 1357) hx hb dL_law_1354 (by decide) ?_
        obtain ⟨x183, ex183⟩ : ∃ y : Int32, y = x0 + 6 := ⟨_, rfl⟩
        exact by
         have tx183 : x183.toInt = x0.toInt + 6 := (jadd ex183 rfl jz_6 (by omega) (by omega)).trans (by omega)
         refine lv_iinc (v := x183) (lv' := [(3, .int x183), (2, .ref (ad 55)), (1, .ref (ad 0)), (0, .ref b)]) hx hb dL_law_1357 hl (k := 0) rfl (by rw [ex183]; rfl) (by decide) rfl (fun ls hl => ?_)
         refine lv_goto (tgt := 18) hx hb dL_law_1360 (by decide) ?_
         exact by exact ih x183 σ τ _ _ ls (by have h9 := tx183; omega) ⟨hI2, hI9, hI12, hI16, hI18, hI22, hI31, hI38, hI43, hI47, hI50, hI0, hI26, hI101, hI102, hI103, hI104, hI105, hI106, hI107, hI109, hI110, hI111, hI119, hs_jKept, hs_jBook, hs_jNd12, hs_jN67, hs_jBl, hs_jKb, hs_jTR, hs_jKh, hs_jKg, hs_jNz, hs_jqSt, ht0, ht1, ht2, ht3, ht4, ht5, ht6, ht7, ht8, ht9, ht10, ht11, ht12, ht13, (by have h9 := tx183; omega), (by have h9 := tx183; omega), hr0, hr1, hr2, hr3, hr4, hr5, hr6, hr7, hr8, hr9, hr10, hr11, hr12, hr13, hr14⟩ hP hS (lv_sub hl [0, 1, 2, 3] rfl)
      · obtain ⟨q186, k184, k185⟩ := h168
        exact absurd (by omega : False) id
      · obtain ⟨q189, k187, k188⟩ := h169
        exact absurd (by omega : False) id
      · obtain ⟨q191, k190⟩ := h170
        exact absurd (by omega : False) id
   · exact by
      obtain ⟨q194, k192, k193⟩ := h57
      refine lv_pop hx hb dL_law_1343 rfl ?_
      refine lv_aload_n hx hb dL_law_1344 rfl (lv_at hl 1 rfl) ?_
      refine lv_aload_n hx hb dL_law_1345 rfl (lv_at hl 3 rfl) ?_
      refine lv_iload_n hx hb dL_law_1346 rfl (lv_at hl 0 rfl) ?_
      refine lv_iconst (v := 1) hx hb dL_law_1347 (by decide) ?_
      refine lv_iadd hx hb dL_law_1348 ?_
      refine jtopr ex49.symm ?_
      refine va_sld hx hb hX hbl hbA hS (jin tx49 (by omega) (by omega)) dL_law_1349 ?_
      exact by
       refine jcallV (As := [.int (xs x49.toNatClampNeg)]) (rest := []) ⟨hx, hb, hml, hown, hts⟩ hK hP hA hS hZ (c_X12_count l D cI cL ad zz hJ σ τ (xs x49.toNatClampNeg) ((xs x49.toNatClampNeg).toInt) rfl hI101 hI102 hI105 hI106 hI107) cw_RL_169 (jc_55 cI cL ad σ τ) rfl ⟨Nat.le_of_ble_eq_true rfl, Nat.le_of_ble_eq_true rfl⟩ rfl rfl rfl hl.1 rfl (Nat.le_of_ble_eq_true rfl) dL_law_1350 ⟨Nat.le_of_ble_eq_true rfl, Nat.le_of_ble_eq_true rfl⟩ (fun r196 σ195 τ195 H locs h195 hP hS => ?_)
       obtain ⟨⟨rfl, rfl⟩, h195⟩ := h195
       rcases h195 with h197 | h198 | h199 | h200 | h201 | h202 | h203
       · obtain ⟨q206, k204, k205⟩ := h197
         exact absurd (by omega : False) id
       · obtain ⟨q209, k207, k208⟩ := h198
         exact absurd (by omega : False) id
       · obtain ⟨q212, k210, k211⟩ := h199
         exact absurd (by omega : False) id
       · obtain ⟨q215, k213, k214⟩ := h200
         exact absurd (by omega : False) id
       · obtain ⟨q218, k216, k217⟩ := h201
         refine lv_pop hx hb dL_law_1353 rfl ?_
         refine lv_goto (tgt := 1357) hx hb dL_law_1354 (by decide) ?_
         obtain ⟨x219, ex219⟩ : ∃ y : Int32, y = x0 + 6 := ⟨_, rfl⟩
         exact by
          have tx219 : x219.toInt = x0.toInt + 6 := (jadd ex219 rfl jz_6 (by omega) (by omega)).trans (by omega)
          refine lv_iinc (v := x219) (lv' := [(3, .int x219), (2, .ref (ad 55)), (1, .ref (ad 0)), (0, .ref b)]) hx hb dL_law_1357 hl (k := 0) rfl (by rw [ex219]; rfl) (by decide) rfl (fun ls hl => ?_)
          refine lv_goto (tgt := 18) hx hb dL_law_1360 (by decide) ?_
          exact by exact ih x219 σ τ _ _ ls (by have h9 := tx219; omega) ⟨hI2, hI9, hI12, hI16, hI18, hI22, hI31, hI38, hI43, hI47, hI50, hI0, hI26, hI101, hI102, hI103, hI104, hI105, hI106, hI107, hI109, hI110, hI111, hI119, hs_jKept, hs_jBook, hs_jNd12, hs_jN67, hs_jBl, hs_jKb, hs_jTR, hs_jKh, hs_jKg, hs_jNz, hs_jqSt, ht0, ht1, ht2, ht3, ht4, ht5, ht6, ht7, ht8, ht9, ht10, ht11, ht12, ht13, (by have h9 := tx219; omega), (by have h9 := tx219; omega), hr0, hr1, hr2, hr3, hr4, hr5, hr6, hr7, hr8, hr9, hr10, hr11, hr12, hr13, hr14⟩ hP hS (lv_sub hl [0, 1, 2, 3] rfl)
       · obtain ⟨q222, k220, k221⟩ := h202
         exact absurd (by omega : False) id
       · obtain ⟨q224, k223⟩ := h203
         exact absurd (by omega : False) id
   · obtain ⟨q227, k225, k226⟩ := h58
     exact by
      refine lv_pop hx hb dL_law_1343 rfl ?_
      refine lv_aload_n hx hb dL_law_1344 rfl (lv_at hl 1 rfl) ?_
      refine lv_aload_n hx hb dL_law_1345 rfl (lv_at hl 3 rfl) ?_
      refine lv_iload_n hx hb dL_law_1346 rfl (lv_at hl 0 rfl) ?_
      refine lv_iconst (v := 1) hx hb dL_law_1347 (by decide) ?_
      refine lv_iadd hx hb dL_law_1348 ?_
      refine jtopr ex49.symm ?_
      refine va_sld hx hb hX hbl hbA hS (jin tx49 (by omega) (by omega)) dL_law_1349 ?_
      refine jcallV (As := [.int (xs x49.toNatClampNeg)]) (rest := []) ⟨hx, hb, hml, hown, hts⟩ hK hP hA hS hZ (c_X12_count l D cI cL ad zz hJ σ τ (xs x49.toNatClampNeg) ((xs x49.toNatClampNeg).toInt) rfl hI101 hI102 hI105 hI106 hI107) cw_RL_169 (jc_55 cI cL ad σ τ) rfl ⟨Nat.le_of_ble_eq_true rfl, Nat.le_of_ble_eq_true rfl⟩ rfl rfl rfl hl.1 rfl (Nat.le_of_ble_eq_true rfl) dL_law_1350 ⟨Nat.le_of_ble_eq_true rfl, Nat.le_of_ble_eq_true rfl⟩ (fun r229 σ228 τ228 H locs h228 hP hS => ?_)
      exact by
       obtain ⟨⟨rfl, rfl⟩, h228⟩ := h228
       rcases h228 with h230 | h231 | h232 | h233 | h234 | h235 | h236
       · obtain ⟨q239, k237, k238⟩ := h230
         exact absurd (by omega : False) id
       · obtain ⟨q242, k240, k241⟩ := h231
         exact absurd (by omega : False) id
       · obtain ⟨q245, k243, k244⟩ := h232
         exact absurd (by omega : False) id
       · obtain ⟨q248, k246, k247⟩ := h233
         exact absurd (by omega : False) id
       · obtain ⟨q251, k249, k250⟩ := h234
         exact absurd (by omega : False) id
       · obtain ⟨q254, k252, k253⟩ := h235
         refine lv_pop hx hb dL_law_1353 rfl ?_
         refine lv_goto (tgt := 1357) hx hb dL_law_1354 (by decide) ?_
         obtain ⟨x255, ex255⟩ : ∃ y : Int32, y = x0 + 6 := ⟨_, rfl⟩
         exact by
          have tx255 : x255.toInt = x0.toInt + 6 := (jadd ex255 rfl jz_6 (by omega) (by omega)).trans (by omega)
          refine lv_iinc (v := x255) (lv' := [(3, .int x255), (2, .ref (ad 55)), (1, .ref (ad 0)), (0, .ref b)]) hx hb dL_law_1357 hl (k := 0) rfl (by rw [ex255]; rfl) (by decide) rfl (fun ls hl => ?_)
          refine lv_goto (tgt := 18) hx hb dL_law_1360 (by decide) ?_
          exact by exact ih x255 σ τ _ _ ls (by have h9 := tx255; omega) ⟨hI2, hI9, hI12, hI16, hI18, hI22, hI31, hI38, hI43, hI47, hI50, hI0, hI26, hI101, hI102, hI103, hI104, hI105, hI106, hI107, hI109, hI110, hI111, hI119, hs_jKept, hs_jBook, hs_jNd12, hs_jN67, hs_jBl, hs_jKb, hs_jTR, hs_jKh, hs_jKg, hs_jNz, hs_jqSt, ht0, ht1, ht2, ht3, ht4, ht5, ht6, ht7, ht8, ht9, ht10, ht11, ht12, ht13, (by have h9 := tx255; omega), (by have h9 := tx255; omega), hr0, hr1, hr2, hr3, hr4, hr5, hr6, hr7, hr8, hr9, hr10, hr11, hr12, hr13, hr14⟩ hP hS (lv_sub hl [0, 1, 2, 3] rfl)
       · obtain ⟨q257, k256⟩ := h236
         exact absurd (by omega : False) id
   · obtain ⟨q259, k258⟩ := h59
     have q259 := q259.symm
     subst q259
     exact by
      refine lv_pop hx hb dL_law_1343 rfl ?_
      refine lv_aload_n hx hb dL_law_1344 rfl (lv_at hl 1 rfl) ?_
      refine lv_aload_n hx hb dL_law_1345 rfl (lv_at hl 3 rfl) ?_
      refine lv_iload_n hx hb dL_law_1346 rfl (lv_at hl 0 rfl) ?_
      refine lv_iconst (v := 1) hx hb dL_law_1347 (by decide) ?_
      refine lv_iadd hx hb dL_law_1348 ?_
      refine jtopr ex49.symm ?_
      refine va_sld hx hb hX hbl hbA hS (jin tx49 (by omega) (by omega)) dL_law_1349 ?_
      refine jcallV (As := [.int (xs x49.toNatClampNeg)]) (rest := []) ⟨hx, hb, hml, hown, hts⟩ hK hP hA hS hZ (c_X12_count l D cI cL ad zz hJ σ τ (xs x49.toNatClampNeg) ((xs x49.toNatClampNeg).toInt) rfl hI101 hI102 hI105 hI106 hI107) cw_RL_169 (jc_55 cI cL ad σ τ) rfl ⟨Nat.le_of_ble_eq_true rfl, Nat.le_of_ble_eq_true rfl⟩ rfl rfl rfl hl.1 rfl (Nat.le_of_ble_eq_true rfl) dL_law_1350 ⟨Nat.le_of_ble_eq_true rfl, Nat.le_of_ble_eq_true rfl⟩ (fun r261 σ260 τ260 H locs h260 hP hS => ?_)
      exact by
       obtain ⟨⟨rfl, rfl⟩, h260⟩ := h260
       rcases h260 with h262 | h263 | h264 | h265 | h266 | h267 | h268
       · obtain ⟨q271, k269, k270⟩ := h262
         exact absurd (by omega : False) id
       · obtain ⟨q274, k272, k273⟩ := h263
         exact absurd (by omega : False) id
       · obtain ⟨q277, k275, k276⟩ := h264
         exact absurd (by omega : False) id
       · obtain ⟨q280, k278, k279⟩ := h265
         exact absurd (by omega : False) id
       · obtain ⟨q283, k281, k282⟩ := h266
         exact absurd (by omega : False) id
       · obtain ⟨q286, k284, k285⟩ := h267
         exact absurd (by omega : False) id
       · obtain ⟨q288, k287⟩ := h268
         have q288 := q288.symm
         subst q288
         refine lv_pop hx hb dL_law_1353 rfl ?_
         refine lv_goto (tgt := 1357) hx hb dL_law_1354 (by decide) ?_
         obtain ⟨x289, ex289⟩ : ∃ y : Int32, y = x0 + 6 := ⟨_, rfl⟩
         exact by
          have tx289 : x289.toInt = x0.toInt + 6 := (jadd ex289 rfl jz_6 (by omega) (by omega)).trans (by omega)
          refine lv_iinc (v := x289) (lv' := [(3, .int x289), (2, .ref (ad 55)), (1, .ref (ad 0)), (0, .ref b)]) hx hb dL_law_1357 hl (k := 0) rfl (by rw [ex289]; rfl) (by decide) rfl (fun ls hl => ?_)
          refine lv_goto (tgt := 18) hx hb dL_law_1360 (by decide) ?_
          exact by exact ih x289 σ τ _ _ ls (by have h9 := tx289; omega) ⟨hI2, hI9, hI12, hI16, hI18, hI22, hI31, hI38, hI43, hI47, hI50, hI0, hI26, hI101, hI102, hI103, hI104, hI105, hI106, hI107, hI109, hI110, hI111, hI119, hs_jKept, hs_jBook, hs_jNd12, hs_jN67, hs_jBl, hs_jKb, hs_jTR, hs_jKh, hs_jKg, hs_jNz, hs_jqSt, ht0, ht1, ht2, ht3, ht4, ht5, ht6, ht7, ht8, ht9, ht10, ht11, ht12, ht13, (by have h9 := tx289; omega), (by have h9 := tx289; omega), hr0, hr1, hr2, hr3, hr4, hr5, hr6, hr7, hr8, hr9, hr10, hr11, hr12, hr13, hr14⟩ hP hS (lv_sub hl [0, 1, 2, 3] rfl)
set_option maxHeartbeats 4000000 in
set_option maxRecDepth 100000 in
theorem law_case_37 {p : Program} {e : Env} {s : State} {m : MethodId} {below : List Frame} {meth : Method} {c : Code} (l : Launch) {b L : Nat} {xs : Nat → Int32} {D : va_G} {cI cL : ClassId} {ad zz : Nat → Nat} (C0 : lw_At p s m meth c b L xs) (hJ : jD ad) (hA : ∀ q, jA ad q → s.heap.size ≤ q) (hK : jK D cI cL s) (hZ : jZ zz (fun q : Nat => s.heap.size ≤ q) s s.heap) {x0 : Int32} (hx0 : 0 ≤ x0.toInt) (hxL : x0.toInt + 6 ≤ (L : Int)) (hL : L ≤ 384) {σ : Nat → Nat → Int32} {τ : Nat → Nat → Int64} {H : Heap} {locs : List Loc} (hS : va_S (fun q : Nat => s.heap.size ≤ q) s.heap H locs) {ls : Array Slot} (hAll : jAll x0.toInt σ τ) (hP : jH D cI cL ad σ τ H) (hl : lv_has ls 4 [(3, .int x0), (2, .ref (ad 55)), (1, .ref (ad 0)), (0, .ref b)]) (ih : ∀ (x1 : Int32) (σ : Nat → Nat → Int32) (τ : Nat → Nat → Int64) (H : Heap) (locs : List Loc) (ls : Array Slot), x1.toInt = x0.toInt + 6 → jAll x1.toInt σ τ → jH D cI cL ad σ τ H → va_S (fun q : Nat => s.heap.size ≤ q) s.heap H locs → lv_has ls 4 [(3, .int x1), (2, .ref (ad 55)), (1, .ref (ad 0)), (0, .ref b)] → W p l e room_1 s m #[Value.ref b] below meth c H locs 90 348600 (lw_Z below #[Value.ref b] s) (F0 m 18 ls [])) : W p l e room_1 s m #[Value.ref b] below meth c H locs 90 348600 (lw_Z below #[Value.ref b] s) (F0 m 1357 ls []) := by
  obtain ⟨hx, hb, hr, hml, hown, hts0, hX, hbl, hlocks, hgv⟩ := C0
  have hts : ∀ w ∈ wsL_law, w.before #[Value.ref b] s = true := fun w h => hts0 w (wsL_law_in w h)
  have hbA : ¬ (fun q : Nat => s.heap.size ≤ q) b := Nat.not_le.mpr hbl
  have hown : s.vm.findClass RL = some m.cls := hown
  obtain ⟨hI2, hI9, hI12, hI16, hI18, hI22, hI31, hI38, hI43, hI47, hI50, hI0, hI26, hI101, hI102, hI103, hI104, hI105, hI106, hI107, hI109, hI110, hI111, hI119, hs_jKept, hs_jBook, hs_jNd12, hs_jN67, hs_jBl, hs_jKb, hs_jTR, hs_jKh, hs_jKg, hs_jNz, hs_jqSt, ht0, ht1, ht2, ht3, ht4, ht5, ht6, ht7, ht8, ht9, ht10, ht11, ht12, ht13, ht14, ht15, hr0, hr1, hr2, hr3, hr4, hr5, hr6, hr7, hr8, hr9, hr10, hr11, hr12, hr13, hr14⟩ := hAll
  have hL9 : (L : Int) ≤ 384 := by omega
  obtain ⟨i1, i2, i3, i4, i5, w6, w7⟩ : (0 ≤ (σ 2 0).toInt ∧ (σ 2 0).toInt ≤ 4) ∧ (0 ≤ (σ 2 1).toInt ∧ (σ 2 1).toInt ≤ 3) ∧ (0 ≤ (σ 2 2).toInt) ∧ (0 ≤ (σ 2 3).toInt) ∧ ((σ 2 2).toInt + (σ 2 3).toInt ≤ 40) ∧ (∀ k : Nat, k < 40 → 0 ≤ (σ 6 k).toInt ∧ (σ 6 k).toInt ≤ 67) ∧ (∀ k : Nat, k < 4 → 0 ≤ (σ 5 k).toInt ∧ (σ 5 k).toInt ≤ 20) := id hI2
  obtain ⟨i8, w9, w10⟩ : (0 ≤ (σ 9 0).toInt ∧ (σ 9 0).toInt ≤ 80) ∧ (∀ k : Nat, k < 80 → 0 ≤ (σ 10 k).toInt ∧ (σ 10 k).toInt ≤ 255) ∧ (∀ k : Nat, k < 8 → 0 ≤ (σ 11 k).toInt ∧ (σ 11 k).toInt ≤ 3) := id hI9
  obtain ⟨i11, i12, i13, w14⟩ : (1 ≤ (σ 16 0).toInt ∧ (σ 16 0).toInt ≤ 8) ∧ (1 ≤ (σ 16 1).toInt ∧ (σ 16 1).toInt ≤ 12) ∧ (0 ≤ (σ 16 2).toInt ∧ (σ 16 2).toInt ≤ 999) ∧ (∀ k : Nat, k < 8 → 0 ≤ (σ 17 k).toInt ∧ (σ 17 k).toInt ≤ 3) := id hI16
  obtain ⟨i15, i16, w17⟩ : (0 ≤ (σ 38 0).toInt ∧ (σ 38 0).toInt ≤ 20) ∧ (0 ≤ (σ 38 1).toInt ∧ (σ 38 1).toInt ≤ 1000) ∧ (∀ k : Nat, k < 20 → 0 ≤ (σ 39 k).toInt ∧ (σ 39 k).toInt ≤ 6) := id hI38
  obtain ⟨i18, w19, w20⟩ : (0 ≤ (σ 47 0).toInt ∧ (σ 47 0).toInt ≤ 12) ∧ (∀ k : Nat, k < 12 → 0 ≤ (σ 48 k).toInt ∧ (σ 48 k).toInt ≤ 3) ∧ (∀ k : Nat, k < 12 → 0 ≤ (σ 49 k).toInt ∧ (σ 49 k).toInt ≤ 1) := id hI47
  have w21 : ∀ k : Nat, k < 6 → 0 ≤ (σ 52 k).toInt ∧ (σ 52 k).toInt ≤ 60 := hI50
  have i22 : 1 ≤ (σ 26 6).toInt ∧ (σ 26 6).toInt ≤ 8000 := hI26
  obtain ⟨i23, i24, i25, w26, w27, w28, w29⟩ : (0 ≤ (σ 55 5).toInt) ∧ ((σ 55 5).toInt ≤ (σ 55 4).toInt) ∧ ((σ 55 4).toInt ≤ 40) ∧ (∀ k : Nat, k < 68 → (-200) ≤ (σ 56 k).toInt ∧ (σ 56 k).toInt ≤ 500) ∧ (∀ k : Nat, k < 40 → 0 ≤ (σ 57 k).toInt ∧ (σ 57 k).toInt ≤ 67) ∧ (∀ k : Nat, k < 40 → (-200) ≤ (σ 58 k).toInt ∧ (σ 58 k).toInt ≤ 500) ∧ (∀ k : Nat, k < 40 → (-200) ≤ (σ 59 k).toInt ∧ (σ 59 k).toInt ≤ 500) := id hI101
  obtain ⟨i30, w31, w32⟩ : (0 ≤ (σ 55 6).toInt ∧ (σ 55 6).toInt ≤ 4) ∧ (∀ k : Nat, k < 4 → 0 ≤ (σ 60 k).toInt ∧ (σ 60 k).toInt ≤ 50) ∧ (∀ k : Nat, k < 4 → 0 ≤ (σ 61 k).toInt ∧ (σ 61 k).toInt ≤ 20) := id hI102
  have i33 : 0 ≤ (σ 55 9).toInt ∧ (σ 55 9).toInt ≤ 3 := hI103
  obtain ⟨i34, i35, i36, w37, w38⟩ : (1 ≤ (σ 55 10).toInt ∧ (σ 55 10).toInt ≤ 8) ∧ (1 ≤ (σ 55 12).toInt ∧ (σ 55 12).toInt ≤ 12) ∧ (0 ≤ (σ 55 13).toInt ∧ (σ 55 13).toInt ≤ 999) ∧ (∀ k : Nat, k < 8 → 0 ≤ (σ 62 k).toInt ∧ (σ 62 k).toInt ≤ 3) ∧ (∀ k : Nat, k < 8 → 0 ≤ (σ 67 k).toInt ∧ (σ 67 k).toInt ≤ 3) := id hI104
  obtain ⟨i39, w40⟩ : (0 ≤ (σ 55 15).toInt ∧ (σ 55 15).toInt ≤ 80) ∧ (∀ k : Nat, k < 2 → (-1) ≤ (σ 65 k).toInt ∧ (σ 65 k).toInt ≤ 80) := id hI105
  obtain ⟨i41, w42, w43, w44⟩ : (0 ≤ (σ 55 32).toInt ∧ (σ 55 32).toInt ≤ 20) ∧ (∀ k : Nat, k < 20 → 0 ≤ (σ 70 k).toInt ∧ (σ 70 k).toInt ≤ 6) ∧ (∀ k : Nat, k < 20 → 0 ≤ (σ 71 k).toInt ∧ (σ 71 k).toInt ≤ 8) ∧ (∀ k : Nat, k < 160 → 0 ≤ (σ 72 k).toInt ∧ (σ 72 k).toInt ≤ 3) := id hI106
  obtain ⟨i45, i46, w47⟩ : (0 ≤ (σ 55 47).toInt ∧ (σ 55 47).toInt ≤ 12) ∧ ((σ 55 47).toInt ≤ (σ 55 12).toInt) ∧ (∀ k : Nat, k < 12 → 0 ≤ (σ 80 k).toInt ∧ (σ 80 k).toInt ≤ 3) := id hI107
  have hs_jOk3 : jOk3 σ := hr0.ok hr1.1
  obtain ⟨x48, ex48⟩ : ∃ y : Int32, y = x0 + 6 := ⟨_, rfl⟩
  exact by
   have tx48 : x48.toInt = x0.toInt + 6 := (jadd ex48 rfl jz_6 (by omega) (by omega)).trans (by omega)
   refine lv_iinc (v := x48) (lv' := [(3, .int x48), (2, .ref (ad 55)), (1, .ref (ad 0)), (0, .ref b)]) hx hb dL_law_1357 hl (k := 0) rfl (by rw [ex48]; rfl) (by decide) rfl (fun ls hl => ?_)
   refine lv_goto (tgt := 18) hx hb dL_law_1360 (by decide) ?_
   exact by exact ih x48 σ τ _ _ ls (by have h9 := tx48; omega) ⟨hI2, hI9, hI12, hI16, hI18, hI22, hI31, hI38, hI43, hI47, hI50, hI0, hI26, hI101, hI102, hI103, hI104, hI105, hI106, hI107, hI109, hI110, hI111, hI119, hs_jKept, hs_jBook, hs_jNd12, hs_jN67, hs_jBl, hs_jKb, hs_jTR, hs_jKh, hs_jKg, hs_jNz, hs_jqSt, ht0, ht1, ht2, ht3, ht4, ht5, ht6, ht7, ht8, ht9, ht10, ht11, ht12, ht13, (by have h9 := tx48; omega), (by have h9 := tx48; omega), hr0, hr1, hr2, hr3, hr4, hr5, hr6, hr7, hr8, hr9, hr10, hr11, hr12, hr13, hr14⟩ hP hS (lv_sub hl [0, 1, 2, 3] rfl)
