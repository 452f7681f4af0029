set_option maxHeartbeats 4000000 in
set_option maxRecDepth 100000 in
theorem law_case_19 {p : Program} {e : Env} {s : State} {m : MethodId} {below : List Frame} {meth : Method} {c : Code} (l : Launch) {b L : Nat} {xs : Nat → Int32} {D : va_G} {cI cL : ClassId} {ad zz : Nat → Nat} (C0 : lw_At p s m meth c b L xs) (hJ : jD ad) (hA : ∀ q, jA ad q → s.heap.size ≤ q) (hK : jK D cI cL s) (hZ : jZ zz (fun q : Nat => s.heap.size ≤ q) s s.heap) {x0 : Int32} (hx0 : 0 ≤ x0.toInt) (hxL : x0.toInt + 6 ≤ (L : Int)) (hL : L ≤ 384) {σ : Nat → Nat → Int32} {τ : Nat → Nat → Int64} {H : Heap} {locs : List Loc} (hS : va_S (fun q : Nat => s.heap.size ≤ q) s.heap H locs) {ls : Array Slot} (hAll : jAll σ τ) (hP : jH D cI cL ad σ τ H) (hl : lv_has ls 4 [(3, .int x0), (2, .ref (ad 55)), (1, .ref (ad 0)), (0, .ref b)]) (ih : ∀ (x1 : Int32) (σ : Nat → Nat → Int32) (τ : Nat → Nat → Int64) (H : Heap) (locs : List Loc) (ls : Array Slot), x1.toInt = x0.toInt + 6 → jAll σ τ → jH D cI cL ad σ τ H → va_S (fun q : Nat => s.heap.size ≤ q) s.heap H locs → lv_has ls 4 [(3, .int x1), (2, .ref (ad 55)), (1, .ref (ad 0)), (0, .ref b)] → W p l e room_1 s m #[Value.ref b] below meth c H locs 90 348600 (lw_Z below #[Value.ref b] s) (F0 m 18 ls [])) : W p l e room_1 s m #[Value.ref b] below meth c H locs 90 348600 (lw_Z below #[Value.ref b] s) (F0 m 773 ls []) := by
  obtain ⟨hx, hb, hr, hml, hown, hts0, hX, hbl, hlocks, hgv⟩ := C0
  have hts : ∀ w ∈ wsL_law, w.before #[Value.ref b] s = true := fun w h => hts0 w (wsL_law_in w h)
  have hbA : ¬ (fun q : Nat => s.heap.size ≤ q) b := Nat.not_le.mpr hbl
  have hown : s.vm.findClass RL = some m.cls := hown
  obtain ⟨hI2, hI9, hI12, hI16, hI18, hI22, hI31, hI38, hI43, hI47, hI50, hI101, hI102, hI103, hI104, hI105, hI106, hI107, hI109, hI110, hI111, hI119, hs_jKept, hs_jBook, ht0, ht1, ht2, ht3, ht4, ht5, ht6, ht7, ht8, ht9, ht10, ht11, hr0, hr1, hr2, hr3, hr4, hr5, hr6, hr7, hr8, hr9⟩ := hAll
  have hL9 : (L : Int) ≤ 384 := by omega
  obtain ⟨i1, i2, i3, i4, i5, w6⟩ : (0 ≤ (σ 2 0).toInt ∧ (σ 2 0).toInt ≤ 4) ∧ (0 ≤ (σ 2 1).toInt ∧ (σ 2 1).toInt ≤ 3) ∧ (0 ≤ (σ 2 2).toInt) ∧ (0 ≤ (σ 2 3).toInt) ∧ ((σ 2 2).toInt + (σ 2 3).toInt ≤ 40) ∧ (∀ k : Nat, k < 40 → 0 ≤ (σ 6 k).toInt ∧ (σ 6 k).toInt ≤ 67) := id hI2
  obtain ⟨i7, w8, w9⟩ : (0 ≤ (σ 9 0).toInt ∧ (σ 9 0).toInt ≤ 80) ∧ (∀ k : Nat, k < 80 → 0 ≤ (σ 10 k).toInt ∧ (σ 10 k).toInt ≤ 255) ∧ (∀ k : Nat, k < 8 → 0 ≤ (σ 11 k).toInt ∧ (σ 11 k).toInt ≤ 3) := id hI9
  obtain ⟨i10, i11, i12, w13⟩ : (1 ≤ (σ 16 0).toInt ∧ (σ 16 0).toInt ≤ 8) ∧ (1 ≤ (σ 16 1).toInt ∧ (σ 16 1).toInt ≤ 12) ∧ (0 ≤ (σ 16 2).toInt ∧ (σ 16 2).toInt ≤ 999) ∧ (∀ k : Nat, k < 8 → 0 ≤ (σ 17 k).toInt ∧ (σ 17 k).toInt ≤ 3) := id hI16
  obtain ⟨i14, i15, w16⟩ : (0 ≤ (σ 38 0).toInt ∧ (σ 38 0).toInt ≤ 20) ∧ (0 ≤ (σ 38 1).toInt ∧ (σ 38 1).toInt ≤ 1000) ∧ (∀ k : Nat, k < 20 → 0 ≤ (σ 39 k).toInt ∧ (σ 39 k).toInt ≤ 6) := id hI38
  obtain ⟨i17, w18, w19⟩ : (0 ≤ (σ 47 0).toInt ∧ (σ 47 0).toInt ≤ 12) ∧ (∀ k : Nat, k < 12 → 0 ≤ (σ 48 k).toInt ∧ (σ 48 k).toInt ≤ 3) ∧ (∀ k : Nat, k < 12 → 0 ≤ (σ 49 k).toInt ∧ (σ 49 k).toInt ≤ 1) := id hI47
  have w20 : ∀ k : Nat, k < 6 → 0 ≤ (σ 52 k).toInt ∧ (σ 52 k).toInt ≤ 60 := hI50
  obtain ⟨i21, i22, i23, w24, w25, w26, w27⟩ : (0 ≤ (σ 55 5).toInt) ∧ ((σ 55 5).toInt ≤ (σ 55 4).toInt) ∧ ((σ 55 4).toInt ≤ 40) ∧ (∀ k : Nat, k < 68 → (-200) ≤ (σ 56 k).toInt ∧ (σ 56 k).toInt ≤ 500) ∧ (∀ k : Nat, k < 40 → 0 ≤ (σ 57 k).toInt ∧ (σ 57 k).toInt ≤ 67) ∧ (∀ k : Nat, k < 40 → (-200) ≤ (σ 58 k).toInt ∧ (σ 58 k).toInt ≤ 500) ∧ (∀ k : Nat, k < 40 → (-200) ≤ (σ 59 k).toInt ∧ (σ 59 k).toInt ≤ 500) := id hI101
  obtain ⟨i28, w29, w30⟩ : (0 ≤ (σ 55 6).toInt ∧ (σ 55 6).toInt ≤ 4) ∧ (∀ k : Nat, k < 4 → 0 ≤ (σ 60 k).toInt ∧ (σ 60 k).toInt ≤ 50) ∧ (∀ k : Nat, k < 4 → 0 ≤ (σ 61 k).toInt ∧ (σ 61 k).toInt ≤ 20) := id hI102
  obtain ⟨i31, i32, i33, w34, w35⟩ : (1 ≤ (σ 55 10).toInt ∧ (σ 55 10).toInt ≤ 8) ∧ (1 ≤ (σ 55 12).toInt ∧ (σ 55 12).toInt ≤ 12) ∧ (0 ≤ (σ 55 13).toInt ∧ (σ 55 13).toInt ≤ 999) ∧ (∀ k : Nat, k < 8 → 0 ≤ (σ 62 k).toInt ∧ (σ 62 k).toInt ≤ 3) ∧ (∀ k : Nat, k < 8 → 0 ≤ (σ 67 k).toInt ∧ (σ 67 k).toInt ≤ 3) := id hI104
  obtain ⟨i36, w37⟩ : (0 ≤ (σ 55 15).toInt ∧ (σ 55 15).toInt ≤ 80) ∧ (∀ k : Nat, k < 2 → (-1) ≤ (σ 65 k).toInt ∧ (σ 65 k).toInt ≤ 80) := id hI105
  obtain ⟨i38, w39, w40, w41⟩ : (0 ≤ (σ 55 32).toInt ∧ (σ 55 32).toInt ≤ 20) ∧ (∀ k : Nat, k < 20 → 0 ≤ (σ 70 k).toInt ∧ (σ 70 k).toInt ≤ 6) ∧ (∀ k : Nat, k < 20 → 0 ≤ (σ 71 k).toInt ∧ (σ 71 k).toInt ≤ 8) ∧ (∀ k : Nat, k < 160 → 0 ≤ (σ 72 k).toInt ∧ (σ 72 k).toInt ≤ 3) := id hI106
  obtain ⟨i42, i43, w44⟩ : (0 ≤ (σ 55 47).toInt ∧ (σ 55 47).toInt ≤ 12) ∧ ((σ 55 47).toInt ≤ (σ 55 12).toInt) ∧ (∀ k : Nat, k < 12 → 0 ≤ (σ 80 k).toInt ∧ (σ 80 k).toInt ≤ 3) := id hI107
  refine lv_aload_n hx hb dL_law_773 rfl (lv_at hl 2 rfl) ?_
  refine lv_aload_n hx hb dL_law_774 rfl (lv_at hl 3 rfl) ?_
  refine lv_iload_n hx hb dL_law_775 rfl (lv_at hl 0 rfl) ?_
  refine lv_iconst (v := 1) hx hb dL_law_776 (of_decide_eq_true rfl) ?_
  have g45 := jrg (rfl : x0.toInt = x0.toInt)
  refine lv_iadd hx hb dL_law_777 ?_
  refine lv_topi (fun x46 ex46 => ?_)
  exact by
   have tx46 : x46.toInt = x0.toInt + 1 := (jadd ex46 rfl jz_1 (by omega) (by omega)).trans (by omega)
   refine va_sld hx hb hX hbl hbA hS (jin tx46 (by omega) (by omega)) dL_law_778 ?_
   have g47 := jrg (rfl : (xs x46.toNatClampNeg).toInt = (xs x46.toNatClampNeg).toInt)
   refine lv_aload_n hx hb dL_law_779 rfl (lv_at hl 3 rfl) ?_
   refine lv_iload_n hx hb dL_law_780 rfl (lv_at hl 0 rfl) ?_
   refine lv_iconst (v := 2) hx hb dL_law_781 (of_decide_eq_true rfl) ?_
   refine lv_iadd hx hb dL_law_782 ?_
   refine lv_topi (fun x48 ex48 => ?_)
   have tx48 : x48.toInt = x0.toInt + 2 := (jadd ex48 rfl jz_2 (by omega) (by omega)).trans (by omega)
   exact by
    refine va_sld hx hb hX hbl hbA hS (jin tx48 (by omega) (by omega)) dL_law_783 ?_
    have g49 := jrg (rfl : (xs x48.toNatClampNeg).toInt = (xs x48.toNatClampNeg).toInt)
    refine jcallV (As := [.int (xs x46.toNatClampNeg), .int (xs x48.toNatClampNeg)]) (rest := []) ⟨hx, hb, hml, hown, hts⟩ hK hP hA hS hZ (c_X11_book l D cI cL ad zz hJ σ τ (xs x46.toNatClampNeg) ((xs x46.toNatClampNeg).toInt) rfl (xs x48.toNatClampNeg) ((xs x48.toNatClampNeg).toInt) rfl hI2 hI16 hI47) cw_RL_93 (jc_0 cI cL ad σ τ) rfl ⟨Nat.le_of_ble_eq_true rfl, Nat.le_of_ble_eq_true rfl⟩ rfl rfl rfl hl.1 rfl (Nat.le_of_ble_eq_true rfl) dL_law_784 ⟨Nat.le_of_ble_eq_true rfl, Nat.le_of_ble_eq_true rfl⟩ (fun r51 σ50 τ50 H locs h50 hP hS => ?_)
    obtain ⟨rfl, f52, f53, I54, w55, h50⟩ := h50
    obtain ⟨i57, w58, w59⟩ : (0 ≤ (σ50 47 0).toInt ∧ (σ50 47 0).toInt ≤ 12) ∧ (∀ k : Nat, k < 12 → 0 ≤ (σ50 48 k).toInt ∧ (σ50 48 k).toInt ≤ 3) ∧ (∀ k : Nat, k < 12 → 0 ≤ (σ50 49 k).toInt ∧ (σ50 49 k).toInt ≤ 1) := id I54
    refine lv_pop hx hb dL_law_787 rfl ?_
    refine lv_aload_n hx hb dL_law_788 rfl (lv_at hl 1 rfl) ?_
    refine lv_aload_n hx hb dL_law_789 rfl (lv_at hl 3 rfl) ?_
    refine lv_iload_n hx hb dL_law_790 rfl (lv_at hl 0 rfl) ?_
    refine lv_iconst (v := 1) hx hb dL_law_791 (of_decide_eq_true rfl) ?_
    refine lv_iadd hx hb dL_law_792 ?_
    refine jtopr ex46.symm ?_
    exact by
     refine va_sld hx hb hX hbl hbA hS (jin tx46 (by omega) (by omega)) dL_law_793 ?_
     refine lv_aload_n hx hb dL_law_794 rfl (lv_at hl 3 rfl) ?_
     refine lv_iload_n hx hb dL_law_795 rfl (lv_at hl 0 rfl) ?_
     refine lv_iconst (v := 2) hx hb dL_law_796 (of_decide_eq_true rfl) ?_
     refine lv_iadd hx hb dL_law_797 ?_
     refine jtopr ex48.symm ?_
     refine va_sld hx hb hX hbl hbA hS (jin tx48 (by omega) (by omega)) dL_law_798 ?_
     have I60 : jI102 σ50 := jI102_fr (congrFun (f52 55 (of_decide_eq_true rfl)) 6) (f52 60 (of_decide_eq_true rfl)) (f52 61 (of_decide_eq_true rfl)) hI102
     have I61 : jI104 σ50 := jI104_fr (congrFun (f52 55 (of_decide_eq_true rfl)) 10) (congrFun (f52 55 (of_decide_eq_true rfl)) 12) (congrFun (f52 55 (of_decide_eq_true rfl)) 13) (f52 62 (of_decide_eq_true rfl)) (f52 67 (of_decide_eq_true rfl)) hI104
     exact by
      have I62 : jI107 σ50 := jI107_fr (congrFun (f52 55 (of_decide_eq_true rfl)) 12) (congrFun (f52 55 (of_decide_eq_true rfl)) 47) (f52 80 (of_decide_eq_true rfl)) hI107
      have w63 : ∀ k : Nat, k < 4 → 0 ≤ (σ 68 k).toInt ∧ (σ 68 k).toInt ≤ 3 := hI119
      have w64 : ∀ k : Nat, k < 4 → 0 ≤ (σ50 68 k).toInt ∧ (σ50 68 k).toInt ≤ 3 := (jrr_fr (f52 68 (of_decide_eq_true rfl)) w63)
      have p65 : jBook σ50 := jBook.fr (congrFun (f52 55 (of_decide_eq_true rfl)) 47) (congrFun (f52 55 (of_decide_eq_true rfl)) 10) (f52 81 (of_decide_eq_true rfl)) hs_jBook
      have z66 : (σ50 55 47).toInt = (σ 55 47).toInt := (congrArg Int32.toInt (show σ50 55 47 = (σ 55 47) from (congrFun (f52 55 (of_decide_eq_true rfl)) 47)))
      refine jcallV (As := [.int (xs x46.toNatClampNeg), .int (xs x48.toNatClampNeg)]) (rest := []) ⟨hx, hb, hml, hown, hts⟩ hK hP hA hS hZ (c_X12_book l D cI cL ad zz hJ σ50 τ (xs x46.toNatClampNeg) ((xs x46.toNatClampNeg).toInt) rfl (xs x48.toNatClampNeg) ((xs x48.toNatClampNeg).toInt) rfl I60 I61 I62 w64 p65) cw_RL_96 (jc_55 cI cL ad σ50 τ) rfl ⟨Nat.le_of_ble_eq_true rfl, Nat.le_of_ble_eq_true rfl⟩ rfl rfl rfl hl.1 rfl (Nat.le_of_ble_eq_true rfl) dL_law_799 ⟨Nat.le_of_ble_eq_true rfl, Nat.le_of_ble_eq_true rfl⟩ (fun r68 σ67 τ67 H locs h67 hP hS => ?_)
      obtain ⟨rfl, f69, f70, I71, w72, p73, w74, h67⟩ := h67
      obtain ⟨i76, i77, w78⟩ : (0 ≤ (σ67 55 47).toInt ∧ (σ67 55 47).toInt ≤ 12) ∧ ((σ67 55 47).toInt ≤ (σ67 55 12).toInt) ∧ (∀ k : Nat, k < 12 → 0 ≤ (σ67 80 k).toInt ∧ (σ67 80 k).toInt ≤ 3) := id I71
      have z79 : (σ50 55 6).toInt = (σ 55 6).toInt := (congrArg Int32.toInt (show σ50 55 6 = (σ 55 6) from (congrFun (f52 55 (of_decide_eq_true rfl)) 6)))
      have z80 : (σ50 55 10).toInt = (σ 55 10).toInt := (congrArg Int32.toInt (show σ50 55 10 = (σ 55 10) from (congrFun (f52 55 (of_decide_eq_true rfl)) 10)))
      have z81 : (σ50 55 12).toInt = (σ 55 12).toInt := (congrArg Int32.toInt (show σ50 55 12 = (σ 55 12) from (congrFun (f52 55 (of_decide_eq_true rfl)) 12)))
      have z82 : (σ50 55 30).toInt = (σ 55 30).toInt := (congrArg Int32.toInt (show σ50 55 30 = (σ 55 30) from (congrFun (f52 55 (of_decide_eq_true rfl)) 30)))
      have z83 : (σ50 55 31).toInt = (σ 55 31).toInt := (congrArg Int32.toInt (show σ50 55 31 = (σ 55 31) from (congrFun (f52 55 (of_decide_eq_true rfl)) 31)))
      rw [show (σ50 55 6).toInt = (σ 55 6).toInt from by omega, show (σ50 55 47).toInt = (σ 55 47).toInt from by omega, show (σ50 55 10).toInt = (σ 55 10).toInt from by omega, show (σ50 55 12).toInt = (σ 55 12).toInt from by omega, show (σ50 55 30).toInt = (σ 55 30).toInt from by omega, show (σ50 55 31).toInt = (σ 55 31).toInt from by omega, show σ50 56 = σ 56 from (f52 56 (of_decide_eq_true rfl)), show σ50 80 = σ 80 from (f52 80 (of_decide_eq_true rfl)), show σ50 81 = σ 81 from (f52 81 (of_decide_eq_true rfl))] at w74
      rw [show (σ 2 0).toInt = (σ 55 6).toInt from by omega, show (σ 47 0).toInt = (σ 55 47).toInt from by omega, show (σ 16 0).toInt = (σ 55 10).toInt from by omega, show (σ 16 1).toInt = (σ 55 12).toInt from by omega] at w55
      exact by
       have p84 := hr7.bo (by omega) (w55 (hr0.ok hr1.1)) (w74 (by omega) (by omega) hr1.1) Iff.rfl (fun _ => jMy.iff hr7 hr0.t4)
       obtain ⟨k85, k86, p84⟩ := p84
       have z87 : (σ67 55 12).toInt = (σ 55 12).toInt := (congrArg Int32.toInt (show σ67 55 12 = (σ 55 12) from ((f70 12 (of_decide_eq_true rfl)).trans (congrFun (f52 55 (of_decide_eq_true rfl)) 12))))
       rcases h67 with h88 | h89
       · obtain ⟨q92, k90, k91⟩ := h88
         refine lv_pop hx hb dL_law_802 rfl ?_
         refine lv_goto (tgt := 1357) hx hb dL_law_803 (of_decide_eq_true rfl) ?_
         obtain ⟨x93, ex93⟩ : ∃ y : Int32, y = x0 + 6 := ⟨_, rfl⟩
         have tx93 : x93.toInt = x0.toInt + 6 := (jadd ex93 rfl jz_6 (by omega) (by omega)).trans (by omega)
         exact by
          refine lv_iinc (v := x93) (lv' := [(3, .int x93), (2, .ref (ad 55)), (1, .ref (ad 0)), (0, .ref b)]) hx hb dL_law_1357 hl (k := 0) rfl (by rw [ex93]; rfl) (of_decide_eq_true rfl) rfl (fun ls hl => ?_)
          refine lv_goto (tgt := 18) hx hb dL_law_1360 (of_decide_eq_true rfl) ?_
          have I94 : jI2 σ67 := jI2_fr ((congrFun (f69 2 (of_decide_eq_true rfl)) 0).trans (congrFun (f52 2 (of_decide_eq_true rfl)) 0)) ((congrFun (f69 2 (of_decide_eq_true rfl)) 1).trans (congrFun (f52 2 (of_decide_eq_true rfl)) 1)) ((congrFun (f69 2 (of_decide_eq_true rfl)) 2).trans (congrFun (f52 2 (of_decide_eq_true rfl)) 2)) ((congrFun (f69 2 (of_decide_eq_true rfl)) 3).trans (congrFun (f52 2 (of_decide_eq_true rfl)) 3)) ((f69 6 (of_decide_eq_true rfl)).trans (f52 6 (of_decide_eq_true rfl))) hI2
          have I95 : jI9 σ67 := jI9_fr ((congrFun (f69 9 (of_decide_eq_true rfl)) 0).trans (congrFun (f52 9 (of_decide_eq_true rfl)) 0)) ((f69 10 (of_decide_eq_true rfl)).trans (f52 10 (of_decide_eq_true rfl))) ((f69 11 (of_decide_eq_true rfl)).trans (f52 11 (of_decide_eq_true rfl))) hI9
          have I96 : jI12 σ67 := jI12_fr ((congrFun (f69 12 (of_decide_eq_true rfl)) 0).trans (congrFun (f52 12 (of_decide_eq_true rfl)) 0)) ((f69 13 (of_decide_eq_true rfl)).trans (f52 13 (of_decide_eq_true rfl))) hI12
          have I97 : jI16 σ67 := jI16_fr ((congrFun (f69 16 (of_decide_eq_true rfl)) 0).trans (congrFun (f52 16 (of_decide_eq_true rfl)) 0)) ((congrFun (f69 16 (of_decide_eq_true rfl)) 1).trans (congrFun (f52 16 (of_decide_eq_true rfl)) 1)) ((congrFun (f69 16 (of_decide_eq_true rfl)) 2).trans (congrFun (f52 16 (of_decide_eq_true rfl)) 2)) ((f69 17 (of_decide_eq_true rfl)).trans (f52 17 (of_decide_eq_true rfl))) hI16
          have I98 : jI18 σ67 := jI18_fr ((congrFun (f69 18 (of_decide_eq_true rfl)) 0).trans (congrFun (f52 18 (of_decide_eq_true rfl)) 0)) ((f69 19 (of_decide_eq_true rfl)).trans (f52 19 (of_decide_eq_true rfl))) hI18
          have I99 : jI22 σ67 := jI22_fr ((congrFun (f69 22 (of_decide_eq_true rfl)) 0).trans (congrFun (f52 22 (of_decide_eq_true rfl)) 0)) ((f69 23 (of_decide_eq_true rfl)).trans (f52 23 (of_decide_eq_true rfl))) hI22
          have I100 : jI31 σ67 := jI31_fr ((congrFun (f69 31 (of_decide_eq_true rfl)) 8).trans (congrFun (f52 31 (of_decide_eq_true rfl)) 8)) ((f69 33 (of_decide_eq_true rfl)).trans (f52 33 (of_decide_eq_true rfl))) ((f69 36 (of_decide_eq_true rfl)).trans (f52 36 (of_decide_eq_true rfl))) hI31
          have I101 : jI38 σ67 := jI38_fr ((congrFun (f69 38 (of_decide_eq_true rfl)) 0).trans (congrFun (f52 38 (of_decide_eq_true rfl)) 0)) ((congrFun (f69 38 (of_decide_eq_true rfl)) 1).trans (congrFun (f52 38 (of_decide_eq_true rfl)) 1)) ((f69 39 (of_decide_eq_true rfl)).trans (f52 39 (of_decide_eq_true rfl))) hI38
          have I102 : jI43 σ67 := jI43_fr ((congrFun (f69 43 (of_decide_eq_true rfl)) 8).trans (congrFun (f52 43 (of_decide_eq_true rfl)) 8)) hI43
          have I103 : jI47 σ67 := jI47_fr (congrFun (f69 47 (of_decide_eq_true rfl)) 0) (f69 48 (of_decide_eq_true rfl)) (f69 49 (of_decide_eq_true rfl)) I54
          have I104 : jI50 σ67 := jI50_fr ((f69 52 (of_decide_eq_true rfl)).trans (f52 52 (of_decide_eq_true rfl))) hI50
          have I105 : jI101 σ67 := jI101_fr ((f70 4 (of_decide_eq_true rfl)).trans (congrFun (f52 55 (of_decide_eq_true rfl)) 4)) ((f70 5 (of_decide_eq_true rfl)).trans (congrFun (f52 55 (of_decide_eq_true rfl)) 5)) ((f69 56 (of_decide_eq_true rfl)).trans (f52 56 (of_decide_eq_true rfl))) ((f69 57 (of_decide_eq_true rfl)).trans (f52 57 (of_decide_eq_true rfl))) ((f69 58 (of_decide_eq_true rfl)).trans (f52 58 (of_decide_eq_true rfl))) ((f69 59 (of_decide_eq_true rfl)).trans (f52 59 (of_decide_eq_true rfl))) hI101
          have I106 : jI102 σ67 := jI102_fr (f70 6 (of_decide_eq_true rfl)) (f69 60 (of_decide_eq_true rfl)) (f69 61 (of_decide_eq_true rfl)) I60
          have I107 : jI103 σ67 := jI103_fr ((f70 9 (of_decide_eq_true rfl)).trans (congrFun (f52 55 (of_decide_eq_true rfl)) 9)) hI103
          have I108 : jI104 σ67 := jI104_fr (f70 10 (of_decide_eq_true rfl)) (f70 12 (of_decide_eq_true rfl)) (f70 13 (of_decide_eq_true rfl)) (f69 62 (of_decide_eq_true rfl)) (f69 67 (of_decide_eq_true rfl)) I61
          have I109 : jI105 σ67 := jI105_fr ((f70 15 (of_decide_eq_true rfl)).trans (congrFun (f52 55 (of_decide_eq_true rfl)) 15)) ((f69 65 (of_decide_eq_true rfl)).trans (f52 65 (of_decide_eq_true rfl))) hI105
          have I110 : jI106 σ67 := jI106_fr ((f70 32 (of_decide_eq_true rfl)).trans (congrFun (f52 55 (of_decide_eq_true rfl)) 32)) ((f69 70 (of_decide_eq_true rfl)).trans (f52 70 (of_decide_eq_true rfl))) ((f69 71 (of_decide_eq_true rfl)).trans (f52 71 (of_decide_eq_true rfl))) ((f69 72 (of_decide_eq_true rfl)).trans (f52 72 (of_decide_eq_true rfl))) hI106
          have I111 : jI109 σ67 := jI109_fr ((f70 50 (of_decide_eq_true rfl)).trans (congrFun (f52 55 (of_decide_eq_true rfl)) 50)) hI109
          have I112 : jI110 σ67 := jI110_fr ((f69 86 (of_decide_eq_true rfl)).trans (f52 86 (of_decide_eq_true rfl))) ((f69 87 (of_decide_eq_true rfl)).trans (f52 87 (of_decide_eq_true rfl))) hI110
          have I113 : jI111 σ67 := jI111_fr ((f69 79 (of_decide_eq_true rfl)).trans (f52 79 (of_decide_eq_true rfl))) hI111
          have I114 : jI119 σ67 := w72
          have p115 : jKept σ67 := jKept.fr ((f69 75 (of_decide_eq_true rfl)).trans (f52 75 (of_decide_eq_true rfl))) ((f69 76 (of_decide_eq_true rfl)).trans (f52 76 (of_decide_eq_true rfl))) ((f69 77 (of_decide_eq_true rfl)).trans (f52 77 (of_decide_eq_true rfl))) hs_jKept
          have z116 : (σ67 2 0).toInt = (σ 2 0).toInt := (congrArg Int32.toInt (show σ67 2 0 = (σ 2 0) from ((congrFun (f69 2 (of_decide_eq_true rfl)) 0).trans (congrFun (f52 2 (of_decide_eq_true rfl)) 0))))
          have z117 : (σ67 55 6).toInt = (σ 55 6).toInt := (congrArg Int32.toInt (show σ67 55 6 = (σ 55 6) from ((f70 6 (of_decide_eq_true rfl)).trans (congrFun (f52 55 (of_decide_eq_true rfl)) 6))))
          have z118 : (σ67 2 2).toInt = (σ 2 2).toInt := (congrArg Int32.toInt (show σ67 2 2 = (σ 2 2) from ((congrFun (f69 2 (of_decide_eq_true rfl)) 2).trans (congrFun (f52 2 (of_decide_eq_true rfl)) 2))))
          have z119 : (σ67 55 5).toInt = (σ 55 5).toInt := (congrArg Int32.toInt (show σ67 55 5 = (σ 55 5) from ((f70 5 (of_decide_eq_true rfl)).trans (congrFun (f52 55 (of_decide_eq_true rfl)) 5))))
          have z120 : (σ67 2 3).toInt = (σ 2 3).toInt := (congrArg Int32.toInt (show σ67 2 3 = (σ 2 3) from ((congrFun (f69 2 (of_decide_eq_true rfl)) 3).trans (congrFun (f52 2 (of_decide_eq_true rfl)) 3))))
          have z121 : (σ67 55 4).toInt = (σ 55 4).toInt := (congrArg Int32.toInt (show σ67 55 4 = (σ 55 4) from ((f70 4 (of_decide_eq_true rfl)).trans (congrFun (f52 55 (of_decide_eq_true rfl)) 4))))
          have z122 : (σ67 9 0).toInt = (σ 9 0).toInt := (congrArg Int32.toInt (show σ67 9 0 = (σ 9 0) from ((congrFun (f69 9 (of_decide_eq_true rfl)) 0).trans (congrFun (f52 9 (of_decide_eq_true rfl)) 0))))
          have z123 : (σ67 55 15).toInt = (σ 55 15).toInt := (congrArg Int32.toInt (show σ67 55 15 = (σ 55 15) from ((f70 15 (of_decide_eq_true rfl)).trans (congrFun (f52 55 (of_decide_eq_true rfl)) 15))))
          have z124 : (σ67 16 0).toInt = (σ 16 0).toInt := (congrArg Int32.toInt (show σ67 16 0 = (σ 16 0) from ((congrFun (f69 16 (of_decide_eq_true rfl)) 0).trans (congrFun (f52 16 (of_decide_eq_true rfl)) 0))))
          have z125 : (σ67 55 10).toInt = (σ 55 10).toInt := (congrArg Int32.toInt (show σ67 55 10 = (σ 55 10) from ((f70 10 (of_decide_eq_true rfl)).trans (congrFun (f52 55 (of_decide_eq_true rfl)) 10))))
          have z126 : (σ67 16 1).toInt = (σ 16 1).toInt := (congrArg Int32.toInt (show σ67 16 1 = (σ 16 1) from ((congrFun (f69 16 (of_decide_eq_true rfl)) 1).trans (congrFun (f52 16 (of_decide_eq_true rfl)) 1))))
          have z127 : (σ67 16 2).toInt = (σ 16 2).toInt := (congrArg Int32.toInt (show σ67 16 2 = (σ 16 2) from ((congrFun (f69 16 (of_decide_eq_true rfl)) 2).trans (congrFun (f52 16 (of_decide_eq_true rfl)) 2))))
          have z128 : (σ67 55 13).toInt = (σ 55 13).toInt := (congrArg Int32.toInt (show σ67 55 13 = (σ 55 13) from ((f70 13 (of_decide_eq_true rfl)).trans (congrFun (f52 55 (of_decide_eq_true rfl)) 13))))
          have z129 : (σ67 38 0).toInt = (σ 38 0).toInt := (congrArg Int32.toInt (show σ67 38 0 = (σ 38 0) from ((congrFun (f69 38 (of_decide_eq_true rfl)) 0).trans (congrFun (f52 38 (of_decide_eq_true rfl)) 0))))
          have z130 : (σ67 55 32).toInt = (σ 55 32).toInt := (congrArg Int32.toInt (show σ67 55 32 = (σ 55 32) from ((f70 32 (of_decide_eq_true rfl)).trans (congrFun (f52 55 (of_decide_eq_true rfl)) 32))))
          have z131 : (σ67 38 1).toInt = (σ 38 1).toInt := (congrArg Int32.toInt (show σ67 38 1 = (σ 38 1) from ((congrFun (f69 38 (of_decide_eq_true rfl)) 1).trans (congrFun (f52 38 (of_decide_eq_true rfl)) 1))))
          have z132 : (σ67 55 55).toInt = (σ 55 55).toInt := (congrArg Int32.toInt (show σ67 55 55 = (σ 55 55) from ((f70 55 (of_decide_eq_true rfl)).trans (congrFun (f52 55 (of_decide_eq_true rfl)) 55))))
          have z133 : (σ67 47 0).toInt = (σ50 47 0).toInt := (congrArg Int32.toInt (show σ67 47 0 = (σ50 47 0) from (congrFun (f69 47 (of_decide_eq_true rfl)) 0)))
          have z134 : (σ67 55 30).toInt = (σ 55 30).toInt := (congrArg Int32.toInt (show σ67 55 30 = (σ 55 30) from ((f70 30 (of_decide_eq_true rfl)).trans (congrFun (f52 55 (of_decide_eq_true rfl)) 30))))
          have z135 : (σ67 55 31).toInt = (σ 55 31).toInt := (congrArg Int32.toInt (show σ67 55 31 = (σ 55 31) from ((f70 31 (of_decide_eq_true rfl)).trans (congrFun (f52 55 (of_decide_eq_true rfl)) 31))))
          exact by exact ih x93 σ67 τ _ _ ls (by have h9 := tx93; omega) ⟨I94, I95, I96, I97, I98, I99, I100, I101, I102, I103, I104, I105, I106, I107, I108, I109, I110, I71, I111, I112, I113, I114, p115, p73, (by omega), (by omega), (by omega), (by omega), (by omega), (by omega), (by omega), (by omega), (by omega), (by omega), (by omega), (by omega), (show jNumP (σ67 3) (σ67 56) (σ67 6) (σ67 57) (σ67 7) (σ67 58) (σ67 8) (σ67 59) (σ67 55 6).toInt (σ67 55 4).toInt by rw [show σ67 3 = σ 3 from ((f69 3 (of_decide_eq_true rfl)).trans (f52 3 (of_decide_eq_true rfl))), show σ67 56 = σ 56 from ((f69 56 (of_decide_eq_true rfl)).trans (f52 56 (of_decide_eq_true rfl))), show σ67 6 = σ 6 from ((f69 6 (of_decide_eq_true rfl)).trans (f52 6 (of_decide_eq_true rfl))), show σ67 57 = σ 57 from ((f69 57 (of_decide_eq_true rfl)).trans (f52 57 (of_decide_eq_true rfl))), show σ67 7 = σ 7 from ((f69 7 (of_decide_eq_true rfl)).trans (f52 7 (of_decide_eq_true rfl))), show σ67 58 = σ 58 from ((f69 58 (of_decide_eq_true rfl)).trans (f52 58 (of_decide_eq_true rfl))), show σ67 8 = σ 8 from ((f69 8 (of_decide_eq_true rfl)).trans (f52 8 (of_decide_eq_true rfl))), show σ67 59 = σ 59 from ((f69 59 (of_decide_eq_true rfl)).trans (f52 59 (of_decide_eq_true rfl))), show (σ67 55 6).toInt = (σ 55 6).toInt from by omega, show (σ67 55 4).toInt = (σ 55 4).toInt from by omega]; exact hr0), (show jOvP (σ67 56) (σ67 57) (σ67 58) (σ67 59) (σ67 55 4).toInt by rw [show σ67 56 = σ 56 from ((f69 56 (of_decide_eq_true rfl)).trans (f52 56 (of_decide_eq_true rfl))), show σ67 57 = σ 57 from ((f69 57 (of_decide_eq_true rfl)).trans (f52 57 (of_decide_eq_true rfl))), show σ67 58 = σ 58 from ((f69 58 (of_decide_eq_true rfl)).trans (f52 58 (of_decide_eq_true rfl))), show σ67 59 = σ 59 from ((f69 59 (of_decide_eq_true rfl)).trans (f52 59 (of_decide_eq_true rfl))), show (σ67 55 4).toInt = (σ 55 4).toInt from by omega]; exact hr1), (show jTp (σ67 10) (σ67 63) (σ67 55 15).toInt by rw [show σ67 10 = σ 10 from ((f69 10 (of_decide_eq_true rfl)).trans (f52 10 (of_decide_eq_true rfl))), show σ67 63 = σ 63 from ((f69 63 (of_decide_eq_true rfl)).trans (f52 63 (of_decide_eq_true rfl)))]; exact hr2.le (by omega)), (show jSo (σ67 17) (σ67 62) (σ67 16 0).toInt by rw [show σ67 17 = σ 17 from ((f69 17 (of_decide_eq_true rfl)).trans (f52 17 (of_decide_eq_true rfl))), show σ67 62 = σ 62 from ((f69 62 (of_decide_eq_true rfl)).trans (f52 62 (of_decide_eq_true rfl))), show (σ67 16 0).toInt = (σ 16 0).toInt from by omega]; exact hr3), (show jShP (σ67 51) (σ67 52) (σ67 53) (σ67 86) (σ67 87) (σ67 55 32).toInt by rw [show σ67 51 = σ 51 from ((f69 51 (of_decide_eq_true rfl)).trans (f52 51 (of_decide_eq_true rfl))), show σ67 52 = σ 52 from ((f69 52 (of_decide_eq_true rfl)).trans (f52 52 (of_decide_eq_true rfl))), show σ67 53 = σ 53 from ((f69 53 (of_decide_eq_true rfl)).trans (f52 53 (of_decide_eq_true rfl))), show σ67 86 = σ 86 from ((f69 86 (of_decide_eq_true rfl)).trans (f52 86 (of_decide_eq_true rfl))), show σ67 87 = σ 87 from ((f69 87 (of_decide_eq_true rfl)).trans (f52 87 (of_decide_eq_true rfl)))]; exact (hr4.up (by omega) (by omega))), (show jEl (σ67 51) (σ67 52) (τ 54) (τ 88) by rw [show σ67 51 = σ 51 from ((f69 51 (of_decide_eq_true rfl)).trans (f52 51 (of_decide_eq_true rfl))), show σ67 52 = σ 52 from ((f69 52 (of_decide_eq_true rfl)).trans (f52 52 (of_decide_eq_true rfl)))]; exact hr5), (show jByP (σ67 51) (σ67 52) (τ 54) by rw [show σ67 51 = σ 51 from ((f69 51 (of_decide_eq_true rfl)).trans (f52 51 (of_decide_eq_true rfl))), show σ67 52 = σ 52 from ((f69 52 (of_decide_eq_true rfl)).trans (f52 52 (of_decide_eq_true rfl)))]; exact hr6), (show jBk (σ67 48) (σ67 80) (σ67 49) (σ67 81) (σ67 55 47).toInt by rw [show σ67 48 = σ50 48 from (f69 48 (of_decide_eq_true rfl)), show σ67 49 = σ50 49 from (f69 49 (of_decide_eq_true rfl)), show (σ67 55 47).toInt = (σ50 47 0).toInt from by omega]; exact p84), (show jKd (σ67 39) (σ67 70) (σ67 55 32).toInt by rw [show σ67 39 = σ 39 from ((f69 39 (of_decide_eq_true rfl)).trans (f52 39 (of_decide_eq_true rfl))), show σ67 70 = σ 70 from ((f69 70 (of_decide_eq_true rfl)).trans (f52 70 (of_decide_eq_true rfl))), show (σ67 55 32).toInt = (σ 55 32).toInt from by omega]; exact hr8), (show jTt (σ67 42) (σ67 85) (σ67 55 55).toInt by rw [show σ67 42 = σ 42 from ((f69 42 (of_decide_eq_true rfl)).trans (f52 42 (of_decide_eq_true rfl))), show σ67 85 = σ 85 from ((f69 85 (of_decide_eq_true rfl)).trans (f52 85 (of_decide_eq_true rfl))), show (σ67 55 55).toInt = (σ 55 55).toInt from by omega]; exact hr9)⟩ hP hS (lv_sub hl [0, 1, 2, 3] rfl)
       · obtain ⟨q139, k137, k138⟩ := h89
         refine lv_pop hx hb dL_law_802 rfl ?_
         refine lv_goto (tgt := 1357) hx hb dL_law_803 (of_decide_eq_true rfl) ?_
         obtain ⟨x140, ex140⟩ : ∃ y : Int32, y = x0 + 6 := ⟨_, rfl⟩
         exact by
          have tx140 : x140.toInt = x0.toInt + 6 := (jadd ex140 rfl jz_6 (by omega) (by omega)).trans (by omega)
          refine lv_iinc (v := x140) (lv' := [(3, .int x140), (2, .ref (ad 55)), (1, .ref (ad 0)), (0, .ref b)]) hx hb dL_law_1357 hl (k := 0) rfl (by rw [ex140]; rfl) (of_decide_eq_true rfl) rfl (fun ls hl => ?_)
          refine lv_goto (tgt := 18) hx hb dL_law_1360 (of_decide_eq_true rfl) ?_
          have I141 : jI2 σ67 := jI2_fr ((congrFun (f69 2 (of_decide_eq_true rfl)) 0).trans (congrFun (f52 2 (of_decide_eq_true rfl)) 0)) ((congrFun (f69 2 (of_decide_eq_true rfl)) 1).trans (congrFun (f52 2 (of_decide_eq_true rfl)) 1)) ((congrFun (f69 2 (of_decide_eq_true rfl)) 2).trans (congrFun (f52 2 (of_decide_eq_true rfl)) 2)) ((congrFun (f69 2 (of_decide_eq_true rfl)) 3).trans (congrFun (f52 2 (of_decide_eq_true rfl)) 3)) ((f69 6 (of_decide_eq_true rfl)).trans (f52 6 (of_decide_eq_true rfl))) hI2
          have I142 : jI9 σ67 := jI9_fr ((congrFun (f69 9 (of_decide_eq_true rfl)) 0).trans (congrFun (f52 9 (of_decide_eq_true rfl)) 0)) ((f69 10 (of_decide_eq_true rfl)).trans (f52 10 (of_decide_eq_true rfl))) ((f69 11 (of_decide_eq_true rfl)).trans (f52 11 (of_decide_eq_true rfl))) hI9
          have I143 : jI12 σ67 := jI12_fr ((congrFun (f69 12 (of_decide_eq_true rfl)) 0).trans (congrFun (f52 12 (of_decide_eq_true rfl)) 0)) ((f69 13 (of_decide_eq_true rfl)).trans (f52 13 (of_decide_eq_true rfl))) hI12
          have I144 : jI16 σ67 := jI16_fr ((congrFun (f69 16 (of_decide_eq_true rfl)) 0).trans (congrFun (f52 16 (of_decide_eq_true rfl)) 0)) ((congrFun (f69 16 (of_decide_eq_true rfl)) 1).trans (congrFun (f52 16 (of_decide_eq_true rfl)) 1)) ((congrFun (f69 16 (of_decide_eq_true rfl)) 2).trans (congrFun (f52 16 (of_decide_eq_true rfl)) 2)) ((f69 17 (of_decide_eq_true rfl)).trans (f52 17 (of_decide_eq_true rfl))) hI16
          have I145 : jI18 σ67 := jI18_fr ((congrFun (f69 18 (of_decide_eq_true rfl)) 0).trans (congrFun (f52 18 (of_decide_eq_true rfl)) 0)) ((f69 19 (of_decide_eq_true rfl)).trans (f52 19 (of_decide_eq_true rfl))) hI18
          have I146 : jI22 σ67 := jI22_fr ((congrFun (f69 22 (of_decide_eq_true rfl)) 0).trans (congrFun (f52 22 (of_decide_eq_true rfl)) 0)) ((f69 23 (of_decide_eq_true rfl)).trans (f52 23 (of_decide_eq_true rfl))) hI22
          exact by
           have I147 : jI31 σ67 := jI31_fr ((congrFun (f69 31 (of_decide_eq_true rfl)) 8).trans (congrFun (f52 31 (of_decide_eq_true rfl)) 8)) ((f69 33 (of_decide_eq_true rfl)).trans (f52 33 (of_decide_eq_true rfl))) ((f69 36 (of_decide_eq_true rfl)).trans (f52 36 (of_decide_eq_true rfl))) hI31
           have I148 : jI38 σ67 := jI38_fr ((congrFun (f69 38 (of_decide_eq_true rfl)) 0).trans (congrFun (f52 38 (of_decide_eq_true rfl)) 0)) ((congrFun (f69 38 (of_decide_eq_true rfl)) 1).trans (congrFun (f52 38 (of_decide_eq_true rfl)) 1)) ((f69 39 (of_decide_eq_true rfl)).trans (f52 39 (of_decide_eq_true rfl))) hI38
           have I149 : jI43 σ67 := jI43_fr ((congrFun (f69 43 (of_decide_eq_true rfl)) 8).trans (congrFun (f52 43 (of_decide_eq_true rfl)) 8)) hI43
           have I150 : jI47 σ67 := jI47_fr (congrFun (f69 47 (of_decide_eq_true rfl)) 0) (f69 48 (of_decide_eq_true rfl)) (f69 49 (of_decide_eq_true rfl)) I54
           have I151 : jI50 σ67 := jI50_fr ((f69 52 (of_decide_eq_true rfl)).trans (f52 52 (of_decide_eq_true rfl))) hI50
           have I152 : jI101 σ67 := jI101_fr ((f70 4 (of_decide_eq_true rfl)).trans (congrFun (f52 55 (of_decide_eq_true rfl)) 4)) ((f70 5 (of_decide_eq_true rfl)).trans (congrFun (f52 55 (of_decide_eq_true rfl)) 5)) ((f69 56 (of_decide_eq_true rfl)).trans (f52 56 (of_decide_eq_true rfl))) ((f69 57 (of_decide_eq_true rfl)).trans (f52 57 (of_decide_eq_true rfl))) ((f69 58 (of_decide_eq_true rfl)).trans (f52 58 (of_decide_eq_true rfl))) ((f69 59 (of_decide_eq_true rfl)).trans (f52 59 (of_decide_eq_true rfl))) hI101
           have I153 : jI102 σ67 := jI102_fr (f70 6 (of_decide_eq_true rfl)) (f69 60 (of_decide_eq_true rfl)) (f69 61 (of_decide_eq_true rfl)) I60
           have I154 : jI103 σ67 := jI103_fr ((f70 9 (of_decide_eq_true rfl)).trans (congrFun (f52 55 (of_decide_eq_true rfl)) 9)) hI103
           have I155 : jI104 σ67 := jI104_fr (f70 10 (of_decide_eq_true rfl)) (f70 12 (of_decide_eq_true rfl)) (f70 13 (of_decide_eq_true rfl)) (f69 62 (of_decide_eq_true rfl)) (f69 67 (of_decide_eq_true rfl)) I61
           have I156 : jI105 σ67 := jI105_fr ((f70 15 (of_decide_eq_true rfl)).trans (congrFun (f52 55 (of_decide_eq_true rfl)) 15)) ((f69 65 (of_decide_eq_true rfl)).trans (f52 65 (of_decide_eq_true rfl))) hI105
           have I157 : jI106 σ67 := jI106_fr ((f70 32 (of_decide_eq_true rfl)).trans (congrFun (f52 55 (of_decide_eq_true rfl)) 32)) ((f69 70 (of_decide_eq_true rfl)).trans (f52 70 (of_decide_eq_true rfl))) ((f69 71 (of_decide_eq_true rfl)).trans (f52 71 (of_decide_eq_true rfl))) ((f69 72 (of_decide_eq_true rfl)).trans (f52 72 (of_decide_eq_true rfl))) hI106
           have I158 : jI109 σ67 := jI109_fr ((f70 50 (of_decide_eq_true rfl)).trans (congrFun (f52 55 (of_decide_eq_true rfl)) 50)) hI109
           have I159 : jI110 σ67 := jI110_fr ((f69 86 (of_decide_eq_true rfl)).trans (f52 86 (of_decide_eq_true rfl))) ((f69 87 (of_decide_eq_true rfl)).trans (f52 87 (of_decide_eq_true rfl))) hI110
           have I160 : jI111 σ67 := jI111_fr ((f69 79 (of_decide_eq_true rfl)).trans (f52 79 (of_decide_eq_true rfl))) hI111
           have I161 : jI119 σ67 := w72
           have p162 : jKept σ67 := jKept.fr ((f69 75 (of_decide_eq_true rfl)).trans (f52 75 (of_decide_eq_true rfl))) ((f69 76 (of_decide_eq_true rfl)).trans (f52 76 (of_decide_eq_true rfl))) ((f69 77 (of_decide_eq_true rfl)).trans (f52 77 (of_decide_eq_true rfl))) hs_jKept
           have z163 : (σ67 2 0).toInt = (σ 2 0).toInt := (congrArg Int32.toInt (show σ67 2 0 = (σ 2 0) from ((congrFun (f69 2 (of_decide_eq_true rfl)) 0).trans (congrFun (f52 2 (of_decide_eq_true rfl)) 0))))
           have z164 : (σ67 55 6).toInt = (σ 55 6).toInt := (congrArg Int32.toInt (show σ67 55 6 = (σ 55 6) from ((f70 6 (of_decide_eq_true rfl)).trans (congrFun (f52 55 (of_decide_eq_true rfl)) 6))))
           have z165 : (σ67 2 2).toInt = (σ 2 2).toInt := (congrArg Int32.toInt (show σ67 2 2 = (σ 2 2) from ((congrFun (f69 2 (of_decide_eq_true rfl)) 2).trans (congrFun (f52 2 (of_decide_eq_true rfl)) 2))))
           have z166 : (σ67 55 5).toInt = (σ 55 5).toInt := (congrArg Int32.toInt (show σ67 55 5 = (σ 55 5) from ((f70 5 (of_decide_eq_true rfl)).trans (congrFun (f52 55 (of_decide_eq_true rfl)) 5))))
           have z167 : (σ67 2 3).toInt = (σ 2 3).toInt := (congrArg Int32.toInt (show σ67 2 3 = (σ 2 3) from ((congrFun (f69 2 (of_decide_eq_true rfl)) 3).trans (congrFun (f52 2 (of_decide_eq_true rfl)) 3))))
           have z168 : (σ67 55 4).toInt = (σ 55 4).toInt := (congrArg Int32.toInt (show σ67 55 4 = (σ 55 4) from ((f70 4 (of_decide_eq_true rfl)).trans (congrFun (f52 55 (of_decide_eq_true rfl)) 4))))
           have z169 : (σ67 9 0).toInt = (σ 9 0).toInt := (congrArg Int32.toInt (show σ67 9 0 = (σ 9 0) from ((congrFun (f69 9 (of_decide_eq_true rfl)) 0).trans (congrFun (f52 9 (of_decide_eq_true rfl)) 0))))
           have z170 : (σ67 55 15).toInt = (σ 55 15).toInt := (congrArg Int32.toInt (show σ67 55 15 = (σ 55 15) from ((f70 15 (of_decide_eq_true rfl)).trans (congrFun (f52 55 (of_decide_eq_true rfl)) 15))))
           have z171 : (σ67 16 0).toInt = (σ 16 0).toInt := (congrArg Int32.toInt (show σ67 16 0 = (σ 16 0) from ((congrFun (f69 16 (of_decide_eq_true rfl)) 0).trans (congrFun (f52 16 (of_decide_eq_true rfl)) 0))))
           have z172 : (σ67 55 10).toInt = (σ 55 10).toInt := (congrArg Int32.toInt (show σ67 55 10 = (σ 55 10) from ((f70 10 (of_decide_eq_true rfl)).trans (congrFun (f52 55 (of_decide_eq_true rfl)) 10))))
           have z173 : (σ67 16 1).toInt = (σ 16 1).toInt := (congrArg Int32.toInt (show σ67 16 1 = (σ 16 1) from ((congrFun (f69 16 (of_decide_eq_true rfl)) 1).trans (congrFun (f52 16 (of_decide_eq_true rfl)) 1))))
           have z174 : (σ67 16 2).toInt = (σ 16 2).toInt := (congrArg Int32.toInt (show σ67 16 2 = (σ 16 2) from ((congrFun (f69 16 (of_decide_eq_true rfl)) 2).trans (congrFun (f52 16 (of_decide_eq_true rfl)) 2))))
           have z175 : (σ67 55 13).toInt = (σ 55 13).toInt := (congrArg Int32.toInt (show σ67 55 13 = (σ 55 13) from ((f70 13 (of_decide_eq_true rfl)).trans (congrFun (f52 55 (of_decide_eq_true rfl)) 13))))
           have z176 : (σ67 38 0).toInt = (σ 38 0).toInt := (congrArg Int32.toInt (show σ67 38 0 = (σ 38 0) from ((congrFun (f69 38 (of_decide_eq_true rfl)) 0).trans (congrFun (f52 38 (of_decide_eq_true rfl)) 0))))
           have z177 : (σ67 55 32).toInt = (σ 55 32).toInt := (congrArg Int32.toInt (show σ67 55 32 = (σ 55 32) from ((f70 32 (of_decide_eq_true rfl)).trans (congrFun (f52 55 (of_decide_eq_true rfl)) 32))))
           have z178 : (σ67 38 1).toInt = (σ 38 1).toInt := (congrArg Int32.toInt (show σ67 38 1 = (σ 38 1) from ((congrFun (f69 38 (of_decide_eq_true rfl)) 1).trans (congrFun (f52 38 (of_decide_eq_true rfl)) 1))))
           have z179 : (σ67 55 55).toInt = (σ 55 55).toInt := (congrArg Int32.toInt (show σ67 55 55 = (σ 55 55) from ((f70 55 (of_decide_eq_true rfl)).trans (congrFun (f52 55 (of_decide_eq_true rfl)) 55))))
           have z180 : (σ67 47 0).toInt = (σ50 47 0).toInt := (congrArg Int32.toInt (show σ67 47 0 = (σ50 47 0) from (congrFun (f69 47 (of_decide_eq_true rfl)) 0)))
           have z181 : (σ67 55 30).toInt = (σ 55 30).toInt := (congrArg Int32.toInt (show σ67 55 30 = (σ 55 30) from ((f70 30 (of_decide_eq_true rfl)).trans (congrFun (f52 55 (of_decide_eq_true rfl)) 30))))
           have z182 : (σ67 55 31).toInt = (σ 55 31).toInt := (congrArg Int32.toInt (show σ67 55 31 = (σ 55 31) from ((f70 31 (of_decide_eq_true rfl)).trans (congrFun (f52 55 (of_decide_eq_true rfl)) 31))))
           exact by exact ih x140 σ67 τ _ _ ls (by have h9 := tx140; omega) ⟨I141, I142, I143, I144, I145, I146, I147, I148, I149, I150, I151, I152, I153, I154, I155, I156, I157, I71, I158, I159, I160, I161, p162, p73, (by omega), (by omega), (by omega), (by omega), (by omega), (by omega), (by omega), (by omega), (by omega), (by omega), (by omega), (by omega), (show jNumP (σ67 3) (σ67 56) (σ67 6) (σ67 57) (σ67 7) (σ67 58) (σ67 8) (σ67 59) (σ67 55 6).toInt (σ67 55 4).toInt by rw [show σ67 3 = σ 3 from ((f69 3 (of_decide_eq_true rfl)).trans (f52 3 (of_decide_eq_true rfl))), show σ67 56 = σ 56 from ((f69 56 (of_decide_eq_true rfl)).trans (f52 56 (of_decide_eq_true rfl))), show σ67 6 = σ 6 from ((f69 6 (of_decide_eq_true rfl)).trans (f52 6 (of_decide_eq_true rfl))), show σ67 57 = σ 57 from ((f69 57 (of_decide_eq_true rfl)).trans (f52 57 (of_decide_eq_true rfl))), show σ67 7 = σ 7 from ((f69 7 (of_decide_eq_true rfl)).trans (f52 7 (of_decide_eq_true rfl))), show σ67 58 = σ 58 from ((f69 58 (of_decide_eq_true rfl)).trans (f52 58 (of_decide_eq_true rfl))), show σ67 8 = σ 8 from ((f69 8 (of_decide_eq_true rfl)).trans (f52 8 (of_decide_eq_true rfl))), show σ67 59 = σ 59 from ((f69 59 (of_decide_eq_true rfl)).trans (f52 59 (of_decide_eq_true rfl))), show (σ67 55 6).toInt = (σ 55 6).toInt from by omega, show (σ67 55 4).toInt = (σ 55 4).toInt from by omega]; exact hr0), (show jOvP (σ67 56) (σ67 57) (σ67 58) (σ67 59) (σ67 55 4).toInt by rw [show σ67 56 = σ 56 from ((f69 56 (of_decide_eq_true rfl)).trans (f52 56 (of_decide_eq_true rfl))), show σ67 57 = σ 57 from ((f69 57 (of_decide_eq_true rfl)).trans (f52 57 (of_decide_eq_true rfl))), show σ67 58 = σ 58 from ((f69 58 (of_decide_eq_true rfl)).trans (f52 58 (of_decide_eq_true rfl))), show σ67 59 = σ 59 from ((f69 59 (of_decide_eq_true rfl)).trans (f52 59 (of_decide_eq_true rfl))), show (σ67 55 4).toInt = (σ 55 4).toInt from by omega]; exact hr1), (show jTp (σ67 10) (σ67 63) (σ67 55 15).toInt by rw [show σ67 10 = σ 10 from ((f69 10 (of_decide_eq_true rfl)).trans (f52 10 (of_decide_eq_true rfl))), show σ67 63 = σ 63 from ((f69 63 (of_decide_eq_true rfl)).trans (f52 63 (of_decide_eq_true rfl)))]; exact hr2.le (by omega)), (show jSo (σ67 17) (σ67 62) (σ67 16 0).toInt by rw [show σ67 17 = σ 17 from ((f69 17 (of_decide_eq_true rfl)).trans (f52 17 (of_decide_eq_true rfl))), show σ67 62 = σ 62 from ((f69 62 (of_decide_eq_true rfl)).trans (f52 62 (of_decide_eq_true rfl))), show (σ67 16 0).toInt = (σ 16 0).toInt from by omega]; exact hr3), (show jShP (σ67 51) (σ67 52) (σ67 53) (σ67 86) (σ67 87) (σ67 55 32).toInt by rw [show σ67 51 = σ 51 from ((f69 51 (of_decide_eq_true rfl)).trans (f52 51 (of_decide_eq_true rfl))), show σ67 52 = σ 52 from ((f69 52 (of_decide_eq_true rfl)).trans (f52 52 (of_decide_eq_true rfl))), show σ67 53 = σ 53 from ((f69 53 (of_decide_eq_true rfl)).trans (f52 53 (of_decide_eq_true rfl))), show σ67 86 = σ 86 from ((f69 86 (of_decide_eq_true rfl)).trans (f52 86 (of_decide_eq_true rfl))), show σ67 87 = σ 87 from ((f69 87 (of_decide_eq_true rfl)).trans (f52 87 (of_decide_eq_true rfl)))]; exact (hr4.up (by omega) (by omega))), (show jEl (σ67 51) (σ67 52) (τ 54) (τ 88) by rw [show σ67 51 = σ 51 from ((f69 51 (of_decide_eq_true rfl)).trans (f52 51 (of_decide_eq_true rfl))), show σ67 52 = σ 52 from ((f69 52 (of_decide_eq_true rfl)).trans (f52 52 (of_decide_eq_true rfl)))]; exact hr5), (show jByP (σ67 51) (σ67 52) (τ 54) by rw [show σ67 51 = σ 51 from ((f69 51 (of_decide_eq_true rfl)).trans (f52 51 (of_decide_eq_true rfl))), show σ67 52 = σ 52 from ((f69 52 (of_decide_eq_true rfl)).trans (f52 52 (of_decide_eq_true rfl)))]; exact hr6), (show jBk (σ67 48) (σ67 80) (σ67 49) (σ67 81) (σ67 55 47).toInt by rw [show σ67 48 = σ50 48 from (f69 48 (of_decide_eq_true rfl)), show σ67 49 = σ50 49 from (f69 49 (of_decide_eq_true rfl)), show (σ67 55 47).toInt = (σ50 47 0).toInt from by omega]; exact p84), (show jKd (σ67 39) (σ67 70) (σ67 55 32).toInt by rw [show σ67 39 = σ 39 from ((f69 39 (of_decide_eq_true rfl)).trans (f52 39 (of_decide_eq_true rfl))), show σ67 70 = σ 70 from ((f69 70 (of_decide_eq_true rfl)).trans (f52 70 (of_decide_eq_true rfl))), show (σ67 55 32).toInt = (σ 55 32).toInt from by omega]; exact hr8), (show jTt (σ67 42) (σ67 85) (σ67 55 55).toInt by rw [show σ67 42 = σ 42 from ((f69 42 (of_decide_eq_true rfl)).trans (f52 42 (of_decide_eq_true rfl))), show σ67 85 = σ 85 from ((f69 85 (of_decide_eq_true rfl)).trans (f52 85 (of_decide_eq_true rfl))), show (σ67 55 55).toInt = (σ 55 55).toInt from by omega]; exact hr9)⟩ hP hS (lv_sub hl [0, 1, 2, 3] rfl)
set_option maxHeartbeats 4000000 in
set_option maxRecDepth 100000 in
theorem law_case_20 {p : Program} {e : Env} {s : State} {m : MethodId} {below : List Frame} {meth : Method} {c : Code} (l : Launch) {b L : Nat} {xs : Nat → Int32} {D : va_G} {cI cL : ClassId} {ad zz : Nat → Nat} (C0 : lw_At p s m meth c b L xs) (hJ : jD ad) (hA : ∀ q, jA ad q → s.heap.size ≤ q) (hK : jK D cI cL s) (hZ : jZ zz (fun q : Nat => s.heap.size ≤ q) s s.heap) {x0 : Int32} (hx0 : 0 ≤ x0.toInt) (hxL : x0.toInt + 6 ≤ (L : Int)) (hL : L ≤ 384) {σ : Nat → Nat → Int32} {τ : Nat → Nat → Int64} {H : Heap} {locs : List Loc} (hS : va_S (fun q : Nat => s.heap.size ≤ q) s.heap H locs) {ls : Array Slot} (hAll : jAll σ τ) (hP : jH D cI cL ad σ τ H) (hl : lv_has ls 4 [(3, .int x0), (2, .ref (ad 55)), (1, .ref (ad 0)), (0, .ref b)]) (ih : ∀ (x1 : Int32) (σ : Nat → Nat → Int32) (τ : Nat → Nat → Int64) (H : Heap) (locs : List Loc) (ls : Array Slot), x1.toInt = x0.toInt + 6 → jAll σ τ → jH D cI cL ad σ τ H → va_S (fun q : Nat => s.heap.size ≤ q) s.heap H locs → lv_has ls 4 [(3, .int x1), (2, .ref (ad 55)), (1, .ref (ad 0)), (0, .ref b)] → W p l e room_1 s m #[Value.ref b] below meth c H locs 90 348600 (lw_Z below #[Value.ref b] s) (F0 m 18 ls [])) : W p l e room_1 s m #[Value.ref b] below meth c H locs 90 348600 (lw_Z below #[Value.ref b] s) (F0 m 806 ls []) := by
  obtain ⟨hx, hb, hr, hml, hown, hts0, hX, hbl, hlocks, hgv⟩ := C0
  have hts : ∀ w ∈ wsL_law, w.before #[Value.ref b] s = true := fun w h => hts0 w (wsL_law_in w h)
  have hbA : ¬ (fun q : Nat => s.heap.size ≤ q) b := Nat.not_le.mpr hbl
  have hown : s.vm.findClass RL = some m.cls := hown
  obtain ⟨hI2, hI9, hI12, hI16, hI18, hI22, hI31, hI38, hI43, hI47, hI50, hI101, hI102, hI103, hI104, hI105, hI106, hI107, hI109, hI110, hI111, hI119, hs_jKept, hs_jBook, ht0, ht1, ht2, ht3, ht4, ht5, ht6, ht7, ht8, ht9, ht10, ht11, hr0, hr1, hr2, hr3, hr4, hr5, hr6, hr7, hr8, hr9⟩ := hAll
  have hL9 : (L : Int) ≤ 384 := by omega
  obtain ⟨i1, i2, i3, i4, i5, w6⟩ : (0 ≤ (σ 2 0).toInt ∧ (σ 2 0).toInt ≤ 4) ∧ (0 ≤ (σ 2 1).toInt ∧ (σ 2 1).toInt ≤ 3) ∧ (0 ≤ (σ 2 2).toInt) ∧ (0 ≤ (σ 2 3).toInt) ∧ ((σ 2 2).toInt + (σ 2 3).toInt ≤ 40) ∧ (∀ k : Nat, k < 40 → 0 ≤ (σ 6 k).toInt ∧ (σ 6 k).toInt ≤ 67) := id hI2
  obtain ⟨i7, w8, w9⟩ : (0 ≤ (σ 9 0).toInt ∧ (σ 9 0).toInt ≤ 80) ∧ (∀ k : Nat, k < 80 → 0 ≤ (σ 10 k).toInt ∧ (σ 10 k).toInt ≤ 255) ∧ (∀ k : Nat, k < 8 → 0 ≤ (σ 11 k).toInt ∧ (σ 11 k).toInt ≤ 3) := id hI9
  obtain ⟨i10, i11, i12, w13⟩ : (1 ≤ (σ 16 0).toInt ∧ (σ 16 0).toInt ≤ 8) ∧ (1 ≤ (σ 16 1).toInt ∧ (σ 16 1).toInt ≤ 12) ∧ (0 ≤ (σ 16 2).toInt ∧ (σ 16 2).toInt ≤ 999) ∧ (∀ k : Nat, k < 8 → 0 ≤ (σ 17 k).toInt ∧ (σ 17 k).toInt ≤ 3) := id hI16
  obtain ⟨i14, i15, w16⟩ : (0 ≤ (σ 38 0).toInt ∧ (σ 38 0).toInt ≤ 20) ∧ (0 ≤ (σ 38 1).toInt ∧ (σ 38 1).toInt ≤ 1000) ∧ (∀ k : Nat, k < 20 → 0 ≤ (σ 39 k).toInt ∧ (σ 39 k).toInt ≤ 6) := id hI38
  obtain ⟨i17, w18, w19⟩ : (0 ≤ (σ 47 0).toInt ∧ (σ 47 0).toInt ≤ 12) ∧ (∀ k : Nat, k < 12 → 0 ≤ (σ 48 k).toInt ∧ (σ 48 k).toInt ≤ 3) ∧ (∀ k : Nat, k < 12 → 0 ≤ (σ 49 k).toInt ∧ (σ 49 k).toInt ≤ 1) := id hI47
  have w20 : ∀ k : Nat, k < 6 → 0 ≤ (σ 52 k).toInt ∧ (σ 52 k).toInt ≤ 60 := hI50
  obtain ⟨i21, i22, i23, w24, w25, w26, w27⟩ : (0 ≤ (σ 55 5).toInt) ∧ ((σ 55 5).toInt ≤ (σ 55 4).toInt) ∧ ((σ 55 4).toInt ≤ 40) ∧ (∀ k : Nat, k < 68 → (-200) ≤ (σ 56 k).toInt ∧ (σ 56 k).toInt ≤ 500) ∧ (∀ k : Nat, k < 40 → 0 ≤ (σ 57 k).toInt ∧ (σ 57 k).toInt ≤ 67) ∧ (∀ k : Nat, k < 40 → (-200) ≤ (σ 58 k).toInt ∧ (σ 58 k).toInt ≤ 500) ∧ (∀ k : Nat, k < 40 → (-200) ≤ (σ 59 k).toInt ∧ (σ 59 k).toInt ≤ 500) := id hI101
  obtain ⟨i28, w29, w30⟩ : (0 ≤ (σ 55 6).toInt ∧ (σ 55 6).toInt ≤ 4) ∧ (∀ k : Nat, k < 4 → 0 ≤ (σ 60 k).toInt ∧ (σ 60 k).toInt ≤ 50) ∧ (∀ k : Nat, k < 4 → 0 ≤ (σ 61 k).toInt ∧ (σ 61 k).toInt ≤ 20) := id hI102
  obtain ⟨i31, i32, i33, w34, w35⟩ : (1 ≤ (σ 55 10).toInt ∧ (σ 55 10).toInt ≤ 8) ∧ (1 ≤ (σ 55 12).toInt ∧ (σ 55 12).toInt ≤ 12) ∧ (0 ≤ (σ 55 13).toInt ∧ (σ 55 13).toInt ≤ 999) ∧ (∀ k : Nat, k < 8 → 0 ≤ (σ 62 k).toInt ∧ (σ 62 k).toInt ≤ 3) ∧ (∀ k : Nat, k < 8 → 0 ≤ (σ 67 k).toInt ∧ (σ 67 k).toInt ≤ 3) := id hI104
  obtain ⟨i36, w37⟩ : (0 ≤ (σ 55 15).toInt ∧ (σ 55 15).toInt ≤ 80) ∧ (∀ k : Nat, k < 2 → (-1) ≤ (σ 65 k).toInt ∧ (σ 65 k).toInt ≤ 80) := id hI105
  obtain ⟨i38, w39, w40, w41⟩ : (0 ≤ (σ 55 32).toInt ∧ (σ 55 32).toInt ≤ 20) ∧ (∀ k : Nat, k < 20 → 0 ≤ (σ 70 k).toInt ∧ (σ 70 k).toInt ≤ 6) ∧ (∀ k : Nat, k < 20 → 0 ≤ (σ 71 k).toInt ∧ (σ 71 k).toInt ≤ 8) ∧ (∀ k : Nat, k < 160 → 0 ≤ (σ 72 k).toInt ∧ (σ 72 k).toInt ≤ 3) := id hI106
  obtain ⟨i42, i43, w44⟩ : (0 ≤ (σ 55 47).toInt ∧ (σ 55 47).toInt ≤ 12) ∧ ((σ 55 47).toInt ≤ (σ 55 12).toInt) ∧ (∀ k : Nat, k < 12 → 0 ≤ (σ 80 k).toInt ∧ (σ 80 k).toInt ≤ 3) := id hI107
  refine lv_aload_n hx hb dL_law_806 rfl (lv_at hl 2 rfl) ?_
  refine lv_aload_n hx hb dL_law_807 rfl (lv_at hl 3 rfl) ?_
  refine lv_iload_n hx hb dL_law_808 rfl (lv_at hl 0 rfl) ?_
  refine lv_iconst (v := 1) hx hb dL_law_809 (of_decide_eq_true rfl) ?_
  have g45 := jrg (rfl : x0.toInt = x0.toInt)
  refine lv_iadd hx hb dL_law_810 ?_
  refine lv_topi (fun x46 ex46 => ?_)
  exact by
   have tx46 : x46.toInt = x0.toInt + 1 := (jadd ex46 rfl jz_1 (by omega) (by omega)).trans (by omega)
   refine va_sld hx hb hX hbl hbA hS (jin tx46 (by omega) (by omega)) dL_law_811 ?_
   have g47 := jrg (rfl : (xs x46.toNatClampNeg).toInt = (xs x46.toNatClampNeg).toInt)
   refine lv_aload_n hx hb dL_law_812 rfl (lv_at hl 3 rfl) ?_
   refine lv_iload_n hx hb dL_law_813 rfl (lv_at hl 0 rfl) ?_
   refine lv_iconst (v := 2) hx hb dL_law_814 (of_decide_eq_true rfl) ?_
   refine lv_iadd hx hb dL_law_815 ?_
   refine lv_topi (fun x48 ex48 => ?_)
   have tx48 : x48.toInt = x0.toInt + 2 := (jadd ex48 rfl jz_2 (by omega) (by omega)).trans (by omega)
   exact by
    refine va_sld hx hb hX hbl hbA hS (jin tx48 (by omega) (by omega)) dL_law_816 ?_
    have g49 := jrg (rfl : (xs x48.toNatClampNeg).toInt = (xs x48.toNatClampNeg).toInt)
    refine jcallV (As := [.int (xs x46.toNatClampNeg), .int (xs x48.toNatClampNeg)]) (rest := []) ⟨hx, hb, hml, hown, hts⟩ hK hP hA hS hZ (c_X11_books l D cI cL ad zz hJ σ τ (xs x46.toNatClampNeg) ((xs x46.toNatClampNeg).toInt) rfl (xs x48.toNatClampNeg) ((xs x48.toNatClampNeg).toInt) rfl hI2 hI16 hI47 hI50) cw_RL_97 (jc_0 cI cL ad σ τ) rfl ⟨Nat.le_of_ble_eq_true rfl, Nat.le_of_ble_eq_true rfl⟩ rfl rfl rfl hl.1 rfl (Nat.le_of_ble_eq_true rfl) dL_law_817 ⟨Nat.le_of_ble_eq_true rfl, Nat.le_of_ble_eq_true rfl⟩ (fun r51 σ50 τ50 H locs h50 hP hS => ?_)
    obtain ⟨rfl, f52, f53, I54, w55, h50⟩ := h50
    obtain ⟨i57, w58, w59⟩ : (0 ≤ (σ50 47 0).toInt ∧ (σ50 47 0).toInt ≤ 12) ∧ (∀ k : Nat, k < 12 → 0 ≤ (σ50 48 k).toInt ∧ (σ50 48 k).toInt ≤ 3) ∧ (∀ k : Nat, k < 12 → 0 ≤ (σ50 49 k).toInt ∧ (σ50 49 k).toInt ≤ 1) := id I54
    refine lv_pop hx hb dL_law_820 rfl ?_
    refine lv_aload_n hx hb dL_law_821 rfl (lv_at hl 1 rfl) ?_
    refine lv_aload_n hx hb dL_law_822 rfl (lv_at hl 3 rfl) ?_
    refine lv_iload_n hx hb dL_law_823 rfl (lv_at hl 0 rfl) ?_
    refine lv_iconst (v := 1) hx hb dL_law_824 (of_decide_eq_true rfl) ?_
    refine lv_iadd hx hb dL_law_825 ?_
    refine jtopr ex46.symm ?_
    exact by
     refine va_sld hx hb hX hbl hbA hS (jin tx46 (by omega) (by omega)) dL_law_826 ?_
     refine lv_aload_n hx hb dL_law_827 rfl (lv_at hl 3 rfl) ?_
     refine lv_iload_n hx hb dL_law_828 rfl (lv_at hl 0 rfl) ?_
     refine lv_iconst (v := 2) hx hb dL_law_829 (of_decide_eq_true rfl) ?_
     refine lv_iadd hx hb dL_law_830 ?_
     refine jtopr ex48.symm ?_
     refine va_sld hx hb hX hbl hbA hS (jin tx48 (by omega) (by omega)) dL_law_831 ?_
     have I60 : jI102 σ50 := jI102_fr (congrFun (f52 55 (of_decide_eq_true rfl)) 6) (f52 60 (of_decide_eq_true rfl)) (f52 61 (of_decide_eq_true rfl)) hI102
     have I61 : jI104 σ50 := jI104_fr (congrFun (f52 55 (of_decide_eq_true rfl)) 10) (congrFun (f52 55 (of_decide_eq_true rfl)) 12) (congrFun (f52 55 (of_decide_eq_true rfl)) 13) (f52 62 (of_decide_eq_true rfl)) (f52 67 (of_decide_eq_true rfl)) hI104
     exact by
      have I62 : jI107 σ50 := jI107_fr (congrFun (f52 55 (of_decide_eq_true rfl)) 12) (congrFun (f52 55 (of_decide_eq_true rfl)) 47) (f52 80 (of_decide_eq_true rfl)) hI107
      have I63 : jI110 σ50 := jI110_fr (f52 86 (of_decide_eq_true rfl)) (f52 87 (of_decide_eq_true rfl)) hI110
      have I64 : jI119 σ50 := jI119_fr (f52 68 (of_decide_eq_true rfl)) hI119
      have p65 : jBook σ50 := jBook.fr (congrFun (f52 55 (of_decide_eq_true rfl)) 47) (congrFun (f52 55 (of_decide_eq_true rfl)) 10) (f52 81 (of_decide_eq_true rfl)) hs_jBook
      refine jcallV (As := [.int (xs x46.toNatClampNeg), .int (xs x48.toNatClampNeg)]) (rest := []) ⟨hx, hb, hml, hown, hts⟩ hK hP hA hS hZ (c_X12_books l D cI cL ad zz hJ σ50 τ (xs x46.toNatClampNeg) ((xs x46.toNatClampNeg).toInt) rfl (xs x48.toNatClampNeg) ((xs x48.toNatClampNeg).toInt) rfl I60 I61 I62 I63 I64 p65) cw_RL_100 (jc_55 cI cL ad σ50 τ) rfl ⟨Nat.le_of_ble_eq_true rfl, Nat.le_of_ble_eq_true rfl⟩ rfl rfl rfl hl.1 rfl (Nat.le_of_ble_eq_true rfl) dL_law_832 ⟨Nat.le_of_ble_eq_true rfl, Nat.le_of_ble_eq_true rfl⟩ (fun r67 σ66 τ66 H locs h66 hP hS => ?_)
      obtain ⟨rfl, f68, f69, I70, I71, p72, w73, h66⟩ := h66
      obtain ⟨i75, i76, w77⟩ : (0 ≤ (σ66 55 47).toInt ∧ (σ66 55 47).toInt ≤ 12) ∧ ((σ66 55 47).toInt ≤ (σ66 55 12).toInt) ∧ (∀ k : Nat, k < 12 → 0 ≤ (σ66 80 k).toInt ∧ (σ66 80 k).toInt ≤ 3) := id I70
      have z78 : (σ50 55 6).toInt = (σ 55 6).toInt := (congrArg Int32.toInt (show σ50 55 6 = (σ 55 6) from (congrFun (f52 55 (of_decide_eq_true rfl)) 6)))
      have z79 : (σ50 55 47).toInt = (σ 55 47).toInt := (congrArg Int32.toInt (show σ50 55 47 = (σ 55 47) from (congrFun (f52 55 (of_decide_eq_true rfl)) 47)))
      have z80 : (σ50 55 10).toInt = (σ 55 10).toInt := (congrArg Int32.toInt (show σ50 55 10 = (σ 55 10) from (congrFun (f52 55 (of_decide_eq_true rfl)) 10)))
      have z81 : (σ50 55 12).toInt = (σ 55 12).toInt := (congrArg Int32.toInt (show σ50 55 12 = (σ 55 12) from (congrFun (f52 55 (of_decide_eq_true rfl)) 12)))
      have z82 : (σ50 55 30).toInt = (σ 55 30).toInt := (congrArg Int32.toInt (show σ50 55 30 = (σ 55 30) from (congrFun (f52 55 (of_decide_eq_true rfl)) 30)))
      have z83 : (σ50 55 31).toInt = (σ 55 31).toInt := (congrArg Int32.toInt (show σ50 55 31 = (σ 55 31) from (congrFun (f52 55 (of_decide_eq_true rfl)) 31)))
      rw [show (σ50 55 6).toInt = (σ 55 6).toInt from by omega, show (σ50 55 47).toInt = (σ 55 47).toInt from by omega, show (σ50 55 10).toInt = (σ 55 10).toInt from by omega, show (σ50 55 12).toInt = (σ 55 12).toInt from by omega, show (σ50 55 30).toInt = (σ 55 30).toInt from by omega, show (σ50 55 31).toInt = (σ 55 31).toInt from by omega, show σ50 56 = σ 56 from (f52 56 (of_decide_eq_true rfl)), show σ50 80 = σ 80 from (f52 80 (of_decide_eq_true rfl)), show σ50 81 = σ 81 from (f52 81 (of_decide_eq_true rfl)), show σ50 86 = σ 86 from (f52 86 (of_decide_eq_true rfl)), show σ50 87 = σ 87 from (f52 87 (of_decide_eq_true rfl))] at w73
      rw [show (σ 2 0).toInt = (σ 55 6).toInt from by omega, show (σ 47 0).toInt = (σ 55 47).toInt from by omega, show (σ 16 0).toInt = (σ 55 10).toInt from by omega, show (σ 16 1).toInt = (σ 55 12).toInt from by omega] at w55
      have p84 := jBb.det (J := 0) hr7 (w55 (hr0.ok hr1.1) (fun d0 d5 z q hq => by
          rw [jnc (rfl : (xs x46.toNatClampNeg).toInt = (xs x46.toNatClampNeg).toInt)] at z hq
          exact by
           have w := hr6 ((xs x46.toNatClampNeg).toInt).toNat (by omega) z q hq
           rw [show 60 * ((xs x46.toNatClampNeg).toInt).toNat + q = (60 * ((xs x46.toNatClampNeg).toInt) + (q : Int)).toNat by omega] at w; exact w)) (w73 (by omega) (by omega) hr1.1) Iff.rfl (fun z => by
           rcases hr4.at (d := (xs x46.toNatClampNeg)) (by omega) (by omega) with ⟨x1, x2⟩ | ⟨x1, x2, x3, x4⟩ | ⟨x1, x2, x3, x4, x5⟩
           · omega
           · have x5 : (σ 86 (xs x46.toNatClampNeg).toNatClampNeg).toInt = (σ 53 (xs x46.toNatClampNeg).toNatClampNeg).toInt := by rw [x2]
             have hn9 := hr4.1
             omega
           · omega) (fun z1 z2 s1 s2 => by
           have hx := hr4.at (d := (xs x46.toNatClampNeg)) (by omega) (by omega)
           exact by
            have hL : (if (σ 51 (xs x46.toNatClampNeg).toNatClampNeg).toInt = 0 ∧ 0 ≤ (xs x48.toNatClampNeg).toInt then (σ 52 (xs x46.toNatClampNeg).toNatClampNeg).toInt - ((xs x48.toNatClampNeg).toInt) else 0) = (if (σ 86 (xs x46.toNatClampNeg).toNatClampNeg).toInt = 20 ∧ 0 ≤ (xs x48.toNatClampNeg).toInt then (σ 87 (xs x46.toNatClampNeg).toNatClampNeg).toInt - ((xs x48.toNatClampNeg).toInt) else 0) := by
              rcases hx with ⟨x1, x2⟩ | ⟨x1, x2, x3, x4⟩ | ⟨x1, x2, x3, x4, x5⟩
              · rw [if_neg (by omega), if_neg (by omega)]
              · have x5 : (σ 86 (xs x46.toNatClampNeg).toNatClampNeg).toInt = (σ 53 (xs x46.toNatClampNeg).toNatClampNeg).toInt := by rw [x2]
                have hn9 := hr4.1
                rw [if_neg (by omega), if_neg (by omega)]
              · by_cases c : (σ 51 (xs x46.toNatClampNeg).toNatClampNeg).toInt = 0 ∧ 0 ≤ (xs x48.toNatClampNeg).toInt
                · rw [if_pos c, if_pos (by omega), x5]
                · rw [if_neg c, if_neg (by omega)]
            rw [← hL] at s2
            exact by
             refine jBs.det (fun k hk => ?_) hr0.t4 s1 s2
             by_cases c : (σ 51 (xs x46.toNatClampNeg).toNatClampNeg).toInt = 0 ∧ 0 ≤ (xs x48.toNatClampNeg).toInt
             · rw [if_pos c] at hk
               show τ 54 (60 * ((xs x46.toNatClampNeg).toInt) + ((xs x48.toNatClampNeg).toInt) + (k : Int)).toNat = τ 88 (60 * ((xs x46.toNatClampNeg).toInt) + ((xs x48.toNatClampNeg).toInt) + (k : Int)).toNat
               obtain ⟨c1, c2⟩ := c
               rw [jnc (rfl : (xs x46.toNatClampNeg).toInt = (xs x46.toNatClampNeg).toInt)] at c1 hk
               have hd : 0 ≤ (xs x46.toNatClampNeg).toInt ∧ (xs x46.toNatClampNeg).toInt ≤ 5 := by omega
               have w := hr5 ((xs x46.toNatClampNeg).toInt).toNat (by omega) (by omega) (((xs x48.toNatClampNeg).toInt).toNat + k) (by omega)
               rw [show (60 * ((xs x46.toNatClampNeg).toInt) + ((xs x48.toNatClampNeg).toInt) + (k : Int)).toNat = 60 * ((xs x46.toNatClampNeg).toInt).toNat + (((xs x48.toNatClampNeg).toInt).toNat + k) by omega]; exact w
             · rw [if_neg c] at hk; exact absurd hk (by omega)) rfl
      exact by
       obtain ⟨k85, k86, p84⟩ := p84
       have z87 : (σ66 55 12).toInt = (σ 55 12).toInt := (congrArg Int32.toInt (show σ66 55 12 = (σ 55 12) from ((f69 12 (of_decide_eq_true rfl)).trans (congrFun (f52 55 (of_decide_eq_true rfl)) 12))))
       refine lv_pop hx hb dL_law_835 rfl ?_
       refine lv_goto (tgt := 1357) hx hb dL_law_836 (of_decide_eq_true rfl) ?_
       obtain ⟨x88, ex88⟩ : ∃ y : Int32, y = x0 + 6 := ⟨_, rfl⟩
       have tx88 : x88.toInt = x0.toInt + 6 := (jadd ex88 rfl jz_6 (by omega) (by omega)).trans (by omega)
       refine lv_iinc (v := x88) (lv' := [(3, .int x88), (2, .ref (ad 55)), (1, .ref (ad 0)), (0, .ref b)]) hx hb dL_law_1357 hl (k := 0) rfl (by rw [ex88]; rfl) (of_decide_eq_true rfl) rfl (fun ls hl => ?_)
       refine lv_goto (tgt := 18) hx hb dL_law_1360 (of_decide_eq_true rfl) ?_
       have I89 : jI2 σ66 := jI2_fr ((congrFun (f68 2 (of_decide_eq_true rfl)) 0).trans (congrFun (f52 2 (of_decide_eq_true rfl)) 0)) ((congrFun (f68 2 (of_decide_eq_true rfl)) 1).trans (congrFun (f52 2 (of_decide_eq_true rfl)) 1)) ((congrFun (f68 2 (of_decide_eq_true rfl)) 2).trans (congrFun (f52 2 (of_decide_eq_true rfl)) 2)) ((congrFun (f68 2 (of_decide_eq_true rfl)) 3).trans (congrFun (f52 2 (of_decide_eq_true rfl)) 3)) ((f68 6 (of_decide_eq_true rfl)).trans (f52 6 (of_decide_eq_true rfl))) hI2
       exact by
        have I90 : jI9 σ66 := jI9_fr ((congrFun (f68 9 (of_decide_eq_true rfl)) 0).trans (congrFun (f52 9 (of_decide_eq_true rfl)) 0)) ((f68 10 (of_decide_eq_true rfl)).trans (f52 10 (of_decide_eq_true rfl))) ((f68 11 (of_decide_eq_true rfl)).trans (f52 11 (of_decide_eq_true rfl))) hI9
        have I91 : jI12 σ66 := jI12_fr ((congrFun (f68 12 (of_decide_eq_true rfl)) 0).trans (congrFun (f52 12 (of_decide_eq_true rfl)) 0)) ((f68 13 (of_decide_eq_true rfl)).trans (f52 13 (of_decide_eq_true rfl))) hI12
        have I92 : jI16 σ66 := jI16_fr ((congrFun (f68 16 (of_decide_eq_true rfl)) 0).trans (congrFun (f52 16 (of_decide_eq_true rfl)) 0)) ((congrFun (f68 16 (of_decide_eq_true rfl)) 1).trans (congrFun (f52 16 (of_decide_eq_true rfl)) 1)) ((congrFun (f68 16 (of_decide_eq_true rfl)) 2).trans (congrFun (f52 16 (of_decide_eq_true rfl)) 2)) ((f68 17 (of_decide_eq_true rfl)).trans (f52 17 (of_decide_eq_true rfl))) hI16
        have I93 : jI18 σ66 := jI18_fr ((congrFun (f68 18 (of_decide_eq_true rfl)) 0).trans (congrFun (f52 18 (of_decide_eq_true rfl)) 0)) ((f68 19 (of_decide_eq_true rfl)).trans (f52 19 (of_decide_eq_true rfl))) hI18
        have I94 : jI22 σ66 := jI22_fr ((congrFun (f68 22 (of_decide_eq_true rfl)) 0).trans (congrFun (f52 22 (of_decide_eq_true rfl)) 0)) ((f68 23 (of_decide_eq_true rfl)).trans (f52 23 (of_decide_eq_true rfl))) hI22
        have I95 : jI31 σ66 := jI31_fr ((congrFun (f68 31 (of_decide_eq_true rfl)) 8).trans (congrFun (f52 31 (of_decide_eq_true rfl)) 8)) ((f68 33 (of_decide_eq_true rfl)).trans (f52 33 (of_decide_eq_true rfl))) ((f68 36 (of_decide_eq_true rfl)).trans (f52 36 (of_decide_eq_true rfl))) hI31
        have I96 : jI38 σ66 := jI38_fr ((congrFun (f68 38 (of_decide_eq_true rfl)) 0).trans (congrFun (f52 38 (of_decide_eq_true rfl)) 0)) ((congrFun (f68 38 (of_decide_eq_true rfl)) 1).trans (congrFun (f52 38 (of_decide_eq_true rfl)) 1)) ((f68 39 (of_decide_eq_true rfl)).trans (f52 39 (of_decide_eq_true rfl))) hI38
        have I97 : jI43 σ66 := jI43_fr ((congrFun (f68 43 (of_decide_eq_true rfl)) 8).trans (congrFun (f52 43 (of_decide_eq_true rfl)) 8)) hI43
        have I98 : jI47 σ66 := jI47_fr (congrFun (f68 47 (of_decide_eq_true rfl)) 0) (f68 48 (of_decide_eq_true rfl)) (f68 49 (of_decide_eq_true rfl)) I54
        have I99 : jI50 σ66 := jI50_fr ((f68 52 (of_decide_eq_true rfl)).trans (f52 52 (of_decide_eq_true rfl))) hI50
        have I100 : jI101 σ66 := jI101_fr ((f69 4 (of_decide_eq_true rfl)).trans (congrFun (f52 55 (of_decide_eq_true rfl)) 4)) ((f69 5 (of_decide_eq_true rfl)).trans (congrFun (f52 55 (of_decide_eq_true rfl)) 5)) ((f68 56 (of_decide_eq_true rfl)).trans (f52 56 (of_decide_eq_true rfl))) ((f68 57 (of_decide_eq_true rfl)).trans (f52 57 (of_decide_eq_true rfl))) ((f68 58 (of_decide_eq_true rfl)).trans (f52 58 (of_decide_eq_true rfl))) ((f68 59 (of_decide_eq_true rfl)).trans (f52 59 (of_decide_eq_true rfl))) hI101
        have I101 : jI102 σ66 := jI102_fr (f69 6 (of_decide_eq_true rfl)) (f68 60 (of_decide_eq_true rfl)) (f68 61 (of_decide_eq_true rfl)) I60
        have I102 : jI103 σ66 := jI103_fr ((f69 9 (of_decide_eq_true rfl)).trans (congrFun (f52 55 (of_decide_eq_true rfl)) 9)) hI103
        have I103 : jI104 σ66 := jI104_fr (f69 10 (of_decide_eq_true rfl)) (f69 12 (of_decide_eq_true rfl)) (f69 13 (of_decide_eq_true rfl)) (f68 62 (of_decide_eq_true rfl)) (f68 67 (of_decide_eq_true rfl)) I61
        have I104 : jI105 σ66 := jI105_fr ((f69 15 (of_decide_eq_true rfl)).trans (congrFun (f52 55 (of_decide_eq_true rfl)) 15)) ((f68 65 (of_decide_eq_true rfl)).trans (f52 65 (of_decide_eq_true rfl))) hI105
        have I105 : jI106 σ66 := jI106_fr ((f69 32 (of_decide_eq_true rfl)).trans (congrFun (f52 55 (of_decide_eq_true rfl)) 32)) ((f68 70 (of_decide_eq_true rfl)).trans (f52 70 (of_decide_eq_true rfl))) ((f68 71 (of_decide_eq_true rfl)).trans (f52 71 (of_decide_eq_true rfl))) ((f68 72 (of_decide_eq_true rfl)).trans (f52 72 (of_decide_eq_true rfl))) hI106
        have I106 : jI109 σ66 := jI109_fr ((f69 50 (of_decide_eq_true rfl)).trans (congrFun (f52 55 (of_decide_eq_true rfl)) 50)) hI109
        have I107 : jI110 σ66 := jI110_fr (f68 86 (of_decide_eq_true rfl)) (f68 87 (of_decide_eq_true rfl)) I63
        have I108 : jI111 σ66 := jI111_fr ((f68 79 (of_decide_eq_true rfl)).trans (f52 79 (of_decide_eq_true rfl))) hI111
        have p109 : jKept σ66 := jKept.fr ((f68 75 (of_decide_eq_true rfl)).trans (f52 75 (of_decide_eq_true rfl))) ((f68 76 (of_decide_eq_true rfl)).trans (f52 76 (of_decide_eq_true rfl))) ((f68 77 (of_decide_eq_true rfl)).trans (f52 77 (of_decide_eq_true rfl))) hs_jKept
        have z110 : (σ66 2 0).toInt = (σ 2 0).toInt := (congrArg Int32.toInt (show σ66 2 0 = (σ 2 0) from ((congrFun (f68 2 (of_decide_eq_true rfl)) 0).trans (congrFun (f52 2 (of_decide_eq_true rfl)) 0))))
        have z111 : (σ66 55 6).toInt = (σ 55 6).toInt := (congrArg Int32.toInt (show σ66 55 6 = (σ 55 6) from ((f69 6 (of_decide_eq_true rfl)).trans (congrFun (f52 55 (of_decide_eq_true rfl)) 6))))
        have z112 : (σ66 2 2).toInt = (σ 2 2).toInt := (congrArg Int32.toInt (show σ66 2 2 = (σ 2 2) from ((congrFun (f68 2 (of_decide_eq_true rfl)) 2).trans (congrFun (f52 2 (of_decide_eq_true rfl)) 2))))
        have z113 : (σ66 55 5).toInt = (σ 55 5).toInt := (congrArg Int32.toInt (show σ66 55 5 = (σ 55 5) from ((f69 5 (of_decide_eq_true rfl)).trans (congrFun (f52 55 (of_decide_eq_true rfl)) 5))))
        have z114 : (σ66 2 3).toInt = (σ 2 3).toInt := (congrArg Int32.toInt (show σ66 2 3 = (σ 2 3) from ((congrFun (f68 2 (of_decide_eq_true rfl)) 3).trans (congrFun (f52 2 (of_decide_eq_true rfl)) 3))))
        have z115 : (σ66 55 4).toInt = (σ 55 4).toInt := (congrArg Int32.toInt (show σ66 55 4 = (σ 55 4) from ((f69 4 (of_decide_eq_true rfl)).trans (congrFun (f52 55 (of_decide_eq_true rfl)) 4))))
        have z116 : (σ66 9 0).toInt = (σ 9 0).toInt := (congrArg Int32.toInt (show σ66 9 0 = (σ 9 0) from ((congrFun (f68 9 (of_decide_eq_true rfl)) 0).trans (congrFun (f52 9 (of_decide_eq_true rfl)) 0))))
        have z117 : (σ66 55 15).toInt = (σ 55 15).toInt := (congrArg Int32.toInt (show σ66 55 15 = (σ 55 15) from ((f69 15 (of_decide_eq_true rfl)).trans (congrFun (f52 55 (of_decide_eq_true rfl)) 15))))
        have z118 : (σ66 16 0).toInt = (σ 16 0).toInt := (congrArg Int32.toInt (show σ66 16 0 = (σ 16 0) from ((congrFun (f68 16 (of_decide_eq_true rfl)) 0).trans (congrFun (f52 16 (of_decide_eq_true rfl)) 0))))
        have z119 : (σ66 55 10).toInt = (σ 55 10).toInt := (congrArg Int32.toInt (show σ66 55 10 = (σ 55 10) from ((f69 10 (of_decide_eq_true rfl)).trans (congrFun (f52 55 (of_decide_eq_true rfl)) 10))))
        have z120 : (σ66 16 1).toInt = (σ 16 1).toInt := (congrArg Int32.toInt (show σ66 16 1 = (σ 16 1) from ((congrFun (f68 16 (of_decide_eq_true rfl)) 1).trans (congrFun (f52 16 (of_decide_eq_true rfl)) 1))))
        have z121 : (σ66 16 2).toInt = (σ 16 2).toInt := (congrArg Int32.toInt (show σ66 16 2 = (σ 16 2) from ((congrFun (f68 16 (of_decide_eq_true rfl)) 2).trans (congrFun (f52 16 (of_decide_eq_true rfl)) 2))))
        have z122 : (σ66 55 13).toInt = (σ 55 13).toInt := (congrArg Int32.toInt (show σ66 55 13 = (σ 55 13) from ((f69 13 (of_decide_eq_true rfl)).trans (congrFun (f52 55 (of_decide_eq_true rfl)) 13))))
        have z123 : (σ66 38 0).toInt = (σ 38 0).toInt := (congrArg Int32.toInt (show σ66 38 0 = (σ 38 0) from ((congrFun (f68 38 (of_decide_eq_true rfl)) 0).trans (congrFun (f52 38 (of_decide_eq_true rfl)) 0))))
        have z124 : (σ66 55 32).toInt = (σ 55 32).toInt := (congrArg Int32.toInt (show σ66 55 32 = (σ 55 32) from ((f69 32 (of_decide_eq_true rfl)).trans (congrFun (f52 55 (of_decide_eq_true rfl)) 32))))
        have z125 : (σ66 38 1).toInt = (σ 38 1).toInt := (congrArg Int32.toInt (show σ66 38 1 = (σ 38 1) from ((congrFun (f68 38 (of_decide_eq_true rfl)) 1).trans (congrFun (f52 38 (of_decide_eq_true rfl)) 1))))
        have z126 : (σ66 55 55).toInt = (σ 55 55).toInt := (congrArg Int32.toInt (show σ66 55 55 = (σ 55 55) from ((f69 55 (of_decide_eq_true rfl)).trans (congrFun (f52 55 (of_decide_eq_true rfl)) 55))))
        have z127 : (σ66 47 0).toInt = (σ50 47 0).toInt := (congrArg Int32.toInt (show σ66 47 0 = (σ50 47 0) from (congrFun (f68 47 (of_decide_eq_true rfl)) 0)))
        have z128 : (σ66 55 30).toInt = (σ 55 30).toInt := (congrArg Int32.toInt (show σ66 55 30 = (σ 55 30) from ((f69 30 (of_decide_eq_true rfl)).trans (congrFun (f52 55 (of_decide_eq_true rfl)) 30))))
        have z129 : (σ66 55 31).toInt = (σ 55 31).toInt := (congrArg Int32.toInt (show σ66 55 31 = (σ 55 31) from ((f69 31 (of_decide_eq_true rfl)).trans (congrFun (f52 55 (of_decide_eq_true rfl)) 31))))
        exact by exact ih x88 σ66 τ _ _ ls (by have h9 := tx88; omega) ⟨I89, I90, I91, I92, I93, I94, I95, I96, I97, I98, I99, I100, I101, I102, I103, I104, I105, I70, I106, I107, I108, I71, p109, p72, (by omega), (by omega), (by omega), (by omega), (by omega), (by omega), (by omega), (by omega), (by omega), (by omega), (by omega), (by omega), (show jNumP (σ66 3) (σ66 56) (σ66 6) (σ66 57) (σ66 7) (σ66 58) (σ66 8) (σ66 59) (σ66 55 6).toInt (σ66 55 4).toInt by rw [show σ66 3 = σ 3 from ((f68 3 (of_decide_eq_true rfl)).trans (f52 3 (of_decide_eq_true rfl))), show σ66 56 = σ 56 from ((f68 56 (of_decide_eq_true rfl)).trans (f52 56 (of_decide_eq_true rfl))), show σ66 6 = σ 6 from ((f68 6 (of_decide_eq_true rfl)).trans (f52 6 (of_decide_eq_true rfl))), show σ66 57 = σ 57 from ((f68 57 (of_decide_eq_true rfl)).trans (f52 57 (of_decide_eq_true rfl))), show σ66 7 = σ 7 from ((f68 7 (of_decide_eq_true rfl)).trans (f52 7 (of_decide_eq_true rfl))), show σ66 58 = σ 58 from ((f68 58 (of_decide_eq_true rfl)).trans (f52 58 (of_decide_eq_true rfl))), show σ66 8 = σ 8 from ((f68 8 (of_decide_eq_true rfl)).trans (f52 8 (of_decide_eq_true rfl))), show σ66 59 = σ 59 from ((f68 59 (of_decide_eq_true rfl)).trans (f52 59 (of_decide_eq_true rfl))), show (σ66 55 6).toInt = (σ 55 6).toInt from by omega, show (σ66 55 4).toInt = (σ 55 4).toInt from by omega]; exact hr0), (show jOvP (σ66 56) (σ66 57) (σ66 58) (σ66 59) (σ66 55 4).toInt by rw [show σ66 56 = σ 56 from ((f68 56 (of_decide_eq_true rfl)).trans (f52 56 (of_decide_eq_true rfl))), show σ66 57 = σ 57 from ((f68 57 (of_decide_eq_true rfl)).trans (f52 57 (of_decide_eq_true rfl))), show σ66 58 = σ 58 from ((f68 58 (of_decide_eq_true rfl)).trans (f52 58 (of_decide_eq_true rfl))), show σ66 59 = σ 59 from ((f68 59 (of_decide_eq_true rfl)).trans (f52 59 (of_decide_eq_true rfl))), show (σ66 55 4).toInt = (σ 55 4).toInt from by omega]; exact hr1), (show jTp (σ66 10) (σ66 63) (σ66 55 15).toInt by rw [show σ66 10 = σ 10 from ((f68 10 (of_decide_eq_true rfl)).trans (f52 10 (of_decide_eq_true rfl))), show σ66 63 = σ 63 from ((f68 63 (of_decide_eq_true rfl)).trans (f52 63 (of_decide_eq_true rfl)))]; exact hr2.le (by omega)), (show jSo (σ66 17) (σ66 62) (σ66 16 0).toInt by rw [show σ66 17 = σ 17 from ((f68 17 (of_decide_eq_true rfl)).trans (f52 17 (of_decide_eq_true rfl))), show σ66 62 = σ 62 from ((f68 62 (of_decide_eq_true rfl)).trans (f52 62 (of_decide_eq_true rfl))), show (σ66 16 0).toInt = (σ 16 0).toInt from by omega]; exact hr3), (show jShP (σ66 51) (σ66 52) (σ66 53) (σ66 86) (σ66 87) (σ66 55 32).toInt by rw [show σ66 51 = σ 51 from ((f68 51 (of_decide_eq_true rfl)).trans (f52 51 (of_decide_eq_true rfl))), show σ66 52 = σ 52 from ((f68 52 (of_decide_eq_true rfl)).trans (f52 52 (of_decide_eq_true rfl))), show σ66 53 = σ 53 from ((f68 53 (of_decide_eq_true rfl)).trans (f52 53 (of_decide_eq_true rfl))), show σ66 86 = σ 86 from ((f68 86 (of_decide_eq_true rfl)).trans (f52 86 (of_decide_eq_true rfl))), show σ66 87 = σ 87 from ((f68 87 (of_decide_eq_true rfl)).trans (f52 87 (of_decide_eq_true rfl)))]; exact (hr4.up (by omega) (by omega))), (show jEl (σ66 51) (σ66 52) (τ 54) (τ 88) by rw [show σ66 51 = σ 51 from ((f68 51 (of_decide_eq_true rfl)).trans (f52 51 (of_decide_eq_true rfl))), show σ66 52 = σ 52 from ((f68 52 (of_decide_eq_true rfl)).trans (f52 52 (of_decide_eq_true rfl)))]; exact hr5), (show jByP (σ66 51) (σ66 52) (τ 54) by rw [show σ66 51 = σ 51 from ((f68 51 (of_decide_eq_true rfl)).trans (f52 51 (of_decide_eq_true rfl))), show σ66 52 = σ 52 from ((f68 52 (of_decide_eq_true rfl)).trans (f52 52 (of_decide_eq_true rfl)))]; exact hr6), (show jBk (σ66 48) (σ66 80) (σ66 49) (σ66 81) (σ66 55 47).toInt by rw [show σ66 48 = σ50 48 from (f68 48 (of_decide_eq_true rfl)), show σ66 49 = σ50 49 from (f68 49 (of_decide_eq_true rfl)), show (σ66 55 47).toInt = (σ50 47 0).toInt from by omega]; exact p84), (show jKd (σ66 39) (σ66 70) (σ66 55 32).toInt by rw [show σ66 39 = σ 39 from ((f68 39 (of_decide_eq_true rfl)).trans (f52 39 (of_decide_eq_true rfl))), show σ66 70 = σ 70 from ((f68 70 (of_decide_eq_true rfl)).trans (f52 70 (of_decide_eq_true rfl))), show (σ66 55 32).toInt = (σ 55 32).toInt from by omega]; exact hr8), (show jTt (σ66 42) (σ66 85) (σ66 55 55).toInt by rw [show σ66 42 = σ 42 from ((f68 42 (of_decide_eq_true rfl)).trans (f52 42 (of_decide_eq_true rfl))), show σ66 85 = σ 85 from ((f68 85 (of_decide_eq_true rfl)).trans (f52 85 (of_decide_eq_true rfl))), show (σ66 55 55).toInt = (σ 55 55).toInt from by omega]; exact hr9)⟩ hP hS (lv_sub hl [0, 1, 2, 3] rfl)
set_option maxHeartbeats 4000000 in
set_option maxRecDepth 100000 in
theorem law_case_21 {p : Program} {e : Env} {s : State} {m : MethodId} {below : List Frame} {meth : Method} {c : Code} (l : Launch) {b L : Nat} {xs : Nat → Int32} {D : va_G} {cI cL : ClassId} {ad zz : Nat → Nat} (C0 : lw_At p s m meth c b L xs) (hJ : jD ad) (hA : ∀ q, jA ad q → s.heap.size ≤ q) (hK : jK D cI cL s) (hZ : jZ zz (fun q : Nat => s.heap.size ≤ q) s s.heap) {x0 : Int32} (hx0 : 0 ≤ x0.toInt) (hxL : x0.toInt + 6 ≤ (L : Int)) (hL : L ≤ 384) {σ : Nat → Nat → Int32} {τ : Nat → Nat → Int64} {H : Heap} {locs : List Loc} (hS : va_S (fun q : Nat => s.heap.size ≤ q) s.heap H locs) {ls : Array Slot} (hAll : jAll σ τ) (hP : jH D cI cL ad σ τ H) (hl : lv_has ls 4 [(3, .int x0), (2, .ref (ad 55)), (1, .ref (ad 0)), (0, .ref b)]) (ih : ∀ (x1 : Int32) (σ : Nat → Nat → Int32) (τ : Nat → Nat → Int64) (H : Heap) (locs : List Loc) (ls : Array Slot), x1.toInt = x0.toInt + 6 → jAll σ τ → jH D cI cL ad σ τ H → va_S (fun q : Nat => s.heap.size ≤ q) s.heap H locs → lv_has ls 4 [(3, .int x1), (2, .ref (ad 55)), (1, .ref (ad 0)), (0, .ref b)] → W p l e room_1 s m #[Value.ref b] below meth c H locs 90 348600 (lw_Z below #[Value.ref b] s) (F0 m 18 ls [])) : W p l e room_1 s m #[Value.ref b] below meth c H locs 90 348600 (lw_Z below #[Value.ref b] s) (F0 m 839 ls []) := by
  obtain ⟨hx, hb, hr, hml, hown, hts0, hX, hbl, hlocks, hgv⟩ := C0
  have hts : ∀ w ∈ wsL_law, w.before #[Value.ref b] s = true := fun w h => hts0 w (wsL_law_in w h)
  have hbA : ¬ (fun q : Nat => s.heap.size ≤ q) b := Nat.not_le.mpr hbl
  have hown : s.vm.findClass RL = some m.cls := hown
  obtain ⟨hI2, hI9, hI12, hI16, hI18, hI22, hI31, hI38, hI43, hI47, hI50, hI101, hI102, hI103, hI104, hI105, hI106, hI107, hI109, hI110, hI111, hI119, hs_jKept, hs_jBook, ht0, ht1, ht2, ht3, ht4, ht5, ht6, ht7, ht8, ht9, ht10, ht11, hr0, hr1, hr2, hr3, hr4, hr5, hr6, hr7, hr8, hr9⟩ := hAll
  have hL9 : (L : Int) ≤ 384 := by omega
  obtain ⟨i1, i2, i3, i4, i5, w6⟩ : (0 ≤ (σ 2 0).toInt ∧ (σ 2 0).toInt ≤ 4) ∧ (0 ≤ (σ 2 1).toInt ∧ (σ 2 1).toInt ≤ 3) ∧ (0 ≤ (σ 2 2).toInt) ∧ (0 ≤ (σ 2 3).toInt) ∧ ((σ 2 2).toInt + (σ 2 3).toInt ≤ 40) ∧ (∀ k : Nat, k < 40 → 0 ≤ (σ 6 k).toInt ∧ (σ 6 k).toInt ≤ 67) := id hI2
  obtain ⟨i7, w8, w9⟩ : (0 ≤ (σ 9 0).toInt ∧ (σ 9 0).toInt ≤ 80) ∧ (∀ k : Nat, k < 80 → 0 ≤ (σ 10 k).toInt ∧ (σ 10 k).toInt ≤ 255) ∧ (∀ k : Nat, k < 8 → 0 ≤ (σ 11 k).toInt ∧ (σ 11 k).toInt ≤ 3) := id hI9
  obtain ⟨i10, i11, i12, w13⟩ : (1 ≤ (σ 16 0).toInt ∧ (σ 16 0).toInt ≤ 8) ∧ (1 ≤ (σ 16 1).toInt ∧ (σ 16 1).toInt ≤ 12) ∧ (0 ≤ (σ 16 2).toInt ∧ (σ 16 2).toInt ≤ 999) ∧ (∀ k : Nat, k < 8 → 0 ≤ (σ 17 k).toInt ∧ (σ 17 k).toInt ≤ 3) := id hI16
  obtain ⟨i14, i15, w16⟩ : (0 ≤ (σ 38 0).toInt ∧ (σ 38 0).toInt ≤ 20) ∧ (0 ≤ (σ 38 1).toInt ∧ (σ 38 1).toInt ≤ 1000) ∧ (∀ k : Nat, k < 20 → 0 ≤ (σ 39 k).toInt ∧ (σ 39 k).toInt ≤ 6) := id hI38
  obtain ⟨i17, w18, w19⟩ : (0 ≤ (σ 47 0).toInt ∧ (σ 47 0).toInt ≤ 12) ∧ (∀ k : Nat, k < 12 → 0 ≤ (σ 48 k).toInt ∧ (σ 48 k).toInt ≤ 3) ∧ (∀ k : Nat, k < 12 → 0 ≤ (σ 49 k).toInt ∧ (σ 49 k).toInt ≤ 1) := id hI47
  have w20 : ∀ k : Nat, k < 6 → 0 ≤ (σ 52 k).toInt ∧ (σ 52 k).toInt ≤ 60 := hI50
  obtain ⟨i21, i22, i23, w24, w25, w26, w27⟩ : (0 ≤ (σ 55 5).toInt) ∧ ((σ 55 5).toInt ≤ (σ 55 4).toInt) ∧ ((σ 55 4).toInt ≤ 40) ∧ (∀ k : Nat, k < 68 → (-200) ≤ (σ 56 k).toInt ∧ (σ 56 k).toInt ≤ 500) ∧ (∀ k : Nat, k < 40 → 0 ≤ (σ 57 k).toInt ∧ (σ 57 k).toInt ≤ 67) ∧ (∀ k : Nat, k < 40 → (-200) ≤ (σ 58 k).toInt ∧ (σ 58 k).toInt ≤ 500) ∧ (∀ k : Nat, k < 40 → (-200) ≤ (σ 59 k).toInt ∧ (σ 59 k).toInt ≤ 500) := id hI101
  obtain ⟨i28, w29, w30⟩ : (0 ≤ (σ 55 6).toInt ∧ (σ 55 6).toInt ≤ 4) ∧ (∀ k : Nat, k < 4 → 0 ≤ (σ 60 k).toInt ∧ (σ 60 k).toInt ≤ 50) ∧ (∀ k : Nat, k < 4 → 0 ≤ (σ 61 k).toInt ∧ (σ 61 k).toInt ≤ 20) := id hI102
  obtain ⟨i31, i32, i33, w34, w35⟩ : (1 ≤ (σ 55 10).toInt ∧ (σ 55 10).toInt ≤ 8) ∧ (1 ≤ (σ 55 12).toInt ∧ (σ 55 12).toInt ≤ 12) ∧ (0 ≤ (σ 55 13).toInt ∧ (σ 55 13).toInt ≤ 999) ∧ (∀ k : Nat, k < 8 → 0 ≤ (σ 62 k).toInt ∧ (σ 62 k).toInt ≤ 3) ∧ (∀ k : Nat, k < 8 → 0 ≤ (σ 67 k).toInt ∧ (σ 67 k).toInt ≤ 3) := id hI104
  obtain ⟨i36, w37⟩ : (0 ≤ (σ 55 15).toInt ∧ (σ 55 15).toInt ≤ 80) ∧ (∀ k : Nat, k < 2 → (-1) ≤ (σ 65 k).toInt ∧ (σ 65 k).toInt ≤ 80) := id hI105
  obtain ⟨i38, w39, w40, w41⟩ : (0 ≤ (σ 55 32).toInt ∧ (σ 55 32).toInt ≤ 20) ∧ (∀ k : Nat, k < 20 → 0 ≤ (σ 70 k).toInt ∧ (σ 70 k).toInt ≤ 6) ∧ (∀ k : Nat, k < 20 → 0 ≤ (σ 71 k).toInt ∧ (σ 71 k).toInt ≤ 8) ∧ (∀ k : Nat, k < 160 → 0 ≤ (σ 72 k).toInt ∧ (σ 72 k).toInt ≤ 3) := id hI106
  obtain ⟨i42, i43, w44⟩ : (0 ≤ (σ 55 47).toInt ∧ (σ 55 47).toInt ≤ 12) ∧ ((σ 55 47).toInt ≤ (σ 55 12).toInt) ∧ (∀ k : Nat, k < 12 → 0 ≤ (σ 80 k).toInt ∧ (σ 80 k).toInt ≤ 3) := id hI107
  refine lv_aload_n hx hb dL_law_839 rfl (lv_at hl 2 rfl) ?_
  refine jcallV (As := []) (rest := []) ⟨hx, hb, hml, hown, hts⟩ hK hP hA hS hZ (c_X11_close l D cI cL ad zz hJ σ τ hI47) cw_RL_101 (jc_0 cI cL ad σ τ) rfl ⟨Nat.le_of_ble_eq_true rfl, Nat.le_of_ble_eq_true rfl⟩ rfl rfl rfl hl.1 rfl (Nat.le_of_ble_eq_true rfl) dL_law_840 ⟨Nat.le_of_ble_eq_true rfl, Nat.le_of_ble_eq_true rfl⟩ (fun r46 σ45 τ45 H locs h45 hP hS => ?_)
  obtain ⟨rfl, f47, f48, I49, h45⟩ := h45
  obtain ⟨i51, w52, w53⟩ : (0 ≤ (σ45 47 0).toInt ∧ (σ45 47 0).toInt ≤ 12) ∧ (∀ k : Nat, k < 12 → 0 ≤ (σ45 48 k).toInt ∧ (σ45 48 k).toInt ≤ 3) ∧ (∀ k : Nat, k < 12 → 0 ≤ (σ45 49 k).toInt ∧ (σ45 49 k).toInt ≤ 1) := id I49
  have h54 := h45
  obtain ⟨q57, k55, k56⟩ := h54
  refine lv_pop hx hb dL_law_843 rfl ?_
  refine lv_aload_n hx hb dL_law_844 rfl (lv_at hl 1 rfl) ?_
  have I58 : jI104 σ45 := jI104_fr (congrFun (f47 55 (of_decide_eq_true rfl)) 10) (congrFun (f47 55 (of_decide_eq_true rfl)) 12) (congrFun (f47 55 (of_decide_eq_true rfl)) 13) (f47 62 (of_decide_eq_true rfl)) (f47 67 (of_decide_eq_true rfl)) hI104
  have I59 : jI107 σ45 := jI107_fr (congrFun (f47 55 (of_decide_eq_true rfl)) 12) (congrFun (f47 55 (of_decide_eq_true rfl)) 47) (f47 80 (of_decide_eq_true rfl)) hI107
  have p60 : jBook σ45 := jBook.fr (congrFun (f47 55 (of_decide_eq_true rfl)) 47) (congrFun (f47 55 (of_decide_eq_true rfl)) 10) (f47 81 (of_decide_eq_true rfl)) hs_jBook
  have z61 : (σ45 55 47).toInt = (σ 55 47).toInt := (congrArg Int32.toInt (show σ45 55 47 = (σ 55 47) from (congrFun (f47 55 (of_decide_eq_true rfl)) 47)))
  refine jcallV (As := []) (rest := []) ⟨hx, hb, hml, hown, hts⟩ hK hP hA hS hZ (c_X12_close l D cI cL ad zz hJ σ45 τ I58 I59 p60) cw_RL_104 (jc_55 cI cL ad σ45 τ) rfl ⟨Nat.le_of_ble_eq_true rfl, Nat.le_of_ble_eq_true rfl⟩ rfl rfl rfl hl.1 rfl (Nat.le_of_ble_eq_true rfl) dL_law_845 ⟨Nat.le_of_ble_eq_true rfl, Nat.le_of_ble_eq_true rfl⟩ (fun r63 σ62 τ62 H locs h62 hP hS => ?_)
  obtain ⟨rfl, f64, f65, I66, p67, h62⟩ := h62
  obtain ⟨i69, i70, w71⟩ : (0 ≤ (σ62 55 47).toInt ∧ (σ62 55 47).toInt ≤ 12) ∧ ((σ62 55 47).toInt ≤ (σ62 55 12).toInt) ∧ (∀ k : Nat, k < 12 → 0 ≤ (σ62 80 k).toInt ∧ (σ62 80 k).toInt ≤ 3) := id I66
  have z72 : (σ62 55 12).toInt = (σ 55 12).toInt := (congrArg Int32.toInt (show σ62 55 12 = (σ 55 12) from ((f65 12 (of_decide_eq_true rfl)).trans (congrFun (f47 55 (of_decide_eq_true rfl)) 12))))
  have h73 := h62
  obtain ⟨q76, k74, k75⟩ := h73
  refine lv_pop hx hb dL_law_848 rfl ?_
  refine lv_goto (tgt := 1357) hx hb dL_law_849 (of_decide_eq_true rfl) ?_
  obtain ⟨x77, ex77⟩ : ∃ y : Int32, y = x0 + 6 := ⟨_, rfl⟩
  exact by
   have tx77 : x77.toInt = x0.toInt + 6 := (jadd ex77 rfl jz_6 (by omega) (by omega)).trans (by omega)
   refine lv_iinc (v := x77) (lv' := [(3, .int x77), (2, .ref (ad 55)), (1, .ref (ad 0)), (0, .ref b)]) hx hb dL_law_1357 hl (k := 0) rfl (by rw [ex77]; rfl) (of_decide_eq_true rfl) rfl (fun ls hl => ?_)
   refine lv_goto (tgt := 18) hx hb dL_law_1360 (of_decide_eq_true rfl) ?_
   have I78 : jI2 σ62 := jI2_fr ((congrFun (f64 2 (of_decide_eq_true rfl)) 0).trans (congrFun (f47 2 (of_decide_eq_true rfl)) 0)) ((congrFun (f64 2 (of_decide_eq_true rfl)) 1).trans (congrFun (f47 2 (of_decide_eq_true rfl)) 1)) ((congrFun (f64 2 (of_decide_eq_true rfl)) 2).trans (congrFun (f47 2 (of_decide_eq_true rfl)) 2)) ((congrFun (f64 2 (of_decide_eq_true rfl)) 3).trans (congrFun (f47 2 (of_decide_eq_true rfl)) 3)) ((f64 6 (of_decide_eq_true rfl)).trans (f47 6 (of_decide_eq_true rfl))) hI2
   have I79 : jI9 σ62 := jI9_fr ((congrFun (f64 9 (of_decide_eq_true rfl)) 0).trans (congrFun (f47 9 (of_decide_eq_true rfl)) 0)) ((f64 10 (of_decide_eq_true rfl)).trans (f47 10 (of_decide_eq_true rfl))) ((f64 11 (of_decide_eq_true rfl)).trans (f47 11 (of_decide_eq_true rfl))) hI9
   have I80 : jI12 σ62 := jI12_fr ((congrFun (f64 12 (of_decide_eq_true rfl)) 0).trans (congrFun (f47 12 (of_decide_eq_true rfl)) 0)) ((f64 13 (of_decide_eq_true rfl)).trans (f47 13 (of_decide_eq_true rfl))) hI12
   have I81 : jI16 σ62 := jI16_fr ((congrFun (f64 16 (of_decide_eq_true rfl)) 0).trans (congrFun (f47 16 (of_decide_eq_true rfl)) 0)) ((congrFun (f64 16 (of_decide_eq_true rfl)) 1).trans (congrFun (f47 16 (of_decide_eq_true rfl)) 1)) ((congrFun (f64 16 (of_decide_eq_true rfl)) 2).trans (congrFun (f47 16 (of_decide_eq_true rfl)) 2)) ((f64 17 (of_decide_eq_true rfl)).trans (f47 17 (of_decide_eq_true rfl))) hI16
   have I82 : jI18 σ62 := jI18_fr ((congrFun (f64 18 (of_decide_eq_true rfl)) 0).trans (congrFun (f47 18 (of_decide_eq_true rfl)) 0)) ((f64 19 (of_decide_eq_true rfl)).trans (f47 19 (of_decide_eq_true rfl))) hI18
   have I83 : jI22 σ62 := jI22_fr ((congrFun (f64 22 (of_decide_eq_true rfl)) 0).trans (congrFun (f47 22 (of_decide_eq_true rfl)) 0)) ((f64 23 (of_decide_eq_true rfl)).trans (f47 23 (of_decide_eq_true rfl))) hI22
   exact by
    have I84 : jI31 σ62 := jI31_fr ((congrFun (f64 31 (of_decide_eq_true rfl)) 8).trans (congrFun (f47 31 (of_decide_eq_true rfl)) 8)) ((f64 33 (of_decide_eq_true rfl)).trans (f47 33 (of_decide_eq_true rfl))) ((f64 36 (of_decide_eq_true rfl)).trans (f47 36 (of_decide_eq_true rfl))) hI31
    have I85 : jI38 σ62 := jI38_fr ((congrFun (f64 38 (of_decide_eq_true rfl)) 0).trans (congrFun (f47 38 (of_decide_eq_true rfl)) 0)) ((congrFun (f64 38 (of_decide_eq_true rfl)) 1).trans (congrFun (f47 38 (of_decide_eq_true rfl)) 1)) ((f64 39 (of_decide_eq_true rfl)).trans (f47 39 (of_decide_eq_true rfl))) hI38
    have I86 : jI43 σ62 := jI43_fr ((congrFun (f64 43 (of_decide_eq_true rfl)) 8).trans (congrFun (f47 43 (of_decide_eq_true rfl)) 8)) hI43
    have I87 : jI47 σ62 := jI47_fr (congrFun (f64 47 (of_decide_eq_true rfl)) 0) (f64 48 (of_decide_eq_true rfl)) (f64 49 (of_decide_eq_true rfl)) I49
    have I88 : jI50 σ62 := jI50_fr ((f64 52 (of_decide_eq_true rfl)).trans (f47 52 (of_decide_eq_true rfl))) hI50
    have I89 : jI101 σ62 := jI101_fr ((f65 4 (of_decide_eq_true rfl)).trans (congrFun (f47 55 (of_decide_eq_true rfl)) 4)) ((f65 5 (of_decide_eq_true rfl)).trans (congrFun (f47 55 (of_decide_eq_true rfl)) 5)) ((f64 56 (of_decide_eq_true rfl)).trans (f47 56 (of_decide_eq_true rfl))) ((f64 57 (of_decide_eq_true rfl)).trans (f47 57 (of_decide_eq_true rfl))) ((f64 58 (of_decide_eq_true rfl)).trans (f47 58 (of_decide_eq_true rfl))) ((f64 59 (of_decide_eq_true rfl)).trans (f47 59 (of_decide_eq_true rfl))) hI101
    have I90 : jI102 σ62 := jI102_fr ((f65 6 (of_decide_eq_true rfl)).trans (congrFun (f47 55 (of_decide_eq_true rfl)) 6)) ((f64 60 (of_decide_eq_true rfl)).trans (f47 60 (of_decide_eq_true rfl))) ((f64 61 (of_decide_eq_true rfl)).trans (f47 61 (of_decide_eq_true rfl))) hI102
    have I91 : jI103 σ62 := jI103_fr ((f65 9 (of_decide_eq_true rfl)).trans (congrFun (f47 55 (of_decide_eq_true rfl)) 9)) hI103
    have I92 : jI104 σ62 := jI104_fr (f65 10 (of_decide_eq_true rfl)) (f65 12 (of_decide_eq_true rfl)) (f65 13 (of_decide_eq_true rfl)) (f64 62 (of_decide_eq_true rfl)) (f64 67 (of_decide_eq_true rfl)) I58
    have I93 : jI105 σ62 := jI105_fr ((f65 15 (of_decide_eq_true rfl)).trans (congrFun (f47 55 (of_decide_eq_true rfl)) 15)) ((f64 65 (of_decide_eq_true rfl)).trans (f47 65 (of_decide_eq_true rfl))) hI105
    have I94 : jI106 σ62 := jI106_fr ((f65 32 (of_decide_eq_true rfl)).trans (congrFun (f47 55 (of_decide_eq_true rfl)) 32)) ((f64 70 (of_decide_eq_true rfl)).trans (f47 70 (of_decide_eq_true rfl))) ((f64 71 (of_decide_eq_true rfl)).trans (f47 71 (of_decide_eq_true rfl))) ((f64 72 (of_decide_eq_true rfl)).trans (f47 72 (of_decide_eq_true rfl))) hI106
    have I95 : jI109 σ62 := jI109_fr ((f65 50 (of_decide_eq_true rfl)).trans (congrFun (f47 55 (of_decide_eq_true rfl)) 50)) hI109
    have I96 : jI110 σ62 := jI110_fr ((f64 86 (of_decide_eq_true rfl)).trans (f47 86 (of_decide_eq_true rfl))) ((f64 87 (of_decide_eq_true rfl)).trans (f47 87 (of_decide_eq_true rfl))) hI110
    have I97 : jI111 σ62 := jI111_fr ((f64 79 (of_decide_eq_true rfl)).trans (f47 79 (of_decide_eq_true rfl))) hI111
    have I98 : jI119 σ62 := jI119_fr ((f64 68 (of_decide_eq_true rfl)).trans (f47 68 (of_decide_eq_true rfl))) hI119
    have p99 : jKept σ62 := jKept.fr ((f64 75 (of_decide_eq_true rfl)).trans (f47 75 (of_decide_eq_true rfl))) ((f64 76 (of_decide_eq_true rfl)).trans (f47 76 (of_decide_eq_true rfl))) ((f64 77 (of_decide_eq_true rfl)).trans (f47 77 (of_decide_eq_true rfl))) hs_jKept
    have z100 : (σ62 2 0).toInt = (σ 2 0).toInt := (congrArg Int32.toInt (show σ62 2 0 = (σ 2 0) from ((congrFun (f64 2 (of_decide_eq_true rfl)) 0).trans (congrFun (f47 2 (of_decide_eq_true rfl)) 0))))
    have z101 : (σ62 55 6).toInt = (σ 55 6).toInt := (congrArg Int32.toInt (show σ62 55 6 = (σ 55 6) from ((f65 6 (of_decide_eq_true rfl)).trans (congrFun (f47 55 (of_decide_eq_true rfl)) 6))))
    have z102 : (σ62 2 2).toInt = (σ 2 2).toInt := (congrArg Int32.toInt (show σ62 2 2 = (σ 2 2) from ((congrFun (f64 2 (of_decide_eq_true rfl)) 2).trans (congrFun (f47 2 (of_decide_eq_true rfl)) 2))))
    have z103 : (σ62 55 5).toInt = (σ 55 5).toInt := (congrArg Int32.toInt (show σ62 55 5 = (σ 55 5) from ((f65 5 (of_decide_eq_true rfl)).trans (congrFun (f47 55 (of_decide_eq_true rfl)) 5))))
    have z104 : (σ62 2 3).toInt = (σ 2 3).toInt := (congrArg Int32.toInt (show σ62 2 3 = (σ 2 3) from ((congrFun (f64 2 (of_decide_eq_true rfl)) 3).trans (congrFun (f47 2 (of_decide_eq_true rfl)) 3))))
    have z105 : (σ62 55 4).toInt = (σ 55 4).toInt := (congrArg Int32.toInt (show σ62 55 4 = (σ 55 4) from ((f65 4 (of_decide_eq_true rfl)).trans (congrFun (f47 55 (of_decide_eq_true rfl)) 4))))
    have z106 : (σ62 9 0).toInt = (σ 9 0).toInt := (congrArg Int32.toInt (show σ62 9 0 = (σ 9 0) from ((congrFun (f64 9 (of_decide_eq_true rfl)) 0).trans (congrFun (f47 9 (of_decide_eq_true rfl)) 0))))
    have z107 : (σ62 55 15).toInt = (σ 55 15).toInt := (congrArg Int32.toInt (show σ62 55 15 = (σ 55 15) from ((f65 15 (of_decide_eq_true rfl)).trans (congrFun (f47 55 (of_decide_eq_true rfl)) 15))))
    have z108 : (σ62 16 0).toInt = (σ 16 0).toInt := (congrArg Int32.toInt (show σ62 16 0 = (σ 16 0) from ((congrFun (f64 16 (of_decide_eq_true rfl)) 0).trans (congrFun (f47 16 (of_decide_eq_true rfl)) 0))))
    have z109 : (σ62 55 10).toInt = (σ 55 10).toInt := (congrArg Int32.toInt (show σ62 55 10 = (σ 55 10) from ((f65 10 (of_decide_eq_true rfl)).trans (congrFun (f47 55 (of_decide_eq_true rfl)) 10))))
    have z110 : (σ62 16 1).toInt = (σ 16 1).toInt := (congrArg Int32.toInt (show σ62 16 1 = (σ 16 1) from ((congrFun (f64 16 (of_decide_eq_true rfl)) 1).trans (congrFun (f47 16 (of_decide_eq_true rfl)) 1))))
    have z111 : (σ62 16 2).toInt = (σ 16 2).toInt := (congrArg Int32.toInt (show σ62 16 2 = (σ 16 2) from ((congrFun (f64 16 (of_decide_eq_true rfl)) 2).trans (congrFun (f47 16 (of_decide_eq_true rfl)) 2))))
    have z112 : (σ62 55 13).toInt = (σ 55 13).toInt := (congrArg Int32.toInt (show σ62 55 13 = (σ 55 13) from ((f65 13 (of_decide_eq_true rfl)).trans (congrFun (f47 55 (of_decide_eq_true rfl)) 13))))
    have z113 : (σ62 38 0).toInt = (σ 38 0).toInt := (congrArg Int32.toInt (show σ62 38 0 = (σ 38 0) from ((congrFun (f64 38 (of_decide_eq_true rfl)) 0).trans (congrFun (f47 38 (of_decide_eq_true rfl)) 0))))
    have z114 : (σ62 55 32).toInt = (σ 55 32).toInt := (congrArg Int32.toInt (show σ62 55 32 = (σ 55 32) from ((f65 32 (of_decide_eq_true rfl)).trans (congrFun (f47 55 (of_decide_eq_true rfl)) 32))))
    have z115 : (σ62 38 1).toInt = (σ 38 1).toInt := (congrArg Int32.toInt (show σ62 38 1 = (σ 38 1) from ((congrFun (f64 38 (of_decide_eq_true rfl)) 1).trans (congrFun (f47 38 (of_decide_eq_true rfl)) 1))))
    have z116 : (σ62 55 55).toInt = (σ 55 55).toInt := (congrArg Int32.toInt (show σ62 55 55 = (σ 55 55) from ((f65 55 (of_decide_eq_true rfl)).trans (congrFun (f47 55 (of_decide_eq_true rfl)) 55))))
    have z117 : (σ62 47 0).toInt = (σ45 47 0).toInt := (congrArg Int32.toInt (show σ62 47 0 = (σ45 47 0) from (congrFun (f64 47 (of_decide_eq_true rfl)) 0)))
    have z118 : (σ62 55 30).toInt = (σ 55 30).toInt := (congrArg Int32.toInt (show σ62 55 30 = (σ 55 30) from ((f65 30 (of_decide_eq_true rfl)).trans (congrFun (f47 55 (of_decide_eq_true rfl)) 30))))
    have z119 : (σ62 55 31).toInt = (σ 55 31).toInt := (congrArg Int32.toInt (show σ62 55 31 = (σ 55 31) from ((f65 31 (of_decide_eq_true rfl)).trans (congrFun (f47 55 (of_decide_eq_true rfl)) 31))))
    exact by exact ih x77 σ62 τ _ _ ls (by have h9 := tx77; omega) ⟨I78, I79, I80, I81, I82, I83, I84, I85, I86, I87, I88, I89, I90, I91, I92, I93, I94, I66, I95, I96, I97, I98, p99, p67, (by omega), (by omega), (by omega), (by omega), (by omega), (by omega), (by omega), (by omega), (by omega), (by omega), (by omega), (by omega), (show jNumP (σ62 3) (σ62 56) (σ62 6) (σ62 57) (σ62 7) (σ62 58) (σ62 8) (σ62 59) (σ62 55 6).toInt (σ62 55 4).toInt by rw [show σ62 3 = σ 3 from ((f64 3 (of_decide_eq_true rfl)).trans (f47 3 (of_decide_eq_true rfl))), show σ62 56 = σ 56 from ((f64 56 (of_decide_eq_true rfl)).trans (f47 56 (of_decide_eq_true rfl))), show σ62 6 = σ 6 from ((f64 6 (of_decide_eq_true rfl)).trans (f47 6 (of_decide_eq_true rfl))), show σ62 57 = σ 57 from ((f64 57 (of_decide_eq_true rfl)).trans (f47 57 (of_decide_eq_true rfl))), show σ62 7 = σ 7 from ((f64 7 (of_decide_eq_true rfl)).trans (f47 7 (of_decide_eq_true rfl))), show σ62 58 = σ 58 from ((f64 58 (of_decide_eq_true rfl)).trans (f47 58 (of_decide_eq_true rfl))), show σ62 8 = σ 8 from ((f64 8 (of_decide_eq_true rfl)).trans (f47 8 (of_decide_eq_true rfl))), show σ62 59 = σ 59 from ((f64 59 (of_decide_eq_true rfl)).trans (f47 59 (of_decide_eq_true rfl))), show (σ62 55 6).toInt = (σ 55 6).toInt from by omega, show (σ62 55 4).toInt = (σ 55 4).toInt from by omega]; exact hr0), (show jOvP (σ62 56) (σ62 57) (σ62 58) (σ62 59) (σ62 55 4).toInt by rw [show σ62 56 = σ 56 from ((f64 56 (of_decide_eq_true rfl)).trans (f47 56 (of_decide_eq_true rfl))), show σ62 57 = σ 57 from ((f64 57 (of_decide_eq_true rfl)).trans (f47 57 (of_decide_eq_true rfl))), show σ62 58 = σ 58 from ((f64 58 (of_decide_eq_true rfl)).trans (f47 58 (of_decide_eq_true rfl))), show σ62 59 = σ 59 from ((f64 59 (of_decide_eq_true rfl)).trans (f47 59 (of_decide_eq_true rfl))), show (σ62 55 4).toInt = (σ 55 4).toInt from by omega]; exact hr1), (show jTp (σ62 10) (σ62 63) (σ62 55 15).toInt by rw [show σ62 10 = σ 10 from ((f64 10 (of_decide_eq_true rfl)).trans (f47 10 (of_decide_eq_true rfl))), show σ62 63 = σ 63 from ((f64 63 (of_decide_eq_true rfl)).trans (f47 63 (of_decide_eq_true rfl)))]; exact hr2.le (by omega)), (show jSo (σ62 17) (σ62 62) (σ62 16 0).toInt by rw [show σ62 17 = σ 17 from ((f64 17 (of_decide_eq_true rfl)).trans (f47 17 (of_decide_eq_true rfl))), show σ62 62 = σ 62 from ((f64 62 (of_decide_eq_true rfl)).trans (f47 62 (of_decide_eq_true rfl))), show (σ62 16 0).toInt = (σ 16 0).toInt from by omega]; exact hr3), (show jShP (σ62 51) (σ62 52) (σ62 53) (σ62 86) (σ62 87) (σ62 55 32).toInt by rw [show σ62 51 = σ 51 from ((f64 51 (of_decide_eq_true rfl)).trans (f47 51 (of_decide_eq_true rfl))), show σ62 52 = σ 52 from ((f64 52 (of_decide_eq_true rfl)).trans (f47 52 (of_decide_eq_true rfl))), show σ62 53 = σ 53 from ((f64 53 (of_decide_eq_true rfl)).trans (f47 53 (of_decide_eq_true rfl))), show σ62 86 = σ 86 from ((f64 86 (of_decide_eq_true rfl)).trans (f47 86 (of_decide_eq_true rfl))), show σ62 87 = σ 87 from ((f64 87 (of_decide_eq_true rfl)).trans (f47 87 (of_decide_eq_true rfl)))]; exact (hr4.up (by omega) (by omega))), (show jEl (σ62 51) (σ62 52) (τ 54) (τ 88) by rw [show σ62 51 = σ 51 from ((f64 51 (of_decide_eq_true rfl)).trans (f47 51 (of_decide_eq_true rfl))), show σ62 52 = σ 52 from ((f64 52 (of_decide_eq_true rfl)).trans (f47 52 (of_decide_eq_true rfl)))]; exact hr5), (show jByP (σ62 51) (σ62 52) (τ 54) by rw [show σ62 51 = σ 51 from ((f64 51 (of_decide_eq_true rfl)).trans (f47 51 (of_decide_eq_true rfl))), show σ62 52 = σ 52 from ((f64 52 (of_decide_eq_true rfl)).trans (f47 52 (of_decide_eq_true rfl)))]; exact hr6), (jBk.nil (by omega)), (show jKd (σ62 39) (σ62 70) (σ62 55 32).toInt by rw [show σ62 39 = σ 39 from ((f64 39 (of_decide_eq_true rfl)).trans (f47 39 (of_decide_eq_true rfl))), show σ62 70 = σ 70 from ((f64 70 (of_decide_eq_true rfl)).trans (f47 70 (of_decide_eq_true rfl))), show (σ62 55 32).toInt = (σ 55 32).toInt from by omega]; exact hr8), (show jTt (σ62 42) (σ62 85) (σ62 55 55).toInt by rw [show σ62 42 = σ 42 from ((f64 42 (of_decide_eq_true rfl)).trans (f47 42 (of_decide_eq_true rfl))), show σ62 85 = σ 85 from ((f64 85 (of_decide_eq_true rfl)).trans (f47 85 (of_decide_eq_true rfl))), show (σ62 55 55).toInt = (σ 55 55).toInt from by omega]; exact hr9)⟩ hP hS (lv_sub hl [0, 1, 2, 3] rfl)
set_option maxHeartbeats 4000000 in
set_option maxRecDepth 100000 in
theorem law_case_22 {p : Program} {e : Env} {s : State} {m : MethodId} {below : List Frame} {meth : Method} {c : Code} (l : Launch) {b L : Nat} {xs : Nat → Int32} {D : va_G} {cI cL : ClassId} {ad zz : Nat → Nat} (C0 : lw_At p s m meth c b L xs) (hJ : jD ad) (hA : ∀ q, jA ad q → s.heap.size ≤ q) (hK : jK D cI cL s) (hZ : jZ zz (fun q : Nat => s.heap.size ≤ q) s s.heap) {x0 : Int32} (hx0 : 0 ≤ x0.toInt) (hxL : x0.toInt + 6 ≤ (L : Int)) (hL : L ≤ 384) {σ : Nat → Nat → Int32} {τ : Nat → Nat → Int64} {H : Heap} {locs : List Loc} (hS : va_S (fun q : Nat => s.heap.size ≤ q) s.heap H locs) {ls : Array Slot} (hAll : jAll σ τ) (hP : jH D cI cL ad σ τ H) (hl : lv_has ls 4 [(3, .int x0), (2, .ref (ad 55)), (1, .ref (ad 0)), (0, .ref b)]) (ih : ∀ (x1 : Int32) (σ : Nat → Nat → Int32) (τ : Nat → Nat → Int64) (H : Heap) (locs : List Loc) (ls : Array Slot), x1.toInt = x0.toInt + 6 → jAll σ τ → jH D cI cL ad σ τ H → va_S (fun q : Nat => s.heap.size ≤ q) s.heap H locs → lv_has ls 4 [(3, .int x1), (2, .ref (ad 55)), (1, .ref (ad 0)), (0, .ref b)] → W p l e room_1 s m #[Value.ref b] below meth c H locs 90 348600 (lw_Z below #[Value.ref b] s) (F0 m 18 ls [])) : W p l e room_1 s m #[Value.ref b] below meth c H locs 90 348600 (lw_Z below #[Value.ref b] s) (F0 m 852 ls []) := by
  obtain ⟨hx, hb, hr, hml, hown, hts0, hX, hbl, hlocks, hgv⟩ := C0
  have hts : ∀ w ∈ wsL_law, w.before #[Value.ref b] s = true := fun w h => hts0 w (wsL_law_in w h)
  have hbA : ¬ (fun q : Nat => s.heap.size ≤ q) b := Nat.not_le.mpr hbl
  have hown : s.vm.findClass RL = some m.cls := hown
  obtain ⟨hI2, hI9, hI12, hI16, hI18, hI22, hI31, hI38, hI43, hI47, hI50, hI101, hI102, hI103, hI104, hI105, hI106, hI107, hI109, hI110, hI111, hI119, hs_jKept, hs_jBook, ht0, ht1, ht2, ht3, ht4, ht5, ht6, ht7, ht8, ht9, ht10, ht11, hr0, hr1, hr2, hr3, hr4, hr5, hr6, hr7, hr8, hr9⟩ := hAll
  have hL9 : (L : Int) ≤ 384 := by omega
  obtain ⟨i1, i2, i3, i4, i5, w6⟩ : (0 ≤ (σ 2 0).toInt ∧ (σ 2 0).toInt ≤ 4) ∧ (0 ≤ (σ 2 1).toInt ∧ (σ 2 1).toInt ≤ 3) ∧ (0 ≤ (σ 2 2).toInt) ∧ (0 ≤ (σ 2 3).toInt) ∧ ((σ 2 2).toInt + (σ 2 3).toInt ≤ 40) ∧ (∀ k : Nat, k < 40 → 0 ≤ (σ 6 k).toInt ∧ (σ 6 k).toInt ≤ 67) := id hI2
  obtain ⟨i7, w8, w9⟩ : (0 ≤ (σ 9 0).toInt ∧ (σ 9 0).toInt ≤ 80) ∧ (∀ k : Nat, k < 80 → 0 ≤ (σ 10 k).toInt ∧ (σ 10 k).toInt ≤ 255) ∧ (∀ k : Nat, k < 8 → 0 ≤ (σ 11 k).toInt ∧ (σ 11 k).toInt ≤ 3) := id hI9
  obtain ⟨i10, i11, i12, w13⟩ : (1 ≤ (σ 16 0).toInt ∧ (σ 16 0).toInt ≤ 8) ∧ (1 ≤ (σ 16 1).toInt ∧ (σ 16 1).toInt ≤ 12) ∧ (0 ≤ (σ 16 2).toInt ∧ (σ 16 2).toInt ≤ 999) ∧ (∀ k : Nat, k < 8 → 0 ≤ (σ 17 k).toInt ∧ (σ 17 k).toInt ≤ 3) := id hI16
  obtain ⟨i14, i15, w16⟩ : (0 ≤ (σ 38 0).toInt ∧ (σ 38 0).toInt ≤ 20) ∧ (0 ≤ (σ 38 1).toInt ∧ (σ 38 1).toInt ≤ 1000) ∧ (∀ k : Nat, k < 20 → 0 ≤ (σ 39 k).toInt ∧ (σ 39 k).toInt ≤ 6) := id hI38
  obtain ⟨i17, w18, w19⟩ : (0 ≤ (σ 47 0).toInt ∧ (σ 47 0).toInt ≤ 12) ∧ (∀ k : Nat, k < 12 → 0 ≤ (σ 48 k).toInt ∧ (σ 48 k).toInt ≤ 3) ∧ (∀ k : Nat, k < 12 → 0 ≤ (σ 49 k).toInt ∧ (σ 49 k).toInt ≤ 1) := id hI47
  have w20 : ∀ k : Nat, k < 6 → 0 ≤ (σ 52 k).toInt ∧ (σ 52 k).toInt ≤ 60 := hI50
  obtain ⟨i21, i22, i23, w24, w25, w26, w27⟩ : (0 ≤ (σ 55 5).toInt) ∧ ((σ 55 5).toInt ≤ (σ 55 4).toInt) ∧ ((σ 55 4).toInt ≤ 40) ∧ (∀ k : Nat, k < 68 → (-200) ≤ (σ 56 k).toInt ∧ (σ 56 k).toInt ≤ 500) ∧ (∀ k : Nat, k < 40 → 0 ≤ (σ 57 k).toInt ∧ (σ 57 k).toInt ≤ 67) ∧ (∀ k : Nat, k < 40 → (-200) ≤ (σ 58 k).toInt ∧ (σ 58 k).toInt ≤ 500) ∧ (∀ k : Nat, k < 40 → (-200) ≤ (σ 59 k).toInt ∧ (σ 59 k).toInt ≤ 500) := id hI101
  obtain ⟨i28, w29, w30⟩ : (0 ≤ (σ 55 6).toInt ∧ (σ 55 6).toInt ≤ 4) ∧ (∀ k : Nat, k < 4 → 0 ≤ (σ 60 k).toInt ∧ (σ 60 k).toInt ≤ 50) ∧ (∀ k : Nat, k < 4 → 0 ≤ (σ 61 k).toInt ∧ (σ 61 k).toInt ≤ 20) := id hI102
  obtain ⟨i31, i32, i33, w34, w35⟩ : (1 ≤ (σ 55 10).toInt ∧ (σ 55 10).toInt ≤ 8) ∧ (1 ≤ (σ 55 12).toInt ∧ (σ 55 12).toInt ≤ 12) ∧ (0 ≤ (σ 55 13).toInt ∧ (σ 55 13).toInt ≤ 999) ∧ (∀ k : Nat, k < 8 → 0 ≤ (σ 62 k).toInt ∧ (σ 62 k).toInt ≤ 3) ∧ (∀ k : Nat, k < 8 → 0 ≤ (σ 67 k).toInt ∧ (σ 67 k).toInt ≤ 3) := id hI104
  obtain ⟨i36, w37⟩ : (0 ≤ (σ 55 15).toInt ∧ (σ 55 15).toInt ≤ 80) ∧ (∀ k : Nat, k < 2 → (-1) ≤ (σ 65 k).toInt ∧ (σ 65 k).toInt ≤ 80) := id hI105
  obtain ⟨i38, w39, w40, w41⟩ : (0 ≤ (σ 55 32).toInt ∧ (σ 55 32).toInt ≤ 20) ∧ (∀ k : Nat, k < 20 → 0 ≤ (σ 70 k).toInt ∧ (σ 70 k).toInt ≤ 6) ∧ (∀ k : Nat, k < 20 → 0 ≤ (σ 71 k).toInt ∧ (σ 71 k).toInt ≤ 8) ∧ (∀ k : Nat, k < 160 → 0 ≤ (σ 72 k).toInt ∧ (σ 72 k).toInt ≤ 3) := id hI106
  obtain ⟨i42, i43, w44⟩ : (0 ≤ (σ 55 47).toInt ∧ (σ 55 47).toInt ≤ 12) ∧ ((σ 55 47).toInt ≤ (σ 55 12).toInt) ∧ (∀ k : Nat, k < 12 → 0 ≤ (σ 80 k).toInt ∧ (σ 80 k).toInt ≤ 3) := id hI107
  refine lv_aload_n hx hb dL_law_852 rfl (lv_at hl 2 rfl) ?_
  refine lv_aload_n hx hb dL_law_853 rfl (lv_at hl 3 rfl) ?_
  refine lv_iload_n hx hb dL_law_854 rfl (lv_at hl 0 rfl) ?_
  refine lv_iconst (v := 1) hx hb dL_law_855 (of_decide_eq_true rfl) ?_
  have g45 := jrg (rfl : x0.toInt = x0.toInt)
  refine lv_iadd hx hb dL_law_856 ?_
  refine lv_topi (fun x46 ex46 => ?_)
  exact by
   have tx46 : x46.toInt = x0.toInt + 1 := (jadd ex46 rfl jz_1 (by omega) (by omega)).trans (by omega)
   refine va_sld hx hb hX hbl hbA hS (jin tx46 (by omega) (by omega)) dL_law_857 ?_
   have g47 := jrg (rfl : (xs x46.toNatClampNeg).toInt = (xs x46.toNatClampNeg).toInt)
   refine jcallV (As := [.int (xs x46.toNatClampNeg)]) (rest := []) ⟨hx, hb, hml, hown, hts⟩ hK hP hA hS hZ (c_X11_cost l D cI cL ad zz hJ σ τ (xs x46.toNatClampNeg) ((xs x46.toNatClampNeg).toInt) rfl hI2 hI16 hI22 hI31 hI47) cw_RL_105 (jc_0 cI cL ad σ τ) rfl ⟨Nat.le_of_ble_eq_true rfl, Nat.le_of_ble_eq_true rfl⟩ rfl rfl rfl hl.1 rfl (Nat.le_of_ble_eq_true rfl) dL_law_858 ⟨Nat.le_of_ble_eq_true rfl, Nat.le_of_ble_eq_true rfl⟩ (fun r49 σ48 τ48 H locs h48 hP hS => ?_)
   obtain ⟨rfl, f50, f51, I52, h48⟩ := h48
   refine lv_pop hx hb dL_law_861 rfl ?_
   refine lv_aload_n hx hb dL_law_862 rfl (lv_at hl 1 rfl) ?_
   refine lv_aload_n hx hb dL_law_863 rfl (lv_at hl 3 rfl) ?_
   refine lv_iload_n hx hb dL_law_864 rfl (lv_at hl 0 rfl) ?_
   exact by
    refine lv_iconst (v := 1) hx hb dL_law_865 (of_decide_eq_true rfl) ?_
    refine lv_iadd hx hb dL_law_866 ?_
    refine jtopr ex46.symm ?_
    refine va_sld hx hb hX hbl hbA hS (jin tx46 (by omega) (by omega)) dL_law_867 ?_
    have I54 : jI101 σ48 := jI101_fr (congrFun (f50 55 (of_decide_eq_true rfl)) 4) (congrFun (f50 55 (of_decide_eq_true rfl)) 5) (f50 56 (of_decide_eq_true rfl)) (f50 57 (of_decide_eq_true rfl)) (f50 58 (of_decide_eq_true rfl)) (f50 59 (of_decide_eq_true rfl)) hI101
    have I55 : jI102 σ48 := jI102_fr (congrFun (f50 55 (of_decide_eq_true rfl)) 6) (f50 60 (of_decide_eq_true rfl)) (f50 61 (of_decide_eq_true rfl)) hI102
    have I56 : jI103 σ48 := jI103_fr (congrFun (f50 55 (of_decide_eq_true rfl)) 9) hI103
    have I57 : jI104 σ48 := jI104_fr (congrFun (f50 55 (of_decide_eq_true rfl)) 10) (congrFun (f50 55 (of_decide_eq_true rfl)) 12) (congrFun (f50 55 (of_decide_eq_true rfl)) 13) (f50 62 (of_decide_eq_true rfl)) (f50 67 (of_decide_eq_true rfl)) hI104
    have I58 : jI105 σ48 := jI105_fr (congrFun (f50 55 (of_decide_eq_true rfl)) 15) (f50 65 (of_decide_eq_true rfl)) hI105
    exact by
     have I59 : jI106 σ48 := jI106_fr (congrFun (f50 55 (of_decide_eq_true rfl)) 32) (f50 70 (of_decide_eq_true rfl)) (f50 71 (of_decide_eq_true rfl)) (f50 72 (of_decide_eq_true rfl)) hI106
     have I60 : jI107 σ48 := jI107_fr (congrFun (f50 55 (of_decide_eq_true rfl)) 12) (congrFun (f50 55 (of_decide_eq_true rfl)) 47) (f50 80 (of_decide_eq_true rfl)) hI107
     have I61 : jI119 σ48 := jI119_fr (f50 68 (of_decide_eq_true rfl)) hI119
     have p62 : jKept σ48 := jKept.fr (f50 75 (of_decide_eq_true rfl)) (f50 76 (of_decide_eq_true rfl)) (f50 77 (of_decide_eq_true rfl)) hs_jKept
     have p63 : jBook σ48 := jBook.fr (congrFun (f50 55 (of_decide_eq_true rfl)) 47) (congrFun (f50 55 (of_decide_eq_true rfl)) 10) (f50 81 (of_decide_eq_true rfl)) hs_jBook
     refine jcallV (As := [.int (xs x46.toNatClampNeg)]) (rest := []) ⟨hx, hb, hml, hown, hts⟩ hK hP hA hS hZ (c_X12_cost l D cI cL ad zz hJ σ48 τ (xs x46.toNatClampNeg) ((xs x46.toNatClampNeg).toInt) rfl I54 I55 I56 I57 I58 I59 I60 I61 p62 p63) cw_RL_108 (jc_55 cI cL ad σ48 τ) rfl ⟨Nat.le_of_ble_eq_true rfl, Nat.le_of_ble_eq_true rfl⟩ rfl rfl rfl hl.1 rfl (Nat.le_of_ble_eq_true rfl) dL_law_868 ⟨Nat.le_of_ble_eq_true rfl, Nat.le_of_ble_eq_true rfl⟩ (fun r65 σ64 τ64 H locs h64 hP hS => ?_)
     obtain ⟨rfl, f66, f67, I68, p69, p70, h64⟩ := h64
     refine lv_pop hx hb dL_law_871 rfl ?_
     refine lv_goto (tgt := 1357) hx hb dL_law_872 (of_decide_eq_true rfl) ?_
     obtain ⟨x72, ex72⟩ : ∃ y : Int32, y = x0 + 6 := ⟨_, rfl⟩
     exact by
      have tx72 : x72.toInt = x0.toInt + 6 := (jadd ex72 rfl jz_6 (by omega) (by omega)).trans (by omega)
      refine lv_iinc (v := x72) (lv' := [(3, .int x72), (2, .ref (ad 55)), (1, .ref (ad 0)), (0, .ref b)]) hx hb dL_law_1357 hl (k := 0) rfl (by rw [ex72]; rfl) (of_decide_eq_true rfl) rfl (fun ls hl => ?_)
      refine lv_goto (tgt := 18) hx hb dL_law_1360 (of_decide_eq_true rfl) ?_
      have I73 : jI2 σ64 := jI2_fr ((congrFun (f66 2 (of_decide_eq_true rfl)) 0).trans (congrFun (f50 2 (of_decide_eq_true rfl)) 0)) ((congrFun (f66 2 (of_decide_eq_true rfl)) 1).trans (congrFun (f50 2 (of_decide_eq_true rfl)) 1)) ((congrFun (f66 2 (of_decide_eq_true rfl)) 2).trans (congrFun (f50 2 (of_decide_eq_true rfl)) 2)) ((congrFun (f66 2 (of_decide_eq_true rfl)) 3).trans (congrFun (f50 2 (of_decide_eq_true rfl)) 3)) ((f66 6 (of_decide_eq_true rfl)).trans (f50 6 (of_decide_eq_true rfl))) hI2
      have I74 : jI9 σ64 := jI9_fr ((congrFun (f66 9 (of_decide_eq_true rfl)) 0).trans (congrFun (f50 9 (of_decide_eq_true rfl)) 0)) ((f66 10 (of_decide_eq_true rfl)).trans (f50 10 (of_decide_eq_true rfl))) ((f66 11 (of_decide_eq_true rfl)).trans (f50 11 (of_decide_eq_true rfl))) hI9
      have I75 : jI12 σ64 := jI12_fr ((congrFun (f66 12 (of_decide_eq_true rfl)) 0).trans (congrFun (f50 12 (of_decide_eq_true rfl)) 0)) ((f66 13 (of_decide_eq_true rfl)).trans (f50 13 (of_decide_eq_true rfl))) hI12
      have I76 : jI16 σ64 := jI16_fr ((congrFun (f66 16 (of_decide_eq_true rfl)) 0).trans (congrFun (f50 16 (of_decide_eq_true rfl)) 0)) ((congrFun (f66 16 (of_decide_eq_true rfl)) 1).trans (congrFun (f50 16 (of_decide_eq_true rfl)) 1)) ((congrFun (f66 16 (of_decide_eq_true rfl)) 2).trans (congrFun (f50 16 (of_decide_eq_true rfl)) 2)) ((f66 17 (of_decide_eq_true rfl)).trans (f50 17 (of_decide_eq_true rfl))) hI16
      have I77 : jI18 σ64 := jI18_fr ((congrFun (f66 18 (of_decide_eq_true rfl)) 0).trans (congrFun (f50 18 (of_decide_eq_true rfl)) 0)) ((f66 19 (of_decide_eq_true rfl)).trans (f50 19 (of_decide_eq_true rfl))) hI18
      have I78 : jI22 σ64 := jI22_fr ((congrFun (f66 22 (of_decide_eq_true rfl)) 0).trans (congrFun (f50 22 (of_decide_eq_true rfl)) 0)) ((f66 23 (of_decide_eq_true rfl)).trans (f50 23 (of_decide_eq_true rfl))) hI22
      exact by
       have I79 : jI31 σ64 := jI31_fr (congrFun (f66 31 (of_decide_eq_true rfl)) 8) (f66 33 (of_decide_eq_true rfl)) (f66 36 (of_decide_eq_true rfl)) I52
       have I80 : jI38 σ64 := jI38_fr ((congrFun (f66 38 (of_decide_eq_true rfl)) 0).trans (congrFun (f50 38 (of_decide_eq_true rfl)) 0)) ((congrFun (f66 38 (of_decide_eq_true rfl)) 1).trans (congrFun (f50 38 (of_decide_eq_true rfl)) 1)) ((f66 39 (of_decide_eq_true rfl)).trans (f50 39 (of_decide_eq_true rfl))) hI38
       have I81 : jI43 σ64 := jI43_fr ((congrFun (f66 43 (of_decide_eq_true rfl)) 8).trans (congrFun (f50 43 (of_decide_eq_true rfl)) 8)) hI43
       have I82 : jI47 σ64 := jI47_fr ((congrFun (f66 47 (of_decide_eq_true rfl)) 0).trans (congrFun (f50 47 (of_decide_eq_true rfl)) 0)) ((f66 48 (of_decide_eq_true rfl)).trans (f50 48 (of_decide_eq_true rfl))) ((f66 49 (of_decide_eq_true rfl)).trans (f50 49 (of_decide_eq_true rfl))) hI47
       have I83 : jI50 σ64 := jI50_fr ((f66 52 (of_decide_eq_true rfl)).trans (f50 52 (of_decide_eq_true rfl))) hI50
       have I84 : jI101 σ64 := jI101_fr (f67 4 (of_decide_eq_true rfl)) (f67 5 (of_decide_eq_true rfl)) (f66 56 (of_decide_eq_true rfl)) (f66 57 (of_decide_eq_true rfl)) (f66 58 (of_decide_eq_true rfl)) (f66 59 (of_decide_eq_true rfl)) I54
       have I85 : jI102 σ64 := jI102_fr (f67 6 (of_decide_eq_true rfl)) (f66 60 (of_decide_eq_true rfl)) (f66 61 (of_decide_eq_true rfl)) I55
       have I86 : jI103 σ64 := jI103_fr (f67 9 (of_decide_eq_true rfl)) I56
       have I87 : jI104 σ64 := jI104_fr (f67 10 (of_decide_eq_true rfl)) (f67 12 (of_decide_eq_true rfl)) (f67 13 (of_decide_eq_true rfl)) (f66 62 (of_decide_eq_true rfl)) (f66 67 (of_decide_eq_true rfl)) I57
       have I88 : jI105 σ64 := jI105_fr (f67 15 (of_decide_eq_true rfl)) (f66 65 (of_decide_eq_true rfl)) I58
       have I89 : jI106 σ64 := jI106_fr (f67 32 (of_decide_eq_true rfl)) (f66 70 (of_decide_eq_true rfl)) (f66 71 (of_decide_eq_true rfl)) (f66 72 (of_decide_eq_true rfl)) I59
       have I90 : jI107 σ64 := jI107_fr (f67 12 (of_decide_eq_true rfl)) (f67 47 (of_decide_eq_true rfl)) (f66 80 (of_decide_eq_true rfl)) I60
       have I91 : jI109 σ64 := jI109_fr ((f67 50 (of_decide_eq_true rfl)).trans (congrFun (f50 55 (of_decide_eq_true rfl)) 50)) hI109
       have I92 : jI110 σ64 := jI110_fr ((f66 86 (of_decide_eq_true rfl)).trans (f50 86 (of_decide_eq_true rfl))) ((f66 87 (of_decide_eq_true rfl)).trans (f50 87 (of_decide_eq_true rfl))) hI110
       have I93 : jI111 σ64 := jI111_fr ((f66 79 (of_decide_eq_true rfl)).trans (f50 79 (of_decide_eq_true rfl))) hI111
       have z94 : (σ64 2 0).toInt = (σ 2 0).toInt := (congrArg Int32.toInt (show σ64 2 0 = (σ 2 0) from ((congrFun (f66 2 (of_decide_eq_true rfl)) 0).trans (congrFun (f50 2 (of_decide_eq_true rfl)) 0))))
       have z95 : (σ64 55 6).toInt = (σ 55 6).toInt := (congrArg Int32.toInt (show σ64 55 6 = (σ 55 6) from ((f67 6 (of_decide_eq_true rfl)).trans (congrFun (f50 55 (of_decide_eq_true rfl)) 6))))
       have z96 : (σ64 2 2).toInt = (σ 2 2).toInt := (congrArg Int32.toInt (show σ64 2 2 = (σ 2 2) from ((congrFun (f66 2 (of_decide_eq_true rfl)) 2).trans (congrFun (f50 2 (of_decide_eq_true rfl)) 2))))
       have z97 : (σ64 55 5).toInt = (σ 55 5).toInt := (congrArg Int32.toInt (show σ64 55 5 = (σ 55 5) from ((f67 5 (of_decide_eq_true rfl)).trans (congrFun (f50 55 (of_decide_eq_true rfl)) 5))))
       have z98 : (σ64 2 3).toInt = (σ 2 3).toInt := (congrArg Int32.toInt (show σ64 2 3 = (σ 2 3) from ((congrFun (f66 2 (of_decide_eq_true rfl)) 3).trans (congrFun (f50 2 (of_decide_eq_true rfl)) 3))))
       have z99 : (σ64 55 4).toInt = (σ 55 4).toInt := (congrArg Int32.toInt (show σ64 55 4 = (σ 55 4) from ((f67 4 (of_decide_eq_true rfl)).trans (congrFun (f50 55 (of_decide_eq_true rfl)) 4))))
       have z100 : (σ64 9 0).toInt = (σ 9 0).toInt := (congrArg Int32.toInt (show σ64 9 0 = (σ 9 0) from ((congrFun (f66 9 (of_decide_eq_true rfl)) 0).trans (congrFun (f50 9 (of_decide_eq_true rfl)) 0))))
       have z101 : (σ64 55 15).toInt = (σ 55 15).toInt := (congrArg Int32.toInt (show σ64 55 15 = (σ 55 15) from ((f67 15 (of_decide_eq_true rfl)).trans (congrFun (f50 55 (of_decide_eq_true rfl)) 15))))
       have z102 : (σ64 16 0).toInt = (σ 16 0).toInt := (congrArg Int32.toInt (show σ64 16 0 = (σ 16 0) from ((congrFun (f66 16 (of_decide_eq_true rfl)) 0).trans (congrFun (f50 16 (of_decide_eq_true rfl)) 0))))
       have z103 : (σ64 55 10).toInt = (σ 55 10).toInt := (congrArg Int32.toInt (show σ64 55 10 = (σ 55 10) from ((f67 10 (of_decide_eq_true rfl)).trans (congrFun (f50 55 (of_decide_eq_true rfl)) 10))))
       have z104 : (σ64 16 1).toInt = (σ 16 1).toInt := (congrArg Int32.toInt (show σ64 16 1 = (σ 16 1) from ((congrFun (f66 16 (of_decide_eq_true rfl)) 1).trans (congrFun (f50 16 (of_decide_eq_true rfl)) 1))))
       have z105 : (σ64 55 12).toInt = (σ 55 12).toInt := (congrArg Int32.toInt (show σ64 55 12 = (σ 55 12) from ((f67 12 (of_decide_eq_true rfl)).trans (congrFun (f50 55 (of_decide_eq_true rfl)) 12))))
       have z106 : (σ64 16 2).toInt = (σ 16 2).toInt := (congrArg Int32.toInt (show σ64 16 2 = (σ 16 2) from ((congrFun (f66 16 (of_decide_eq_true rfl)) 2).trans (congrFun (f50 16 (of_decide_eq_true rfl)) 2))))
       have z107 : (σ64 55 13).toInt = (σ 55 13).toInt := (congrArg Int32.toInt (show σ64 55 13 = (σ 55 13) from ((f67 13 (of_decide_eq_true rfl)).trans (congrFun (f50 55 (of_decide_eq_true rfl)) 13))))
       have z108 : (σ64 38 0).toInt = (σ 38 0).toInt := (congrArg Int32.toInt (show σ64 38 0 = (σ 38 0) from ((congrFun (f66 38 (of_decide_eq_true rfl)) 0).trans (congrFun (f50 38 (of_decide_eq_true rfl)) 0))))
       have z109 : (σ64 55 32).toInt = (σ 55 32).toInt := (congrArg Int32.toInt (show σ64 55 32 = (σ 55 32) from ((f67 32 (of_decide_eq_true rfl)).trans (congrFun (f50 55 (of_decide_eq_true rfl)) 32))))
       have z110 : (σ64 38 1).toInt = (σ 38 1).toInt := (congrArg Int32.toInt (show σ64 38 1 = (σ 38 1) from ((congrFun (f66 38 (of_decide_eq_true rfl)) 1).trans (congrFun (f50 38 (of_decide_eq_true rfl)) 1))))
       have z111 : (σ64 55 55).toInt = (σ 55 55).toInt := (congrArg Int32.toInt (show σ64 55 55 = (σ 55 55) from ((f67 55 (of_decide_eq_true rfl)).trans (congrFun (f50 55 (of_decide_eq_true rfl)) 55))))
       have z112 : (σ64 47 0).toInt = (σ 47 0).toInt := (congrArg Int32.toInt (show σ64 47 0 = (σ 47 0) from ((congrFun (f66 47 (of_decide_eq_true rfl)) 0).trans (congrFun (f50 47 (of_decide_eq_true rfl)) 0))))
       have z113 : (σ64 55 47).toInt = (σ 55 47).toInt := (congrArg Int32.toInt (show σ64 55 47 = (σ 55 47) from ((f67 47 (of_decide_eq_true rfl)).trans (congrFun (f50 55 (of_decide_eq_true rfl)) 47))))
       have z114 : (σ64 55 30).toInt = (σ 55 30).toInt := (congrArg Int32.toInt (show σ64 55 30 = (σ 55 30) from ((f67 30 (of_decide_eq_true rfl)).trans (congrFun (f50 55 (of_decide_eq_true rfl)) 30))))
       have z115 : (σ64 55 31).toInt = (σ 55 31).toInt := (congrArg Int32.toInt (show σ64 55 31 = (σ 55 31) from ((f67 31 (of_decide_eq_true rfl)).trans (congrFun (f50 55 (of_decide_eq_true rfl)) 31))))
       exact by exact ih x72 σ64 τ _ _ ls (by have h9 := tx72; omega) ⟨I73, I74, I75, I76, I77, I78, I79, I80, I81, I82, I83, I84, I85, I86, I87, I88, I89, I90, I91, I92, I93, I68, p69, p70, (by omega), (by omega), (by omega), (by omega), (by omega), (by omega), (by omega), (by omega), (by omega), (by omega), (by omega), (by omega), (show jNumP (σ64 3) (σ64 56) (σ64 6) (σ64 57) (σ64 7) (σ64 58) (σ64 8) (σ64 59) (σ64 55 6).toInt (σ64 55 4).toInt by rw [show σ64 3 = σ 3 from ((f66 3 (of_decide_eq_true rfl)).trans (f50 3 (of_decide_eq_true rfl))), show σ64 56 = σ 56 from ((f66 56 (of_decide_eq_true rfl)).trans (f50 56 (of_decide_eq_true rfl))), show σ64 6 = σ 6 from ((f66 6 (of_decide_eq_true rfl)).trans (f50 6 (of_decide_eq_true rfl))), show σ64 57 = σ 57 from ((f66 57 (of_decide_eq_true rfl)).trans (f50 57 (of_decide_eq_true rfl))), show σ64 7 = σ 7 from ((f66 7 (of_decide_eq_true rfl)).trans (f50 7 (of_decide_eq_true rfl))), show σ64 58 = σ 58 from ((f66 58 (of_decide_eq_true rfl)).trans (f50 58 (of_decide_eq_true rfl))), show σ64 8 = σ 8 from ((f66 8 (of_decide_eq_true rfl)).trans (f50 8 (of_decide_eq_true rfl))), show σ64 59 = σ 59 from ((f66 59 (of_decide_eq_true rfl)).trans (f50 59 (of_decide_eq_true rfl))), show (σ64 55 6).toInt = (σ 55 6).toInt from by omega, show (σ64 55 4).toInt = (σ 55 4).toInt from by omega]; exact hr0), (show jOvP (σ64 56) (σ64 57) (σ64 58) (σ64 59) (σ64 55 4).toInt by rw [show σ64 56 = σ 56 from ((f66 56 (of_decide_eq_true rfl)).trans (f50 56 (of_decide_eq_true rfl))), show σ64 57 = σ 57 from ((f66 57 (of_decide_eq_true rfl)).trans (f50 57 (of_decide_eq_true rfl))), show σ64 58 = σ 58 from ((f66 58 (of_decide_eq_true rfl)).trans (f50 58 (of_decide_eq_true rfl))), show σ64 59 = σ 59 from ((f66 59 (of_decide_eq_true rfl)).trans (f50 59 (of_decide_eq_true rfl))), show (σ64 55 4).toInt = (σ 55 4).toInt from by omega]; exact hr1), (show jTp (σ64 10) (σ64 63) (σ64 55 15).toInt by rw [show σ64 10 = σ 10 from ((f66 10 (of_decide_eq_true rfl)).trans (f50 10 (of_decide_eq_true rfl))), show σ64 63 = σ 63 from ((f66 63 (of_decide_eq_true rfl)).trans (f50 63 (of_decide_eq_true rfl)))]; exact hr2.le (by omega)), (show jSo (σ64 17) (σ64 62) (σ64 16 0).toInt by rw [show σ64 17 = σ 17 from ((f66 17 (of_decide_eq_true rfl)).trans (f50 17 (of_decide_eq_true rfl))), show σ64 62 = σ 62 from ((f66 62 (of_decide_eq_true rfl)).trans (f50 62 (of_decide_eq_true rfl))), show (σ64 16 0).toInt = (σ 16 0).toInt from by omega]; exact hr3), (show jShP (σ64 51) (σ64 52) (σ64 53) (σ64 86) (σ64 87) (σ64 55 32).toInt by rw [show σ64 51 = σ 51 from ((f66 51 (of_decide_eq_true rfl)).trans (f50 51 (of_decide_eq_true rfl))), show σ64 52 = σ 52 from ((f66 52 (of_decide_eq_true rfl)).trans (f50 52 (of_decide_eq_true rfl))), show σ64 53 = σ 53 from ((f66 53 (of_decide_eq_true rfl)).trans (f50 53 (of_decide_eq_true rfl))), show σ64 86 = σ 86 from ((f66 86 (of_decide_eq_true rfl)).trans (f50 86 (of_decide_eq_true rfl))), show σ64 87 = σ 87 from ((f66 87 (of_decide_eq_true rfl)).trans (f50 87 (of_decide_eq_true rfl)))]; exact (hr4.up (by omega) (by omega))), (show jEl (σ64 51) (σ64 52) (τ 54) (τ 88) by rw [show σ64 51 = σ 51 from ((f66 51 (of_decide_eq_true rfl)).trans (f50 51 (of_decide_eq_true rfl))), show σ64 52 = σ 52 from ((f66 52 (of_decide_eq_true rfl)).trans (f50 52 (of_decide_eq_true rfl)))]; exact hr5), (show jByP (σ64 51) (σ64 52) (τ 54) by rw [show σ64 51 = σ 51 from ((f66 51 (of_decide_eq_true rfl)).trans (f50 51 (of_decide_eq_true rfl))), show σ64 52 = σ 52 from ((f66 52 (of_decide_eq_true rfl)).trans (f50 52 (of_decide_eq_true rfl)))]; exact hr6), (show jBk (σ64 48) (σ64 80) (σ64 49) (σ64 81) (σ64 55 47).toInt by rw [show σ64 48 = σ 48 from ((f66 48 (of_decide_eq_true rfl)).trans (f50 48 (of_decide_eq_true rfl))), show σ64 49 = σ 49 from ((f66 49 (of_decide_eq_true rfl)).trans (f50 49 (of_decide_eq_true rfl))), show σ64 80 = σ 80 from ((f66 80 (of_decide_eq_true rfl)).trans (f50 80 (of_decide_eq_true rfl))), show σ64 81 = σ 81 from ((f66 81 (of_decide_eq_true rfl)).trans (f50 81 (of_decide_eq_true rfl))), show (σ64 55 47).toInt = (σ 55 47).toInt from by omega]; exact hr7), (show jKd (σ64 39) (σ64 70) (σ64 55 32).toInt by rw [show σ64 39 = σ 39 from ((f66 39 (of_decide_eq_true rfl)).trans (f50 39 (of_decide_eq_true rfl))), show σ64 70 = σ 70 from ((f66 70 (of_decide_eq_true rfl)).trans (f50 70 (of_decide_eq_true rfl))), show (σ64 55 32).toInt = (σ 55 32).toInt from by omega]; exact hr8), (show jTt (σ64 42) (σ64 85) (σ64 55 55).toInt by rw [show σ64 42 = σ 42 from ((f66 42 (of_decide_eq_true rfl)).trans (f50 42 (of_decide_eq_true rfl))), show σ64 85 = σ 85 from ((f66 85 (of_decide_eq_true rfl)).trans (f50 85 (of_decide_eq_true rfl))), show (σ64 55 55).toInt = (σ 55 55).toInt from by omega]; exact hr9)⟩ hP hS (lv_sub hl [0, 1, 2, 3] rfl)
set_option maxHeartbeats 4000000 in
set_option maxRecDepth 100000 in
theorem law_case_23 {p : Program} {e : Env} {s : State} {m : MethodId} {below : List Frame} {meth : Method} {c : Code} (l : Launch) {b L : Nat} {xs : Nat → Int32} {D : va_G} {cI cL : ClassId} {ad zz : Nat → Nat} (C0 : lw_At p s m meth c b L xs) (hJ : jD ad) (hA : ∀ q, jA ad q → s.heap.size ≤ q) (hK : jK D cI cL s) (hZ : jZ zz (fun q : Nat => s.heap.size ≤ q) s s.heap) {x0 : Int32} (hx0 : 0 ≤ x0.toInt) (hxL : x0.toInt + 6 ≤ (L : Int)) (hL : L ≤ 384) {σ : Nat → Nat → Int32} {τ : Nat → Nat → Int64} {H : Heap} {locs : List Loc} (hS : va_S (fun q : Nat => s.heap.size ≤ q) s.heap H locs) {ls : Array Slot} (hAll : jAll σ τ) (hP : jH D cI cL ad σ τ H) (hl : lv_has ls 4 [(3, .int x0), (2, .ref (ad 55)), (1, .ref (ad 0)), (0, .ref b)]) (ih : ∀ (x1 : Int32) (σ : Nat → Nat → Int32) (τ : Nat → Nat → Int64) (H : Heap) (locs : List Loc) (ls : Array Slot), x1.toInt = x0.toInt + 6 → jAll σ τ → jH D cI cL ad σ τ H → va_S (fun q : Nat => s.heap.size ≤ q) s.heap H locs → lv_has ls 4 [(3, .int x1), (2, .ref (ad 55)), (1, .ref (ad 0)), (0, .ref b)] → W p l e room_1 s m #[Value.ref b] below meth c H locs 90 348600 (lw_Z below #[Value.ref b] s) (F0 m 18 ls [])) : W p l e room_1 s m #[Value.ref b] below meth c H locs 90 348600 (lw_Z below #[Value.ref b] s) (F0 m 875 ls []) := by
  obtain ⟨hx, hb, hr, hml, hown, hts0, hX, hbl, hlocks, hgv⟩ := C0
  have hts : ∀ w ∈ wsL_law, w.before #[Value.ref b] s = true := fun w h => hts0 w (wsL_law_in w h)
  have hbA : ¬ (fun q : Nat => s.heap.size ≤ q) b := Nat.not_le.mpr hbl
  have hown : s.vm.findClass RL = some m.cls := hown
  obtain ⟨hI2, hI9, hI12, hI16, hI18, hI22, hI31, hI38, hI43, hI47, hI50, hI101, hI102, hI103, hI104, hI105, hI106, hI107, hI109, hI110, hI111, hI119, hs_jKept, hs_jBook, ht0, ht1, ht2, ht3, ht4, ht5, ht6, ht7, ht8, ht9, ht10, ht11, hr0, hr1, hr2, hr3, hr4, hr5, hr6, hr7, hr8, hr9⟩ := hAll
  have hL9 : (L : Int) ≤ 384 := by omega
  obtain ⟨i1, i2, i3, i4, i5, w6⟩ : (0 ≤ (σ 2 0).toInt ∧ (σ 2 0).toInt ≤ 4) ∧ (0 ≤ (σ 2 1).toInt ∧ (σ 2 1).toInt ≤ 3) ∧ (0 ≤ (σ 2 2).toInt) ∧ (0 ≤ (σ 2 3).toInt) ∧ ((σ 2 2).toInt + (σ 2 3).toInt ≤ 40) ∧ (∀ k : Nat, k < 40 → 0 ≤ (σ 6 k).toInt ∧ (σ 6 k).toInt ≤ 67) := id hI2
  obtain ⟨i7, w8, w9⟩ : (0 ≤ (σ 9 0).toInt ∧ (σ 9 0).toInt ≤ 80) ∧ (∀ k : Nat, k < 80 → 0 ≤ (σ 10 k).toInt ∧ (σ 10 k).toInt ≤ 255) ∧ (∀ k : Nat, k < 8 → 0 ≤ (σ 11 k).toInt ∧ (σ 11 k).toInt ≤ 3) := id hI9
  obtain ⟨i10, i11, i12, w13⟩ : (1 ≤ (σ 16 0).toInt ∧ (σ 16 0).toInt ≤ 8) ∧ (1 ≤ (σ 16 1).toInt ∧ (σ 16 1).toInt ≤ 12) ∧ (0 ≤ (σ 16 2).toInt ∧ (σ 16 2).toInt ≤ 999) ∧ (∀ k : Nat, k < 8 → 0 ≤ (σ 17 k).toInt ∧ (σ 17 k).toInt ≤ 3) := id hI16
  obtain ⟨i14, i15, w16⟩ : (0 ≤ (σ 38 0).toInt ∧ (σ 38 0).toInt ≤ 20) ∧ (0 ≤ (σ 38 1).toInt ∧ (σ 38 1).toInt ≤ 1000) ∧ (∀ k : Nat, k < 20 → 0 ≤ (σ 39 k).toInt ∧ (σ 39 k).toInt ≤ 6) := id hI38
  obtain ⟨i17, w18, w19⟩ : (0 ≤ (σ 47 0).toInt ∧ (σ 47 0).toInt ≤ 12) ∧ (∀ k : Nat, k < 12 → 0 ≤ (σ 48 k).toInt ∧ (σ 48 k).toInt ≤ 3) ∧ (∀ k : Nat, k < 12 → 0 ≤ (σ 49 k).toInt ∧ (σ 49 k).toInt ≤ 1) := id hI47
  have w20 : ∀ k : Nat, k < 6 → 0 ≤ (σ 52 k).toInt ∧ (σ 52 k).toInt ≤ 60 := hI50
  obtain ⟨i21, i22, i23, w24, w25, w26, w27⟩ : (0 ≤ (σ 55 5).toInt) ∧ ((σ 55 5).toInt ≤ (σ 55 4).toInt) ∧ ((σ 55 4).toInt ≤ 40) ∧ (∀ k : Nat, k < 68 → (-200) ≤ (σ 56 k).toInt ∧ (σ 56 k).toInt ≤ 500) ∧ (∀ k : Nat, k < 40 → 0 ≤ (σ 57 k).toInt ∧ (σ 57 k).toInt ≤ 67) ∧ (∀ k : Nat, k < 40 → (-200) ≤ (σ 58 k).toInt ∧ (σ 58 k).toInt ≤ 500) ∧ (∀ k : Nat, k < 40 → (-200) ≤ (σ 59 k).toInt ∧ (σ 59 k).toInt ≤ 500) := id hI101
  obtain ⟨i28, w29, w30⟩ : (0 ≤ (σ 55 6).toInt ∧ (σ 55 6).toInt ≤ 4) ∧ (∀ k : Nat, k < 4 → 0 ≤ (σ 60 k).toInt ∧ (σ 60 k).toInt ≤ 50) ∧ (∀ k : Nat, k < 4 → 0 ≤ (σ 61 k).toInt ∧ (σ 61 k).toInt ≤ 20) := id hI102
  obtain ⟨i31, i32, i33, w34, w35⟩ : (1 ≤ (σ 55 10).toInt ∧ (σ 55 10).toInt ≤ 8) ∧ (1 ≤ (σ 55 12).toInt ∧ (σ 55 12).toInt ≤ 12) ∧ (0 ≤ (σ 55 13).toInt ∧ (σ 55 13).toInt ≤ 999) ∧ (∀ k : Nat, k < 8 → 0 ≤ (σ 62 k).toInt ∧ (σ 62 k).toInt ≤ 3) ∧ (∀ k : Nat, k < 8 → 0 ≤ (σ 67 k).toInt ∧ (σ 67 k).toInt ≤ 3) := id hI104
  obtain ⟨i36, w37⟩ : (0 ≤ (σ 55 15).toInt ∧ (σ 55 15).toInt ≤ 80) ∧ (∀ k : Nat, k < 2 → (-1) ≤ (σ 65 k).toInt ∧ (σ 65 k).toInt ≤ 80) := id hI105
  obtain ⟨i38, w39, w40, w41⟩ : (0 ≤ (σ 55 32).toInt ∧ (σ 55 32).toInt ≤ 20) ∧ (∀ k : Nat, k < 20 → 0 ≤ (σ 70 k).toInt ∧ (σ 70 k).toInt ≤ 6) ∧ (∀ k : Nat, k < 20 → 0 ≤ (σ 71 k).toInt ∧ (σ 71 k).toInt ≤ 8) ∧ (∀ k : Nat, k < 160 → 0 ≤ (σ 72 k).toInt ∧ (σ 72 k).toInt ≤ 3) := id hI106
  obtain ⟨i42, i43, w44⟩ : (0 ≤ (σ 55 47).toInt ∧ (σ 55 47).toInt ≤ 12) ∧ ((σ 55 47).toInt ≤ (σ 55 12).toInt) ∧ (∀ k : Nat, k < 12 → 0 ≤ (σ 80 k).toInt ∧ (σ 80 k).toInt ≤ 3) := id hI107
  refine lv_aload_n hx hb dL_law_875 rfl (lv_at hl 2 rfl) ?_
  refine lv_aload_n hx hb dL_law_876 rfl (lv_at hl 3 rfl) ?_
  refine lv_iload_n hx hb dL_law_877 rfl (lv_at hl 0 rfl) ?_
  refine lv_iconst (v := 1) hx hb dL_law_878 (of_decide_eq_true rfl) ?_
  have g45 := jrg (rfl : x0.toInt = x0.toInt)
  refine lv_iadd hx hb dL_law_879 ?_
  refine lv_topi (fun x46 ex46 => ?_)
  exact by
   have tx46 : x46.toInt = x0.toInt + 1 := (jadd ex46 rfl jz_1 (by omega) (by omega)).trans (by omega)
   refine va_sld hx hb hX hbl hbA hS (jin tx46 (by omega) (by omega)) dL_law_880 ?_
   have g47 := jrg (rfl : (xs x46.toNatClampNeg).toInt = (xs x46.toNatClampNeg).toInt)
   refine jcallV (As := [.int (xs x46.toNatClampNeg)]) (rest := []) ⟨hx, hb, hml, hown, hts⟩ hK hP hA hS hZ (c_X11_lost l D cI cL ad zz hJ σ τ (xs x46.toNatClampNeg) ((xs x46.toNatClampNeg).toInt) rfl hI2 hI16 hI22 hI31 hI47) cw_RL_109 (jc_0 cI cL ad σ τ) rfl ⟨Nat.le_of_ble_eq_true rfl, Nat.le_of_ble_eq_true rfl⟩ rfl rfl rfl hl.1 rfl (Nat.le_of_ble_eq_true rfl) dL_law_881 ⟨Nat.le_of_ble_eq_true rfl, Nat.le_of_ble_eq_true rfl⟩ (fun r49 σ48 τ48 H locs h48 hP hS => ?_)
   obtain ⟨rfl, f50, f51, I52, h48⟩ := h48
   refine lv_pop hx hb dL_law_884 rfl ?_
   refine lv_aload_n hx hb dL_law_885 rfl (lv_at hl 1 rfl) ?_
   refine lv_aload_n hx hb dL_law_886 rfl (lv_at hl 3 rfl) ?_
   refine lv_iload_n hx hb dL_law_887 rfl (lv_at hl 0 rfl) ?_
   exact by
    refine lv_iconst (v := 1) hx hb dL_law_888 (of_decide_eq_true rfl) ?_
    refine lv_iadd hx hb dL_law_889 ?_
    refine jtopr ex46.symm ?_
    refine va_sld hx hb hX hbl hbA hS (jin tx46 (by omega) (by omega)) dL_law_890 ?_
    have I54 : jI101 σ48 := jI101_fr (congrFun (f50 55 (of_decide_eq_true rfl)) 4) (congrFun (f50 55 (of_decide_eq_true rfl)) 5) (f50 56 (of_decide_eq_true rfl)) (f50 57 (of_decide_eq_true rfl)) (f50 58 (of_decide_eq_true rfl)) (f50 59 (of_decide_eq_true rfl)) hI101
    have I55 : jI102 σ48 := jI102_fr (congrFun (f50 55 (of_decide_eq_true rfl)) 6) (f50 60 (of_decide_eq_true rfl)) (f50 61 (of_decide_eq_true rfl)) hI102
    have I56 : jI103 σ48 := jI103_fr (congrFun (f50 55 (of_decide_eq_true rfl)) 9) hI103
    have I57 : jI104 σ48 := jI104_fr (congrFun (f50 55 (of_decide_eq_true rfl)) 10) (congrFun (f50 55 (of_decide_eq_true rfl)) 12) (congrFun (f50 55 (of_decide_eq_true rfl)) 13) (f50 62 (of_decide_eq_true rfl)) (f50 67 (of_decide_eq_true rfl)) hI104
    have I58 : jI105 σ48 := jI105_fr (congrFun (f50 55 (of_decide_eq_true rfl)) 15) (f50 65 (of_decide_eq_true rfl)) hI105
    exact by
     have I59 : jI106 σ48 := jI106_fr (congrFun (f50 55 (of_decide_eq_true rfl)) 32) (f50 70 (of_decide_eq_true rfl)) (f50 71 (of_decide_eq_true rfl)) (f50 72 (of_decide_eq_true rfl)) hI106
     have I60 : jI107 σ48 := jI107_fr (congrFun (f50 55 (of_decide_eq_true rfl)) 12) (congrFun (f50 55 (of_decide_eq_true rfl)) 47) (f50 80 (of_decide_eq_true rfl)) hI107
     have I61 : jI119 σ48 := jI119_fr (f50 68 (of_decide_eq_true rfl)) hI119
     have p62 : jKept σ48 := jKept.fr (f50 75 (of_decide_eq_true rfl)) (f50 76 (of_decide_eq_true rfl)) (f50 77 (of_decide_eq_true rfl)) hs_jKept
     have p63 : jBook σ48 := jBook.fr (congrFun (f50 55 (of_decide_eq_true rfl)) 47) (congrFun (f50 55 (of_decide_eq_true rfl)) 10) (f50 81 (of_decide_eq_true rfl)) hs_jBook
     refine jcallV (As := [.int (xs x46.toNatClampNeg)]) (rest := []) ⟨hx, hb, hml, hown, hts⟩ hK hP hA hS hZ (c_X12_lost l D cI cL ad zz hJ σ48 τ (xs x46.toNatClampNeg) ((xs x46.toNatClampNeg).toInt) rfl I54 I55 I56 I57 I58 I59 I60 I61 p62 p63) cw_RL_112 (jc_55 cI cL ad σ48 τ) rfl ⟨Nat.le_of_ble_eq_true rfl, Nat.le_of_ble_eq_true rfl⟩ rfl rfl rfl hl.1 rfl (Nat.le_of_ble_eq_true rfl) dL_law_891 ⟨Nat.le_of_ble_eq_true rfl, Nat.le_of_ble_eq_true rfl⟩ (fun r65 σ64 τ64 H locs h64 hP hS => ?_)
     obtain ⟨rfl, f66, f67, I68, p69, p70, h64⟩ := h64
     refine lv_pop hx hb dL_law_894 rfl ?_
     refine lv_goto (tgt := 1357) hx hb dL_law_895 (of_decide_eq_true rfl) ?_
     obtain ⟨x72, ex72⟩ : ∃ y : Int32, y = x0 + 6 := ⟨_, rfl⟩
     exact by
      have tx72 : x72.toInt = x0.toInt + 6 := (jadd ex72 rfl jz_6 (by omega) (by omega)).trans (by omega)
      refine lv_iinc (v := x72) (lv' := [(3, .int x72), (2, .ref (ad 55)), (1, .ref (ad 0)), (0, .ref b)]) hx hb dL_law_1357 hl (k := 0) rfl (by rw [ex72]; rfl) (of_decide_eq_true rfl) rfl (fun ls hl => ?_)
      refine lv_goto (tgt := 18) hx hb dL_law_1360 (of_decide_eq_true rfl) ?_
      have I73 : jI2 σ64 := jI2_fr ((congrFun (f66 2 (of_decide_eq_true rfl)) 0).trans (congrFun (f50 2 (of_decide_eq_true rfl)) 0)) ((congrFun (f66 2 (of_decide_eq_true rfl)) 1).trans (congrFun (f50 2 (of_decide_eq_true rfl)) 1)) ((congrFun (f66 2 (of_decide_eq_true rfl)) 2).trans (congrFun (f50 2 (of_decide_eq_true rfl)) 2)) ((congrFun (f66 2 (of_decide_eq_true rfl)) 3).trans (congrFun (f50 2 (of_decide_eq_true rfl)) 3)) ((f66 6 (of_decide_eq_true rfl)).trans (f50 6 (of_decide_eq_true rfl))) hI2
      have I74 : jI9 σ64 := jI9_fr ((congrFun (f66 9 (of_decide_eq_true rfl)) 0).trans (congrFun (f50 9 (of_decide_eq_true rfl)) 0)) ((f66 10 (of_decide_eq_true rfl)).trans (f50 10 (of_decide_eq_true rfl))) ((f66 11 (of_decide_eq_true rfl)).trans (f50 11 (of_decide_eq_true rfl))) hI9
      have I75 : jI12 σ64 := jI12_fr ((congrFun (f66 12 (of_decide_eq_true rfl)) 0).trans (congrFun (f50 12 (of_decide_eq_true rfl)) 0)) ((f66 13 (of_decide_eq_true rfl)).trans (f50 13 (of_decide_eq_true rfl))) hI12
      have I76 : jI16 σ64 := jI16_fr ((congrFun (f66 16 (of_decide_eq_true rfl)) 0).trans (congrFun (f50 16 (of_decide_eq_true rfl)) 0)) ((congrFun (f66 16 (of_decide_eq_true rfl)) 1).trans (congrFun (f50 16 (of_decide_eq_true rfl)) 1)) ((congrFun (f66 16 (of_decide_eq_true rfl)) 2).trans (congrFun (f50 16 (of_decide_eq_true rfl)) 2)) ((f66 17 (of_decide_eq_true rfl)).trans (f50 17 (of_decide_eq_true rfl))) hI16
      have I77 : jI18 σ64 := jI18_fr ((congrFun (f66 18 (of_decide_eq_true rfl)) 0).trans (congrFun (f50 18 (of_decide_eq_true rfl)) 0)) ((f66 19 (of_decide_eq_true rfl)).trans (f50 19 (of_decide_eq_true rfl))) hI18
      have I78 : jI22 σ64 := jI22_fr ((congrFun (f66 22 (of_decide_eq_true rfl)) 0).trans (congrFun (f50 22 (of_decide_eq_true rfl)) 0)) ((f66 23 (of_decide_eq_true rfl)).trans (f50 23 (of_decide_eq_true rfl))) hI22
      exact by
       have I79 : jI31 σ64 := jI31_fr (congrFun (f66 31 (of_decide_eq_true rfl)) 8) (f66 33 (of_decide_eq_true rfl)) (f66 36 (of_decide_eq_true rfl)) I52
       have I80 : jI38 σ64 := jI38_fr ((congrFun (f66 38 (of_decide_eq_true rfl)) 0).trans (congrFun (f50 38 (of_decide_eq_true rfl)) 0)) ((congrFun (f66 38 (of_decide_eq_true rfl)) 1).trans (congrFun (f50 38 (of_decide_eq_true rfl)) 1)) ((f66 39 (of_decide_eq_true rfl)).trans (f50 39 (of_decide_eq_true rfl))) hI38
       have I81 : jI43 σ64 := jI43_fr ((congrFun (f66 43 (of_decide_eq_true rfl)) 8).trans (congrFun (f50 43 (of_decide_eq_true rfl)) 8)) hI43
       have I82 : jI47 σ64 := jI47_fr ((congrFun (f66 47 (of_decide_eq_true rfl)) 0).trans (congrFun (f50 47 (of_decide_eq_true rfl)) 0)) ((f66 48 (of_decide_eq_true rfl)).trans (f50 48 (of_decide_eq_true rfl))) ((f66 49 (of_decide_eq_true rfl)).trans (f50 49 (of_decide_eq_true rfl))) hI47
       have I83 : jI50 σ64 := jI50_fr ((f66 52 (of_decide_eq_true rfl)).trans (f50 52 (of_decide_eq_true rfl))) hI50
       have I84 : jI101 σ64 := jI101_fr (f67 4 (of_decide_eq_true rfl)) (f67 5 (of_decide_eq_true rfl)) (f66 56 (of_decide_eq_true rfl)) (f66 57 (of_decide_eq_true rfl)) (f66 58 (of_decide_eq_true rfl)) (f66 59 (of_decide_eq_true rfl)) I54
       have I85 : jI102 σ64 := jI102_fr (f67 6 (of_decide_eq_true rfl)) (f66 60 (of_decide_eq_true rfl)) (f66 61 (of_decide_eq_true rfl)) I55
       have I86 : jI103 σ64 := jI103_fr (f67 9 (of_decide_eq_true rfl)) I56
       have I87 : jI104 σ64 := jI104_fr (f67 10 (of_decide_eq_true rfl)) (f67 12 (of_decide_eq_true rfl)) (f67 13 (of_decide_eq_true rfl)) (f66 62 (of_decide_eq_true rfl)) (f66 67 (of_decide_eq_true rfl)) I57
       have I88 : jI105 σ64 := jI105_fr (f67 15 (of_decide_eq_true rfl)) (f66 65 (of_decide_eq_true rfl)) I58
       have I89 : jI106 σ64 := jI106_fr (f67 32 (of_decide_eq_true rfl)) (f66 70 (of_decide_eq_true rfl)) (f66 71 (of_decide_eq_true rfl)) (f66 72 (of_decide_eq_true rfl)) I59
       have I90 : jI107 σ64 := jI107_fr (f67 12 (of_decide_eq_true rfl)) (f67 47 (of_decide_eq_true rfl)) (f66 80 (of_decide_eq_true rfl)) I60
       have I91 : jI109 σ64 := jI109_fr ((f67 50 (of_decide_eq_true rfl)).trans (congrFun (f50 55 (of_decide_eq_true rfl)) 50)) hI109
       have I92 : jI110 σ64 := jI110_fr ((f66 86 (of_decide_eq_true rfl)).trans (f50 86 (of_decide_eq_true rfl))) ((f66 87 (of_decide_eq_true rfl)).trans (f50 87 (of_decide_eq_true rfl))) hI110
       have I93 : jI111 σ64 := jI111_fr ((f66 79 (of_decide_eq_true rfl)).trans (f50 79 (of_decide_eq_true rfl))) hI111
       have z94 : (σ64 2 0).toInt = (σ 2 0).toInt := (congrArg Int32.toInt (show σ64 2 0 = (σ 2 0) from ((congrFun (f66 2 (of_decide_eq_true rfl)) 0).trans (congrFun (f50 2 (of_decide_eq_true rfl)) 0))))
       have z95 : (σ64 55 6).toInt = (σ 55 6).toInt := (congrArg Int32.toInt (show σ64 55 6 = (σ 55 6) from ((f67 6 (of_decide_eq_true rfl)).trans (congrFun (f50 55 (of_decide_eq_true rfl)) 6))))
       have z96 : (σ64 2 2).toInt = (σ 2 2).toInt := (congrArg Int32.toInt (show σ64 2 2 = (σ 2 2) from ((congrFun (f66 2 (of_decide_eq_true rfl)) 2).trans (congrFun (f50 2 (of_decide_eq_true rfl)) 2))))
       have z97 : (σ64 55 5).toInt = (σ 55 5).toInt := (congrArg Int32.toInt (show σ64 55 5 = (σ 55 5) from ((f67 5 (of_decide_eq_true rfl)).trans (congrFun (f50 55 (of_decide_eq_true rfl)) 5))))
       have z98 : (σ64 2 3).toInt = (σ 2 3).toInt := (congrArg Int32.toInt (show σ64 2 3 = (σ 2 3) from ((congrFun (f66 2 (of_decide_eq_true rfl)) 3).trans (congrFun (f50 2 (of_decide_eq_true rfl)) 3))))
       have z99 : (σ64 55 4).toInt = (σ 55 4).toInt := (congrArg Int32.toInt (show σ64 55 4 = (σ 55 4) from ((f67 4 (of_decide_eq_true rfl)).trans (congrFun (f50 55 (of_decide_eq_true rfl)) 4))))
       have z100 : (σ64 9 0).toInt = (σ 9 0).toInt := (congrArg Int32.toInt (show σ64 9 0 = (σ 9 0) from ((congrFun (f66 9 (of_decide_eq_true rfl)) 0).trans (congrFun (f50 9 (of_decide_eq_true rfl)) 0))))
       have z101 : (σ64 55 15).toInt = (σ 55 15).toInt := (congrArg Int32.toInt (show σ64 55 15 = (σ 55 15) from ((f67 15 (of_decide_eq_true rfl)).trans (congrFun (f50 55 (of_decide_eq_true rfl)) 15))))
       have z102 : (σ64 16 0).toInt = (σ 16 0).toInt := (congrArg Int32.toInt (show σ64 16 0 = (σ 16 0) from ((congrFun (f66 16 (of_decide_eq_true rfl)) 0).trans (congrFun (f50 16 (of_decide_eq_true rfl)) 0))))
       have z103 : (σ64 55 10).toInt = (σ 55 10).toInt := (congrArg Int32.toInt (show σ64 55 10 = (σ 55 10) from ((f67 10 (of_decide_eq_true rfl)).trans (congrFun (f50 55 (of_decide_eq_true rfl)) 10))))
       have z104 : (σ64 16 1).toInt = (σ 16 1).toInt := (congrArg Int32.toInt (show σ64 16 1 = (σ 16 1) from ((congrFun (f66 16 (of_decide_eq_true rfl)) 1).trans (congrFun (f50 16 (of_decide_eq_true rfl)) 1))))
       have z105 : (σ64 55 12).toInt = (σ 55 12).toInt := (congrArg Int32.toInt (show σ64 55 12 = (σ 55 12) from ((f67 12 (of_decide_eq_true rfl)).trans (congrFun (f50 55 (of_decide_eq_true rfl)) 12))))
       have z106 : (σ64 16 2).toInt = (σ 16 2).toInt := (congrArg Int32.toInt (show σ64 16 2 = (σ 16 2) from ((congrFun (f66 16 (of_decide_eq_true rfl)) 2).trans (congrFun (f50 16 (of_decide_eq_true rfl)) 2))))
       have z107 : (σ64 55 13).toInt = (σ 55 13).toInt := (congrArg Int32.toInt (show σ64 55 13 = (σ 55 13) from ((f67 13 (of_decide_eq_true rfl)).trans (congrFun (f50 55 (of_decide_eq_true rfl)) 13))))
       have z108 : (σ64 38 0).toInt = (σ 38 0).toInt := (congrArg Int32.toInt (show σ64 38 0 = (σ 38 0) from ((congrFun (f66 38 (of_decide_eq_true rfl)) 0).trans (congrFun (f50 38 (of_decide_eq_true rfl)) 0))))
       have z109 : (σ64 55 32).toInt = (σ 55 32).toInt := (congrArg Int32.toInt (show σ64 55 32 = (σ 55 32) from ((f67 32 (of_decide_eq_true rfl)).trans (congrFun (f50 55 (of_decide_eq_true rfl)) 32))))
       have z110 : (σ64 38 1).toInt = (σ 38 1).toInt := (congrArg Int32.toInt (show σ64 38 1 = (σ 38 1) from ((congrFun (f66 38 (of_decide_eq_true rfl)) 1).trans (congrFun (f50 38 (of_decide_eq_true rfl)) 1))))
       have z111 : (σ64 55 55).toInt = (σ 55 55).toInt := (congrArg Int32.toInt (show σ64 55 55 = (σ 55 55) from ((f67 55 (of_decide_eq_true rfl)).trans (congrFun (f50 55 (of_decide_eq_true rfl)) 55))))
       have z112 : (σ64 47 0).toInt = (σ 47 0).toInt := (congrArg Int32.toInt (show σ64 47 0 = (σ 47 0) from ((congrFun (f66 47 (of_decide_eq_true rfl)) 0).trans (congrFun (f50 47 (of_decide_eq_true rfl)) 0))))
       have z113 : (σ64 55 47).toInt = (σ 55 47).toInt := (congrArg Int32.toInt (show σ64 55 47 = (σ 55 47) from ((f67 47 (of_decide_eq_true rfl)).trans (congrFun (f50 55 (of_decide_eq_true rfl)) 47))))
       have z114 : (σ64 55 30).toInt = (σ 55 30).toInt := (congrArg Int32.toInt (show σ64 55 30 = (σ 55 30) from ((f67 30 (of_decide_eq_true rfl)).trans (congrFun (f50 55 (of_decide_eq_true rfl)) 30))))
       have z115 : (σ64 55 31).toInt = (σ 55 31).toInt := (congrArg Int32.toInt (show σ64 55 31 = (σ 55 31) from ((f67 31 (of_decide_eq_true rfl)).trans (congrFun (f50 55 (of_decide_eq_true rfl)) 31))))
       exact by exact ih x72 σ64 τ _ _ ls (by have h9 := tx72; omega) ⟨I73, I74, I75, I76, I77, I78, I79, I80, I81, I82, I83, I84, I85, I86, I87, I88, I89, I90, I91, I92, I93, I68, p69, p70, (by omega), (by omega), (by omega), (by omega), (by omega), (by omega), (by omega), (by omega), (by omega), (by omega), (by omega), (by omega), (show jNumP (σ64 3) (σ64 56) (σ64 6) (σ64 57) (σ64 7) (σ64 58) (σ64 8) (σ64 59) (σ64 55 6).toInt (σ64 55 4).toInt by rw [show σ64 3 = σ 3 from ((f66 3 (of_decide_eq_true rfl)).trans (f50 3 (of_decide_eq_true rfl))), show σ64 56 = σ 56 from ((f66 56 (of_decide_eq_true rfl)).trans (f50 56 (of_decide_eq_true rfl))), show σ64 6 = σ 6 from ((f66 6 (of_decide_eq_true rfl)).trans (f50 6 (of_decide_eq_true rfl))), show σ64 57 = σ 57 from ((f66 57 (of_decide_eq_true rfl)).trans (f50 57 (of_decide_eq_true rfl))), show σ64 7 = σ 7 from ((f66 7 (of_decide_eq_true rfl)).trans (f50 7 (of_decide_eq_true rfl))), show σ64 58 = σ 58 from ((f66 58 (of_decide_eq_true rfl)).trans (f50 58 (of_decide_eq_true rfl))), show σ64 8 = σ 8 from ((f66 8 (of_decide_eq_true rfl)).trans (f50 8 (of_decide_eq_true rfl))), show σ64 59 = σ 59 from ((f66 59 (of_decide_eq_true rfl)).trans (f50 59 (of_decide_eq_true rfl))), show (σ64 55 6).toInt = (σ 55 6).toInt from by omega, show (σ64 55 4).toInt = (σ 55 4).toInt from by omega]; exact hr0), (show jOvP (σ64 56) (σ64 57) (σ64 58) (σ64 59) (σ64 55 4).toInt by rw [show σ64 56 = σ 56 from ((f66 56 (of_decide_eq_true rfl)).trans (f50 56 (of_decide_eq_true rfl))), show σ64 57 = σ 57 from ((f66 57 (of_decide_eq_true rfl)).trans (f50 57 (of_decide_eq_true rfl))), show σ64 58 = σ 58 from ((f66 58 (of_decide_eq_true rfl)).trans (f50 58 (of_decide_eq_true rfl))), show σ64 59 = σ 59 from ((f66 59 (of_decide_eq_true rfl)).trans (f50 59 (of_decide_eq_true rfl))), show (σ64 55 4).toInt = (σ 55 4).toInt from by omega]; exact hr1), (show jTp (σ64 10) (σ64 63) (σ64 55 15).toInt by rw [show σ64 10 = σ 10 from ((f66 10 (of_decide_eq_true rfl)).trans (f50 10 (of_decide_eq_true rfl))), show σ64 63 = σ 63 from ((f66 63 (of_decide_eq_true rfl)).trans (f50 63 (of_decide_eq_true rfl)))]; exact hr2.le (by omega)), (show jSo (σ64 17) (σ64 62) (σ64 16 0).toInt by rw [show σ64 17 = σ 17 from ((f66 17 (of_decide_eq_true rfl)).trans (f50 17 (of_decide_eq_true rfl))), show σ64 62 = σ 62 from ((f66 62 (of_decide_eq_true rfl)).trans (f50 62 (of_decide_eq_true rfl))), show (σ64 16 0).toInt = (σ 16 0).toInt from by omega]; exact hr3), (show jShP (σ64 51) (σ64 52) (σ64 53) (σ64 86) (σ64 87) (σ64 55 32).toInt by rw [show σ64 51 = σ 51 from ((f66 51 (of_decide_eq_true rfl)).trans (f50 51 (of_decide_eq_true rfl))), show σ64 52 = σ 52 from ((f66 52 (of_decide_eq_true rfl)).trans (f50 52 (of_decide_eq_true rfl))), show σ64 53 = σ 53 from ((f66 53 (of_decide_eq_true rfl)).trans (f50 53 (of_decide_eq_true rfl))), show σ64 86 = σ 86 from ((f66 86 (of_decide_eq_true rfl)).trans (f50 86 (of_decide_eq_true rfl))), show σ64 87 = σ 87 from ((f66 87 (of_decide_eq_true rfl)).trans (f50 87 (of_decide_eq_true rfl)))]; exact (hr4.up (by omega) (by omega))), (show jEl (σ64 51) (σ64 52) (τ 54) (τ 88) by rw [show σ64 51 = σ 51 from ((f66 51 (of_decide_eq_true rfl)).trans (f50 51 (of_decide_eq_true rfl))), show σ64 52 = σ 52 from ((f66 52 (of_decide_eq_true rfl)).trans (f50 52 (of_decide_eq_true rfl)))]; exact hr5), (show jByP (σ64 51) (σ64 52) (τ 54) by rw [show σ64 51 = σ 51 from ((f66 51 (of_decide_eq_true rfl)).trans (f50 51 (of_decide_eq_true rfl))), show σ64 52 = σ 52 from ((f66 52 (of_decide_eq_true rfl)).trans (f50 52 (of_decide_eq_true rfl)))]; exact hr6), (show jBk (σ64 48) (σ64 80) (σ64 49) (σ64 81) (σ64 55 47).toInt by rw [show σ64 48 = σ 48 from ((f66 48 (of_decide_eq_true rfl)).trans (f50 48 (of_decide_eq_true rfl))), show σ64 49 = σ 49 from ((f66 49 (of_decide_eq_true rfl)).trans (f50 49 (of_decide_eq_true rfl))), show σ64 80 = σ 80 from ((f66 80 (of_decide_eq_true rfl)).trans (f50 80 (of_decide_eq_true rfl))), show σ64 81 = σ 81 from ((f66 81 (of_decide_eq_true rfl)).trans (f50 81 (of_decide_eq_true rfl))), show (σ64 55 47).toInt = (σ 55 47).toInt from by omega]; exact hr7), (show jKd (σ64 39) (σ64 70) (σ64 55 32).toInt by rw [show σ64 39 = σ 39 from ((f66 39 (of_decide_eq_true rfl)).trans (f50 39 (of_decide_eq_true rfl))), show σ64 70 = σ 70 from ((f66 70 (of_decide_eq_true rfl)).trans (f50 70 (of_decide_eq_true rfl))), show (σ64 55 32).toInt = (σ 55 32).toInt from by omega]; exact hr8), (show jTt (σ64 42) (σ64 85) (σ64 55 55).toInt by rw [show σ64 42 = σ 42 from ((f66 42 (of_decide_eq_true rfl)).trans (f50 42 (of_decide_eq_true rfl))), show σ64 85 = σ 85 from ((f66 85 (of_decide_eq_true rfl)).trans (f50 85 (of_decide_eq_true rfl))), show (σ64 55 55).toInt = (σ 55 55).toInt from by omega]; exact hr9)⟩ hP hS (lv_sub hl [0, 1, 2, 3] rfl)
set_option maxHeartbeats 4000000 in
set_option maxRecDepth 100000 in
theorem law_case_24 {p : Program} {e : Env} {s : State} {m : MethodId} {below : List Frame} {meth : Method} {c : Code} (l : Launch) {b L : Nat} {xs : Nat → Int32} {D : va_G} {cI cL : ClassId} {ad zz : Nat → Nat} (C0 : lw_At p s m meth c b L xs) (hJ : jD ad) (hA : ∀ q, jA ad q → s.heap.size ≤ q) (hK : jK D cI cL s) (hZ : jZ zz (fun q : Nat => s.heap.size ≤ q) s s.heap) {x0 : Int32} (hx0 : 0 ≤ x0.toInt) (hxL : x0.toInt + 6 ≤ (L : Int)) (hL : L ≤ 384) {σ : Nat → Nat → Int32} {τ : Nat → Nat → Int64} {H : Heap} {locs : List Loc} (hS : va_S (fun q : Nat => s.heap.size ≤ q) s.heap H locs) {ls : Array Slot} (hAll : jAll σ τ) (hP : jH D cI cL ad σ τ H) (hl : lv_has ls 4 [(3, .int x0), (2, .ref (ad 55)), (1, .ref (ad 0)), (0, .ref b)]) (ih : ∀ (x1 : Int32) (σ : Nat → Nat → Int32) (τ : Nat → Nat → Int64) (H : Heap) (locs : List Loc) (ls : Array Slot), x1.toInt = x0.toInt + 6 → jAll σ τ → jH D cI cL ad σ τ H → va_S (fun q : Nat => s.heap.size ≤ q) s.heap H locs → lv_has ls 4 [(3, .int x1), (2, .ref (ad 55)), (1, .ref (ad 0)), (0, .ref b)] → W p l e room_1 s m #[Value.ref b] below meth c H locs 90 348600 (lw_Z below #[Value.ref b] s) (F0 m 18 ls [])) : W p l e room_1 s m #[Value.ref b] below meth c H locs 90 348600 (lw_Z below #[Value.ref b] s) (F0 m 898 ls []) := by
  obtain ⟨hx, hb, hr, hml, hown, hts0, hX, hbl, hlocks, hgv⟩ := C0
  have hts : ∀ w ∈ wsL_law, w.before #[Value.ref b] s = true := fun w h => hts0 w (wsL_law_in w h)
  have hbA : ¬ (fun q : Nat => s.heap.size ≤ q) b := Nat.not_le.mpr hbl
  have hown : s.vm.findClass RL = some m.cls := hown
  obtain ⟨hI2, hI9, hI12, hI16, hI18, hI22, hI31, hI38, hI43, hI47, hI50, hI101, hI102, hI103, hI104, hI105, hI106, hI107, hI109, hI110, hI111, hI119, hs_jKept, hs_jBook, ht0, ht1, ht2, ht3, ht4, ht5, ht6, ht7, ht8, ht9, ht10, ht11, hr0, hr1, hr2, hr3, hr4, hr5, hr6, hr7, hr8, hr9⟩ := hAll
  have hL9 : (L : Int) ≤ 384 := by omega
  obtain ⟨i1, i2, i3, i4, i5, w6⟩ : (0 ≤ (σ 2 0).toInt ∧ (σ 2 0).toInt ≤ 4) ∧ (0 ≤ (σ 2 1).toInt ∧ (σ 2 1).toInt ≤ 3) ∧ (0 ≤ (σ 2 2).toInt) ∧ (0 ≤ (σ 2 3).toInt) ∧ ((σ 2 2).toInt + (σ 2 3).toInt ≤ 40) ∧ (∀ k : Nat, k < 40 → 0 ≤ (σ 6 k).toInt ∧ (σ 6 k).toInt ≤ 67) := id hI2
  obtain ⟨i7, w8, w9⟩ : (0 ≤ (σ 9 0).toInt ∧ (σ 9 0).toInt ≤ 80) ∧ (∀ k : Nat, k < 80 → 0 ≤ (σ 10 k).toInt ∧ (σ 10 k).toInt ≤ 255) ∧ (∀ k : Nat, k < 8 → 0 ≤ (σ 11 k).toInt ∧ (σ 11 k).toInt ≤ 3) := id hI9
  obtain ⟨i10, i11, i12, w13⟩ : (1 ≤ (σ 16 0).toInt ∧ (σ 16 0).toInt ≤ 8) ∧ (1 ≤ (σ 16 1).toInt ∧ (σ 16 1).toInt ≤ 12) ∧ (0 ≤ (σ 16 2).toInt ∧ (σ 16 2).toInt ≤ 999) ∧ (∀ k : Nat, k < 8 → 0 ≤ (σ 17 k).toInt ∧ (σ 17 k).toInt ≤ 3) := id hI16
  obtain ⟨i14, i15, w16⟩ : (0 ≤ (σ 38 0).toInt ∧ (σ 38 0).toInt ≤ 20) ∧ (0 ≤ (σ 38 1).toInt ∧ (σ 38 1).toInt ≤ 1000) ∧ (∀ k : Nat, k < 20 → 0 ≤ (σ 39 k).toInt ∧ (σ 39 k).toInt ≤ 6) := id hI38
  obtain ⟨i17, w18, w19⟩ : (0 ≤ (σ 47 0).toInt ∧ (σ 47 0).toInt ≤ 12) ∧ (∀ k : Nat, k < 12 → 0 ≤ (σ 48 k).toInt ∧ (σ 48 k).toInt ≤ 3) ∧ (∀ k : Nat, k < 12 → 0 ≤ (σ 49 k).toInt ∧ (σ 49 k).toInt ≤ 1) := id hI47
  have w20 : ∀ k : Nat, k < 6 → 0 ≤ (σ 52 k).toInt ∧ (σ 52 k).toInt ≤ 60 := hI50
  obtain ⟨i21, i22, i23, w24, w25, w26, w27⟩ : (0 ≤ (σ 55 5).toInt) ∧ ((σ 55 5).toInt ≤ (σ 55 4).toInt) ∧ ((σ 55 4).toInt ≤ 40) ∧ (∀ k : Nat, k < 68 → (-200) ≤ (σ 56 k).toInt ∧ (σ 56 k).toInt ≤ 500) ∧ (∀ k : Nat, k < 40 → 0 ≤ (σ 57 k).toInt ∧ (σ 57 k).toInt ≤ 67) ∧ (∀ k : Nat, k < 40 → (-200) ≤ (σ 58 k).toInt ∧ (σ 58 k).toInt ≤ 500) ∧ (∀ k : Nat, k < 40 → (-200) ≤ (σ 59 k).toInt ∧ (σ 59 k).toInt ≤ 500) := id hI101
  obtain ⟨i28, w29, w30⟩ : (0 ≤ (σ 55 6).toInt ∧ (σ 55 6).toInt ≤ 4) ∧ (∀ k : Nat, k < 4 → 0 ≤ (σ 60 k).toInt ∧ (σ 60 k).toInt ≤ 50) ∧ (∀ k : Nat, k < 4 → 0 ≤ (σ 61 k).toInt ∧ (σ 61 k).toInt ≤ 20) := id hI102
  obtain ⟨i31, i32, i33, w34, w35⟩ : (1 ≤ (σ 55 10).toInt ∧ (σ 55 10).toInt ≤ 8) ∧ (1 ≤ (σ 55 12).toInt ∧ (σ 55 12).toInt ≤ 12) ∧ (0 ≤ (σ 55 13).toInt ∧ (σ 55 13).toInt ≤ 999) ∧ (∀ k : Nat, k < 8 → 0 ≤ (σ 62 k).toInt ∧ (σ 62 k).toInt ≤ 3) ∧ (∀ k : Nat, k < 8 → 0 ≤ (σ 67 k).toInt ∧ (σ 67 k).toInt ≤ 3) := id hI104
  obtain ⟨i36, w37⟩ : (0 ≤ (σ 55 15).toInt ∧ (σ 55 15).toInt ≤ 80) ∧ (∀ k : Nat, k < 2 → (-1) ≤ (σ 65 k).toInt ∧ (σ 65 k).toInt ≤ 80) := id hI105
  obtain ⟨i38, w39, w40, w41⟩ : (0 ≤ (σ 55 32).toInt ∧ (σ 55 32).toInt ≤ 20) ∧ (∀ k : Nat, k < 20 → 0 ≤ (σ 70 k).toInt ∧ (σ 70 k).toInt ≤ 6) ∧ (∀ k : Nat, k < 20 → 0 ≤ (σ 71 k).toInt ∧ (σ 71 k).toInt ≤ 8) ∧ (∀ k : Nat, k < 160 → 0 ≤ (σ 72 k).toInt ∧ (σ 72 k).toInt ≤ 3) := id hI106
  obtain ⟨i42, i43, w44⟩ : (0 ≤ (σ 55 47).toInt ∧ (σ 55 47).toInt ≤ 12) ∧ ((σ 55 47).toInt ≤ (σ 55 12).toInt) ∧ (∀ k : Nat, k < 12 → 0 ≤ (σ 80 k).toInt ∧ (σ 80 k).toInt ≤ 3) := id hI107
  refine lv_aload_n hx hb dL_law_898 rfl (lv_at hl 2 rfl) ?_
  refine lv_aload_n hx hb dL_law_899 rfl (lv_at hl 3 rfl) ?_
  refine lv_iload_n hx hb dL_law_900 rfl (lv_at hl 0 rfl) ?_
  refine lv_iconst (v := 1) hx hb dL_law_901 (of_decide_eq_true rfl) ?_
  have g45 := jrg (rfl : x0.toInt = x0.toInt)
  refine lv_iadd hx hb dL_law_902 ?_
  refine lv_topi (fun x46 ex46 => ?_)
  exact by
   have tx46 : x46.toInt = x0.toInt + 1 := (jadd ex46 rfl jz_1 (by omega) (by omega)).trans (by omega)
   refine va_sld hx hb hX hbl hbA hS (jin tx46 (by omega) (by omega)) dL_law_903 ?_
   have g47 := jrg (rfl : (xs x46.toNatClampNeg).toInt = (xs x46.toNatClampNeg).toInt)
   refine lv_aload_n hx hb dL_law_904 rfl (lv_at hl 3 rfl) ?_
   refine lv_iload_n hx hb dL_law_905 rfl (lv_at hl 0 rfl) ?_
   refine lv_iconst (v := 2) hx hb dL_law_906 (of_decide_eq_true rfl) ?_
   refine lv_iadd hx hb dL_law_907 ?_
   refine lv_topi (fun x48 ex48 => ?_)
   have tx48 : x48.toInt = x0.toInt + 2 := (jadd ex48 rfl jz_2 (by omega) (by omega)).trans (by omega)
   exact by
    refine va_sld hx hb hX hbl hbA hS (jin tx48 (by omega) (by omega)) dL_law_908 ?_
    have g49 := jrg (rfl : (xs x48.toNatClampNeg).toInt = (xs x48.toNatClampNeg).toInt)
    refine jcallV (As := [.int (xs x46.toNatClampNeg), .int (xs x48.toNatClampNeg)]) (rest := []) ⟨hx, hb, hml, hown, hts⟩ hK hP hA hS hZ (c_X11_game l D cI cL ad zz hJ σ τ (xs x46.toNatClampNeg) ((xs x46.toNatClampNeg).toInt) rfl (xs x48.toNatClampNeg) ((xs x48.toNatClampNeg).toInt) rfl hI2 hI16 hI18 hI22 hI31 hI38 hI43) cw_RL_113 (jc_0 cI cL ad σ τ) rfl ⟨Nat.le_of_ble_eq_true rfl, Nat.le_of_ble_eq_true rfl⟩ rfl rfl rfl hl.1 rfl (Nat.le_of_ble_eq_true rfl) dL_law_909 ⟨Nat.le_of_ble_eq_true rfl, Nat.le_of_ble_eq_true rfl⟩ (fun r51 σ50 τ50 H locs h50 hP hS => ?_)
    obtain ⟨rfl, f52, f53, f54, I55, I56, h50⟩ := h50
    refine lv_pop hx hb dL_law_912 rfl ?_
    refine lv_aload_n hx hb dL_law_913 rfl (lv_at hl 1 rfl) ?_
    refine lv_aload_n hx hb dL_law_914 rfl (lv_at hl 3 rfl) ?_
    refine lv_iload_n hx hb dL_law_915 rfl (lv_at hl 0 rfl) ?_
    refine lv_iconst (v := 1) hx hb dL_law_916 (of_decide_eq_true rfl) ?_
    refine lv_iadd hx hb dL_law_917 ?_
    refine jtopr ex46.symm ?_
    exact by
     refine va_sld hx hb hX hbl hbA hS (jin tx46 (by omega) (by omega)) dL_law_918 ?_
     refine lv_aload_n hx hb dL_law_919 rfl (lv_at hl 3 rfl) ?_
     refine lv_iload_n hx hb dL_law_920 rfl (lv_at hl 0 rfl) ?_
     refine lv_iconst (v := 2) hx hb dL_law_921 (of_decide_eq_true rfl) ?_
     refine lv_iadd hx hb dL_law_922 ?_
     refine jtopr ex48.symm ?_
     refine va_sld hx hb hX hbl hbA hS (jin tx48 (by omega) (by omega)) dL_law_923 ?_
     have I58 : jI101 σ50 := jI101_fr (congrFun (f52 55 (of_decide_eq_true rfl)) 4) (congrFun (f52 55 (of_decide_eq_true rfl)) 5) (f52 56 (of_decide_eq_true rfl)) (f52 57 (of_decide_eq_true rfl)) (f52 58 (of_decide_eq_true rfl)) (f52 59 (of_decide_eq_true rfl)) hI101
     have I59 : jI102 σ50 := jI102_fr (congrFun (f52 55 (of_decide_eq_true rfl)) 6) (f52 60 (of_decide_eq_true rfl)) (f52 61 (of_decide_eq_true rfl)) hI102
     exact by
      have I60 : jI103 σ50 := jI103_fr (congrFun (f52 55 (of_decide_eq_true rfl)) 9) hI103
      have I61 : jI104 σ50 := jI104_fr (congrFun (f52 55 (of_decide_eq_true rfl)) 10) (congrFun (f52 55 (of_decide_eq_true rfl)) 12) (congrFun (f52 55 (of_decide_eq_true rfl)) 13) (f52 62 (of_decide_eq_true rfl)) (f52 67 (of_decide_eq_true rfl)) hI104
      have I62 : jI105 σ50 := jI105_fr (congrFun (f52 55 (of_decide_eq_true rfl)) 15) (f52 65 (of_decide_eq_true rfl)) hI105
      have I63 : jI106 σ50 := jI106_fr (congrFun (f52 55 (of_decide_eq_true rfl)) 32) (f52 70 (of_decide_eq_true rfl)) (f52 71 (of_decide_eq_true rfl)) (f52 72 (of_decide_eq_true rfl)) hI106
      have I64 : jI119 σ50 := jI119_fr (f52 68 (of_decide_eq_true rfl)) hI119
      have I65 : jI109 σ50 := jI109_fr (congrFun (f52 55 (of_decide_eq_true rfl)) 50) hI109
      have p66 : jKept σ50 := jKept.fr (f52 75 (of_decide_eq_true rfl)) (f52 76 (of_decide_eq_true rfl)) (f52 77 (of_decide_eq_true rfl)) hs_jKept
      refine jcallV (As := [.int (xs x46.toNatClampNeg), .int (xs x48.toNatClampNeg)]) (rest := []) ⟨hx, hb, hml, hown, hts⟩ hK hP hA hS hZ (c_X12_game l D cI cL ad zz hJ σ50 τ (xs x46.toNatClampNeg) ((xs x46.toNatClampNeg).toInt) rfl (xs x48.toNatClampNeg) ((xs x48.toNatClampNeg).toInt) rfl I58 I59 I60 I61 I62 I63 I64 I65 p66) cw_RL_116 (jc_55 cI cL ad σ50 τ) rfl ⟨Nat.le_of_ble_eq_true rfl, Nat.le_of_ble_eq_true rfl⟩ rfl rfl rfl hl.1 rfl (Nat.le_of_ble_eq_true rfl) dL_law_924 ⟨Nat.le_of_ble_eq_true rfl, Nat.le_of_ble_eq_true rfl⟩ (fun r68 σ67 τ67 H locs h67 hP hS => ?_)
      obtain ⟨rfl, f69, f70, I71, I72, p73, h67⟩ := h67
      refine lv_pop hx hb dL_law_927 rfl ?_
      refine lv_goto (tgt := 1357) hx hb dL_law_928 (of_decide_eq_true rfl) ?_
      obtain ⟨x75, ex75⟩ : ∃ y : Int32, y = x0 + 6 := ⟨_, rfl⟩
      exact by
       have tx75 : x75.toInt = x0.toInt + 6 := (jadd ex75 rfl jz_6 (by omega) (by omega)).trans (by omega)
       refine lv_iinc (v := x75) (lv' := [(3, .int x75), (2, .ref (ad 55)), (1, .ref (ad 0)), (0, .ref b)]) hx hb dL_law_1357 hl (k := 0) rfl (by rw [ex75]; rfl) (of_decide_eq_true rfl) rfl (fun ls hl => ?_)
       refine lv_goto (tgt := 18) hx hb dL_law_1360 (of_decide_eq_true rfl) ?_
       have I76 : jI2 σ67 := jI2_fr ((congrFun (f69 2 (of_decide_eq_true rfl)) 0).trans (congrFun (f52 2 (of_decide_eq_true rfl)) 0)) ((congrFun (f69 2 (of_decide_eq_true rfl)) 1).trans (congrFun (f52 2 (of_decide_eq_true rfl)) 1)) ((congrFun (f69 2 (of_decide_eq_true rfl)) 2).trans (congrFun (f52 2 (of_decide_eq_true rfl)) 2)) ((congrFun (f69 2 (of_decide_eq_true rfl)) 3).trans (congrFun (f52 2 (of_decide_eq_true rfl)) 3)) ((f69 6 (of_decide_eq_true rfl)).trans (f52 6 (of_decide_eq_true rfl))) hI2
       have I77 : jI9 σ67 := jI9_fr ((congrFun (f69 9 (of_decide_eq_true rfl)) 0).trans (congrFun (f52 9 (of_decide_eq_true rfl)) 0)) ((f69 10 (of_decide_eq_true rfl)).trans (f52 10 (of_decide_eq_true rfl))) ((f69 11 (of_decide_eq_true rfl)).trans (f52 11 (of_decide_eq_true rfl))) hI9
       have I78 : jI12 σ67 := jI12_fr ((congrFun (f69 12 (of_decide_eq_true rfl)) 0).trans (congrFun (f52 12 (of_decide_eq_true rfl)) 0)) ((f69 13 (of_decide_eq_true rfl)).trans (f52 13 (of_decide_eq_true rfl))) hI12
       have I79 : jI16 σ67 := jI16_fr ((congrFun (f69 16 (of_decide_eq_true rfl)) 0).trans (congrFun (f52 16 (of_decide_eq_true rfl)) 0)) ((congrFun (f69 16 (of_decide_eq_true rfl)) 1).trans (congrFun (f52 16 (of_decide_eq_true rfl)) 1)) ((congrFun (f69 16 (of_decide_eq_true rfl)) 2).trans (congrFun (f52 16 (of_decide_eq_true rfl)) 2)) ((f69 17 (of_decide_eq_true rfl)).trans (f52 17 (of_decide_eq_true rfl))) hI16
       have I80 : jI18 σ67 := jI18_fr ((congrFun (f69 18 (of_decide_eq_true rfl)) 0).trans (congrFun (f52 18 (of_decide_eq_true rfl)) 0)) ((f69 19 (of_decide_eq_true rfl)).trans (f52 19 (of_decide_eq_true rfl))) hI18
       have I81 : jI22 σ67 := jI22_fr ((congrFun (f69 22 (of_decide_eq_true rfl)) 0).trans (congrFun (f52 22 (of_decide_eq_true rfl)) 0)) ((f69 23 (of_decide_eq_true rfl)).trans (f52 23 (of_decide_eq_true rfl))) hI22
       exact by
        have I82 : jI31 σ67 := jI31_fr (congrFun (f69 31 (of_decide_eq_true rfl)) 8) (f69 33 (of_decide_eq_true rfl)) (f69 36 (of_decide_eq_true rfl)) I55
        have I83 : jI38 σ67 := jI38_fr ((congrFun (f69 38 (of_decide_eq_true rfl)) 0).trans (congrFun (f52 38 (of_decide_eq_true rfl)) 0)) ((congrFun (f69 38 (of_decide_eq_true rfl)) 1).trans (congrFun (f52 38 (of_decide_eq_true rfl)) 1)) ((f69 39 (of_decide_eq_true rfl)).trans (f52 39 (of_decide_eq_true rfl))) hI38
        have I84 : jI43 σ67 := jI43_fr (congrFun (f69 43 (of_decide_eq_true rfl)) 8) I56
        have I85 : jI47 σ67 := jI47_fr ((congrFun (f69 47 (of_decide_eq_true rfl)) 0).trans (congrFun (f52 47 (of_decide_eq_true rfl)) 0)) ((f69 48 (of_decide_eq_true rfl)).trans (f52 48 (of_decide_eq_true rfl))) ((f69 49 (of_decide_eq_true rfl)).trans (f52 49 (of_decide_eq_true rfl))) hI47
        have I86 : jI50 σ67 := jI50_fr ((f69 52 (of_decide_eq_true rfl)).trans (f52 52 (of_decide_eq_true rfl))) hI50
        have I87 : jI101 σ67 := jI101_fr (f70 4 (of_decide_eq_true rfl)) (f70 5 (of_decide_eq_true rfl)) (f69 56 (of_decide_eq_true rfl)) (f69 57 (of_decide_eq_true rfl)) (f69 58 (of_decide_eq_true rfl)) (f69 59 (of_decide_eq_true rfl)) I58
        have I88 : jI102 σ67 := jI102_fr (f70 6 (of_decide_eq_true rfl)) (f69 60 (of_decide_eq_true rfl)) (f69 61 (of_decide_eq_true rfl)) I59
        have I89 : jI103 σ67 := jI103_fr (f70 9 (of_decide_eq_true rfl)) I60
        have I90 : jI104 σ67 := jI104_fr (f70 10 (of_decide_eq_true rfl)) (f70 12 (of_decide_eq_true rfl)) (f70 13 (of_decide_eq_true rfl)) (f69 62 (of_decide_eq_true rfl)) (f69 67 (of_decide_eq_true rfl)) I61
        have I91 : jI105 σ67 := jI105_fr (f70 15 (of_decide_eq_true rfl)) (f69 65 (of_decide_eq_true rfl)) I62
        have I92 : jI106 σ67 := jI106_fr (f70 32 (of_decide_eq_true rfl)) (f69 70 (of_decide_eq_true rfl)) (f69 71 (of_decide_eq_true rfl)) (f69 72 (of_decide_eq_true rfl)) I63
        have I93 : jI107 σ67 := jI107_fr ((f70 12 (of_decide_eq_true rfl)).trans (congrFun (f52 55 (of_decide_eq_true rfl)) 12)) ((f70 47 (of_decide_eq_true rfl)).trans (congrFun (f52 55 (of_decide_eq_true rfl)) 47)) ((f69 80 (of_decide_eq_true rfl)).trans (f52 80 (of_decide_eq_true rfl))) hI107
        have I94 : jI110 σ67 := jI110_fr ((f69 86 (of_decide_eq_true rfl)).trans (f52 86 (of_decide_eq_true rfl))) ((f69 87 (of_decide_eq_true rfl)).trans (f52 87 (of_decide_eq_true rfl))) hI110
        have I95 : jI111 σ67 := jI111_fr ((f69 79 (of_decide_eq_true rfl)).trans (f52 79 (of_decide_eq_true rfl))) hI111
        have p96 : jBook σ67 := jBook.fr ((f70 47 (of_decide_eq_true rfl)).trans (congrFun (f52 55 (of_decide_eq_true rfl)) 47)) ((f70 10 (of_decide_eq_true rfl)).trans (congrFun (f52 55 (of_decide_eq_true rfl)) 10)) ((f69 81 (of_decide_eq_true rfl)).trans (f52 81 (of_decide_eq_true rfl))) hs_jBook
        have z97 : (σ67 2 0).toInt = (σ 2 0).toInt := (congrArg Int32.toInt (show σ67 2 0 = (σ 2 0) from ((congrFun (f69 2 (of_decide_eq_true rfl)) 0).trans (congrFun (f52 2 (of_decide_eq_true rfl)) 0))))
        have z98 : (σ67 55 6).toInt = (σ 55 6).toInt := (congrArg Int32.toInt (show σ67 55 6 = (σ 55 6) from ((f70 6 (of_decide_eq_true rfl)).trans (congrFun (f52 55 (of_decide_eq_true rfl)) 6))))
        have z99 : (σ67 2 2).toInt = (σ 2 2).toInt := (congrArg Int32.toInt (show σ67 2 2 = (σ 2 2) from ((congrFun (f69 2 (of_decide_eq_true rfl)) 2).trans (congrFun (f52 2 (of_decide_eq_true rfl)) 2))))
        have z100 : (σ67 55 5).toInt = (σ 55 5).toInt := (congrArg Int32.toInt (show σ67 55 5 = (σ 55 5) from ((f70 5 (of_decide_eq_true rfl)).trans (congrFun (f52 55 (of_decide_eq_true rfl)) 5))))
        have z101 : (σ67 2 3).toInt = (σ 2 3).toInt := (congrArg Int32.toInt (show σ67 2 3 = (σ 2 3) from ((congrFun (f69 2 (of_decide_eq_true rfl)) 3).trans (congrFun (f52 2 (of_decide_eq_true rfl)) 3))))
        have z102 : (σ67 55 4).toInt = (σ 55 4).toInt := (congrArg Int32.toInt (show σ67 55 4 = (σ 55 4) from ((f70 4 (of_decide_eq_true rfl)).trans (congrFun (f52 55 (of_decide_eq_true rfl)) 4))))
        have z103 : (σ67 9 0).toInt = (σ 9 0).toInt := (congrArg Int32.toInt (show σ67 9 0 = (σ 9 0) from ((congrFun (f69 9 (of_decide_eq_true rfl)) 0).trans (congrFun (f52 9 (of_decide_eq_true rfl)) 0))))
        have z104 : (σ67 55 15).toInt = (σ 55 15).toInt := (congrArg Int32.toInt (show σ67 55 15 = (σ 55 15) from ((f70 15 (of_decide_eq_true rfl)).trans (congrFun (f52 55 (of_decide_eq_true rfl)) 15))))
        have z105 : (σ67 16 0).toInt = (σ 16 0).toInt := (congrArg Int32.toInt (show σ67 16 0 = (σ 16 0) from ((congrFun (f69 16 (of_decide_eq_true rfl)) 0).trans (congrFun (f52 16 (of_decide_eq_true rfl)) 0))))
        have z106 : (σ67 55 10).toInt = (σ 55 10).toInt := (congrArg Int32.toInt (show σ67 55 10 = (σ 55 10) from ((f70 10 (of_decide_eq_true rfl)).trans (congrFun (f52 55 (of_decide_eq_true rfl)) 10))))
        have z107 : (σ67 16 1).toInt = (σ 16 1).toInt := (congrArg Int32.toInt (show σ67 16 1 = (σ 16 1) from ((congrFun (f69 16 (of_decide_eq_true rfl)) 1).trans (congrFun (f52 16 (of_decide_eq_true rfl)) 1))))
        have z108 : (σ67 55 12).toInt = (σ 55 12).toInt := (congrArg Int32.toInt (show σ67 55 12 = (σ 55 12) from ((f70 12 (of_decide_eq_true rfl)).trans (congrFun (f52 55 (of_decide_eq_true rfl)) 12))))
        have z109 : (σ67 16 2).toInt = (σ 16 2).toInt := (congrArg Int32.toInt (show σ67 16 2 = (σ 16 2) from ((congrFun (f69 16 (of_decide_eq_true rfl)) 2).trans (congrFun (f52 16 (of_decide_eq_true rfl)) 2))))
        have z110 : (σ67 55 13).toInt = (σ 55 13).toInt := (congrArg Int32.toInt (show σ67 55 13 = (σ 55 13) from ((f70 13 (of_decide_eq_true rfl)).trans (congrFun (f52 55 (of_decide_eq_true rfl)) 13))))
        have z111 : (σ67 38 0).toInt = (σ 38 0).toInt := (congrArg Int32.toInt (show σ67 38 0 = (σ 38 0) from ((congrFun (f69 38 (of_decide_eq_true rfl)) 0).trans (congrFun (f52 38 (of_decide_eq_true rfl)) 0))))
        have z112 : (σ67 55 32).toInt = (σ 55 32).toInt := (congrArg Int32.toInt (show σ67 55 32 = (σ 55 32) from ((f70 32 (of_decide_eq_true rfl)).trans (congrFun (f52 55 (of_decide_eq_true rfl)) 32))))
        have z113 : (σ67 38 1).toInt = (σ 38 1).toInt := (congrArg Int32.toInt (show σ67 38 1 = (σ 38 1) from ((congrFun (f69 38 (of_decide_eq_true rfl)) 1).trans (congrFun (f52 38 (of_decide_eq_true rfl)) 1))))
        have z114 : (σ67 55 55).toInt = (σ 55 55).toInt := (congrArg Int32.toInt (show σ67 55 55 = (σ 55 55) from ((f70 55 (of_decide_eq_true rfl)).trans (congrFun (f52 55 (of_decide_eq_true rfl)) 55))))
        have z115 : (σ67 47 0).toInt = (σ 47 0).toInt := (congrArg Int32.toInt (show σ67 47 0 = (σ 47 0) from ((congrFun (f69 47 (of_decide_eq_true rfl)) 0).trans (congrFun (f52 47 (of_decide_eq_true rfl)) 0))))
        have z116 : (σ67 55 47).toInt = (σ 55 47).toInt := (congrArg Int32.toInt (show σ67 55 47 = (σ 55 47) from ((f70 47 (of_decide_eq_true rfl)).trans (congrFun (f52 55 (of_decide_eq_true rfl)) 47))))
        have z117 : (σ67 55 30).toInt = (σ 55 30).toInt := (congrArg Int32.toInt (show σ67 55 30 = (σ 55 30) from ((f70 30 (of_decide_eq_true rfl)).trans (congrFun (f52 55 (of_decide_eq_true rfl)) 30))))
        have z118 : (σ67 55 31).toInt = (σ 55 31).toInt := (congrArg Int32.toInt (show σ67 55 31 = (σ 55 31) from ((f70 31 (of_decide_eq_true rfl)).trans (congrFun (f52 55 (of_decide_eq_true rfl)) 31))))
        exact by exact ih x75 σ67 τ _ _ ls (by have h9 := tx75; omega) ⟨I76, I77, I78, I79, I80, I81, I82, I83, I84, I85, I86, I87, I88, I89, I90, I91, I92, I93, I71, I94, I95, I72, p73, p96, (by omega), (by omega), (by omega), (by omega), (by omega), (by omega), (by omega), (by omega), (by omega), (by omega), (by omega), (by omega), (show jNumP (σ67 3) (σ67 56) (σ67 6) (σ67 57) (σ67 7) (σ67 58) (σ67 8) (σ67 59) (σ67 55 6).toInt (σ67 55 4).toInt by rw [show σ67 3 = σ 3 from ((f69 3 (of_decide_eq_true rfl)).trans (f52 3 (of_decide_eq_true rfl))), show σ67 56 = σ 56 from ((f69 56 (of_decide_eq_true rfl)).trans (f52 56 (of_decide_eq_true rfl))), show σ67 6 = σ 6 from ((f69 6 (of_decide_eq_true rfl)).trans (f52 6 (of_decide_eq_true rfl))), show σ67 57 = σ 57 from ((f69 57 (of_decide_eq_true rfl)).trans (f52 57 (of_decide_eq_true rfl))), show σ67 7 = σ 7 from ((f69 7 (of_decide_eq_true rfl)).trans (f52 7 (of_decide_eq_true rfl))), show σ67 58 = σ 58 from ((f69 58 (of_decide_eq_true rfl)).trans (f52 58 (of_decide_eq_true rfl))), show σ67 8 = σ 8 from ((f69 8 (of_decide_eq_true rfl)).trans (f52 8 (of_decide_eq_true rfl))), show σ67 59 = σ 59 from ((f69 59 (of_decide_eq_true rfl)).trans (f52 59 (of_decide_eq_true rfl))), show (σ67 55 6).toInt = (σ 55 6).toInt from by omega, show (σ67 55 4).toInt = (σ 55 4).toInt from by omega]; exact hr0), (show jOvP (σ67 56) (σ67 57) (σ67 58) (σ67 59) (σ67 55 4).toInt by rw [show σ67 56 = σ 56 from ((f69 56 (of_decide_eq_true rfl)).trans (f52 56 (of_decide_eq_true rfl))), show σ67 57 = σ 57 from ((f69 57 (of_decide_eq_true rfl)).trans (f52 57 (of_decide_eq_true rfl))), show σ67 58 = σ 58 from ((f69 58 (of_decide_eq_true rfl)).trans (f52 58 (of_decide_eq_true rfl))), show σ67 59 = σ 59 from ((f69 59 (of_decide_eq_true rfl)).trans (f52 59 (of_decide_eq_true rfl))), show (σ67 55 4).toInt = (σ 55 4).toInt from by omega]; exact hr1), (show jTp (σ67 10) (σ67 63) (σ67 55 15).toInt by rw [show σ67 10 = σ 10 from ((f69 10 (of_decide_eq_true rfl)).trans (f52 10 (of_decide_eq_true rfl))), show σ67 63 = σ 63 from ((f69 63 (of_decide_eq_true rfl)).trans (f52 63 (of_decide_eq_true rfl)))]; exact hr2.le (by omega)), (show jSo (σ67 17) (σ67 62) (σ67 16 0).toInt by rw [show σ67 17 = σ 17 from ((f69 17 (of_decide_eq_true rfl)).trans (f52 17 (of_decide_eq_true rfl))), show σ67 62 = σ 62 from ((f69 62 (of_decide_eq_true rfl)).trans (f52 62 (of_decide_eq_true rfl))), show (σ67 16 0).toInt = (σ 16 0).toInt from by omega]; exact hr3), (show jShP (σ67 51) (σ67 52) (σ67 53) (σ67 86) (σ67 87) (σ67 55 32).toInt by rw [show σ67 51 = σ 51 from ((f69 51 (of_decide_eq_true rfl)).trans (f52 51 (of_decide_eq_true rfl))), show σ67 52 = σ 52 from ((f69 52 (of_decide_eq_true rfl)).trans (f52 52 (of_decide_eq_true rfl))), show σ67 53 = σ 53 from ((f69 53 (of_decide_eq_true rfl)).trans (f52 53 (of_decide_eq_true rfl))), show σ67 86 = σ 86 from ((f69 86 (of_decide_eq_true rfl)).trans (f52 86 (of_decide_eq_true rfl))), show σ67 87 = σ 87 from ((f69 87 (of_decide_eq_true rfl)).trans (f52 87 (of_decide_eq_true rfl)))]; exact (hr4.up (by omega) (by omega))), (show jEl (σ67 51) (σ67 52) (τ 54) (τ 88) by rw [show σ67 51 = σ 51 from ((f69 51 (of_decide_eq_true rfl)).trans (f52 51 (of_decide_eq_true rfl))), show σ67 52 = σ 52 from ((f69 52 (of_decide_eq_true rfl)).trans (f52 52 (of_decide_eq_true rfl)))]; exact hr5), (show jByP (σ67 51) (σ67 52) (τ 54) by rw [show σ67 51 = σ 51 from ((f69 51 (of_decide_eq_true rfl)).trans (f52 51 (of_decide_eq_true rfl))), show σ67 52 = σ 52 from ((f69 52 (of_decide_eq_true rfl)).trans (f52 52 (of_decide_eq_true rfl)))]; exact hr6), (show jBk (σ67 48) (σ67 80) (σ67 49) (σ67 81) (σ67 55 47).toInt by rw [show σ67 48 = σ 48 from ((f69 48 (of_decide_eq_true rfl)).trans (f52 48 (of_decide_eq_true rfl))), show σ67 49 = σ 49 from ((f69 49 (of_decide_eq_true rfl)).trans (f52 49 (of_decide_eq_true rfl))), show σ67 80 = σ 80 from ((f69 80 (of_decide_eq_true rfl)).trans (f52 80 (of_decide_eq_true rfl))), show σ67 81 = σ 81 from ((f69 81 (of_decide_eq_true rfl)).trans (f52 81 (of_decide_eq_true rfl))), show (σ67 55 47).toInt = (σ 55 47).toInt from by omega]; exact hr7), (show jKd (σ67 39) (σ67 70) (σ67 55 32).toInt by rw [show σ67 39 = σ 39 from ((f69 39 (of_decide_eq_true rfl)).trans (f52 39 (of_decide_eq_true rfl))), show σ67 70 = σ 70 from ((f69 70 (of_decide_eq_true rfl)).trans (f52 70 (of_decide_eq_true rfl))), show (σ67 55 32).toInt = (σ 55 32).toInt from by omega]; exact hr8), (show jTt (σ67 42) (σ67 85) (σ67 55 55).toInt by rw [show σ67 42 = σ 42 from ((f69 42 (of_decide_eq_true rfl)).trans (f52 42 (of_decide_eq_true rfl))), show σ67 85 = σ 85 from ((f69 85 (of_decide_eq_true rfl)).trans (f52 85 (of_decide_eq_true rfl))), show (σ67 55 55).toInt = (σ 55 55).toInt from by omega]; exact hr9)⟩ hP hS (lv_sub hl [0, 1, 2, 3] rfl)
set_option maxHeartbeats 4000000 in
set_option maxRecDepth 100000 in
theorem law_case_25 {p : Program} {e : Env} {s : State} {m : MethodId} {below : List Frame} {meth : Method} {c : Code} (l : Launch) {b L : Nat} {xs : Nat → Int32} {D : va_G} {cI cL : ClassId} {ad zz : Nat → Nat} (C0 : lw_At p s m meth c b L xs) (hJ : jD ad) (hA : ∀ q, jA ad q → s.heap.size ≤ q) (hK : jK D cI cL s) (hZ : jZ zz (fun q : Nat => s.heap.size ≤ q) s s.heap) {x0 : Int32} (hx0 : 0 ≤ x0.toInt) (hxL : x0.toInt + 6 ≤ (L : Int)) (hL : L ≤ 384) {σ : Nat → Nat → Int32} {τ : Nat → Nat → Int64} {H : Heap} {locs : List Loc} (hS : va_S (fun q : Nat => s.heap.size ≤ q) s.heap H locs) {ls : Array Slot} (hAll : jAll σ τ) (hP : jH D cI cL ad σ τ H) (hl : lv_has ls 4 [(3, .int x0), (2, .ref (ad 55)), (1, .ref (ad 0)), (0, .ref b)]) (ih : ∀ (x1 : Int32) (σ : Nat → Nat → Int32) (τ : Nat → Nat → Int64) (H : Heap) (locs : List Loc) (ls : Array Slot), x1.toInt = x0.toInt + 6 → jAll σ τ → jH D cI cL ad σ τ H → va_S (fun q : Nat => s.heap.size ≤ q) s.heap H locs → lv_has ls 4 [(3, .int x1), (2, .ref (ad 55)), (1, .ref (ad 0)), (0, .ref b)] → W p l e room_1 s m #[Value.ref b] below meth c H locs 90 348600 (lw_Z below #[Value.ref b] s) (F0 m 18 ls [])) : W p l e room_1 s m #[Value.ref b] below meth c H locs 90 348600 (lw_Z below #[Value.ref b] s) (F0 m 931 ls []) := by
  obtain ⟨hx, hb, hr, hml, hown, hts0, hX, hbl, hlocks, hgv⟩ := C0
  have hts : ∀ w ∈ wsL_law, w.before #[Value.ref b] s = true := fun w h => hts0 w (wsL_law_in w h)
  have hbA : ¬ (fun q : Nat => s.heap.size ≤ q) b := Nat.not_le.mpr hbl
  have hown : s.vm.findClass RL = some m.cls := hown
  obtain ⟨hI2, hI9, hI12, hI16, hI18, hI22, hI31, hI38, hI43, hI47, hI50, hI101, hI102, hI103, hI104, hI105, hI106, hI107, hI109, hI110, hI111, hI119, hs_jKept, hs_jBook, ht0, ht1, ht2, ht3, ht4, ht5, ht6, ht7, ht8, ht9, ht10, ht11, hr0, hr1, hr2, hr3, hr4, hr5, hr6, hr7, hr8, hr9⟩ := hAll
  have hL9 : (L : Int) ≤ 384 := by omega
  obtain ⟨i1, i2, i3, i4, i5, w6⟩ : (0 ≤ (σ 2 0).toInt ∧ (σ 2 0).toInt ≤ 4) ∧ (0 ≤ (σ 2 1).toInt ∧ (σ 2 1).toInt ≤ 3) ∧ (0 ≤ (σ 2 2).toInt) ∧ (0 ≤ (σ 2 3).toInt) ∧ ((σ 2 2).toInt + (σ 2 3).toInt ≤ 40) ∧ (∀ k : Nat, k < 40 → 0 ≤ (σ 6 k).toInt ∧ (σ 6 k).toInt ≤ 67) := id hI2
  obtain ⟨i7, w8, w9⟩ : (0 ≤ (σ 9 0).toInt ∧ (σ 9 0).toInt ≤ 80) ∧ (∀ k : Nat, k < 80 → 0 ≤ (σ 10 k).toInt ∧ (σ 10 k).toInt ≤ 255) ∧ (∀ k : Nat, k < 8 → 0 ≤ (σ 11 k).toInt ∧ (σ 11 k).toInt ≤ 3) := id hI9
  obtain ⟨i10, i11, i12, w13⟩ : (1 ≤ (σ 16 0).toInt ∧ (σ 16 0).toInt ≤ 8) ∧ (1 ≤ (σ 16 1).toInt ∧ (σ 16 1).toInt ≤ 12) ∧ (0 ≤ (σ 16 2).toInt ∧ (σ 16 2).toInt ≤ 999) ∧ (∀ k : Nat, k < 8 → 0 ≤ (σ 17 k).toInt ∧ (σ 17 k).toInt ≤ 3) := id hI16
  obtain ⟨i14, i15, w16⟩ : (0 ≤ (σ 38 0).toInt ∧ (σ 38 0).toInt ≤ 20) ∧ (0 ≤ (σ 38 1).toInt ∧ (σ 38 1).toInt ≤ 1000) ∧ (∀ k : Nat, k < 20 → 0 ≤ (σ 39 k).toInt ∧ (σ 39 k).toInt ≤ 6) := id hI38
  obtain ⟨i17, w18, w19⟩ : (0 ≤ (σ 47 0).toInt ∧ (σ 47 0).toInt ≤ 12) ∧ (∀ k : Nat, k < 12 → 0 ≤ (σ 48 k).toInt ∧ (σ 48 k).toInt ≤ 3) ∧ (∀ k : Nat, k < 12 → 0 ≤ (σ 49 k).toInt ∧ (σ 49 k).toInt ≤ 1) := id hI47
  have w20 : ∀ k : Nat, k < 6 → 0 ≤ (σ 52 k).toInt ∧ (σ 52 k).toInt ≤ 60 := hI50
  obtain ⟨i21, i22, i23, w24, w25, w26, w27⟩ : (0 ≤ (σ 55 5).toInt) ∧ ((σ 55 5).toInt ≤ (σ 55 4).toInt) ∧ ((σ 55 4).toInt ≤ 40) ∧ (∀ k : Nat, k < 68 → (-200) ≤ (σ 56 k).toInt ∧ (σ 56 k).toInt ≤ 500) ∧ (∀ k : Nat, k < 40 → 0 ≤ (σ 57 k).toInt ∧ (σ 57 k).toInt ≤ 67) ∧ (∀ k : Nat, k < 40 → (-200) ≤ (σ 58 k).toInt ∧ (σ 58 k).toInt ≤ 500) ∧ (∀ k : Nat, k < 40 → (-200) ≤ (σ 59 k).toInt ∧ (σ 59 k).toInt ≤ 500) := id hI101
  obtain ⟨i28, w29, w30⟩ : (0 ≤ (σ 55 6).toInt ∧ (σ 55 6).toInt ≤ 4) ∧ (∀ k : Nat, k < 4 → 0 ≤ (σ 60 k).toInt ∧ (σ 60 k).toInt ≤ 50) ∧ (∀ k : Nat, k < 4 → 0 ≤ (σ 61 k).toInt ∧ (σ 61 k).toInt ≤ 20) := id hI102
  obtain ⟨i31, i32, i33, w34, w35⟩ : (1 ≤ (σ 55 10).toInt ∧ (σ 55 10).toInt ≤ 8) ∧ (1 ≤ (σ 55 12).toInt ∧ (σ 55 12).toInt ≤ 12) ∧ (0 ≤ (σ 55 13).toInt ∧ (σ 55 13).toInt ≤ 999) ∧ (∀ k : Nat, k < 8 → 0 ≤ (σ 62 k).toInt ∧ (σ 62 k).toInt ≤ 3) ∧ (∀ k : Nat, k < 8 → 0 ≤ (σ 67 k).toInt ∧ (σ 67 k).toInt ≤ 3) := id hI104
  obtain ⟨i36, w37⟩ : (0 ≤ (σ 55 15).toInt ∧ (σ 55 15).toInt ≤ 80) ∧ (∀ k : Nat, k < 2 → (-1) ≤ (σ 65 k).toInt ∧ (σ 65 k).toInt ≤ 80) := id hI105
  obtain ⟨i38, w39, w40, w41⟩ : (0 ≤ (σ 55 32).toInt ∧ (σ 55 32).toInt ≤ 20) ∧ (∀ k : Nat, k < 20 → 0 ≤ (σ 70 k).toInt ∧ (σ 70 k).toInt ≤ 6) ∧ (∀ k : Nat, k < 20 → 0 ≤ (σ 71 k).toInt ∧ (σ 71 k).toInt ≤ 8) ∧ (∀ k : Nat, k < 160 → 0 ≤ (σ 72 k).toInt ∧ (σ 72 k).toInt ≤ 3) := id hI106
  obtain ⟨i42, i43, w44⟩ : (0 ≤ (σ 55 47).toInt ∧ (σ 55 47).toInt ≤ 12) ∧ ((σ 55 47).toInt ≤ (σ 55 12).toInt) ∧ (∀ k : Nat, k < 12 → 0 ≤ (σ 80 k).toInt ∧ (σ 80 k).toInt ≤ 3) := id hI107
  refine lv_aload_n hx hb dL_law_931 rfl (lv_at hl 2 rfl) ?_
  refine lv_aload_n hx hb dL_law_932 rfl (lv_at hl 3 rfl) ?_
  refine lv_iload_n hx hb dL_law_933 rfl (lv_at hl 0 rfl) ?_
  refine lv_iconst (v := 1) hx hb dL_law_934 (of_decide_eq_true rfl) ?_
  have g45 := jrg (rfl : x0.toInt = x0.toInt)
  refine lv_iadd hx hb dL_law_935 ?_
  refine lv_topi (fun x46 ex46 => ?_)
  exact by
   have tx46 : x46.toInt = x0.toInt + 1 := (jadd ex46 rfl jz_1 (by omega) (by omega)).trans (by omega)
   refine va_sld hx hb hX hbl hbA hS (jin tx46 (by omega) (by omega)) dL_law_936 ?_
   have g47 := jrg (rfl : (xs x46.toNatClampNeg).toInt = (xs x46.toNatClampNeg).toInt)
   refine lv_aload_n hx hb dL_law_937 rfl (lv_at hl 3 rfl) ?_
   refine lv_iload_n hx hb dL_law_938 rfl (lv_at hl 0 rfl) ?_
   refine lv_iconst (v := 2) hx hb dL_law_939 (of_decide_eq_true rfl) ?_
   refine lv_iadd hx hb dL_law_940 ?_
   refine lv_topi (fun x48 ex48 => ?_)
   have tx48 : x48.toInt = x0.toInt + 2 := (jadd ex48 rfl jz_2 (by omega) (by omega)).trans (by omega)
   exact by
    refine va_sld hx hb hX hbl hbA hS (jin tx48 (by omega) (by omega)) dL_law_941 ?_
    have g49 := jrg (rfl : (xs x48.toNatClampNeg).toInt = (xs x48.toNatClampNeg).toInt)
    refine jcallV (As := [.int (xs x46.toNatClampNeg), .int (xs x48.toNatClampNeg)]) (rest := []) ⟨hx, hb, hml, hown, hts⟩ hK hP hA hS hZ (c_X11_led l D cI cL ad zz hJ σ τ (xs x46.toNatClampNeg) ((xs x46.toNatClampNeg).toInt) rfl (xs x48.toNatClampNeg) ((xs x48.toNatClampNeg).toInt) rfl hI43) cw_RL_117 (jc_0 cI cL ad σ τ) rfl ⟨Nat.le_of_ble_eq_true rfl, Nat.le_of_ble_eq_true rfl⟩ rfl rfl rfl hl.1 rfl (Nat.le_of_ble_eq_true rfl) dL_law_942 ⟨Nat.le_of_ble_eq_true rfl, Nat.le_of_ble_eq_true rfl⟩ (fun r51 σ50 τ50 H locs h50 hP hS => ?_)
    obtain ⟨⟨rfl, rfl⟩, h50⟩ := h50
    refine lv_pop hx hb dL_law_945 rfl ?_
    refine lv_aload_n hx hb dL_law_946 rfl (lv_at hl 1 rfl) ?_
    refine lv_aload_n hx hb dL_law_947 rfl (lv_at hl 3 rfl) ?_
    refine lv_iload_n hx hb dL_law_948 rfl (lv_at hl 0 rfl) ?_
    refine lv_iconst (v := 1) hx hb dL_law_949 (of_decide_eq_true rfl) ?_
    refine lv_iadd hx hb dL_law_950 ?_
    refine jtopr ex46.symm ?_
    exact by
     refine va_sld hx hb hX hbl hbA hS (jin tx46 (by omega) (by omega)) dL_law_951 ?_
     refine lv_aload_n hx hb dL_law_952 rfl (lv_at hl 3 rfl) ?_
     refine lv_iload_n hx hb dL_law_953 rfl (lv_at hl 0 rfl) ?_
     refine lv_iconst (v := 2) hx hb dL_law_954 (of_decide_eq_true rfl) ?_
     refine lv_iadd hx hb dL_law_955 ?_
     refine jtopr ex48.symm ?_
     refine va_sld hx hb hX hbl hbA hS (jin tx48 (by omega) (by omega)) dL_law_956 ?_
     refine jcallV (As := [.int (xs x46.toNatClampNeg), .int (xs x48.toNatClampNeg)]) (rest := []) ⟨hx, hb, hml, hown, hts⟩ hK hP hA hS hZ (c_X12_led l D cI cL ad zz hJ σ τ (xs x46.toNatClampNeg) ((xs x46.toNatClampNeg).toInt) rfl (xs x48.toNatClampNeg) ((xs x48.toNatClampNeg).toInt) rfl hI109) cw_RL_120 (jc_55 cI cL ad σ τ) rfl ⟨Nat.le_of_ble_eq_true rfl, Nat.le_of_ble_eq_true rfl⟩ rfl rfl rfl hl.1 rfl (Nat.le_of_ble_eq_true rfl) dL_law_957 ⟨Nat.le_of_ble_eq_true rfl, Nat.le_of_ble_eq_true rfl⟩ (fun r53 σ52 τ52 H locs h52 hP hS => ?_)
     obtain ⟨⟨rfl, rfl⟩, h52⟩ := h52
     exact by
      refine lv_pop hx hb dL_law_960 rfl ?_
      refine lv_goto (tgt := 1357) hx hb dL_law_961 (of_decide_eq_true rfl) ?_
      obtain ⟨x54, ex54⟩ : ∃ y : Int32, y = x0 + 6 := ⟨_, rfl⟩
      have tx54 : x54.toInt = x0.toInt + 6 := (jadd ex54 rfl jz_6 (by omega) (by omega)).trans (by omega)
      refine lv_iinc (v := x54) (lv' := [(3, .int x54), (2, .ref (ad 55)), (1, .ref (ad 0)), (0, .ref b)]) hx hb dL_law_1357 hl (k := 0) rfl (by rw [ex54]; rfl) (of_decide_eq_true rfl) rfl (fun ls hl => ?_)
      refine lv_goto (tgt := 18) hx hb dL_law_1360 (of_decide_eq_true rfl) ?_
      exact by exact ih x54 σ τ _ _ ls (by have h9 := tx54; omega) ⟨hI2, hI9, hI12, hI16, hI18, hI22, hI31, hI38, hI43, hI47, hI50, hI101, hI102, hI103, hI104, hI105, hI106, hI107, hI109, hI110, hI111, hI119, hs_jKept, hs_jBook, (by omega), (by omega), (by omega), (by omega), (by omega), (by omega), (by omega), (by omega), (by omega), (by omega), (by omega), (by omega), hr0, hr1, hr2, hr3, hr4, hr5, hr6, hr7, hr8, hr9⟩ hP hS (lv_sub hl [0, 1, 2, 3] rfl)
set_option maxHeartbeats 4000000 in
set_option maxRecDepth 100000 in
theorem law_case_26 {p : Program} {e : Env} {s : State} {m : MethodId} {below : List Frame} {meth : Method} {c : Code} (l : Launch) {b L : Nat} {xs : Nat → Int32} {D : va_G} {cI cL : ClassId} {ad zz : Nat → Nat} (C0 : lw_At p s m meth c b L xs) (hJ : jD ad) (hA : ∀ q, jA ad q → s.heap.size ≤ q) (hK : jK D cI cL s) (hZ : jZ zz (fun q : Nat => s.heap.size ≤ q) s s.heap) {x0 : Int32} (hx0 : 0 ≤ x0.toInt) (hxL : x0.toInt + 6 ≤ (L : Int)) (hL : L ≤ 384) {σ : Nat → Nat → Int32} {τ : Nat → Nat → Int64} {H : Heap} {locs : List Loc} (hS : va_S (fun q : Nat => s.heap.size ≤ q) s.heap H locs) {ls : Array Slot} (hAll : jAll σ τ) (hP : jH D cI cL ad σ τ H) (hl : lv_has ls 4 [(3, .int x0), (2, .ref (ad 55)), (1, .ref (ad 0)), (0, .ref b)]) (ih : ∀ (x1 : Int32) (σ : Nat → Nat → Int32) (τ : Nat → Nat → Int64) (H : Heap) (locs : List Loc) (ls : Array Slot), x1.toInt = x0.toInt + 6 → jAll σ τ → jH D cI cL ad σ τ H → va_S (fun q : Nat => s.heap.size ≤ q) s.heap H locs → lv_has ls 4 [(3, .int x1), (2, .ref (ad 55)), (1, .ref (ad 0)), (0, .ref b)] → W p l e room_1 s m #[Value.ref b] below meth c H locs 90 348600 (lw_Z below #[Value.ref b] s) (F0 m 18 ls [])) : W p l e room_1 s m #[Value.ref b] below meth c H locs 90 348600 (lw_Z below #[Value.ref b] s) (F0 m 964 ls []) := by
  obtain ⟨hx, hb, hr, hml, hown, hts0, hX, hbl, hlocks, hgv⟩ := C0
  have hts : ∀ w ∈ wsL_law, w.before #[Value.ref b] s = true := fun w h => hts0 w (wsL_law_in w h)
  have hbA : ¬ (fun q : Nat => s.heap.size ≤ q) b := Nat.not_le.mpr hbl
  have hown : s.vm.findClass RL = some m.cls := hown
  obtain ⟨hI2, hI9, hI12, hI16, hI18, hI22, hI31, hI38, hI43, hI47, hI50, hI101, hI102, hI103, hI104, hI105, hI106, hI107, hI109, hI110, hI111, hI119, hs_jKept, hs_jBook, ht0, ht1, ht2, ht3, ht4, ht5, ht6, ht7, ht8, ht9, ht10, ht11, hr0, hr1, hr2, hr3, hr4, hr5, hr6, hr7, hr8, hr9⟩ := hAll
  have hL9 : (L : Int) ≤ 384 := by omega
  obtain ⟨i1, i2, i3, i4, i5, w6⟩ : (0 ≤ (σ 2 0).toInt ∧ (σ 2 0).toInt ≤ 4) ∧ (0 ≤ (σ 2 1).toInt ∧ (σ 2 1).toInt ≤ 3) ∧ (0 ≤ (σ 2 2).toInt) ∧ (0 ≤ (σ 2 3).toInt) ∧ ((σ 2 2).toInt + (σ 2 3).toInt ≤ 40) ∧ (∀ k : Nat, k < 40 → 0 ≤ (σ 6 k).toInt ∧ (σ 6 k).toInt ≤ 67) := id hI2
  obtain ⟨i7, w8, w9⟩ : (0 ≤ (σ 9 0).toInt ∧ (σ 9 0).toInt ≤ 80) ∧ (∀ k : Nat, k < 80 → 0 ≤ (σ 10 k).toInt ∧ (σ 10 k).toInt ≤ 255) ∧ (∀ k : Nat, k < 8 → 0 ≤ (σ 11 k).toInt ∧ (σ 11 k).toInt ≤ 3) := id hI9
  obtain ⟨i10, i11, i12, w13⟩ : (1 ≤ (σ 16 0).toInt ∧ (σ 16 0).toInt ≤ 8) ∧ (1 ≤ (σ 16 1).toInt ∧ (σ 16 1).toInt ≤ 12) ∧ (0 ≤ (σ 16 2).toInt ∧ (σ 16 2).toInt ≤ 999) ∧ (∀ k : Nat, k < 8 → 0 ≤ (σ 17 k).toInt ∧ (σ 17 k).toInt ≤ 3) := id hI16
  obtain ⟨i14, i15, w16⟩ : (0 ≤ (σ 38 0).toInt ∧ (σ 38 0).toInt ≤ 20) ∧ (0 ≤ (σ 38 1).toInt ∧ (σ 38 1).toInt ≤ 1000) ∧ (∀ k : Nat, k < 20 → 0 ≤ (σ 39 k).toInt ∧ (σ 39 k).toInt ≤ 6) := id hI38
  obtain ⟨i17, w18, w19⟩ : (0 ≤ (σ 47 0).toInt ∧ (σ 47 0).toInt ≤ 12) ∧ (∀ k : Nat, k < 12 → 0 ≤ (σ 48 k).toInt ∧ (σ 48 k).toInt ≤ 3) ∧ (∀ k : Nat, k < 12 → 0 ≤ (σ 49 k).toInt ∧ (σ 49 k).toInt ≤ 1) := id hI47
  have w20 : ∀ k : Nat, k < 6 → 0 ≤ (σ 52 k).toInt ∧ (σ 52 k).toInt ≤ 60 := hI50
  obtain ⟨i21, i22, i23, w24, w25, w26, w27⟩ : (0 ≤ (σ 55 5).toInt) ∧ ((σ 55 5).toInt ≤ (σ 55 4).toInt) ∧ ((σ 55 4).toInt ≤ 40) ∧ (∀ k : Nat, k < 68 → (-200) ≤ (σ 56 k).toInt ∧ (σ 56 k).toInt ≤ 500) ∧ (∀ k : Nat, k < 40 → 0 ≤ (σ 57 k).toInt ∧ (σ 57 k).toInt ≤ 67) ∧ (∀ k : Nat, k < 40 → (-200) ≤ (σ 58 k).toInt ∧ (σ 58 k).toInt ≤ 500) ∧ (∀ k : Nat, k < 40 → (-200) ≤ (σ 59 k).toInt ∧ (σ 59 k).toInt ≤ 500) := id hI101
  obtain ⟨i28, w29, w30⟩ : (0 ≤ (σ 55 6).toInt ∧ (σ 55 6).toInt ≤ 4) ∧ (∀ k : Nat, k < 4 → 0 ≤ (σ 60 k).toInt ∧ (σ 60 k).toInt ≤ 50) ∧ (∀ k : Nat, k < 4 → 0 ≤ (σ 61 k).toInt ∧ (σ 61 k).toInt ≤ 20) := id hI102
  obtain ⟨i31, i32, i33, w34, w35⟩ : (1 ≤ (σ 55 10).toInt ∧ (σ 55 10).toInt ≤ 8) ∧ (1 ≤ (σ 55 12).toInt ∧ (σ 55 12).toInt ≤ 12) ∧ (0 ≤ (σ 55 13).toInt ∧ (σ 55 13).toInt ≤ 999) ∧ (∀ k : Nat, k < 8 → 0 ≤ (σ 62 k).toInt ∧ (σ 62 k).toInt ≤ 3) ∧ (∀ k : Nat, k < 8 → 0 ≤ (σ 67 k).toInt ∧ (σ 67 k).toInt ≤ 3) := id hI104
  obtain ⟨i36, w37⟩ : (0 ≤ (σ 55 15).toInt ∧ (σ 55 15).toInt ≤ 80) ∧ (∀ k : Nat, k < 2 → (-1) ≤ (σ 65 k).toInt ∧ (σ 65 k).toInt ≤ 80) := id hI105
  obtain ⟨i38, w39, w40, w41⟩ : (0 ≤ (σ 55 32).toInt ∧ (σ 55 32).toInt ≤ 20) ∧ (∀ k : Nat, k < 20 → 0 ≤ (σ 70 k).toInt ∧ (σ 70 k).toInt ≤ 6) ∧ (∀ k : Nat, k < 20 → 0 ≤ (σ 71 k).toInt ∧ (σ 71 k).toInt ≤ 8) ∧ (∀ k : Nat, k < 160 → 0 ≤ (σ 72 k).toInt ∧ (σ 72 k).toInt ≤ 3) := id hI106
  obtain ⟨i42, i43, w44⟩ : (0 ≤ (σ 55 47).toInt ∧ (σ 55 47).toInt ≤ 12) ∧ ((σ 55 47).toInt ≤ (σ 55 12).toInt) ∧ (∀ k : Nat, k < 12 → 0 ≤ (σ 80 k).toInt ∧ (σ 80 k).toInt ≤ 3) := id hI107
  refine lv_aload_n hx hb dL_law_964 rfl (lv_at hl 2 rfl) ?_
  refine jcallV (As := []) (rest := []) ⟨hx, hb, hml, hown, hts⟩ hK hP hA hS hZ (c_X11_undo l D cI cL ad zz hJ σ τ hI2) cw_RL_121 (jc_0 cI cL ad σ τ) rfl ⟨Nat.le_of_ble_eq_true rfl, Nat.le_of_ble_eq_true rfl⟩ rfl rfl rfl hl.1 rfl (Nat.le_of_ble_eq_true rfl) dL_law_965 ⟨Nat.le_of_ble_eq_true rfl, Nat.le_of_ble_eq_true rfl⟩ (fun r46 σ45 τ45 H locs h45 hP hS => ?_)
  obtain ⟨rfl, f47, f48, I49, h45⟩ := h45
  obtain ⟨i51, i52, i53, i54, i55, w56⟩ : (0 ≤ (σ45 2 0).toInt ∧ (σ45 2 0).toInt ≤ 4) ∧ (0 ≤ (σ45 2 1).toInt ∧ (σ45 2 1).toInt ≤ 3) ∧ (0 ≤ (σ45 2 2).toInt) ∧ (0 ≤ (σ45 2 3).toInt) ∧ ((σ45 2 2).toInt + (σ45 2 3).toInt ≤ 40) ∧ (∀ k : Nat, k < 40 → 0 ≤ (σ45 6 k).toInt ∧ (σ45 6 k).toInt ≤ 67) := id I49
  have z57 : (σ45 2 0).toInt = (σ 2 0).toInt := (congrArg Int32.toInt (show σ45 2 0 = (σ 2 0) from (f48 0 (of_decide_eq_true rfl))))
  have z58 : (σ45 2 1).toInt = (σ 2 1).toInt := (congrArg Int32.toInt (show σ45 2 1 = (σ 2 1) from (f48 1 (of_decide_eq_true rfl))))
  rcases h45 with h59 | h60
  · obtain ⟨q65, k61, k62, k63, k64⟩ := h59
    have q65 := q65.symm
    subst q65
    refine lv_pop hx hb dL_law_968 rfl ?_
    refine lv_aload_n hx hb dL_law_969 rfl (lv_at hl 1 rfl) ?_
    have I66 : jI101 σ45 := jI101_fr (congrFun (f47 55 (of_decide_eq_true rfl)) 4) (congrFun (f47 55 (of_decide_eq_true rfl)) 5) (f47 56 (of_decide_eq_true rfl)) (f47 57 (of_decide_eq_true rfl)) (f47 58 (of_decide_eq_true rfl)) (f47 59 (of_decide_eq_true rfl)) hI101
    have z67 : (σ45 55 5).toInt = (σ 55 5).toInt := (congrArg Int32.toInt (show σ45 55 5 = (σ 55 5) from (congrFun (f47 55 (of_decide_eq_true rfl)) 5)))
    refine jcallV (As := []) (rest := []) ⟨hx, hb, hml, hown, hts⟩ hK hP hA hS hZ (c_X12_undo l D cI cL ad zz hJ σ45 τ I66) cw_RL_124 (jc_55 cI cL ad σ45 τ) rfl ⟨Nat.le_of_ble_eq_true rfl, Nat.le_of_ble_eq_true rfl⟩ rfl rfl rfl hl.1 rfl (Nat.le_of_ble_eq_true rfl) dL_law_970 ⟨Nat.le_of_ble_eq_true rfl, Nat.le_of_ble_eq_true rfl⟩ (fun r69 σ68 τ68 H locs h68 hP hS => ?_)
    obtain ⟨rfl, f70, f71, I72, h68⟩ := h68
    obtain ⟨i74, i75, i76, w77, w78, w79, w80⟩ : (0 ≤ (σ68 55 5).toInt) ∧ ((σ68 55 5).toInt ≤ (σ68 55 4).toInt) ∧ ((σ68 55 4).toInt ≤ 40) ∧ (∀ k : Nat, k < 68 → (-200) ≤ (σ68 56 k).toInt ∧ (σ68 56 k).toInt ≤ 500) ∧ (∀ k : Nat, k < 40 → 0 ≤ (σ68 57 k).toInt ∧ (σ68 57 k).toInt ≤ 67) ∧ (∀ k : Nat, k < 40 → (-200) ≤ (σ68 58 k).toInt ∧ (σ68 58 k).toInt ≤ 500) ∧ (∀ k : Nat, k < 40 → (-200) ≤ (σ68 59 k).toInt ∧ (σ68 59 k).toInt ≤ 500) := id I72
    have z81 : (σ68 55 4).toInt = (σ 55 4).toInt := (congrArg Int32.toInt (show σ68 55 4 = (σ 55 4) from ((f71 4 (of_decide_eq_true rfl)).trans (congrFun (f47 55 (of_decide_eq_true rfl)) 4))))
    rcases h68 with h82 | h83
    · obtain ⟨q87, k84, k85, k86⟩ := h82
      have q87 := q87.symm
      subst q87
      refine lv_pop hx hb dL_law_973 rfl ?_
      refine lv_goto (tgt := 1357) hx hb dL_law_974 (of_decide_eq_true rfl) ?_
      obtain ⟨x88, ex88⟩ : ∃ y : Int32, y = x0 + 6 := ⟨_, rfl⟩
      exact by
       have tx88 : x88.toInt = x0.toInt + 6 := (jadd ex88 rfl jz_6 (by omega) (by omega)).trans (by omega)
       refine lv_iinc (v := x88) (lv' := [(3, .int x88), (2, .ref (ad 55)), (1, .ref (ad 0)), (0, .ref b)]) hx hb dL_law_1357 hl (k := 0) rfl (by rw [ex88]; rfl) (of_decide_eq_true rfl) rfl (fun ls hl => ?_)
       refine lv_goto (tgt := 18) hx hb dL_law_1360 (of_decide_eq_true rfl) ?_
       have I89 : jI2 σ68 := jI2_fr (congrFun (f70 2 (of_decide_eq_true rfl)) 0) (congrFun (f70 2 (of_decide_eq_true rfl)) 1) (congrFun (f70 2 (of_decide_eq_true rfl)) 2) (congrFun (f70 2 (of_decide_eq_true rfl)) 3) (f70 6 (of_decide_eq_true rfl)) I49
       have I90 : jI9 σ68 := jI9_fr ((congrFun (f70 9 (of_decide_eq_true rfl)) 0).trans (congrFun (f47 9 (of_decide_eq_true rfl)) 0)) ((f70 10 (of_decide_eq_true rfl)).trans (f47 10 (of_decide_eq_true rfl))) ((f70 11 (of_decide_eq_true rfl)).trans (f47 11 (of_decide_eq_true rfl))) hI9
       have I91 : jI12 σ68 := jI12_fr ((congrFun (f70 12 (of_decide_eq_true rfl)) 0).trans (congrFun (f47 12 (of_decide_eq_true rfl)) 0)) ((f70 13 (of_decide_eq_true rfl)).trans (f47 13 (of_decide_eq_true rfl))) hI12
       have I92 : jI16 σ68 := jI16_fr ((congrFun (f70 16 (of_decide_eq_true rfl)) 0).trans (congrFun (f47 16 (of_decide_eq_true rfl)) 0)) ((congrFun (f70 16 (of_decide_eq_true rfl)) 1).trans (congrFun (f47 16 (of_decide_eq_true rfl)) 1)) ((congrFun (f70 16 (of_decide_eq_true rfl)) 2).trans (congrFun (f47 16 (of_decide_eq_true rfl)) 2)) ((f70 17 (of_decide_eq_true rfl)).trans (f47 17 (of_decide_eq_true rfl))) hI16
       have I93 : jI18 σ68 := jI18_fr ((congrFun (f70 18 (of_decide_eq_true rfl)) 0).trans (congrFun (f47 18 (of_decide_eq_true rfl)) 0)) ((f70 19 (of_decide_eq_true rfl)).trans (f47 19 (of_decide_eq_true rfl))) hI18
       have I94 : jI22 σ68 := jI22_fr ((congrFun (f70 22 (of_decide_eq_true rfl)) 0).trans (congrFun (f47 22 (of_decide_eq_true rfl)) 0)) ((f70 23 (of_decide_eq_true rfl)).trans (f47 23 (of_decide_eq_true rfl))) hI22
       exact by
        have I95 : jI31 σ68 := jI31_fr ((congrFun (f70 31 (of_decide_eq_true rfl)) 8).trans (congrFun (f47 31 (of_decide_eq_true rfl)) 8)) ((f70 33 (of_decide_eq_true rfl)).trans (f47 33 (of_decide_eq_true rfl))) ((f70 36 (of_decide_eq_true rfl)).trans (f47 36 (of_decide_eq_true rfl))) hI31
        have I96 : jI38 σ68 := jI38_fr ((congrFun (f70 38 (of_decide_eq_true rfl)) 0).trans (congrFun (f47 38 (of_decide_eq_true rfl)) 0)) ((congrFun (f70 38 (of_decide_eq_true rfl)) 1).trans (congrFun (f47 38 (of_decide_eq_true rfl)) 1)) ((f70 39 (of_decide_eq_true rfl)).trans (f47 39 (of_decide_eq_true rfl))) hI38
        have I97 : jI43 σ68 := jI43_fr ((congrFun (f70 43 (of_decide_eq_true rfl)) 8).trans (congrFun (f47 43 (of_decide_eq_true rfl)) 8)) hI43
        have I98 : jI47 σ68 := jI47_fr ((congrFun (f70 47 (of_decide_eq_true rfl)) 0).trans (congrFun (f47 47 (of_decide_eq_true rfl)) 0)) ((f70 48 (of_decide_eq_true rfl)).trans (f47 48 (of_decide_eq_true rfl))) ((f70 49 (of_decide_eq_true rfl)).trans (f47 49 (of_decide_eq_true rfl))) hI47
        have I99 : jI50 σ68 := jI50_fr ((f70 52 (of_decide_eq_true rfl)).trans (f47 52 (of_decide_eq_true rfl))) hI50
        have I100 : jI102 σ68 := jI102_fr ((f71 6 (of_decide_eq_true rfl)).trans (congrFun (f47 55 (of_decide_eq_true rfl)) 6)) ((f70 60 (of_decide_eq_true rfl)).trans (f47 60 (of_decide_eq_true rfl))) ((f70 61 (of_decide_eq_true rfl)).trans (f47 61 (of_decide_eq_true rfl))) hI102
        have I101 : jI103 σ68 := jI103_fr ((f71 9 (of_decide_eq_true rfl)).trans (congrFun (f47 55 (of_decide_eq_true rfl)) 9)) hI103
        have I102 : jI104 σ68 := jI104_fr ((f71 10 (of_decide_eq_true rfl)).trans (congrFun (f47 55 (of_decide_eq_true rfl)) 10)) ((f71 12 (of_decide_eq_true rfl)).trans (congrFun (f47 55 (of_decide_eq_true rfl)) 12)) ((f71 13 (of_decide_eq_true rfl)).trans (congrFun (f47 55 (of_decide_eq_true rfl)) 13)) ((f70 62 (of_decide_eq_true rfl)).trans (f47 62 (of_decide_eq_true rfl))) ((f70 67 (of_decide_eq_true rfl)).trans (f47 67 (of_decide_eq_true rfl))) hI104
        have I103 : jI105 σ68 := jI105_fr ((f71 15 (of_decide_eq_true rfl)).trans (congrFun (f47 55 (of_decide_eq_true rfl)) 15)) ((f70 65 (of_decide_eq_true rfl)).trans (f47 65 (of_decide_eq_true rfl))) hI105
        have I104 : jI106 σ68 := jI106_fr ((f71 32 (of_decide_eq_true rfl)).trans (congrFun (f47 55 (of_decide_eq_true rfl)) 32)) ((f70 70 (of_decide_eq_true rfl)).trans (f47 70 (of_decide_eq_true rfl))) ((f70 71 (of_decide_eq_true rfl)).trans (f47 71 (of_decide_eq_true rfl))) ((f70 72 (of_decide_eq_true rfl)).trans (f47 72 (of_decide_eq_true rfl))) hI106
        have I105 : jI107 σ68 := jI107_fr ((f71 12 (of_decide_eq_true rfl)).trans (congrFun (f47 55 (of_decide_eq_true rfl)) 12)) ((f71 47 (of_decide_eq_true rfl)).trans (congrFun (f47 55 (of_decide_eq_true rfl)) 47)) ((f70 80 (of_decide_eq_true rfl)).trans (f47 80 (of_decide_eq_true rfl))) hI107
        have I106 : jI109 σ68 := jI109_fr ((f71 50 (of_decide_eq_true rfl)).trans (congrFun (f47 55 (of_decide_eq_true rfl)) 50)) hI109
        have I107 : jI110 σ68 := jI110_fr ((f70 86 (of_decide_eq_true rfl)).trans (f47 86 (of_decide_eq_true rfl))) ((f70 87 (of_decide_eq_true rfl)).trans (f47 87 (of_decide_eq_true rfl))) hI110
        have I108 : jI111 σ68 := jI111_fr ((f70 79 (of_decide_eq_true rfl)).trans (f47 79 (of_decide_eq_true rfl))) hI111
        have I109 : jI119 σ68 := jI119_fr ((f70 68 (of_decide_eq_true rfl)).trans (f47 68 (of_decide_eq_true rfl))) hI119
        have p110 : jKept σ68 := jKept.fr ((f70 75 (of_decide_eq_true rfl)).trans (f47 75 (of_decide_eq_true rfl))) ((f70 76 (of_decide_eq_true rfl)).trans (f47 76 (of_decide_eq_true rfl))) ((f70 77 (of_decide_eq_true rfl)).trans (f47 77 (of_decide_eq_true rfl))) hs_jKept
        have p111 : jBook σ68 := jBook.fr ((f71 47 (of_decide_eq_true rfl)).trans (congrFun (f47 55 (of_decide_eq_true rfl)) 47)) ((f71 10 (of_decide_eq_true rfl)).trans (congrFun (f47 55 (of_decide_eq_true rfl)) 10)) ((f70 81 (of_decide_eq_true rfl)).trans (f47 81 (of_decide_eq_true rfl))) hs_jBook
        have z112 : (σ68 2 0).toInt = (σ 2 0).toInt := (congrArg Int32.toInt (show σ68 2 0 = (σ 2 0) from ((congrFun (f70 2 (of_decide_eq_true rfl)) 0).trans (f48 0 (of_decide_eq_true rfl)))))
        have z113 : (σ68 55 6).toInt = (σ 55 6).toInt := (congrArg Int32.toInt (show σ68 55 6 = (σ 55 6) from ((f71 6 (of_decide_eq_true rfl)).trans (congrFun (f47 55 (of_decide_eq_true rfl)) 6))))
        have z114 : (σ68 2 2).toInt = (σ45 2 2).toInt := (congrArg Int32.toInt (show σ68 2 2 = (σ45 2 2) from (congrFun (f70 2 (of_decide_eq_true rfl)) 2)))
        have z115 : (σ68 2 3).toInt = (σ45 2 3).toInt := (congrArg Int32.toInt (show σ68 2 3 = (σ45 2 3) from (congrFun (f70 2 (of_decide_eq_true rfl)) 3)))
        have z116 : (σ68 9 0).toInt = (σ 9 0).toInt := (congrArg Int32.toInt (show σ68 9 0 = (σ 9 0) from ((congrFun (f70 9 (of_decide_eq_true rfl)) 0).trans (congrFun (f47 9 (of_decide_eq_true rfl)) 0))))
        have z117 : (σ68 55 15).toInt = (σ 55 15).toInt := (congrArg Int32.toInt (show σ68 55 15 = (σ 55 15) from ((f71 15 (of_decide_eq_true rfl)).trans (congrFun (f47 55 (of_decide_eq_true rfl)) 15))))
        have z118 : (σ68 16 0).toInt = (σ 16 0).toInt := (congrArg Int32.toInt (show σ68 16 0 = (σ 16 0) from ((congrFun (f70 16 (of_decide_eq_true rfl)) 0).trans (congrFun (f47 16 (of_decide_eq_true rfl)) 0))))
        have z119 : (σ68 55 10).toInt = (σ 55 10).toInt := (congrArg Int32.toInt (show σ68 55 10 = (σ 55 10) from ((f71 10 (of_decide_eq_true rfl)).trans (congrFun (f47 55 (of_decide_eq_true rfl)) 10))))
        have z120 : (σ68 16 1).toInt = (σ 16 1).toInt := (congrArg Int32.toInt (show σ68 16 1 = (σ 16 1) from ((congrFun (f70 16 (of_decide_eq_true rfl)) 1).trans (congrFun (f47 16 (of_decide_eq_true rfl)) 1))))
        have z121 : (σ68 55 12).toInt = (σ 55 12).toInt := (congrArg Int32.toInt (show σ68 55 12 = (σ 55 12) from ((f71 12 (of_decide_eq_true rfl)).trans (congrFun (f47 55 (of_decide_eq_true rfl)) 12))))
        have z122 : (σ68 16 2).toInt = (σ 16 2).toInt := (congrArg Int32.toInt (show σ68 16 2 = (σ 16 2) from ((congrFun (f70 16 (of_decide_eq_true rfl)) 2).trans (congrFun (f47 16 (of_decide_eq_true rfl)) 2))))
        have z123 : (σ68 55 13).toInt = (σ 55 13).toInt := (congrArg Int32.toInt (show σ68 55 13 = (σ 55 13) from ((f71 13 (of_decide_eq_true rfl)).trans (congrFun (f47 55 (of_decide_eq_true rfl)) 13))))
        have z124 : (σ68 38 0).toInt = (σ 38 0).toInt := (congrArg Int32.toInt (show σ68 38 0 = (σ 38 0) from ((congrFun (f70 38 (of_decide_eq_true rfl)) 0).trans (congrFun (f47 38 (of_decide_eq_true rfl)) 0))))
        have z125 : (σ68 55 32).toInt = (σ 55 32).toInt := (congrArg Int32.toInt (show σ68 55 32 = (σ 55 32) from ((f71 32 (of_decide_eq_true rfl)).trans (congrFun (f47 55 (of_decide_eq_true rfl)) 32))))
        have z126 : (σ68 38 1).toInt = (σ 38 1).toInt := (congrArg Int32.toInt (show σ68 38 1 = (σ 38 1) from ((congrFun (f70 38 (of_decide_eq_true rfl)) 1).trans (congrFun (f47 38 (of_decide_eq_true rfl)) 1))))
        have z127 : (σ68 55 55).toInt = (σ 55 55).toInt := (congrArg Int32.toInt (show σ68 55 55 = (σ 55 55) from ((f71 55 (of_decide_eq_true rfl)).trans (congrFun (f47 55 (of_decide_eq_true rfl)) 55))))
        have z128 : (σ68 47 0).toInt = (σ 47 0).toInt := (congrArg Int32.toInt (show σ68 47 0 = (σ 47 0) from ((congrFun (f70 47 (of_decide_eq_true rfl)) 0).trans (congrFun (f47 47 (of_decide_eq_true rfl)) 0))))
        have z129 : (σ68 55 47).toInt = (σ 55 47).toInt := (congrArg Int32.toInt (show σ68 55 47 = (σ 55 47) from ((f71 47 (of_decide_eq_true rfl)).trans (congrFun (f47 55 (of_decide_eq_true rfl)) 47))))
        have z130 : (σ68 55 30).toInt = (σ 55 30).toInt := (congrArg Int32.toInt (show σ68 55 30 = (σ 55 30) from ((f71 30 (of_decide_eq_true rfl)).trans (congrFun (f47 55 (of_decide_eq_true rfl)) 30))))
        have z131 : (σ68 55 31).toInt = (σ 55 31).toInt := (congrArg Int32.toInt (show σ68 55 31 = (σ 55 31) from ((f71 31 (of_decide_eq_true rfl)).trans (congrFun (f47 55 (of_decide_eq_true rfl)) 31))))
        exact by exact ih x88 σ68 τ _ _ ls (by have h9 := tx88; omega) ⟨I89, I90, I91, I92, I93, I94, I95, I96, I97, I98, I99, I72, I100, I101, I102, I103, I104, I105, I106, I107, I108, I109, p110, p111, (by omega), (by omega), (by omega), (by omega), (by omega), (by omega), (by omega), (by omega), (by omega), (by omega), (by omega), (by omega), (show jNumP (σ68 3) (σ68 56) (σ68 6) (σ68 57) (σ68 7) (σ68 58) (σ68 8) (σ68 59) (σ68 55 6).toInt (σ68 55 4).toInt by rw [show σ68 3 = σ 3 from ((f70 3 (of_decide_eq_true rfl)).trans k64), show σ68 56 = σ 56 from (k86.trans (f47 56 (of_decide_eq_true rfl))), show σ68 6 = σ 6 from ((f70 6 (of_decide_eq_true rfl)).trans (f47 6 (of_decide_eq_true rfl))), show σ68 57 = σ 57 from ((f70 57 (of_decide_eq_true rfl)).trans (f47 57 (of_decide_eq_true rfl))), show σ68 7 = σ 7 from ((f70 7 (of_decide_eq_true rfl)).trans (f47 7 (of_decide_eq_true rfl))), show σ68 58 = σ 58 from ((f70 58 (of_decide_eq_true rfl)).trans (f47 58 (of_decide_eq_true rfl))), show σ68 8 = σ 8 from ((f70 8 (of_decide_eq_true rfl)).trans (f47 8 (of_decide_eq_true rfl))), show σ68 59 = σ 59 from ((f70 59 (of_decide_eq_true rfl)).trans (f47 59 (of_decide_eq_true rfl))), show (σ68 55 6).toInt = (σ 55 6).toInt from by omega, show (σ68 55 4).toInt = (σ 55 4).toInt from by omega]; exact hr0), (show jOvP (σ68 56) (σ68 57) (σ68 58) (σ68 59) (σ68 55 4).toInt by rw [show σ68 56 = σ 56 from (k86.trans (f47 56 (of_decide_eq_true rfl))), show σ68 57 = σ 57 from ((f70 57 (of_decide_eq_true rfl)).trans (f47 57 (of_decide_eq_true rfl))), show σ68 58 = σ 58 from ((f70 58 (of_decide_eq_true rfl)).trans (f47 58 (of_decide_eq_true rfl))), show σ68 59 = σ 59 from ((f70 59 (of_decide_eq_true rfl)).trans (f47 59 (of_decide_eq_true rfl))), show (σ68 55 4).toInt = (σ 55 4).toInt from by omega]; exact hr1), (show jTp (σ68 10) (σ68 63) (σ68 55 15).toInt by rw [show σ68 10 = σ 10 from ((f70 10 (of_decide_eq_true rfl)).trans (f47 10 (of_decide_eq_true rfl))), show σ68 63 = σ 63 from ((f70 63 (of_decide_eq_true rfl)).trans (f47 63 (of_decide_eq_true rfl)))]; exact hr2.le (by omega)), (show jSo (σ68 17) (σ68 62) (σ68 16 0).toInt by rw [show σ68 17 = σ 17 from ((f70 17 (of_decide_eq_true rfl)).trans (f47 17 (of_decide_eq_true rfl))), show σ68 62 = σ 62 from ((f70 62 (of_decide_eq_true rfl)).trans (f47 62 (of_decide_eq_true rfl))), show (σ68 16 0).toInt = (σ 16 0).toInt from by omega]; exact hr3), (show jShP (σ68 51) (σ68 52) (σ68 53) (σ68 86) (σ68 87) (σ68 55 32).toInt by rw [show σ68 51 = σ 51 from ((f70 51 (of_decide_eq_true rfl)).trans (f47 51 (of_decide_eq_true rfl))), show σ68 52 = σ 52 from ((f70 52 (of_decide_eq_true rfl)).trans (f47 52 (of_decide_eq_true rfl))), show σ68 53 = σ 53 from ((f70 53 (of_decide_eq_true rfl)).trans (f47 53 (of_decide_eq_true rfl))), show σ68 86 = σ 86 from ((f70 86 (of_decide_eq_true rfl)).trans (f47 86 (of_decide_eq_true rfl))), show σ68 87 = σ 87 from ((f70 87 (of_decide_eq_true rfl)).trans (f47 87 (of_decide_eq_true rfl)))]; exact (hr4.up (by omega) (by omega))), (show jEl (σ68 51) (σ68 52) (τ 54) (τ 88) by rw [show σ68 51 = σ 51 from ((f70 51 (of_decide_eq_true rfl)).trans (f47 51 (of_decide_eq_true rfl))), show σ68 52 = σ 52 from ((f70 52 (of_decide_eq_true rfl)).trans (f47 52 (of_decide_eq_true rfl)))]; exact hr5), (show jByP (σ68 51) (σ68 52) (τ 54) by rw [show σ68 51 = σ 51 from ((f70 51 (of_decide_eq_true rfl)).trans (f47 51 (of_decide_eq_true rfl))), show σ68 52 = σ 52 from ((f70 52 (of_decide_eq_true rfl)).trans (f47 52 (of_decide_eq_true rfl)))]; exact hr6), (show jBk (σ68 48) (σ68 80) (σ68 49) (σ68 81) (σ68 55 47).toInt by rw [show σ68 48 = σ 48 from ((f70 48 (of_decide_eq_true rfl)).trans (f47 48 (of_decide_eq_true rfl))), show σ68 49 = σ 49 from ((f70 49 (of_decide_eq_true rfl)).trans (f47 49 (of_decide_eq_true rfl))), show σ68 80 = σ 80 from ((f70 80 (of_decide_eq_true rfl)).trans (f47 80 (of_decide_eq_true rfl))), show σ68 81 = σ 81 from ((f70 81 (of_decide_eq_true rfl)).trans (f47 81 (of_decide_eq_true rfl))), show (σ68 55 47).toInt = (σ 55 47).toInt from by omega]; exact hr7), (show jKd (σ68 39) (σ68 70) (σ68 55 32).toInt by rw [show σ68 39 = σ 39 from ((f70 39 (of_decide_eq_true rfl)).trans (f47 39 (of_decide_eq_true rfl))), show σ68 70 = σ 70 from ((f70 70 (of_decide_eq_true rfl)).trans (f47 70 (of_decide_eq_true rfl))), show (σ68 55 32).toInt = (σ 55 32).toInt from by omega]; exact hr8), (show jTt (σ68 42) (σ68 85) (σ68 55 55).toInt by rw [show σ68 42 = σ 42 from ((f70 42 (of_decide_eq_true rfl)).trans (f47 42 (of_decide_eq_true rfl))), show σ68 85 = σ 85 from ((f70 85 (of_decide_eq_true rfl)).trans (f47 85 (of_decide_eq_true rfl))), show (σ68 55 55).toInt = (σ 55 55).toInt from by omega]; exact hr9)⟩ hP hS (lv_sub hl [0, 1, 2, 3] rfl)
    · obtain ⟨q138, k133, k134, k135, k136, k137⟩ := h83
      exact absurd (by omega : False) id
  · obtain ⟨q145, k139, k140, k141, k142, k143, k144⟩ := h60
    refine lv_pop hx hb dL_law_968 rfl ?_
    refine lv_aload_n hx hb dL_law_969 rfl (lv_at hl 1 rfl) ?_
    have I146 : jI101 σ45 := jI101_fr (congrFun (f47 55 (of_decide_eq_true rfl)) 4) (congrFun (f47 55 (of_decide_eq_true rfl)) 5) (f47 56 (of_decide_eq_true rfl)) (f47 57 (of_decide_eq_true rfl)) (f47 58 (of_decide_eq_true rfl)) (f47 59 (of_decide_eq_true rfl)) hI101
    have z147 : (σ45 55 5).toInt = (σ 55 5).toInt := (congrArg Int32.toInt (show σ45 55 5 = (σ 55 5) from (congrFun (f47 55 (of_decide_eq_true rfl)) 5)))
    refine jcallV (As := []) (rest := []) ⟨hx, hb, hml, hown, hts⟩ hK hP hA hS hZ (c_X12_undo l D cI cL ad zz hJ σ45 τ I146) cw_RL_124 (jc_55 cI cL ad σ45 τ) rfl ⟨Nat.le_of_ble_eq_true rfl, Nat.le_of_ble_eq_true rfl⟩ rfl rfl rfl hl.1 rfl (Nat.le_of_ble_eq_true rfl) dL_law_970 ⟨Nat.le_of_ble_eq_true rfl, Nat.le_of_ble_eq_true rfl⟩ (fun r149 σ148 τ148 H locs h148 hP hS => ?_)
    obtain ⟨rfl, f150, f151, I152, h148⟩ := h148
    obtain ⟨i154, i155, i156, w157, w158, w159, w160⟩ : (0 ≤ (σ148 55 5).toInt) ∧ ((σ148 55 5).toInt ≤ (σ148 55 4).toInt) ∧ ((σ148 55 4).toInt ≤ 40) ∧ (∀ k : Nat, k < 68 → (-200) ≤ (σ148 56 k).toInt ∧ (σ148 56 k).toInt ≤ 500) ∧ (∀ k : Nat, k < 40 → 0 ≤ (σ148 57 k).toInt ∧ (σ148 57 k).toInt ≤ 67) ∧ (∀ k : Nat, k < 40 → (-200) ≤ (σ148 58 k).toInt ∧ (σ148 58 k).toInt ≤ 500) ∧ (∀ k : Nat, k < 40 → (-200) ≤ (σ148 59 k).toInt ∧ (σ148 59 k).toInt ≤ 500) := id I152
    have z161 : (σ148 55 4).toInt = (σ 55 4).toInt := (congrArg Int32.toInt (show σ148 55 4 = (σ 55 4) from ((f151 4 (of_decide_eq_true rfl)).trans (congrFun (f47 55 (of_decide_eq_true rfl)) 4))))
    rcases h148 with h162 | h163
    · obtain ⟨q167, k164, k165, k166⟩ := h162
      exact absurd (by omega : False) id
    · obtain ⟨q173, k168, k169, k170, k171, k172⟩ := h163
      refine lv_pop hx hb dL_law_973 rfl ?_
      refine lv_goto (tgt := 1357) hx hb dL_law_974 (of_decide_eq_true rfl) ?_
      obtain ⟨x174, ex174⟩ : ∃ y : Int32, y = x0 + 6 := ⟨_, rfl⟩
      exact by
       have tx174 : x174.toInt = x0.toInt + 6 := (jadd ex174 rfl jz_6 (by omega) (by omega)).trans (by omega)
       refine lv_iinc (v := x174) (lv' := [(3, .int x174), (2, .ref (ad 55)), (1, .ref (ad 0)), (0, .ref b)]) hx hb dL_law_1357 hl (k := 0) rfl (by rw [ex174]; rfl) (of_decide_eq_true rfl) rfl (fun ls hl => ?_)
       refine lv_goto (tgt := 18) hx hb dL_law_1360 (of_decide_eq_true rfl) ?_
       have I175 : jI2 σ148 := jI2_fr (congrFun (f150 2 (of_decide_eq_true rfl)) 0) (congrFun (f150 2 (of_decide_eq_true rfl)) 1) (congrFun (f150 2 (of_decide_eq_true rfl)) 2) (congrFun (f150 2 (of_decide_eq_true rfl)) 3) (f150 6 (of_decide_eq_true rfl)) I49
       have I176 : jI9 σ148 := jI9_fr ((congrFun (f150 9 (of_decide_eq_true rfl)) 0).trans (congrFun (f47 9 (of_decide_eq_true rfl)) 0)) ((f150 10 (of_decide_eq_true rfl)).trans (f47 10 (of_decide_eq_true rfl))) ((f150 11 (of_decide_eq_true rfl)).trans (f47 11 (of_decide_eq_true rfl))) hI9
       have I177 : jI12 σ148 := jI12_fr ((congrFun (f150 12 (of_decide_eq_true rfl)) 0).trans (congrFun (f47 12 (of_decide_eq_true rfl)) 0)) ((f150 13 (of_decide_eq_true rfl)).trans (f47 13 (of_decide_eq_true rfl))) hI12
       have I178 : jI16 σ148 := jI16_fr ((congrFun (f150 16 (of_decide_eq_true rfl)) 0).trans (congrFun (f47 16 (of_decide_eq_true rfl)) 0)) ((congrFun (f150 16 (of_decide_eq_true rfl)) 1).trans (congrFun (f47 16 (of_decide_eq_true rfl)) 1)) ((congrFun (f150 16 (of_decide_eq_true rfl)) 2).trans (congrFun (f47 16 (of_decide_eq_true rfl)) 2)) ((f150 17 (of_decide_eq_true rfl)).trans (f47 17 (of_decide_eq_true rfl))) hI16
       have I179 : jI18 σ148 := jI18_fr ((congrFun (f150 18 (of_decide_eq_true rfl)) 0).trans (congrFun (f47 18 (of_decide_eq_true rfl)) 0)) ((f150 19 (of_decide_eq_true rfl)).trans (f47 19 (of_decide_eq_true rfl))) hI18
       have I180 : jI22 σ148 := jI22_fr ((congrFun (f150 22 (of_decide_eq_true rfl)) 0).trans (congrFun (f47 22 (of_decide_eq_true rfl)) 0)) ((f150 23 (of_decide_eq_true rfl)).trans (f47 23 (of_decide_eq_true rfl))) hI22
       exact by
        have I181 : jI31 σ148 := jI31_fr ((congrFun (f150 31 (of_decide_eq_true rfl)) 8).trans (congrFun (f47 31 (of_decide_eq_true rfl)) 8)) ((f150 33 (of_decide_eq_true rfl)).trans (f47 33 (of_decide_eq_true rfl))) ((f150 36 (of_decide_eq_true rfl)).trans (f47 36 (of_decide_eq_true rfl))) hI31
        have I182 : jI38 σ148 := jI38_fr ((congrFun (f150 38 (of_decide_eq_true rfl)) 0).trans (congrFun (f47 38 (of_decide_eq_true rfl)) 0)) ((congrFun (f150 38 (of_decide_eq_true rfl)) 1).trans (congrFun (f47 38 (of_decide_eq_true rfl)) 1)) ((f150 39 (of_decide_eq_true rfl)).trans (f47 39 (of_decide_eq_true rfl))) hI38
        have I183 : jI43 σ148 := jI43_fr ((congrFun (f150 43 (of_decide_eq_true rfl)) 8).trans (congrFun (f47 43 (of_decide_eq_true rfl)) 8)) hI43
        have I184 : jI47 σ148 := jI47_fr ((congrFun (f150 47 (of_decide_eq_true rfl)) 0).trans (congrFun (f47 47 (of_decide_eq_true rfl)) 0)) ((f150 48 (of_decide_eq_true rfl)).trans (f47 48 (of_decide_eq_true rfl))) ((f150 49 (of_decide_eq_true rfl)).trans (f47 49 (of_decide_eq_true rfl))) hI47
        have I185 : jI50 σ148 := jI50_fr ((f150 52 (of_decide_eq_true rfl)).trans (f47 52 (of_decide_eq_true rfl))) hI50
        have I186 : jI102 σ148 := jI102_fr ((f151 6 (of_decide_eq_true rfl)).trans (congrFun (f47 55 (of_decide_eq_true rfl)) 6)) ((f150 60 (of_decide_eq_true rfl)).trans (f47 60 (of_decide_eq_true rfl))) ((f150 61 (of_decide_eq_true rfl)).trans (f47 61 (of_decide_eq_true rfl))) hI102
        have I187 : jI103 σ148 := jI103_fr ((f151 9 (of_decide_eq_true rfl)).trans (congrFun (f47 55 (of_decide_eq_true rfl)) 9)) hI103
        have I188 : jI104 σ148 := jI104_fr ((f151 10 (of_decide_eq_true rfl)).trans (congrFun (f47 55 (of_decide_eq_true rfl)) 10)) ((f151 12 (of_decide_eq_true rfl)).trans (congrFun (f47 55 (of_decide_eq_true rfl)) 12)) ((f151 13 (of_decide_eq_true rfl)).trans (congrFun (f47 55 (of_decide_eq_true rfl)) 13)) ((f150 62 (of_decide_eq_true rfl)).trans (f47 62 (of_decide_eq_true rfl))) ((f150 67 (of_decide_eq_true rfl)).trans (f47 67 (of_decide_eq_true rfl))) hI104
        have I189 : jI105 σ148 := jI105_fr ((f151 15 (of_decide_eq_true rfl)).trans (congrFun (f47 55 (of_decide_eq_true rfl)) 15)) ((f150 65 (of_decide_eq_true rfl)).trans (f47 65 (of_decide_eq_true rfl))) hI105
        have I190 : jI106 σ148 := jI106_fr ((f151 32 (of_decide_eq_true rfl)).trans (congrFun (f47 55 (of_decide_eq_true rfl)) 32)) ((f150 70 (of_decide_eq_true rfl)).trans (f47 70 (of_decide_eq_true rfl))) ((f150 71 (of_decide_eq_true rfl)).trans (f47 71 (of_decide_eq_true rfl))) ((f150 72 (of_decide_eq_true rfl)).trans (f47 72 (of_decide_eq_true rfl))) hI106
        have I191 : jI107 σ148 := jI107_fr ((f151 12 (of_decide_eq_true rfl)).trans (congrFun (f47 55 (of_decide_eq_true rfl)) 12)) ((f151 47 (of_decide_eq_true rfl)).trans (congrFun (f47 55 (of_decide_eq_true rfl)) 47)) ((f150 80 (of_decide_eq_true rfl)).trans (f47 80 (of_decide_eq_true rfl))) hI107
        have I192 : jI109 σ148 := jI109_fr ((f151 50 (of_decide_eq_true rfl)).trans (congrFun (f47 55 (of_decide_eq_true rfl)) 50)) hI109
        have I193 : jI110 σ148 := jI110_fr ((f150 86 (of_decide_eq_true rfl)).trans (f47 86 (of_decide_eq_true rfl))) ((f150 87 (of_decide_eq_true rfl)).trans (f47 87 (of_decide_eq_true rfl))) hI110
        have I194 : jI111 σ148 := jI111_fr ((f150 79 (of_decide_eq_true rfl)).trans (f47 79 (of_decide_eq_true rfl))) hI111
        have I195 : jI119 σ148 := jI119_fr ((f150 68 (of_decide_eq_true rfl)).trans (f47 68 (of_decide_eq_true rfl))) hI119
        have p196 : jKept σ148 := jKept.fr ((f150 75 (of_decide_eq_true rfl)).trans (f47 75 (of_decide_eq_true rfl))) ((f150 76 (of_decide_eq_true rfl)).trans (f47 76 (of_decide_eq_true rfl))) ((f150 77 (of_decide_eq_true rfl)).trans (f47 77 (of_decide_eq_true rfl))) hs_jKept
        have p197 : jBook σ148 := jBook.fr ((f151 47 (of_decide_eq_true rfl)).trans (congrFun (f47 55 (of_decide_eq_true rfl)) 47)) ((f151 10 (of_decide_eq_true rfl)).trans (congrFun (f47 55 (of_decide_eq_true rfl)) 10)) ((f150 81 (of_decide_eq_true rfl)).trans (f47 81 (of_decide_eq_true rfl))) hs_jBook
        have z198 : (σ148 2 0).toInt = (σ 2 0).toInt := (congrArg Int32.toInt (show σ148 2 0 = (σ 2 0) from ((congrFun (f150 2 (of_decide_eq_true rfl)) 0).trans (f48 0 (of_decide_eq_true rfl)))))
        have z199 : (σ148 55 6).toInt = (σ 55 6).toInt := (congrArg Int32.toInt (show σ148 55 6 = (σ 55 6) from ((f151 6 (of_decide_eq_true rfl)).trans (congrFun (f47 55 (of_decide_eq_true rfl)) 6))))
        have z200 : (σ148 2 2).toInt = (σ45 2 2).toInt := (congrArg Int32.toInt (show σ148 2 2 = (σ45 2 2) from (congrFun (f150 2 (of_decide_eq_true rfl)) 2)))
        have z201 : (σ148 2 3).toInt = (σ45 2 3).toInt := (congrArg Int32.toInt (show σ148 2 3 = (σ45 2 3) from (congrFun (f150 2 (of_decide_eq_true rfl)) 3)))
        have z202 : (σ148 9 0).toInt = (σ 9 0).toInt := (congrArg Int32.toInt (show σ148 9 0 = (σ 9 0) from ((congrFun (f150 9 (of_decide_eq_true rfl)) 0).trans (congrFun (f47 9 (of_decide_eq_true rfl)) 0))))
        have z203 : (σ148 55 15).toInt = (σ 55 15).toInt := (congrArg Int32.toInt (show σ148 55 15 = (σ 55 15) from ((f151 15 (of_decide_eq_true rfl)).trans (congrFun (f47 55 (of_decide_eq_true rfl)) 15))))
        have z204 : (σ148 16 0).toInt = (σ 16 0).toInt := (congrArg Int32.toInt (show σ148 16 0 = (σ 16 0) from ((congrFun (f150 16 (of_decide_eq_true rfl)) 0).trans (congrFun (f47 16 (of_decide_eq_true rfl)) 0))))
        have z205 : (σ148 55 10).toInt = (σ 55 10).toInt := (congrArg Int32.toInt (show σ148 55 10 = (σ 55 10) from ((f151 10 (of_decide_eq_true rfl)).trans (congrFun (f47 55 (of_decide_eq_true rfl)) 10))))
        have z206 : (σ148 16 1).toInt = (σ 16 1).toInt := (congrArg Int32.toInt (show σ148 16 1 = (σ 16 1) from ((congrFun (f150 16 (of_decide_eq_true rfl)) 1).trans (congrFun (f47 16 (of_decide_eq_true rfl)) 1))))
        have z207 : (σ148 55 12).toInt = (σ 55 12).toInt := (congrArg Int32.toInt (show σ148 55 12 = (σ 55 12) from ((f151 12 (of_decide_eq_true rfl)).trans (congrFun (f47 55 (of_decide_eq_true rfl)) 12))))
        have z208 : (σ148 16 2).toInt = (σ 16 2).toInt := (congrArg Int32.toInt (show σ148 16 2 = (σ 16 2) from ((congrFun (f150 16 (of_decide_eq_true rfl)) 2).trans (congrFun (f47 16 (of_decide_eq_true rfl)) 2))))
        have z209 : (σ148 55 13).toInt = (σ 55 13).toInt := (congrArg Int32.toInt (show σ148 55 13 = (σ 55 13) from ((f151 13 (of_decide_eq_true rfl)).trans (congrFun (f47 55 (of_decide_eq_true rfl)) 13))))
        have z210 : (σ148 38 0).toInt = (σ 38 0).toInt := (congrArg Int32.toInt (show σ148 38 0 = (σ 38 0) from ((congrFun (f150 38 (of_decide_eq_true rfl)) 0).trans (congrFun (f47 38 (of_decide_eq_true rfl)) 0))))
        have z211 : (σ148 55 32).toInt = (σ 55 32).toInt := (congrArg Int32.toInt (show σ148 55 32 = (σ 55 32) from ((f151 32 (of_decide_eq_true rfl)).trans (congrFun (f47 55 (of_decide_eq_true rfl)) 32))))
        have z212 : (σ148 38 1).toInt = (σ 38 1).toInt := (congrArg Int32.toInt (show σ148 38 1 = (σ 38 1) from ((congrFun (f150 38 (of_decide_eq_true rfl)) 1).trans (congrFun (f47 38 (of_decide_eq_true rfl)) 1))))
        have z213 : (σ148 55 55).toInt = (σ 55 55).toInt := (congrArg Int32.toInt (show σ148 55 55 = (σ 55 55) from ((f151 55 (of_decide_eq_true rfl)).trans (congrFun (f47 55 (of_decide_eq_true rfl)) 55))))
        have z214 : (σ148 47 0).toInt = (σ 47 0).toInt := (congrArg Int32.toInt (show σ148 47 0 = (σ 47 0) from ((congrFun (f150 47 (of_decide_eq_true rfl)) 0).trans (congrFun (f47 47 (of_decide_eq_true rfl)) 0))))
        have z215 : (σ148 55 47).toInt = (σ 55 47).toInt := (congrArg Int32.toInt (show σ148 55 47 = (σ 55 47) from ((f151 47 (of_decide_eq_true rfl)).trans (congrFun (f47 55 (of_decide_eq_true rfl)) 47))))
        have z216 : (σ148 55 30).toInt = (σ 55 30).toInt := (congrArg Int32.toInt (show σ148 55 30 = (σ 55 30) from ((f151 30 (of_decide_eq_true rfl)).trans (congrFun (f47 55 (of_decide_eq_true rfl)) 30))))
        have z217 : (σ148 55 31).toInt = (σ 55 31).toInt := (congrArg Int32.toInt (show σ148 55 31 = (σ 55 31) from ((f151 31 (of_decide_eq_true rfl)).trans (congrFun (f47 55 (of_decide_eq_true rfl)) 31))))
        rw [show r46.toInt = ((σ 55 5).toInt - 1) from by omega] at k144
        rw [show r149.toInt = ((σ 55 5).toInt - 1) from by omega, show σ45 56 = σ 56 from (f47 56 (of_decide_eq_true rfl)), show σ45 57 = σ 57 from (f47 57 (of_decide_eq_true rfl)), show σ45 58 = σ 58 from (f47 58 (of_decide_eq_true rfl))] at k172
        exact by
         have p218 := hr0.back (by omega) (by omega) k144 k172
         exact by exact ih x174 σ148 τ _ _ ls (by have h9 := tx174; omega) ⟨I175, I176, I177, I178, I179, I180, I181, I182, I183, I184, I185, I152, I186, I187, I188, I189, I190, I191, I192, I193, I194, I195, p196, p197, (by omega), (by omega), (by omega), (by omega), (by omega), (by omega), (by omega), (by omega), (by omega), (by omega), (by omega), (by omega), (show jNumP (σ148 3) (σ148 56) (σ148 6) (σ148 57) (σ148 7) (σ148 58) (σ148 8) (σ148 59) (σ148 55 6).toInt (σ148 55 4).toInt by rw [show σ148 3 = σ45 3 from (f150 3 (of_decide_eq_true rfl)), show σ148 6 = σ 6 from ((f150 6 (of_decide_eq_true rfl)).trans (f47 6 (of_decide_eq_true rfl))), show σ148 57 = σ 57 from ((f150 57 (of_decide_eq_true rfl)).trans (f47 57 (of_decide_eq_true rfl))), show σ148 7 = σ 7 from ((f150 7 (of_decide_eq_true rfl)).trans (f47 7 (of_decide_eq_true rfl))), show σ148 58 = σ 58 from ((f150 58 (of_decide_eq_true rfl)).trans (f47 58 (of_decide_eq_true rfl))), show σ148 8 = σ 8 from ((f150 8 (of_decide_eq_true rfl)).trans (f47 8 (of_decide_eq_true rfl))), show σ148 59 = σ 59 from ((f150 59 (of_decide_eq_true rfl)).trans (f47 59 (of_decide_eq_true rfl))), show (σ148 55 6).toInt = (σ 55 6).toInt from by omega, show (σ148 55 4).toInt = (σ 55 4).toInt from by omega]; exact p218), (show jOvP (σ148 56) (σ148 57) (σ148 58) (σ148 59) (σ148 55 4).toInt by rw [show σ148 57 = σ 57 from ((f150 57 (of_decide_eq_true rfl)).trans (f47 57 (of_decide_eq_true rfl))), show σ148 58 = σ 58 from ((f150 58 (of_decide_eq_true rfl)).trans (f47 58 (of_decide_eq_true rfl))), show σ148 59 = σ 59 from ((f150 59 (of_decide_eq_true rfl)).trans (f47 59 (of_decide_eq_true rfl))), show (σ148 55 4).toInt = (σ 55 4).toInt from by omega]; exact (hr1.back (by omega) (by omega) ((hr0.2.2 (((σ 55 5).toInt - 1)).toNat (by omega)).2.1.1) k172)), (show jTp (σ148 10) (σ148 63) (σ148 55 15).toInt by rw [show σ148 10 = σ 10 from ((f150 10 (of_decide_eq_true rfl)).trans (f47 10 (of_decide_eq_true rfl))), show σ148 63 = σ 63 from ((f150 63 (of_decide_eq_true rfl)).trans (f47 63 (of_decide_eq_true rfl)))]; exact hr2.le (by omega)), (show jSo (σ148 17) (σ148 62) (σ148 16 0).toInt by rw [show σ148 17 = σ 17 from ((f150 17 (of_decide_eq_true rfl)).trans (f47 17 (of_decide_eq_true rfl))), show σ148 62 = σ 62 from ((f150 62 (of_decide_eq_true rfl)).trans (f47 62 (of_decide_eq_true rfl))), show (σ148 16 0).toInt = (σ 16 0).toInt from by omega]; exact hr3), (show jShP (σ148 51) (σ148 52) (σ148 53) (σ148 86) (σ148 87) (σ148 55 32).toInt by rw [show σ148 51 = σ 51 from ((f150 51 (of_decide_eq_true rfl)).trans (f47 51 (of_decide_eq_true rfl))), show σ148 52 = σ 52 from ((f150 52 (of_decide_eq_true rfl)).trans (f47 52 (of_decide_eq_true rfl))), show σ148 53 = σ 53 from ((f150 53 (of_decide_eq_true rfl)).trans (f47 53 (of_decide_eq_true rfl))), show σ148 86 = σ 86 from ((f150 86 (of_decide_eq_true rfl)).trans (f47 86 (of_decide_eq_true rfl))), show σ148 87 = σ 87 from ((f150 87 (of_decide_eq_true rfl)).trans (f47 87 (of_decide_eq_true rfl)))]; exact (hr4.up (by omega) (by omega))), (show jEl (σ148 51) (σ148 52) (τ 54) (τ 88) by rw [show σ148 51 = σ 51 from ((f150 51 (of_decide_eq_true rfl)).trans (f47 51 (of_decide_eq_true rfl))), show σ148 52 = σ 52 from ((f150 52 (of_decide_eq_true rfl)).trans (f47 52 (of_decide_eq_true rfl)))]; exact hr5), (show jByP (σ148 51) (σ148 52) (τ 54) by rw [show σ148 51 = σ 51 from ((f150 51 (of_decide_eq_true rfl)).trans (f47 51 (of_decide_eq_true rfl))), show σ148 52 = σ 52 from ((f150 52 (of_decide_eq_true rfl)).trans (f47 52 (of_decide_eq_true rfl)))]; exact hr6), (show jBk (σ148 48) (σ148 80) (σ148 49) (σ148 81) (σ148 55 47).toInt by rw [show σ148 48 = σ 48 from ((f150 48 (of_decide_eq_true rfl)).trans (f47 48 (of_decide_eq_true rfl))), show σ148 49 = σ 49 from ((f150 49 (of_decide_eq_true rfl)).trans (f47 49 (of_decide_eq_true rfl))), show σ148 80 = σ 80 from ((f150 80 (of_decide_eq_true rfl)).trans (f47 80 (of_decide_eq_true rfl))), show σ148 81 = σ 81 from ((f150 81 (of_decide_eq_true rfl)).trans (f47 81 (of_decide_eq_true rfl))), show (σ148 55 47).toInt = (σ 55 47).toInt from by omega]; exact hr7), (show jKd (σ148 39) (σ148 70) (σ148 55 32).toInt by rw [show σ148 39 = σ 39 from ((f150 39 (of_decide_eq_true rfl)).trans (f47 39 (of_decide_eq_true rfl))), show σ148 70 = σ 70 from ((f150 70 (of_decide_eq_true rfl)).trans (f47 70 (of_decide_eq_true rfl))), show (σ148 55 32).toInt = (σ 55 32).toInt from by omega]; exact hr8), (show jTt (σ148 42) (σ148 85) (σ148 55 55).toInt by rw [show σ148 42 = σ 42 from ((f150 42 (of_decide_eq_true rfl)).trans (f47 42 (of_decide_eq_true rfl))), show σ148 85 = σ 85 from ((f150 85 (of_decide_eq_true rfl)).trans (f47 85 (of_decide_eq_true rfl))), show (σ148 55 55).toInt = (σ 55 55).toInt from by omega]; exact hr9)⟩ hP hS (lv_sub hl [0, 1, 2, 3] rfl)
set_option maxHeartbeats 4000000 in
set_option maxRecDepth 100000 in
theorem law_case_27 {p : Program} {e : Env} {s : State} {m : MethodId} {below : List Frame} {meth : Method} {c : Code} (l : Launch) {b L : Nat} {xs : Nat → Int32} {D : va_G} {cI cL : ClassId} {ad zz : Nat → Nat} (C0 : lw_At p s m meth c b L xs) (hJ : jD ad) (hA : ∀ q, jA ad q → s.heap.size ≤ q) (hK : jK D cI cL s) (hZ : jZ zz (fun q : Nat => s.heap.size ≤ q) s s.heap) {x0 : Int32} (hx0 : 0 ≤ x0.toInt) (hxL : x0.toInt + 6 ≤ (L : Int)) (hL : L ≤ 384) {σ : Nat → Nat → Int32} {τ : Nat → Nat → Int64} {H : Heap} {locs : List Loc} (hS : va_S (fun q : Nat => s.heap.size ≤ q) s.heap H locs) {ls : Array Slot} (hAll : jAll σ τ) (hP : jH D cI cL ad σ τ H) (hl : lv_has ls 4 [(3, .int x0), (2, .ref (ad 55)), (1, .ref (ad 0)), (0, .ref b)]) (ih : ∀ (x1 : Int32) (σ : Nat → Nat → Int32) (τ : Nat → Nat → Int64) (H : Heap) (locs : List Loc) (ls : Array Slot), x1.toInt = x0.toInt + 6 → jAll σ τ → jH D cI cL ad σ τ H → va_S (fun q : Nat => s.heap.size ≤ q) s.heap H locs → lv_has ls 4 [(3, .int x1), (2, .ref (ad 55)), (1, .ref (ad 0)), (0, .ref b)] → W p l e room_1 s m #[Value.ref b] below meth c H locs 90 348600 (lw_Z below #[Value.ref b] s) (F0 m 18 ls [])) : W p l e room_1 s m #[Value.ref b] below meth c H locs 90 348600 (lw_Z below #[Value.ref b] s) (F0 m 977 ls []) := by
  obtain ⟨hx, hb, hr, hml, hown, hts0, hX, hbl, hlocks, hgv⟩ := C0
  have hts : ∀ w ∈ wsL_law, w.before #[Value.ref b] s = true := fun w h => hts0 w (wsL_law_in w h)
  have hbA : ¬ (fun q : Nat => s.heap.size ≤ q) b := Nat.not_le.mpr hbl
  have hown : s.vm.findClass RL = some m.cls := hown
  obtain ⟨hI2, hI9, hI12, hI16, hI18, hI22, hI31, hI38, hI43, hI47, hI50, hI101, hI102, hI103, hI104, hI105, hI106, hI107, hI109, hI110, hI111, hI119, hs_jKept, hs_jBook, ht0, ht1, ht2, ht3, ht4, ht5, ht6, ht7, ht8, ht9, ht10, ht11, hr0, hr1, hr2, hr3, hr4, hr5, hr6, hr7, hr8, hr9⟩ := hAll
  have hL9 : (L : Int) ≤ 384 := by omega
  obtain ⟨i1, i2, i3, i4, i5, w6⟩ : (0 ≤ (σ 2 0).toInt ∧ (σ 2 0).toInt ≤ 4) ∧ (0 ≤ (σ 2 1).toInt ∧ (σ 2 1).toInt ≤ 3) ∧ (0 ≤ (σ 2 2).toInt) ∧ (0 ≤ (σ 2 3).toInt) ∧ ((σ 2 2).toInt + (σ 2 3).toInt ≤ 40) ∧ (∀ k : Nat, k < 40 → 0 ≤ (σ 6 k).toInt ∧ (σ 6 k).toInt ≤ 67) := id hI2
  obtain ⟨i7, w8, w9⟩ : (0 ≤ (σ 9 0).toInt ∧ (σ 9 0).toInt ≤ 80) ∧ (∀ k : Nat, k < 80 → 0 ≤ (σ 10 k).toInt ∧ (σ 10 k).toInt ≤ 255) ∧ (∀ k : Nat, k < 8 → 0 ≤ (σ 11 k).toInt ∧ (σ 11 k).toInt ≤ 3) := id hI9
  obtain ⟨i10, i11, i12, w13⟩ : (1 ≤ (σ 16 0).toInt ∧ (σ 16 0).toInt ≤ 8) ∧ (1 ≤ (σ 16 1).toInt ∧ (σ 16 1).toInt ≤ 12) ∧ (0 ≤ (σ 16 2).toInt ∧ (σ 16 2).toInt ≤ 999) ∧ (∀ k : Nat, k < 8 → 0 ≤ (σ 17 k).toInt ∧ (σ 17 k).toInt ≤ 3) := id hI16
  obtain ⟨i14, i15, w16⟩ : (0 ≤ (σ 38 0).toInt ∧ (σ 38 0).toInt ≤ 20) ∧ (0 ≤ (σ 38 1).toInt ∧ (σ 38 1).toInt ≤ 1000) ∧ (∀ k : Nat, k < 20 → 0 ≤ (σ 39 k).toInt ∧ (σ 39 k).toInt ≤ 6) := id hI38
  obtain ⟨i17, w18, w19⟩ : (0 ≤ (σ 47 0).toInt ∧ (σ 47 0).toInt ≤ 12) ∧ (∀ k : Nat, k < 12 → 0 ≤ (σ 48 k).toInt ∧ (σ 48 k).toInt ≤ 3) ∧ (∀ k : Nat, k < 12 → 0 ≤ (σ 49 k).toInt ∧ (σ 49 k).toInt ≤ 1) := id hI47
  have w20 : ∀ k : Nat, k < 6 → 0 ≤ (σ 52 k).toInt ∧ (σ 52 k).toInt ≤ 60 := hI50
  obtain ⟨i21, i22, i23, w24, w25, w26, w27⟩ : (0 ≤ (σ 55 5).toInt) ∧ ((σ 55 5).toInt ≤ (σ 55 4).toInt) ∧ ((σ 55 4).toInt ≤ 40) ∧ (∀ k : Nat, k < 68 → (-200) ≤ (σ 56 k).toInt ∧ (σ 56 k).toInt ≤ 500) ∧ (∀ k : Nat, k < 40 → 0 ≤ (σ 57 k).toInt ∧ (σ 57 k).toInt ≤ 67) ∧ (∀ k : Nat, k < 40 → (-200) ≤ (σ 58 k).toInt ∧ (σ 58 k).toInt ≤ 500) ∧ (∀ k : Nat, k < 40 → (-200) ≤ (σ 59 k).toInt ∧ (σ 59 k).toInt ≤ 500) := id hI101
  obtain ⟨i28, w29, w30⟩ : (0 ≤ (σ 55 6).toInt ∧ (σ 55 6).toInt ≤ 4) ∧ (∀ k : Nat, k < 4 → 0 ≤ (σ 60 k).toInt ∧ (σ 60 k).toInt ≤ 50) ∧ (∀ k : Nat, k < 4 → 0 ≤ (σ 61 k).toInt ∧ (σ 61 k).toInt ≤ 20) := id hI102
  obtain ⟨i31, i32, i33, w34, w35⟩ : (1 ≤ (σ 55 10).toInt ∧ (σ 55 10).toInt ≤ 8) ∧ (1 ≤ (σ 55 12).toInt ∧ (σ 55 12).toInt ≤ 12) ∧ (0 ≤ (σ 55 13).toInt ∧ (σ 55 13).toInt ≤ 999) ∧ (∀ k : Nat, k < 8 → 0 ≤ (σ 62 k).toInt ∧ (σ 62 k).toInt ≤ 3) ∧ (∀ k : Nat, k < 8 → 0 ≤ (σ 67 k).toInt ∧ (σ 67 k).toInt ≤ 3) := id hI104
  obtain ⟨i36, w37⟩ : (0 ≤ (σ 55 15).toInt ∧ (σ 55 15).toInt ≤ 80) ∧ (∀ k : Nat, k < 2 → (-1) ≤ (σ 65 k).toInt ∧ (σ 65 k).toInt ≤ 80) := id hI105
  obtain ⟨i38, w39, w40, w41⟩ : (0 ≤ (σ 55 32).toInt ∧ (σ 55 32).toInt ≤ 20) ∧ (∀ k : Nat, k < 20 → 0 ≤ (σ 70 k).toInt ∧ (σ 70 k).toInt ≤ 6) ∧ (∀ k : Nat, k < 20 → 0 ≤ (σ 71 k).toInt ∧ (σ 71 k).toInt ≤ 8) ∧ (∀ k : Nat, k < 160 → 0 ≤ (σ 72 k).toInt ∧ (σ 72 k).toInt ≤ 3) := id hI106
  obtain ⟨i42, i43, w44⟩ : (0 ≤ (σ 55 47).toInt ∧ (σ 55 47).toInt ≤ 12) ∧ ((σ 55 47).toInt ≤ (σ 55 12).toInt) ∧ (∀ k : Nat, k < 12 → 0 ≤ (σ 80 k).toInt ∧ (σ 80 k).toInt ≤ 3) := id hI107
  refine lv_aload_n hx hb dL_law_977 rfl (lv_at hl 2 rfl) ?_
  refine jcallV (As := []) (rest := []) ⟨hx, hb, hml, hown, hts⟩ hK hP hA hS hZ (c_X11_redo l D cI cL ad zz hJ σ τ hI2) cw_RL_125 (jc_0 cI cL ad σ τ) rfl ⟨Nat.le_of_ble_eq_true rfl, Nat.le_of_ble_eq_true rfl⟩ rfl rfl rfl hl.1 rfl (Nat.le_of_ble_eq_true rfl) dL_law_978 ⟨Nat.le_of_ble_eq_true rfl, Nat.le_of_ble_eq_true rfl⟩ (fun r46 σ45 τ45 H locs h45 hP hS => ?_)
  obtain ⟨rfl, f47, f48, I49, h45⟩ := h45
  obtain ⟨i51, i52, i53, i54, i55, w56⟩ : (0 ≤ (σ45 2 0).toInt ∧ (σ45 2 0).toInt ≤ 4) ∧ (0 ≤ (σ45 2 1).toInt ∧ (σ45 2 1).toInt ≤ 3) ∧ (0 ≤ (σ45 2 2).toInt) ∧ (0 ≤ (σ45 2 3).toInt) ∧ ((σ45 2 2).toInt + (σ45 2 3).toInt ≤ 40) ∧ (∀ k : Nat, k < 40 → 0 ≤ (σ45 6 k).toInt ∧ (σ45 6 k).toInt ≤ 67) := id I49
  have z57 : (σ45 2 0).toInt = (σ 2 0).toInt := (congrArg Int32.toInt (show σ45 2 0 = (σ 2 0) from (f48 0 (of_decide_eq_true rfl))))
  have z58 : (σ45 2 1).toInt = (σ 2 1).toInt := (congrArg Int32.toInt (show σ45 2 1 = (σ 2 1) from (f48 1 (of_decide_eq_true rfl))))
  rcases h45 with h59 | h60
  · obtain ⟨q65, k61, k62, k63, k64⟩ := h59
    have q65 := q65.symm
    subst q65
    refine lv_pop hx hb dL_law_981 rfl ?_
    refine lv_aload_n hx hb dL_law_982 rfl (lv_at hl 1 rfl) ?_
    have I66 : jI101 σ45 := jI101_fr (congrFun (f47 55 (of_decide_eq_true rfl)) 4) (congrFun (f47 55 (of_decide_eq_true rfl)) 5) (f47 56 (of_decide_eq_true rfl)) (f47 57 (of_decide_eq_true rfl)) (f47 58 (of_decide_eq_true rfl)) (f47 59 (of_decide_eq_true rfl)) hI101
    have z67 : (σ45 55 5).toInt = (σ 55 5).toInt := (congrArg Int32.toInt (show σ45 55 5 = (σ 55 5) from (congrFun (f47 55 (of_decide_eq_true rfl)) 5)))
    have z68 : (σ45 55 4).toInt = (σ 55 4).toInt := (congrArg Int32.toInt (show σ45 55 4 = (σ 55 4) from (congrFun (f47 55 (of_decide_eq_true rfl)) 4)))
    refine jcallV (As := []) (rest := []) ⟨hx, hb, hml, hown, hts⟩ hK hP hA hS hZ (c_X12_redo l D cI cL ad zz hJ σ45 τ I66) cw_RL_128 (jc_55 cI cL ad σ45 τ) rfl ⟨Nat.le_of_ble_eq_true rfl, Nat.le_of_ble_eq_true rfl⟩ rfl rfl rfl hl.1 rfl (Nat.le_of_ble_eq_true rfl) dL_law_983 ⟨Nat.le_of_ble_eq_true rfl, Nat.le_of_ble_eq_true rfl⟩ (fun r70 σ69 τ69 H locs h69 hP hS => ?_)
    obtain ⟨rfl, f71, f72, I73, h69⟩ := h69
    obtain ⟨i75, i76, i77, w78, w79, w80, w81⟩ : (0 ≤ (σ69 55 5).toInt) ∧ ((σ69 55 5).toInt ≤ (σ69 55 4).toInt) ∧ ((σ69 55 4).toInt ≤ 40) ∧ (∀ k : Nat, k < 68 → (-200) ≤ (σ69 56 k).toInt ∧ (σ69 56 k).toInt ≤ 500) ∧ (∀ k : Nat, k < 40 → 0 ≤ (σ69 57 k).toInt ∧ (σ69 57 k).toInt ≤ 67) ∧ (∀ k : Nat, k < 40 → (-200) ≤ (σ69 58 k).toInt ∧ (σ69 58 k).toInt ≤ 500) ∧ (∀ k : Nat, k < 40 → (-200) ≤ (σ69 59 k).toInt ∧ (σ69 59 k).toInt ≤ 500) := id I73
    have z82 : (σ69 55 4).toInt = (σ 55 4).toInt := (congrArg Int32.toInt (show σ69 55 4 = (σ 55 4) from ((f72 4 (of_decide_eq_true rfl)).trans (congrFun (f47 55 (of_decide_eq_true rfl)) 4))))
    rcases h69 with h83 | h84
    · obtain ⟨q88, k85, k86, k87⟩ := h83
      have q88 := q88.symm
      subst q88
      refine lv_pop hx hb dL_law_986 rfl ?_
      refine lv_goto (tgt := 1357) hx hb dL_law_987 (of_decide_eq_true rfl) ?_
      obtain ⟨x89, ex89⟩ : ∃ y : Int32, y = x0 + 6 := ⟨_, rfl⟩
      exact by
       have tx89 : x89.toInt = x0.toInt + 6 := (jadd ex89 rfl jz_6 (by omega) (by omega)).trans (by omega)
       refine lv_iinc (v := x89) (lv' := [(3, .int x89), (2, .ref (ad 55)), (1, .ref (ad 0)), (0, .ref b)]) hx hb dL_law_1357 hl (k := 0) rfl (by rw [ex89]; rfl) (of_decide_eq_true rfl) rfl (fun ls hl => ?_)
       refine lv_goto (tgt := 18) hx hb dL_law_1360 (of_decide_eq_true rfl) ?_
       have I90 : jI2 σ69 := jI2_fr (congrFun (f71 2 (of_decide_eq_true rfl)) 0) (congrFun (f71 2 (of_decide_eq_true rfl)) 1) (congrFun (f71 2 (of_decide_eq_true rfl)) 2) (congrFun (f71 2 (of_decide_eq_true rfl)) 3) (f71 6 (of_decide_eq_true rfl)) I49
       have I91 : jI9 σ69 := jI9_fr ((congrFun (f71 9 (of_decide_eq_true rfl)) 0).trans (congrFun (f47 9 (of_decide_eq_true rfl)) 0)) ((f71 10 (of_decide_eq_true rfl)).trans (f47 10 (of_decide_eq_true rfl))) ((f71 11 (of_decide_eq_true rfl)).trans (f47 11 (of_decide_eq_true rfl))) hI9
       have I92 : jI12 σ69 := jI12_fr ((congrFun (f71 12 (of_decide_eq_true rfl)) 0).trans (congrFun (f47 12 (of_decide_eq_true rfl)) 0)) ((f71 13 (of_decide_eq_true rfl)).trans (f47 13 (of_decide_eq_true rfl))) hI12
       have I93 : jI16 σ69 := jI16_fr ((congrFun (f71 16 (of_decide_eq_true rfl)) 0).trans (congrFun (f47 16 (of_decide_eq_true rfl)) 0)) ((congrFun (f71 16 (of_decide_eq_true rfl)) 1).trans (congrFun (f47 16 (of_decide_eq_true rfl)) 1)) ((congrFun (f71 16 (of_decide_eq_true rfl)) 2).trans (congrFun (f47 16 (of_decide_eq_true rfl)) 2)) ((f71 17 (of_decide_eq_true rfl)).trans (f47 17 (of_decide_eq_true rfl))) hI16
       have I94 : jI18 σ69 := jI18_fr ((congrFun (f71 18 (of_decide_eq_true rfl)) 0).trans (congrFun (f47 18 (of_decide_eq_true rfl)) 0)) ((f71 19 (of_decide_eq_true rfl)).trans (f47 19 (of_decide_eq_true rfl))) hI18
       have I95 : jI22 σ69 := jI22_fr ((congrFun (f71 22 (of_decide_eq_true rfl)) 0).trans (congrFun (f47 22 (of_decide_eq_true rfl)) 0)) ((f71 23 (of_decide_eq_true rfl)).trans (f47 23 (of_decide_eq_true rfl))) hI22
       exact by
        have I96 : jI31 σ69 := jI31_fr ((congrFun (f71 31 (of_decide_eq_true rfl)) 8).trans (congrFun (f47 31 (of_decide_eq_true rfl)) 8)) ((f71 33 (of_decide_eq_true rfl)).trans (f47 33 (of_decide_eq_true rfl))) ((f71 36 (of_decide_eq_true rfl)).trans (f47 36 (of_decide_eq_true rfl))) hI31
        have I97 : jI38 σ69 := jI38_fr ((congrFun (f71 38 (of_decide_eq_true rfl)) 0).trans (congrFun (f47 38 (of_decide_eq_true rfl)) 0)) ((congrFun (f71 38 (of_decide_eq_true rfl)) 1).trans (congrFun (f47 38 (of_decide_eq_true rfl)) 1)) ((f71 39 (of_decide_eq_true rfl)).trans (f47 39 (of_decide_eq_true rfl))) hI38
        have I98 : jI43 σ69 := jI43_fr ((congrFun (f71 43 (of_decide_eq_true rfl)) 8).trans (congrFun (f47 43 (of_decide_eq_true rfl)) 8)) hI43
        have I99 : jI47 σ69 := jI47_fr ((congrFun (f71 47 (of_decide_eq_true rfl)) 0).trans (congrFun (f47 47 (of_decide_eq_true rfl)) 0)) ((f71 48 (of_decide_eq_true rfl)).trans (f47 48 (of_decide_eq_true rfl))) ((f71 49 (of_decide_eq_true rfl)).trans (f47 49 (of_decide_eq_true rfl))) hI47
        have I100 : jI50 σ69 := jI50_fr ((f71 52 (of_decide_eq_true rfl)).trans (f47 52 (of_decide_eq_true rfl))) hI50
        have I101 : jI102 σ69 := jI102_fr ((f72 6 (of_decide_eq_true rfl)).trans (congrFun (f47 55 (of_decide_eq_true rfl)) 6)) ((f71 60 (of_decide_eq_true rfl)).trans (f47 60 (of_decide_eq_true rfl))) ((f71 61 (of_decide_eq_true rfl)).trans (f47 61 (of_decide_eq_true rfl))) hI102
        have I102 : jI103 σ69 := jI103_fr ((f72 9 (of_decide_eq_true rfl)).trans (congrFun (f47 55 (of_decide_eq_true rfl)) 9)) hI103
        have I103 : jI104 σ69 := jI104_fr ((f72 10 (of_decide_eq_true rfl)).trans (congrFun (f47 55 (of_decide_eq_true rfl)) 10)) ((f72 12 (of_decide_eq_true rfl)).trans (congrFun (f47 55 (of_decide_eq_true rfl)) 12)) ((f72 13 (of_decide_eq_true rfl)).trans (congrFun (f47 55 (of_decide_eq_true rfl)) 13)) ((f71 62 (of_decide_eq_true rfl)).trans (f47 62 (of_decide_eq_true rfl))) ((f71 67 (of_decide_eq_true rfl)).trans (f47 67 (of_decide_eq_true rfl))) hI104
        have I104 : jI105 σ69 := jI105_fr ((f72 15 (of_decide_eq_true rfl)).trans (congrFun (f47 55 (of_decide_eq_true rfl)) 15)) ((f71 65 (of_decide_eq_true rfl)).trans (f47 65 (of_decide_eq_true rfl))) hI105
        have I105 : jI106 σ69 := jI106_fr ((f72 32 (of_decide_eq_true rfl)).trans (congrFun (f47 55 (of_decide_eq_true rfl)) 32)) ((f71 70 (of_decide_eq_true rfl)).trans (f47 70 (of_decide_eq_true rfl))) ((f71 71 (of_decide_eq_true rfl)).trans (f47 71 (of_decide_eq_true rfl))) ((f71 72 (of_decide_eq_true rfl)).trans (f47 72 (of_decide_eq_true rfl))) hI106
        have I106 : jI107 σ69 := jI107_fr ((f72 12 (of_decide_eq_true rfl)).trans (congrFun (f47 55 (of_decide_eq_true rfl)) 12)) ((f72 47 (of_decide_eq_true rfl)).trans (congrFun (f47 55 (of_decide_eq_true rfl)) 47)) ((f71 80 (of_decide_eq_true rfl)).trans (f47 80 (of_decide_eq_true rfl))) hI107
        have I107 : jI109 σ69 := jI109_fr ((f72 50 (of_decide_eq_true rfl)).trans (congrFun (f47 55 (of_decide_eq_true rfl)) 50)) hI109
        have I108 : jI110 σ69 := jI110_fr ((f71 86 (of_decide_eq_true rfl)).trans (f47 86 (of_decide_eq_true rfl))) ((f71 87 (of_decide_eq_true rfl)).trans (f47 87 (of_decide_eq_true rfl))) hI110
        have I109 : jI111 σ69 := jI111_fr ((f71 79 (of_decide_eq_true rfl)).trans (f47 79 (of_decide_eq_true rfl))) hI111
        have I110 : jI119 σ69 := jI119_fr ((f71 68 (of_decide_eq_true rfl)).trans (f47 68 (of_decide_eq_true rfl))) hI119
        have p111 : jKept σ69 := jKept.fr ((f71 75 (of_decide_eq_true rfl)).trans (f47 75 (of_decide_eq_true rfl))) ((f71 76 (of_decide_eq_true rfl)).trans (f47 76 (of_decide_eq_true rfl))) ((f71 77 (of_decide_eq_true rfl)).trans (f47 77 (of_decide_eq_true rfl))) hs_jKept
        have p112 : jBook σ69 := jBook.fr ((f72 47 (of_decide_eq_true rfl)).trans (congrFun (f47 55 (of_decide_eq_true rfl)) 47)) ((f72 10 (of_decide_eq_true rfl)).trans (congrFun (f47 55 (of_decide_eq_true rfl)) 10)) ((f71 81 (of_decide_eq_true rfl)).trans (f47 81 (of_decide_eq_true rfl))) hs_jBook
        have z113 : (σ69 2 0).toInt = (σ 2 0).toInt := (congrArg Int32.toInt (show σ69 2 0 = (σ 2 0) from ((congrFun (f71 2 (of_decide_eq_true rfl)) 0).trans (f48 0 (of_decide_eq_true rfl)))))
        have z114 : (σ69 55 6).toInt = (σ 55 6).toInt := (congrArg Int32.toInt (show σ69 55 6 = (σ 55 6) from ((f72 6 (of_decide_eq_true rfl)).trans (congrFun (f47 55 (of_decide_eq_true rfl)) 6))))
        have z115 : (σ69 2 2).toInt = (σ45 2 2).toInt := (congrArg Int32.toInt (show σ69 2 2 = (σ45 2 2) from (congrFun (f71 2 (of_decide_eq_true rfl)) 2)))
        have z116 : (σ69 2 3).toInt = (σ45 2 3).toInt := (congrArg Int32.toInt (show σ69 2 3 = (σ45 2 3) from (congrFun (f71 2 (of_decide_eq_true rfl)) 3)))
        have z117 : (σ69 9 0).toInt = (σ 9 0).toInt := (congrArg Int32.toInt (show σ69 9 0 = (σ 9 0) from ((congrFun (f71 9 (of_decide_eq_true rfl)) 0).trans (congrFun (f47 9 (of_decide_eq_true rfl)) 0))))
        have z118 : (σ69 55 15).toInt = (σ 55 15).toInt := (congrArg Int32.toInt (show σ69 55 15 = (σ 55 15) from ((f72 15 (of_decide_eq_true rfl)).trans (congrFun (f47 55 (of_decide_eq_true rfl)) 15))))
        have z119 : (σ69 16 0).toInt = (σ 16 0).toInt := (congrArg Int32.toInt (show σ69 16 0 = (σ 16 0) from ((congrFun (f71 16 (of_decide_eq_true rfl)) 0).trans (congrFun (f47 16 (of_decide_eq_true rfl)) 0))))
        have z120 : (σ69 55 10).toInt = (σ 55 10).toInt := (congrArg Int32.toInt (show σ69 55 10 = (σ 55 10) from ((f72 10 (of_decide_eq_true rfl)).trans (congrFun (f47 55 (of_decide_eq_true rfl)) 10))))
        have z121 : (σ69 16 1).toInt = (σ 16 1).toInt := (congrArg Int32.toInt (show σ69 16 1 = (σ 16 1) from ((congrFun (f71 16 (of_decide_eq_true rfl)) 1).trans (congrFun (f47 16 (of_decide_eq_true rfl)) 1))))
        have z122 : (σ69 55 12).toInt = (σ 55 12).toInt := (congrArg Int32.toInt (show σ69 55 12 = (σ 55 12) from ((f72 12 (of_decide_eq_true rfl)).trans (congrFun (f47 55 (of_decide_eq_true rfl)) 12))))
        have z123 : (σ69 16 2).toInt = (σ 16 2).toInt := (congrArg Int32.toInt (show σ69 16 2 = (σ 16 2) from ((congrFun (f71 16 (of_decide_eq_true rfl)) 2).trans (congrFun (f47 16 (of_decide_eq_true rfl)) 2))))
        have z124 : (σ69 55 13).toInt = (σ 55 13).toInt := (congrArg Int32.toInt (show σ69 55 13 = (σ 55 13) from ((f72 13 (of_decide_eq_true rfl)).trans (congrFun (f47 55 (of_decide_eq_true rfl)) 13))))
        have z125 : (σ69 38 0).toInt = (σ 38 0).toInt := (congrArg Int32.toInt (show σ69 38 0 = (σ 38 0) from ((congrFun (f71 38 (of_decide_eq_true rfl)) 0).trans (congrFun (f47 38 (of_decide_eq_true rfl)) 0))))
        have z126 : (σ69 55 32).toInt = (σ 55 32).toInt := (congrArg Int32.toInt (show σ69 55 32 = (σ 55 32) from ((f72 32 (of_decide_eq_true rfl)).trans (congrFun (f47 55 (of_decide_eq_true rfl)) 32))))
        have z127 : (σ69 38 1).toInt = (σ 38 1).toInt := (congrArg Int32.toInt (show σ69 38 1 = (σ 38 1) from ((congrFun (f71 38 (of_decide_eq_true rfl)) 1).trans (congrFun (f47 38 (of_decide_eq_true rfl)) 1))))
        have z128 : (σ69 55 55).toInt = (σ 55 55).toInt := (congrArg Int32.toInt (show σ69 55 55 = (σ 55 55) from ((f72 55 (of_decide_eq_true rfl)).trans (congrFun (f47 55 (of_decide_eq_true rfl)) 55))))
        have z129 : (σ69 47 0).toInt = (σ 47 0).toInt := (congrArg Int32.toInt (show σ69 47 0 = (σ 47 0) from ((congrFun (f71 47 (of_decide_eq_true rfl)) 0).trans (congrFun (f47 47 (of_decide_eq_true rfl)) 0))))
        have z130 : (σ69 55 47).toInt = (σ 55 47).toInt := (congrArg Int32.toInt (show σ69 55 47 = (σ 55 47) from ((f72 47 (of_decide_eq_true rfl)).trans (congrFun (f47 55 (of_decide_eq_true rfl)) 47))))
        have z131 : (σ69 55 30).toInt = (σ 55 30).toInt := (congrArg Int32.toInt (show σ69 55 30 = (σ 55 30) from ((f72 30 (of_decide_eq_true rfl)).trans (congrFun (f47 55 (of_decide_eq_true rfl)) 30))))
        have z132 : (σ69 55 31).toInt = (σ 55 31).toInt := (congrArg Int32.toInt (show σ69 55 31 = (σ 55 31) from ((f72 31 (of_decide_eq_true rfl)).trans (congrFun (f47 55 (of_decide_eq_true rfl)) 31))))
        exact by exact ih x89 σ69 τ _ _ ls (by have h9 := tx89; omega) ⟨I90, I91, I92, I93, I94, I95, I96, I97, I98, I99, I100, I73, I101, I102, I103, I104, I105, I106, I107, I108, I109, I110, p111, p112, (by omega), (by omega), (by omega), (by omega), (by omega), (by omega), (by omega), (by omega), (by omega), (by omega), (by omega), (by omega), (show jNumP (σ69 3) (σ69 56) (σ69 6) (σ69 57) (σ69 7) (σ69 58) (σ69 8) (σ69 59) (σ69 55 6).toInt (σ69 55 4).toInt by rw [show σ69 3 = σ 3 from ((f71 3 (of_decide_eq_true rfl)).trans k64), show σ69 56 = σ 56 from (k87.trans (f47 56 (of_decide_eq_true rfl))), show σ69 6 = σ 6 from ((f71 6 (of_decide_eq_true rfl)).trans (f47 6 (of_decide_eq_true rfl))), show σ69 57 = σ 57 from ((f71 57 (of_decide_eq_true rfl)).trans (f47 57 (of_decide_eq_true rfl))), show σ69 7 = σ 7 from ((f71 7 (of_decide_eq_true rfl)).trans (f47 7 (of_decide_eq_true rfl))), show σ69 58 = σ 58 from ((f71 58 (of_decide_eq_true rfl)).trans (f47 58 (of_decide_eq_true rfl))), show σ69 8 = σ 8 from ((f71 8 (of_decide_eq_true rfl)).trans (f47 8 (of_decide_eq_true rfl))), show σ69 59 = σ 59 from ((f71 59 (of_decide_eq_true rfl)).trans (f47 59 (of_decide_eq_true rfl))), show (σ69 55 6).toInt = (σ 55 6).toInt from by omega, show (σ69 55 4).toInt = (σ 55 4).toInt from by omega]; exact hr0), (show jOvP (σ69 56) (σ69 57) (σ69 58) (σ69 59) (σ69 55 4).toInt by rw [show σ69 56 = σ 56 from (k87.trans (f47 56 (of_decide_eq_true rfl))), show σ69 57 = σ 57 from ((f71 57 (of_decide_eq_true rfl)).trans (f47 57 (of_decide_eq_true rfl))), show σ69 58 = σ 58 from ((f71 58 (of_decide_eq_true rfl)).trans (f47 58 (of_decide_eq_true rfl))), show σ69 59 = σ 59 from ((f71 59 (of_decide_eq_true rfl)).trans (f47 59 (of_decide_eq_true rfl))), show (σ69 55 4).toInt = (σ 55 4).toInt from by omega]; exact hr1), (show jTp (σ69 10) (σ69 63) (σ69 55 15).toInt by rw [show σ69 10 = σ 10 from ((f71 10 (of_decide_eq_true rfl)).trans (f47 10 (of_decide_eq_true rfl))), show σ69 63 = σ 63 from ((f71 63 (of_decide_eq_true rfl)).trans (f47 63 (of_decide_eq_true rfl)))]; exact hr2.le (by omega)), (show jSo (σ69 17) (σ69 62) (σ69 16 0).toInt by rw [show σ69 17 = σ 17 from ((f71 17 (of_decide_eq_true rfl)).trans (f47 17 (of_decide_eq_true rfl))), show σ69 62 = σ 62 from ((f71 62 (of_decide_eq_true rfl)).trans (f47 62 (of_decide_eq_true rfl))), show (σ69 16 0).toInt = (σ 16 0).toInt from by omega]; exact hr3), (show jShP (σ69 51) (σ69 52) (σ69 53) (σ69 86) (σ69 87) (σ69 55 32).toInt by rw [show σ69 51 = σ 51 from ((f71 51 (of_decide_eq_true rfl)).trans (f47 51 (of_decide_eq_true rfl))), show σ69 52 = σ 52 from ((f71 52 (of_decide_eq_true rfl)).trans (f47 52 (of_decide_eq_true rfl))), show σ69 53 = σ 53 from ((f71 53 (of_decide_eq_true rfl)).trans (f47 53 (of_decide_eq_true rfl))), show σ69 86 = σ 86 from ((f71 86 (of_decide_eq_true rfl)).trans (f47 86 (of_decide_eq_true rfl))), show σ69 87 = σ 87 from ((f71 87 (of_decide_eq_true rfl)).trans (f47 87 (of_decide_eq_true rfl)))]; exact (hr4.up (by omega) (by omega))), (show jEl (σ69 51) (σ69 52) (τ 54) (τ 88) by rw [show σ69 51 = σ 51 from ((f71 51 (of_decide_eq_true rfl)).trans (f47 51 (of_decide_eq_true rfl))), show σ69 52 = σ 52 from ((f71 52 (of_decide_eq_true rfl)).trans (f47 52 (of_decide_eq_true rfl)))]; exact hr5), (show jByP (σ69 51) (σ69 52) (τ 54) by rw [show σ69 51 = σ 51 from ((f71 51 (of_decide_eq_true rfl)).trans (f47 51 (of_decide_eq_true rfl))), show σ69 52 = σ 52 from ((f71 52 (of_decide_eq_true rfl)).trans (f47 52 (of_decide_eq_true rfl)))]; exact hr6), (show jBk (σ69 48) (σ69 80) (σ69 49) (σ69 81) (σ69 55 47).toInt by rw [show σ69 48 = σ 48 from ((f71 48 (of_decide_eq_true rfl)).trans (f47 48 (of_decide_eq_true rfl))), show σ69 49 = σ 49 from ((f71 49 (of_decide_eq_true rfl)).trans (f47 49 (of_decide_eq_true rfl))), show σ69 80 = σ 80 from ((f71 80 (of_decide_eq_true rfl)).trans (f47 80 (of_decide_eq_true rfl))), show σ69 81 = σ 81 from ((f71 81 (of_decide_eq_true rfl)).trans (f47 81 (of_decide_eq_true rfl))), show (σ69 55 47).toInt = (σ 55 47).toInt from by omega]; exact hr7), (show jKd (σ69 39) (σ69 70) (σ69 55 32).toInt by rw [show σ69 39 = σ 39 from ((f71 39 (of_decide_eq_true rfl)).trans (f47 39 (of_decide_eq_true rfl))), show σ69 70 = σ 70 from ((f71 70 (of_decide_eq_true rfl)).trans (f47 70 (of_decide_eq_true rfl))), show (σ69 55 32).toInt = (σ 55 32).toInt from by omega]; exact hr8), (show jTt (σ69 42) (σ69 85) (σ69 55 55).toInt by rw [show σ69 42 = σ 42 from ((f71 42 (of_decide_eq_true rfl)).trans (f47 42 (of_decide_eq_true rfl))), show σ69 85 = σ 85 from ((f71 85 (of_decide_eq_true rfl)).trans (f47 85 (of_decide_eq_true rfl))), show (σ69 55 55).toInt = (σ 55 55).toInt from by omega]; exact hr9)⟩ hP hS (lv_sub hl [0, 1, 2, 3] rfl)
    · obtain ⟨q139, k134, k135, k136, k137, k138⟩ := h84
      exact absurd (by omega : False) id
  · obtain ⟨q146, k140, k141, k142, k143, k144, k145⟩ := h60
    refine lv_pop hx hb dL_law_981 rfl ?_
    refine lv_aload_n hx hb dL_law_982 rfl (lv_at hl 1 rfl) ?_
    have I147 : jI101 σ45 := jI101_fr (congrFun (f47 55 (of_decide_eq_true rfl)) 4) (congrFun (f47 55 (of_decide_eq_true rfl)) 5) (f47 56 (of_decide_eq_true rfl)) (f47 57 (of_decide_eq_true rfl)) (f47 58 (of_decide_eq_true rfl)) (f47 59 (of_decide_eq_true rfl)) hI101
    have z148 : (σ45 55 5).toInt = (σ 55 5).toInt := (congrArg Int32.toInt (show σ45 55 5 = (σ 55 5) from (congrFun (f47 55 (of_decide_eq_true rfl)) 5)))
    have z149 : (σ45 55 4).toInt = (σ 55 4).toInt := (congrArg Int32.toInt (show σ45 55 4 = (σ 55 4) from (congrFun (f47 55 (of_decide_eq_true rfl)) 4)))
    refine jcallV (As := []) (rest := []) ⟨hx, hb, hml, hown, hts⟩ hK hP hA hS hZ (c_X12_redo l D cI cL ad zz hJ σ45 τ I147) cw_RL_128 (jc_55 cI cL ad σ45 τ) rfl ⟨Nat.le_of_ble_eq_true rfl, Nat.le_of_ble_eq_true rfl⟩ rfl rfl rfl hl.1 rfl (Nat.le_of_ble_eq_true rfl) dL_law_983 ⟨Nat.le_of_ble_eq_true rfl, Nat.le_of_ble_eq_true rfl⟩ (fun r151 σ150 τ150 H locs h150 hP hS => ?_)
    obtain ⟨rfl, f152, f153, I154, h150⟩ := h150
    obtain ⟨i156, i157, i158, w159, w160, w161, w162⟩ : (0 ≤ (σ150 55 5).toInt) ∧ ((σ150 55 5).toInt ≤ (σ150 55 4).toInt) ∧ ((σ150 55 4).toInt ≤ 40) ∧ (∀ k : Nat, k < 68 → (-200) ≤ (σ150 56 k).toInt ∧ (σ150 56 k).toInt ≤ 500) ∧ (∀ k : Nat, k < 40 → 0 ≤ (σ150 57 k).toInt ∧ (σ150 57 k).toInt ≤ 67) ∧ (∀ k : Nat, k < 40 → (-200) ≤ (σ150 58 k).toInt ∧ (σ150 58 k).toInt ≤ 500) ∧ (∀ k : Nat, k < 40 → (-200) ≤ (σ150 59 k).toInt ∧ (σ150 59 k).toInt ≤ 500) := id I154
    have z163 : (σ150 55 4).toInt = (σ 55 4).toInt := (congrArg Int32.toInt (show σ150 55 4 = (σ 55 4) from ((f153 4 (of_decide_eq_true rfl)).trans (congrFun (f47 55 (of_decide_eq_true rfl)) 4))))
    rcases h150 with h164 | h165
    · obtain ⟨q169, k166, k167, k168⟩ := h164
      exact absurd (by omega : False) id
    · obtain ⟨q175, k170, k171, k172, k173, k174⟩ := h165
      refine lv_pop hx hb dL_law_986 rfl ?_
      refine lv_goto (tgt := 1357) hx hb dL_law_987 (of_decide_eq_true rfl) ?_
      obtain ⟨x176, ex176⟩ : ∃ y : Int32, y = x0 + 6 := ⟨_, rfl⟩
      exact by
       have tx176 : x176.toInt = x0.toInt + 6 := (jadd ex176 rfl jz_6 (by omega) (by omega)).trans (by omega)
       refine lv_iinc (v := x176) (lv' := [(3, .int x176), (2, .ref (ad 55)), (1, .ref (ad 0)), (0, .ref b)]) hx hb dL_law_1357 hl (k := 0) rfl (by rw [ex176]; rfl) (of_decide_eq_true rfl) rfl (fun ls hl => ?_)
       refine lv_goto (tgt := 18) hx hb dL_law_1360 (of_decide_eq_true rfl) ?_
       have I177 : jI2 σ150 := jI2_fr (congrFun (f152 2 (of_decide_eq_true rfl)) 0) (congrFun (f152 2 (of_decide_eq_true rfl)) 1) (congrFun (f152 2 (of_decide_eq_true rfl)) 2) (congrFun (f152 2 (of_decide_eq_true rfl)) 3) (f152 6 (of_decide_eq_true rfl)) I49
       have I178 : jI9 σ150 := jI9_fr ((congrFun (f152 9 (of_decide_eq_true rfl)) 0).trans (congrFun (f47 9 (of_decide_eq_true rfl)) 0)) ((f152 10 (of_decide_eq_true rfl)).trans (f47 10 (of_decide_eq_true rfl))) ((f152 11 (of_decide_eq_true rfl)).trans (f47 11 (of_decide_eq_true rfl))) hI9
       have I179 : jI12 σ150 := jI12_fr ((congrFun (f152 12 (of_decide_eq_true rfl)) 0).trans (congrFun (f47 12 (of_decide_eq_true rfl)) 0)) ((f152 13 (of_decide_eq_true rfl)).trans (f47 13 (of_decide_eq_true rfl))) hI12
       have I180 : jI16 σ150 := jI16_fr ((congrFun (f152 16 (of_decide_eq_true rfl)) 0).trans (congrFun (f47 16 (of_decide_eq_true rfl)) 0)) ((congrFun (f152 16 (of_decide_eq_true rfl)) 1).trans (congrFun (f47 16 (of_decide_eq_true rfl)) 1)) ((congrFun (f152 16 (of_decide_eq_true rfl)) 2).trans (congrFun (f47 16 (of_decide_eq_true rfl)) 2)) ((f152 17 (of_decide_eq_true rfl)).trans (f47 17 (of_decide_eq_true rfl))) hI16
       have I181 : jI18 σ150 := jI18_fr ((congrFun (f152 18 (of_decide_eq_true rfl)) 0).trans (congrFun (f47 18 (of_decide_eq_true rfl)) 0)) ((f152 19 (of_decide_eq_true rfl)).trans (f47 19 (of_decide_eq_true rfl))) hI18
       have I182 : jI22 σ150 := jI22_fr ((congrFun (f152 22 (of_decide_eq_true rfl)) 0).trans (congrFun (f47 22 (of_decide_eq_true rfl)) 0)) ((f152 23 (of_decide_eq_true rfl)).trans (f47 23 (of_decide_eq_true rfl))) hI22
       exact by
        have I183 : jI31 σ150 := jI31_fr ((congrFun (f152 31 (of_decide_eq_true rfl)) 8).trans (congrFun (f47 31 (of_decide_eq_true rfl)) 8)) ((f152 33 (of_decide_eq_true rfl)).trans (f47 33 (of_decide_eq_true rfl))) ((f152 36 (of_decide_eq_true rfl)).trans (f47 36 (of_decide_eq_true rfl))) hI31
        have I184 : jI38 σ150 := jI38_fr ((congrFun (f152 38 (of_decide_eq_true rfl)) 0).trans (congrFun (f47 38 (of_decide_eq_true rfl)) 0)) ((congrFun (f152 38 (of_decide_eq_true rfl)) 1).trans (congrFun (f47 38 (of_decide_eq_true rfl)) 1)) ((f152 39 (of_decide_eq_true rfl)).trans (f47 39 (of_decide_eq_true rfl))) hI38
        have I185 : jI43 σ150 := jI43_fr ((congrFun (f152 43 (of_decide_eq_true rfl)) 8).trans (congrFun (f47 43 (of_decide_eq_true rfl)) 8)) hI43
        have I186 : jI47 σ150 := jI47_fr ((congrFun (f152 47 (of_decide_eq_true rfl)) 0).trans (congrFun (f47 47 (of_decide_eq_true rfl)) 0)) ((f152 48 (of_decide_eq_true rfl)).trans (f47 48 (of_decide_eq_true rfl))) ((f152 49 (of_decide_eq_true rfl)).trans (f47 49 (of_decide_eq_true rfl))) hI47
        have I187 : jI50 σ150 := jI50_fr ((f152 52 (of_decide_eq_true rfl)).trans (f47 52 (of_decide_eq_true rfl))) hI50
        have I188 : jI102 σ150 := jI102_fr ((f153 6 (of_decide_eq_true rfl)).trans (congrFun (f47 55 (of_decide_eq_true rfl)) 6)) ((f152 60 (of_decide_eq_true rfl)).trans (f47 60 (of_decide_eq_true rfl))) ((f152 61 (of_decide_eq_true rfl)).trans (f47 61 (of_decide_eq_true rfl))) hI102
        have I189 : jI103 σ150 := jI103_fr ((f153 9 (of_decide_eq_true rfl)).trans (congrFun (f47 55 (of_decide_eq_true rfl)) 9)) hI103
        have I190 : jI104 σ150 := jI104_fr ((f153 10 (of_decide_eq_true rfl)).trans (congrFun (f47 55 (of_decide_eq_true rfl)) 10)) ((f153 12 (of_decide_eq_true rfl)).trans (congrFun (f47 55 (of_decide_eq_true rfl)) 12)) ((f153 13 (of_decide_eq_true rfl)).trans (congrFun (f47 55 (of_decide_eq_true rfl)) 13)) ((f152 62 (of_decide_eq_true rfl)).trans (f47 62 (of_decide_eq_true rfl))) ((f152 67 (of_decide_eq_true rfl)).trans (f47 67 (of_decide_eq_true rfl))) hI104
        have I191 : jI105 σ150 := jI105_fr ((f153 15 (of_decide_eq_true rfl)).trans (congrFun (f47 55 (of_decide_eq_true rfl)) 15)) ((f152 65 (of_decide_eq_true rfl)).trans (f47 65 (of_decide_eq_true rfl))) hI105
        have I192 : jI106 σ150 := jI106_fr ((f153 32 (of_decide_eq_true rfl)).trans (congrFun (f47 55 (of_decide_eq_true rfl)) 32)) ((f152 70 (of_decide_eq_true rfl)).trans (f47 70 (of_decide_eq_true rfl))) ((f152 71 (of_decide_eq_true rfl)).trans (f47 71 (of_decide_eq_true rfl))) ((f152 72 (of_decide_eq_true rfl)).trans (f47 72 (of_decide_eq_true rfl))) hI106
        have I193 : jI107 σ150 := jI107_fr ((f153 12 (of_decide_eq_true rfl)).trans (congrFun (f47 55 (of_decide_eq_true rfl)) 12)) ((f153 47 (of_decide_eq_true rfl)).trans (congrFun (f47 55 (of_decide_eq_true rfl)) 47)) ((f152 80 (of_decide_eq_true rfl)).trans (f47 80 (of_decide_eq_true rfl))) hI107
        have I194 : jI109 σ150 := jI109_fr ((f153 50 (of_decide_eq_true rfl)).trans (congrFun (f47 55 (of_decide_eq_true rfl)) 50)) hI109
        have I195 : jI110 σ150 := jI110_fr ((f152 86 (of_decide_eq_true rfl)).trans (f47 86 (of_decide_eq_true rfl))) ((f152 87 (of_decide_eq_true rfl)).trans (f47 87 (of_decide_eq_true rfl))) hI110
        have I196 : jI111 σ150 := jI111_fr ((f152 79 (of_decide_eq_true rfl)).trans (f47 79 (of_decide_eq_true rfl))) hI111
        have I197 : jI119 σ150 := jI119_fr ((f152 68 (of_decide_eq_true rfl)).trans (f47 68 (of_decide_eq_true rfl))) hI119
        have p198 : jKept σ150 := jKept.fr ((f152 75 (of_decide_eq_true rfl)).trans (f47 75 (of_decide_eq_true rfl))) ((f152 76 (of_decide_eq_true rfl)).trans (f47 76 (of_decide_eq_true rfl))) ((f152 77 (of_decide_eq_true rfl)).trans (f47 77 (of_decide_eq_true rfl))) hs_jKept
        have p199 : jBook σ150 := jBook.fr ((f153 47 (of_decide_eq_true rfl)).trans (congrFun (f47 55 (of_decide_eq_true rfl)) 47)) ((f153 10 (of_decide_eq_true rfl)).trans (congrFun (f47 55 (of_decide_eq_true rfl)) 10)) ((f152 81 (of_decide_eq_true rfl)).trans (f47 81 (of_decide_eq_true rfl))) hs_jBook
        have z200 : (σ150 2 0).toInt = (σ 2 0).toInt := (congrArg Int32.toInt (show σ150 2 0 = (σ 2 0) from ((congrFun (f152 2 (of_decide_eq_true rfl)) 0).trans (f48 0 (of_decide_eq_true rfl)))))
        have z201 : (σ150 55 6).toInt = (σ 55 6).toInt := (congrArg Int32.toInt (show σ150 55 6 = (σ 55 6) from ((f153 6 (of_decide_eq_true rfl)).trans (congrFun (f47 55 (of_decide_eq_true rfl)) 6))))
        have z202 : (σ150 2 2).toInt = (σ45 2 2).toInt := (congrArg Int32.toInt (show σ150 2 2 = (σ45 2 2) from (congrFun (f152 2 (of_decide_eq_true rfl)) 2)))
        have z203 : (σ150 2 3).toInt = (σ45 2 3).toInt := (congrArg Int32.toInt (show σ150 2 3 = (σ45 2 3) from (congrFun (f152 2 (of_decide_eq_true rfl)) 3)))
        have z204 : (σ150 9 0).toInt = (σ 9 0).toInt := (congrArg Int32.toInt (show σ150 9 0 = (σ 9 0) from ((congrFun (f152 9 (of_decide_eq_true rfl)) 0).trans (congrFun (f47 9 (of_decide_eq_true rfl)) 0))))
        have z205 : (σ150 55 15).toInt = (σ 55 15).toInt := (congrArg Int32.toInt (show σ150 55 15 = (σ 55 15) from ((f153 15 (of_decide_eq_true rfl)).trans (congrFun (f47 55 (of_decide_eq_true rfl)) 15))))
        have z206 : (σ150 16 0).toInt = (σ 16 0).toInt := (congrArg Int32.toInt (show σ150 16 0 = (σ 16 0) from ((congrFun (f152 16 (of_decide_eq_true rfl)) 0).trans (congrFun (f47 16 (of_decide_eq_true rfl)) 0))))
        have z207 : (σ150 55 10).toInt = (σ 55 10).toInt := (congrArg Int32.toInt (show σ150 55 10 = (σ 55 10) from ((f153 10 (of_decide_eq_true rfl)).trans (congrFun (f47 55 (of_decide_eq_true rfl)) 10))))
        have z208 : (σ150 16 1).toInt = (σ 16 1).toInt := (congrArg Int32.toInt (show σ150 16 1 = (σ 16 1) from ((congrFun (f152 16 (of_decide_eq_true rfl)) 1).trans (congrFun (f47 16 (of_decide_eq_true rfl)) 1))))
        have z209 : (σ150 55 12).toInt = (σ 55 12).toInt := (congrArg Int32.toInt (show σ150 55 12 = (σ 55 12) from ((f153 12 (of_decide_eq_true rfl)).trans (congrFun (f47 55 (of_decide_eq_true rfl)) 12))))
        have z210 : (σ150 16 2).toInt = (σ 16 2).toInt := (congrArg Int32.toInt (show σ150 16 2 = (σ 16 2) from ((congrFun (f152 16 (of_decide_eq_true rfl)) 2).trans (congrFun (f47 16 (of_decide_eq_true rfl)) 2))))
        have z211 : (σ150 55 13).toInt = (σ 55 13).toInt := (congrArg Int32.toInt (show σ150 55 13 = (σ 55 13) from ((f153 13 (of_decide_eq_true rfl)).trans (congrFun (f47 55 (of_decide_eq_true rfl)) 13))))
        have z212 : (σ150 38 0).toInt = (σ 38 0).toInt := (congrArg Int32.toInt (show σ150 38 0 = (σ 38 0) from ((congrFun (f152 38 (of_decide_eq_true rfl)) 0).trans (congrFun (f47 38 (of_decide_eq_true rfl)) 0))))
        have z213 : (σ150 55 32).toInt = (σ 55 32).toInt := (congrArg Int32.toInt (show σ150 55 32 = (σ 55 32) from ((f153 32 (of_decide_eq_true rfl)).trans (congrFun (f47 55 (of_decide_eq_true rfl)) 32))))
        have z214 : (σ150 38 1).toInt = (σ 38 1).toInt := (congrArg Int32.toInt (show σ150 38 1 = (σ 38 1) from ((congrFun (f152 38 (of_decide_eq_true rfl)) 1).trans (congrFun (f47 38 (of_decide_eq_true rfl)) 1))))
        have z215 : (σ150 55 55).toInt = (σ 55 55).toInt := (congrArg Int32.toInt (show σ150 55 55 = (σ 55 55) from ((f153 55 (of_decide_eq_true rfl)).trans (congrFun (f47 55 (of_decide_eq_true rfl)) 55))))
        have z216 : (σ150 47 0).toInt = (σ 47 0).toInt := (congrArg Int32.toInt (show σ150 47 0 = (σ 47 0) from ((congrFun (f152 47 (of_decide_eq_true rfl)) 0).trans (congrFun (f47 47 (of_decide_eq_true rfl)) 0))))
        have z217 : (σ150 55 47).toInt = (σ 55 47).toInt := (congrArg Int32.toInt (show σ150 55 47 = (σ 55 47) from ((f153 47 (of_decide_eq_true rfl)).trans (congrFun (f47 55 (of_decide_eq_true rfl)) 47))))
        have z218 : (σ150 55 30).toInt = (σ 55 30).toInt := (congrArg Int32.toInt (show σ150 55 30 = (σ 55 30) from ((f153 30 (of_decide_eq_true rfl)).trans (congrFun (f47 55 (of_decide_eq_true rfl)) 30))))
        have z219 : (σ150 55 31).toInt = (σ 55 31).toInt := (congrArg Int32.toInt (show σ150 55 31 = (σ 55 31) from ((f153 31 (of_decide_eq_true rfl)).trans (congrFun (f47 55 (of_decide_eq_true rfl)) 31))))
        rw [show (σ 2 2).toInt = (σ 55 5).toInt from by omega] at k145
        rw [show (σ45 55 5).toInt = (σ 55 5).toInt from by omega, show σ45 56 = σ 56 from (f47 56 (of_decide_eq_true rfl)), show σ45 57 = σ 57 from (f47 57 (of_decide_eq_true rfl)), show σ45 59 = σ 59 from (f47 59 (of_decide_eq_true rfl))] at k174
        exact by
         have p220 := hr0.forth (by omega) (by omega) k145 k174
         exact by exact ih x176 σ150 τ _ _ ls (by have h9 := tx176; omega) ⟨I177, I178, I179, I180, I181, I182, I183, I184, I185, I186, I187, I154, I188, I189, I190, I191, I192, I193, I194, I195, I196, I197, p198, p199, (by omega), (by omega), (by omega), (by omega), (by omega), (by omega), (by omega), (by omega), (by omega), (by omega), (by omega), (by omega), (show jNumP (σ150 3) (σ150 56) (σ150 6) (σ150 57) (σ150 7) (σ150 58) (σ150 8) (σ150 59) (σ150 55 6).toInt (σ150 55 4).toInt by rw [show σ150 3 = σ45 3 from (f152 3 (of_decide_eq_true rfl)), show σ150 6 = σ 6 from ((f152 6 (of_decide_eq_true rfl)).trans (f47 6 (of_decide_eq_true rfl))), show σ150 57 = σ 57 from ((f152 57 (of_decide_eq_true rfl)).trans (f47 57 (of_decide_eq_true rfl))), show σ150 7 = σ 7 from ((f152 7 (of_decide_eq_true rfl)).trans (f47 7 (of_decide_eq_true rfl))), show σ150 58 = σ 58 from ((f152 58 (of_decide_eq_true rfl)).trans (f47 58 (of_decide_eq_true rfl))), show σ150 8 = σ 8 from ((f152 8 (of_decide_eq_true rfl)).trans (f47 8 (of_decide_eq_true rfl))), show σ150 59 = σ 59 from ((f152 59 (of_decide_eq_true rfl)).trans (f47 59 (of_decide_eq_true rfl))), show (σ150 55 6).toInt = (σ 55 6).toInt from by omega, show (σ150 55 4).toInt = (σ 55 4).toInt from by omega]; exact p220), (show jOvP (σ150 56) (σ150 57) (σ150 58) (σ150 59) (σ150 55 4).toInt by rw [show σ150 57 = σ 57 from ((f152 57 (of_decide_eq_true rfl)).trans (f47 57 (of_decide_eq_true rfl))), show σ150 58 = σ 58 from ((f152 58 (of_decide_eq_true rfl)).trans (f47 58 (of_decide_eq_true rfl))), show σ150 59 = σ 59 from ((f152 59 (of_decide_eq_true rfl)).trans (f47 59 (of_decide_eq_true rfl))), show (σ150 55 4).toInt = (σ 55 4).toInt from by omega]; exact (hr1.forth (by omega) (by omega) ((hr0.2.2 ((σ 55 5).toInt).toNat (by omega)).2.1.1) k174)), (show jTp (σ150 10) (σ150 63) (σ150 55 15).toInt by rw [show σ150 10 = σ 10 from ((f152 10 (of_decide_eq_true rfl)).trans (f47 10 (of_decide_eq_true rfl))), show σ150 63 = σ 63 from ((f152 63 (of_decide_eq_true rfl)).trans (f47 63 (of_decide_eq_true rfl)))]; exact hr2.le (by omega)), (show jSo (σ150 17) (σ150 62) (σ150 16 0).toInt by rw [show σ150 17 = σ 17 from ((f152 17 (of_decide_eq_true rfl)).trans (f47 17 (of_decide_eq_true rfl))), show σ150 62 = σ 62 from ((f152 62 (of_decide_eq_true rfl)).trans (f47 62 (of_decide_eq_true rfl))), show (σ150 16 0).toInt = (σ 16 0).toInt from by omega]; exact hr3), (show jShP (σ150 51) (σ150 52) (σ150 53) (σ150 86) (σ150 87) (σ150 55 32).toInt by rw [show σ150 51 = σ 51 from ((f152 51 (of_decide_eq_true rfl)).trans (f47 51 (of_decide_eq_true rfl))), show σ150 52 = σ 52 from ((f152 52 (of_decide_eq_true rfl)).trans (f47 52 (of_decide_eq_true rfl))), show σ150 53 = σ 53 from ((f152 53 (of_decide_eq_true rfl)).trans (f47 53 (of_decide_eq_true rfl))), show σ150 86 = σ 86 from ((f152 86 (of_decide_eq_true rfl)).trans (f47 86 (of_decide_eq_true rfl))), show σ150 87 = σ 87 from ((f152 87 (of_decide_eq_true rfl)).trans (f47 87 (of_decide_eq_true rfl)))]; exact (hr4.up (by omega) (by omega))), (show jEl (σ150 51) (σ150 52) (τ 54) (τ 88) by rw [show σ150 51 = σ 51 from ((f152 51 (of_decide_eq_true rfl)).trans (f47 51 (of_decide_eq_true rfl))), show σ150 52 = σ 52 from ((f152 52 (of_decide_eq_true rfl)).trans (f47 52 (of_decide_eq_true rfl)))]; exact hr5), (show jByP (σ150 51) (σ150 52) (τ 54) by rw [show σ150 51 = σ 51 from ((f152 51 (of_decide_eq_true rfl)).trans (f47 51 (of_decide_eq_true rfl))), show σ150 52 = σ 52 from ((f152 52 (of_decide_eq_true rfl)).trans (f47 52 (of_decide_eq_true rfl)))]; exact hr6), (show jBk (σ150 48) (σ150 80) (σ150 49) (σ150 81) (σ150 55 47).toInt by rw [show σ150 48 = σ 48 from ((f152 48 (of_decide_eq_true rfl)).trans (f47 48 (of_decide_eq_true rfl))), show σ150 49 = σ 49 from ((f152 49 (of_decide_eq_true rfl)).trans (f47 49 (of_decide_eq_true rfl))), show σ150 80 = σ 80 from ((f152 80 (of_decide_eq_true rfl)).trans (f47 80 (of_decide_eq_true rfl))), show σ150 81 = σ 81 from ((f152 81 (of_decide_eq_true rfl)).trans (f47 81 (of_decide_eq_true rfl))), show (σ150 55 47).toInt = (σ 55 47).toInt from by omega]; exact hr7), (show jKd (σ150 39) (σ150 70) (σ150 55 32).toInt by rw [show σ150 39 = σ 39 from ((f152 39 (of_decide_eq_true rfl)).trans (f47 39 (of_decide_eq_true rfl))), show σ150 70 = σ 70 from ((f152 70 (of_decide_eq_true rfl)).trans (f47 70 (of_decide_eq_true rfl))), show (σ150 55 32).toInt = (σ 55 32).toInt from by omega]; exact hr8), (show jTt (σ150 42) (σ150 85) (σ150 55 55).toInt by rw [show σ150 42 = σ 42 from ((f152 42 (of_decide_eq_true rfl)).trans (f47 42 (of_decide_eq_true rfl))), show σ150 85 = σ 85 from ((f152 85 (of_decide_eq_true rfl)).trans (f47 85 (of_decide_eq_true rfl))), show (σ150 55 55).toInt = (σ 55 55).toInt from by omega]; exact hr9)⟩ hP hS (lv_sub hl [0, 1, 2, 3] rfl)
set_option maxHeartbeats 4000000 in
set_option maxRecDepth 100000 in
theorem law_case_28 {p : Program} {e : Env} {s : State} {m : MethodId} {below : List Frame} {meth : Method} {c : Code} (l : Launch) {b L : Nat} {xs : Nat → Int32} {D : va_G} {cI cL : ClassId} {ad zz : Nat → Nat} (C0 : lw_At p s m meth c b L xs) (hJ : jD ad) (hA : ∀ q, jA ad q → s.heap.size ≤ q) (hK : jK D cI cL s) (hZ : jZ zz (fun q : Nat => s.heap.size ≤ q) s s.heap) {x0 : Int32} (hx0 : 0 ≤ x0.toInt) (hxL : x0.toInt + 6 ≤ (L : Int)) (hL : L ≤ 384) {σ : Nat → Nat → Int32} {τ : Nat → Nat → Int64} {H : Heap} {locs : List Loc} (hS : va_S (fun q : Nat => s.heap.size ≤ q) s.heap H locs) {ls : Array Slot} (hAll : jAll σ τ) (hP : jH D cI cL ad σ τ H) (hl : lv_has ls 4 [(3, .int x0), (2, .ref (ad 55)), (1, .ref (ad 0)), (0, .ref b)]) (ih : ∀ (x1 : Int32) (σ : Nat → Nat → Int32) (τ : Nat → Nat → Int64) (H : Heap) (locs : List Loc) (ls : Array Slot), x1.toInt = x0.toInt + 6 → jAll σ τ → jH D cI cL ad σ τ H → va_S (fun q : Nat => s.heap.size ≤ q) s.heap H locs → lv_has ls 4 [(3, .int x1), (2, .ref (ad 55)), (1, .ref (ad 0)), (0, .ref b)] → W p l e room_1 s m #[Value.ref b] below meth c H locs 90 348600 (lw_Z below #[Value.ref b] s) (F0 m 18 ls [])) : W p l e room_1 s m #[Value.ref b] below meth c H locs 90 348600 (lw_Z below #[Value.ref b] s) (F0 m 990 ls []) := by
  obtain ⟨hx, hb, hr, hml, hown, hts0, hX, hbl, hlocks, hgv⟩ := C0
  have hts : ∀ w ∈ wsL_law, w.before #[Value.ref b] s = true := fun w h => hts0 w (wsL_law_in w h)
  have hbA : ¬ (fun q : Nat => s.heap.size ≤ q) b := Nat.not_le.mpr hbl
  have hown : s.vm.findClass RL = some m.cls := hown
  obtain ⟨hI2, hI9, hI12, hI16, hI18, hI22, hI31, hI38, hI43, hI47, hI50, hI101, hI102, hI103, hI104, hI105, hI106, hI107, hI109, hI110, hI111, hI119, hs_jKept, hs_jBook, ht0, ht1, ht2, ht3, ht4, ht5, ht6, ht7, ht8, ht9, ht10, ht11, hr0, hr1, hr2, hr3, hr4, hr5, hr6, hr7, hr8, hr9⟩ := hAll
  have hL9 : (L : Int) ≤ 384 := by omega
  obtain ⟨i1, i2, i3, i4, i5, w6⟩ : (0 ≤ (σ 2 0).toInt ∧ (σ 2 0).toInt ≤ 4) ∧ (0 ≤ (σ 2 1).toInt ∧ (σ 2 1).toInt ≤ 3) ∧ (0 ≤ (σ 2 2).toInt) ∧ (0 ≤ (σ 2 3).toInt) ∧ ((σ 2 2).toInt + (σ 2 3).toInt ≤ 40) ∧ (∀ k : Nat, k < 40 → 0 ≤ (σ 6 k).toInt ∧ (σ 6 k).toInt ≤ 67) := id hI2
  obtain ⟨i7, w8, w9⟩ : (0 ≤ (σ 9 0).toInt ∧ (σ 9 0).toInt ≤ 80) ∧ (∀ k : Nat, k < 80 → 0 ≤ (σ 10 k).toInt ∧ (σ 10 k).toInt ≤ 255) ∧ (∀ k : Nat, k < 8 → 0 ≤ (σ 11 k).toInt ∧ (σ 11 k).toInt ≤ 3) := id hI9
  obtain ⟨i10, i11, i12, w13⟩ : (1 ≤ (σ 16 0).toInt ∧ (σ 16 0).toInt ≤ 8) ∧ (1 ≤ (σ 16 1).toInt ∧ (σ 16 1).toInt ≤ 12) ∧ (0 ≤ (σ 16 2).toInt ∧ (σ 16 2).toInt ≤ 999) ∧ (∀ k : Nat, k < 8 → 0 ≤ (σ 17 k).toInt ∧ (σ 17 k).toInt ≤ 3) := id hI16
  obtain ⟨i14, i15, w16⟩ : (0 ≤ (σ 38 0).toInt ∧ (σ 38 0).toInt ≤ 20) ∧ (0 ≤ (σ 38 1).toInt ∧ (σ 38 1).toInt ≤ 1000) ∧ (∀ k : Nat, k < 20 → 0 ≤ (σ 39 k).toInt ∧ (σ 39 k).toInt ≤ 6) := id hI38
  obtain ⟨i17, w18, w19⟩ : (0 ≤ (σ 47 0).toInt ∧ (σ 47 0).toInt ≤ 12) ∧ (∀ k : Nat, k < 12 → 0 ≤ (σ 48 k).toInt ∧ (σ 48 k).toInt ≤ 3) ∧ (∀ k : Nat, k < 12 → 0 ≤ (σ 49 k).toInt ∧ (σ 49 k).toInt ≤ 1) := id hI47
  have w20 : ∀ k : Nat, k < 6 → 0 ≤ (σ 52 k).toInt ∧ (σ 52 k).toInt ≤ 60 := hI50
  obtain ⟨i21, i22, i23, w24, w25, w26, w27⟩ : (0 ≤ (σ 55 5).toInt) ∧ ((σ 55 5).toInt ≤ (σ 55 4).toInt) ∧ ((σ 55 4).toInt ≤ 40) ∧ (∀ k : Nat, k < 68 → (-200) ≤ (σ 56 k).toInt ∧ (σ 56 k).toInt ≤ 500) ∧ (∀ k : Nat, k < 40 → 0 ≤ (σ 57 k).toInt ∧ (σ 57 k).toInt ≤ 67) ∧ (∀ k : Nat, k < 40 → (-200) ≤ (σ 58 k).toInt ∧ (σ 58 k).toInt ≤ 500) ∧ (∀ k : Nat, k < 40 → (-200) ≤ (σ 59 k).toInt ∧ (σ 59 k).toInt ≤ 500) := id hI101
  obtain ⟨i28, w29, w30⟩ : (0 ≤ (σ 55 6).toInt ∧ (σ 55 6).toInt ≤ 4) ∧ (∀ k : Nat, k < 4 → 0 ≤ (σ 60 k).toInt ∧ (σ 60 k).toInt ≤ 50) ∧ (∀ k : Nat, k < 4 → 0 ≤ (σ 61 k).toInt ∧ (σ 61 k).toInt ≤ 20) := id hI102
  obtain ⟨i31, i32, i33, w34, w35⟩ : (1 ≤ (σ 55 10).toInt ∧ (σ 55 10).toInt ≤ 8) ∧ (1 ≤ (σ 55 12).toInt ∧ (σ 55 12).toInt ≤ 12) ∧ (0 ≤ (σ 55 13).toInt ∧ (σ 55 13).toInt ≤ 999) ∧ (∀ k : Nat, k < 8 → 0 ≤ (σ 62 k).toInt ∧ (σ 62 k).toInt ≤ 3) ∧ (∀ k : Nat, k < 8 → 0 ≤ (σ 67 k).toInt ∧ (σ 67 k).toInt ≤ 3) := id hI104
  obtain ⟨i36, w37⟩ : (0 ≤ (σ 55 15).toInt ∧ (σ 55 15).toInt ≤ 80) ∧ (∀ k : Nat, k < 2 → (-1) ≤ (σ 65 k).toInt ∧ (σ 65 k).toInt ≤ 80) := id hI105
  obtain ⟨i38, w39, w40, w41⟩ : (0 ≤ (σ 55 32).toInt ∧ (σ 55 32).toInt ≤ 20) ∧ (∀ k : Nat, k < 20 → 0 ≤ (σ 70 k).toInt ∧ (σ 70 k).toInt ≤ 6) ∧ (∀ k : Nat, k < 20 → 0 ≤ (σ 71 k).toInt ∧ (σ 71 k).toInt ≤ 8) ∧ (∀ k : Nat, k < 160 → 0 ≤ (σ 72 k).toInt ∧ (σ 72 k).toInt ≤ 3) := id hI106
  obtain ⟨i42, i43, w44⟩ : (0 ≤ (σ 55 47).toInt ∧ (σ 55 47).toInt ≤ 12) ∧ ((σ 55 47).toInt ≤ (σ 55 12).toInt) ∧ (∀ k : Nat, k < 12 → 0 ≤ (σ 80 k).toInt ∧ (σ 80 k).toInt ≤ 3) := id hI107
  refine lv_aload_n hx hb dL_law_990 rfl (lv_at hl 2 rfl) ?_
  refine lv_aload_n hx hb dL_law_991 rfl (lv_at hl 3 rfl) ?_
  refine lv_iload_n hx hb dL_law_992 rfl (lv_at hl 0 rfl) ?_
  refine lv_iconst (v := 1) hx hb dL_law_993 (of_decide_eq_true rfl) ?_
  have g45 := jrg (rfl : x0.toInt = x0.toInt)
  refine lv_iadd hx hb dL_law_994 ?_
  refine lv_topi (fun x46 ex46 => ?_)
  exact by
   have tx46 : x46.toInt = x0.toInt + 1 := (jadd ex46 rfl jz_1 (by omega) (by omega)).trans (by omega)
   refine va_sld hx hb hX hbl hbA hS (jin tx46 (by omega) (by omega)) dL_law_995 ?_
   have g47 := jrg (rfl : (xs x46.toNatClampNeg).toInt = (xs x46.toNatClampNeg).toInt)
   refine lv_aload_n hx hb dL_law_996 rfl (lv_at hl 3 rfl) ?_
   refine lv_iload_n hx hb dL_law_997 rfl (lv_at hl 0 rfl) ?_
   refine lv_iconst (v := 2) hx hb dL_law_998 (of_decide_eq_true rfl) ?_
   refine lv_iadd hx hb dL_law_999 ?_
   refine lv_topi (fun x48 ex48 => ?_)
   have tx48 : x48.toInt = x0.toInt + 2 := (jadd ex48 rfl jz_2 (by omega) (by omega)).trans (by omega)
   exact by
    refine va_sld hx hb hX hbl hbA hS (jin tx48 (by omega) (by omega)) dL_law_1000 ?_
    have g49 := jrg (rfl : (xs x48.toNatClampNeg).toInt = (xs x48.toNatClampNeg).toInt)
    refine lv_aload_n hx hb dL_law_1001 rfl (lv_at hl 3 rfl) ?_
    refine lv_iload_n hx hb dL_law_1002 rfl (lv_at hl 0 rfl) ?_
    refine lv_iconst (v := 3) hx hb dL_law_1003 (of_decide_eq_true rfl) ?_
    refine lv_iadd hx hb dL_law_1004 ?_
    refine lv_topi (fun x50 ex50 => ?_)
    have tx50 : x50.toInt = x0.toInt + 3 := (jadd ex50 rfl jz_3 (by omega) (by omega)).trans (by omega)
    refine va_sld hx hb hX hbl hbA hS (jin tx50 (by omega) (by omega)) dL_law_1005 ?_
    exact by
     have g51 := jrg (rfl : (xs x50.toNatClampNeg).toInt = (xs x50.toNatClampNeg).toInt)
     refine jcallV (As := [.int (xs x46.toNatClampNeg), .int (xs x48.toNatClampNeg), .int (xs x50.toNatClampNeg)]) (rest := []) ⟨hx, hb, hml, hown, hts⟩ hK hP hA hS hZ (c_X11_act l D cI cL ad zz hJ σ τ (xs x46.toNatClampNeg) ((xs x46.toNatClampNeg).toInt) rfl (xs x48.toNatClampNeg) ((xs x48.toNatClampNeg).toInt) rfl (xs x50.toNatClampNeg) ((xs x50.toNatClampNeg).toInt) rfl hI38) cw_RL_129 (jc_0 cI cL ad σ τ) rfl ⟨Nat.le_of_ble_eq_true rfl, Nat.le_of_ble_eq_true rfl⟩ rfl rfl rfl hl.1 rfl (Nat.le_of_ble_eq_true rfl) dL_law_1006 ⟨Nat.le_of_ble_eq_true rfl, Nat.le_of_ble_eq_true rfl⟩ (fun r53 σ52 τ52 H locs h52 hP hS => ?_)
     obtain ⟨rfl, f54, f55, I56, h52⟩ := h52
     obtain ⟨i58, i59, w60⟩ : (0 ≤ (σ52 38 0).toInt ∧ (σ52 38 0).toInt ≤ 20) ∧ (0 ≤ (σ52 38 1).toInt ∧ (σ52 38 1).toInt ≤ 1000) ∧ (∀ k : Nat, k < 20 → 0 ≤ (σ52 39 k).toInt ∧ (σ52 39 k).toInt ≤ 6) := id I56
     have z61 : (σ52 38 0).toInt = (σ 38 0).toInt := (congrArg Int32.toInt (show σ52 38 0 = (σ 38 0) from (f55 0 (of_decide_eq_true rfl))))
     rcases h52 with h62 | h63
     · obtain ⟨q66, k64, k65⟩ := h62
       have q66 := q66.symm
       subst q66
       refine lv_pop hx hb dL_law_1009 rfl ?_
       refine lv_aload_n hx hb dL_law_1010 rfl (lv_at hl 1 rfl) ?_
       refine lv_aload_n hx hb dL_law_1011 rfl (lv_at hl 3 rfl) ?_
       refine lv_iload_n hx hb dL_law_1012 rfl (lv_at hl 0 rfl) ?_
       refine lv_iconst (v := 1) hx hb dL_law_1013 (of_decide_eq_true rfl) ?_
       refine lv_iadd hx hb dL_law_1014 ?_
       refine jtopr ex46.symm ?_
       exact by
        refine va_sld hx hb hX hbl hbA hS (jin tx46 (by omega) (by omega)) dL_law_1015 ?_
        refine lv_aload_n hx hb dL_law_1016 rfl (lv_at hl 3 rfl) ?_
        refine lv_iload_n hx hb dL_law_1017 rfl (lv_at hl 0 rfl) ?_
        refine lv_iconst (v := 2) hx hb dL_law_1018 (of_decide_eq_true rfl) ?_
        refine lv_iadd hx hb dL_law_1019 ?_
        refine jtopr ex48.symm ?_
        refine va_sld hx hb hX hbl hbA hS (jin tx48 (by omega) (by omega)) dL_law_1020 ?_
        refine lv_aload_n hx hb dL_law_1021 rfl (lv_at hl 3 rfl) ?_
        refine lv_iload_n hx hb dL_law_1022 rfl (lv_at hl 0 rfl) ?_
        exact by
         refine lv_iconst (v := 3) hx hb dL_law_1023 (of_decide_eq_true rfl) ?_
         refine lv_iadd hx hb dL_law_1024 ?_
         refine jtopr ex50.symm ?_
         refine va_sld hx hb hX hbl hbA hS (jin tx50 (by omega) (by omega)) dL_law_1025 ?_
         have I67 : jI106 σ52 := jI106_fr (congrFun (f54 55 (of_decide_eq_true rfl)) 32) (f54 70 (of_decide_eq_true rfl)) (f54 71 (of_decide_eq_true rfl)) (f54 72 (of_decide_eq_true rfl)) hI106
         have z68 : (σ52 55 32).toInt = (σ 55 32).toInt := (congrArg Int32.toInt (show σ52 55 32 = (σ 55 32) from (congrFun (f54 55 (of_decide_eq_true rfl)) 32)))
         refine jcallV (As := [.int (xs x46.toNatClampNeg), .int (xs x48.toNatClampNeg), .int (xs x50.toNatClampNeg)]) (rest := []) ⟨hx, hb, hml, hown, hts⟩ hK hP hA hS hZ (c_X12_act l D cI cL ad zz hJ σ52 τ (xs x46.toNatClampNeg) ((xs x46.toNatClampNeg).toInt) rfl (xs x48.toNatClampNeg) ((xs x48.toNatClampNeg).toInt) rfl (xs x50.toNatClampNeg) ((xs x50.toNatClampNeg).toInt) rfl I67) cw_RL_132 (jc_55 cI cL ad σ52 τ) rfl ⟨Nat.le_of_ble_eq_true rfl, Nat.le_of_ble_eq_true rfl⟩ rfl rfl rfl hl.1 rfl (Nat.le_of_ble_eq_true rfl) dL_law_1026 ⟨Nat.le_of_ble_eq_true rfl, Nat.le_of_ble_eq_true rfl⟩ (fun r70 σ69 τ69 H locs h69 hP hS => ?_)
         obtain ⟨rfl, f71, f72, h69⟩ := h69
         rcases h69 with h74 | h75
         · exact by
            obtain ⟨q78, k76, k77⟩ := h74
            have q78 := q78.symm
            subst q78
            refine lv_pop hx hb dL_law_1029 rfl ?_
            refine lv_goto (tgt := 1357) hx hb dL_law_1030 (of_decide_eq_true rfl) ?_
            obtain ⟨x79, ex79⟩ : ∃ y : Int32, y = x0 + 6 := ⟨_, rfl⟩
            have tx79 : x79.toInt = x0.toInt + 6 := (jadd ex79 rfl jz_6 (by omega) (by omega)).trans (by omega)
            refine lv_iinc (v := x79) (lv' := [(3, .int x79), (2, .ref (ad 55)), (1, .ref (ad 0)), (0, .ref b)]) hx hb dL_law_1357 hl (k := 0) rfl (by rw [ex79]; rfl) (of_decide_eq_true rfl) rfl (fun ls hl => ?_)
            refine lv_goto (tgt := 18) hx hb dL_law_1360 (of_decide_eq_true rfl) ?_
            exact by
             have I80 : jI2 σ69 := jI2_fr ((congrFun (f71 2 (of_decide_eq_true rfl)) 0).trans (congrFun (f54 2 (of_decide_eq_true rfl)) 0)) ((congrFun (f71 2 (of_decide_eq_true rfl)) 1).trans (congrFun (f54 2 (of_decide_eq_true rfl)) 1)) ((congrFun (f71 2 (of_decide_eq_true rfl)) 2).trans (congrFun (f54 2 (of_decide_eq_true rfl)) 2)) ((congrFun (f71 2 (of_decide_eq_true rfl)) 3).trans (congrFun (f54 2 (of_decide_eq_true rfl)) 3)) ((f71 6 (of_decide_eq_true rfl)).trans (f54 6 (of_decide_eq_true rfl))) hI2
             have I81 : jI9 σ69 := jI9_fr ((congrFun (f71 9 (of_decide_eq_true rfl)) 0).trans (congrFun (f54 9 (of_decide_eq_true rfl)) 0)) ((f71 10 (of_decide_eq_true rfl)).trans (f54 10 (of_decide_eq_true rfl))) ((f71 11 (of_decide_eq_true rfl)).trans (f54 11 (of_decide_eq_true rfl))) hI9
             have I82 : jI12 σ69 := jI12_fr ((congrFun (f71 12 (of_decide_eq_true rfl)) 0).trans (congrFun (f54 12 (of_decide_eq_true rfl)) 0)) ((f71 13 (of_decide_eq_true rfl)).trans (f54 13 (of_decide_eq_true rfl))) hI12
             have I83 : jI16 σ69 := jI16_fr ((congrFun (f71 16 (of_decide_eq_true rfl)) 0).trans (congrFun (f54 16 (of_decide_eq_true rfl)) 0)) ((congrFun (f71 16 (of_decide_eq_true rfl)) 1).trans (congrFun (f54 16 (of_decide_eq_true rfl)) 1)) ((congrFun (f71 16 (of_decide_eq_true rfl)) 2).trans (congrFun (f54 16 (of_decide_eq_true rfl)) 2)) ((f71 17 (of_decide_eq_true rfl)).trans (f54 17 (of_decide_eq_true rfl))) hI16
             have I84 : jI18 σ69 := jI18_fr ((congrFun (f71 18 (of_decide_eq_true rfl)) 0).trans (congrFun (f54 18 (of_decide_eq_true rfl)) 0)) ((f71 19 (of_decide_eq_true rfl)).trans (f54 19 (of_decide_eq_true rfl))) hI18
             have I85 : jI22 σ69 := jI22_fr ((congrFun (f71 22 (of_decide_eq_true rfl)) 0).trans (congrFun (f54 22 (of_decide_eq_true rfl)) 0)) ((f71 23 (of_decide_eq_true rfl)).trans (f54 23 (of_decide_eq_true rfl))) hI22
             have I86 : jI31 σ69 := jI31_fr ((congrFun (f71 31 (of_decide_eq_true rfl)) 8).trans (congrFun (f54 31 (of_decide_eq_true rfl)) 8)) ((f71 33 (of_decide_eq_true rfl)).trans (f54 33 (of_decide_eq_true rfl))) ((f71 36 (of_decide_eq_true rfl)).trans (f54 36 (of_decide_eq_true rfl))) hI31
             have I87 : jI38 σ69 := jI38_fr (congrFun (f71 38 (of_decide_eq_true rfl)) 0) (congrFun (f71 38 (of_decide_eq_true rfl)) 1) (f71 39 (of_decide_eq_true rfl)) I56
             have I88 : jI43 σ69 := jI43_fr ((congrFun (f71 43 (of_decide_eq_true rfl)) 8).trans (congrFun (f54 43 (of_decide_eq_true rfl)) 8)) hI43
             have I89 : jI47 σ69 := jI47_fr ((congrFun (f71 47 (of_decide_eq_true rfl)) 0).trans (congrFun (f54 47 (of_decide_eq_true rfl)) 0)) ((f71 48 (of_decide_eq_true rfl)).trans (f54 48 (of_decide_eq_true rfl))) ((f71 49 (of_decide_eq_true rfl)).trans (f54 49 (of_decide_eq_true rfl))) hI47
             have I90 : jI50 σ69 := jI50_fr ((f71 52 (of_decide_eq_true rfl)).trans (f54 52 (of_decide_eq_true rfl))) hI50
             have I91 : jI101 σ69 := jI101_fr ((f72 4 (of_decide_eq_true rfl)).trans (congrFun (f54 55 (of_decide_eq_true rfl)) 4)) ((f72 5 (of_decide_eq_true rfl)).trans (congrFun (f54 55 (of_decide_eq_true rfl)) 5)) ((f71 56 (of_decide_eq_true rfl)).trans (f54 56 (of_decide_eq_true rfl))) ((f71 57 (of_decide_eq_true rfl)).trans (f54 57 (of_decide_eq_true rfl))) ((f71 58 (of_decide_eq_true rfl)).trans (f54 58 (of_decide_eq_true rfl))) ((f71 59 (of_decide_eq_true rfl)).trans (f54 59 (of_decide_eq_true rfl))) hI101
             have I92 : jI102 σ69 := jI102_fr ((f72 6 (of_decide_eq_true rfl)).trans (congrFun (f54 55 (of_decide_eq_true rfl)) 6)) ((f71 60 (of_decide_eq_true rfl)).trans (f54 60 (of_decide_eq_true rfl))) ((f71 61 (of_decide_eq_true rfl)).trans (f54 61 (of_decide_eq_true rfl))) hI102
             have I93 : jI103 σ69 := jI103_fr ((f72 9 (of_decide_eq_true rfl)).trans (congrFun (f54 55 (of_decide_eq_true rfl)) 9)) hI103
             have I94 : jI104 σ69 := jI104_fr ((f72 10 (of_decide_eq_true rfl)).trans (congrFun (f54 55 (of_decide_eq_true rfl)) 10)) ((f72 12 (of_decide_eq_true rfl)).trans (congrFun (f54 55 (of_decide_eq_true rfl)) 12)) ((f72 13 (of_decide_eq_true rfl)).trans (congrFun (f54 55 (of_decide_eq_true rfl)) 13)) ((f71 62 (of_decide_eq_true rfl)).trans (f54 62 (of_decide_eq_true rfl))) ((f71 67 (of_decide_eq_true rfl)).trans (f54 67 (of_decide_eq_true rfl))) hI104
             have I95 : jI105 σ69 := jI105_fr ((f72 15 (of_decide_eq_true rfl)).trans (congrFun (f54 55 (of_decide_eq_true rfl)) 15)) ((f71 65 (of_decide_eq_true rfl)).trans (f54 65 (of_decide_eq_true rfl))) hI105
             have I96 : jI106 σ69 := jI106_fr (f72 32 (of_decide_eq_true rfl)) (f71 70 (of_decide_eq_true rfl)) (f71 71 (of_decide_eq_true rfl)) (f71 72 (of_decide_eq_true rfl)) I67
             have I97 : jI107 σ69 := jI107_fr ((f72 12 (of_decide_eq_true rfl)).trans (congrFun (f54 55 (of_decide_eq_true rfl)) 12)) ((f72 47 (of_decide_eq_true rfl)).trans (congrFun (f54 55 (of_decide_eq_true rfl)) 47)) ((f71 80 (of_decide_eq_true rfl)).trans (f54 80 (of_decide_eq_true rfl))) hI107
             have I98 : jI109 σ69 := jI109_fr ((f72 50 (of_decide_eq_true rfl)).trans (congrFun (f54 55 (of_decide_eq_true rfl)) 50)) hI109
             have I99 : jI110 σ69 := jI110_fr ((f71 86 (of_decide_eq_true rfl)).trans (f54 86 (of_decide_eq_true rfl))) ((f71 87 (of_decide_eq_true rfl)).trans (f54 87 (of_decide_eq_true rfl))) hI110
             have I100 : jI111 σ69 := jI111_fr ((f71 79 (of_decide_eq_true rfl)).trans (f54 79 (of_decide_eq_true rfl))) hI111
             have I101 : jI119 σ69 := jI119_fr ((f71 68 (of_decide_eq_true rfl)).trans (f54 68 (of_decide_eq_true rfl))) hI119
             have p102 : jKept σ69 := jKept.fr ((f71 75 (of_decide_eq_true rfl)).trans (f54 75 (of_decide_eq_true rfl))) ((f71 76 (of_decide_eq_true rfl)).trans (f54 76 (of_decide_eq_true rfl))) ((f71 77 (of_decide_eq_true rfl)).trans (f54 77 (of_decide_eq_true rfl))) hs_jKept
             have p103 : jBook σ69 := jBook.fr ((f72 47 (of_decide_eq_true rfl)).trans (congrFun (f54 55 (of_decide_eq_true rfl)) 47)) ((f72 10 (of_decide_eq_true rfl)).trans (congrFun (f54 55 (of_decide_eq_true rfl)) 10)) ((f71 81 (of_decide_eq_true rfl)).trans (f54 81 (of_decide_eq_true rfl))) hs_jBook
             have z104 : (σ69 2 0).toInt = (σ 2 0).toInt := (congrArg Int32.toInt (show σ69 2 0 = (σ 2 0) from ((congrFun (f71 2 (of_decide_eq_true rfl)) 0).trans (congrFun (f54 2 (of_decide_eq_true rfl)) 0))))
             have z105 : (σ69 55 6).toInt = (σ 55 6).toInt := (congrArg Int32.toInt (show σ69 55 6 = (σ 55 6) from ((f72 6 (of_decide_eq_true rfl)).trans (congrFun (f54 55 (of_decide_eq_true rfl)) 6))))
             have z106 : (σ69 2 2).toInt = (σ 2 2).toInt := (congrArg Int32.toInt (show σ69 2 2 = (σ 2 2) from ((congrFun (f71 2 (of_decide_eq_true rfl)) 2).trans (congrFun (f54 2 (of_decide_eq_true rfl)) 2))))
             have z107 : (σ69 55 5).toInt = (σ 55 5).toInt := (congrArg Int32.toInt (show σ69 55 5 = (σ 55 5) from ((f72 5 (of_decide_eq_true rfl)).trans (congrFun (f54 55 (of_decide_eq_true rfl)) 5))))
             have z108 : (σ69 2 3).toInt = (σ 2 3).toInt := (congrArg Int32.toInt (show σ69 2 3 = (σ 2 3) from ((congrFun (f71 2 (of_decide_eq_true rfl)) 3).trans (congrFun (f54 2 (of_decide_eq_true rfl)) 3))))
             have z109 : (σ69 55 4).toInt = (σ 55 4).toInt := (congrArg Int32.toInt (show σ69 55 4 = (σ 55 4) from ((f72 4 (of_decide_eq_true rfl)).trans (congrFun (f54 55 (of_decide_eq_true rfl)) 4))))
             have z110 : (σ69 9 0).toInt = (σ 9 0).toInt := (congrArg Int32.toInt (show σ69 9 0 = (σ 9 0) from ((congrFun (f71 9 (of_decide_eq_true rfl)) 0).trans (congrFun (f54 9 (of_decide_eq_true rfl)) 0))))
             have z111 : (σ69 55 15).toInt = (σ 55 15).toInt := (congrArg Int32.toInt (show σ69 55 15 = (σ 55 15) from ((f72 15 (of_decide_eq_true rfl)).trans (congrFun (f54 55 (of_decide_eq_true rfl)) 15))))
             have z112 : (σ69 16 0).toInt = (σ 16 0).toInt := (congrArg Int32.toInt (show σ69 16 0 = (σ 16 0) from ((congrFun (f71 16 (of_decide_eq_true rfl)) 0).trans (congrFun (f54 16 (of_decide_eq_true rfl)) 0))))
             have z113 : (σ69 55 10).toInt = (σ 55 10).toInt := (congrArg Int32.toInt (show σ69 55 10 = (σ 55 10) from ((f72 10 (of_decide_eq_true rfl)).trans (congrFun (f54 55 (of_decide_eq_true rfl)) 10))))
             have z114 : (σ69 16 1).toInt = (σ 16 1).toInt := (congrArg Int32.toInt (show σ69 16 1 = (σ 16 1) from ((congrFun (f71 16 (of_decide_eq_true rfl)) 1).trans (congrFun (f54 16 (of_decide_eq_true rfl)) 1))))
             have z115 : (σ69 55 12).toInt = (σ 55 12).toInt := (congrArg Int32.toInt (show σ69 55 12 = (σ 55 12) from ((f72 12 (of_decide_eq_true rfl)).trans (congrFun (f54 55 (of_decide_eq_true rfl)) 12))))
             have z116 : (σ69 16 2).toInt = (σ 16 2).toInt := (congrArg Int32.toInt (show σ69 16 2 = (σ 16 2) from ((congrFun (f71 16 (of_decide_eq_true rfl)) 2).trans (congrFun (f54 16 (of_decide_eq_true rfl)) 2))))
             have z117 : (σ69 55 13).toInt = (σ 55 13).toInt := (congrArg Int32.toInt (show σ69 55 13 = (σ 55 13) from ((f72 13 (of_decide_eq_true rfl)).trans (congrFun (f54 55 (of_decide_eq_true rfl)) 13))))
             have z118 : (σ69 38 0).toInt = (σ 38 0).toInt := (congrArg Int32.toInt (show σ69 38 0 = (σ 38 0) from ((congrFun (f71 38 (of_decide_eq_true rfl)) 0).trans (f55 0 (of_decide_eq_true rfl)))))
             have z119 : (σ69 55 32).toInt = (σ 55 32).toInt := (congrArg Int32.toInt (show σ69 55 32 = (σ 55 32) from ((f72 32 (of_decide_eq_true rfl)).trans (congrFun (f54 55 (of_decide_eq_true rfl)) 32))))
             have z120 : (σ69 38 1).toInt = (σ52 38 1).toInt := (congrArg Int32.toInt (show σ69 38 1 = (σ52 38 1) from (congrFun (f71 38 (of_decide_eq_true rfl)) 1)))
             have z121 : (σ69 47 0).toInt = (σ 47 0).toInt := (congrArg Int32.toInt (show σ69 47 0 = (σ 47 0) from ((congrFun (f71 47 (of_decide_eq_true rfl)) 0).trans (congrFun (f54 47 (of_decide_eq_true rfl)) 0))))
             have z122 : (σ69 55 47).toInt = (σ 55 47).toInt := (congrArg Int32.toInt (show σ69 55 47 = (σ 55 47) from ((f72 47 (of_decide_eq_true rfl)).trans (congrFun (f54 55 (of_decide_eq_true rfl)) 47))))
             have z123 : (σ69 55 30).toInt = (σ 55 30).toInt := (congrArg Int32.toInt (show σ69 55 30 = (σ 55 30) from ((f72 30 (of_decide_eq_true rfl)).trans (congrFun (f54 55 (of_decide_eq_true rfl)) 30))))
             have z124 : (σ69 55 31).toInt = (σ 55 31).toInt := (congrArg Int32.toInt (show σ69 55 31 = (σ 55 31) from ((f72 31 (of_decide_eq_true rfl)).trans (congrFun (f54 55 (of_decide_eq_true rfl)) 31))))
             exact by exact ih x79 σ69 τ _ _ ls (by have h9 := tx79; omega) ⟨I80, I81, I82, I83, I84, I85, I86, I87, I88, I89, I90, I91, I92, I93, I94, I95, I96, I97, I98, I99, I100, I101, p102, p103, (by omega), (by omega), (by omega), (by omega), (by omega), (by omega), (by omega), (by omega), (by omega), (by omega), (by omega), (by omega), (show jNumP (σ69 3) (σ69 56) (σ69 6) (σ69 57) (σ69 7) (σ69 58) (σ69 8) (σ69 59) (σ69 55 6).toInt (σ69 55 4).toInt by rw [show σ69 3 = σ 3 from ((f71 3 (of_decide_eq_true rfl)).trans (f54 3 (of_decide_eq_true rfl))), show σ69 56 = σ 56 from ((f71 56 (of_decide_eq_true rfl)).trans (f54 56 (of_decide_eq_true rfl))), show σ69 6 = σ 6 from ((f71 6 (of_decide_eq_true rfl)).trans (f54 6 (of_decide_eq_true rfl))), show σ69 57 = σ 57 from ((f71 57 (of_decide_eq_true rfl)).trans (f54 57 (of_decide_eq_true rfl))), show σ69 7 = σ 7 from ((f71 7 (of_decide_eq_true rfl)).trans (f54 7 (of_decide_eq_true rfl))), show σ69 58 = σ 58 from ((f71 58 (of_decide_eq_true rfl)).trans (f54 58 (of_decide_eq_true rfl))), show σ69 8 = σ 8 from ((f71 8 (of_decide_eq_true rfl)).trans (f54 8 (of_decide_eq_true rfl))), show σ69 59 = σ 59 from ((f71 59 (of_decide_eq_true rfl)).trans (f54 59 (of_decide_eq_true rfl))), show (σ69 55 6).toInt = (σ 55 6).toInt from by omega, show (σ69 55 4).toInt = (σ 55 4).toInt from by omega]; exact hr0), (show jOvP (σ69 56) (σ69 57) (σ69 58) (σ69 59) (σ69 55 4).toInt by rw [show σ69 56 = σ 56 from ((f71 56 (of_decide_eq_true rfl)).trans (f54 56 (of_decide_eq_true rfl))), show σ69 57 = σ 57 from ((f71 57 (of_decide_eq_true rfl)).trans (f54 57 (of_decide_eq_true rfl))), show σ69 58 = σ 58 from ((f71 58 (of_decide_eq_true rfl)).trans (f54 58 (of_decide_eq_true rfl))), show σ69 59 = σ 59 from ((f71 59 (of_decide_eq_true rfl)).trans (f54 59 (of_decide_eq_true rfl))), show (σ69 55 4).toInt = (σ 55 4).toInt from by omega]; exact hr1), (show jTp (σ69 10) (σ69 63) (σ69 55 15).toInt by rw [show σ69 10 = σ 10 from ((f71 10 (of_decide_eq_true rfl)).trans (f54 10 (of_decide_eq_true rfl))), show σ69 63 = σ 63 from ((f71 63 (of_decide_eq_true rfl)).trans (f54 63 (of_decide_eq_true rfl)))]; exact hr2.le (by omega)), (show jSo (σ69 17) (σ69 62) (σ69 16 0).toInt by rw [show σ69 17 = σ 17 from ((f71 17 (of_decide_eq_true rfl)).trans (f54 17 (of_decide_eq_true rfl))), show σ69 62 = σ 62 from ((f71 62 (of_decide_eq_true rfl)).trans (f54 62 (of_decide_eq_true rfl))), show (σ69 16 0).toInt = (σ 16 0).toInt from by omega]; exact hr3), (show jShP (σ69 51) (σ69 52) (σ69 53) (σ69 86) (σ69 87) (σ69 55 32).toInt by rw [show σ69 51 = σ 51 from ((f71 51 (of_decide_eq_true rfl)).trans (f54 51 (of_decide_eq_true rfl))), show σ69 52 = σ 52 from ((f71 52 (of_decide_eq_true rfl)).trans (f54 52 (of_decide_eq_true rfl))), show σ69 53 = σ 53 from ((f71 53 (of_decide_eq_true rfl)).trans (f54 53 (of_decide_eq_true rfl))), show σ69 86 = σ 86 from ((f71 86 (of_decide_eq_true rfl)).trans (f54 86 (of_decide_eq_true rfl))), show σ69 87 = σ 87 from ((f71 87 (of_decide_eq_true rfl)).trans (f54 87 (of_decide_eq_true rfl)))]; exact (hr4.up (by omega) (by omega))), (show jEl (σ69 51) (σ69 52) (τ 54) (τ 88) by rw [show σ69 51 = σ 51 from ((f71 51 (of_decide_eq_true rfl)).trans (f54 51 (of_decide_eq_true rfl))), show σ69 52 = σ 52 from ((f71 52 (of_decide_eq_true rfl)).trans (f54 52 (of_decide_eq_true rfl)))]; exact hr5), (show jByP (σ69 51) (σ69 52) (τ 54) by rw [show σ69 51 = σ 51 from ((f71 51 (of_decide_eq_true rfl)).trans (f54 51 (of_decide_eq_true rfl))), show σ69 52 = σ 52 from ((f71 52 (of_decide_eq_true rfl)).trans (f54 52 (of_decide_eq_true rfl)))]; exact hr6), (show jBk (σ69 48) (σ69 80) (σ69 49) (σ69 81) (σ69 55 47).toInt by rw [show σ69 48 = σ 48 from ((f71 48 (of_decide_eq_true rfl)).trans (f54 48 (of_decide_eq_true rfl))), show σ69 49 = σ 49 from ((f71 49 (of_decide_eq_true rfl)).trans (f54 49 (of_decide_eq_true rfl))), show σ69 80 = σ 80 from ((f71 80 (of_decide_eq_true rfl)).trans (f54 80 (of_decide_eq_true rfl))), show σ69 81 = σ 81 from ((f71 81 (of_decide_eq_true rfl)).trans (f54 81 (of_decide_eq_true rfl))), show (σ69 55 47).toInt = (σ 55 47).toInt from by omega]; exact hr7), (show jKd (σ69 39) (σ69 70) (σ69 55 32).toInt by rw [show σ69 39 = σ 39 from ((f71 39 (of_decide_eq_true rfl)).trans (f54 39 (of_decide_eq_true rfl))), show σ69 70 = σ 70 from ((f71 70 (of_decide_eq_true rfl)).trans (f54 70 (of_decide_eq_true rfl))), show (σ69 55 32).toInt = (σ 55 32).toInt from by omega]; exact hr8), (jTt.nil (by omega))⟩ hP hS (lv_sub hl [0, 1, 2, 3] rfl)
         · obtain ⟨q130, k126, k127, k128, k129⟩ := h75
           exact absurd (by omega : False) id
     · obtain ⟨q135, k131, k132, k133, k134⟩ := h63
       refine lv_pop hx hb dL_law_1009 rfl ?_
       refine lv_aload_n hx hb dL_law_1010 rfl (lv_at hl 1 rfl) ?_
       refine lv_aload_n hx hb dL_law_1011 rfl (lv_at hl 3 rfl) ?_
       refine lv_iload_n hx hb dL_law_1012 rfl (lv_at hl 0 rfl) ?_
       refine lv_iconst (v := 1) hx hb dL_law_1013 (of_decide_eq_true rfl) ?_
       refine lv_iadd hx hb dL_law_1014 ?_
       refine jtopr ex46.symm ?_
       exact by
        refine va_sld hx hb hX hbl hbA hS (jin tx46 (by omega) (by omega)) dL_law_1015 ?_
        refine lv_aload_n hx hb dL_law_1016 rfl (lv_at hl 3 rfl) ?_
        refine lv_iload_n hx hb dL_law_1017 rfl (lv_at hl 0 rfl) ?_
        refine lv_iconst (v := 2) hx hb dL_law_1018 (of_decide_eq_true rfl) ?_
        refine lv_iadd hx hb dL_law_1019 ?_
        refine jtopr ex48.symm ?_
        refine va_sld hx hb hX hbl hbA hS (jin tx48 (by omega) (by omega)) dL_law_1020 ?_
        refine lv_aload_n hx hb dL_law_1021 rfl (lv_at hl 3 rfl) ?_
        refine lv_iload_n hx hb dL_law_1022 rfl (lv_at hl 0 rfl) ?_
        exact by
         refine lv_iconst (v := 3) hx hb dL_law_1023 (of_decide_eq_true rfl) ?_
         refine lv_iadd hx hb dL_law_1024 ?_
         refine jtopr ex50.symm ?_
         refine va_sld hx hb hX hbl hbA hS (jin tx50 (by omega) (by omega)) dL_law_1025 ?_
         have I136 : jI106 σ52 := jI106_fr (congrFun (f54 55 (of_decide_eq_true rfl)) 32) (f54 70 (of_decide_eq_true rfl)) (f54 71 (of_decide_eq_true rfl)) (f54 72 (of_decide_eq_true rfl)) hI106
         have z137 : (σ52 55 32).toInt = (σ 55 32).toInt := (congrArg Int32.toInt (show σ52 55 32 = (σ 55 32) from (congrFun (f54 55 (of_decide_eq_true rfl)) 32)))
         refine jcallV (As := [.int (xs x46.toNatClampNeg), .int (xs x48.toNatClampNeg), .int (xs x50.toNatClampNeg)]) (rest := []) ⟨hx, hb, hml, hown, hts⟩ hK hP hA hS hZ (c_X12_act l D cI cL ad zz hJ σ52 τ (xs x46.toNatClampNeg) ((xs x46.toNatClampNeg).toInt) rfl (xs x48.toNatClampNeg) ((xs x48.toNatClampNeg).toInt) rfl (xs x50.toNatClampNeg) ((xs x50.toNatClampNeg).toInt) rfl I136) cw_RL_132 (jc_55 cI cL ad σ52 τ) rfl ⟨Nat.le_of_ble_eq_true rfl, Nat.le_of_ble_eq_true rfl⟩ rfl rfl rfl hl.1 rfl (Nat.le_of_ble_eq_true rfl) dL_law_1026 ⟨Nat.le_of_ble_eq_true rfl, Nat.le_of_ble_eq_true rfl⟩ (fun r139 σ138 τ138 H locs h138 hP hS => ?_)
         obtain ⟨rfl, f140, f141, h138⟩ := h138
         rcases h138 with h143 | h144
         · exact by
            obtain ⟨q147, k145, k146⟩ := h143
            exact absurd (by omega : False) id
         · obtain ⟨q152, k148, k149, k150, k151⟩ := h144
           rw [show σ52 70 = σ 70 from (f54 70 (of_decide_eq_true rfl))] at k151
           have k153 : σ 39 (xs x46.toNatClampNeg).toNatClampNeg = σ 70 (xs x46.toNatClampNeg).toNatClampNeg := hr8 _ (by rw [jnc (rfl : (xs x46.toNatClampNeg).toInt = (xs x46.toNatClampNeg).toInt)]; omega)
           rw [k153] at k134
           have p154 := k134.2.tt k151.2
           have k155 := p154.2
           refine lv_pop hx hb dL_law_1029 rfl ?_
           exact by
            refine lv_goto (tgt := 1357) hx hb dL_law_1030 (of_decide_eq_true rfl) ?_
            obtain ⟨x156, ex156⟩ : ∃ y : Int32, y = x0 + 6 := ⟨_, rfl⟩
            have tx156 : x156.toInt = x0.toInt + 6 := (jadd ex156 rfl jz_6 (by omega) (by omega)).trans (by omega)
            refine lv_iinc (v := x156) (lv' := [(3, .int x156), (2, .ref (ad 55)), (1, .ref (ad 0)), (0, .ref b)]) hx hb dL_law_1357 hl (k := 0) rfl (by rw [ex156]; rfl) (of_decide_eq_true rfl) rfl (fun ls hl => ?_)
            refine lv_goto (tgt := 18) hx hb dL_law_1360 (of_decide_eq_true rfl) ?_
            have I157 : jI2 σ138 := jI2_fr ((congrFun (f140 2 (of_decide_eq_true rfl)) 0).trans (congrFun (f54 2 (of_decide_eq_true rfl)) 0)) ((congrFun (f140 2 (of_decide_eq_true rfl)) 1).trans (congrFun (f54 2 (of_decide_eq_true rfl)) 1)) ((congrFun (f140 2 (of_decide_eq_true rfl)) 2).trans (congrFun (f54 2 (of_decide_eq_true rfl)) 2)) ((congrFun (f140 2 (of_decide_eq_true rfl)) 3).trans (congrFun (f54 2 (of_decide_eq_true rfl)) 3)) ((f140 6 (of_decide_eq_true rfl)).trans (f54 6 (of_decide_eq_true rfl))) hI2
            have I158 : jI9 σ138 := jI9_fr ((congrFun (f140 9 (of_decide_eq_true rfl)) 0).trans (congrFun (f54 9 (of_decide_eq_true rfl)) 0)) ((f140 10 (of_decide_eq_true rfl)).trans (f54 10 (of_decide_eq_true rfl))) ((f140 11 (of_decide_eq_true rfl)).trans (f54 11 (of_decide_eq_true rfl))) hI9
            have I159 : jI12 σ138 := jI12_fr ((congrFun (f140 12 (of_decide_eq_true rfl)) 0).trans (congrFun (f54 12 (of_decide_eq_true rfl)) 0)) ((f140 13 (of_decide_eq_true rfl)).trans (f54 13 (of_decide_eq_true rfl))) hI12
            have I160 : jI16 σ138 := jI16_fr ((congrFun (f140 16 (of_decide_eq_true rfl)) 0).trans (congrFun (f54 16 (of_decide_eq_true rfl)) 0)) ((congrFun (f140 16 (of_decide_eq_true rfl)) 1).trans (congrFun (f54 16 (of_decide_eq_true rfl)) 1)) ((congrFun (f140 16 (of_decide_eq_true rfl)) 2).trans (congrFun (f54 16 (of_decide_eq_true rfl)) 2)) ((f140 17 (of_decide_eq_true rfl)).trans (f54 17 (of_decide_eq_true rfl))) hI16
            exact by
             have I161 : jI18 σ138 := jI18_fr ((congrFun (f140 18 (of_decide_eq_true rfl)) 0).trans (congrFun (f54 18 (of_decide_eq_true rfl)) 0)) ((f140 19 (of_decide_eq_true rfl)).trans (f54 19 (of_decide_eq_true rfl))) hI18
             have I162 : jI22 σ138 := jI22_fr ((congrFun (f140 22 (of_decide_eq_true rfl)) 0).trans (congrFun (f54 22 (of_decide_eq_true rfl)) 0)) ((f140 23 (of_decide_eq_true rfl)).trans (f54 23 (of_decide_eq_true rfl))) hI22
             have I163 : jI31 σ138 := jI31_fr ((congrFun (f140 31 (of_decide_eq_true rfl)) 8).trans (congrFun (f54 31 (of_decide_eq_true rfl)) 8)) ((f140 33 (of_decide_eq_true rfl)).trans (f54 33 (of_decide_eq_true rfl))) ((f140 36 (of_decide_eq_true rfl)).trans (f54 36 (of_decide_eq_true rfl))) hI31
             have I164 : jI38 σ138 := jI38_fr (congrFun (f140 38 (of_decide_eq_true rfl)) 0) (congrFun (f140 38 (of_decide_eq_true rfl)) 1) (f140 39 (of_decide_eq_true rfl)) I56
             have I165 : jI43 σ138 := jI43_fr ((congrFun (f140 43 (of_decide_eq_true rfl)) 8).trans (congrFun (f54 43 (of_decide_eq_true rfl)) 8)) hI43
             have I166 : jI47 σ138 := jI47_fr ((congrFun (f140 47 (of_decide_eq_true rfl)) 0).trans (congrFun (f54 47 (of_decide_eq_true rfl)) 0)) ((f140 48 (of_decide_eq_true rfl)).trans (f54 48 (of_decide_eq_true rfl))) ((f140 49 (of_decide_eq_true rfl)).trans (f54 49 (of_decide_eq_true rfl))) hI47
             have I167 : jI50 σ138 := jI50_fr ((f140 52 (of_decide_eq_true rfl)).trans (f54 52 (of_decide_eq_true rfl))) hI50
             have I168 : jI101 σ138 := jI101_fr ((f141 4 (of_decide_eq_true rfl)).trans (congrFun (f54 55 (of_decide_eq_true rfl)) 4)) ((f141 5 (of_decide_eq_true rfl)).trans (congrFun (f54 55 (of_decide_eq_true rfl)) 5)) ((f140 56 (of_decide_eq_true rfl)).trans (f54 56 (of_decide_eq_true rfl))) ((f140 57 (of_decide_eq_true rfl)).trans (f54 57 (of_decide_eq_true rfl))) ((f140 58 (of_decide_eq_true rfl)).trans (f54 58 (of_decide_eq_true rfl))) ((f140 59 (of_decide_eq_true rfl)).trans (f54 59 (of_decide_eq_true rfl))) hI101
             have I169 : jI102 σ138 := jI102_fr ((f141 6 (of_decide_eq_true rfl)).trans (congrFun (f54 55 (of_decide_eq_true rfl)) 6)) ((f140 60 (of_decide_eq_true rfl)).trans (f54 60 (of_decide_eq_true rfl))) ((f140 61 (of_decide_eq_true rfl)).trans (f54 61 (of_decide_eq_true rfl))) hI102
             have I170 : jI103 σ138 := jI103_fr ((f141 9 (of_decide_eq_true rfl)).trans (congrFun (f54 55 (of_decide_eq_true rfl)) 9)) hI103
             have I171 : jI104 σ138 := jI104_fr ((f141 10 (of_decide_eq_true rfl)).trans (congrFun (f54 55 (of_decide_eq_true rfl)) 10)) ((f141 12 (of_decide_eq_true rfl)).trans (congrFun (f54 55 (of_decide_eq_true rfl)) 12)) ((f141 13 (of_decide_eq_true rfl)).trans (congrFun (f54 55 (of_decide_eq_true rfl)) 13)) ((f140 62 (of_decide_eq_true rfl)).trans (f54 62 (of_decide_eq_true rfl))) ((f140 67 (of_decide_eq_true rfl)).trans (f54 67 (of_decide_eq_true rfl))) hI104
             have I172 : jI105 σ138 := jI105_fr ((f141 15 (of_decide_eq_true rfl)).trans (congrFun (f54 55 (of_decide_eq_true rfl)) 15)) ((f140 65 (of_decide_eq_true rfl)).trans (f54 65 (of_decide_eq_true rfl))) hI105
             have I173 : jI106 σ138 := jI106_fr (f141 32 (of_decide_eq_true rfl)) (f140 70 (of_decide_eq_true rfl)) (f140 71 (of_decide_eq_true rfl)) (f140 72 (of_decide_eq_true rfl)) I136
             have I174 : jI107 σ138 := jI107_fr ((f141 12 (of_decide_eq_true rfl)).trans (congrFun (f54 55 (of_decide_eq_true rfl)) 12)) ((f141 47 (of_decide_eq_true rfl)).trans (congrFun (f54 55 (of_decide_eq_true rfl)) 47)) ((f140 80 (of_decide_eq_true rfl)).trans (f54 80 (of_decide_eq_true rfl))) hI107
             have I175 : jI109 σ138 := jI109_fr ((f141 50 (of_decide_eq_true rfl)).trans (congrFun (f54 55 (of_decide_eq_true rfl)) 50)) hI109
             have I176 : jI110 σ138 := jI110_fr ((f140 86 (of_decide_eq_true rfl)).trans (f54 86 (of_decide_eq_true rfl))) ((f140 87 (of_decide_eq_true rfl)).trans (f54 87 (of_decide_eq_true rfl))) hI110
             have I177 : jI111 σ138 := jI111_fr ((f140 79 (of_decide_eq_true rfl)).trans (f54 79 (of_decide_eq_true rfl))) hI111
             have I178 : jI119 σ138 := jI119_fr ((f140 68 (of_decide_eq_true rfl)).trans (f54 68 (of_decide_eq_true rfl))) hI119
             have p179 : jKept σ138 := jKept.fr ((f140 75 (of_decide_eq_true rfl)).trans (f54 75 (of_decide_eq_true rfl))) ((f140 76 (of_decide_eq_true rfl)).trans (f54 76 (of_decide_eq_true rfl))) ((f140 77 (of_decide_eq_true rfl)).trans (f54 77 (of_decide_eq_true rfl))) hs_jKept
             have p180 : jBook σ138 := jBook.fr ((f141 47 (of_decide_eq_true rfl)).trans (congrFun (f54 55 (of_decide_eq_true rfl)) 47)) ((f141 10 (of_decide_eq_true rfl)).trans (congrFun (f54 55 (of_decide_eq_true rfl)) 10)) ((f140 81 (of_decide_eq_true rfl)).trans (f54 81 (of_decide_eq_true rfl))) hs_jBook
             have z181 : (σ138 2 0).toInt = (σ 2 0).toInt := (congrArg Int32.toInt (show σ138 2 0 = (σ 2 0) from ((congrFun (f140 2 (of_decide_eq_true rfl)) 0).trans (congrFun (f54 2 (of_decide_eq_true rfl)) 0))))
             have z182 : (σ138 55 6).toInt = (σ 55 6).toInt := (congrArg Int32.toInt (show σ138 55 6 = (σ 55 6) from ((f141 6 (of_decide_eq_true rfl)).trans (congrFun (f54 55 (of_decide_eq_true rfl)) 6))))
             have z183 : (σ138 2 2).toInt = (σ 2 2).toInt := (congrArg Int32.toInt (show σ138 2 2 = (σ 2 2) from ((congrFun (f140 2 (of_decide_eq_true rfl)) 2).trans (congrFun (f54 2 (of_decide_eq_true rfl)) 2))))
             have z184 : (σ138 55 5).toInt = (σ 55 5).toInt := (congrArg Int32.toInt (show σ138 55 5 = (σ 55 5) from ((f141 5 (of_decide_eq_true rfl)).trans (congrFun (f54 55 (of_decide_eq_true rfl)) 5))))
             have z185 : (σ138 2 3).toInt = (σ 2 3).toInt := (congrArg Int32.toInt (show σ138 2 3 = (σ 2 3) from ((congrFun (f140 2 (of_decide_eq_true rfl)) 3).trans (congrFun (f54 2 (of_decide_eq_true rfl)) 3))))
             have z186 : (σ138 55 4).toInt = (σ 55 4).toInt := (congrArg Int32.toInt (show σ138 55 4 = (σ 55 4) from ((f141 4 (of_decide_eq_true rfl)).trans (congrFun (f54 55 (of_decide_eq_true rfl)) 4))))
             have z187 : (σ138 9 0).toInt = (σ 9 0).toInt := (congrArg Int32.toInt (show σ138 9 0 = (σ 9 0) from ((congrFun (f140 9 (of_decide_eq_true rfl)) 0).trans (congrFun (f54 9 (of_decide_eq_true rfl)) 0))))
             have z188 : (σ138 55 15).toInt = (σ 55 15).toInt := (congrArg Int32.toInt (show σ138 55 15 = (σ 55 15) from ((f141 15 (of_decide_eq_true rfl)).trans (congrFun (f54 55 (of_decide_eq_true rfl)) 15))))
             have z189 : (σ138 16 0).toInt = (σ 16 0).toInt := (congrArg Int32.toInt (show σ138 16 0 = (σ 16 0) from ((congrFun (f140 16 (of_decide_eq_true rfl)) 0).trans (congrFun (f54 16 (of_decide_eq_true rfl)) 0))))
             have z190 : (σ138 55 10).toInt = (σ 55 10).toInt := (congrArg Int32.toInt (show σ138 55 10 = (σ 55 10) from ((f141 10 (of_decide_eq_true rfl)).trans (congrFun (f54 55 (of_decide_eq_true rfl)) 10))))
             have z191 : (σ138 16 1).toInt = (σ 16 1).toInt := (congrArg Int32.toInt (show σ138 16 1 = (σ 16 1) from ((congrFun (f140 16 (of_decide_eq_true rfl)) 1).trans (congrFun (f54 16 (of_decide_eq_true rfl)) 1))))
             have z192 : (σ138 55 12).toInt = (σ 55 12).toInt := (congrArg Int32.toInt (show σ138 55 12 = (σ 55 12) from ((f141 12 (of_decide_eq_true rfl)).trans (congrFun (f54 55 (of_decide_eq_true rfl)) 12))))
             have z193 : (σ138 16 2).toInt = (σ 16 2).toInt := (congrArg Int32.toInt (show σ138 16 2 = (σ 16 2) from ((congrFun (f140 16 (of_decide_eq_true rfl)) 2).trans (congrFun (f54 16 (of_decide_eq_true rfl)) 2))))
             have z194 : (σ138 55 13).toInt = (σ 55 13).toInt := (congrArg Int32.toInt (show σ138 55 13 = (σ 55 13) from ((f141 13 (of_decide_eq_true rfl)).trans (congrFun (f54 55 (of_decide_eq_true rfl)) 13))))
             have z195 : (σ138 38 0).toInt = (σ 38 0).toInt := (congrArg Int32.toInt (show σ138 38 0 = (σ 38 0) from ((congrFun (f140 38 (of_decide_eq_true rfl)) 0).trans (f55 0 (of_decide_eq_true rfl)))))
             have z196 : (σ138 55 32).toInt = (σ 55 32).toInt := (congrArg Int32.toInt (show σ138 55 32 = (σ 55 32) from ((f141 32 (of_decide_eq_true rfl)).trans (congrFun (f54 55 (of_decide_eq_true rfl)) 32))))
             have z197 : (σ138 38 1).toInt = (σ52 38 1).toInt := (congrArg Int32.toInt (show σ138 38 1 = (σ52 38 1) from (congrFun (f140 38 (of_decide_eq_true rfl)) 1)))
             have z198 : (σ138 47 0).toInt = (σ 47 0).toInt := (congrArg Int32.toInt (show σ138 47 0 = (σ 47 0) from ((congrFun (f140 47 (of_decide_eq_true rfl)) 0).trans (congrFun (f54 47 (of_decide_eq_true rfl)) 0))))
             have z199 : (σ138 55 47).toInt = (σ 55 47).toInt := (congrArg Int32.toInt (show σ138 55 47 = (σ 55 47) from ((f141 47 (of_decide_eq_true rfl)).trans (congrFun (f54 55 (of_decide_eq_true rfl)) 47))))
             have z200 : (σ138 55 30).toInt = (σ 55 30).toInt := (congrArg Int32.toInt (show σ138 55 30 = (σ 55 30) from ((f141 30 (of_decide_eq_true rfl)).trans (congrFun (f54 55 (of_decide_eq_true rfl)) 30))))
             have z201 : (σ138 55 31).toInt = (σ 55 31).toInt := (congrArg Int32.toInt (show σ138 55 31 = (σ 55 31) from ((f141 31 (of_decide_eq_true rfl)).trans (congrFun (f54 55 (of_decide_eq_true rfl)) 31))))
             exact by exact ih x156 σ138 τ _ _ ls (by have h9 := tx156; omega) ⟨I157, I158, I159, I160, I161, I162, I163, I164, I165, I166, I167, I168, I169, I170, I171, I172, I173, I174, I175, I176, I177, I178, p179, p180, (by omega), (by omega), (by omega), (by omega), (by omega), (by omega), (by omega), (by omega), (by omega), (by omega), (by omega), (by omega), (show jNumP (σ138 3) (σ138 56) (σ138 6) (σ138 57) (σ138 7) (σ138 58) (σ138 8) (σ138 59) (σ138 55 6).toInt (σ138 55 4).toInt by rw [show σ138 3 = σ 3 from ((f140 3 (of_decide_eq_true rfl)).trans (f54 3 (of_decide_eq_true rfl))), show σ138 56 = σ 56 from ((f140 56 (of_decide_eq_true rfl)).trans (f54 56 (of_decide_eq_true rfl))), show σ138 6 = σ 6 from ((f140 6 (of_decide_eq_true rfl)).trans (f54 6 (of_decide_eq_true rfl))), show σ138 57 = σ 57 from ((f140 57 (of_decide_eq_true rfl)).trans (f54 57 (of_decide_eq_true rfl))), show σ138 7 = σ 7 from ((f140 7 (of_decide_eq_true rfl)).trans (f54 7 (of_decide_eq_true rfl))), show σ138 58 = σ 58 from ((f140 58 (of_decide_eq_true rfl)).trans (f54 58 (of_decide_eq_true rfl))), show σ138 8 = σ 8 from ((f140 8 (of_decide_eq_true rfl)).trans (f54 8 (of_decide_eq_true rfl))), show σ138 59 = σ 59 from ((f140 59 (of_decide_eq_true rfl)).trans (f54 59 (of_decide_eq_true rfl))), show (σ138 55 6).toInt = (σ 55 6).toInt from by omega, show (σ138 55 4).toInt = (σ 55 4).toInt from by omega]; exact hr0), (show jOvP (σ138 56) (σ138 57) (σ138 58) (σ138 59) (σ138 55 4).toInt by rw [show σ138 56 = σ 56 from ((f140 56 (of_decide_eq_true rfl)).trans (f54 56 (of_decide_eq_true rfl))), show σ138 57 = σ 57 from ((f140 57 (of_decide_eq_true rfl)).trans (f54 57 (of_decide_eq_true rfl))), show σ138 58 = σ 58 from ((f140 58 (of_decide_eq_true rfl)).trans (f54 58 (of_decide_eq_true rfl))), show σ138 59 = σ 59 from ((f140 59 (of_decide_eq_true rfl)).trans (f54 59 (of_decide_eq_true rfl))), show (σ138 55 4).toInt = (σ 55 4).toInt from by omega]; exact hr1), (show jTp (σ138 10) (σ138 63) (σ138 55 15).toInt by rw [show σ138 10 = σ 10 from ((f140 10 (of_decide_eq_true rfl)).trans (f54 10 (of_decide_eq_true rfl))), show σ138 63 = σ 63 from ((f140 63 (of_decide_eq_true rfl)).trans (f54 63 (of_decide_eq_true rfl)))]; exact hr2.le (by omega)), (show jSo (σ138 17) (σ138 62) (σ138 16 0).toInt by rw [show σ138 17 = σ 17 from ((f140 17 (of_decide_eq_true rfl)).trans (f54 17 (of_decide_eq_true rfl))), show σ138 62 = σ 62 from ((f140 62 (of_decide_eq_true rfl)).trans (f54 62 (of_decide_eq_true rfl))), show (σ138 16 0).toInt = (σ 16 0).toInt from by omega]; exact hr3), (show jShP (σ138 51) (σ138 52) (σ138 53) (σ138 86) (σ138 87) (σ138 55 32).toInt by rw [show σ138 51 = σ 51 from ((f140 51 (of_decide_eq_true rfl)).trans (f54 51 (of_decide_eq_true rfl))), show σ138 52 = σ 52 from ((f140 52 (of_decide_eq_true rfl)).trans (f54 52 (of_decide_eq_true rfl))), show σ138 53 = σ 53 from ((f140 53 (of_decide_eq_true rfl)).trans (f54 53 (of_decide_eq_true rfl))), show σ138 86 = σ 86 from ((f140 86 (of_decide_eq_true rfl)).trans (f54 86 (of_decide_eq_true rfl))), show σ138 87 = σ 87 from ((f140 87 (of_decide_eq_true rfl)).trans (f54 87 (of_decide_eq_true rfl)))]; exact (hr4.up (by omega) (by omega))), (show jEl (σ138 51) (σ138 52) (τ 54) (τ 88) by rw [show σ138 51 = σ 51 from ((f140 51 (of_decide_eq_true rfl)).trans (f54 51 (of_decide_eq_true rfl))), show σ138 52 = σ 52 from ((f140 52 (of_decide_eq_true rfl)).trans (f54 52 (of_decide_eq_true rfl)))]; exact hr5), (show jByP (σ138 51) (σ138 52) (τ 54) by rw [show σ138 51 = σ 51 from ((f140 51 (of_decide_eq_true rfl)).trans (f54 51 (of_decide_eq_true rfl))), show σ138 52 = σ 52 from ((f140 52 (of_decide_eq_true rfl)).trans (f54 52 (of_decide_eq_true rfl)))]; exact hr6), (show jBk (σ138 48) (σ138 80) (σ138 49) (σ138 81) (σ138 55 47).toInt by rw [show σ138 48 = σ 48 from ((f140 48 (of_decide_eq_true rfl)).trans (f54 48 (of_decide_eq_true rfl))), show σ138 49 = σ 49 from ((f140 49 (of_decide_eq_true rfl)).trans (f54 49 (of_decide_eq_true rfl))), show σ138 80 = σ 80 from ((f140 80 (of_decide_eq_true rfl)).trans (f54 80 (of_decide_eq_true rfl))), show σ138 81 = σ 81 from ((f140 81 (of_decide_eq_true rfl)).trans (f54 81 (of_decide_eq_true rfl))), show (σ138 55 47).toInt = (σ 55 47).toInt from by omega]; exact hr7), (show jKd (σ138 39) (σ138 70) (σ138 55 32).toInt by rw [show σ138 39 = σ 39 from ((f140 39 (of_decide_eq_true rfl)).trans (f54 39 (of_decide_eq_true rfl))), show σ138 70 = σ 70 from ((f140 70 (of_decide_eq_true rfl)).trans (f54 70 (of_decide_eq_true rfl))), show (σ138 55 32).toInt = (σ 55 32).toInt from by omega]; exact hr8), (show jTt (σ138 42) (σ138 85) (σ138 55 55).toInt by rw [show σ138 42 = σ52 42 from (f140 42 (of_decide_eq_true rfl))]; exact p154.1)⟩ hP hS (lv_sub hl [0, 1, 2, 3] rfl)
set_option maxHeartbeats 4000000 in
set_option maxRecDepth 100000 in
theorem law_case_29 {p : Program} {e : Env} {s : State} {m : MethodId} {below : List Frame} {meth : Method} {c : Code} (l : Launch) {b L : Nat} {xs : Nat → Int32} {D : va_G} {cI cL : ClassId} {ad zz : Nat → Nat} (C0 : lw_At p s m meth c b L xs) (hJ : jD ad) (hA : ∀ q, jA ad q → s.heap.size ≤ q) (hK : jK D cI cL s) (hZ : jZ zz (fun q : Nat => s.heap.size ≤ q) s s.heap) {x0 : Int32} (hx0 : 0 ≤ x0.toInt) (hxL : x0.toInt + 6 ≤ (L : Int)) (hL : L ≤ 384) {σ : Nat → Nat → Int32} {τ : Nat → Nat → Int64} {H : Heap} {locs : List Loc} (hS : va_S (fun q : Nat => s.heap.size ≤ q) s.heap H locs) {ls : Array Slot} (hAll : jAll σ τ) (hP : jH D cI cL ad σ τ H) (hl : lv_has ls 4 [(3, .int x0), (2, .ref (ad 55)), (1, .ref (ad 0)), (0, .ref b)]) (ih : ∀ (x1 : Int32) (σ : Nat → Nat → Int32) (τ : Nat → Nat → Int64) (H : Heap) (locs : List Loc) (ls : Array Slot), x1.toInt = x0.toInt + 6 → jAll σ τ → jH D cI cL ad σ τ H → va_S (fun q : Nat => s.heap.size ≤ q) s.heap H locs → lv_has ls 4 [(3, .int x1), (2, .ref (ad 55)), (1, .ref (ad 0)), (0, .ref b)] → W p l e room_1 s m #[Value.ref b] below meth c H locs 90 348600 (lw_Z below #[Value.ref b] s) (F0 m 18 ls [])) : W p l e room_1 s m #[Value.ref b] below meth c H locs 90 348600 (lw_Z below #[Value.ref b] s) (F0 m 1033 ls []) := by
  obtain ⟨hx, hb, hr, hml, hown, hts0, hX, hbl, hlocks, hgv⟩ := C0
  have hts : ∀ w ∈ wsL_law, w.before #[Value.ref b] s = true := fun w h => hts0 w (wsL_law_in w h)
  have hbA : ¬ (fun q : Nat => s.heap.size ≤ q) b := Nat.not_le.mpr hbl
  have hown : s.vm.findClass RL = some m.cls := hown
  obtain ⟨hI2, hI9, hI12, hI16, hI18, hI22, hI31, hI38, hI43, hI47, hI50, hI101, hI102, hI103, hI104, hI105, hI106, hI107, hI109, hI110, hI111, hI119, hs_jKept, hs_jBook, ht0, ht1, ht2, ht3, ht4, ht5, ht6, ht7, ht8, ht9, ht10, ht11, hr0, hr1, hr2, hr3, hr4, hr5, hr6, hr7, hr8, hr9⟩ := hAll
  have hL9 : (L : Int) ≤ 384 := by omega
  obtain ⟨i1, i2, i3, i4, i5, w6⟩ : (0 ≤ (σ 2 0).toInt ∧ (σ 2 0).toInt ≤ 4) ∧ (0 ≤ (σ 2 1).toInt ∧ (σ 2 1).toInt ≤ 3) ∧ (0 ≤ (σ 2 2).toInt) ∧ (0 ≤ (σ 2 3).toInt) ∧ ((σ 2 2).toInt + (σ 2 3).toInt ≤ 40) ∧ (∀ k : Nat, k < 40 → 0 ≤ (σ 6 k).toInt ∧ (σ 6 k).toInt ≤ 67) := id hI2
  obtain ⟨i7, w8, w9⟩ : (0 ≤ (σ 9 0).toInt ∧ (σ 9 0).toInt ≤ 80) ∧ (∀ k : Nat, k < 80 → 0 ≤ (σ 10 k).toInt ∧ (σ 10 k).toInt ≤ 255) ∧ (∀ k : Nat, k < 8 → 0 ≤ (σ 11 k).toInt ∧ (σ 11 k).toInt ≤ 3) := id hI9
  obtain ⟨i10, i11, i12, w13⟩ : (1 ≤ (σ 16 0).toInt ∧ (σ 16 0).toInt ≤ 8) ∧ (1 ≤ (σ 16 1).toInt ∧ (σ 16 1).toInt ≤ 12) ∧ (0 ≤ (σ 16 2).toInt ∧ (σ 16 2).toInt ≤ 999) ∧ (∀ k : Nat, k < 8 → 0 ≤ (σ 17 k).toInt ∧ (σ 17 k).toInt ≤ 3) := id hI16
  obtain ⟨i14, i15, w16⟩ : (0 ≤ (σ 38 0).toInt ∧ (σ 38 0).toInt ≤ 20) ∧ (0 ≤ (σ 38 1).toInt ∧ (σ 38 1).toInt ≤ 1000) ∧ (∀ k : Nat, k < 20 → 0 ≤ (σ 39 k).toInt ∧ (σ 39 k).toInt ≤ 6) := id hI38
  obtain ⟨i17, w18, w19⟩ : (0 ≤ (σ 47 0).toInt ∧ (σ 47 0).toInt ≤ 12) ∧ (∀ k : Nat, k < 12 → 0 ≤ (σ 48 k).toInt ∧ (σ 48 k).toInt ≤ 3) ∧ (∀ k : Nat, k < 12 → 0 ≤ (σ 49 k).toInt ∧ (σ 49 k).toInt ≤ 1) := id hI47
  have w20 : ∀ k : Nat, k < 6 → 0 ≤ (σ 52 k).toInt ∧ (σ 52 k).toInt ≤ 60 := hI50
  obtain ⟨i21, i22, i23, w24, w25, w26, w27⟩ : (0 ≤ (σ 55 5).toInt) ∧ ((σ 55 5).toInt ≤ (σ 55 4).toInt) ∧ ((σ 55 4).toInt ≤ 40) ∧ (∀ k : Nat, k < 68 → (-200) ≤ (σ 56 k).toInt ∧ (σ 56 k).toInt ≤ 500) ∧ (∀ k : Nat, k < 40 → 0 ≤ (σ 57 k).toInt ∧ (σ 57 k).toInt ≤ 67) ∧ (∀ k : Nat, k < 40 → (-200) ≤ (σ 58 k).toInt ∧ (σ 58 k).toInt ≤ 500) ∧ (∀ k : Nat, k < 40 → (-200) ≤ (σ 59 k).toInt ∧ (σ 59 k).toInt ≤ 500) := id hI101
  obtain ⟨i28, w29, w30⟩ : (0 ≤ (σ 55 6).toInt ∧ (σ 55 6).toInt ≤ 4) ∧ (∀ k : Nat, k < 4 → 0 ≤ (σ 60 k).toInt ∧ (σ 60 k).toInt ≤ 50) ∧ (∀ k : Nat, k < 4 → 0 ≤ (σ 61 k).toInt ∧ (σ 61 k).toInt ≤ 20) := id hI102
  obtain ⟨i31, i32, i33, w34, w35⟩ : (1 ≤ (σ 55 10).toInt ∧ (σ 55 10).toInt ≤ 8) ∧ (1 ≤ (σ 55 12).toInt ∧ (σ 55 12).toInt ≤ 12) ∧ (0 ≤ (σ 55 13).toInt ∧ (σ 55 13).toInt ≤ 999) ∧ (∀ k : Nat, k < 8 → 0 ≤ (σ 62 k).toInt ∧ (σ 62 k).toInt ≤ 3) ∧ (∀ k : Nat, k < 8 → 0 ≤ (σ 67 k).toInt ∧ (σ 67 k).toInt ≤ 3) := id hI104
  obtain ⟨i36, w37⟩ : (0 ≤ (σ 55 15).toInt ∧ (σ 55 15).toInt ≤ 80) ∧ (∀ k : Nat, k < 2 → (-1) ≤ (σ 65 k).toInt ∧ (σ 65 k).toInt ≤ 80) := id hI105
  obtain ⟨i38, w39, w40, w41⟩ : (0 ≤ (σ 55 32).toInt ∧ (σ 55 32).toInt ≤ 20) ∧ (∀ k : Nat, k < 20 → 0 ≤ (σ 70 k).toInt ∧ (σ 70 k).toInt ≤ 6) ∧ (∀ k : Nat, k < 20 → 0 ≤ (σ 71 k).toInt ∧ (σ 71 k).toInt ≤ 8) ∧ (∀ k : Nat, k < 160 → 0 ≤ (σ 72 k).toInt ∧ (σ 72 k).toInt ≤ 3) := id hI106
  obtain ⟨i42, i43, w44⟩ : (0 ≤ (σ 55 47).toInt ∧ (σ 55 47).toInt ≤ 12) ∧ ((σ 55 47).toInt ≤ (σ 55 12).toInt) ∧ (∀ k : Nat, k < 12 → 0 ≤ (σ 80 k).toInt ∧ (σ 80 k).toInt ≤ 3) := id hI107
  refine lv_aload_n hx hb dL_law_1033 rfl (lv_at hl 2 rfl) ?_
  refine lv_aload_n hx hb dL_law_1034 rfl (lv_at hl 3 rfl) ?_
  refine lv_iload_n hx hb dL_law_1035 rfl (lv_at hl 0 rfl) ?_
  refine lv_iconst (v := 1) hx hb dL_law_1036 (of_decide_eq_true rfl) ?_
  have g45 := jrg (rfl : x0.toInt = x0.toInt)
  refine lv_iadd hx hb dL_law_1037 ?_
  refine lv_topi (fun x46 ex46 => ?_)
  exact by
   have tx46 : x46.toInt = x0.toInt + 1 := (jadd ex46 rfl jz_1 (by omega) (by omega)).trans (by omega)
   refine va_sld hx hb hX hbl hbA hS (jin tx46 (by omega) (by omega)) dL_law_1038 ?_
   have g47 := jrg (rfl : (xs x46.toNatClampNeg).toInt = (xs x46.toNatClampNeg).toInt)
   refine jcallV (As := [.int (xs x46.toNatClampNeg)]) (rest := []) ⟨hx, hb, hml, hown, hts⟩ hK hP hA hS hZ (c_X11_trace l D cI cL ad zz hJ σ τ (xs x46.toNatClampNeg) ((xs x46.toNatClampNeg).toInt) rfl hI38) cw_RL_133 (jc_0 cI cL ad σ τ) rfl ⟨Nat.le_of_ble_eq_true rfl, Nat.le_of_ble_eq_true rfl⟩ rfl rfl rfl hl.1 rfl (Nat.le_of_ble_eq_true rfl) dL_law_1039 ⟨Nat.le_of_ble_eq_true rfl, Nat.le_of_ble_eq_true rfl⟩ (fun r49 σ48 τ48 H locs h48 hP hS => ?_)
   obtain ⟨⟨rfl, rfl⟩, h48⟩ := h48
   rcases h48 with h50 | h51
   · obtain ⟨q55, k52, k53, k54⟩ := h50
     have q56 : r49 = (σ 42 (xs x46.toNatClampNeg).toNatClampNeg) := q55.trans rfl
     have q56 := q56.symm
     exact by
      subst q56
      refine lv_pop hx hb dL_law_1042 rfl ?_
      refine lv_aload_n hx hb dL_law_1043 rfl (lv_at hl 1 rfl) ?_
      refine lv_aload_n hx hb dL_law_1044 rfl (lv_at hl 3 rfl) ?_
      refine lv_iload_n hx hb dL_law_1045 rfl (lv_at hl 0 rfl) ?_
      refine lv_iconst (v := 1) hx hb dL_law_1046 (of_decide_eq_true rfl) ?_
      refine lv_iadd hx hb dL_law_1047 ?_
      refine jtopr ex46.symm ?_
      refine va_sld hx hb hX hbl hbA hS (jin tx46 (by omega) (by omega)) dL_law_1048 ?_
      exact by
       refine jcallV (As := [.int (xs x46.toNatClampNeg)]) (rest := []) ⟨hx, hb, hml, hown, hts⟩ hK hP hA hS hZ (c_X12_trace l D cI cL ad zz hJ σ τ (xs x46.toNatClampNeg) ((xs x46.toNatClampNeg).toInt) rfl) cw_RL_136 (jc_55 cI cL ad σ τ) rfl ⟨Nat.le_of_ble_eq_true rfl, Nat.le_of_ble_eq_true rfl⟩ rfl rfl rfl hl.1 rfl (Nat.le_of_ble_eq_true rfl) dL_law_1049 ⟨Nat.le_of_ble_eq_true rfl, Nat.le_of_ble_eq_true rfl⟩ (fun r58 σ57 τ57 H locs h57 hP hS => ?_)
       obtain ⟨⟨rfl, rfl⟩, h57⟩ := h57
       rcases h57 with h59 | h60
       · obtain ⟨q64, k61, k62, k63⟩ := h59
         have q65 : r58 = (σ 85 (xs x46.toNatClampNeg).toNatClampNeg) := q64.trans rfl
         have q65 := q65.symm
         subst q65
         refine lv_pop hx hb dL_law_1052 rfl ?_
         refine lv_goto (tgt := 1357) hx hb dL_law_1053 (of_decide_eq_true rfl) ?_
         obtain ⟨x66, ex66⟩ : ∃ y : Int32, y = x0 + 6 := ⟨_, rfl⟩
         exact by
          have tx66 : x66.toInt = x0.toInt + 6 := (jadd ex66 rfl jz_6 (by omega) (by omega)).trans (by omega)
          refine lv_iinc (v := x66) (lv' := [(3, .int x66), (2, .ref (ad 55)), (1, .ref (ad 0)), (0, .ref b)]) hx hb dL_law_1357 hl (k := 0) rfl (by rw [ex66]; rfl) (of_decide_eq_true rfl) rfl (fun ls hl => ?_)
          refine lv_goto (tgt := 18) hx hb dL_law_1360 (of_decide_eq_true rfl) ?_
          exact by exact ih x66 σ τ _ _ ls (by have h9 := tx66; omega) ⟨hI2, hI9, hI12, hI16, hI18, hI22, hI31, hI38, hI43, hI47, hI50, hI101, hI102, hI103, hI104, hI105, hI106, hI107, hI109, hI110, hI111, hI119, hs_jKept, hs_jBook, (by omega), (by omega), (by omega), (by omega), (by omega), (by omega), (by omega), (by omega), (by omega), (by omega), (by omega), (by omega), hr0, hr1, hr2, hr3, hr4, hr5, hr6, hr7, hr8, hr9⟩ hP hS (lv_sub hl [0, 1, 2, 3] rfl)
       · obtain ⟨q68, k67⟩ := h60
         exact absurd (by omega : False) id
   · obtain ⟨q70, k69⟩ := h51
     have q70 := q70.symm
     subst q70
     exact by
      refine lv_pop hx hb dL_law_1042 rfl ?_
      refine lv_aload_n hx hb dL_law_1043 rfl (lv_at hl 1 rfl) ?_
      refine lv_aload_n hx hb dL_law_1044 rfl (lv_at hl 3 rfl) ?_
      refine lv_iload_n hx hb dL_law_1045 rfl (lv_at hl 0 rfl) ?_
      refine lv_iconst (v := 1) hx hb dL_law_1046 (of_decide_eq_true rfl) ?_
      refine lv_iadd hx hb dL_law_1047 ?_
      refine jtopr ex46.symm ?_
      refine va_sld hx hb hX hbl hbA hS (jin tx46 (by omega) (by omega)) dL_law_1048 ?_
      refine jcallV (As := [.int (xs x46.toNatClampNeg)]) (rest := []) ⟨hx, hb, hml, hown, hts⟩ hK hP hA hS hZ (c_X12_trace l D cI cL ad zz hJ σ τ (xs x46.toNatClampNeg) ((xs x46.toNatClampNeg).toInt) rfl) cw_RL_136 (jc_55 cI cL ad σ τ) rfl ⟨Nat.le_of_ble_eq_true rfl, Nat.le_of_ble_eq_true rfl⟩ rfl rfl rfl hl.1 rfl (Nat.le_of_ble_eq_true rfl) dL_law_1049 ⟨Nat.le_of_ble_eq_true rfl, Nat.le_of_ble_eq_true rfl⟩ (fun r72 σ71 τ71 H locs h71 hP hS => ?_)
      exact by
       obtain ⟨⟨rfl, rfl⟩, h71⟩ := h71
       rcases h71 with h73 | h74
       · obtain ⟨q78, k75, k76, k77⟩ := h73
         exact absurd (by omega : False) id
       · obtain ⟨q80, k79⟩ := h74
         have q80 := q80.symm
         subst q80
         refine lv_pop hx hb dL_law_1052 rfl ?_
         refine lv_goto (tgt := 1357) hx hb dL_law_1053 (of_decide_eq_true rfl) ?_
         obtain ⟨x81, ex81⟩ : ∃ y : Int32, y = x0 + 6 := ⟨_, rfl⟩
         exact by
          have tx81 : x81.toInt = x0.toInt + 6 := (jadd ex81 rfl jz_6 (by omega) (by omega)).trans (by omega)
          refine lv_iinc (v := x81) (lv' := [(3, .int x81), (2, .ref (ad 55)), (1, .ref (ad 0)), (0, .ref b)]) hx hb dL_law_1357 hl (k := 0) rfl (by rw [ex81]; rfl) (of_decide_eq_true rfl) rfl (fun ls hl => ?_)
          refine lv_goto (tgt := 18) hx hb dL_law_1360 (of_decide_eq_true rfl) ?_
          exact by exact ih x81 σ τ _ _ ls (by have h9 := tx81; omega) ⟨hI2, hI9, hI12, hI16, hI18, hI22, hI31, hI38, hI43, hI47, hI50, hI101, hI102, hI103, hI104, hI105, hI106, hI107, hI109, hI110, hI111, hI119, hs_jKept, hs_jBook, (by omega), (by omega), (by omega), (by omega), (by omega), (by omega), (by omega), (by omega), (by omega), (by omega), (by omega), (by omega), hr0, hr1, hr2, hr3, hr4, hr5, hr6, hr7, hr8, hr9⟩ hP hS (lv_sub hl [0, 1, 2, 3] rfl)
set_option maxHeartbeats 4000000 in
set_option maxRecDepth 100000 in
theorem law_case_30 {p : Program} {e : Env} {s : State} {m : MethodId} {below : List Frame} {meth : Method} {c : Code} (l : Launch) {b L : Nat} {xs : Nat → Int32} {D : va_G} {cI cL : ClassId} {ad zz : Nat → Nat} (C0 : lw_At p s m meth c b L xs) (hJ : jD ad) (hA : ∀ q, jA ad q → s.heap.size ≤ q) (hK : jK D cI cL s) (hZ : jZ zz (fun q : Nat => s.heap.size ≤ q) s s.heap) {x0 : Int32} (hx0 : 0 ≤ x0.toInt) (hxL : x0.toInt + 6 ≤ (L : Int)) (hL : L ≤ 384) {σ : Nat → Nat → Int32} {τ : Nat → Nat → Int64} {H : Heap} {locs : List Loc} (hS : va_S (fun q : Nat => s.heap.size ≤ q) s.heap H locs) {ls : Array Slot} (hAll : jAll σ τ) (hP : jH D cI cL ad σ τ H) (hl : lv_has ls 4 [(3, .int x0), (2, .ref (ad 55)), (1, .ref (ad 0)), (0, .ref b)]) (ih : ∀ (x1 : Int32) (σ : Nat → Nat → Int32) (τ : Nat → Nat → Int64) (H : Heap) (locs : List Loc) (ls : Array Slot), x1.toInt = x0.toInt + 6 → jAll σ τ → jH D cI cL ad σ τ H → va_S (fun q : Nat => s.heap.size ≤ q) s.heap H locs → lv_has ls 4 [(3, .int x1), (2, .ref (ad 55)), (1, .ref (ad 0)), (0, .ref b)] → W p l e room_1 s m #[Value.ref b] below meth c H locs 90 348600 (lw_Z below #[Value.ref b] s) (F0 m 18 ls [])) : W p l e room_1 s m #[Value.ref b] below meth c H locs 90 348600 (lw_Z below #[Value.ref b] s) (F0 m 1056 ls []) := by
  obtain ⟨hx, hb, hr, hml, hown, hts0, hX, hbl, hlocks, hgv⟩ := C0
  have hts : ∀ w ∈ wsL_law, w.before #[Value.ref b] s = true := fun w h => hts0 w (wsL_law_in w h)
  have hbA : ¬ (fun q : Nat => s.heap.size ≤ q) b := Nat.not_le.mpr hbl
  have hown : s.vm.findClass RL = some m.cls := hown
  obtain ⟨hI2, hI9, hI12, hI16, hI18, hI22, hI31, hI38, hI43, hI47, hI50, hI101, hI102, hI103, hI104, hI105, hI106, hI107, hI109, hI110, hI111, hI119, hs_jKept, hs_jBook, ht0, ht1, ht2, ht3, ht4, ht5, ht6, ht7, ht8, ht9, ht10, ht11, hr0, hr1, hr2, hr3, hr4, hr5, hr6, hr7, hr8, hr9⟩ := hAll
  have hL9 : (L : Int) ≤ 384 := by omega
  obtain ⟨i1, i2, i3, i4, i5, w6⟩ : (0 ≤ (σ 2 0).toInt ∧ (σ 2 0).toInt ≤ 4) ∧ (0 ≤ (σ 2 1).toInt ∧ (σ 2 1).toInt ≤ 3) ∧ (0 ≤ (σ 2 2).toInt) ∧ (0 ≤ (σ 2 3).toInt) ∧ ((σ 2 2).toInt + (σ 2 3).toInt ≤ 40) ∧ (∀ k : Nat, k < 40 → 0 ≤ (σ 6 k).toInt ∧ (σ 6 k).toInt ≤ 67) := id hI2
  obtain ⟨i7, w8, w9⟩ : (0 ≤ (σ 9 0).toInt ∧ (σ 9 0).toInt ≤ 80) ∧ (∀ k : Nat, k < 80 → 0 ≤ (σ 10 k).toInt ∧ (σ 10 k).toInt ≤ 255) ∧ (∀ k : Nat, k < 8 → 0 ≤ (σ 11 k).toInt ∧ (σ 11 k).toInt ≤ 3) := id hI9
  obtain ⟨i10, i11, i12, w13⟩ : (1 ≤ (σ 16 0).toInt ∧ (σ 16 0).toInt ≤ 8) ∧ (1 ≤ (σ 16 1).toInt ∧ (σ 16 1).toInt ≤ 12) ∧ (0 ≤ (σ 16 2).toInt ∧ (σ 16 2).toInt ≤ 999) ∧ (∀ k : Nat, k < 8 → 0 ≤ (σ 17 k).toInt ∧ (σ 17 k).toInt ≤ 3) := id hI16
  obtain ⟨i14, i15, w16⟩ : (0 ≤ (σ 38 0).toInt ∧ (σ 38 0).toInt ≤ 20) ∧ (0 ≤ (σ 38 1).toInt ∧ (σ 38 1).toInt ≤ 1000) ∧ (∀ k : Nat, k < 20 → 0 ≤ (σ 39 k).toInt ∧ (σ 39 k).toInt ≤ 6) := id hI38
  obtain ⟨i17, w18, w19⟩ : (0 ≤ (σ 47 0).toInt ∧ (σ 47 0).toInt ≤ 12) ∧ (∀ k : Nat, k < 12 → 0 ≤ (σ 48 k).toInt ∧ (σ 48 k).toInt ≤ 3) ∧ (∀ k : Nat, k < 12 → 0 ≤ (σ 49 k).toInt ∧ (σ 49 k).toInt ≤ 1) := id hI47
  have w20 : ∀ k : Nat, k < 6 → 0 ≤ (σ 52 k).toInt ∧ (σ 52 k).toInt ≤ 60 := hI50
  obtain ⟨i21, i22, i23, w24, w25, w26, w27⟩ : (0 ≤ (σ 55 5).toInt) ∧ ((σ 55 5).toInt ≤ (σ 55 4).toInt) ∧ ((σ 55 4).toInt ≤ 40) ∧ (∀ k : Nat, k < 68 → (-200) ≤ (σ 56 k).toInt ∧ (σ 56 k).toInt ≤ 500) ∧ (∀ k : Nat, k < 40 → 0 ≤ (σ 57 k).toInt ∧ (σ 57 k).toInt ≤ 67) ∧ (∀ k : Nat, k < 40 → (-200) ≤ (σ 58 k).toInt ∧ (σ 58 k).toInt ≤ 500) ∧ (∀ k : Nat, k < 40 → (-200) ≤ (σ 59 k).toInt ∧ (σ 59 k).toInt ≤ 500) := id hI101
  obtain ⟨i28, w29, w30⟩ : (0 ≤ (σ 55 6).toInt ∧ (σ 55 6).toInt ≤ 4) ∧ (∀ k : Nat, k < 4 → 0 ≤ (σ 60 k).toInt ∧ (σ 60 k).toInt ≤ 50) ∧ (∀ k : Nat, k < 4 → 0 ≤ (σ 61 k).toInt ∧ (σ 61 k).toInt ≤ 20) := id hI102
  obtain ⟨i31, i32, i33, w34, w35⟩ : (1 ≤ (σ 55 10).toInt ∧ (σ 55 10).toInt ≤ 8) ∧ (1 ≤ (σ 55 12).toInt ∧ (σ 55 12).toInt ≤ 12) ∧ (0 ≤ (σ 55 13).toInt ∧ (σ 55 13).toInt ≤ 999) ∧ (∀ k : Nat, k < 8 → 0 ≤ (σ 62 k).toInt ∧ (σ 62 k).toInt ≤ 3) ∧ (∀ k : Nat, k < 8 → 0 ≤ (σ 67 k).toInt ∧ (σ 67 k).toInt ≤ 3) := id hI104
  obtain ⟨i36, w37⟩ : (0 ≤ (σ 55 15).toInt ∧ (σ 55 15).toInt ≤ 80) ∧ (∀ k : Nat, k < 2 → (-1) ≤ (σ 65 k).toInt ∧ (σ 65 k).toInt ≤ 80) := id hI105
  obtain ⟨i38, w39, w40, w41⟩ : (0 ≤ (σ 55 32).toInt ∧ (σ 55 32).toInt ≤ 20) ∧ (∀ k : Nat, k < 20 → 0 ≤ (σ 70 k).toInt ∧ (σ 70 k).toInt ≤ 6) ∧ (∀ k : Nat, k < 20 → 0 ≤ (σ 71 k).toInt ∧ (σ 71 k).toInt ≤ 8) ∧ (∀ k : Nat, k < 160 → 0 ≤ (σ 72 k).toInt ∧ (σ 72 k).toInt ≤ 3) := id hI106
  obtain ⟨i42, i43, w44⟩ : (0 ≤ (σ 55 47).toInt ∧ (σ 55 47).toInt ≤ 12) ∧ ((σ 55 47).toInt ≤ (σ 55 12).toInt) ∧ (∀ k : Nat, k < 12 → 0 ≤ (σ 80 k).toInt ∧ (σ 80 k).toInt ≤ 3) := id hI107
  refine lv_aload_n hx hb dL_law_1056 rfl (lv_at hl 2 rfl) ?_
  refine lv_aload_n hx hb dL_law_1057 rfl (lv_at hl 3 rfl) ?_
  refine lv_iload_n hx hb dL_law_1058 rfl (lv_at hl 0 rfl) ?_
  refine lv_iconst (v := 1) hx hb dL_law_1059 (of_decide_eq_true rfl) ?_
  have g45 := jrg (rfl : x0.toInt = x0.toInt)
  refine lv_iadd hx hb dL_law_1060 ?_
  refine lv_topi (fun x46 ex46 => ?_)
  exact by
   have tx46 : x46.toInt = x0.toInt + 1 := (jadd ex46 rfl jz_1 (by omega) (by omega)).trans (by omega)
   refine va_sld hx hb hX hbl hbA hS (jin tx46 (by omega) (by omega)) dL_law_1061 ?_
   have g47 := jrg (rfl : (xs x46.toNatClampNeg).toInt = (xs x46.toNatClampNeg).toInt)
   refine lv_aload_n hx hb dL_law_1062 rfl (lv_at hl 3 rfl) ?_
   refine lv_iload_n hx hb dL_law_1063 rfl (lv_at hl 0 rfl) ?_
   refine lv_iconst (v := 2) hx hb dL_law_1064 (of_decide_eq_true rfl) ?_
   refine lv_iadd hx hb dL_law_1065 ?_
   refine lv_topi (fun x48 ex48 => ?_)
   have tx48 : x48.toInt = x0.toInt + 2 := (jadd ex48 rfl jz_2 (by omega) (by omega)).trans (by omega)
   exact by
    refine va_sld hx hb hX hbl hbA hS (jin tx48 (by omega) (by omega)) dL_law_1066 ?_
    have g49 := jrg (rfl : (xs x48.toNatClampNeg).toInt = (xs x48.toNatClampNeg).toInt)
    refine jcallV (As := [.int (xs x46.toNatClampNeg), .int (xs x48.toNatClampNeg)]) (rest := []) ⟨hx, hb, hml, hown, hts⟩ hK hP hA hS hZ (c_X11_keep l D cI cL ad zz hJ σ τ (xs x46.toNatClampNeg) ((xs x46.toNatClampNeg).toInt) rfl (xs x48.toNatClampNeg) ((xs x48.toNatClampNeg).toInt) rfl hI38 hI50) cw_RL_137 (jc_0 cI cL ad σ τ) rfl ⟨Nat.le_of_ble_eq_true rfl, Nat.le_of_ble_eq_true rfl⟩ rfl rfl rfl hl.1 rfl (Nat.le_of_ble_eq_true rfl) dL_law_1067 ⟨Nat.le_of_ble_eq_true rfl, Nat.le_of_ble_eq_true rfl⟩ (fun r51 σ50 τ50 H locs h50 hP hS => ?_)
    obtain ⟨rfl, f52, I53, h50⟩ := h50
    have w55 : ∀ k : Nat, k < 6 → 0 ≤ (σ50 52 k).toInt ∧ (σ50 52 k).toInt ≤ 60 := I53
    rcases h50 with h56 | h57 | h58
    · obtain ⟨q62, k59, k60, k61⟩ := h56
      have q62 := q62.symm
      subst q62
      refine lv_pop hx hb dL_law_1070 rfl ?_
      refine lv_aload_n hx hb dL_law_1071 rfl (lv_at hl 1 rfl) ?_
      refine lv_aload_n hx hb dL_law_1072 rfl (lv_at hl 3 rfl) ?_
      refine lv_iload_n hx hb dL_law_1073 rfl (lv_at hl 0 rfl) ?_
      refine lv_iconst (v := 1) hx hb dL_law_1074 (of_decide_eq_true rfl) ?_
      refine lv_iadd hx hb dL_law_1075 ?_
      refine jtopr ex46.symm ?_
      exact by
       refine va_sld hx hb hX hbl hbA hS (jin tx46 (by omega) (by omega)) dL_law_1076 ?_
       refine lv_aload_n hx hb dL_law_1077 rfl (lv_at hl 3 rfl) ?_
       refine lv_iload_n hx hb dL_law_1078 rfl (lv_at hl 0 rfl) ?_
       refine lv_iconst (v := 2) hx hb dL_law_1079 (of_decide_eq_true rfl) ?_
       refine lv_iadd hx hb dL_law_1080 ?_
       refine jtopr ex48.symm ?_
       refine va_sld hx hb hX hbl hbA hS (jin tx48 (by omega) (by omega)) dL_law_1081 ?_
       have I63 : jI106 σ50 := jI106_fr (congrFun (f52 55 (of_decide_eq_true rfl)) 32) (f52 70 (of_decide_eq_true rfl)) (f52 71 (of_decide_eq_true rfl)) (f52 72 (of_decide_eq_true rfl)) hI106
       have I64 : jI110 σ50 := jI110_fr (f52 86 (of_decide_eq_true rfl)) (f52 87 (of_decide_eq_true rfl)) hI110
       exact by
        have z65 : (σ50 55 32).toInt = (σ 55 32).toInt := (congrArg Int32.toInt (show σ50 55 32 = (σ 55 32) from (congrFun (f52 55 (of_decide_eq_true rfl)) 32)))
        refine jcallV (As := [.int (xs x46.toNatClampNeg), .int (xs x48.toNatClampNeg)]) (rest := []) ⟨hx, hb, hml, hown, hts⟩ hK hP hA hS hZ (c_X12_keep l D cI cL ad zz hJ σ50 τ (xs x46.toNatClampNeg) ((xs x46.toNatClampNeg).toInt) rfl (xs x48.toNatClampNeg) ((xs x48.toNatClampNeg).toInt) rfl I63 I64) cw_RL_140 (jc_55 cI cL ad σ50 τ) rfl ⟨Nat.le_of_ble_eq_true rfl, Nat.le_of_ble_eq_true rfl⟩ rfl rfl rfl hl.1 rfl (Nat.le_of_ble_eq_true rfl) dL_law_1082 ⟨Nat.le_of_ble_eq_true rfl, Nat.le_of_ble_eq_true rfl⟩ (fun r67 σ66 τ66 H locs h66 hP hS => ?_)
        obtain ⟨rfl, f68, I69, h66⟩ := h66
        rcases h66 with h71 | h72 | h73
        · obtain ⟨q77, k74, k75, k76⟩ := h71
          have q77 := q77.symm
          subst q77
          refine lv_pop hx hb dL_law_1085 rfl ?_
          refine lv_goto (tgt := 1357) hx hb dL_law_1086 (of_decide_eq_true rfl) ?_
          obtain ⟨x78, ex78⟩ : ∃ y : Int32, y = x0 + 6 := ⟨_, rfl⟩
          exact by
           have tx78 : x78.toInt = x0.toInt + 6 := (jadd ex78 rfl jz_6 (by omega) (by omega)).trans (by omega)
           refine lv_iinc (v := x78) (lv' := [(3, .int x78), (2, .ref (ad 55)), (1, .ref (ad 0)), (0, .ref b)]) hx hb dL_law_1357 hl (k := 0) rfl (by rw [ex78]; rfl) (of_decide_eq_true rfl) rfl (fun ls hl => ?_)
           refine lv_goto (tgt := 18) hx hb dL_law_1360 (of_decide_eq_true rfl) ?_
           have I79 : jI2 σ66 := jI2_fr ((congrFun (f68 2 (of_decide_eq_true rfl)) 0).trans (congrFun (f52 2 (of_decide_eq_true rfl)) 0)) ((congrFun (f68 2 (of_decide_eq_true rfl)) 1).trans (congrFun (f52 2 (of_decide_eq_true rfl)) 1)) ((congrFun (f68 2 (of_decide_eq_true rfl)) 2).trans (congrFun (f52 2 (of_decide_eq_true rfl)) 2)) ((congrFun (f68 2 (of_decide_eq_true rfl)) 3).trans (congrFun (f52 2 (of_decide_eq_true rfl)) 3)) ((f68 6 (of_decide_eq_true rfl)).trans (f52 6 (of_decide_eq_true rfl))) hI2
           have I80 : jI9 σ66 := jI9_fr ((congrFun (f68 9 (of_decide_eq_true rfl)) 0).trans (congrFun (f52 9 (of_decide_eq_true rfl)) 0)) ((f68 10 (of_decide_eq_true rfl)).trans (f52 10 (of_decide_eq_true rfl))) ((f68 11 (of_decide_eq_true rfl)).trans (f52 11 (of_decide_eq_true rfl))) hI9
           have I81 : jI12 σ66 := jI12_fr ((congrFun (f68 12 (of_decide_eq_true rfl)) 0).trans (congrFun (f52 12 (of_decide_eq_true rfl)) 0)) ((f68 13 (of_decide_eq_true rfl)).trans (f52 13 (of_decide_eq_true rfl))) hI12
           have I82 : jI16 σ66 := jI16_fr ((congrFun (f68 16 (of_decide_eq_true rfl)) 0).trans (congrFun (f52 16 (of_decide_eq_true rfl)) 0)) ((congrFun (f68 16 (of_decide_eq_true rfl)) 1).trans (congrFun (f52 16 (of_decide_eq_true rfl)) 1)) ((congrFun (f68 16 (of_decide_eq_true rfl)) 2).trans (congrFun (f52 16 (of_decide_eq_true rfl)) 2)) ((f68 17 (of_decide_eq_true rfl)).trans (f52 17 (of_decide_eq_true rfl))) hI16
           have I83 : jI18 σ66 := jI18_fr ((congrFun (f68 18 (of_decide_eq_true rfl)) 0).trans (congrFun (f52 18 (of_decide_eq_true rfl)) 0)) ((f68 19 (of_decide_eq_true rfl)).trans (f52 19 (of_decide_eq_true rfl))) hI18
           have I84 : jI22 σ66 := jI22_fr ((congrFun (f68 22 (of_decide_eq_true rfl)) 0).trans (congrFun (f52 22 (of_decide_eq_true rfl)) 0)) ((f68 23 (of_decide_eq_true rfl)).trans (f52 23 (of_decide_eq_true rfl))) hI22
           exact by
            have I85 : jI31 σ66 := jI31_fr ((congrFun (f68 31 (of_decide_eq_true rfl)) 8).trans (congrFun (f52 31 (of_decide_eq_true rfl)) 8)) ((f68 33 (of_decide_eq_true rfl)).trans (f52 33 (of_decide_eq_true rfl))) ((f68 36 (of_decide_eq_true rfl)).trans (f52 36 (of_decide_eq_true rfl))) hI31
            have I86 : jI38 σ66 := jI38_fr ((congrFun (f68 38 (of_decide_eq_true rfl)) 0).trans (congrFun (f52 38 (of_decide_eq_true rfl)) 0)) ((congrFun (f68 38 (of_decide_eq_true rfl)) 1).trans (congrFun (f52 38 (of_decide_eq_true rfl)) 1)) ((f68 39 (of_decide_eq_true rfl)).trans (f52 39 (of_decide_eq_true rfl))) hI38
            have I87 : jI43 σ66 := jI43_fr ((congrFun (f68 43 (of_decide_eq_true rfl)) 8).trans (congrFun (f52 43 (of_decide_eq_true rfl)) 8)) hI43
            have I88 : jI47 σ66 := jI47_fr ((congrFun (f68 47 (of_decide_eq_true rfl)) 0).trans (congrFun (f52 47 (of_decide_eq_true rfl)) 0)) ((f68 48 (of_decide_eq_true rfl)).trans (f52 48 (of_decide_eq_true rfl))) ((f68 49 (of_decide_eq_true rfl)).trans (f52 49 (of_decide_eq_true rfl))) hI47
            have I89 : jI50 σ66 := jI50_fr (f68 52 (of_decide_eq_true rfl)) I53
            have I90 : jI101 σ66 := jI101_fr ((congrFun (f68 55 (of_decide_eq_true rfl)) 4).trans (congrFun (f52 55 (of_decide_eq_true rfl)) 4)) ((congrFun (f68 55 (of_decide_eq_true rfl)) 5).trans (congrFun (f52 55 (of_decide_eq_true rfl)) 5)) ((f68 56 (of_decide_eq_true rfl)).trans (f52 56 (of_decide_eq_true rfl))) ((f68 57 (of_decide_eq_true rfl)).trans (f52 57 (of_decide_eq_true rfl))) ((f68 58 (of_decide_eq_true rfl)).trans (f52 58 (of_decide_eq_true rfl))) ((f68 59 (of_decide_eq_true rfl)).trans (f52 59 (of_decide_eq_true rfl))) hI101
            have I91 : jI102 σ66 := jI102_fr ((congrFun (f68 55 (of_decide_eq_true rfl)) 6).trans (congrFun (f52 55 (of_decide_eq_true rfl)) 6)) ((f68 60 (of_decide_eq_true rfl)).trans (f52 60 (of_decide_eq_true rfl))) ((f68 61 (of_decide_eq_true rfl)).trans (f52 61 (of_decide_eq_true rfl))) hI102
            have I92 : jI103 σ66 := jI103_fr ((congrFun (f68 55 (of_decide_eq_true rfl)) 9).trans (congrFun (f52 55 (of_decide_eq_true rfl)) 9)) hI103
            have I93 : jI104 σ66 := jI104_fr ((congrFun (f68 55 (of_decide_eq_true rfl)) 10).trans (congrFun (f52 55 (of_decide_eq_true rfl)) 10)) ((congrFun (f68 55 (of_decide_eq_true rfl)) 12).trans (congrFun (f52 55 (of_decide_eq_true rfl)) 12)) ((congrFun (f68 55 (of_decide_eq_true rfl)) 13).trans (congrFun (f52 55 (of_decide_eq_true rfl)) 13)) ((f68 62 (of_decide_eq_true rfl)).trans (f52 62 (of_decide_eq_true rfl))) ((f68 67 (of_decide_eq_true rfl)).trans (f52 67 (of_decide_eq_true rfl))) hI104
            have I94 : jI105 σ66 := jI105_fr ((congrFun (f68 55 (of_decide_eq_true rfl)) 15).trans (congrFun (f52 55 (of_decide_eq_true rfl)) 15)) ((f68 65 (of_decide_eq_true rfl)).trans (f52 65 (of_decide_eq_true rfl))) hI105
            have I95 : jI106 σ66 := jI106_fr (congrFun (f68 55 (of_decide_eq_true rfl)) 32) (f68 70 (of_decide_eq_true rfl)) (f68 71 (of_decide_eq_true rfl)) (f68 72 (of_decide_eq_true rfl)) I63
            have I96 : jI107 σ66 := jI107_fr ((congrFun (f68 55 (of_decide_eq_true rfl)) 12).trans (congrFun (f52 55 (of_decide_eq_true rfl)) 12)) ((congrFun (f68 55 (of_decide_eq_true rfl)) 47).trans (congrFun (f52 55 (of_decide_eq_true rfl)) 47)) ((f68 80 (of_decide_eq_true rfl)).trans (f52 80 (of_decide_eq_true rfl))) hI107
            have I97 : jI109 σ66 := jI109_fr ((congrFun (f68 55 (of_decide_eq_true rfl)) 50).trans (congrFun (f52 55 (of_decide_eq_true rfl)) 50)) hI109
            have I98 : jI111 σ66 := jI111_fr ((f68 79 (of_decide_eq_true rfl)).trans (f52 79 (of_decide_eq_true rfl))) hI111
            have I99 : jI119 σ66 := jI119_fr ((f68 68 (of_decide_eq_true rfl)).trans (f52 68 (of_decide_eq_true rfl))) hI119
            have p100 : jKept σ66 := jKept.fr ((f68 75 (of_decide_eq_true rfl)).trans (f52 75 (of_decide_eq_true rfl))) ((f68 76 (of_decide_eq_true rfl)).trans (f52 76 (of_decide_eq_true rfl))) ((f68 77 (of_decide_eq_true rfl)).trans (f52 77 (of_decide_eq_true rfl))) hs_jKept
            have p101 : jBook σ66 := jBook.fr ((congrFun (f68 55 (of_decide_eq_true rfl)) 47).trans (congrFun (f52 55 (of_decide_eq_true rfl)) 47)) ((congrFun (f68 55 (of_decide_eq_true rfl)) 10).trans (congrFun (f52 55 (of_decide_eq_true rfl)) 10)) ((f68 81 (of_decide_eq_true rfl)).trans (f52 81 (of_decide_eq_true rfl))) hs_jBook
            have z102 : (σ66 2 0).toInt = (σ 2 0).toInt := (congrArg Int32.toInt (show σ66 2 0 = (σ 2 0) from ((congrFun (f68 2 (of_decide_eq_true rfl)) 0).trans (congrFun (f52 2 (of_decide_eq_true rfl)) 0))))
            have z103 : (σ66 55 6).toInt = (σ 55 6).toInt := (congrArg Int32.toInt (show σ66 55 6 = (σ 55 6) from ((congrFun (f68 55 (of_decide_eq_true rfl)) 6).trans (congrFun (f52 55 (of_decide_eq_true rfl)) 6))))
            have z104 : (σ66 2 2).toInt = (σ 2 2).toInt := (congrArg Int32.toInt (show σ66 2 2 = (σ 2 2) from ((congrFun (f68 2 (of_decide_eq_true rfl)) 2).trans (congrFun (f52 2 (of_decide_eq_true rfl)) 2))))
            have z105 : (σ66 55 5).toInt = (σ 55 5).toInt := (congrArg Int32.toInt (show σ66 55 5 = (σ 55 5) from ((congrFun (f68 55 (of_decide_eq_true rfl)) 5).trans (congrFun (f52 55 (of_decide_eq_true rfl)) 5))))
            have z106 : (σ66 2 3).toInt = (σ 2 3).toInt := (congrArg Int32.toInt (show σ66 2 3 = (σ 2 3) from ((congrFun (f68 2 (of_decide_eq_true rfl)) 3).trans (congrFun (f52 2 (of_decide_eq_true rfl)) 3))))
            have z107 : (σ66 55 4).toInt = (σ 55 4).toInt := (congrArg Int32.toInt (show σ66 55 4 = (σ 55 4) from ((congrFun (f68 55 (of_decide_eq_true rfl)) 4).trans (congrFun (f52 55 (of_decide_eq_true rfl)) 4))))
            have z108 : (σ66 9 0).toInt = (σ 9 0).toInt := (congrArg Int32.toInt (show σ66 9 0 = (σ 9 0) from ((congrFun (f68 9 (of_decide_eq_true rfl)) 0).trans (congrFun (f52 9 (of_decide_eq_true rfl)) 0))))
            have z109 : (σ66 55 15).toInt = (σ 55 15).toInt := (congrArg Int32.toInt (show σ66 55 15 = (σ 55 15) from ((congrFun (f68 55 (of_decide_eq_true rfl)) 15).trans (congrFun (f52 55 (of_decide_eq_true rfl)) 15))))
            have z110 : (σ66 16 0).toInt = (σ 16 0).toInt := (congrArg Int32.toInt (show σ66 16 0 = (σ 16 0) from ((congrFun (f68 16 (of_decide_eq_true rfl)) 0).trans (congrFun (f52 16 (of_decide_eq_true rfl)) 0))))
            have z111 : (σ66 55 10).toInt = (σ 55 10).toInt := (congrArg Int32.toInt (show σ66 55 10 = (σ 55 10) from ((congrFun (f68 55 (of_decide_eq_true rfl)) 10).trans (congrFun (f52 55 (of_decide_eq_true rfl)) 10))))
            have z112 : (σ66 16 1).toInt = (σ 16 1).toInt := (congrArg Int32.toInt (show σ66 16 1 = (σ 16 1) from ((congrFun (f68 16 (of_decide_eq_true rfl)) 1).trans (congrFun (f52 16 (of_decide_eq_true rfl)) 1))))
            have z113 : (σ66 55 12).toInt = (σ 55 12).toInt := (congrArg Int32.toInt (show σ66 55 12 = (σ 55 12) from ((congrFun (f68 55 (of_decide_eq_true rfl)) 12).trans (congrFun (f52 55 (of_decide_eq_true rfl)) 12))))
            have z114 : (σ66 16 2).toInt = (σ 16 2).toInt := (congrArg Int32.toInt (show σ66 16 2 = (σ 16 2) from ((congrFun (f68 16 (of_decide_eq_true rfl)) 2).trans (congrFun (f52 16 (of_decide_eq_true rfl)) 2))))
            have z115 : (σ66 55 13).toInt = (σ 55 13).toInt := (congrArg Int32.toInt (show σ66 55 13 = (σ 55 13) from ((congrFun (f68 55 (of_decide_eq_true rfl)) 13).trans (congrFun (f52 55 (of_decide_eq_true rfl)) 13))))
            have z116 : (σ66 38 0).toInt = (σ 38 0).toInt := (congrArg Int32.toInt (show σ66 38 0 = (σ 38 0) from ((congrFun (f68 38 (of_decide_eq_true rfl)) 0).trans (congrFun (f52 38 (of_decide_eq_true rfl)) 0))))
            have z117 : (σ66 55 32).toInt = (σ 55 32).toInt := (congrArg Int32.toInt (show σ66 55 32 = (σ 55 32) from ((congrFun (f68 55 (of_decide_eq_true rfl)) 32).trans (congrFun (f52 55 (of_decide_eq_true rfl)) 32))))
            have z118 : (σ66 38 1).toInt = (σ 38 1).toInt := (congrArg Int32.toInt (show σ66 38 1 = (σ 38 1) from ((congrFun (f68 38 (of_decide_eq_true rfl)) 1).trans (congrFun (f52 38 (of_decide_eq_true rfl)) 1))))
            have z119 : (σ66 55 55).toInt = (σ 55 55).toInt := (congrArg Int32.toInt (show σ66 55 55 = (σ 55 55) from ((congrFun (f68 55 (of_decide_eq_true rfl)) 55).trans (congrFun (f52 55 (of_decide_eq_true rfl)) 55))))
            have z120 : (σ66 47 0).toInt = (σ 47 0).toInt := (congrArg Int32.toInt (show σ66 47 0 = (σ 47 0) from ((congrFun (f68 47 (of_decide_eq_true rfl)) 0).trans (congrFun (f52 47 (of_decide_eq_true rfl)) 0))))
            have z121 : (σ66 55 47).toInt = (σ 55 47).toInt := (congrArg Int32.toInt (show σ66 55 47 = (σ 55 47) from ((congrFun (f68 55 (of_decide_eq_true rfl)) 47).trans (congrFun (f52 55 (of_decide_eq_true rfl)) 47))))
            have z122 : (σ66 55 30).toInt = (σ 55 30).toInt := (congrArg Int32.toInt (show σ66 55 30 = (σ 55 30) from ((congrFun (f68 55 (of_decide_eq_true rfl)) 30).trans (congrFun (f52 55 (of_decide_eq_true rfl)) 30))))
            have z123 : (σ66 55 31).toInt = (σ 55 31).toInt := (congrArg Int32.toInt (show σ66 55 31 = (σ 55 31) from ((congrFun (f68 55 (of_decide_eq_true rfl)) 31).trans (congrFun (f52 55 (of_decide_eq_true rfl)) 31))))
            rw [show σ50 86 = σ 86 from (f52 86 (of_decide_eq_true rfl)), show σ50 87 = σ 87 from (f52 87 (of_decide_eq_true rfl))] at k76
            have p124 := hr4.set k61.1 k61.2.2 k61.2.1 k76.1 k76.2 (Or.inl ⟨rfl, Int32.toInt_inj.mp (show (xs x48.toNatClampNeg).toInt = (-1 : Int32).toInt by rw [show (-1 : Int32).toInt = -1 by decide]; omega)⟩)
            have p125 := hr5.keep k61.1 k61.2.2 (of_decide_eq_true rfl)
            exact by exact ih x78 σ66 τ _ _ ls (by have h9 := tx78; omega) ⟨I79, I80, I81, I82, I83, I84, I85, I86, I87, I88, I89, I90, I91, I92, I93, I94, I95, I96, I97, I69, I98, I99, p100, p101, (by omega), (by omega), (by omega), (by omega), (by omega), (by omega), (by omega), (by omega), (by omega), (by omega), (by omega), (by omega), (show jNumP (σ66 3) (σ66 56) (σ66 6) (σ66 57) (σ66 7) (σ66 58) (σ66 8) (σ66 59) (σ66 55 6).toInt (σ66 55 4).toInt by rw [show σ66 3 = σ 3 from ((f68 3 (of_decide_eq_true rfl)).trans (f52 3 (of_decide_eq_true rfl))), show σ66 56 = σ 56 from ((f68 56 (of_decide_eq_true rfl)).trans (f52 56 (of_decide_eq_true rfl))), show σ66 6 = σ 6 from ((f68 6 (of_decide_eq_true rfl)).trans (f52 6 (of_decide_eq_true rfl))), show σ66 57 = σ 57 from ((f68 57 (of_decide_eq_true rfl)).trans (f52 57 (of_decide_eq_true rfl))), show σ66 7 = σ 7 from ((f68 7 (of_decide_eq_true rfl)).trans (f52 7 (of_decide_eq_true rfl))), show σ66 58 = σ 58 from ((f68 58 (of_decide_eq_true rfl)).trans (f52 58 (of_decide_eq_true rfl))), show σ66 8 = σ 8 from ((f68 8 (of_decide_eq_true rfl)).trans (f52 8 (of_decide_eq_true rfl))), show σ66 59 = σ 59 from ((f68 59 (of_decide_eq_true rfl)).trans (f52 59 (of_decide_eq_true rfl))), show (σ66 55 6).toInt = (σ 55 6).toInt from by omega, show (σ66 55 4).toInt = (σ 55 4).toInt from by omega]; exact hr0), (show jOvP (σ66 56) (σ66 57) (σ66 58) (σ66 59) (σ66 55 4).toInt by rw [show σ66 56 = σ 56 from ((f68 56 (of_decide_eq_true rfl)).trans (f52 56 (of_decide_eq_true rfl))), show σ66 57 = σ 57 from ((f68 57 (of_decide_eq_true rfl)).trans (f52 57 (of_decide_eq_true rfl))), show σ66 58 = σ 58 from ((f68 58 (of_decide_eq_true rfl)).trans (f52 58 (of_decide_eq_true rfl))), show σ66 59 = σ 59 from ((f68 59 (of_decide_eq_true rfl)).trans (f52 59 (of_decide_eq_true rfl))), show (σ66 55 4).toInt = (σ 55 4).toInt from by omega]; exact hr1), (show jTp (σ66 10) (σ66 63) (σ66 55 15).toInt by rw [show σ66 10 = σ 10 from ((f68 10 (of_decide_eq_true rfl)).trans (f52 10 (of_decide_eq_true rfl))), show σ66 63 = σ 63 from ((f68 63 (of_decide_eq_true rfl)).trans (f52 63 (of_decide_eq_true rfl)))]; exact hr2.le (by omega)), (show jSo (σ66 17) (σ66 62) (σ66 16 0).toInt by rw [show σ66 17 = σ 17 from ((f68 17 (of_decide_eq_true rfl)).trans (f52 17 (of_decide_eq_true rfl))), show σ66 62 = σ 62 from ((f68 62 (of_decide_eq_true rfl)).trans (f52 62 (of_decide_eq_true rfl))), show (σ66 16 0).toInt = (σ 16 0).toInt from by omega]; exact hr3), (show jShP (σ66 51) (σ66 52) (σ66 53) (σ66 86) (σ66 87) (σ66 55 32).toInt by rw [show σ66 51 = σ50 51 from (f68 51 (of_decide_eq_true rfl)), show σ66 52 = σ50 52 from (f68 52 (of_decide_eq_true rfl)), show σ66 53 = σ50 53 from (f68 53 (of_decide_eq_true rfl))]; exact (p124.up (by omega) (by omega))), (show jEl (σ66 51) (σ66 52) (τ 54) (τ 88) by rw [show σ66 51 = σ50 51 from (f68 51 (of_decide_eq_true rfl)), show σ66 52 = σ50 52 from (f68 52 (of_decide_eq_true rfl))]; exact p125), (show jByP (σ66 51) (σ66 52) (τ 54) by rw [show σ66 51 = σ50 51 from (f68 51 (of_decide_eq_true rfl)), show σ66 52 = σ50 52 from (f68 52 (of_decide_eq_true rfl))]; exact (hr6.keep k61.1 k61.2.2 (of_decide_eq_true rfl))), (show jBk (σ66 48) (σ66 80) (σ66 49) (σ66 81) (σ66 55 47).toInt by rw [show σ66 48 = σ 48 from ((f68 48 (of_decide_eq_true rfl)).trans (f52 48 (of_decide_eq_true rfl))), show σ66 49 = σ 49 from ((f68 49 (of_decide_eq_true rfl)).trans (f52 49 (of_decide_eq_true rfl))), show σ66 80 = σ 80 from ((f68 80 (of_decide_eq_true rfl)).trans (f52 80 (of_decide_eq_true rfl))), show σ66 81 = σ 81 from ((f68 81 (of_decide_eq_true rfl)).trans (f52 81 (of_decide_eq_true rfl))), show (σ66 55 47).toInt = (σ 55 47).toInt from by omega]; exact hr7), (show jKd (σ66 39) (σ66 70) (σ66 55 32).toInt by rw [show σ66 39 = σ 39 from ((f68 39 (of_decide_eq_true rfl)).trans (f52 39 (of_decide_eq_true rfl))), show σ66 70 = σ 70 from ((f68 70 (of_decide_eq_true rfl)).trans (f52 70 (of_decide_eq_true rfl))), show (σ66 55 32).toInt = (σ 55 32).toInt from by omega]; exact hr8), (show jTt (σ66 42) (σ66 85) (σ66 55 55).toInt by rw [show σ66 42 = σ 42 from ((f68 42 (of_decide_eq_true rfl)).trans (f52 42 (of_decide_eq_true rfl))), show σ66 85 = σ 85 from ((f68 85 (of_decide_eq_true rfl)).trans (f52 85 (of_decide_eq_true rfl))), show (σ66 55 55).toInt = (σ 55 55).toInt from by omega]; exact hr9)⟩ hP hS (lv_sub hl [0, 1, 2, 3] rfl)
        · obtain ⟨q129, k126, k127, k128⟩ := h72
          exact absurd (by omega : False) id
        · obtain ⟨q132, k130, k131⟩ := h73
          exact absurd (by omega : False) id
    · obtain ⟨q136, k133, k134, k135⟩ := h57
      have q136 := q136.symm
      subst q136
      refine lv_pop hx hb dL_law_1070 rfl ?_
      refine lv_aload_n hx hb dL_law_1071 rfl (lv_at hl 1 rfl) ?_
      refine lv_aload_n hx hb dL_law_1072 rfl (lv_at hl 3 rfl) ?_
      refine lv_iload_n hx hb dL_law_1073 rfl (lv_at hl 0 rfl) ?_
      refine lv_iconst (v := 1) hx hb dL_law_1074 (of_decide_eq_true rfl) ?_
      refine lv_iadd hx hb dL_law_1075 ?_
      refine jtopr ex46.symm ?_
      exact by
       refine va_sld hx hb hX hbl hbA hS (jin tx46 (by omega) (by omega)) dL_law_1076 ?_
       refine lv_aload_n hx hb dL_law_1077 rfl (lv_at hl 3 rfl) ?_
       refine lv_iload_n hx hb dL_law_1078 rfl (lv_at hl 0 rfl) ?_
       refine lv_iconst (v := 2) hx hb dL_law_1079 (of_decide_eq_true rfl) ?_
       refine lv_iadd hx hb dL_law_1080 ?_
       refine jtopr ex48.symm ?_
       refine va_sld hx hb hX hbl hbA hS (jin tx48 (by omega) (by omega)) dL_law_1081 ?_
       have I137 : jI106 σ50 := jI106_fr (congrFun (f52 55 (of_decide_eq_true rfl)) 32) (f52 70 (of_decide_eq_true rfl)) (f52 71 (of_decide_eq_true rfl)) (f52 72 (of_decide_eq_true rfl)) hI106
       have I138 : jI110 σ50 := jI110_fr (f52 86 (of_decide_eq_true rfl)) (f52 87 (of_decide_eq_true rfl)) hI110
       exact by
        have z139 : (σ50 55 32).toInt = (σ 55 32).toInt := (congrArg Int32.toInt (show σ50 55 32 = (σ 55 32) from (congrFun (f52 55 (of_decide_eq_true rfl)) 32)))
        refine jcallV (As := [.int (xs x46.toNatClampNeg), .int (xs x48.toNatClampNeg)]) (rest := []) ⟨hx, hb, hml, hown, hts⟩ hK hP hA hS hZ (c_X12_keep l D cI cL ad zz hJ σ50 τ (xs x46.toNatClampNeg) ((xs x46.toNatClampNeg).toInt) rfl (xs x48.toNatClampNeg) ((xs x48.toNatClampNeg).toInt) rfl I137 I138) cw_RL_140 (jc_55 cI cL ad σ50 τ) rfl ⟨Nat.le_of_ble_eq_true rfl, Nat.le_of_ble_eq_true rfl⟩ rfl rfl rfl hl.1 rfl (Nat.le_of_ble_eq_true rfl) dL_law_1082 ⟨Nat.le_of_ble_eq_true rfl, Nat.le_of_ble_eq_true rfl⟩ (fun r141 σ140 τ140 H locs h140 hP hS => ?_)
        obtain ⟨rfl, f142, I143, h140⟩ := h140
        rcases h140 with h145 | h146 | h147
        · obtain ⟨q151, k148, k149, k150⟩ := h145
          exact absurd (by omega : False) id
        · obtain ⟨q155, k152, k153, k154⟩ := h146
          have q155 := q155.symm
          subst q155
          refine lv_pop hx hb dL_law_1085 rfl ?_
          refine lv_goto (tgt := 1357) hx hb dL_law_1086 (of_decide_eq_true rfl) ?_
          obtain ⟨x156, ex156⟩ : ∃ y : Int32, y = x0 + 6 := ⟨_, rfl⟩
          exact by
           have tx156 : x156.toInt = x0.toInt + 6 := (jadd ex156 rfl jz_6 (by omega) (by omega)).trans (by omega)
           refine lv_iinc (v := x156) (lv' := [(3, .int x156), (2, .ref (ad 55)), (1, .ref (ad 0)), (0, .ref b)]) hx hb dL_law_1357 hl (k := 0) rfl (by rw [ex156]; rfl) (of_decide_eq_true rfl) rfl (fun ls hl => ?_)
           refine lv_goto (tgt := 18) hx hb dL_law_1360 (of_decide_eq_true rfl) ?_
           have I157 : jI2 σ140 := jI2_fr ((congrFun (f142 2 (of_decide_eq_true rfl)) 0).trans (congrFun (f52 2 (of_decide_eq_true rfl)) 0)) ((congrFun (f142 2 (of_decide_eq_true rfl)) 1).trans (congrFun (f52 2 (of_decide_eq_true rfl)) 1)) ((congrFun (f142 2 (of_decide_eq_true rfl)) 2).trans (congrFun (f52 2 (of_decide_eq_true rfl)) 2)) ((congrFun (f142 2 (of_decide_eq_true rfl)) 3).trans (congrFun (f52 2 (of_decide_eq_true rfl)) 3)) ((f142 6 (of_decide_eq_true rfl)).trans (f52 6 (of_decide_eq_true rfl))) hI2
           have I158 : jI9 σ140 := jI9_fr ((congrFun (f142 9 (of_decide_eq_true rfl)) 0).trans (congrFun (f52 9 (of_decide_eq_true rfl)) 0)) ((f142 10 (of_decide_eq_true rfl)).trans (f52 10 (of_decide_eq_true rfl))) ((f142 11 (of_decide_eq_true rfl)).trans (f52 11 (of_decide_eq_true rfl))) hI9
           have I159 : jI12 σ140 := jI12_fr ((congrFun (f142 12 (of_decide_eq_true rfl)) 0).trans (congrFun (f52 12 (of_decide_eq_true rfl)) 0)) ((f142 13 (of_decide_eq_true rfl)).trans (f52 13 (of_decide_eq_true rfl))) hI12
           have I160 : jI16 σ140 := jI16_fr ((congrFun (f142 16 (of_decide_eq_true rfl)) 0).trans (congrFun (f52 16 (of_decide_eq_true rfl)) 0)) ((congrFun (f142 16 (of_decide_eq_true rfl)) 1).trans (congrFun (f52 16 (of_decide_eq_true rfl)) 1)) ((congrFun (f142 16 (of_decide_eq_true rfl)) 2).trans (congrFun (f52 16 (of_decide_eq_true rfl)) 2)) ((f142 17 (of_decide_eq_true rfl)).trans (f52 17 (of_decide_eq_true rfl))) hI16
           have I161 : jI18 σ140 := jI18_fr ((congrFun (f142 18 (of_decide_eq_true rfl)) 0).trans (congrFun (f52 18 (of_decide_eq_true rfl)) 0)) ((f142 19 (of_decide_eq_true rfl)).trans (f52 19 (of_decide_eq_true rfl))) hI18
           have I162 : jI22 σ140 := jI22_fr ((congrFun (f142 22 (of_decide_eq_true rfl)) 0).trans (congrFun (f52 22 (of_decide_eq_true rfl)) 0)) ((f142 23 (of_decide_eq_true rfl)).trans (f52 23 (of_decide_eq_true rfl))) hI22
           exact by
            have I163 : jI31 σ140 := jI31_fr ((congrFun (f142 31 (of_decide_eq_true rfl)) 8).trans (congrFun (f52 31 (of_decide_eq_true rfl)) 8)) ((f142 33 (of_decide_eq_true rfl)).trans (f52 33 (of_decide_eq_true rfl))) ((f142 36 (of_decide_eq_true rfl)).trans (f52 36 (of_decide_eq_true rfl))) hI31
            have I164 : jI38 σ140 := jI38_fr ((congrFun (f142 38 (of_decide_eq_true rfl)) 0).trans (congrFun (f52 38 (of_decide_eq_true rfl)) 0)) ((congrFun (f142 38 (of_decide_eq_true rfl)) 1).trans (congrFun (f52 38 (of_decide_eq_true rfl)) 1)) ((f142 39 (of_decide_eq_true rfl)).trans (f52 39 (of_decide_eq_true rfl))) hI38
            have I165 : jI43 σ140 := jI43_fr ((congrFun (f142 43 (of_decide_eq_true rfl)) 8).trans (congrFun (f52 43 (of_decide_eq_true rfl)) 8)) hI43
            have I166 : jI47 σ140 := jI47_fr ((congrFun (f142 47 (of_decide_eq_true rfl)) 0).trans (congrFun (f52 47 (of_decide_eq_true rfl)) 0)) ((f142 48 (of_decide_eq_true rfl)).trans (f52 48 (of_decide_eq_true rfl))) ((f142 49 (of_decide_eq_true rfl)).trans (f52 49 (of_decide_eq_true rfl))) hI47
            have I167 : jI50 σ140 := jI50_fr (f142 52 (of_decide_eq_true rfl)) I53
            have I168 : jI101 σ140 := jI101_fr ((congrFun (f142 55 (of_decide_eq_true rfl)) 4).trans (congrFun (f52 55 (of_decide_eq_true rfl)) 4)) ((congrFun (f142 55 (of_decide_eq_true rfl)) 5).trans (congrFun (f52 55 (of_decide_eq_true rfl)) 5)) ((f142 56 (of_decide_eq_true rfl)).trans (f52 56 (of_decide_eq_true rfl))) ((f142 57 (of_decide_eq_true rfl)).trans (f52 57 (of_decide_eq_true rfl))) ((f142 58 (of_decide_eq_true rfl)).trans (f52 58 (of_decide_eq_true rfl))) ((f142 59 (of_decide_eq_true rfl)).trans (f52 59 (of_decide_eq_true rfl))) hI101
            have I169 : jI102 σ140 := jI102_fr ((congrFun (f142 55 (of_decide_eq_true rfl)) 6).trans (congrFun (f52 55 (of_decide_eq_true rfl)) 6)) ((f142 60 (of_decide_eq_true rfl)).trans (f52 60 (of_decide_eq_true rfl))) ((f142 61 (of_decide_eq_true rfl)).trans (f52 61 (of_decide_eq_true rfl))) hI102
            have I170 : jI103 σ140 := jI103_fr ((congrFun (f142 55 (of_decide_eq_true rfl)) 9).trans (congrFun (f52 55 (of_decide_eq_true rfl)) 9)) hI103
            have I171 : jI104 σ140 := jI104_fr ((congrFun (f142 55 (of_decide_eq_true rfl)) 10).trans (congrFun (f52 55 (of_decide_eq_true rfl)) 10)) ((congrFun (f142 55 (of_decide_eq_true rfl)) 12).trans (congrFun (f52 55 (of_decide_eq_true rfl)) 12)) ((congrFun (f142 55 (of_decide_eq_true rfl)) 13).trans (congrFun (f52 55 (of_decide_eq_true rfl)) 13)) ((f142 62 (of_decide_eq_true rfl)).trans (f52 62 (of_decide_eq_true rfl))) ((f142 67 (of_decide_eq_true rfl)).trans (f52 67 (of_decide_eq_true rfl))) hI104
            have I172 : jI105 σ140 := jI105_fr ((congrFun (f142 55 (of_decide_eq_true rfl)) 15).trans (congrFun (f52 55 (of_decide_eq_true rfl)) 15)) ((f142 65 (of_decide_eq_true rfl)).trans (f52 65 (of_decide_eq_true rfl))) hI105
            have I173 : jI106 σ140 := jI106_fr (congrFun (f142 55 (of_decide_eq_true rfl)) 32) (f142 70 (of_decide_eq_true rfl)) (f142 71 (of_decide_eq_true rfl)) (f142 72 (of_decide_eq_true rfl)) I137
            have I174 : jI107 σ140 := jI107_fr ((congrFun (f142 55 (of_decide_eq_true rfl)) 12).trans (congrFun (f52 55 (of_decide_eq_true rfl)) 12)) ((congrFun (f142 55 (of_decide_eq_true rfl)) 47).trans (congrFun (f52 55 (of_decide_eq_true rfl)) 47)) ((f142 80 (of_decide_eq_true rfl)).trans (f52 80 (of_decide_eq_true rfl))) hI107
            have I175 : jI109 σ140 := jI109_fr ((congrFun (f142 55 (of_decide_eq_true rfl)) 50).trans (congrFun (f52 55 (of_decide_eq_true rfl)) 50)) hI109
            have I176 : jI111 σ140 := jI111_fr ((f142 79 (of_decide_eq_true rfl)).trans (f52 79 (of_decide_eq_true rfl))) hI111
            have I177 : jI119 σ140 := jI119_fr ((f142 68 (of_decide_eq_true rfl)).trans (f52 68 (of_decide_eq_true rfl))) hI119
            have p178 : jKept σ140 := jKept.fr ((f142 75 (of_decide_eq_true rfl)).trans (f52 75 (of_decide_eq_true rfl))) ((f142 76 (of_decide_eq_true rfl)).trans (f52 76 (of_decide_eq_true rfl))) ((f142 77 (of_decide_eq_true rfl)).trans (f52 77 (of_decide_eq_true rfl))) hs_jKept
            have p179 : jBook σ140 := jBook.fr ((congrFun (f142 55 (of_decide_eq_true rfl)) 47).trans (congrFun (f52 55 (of_decide_eq_true rfl)) 47)) ((congrFun (f142 55 (of_decide_eq_true rfl)) 10).trans (congrFun (f52 55 (of_decide_eq_true rfl)) 10)) ((f142 81 (of_decide_eq_true rfl)).trans (f52 81 (of_decide_eq_true rfl))) hs_jBook
            have z180 : (σ140 2 0).toInt = (σ 2 0).toInt := (congrArg Int32.toInt (show σ140 2 0 = (σ 2 0) from ((congrFun (f142 2 (of_decide_eq_true rfl)) 0).trans (congrFun (f52 2 (of_decide_eq_true rfl)) 0))))
            have z181 : (σ140 55 6).toInt = (σ 55 6).toInt := (congrArg Int32.toInt (show σ140 55 6 = (σ 55 6) from ((congrFun (f142 55 (of_decide_eq_true rfl)) 6).trans (congrFun (f52 55 (of_decide_eq_true rfl)) 6))))
            have z182 : (σ140 2 2).toInt = (σ 2 2).toInt := (congrArg Int32.toInt (show σ140 2 2 = (σ 2 2) from ((congrFun (f142 2 (of_decide_eq_true rfl)) 2).trans (congrFun (f52 2 (of_decide_eq_true rfl)) 2))))
            have z183 : (σ140 55 5).toInt = (σ 55 5).toInt := (congrArg Int32.toInt (show σ140 55 5 = (σ 55 5) from ((congrFun (f142 55 (of_decide_eq_true rfl)) 5).trans (congrFun (f52 55 (of_decide_eq_true rfl)) 5))))
            have z184 : (σ140 2 3).toInt = (σ 2 3).toInt := (congrArg Int32.toInt (show σ140 2 3 = (σ 2 3) from ((congrFun (f142 2 (of_decide_eq_true rfl)) 3).trans (congrFun (f52 2 (of_decide_eq_true rfl)) 3))))
            have z185 : (σ140 55 4).toInt = (σ 55 4).toInt := (congrArg Int32.toInt (show σ140 55 4 = (σ 55 4) from ((congrFun (f142 55 (of_decide_eq_true rfl)) 4).trans (congrFun (f52 55 (of_decide_eq_true rfl)) 4))))
            have z186 : (σ140 9 0).toInt = (σ 9 0).toInt := (congrArg Int32.toInt (show σ140 9 0 = (σ 9 0) from ((congrFun (f142 9 (of_decide_eq_true rfl)) 0).trans (congrFun (f52 9 (of_decide_eq_true rfl)) 0))))
            have z187 : (σ140 55 15).toInt = (σ 55 15).toInt := (congrArg Int32.toInt (show σ140 55 15 = (σ 55 15) from ((congrFun (f142 55 (of_decide_eq_true rfl)) 15).trans (congrFun (f52 55 (of_decide_eq_true rfl)) 15))))
            have z188 : (σ140 16 0).toInt = (σ 16 0).toInt := (congrArg Int32.toInt (show σ140 16 0 = (σ 16 0) from ((congrFun (f142 16 (of_decide_eq_true rfl)) 0).trans (congrFun (f52 16 (of_decide_eq_true rfl)) 0))))
            have z189 : (σ140 55 10).toInt = (σ 55 10).toInt := (congrArg Int32.toInt (show σ140 55 10 = (σ 55 10) from ((congrFun (f142 55 (of_decide_eq_true rfl)) 10).trans (congrFun (f52 55 (of_decide_eq_true rfl)) 10))))
            have z190 : (σ140 16 1).toInt = (σ 16 1).toInt := (congrArg Int32.toInt (show σ140 16 1 = (σ 16 1) from ((congrFun (f142 16 (of_decide_eq_true rfl)) 1).trans (congrFun (f52 16 (of_decide_eq_true rfl)) 1))))
            have z191 : (σ140 55 12).toInt = (σ 55 12).toInt := (congrArg Int32.toInt (show σ140 55 12 = (σ 55 12) from ((congrFun (f142 55 (of_decide_eq_true rfl)) 12).trans (congrFun (f52 55 (of_decide_eq_true rfl)) 12))))
            have z192 : (σ140 16 2).toInt = (σ 16 2).toInt := (congrArg Int32.toInt (show σ140 16 2 = (σ 16 2) from ((congrFun (f142 16 (of_decide_eq_true rfl)) 2).trans (congrFun (f52 16 (of_decide_eq_true rfl)) 2))))
            have z193 : (σ140 55 13).toInt = (σ 55 13).toInt := (congrArg Int32.toInt (show σ140 55 13 = (σ 55 13) from ((congrFun (f142 55 (of_decide_eq_true rfl)) 13).trans (congrFun (f52 55 (of_decide_eq_true rfl)) 13))))
            have z194 : (σ140 38 0).toInt = (σ 38 0).toInt := (congrArg Int32.toInt (show σ140 38 0 = (σ 38 0) from ((congrFun (f142 38 (of_decide_eq_true rfl)) 0).trans (congrFun (f52 38 (of_decide_eq_true rfl)) 0))))
            have z195 : (σ140 55 32).toInt = (σ 55 32).toInt := (congrArg Int32.toInt (show σ140 55 32 = (σ 55 32) from ((congrFun (f142 55 (of_decide_eq_true rfl)) 32).trans (congrFun (f52 55 (of_decide_eq_true rfl)) 32))))
            have z196 : (σ140 38 1).toInt = (σ 38 1).toInt := (congrArg Int32.toInt (show σ140 38 1 = (σ 38 1) from ((congrFun (f142 38 (of_decide_eq_true rfl)) 1).trans (congrFun (f52 38 (of_decide_eq_true rfl)) 1))))
            have z197 : (σ140 55 55).toInt = (σ 55 55).toInt := (congrArg Int32.toInt (show σ140 55 55 = (σ 55 55) from ((congrFun (f142 55 (of_decide_eq_true rfl)) 55).trans (congrFun (f52 55 (of_decide_eq_true rfl)) 55))))
            have z198 : (σ140 47 0).toInt = (σ 47 0).toInt := (congrArg Int32.toInt (show σ140 47 0 = (σ 47 0) from ((congrFun (f142 47 (of_decide_eq_true rfl)) 0).trans (congrFun (f52 47 (of_decide_eq_true rfl)) 0))))
            have z199 : (σ140 55 47).toInt = (σ 55 47).toInt := (congrArg Int32.toInt (show σ140 55 47 = (σ 55 47) from ((congrFun (f142 55 (of_decide_eq_true rfl)) 47).trans (congrFun (f52 55 (of_decide_eq_true rfl)) 47))))
            have z200 : (σ140 55 30).toInt = (σ 55 30).toInt := (congrArg Int32.toInt (show σ140 55 30 = (σ 55 30) from ((congrFun (f142 55 (of_decide_eq_true rfl)) 30).trans (congrFun (f52 55 (of_decide_eq_true rfl)) 30))))
            have z201 : (σ140 55 31).toInt = (σ 55 31).toInt := (congrArg Int32.toInt (show σ140 55 31 = (σ 55 31) from ((congrFun (f142 55 (of_decide_eq_true rfl)) 31).trans (congrFun (f52 55 (of_decide_eq_true rfl)) 31))))
            rw [show σ50 86 = σ 86 from (f52 86 (of_decide_eq_true rfl)), show σ50 87 = σ 87 from (f52 87 (of_decide_eq_true rfl))] at k154
            have p202 := hr4.set k135.1 k135.2.2 k135.2.1 k154.1 k154.2 (Or.inr (Or.inl ⟨rfl, rfl, by omega, by omega⟩))
            have p203 := hr5.keep k135.1 k135.2.2 (of_decide_eq_true rfl)
            exact by exact ih x156 σ140 τ _ _ ls (by have h9 := tx156; omega) ⟨I157, I158, I159, I160, I161, I162, I163, I164, I165, I166, I167, I168, I169, I170, I171, I172, I173, I174, I175, I143, I176, I177, p178, p179, (by omega), (by omega), (by omega), (by omega), (by omega), (by omega), (by omega), (by omega), (by omega), (by omega), (by omega), (by omega), (show jNumP (σ140 3) (σ140 56) (σ140 6) (σ140 57) (σ140 7) (σ140 58) (σ140 8) (σ140 59) (σ140 55 6).toInt (σ140 55 4).toInt by rw [show σ140 3 = σ 3 from ((f142 3 (of_decide_eq_true rfl)).trans (f52 3 (of_decide_eq_true rfl))), show σ140 56 = σ 56 from ((f142 56 (of_decide_eq_true rfl)).trans (f52 56 (of_decide_eq_true rfl))), show σ140 6 = σ 6 from ((f142 6 (of_decide_eq_true rfl)).trans (f52 6 (of_decide_eq_true rfl))), show σ140 57 = σ 57 from ((f142 57 (of_decide_eq_true rfl)).trans (f52 57 (of_decide_eq_true rfl))), show σ140 7 = σ 7 from ((f142 7 (of_decide_eq_true rfl)).trans (f52 7 (of_decide_eq_true rfl))), show σ140 58 = σ 58 from ((f142 58 (of_decide_eq_true rfl)).trans (f52 58 (of_decide_eq_true rfl))), show σ140 8 = σ 8 from ((f142 8 (of_decide_eq_true rfl)).trans (f52 8 (of_decide_eq_true rfl))), show σ140 59 = σ 59 from ((f142 59 (of_decide_eq_true rfl)).trans (f52 59 (of_decide_eq_true rfl))), show (σ140 55 6).toInt = (σ 55 6).toInt from by omega, show (σ140 55 4).toInt = (σ 55 4).toInt from by omega]; exact hr0), (show jOvP (σ140 56) (σ140 57) (σ140 58) (σ140 59) (σ140 55 4).toInt by rw [show σ140 56 = σ 56 from ((f142 56 (of_decide_eq_true rfl)).trans (f52 56 (of_decide_eq_true rfl))), show σ140 57 = σ 57 from ((f142 57 (of_decide_eq_true rfl)).trans (f52 57 (of_decide_eq_true rfl))), show σ140 58 = σ 58 from ((f142 58 (of_decide_eq_true rfl)).trans (f52 58 (of_decide_eq_true rfl))), show σ140 59 = σ 59 from ((f142 59 (of_decide_eq_true rfl)).trans (f52 59 (of_decide_eq_true rfl))), show (σ140 55 4).toInt = (σ 55 4).toInt from by omega]; exact hr1), (show jTp (σ140 10) (σ140 63) (σ140 55 15).toInt by rw [show σ140 10 = σ 10 from ((f142 10 (of_decide_eq_true rfl)).trans (f52 10 (of_decide_eq_true rfl))), show σ140 63 = σ 63 from ((f142 63 (of_decide_eq_true rfl)).trans (f52 63 (of_decide_eq_true rfl)))]; exact hr2.le (by omega)), (show jSo (σ140 17) (σ140 62) (σ140 16 0).toInt by rw [show σ140 17 = σ 17 from ((f142 17 (of_decide_eq_true rfl)).trans (f52 17 (of_decide_eq_true rfl))), show σ140 62 = σ 62 from ((f142 62 (of_decide_eq_true rfl)).trans (f52 62 (of_decide_eq_true rfl))), show (σ140 16 0).toInt = (σ 16 0).toInt from by omega]; exact hr3), (show jShP (σ140 51) (σ140 52) (σ140 53) (σ140 86) (σ140 87) (σ140 55 32).toInt by rw [show σ140 51 = σ50 51 from (f142 51 (of_decide_eq_true rfl)), show σ140 52 = σ50 52 from (f142 52 (of_decide_eq_true rfl)), show σ140 53 = σ50 53 from (f142 53 (of_decide_eq_true rfl))]; exact (p202.up (by omega) (by omega))), (show jEl (σ140 51) (σ140 52) (τ 54) (τ 88) by rw [show σ140 51 = σ50 51 from (f142 51 (of_decide_eq_true rfl)), show σ140 52 = σ50 52 from (f142 52 (of_decide_eq_true rfl))]; exact p203), (show jByP (σ140 51) (σ140 52) (τ 54) by rw [show σ140 51 = σ50 51 from (f142 51 (of_decide_eq_true rfl)), show σ140 52 = σ50 52 from (f142 52 (of_decide_eq_true rfl))]; exact (hr6.keep k135.1 k135.2.2 (of_decide_eq_true rfl))), (show jBk (σ140 48) (σ140 80) (σ140 49) (σ140 81) (σ140 55 47).toInt by rw [show σ140 48 = σ 48 from ((f142 48 (of_decide_eq_true rfl)).trans (f52 48 (of_decide_eq_true rfl))), show σ140 49 = σ 49 from ((f142 49 (of_decide_eq_true rfl)).trans (f52 49 (of_decide_eq_true rfl))), show σ140 80 = σ 80 from ((f142 80 (of_decide_eq_true rfl)).trans (f52 80 (of_decide_eq_true rfl))), show σ140 81 = σ 81 from ((f142 81 (of_decide_eq_true rfl)).trans (f52 81 (of_decide_eq_true rfl))), show (σ140 55 47).toInt = (σ 55 47).toInt from by omega]; exact hr7), (show jKd (σ140 39) (σ140 70) (σ140 55 32).toInt by rw [show σ140 39 = σ 39 from ((f142 39 (of_decide_eq_true rfl)).trans (f52 39 (of_decide_eq_true rfl))), show σ140 70 = σ 70 from ((f142 70 (of_decide_eq_true rfl)).trans (f52 70 (of_decide_eq_true rfl))), show (σ140 55 32).toInt = (σ 55 32).toInt from by omega]; exact hr8), (show jTt (σ140 42) (σ140 85) (σ140 55 55).toInt by rw [show σ140 42 = σ 42 from ((f142 42 (of_decide_eq_true rfl)).trans (f52 42 (of_decide_eq_true rfl))), show σ140 85 = σ 85 from ((f142 85 (of_decide_eq_true rfl)).trans (f52 85 (of_decide_eq_true rfl))), show (σ140 55 55).toInt = (σ 55 55).toInt from by omega]; exact hr9)⟩ hP hS (lv_sub hl [0, 1, 2, 3] rfl)
        · obtain ⟨q206, k204, k205⟩ := h147
          exact absurd (by omega : False) id
    · obtain ⟨q209, k207, k208⟩ := h58
      have q209 := q209.symm
      subst q209
      refine lv_pop hx hb dL_law_1070 rfl ?_
      refine lv_aload_n hx hb dL_law_1071 rfl (lv_at hl 1 rfl) ?_
      refine lv_aload_n hx hb dL_law_1072 rfl (lv_at hl 3 rfl) ?_
      refine lv_iload_n hx hb dL_law_1073 rfl (lv_at hl 0 rfl) ?_
      refine lv_iconst (v := 1) hx hb dL_law_1074 (of_decide_eq_true rfl) ?_
      refine lv_iadd hx hb dL_law_1075 ?_
      refine jtopr ex46.symm ?_
      exact by
       refine va_sld hx hb hX hbl hbA hS (jin tx46 (by omega) (by omega)) dL_law_1076 ?_
       refine lv_aload_n hx hb dL_law_1077 rfl (lv_at hl 3 rfl) ?_
       refine lv_iload_n hx hb dL_law_1078 rfl (lv_at hl 0 rfl) ?_
       refine lv_iconst (v := 2) hx hb dL_law_1079 (of_decide_eq_true rfl) ?_
       refine lv_iadd hx hb dL_law_1080 ?_
       refine jtopr ex48.symm ?_
       refine va_sld hx hb hX hbl hbA hS (jin tx48 (by omega) (by omega)) dL_law_1081 ?_
       have I210 : jI106 σ50 := jI106_fr (congrFun (f52 55 (of_decide_eq_true rfl)) 32) (f52 70 (of_decide_eq_true rfl)) (f52 71 (of_decide_eq_true rfl)) (f52 72 (of_decide_eq_true rfl)) hI106
       have I211 : jI110 σ50 := jI110_fr (f52 86 (of_decide_eq_true rfl)) (f52 87 (of_decide_eq_true rfl)) hI110
       exact by
        have z212 : (σ50 55 32).toInt = (σ 55 32).toInt := (congrArg Int32.toInt (show σ50 55 32 = (σ 55 32) from (congrFun (f52 55 (of_decide_eq_true rfl)) 32)))
        refine jcallV (As := [.int (xs x46.toNatClampNeg), .int (xs x48.toNatClampNeg)]) (rest := []) ⟨hx, hb, hml, hown, hts⟩ hK hP hA hS hZ (c_X12_keep l D cI cL ad zz hJ σ50 τ (xs x46.toNatClampNeg) ((xs x46.toNatClampNeg).toInt) rfl (xs x48.toNatClampNeg) ((xs x48.toNatClampNeg).toInt) rfl I210 I211) cw_RL_140 (jc_55 cI cL ad σ50 τ) rfl ⟨Nat.le_of_ble_eq_true rfl, Nat.le_of_ble_eq_true rfl⟩ rfl rfl rfl hl.1 rfl (Nat.le_of_ble_eq_true rfl) dL_law_1082 ⟨Nat.le_of_ble_eq_true rfl, Nat.le_of_ble_eq_true rfl⟩ (fun r214 σ213 τ213 H locs h213 hP hS => ?_)
        obtain ⟨rfl, f215, I216, h213⟩ := h213
        rcases h213 with h218 | h219 | h220
        · obtain ⟨q224, k221, k222, k223⟩ := h218
          exact absurd (by omega : False) id
        · obtain ⟨q228, k225, k226, k227⟩ := h219
          exact absurd (by omega : False) id
        · obtain ⟨q231, k229, k230⟩ := h220
          have q231 := q231.symm
          subst q231
          refine lv_pop hx hb dL_law_1085 rfl ?_
          refine lv_goto (tgt := 1357) hx hb dL_law_1086 (of_decide_eq_true rfl) ?_
          obtain ⟨x232, ex232⟩ : ∃ y : Int32, y = x0 + 6 := ⟨_, rfl⟩
          exact by
           have tx232 : x232.toInt = x0.toInt + 6 := (jadd ex232 rfl jz_6 (by omega) (by omega)).trans (by omega)
           refine lv_iinc (v := x232) (lv' := [(3, .int x232), (2, .ref (ad 55)), (1, .ref (ad 0)), (0, .ref b)]) hx hb dL_law_1357 hl (k := 0) rfl (by rw [ex232]; rfl) (of_decide_eq_true rfl) rfl (fun ls hl => ?_)
           refine lv_goto (tgt := 18) hx hb dL_law_1360 (of_decide_eq_true rfl) ?_
           have I233 : jI2 σ213 := jI2_fr ((congrFun (f215 2 (of_decide_eq_true rfl)) 0).trans (congrFun (f52 2 (of_decide_eq_true rfl)) 0)) ((congrFun (f215 2 (of_decide_eq_true rfl)) 1).trans (congrFun (f52 2 (of_decide_eq_true rfl)) 1)) ((congrFun (f215 2 (of_decide_eq_true rfl)) 2).trans (congrFun (f52 2 (of_decide_eq_true rfl)) 2)) ((congrFun (f215 2 (of_decide_eq_true rfl)) 3).trans (congrFun (f52 2 (of_decide_eq_true rfl)) 3)) ((f215 6 (of_decide_eq_true rfl)).trans (f52 6 (of_decide_eq_true rfl))) hI2
           have I234 : jI9 σ213 := jI9_fr ((congrFun (f215 9 (of_decide_eq_true rfl)) 0).trans (congrFun (f52 9 (of_decide_eq_true rfl)) 0)) ((f215 10 (of_decide_eq_true rfl)).trans (f52 10 (of_decide_eq_true rfl))) ((f215 11 (of_decide_eq_true rfl)).trans (f52 11 (of_decide_eq_true rfl))) hI9
           have I235 : jI12 σ213 := jI12_fr ((congrFun (f215 12 (of_decide_eq_true rfl)) 0).trans (congrFun (f52 12 (of_decide_eq_true rfl)) 0)) ((f215 13 (of_decide_eq_true rfl)).trans (f52 13 (of_decide_eq_true rfl))) hI12
           have I236 : jI16 σ213 := jI16_fr ((congrFun (f215 16 (of_decide_eq_true rfl)) 0).trans (congrFun (f52 16 (of_decide_eq_true rfl)) 0)) ((congrFun (f215 16 (of_decide_eq_true rfl)) 1).trans (congrFun (f52 16 (of_decide_eq_true rfl)) 1)) ((congrFun (f215 16 (of_decide_eq_true rfl)) 2).trans (congrFun (f52 16 (of_decide_eq_true rfl)) 2)) ((f215 17 (of_decide_eq_true rfl)).trans (f52 17 (of_decide_eq_true rfl))) hI16
           have I237 : jI18 σ213 := jI18_fr ((congrFun (f215 18 (of_decide_eq_true rfl)) 0).trans (congrFun (f52 18 (of_decide_eq_true rfl)) 0)) ((f215 19 (of_decide_eq_true rfl)).trans (f52 19 (of_decide_eq_true rfl))) hI18
           have I238 : jI22 σ213 := jI22_fr ((congrFun (f215 22 (of_decide_eq_true rfl)) 0).trans (congrFun (f52 22 (of_decide_eq_true rfl)) 0)) ((f215 23 (of_decide_eq_true rfl)).trans (f52 23 (of_decide_eq_true rfl))) hI22
           exact by
            have I239 : jI31 σ213 := jI31_fr ((congrFun (f215 31 (of_decide_eq_true rfl)) 8).trans (congrFun (f52 31 (of_decide_eq_true rfl)) 8)) ((f215 33 (of_decide_eq_true rfl)).trans (f52 33 (of_decide_eq_true rfl))) ((f215 36 (of_decide_eq_true rfl)).trans (f52 36 (of_decide_eq_true rfl))) hI31
            have I240 : jI38 σ213 := jI38_fr ((congrFun (f215 38 (of_decide_eq_true rfl)) 0).trans (congrFun (f52 38 (of_decide_eq_true rfl)) 0)) ((congrFun (f215 38 (of_decide_eq_true rfl)) 1).trans (congrFun (f52 38 (of_decide_eq_true rfl)) 1)) ((f215 39 (of_decide_eq_true rfl)).trans (f52 39 (of_decide_eq_true rfl))) hI38
            have I241 : jI43 σ213 := jI43_fr ((congrFun (f215 43 (of_decide_eq_true rfl)) 8).trans (congrFun (f52 43 (of_decide_eq_true rfl)) 8)) hI43
            have I242 : jI47 σ213 := jI47_fr ((congrFun (f215 47 (of_decide_eq_true rfl)) 0).trans (congrFun (f52 47 (of_decide_eq_true rfl)) 0)) ((f215 48 (of_decide_eq_true rfl)).trans (f52 48 (of_decide_eq_true rfl))) ((f215 49 (of_decide_eq_true rfl)).trans (f52 49 (of_decide_eq_true rfl))) hI47
            have I243 : jI50 σ213 := jI50_fr (f215 52 (of_decide_eq_true rfl)) I53
            have I244 : jI101 σ213 := jI101_fr ((congrFun (f215 55 (of_decide_eq_true rfl)) 4).trans (congrFun (f52 55 (of_decide_eq_true rfl)) 4)) ((congrFun (f215 55 (of_decide_eq_true rfl)) 5).trans (congrFun (f52 55 (of_decide_eq_true rfl)) 5)) ((f215 56 (of_decide_eq_true rfl)).trans (f52 56 (of_decide_eq_true rfl))) ((f215 57 (of_decide_eq_true rfl)).trans (f52 57 (of_decide_eq_true rfl))) ((f215 58 (of_decide_eq_true rfl)).trans (f52 58 (of_decide_eq_true rfl))) ((f215 59 (of_decide_eq_true rfl)).trans (f52 59 (of_decide_eq_true rfl))) hI101
            have I245 : jI102 σ213 := jI102_fr ((congrFun (f215 55 (of_decide_eq_true rfl)) 6).trans (congrFun (f52 55 (of_decide_eq_true rfl)) 6)) ((f215 60 (of_decide_eq_true rfl)).trans (f52 60 (of_decide_eq_true rfl))) ((f215 61 (of_decide_eq_true rfl)).trans (f52 61 (of_decide_eq_true rfl))) hI102
            have I246 : jI103 σ213 := jI103_fr ((congrFun (f215 55 (of_decide_eq_true rfl)) 9).trans (congrFun (f52 55 (of_decide_eq_true rfl)) 9)) hI103
            have I247 : jI104 σ213 := jI104_fr ((congrFun (f215 55 (of_decide_eq_true rfl)) 10).trans (congrFun (f52 55 (of_decide_eq_true rfl)) 10)) ((congrFun (f215 55 (of_decide_eq_true rfl)) 12).trans (congrFun (f52 55 (of_decide_eq_true rfl)) 12)) ((congrFun (f215 55 (of_decide_eq_true rfl)) 13).trans (congrFun (f52 55 (of_decide_eq_true rfl)) 13)) ((f215 62 (of_decide_eq_true rfl)).trans (f52 62 (of_decide_eq_true rfl))) ((f215 67 (of_decide_eq_true rfl)).trans (f52 67 (of_decide_eq_true rfl))) hI104
            have I248 : jI105 σ213 := jI105_fr ((congrFun (f215 55 (of_decide_eq_true rfl)) 15).trans (congrFun (f52 55 (of_decide_eq_true rfl)) 15)) ((f215 65 (of_decide_eq_true rfl)).trans (f52 65 (of_decide_eq_true rfl))) hI105
            have I249 : jI106 σ213 := jI106_fr (congrFun (f215 55 (of_decide_eq_true rfl)) 32) (f215 70 (of_decide_eq_true rfl)) (f215 71 (of_decide_eq_true rfl)) (f215 72 (of_decide_eq_true rfl)) I210
            have I250 : jI107 σ213 := jI107_fr ((congrFun (f215 55 (of_decide_eq_true rfl)) 12).trans (congrFun (f52 55 (of_decide_eq_true rfl)) 12)) ((congrFun (f215 55 (of_decide_eq_true rfl)) 47).trans (congrFun (f52 55 (of_decide_eq_true rfl)) 47)) ((f215 80 (of_decide_eq_true rfl)).trans (f52 80 (of_decide_eq_true rfl))) hI107
            have I251 : jI109 σ213 := jI109_fr ((congrFun (f215 55 (of_decide_eq_true rfl)) 50).trans (congrFun (f52 55 (of_decide_eq_true rfl)) 50)) hI109
            have I252 : jI111 σ213 := jI111_fr ((f215 79 (of_decide_eq_true rfl)).trans (f52 79 (of_decide_eq_true rfl))) hI111
            have I253 : jI119 σ213 := jI119_fr ((f215 68 (of_decide_eq_true rfl)).trans (f52 68 (of_decide_eq_true rfl))) hI119
            have p254 : jKept σ213 := jKept.fr ((f215 75 (of_decide_eq_true rfl)).trans (f52 75 (of_decide_eq_true rfl))) ((f215 76 (of_decide_eq_true rfl)).trans (f52 76 (of_decide_eq_true rfl))) ((f215 77 (of_decide_eq_true rfl)).trans (f52 77 (of_decide_eq_true rfl))) hs_jKept
            have p255 : jBook σ213 := jBook.fr ((congrFun (f215 55 (of_decide_eq_true rfl)) 47).trans (congrFun (f52 55 (of_decide_eq_true rfl)) 47)) ((congrFun (f215 55 (of_decide_eq_true rfl)) 10).trans (congrFun (f52 55 (of_decide_eq_true rfl)) 10)) ((f215 81 (of_decide_eq_true rfl)).trans (f52 81 (of_decide_eq_true rfl))) hs_jBook
            have z256 : (σ213 2 0).toInt = (σ 2 0).toInt := (congrArg Int32.toInt (show σ213 2 0 = (σ 2 0) from ((congrFun (f215 2 (of_decide_eq_true rfl)) 0).trans (congrFun (f52 2 (of_decide_eq_true rfl)) 0))))
            have z257 : (σ213 55 6).toInt = (σ 55 6).toInt := (congrArg Int32.toInt (show σ213 55 6 = (σ 55 6) from ((congrFun (f215 55 (of_decide_eq_true rfl)) 6).trans (congrFun (f52 55 (of_decide_eq_true rfl)) 6))))
            have z258 : (σ213 2 2).toInt = (σ 2 2).toInt := (congrArg Int32.toInt (show σ213 2 2 = (σ 2 2) from ((congrFun (f215 2 (of_decide_eq_true rfl)) 2).trans (congrFun (f52 2 (of_decide_eq_true rfl)) 2))))
            have z259 : (σ213 55 5).toInt = (σ 55 5).toInt := (congrArg Int32.toInt (show σ213 55 5 = (σ 55 5) from ((congrFun (f215 55 (of_decide_eq_true rfl)) 5).trans (congrFun (f52 55 (of_decide_eq_true rfl)) 5))))
            have z260 : (σ213 2 3).toInt = (σ 2 3).toInt := (congrArg Int32.toInt (show σ213 2 3 = (σ 2 3) from ((congrFun (f215 2 (of_decide_eq_true rfl)) 3).trans (congrFun (f52 2 (of_decide_eq_true rfl)) 3))))
            have z261 : (σ213 55 4).toInt = (σ 55 4).toInt := (congrArg Int32.toInt (show σ213 55 4 = (σ 55 4) from ((congrFun (f215 55 (of_decide_eq_true rfl)) 4).trans (congrFun (f52 55 (of_decide_eq_true rfl)) 4))))
            have z262 : (σ213 9 0).toInt = (σ 9 0).toInt := (congrArg Int32.toInt (show σ213 9 0 = (σ 9 0) from ((congrFun (f215 9 (of_decide_eq_true rfl)) 0).trans (congrFun (f52 9 (of_decide_eq_true rfl)) 0))))
            have z263 : (σ213 55 15).toInt = (σ 55 15).toInt := (congrArg Int32.toInt (show σ213 55 15 = (σ 55 15) from ((congrFun (f215 55 (of_decide_eq_true rfl)) 15).trans (congrFun (f52 55 (of_decide_eq_true rfl)) 15))))
            have z264 : (σ213 16 0).toInt = (σ 16 0).toInt := (congrArg Int32.toInt (show σ213 16 0 = (σ 16 0) from ((congrFun (f215 16 (of_decide_eq_true rfl)) 0).trans (congrFun (f52 16 (of_decide_eq_true rfl)) 0))))
            have z265 : (σ213 55 10).toInt = (σ 55 10).toInt := (congrArg Int32.toInt (show σ213 55 10 = (σ 55 10) from ((congrFun (f215 55 (of_decide_eq_true rfl)) 10).trans (congrFun (f52 55 (of_decide_eq_true rfl)) 10))))
            have z266 : (σ213 16 1).toInt = (σ 16 1).toInt := (congrArg Int32.toInt (show σ213 16 1 = (σ 16 1) from ((congrFun (f215 16 (of_decide_eq_true rfl)) 1).trans (congrFun (f52 16 (of_decide_eq_true rfl)) 1))))
            have z267 : (σ213 55 12).toInt = (σ 55 12).toInt := (congrArg Int32.toInt (show σ213 55 12 = (σ 55 12) from ((congrFun (f215 55 (of_decide_eq_true rfl)) 12).trans (congrFun (f52 55 (of_decide_eq_true rfl)) 12))))
            have z268 : (σ213 16 2).toInt = (σ 16 2).toInt := (congrArg Int32.toInt (show σ213 16 2 = (σ 16 2) from ((congrFun (f215 16 (of_decide_eq_true rfl)) 2).trans (congrFun (f52 16 (of_decide_eq_true rfl)) 2))))
            have z269 : (σ213 55 13).toInt = (σ 55 13).toInt := (congrArg Int32.toInt (show σ213 55 13 = (σ 55 13) from ((congrFun (f215 55 (of_decide_eq_true rfl)) 13).trans (congrFun (f52 55 (of_decide_eq_true rfl)) 13))))
            have z270 : (σ213 38 0).toInt = (σ 38 0).toInt := (congrArg Int32.toInt (show σ213 38 0 = (σ 38 0) from ((congrFun (f215 38 (of_decide_eq_true rfl)) 0).trans (congrFun (f52 38 (of_decide_eq_true rfl)) 0))))
            have z271 : (σ213 55 32).toInt = (σ 55 32).toInt := (congrArg Int32.toInt (show σ213 55 32 = (σ 55 32) from ((congrFun (f215 55 (of_decide_eq_true rfl)) 32).trans (congrFun (f52 55 (of_decide_eq_true rfl)) 32))))
            have z272 : (σ213 38 1).toInt = (σ 38 1).toInt := (congrArg Int32.toInt (show σ213 38 1 = (σ 38 1) from ((congrFun (f215 38 (of_decide_eq_true rfl)) 1).trans (congrFun (f52 38 (of_decide_eq_true rfl)) 1))))
            have z273 : (σ213 55 55).toInt = (σ 55 55).toInt := (congrArg Int32.toInt (show σ213 55 55 = (σ 55 55) from ((congrFun (f215 55 (of_decide_eq_true rfl)) 55).trans (congrFun (f52 55 (of_decide_eq_true rfl)) 55))))
            have z274 : (σ213 47 0).toInt = (σ 47 0).toInt := (congrArg Int32.toInt (show σ213 47 0 = (σ 47 0) from ((congrFun (f215 47 (of_decide_eq_true rfl)) 0).trans (congrFun (f52 47 (of_decide_eq_true rfl)) 0))))
            have z275 : (σ213 55 47).toInt = (σ 55 47).toInt := (congrArg Int32.toInt (show σ213 55 47 = (σ 55 47) from ((congrFun (f215 55 (of_decide_eq_true rfl)) 47).trans (congrFun (f52 55 (of_decide_eq_true rfl)) 47))))
            have z276 : (σ213 55 30).toInt = (σ 55 30).toInt := (congrArg Int32.toInt (show σ213 55 30 = (σ 55 30) from ((congrFun (f215 55 (of_decide_eq_true rfl)) 30).trans (congrFun (f52 55 (of_decide_eq_true rfl)) 30))))
            have z277 : (σ213 55 31).toInt = (σ 55 31).toInt := (congrArg Int32.toInt (show σ213 55 31 = (σ 55 31) from ((congrFun (f215 55 (of_decide_eq_true rfl)) 31).trans (congrFun (f52 55 (of_decide_eq_true rfl)) 31))))
            exact by exact ih x232 σ213 τ _ _ ls (by have h9 := tx232; omega) ⟨I233, I234, I235, I236, I237, I238, I239, I240, I241, I242, I243, I244, I245, I246, I247, I248, I249, I250, I251, I216, I252, I253, p254, p255, (by omega), (by omega), (by omega), (by omega), (by omega), (by omega), (by omega), (by omega), (by omega), (by omega), (by omega), (by omega), (show jNumP (σ213 3) (σ213 56) (σ213 6) (σ213 57) (σ213 7) (σ213 58) (σ213 8) (σ213 59) (σ213 55 6).toInt (σ213 55 4).toInt by rw [show σ213 3 = σ 3 from ((f215 3 (of_decide_eq_true rfl)).trans (f52 3 (of_decide_eq_true rfl))), show σ213 56 = σ 56 from ((f215 56 (of_decide_eq_true rfl)).trans (f52 56 (of_decide_eq_true rfl))), show σ213 6 = σ 6 from ((f215 6 (of_decide_eq_true rfl)).trans (f52 6 (of_decide_eq_true rfl))), show σ213 57 = σ 57 from ((f215 57 (of_decide_eq_true rfl)).trans (f52 57 (of_decide_eq_true rfl))), show σ213 7 = σ 7 from ((f215 7 (of_decide_eq_true rfl)).trans (f52 7 (of_decide_eq_true rfl))), show σ213 58 = σ 58 from ((f215 58 (of_decide_eq_true rfl)).trans (f52 58 (of_decide_eq_true rfl))), show σ213 8 = σ 8 from ((f215 8 (of_decide_eq_true rfl)).trans (f52 8 (of_decide_eq_true rfl))), show σ213 59 = σ 59 from ((f215 59 (of_decide_eq_true rfl)).trans (f52 59 (of_decide_eq_true rfl))), show (σ213 55 6).toInt = (σ 55 6).toInt from by omega, show (σ213 55 4).toInt = (σ 55 4).toInt from by omega]; exact hr0), (show jOvP (σ213 56) (σ213 57) (σ213 58) (σ213 59) (σ213 55 4).toInt by rw [show σ213 56 = σ 56 from ((f215 56 (of_decide_eq_true rfl)).trans (f52 56 (of_decide_eq_true rfl))), show σ213 57 = σ 57 from ((f215 57 (of_decide_eq_true rfl)).trans (f52 57 (of_decide_eq_true rfl))), show σ213 58 = σ 58 from ((f215 58 (of_decide_eq_true rfl)).trans (f52 58 (of_decide_eq_true rfl))), show σ213 59 = σ 59 from ((f215 59 (of_decide_eq_true rfl)).trans (f52 59 (of_decide_eq_true rfl))), show (σ213 55 4).toInt = (σ 55 4).toInt from by omega]; exact hr1), (show jTp (σ213 10) (σ213 63) (σ213 55 15).toInt by rw [show σ213 10 = σ 10 from ((f215 10 (of_decide_eq_true rfl)).trans (f52 10 (of_decide_eq_true rfl))), show σ213 63 = σ 63 from ((f215 63 (of_decide_eq_true rfl)).trans (f52 63 (of_decide_eq_true rfl)))]; exact hr2.le (by omega)), (show jSo (σ213 17) (σ213 62) (σ213 16 0).toInt by rw [show σ213 17 = σ 17 from ((f215 17 (of_decide_eq_true rfl)).trans (f52 17 (of_decide_eq_true rfl))), show σ213 62 = σ 62 from ((f215 62 (of_decide_eq_true rfl)).trans (f52 62 (of_decide_eq_true rfl))), show (σ213 16 0).toInt = (σ 16 0).toInt from by omega]; exact hr3), (show jShP (σ213 51) (σ213 52) (σ213 53) (σ213 86) (σ213 87) (σ213 55 32).toInt by rw [show σ213 51 = σ 51 from ((f215 51 (of_decide_eq_true rfl)).trans k208.1), show σ213 52 = σ 52 from ((f215 52 (of_decide_eq_true rfl)).trans k208.2.1), show σ213 53 = σ 53 from ((f215 53 (of_decide_eq_true rfl)).trans k208.2.2), show σ213 86 = σ 86 from (k230.1.trans (f52 86 (of_decide_eq_true rfl))), show σ213 87 = σ 87 from (k230.2.trans (f52 87 (of_decide_eq_true rfl)))]; exact (hr4.up (by omega) (by omega))), (show jEl (σ213 51) (σ213 52) (τ 54) (τ 88) by rw [show σ213 51 = σ 51 from ((f215 51 (of_decide_eq_true rfl)).trans k208.1), show σ213 52 = σ 52 from ((f215 52 (of_decide_eq_true rfl)).trans k208.2.1)]; exact hr5), (show jByP (σ213 51) (σ213 52) (τ 54) by rw [show σ213 51 = σ 51 from ((f215 51 (of_decide_eq_true rfl)).trans k208.1), show σ213 52 = σ 52 from ((f215 52 (of_decide_eq_true rfl)).trans k208.2.1)]; exact hr6), (show jBk (σ213 48) (σ213 80) (σ213 49) (σ213 81) (σ213 55 47).toInt by rw [show σ213 48 = σ 48 from ((f215 48 (of_decide_eq_true rfl)).trans (f52 48 (of_decide_eq_true rfl))), show σ213 49 = σ 49 from ((f215 49 (of_decide_eq_true rfl)).trans (f52 49 (of_decide_eq_true rfl))), show σ213 80 = σ 80 from ((f215 80 (of_decide_eq_true rfl)).trans (f52 80 (of_decide_eq_true rfl))), show σ213 81 = σ 81 from ((f215 81 (of_decide_eq_true rfl)).trans (f52 81 (of_decide_eq_true rfl))), show (σ213 55 47).toInt = (σ 55 47).toInt from by omega]; exact hr7), (show jKd (σ213 39) (σ213 70) (σ213 55 32).toInt by rw [show σ213 39 = σ 39 from ((f215 39 (of_decide_eq_true rfl)).trans (f52 39 (of_decide_eq_true rfl))), show σ213 70 = σ 70 from ((f215 70 (of_decide_eq_true rfl)).trans (f52 70 (of_decide_eq_true rfl))), show (σ213 55 32).toInt = (σ 55 32).toInt from by omega]; exact hr8), (show jTt (σ213 42) (σ213 85) (σ213 55 55).toInt by rw [show σ213 42 = σ 42 from ((f215 42 (of_decide_eq_true rfl)).trans (f52 42 (of_decide_eq_true rfl))), show σ213 85 = σ 85 from ((f215 85 (of_decide_eq_true rfl)).trans (f52 85 (of_decide_eq_true rfl))), show (σ213 55 55).toInt = (σ 55 55).toInt from by omega]; exact hr9)⟩ hP hS (lv_sub hl [0, 1, 2, 3] rfl)
set_option maxHeartbeats 4000000 in
set_option maxRecDepth 100000 in
theorem law_case_31 {p : Program} {e : Env} {s : State} {m : MethodId} {below : List Frame} {meth : Method} {c : Code} (l : Launch) {b L : Nat} {xs : Nat → Int32} {D : va_G} {cI cL : ClassId} {ad zz : Nat → Nat} (C0 : lw_At p s m meth c b L xs) (hJ : jD ad) (hA : ∀ q, jA ad q → s.heap.size ≤ q) (hK : jK D cI cL s) (hZ : jZ zz (fun q : Nat => s.heap.size ≤ q) s s.heap) {x0 : Int32} (hx0 : 0 ≤ x0.toInt) (hxL : x0.toInt + 6 ≤ (L : Int)) (hL : L ≤ 384) {σ : Nat → Nat → Int32} {τ : Nat → Nat → Int64} {H : Heap} {locs : List Loc} (hS : va_S (fun q : Nat => s.heap.size ≤ q) s.heap H locs) {ls : Array Slot} (hAll : jAll σ τ) (hP : jH D cI cL ad σ τ H) (hl : lv_has ls 4 [(3, .int x0), (2, .ref (ad 55)), (1, .ref (ad 0)), (0, .ref b)]) (ih : ∀ (x1 : Int32) (σ : Nat → Nat → Int32) (τ : Nat → Nat → Int64) (H : Heap) (locs : List Loc) (ls : Array Slot), x1.toInt = x0.toInt + 6 → jAll σ τ → jH D cI cL ad σ τ H → va_S (fun q : Nat => s.heap.size ≤ q) s.heap H locs → lv_has ls 4 [(3, .int x1), (2, .ref (ad 55)), (1, .ref (ad 0)), (0, .ref b)] → W p l e room_1 s m #[Value.ref b] below meth c H locs 90 348600 (lw_Z below #[Value.ref b] s) (F0 m 18 ls [])) : W p l e room_1 s m #[Value.ref b] below meth c H locs 90 348600 (lw_Z below #[Value.ref b] s) (F0 m 1089 ls []) := by
  obtain ⟨hx, hb, hr, hml, hown, hts0, hX, hbl, hlocks, hgv⟩ := C0
  have hts : ∀ w ∈ wsL_law, w.before #[Value.ref b] s = true := fun w h => hts0 w (wsL_law_in w h)
  have hbA : ¬ (fun q : Nat => s.heap.size ≤ q) b := Nat.not_le.mpr hbl
  have hown : s.vm.findClass RL = some m.cls := hown
  obtain ⟨hI2, hI9, hI12, hI16, hI18, hI22, hI31, hI38, hI43, hI47, hI50, hI101, hI102, hI103, hI104, hI105, hI106, hI107, hI109, hI110, hI111, hI119, hs_jKept, hs_jBook, ht0, ht1, ht2, ht3, ht4, ht5, ht6, ht7, ht8, ht9, ht10, ht11, hr0, hr1, hr2, hr3, hr4, hr5, hr6, hr7, hr8, hr9⟩ := hAll
  have hL9 : (L : Int) ≤ 384 := by omega
  obtain ⟨i1, i2, i3, i4, i5, w6⟩ : (0 ≤ (σ 2 0).toInt ∧ (σ 2 0).toInt ≤ 4) ∧ (0 ≤ (σ 2 1).toInt ∧ (σ 2 1).toInt ≤ 3) ∧ (0 ≤ (σ 2 2).toInt) ∧ (0 ≤ (σ 2 3).toInt) ∧ ((σ 2 2).toInt + (σ 2 3).toInt ≤ 40) ∧ (∀ k : Nat, k < 40 → 0 ≤ (σ 6 k).toInt ∧ (σ 6 k).toInt ≤ 67) := id hI2
  obtain ⟨i7, w8, w9⟩ : (0 ≤ (σ 9 0).toInt ∧ (σ 9 0).toInt ≤ 80) ∧ (∀ k : Nat, k < 80 → 0 ≤ (σ 10 k).toInt ∧ (σ 10 k).toInt ≤ 255) ∧ (∀ k : Nat, k < 8 → 0 ≤ (σ 11 k).toInt ∧ (σ 11 k).toInt ≤ 3) := id hI9
  obtain ⟨i10, i11, i12, w13⟩ : (1 ≤ (σ 16 0).toInt ∧ (σ 16 0).toInt ≤ 8) ∧ (1 ≤ (σ 16 1).toInt ∧ (σ 16 1).toInt ≤ 12) ∧ (0 ≤ (σ 16 2).toInt ∧ (σ 16 2).toInt ≤ 999) ∧ (∀ k : Nat, k < 8 → 0 ≤ (σ 17 k).toInt ∧ (σ 17 k).toInt ≤ 3) := id hI16
  obtain ⟨i14, i15, w16⟩ : (0 ≤ (σ 38 0).toInt ∧ (σ 38 0).toInt ≤ 20) ∧ (0 ≤ (σ 38 1).toInt ∧ (σ 38 1).toInt ≤ 1000) ∧ (∀ k : Nat, k < 20 → 0 ≤ (σ 39 k).toInt ∧ (σ 39 k).toInt ≤ 6) := id hI38
  obtain ⟨i17, w18, w19⟩ : (0 ≤ (σ 47 0).toInt ∧ (σ 47 0).toInt ≤ 12) ∧ (∀ k : Nat, k < 12 → 0 ≤ (σ 48 k).toInt ∧ (σ 48 k).toInt ≤ 3) ∧ (∀ k : Nat, k < 12 → 0 ≤ (σ 49 k).toInt ∧ (σ 49 k).toInt ≤ 1) := id hI47
  have w20 : ∀ k : Nat, k < 6 → 0 ≤ (σ 52 k).toInt ∧ (σ 52 k).toInt ≤ 60 := hI50
  obtain ⟨i21, i22, i23, w24, w25, w26, w27⟩ : (0 ≤ (σ 55 5).toInt) ∧ ((σ 55 5).toInt ≤ (σ 55 4).toInt) ∧ ((σ 55 4).toInt ≤ 40) ∧ (∀ k : Nat, k < 68 → (-200) ≤ (σ 56 k).toInt ∧ (σ 56 k).toInt ≤ 500) ∧ (∀ k : Nat, k < 40 → 0 ≤ (σ 57 k).toInt ∧ (σ 57 k).toInt ≤ 67) ∧ (∀ k : Nat, k < 40 → (-200) ≤ (σ 58 k).toInt ∧ (σ 58 k).toInt ≤ 500) ∧ (∀ k : Nat, k < 40 → (-200) ≤ (σ 59 k).toInt ∧ (σ 59 k).toInt ≤ 500) := id hI101
  obtain ⟨i28, w29, w30⟩ : (0 ≤ (σ 55 6).toInt ∧ (σ 55 6).toInt ≤ 4) ∧ (∀ k : Nat, k < 4 → 0 ≤ (σ 60 k).toInt ∧ (σ 60 k).toInt ≤ 50) ∧ (∀ k : Nat, k < 4 → 0 ≤ (σ 61 k).toInt ∧ (σ 61 k).toInt ≤ 20) := id hI102
  obtain ⟨i31, i32, i33, w34, w35⟩ : (1 ≤ (σ 55 10).toInt ∧ (σ 55 10).toInt ≤ 8) ∧ (1 ≤ (σ 55 12).toInt ∧ (σ 55 12).toInt ≤ 12) ∧ (0 ≤ (σ 55 13).toInt ∧ (σ 55 13).toInt ≤ 999) ∧ (∀ k : Nat, k < 8 → 0 ≤ (σ 62 k).toInt ∧ (σ 62 k).toInt ≤ 3) ∧ (∀ k : Nat, k < 8 → 0 ≤ (σ 67 k).toInt ∧ (σ 67 k).toInt ≤ 3) := id hI104
  obtain ⟨i36, w37⟩ : (0 ≤ (σ 55 15).toInt ∧ (σ 55 15).toInt ≤ 80) ∧ (∀ k : Nat, k < 2 → (-1) ≤ (σ 65 k).toInt ∧ (σ 65 k).toInt ≤ 80) := id hI105
  obtain ⟨i38, w39, w40, w41⟩ : (0 ≤ (σ 55 32).toInt ∧ (σ 55 32).toInt ≤ 20) ∧ (∀ k : Nat, k < 20 → 0 ≤ (σ 70 k).toInt ∧ (σ 70 k).toInt ≤ 6) ∧ (∀ k : Nat, k < 20 → 0 ≤ (σ 71 k).toInt ∧ (σ 71 k).toInt ≤ 8) ∧ (∀ k : Nat, k < 160 → 0 ≤ (σ 72 k).toInt ∧ (σ 72 k).toInt ≤ 3) := id hI106
  obtain ⟨i42, i43, w44⟩ : (0 ≤ (σ 55 47).toInt ∧ (σ 55 47).toInt ≤ 12) ∧ ((σ 55 47).toInt ≤ (σ 55 12).toInt) ∧ (∀ k : Nat, k < 12 → 0 ≤ (σ 80 k).toInt ∧ (σ 80 k).toInt ≤ 3) := id hI107
  refine lv_aload_n hx hb dL_law_1089 rfl (lv_at hl 2 rfl) ?_
  refine lv_aload_n hx hb dL_law_1090 rfl (lv_at hl 3 rfl) ?_
  refine lv_iload_n hx hb dL_law_1091 rfl (lv_at hl 0 rfl) ?_
  refine lv_iconst (v := 1) hx hb dL_law_1092 (of_decide_eq_true rfl) ?_
  have g45 := jrg (rfl : x0.toInt = x0.toInt)
  refine lv_iadd hx hb dL_law_1093 ?_
  refine lv_topi (fun x46 ex46 => ?_)
  exact by
   have tx46 : x46.toInt = x0.toInt + 1 := (jadd ex46 rfl jz_1 (by omega) (by omega)).trans (by omega)
   refine va_sld hx hb hX hbl hbA hS (jin tx46 (by omega) (by omega)) dL_law_1094 ?_
   have g47 := jrg (rfl : (xs x46.toNatClampNeg).toInt = (xs x46.toNatClampNeg).toInt)
   refine lv_aload_n hx hb dL_law_1095 rfl (lv_at hl 3 rfl) ?_
   refine lv_iload_n hx hb dL_law_1096 rfl (lv_at hl 0 rfl) ?_
   refine lv_iconst (v := 2) hx hb dL_law_1097 (of_decide_eq_true rfl) ?_
   refine lv_iadd hx hb dL_law_1098 ?_
   refine lv_topi (fun x48 ex48 => ?_)
   have tx48 : x48.toInt = x0.toInt + 2 := (jadd ex48 rfl jz_2 (by omega) (by omega)).trans (by omega)
   exact by
    refine va_sld hx hb hX hbl hbA hS (jin tx48 (by omega) (by omega)) dL_law_1099 ?_
    have g49 := jrg (rfl : (xs x48.toNatClampNeg).toInt = (xs x48.toNatClampNeg).toInt)
    refine lv_aload_n hx hb dL_law_1100 rfl (lv_at hl 3 rfl) ?_
    refine lv_iload_n hx hb dL_law_1101 rfl (lv_at hl 0 rfl) ?_
    refine lv_iconst (v := 3) hx hb dL_law_1102 (of_decide_eq_true rfl) ?_
    refine lv_iadd hx hb dL_law_1103 ?_
    refine lv_topi (fun x50 ex50 => ?_)
    have tx50 : x50.toInt = x0.toInt + 3 := (jadd ex50 rfl jz_3 (by omega) (by omega)).trans (by omega)
    refine va_sld hx hb hX hbl hbA hS (jin tx50 (by omega) (by omega)) dL_law_1104 ?_
    exact by
     have g51 := jrg (rfl : (xs x50.toNatClampNeg).toInt = (xs x50.toNatClampNeg).toInt)
     refine jcallV (As := [.int (xs x46.toNatClampNeg), .int (xs x48.toNatClampNeg), .int (xs x50.toNatClampNeg)]) (rest := []) ⟨hx, hb, hml, hown, hts⟩ hK hP hA hS hZ (c_X11_row l D cI cL ad zz hJ σ τ (xs x46.toNatClampNeg) ((xs x46.toNatClampNeg).toInt) rfl (xs x48.toNatClampNeg) ((xs x48.toNatClampNeg).toInt) rfl (xs x50.toNatClampNeg) ((xs x50.toNatClampNeg).toInt) rfl hI50) cw_RL_141 (jc_0 cI cL ad σ τ) rfl ⟨Nat.le_of_ble_eq_true rfl, Nat.le_of_ble_eq_true rfl⟩ rfl rfl rfl hl.1 rfl (Nat.le_of_ble_eq_true rfl) dL_law_1105 ⟨Nat.le_of_ble_eq_true rfl, Nat.le_of_ble_eq_true rfl⟩ (fun r53 σ52 τ52 H locs h52 hP hS => ?_)
     obtain ⟨f56, f54, I55, h52⟩ := h52
     have w57 : ∀ k : Nat, k < 6 → 0 ≤ (σ52 52 k).toInt ∧ (σ52 52 k).toInt ≤ 60 := I55
     rcases h52 with h58 | h59 | h60
     · obtain ⟨q64, k61, k62, k63⟩ := h58
       have q64 := q64.symm
       subst q64
       refine lv_pop hx hb dL_law_1108 rfl ?_
       refine lv_aload_n hx hb dL_law_1109 rfl (lv_at hl 1 rfl) ?_
       refine lv_aload_n hx hb dL_law_1110 rfl (lv_at hl 3 rfl) ?_
       refine lv_iload_n hx hb dL_law_1111 rfl (lv_at hl 0 rfl) ?_
       refine lv_iconst (v := 1) hx hb dL_law_1112 (of_decide_eq_true rfl) ?_
       refine lv_iadd hx hb dL_law_1113 ?_
       refine jtopr ex46.symm ?_
       exact by
        refine va_sld hx hb hX hbl hbA hS (jin tx46 (by omega) (by omega)) dL_law_1114 ?_
        refine lv_aload_n hx hb dL_law_1115 rfl (lv_at hl 3 rfl) ?_
        refine lv_iload_n hx hb dL_law_1116 rfl (lv_at hl 0 rfl) ?_
        refine lv_iconst (v := 2) hx hb dL_law_1117 (of_decide_eq_true rfl) ?_
        refine lv_iadd hx hb dL_law_1118 ?_
        refine jtopr ex48.symm ?_
        refine va_sld hx hb hX hbl hbA hS (jin tx48 (by omega) (by omega)) dL_law_1119 ?_
        refine lv_aload_n hx hb dL_law_1120 rfl (lv_at hl 3 rfl) ?_
        refine lv_iload_n hx hb dL_law_1121 rfl (lv_at hl 0 rfl) ?_
        exact by
         refine lv_iconst (v := 3) hx hb dL_law_1122 (of_decide_eq_true rfl) ?_
         refine lv_iadd hx hb dL_law_1123 ?_
         refine jtopr ex50.symm ?_
         refine va_sld hx hb hX hbl hbA hS (jin tx50 (by omega) (by omega)) dL_law_1124 ?_
         have I65 : jI110 σ52 := jI110_fr (f54 86 (of_decide_eq_true rfl)) (f54 87 (of_decide_eq_true rfl)) hI110
         refine jcallV (As := [.int (xs x46.toNatClampNeg), .int (xs x48.toNatClampNeg), .int (xs x50.toNatClampNeg)]) (rest := []) ⟨hx, hb, hml, hown, hts⟩ hK hP hA hS hZ (c_X12_row l D cI cL ad zz hJ σ52 τ52 (xs x46.toNatClampNeg) ((xs x46.toNatClampNeg).toInt) rfl (xs x48.toNatClampNeg) ((xs x48.toNatClampNeg).toInt) rfl (xs x50.toNatClampNeg) ((xs x50.toNatClampNeg).toInt) rfl I65) cw_RL_144 (jc_55 cI cL ad σ52 τ52) rfl ⟨Nat.le_of_ble_eq_true rfl, Nat.le_of_ble_eq_true rfl⟩ rfl rfl rfl hl.1 rfl (Nat.le_of_ble_eq_true rfl) dL_law_1125 ⟨Nat.le_of_ble_eq_true rfl, Nat.le_of_ble_eq_true rfl⟩ (fun r67 σ66 τ66 H locs h66 hP hS => ?_)
         obtain ⟨f70, f68, I69, h66⟩ := h66
         rcases h66 with h71 | h72 | h73
         · obtain ⟨q77, k74, k75, k76⟩ := h71
           exact by
            have q77 := q77.symm
            subst q77
            refine lv_pop hx hb dL_law_1128 rfl ?_
            refine lv_goto (tgt := 1357) hx hb dL_law_1129 (of_decide_eq_true rfl) ?_
            obtain ⟨x78, ex78⟩ : ∃ y : Int32, y = x0 + 6 := ⟨_, rfl⟩
            have tx78 : x78.toInt = x0.toInt + 6 := (jadd ex78 rfl jz_6 (by omega) (by omega)).trans (by omega)
            refine lv_iinc (v := x78) (lv' := [(3, .int x78), (2, .ref (ad 55)), (1, .ref (ad 0)), (0, .ref b)]) hx hb dL_law_1357 hl (k := 0) rfl (by rw [ex78]; rfl) (of_decide_eq_true rfl) rfl (fun ls hl => ?_)
            refine lv_goto (tgt := 18) hx hb dL_law_1360 (of_decide_eq_true rfl) ?_
            have I79 : jI2 σ66 := jI2_fr ((congrFun (f68 2 (of_decide_eq_true rfl)) 0).trans (congrFun (f54 2 (of_decide_eq_true rfl)) 0)) ((congrFun (f68 2 (of_decide_eq_true rfl)) 1).trans (congrFun (f54 2 (of_decide_eq_true rfl)) 1)) ((congrFun (f68 2 (of_decide_eq_true rfl)) 2).trans (congrFun (f54 2 (of_decide_eq_true rfl)) 2)) ((congrFun (f68 2 (of_decide_eq_true rfl)) 3).trans (congrFun (f54 2 (of_decide_eq_true rfl)) 3)) ((f68 6 (of_decide_eq_true rfl)).trans (f54 6 (of_decide_eq_true rfl))) hI2
            exact by
             have I80 : jI9 σ66 := jI9_fr ((congrFun (f68 9 (of_decide_eq_true rfl)) 0).trans (congrFun (f54 9 (of_decide_eq_true rfl)) 0)) ((f68 10 (of_decide_eq_true rfl)).trans (f54 10 (of_decide_eq_true rfl))) ((f68 11 (of_decide_eq_true rfl)).trans (f54 11 (of_decide_eq_true rfl))) hI9
             have I81 : jI12 σ66 := jI12_fr ((congrFun (f68 12 (of_decide_eq_true rfl)) 0).trans (congrFun (f54 12 (of_decide_eq_true rfl)) 0)) ((f68 13 (of_decide_eq_true rfl)).trans (f54 13 (of_decide_eq_true rfl))) hI12
             have I82 : jI16 σ66 := jI16_fr ((congrFun (f68 16 (of_decide_eq_true rfl)) 0).trans (congrFun (f54 16 (of_decide_eq_true rfl)) 0)) ((congrFun (f68 16 (of_decide_eq_true rfl)) 1).trans (congrFun (f54 16 (of_decide_eq_true rfl)) 1)) ((congrFun (f68 16 (of_decide_eq_true rfl)) 2).trans (congrFun (f54 16 (of_decide_eq_true rfl)) 2)) ((f68 17 (of_decide_eq_true rfl)).trans (f54 17 (of_decide_eq_true rfl))) hI16
             have I83 : jI18 σ66 := jI18_fr ((congrFun (f68 18 (of_decide_eq_true rfl)) 0).trans (congrFun (f54 18 (of_decide_eq_true rfl)) 0)) ((f68 19 (of_decide_eq_true rfl)).trans (f54 19 (of_decide_eq_true rfl))) hI18
             have I84 : jI22 σ66 := jI22_fr ((congrFun (f68 22 (of_decide_eq_true rfl)) 0).trans (congrFun (f54 22 (of_decide_eq_true rfl)) 0)) ((f68 23 (of_decide_eq_true rfl)).trans (f54 23 (of_decide_eq_true rfl))) hI22
             have I85 : jI31 σ66 := jI31_fr ((congrFun (f68 31 (of_decide_eq_true rfl)) 8).trans (congrFun (f54 31 (of_decide_eq_true rfl)) 8)) ((f68 33 (of_decide_eq_true rfl)).trans (f54 33 (of_decide_eq_true rfl))) ((f68 36 (of_decide_eq_true rfl)).trans (f54 36 (of_decide_eq_true rfl))) hI31
             have I86 : jI38 σ66 := jI38_fr ((congrFun (f68 38 (of_decide_eq_true rfl)) 0).trans (congrFun (f54 38 (of_decide_eq_true rfl)) 0)) ((congrFun (f68 38 (of_decide_eq_true rfl)) 1).trans (congrFun (f54 38 (of_decide_eq_true rfl)) 1)) ((f68 39 (of_decide_eq_true rfl)).trans (f54 39 (of_decide_eq_true rfl))) hI38
             have I87 : jI43 σ66 := jI43_fr ((congrFun (f68 43 (of_decide_eq_true rfl)) 8).trans (congrFun (f54 43 (of_decide_eq_true rfl)) 8)) hI43
             have I88 : jI47 σ66 := jI47_fr ((congrFun (f68 47 (of_decide_eq_true rfl)) 0).trans (congrFun (f54 47 (of_decide_eq_true rfl)) 0)) ((f68 48 (of_decide_eq_true rfl)).trans (f54 48 (of_decide_eq_true rfl))) ((f68 49 (of_decide_eq_true rfl)).trans (f54 49 (of_decide_eq_true rfl))) hI47
             have I89 : jI50 σ66 := jI50_fr (f68 52 (of_decide_eq_true rfl)) I55
             have I90 : jI101 σ66 := jI101_fr ((congrFun (f68 55 (of_decide_eq_true rfl)) 4).trans (congrFun (f54 55 (of_decide_eq_true rfl)) 4)) ((congrFun (f68 55 (of_decide_eq_true rfl)) 5).trans (congrFun (f54 55 (of_decide_eq_true rfl)) 5)) ((f68 56 (of_decide_eq_true rfl)).trans (f54 56 (of_decide_eq_true rfl))) ((f68 57 (of_decide_eq_true rfl)).trans (f54 57 (of_decide_eq_true rfl))) ((f68 58 (of_decide_eq_true rfl)).trans (f54 58 (of_decide_eq_true rfl))) ((f68 59 (of_decide_eq_true rfl)).trans (f54 59 (of_decide_eq_true rfl))) hI101
             have I91 : jI102 σ66 := jI102_fr ((congrFun (f68 55 (of_decide_eq_true rfl)) 6).trans (congrFun (f54 55 (of_decide_eq_true rfl)) 6)) ((f68 60 (of_decide_eq_true rfl)).trans (f54 60 (of_decide_eq_true rfl))) ((f68 61 (of_decide_eq_true rfl)).trans (f54 61 (of_decide_eq_true rfl))) hI102
             have I92 : jI103 σ66 := jI103_fr ((congrFun (f68 55 (of_decide_eq_true rfl)) 9).trans (congrFun (f54 55 (of_decide_eq_true rfl)) 9)) hI103
             have I93 : jI104 σ66 := jI104_fr ((congrFun (f68 55 (of_decide_eq_true rfl)) 10).trans (congrFun (f54 55 (of_decide_eq_true rfl)) 10)) ((congrFun (f68 55 (of_decide_eq_true rfl)) 12).trans (congrFun (f54 55 (of_decide_eq_true rfl)) 12)) ((congrFun (f68 55 (of_decide_eq_true rfl)) 13).trans (congrFun (f54 55 (of_decide_eq_true rfl)) 13)) ((f68 62 (of_decide_eq_true rfl)).trans (f54 62 (of_decide_eq_true rfl))) ((f68 67 (of_decide_eq_true rfl)).trans (f54 67 (of_decide_eq_true rfl))) hI104
             have I94 : jI105 σ66 := jI105_fr ((congrFun (f68 55 (of_decide_eq_true rfl)) 15).trans (congrFun (f54 55 (of_decide_eq_true rfl)) 15)) ((f68 65 (of_decide_eq_true rfl)).trans (f54 65 (of_decide_eq_true rfl))) hI105
             have I95 : jI106 σ66 := jI106_fr ((congrFun (f68 55 (of_decide_eq_true rfl)) 32).trans (congrFun (f54 55 (of_decide_eq_true rfl)) 32)) ((f68 70 (of_decide_eq_true rfl)).trans (f54 70 (of_decide_eq_true rfl))) ((f68 71 (of_decide_eq_true rfl)).trans (f54 71 (of_decide_eq_true rfl))) ((f68 72 (of_decide_eq_true rfl)).trans (f54 72 (of_decide_eq_true rfl))) hI106
             have I96 : jI107 σ66 := jI107_fr ((congrFun (f68 55 (of_decide_eq_true rfl)) 12).trans (congrFun (f54 55 (of_decide_eq_true rfl)) 12)) ((congrFun (f68 55 (of_decide_eq_true rfl)) 47).trans (congrFun (f54 55 (of_decide_eq_true rfl)) 47)) ((f68 80 (of_decide_eq_true rfl)).trans (f54 80 (of_decide_eq_true rfl))) hI107
             have I97 : jI109 σ66 := jI109_fr ((congrFun (f68 55 (of_decide_eq_true rfl)) 50).trans (congrFun (f54 55 (of_decide_eq_true rfl)) 50)) hI109
             have I98 : jI111 σ66 := jI111_fr ((f68 79 (of_decide_eq_true rfl)).trans (f54 79 (of_decide_eq_true rfl))) hI111
             have I99 : jI119 σ66 := jI119_fr ((f68 68 (of_decide_eq_true rfl)).trans (f54 68 (of_decide_eq_true rfl))) hI119
             have p100 : jKept σ66 := jKept.fr ((f68 75 (of_decide_eq_true rfl)).trans (f54 75 (of_decide_eq_true rfl))) ((f68 76 (of_decide_eq_true rfl)).trans (f54 76 (of_decide_eq_true rfl))) ((f68 77 (of_decide_eq_true rfl)).trans (f54 77 (of_decide_eq_true rfl))) hs_jKept
             have p101 : jBook σ66 := jBook.fr ((congrFun (f68 55 (of_decide_eq_true rfl)) 47).trans (congrFun (f54 55 (of_decide_eq_true rfl)) 47)) ((congrFun (f68 55 (of_decide_eq_true rfl)) 10).trans (congrFun (f54 55 (of_decide_eq_true rfl)) 10)) ((f68 81 (of_decide_eq_true rfl)).trans (f54 81 (of_decide_eq_true rfl))) hs_jBook
             have z102 : (σ66 2 0).toInt = (σ 2 0).toInt := (congrArg Int32.toInt (show σ66 2 0 = (σ 2 0) from ((congrFun (f68 2 (of_decide_eq_true rfl)) 0).trans (congrFun (f54 2 (of_decide_eq_true rfl)) 0))))
             have z103 : (σ66 55 6).toInt = (σ 55 6).toInt := (congrArg Int32.toInt (show σ66 55 6 = (σ 55 6) from ((congrFun (f68 55 (of_decide_eq_true rfl)) 6).trans (congrFun (f54 55 (of_decide_eq_true rfl)) 6))))
             have z104 : (σ66 2 2).toInt = (σ 2 2).toInt := (congrArg Int32.toInt (show σ66 2 2 = (σ 2 2) from ((congrFun (f68 2 (of_decide_eq_true rfl)) 2).trans (congrFun (f54 2 (of_decide_eq_true rfl)) 2))))
             have z105 : (σ66 55 5).toInt = (σ 55 5).toInt := (congrArg Int32.toInt (show σ66 55 5 = (σ 55 5) from ((congrFun (f68 55 (of_decide_eq_true rfl)) 5).trans (congrFun (f54 55 (of_decide_eq_true rfl)) 5))))
             have z106 : (σ66 2 3).toInt = (σ 2 3).toInt := (congrArg Int32.toInt (show σ66 2 3 = (σ 2 3) from ((congrFun (f68 2 (of_decide_eq_true rfl)) 3).trans (congrFun (f54 2 (of_decide_eq_true rfl)) 3))))
             have z107 : (σ66 55 4).toInt = (σ 55 4).toInt := (congrArg Int32.toInt (show σ66 55 4 = (σ 55 4) from ((congrFun (f68 55 (of_decide_eq_true rfl)) 4).trans (congrFun (f54 55 (of_decide_eq_true rfl)) 4))))
             have z108 : (σ66 9 0).toInt = (σ 9 0).toInt := (congrArg Int32.toInt (show σ66 9 0 = (σ 9 0) from ((congrFun (f68 9 (of_decide_eq_true rfl)) 0).trans (congrFun (f54 9 (of_decide_eq_true rfl)) 0))))
             have z109 : (σ66 55 15).toInt = (σ 55 15).toInt := (congrArg Int32.toInt (show σ66 55 15 = (σ 55 15) from ((congrFun (f68 55 (of_decide_eq_true rfl)) 15).trans (congrFun (f54 55 (of_decide_eq_true rfl)) 15))))
             have z110 : (σ66 16 0).toInt = (σ 16 0).toInt := (congrArg Int32.toInt (show σ66 16 0 = (σ 16 0) from ((congrFun (f68 16 (of_decide_eq_true rfl)) 0).trans (congrFun (f54 16 (of_decide_eq_true rfl)) 0))))
             have z111 : (σ66 55 10).toInt = (σ 55 10).toInt := (congrArg Int32.toInt (show σ66 55 10 = (σ 55 10) from ((congrFun (f68 55 (of_decide_eq_true rfl)) 10).trans (congrFun (f54 55 (of_decide_eq_true rfl)) 10))))
             have z112 : (σ66 16 1).toInt = (σ 16 1).toInt := (congrArg Int32.toInt (show σ66 16 1 = (σ 16 1) from ((congrFun (f68 16 (of_decide_eq_true rfl)) 1).trans (congrFun (f54 16 (of_decide_eq_true rfl)) 1))))
             have z113 : (σ66 55 12).toInt = (σ 55 12).toInt := (congrArg Int32.toInt (show σ66 55 12 = (σ 55 12) from ((congrFun (f68 55 (of_decide_eq_true rfl)) 12).trans (congrFun (f54 55 (of_decide_eq_true rfl)) 12))))
             have z114 : (σ66 16 2).toInt = (σ 16 2).toInt := (congrArg Int32.toInt (show σ66 16 2 = (σ 16 2) from ((congrFun (f68 16 (of_decide_eq_true rfl)) 2).trans (congrFun (f54 16 (of_decide_eq_true rfl)) 2))))
             have z115 : (σ66 55 13).toInt = (σ 55 13).toInt := (congrArg Int32.toInt (show σ66 55 13 = (σ 55 13) from ((congrFun (f68 55 (of_decide_eq_true rfl)) 13).trans (congrFun (f54 55 (of_decide_eq_true rfl)) 13))))
             have z116 : (σ66 38 0).toInt = (σ 38 0).toInt := (congrArg Int32.toInt (show σ66 38 0 = (σ 38 0) from ((congrFun (f68 38 (of_decide_eq_true rfl)) 0).trans (congrFun (f54 38 (of_decide_eq_true rfl)) 0))))
             have z117 : (σ66 55 32).toInt = (σ 55 32).toInt := (congrArg Int32.toInt (show σ66 55 32 = (σ 55 32) from ((congrFun (f68 55 (of_decide_eq_true rfl)) 32).trans (congrFun (f54 55 (of_decide_eq_true rfl)) 32))))
             have z118 : (σ66 38 1).toInt = (σ 38 1).toInt := (congrArg Int32.toInt (show σ66 38 1 = (σ 38 1) from ((congrFun (f68 38 (of_decide_eq_true rfl)) 1).trans (congrFun (f54 38 (of_decide_eq_true rfl)) 1))))
             have z119 : (σ66 55 55).toInt = (σ 55 55).toInt := (congrArg Int32.toInt (show σ66 55 55 = (σ 55 55) from ((congrFun (f68 55 (of_decide_eq_true rfl)) 55).trans (congrFun (f54 55 (of_decide_eq_true rfl)) 55))))
             have z120 : (σ66 47 0).toInt = (σ 47 0).toInt := (congrArg Int32.toInt (show σ66 47 0 = (σ 47 0) from ((congrFun (f68 47 (of_decide_eq_true rfl)) 0).trans (congrFun (f54 47 (of_decide_eq_true rfl)) 0))))
             have z121 : (σ66 55 47).toInt = (σ 55 47).toInt := (congrArg Int32.toInt (show σ66 55 47 = (σ 55 47) from ((congrFun (f68 55 (of_decide_eq_true rfl)) 47).trans (congrFun (f54 55 (of_decide_eq_true rfl)) 47))))
             have z122 : (σ66 55 30).toInt = (σ 55 30).toInt := (congrArg Int32.toInt (show σ66 55 30 = (σ 55 30) from ((congrFun (f68 55 (of_decide_eq_true rfl)) 30).trans (congrFun (f54 55 (of_decide_eq_true rfl)) 30))))
             have z123 : (σ66 55 31).toInt = (σ 55 31).toInt := (congrArg Int32.toInt (show σ66 55 31 = (σ 55 31) from ((congrFun (f68 55 (of_decide_eq_true rfl)) 31).trans (congrFun (f54 55 (of_decide_eq_true rfl)) 31))))
             exact by exact ih x78 σ66 τ66 _ _ ls (by have h9 := tx78; omega) ⟨I79, I80, I81, I82, I83, I84, I85, I86, I87, I88, I89, I90, I91, I92, I93, I94, I95, I96, I97, I69, I98, I99, p100, p101, (by omega), (by omega), (by omega), (by omega), (by omega), (by omega), (by omega), (by omega), (by omega), (by omega), (by omega), (by omega), (show jNumP (σ66 3) (σ66 56) (σ66 6) (σ66 57) (σ66 7) (σ66 58) (σ66 8) (σ66 59) (σ66 55 6).toInt (σ66 55 4).toInt by rw [show σ66 3 = σ 3 from ((f68 3 (of_decide_eq_true rfl)).trans (f54 3 (of_decide_eq_true rfl))), show σ66 56 = σ 56 from ((f68 56 (of_decide_eq_true rfl)).trans (f54 56 (of_decide_eq_true rfl))), show σ66 6 = σ 6 from ((f68 6 (of_decide_eq_true rfl)).trans (f54 6 (of_decide_eq_true rfl))), show σ66 57 = σ 57 from ((f68 57 (of_decide_eq_true rfl)).trans (f54 57 (of_decide_eq_true rfl))), show σ66 7 = σ 7 from ((f68 7 (of_decide_eq_true rfl)).trans (f54 7 (of_decide_eq_true rfl))), show σ66 58 = σ 58 from ((f68 58 (of_decide_eq_true rfl)).trans (f54 58 (of_decide_eq_true rfl))), show σ66 8 = σ 8 from ((f68 8 (of_decide_eq_true rfl)).trans (f54 8 (of_decide_eq_true rfl))), show σ66 59 = σ 59 from ((f68 59 (of_decide_eq_true rfl)).trans (f54 59 (of_decide_eq_true rfl))), show (σ66 55 6).toInt = (σ 55 6).toInt from by omega, show (σ66 55 4).toInt = (σ 55 4).toInt from by omega]; exact hr0), (show jOvP (σ66 56) (σ66 57) (σ66 58) (σ66 59) (σ66 55 4).toInt by rw [show σ66 56 = σ 56 from ((f68 56 (of_decide_eq_true rfl)).trans (f54 56 (of_decide_eq_true rfl))), show σ66 57 = σ 57 from ((f68 57 (of_decide_eq_true rfl)).trans (f54 57 (of_decide_eq_true rfl))), show σ66 58 = σ 58 from ((f68 58 (of_decide_eq_true rfl)).trans (f54 58 (of_decide_eq_true rfl))), show σ66 59 = σ 59 from ((f68 59 (of_decide_eq_true rfl)).trans (f54 59 (of_decide_eq_true rfl))), show (σ66 55 4).toInt = (σ 55 4).toInt from by omega]; exact hr1), (show jTp (σ66 10) (σ66 63) (σ66 55 15).toInt by rw [show σ66 10 = σ 10 from ((f68 10 (of_decide_eq_true rfl)).trans (f54 10 (of_decide_eq_true rfl))), show σ66 63 = σ 63 from ((f68 63 (of_decide_eq_true rfl)).trans (f54 63 (of_decide_eq_true rfl)))]; exact hr2.le (by omega)), (show jSo (σ66 17) (σ66 62) (σ66 16 0).toInt by rw [show σ66 17 = σ 17 from ((f68 17 (of_decide_eq_true rfl)).trans (f54 17 (of_decide_eq_true rfl))), show σ66 62 = σ 62 from ((f68 62 (of_decide_eq_true rfl)).trans (f54 62 (of_decide_eq_true rfl))), show (σ66 16 0).toInt = (σ 16 0).toInt from by omega]; exact hr3), (show jShP (σ66 51) (σ66 52) (σ66 53) (σ66 86) (σ66 87) (σ66 55 32).toInt by rw [show σ66 51 = σ 51 from ((f68 51 (of_decide_eq_true rfl)).trans k62.1), show σ66 52 = σ 52 from ((f68 52 (of_decide_eq_true rfl)).trans k62.2.1), show σ66 53 = σ 53 from ((f68 53 (of_decide_eq_true rfl)).trans k62.2.2), show σ66 86 = σ 86 from (k75.1.trans (f54 86 (of_decide_eq_true rfl))), show σ66 87 = σ 87 from (k75.2.trans (f54 87 (of_decide_eq_true rfl)))]; exact (hr4.up (by omega) (by omega))), (show jEl (σ66 51) (σ66 52) (τ66 54) (τ66 88) by rw [show σ66 51 = σ 51 from ((f68 51 (of_decide_eq_true rfl)).trans k62.1), show σ66 52 = σ 52 from ((f68 52 (of_decide_eq_true rfl)).trans k62.2.1), show τ66 54 = τ 54 from ((f70 54 (of_decide_eq_true rfl)).trans k63), show τ66 88 = τ 88 from (k76.trans (f56 88 (of_decide_eq_true rfl)))]; exact hr5), (show jByP (σ66 51) (σ66 52) (τ66 54) by rw [show σ66 51 = σ 51 from ((f68 51 (of_decide_eq_true rfl)).trans k62.1), show σ66 52 = σ 52 from ((f68 52 (of_decide_eq_true rfl)).trans k62.2.1), show τ66 54 = τ 54 from ((f70 54 (of_decide_eq_true rfl)).trans k63)]; exact hr6), (show jBk (σ66 48) (σ66 80) (σ66 49) (σ66 81) (σ66 55 47).toInt by rw [show σ66 48 = σ 48 from ((f68 48 (of_decide_eq_true rfl)).trans (f54 48 (of_decide_eq_true rfl))), show σ66 49 = σ 49 from ((f68 49 (of_decide_eq_true rfl)).trans (f54 49 (of_decide_eq_true rfl))), show σ66 80 = σ 80 from ((f68 80 (of_decide_eq_true rfl)).trans (f54 80 (of_decide_eq_true rfl))), show σ66 81 = σ 81 from ((f68 81 (of_decide_eq_true rfl)).trans (f54 81 (of_decide_eq_true rfl))), show (σ66 55 47).toInt = (σ 55 47).toInt from by omega]; exact hr7), (show jKd (σ66 39) (σ66 70) (σ66 55 32).toInt by rw [show σ66 39 = σ 39 from ((f68 39 (of_decide_eq_true rfl)).trans (f54 39 (of_decide_eq_true rfl))), show σ66 70 = σ 70 from ((f68 70 (of_decide_eq_true rfl)).trans (f54 70 (of_decide_eq_true rfl))), show (σ66 55 32).toInt = (σ 55 32).toInt from by omega]; exact hr8), (show jTt (σ66 42) (σ66 85) (σ66 55 55).toInt by rw [show σ66 42 = σ 42 from ((f68 42 (of_decide_eq_true rfl)).trans (f54 42 (of_decide_eq_true rfl))), show σ66 85 = σ 85 from ((f68 85 (of_decide_eq_true rfl)).trans (f54 85 (of_decide_eq_true rfl))), show (σ66 55 55).toInt = (σ 55 55).toInt from by omega]; exact hr9)⟩ hP hS (lv_sub hl [0, 1, 2, 3] rfl)
         · obtain ⟨q130, k125, k126, k127, k128, k129⟩ := h72
           exact absurd (by omega : False) id
         · obtain ⟨q136, k131, k132, k133, k134, k135⟩ := h73
           exact absurd (by omega : False) id
     · obtain ⟨q142, k137, k138, k139, k140, k141⟩ := h59
       have q142 := q142.symm
       subst q142
       refine lv_pop hx hb dL_law_1108 rfl ?_
       refine lv_aload_n hx hb dL_law_1109 rfl (lv_at hl 1 rfl) ?_
       refine lv_aload_n hx hb dL_law_1110 rfl (lv_at hl 3 rfl) ?_
       refine lv_iload_n hx hb dL_law_1111 rfl (lv_at hl 0 rfl) ?_
       refine lv_iconst (v := 1) hx hb dL_law_1112 (of_decide_eq_true rfl) ?_
       refine lv_iadd hx hb dL_law_1113 ?_
       refine jtopr ex46.symm ?_
       exact by
        refine va_sld hx hb hX hbl hbA hS (jin tx46 (by omega) (by omega)) dL_law_1114 ?_
        refine lv_aload_n hx hb dL_law_1115 rfl (lv_at hl 3 rfl) ?_
        refine lv_iload_n hx hb dL_law_1116 rfl (lv_at hl 0 rfl) ?_
        refine lv_iconst (v := 2) hx hb dL_law_1117 (of_decide_eq_true rfl) ?_
        refine lv_iadd hx hb dL_law_1118 ?_
        refine jtopr ex48.symm ?_
        refine va_sld hx hb hX hbl hbA hS (jin tx48 (by omega) (by omega)) dL_law_1119 ?_
        refine lv_aload_n hx hb dL_law_1120 rfl (lv_at hl 3 rfl) ?_
        refine lv_iload_n hx hb dL_law_1121 rfl (lv_at hl 0 rfl) ?_
        exact by
         refine lv_iconst (v := 3) hx hb dL_law_1122 (of_decide_eq_true rfl) ?_
         refine lv_iadd hx hb dL_law_1123 ?_
         refine jtopr ex50.symm ?_
         refine va_sld hx hb hX hbl hbA hS (jin tx50 (by omega) (by omega)) dL_law_1124 ?_
         have I143 : jI110 σ52 := jI110_fr (f54 86 (of_decide_eq_true rfl)) (f54 87 (of_decide_eq_true rfl)) hI110
         refine jcallV (As := [.int (xs x46.toNatClampNeg), .int (xs x48.toNatClampNeg), .int (xs x50.toNatClampNeg)]) (rest := []) ⟨hx, hb, hml, hown, hts⟩ hK hP hA hS hZ (c_X12_row l D cI cL ad zz hJ σ52 τ52 (xs x46.toNatClampNeg) ((xs x46.toNatClampNeg).toInt) rfl (xs x48.toNatClampNeg) ((xs x48.toNatClampNeg).toInt) rfl (xs x50.toNatClampNeg) ((xs x50.toNatClampNeg).toInt) rfl I143) cw_RL_144 (jc_55 cI cL ad σ52 τ52) rfl ⟨Nat.le_of_ble_eq_true rfl, Nat.le_of_ble_eq_true rfl⟩ rfl rfl rfl hl.1 rfl (Nat.le_of_ble_eq_true rfl) dL_law_1125 ⟨Nat.le_of_ble_eq_true rfl, Nat.le_of_ble_eq_true rfl⟩ (fun r145 σ144 τ144 H locs h144 hP hS => ?_)
         obtain ⟨f148, f146, I147, h144⟩ := h144
         rcases h144 with h149 | h150 | h151
         · obtain ⟨q155, k152, k153, k154⟩ := h149
           exact absurd (by omega : False) id
         · exact by
            obtain ⟨q161, k156, k157, k158, k159, k160⟩ := h150
            have q161 := q161.symm
            subst q161
            refine lv_pop hx hb dL_law_1128 rfl ?_
            refine lv_goto (tgt := 1357) hx hb dL_law_1129 (of_decide_eq_true rfl) ?_
            obtain ⟨x162, ex162⟩ : ∃ y : Int32, y = x0 + 6 := ⟨_, rfl⟩
            have tx162 : x162.toInt = x0.toInt + 6 := (jadd ex162 rfl jz_6 (by omega) (by omega)).trans (by omega)
            refine lv_iinc (v := x162) (lv' := [(3, .int x162), (2, .ref (ad 55)), (1, .ref (ad 0)), (0, .ref b)]) hx hb dL_law_1357 hl (k := 0) rfl (by rw [ex162]; rfl) (of_decide_eq_true rfl) rfl (fun ls hl => ?_)
            refine lv_goto (tgt := 18) hx hb dL_law_1360 (of_decide_eq_true rfl) ?_
            exact by
             have I163 : jI2 σ144 := jI2_fr ((congrFun (f146 2 (of_decide_eq_true rfl)) 0).trans (congrFun (f54 2 (of_decide_eq_true rfl)) 0)) ((congrFun (f146 2 (of_decide_eq_true rfl)) 1).trans (congrFun (f54 2 (of_decide_eq_true rfl)) 1)) ((congrFun (f146 2 (of_decide_eq_true rfl)) 2).trans (congrFun (f54 2 (of_decide_eq_true rfl)) 2)) ((congrFun (f146 2 (of_decide_eq_true rfl)) 3).trans (congrFun (f54 2 (of_decide_eq_true rfl)) 3)) ((f146 6 (of_decide_eq_true rfl)).trans (f54 6 (of_decide_eq_true rfl))) hI2
             have I164 : jI9 σ144 := jI9_fr ((congrFun (f146 9 (of_decide_eq_true rfl)) 0).trans (congrFun (f54 9 (of_decide_eq_true rfl)) 0)) ((f146 10 (of_decide_eq_true rfl)).trans (f54 10 (of_decide_eq_true rfl))) ((f146 11 (of_decide_eq_true rfl)).trans (f54 11 (of_decide_eq_true rfl))) hI9
             have I165 : jI12 σ144 := jI12_fr ((congrFun (f146 12 (of_decide_eq_true rfl)) 0).trans (congrFun (f54 12 (of_decide_eq_true rfl)) 0)) ((f146 13 (of_decide_eq_true rfl)).trans (f54 13 (of_decide_eq_true rfl))) hI12
             have I166 : jI16 σ144 := jI16_fr ((congrFun (f146 16 (of_decide_eq_true rfl)) 0).trans (congrFun (f54 16 (of_decide_eq_true rfl)) 0)) ((congrFun (f146 16 (of_decide_eq_true rfl)) 1).trans (congrFun (f54 16 (of_decide_eq_true rfl)) 1)) ((congrFun (f146 16 (of_decide_eq_true rfl)) 2).trans (congrFun (f54 16 (of_decide_eq_true rfl)) 2)) ((f146 17 (of_decide_eq_true rfl)).trans (f54 17 (of_decide_eq_true rfl))) hI16
             have I167 : jI18 σ144 := jI18_fr ((congrFun (f146 18 (of_decide_eq_true rfl)) 0).trans (congrFun (f54 18 (of_decide_eq_true rfl)) 0)) ((f146 19 (of_decide_eq_true rfl)).trans (f54 19 (of_decide_eq_true rfl))) hI18
             have I168 : jI22 σ144 := jI22_fr ((congrFun (f146 22 (of_decide_eq_true rfl)) 0).trans (congrFun (f54 22 (of_decide_eq_true rfl)) 0)) ((f146 23 (of_decide_eq_true rfl)).trans (f54 23 (of_decide_eq_true rfl))) hI22
             have I169 : jI31 σ144 := jI31_fr ((congrFun (f146 31 (of_decide_eq_true rfl)) 8).trans (congrFun (f54 31 (of_decide_eq_true rfl)) 8)) ((f146 33 (of_decide_eq_true rfl)).trans (f54 33 (of_decide_eq_true rfl))) ((f146 36 (of_decide_eq_true rfl)).trans (f54 36 (of_decide_eq_true rfl))) hI31
             have I170 : jI38 σ144 := jI38_fr ((congrFun (f146 38 (of_decide_eq_true rfl)) 0).trans (congrFun (f54 38 (of_decide_eq_true rfl)) 0)) ((congrFun (f146 38 (of_decide_eq_true rfl)) 1).trans (congrFun (f54 38 (of_decide_eq_true rfl)) 1)) ((f146 39 (of_decide_eq_true rfl)).trans (f54 39 (of_decide_eq_true rfl))) hI38
             have I171 : jI43 σ144 := jI43_fr ((congrFun (f146 43 (of_decide_eq_true rfl)) 8).trans (congrFun (f54 43 (of_decide_eq_true rfl)) 8)) hI43
             have I172 : jI47 σ144 := jI47_fr ((congrFun (f146 47 (of_decide_eq_true rfl)) 0).trans (congrFun (f54 47 (of_decide_eq_true rfl)) 0)) ((f146 48 (of_decide_eq_true rfl)).trans (f54 48 (of_decide_eq_true rfl))) ((f146 49 (of_decide_eq_true rfl)).trans (f54 49 (of_decide_eq_true rfl))) hI47
             have I173 : jI50 σ144 := jI50_fr (f146 52 (of_decide_eq_true rfl)) I55
             have I174 : jI101 σ144 := jI101_fr ((congrFun (f146 55 (of_decide_eq_true rfl)) 4).trans (congrFun (f54 55 (of_decide_eq_true rfl)) 4)) ((congrFun (f146 55 (of_decide_eq_true rfl)) 5).trans (congrFun (f54 55 (of_decide_eq_true rfl)) 5)) ((f146 56 (of_decide_eq_true rfl)).trans (f54 56 (of_decide_eq_true rfl))) ((f146 57 (of_decide_eq_true rfl)).trans (f54 57 (of_decide_eq_true rfl))) ((f146 58 (of_decide_eq_true rfl)).trans (f54 58 (of_decide_eq_true rfl))) ((f146 59 (of_decide_eq_true rfl)).trans (f54 59 (of_decide_eq_true rfl))) hI101
             have I175 : jI102 σ144 := jI102_fr ((congrFun (f146 55 (of_decide_eq_true rfl)) 6).trans (congrFun (f54 55 (of_decide_eq_true rfl)) 6)) ((f146 60 (of_decide_eq_true rfl)).trans (f54 60 (of_decide_eq_true rfl))) ((f146 61 (of_decide_eq_true rfl)).trans (f54 61 (of_decide_eq_true rfl))) hI102
             have I176 : jI103 σ144 := jI103_fr ((congrFun (f146 55 (of_decide_eq_true rfl)) 9).trans (congrFun (f54 55 (of_decide_eq_true rfl)) 9)) hI103
             have I177 : jI104 σ144 := jI104_fr ((congrFun (f146 55 (of_decide_eq_true rfl)) 10).trans (congrFun (f54 55 (of_decide_eq_true rfl)) 10)) ((congrFun (f146 55 (of_decide_eq_true rfl)) 12).trans (congrFun (f54 55 (of_decide_eq_true rfl)) 12)) ((congrFun (f146 55 (of_decide_eq_true rfl)) 13).trans (congrFun (f54 55 (of_decide_eq_true rfl)) 13)) ((f146 62 (of_decide_eq_true rfl)).trans (f54 62 (of_decide_eq_true rfl))) ((f146 67 (of_decide_eq_true rfl)).trans (f54 67 (of_decide_eq_true rfl))) hI104
             have I178 : jI105 σ144 := jI105_fr ((congrFun (f146 55 (of_decide_eq_true rfl)) 15).trans (congrFun (f54 55 (of_decide_eq_true rfl)) 15)) ((f146 65 (of_decide_eq_true rfl)).trans (f54 65 (of_decide_eq_true rfl))) hI105
             have I179 : jI106 σ144 := jI106_fr ((congrFun (f146 55 (of_decide_eq_true rfl)) 32).trans (congrFun (f54 55 (of_decide_eq_true rfl)) 32)) ((f146 70 (of_decide_eq_true rfl)).trans (f54 70 (of_decide_eq_true rfl))) ((f146 71 (of_decide_eq_true rfl)).trans (f54 71 (of_decide_eq_true rfl))) ((f146 72 (of_decide_eq_true rfl)).trans (f54 72 (of_decide_eq_true rfl))) hI106
             have I180 : jI107 σ144 := jI107_fr ((congrFun (f146 55 (of_decide_eq_true rfl)) 12).trans (congrFun (f54 55 (of_decide_eq_true rfl)) 12)) ((congrFun (f146 55 (of_decide_eq_true rfl)) 47).trans (congrFun (f54 55 (of_decide_eq_true rfl)) 47)) ((f146 80 (of_decide_eq_true rfl)).trans (f54 80 (of_decide_eq_true rfl))) hI107
             have I181 : jI109 σ144 := jI109_fr ((congrFun (f146 55 (of_decide_eq_true rfl)) 50).trans (congrFun (f54 55 (of_decide_eq_true rfl)) 50)) hI109
             have I182 : jI111 σ144 := jI111_fr ((f146 79 (of_decide_eq_true rfl)).trans (f54 79 (of_decide_eq_true rfl))) hI111
             have I183 : jI119 σ144 := jI119_fr ((f146 68 (of_decide_eq_true rfl)).trans (f54 68 (of_decide_eq_true rfl))) hI119
             have p184 : jKept σ144 := jKept.fr ((f146 75 (of_decide_eq_true rfl)).trans (f54 75 (of_decide_eq_true rfl))) ((f146 76 (of_decide_eq_true rfl)).trans (f54 76 (of_decide_eq_true rfl))) ((f146 77 (of_decide_eq_true rfl)).trans (f54 77 (of_decide_eq_true rfl))) hs_jKept
             have p185 : jBook σ144 := jBook.fr ((congrFun (f146 55 (of_decide_eq_true rfl)) 47).trans (congrFun (f54 55 (of_decide_eq_true rfl)) 47)) ((congrFun (f146 55 (of_decide_eq_true rfl)) 10).trans (congrFun (f54 55 (of_decide_eq_true rfl)) 10)) ((f146 81 (of_decide_eq_true rfl)).trans (f54 81 (of_decide_eq_true rfl))) hs_jBook
             have z186 : (σ144 2 0).toInt = (σ 2 0).toInt := (congrArg Int32.toInt (show σ144 2 0 = (σ 2 0) from ((congrFun (f146 2 (of_decide_eq_true rfl)) 0).trans (congrFun (f54 2 (of_decide_eq_true rfl)) 0))))
             have z187 : (σ144 55 6).toInt = (σ 55 6).toInt := (congrArg Int32.toInt (show σ144 55 6 = (σ 55 6) from ((congrFun (f146 55 (of_decide_eq_true rfl)) 6).trans (congrFun (f54 55 (of_decide_eq_true rfl)) 6))))
             have z188 : (σ144 2 2).toInt = (σ 2 2).toInt := (congrArg Int32.toInt (show σ144 2 2 = (σ 2 2) from ((congrFun (f146 2 (of_decide_eq_true rfl)) 2).trans (congrFun (f54 2 (of_decide_eq_true rfl)) 2))))
             have z189 : (σ144 55 5).toInt = (σ 55 5).toInt := (congrArg Int32.toInt (show σ144 55 5 = (σ 55 5) from ((congrFun (f146 55 (of_decide_eq_true rfl)) 5).trans (congrFun (f54 55 (of_decide_eq_true rfl)) 5))))
             have z190 : (σ144 2 3).toInt = (σ 2 3).toInt := (congrArg Int32.toInt (show σ144 2 3 = (σ 2 3) from ((congrFun (f146 2 (of_decide_eq_true rfl)) 3).trans (congrFun (f54 2 (of_decide_eq_true rfl)) 3))))
             have z191 : (σ144 55 4).toInt = (σ 55 4).toInt := (congrArg Int32.toInt (show σ144 55 4 = (σ 55 4) from ((congrFun (f146 55 (of_decide_eq_true rfl)) 4).trans (congrFun (f54 55 (of_decide_eq_true rfl)) 4))))
             have z192 : (σ144 9 0).toInt = (σ 9 0).toInt := (congrArg Int32.toInt (show σ144 9 0 = (σ 9 0) from ((congrFun (f146 9 (of_decide_eq_true rfl)) 0).trans (congrFun (f54 9 (of_decide_eq_true rfl)) 0))))
             have z193 : (σ144 55 15).toInt = (σ 55 15).toInt := (congrArg Int32.toInt (show σ144 55 15 = (σ 55 15) from ((congrFun (f146 55 (of_decide_eq_true rfl)) 15).trans (congrFun (f54 55 (of_decide_eq_true rfl)) 15))))
             have z194 : (σ144 16 0).toInt = (σ 16 0).toInt := (congrArg Int32.toInt (show σ144 16 0 = (σ 16 0) from ((congrFun (f146 16 (of_decide_eq_true rfl)) 0).trans (congrFun (f54 16 (of_decide_eq_true rfl)) 0))))
             have z195 : (σ144 55 10).toInt = (σ 55 10).toInt := (congrArg Int32.toInt (show σ144 55 10 = (σ 55 10) from ((congrFun (f146 55 (of_decide_eq_true rfl)) 10).trans (congrFun (f54 55 (of_decide_eq_true rfl)) 10))))
             have z196 : (σ144 16 1).toInt = (σ 16 1).toInt := (congrArg Int32.toInt (show σ144 16 1 = (σ 16 1) from ((congrFun (f146 16 (of_decide_eq_true rfl)) 1).trans (congrFun (f54 16 (of_decide_eq_true rfl)) 1))))
             have z197 : (σ144 55 12).toInt = (σ 55 12).toInt := (congrArg Int32.toInt (show σ144 55 12 = (σ 55 12) from ((congrFun (f146 55 (of_decide_eq_true rfl)) 12).trans (congrFun (f54 55 (of_decide_eq_true rfl)) 12))))
             have z198 : (σ144 16 2).toInt = (σ 16 2).toInt := (congrArg Int32.toInt (show σ144 16 2 = (σ 16 2) from ((congrFun (f146 16 (of_decide_eq_true rfl)) 2).trans (congrFun (f54 16 (of_decide_eq_true rfl)) 2))))
             have z199 : (σ144 55 13).toInt = (σ 55 13).toInt := (congrArg Int32.toInt (show σ144 55 13 = (σ 55 13) from ((congrFun (f146 55 (of_decide_eq_true rfl)) 13).trans (congrFun (f54 55 (of_decide_eq_true rfl)) 13))))
             have z200 : (σ144 38 0).toInt = (σ 38 0).toInt := (congrArg Int32.toInt (show σ144 38 0 = (σ 38 0) from ((congrFun (f146 38 (of_decide_eq_true rfl)) 0).trans (congrFun (f54 38 (of_decide_eq_true rfl)) 0))))
             have z201 : (σ144 55 32).toInt = (σ 55 32).toInt := (congrArg Int32.toInt (show σ144 55 32 = (σ 55 32) from ((congrFun (f146 55 (of_decide_eq_true rfl)) 32).trans (congrFun (f54 55 (of_decide_eq_true rfl)) 32))))
             have z202 : (σ144 38 1).toInt = (σ 38 1).toInt := (congrArg Int32.toInt (show σ144 38 1 = (σ 38 1) from ((congrFun (f146 38 (of_decide_eq_true rfl)) 1).trans (congrFun (f54 38 (of_decide_eq_true rfl)) 1))))
             have z203 : (σ144 55 55).toInt = (σ 55 55).toInt := (congrArg Int32.toInt (show σ144 55 55 = (σ 55 55) from ((congrFun (f146 55 (of_decide_eq_true rfl)) 55).trans (congrFun (f54 55 (of_decide_eq_true rfl)) 55))))
             have z204 : (σ144 47 0).toInt = (σ 47 0).toInt := (congrArg Int32.toInt (show σ144 47 0 = (σ 47 0) from ((congrFun (f146 47 (of_decide_eq_true rfl)) 0).trans (congrFun (f54 47 (of_decide_eq_true rfl)) 0))))
             have z205 : (σ144 55 47).toInt = (σ 55 47).toInt := (congrArg Int32.toInt (show σ144 55 47 = (σ 55 47) from ((congrFun (f146 55 (of_decide_eq_true rfl)) 47).trans (congrFun (f54 55 (of_decide_eq_true rfl)) 47))))
             have z206 : (σ144 55 30).toInt = (σ 55 30).toInt := (congrArg Int32.toInt (show σ144 55 30 = (σ 55 30) from ((congrFun (f146 55 (of_decide_eq_true rfl)) 30).trans (congrFun (f54 55 (of_decide_eq_true rfl)) 30))))
             have z207 : (σ144 55 31).toInt = (σ 55 31).toInt := (congrArg Int32.toInt (show σ144 55 31 = (σ 55 31) from ((congrFun (f146 55 (of_decide_eq_true rfl)) 31).trans (congrFun (f54 55 (of_decide_eq_true rfl)) 31))))
             exact by exact ih x162 σ144 τ144 _ _ ls (by have h9 := tx162; omega) ⟨I163, I164, I165, I166, I167, I168, I169, I170, I171, I172, I173, I174, I175, I176, I177, I178, I179, I180, I181, I147, I182, I183, p184, p185, (by omega), (by omega), (by omega), (by omega), (by omega), (by omega), (by omega), (by omega), (by omega), (by omega), (by omega), (by omega), (show jNumP (σ144 3) (σ144 56) (σ144 6) (σ144 57) (σ144 7) (σ144 58) (σ144 8) (σ144 59) (σ144 55 6).toInt (σ144 55 4).toInt by rw [show σ144 3 = σ 3 from ((f146 3 (of_decide_eq_true rfl)).trans (f54 3 (of_decide_eq_true rfl))), show σ144 56 = σ 56 from ((f146 56 (of_decide_eq_true rfl)).trans (f54 56 (of_decide_eq_true rfl))), show σ144 6 = σ 6 from ((f146 6 (of_decide_eq_true rfl)).trans (f54 6 (of_decide_eq_true rfl))), show σ144 57 = σ 57 from ((f146 57 (of_decide_eq_true rfl)).trans (f54 57 (of_decide_eq_true rfl))), show σ144 7 = σ 7 from ((f146 7 (of_decide_eq_true rfl)).trans (f54 7 (of_decide_eq_true rfl))), show σ144 58 = σ 58 from ((f146 58 (of_decide_eq_true rfl)).trans (f54 58 (of_decide_eq_true rfl))), show σ144 8 = σ 8 from ((f146 8 (of_decide_eq_true rfl)).trans (f54 8 (of_decide_eq_true rfl))), show σ144 59 = σ 59 from ((f146 59 (of_decide_eq_true rfl)).trans (f54 59 (of_decide_eq_true rfl))), show (σ144 55 6).toInt = (σ 55 6).toInt from by omega, show (σ144 55 4).toInt = (σ 55 4).toInt from by omega]; exact hr0), (show jOvP (σ144 56) (σ144 57) (σ144 58) (σ144 59) (σ144 55 4).toInt by rw [show σ144 56 = σ 56 from ((f146 56 (of_decide_eq_true rfl)).trans (f54 56 (of_decide_eq_true rfl))), show σ144 57 = σ 57 from ((f146 57 (of_decide_eq_true rfl)).trans (f54 57 (of_decide_eq_true rfl))), show σ144 58 = σ 58 from ((f146 58 (of_decide_eq_true rfl)).trans (f54 58 (of_decide_eq_true rfl))), show σ144 59 = σ 59 from ((f146 59 (of_decide_eq_true rfl)).trans (f54 59 (of_decide_eq_true rfl))), show (σ144 55 4).toInt = (σ 55 4).toInt from by omega]; exact hr1), (show jTp (σ144 10) (σ144 63) (σ144 55 15).toInt by rw [show σ144 10 = σ 10 from ((f146 10 (of_decide_eq_true rfl)).trans (f54 10 (of_decide_eq_true rfl))), show σ144 63 = σ 63 from ((f146 63 (of_decide_eq_true rfl)).trans (f54 63 (of_decide_eq_true rfl)))]; exact hr2.le (by omega)), (show jSo (σ144 17) (σ144 62) (σ144 16 0).toInt by rw [show σ144 17 = σ 17 from ((f146 17 (of_decide_eq_true rfl)).trans (f54 17 (of_decide_eq_true rfl))), show σ144 62 = σ 62 from ((f146 62 (of_decide_eq_true rfl)).trans (f54 62 (of_decide_eq_true rfl))), show (σ144 16 0).toInt = (σ 16 0).toInt from by omega]; exact hr3), (show jShP (σ144 51) (σ144 52) (σ144 53) (σ144 86) (σ144 87) (σ144 55 32).toInt by rw [show σ144 51 = σ 51 from ((f146 51 (of_decide_eq_true rfl)).trans k140.1), show σ144 52 = σ 52 from ((f146 52 (of_decide_eq_true rfl)).trans k140.2.1), show σ144 53 = σ 53 from ((f146 53 (of_decide_eq_true rfl)).trans k140.2.2), show σ144 86 = σ 86 from (k159.1.trans (f54 86 (of_decide_eq_true rfl))), show σ144 87 = σ 87 from (k159.2.trans (f54 87 (of_decide_eq_true rfl)))]; exact (hr4.up (by omega) (by omega))), (show jEl (σ144 51) (σ144 52) (τ144 54) (τ144 88) by rw [show σ144 51 = σ 51 from ((f146 51 (of_decide_eq_true rfl)).trans k140.1), show σ144 52 = σ 52 from ((f146 52 (of_decide_eq_true rfl)).trans k140.2.1), show τ144 54 = τ 54 from ((f148 54 (of_decide_eq_true rfl)).trans k141), show τ144 88 = τ 88 from (k160.trans (f56 88 (of_decide_eq_true rfl)))]; exact hr5), (show jByP (σ144 51) (σ144 52) (τ144 54) by rw [show σ144 51 = σ 51 from ((f146 51 (of_decide_eq_true rfl)).trans k140.1), show σ144 52 = σ 52 from ((f146 52 (of_decide_eq_true rfl)).trans k140.2.1), show τ144 54 = τ 54 from ((f148 54 (of_decide_eq_true rfl)).trans k141)]; exact hr6), (show jBk (σ144 48) (σ144 80) (σ144 49) (σ144 81) (σ144 55 47).toInt by rw [show σ144 48 = σ 48 from ((f146 48 (of_decide_eq_true rfl)).trans (f54 48 (of_decide_eq_true rfl))), show σ144 49 = σ 49 from ((f146 49 (of_decide_eq_true rfl)).trans (f54 49 (of_decide_eq_true rfl))), show σ144 80 = σ 80 from ((f146 80 (of_decide_eq_true rfl)).trans (f54 80 (of_decide_eq_true rfl))), show σ144 81 = σ 81 from ((f146 81 (of_decide_eq_true rfl)).trans (f54 81 (of_decide_eq_true rfl))), show (σ144 55 47).toInt = (σ 55 47).toInt from by omega]; exact hr7), (show jKd (σ144 39) (σ144 70) (σ144 55 32).toInt by rw [show σ144 39 = σ 39 from ((f146 39 (of_decide_eq_true rfl)).trans (f54 39 (of_decide_eq_true rfl))), show σ144 70 = σ 70 from ((f146 70 (of_decide_eq_true rfl)).trans (f54 70 (of_decide_eq_true rfl))), show (σ144 55 32).toInt = (σ 55 32).toInt from by omega]; exact hr8), (show jTt (σ144 42) (σ144 85) (σ144 55 55).toInt by rw [show σ144 42 = σ 42 from ((f146 42 (of_decide_eq_true rfl)).trans (f54 42 (of_decide_eq_true rfl))), show σ144 85 = σ 85 from ((f146 85 (of_decide_eq_true rfl)).trans (f54 85 (of_decide_eq_true rfl))), show (σ144 55 55).toInt = (σ 55 55).toInt from by omega]; exact hr9)⟩ hP hS (lv_sub hl [0, 1, 2, 3] rfl)
         · obtain ⟨q214, k209, k210, k211, k212, k213⟩ := h151
           exact absurd (by omega : False) id
     · obtain ⟨q220, k215, k216, k217, k218, k219⟩ := h60
       have q220 := q220.symm
       subst q220
       refine lv_pop hx hb dL_law_1108 rfl ?_
       refine lv_aload_n hx hb dL_law_1109 rfl (lv_at hl 1 rfl) ?_
       refine lv_aload_n hx hb dL_law_1110 rfl (lv_at hl 3 rfl) ?_
       refine lv_iload_n hx hb dL_law_1111 rfl (lv_at hl 0 rfl) ?_
       refine lv_iconst (v := 1) hx hb dL_law_1112 (of_decide_eq_true rfl) ?_
       refine lv_iadd hx hb dL_law_1113 ?_
       refine jtopr ex46.symm ?_
       exact by
        refine va_sld hx hb hX hbl hbA hS (jin tx46 (by omega) (by omega)) dL_law_1114 ?_
        refine lv_aload_n hx hb dL_law_1115 rfl (lv_at hl 3 rfl) ?_
        refine lv_iload_n hx hb dL_law_1116 rfl (lv_at hl 0 rfl) ?_
        refine lv_iconst (v := 2) hx hb dL_law_1117 (of_decide_eq_true rfl) ?_
        refine lv_iadd hx hb dL_law_1118 ?_
        refine jtopr ex48.symm ?_
        refine va_sld hx hb hX hbl hbA hS (jin tx48 (by omega) (by omega)) dL_law_1119 ?_
        refine lv_aload_n hx hb dL_law_1120 rfl (lv_at hl 3 rfl) ?_
        refine lv_iload_n hx hb dL_law_1121 rfl (lv_at hl 0 rfl) ?_
        exact by
         refine lv_iconst (v := 3) hx hb dL_law_1122 (of_decide_eq_true rfl) ?_
         refine lv_iadd hx hb dL_law_1123 ?_
         refine jtopr ex50.symm ?_
         refine va_sld hx hb hX hbl hbA hS (jin tx50 (by omega) (by omega)) dL_law_1124 ?_
         have I221 : jI110 σ52 := jI110_fr (f54 86 (of_decide_eq_true rfl)) (f54 87 (of_decide_eq_true rfl)) hI110
         refine jcallV (As := [.int (xs x46.toNatClampNeg), .int (xs x48.toNatClampNeg), .int (xs x50.toNatClampNeg)]) (rest := []) ⟨hx, hb, hml, hown, hts⟩ hK hP hA hS hZ (c_X12_row l D cI cL ad zz hJ σ52 τ52 (xs x46.toNatClampNeg) ((xs x46.toNatClampNeg).toInt) rfl (xs x48.toNatClampNeg) ((xs x48.toNatClampNeg).toInt) rfl (xs x50.toNatClampNeg) ((xs x50.toNatClampNeg).toInt) rfl I221) cw_RL_144 (jc_55 cI cL ad σ52 τ52) rfl ⟨Nat.le_of_ble_eq_true rfl, Nat.le_of_ble_eq_true rfl⟩ rfl rfl rfl hl.1 rfl (Nat.le_of_ble_eq_true rfl) dL_law_1125 ⟨Nat.le_of_ble_eq_true rfl, Nat.le_of_ble_eq_true rfl⟩ (fun r223 σ222 τ222 H locs h222 hP hS => ?_)
         obtain ⟨f226, f224, I225, h222⟩ := h222
         rcases h222 with h227 | h228 | h229
         · obtain ⟨q233, k230, k231, k232⟩ := h227
           exact absurd (by omega : False) id
         · exact by
            obtain ⟨q239, k234, k235, k236, k237, k238⟩ := h228
            exact absurd (by omega : False) id
         · obtain ⟨q245, k240, k241, k242, k243, k244⟩ := h229
           have q245 := q245.symm
           subst q245
           refine lv_pop hx hb dL_law_1128 rfl ?_
           refine lv_goto (tgt := 1357) hx hb dL_law_1129 (of_decide_eq_true rfl) ?_
           obtain ⟨x246, ex246⟩ : ∃ y : Int32, y = x0 + 6 := ⟨_, rfl⟩
           have tx246 : x246.toInt = x0.toInt + 6 := (jadd ex246 rfl jz_6 (by omega) (by omega)).trans (by omega)
           exact by
            refine lv_iinc (v := x246) (lv' := [(3, .int x246), (2, .ref (ad 55)), (1, .ref (ad 0)), (0, .ref b)]) hx hb dL_law_1357 hl (k := 0) rfl (by rw [ex246]; rfl) (of_decide_eq_true rfl) rfl (fun ls hl => ?_)
            refine lv_goto (tgt := 18) hx hb dL_law_1360 (of_decide_eq_true rfl) ?_
            have I247 : jI2 σ222 := jI2_fr ((congrFun (f224 2 (of_decide_eq_true rfl)) 0).trans (congrFun (f54 2 (of_decide_eq_true rfl)) 0)) ((congrFun (f224 2 (of_decide_eq_true rfl)) 1).trans (congrFun (f54 2 (of_decide_eq_true rfl)) 1)) ((congrFun (f224 2 (of_decide_eq_true rfl)) 2).trans (congrFun (f54 2 (of_decide_eq_true rfl)) 2)) ((congrFun (f224 2 (of_decide_eq_true rfl)) 3).trans (congrFun (f54 2 (of_decide_eq_true rfl)) 3)) ((f224 6 (of_decide_eq_true rfl)).trans (f54 6 (of_decide_eq_true rfl))) hI2
            have I248 : jI9 σ222 := jI9_fr ((congrFun (f224 9 (of_decide_eq_true rfl)) 0).trans (congrFun (f54 9 (of_decide_eq_true rfl)) 0)) ((f224 10 (of_decide_eq_true rfl)).trans (f54 10 (of_decide_eq_true rfl))) ((f224 11 (of_decide_eq_true rfl)).trans (f54 11 (of_decide_eq_true rfl))) hI9
            have I249 : jI12 σ222 := jI12_fr ((congrFun (f224 12 (of_decide_eq_true rfl)) 0).trans (congrFun (f54 12 (of_decide_eq_true rfl)) 0)) ((f224 13 (of_decide_eq_true rfl)).trans (f54 13 (of_decide_eq_true rfl))) hI12
            have I250 : jI16 σ222 := jI16_fr ((congrFun (f224 16 (of_decide_eq_true rfl)) 0).trans (congrFun (f54 16 (of_decide_eq_true rfl)) 0)) ((congrFun (f224 16 (of_decide_eq_true rfl)) 1).trans (congrFun (f54 16 (of_decide_eq_true rfl)) 1)) ((congrFun (f224 16 (of_decide_eq_true rfl)) 2).trans (congrFun (f54 16 (of_decide_eq_true rfl)) 2)) ((f224 17 (of_decide_eq_true rfl)).trans (f54 17 (of_decide_eq_true rfl))) hI16
            have I251 : jI18 σ222 := jI18_fr ((congrFun (f224 18 (of_decide_eq_true rfl)) 0).trans (congrFun (f54 18 (of_decide_eq_true rfl)) 0)) ((f224 19 (of_decide_eq_true rfl)).trans (f54 19 (of_decide_eq_true rfl))) hI18
            have I252 : jI22 σ222 := jI22_fr ((congrFun (f224 22 (of_decide_eq_true rfl)) 0).trans (congrFun (f54 22 (of_decide_eq_true rfl)) 0)) ((f224 23 (of_decide_eq_true rfl)).trans (f54 23 (of_decide_eq_true rfl))) hI22
            have I253 : jI31 σ222 := jI31_fr ((congrFun (f224 31 (of_decide_eq_true rfl)) 8).trans (congrFun (f54 31 (of_decide_eq_true rfl)) 8)) ((f224 33 (of_decide_eq_true rfl)).trans (f54 33 (of_decide_eq_true rfl))) ((f224 36 (of_decide_eq_true rfl)).trans (f54 36 (of_decide_eq_true rfl))) hI31
            have I254 : jI38 σ222 := jI38_fr ((congrFun (f224 38 (of_decide_eq_true rfl)) 0).trans (congrFun (f54 38 (of_decide_eq_true rfl)) 0)) ((congrFun (f224 38 (of_decide_eq_true rfl)) 1).trans (congrFun (f54 38 (of_decide_eq_true rfl)) 1)) ((f224 39 (of_decide_eq_true rfl)).trans (f54 39 (of_decide_eq_true rfl))) hI38
            have I255 : jI43 σ222 := jI43_fr ((congrFun (f224 43 (of_decide_eq_true rfl)) 8).trans (congrFun (f54 43 (of_decide_eq_true rfl)) 8)) hI43
            have I256 : jI47 σ222 := jI47_fr ((congrFun (f224 47 (of_decide_eq_true rfl)) 0).trans (congrFun (f54 47 (of_decide_eq_true rfl)) 0)) ((f224 48 (of_decide_eq_true rfl)).trans (f54 48 (of_decide_eq_true rfl))) ((f224 49 (of_decide_eq_true rfl)).trans (f54 49 (of_decide_eq_true rfl))) hI47
            have I257 : jI50 σ222 := jI50_fr (f224 52 (of_decide_eq_true rfl)) I55
            have I258 : jI101 σ222 := jI101_fr ((congrFun (f224 55 (of_decide_eq_true rfl)) 4).trans (congrFun (f54 55 (of_decide_eq_true rfl)) 4)) ((congrFun (f224 55 (of_decide_eq_true rfl)) 5).trans (congrFun (f54 55 (of_decide_eq_true rfl)) 5)) ((f224 56 (of_decide_eq_true rfl)).trans (f54 56 (of_decide_eq_true rfl))) ((f224 57 (of_decide_eq_true rfl)).trans (f54 57 (of_decide_eq_true rfl))) ((f224 58 (of_decide_eq_true rfl)).trans (f54 58 (of_decide_eq_true rfl))) ((f224 59 (of_decide_eq_true rfl)).trans (f54 59 (of_decide_eq_true rfl))) hI101
            have I259 : jI102 σ222 := jI102_fr ((congrFun (f224 55 (of_decide_eq_true rfl)) 6).trans (congrFun (f54 55 (of_decide_eq_true rfl)) 6)) ((f224 60 (of_decide_eq_true rfl)).trans (f54 60 (of_decide_eq_true rfl))) ((f224 61 (of_decide_eq_true rfl)).trans (f54 61 (of_decide_eq_true rfl))) hI102
            have I260 : jI103 σ222 := jI103_fr ((congrFun (f224 55 (of_decide_eq_true rfl)) 9).trans (congrFun (f54 55 (of_decide_eq_true rfl)) 9)) hI103
            have I261 : jI104 σ222 := jI104_fr ((congrFun (f224 55 (of_decide_eq_true rfl)) 10).trans (congrFun (f54 55 (of_decide_eq_true rfl)) 10)) ((congrFun (f224 55 (of_decide_eq_true rfl)) 12).trans (congrFun (f54 55 (of_decide_eq_true rfl)) 12)) ((congrFun (f224 55 (of_decide_eq_true rfl)) 13).trans (congrFun (f54 55 (of_decide_eq_true rfl)) 13)) ((f224 62 (of_decide_eq_true rfl)).trans (f54 62 (of_decide_eq_true rfl))) ((f224 67 (of_decide_eq_true rfl)).trans (f54 67 (of_decide_eq_true rfl))) hI104
            have I262 : jI105 σ222 := jI105_fr ((congrFun (f224 55 (of_decide_eq_true rfl)) 15).trans (congrFun (f54 55 (of_decide_eq_true rfl)) 15)) ((f224 65 (of_decide_eq_true rfl)).trans (f54 65 (of_decide_eq_true rfl))) hI105
            have I263 : jI106 σ222 := jI106_fr ((congrFun (f224 55 (of_decide_eq_true rfl)) 32).trans (congrFun (f54 55 (of_decide_eq_true rfl)) 32)) ((f224 70 (of_decide_eq_true rfl)).trans (f54 70 (of_decide_eq_true rfl))) ((f224 71 (of_decide_eq_true rfl)).trans (f54 71 (of_decide_eq_true rfl))) ((f224 72 (of_decide_eq_true rfl)).trans (f54 72 (of_decide_eq_true rfl))) hI106
            have I264 : jI107 σ222 := jI107_fr ((congrFun (f224 55 (of_decide_eq_true rfl)) 12).trans (congrFun (f54 55 (of_decide_eq_true rfl)) 12)) ((congrFun (f224 55 (of_decide_eq_true rfl)) 47).trans (congrFun (f54 55 (of_decide_eq_true rfl)) 47)) ((f224 80 (of_decide_eq_true rfl)).trans (f54 80 (of_decide_eq_true rfl))) hI107
            have I265 : jI109 σ222 := jI109_fr ((congrFun (f224 55 (of_decide_eq_true rfl)) 50).trans (congrFun (f54 55 (of_decide_eq_true rfl)) 50)) hI109
            have I266 : jI111 σ222 := jI111_fr ((f224 79 (of_decide_eq_true rfl)).trans (f54 79 (of_decide_eq_true rfl))) hI111
            have I267 : jI119 σ222 := jI119_fr ((f224 68 (of_decide_eq_true rfl)).trans (f54 68 (of_decide_eq_true rfl))) hI119
            have p268 : jKept σ222 := jKept.fr ((f224 75 (of_decide_eq_true rfl)).trans (f54 75 (of_decide_eq_true rfl))) ((f224 76 (of_decide_eq_true rfl)).trans (f54 76 (of_decide_eq_true rfl))) ((f224 77 (of_decide_eq_true rfl)).trans (f54 77 (of_decide_eq_true rfl))) hs_jKept
            have p269 : jBook σ222 := jBook.fr ((congrFun (f224 55 (of_decide_eq_true rfl)) 47).trans (congrFun (f54 55 (of_decide_eq_true rfl)) 47)) ((congrFun (f224 55 (of_decide_eq_true rfl)) 10).trans (congrFun (f54 55 (of_decide_eq_true rfl)) 10)) ((f224 81 (of_decide_eq_true rfl)).trans (f54 81 (of_decide_eq_true rfl))) hs_jBook
            have z270 : (σ222 2 0).toInt = (σ 2 0).toInt := (congrArg Int32.toInt (show σ222 2 0 = (σ 2 0) from ((congrFun (f224 2 (of_decide_eq_true rfl)) 0).trans (congrFun (f54 2 (of_decide_eq_true rfl)) 0))))
            have z271 : (σ222 55 6).toInt = (σ 55 6).toInt := (congrArg Int32.toInt (show σ222 55 6 = (σ 55 6) from ((congrFun (f224 55 (of_decide_eq_true rfl)) 6).trans (congrFun (f54 55 (of_decide_eq_true rfl)) 6))))
            have z272 : (σ222 2 2).toInt = (σ 2 2).toInt := (congrArg Int32.toInt (show σ222 2 2 = (σ 2 2) from ((congrFun (f224 2 (of_decide_eq_true rfl)) 2).trans (congrFun (f54 2 (of_decide_eq_true rfl)) 2))))
            have z273 : (σ222 55 5).toInt = (σ 55 5).toInt := (congrArg Int32.toInt (show σ222 55 5 = (σ 55 5) from ((congrFun (f224 55 (of_decide_eq_true rfl)) 5).trans (congrFun (f54 55 (of_decide_eq_true rfl)) 5))))
            have z274 : (σ222 2 3).toInt = (σ 2 3).toInt := (congrArg Int32.toInt (show σ222 2 3 = (σ 2 3) from ((congrFun (f224 2 (of_decide_eq_true rfl)) 3).trans (congrFun (f54 2 (of_decide_eq_true rfl)) 3))))
            have z275 : (σ222 55 4).toInt = (σ 55 4).toInt := (congrArg Int32.toInt (show σ222 55 4 = (σ 55 4) from ((congrFun (f224 55 (of_decide_eq_true rfl)) 4).trans (congrFun (f54 55 (of_decide_eq_true rfl)) 4))))
            have z276 : (σ222 9 0).toInt = (σ 9 0).toInt := (congrArg Int32.toInt (show σ222 9 0 = (σ 9 0) from ((congrFun (f224 9 (of_decide_eq_true rfl)) 0).trans (congrFun (f54 9 (of_decide_eq_true rfl)) 0))))
            have z277 : (σ222 55 15).toInt = (σ 55 15).toInt := (congrArg Int32.toInt (show σ222 55 15 = (σ 55 15) from ((congrFun (f224 55 (of_decide_eq_true rfl)) 15).trans (congrFun (f54 55 (of_decide_eq_true rfl)) 15))))
            have z278 : (σ222 16 0).toInt = (σ 16 0).toInt := (congrArg Int32.toInt (show σ222 16 0 = (σ 16 0) from ((congrFun (f224 16 (of_decide_eq_true rfl)) 0).trans (congrFun (f54 16 (of_decide_eq_true rfl)) 0))))
            have z279 : (σ222 55 10).toInt = (σ 55 10).toInt := (congrArg Int32.toInt (show σ222 55 10 = (σ 55 10) from ((congrFun (f224 55 (of_decide_eq_true rfl)) 10).trans (congrFun (f54 55 (of_decide_eq_true rfl)) 10))))
            have z280 : (σ222 16 1).toInt = (σ 16 1).toInt := (congrArg Int32.toInt (show σ222 16 1 = (σ 16 1) from ((congrFun (f224 16 (of_decide_eq_true rfl)) 1).trans (congrFun (f54 16 (of_decide_eq_true rfl)) 1))))
            have z281 : (σ222 55 12).toInt = (σ 55 12).toInt := (congrArg Int32.toInt (show σ222 55 12 = (σ 55 12) from ((congrFun (f224 55 (of_decide_eq_true rfl)) 12).trans (congrFun (f54 55 (of_decide_eq_true rfl)) 12))))
            have z282 : (σ222 16 2).toInt = (σ 16 2).toInt := (congrArg Int32.toInt (show σ222 16 2 = (σ 16 2) from ((congrFun (f224 16 (of_decide_eq_true rfl)) 2).trans (congrFun (f54 16 (of_decide_eq_true rfl)) 2))))
            have z283 : (σ222 55 13).toInt = (σ 55 13).toInt := (congrArg Int32.toInt (show σ222 55 13 = (σ 55 13) from ((congrFun (f224 55 (of_decide_eq_true rfl)) 13).trans (congrFun (f54 55 (of_decide_eq_true rfl)) 13))))
            have z284 : (σ222 38 0).toInt = (σ 38 0).toInt := (congrArg Int32.toInt (show σ222 38 0 = (σ 38 0) from ((congrFun (f224 38 (of_decide_eq_true rfl)) 0).trans (congrFun (f54 38 (of_decide_eq_true rfl)) 0))))
            have z285 : (σ222 55 32).toInt = (σ 55 32).toInt := (congrArg Int32.toInt (show σ222 55 32 = (σ 55 32) from ((congrFun (f224 55 (of_decide_eq_true rfl)) 32).trans (congrFun (f54 55 (of_decide_eq_true rfl)) 32))))
            have z286 : (σ222 38 1).toInt = (σ 38 1).toInt := (congrArg Int32.toInt (show σ222 38 1 = (σ 38 1) from ((congrFun (f224 38 (of_decide_eq_true rfl)) 1).trans (congrFun (f54 38 (of_decide_eq_true rfl)) 1))))
            have z287 : (σ222 55 55).toInt = (σ 55 55).toInt := (congrArg Int32.toInt (show σ222 55 55 = (σ 55 55) from ((congrFun (f224 55 (of_decide_eq_true rfl)) 55).trans (congrFun (f54 55 (of_decide_eq_true rfl)) 55))))
            have z288 : (σ222 47 0).toInt = (σ 47 0).toInt := (congrArg Int32.toInt (show σ222 47 0 = (σ 47 0) from ((congrFun (f224 47 (of_decide_eq_true rfl)) 0).trans (congrFun (f54 47 (of_decide_eq_true rfl)) 0))))
            have z289 : (σ222 55 47).toInt = (σ 55 47).toInt := (congrArg Int32.toInt (show σ222 55 47 = (σ 55 47) from ((congrFun (f224 55 (of_decide_eq_true rfl)) 47).trans (congrFun (f54 55 (of_decide_eq_true rfl)) 47))))
            have z290 : (σ222 55 30).toInt = (σ 55 30).toInt := (congrArg Int32.toInt (show σ222 55 30 = (σ 55 30) from ((congrFun (f224 55 (of_decide_eq_true rfl)) 30).trans (congrFun (f54 55 (of_decide_eq_true rfl)) 30))))
            have z291 : (σ222 55 31).toInt = (σ 55 31).toInt := (congrArg Int32.toInt (show σ222 55 31 = (σ 55 31) from ((congrFun (f224 55 (of_decide_eq_true rfl)) 31).trans (congrFun (f54 55 (of_decide_eq_true rfl)) 31))))
            rw [show σ52 86 = σ 86 from (f54 86 (of_decide_eq_true rfl)), show σ52 87 = σ 87 from (f54 87 (of_decide_eq_true rfl))] at k243
            obtain ⟨⟨z293, k294, k295⟩, k296⟩ := k243
            have p292 := hr4.set k218.1 k218.2.1 k218.2.2 k295 k296 (Or.inr (Or.inr ⟨by omega, by omega, k294, rfl, rfl⟩))
            rw [show τ52 88 = τ 88 from (f56 88 (of_decide_eq_true rfl))] at k244
            exact by
             have p297 := hr5.row w20 k218.1 k218.2.1 k219 k244 (by omega) (by omega) (by omega) (by omega) (by omega) (by omega)
             exact by exact ih x246 σ222 τ222 _ _ ls (by have h9 := tx246; omega) ⟨I247, I248, I249, I250, I251, I252, I253, I254, I255, I256, I257, I258, I259, I260, I261, I262, I263, I264, I265, I225, I266, I267, p268, p269, (by omega), (by omega), (by omega), (by omega), (by omega), (by omega), (by omega), (by omega), (by omega), (by omega), (by omega), (by omega), (show jNumP (σ222 3) (σ222 56) (σ222 6) (σ222 57) (σ222 7) (σ222 58) (σ222 8) (σ222 59) (σ222 55 6).toInt (σ222 55 4).toInt by rw [show σ222 3 = σ 3 from ((f224 3 (of_decide_eq_true rfl)).trans (f54 3 (of_decide_eq_true rfl))), show σ222 56 = σ 56 from ((f224 56 (of_decide_eq_true rfl)).trans (f54 56 (of_decide_eq_true rfl))), show σ222 6 = σ 6 from ((f224 6 (of_decide_eq_true rfl)).trans (f54 6 (of_decide_eq_true rfl))), show σ222 57 = σ 57 from ((f224 57 (of_decide_eq_true rfl)).trans (f54 57 (of_decide_eq_true rfl))), show σ222 7 = σ 7 from ((f224 7 (of_decide_eq_true rfl)).trans (f54 7 (of_decide_eq_true rfl))), show σ222 58 = σ 58 from ((f224 58 (of_decide_eq_true rfl)).trans (f54 58 (of_decide_eq_true rfl))), show σ222 8 = σ 8 from ((f224 8 (of_decide_eq_true rfl)).trans (f54 8 (of_decide_eq_true rfl))), show σ222 59 = σ 59 from ((f224 59 (of_decide_eq_true rfl)).trans (f54 59 (of_decide_eq_true rfl))), show (σ222 55 6).toInt = (σ 55 6).toInt from by omega, show (σ222 55 4).toInt = (σ 55 4).toInt from by omega]; exact hr0), (show jOvP (σ222 56) (σ222 57) (σ222 58) (σ222 59) (σ222 55 4).toInt by rw [show σ222 56 = σ 56 from ((f224 56 (of_decide_eq_true rfl)).trans (f54 56 (of_decide_eq_true rfl))), show σ222 57 = σ 57 from ((f224 57 (of_decide_eq_true rfl)).trans (f54 57 (of_decide_eq_true rfl))), show σ222 58 = σ 58 from ((f224 58 (of_decide_eq_true rfl)).trans (f54 58 (of_decide_eq_true rfl))), show σ222 59 = σ 59 from ((f224 59 (of_decide_eq_true rfl)).trans (f54 59 (of_decide_eq_true rfl))), show (σ222 55 4).toInt = (σ 55 4).toInt from by omega]; exact hr1), (show jTp (σ222 10) (σ222 63) (σ222 55 15).toInt by rw [show σ222 10 = σ 10 from ((f224 10 (of_decide_eq_true rfl)).trans (f54 10 (of_decide_eq_true rfl))), show σ222 63 = σ 63 from ((f224 63 (of_decide_eq_true rfl)).trans (f54 63 (of_decide_eq_true rfl)))]; exact hr2.le (by omega)), (show jSo (σ222 17) (σ222 62) (σ222 16 0).toInt by rw [show σ222 17 = σ 17 from ((f224 17 (of_decide_eq_true rfl)).trans (f54 17 (of_decide_eq_true rfl))), show σ222 62 = σ 62 from ((f224 62 (of_decide_eq_true rfl)).trans (f54 62 (of_decide_eq_true rfl))), show (σ222 16 0).toInt = (σ 16 0).toInt from by omega]; exact hr3), (show jShP (σ222 51) (σ222 52) (σ222 53) (σ222 86) (σ222 87) (σ222 55 32).toInt by rw [show σ222 51 = σ52 51 from (f224 51 (of_decide_eq_true rfl)), show σ222 52 = σ52 52 from (f224 52 (of_decide_eq_true rfl)), show σ222 53 = σ52 53 from (f224 53 (of_decide_eq_true rfl))]; exact (p292.up (by omega) (by omega))), (show jEl (σ222 51) (σ222 52) (τ222 54) (τ222 88) by rw [show σ222 51 = σ52 51 from (f224 51 (of_decide_eq_true rfl)), show σ222 52 = σ52 52 from (f224 52 (of_decide_eq_true rfl)), show τ222 54 = τ52 54 from (f226 54 (of_decide_eq_true rfl))]; exact p297), (show jByP (σ222 51) (σ222 52) (τ222 54) by rw [show σ222 51 = σ52 51 from (f224 51 (of_decide_eq_true rfl)), show σ222 52 = σ52 52 from (f224 52 (of_decide_eq_true rfl)), show τ222 54 = τ52 54 from (f226 54 (of_decide_eq_true rfl))]; exact (hr6.row w20 k218.1 k218.2.1 k219 (by omega) (by omega) (by omega))), (show jBk (σ222 48) (σ222 80) (σ222 49) (σ222 81) (σ222 55 47).toInt by rw [show σ222 48 = σ 48 from ((f224 48 (of_decide_eq_true rfl)).trans (f54 48 (of_decide_eq_true rfl))), show σ222 49 = σ 49 from ((f224 49 (of_decide_eq_true rfl)).trans (f54 49 (of_decide_eq_true rfl))), show σ222 80 = σ 80 from ((f224 80 (of_decide_eq_true rfl)).trans (f54 80 (of_decide_eq_true rfl))), show σ222 81 = σ 81 from ((f224 81 (of_decide_eq_true rfl)).trans (f54 81 (of_decide_eq_true rfl))), show (σ222 55 47).toInt = (σ 55 47).toInt from by omega]; exact hr7), (show jKd (σ222 39) (σ222 70) (σ222 55 32).toInt by rw [show σ222 39 = σ 39 from ((f224 39 (of_decide_eq_true rfl)).trans (f54 39 (of_decide_eq_true rfl))), show σ222 70 = σ 70 from ((f224 70 (of_decide_eq_true rfl)).trans (f54 70 (of_decide_eq_true rfl))), show (σ222 55 32).toInt = (σ 55 32).toInt from by omega]; exact hr8), (show jTt (σ222 42) (σ222 85) (σ222 55 55).toInt by rw [show σ222 42 = σ 42 from ((f224 42 (of_decide_eq_true rfl)).trans (f54 42 (of_decide_eq_true rfl))), show σ222 85 = σ 85 from ((f224 85 (of_decide_eq_true rfl)).trans (f54 85 (of_decide_eq_true rfl))), show (σ222 55 55).toInt = (σ 55 55).toInt from by omega]; exact hr9)⟩ hP hS (lv_sub hl [0, 1, 2, 3] rfl)
set_option maxHeartbeats 4000000 in
set_option maxRecDepth 100000 in
theorem law_case_32 {p : Program} {e : Env} {s : State} {m : MethodId} {below : List Frame} {meth : Method} {c : Code} (l : Launch) {b L : Nat} {xs : Nat → Int32} {D : va_G} {cI cL : ClassId} {ad zz : Nat → Nat} (C0 : lw_At p s m meth c b L xs) (hJ : jD ad) (hA : ∀ q, jA ad q → s.heap.size ≤ q) (hK : jK D cI cL s) (hZ : jZ zz (fun q : Nat => s.heap.size ≤ q) s s.heap) {x0 : Int32} (hx0 : 0 ≤ x0.toInt) (hxL : x0.toInt + 6 ≤ (L : Int)) (hL : L ≤ 384) {σ : Nat → Nat → Int32} {τ : Nat → Nat → Int64} {H : Heap} {locs : List Loc} (hS : va_S (fun q : Nat => s.heap.size ≤ q) s.heap H locs) {ls : Array Slot} (hAll : jAll σ τ) (hP : jH D cI cL ad σ τ H) (hl : lv_has ls 4 [(3, .int x0), (2, .ref (ad 55)), (1, .ref (ad 0)), (0, .ref b)]) (ih : ∀ (x1 : Int32) (σ : Nat → Nat → Int32) (τ : Nat → Nat → Int64) (H : Heap) (locs : List Loc) (ls : Array Slot), x1.toInt = x0.toInt + 6 → jAll σ τ → jH D cI cL ad σ τ H → va_S (fun q : Nat => s.heap.size ≤ q) s.heap H locs → lv_has ls 4 [(3, .int x1), (2, .ref (ad 55)), (1, .ref (ad 0)), (0, .ref b)] → W p l e room_1 s m #[Value.ref b] below meth c H locs 90 348600 (lw_Z below #[Value.ref b] s) (F0 m 18 ls [])) : W p l e room_1 s m #[Value.ref b] below meth c H locs 90 348600 (lw_Z below #[Value.ref b] s) (F0 m 1132 ls []) := by
  obtain ⟨hx, hb, hr, hml, hown, hts0, hX, hbl, hlocks, hgv⟩ := C0
  have hts : ∀ w ∈ wsL_law, w.before #[Value.ref b] s = true := fun w h => hts0 w (wsL_law_in w h)
  have hbA : ¬ (fun q : Nat => s.heap.size ≤ q) b := Nat.not_le.mpr hbl
  have hown : s.vm.findClass RL = some m.cls := hown
  obtain ⟨hI2, hI9, hI12, hI16, hI18, hI22, hI31, hI38, hI43, hI47, hI50, hI101, hI102, hI103, hI104, hI105, hI106, hI107, hI109, hI110, hI111, hI119, hs_jKept, hs_jBook, ht0, ht1, ht2, ht3, ht4, ht5, ht6, ht7, ht8, ht9, ht10, ht11, hr0, hr1, hr2, hr3, hr4, hr5, hr6, hr7, hr8, hr9⟩ := hAll
  have hL9 : (L : Int) ≤ 384 := by omega
  obtain ⟨i1, i2, i3, i4, i5, w6⟩ : (0 ≤ (σ 2 0).toInt ∧ (σ 2 0).toInt ≤ 4) ∧ (0 ≤ (σ 2 1).toInt ∧ (σ 2 1).toInt ≤ 3) ∧ (0 ≤ (σ 2 2).toInt) ∧ (0 ≤ (σ 2 3).toInt) ∧ ((σ 2 2).toInt + (σ 2 3).toInt ≤ 40) ∧ (∀ k : Nat, k < 40 → 0 ≤ (σ 6 k).toInt ∧ (σ 6 k).toInt ≤ 67) := id hI2
  obtain ⟨i7, w8, w9⟩ : (0 ≤ (σ 9 0).toInt ∧ (σ 9 0).toInt ≤ 80) ∧ (∀ k : Nat, k < 80 → 0 ≤ (σ 10 k).toInt ∧ (σ 10 k).toInt ≤ 255) ∧ (∀ k : Nat, k < 8 → 0 ≤ (σ 11 k).toInt ∧ (σ 11 k).toInt ≤ 3) := id hI9
  obtain ⟨i10, i11, i12, w13⟩ : (1 ≤ (σ 16 0).toInt ∧ (σ 16 0).toInt ≤ 8) ∧ (1 ≤ (σ 16 1).toInt ∧ (σ 16 1).toInt ≤ 12) ∧ (0 ≤ (σ 16 2).toInt ∧ (σ 16 2).toInt ≤ 999) ∧ (∀ k : Nat, k < 8 → 0 ≤ (σ 17 k).toInt ∧ (σ 17 k).toInt ≤ 3) := id hI16
  obtain ⟨i14, i15, w16⟩ : (0 ≤ (σ 38 0).toInt ∧ (σ 38 0).toInt ≤ 20) ∧ (0 ≤ (σ 38 1).toInt ∧ (σ 38 1).toInt ≤ 1000) ∧ (∀ k : Nat, k < 20 → 0 ≤ (σ 39 k).toInt ∧ (σ 39 k).toInt ≤ 6) := id hI38
  obtain ⟨i17, w18, w19⟩ : (0 ≤ (σ 47 0).toInt ∧ (σ 47 0).toInt ≤ 12) ∧ (∀ k : Nat, k < 12 → 0 ≤ (σ 48 k).toInt ∧ (σ 48 k).toInt ≤ 3) ∧ (∀ k : Nat, k < 12 → 0 ≤ (σ 49 k).toInt ∧ (σ 49 k).toInt ≤ 1) := id hI47
  have w20 : ∀ k : Nat, k < 6 → 0 ≤ (σ 52 k).toInt ∧ (σ 52 k).toInt ≤ 60 := hI50
  obtain ⟨i21, i22, i23, w24, w25, w26, w27⟩ : (0 ≤ (σ 55 5).toInt) ∧ ((σ 55 5).toInt ≤ (σ 55 4).toInt) ∧ ((σ 55 4).toInt ≤ 40) ∧ (∀ k : Nat, k < 68 → (-200) ≤ (σ 56 k).toInt ∧ (σ 56 k).toInt ≤ 500) ∧ (∀ k : Nat, k < 40 → 0 ≤ (σ 57 k).toInt ∧ (σ 57 k).toInt ≤ 67) ∧ (∀ k : Nat, k < 40 → (-200) ≤ (σ 58 k).toInt ∧ (σ 58 k).toInt ≤ 500) ∧ (∀ k : Nat, k < 40 → (-200) ≤ (σ 59 k).toInt ∧ (σ 59 k).toInt ≤ 500) := id hI101
  obtain ⟨i28, w29, w30⟩ : (0 ≤ (σ 55 6).toInt ∧ (σ 55 6).toInt ≤ 4) ∧ (∀ k : Nat, k < 4 → 0 ≤ (σ 60 k).toInt ∧ (σ 60 k).toInt ≤ 50) ∧ (∀ k : Nat, k < 4 → 0 ≤ (σ 61 k).toInt ∧ (σ 61 k).toInt ≤ 20) := id hI102
  obtain ⟨i31, i32, i33, w34, w35⟩ : (1 ≤ (σ 55 10).toInt ∧ (σ 55 10).toInt ≤ 8) ∧ (1 ≤ (σ 55 12).toInt ∧ (σ 55 12).toInt ≤ 12) ∧ (0 ≤ (σ 55 13).toInt ∧ (σ 55 13).toInt ≤ 999) ∧ (∀ k : Nat, k < 8 → 0 ≤ (σ 62 k).toInt ∧ (σ 62 k).toInt ≤ 3) ∧ (∀ k : Nat, k < 8 → 0 ≤ (σ 67 k).toInt ∧ (σ 67 k).toInt ≤ 3) := id hI104
  obtain ⟨i36, w37⟩ : (0 ≤ (σ 55 15).toInt ∧ (σ 55 15).toInt ≤ 80) ∧ (∀ k : Nat, k < 2 → (-1) ≤ (σ 65 k).toInt ∧ (σ 65 k).toInt ≤ 80) := id hI105
  obtain ⟨i38, w39, w40, w41⟩ : (0 ≤ (σ 55 32).toInt ∧ (σ 55 32).toInt ≤ 20) ∧ (∀ k : Nat, k < 20 → 0 ≤ (σ 70 k).toInt ∧ (σ 70 k).toInt ≤ 6) ∧ (∀ k : Nat, k < 20 → 0 ≤ (σ 71 k).toInt ∧ (σ 71 k).toInt ≤ 8) ∧ (∀ k : Nat, k < 160 → 0 ≤ (σ 72 k).toInt ∧ (σ 72 k).toInt ≤ 3) := id hI106
  obtain ⟨i42, i43, w44⟩ : (0 ≤ (σ 55 47).toInt ∧ (σ 55 47).toInt ≤ 12) ∧ ((σ 55 47).toInt ≤ (σ 55 12).toInt) ∧ (∀ k : Nat, k < 12 → 0 ≤ (σ 80 k).toInt ∧ (σ 80 k).toInt ≤ 3) := id hI107
  refine lv_aload_n hx hb dL_law_1132 rfl (lv_at hl 2 rfl) ?_
  refine lv_aload_n hx hb dL_law_1133 rfl (lv_at hl 3 rfl) ?_
  refine lv_iload_n hx hb dL_law_1134 rfl (lv_at hl 0 rfl) ?_
  refine lv_iconst (v := 1) hx hb dL_law_1135 (of_decide_eq_true rfl) ?_
  have g45 := jrg (rfl : x0.toInt = x0.toInt)
  refine lv_iadd hx hb dL_law_1136 ?_
  refine lv_topi (fun x46 ex46 => ?_)
  exact by
   have tx46 : x46.toInt = x0.toInt + 1 := (jadd ex46 rfl jz_1 (by omega) (by omega)).trans (by omega)
   refine va_sld hx hb hX hbl hbA hS (jin tx46 (by omega) (by omega)) dL_law_1137 ?_
   have g47 := jrg (rfl : (xs x46.toNatClampNeg).toInt = (xs x46.toNatClampNeg).toInt)
   refine lv_aload_n hx hb dL_law_1138 rfl (lv_at hl 3 rfl) ?_
   refine lv_iload_n hx hb dL_law_1139 rfl (lv_at hl 0 rfl) ?_
   refine lv_iconst (v := 2) hx hb dL_law_1140 (of_decide_eq_true rfl) ?_
   refine lv_iadd hx hb dL_law_1141 ?_
   refine lv_topi (fun x48 ex48 => ?_)
   have tx48 : x48.toInt = x0.toInt + 2 := (jadd ex48 rfl jz_2 (by omega) (by omega)).trans (by omega)
   exact by
    refine va_sld hx hb hX hbl hbA hS (jin tx48 (by omega) (by omega)) dL_law_1142 ?_
    have g49 := jrg (rfl : (xs x48.toNatClampNeg).toInt = (xs x48.toNatClampNeg).toInt)
    refine lv_aload_n hx hb dL_law_1143 rfl (lv_at hl 3 rfl) ?_
    refine lv_iload_n hx hb dL_law_1144 rfl (lv_at hl 0 rfl) ?_
    refine lv_iconst (v := 3) hx hb dL_law_1145 (of_decide_eq_true rfl) ?_
    refine lv_iadd hx hb dL_law_1146 ?_
    refine lv_topi (fun x50 ex50 => ?_)
    have tx50 : x50.toInt = x0.toInt + 3 := (jadd ex50 rfl jz_3 (by omega) (by omega)).trans (by omega)
    refine va_sld hx hb hX hbl hbA hS (jin tx50 (by omega) (by omega)) dL_law_1147 ?_
    exact by
     have g51 := jrg (rfl : (xs x50.toNatClampNeg).toInt = (xs x50.toNatClampNeg).toInt)
     refine lv_i2l (v := (xs x50.toNatClampNeg).toInt64) hx hb dL_law_1148 rfl ?_
     refine lv_bipush (v := 32) hx hb dL_law_1149 (of_decide_eq_true rfl) ?_
     refine lv_lshl hx hb dL_law_1151 rfl ?_
     refine lv_topl (fun lx52 elx52 => ?_)
     refine lv_aload_n hx hb dL_law_1152 rfl (lv_at hl 3 rfl) ?_
     refine lv_iload_n hx hb dL_law_1153 rfl (lv_at hl 0 rfl) ?_
     refine lv_iconst (v := 4) hx hb dL_law_1154 (of_decide_eq_true rfl) ?_
     refine lv_iadd hx hb dL_law_1155 ?_
     refine lv_topi (fun x53 ex53 => ?_)
     exact by
      have tx53 : x53.toInt = x0.toInt + 4 := (jadd ex53 rfl jz_4 (by omega) (by omega)).trans (by omega)
      refine va_sld hx hb hX hbl hbA hS (jin tx53 (by omega) (by omega)) dL_law_1156 ?_
      have g54 := jrg (rfl : (xs x53.toNatClampNeg).toInt = (xs x53.toNatClampNeg).toInt)
      refine lv_i2l (v := (xs x53.toNatClampNeg).toInt64) hx hb dL_law_1157 rfl ?_
      refine lv_ldc2 (v := 4294967295) hx hb hown (hts _ kw_1_6) dL_law_1158 ?_
      refine lv_land hx hb dL_law_1161 ?_
      refine lv_topl (fun lx55 elx55 => ?_)
      refine lv_lor hx hb dL_law_1162 ?_
      refine lv_topl (fun lx56 elx56 => ?_)
      exact by
       refine jcallV (As := [.int (xs x46.toNatClampNeg), .int (xs x48.toNatClampNeg), .long lx56]) (rest := []) ⟨hx, hb, hml, hown, hts⟩ hK hP hA hS hZ (c_X11_put l D cI cL ad zz hJ σ τ (xs x46.toNatClampNeg) ((xs x46.toNatClampNeg).toInt) rfl (xs x48.toNatClampNeg) ((xs x48.toNatClampNeg).toInt) rfl lx56 (lx56.toInt) rfl hI50) cw_RL_147 (jc_0 cI cL ad σ τ) rfl ⟨Nat.le_of_ble_eq_true rfl, Nat.le_of_ble_eq_true rfl⟩ rfl rfl rfl hl.1 rfl (Nat.le_of_ble_eq_true rfl) dL_law_1163 ⟨Nat.le_of_ble_eq_true rfl, Nat.le_of_ble_eq_true rfl⟩ (fun r58 σ57 τ57 H locs h57 hP hS => ?_)
       obtain ⟨f62, f59, w60, w61, h57⟩ := h57
       refine lv_pop hx hb dL_law_1166 rfl ?_
       refine lv_aload_n hx hb dL_law_1167 rfl (lv_at hl 1 rfl) ?_
       refine lv_aload_n hx hb dL_law_1168 rfl (lv_at hl 3 rfl) ?_
       refine lv_iload_n hx hb dL_law_1169 rfl (lv_at hl 0 rfl) ?_
       refine lv_iconst (v := 1) hx hb dL_law_1170 (of_decide_eq_true rfl) ?_
       refine lv_iadd hx hb dL_law_1171 ?_
       refine jtopr ex46.symm ?_
       exact by
        refine va_sld hx hb hX hbl hbA hS (jin tx46 (by omega) (by omega)) dL_law_1172 ?_
        refine lv_aload_n hx hb dL_law_1173 rfl (lv_at hl 3 rfl) ?_
        refine lv_iload_n hx hb dL_law_1174 rfl (lv_at hl 0 rfl) ?_
        refine lv_iconst (v := 2) hx hb dL_law_1175 (of_decide_eq_true rfl) ?_
        refine lv_iadd hx hb dL_law_1176 ?_
        refine jtopr ex48.symm ?_
        refine va_sld hx hb hX hbl hbA hS (jin tx48 (by omega) (by omega)) dL_law_1177 ?_
        refine lv_aload_n hx hb dL_law_1178 rfl (lv_at hl 3 rfl) ?_
        refine lv_iload_n hx hb dL_law_1179 rfl (lv_at hl 0 rfl) ?_
        exact by
         refine lv_iconst (v := 3) hx hb dL_law_1180 (of_decide_eq_true rfl) ?_
         refine lv_iadd hx hb dL_law_1181 ?_
         refine jtopr ex50.symm ?_
         refine va_sld hx hb hX hbl hbA hS (jin tx50 (by omega) (by omega)) dL_law_1182 ?_
         refine lv_i2l (v := (xs x50.toNatClampNeg).toInt64) hx hb dL_law_1183 rfl ?_
         refine lv_bipush (v := 32) hx hb dL_law_1184 (of_decide_eq_true rfl) ?_
         refine lv_lshl hx hb dL_law_1186 rfl ?_
         refine lv_topl (fun lx63 elx63 => ?_)
         refine lv_aload_n hx hb dL_law_1187 rfl (lv_at hl 3 rfl) ?_
         exact by
          refine lv_iload_n hx hb dL_law_1188 rfl (lv_at hl 0 rfl) ?_
          refine lv_iconst (v := 4) hx hb dL_law_1189 (of_decide_eq_true rfl) ?_
          refine lv_iadd hx hb dL_law_1190 ?_
          refine jtopr ex53.symm ?_
          refine va_sld hx hb hX hbl hbA hS (jin tx53 (by omega) (by omega)) dL_law_1191 ?_
          refine lv_i2l (v := (xs x53.toNatClampNeg).toInt64) hx hb dL_law_1192 rfl ?_
          refine lv_ldc2 (v := 4294967295) hx hb hown (hts _ kw_1_6) dL_law_1193 ?_
          refine lv_land hx hb dL_law_1196 ?_
          refine lv_topl (fun lx64 elx64 => ?_)
          exact by
           refine lv_lor hx hb dL_law_1197 ?_
           refine lv_topl (fun lx65 elx65 => ?_)
           have I66 : jI110 σ57 := jI110_fr (f59 86 (of_decide_eq_true rfl)) (f59 87 (of_decide_eq_true rfl)) hI110
           refine jcallV (As := [.int (xs x46.toNatClampNeg), .int (xs x48.toNatClampNeg), .long lx65]) (rest := []) ⟨hx, hb, hml, hown, hts⟩ hK hP hA hS hZ (c_X12_put l D cI cL ad zz hJ σ57 τ57 (xs x46.toNatClampNeg) ((xs x46.toNatClampNeg).toInt) rfl (xs x48.toNatClampNeg) ((xs x48.toNatClampNeg).toInt) rfl lx65 (lx65.toInt) rfl I66) cw_RL_151 (jc_55 cI cL ad σ57 τ57) rfl ⟨Nat.le_of_ble_eq_true rfl, Nat.le_of_ble_eq_true rfl⟩ rfl rfl rfl hl.1 rfl (Nat.le_of_ble_eq_true rfl) dL_law_1198 ⟨Nat.le_of_ble_eq_true rfl, Nat.le_of_ble_eq_true rfl⟩ (fun r68 σ67 τ67 H locs h67 hP hS => ?_)
           obtain ⟨f72, f69, w70, w71, h67⟩ := h67
           refine lv_pop hx hb dL_law_1201 rfl ?_
           refine lv_goto (tgt := 1357) hx hb dL_law_1202 (of_decide_eq_true rfl) ?_
           obtain ⟨x73, ex73⟩ : ∃ y : Int32, y = x0 + 6 := ⟨_, rfl⟩
           have tx73 : x73.toInt = x0.toInt + 6 := (jadd ex73 rfl jz_6 (by omega) (by omega)).trans (by omega)
           exact by
            refine lv_iinc (v := x73) (lv' := [(3, .int x73), (2, .ref (ad 55)), (1, .ref (ad 0)), (0, .ref b)]) hx hb dL_law_1357 hl (k := 0) rfl (by rw [ex73]; rfl) (of_decide_eq_true rfl) rfl (fun ls hl => ?_)
            refine lv_goto (tgt := 18) hx hb dL_law_1360 (of_decide_eq_true rfl) ?_
            have I74 : jI2 σ67 := jI2_fr ((congrFun (f69 2 (of_decide_eq_true rfl)) 0).trans (congrFun (f59 2 (of_decide_eq_true rfl)) 0)) ((congrFun (f69 2 (of_decide_eq_true rfl)) 1).trans (congrFun (f59 2 (of_decide_eq_true rfl)) 1)) ((congrFun (f69 2 (of_decide_eq_true rfl)) 2).trans (congrFun (f59 2 (of_decide_eq_true rfl)) 2)) ((congrFun (f69 2 (of_decide_eq_true rfl)) 3).trans (congrFun (f59 2 (of_decide_eq_true rfl)) 3)) ((f69 6 (of_decide_eq_true rfl)).trans (f59 6 (of_decide_eq_true rfl))) hI2
            have I75 : jI9 σ67 := jI9_fr ((congrFun (f69 9 (of_decide_eq_true rfl)) 0).trans (congrFun (f59 9 (of_decide_eq_true rfl)) 0)) ((f69 10 (of_decide_eq_true rfl)).trans (f59 10 (of_decide_eq_true rfl))) ((f69 11 (of_decide_eq_true rfl)).trans (f59 11 (of_decide_eq_true rfl))) hI9
            have I76 : jI12 σ67 := jI12_fr ((congrFun (f69 12 (of_decide_eq_true rfl)) 0).trans (congrFun (f59 12 (of_decide_eq_true rfl)) 0)) ((f69 13 (of_decide_eq_true rfl)).trans (f59 13 (of_decide_eq_true rfl))) hI12
            have I77 : jI16 σ67 := jI16_fr ((congrFun (f69 16 (of_decide_eq_true rfl)) 0).trans (congrFun (f59 16 (of_decide_eq_true rfl)) 0)) ((congrFun (f69 16 (of_decide_eq_true rfl)) 1).trans (congrFun (f59 16 (of_decide_eq_true rfl)) 1)) ((congrFun (f69 16 (of_decide_eq_true rfl)) 2).trans (congrFun (f59 16 (of_decide_eq_true rfl)) 2)) ((f69 17 (of_decide_eq_true rfl)).trans (f59 17 (of_decide_eq_true rfl))) hI16
            have I78 : jI18 σ67 := jI18_fr ((congrFun (f69 18 (of_decide_eq_true rfl)) 0).trans (congrFun (f59 18 (of_decide_eq_true rfl)) 0)) ((f69 19 (of_decide_eq_true rfl)).trans (f59 19 (of_decide_eq_true rfl))) hI18
            have I79 : jI22 σ67 := jI22_fr ((congrFun (f69 22 (of_decide_eq_true rfl)) 0).trans (congrFun (f59 22 (of_decide_eq_true rfl)) 0)) ((f69 23 (of_decide_eq_true rfl)).trans (f59 23 (of_decide_eq_true rfl))) hI22
            have I80 : jI31 σ67 := jI31_fr ((congrFun (f69 31 (of_decide_eq_true rfl)) 8).trans (congrFun (f59 31 (of_decide_eq_true rfl)) 8)) ((f69 33 (of_decide_eq_true rfl)).trans (f59 33 (of_decide_eq_true rfl))) ((f69 36 (of_decide_eq_true rfl)).trans (f59 36 (of_decide_eq_true rfl))) hI31
            have I81 : jI38 σ67 := jI38_fr ((congrFun (f69 38 (of_decide_eq_true rfl)) 0).trans (congrFun (f59 38 (of_decide_eq_true rfl)) 0)) ((congrFun (f69 38 (of_decide_eq_true rfl)) 1).trans (congrFun (f59 38 (of_decide_eq_true rfl)) 1)) ((f69 39 (of_decide_eq_true rfl)).trans (f59 39 (of_decide_eq_true rfl))) hI38
            have I82 : jI43 σ67 := jI43_fr ((congrFun (f69 43 (of_decide_eq_true rfl)) 8).trans (congrFun (f59 43 (of_decide_eq_true rfl)) 8)) hI43
            have I83 : jI47 σ67 := jI47_fr ((congrFun (f69 47 (of_decide_eq_true rfl)) 0).trans (congrFun (f59 47 (of_decide_eq_true rfl)) 0)) ((f69 48 (of_decide_eq_true rfl)).trans (f59 48 (of_decide_eq_true rfl))) ((f69 49 (of_decide_eq_true rfl)).trans (f59 49 (of_decide_eq_true rfl))) hI47
            have I84 : jI50 σ67 := jI50_fr ((f69 52 (of_decide_eq_true rfl)).trans (f59 52 (of_decide_eq_true rfl))) hI50
            have I85 : jI101 σ67 := jI101_fr ((congrFun (f69 55 (of_decide_eq_true rfl)) 4).trans (congrFun (f59 55 (of_decide_eq_true rfl)) 4)) ((congrFun (f69 55 (of_decide_eq_true rfl)) 5).trans (congrFun (f59 55 (of_decide_eq_true rfl)) 5)) ((f69 56 (of_decide_eq_true rfl)).trans (f59 56 (of_decide_eq_true rfl))) ((f69 57 (of_decide_eq_true rfl)).trans (f59 57 (of_decide_eq_true rfl))) ((f69 58 (of_decide_eq_true rfl)).trans (f59 58 (of_decide_eq_true rfl))) ((f69 59 (of_decide_eq_true rfl)).trans (f59 59 (of_decide_eq_true rfl))) hI101
            have I86 : jI102 σ67 := jI102_fr ((congrFun (f69 55 (of_decide_eq_true rfl)) 6).trans (congrFun (f59 55 (of_decide_eq_true rfl)) 6)) ((f69 60 (of_decide_eq_true rfl)).trans (f59 60 (of_decide_eq_true rfl))) ((f69 61 (of_decide_eq_true rfl)).trans (f59 61 (of_decide_eq_true rfl))) hI102
            have I87 : jI103 σ67 := jI103_fr ((congrFun (f69 55 (of_decide_eq_true rfl)) 9).trans (congrFun (f59 55 (of_decide_eq_true rfl)) 9)) hI103
            have I88 : jI104 σ67 := jI104_fr ((congrFun (f69 55 (of_decide_eq_true rfl)) 10).trans (congrFun (f59 55 (of_decide_eq_true rfl)) 10)) ((congrFun (f69 55 (of_decide_eq_true rfl)) 12).trans (congrFun (f59 55 (of_decide_eq_true rfl)) 12)) ((congrFun (f69 55 (of_decide_eq_true rfl)) 13).trans (congrFun (f59 55 (of_decide_eq_true rfl)) 13)) ((f69 62 (of_decide_eq_true rfl)).trans (f59 62 (of_decide_eq_true rfl))) ((f69 67 (of_decide_eq_true rfl)).trans (f59 67 (of_decide_eq_true rfl))) hI104
            have I89 : jI105 σ67 := jI105_fr ((congrFun (f69 55 (of_decide_eq_true rfl)) 15).trans (congrFun (f59 55 (of_decide_eq_true rfl)) 15)) ((f69 65 (of_decide_eq_true rfl)).trans (f59 65 (of_decide_eq_true rfl))) hI105
            have I90 : jI106 σ67 := jI106_fr ((congrFun (f69 55 (of_decide_eq_true rfl)) 32).trans (congrFun (f59 55 (of_decide_eq_true rfl)) 32)) ((f69 70 (of_decide_eq_true rfl)).trans (f59 70 (of_decide_eq_true rfl))) ((f69 71 (of_decide_eq_true rfl)).trans (f59 71 (of_decide_eq_true rfl))) ((f69 72 (of_decide_eq_true rfl)).trans (f59 72 (of_decide_eq_true rfl))) hI106
            have I91 : jI107 σ67 := jI107_fr ((congrFun (f69 55 (of_decide_eq_true rfl)) 12).trans (congrFun (f59 55 (of_decide_eq_true rfl)) 12)) ((congrFun (f69 55 (of_decide_eq_true rfl)) 47).trans (congrFun (f59 55 (of_decide_eq_true rfl)) 47)) ((f69 80 (of_decide_eq_true rfl)).trans (f59 80 (of_decide_eq_true rfl))) hI107
            have I92 : jI109 σ67 := jI109_fr ((congrFun (f69 55 (of_decide_eq_true rfl)) 50).trans (congrFun (f59 55 (of_decide_eq_true rfl)) 50)) hI109
            have I93 : jI110 σ67 := jI110_fr (f69 86 (of_decide_eq_true rfl)) (f69 87 (of_decide_eq_true rfl)) I66
            have I94 : jI111 σ67 := jI111_fr ((f69 79 (of_decide_eq_true rfl)).trans (f59 79 (of_decide_eq_true rfl))) hI111
            have I95 : jI119 σ67 := jI119_fr ((f69 68 (of_decide_eq_true rfl)).trans (f59 68 (of_decide_eq_true rfl))) hI119
            have p96 : jKept σ67 := jKept.fr ((f69 75 (of_decide_eq_true rfl)).trans (f59 75 (of_decide_eq_true rfl))) ((f69 76 (of_decide_eq_true rfl)).trans (f59 76 (of_decide_eq_true rfl))) ((f69 77 (of_decide_eq_true rfl)).trans (f59 77 (of_decide_eq_true rfl))) hs_jKept
            have p97 : jBook σ67 := jBook.fr ((congrFun (f69 55 (of_decide_eq_true rfl)) 47).trans (congrFun (f59 55 (of_decide_eq_true rfl)) 47)) ((congrFun (f69 55 (of_decide_eq_true rfl)) 10).trans (congrFun (f59 55 (of_decide_eq_true rfl)) 10)) ((f69 81 (of_decide_eq_true rfl)).trans (f59 81 (of_decide_eq_true rfl))) hs_jBook
            have z98 : (σ67 2 0).toInt = (σ 2 0).toInt := (congrArg Int32.toInt (show σ67 2 0 = (σ 2 0) from ((congrFun (f69 2 (of_decide_eq_true rfl)) 0).trans (congrFun (f59 2 (of_decide_eq_true rfl)) 0))))
            have z99 : (σ67 55 6).toInt = (σ 55 6).toInt := (congrArg Int32.toInt (show σ67 55 6 = (σ 55 6) from ((congrFun (f69 55 (of_decide_eq_true rfl)) 6).trans (congrFun (f59 55 (of_decide_eq_true rfl)) 6))))
            have z100 : (σ67 2 2).toInt = (σ 2 2).toInt := (congrArg Int32.toInt (show σ67 2 2 = (σ 2 2) from ((congrFun (f69 2 (of_decide_eq_true rfl)) 2).trans (congrFun (f59 2 (of_decide_eq_true rfl)) 2))))
            have z101 : (σ67 55 5).toInt = (σ 55 5).toInt := (congrArg Int32.toInt (show σ67 55 5 = (σ 55 5) from ((congrFun (f69 55 (of_decide_eq_true rfl)) 5).trans (congrFun (f59 55 (of_decide_eq_true rfl)) 5))))
            have z102 : (σ67 2 3).toInt = (σ 2 3).toInt := (congrArg Int32.toInt (show σ67 2 3 = (σ 2 3) from ((congrFun (f69 2 (of_decide_eq_true rfl)) 3).trans (congrFun (f59 2 (of_decide_eq_true rfl)) 3))))
            have z103 : (σ67 55 4).toInt = (σ 55 4).toInt := (congrArg Int32.toInt (show σ67 55 4 = (σ 55 4) from ((congrFun (f69 55 (of_decide_eq_true rfl)) 4).trans (congrFun (f59 55 (of_decide_eq_true rfl)) 4))))
            have z104 : (σ67 9 0).toInt = (σ 9 0).toInt := (congrArg Int32.toInt (show σ67 9 0 = (σ 9 0) from ((congrFun (f69 9 (of_decide_eq_true rfl)) 0).trans (congrFun (f59 9 (of_decide_eq_true rfl)) 0))))
            have z105 : (σ67 55 15).toInt = (σ 55 15).toInt := (congrArg Int32.toInt (show σ67 55 15 = (σ 55 15) from ((congrFun (f69 55 (of_decide_eq_true rfl)) 15).trans (congrFun (f59 55 (of_decide_eq_true rfl)) 15))))
            have z106 : (σ67 16 0).toInt = (σ 16 0).toInt := (congrArg Int32.toInt (show σ67 16 0 = (σ 16 0) from ((congrFun (f69 16 (of_decide_eq_true rfl)) 0).trans (congrFun (f59 16 (of_decide_eq_true rfl)) 0))))
            have z107 : (σ67 55 10).toInt = (σ 55 10).toInt := (congrArg Int32.toInt (show σ67 55 10 = (σ 55 10) from ((congrFun (f69 55 (of_decide_eq_true rfl)) 10).trans (congrFun (f59 55 (of_decide_eq_true rfl)) 10))))
            have z108 : (σ67 16 1).toInt = (σ 16 1).toInt := (congrArg Int32.toInt (show σ67 16 1 = (σ 16 1) from ((congrFun (f69 16 (of_decide_eq_true rfl)) 1).trans (congrFun (f59 16 (of_decide_eq_true rfl)) 1))))
            have z109 : (σ67 55 12).toInt = (σ 55 12).toInt := (congrArg Int32.toInt (show σ67 55 12 = (σ 55 12) from ((congrFun (f69 55 (of_decide_eq_true rfl)) 12).trans (congrFun (f59 55 (of_decide_eq_true rfl)) 12))))
            have z110 : (σ67 16 2).toInt = (σ 16 2).toInt := (congrArg Int32.toInt (show σ67 16 2 = (σ 16 2) from ((congrFun (f69 16 (of_decide_eq_true rfl)) 2).trans (congrFun (f59 16 (of_decide_eq_true rfl)) 2))))
            have z111 : (σ67 55 13).toInt = (σ 55 13).toInt := (congrArg Int32.toInt (show σ67 55 13 = (σ 55 13) from ((congrFun (f69 55 (of_decide_eq_true rfl)) 13).trans (congrFun (f59 55 (of_decide_eq_true rfl)) 13))))
            have z112 : (σ67 38 0).toInt = (σ 38 0).toInt := (congrArg Int32.toInt (show σ67 38 0 = (σ 38 0) from ((congrFun (f69 38 (of_decide_eq_true rfl)) 0).trans (congrFun (f59 38 (of_decide_eq_true rfl)) 0))))
            have z113 : (σ67 55 32).toInt = (σ 55 32).toInt := (congrArg Int32.toInt (show σ67 55 32 = (σ 55 32) from ((congrFun (f69 55 (of_decide_eq_true rfl)) 32).trans (congrFun (f59 55 (of_decide_eq_true rfl)) 32))))
            have z114 : (σ67 38 1).toInt = (σ 38 1).toInt := (congrArg Int32.toInt (show σ67 38 1 = (σ 38 1) from ((congrFun (f69 38 (of_decide_eq_true rfl)) 1).trans (congrFun (f59 38 (of_decide_eq_true rfl)) 1))))
            have z115 : (σ67 55 55).toInt = (σ 55 55).toInt := (congrArg Int32.toInt (show σ67 55 55 = (σ 55 55) from ((congrFun (f69 55 (of_decide_eq_true rfl)) 55).trans (congrFun (f59 55 (of_decide_eq_true rfl)) 55))))
            have z116 : (σ67 47 0).toInt = (σ 47 0).toInt := (congrArg Int32.toInt (show σ67 47 0 = (σ 47 0) from ((congrFun (f69 47 (of_decide_eq_true rfl)) 0).trans (congrFun (f59 47 (of_decide_eq_true rfl)) 0))))
            have z117 : (σ67 55 47).toInt = (σ 55 47).toInt := (congrArg Int32.toInt (show σ67 55 47 = (σ 55 47) from ((congrFun (f69 55 (of_decide_eq_true rfl)) 47).trans (congrFun (f59 55 (of_decide_eq_true rfl)) 47))))
            have z118 : (σ67 55 30).toInt = (σ 55 30).toInt := (congrArg Int32.toInt (show σ67 55 30 = (σ 55 30) from ((congrFun (f69 55 (of_decide_eq_true rfl)) 30).trans (congrFun (f59 55 (of_decide_eq_true rfl)) 30))))
            have z119 : (σ67 55 31).toInt = (σ 55 31).toInt := (congrArg Int32.toInt (show σ67 55 31 = (σ 55 31) from ((congrFun (f69 55 (of_decide_eq_true rfl)) 31).trans (congrFun (f59 55 (of_decide_eq_true rfl)) 31))))
            rw [show τ57 88 = τ 88 from (f62 88 (of_decide_eq_true rfl))] at w71
            have s121 := w70
            rw [show σ57 86 = σ 86 from (f59 86 (of_decide_eq_true rfl)), show σ57 87 = σ 87 from (f59 87 (of_decide_eq_true rfl))] at s121
            rw [show σ57 86 = σ 86 from (f59 86 (of_decide_eq_true rfl))] at w71
            have v122 : lx65 = lx56 := by rw [elx65, elx63, elx64, elx56, elx52, elx55]
            rw [v122] at w71
            have p120 := hr5.put w61 w71 (w60.trans (hr4.rf.trans s121.symm)) rfl (fun z => by rw [(hr4.cut w60 z).1])
            exact by exact ih x73 σ67 τ67 _ _ ls (by have h9 := tx73; omega) ⟨I74, I75, I76, I77, I78, I79, I80, I81, I82, I83, I84, I85, I86, I87, I88, I89, I90, I91, I92, I93, I94, I95, p96, p97, (by omega), (by omega), (by omega), (by omega), (by omega), (by omega), (by omega), (by omega), (by omega), (by omega), (by omega), (by omega), (show jNumP (σ67 3) (σ67 56) (σ67 6) (σ67 57) (σ67 7) (σ67 58) (σ67 8) (σ67 59) (σ67 55 6).toInt (σ67 55 4).toInt by rw [show σ67 3 = σ 3 from ((f69 3 (of_decide_eq_true rfl)).trans (f59 3 (of_decide_eq_true rfl))), show σ67 56 = σ 56 from ((f69 56 (of_decide_eq_true rfl)).trans (f59 56 (of_decide_eq_true rfl))), show σ67 6 = σ 6 from ((f69 6 (of_decide_eq_true rfl)).trans (f59 6 (of_decide_eq_true rfl))), show σ67 57 = σ 57 from ((f69 57 (of_decide_eq_true rfl)).trans (f59 57 (of_decide_eq_true rfl))), show σ67 7 = σ 7 from ((f69 7 (of_decide_eq_true rfl)).trans (f59 7 (of_decide_eq_true rfl))), show σ67 58 = σ 58 from ((f69 58 (of_decide_eq_true rfl)).trans (f59 58 (of_decide_eq_true rfl))), show σ67 8 = σ 8 from ((f69 8 (of_decide_eq_true rfl)).trans (f59 8 (of_decide_eq_true rfl))), show σ67 59 = σ 59 from ((f69 59 (of_decide_eq_true rfl)).trans (f59 59 (of_decide_eq_true rfl))), show (σ67 55 6).toInt = (σ 55 6).toInt from by omega, show (σ67 55 4).toInt = (σ 55 4).toInt from by omega]; exact hr0), (show jOvP (σ67 56) (σ67 57) (σ67 58) (σ67 59) (σ67 55 4).toInt by rw [show σ67 56 = σ 56 from ((f69 56 (of_decide_eq_true rfl)).trans (f59 56 (of_decide_eq_true rfl))), show σ67 57 = σ 57 from ((f69 57 (of_decide_eq_true rfl)).trans (f59 57 (of_decide_eq_true rfl))), show σ67 58 = σ 58 from ((f69 58 (of_decide_eq_true rfl)).trans (f59 58 (of_decide_eq_true rfl))), show σ67 59 = σ 59 from ((f69 59 (of_decide_eq_true rfl)).trans (f59 59 (of_decide_eq_true rfl))), show (σ67 55 4).toInt = (σ 55 4).toInt from by omega]; exact hr1), (show jTp (σ67 10) (σ67 63) (σ67 55 15).toInt by rw [show σ67 10 = σ 10 from ((f69 10 (of_decide_eq_true rfl)).trans (f59 10 (of_decide_eq_true rfl))), show σ67 63 = σ 63 from ((f69 63 (of_decide_eq_true rfl)).trans (f59 63 (of_decide_eq_true rfl)))]; exact hr2.le (by omega)), (show jSo (σ67 17) (σ67 62) (σ67 16 0).toInt by rw [show σ67 17 = σ 17 from ((f69 17 (of_decide_eq_true rfl)).trans (f59 17 (of_decide_eq_true rfl))), show σ67 62 = σ 62 from ((f69 62 (of_decide_eq_true rfl)).trans (f59 62 (of_decide_eq_true rfl))), show (σ67 16 0).toInt = (σ 16 0).toInt from by omega]; exact hr3), (show jShP (σ67 51) (σ67 52) (σ67 53) (σ67 86) (σ67 87) (σ67 55 32).toInt by rw [show σ67 51 = σ 51 from ((f69 51 (of_decide_eq_true rfl)).trans (f59 51 (of_decide_eq_true rfl))), show σ67 52 = σ 52 from ((f69 52 (of_decide_eq_true rfl)).trans (f59 52 (of_decide_eq_true rfl))), show σ67 53 = σ 53 from ((f69 53 (of_decide_eq_true rfl)).trans (f59 53 (of_decide_eq_true rfl))), show σ67 86 = σ 86 from ((f69 86 (of_decide_eq_true rfl)).trans (f59 86 (of_decide_eq_true rfl))), show σ67 87 = σ 87 from ((f69 87 (of_decide_eq_true rfl)).trans (f59 87 (of_decide_eq_true rfl)))]; exact (hr4.up (by omega) (by omega))), (show jEl (σ67 51) (σ67 52) (τ67 54) (τ67 88) by rw [show σ67 51 = σ 51 from ((f69 51 (of_decide_eq_true rfl)).trans (f59 51 (of_decide_eq_true rfl))), show σ67 52 = σ 52 from ((f69 52 (of_decide_eq_true rfl)).trans (f59 52 (of_decide_eq_true rfl))), show τ67 54 = τ57 54 from (f72 54 (of_decide_eq_true rfl))]; exact p120), (show jByP (σ67 51) (σ67 52) (τ67 54) by rw [show σ67 51 = σ 51 from ((f69 51 (of_decide_eq_true rfl)).trans (f59 51 (of_decide_eq_true rfl))), show σ67 52 = σ 52 from ((f69 52 (of_decide_eq_true rfl)).trans (f59 52 (of_decide_eq_true rfl))), show τ67 54 = τ57 54 from (f72 54 (of_decide_eq_true rfl))]; exact (hr6.put (d := (xs x46.toNatClampNeg).toInt) (i := (xs x48.toNatClampNeg).toInt) w20 w61 rfl (fun z => by
              have w := hr4.cut w60 z
              rw [jnc (rfl : (xs x46.toNatClampNeg).toInt = (xs x46.toNatClampNeg).toInt)] at w
              exact ⟨w.2.1, w.2.2.1, w.2.2.2.1, by rw [jnc (rfl : (xs x46.toNatClampNeg).toInt = (xs x46.toNatClampNeg).toInt)]⟩))), (show jBk (σ67 48) (σ67 80) (σ67 49) (σ67 81) (σ67 55 47).toInt by rw [show σ67 48 = σ 48 from ((f69 48 (of_decide_eq_true rfl)).trans (f59 48 (of_decide_eq_true rfl))), show σ67 49 = σ 49 from ((f69 49 (of_decide_eq_true rfl)).trans (f59 49 (of_decide_eq_true rfl))), show σ67 80 = σ 80 from ((f69 80 (of_decide_eq_true rfl)).trans (f59 80 (of_decide_eq_true rfl))), show σ67 81 = σ 81 from ((f69 81 (of_decide_eq_true rfl)).trans (f59 81 (of_decide_eq_true rfl))), show (σ67 55 47).toInt = (σ 55 47).toInt from by omega]; exact hr7), (show jKd (σ67 39) (σ67 70) (σ67 55 32).toInt by rw [show σ67 39 = σ 39 from ((f69 39 (of_decide_eq_true rfl)).trans (f59 39 (of_decide_eq_true rfl))), show σ67 70 = σ 70 from ((f69 70 (of_decide_eq_true rfl)).trans (f59 70 (of_decide_eq_true rfl))), show (σ67 55 32).toInt = (σ 55 32).toInt from by omega]; exact hr8), (show jTt (σ67 42) (σ67 85) (σ67 55 55).toInt by rw [show σ67 42 = σ 42 from ((f69 42 (of_decide_eq_true rfl)).trans (f59 42 (of_decide_eq_true rfl))), show σ67 85 = σ 85 from ((f69 85 (of_decide_eq_true rfl)).trans (f59 85 (of_decide_eq_true rfl))), show (σ67 55 55).toInt = (σ 55 55).toInt from by omega]; exact hr9)⟩ hP hS (lv_sub hl [0, 1, 2, 3] rfl)
set_option maxHeartbeats 4000000 in
set_option maxRecDepth 100000 in
theorem law_case_33 {p : Program} {e : Env} {s : State} {m : MethodId} {below : List Frame} {meth : Method} {c : Code} (l : Launch) {b L : Nat} {xs : Nat → Int32} {D : va_G} {cI cL : ClassId} {ad zz : Nat → Nat} (C0 : lw_At p s m meth c b L xs) (hJ : jD ad) (hA : ∀ q, jA ad q → s.heap.size ≤ q) (hK : jK D cI cL s) (hZ : jZ zz (fun q : Nat => s.heap.size ≤ q) s s.heap) {x0 : Int32} (hx0 : 0 ≤ x0.toInt) (hxL : x0.toInt + 6 ≤ (L : Int)) (hL : L ≤ 384) {σ : Nat → Nat → Int32} {τ : Nat → Nat → Int64} {H : Heap} {locs : List Loc} (hS : va_S (fun q : Nat => s.heap.size ≤ q) s.heap H locs) {ls : Array Slot} (hAll : jAll σ τ) (hP : jH D cI cL ad σ τ H) (hl : lv_has ls 4 [(3, .int x0), (2, .ref (ad 55)), (1, .ref (ad 0)), (0, .ref b)]) (ih : ∀ (x1 : Int32) (σ : Nat → Nat → Int32) (τ : Nat → Nat → Int64) (H : Heap) (locs : List Loc) (ls : Array Slot), x1.toInt = x0.toInt + 6 → jAll σ τ → jH D cI cL ad σ τ H → va_S (fun q : Nat => s.heap.size ≤ q) s.heap H locs → lv_has ls 4 [(3, .int x1), (2, .ref (ad 55)), (1, .ref (ad 0)), (0, .ref b)] → W p l e room_1 s m #[Value.ref b] below meth c H locs 90 348600 (lw_Z below #[Value.ref b] s) (F0 m 18 ls [])) : W p l e room_1 s m #[Value.ref b] below meth c H locs 90 348600 (lw_Z below #[Value.ref b] s) (F0 m 1205 ls []) := by
  obtain ⟨hx, hb, hr, hml, hown, hts0, hX, hbl, hlocks, hgv⟩ := C0
  have hts : ∀ w ∈ wsL_law, w.before #[Value.ref b] s = true := fun w h => hts0 w (wsL_law_in w h)
  have hbA : ¬ (fun q : Nat => s.heap.size ≤ q) b := Nat.not_le.mpr hbl
  have hown : s.vm.findClass RL = some m.cls := hown
  obtain ⟨hI2, hI9, hI12, hI16, hI18, hI22, hI31, hI38, hI43, hI47, hI50, hI101, hI102, hI103, hI104, hI105, hI106, hI107, hI109, hI110, hI111, hI119, hs_jKept, hs_jBook, ht0, ht1, ht2, ht3, ht4, ht5, ht6, ht7, ht8, ht9, ht10, ht11, hr0, hr1, hr2, hr3, hr4, hr5, hr6, hr7, hr8, hr9⟩ := hAll
  have hL9 : (L : Int) ≤ 384 := by omega
  obtain ⟨i1, i2, i3, i4, i5, w6⟩ : (0 ≤ (σ 2 0).toInt ∧ (σ 2 0).toInt ≤ 4) ∧ (0 ≤ (σ 2 1).toInt ∧ (σ 2 1).toInt ≤ 3) ∧ (0 ≤ (σ 2 2).toInt) ∧ (0 ≤ (σ 2 3).toInt) ∧ ((σ 2 2).toInt + (σ 2 3).toInt ≤ 40) ∧ (∀ k : Nat, k < 40 → 0 ≤ (σ 6 k).toInt ∧ (σ 6 k).toInt ≤ 67) := id hI2
  obtain ⟨i7, w8, w9⟩ : (0 ≤ (σ 9 0).toInt ∧ (σ 9 0).toInt ≤ 80) ∧ (∀ k : Nat, k < 80 → 0 ≤ (σ 10 k).toInt ∧ (σ 10 k).toInt ≤ 255) ∧ (∀ k : Nat, k < 8 → 0 ≤ (σ 11 k).toInt ∧ (σ 11 k).toInt ≤ 3) := id hI9
  obtain ⟨i10, i11, i12, w13⟩ : (1 ≤ (σ 16 0).toInt ∧ (σ 16 0).toInt ≤ 8) ∧ (1 ≤ (σ 16 1).toInt ∧ (σ 16 1).toInt ≤ 12) ∧ (0 ≤ (σ 16 2).toInt ∧ (σ 16 2).toInt ≤ 999) ∧ (∀ k : Nat, k < 8 → 0 ≤ (σ 17 k).toInt ∧ (σ 17 k).toInt ≤ 3) := id hI16
  obtain ⟨i14, i15, w16⟩ : (0 ≤ (σ 38 0).toInt ∧ (σ 38 0).toInt ≤ 20) ∧ (0 ≤ (σ 38 1).toInt ∧ (σ 38 1).toInt ≤ 1000) ∧ (∀ k : Nat, k < 20 → 0 ≤ (σ 39 k).toInt ∧ (σ 39 k).toInt ≤ 6) := id hI38
  obtain ⟨i17, w18, w19⟩ : (0 ≤ (σ 47 0).toInt ∧ (σ 47 0).toInt ≤ 12) ∧ (∀ k : Nat, k < 12 → 0 ≤ (σ 48 k).toInt ∧ (σ 48 k).toInt ≤ 3) ∧ (∀ k : Nat, k < 12 → 0 ≤ (σ 49 k).toInt ∧ (σ 49 k).toInt ≤ 1) := id hI47
  have w20 : ∀ k : Nat, k < 6 → 0 ≤ (σ 52 k).toInt ∧ (σ 52 k).toInt ≤ 60 := hI50
  obtain ⟨i21, i22, i23, w24, w25, w26, w27⟩ : (0 ≤ (σ 55 5).toInt) ∧ ((σ 55 5).toInt ≤ (σ 55 4).toInt) ∧ ((σ 55 4).toInt ≤ 40) ∧ (∀ k : Nat, k < 68 → (-200) ≤ (σ 56 k).toInt ∧ (σ 56 k).toInt ≤ 500) ∧ (∀ k : Nat, k < 40 → 0 ≤ (σ 57 k).toInt ∧ (σ 57 k).toInt ≤ 67) ∧ (∀ k : Nat, k < 40 → (-200) ≤ (σ 58 k).toInt ∧ (σ 58 k).toInt ≤ 500) ∧ (∀ k : Nat, k < 40 → (-200) ≤ (σ 59 k).toInt ∧ (σ 59 k).toInt ≤ 500) := id hI101
  obtain ⟨i28, w29, w30⟩ : (0 ≤ (σ 55 6).toInt ∧ (σ 55 6).toInt ≤ 4) ∧ (∀ k : Nat, k < 4 → 0 ≤ (σ 60 k).toInt ∧ (σ 60 k).toInt ≤ 50) ∧ (∀ k : Nat, k < 4 → 0 ≤ (σ 61 k).toInt ∧ (σ 61 k).toInt ≤ 20) := id hI102
  obtain ⟨i31, i32, i33, w34, w35⟩ : (1 ≤ (σ 55 10).toInt ∧ (σ 55 10).toInt ≤ 8) ∧ (1 ≤ (σ 55 12).toInt ∧ (σ 55 12).toInt ≤ 12) ∧ (0 ≤ (σ 55 13).toInt ∧ (σ 55 13).toInt ≤ 999) ∧ (∀ k : Nat, k < 8 → 0 ≤ (σ 62 k).toInt ∧ (σ 62 k).toInt ≤ 3) ∧ (∀ k : Nat, k < 8 → 0 ≤ (σ 67 k).toInt ∧ (σ 67 k).toInt ≤ 3) := id hI104
  obtain ⟨i36, w37⟩ : (0 ≤ (σ 55 15).toInt ∧ (σ 55 15).toInt ≤ 80) ∧ (∀ k : Nat, k < 2 → (-1) ≤ (σ 65 k).toInt ∧ (σ 65 k).toInt ≤ 80) := id hI105
  obtain ⟨i38, w39, w40, w41⟩ : (0 ≤ (σ 55 32).toInt ∧ (σ 55 32).toInt ≤ 20) ∧ (∀ k : Nat, k < 20 → 0 ≤ (σ 70 k).toInt ∧ (σ 70 k).toInt ≤ 6) ∧ (∀ k : Nat, k < 20 → 0 ≤ (σ 71 k).toInt ∧ (σ 71 k).toInt ≤ 8) ∧ (∀ k : Nat, k < 160 → 0 ≤ (σ 72 k).toInt ∧ (σ 72 k).toInt ≤ 3) := id hI106
  obtain ⟨i42, i43, w44⟩ : (0 ≤ (σ 55 47).toInt ∧ (σ 55 47).toInt ≤ 12) ∧ ((σ 55 47).toInt ≤ (σ 55 12).toInt) ∧ (∀ k : Nat, k < 12 → 0 ≤ (σ 80 k).toInt ∧ (σ 80 k).toInt ≤ 3) := id hI107
  refine lv_aload_n hx hb dL_law_1205 rfl (lv_at hl 2 rfl) ?_
  refine lv_aload_n hx hb dL_law_1206 rfl (lv_at hl 3 rfl) ?_
  refine lv_iload_n hx hb dL_law_1207 rfl (lv_at hl 0 rfl) ?_
  refine lv_iconst (v := 1) hx hb dL_law_1208 (of_decide_eq_true rfl) ?_
  have g45 := jrg (rfl : x0.toInt = x0.toInt)
  refine lv_iadd hx hb dL_law_1209 ?_
  refine lv_topi (fun x46 ex46 => ?_)
  exact by
   have tx46 : x46.toInt = x0.toInt + 1 := (jadd ex46 rfl jz_1 (by omega) (by omega)).trans (by omega)
   refine va_sld hx hb hX hbl hbA hS (jin tx46 (by omega) (by omega)) dL_law_1210 ?_
   have g47 := jrg (rfl : (xs x46.toNatClampNeg).toInt = (xs x46.toNatClampNeg).toInt)
   refine lv_aload_n hx hb dL_law_1211 rfl (lv_at hl 3 rfl) ?_
   refine lv_iload_n hx hb dL_law_1212 rfl (lv_at hl 0 rfl) ?_
   refine lv_iconst (v := 2) hx hb dL_law_1213 (of_decide_eq_true rfl) ?_
   refine lv_iadd hx hb dL_law_1214 ?_
   refine lv_topi (fun x48 ex48 => ?_)
   have tx48 : x48.toInt = x0.toInt + 2 := (jadd ex48 rfl jz_2 (by omega) (by omega)).trans (by omega)
   exact by
    refine va_sld hx hb hX hbl hbA hS (jin tx48 (by omega) (by omega)) dL_law_1215 ?_
    have g49 := jrg (rfl : (xs x48.toNatClampNeg).toInt = (xs x48.toNatClampNeg).toInt)
    refine jcallVl (As := [.int (xs x46.toNatClampNeg), .int (xs x48.toNatClampNeg)]) (rest := []) ⟨hx, hb, hml, hown, hts⟩ hK hP hA hS hZ (c_X11_element l D cI cL ad zz hJ σ τ (xs x46.toNatClampNeg) ((xs x46.toNatClampNeg).toInt) rfl (xs x48.toNatClampNeg) ((xs x48.toNatClampNeg).toInt) rfl hI50) cw_RL_152 (jc_0 cI cL ad σ τ) rfl ⟨Nat.le_of_ble_eq_true rfl, Nat.le_of_ble_eq_true rfl⟩ rfl rfl rfl hl.1 rfl (Nat.le_of_ble_eq_true rfl) dL_law_1216 ⟨Nat.le_of_ble_eq_true rfl, Nat.le_of_ble_eq_true rfl⟩ (fun lxr51 σ50 τ50 H locs h50 hP hS => ?_)
    obtain ⟨⟨rfl, rfl⟩, w52, h50⟩ := h50
    refine lv_pop2_2 hx hb dL_law_1219 rfl ?_
    refine lv_aload_n hx hb dL_law_1220 rfl (lv_at hl 1 rfl) ?_
    refine lv_aload_n hx hb dL_law_1221 rfl (lv_at hl 3 rfl) ?_
    refine lv_iload_n hx hb dL_law_1222 rfl (lv_at hl 0 rfl) ?_
    refine lv_iconst (v := 1) hx hb dL_law_1223 (of_decide_eq_true rfl) ?_
    refine lv_iadd hx hb dL_law_1224 ?_
    refine jtopr ex46.symm ?_
    exact by
     refine va_sld hx hb hX hbl hbA hS (jin tx46 (by omega) (by omega)) dL_law_1225 ?_
     refine lv_aload_n hx hb dL_law_1226 rfl (lv_at hl 3 rfl) ?_
     refine lv_iload_n hx hb dL_law_1227 rfl (lv_at hl 0 rfl) ?_
     refine lv_iconst (v := 2) hx hb dL_law_1228 (of_decide_eq_true rfl) ?_
     refine lv_iadd hx hb dL_law_1229 ?_
     refine jtopr ex48.symm ?_
     refine va_sld hx hb hX hbl hbA hS (jin tx48 (by omega) (by omega)) dL_law_1230 ?_
     refine jcallVl (As := [.int (xs x46.toNatClampNeg), .int (xs x48.toNatClampNeg)]) (rest := []) ⟨hx, hb, hml, hown, hts⟩ hK hP hA hS hZ (c_X12_element l D cI cL ad zz hJ σ τ (xs x46.toNatClampNeg) ((xs x46.toNatClampNeg).toInt) rfl (xs x48.toNatClampNeg) ((xs x48.toNatClampNeg).toInt) rfl hI110) cw_RL_156 (jc_55 cI cL ad σ τ) rfl ⟨Nat.le_of_ble_eq_true rfl, Nat.le_of_ble_eq_true rfl⟩ rfl rfl rfl hl.1 rfl (Nat.le_of_ble_eq_true rfl) dL_law_1231 ⟨Nat.le_of_ble_eq_true rfl, Nat.le_of_ble_eq_true rfl⟩ (fun lxr54 σ53 τ53 H locs h53 hP hS => ?_)
     obtain ⟨⟨rfl, rfl⟩, w55, h53⟩ := h53
     exact by
      refine lv_pop2_2 hx hb dL_law_1234 rfl ?_
      refine lv_goto (tgt := 1357) hx hb dL_law_1235 (of_decide_eq_true rfl) ?_
      obtain ⟨x56, ex56⟩ : ∃ y : Int32, y = x0 + 6 := ⟨_, rfl⟩
      have tx56 : x56.toInt = x0.toInt + 6 := (jadd ex56 rfl jz_6 (by omega) (by omega)).trans (by omega)
      refine lv_iinc (v := x56) (lv' := [(3, .int x56), (2, .ref (ad 55)), (1, .ref (ad 0)), (0, .ref b)]) hx hb dL_law_1357 hl (k := 0) rfl (by rw [ex56]; rfl) (of_decide_eq_true rfl) rfl (fun ls hl => ?_)
      refine lv_goto (tgt := 18) hx hb dL_law_1360 (of_decide_eq_true rfl) ?_
      exact by exact ih x56 σ τ _ _ ls (by have h9 := tx56; omega) ⟨hI2, hI9, hI12, hI16, hI18, hI22, hI31, hI38, hI43, hI47, hI50, hI101, hI102, hI103, hI104, hI105, hI106, hI107, hI109, hI110, hI111, hI119, hs_jKept, hs_jBook, (by omega), (by omega), (by omega), (by omega), (by omega), (by omega), (by omega), (by omega), (by omega), (by omega), (by omega), (by omega), hr0, hr1, hr2, hr3, hr4, hr5, hr6, hr7, hr8, hr9⟩ hP hS (lv_sub hl [0, 1, 2, 3] rfl)
set_option maxHeartbeats 4000000 in
set_option maxRecDepth 100000 in
theorem law_case_34 {p : Program} {e : Env} {s : State} {m : MethodId} {below : List Frame} {meth : Method} {c : Code} (l : Launch) {b L : Nat} {xs : Nat → Int32} {D : va_G} {cI cL : ClassId} {ad zz : Nat → Nat} (C0 : lw_At p s m meth c b L xs) (hJ : jD ad) (hA : ∀ q, jA ad q → s.heap.size ≤ q) (hK : jK D cI cL s) (hZ : jZ zz (fun q : Nat => s.heap.size ≤ q) s s.heap) {x0 : Int32} (hx0 : 0 ≤ x0.toInt) (hxL : x0.toInt + 6 ≤ (L : Int)) (hL : L ≤ 384) {σ : Nat → Nat → Int32} {τ : Nat → Nat → Int64} {H : Heap} {locs : List Loc} (hS : va_S (fun q : Nat => s.heap.size ≤ q) s.heap H locs) {ls : Array Slot} (hAll : jAll σ τ) (hP : jH D cI cL ad σ τ H) (hl : lv_has ls 4 [(3, .int x0), (2, .ref (ad 55)), (1, .ref (ad 0)), (0, .ref b)]) (ih : ∀ (x1 : Int32) (σ : Nat → Nat → Int32) (τ : Nat → Nat → Int64) (H : Heap) (locs : List Loc) (ls : Array Slot), x1.toInt = x0.toInt + 6 → jAll σ τ → jH D cI cL ad σ τ H → va_S (fun q : Nat => s.heap.size ≤ q) s.heap H locs → lv_has ls 4 [(3, .int x1), (2, .ref (ad 55)), (1, .ref (ad 0)), (0, .ref b)] → W p l e room_1 s m #[Value.ref b] below meth c H locs 90 348600 (lw_Z below #[Value.ref b] s) (F0 m 18 ls [])) : W p l e room_1 s m #[Value.ref b] below meth c H locs 90 348600 (lw_Z below #[Value.ref b] s) (F0 m 1238 ls []) := by
  obtain ⟨hx, hb, hr, hml, hown, hts0, hX, hbl, hlocks, hgv⟩ := C0
  have hts : ∀ w ∈ wsL_law, w.before #[Value.ref b] s = true := fun w h => hts0 w (wsL_law_in w h)
  have hbA : ¬ (fun q : Nat => s.heap.size ≤ q) b := Nat.not_le.mpr hbl
  have hown : s.vm.findClass RL = some m.cls := hown
  obtain ⟨hI2, hI9, hI12, hI16, hI18, hI22, hI31, hI38, hI43, hI47, hI50, hI101, hI102, hI103, hI104, hI105, hI106, hI107, hI109, hI110, hI111, hI119, hs_jKept, hs_jBook, ht0, ht1, ht2, ht3, ht4, ht5, ht6, ht7, ht8, ht9, ht10, ht11, hr0, hr1, hr2, hr3, hr4, hr5, hr6, hr7, hr8, hr9⟩ := hAll
  have hL9 : (L : Int) ≤ 384 := by omega
  obtain ⟨i1, i2, i3, i4, i5, w6⟩ : (0 ≤ (σ 2 0).toInt ∧ (σ 2 0).toInt ≤ 4) ∧ (0 ≤ (σ 2 1).toInt ∧ (σ 2 1).toInt ≤ 3) ∧ (0 ≤ (σ 2 2).toInt) ∧ (0 ≤ (σ 2 3).toInt) ∧ ((σ 2 2).toInt + (σ 2 3).toInt ≤ 40) ∧ (∀ k : Nat, k < 40 → 0 ≤ (σ 6 k).toInt ∧ (σ 6 k).toInt ≤ 67) := id hI2
  obtain ⟨i7, w8, w9⟩ : (0 ≤ (σ 9 0).toInt ∧ (σ 9 0).toInt ≤ 80) ∧ (∀ k : Nat, k < 80 → 0 ≤ (σ 10 k).toInt ∧ (σ 10 k).toInt ≤ 255) ∧ (∀ k : Nat, k < 8 → 0 ≤ (σ 11 k).toInt ∧ (σ 11 k).toInt ≤ 3) := id hI9
  obtain ⟨i10, i11, i12, w13⟩ : (1 ≤ (σ 16 0).toInt ∧ (σ 16 0).toInt ≤ 8) ∧ (1 ≤ (σ 16 1).toInt ∧ (σ 16 1).toInt ≤ 12) ∧ (0 ≤ (σ 16 2).toInt ∧ (σ 16 2).toInt ≤ 999) ∧ (∀ k : Nat, k < 8 → 0 ≤ (σ 17 k).toInt ∧ (σ 17 k).toInt ≤ 3) := id hI16
  obtain ⟨i14, i15, w16⟩ : (0 ≤ (σ 38 0).toInt ∧ (σ 38 0).toInt ≤ 20) ∧ (0 ≤ (σ 38 1).toInt ∧ (σ 38 1).toInt ≤ 1000) ∧ (∀ k : Nat, k < 20 → 0 ≤ (σ 39 k).toInt ∧ (σ 39 k).toInt ≤ 6) := id hI38
  obtain ⟨i17, w18, w19⟩ : (0 ≤ (σ 47 0).toInt ∧ (σ 47 0).toInt ≤ 12) ∧ (∀ k : Nat, k < 12 → 0 ≤ (σ 48 k).toInt ∧ (σ 48 k).toInt ≤ 3) ∧ (∀ k : Nat, k < 12 → 0 ≤ (σ 49 k).toInt ∧ (σ 49 k).toInt ≤ 1) := id hI47
  have w20 : ∀ k : Nat, k < 6 → 0 ≤ (σ 52 k).toInt ∧ (σ 52 k).toInt ≤ 60 := hI50
  obtain ⟨i21, i22, i23, w24, w25, w26, w27⟩ : (0 ≤ (σ 55 5).toInt) ∧ ((σ 55 5).toInt ≤ (σ 55 4).toInt) ∧ ((σ 55 4).toInt ≤ 40) ∧ (∀ k : Nat, k < 68 → (-200) ≤ (σ 56 k).toInt ∧ (σ 56 k).toInt ≤ 500) ∧ (∀ k : Nat, k < 40 → 0 ≤ (σ 57 k).toInt ∧ (σ 57 k).toInt ≤ 67) ∧ (∀ k : Nat, k < 40 → (-200) ≤ (σ 58 k).toInt ∧ (σ 58 k).toInt ≤ 500) ∧ (∀ k : Nat, k < 40 → (-200) ≤ (σ 59 k).toInt ∧ (σ 59 k).toInt ≤ 500) := id hI101
  obtain ⟨i28, w29, w30⟩ : (0 ≤ (σ 55 6).toInt ∧ (σ 55 6).toInt ≤ 4) ∧ (∀ k : Nat, k < 4 → 0 ≤ (σ 60 k).toInt ∧ (σ 60 k).toInt ≤ 50) ∧ (∀ k : Nat, k < 4 → 0 ≤ (σ 61 k).toInt ∧ (σ 61 k).toInt ≤ 20) := id hI102
  obtain ⟨i31, i32, i33, w34, w35⟩ : (1 ≤ (σ 55 10).toInt ∧ (σ 55 10).toInt ≤ 8) ∧ (1 ≤ (σ 55 12).toInt ∧ (σ 55 12).toInt ≤ 12) ∧ (0 ≤ (σ 55 13).toInt ∧ (σ 55 13).toInt ≤ 999) ∧ (∀ k : Nat, k < 8 → 0 ≤ (σ 62 k).toInt ∧ (σ 62 k).toInt ≤ 3) ∧ (∀ k : Nat, k < 8 → 0 ≤ (σ 67 k).toInt ∧ (σ 67 k).toInt ≤ 3) := id hI104
  obtain ⟨i36, w37⟩ : (0 ≤ (σ 55 15).toInt ∧ (σ 55 15).toInt ≤ 80) ∧ (∀ k : Nat, k < 2 → (-1) ≤ (σ 65 k).toInt ∧ (σ 65 k).toInt ≤ 80) := id hI105
  obtain ⟨i38, w39, w40, w41⟩ : (0 ≤ (σ 55 32).toInt ∧ (σ 55 32).toInt ≤ 20) ∧ (∀ k : Nat, k < 20 → 0 ≤ (σ 70 k).toInt ∧ (σ 70 k).toInt ≤ 6) ∧ (∀ k : Nat, k < 20 → 0 ≤ (σ 71 k).toInt ∧ (σ 71 k).toInt ≤ 8) ∧ (∀ k : Nat, k < 160 → 0 ≤ (σ 72 k).toInt ∧ (σ 72 k).toInt ≤ 3) := id hI106
  obtain ⟨i42, i43, w44⟩ : (0 ≤ (σ 55 47).toInt ∧ (σ 55 47).toInt ≤ 12) ∧ ((σ 55 47).toInt ≤ (σ 55 12).toInt) ∧ (∀ k : Nat, k < 12 → 0 ≤ (σ 80 k).toInt ∧ (σ 80 k).toInt ≤ 3) := id hI107
  refine lv_aload_n hx hb dL_law_1238 rfl (lv_at hl 2 rfl) ?_
  refine lv_aload_n hx hb dL_law_1239 rfl (lv_at hl 3 rfl) ?_
  refine lv_iload_n hx hb dL_law_1240 rfl (lv_at hl 0 rfl) ?_
  refine lv_iconst (v := 1) hx hb dL_law_1241 (of_decide_eq_true rfl) ?_
  have g45 := jrg (rfl : x0.toInt = x0.toInt)
  refine lv_iadd hx hb dL_law_1242 ?_
  refine lv_topi (fun x46 ex46 => ?_)
  exact by
   have tx46 : x46.toInt = x0.toInt + 1 := (jadd ex46 rfl jz_1 (by omega) (by omega)).trans (by omega)
   refine va_sld hx hb hX hbl hbA hS (jin tx46 (by omega) (by omega)) dL_law_1243 ?_
   have g47 := jrg (rfl : (xs x46.toNatClampNeg).toInt = (xs x46.toNatClampNeg).toInt)
   refine lv_aload_n hx hb dL_law_1244 rfl (lv_at hl 3 rfl) ?_
   refine lv_iload_n hx hb dL_law_1245 rfl (lv_at hl 0 rfl) ?_
   refine lv_iconst (v := 2) hx hb dL_law_1246 (of_decide_eq_true rfl) ?_
   refine lv_iadd hx hb dL_law_1247 ?_
   refine lv_topi (fun x48 ex48 => ?_)
   have tx48 : x48.toInt = x0.toInt + 2 := (jadd ex48 rfl jz_2 (by omega) (by omega)).trans (by omega)
   exact by
    refine va_sld hx hb hX hbl hbA hS (jin tx48 (by omega) (by omega)) dL_law_1248 ?_
    have g49 := jrg (rfl : (xs x48.toNatClampNeg).toInt = (xs x48.toNatClampNeg).toInt)
    refine lv_aload_n hx hb dL_law_1249 rfl (lv_at hl 3 rfl) ?_
    refine lv_iload_n hx hb dL_law_1250 rfl (lv_at hl 0 rfl) ?_
    refine lv_iconst (v := 3) hx hb dL_law_1251 (of_decide_eq_true rfl) ?_
    refine lv_iadd hx hb dL_law_1252 ?_
    refine lv_topi (fun x50 ex50 => ?_)
    have tx50 : x50.toInt = x0.toInt + 3 := (jadd ex50 rfl jz_3 (by omega) (by omega)).trans (by omega)
    refine va_sld hx hb hX hbl hbA hS (jin tx50 (by omega) (by omega)) dL_law_1253 ?_
    exact by
     have g51 := jrg (rfl : (xs x50.toNatClampNeg).toInt = (xs x50.toNatClampNeg).toInt)
     refine lv_aload_n hx hb dL_law_1254 rfl (lv_at hl 3 rfl) ?_
     refine lv_iload_n hx hb dL_law_1255 rfl (lv_at hl 0 rfl) ?_
     refine lv_iconst (v := 4) hx hb dL_law_1256 (of_decide_eq_true rfl) ?_
     refine lv_iadd hx hb dL_law_1257 ?_
     refine lv_topi (fun x52 ex52 => ?_)
     have tx52 : x52.toInt = x0.toInt + 4 := (jadd ex52 rfl jz_4 (by omega) (by omega)).trans (by omega)
     refine va_sld hx hb hX hbl hbA hS (jin tx52 (by omega) (by omega)) dL_law_1258 ?_
     have g53 := jrg (rfl : (xs x52.toNatClampNeg).toInt = (xs x52.toNatClampNeg).toInt)
     exact by
      refine lv_aload_n hx hb dL_law_1259 rfl (lv_at hl 3 rfl) ?_
      refine lv_iload_n hx hb dL_law_1260 rfl (lv_at hl 0 rfl) ?_
      refine lv_iconst (v := 5) hx hb dL_law_1261 (of_decide_eq_true rfl) ?_
      refine lv_iadd hx hb dL_law_1262 ?_
      refine lv_topi (fun x54 ex54 => ?_)
      have tx54 : x54.toInt = x0.toInt + 5 := (jadd ex54 rfl jz_5 (by omega) (by omega)).trans (by omega)
      refine va_sld hx hb hX hbl hbA hS (jin tx54 (by omega) (by omega)) dL_law_1263 ?_
      have g55 := jrg (rfl : (xs x54.toNatClampNeg).toInt = (xs x54.toNatClampNeg).toInt)
      refine jcallV (As := [.int (xs x46.toNatClampNeg), .int (xs x48.toNatClampNeg), .int (xs x50.toNatClampNeg), .int (xs x52.toNatClampNeg), .int (xs x54.toNatClampNeg)]) (rest := []) ⟨hx, hb, hml, hown, hts⟩ hK hP hA hS hZ (c_X11_shift l D cI cL ad zz hJ σ τ (xs x46.toNatClampNeg) ((xs x46.toNatClampNeg).toInt) rfl (xs x48.toNatClampNeg) ((xs x48.toNatClampNeg).toInt) rfl (xs x50.toNatClampNeg) ((xs x50.toNatClampNeg).toInt) rfl (xs x52.toNatClampNeg) ((xs x52.toNatClampNeg).toInt) rfl (xs x54.toNatClampNeg) ((xs x54.toNatClampNeg).toInt) rfl hI50) cw_RL_157 (jc_0 cI cL ad σ τ) rfl ⟨Nat.le_of_ble_eq_true rfl, Nat.le_of_ble_eq_true rfl⟩ rfl rfl rfl hl.1 rfl (Nat.le_of_ble_eq_true rfl) dL_law_1264 ⟨Nat.le_of_ble_eq_true rfl, Nat.le_of_ble_eq_true rfl⟩ (fun r57 σ56 τ56 H locs h56 hP hS => ?_)
      exact by
       obtain ⟨f61, f58, w59, w60, h56⟩ := h56
       refine lv_pop hx hb dL_law_1267 rfl ?_
       refine lv_aload_n hx hb dL_law_1268 rfl (lv_at hl 1 rfl) ?_
       refine lv_aload_n hx hb dL_law_1269 rfl (lv_at hl 3 rfl) ?_
       refine lv_iload_n hx hb dL_law_1270 rfl (lv_at hl 0 rfl) ?_
       refine lv_iconst (v := 1) hx hb dL_law_1271 (of_decide_eq_true rfl) ?_
       refine lv_iadd hx hb dL_law_1272 ?_
       refine jtopr ex46.symm ?_
       refine va_sld hx hb hX hbl hbA hS (jin tx46 (by omega) (by omega)) dL_law_1273 ?_
       exact by
        refine lv_aload_n hx hb dL_law_1274 rfl (lv_at hl 3 rfl) ?_
        refine lv_iload_n hx hb dL_law_1275 rfl (lv_at hl 0 rfl) ?_
        refine lv_iconst (v := 2) hx hb dL_law_1276 (of_decide_eq_true rfl) ?_
        refine lv_iadd hx hb dL_law_1277 ?_
        refine jtopr ex48.symm ?_
        refine va_sld hx hb hX hbl hbA hS (jin tx48 (by omega) (by omega)) dL_law_1278 ?_
        refine lv_aload_n hx hb dL_law_1279 rfl (lv_at hl 3 rfl) ?_
        refine lv_iload_n hx hb dL_law_1280 rfl (lv_at hl 0 rfl) ?_
        refine lv_iconst (v := 3) hx hb dL_law_1281 (of_decide_eq_true rfl) ?_
        exact by
         refine lv_iadd hx hb dL_law_1282 ?_
         refine jtopr ex50.symm ?_
         refine va_sld hx hb hX hbl hbA hS (jin tx50 (by omega) (by omega)) dL_law_1283 ?_
         refine lv_aload_n hx hb dL_law_1284 rfl (lv_at hl 3 rfl) ?_
         refine lv_iload_n hx hb dL_law_1285 rfl (lv_at hl 0 rfl) ?_
         refine lv_iconst (v := 4) hx hb dL_law_1286 (of_decide_eq_true rfl) ?_
         refine lv_iadd hx hb dL_law_1287 ?_
         refine jtopr ex52.symm ?_
         refine va_sld hx hb hX hbl hbA hS (jin tx52 (by omega) (by omega)) dL_law_1288 ?_
         exact by
          refine lv_aload_n hx hb dL_law_1289 rfl (lv_at hl 3 rfl) ?_
          refine lv_iload_n hx hb dL_law_1290 rfl (lv_at hl 0 rfl) ?_
          refine lv_iconst (v := 5) hx hb dL_law_1291 (of_decide_eq_true rfl) ?_
          refine lv_iadd hx hb dL_law_1292 ?_
          refine jtopr ex54.symm ?_
          refine va_sld hx hb hX hbl hbA hS (jin tx54 (by omega) (by omega)) dL_law_1293 ?_
          have I62 : jI110 σ56 := jI110_fr (f58 86 (of_decide_eq_true rfl)) (f58 87 (of_decide_eq_true rfl)) hI110
          refine jcallV (As := [.int (xs x46.toNatClampNeg), .int (xs x48.toNatClampNeg), .int (xs x50.toNatClampNeg), .int (xs x52.toNatClampNeg), .int (xs x54.toNatClampNeg)]) (rest := []) ⟨hx, hb, hml, hown, hts⟩ hK hP hA hS hZ (c_X12_shift l D cI cL ad zz hJ σ56 τ56 (xs x46.toNatClampNeg) ((xs x46.toNatClampNeg).toInt) rfl (xs x48.toNatClampNeg) ((xs x48.toNatClampNeg).toInt) rfl (xs x50.toNatClampNeg) ((xs x50.toNatClampNeg).toInt) rfl (xs x52.toNatClampNeg) ((xs x52.toNatClampNeg).toInt) rfl (xs x54.toNatClampNeg) ((xs x54.toNatClampNeg).toInt) rfl I62) cw_RL_161 (jc_55 cI cL ad σ56 τ56) rfl ⟨Nat.le_of_ble_eq_true rfl, Nat.le_of_ble_eq_true rfl⟩ rfl rfl rfl hl.1 rfl (Nat.le_of_ble_eq_true rfl) dL_law_1294 ⟨Nat.le_of_ble_eq_true rfl, Nat.le_of_ble_eq_true rfl⟩ (fun r64 σ63 τ63 H locs h63 hP hS => ?_)
          obtain ⟨f68, f65, w66, w67, h63⟩ := h63
          exact by
           refine lv_pop hx hb dL_law_1297 rfl ?_
           refine lv_goto (tgt := 1357) hx hb dL_law_1298 (of_decide_eq_true rfl) ?_
           obtain ⟨x69, ex69⟩ : ∃ y : Int32, y = x0 + 6 := ⟨_, rfl⟩
           have tx69 : x69.toInt = x0.toInt + 6 := (jadd ex69 rfl jz_6 (by omega) (by omega)).trans (by omega)
           refine lv_iinc (v := x69) (lv' := [(3, .int x69), (2, .ref (ad 55)), (1, .ref (ad 0)), (0, .ref b)]) hx hb dL_law_1357 hl (k := 0) rfl (by rw [ex69]; rfl) (of_decide_eq_true rfl) rfl (fun ls hl => ?_)
           refine lv_goto (tgt := 18) hx hb dL_law_1360 (of_decide_eq_true rfl) ?_
           have I70 : jI2 σ63 := jI2_fr ((congrFun (f65 2 (of_decide_eq_true rfl)) 0).trans (congrFun (f58 2 (of_decide_eq_true rfl)) 0)) ((congrFun (f65 2 (of_decide_eq_true rfl)) 1).trans (congrFun (f58 2 (of_decide_eq_true rfl)) 1)) ((congrFun (f65 2 (of_decide_eq_true rfl)) 2).trans (congrFun (f58 2 (of_decide_eq_true rfl)) 2)) ((congrFun (f65 2 (of_decide_eq_true rfl)) 3).trans (congrFun (f58 2 (of_decide_eq_true rfl)) 3)) ((f65 6 (of_decide_eq_true rfl)).trans (f58 6 (of_decide_eq_true rfl))) hI2
           have I71 : jI9 σ63 := jI9_fr ((congrFun (f65 9 (of_decide_eq_true rfl)) 0).trans (congrFun (f58 9 (of_decide_eq_true rfl)) 0)) ((f65 10 (of_decide_eq_true rfl)).trans (f58 10 (of_decide_eq_true rfl))) ((f65 11 (of_decide_eq_true rfl)).trans (f58 11 (of_decide_eq_true rfl))) hI9
           have I72 : jI12 σ63 := jI12_fr ((congrFun (f65 12 (of_decide_eq_true rfl)) 0).trans (congrFun (f58 12 (of_decide_eq_true rfl)) 0)) ((f65 13 (of_decide_eq_true rfl)).trans (f58 13 (of_decide_eq_true rfl))) hI12
           exact by
            have I73 : jI16 σ63 := jI16_fr ((congrFun (f65 16 (of_decide_eq_true rfl)) 0).trans (congrFun (f58 16 (of_decide_eq_true rfl)) 0)) ((congrFun (f65 16 (of_decide_eq_true rfl)) 1).trans (congrFun (f58 16 (of_decide_eq_true rfl)) 1)) ((congrFun (f65 16 (of_decide_eq_true rfl)) 2).trans (congrFun (f58 16 (of_decide_eq_true rfl)) 2)) ((f65 17 (of_decide_eq_true rfl)).trans (f58 17 (of_decide_eq_true rfl))) hI16
            have I74 : jI18 σ63 := jI18_fr ((congrFun (f65 18 (of_decide_eq_true rfl)) 0).trans (congrFun (f58 18 (of_decide_eq_true rfl)) 0)) ((f65 19 (of_decide_eq_true rfl)).trans (f58 19 (of_decide_eq_true rfl))) hI18
            have I75 : jI22 σ63 := jI22_fr ((congrFun (f65 22 (of_decide_eq_true rfl)) 0).trans (congrFun (f58 22 (of_decide_eq_true rfl)) 0)) ((f65 23 (of_decide_eq_true rfl)).trans (f58 23 (of_decide_eq_true rfl))) hI22
            have I76 : jI31 σ63 := jI31_fr ((congrFun (f65 31 (of_decide_eq_true rfl)) 8).trans (congrFun (f58 31 (of_decide_eq_true rfl)) 8)) ((f65 33 (of_decide_eq_true rfl)).trans (f58 33 (of_decide_eq_true rfl))) ((f65 36 (of_decide_eq_true rfl)).trans (f58 36 (of_decide_eq_true rfl))) hI31
            have I77 : jI38 σ63 := jI38_fr ((congrFun (f65 38 (of_decide_eq_true rfl)) 0).trans (congrFun (f58 38 (of_decide_eq_true rfl)) 0)) ((congrFun (f65 38 (of_decide_eq_true rfl)) 1).trans (congrFun (f58 38 (of_decide_eq_true rfl)) 1)) ((f65 39 (of_decide_eq_true rfl)).trans (f58 39 (of_decide_eq_true rfl))) hI38
            have I78 : jI43 σ63 := jI43_fr ((congrFun (f65 43 (of_decide_eq_true rfl)) 8).trans (congrFun (f58 43 (of_decide_eq_true rfl)) 8)) hI43
            have I79 : jI47 σ63 := jI47_fr ((congrFun (f65 47 (of_decide_eq_true rfl)) 0).trans (congrFun (f58 47 (of_decide_eq_true rfl)) 0)) ((f65 48 (of_decide_eq_true rfl)).trans (f58 48 (of_decide_eq_true rfl))) ((f65 49 (of_decide_eq_true rfl)).trans (f58 49 (of_decide_eq_true rfl))) hI47
            have I80 : jI50 σ63 := jI50_fr ((f65 52 (of_decide_eq_true rfl)).trans (f58 52 (of_decide_eq_true rfl))) hI50
            have I81 : jI101 σ63 := jI101_fr ((congrFun (f65 55 (of_decide_eq_true rfl)) 4).trans (congrFun (f58 55 (of_decide_eq_true rfl)) 4)) ((congrFun (f65 55 (of_decide_eq_true rfl)) 5).trans (congrFun (f58 55 (of_decide_eq_true rfl)) 5)) ((f65 56 (of_decide_eq_true rfl)).trans (f58 56 (of_decide_eq_true rfl))) ((f65 57 (of_decide_eq_true rfl)).trans (f58 57 (of_decide_eq_true rfl))) ((f65 58 (of_decide_eq_true rfl)).trans (f58 58 (of_decide_eq_true rfl))) ((f65 59 (of_decide_eq_true rfl)).trans (f58 59 (of_decide_eq_true rfl))) hI101
            have I82 : jI102 σ63 := jI102_fr ((congrFun (f65 55 (of_decide_eq_true rfl)) 6).trans (congrFun (f58 55 (of_decide_eq_true rfl)) 6)) ((f65 60 (of_decide_eq_true rfl)).trans (f58 60 (of_decide_eq_true rfl))) ((f65 61 (of_decide_eq_true rfl)).trans (f58 61 (of_decide_eq_true rfl))) hI102
            have I83 : jI103 σ63 := jI103_fr ((congrFun (f65 55 (of_decide_eq_true rfl)) 9).trans (congrFun (f58 55 (of_decide_eq_true rfl)) 9)) hI103
            have I84 : jI104 σ63 := jI104_fr ((congrFun (f65 55 (of_decide_eq_true rfl)) 10).trans (congrFun (f58 55 (of_decide_eq_true rfl)) 10)) ((congrFun (f65 55 (of_decide_eq_true rfl)) 12).trans (congrFun (f58 55 (of_decide_eq_true rfl)) 12)) ((congrFun (f65 55 (of_decide_eq_true rfl)) 13).trans (congrFun (f58 55 (of_decide_eq_true rfl)) 13)) ((f65 62 (of_decide_eq_true rfl)).trans (f58 62 (of_decide_eq_true rfl))) ((f65 67 (of_decide_eq_true rfl)).trans (f58 67 (of_decide_eq_true rfl))) hI104
            have I85 : jI105 σ63 := jI105_fr ((congrFun (f65 55 (of_decide_eq_true rfl)) 15).trans (congrFun (f58 55 (of_decide_eq_true rfl)) 15)) ((f65 65 (of_decide_eq_true rfl)).trans (f58 65 (of_decide_eq_true rfl))) hI105
            have I86 : jI106 σ63 := jI106_fr ((congrFun (f65 55 (of_decide_eq_true rfl)) 32).trans (congrFun (f58 55 (of_decide_eq_true rfl)) 32)) ((f65 70 (of_decide_eq_true rfl)).trans (f58 70 (of_decide_eq_true rfl))) ((f65 71 (of_decide_eq_true rfl)).trans (f58 71 (of_decide_eq_true rfl))) ((f65 72 (of_decide_eq_true rfl)).trans (f58 72 (of_decide_eq_true rfl))) hI106
            have I87 : jI107 σ63 := jI107_fr ((congrFun (f65 55 (of_decide_eq_true rfl)) 12).trans (congrFun (f58 55 (of_decide_eq_true rfl)) 12)) ((congrFun (f65 55 (of_decide_eq_true rfl)) 47).trans (congrFun (f58 55 (of_decide_eq_true rfl)) 47)) ((f65 80 (of_decide_eq_true rfl)).trans (f58 80 (of_decide_eq_true rfl))) hI107
            have I88 : jI109 σ63 := jI109_fr ((congrFun (f65 55 (of_decide_eq_true rfl)) 50).trans (congrFun (f58 55 (of_decide_eq_true rfl)) 50)) hI109
            have I89 : jI110 σ63 := jI110_fr (f65 86 (of_decide_eq_true rfl)) (f65 87 (of_decide_eq_true rfl)) I62
            have I90 : jI111 σ63 := jI111_fr ((f65 79 (of_decide_eq_true rfl)).trans (f58 79 (of_decide_eq_true rfl))) hI111
            have I91 : jI119 σ63 := jI119_fr ((f65 68 (of_decide_eq_true rfl)).trans (f58 68 (of_decide_eq_true rfl))) hI119
            have p92 : jKept σ63 := jKept.fr ((f65 75 (of_decide_eq_true rfl)).trans (f58 75 (of_decide_eq_true rfl))) ((f65 76 (of_decide_eq_true rfl)).trans (f58 76 (of_decide_eq_true rfl))) ((f65 77 (of_decide_eq_true rfl)).trans (f58 77 (of_decide_eq_true rfl))) hs_jKept
            have p93 : jBook σ63 := jBook.fr ((congrFun (f65 55 (of_decide_eq_true rfl)) 47).trans (congrFun (f58 55 (of_decide_eq_true rfl)) 47)) ((congrFun (f65 55 (of_decide_eq_true rfl)) 10).trans (congrFun (f58 55 (of_decide_eq_true rfl)) 10)) ((f65 81 (of_decide_eq_true rfl)).trans (f58 81 (of_decide_eq_true rfl))) hs_jBook
            have z94 : (σ63 2 0).toInt = (σ 2 0).toInt := (congrArg Int32.toInt (show σ63 2 0 = (σ 2 0) from ((congrFun (f65 2 (of_decide_eq_true rfl)) 0).trans (congrFun (f58 2 (of_decide_eq_true rfl)) 0))))
            have z95 : (σ63 55 6).toInt = (σ 55 6).toInt := (congrArg Int32.toInt (show σ63 55 6 = (σ 55 6) from ((congrFun (f65 55 (of_decide_eq_true rfl)) 6).trans (congrFun (f58 55 (of_decide_eq_true rfl)) 6))))
            have z96 : (σ63 2 2).toInt = (σ 2 2).toInt := (congrArg Int32.toInt (show σ63 2 2 = (σ 2 2) from ((congrFun (f65 2 (of_decide_eq_true rfl)) 2).trans (congrFun (f58 2 (of_decide_eq_true rfl)) 2))))
            have z97 : (σ63 55 5).toInt = (σ 55 5).toInt := (congrArg Int32.toInt (show σ63 55 5 = (σ 55 5) from ((congrFun (f65 55 (of_decide_eq_true rfl)) 5).trans (congrFun (f58 55 (of_decide_eq_true rfl)) 5))))
            have z98 : (σ63 2 3).toInt = (σ 2 3).toInt := (congrArg Int32.toInt (show σ63 2 3 = (σ 2 3) from ((congrFun (f65 2 (of_decide_eq_true rfl)) 3).trans (congrFun (f58 2 (of_decide_eq_true rfl)) 3))))
            have z99 : (σ63 55 4).toInt = (σ 55 4).toInt := (congrArg Int32.toInt (show σ63 55 4 = (σ 55 4) from ((congrFun (f65 55 (of_decide_eq_true rfl)) 4).trans (congrFun (f58 55 (of_decide_eq_true rfl)) 4))))
            have z100 : (σ63 9 0).toInt = (σ 9 0).toInt := (congrArg Int32.toInt (show σ63 9 0 = (σ 9 0) from ((congrFun (f65 9 (of_decide_eq_true rfl)) 0).trans (congrFun (f58 9 (of_decide_eq_true rfl)) 0))))
            have z101 : (σ63 55 15).toInt = (σ 55 15).toInt := (congrArg Int32.toInt (show σ63 55 15 = (σ 55 15) from ((congrFun (f65 55 (of_decide_eq_true rfl)) 15).trans (congrFun (f58 55 (of_decide_eq_true rfl)) 15))))
            have z102 : (σ63 16 0).toInt = (σ 16 0).toInt := (congrArg Int32.toInt (show σ63 16 0 = (σ 16 0) from ((congrFun (f65 16 (of_decide_eq_true rfl)) 0).trans (congrFun (f58 16 (of_decide_eq_true rfl)) 0))))
            have z103 : (σ63 55 10).toInt = (σ 55 10).toInt := (congrArg Int32.toInt (show σ63 55 10 = (σ 55 10) from ((congrFun (f65 55 (of_decide_eq_true rfl)) 10).trans (congrFun (f58 55 (of_decide_eq_true rfl)) 10))))
            have z104 : (σ63 16 1).toInt = (σ 16 1).toInt := (congrArg Int32.toInt (show σ63 16 1 = (σ 16 1) from ((congrFun (f65 16 (of_decide_eq_true rfl)) 1).trans (congrFun (f58 16 (of_decide_eq_true rfl)) 1))))
            have z105 : (σ63 55 12).toInt = (σ 55 12).toInt := (congrArg Int32.toInt (show σ63 55 12 = (σ 55 12) from ((congrFun (f65 55 (of_decide_eq_true rfl)) 12).trans (congrFun (f58 55 (of_decide_eq_true rfl)) 12))))
            have z106 : (σ63 16 2).toInt = (σ 16 2).toInt := (congrArg Int32.toInt (show σ63 16 2 = (σ 16 2) from ((congrFun (f65 16 (of_decide_eq_true rfl)) 2).trans (congrFun (f58 16 (of_decide_eq_true rfl)) 2))))
            have z107 : (σ63 55 13).toInt = (σ 55 13).toInt := (congrArg Int32.toInt (show σ63 55 13 = (σ 55 13) from ((congrFun (f65 55 (of_decide_eq_true rfl)) 13).trans (congrFun (f58 55 (of_decide_eq_true rfl)) 13))))
            have z108 : (σ63 38 0).toInt = (σ 38 0).toInt := (congrArg Int32.toInt (show σ63 38 0 = (σ 38 0) from ((congrFun (f65 38 (of_decide_eq_true rfl)) 0).trans (congrFun (f58 38 (of_decide_eq_true rfl)) 0))))
            have z109 : (σ63 55 32).toInt = (σ 55 32).toInt := (congrArg Int32.toInt (show σ63 55 32 = (σ 55 32) from ((congrFun (f65 55 (of_decide_eq_true rfl)) 32).trans (congrFun (f58 55 (of_decide_eq_true rfl)) 32))))
            have z110 : (σ63 38 1).toInt = (σ 38 1).toInt := (congrArg Int32.toInt (show σ63 38 1 = (σ 38 1) from ((congrFun (f65 38 (of_decide_eq_true rfl)) 1).trans (congrFun (f58 38 (of_decide_eq_true rfl)) 1))))
            have z111 : (σ63 55 55).toInt = (σ 55 55).toInt := (congrArg Int32.toInt (show σ63 55 55 = (σ 55 55) from ((congrFun (f65 55 (of_decide_eq_true rfl)) 55).trans (congrFun (f58 55 (of_decide_eq_true rfl)) 55))))
            have z112 : (σ63 47 0).toInt = (σ 47 0).toInt := (congrArg Int32.toInt (show σ63 47 0 = (σ 47 0) from ((congrFun (f65 47 (of_decide_eq_true rfl)) 0).trans (congrFun (f58 47 (of_decide_eq_true rfl)) 0))))
            have z113 : (σ63 55 47).toInt = (σ 55 47).toInt := (congrArg Int32.toInt (show σ63 55 47 = (σ 55 47) from ((congrFun (f65 55 (of_decide_eq_true rfl)) 47).trans (congrFun (f58 55 (of_decide_eq_true rfl)) 47))))
            have z114 : (σ63 55 30).toInt = (σ 55 30).toInt := (congrArg Int32.toInt (show σ63 55 30 = (σ 55 30) from ((congrFun (f65 55 (of_decide_eq_true rfl)) 30).trans (congrFun (f58 55 (of_decide_eq_true rfl)) 30))))
            have z115 : (σ63 55 31).toInt = (σ 55 31).toInt := (congrArg Int32.toInt (show σ63 55 31 = (σ 55 31) from ((congrFun (f65 55 (of_decide_eq_true rfl)) 31).trans (congrFun (f58 55 (of_decide_eq_true rfl)) 31))))
            rw [show τ56 88 = τ 88 from (f61 88 (of_decide_eq_true rfl))] at w67
            have s117 := w66
            rw [show σ56 86 = σ 86 from (f58 86 (of_decide_eq_true rfl)), show σ56 87 = σ 87 from (f58 87 (of_decide_eq_true rfl))] at s117
            have p116 := hr5.move w20 w60 w67 (w59.trans (hr4.sf.trans s117.symm)) rfl rfl rfl rfl rfl (fun z => hr4.mvok w59 z)
            exact by exact ih x69 σ63 τ63 _ _ ls (by have h9 := tx69; omega) ⟨I70, I71, I72, I73, I74, I75, I76, I77, I78, I79, I80, I81, I82, I83, I84, I85, I86, I87, I88, I89, I90, I91, p92, p93, (by omega), (by omega), (by omega), (by omega), (by omega), (by omega), (by omega), (by omega), (by omega), (by omega), (by omega), (by omega), (show jNumP (σ63 3) (σ63 56) (σ63 6) (σ63 57) (σ63 7) (σ63 58) (σ63 8) (σ63 59) (σ63 55 6).toInt (σ63 55 4).toInt by rw [show σ63 3 = σ 3 from ((f65 3 (of_decide_eq_true rfl)).trans (f58 3 (of_decide_eq_true rfl))), show σ63 56 = σ 56 from ((f65 56 (of_decide_eq_true rfl)).trans (f58 56 (of_decide_eq_true rfl))), show σ63 6 = σ 6 from ((f65 6 (of_decide_eq_true rfl)).trans (f58 6 (of_decide_eq_true rfl))), show σ63 57 = σ 57 from ((f65 57 (of_decide_eq_true rfl)).trans (f58 57 (of_decide_eq_true rfl))), show σ63 7 = σ 7 from ((f65 7 (of_decide_eq_true rfl)).trans (f58 7 (of_decide_eq_true rfl))), show σ63 58 = σ 58 from ((f65 58 (of_decide_eq_true rfl)).trans (f58 58 (of_decide_eq_true rfl))), show σ63 8 = σ 8 from ((f65 8 (of_decide_eq_true rfl)).trans (f58 8 (of_decide_eq_true rfl))), show σ63 59 = σ 59 from ((f65 59 (of_decide_eq_true rfl)).trans (f58 59 (of_decide_eq_true rfl))), show (σ63 55 6).toInt = (σ 55 6).toInt from by omega, show (σ63 55 4).toInt = (σ 55 4).toInt from by omega]; exact hr0), (show jOvP (σ63 56) (σ63 57) (σ63 58) (σ63 59) (σ63 55 4).toInt by rw [show σ63 56 = σ 56 from ((f65 56 (of_decide_eq_true rfl)).trans (f58 56 (of_decide_eq_true rfl))), show σ63 57 = σ 57 from ((f65 57 (of_decide_eq_true rfl)).trans (f58 57 (of_decide_eq_true rfl))), show σ63 58 = σ 58 from ((f65 58 (of_decide_eq_true rfl)).trans (f58 58 (of_decide_eq_true rfl))), show σ63 59 = σ 59 from ((f65 59 (of_decide_eq_true rfl)).trans (f58 59 (of_decide_eq_true rfl))), show (σ63 55 4).toInt = (σ 55 4).toInt from by omega]; exact hr1), (show jTp (σ63 10) (σ63 63) (σ63 55 15).toInt by rw [show σ63 10 = σ 10 from ((f65 10 (of_decide_eq_true rfl)).trans (f58 10 (of_decide_eq_true rfl))), show σ63 63 = σ 63 from ((f65 63 (of_decide_eq_true rfl)).trans (f58 63 (of_decide_eq_true rfl)))]; exact hr2.le (by omega)), (show jSo (σ63 17) (σ63 62) (σ63 16 0).toInt by rw [show σ63 17 = σ 17 from ((f65 17 (of_decide_eq_true rfl)).trans (f58 17 (of_decide_eq_true rfl))), show σ63 62 = σ 62 from ((f65 62 (of_decide_eq_true rfl)).trans (f58 62 (of_decide_eq_true rfl))), show (σ63 16 0).toInt = (σ 16 0).toInt from by omega]; exact hr3), (show jShP (σ63 51) (σ63 52) (σ63 53) (σ63 86) (σ63 87) (σ63 55 32).toInt by rw [show σ63 51 = σ 51 from ((f65 51 (of_decide_eq_true rfl)).trans (f58 51 (of_decide_eq_true rfl))), show σ63 52 = σ 52 from ((f65 52 (of_decide_eq_true rfl)).trans (f58 52 (of_decide_eq_true rfl))), show σ63 53 = σ 53 from ((f65 53 (of_decide_eq_true rfl)).trans (f58 53 (of_decide_eq_true rfl))), show σ63 86 = σ 86 from ((f65 86 (of_decide_eq_true rfl)).trans (f58 86 (of_decide_eq_true rfl))), show σ63 87 = σ 87 from ((f65 87 (of_decide_eq_true rfl)).trans (f58 87 (of_decide_eq_true rfl)))]; exact (hr4.up (by omega) (by omega))), (show jEl (σ63 51) (σ63 52) (τ63 54) (τ63 88) by rw [show σ63 51 = σ 51 from ((f65 51 (of_decide_eq_true rfl)).trans (f58 51 (of_decide_eq_true rfl))), show σ63 52 = σ 52 from ((f65 52 (of_decide_eq_true rfl)).trans (f58 52 (of_decide_eq_true rfl))), show τ63 54 = τ56 54 from (f68 54 (of_decide_eq_true rfl))]; exact p116), (show jByP (σ63 51) (σ63 52) (τ63 54) by rw [show σ63 51 = σ 51 from ((f65 51 (of_decide_eq_true rfl)).trans (f58 51 (of_decide_eq_true rfl))), show σ63 52 = σ 52 from ((f65 52 (of_decide_eq_true rfl)).trans (f58 52 (of_decide_eq_true rfl))), show τ63 54 = τ56 54 from (f68 54 (of_decide_eq_true rfl))]; exact (hr6.move (d := (xs x46.toNatClampNeg).toInt) (i := (xs x48.toNatClampNeg).toInt) (e := (xs x50.toNatClampNeg).toInt) (j := (xs x52.toNatClampNeg).toInt) w20 w60 rfl rfl (fun z => hr4.mvok w59 z) (fun z => hr4.mvs w59 z))), (show jBk (σ63 48) (σ63 80) (σ63 49) (σ63 81) (σ63 55 47).toInt by rw [show σ63 48 = σ 48 from ((f65 48 (of_decide_eq_true rfl)).trans (f58 48 (of_decide_eq_true rfl))), show σ63 49 = σ 49 from ((f65 49 (of_decide_eq_true rfl)).trans (f58 49 (of_decide_eq_true rfl))), show σ63 80 = σ 80 from ((f65 80 (of_decide_eq_true rfl)).trans (f58 80 (of_decide_eq_true rfl))), show σ63 81 = σ 81 from ((f65 81 (of_decide_eq_true rfl)).trans (f58 81 (of_decide_eq_true rfl))), show (σ63 55 47).toInt = (σ 55 47).toInt from by omega]; exact hr7), (show jKd (σ63 39) (σ63 70) (σ63 55 32).toInt by rw [show σ63 39 = σ 39 from ((f65 39 (of_decide_eq_true rfl)).trans (f58 39 (of_decide_eq_true rfl))), show σ63 70 = σ 70 from ((f65 70 (of_decide_eq_true rfl)).trans (f58 70 (of_decide_eq_true rfl))), show (σ63 55 32).toInt = (σ 55 32).toInt from by omega]; exact hr8), (show jTt (σ63 42) (σ63 85) (σ63 55 55).toInt by rw [show σ63 42 = σ 42 from ((f65 42 (of_decide_eq_true rfl)).trans (f58 42 (of_decide_eq_true rfl))), show σ63 85 = σ 85 from ((f65 85 (of_decide_eq_true rfl)).trans (f58 85 (of_decide_eq_true rfl))), show (σ63 55 55).toInt = (σ 55 55).toInt from by omega]; exact hr9)⟩ hP hS (lv_sub hl [0, 1, 2, 3] rfl)
set_option maxHeartbeats 4000000 in
set_option maxRecDepth 100000 in
theorem law_case_35 {p : Program} {e : Env} {s : State} {m : MethodId} {below : List Frame} {meth : Method} {c : Code} (l : Launch) {b L : Nat} {xs : Nat → Int32} {D : va_G} {cI cL : ClassId} {ad zz : Nat → Nat} (C0 : lw_At p s m meth c b L xs) (hJ : jD ad) (hA : ∀ q, jA ad q → s.heap.size ≤ q) (hK : jK D cI cL s) (hZ : jZ zz (fun q : Nat => s.heap.size ≤ q) s s.heap) {x0 : Int32} (hx0 : 0 ≤ x0.toInt) (hxL : x0.toInt + 6 ≤ (L : Int)) (hL : L ≤ 384) {σ : Nat → Nat → Int32} {τ : Nat → Nat → Int64} {H : Heap} {locs : List Loc} (hS : va_S (fun q : Nat => s.heap.size ≤ q) s.heap H locs) {ls : Array Slot} (hAll : jAll σ τ) (hP : jH D cI cL ad σ τ H) (hl : lv_has ls 4 [(3, .int x0), (2, .ref (ad 55)), (1, .ref (ad 0)), (0, .ref b)]) (ih : ∀ (x1 : Int32) (σ : Nat → Nat → Int32) (τ : Nat → Nat → Int64) (H : Heap) (locs : List Loc) (ls : Array Slot), x1.toInt = x0.toInt + 6 → jAll σ τ → jH D cI cL ad σ τ H → va_S (fun q : Nat => s.heap.size ≤ q) s.heap H locs → lv_has ls 4 [(3, .int x1), (2, .ref (ad 55)), (1, .ref (ad 0)), (0, .ref b)] → W p l e room_1 s m #[Value.ref b] below meth c H locs 90 348600 (lw_Z below #[Value.ref b] s) (F0 m 18 ls [])) : W p l e room_1 s m #[Value.ref b] below meth c H locs 90 348600 (lw_Z below #[Value.ref b] s) (F0 m 1301 ls []) := by
  obtain ⟨hx, hb, hr, hml, hown, hts0, hX, hbl, hlocks, hgv⟩ := C0
  have hts : ∀ w ∈ wsL_law, w.before #[Value.ref b] s = true := fun w h => hts0 w (wsL_law_in w h)
  have hbA : ¬ (fun q : Nat => s.heap.size ≤ q) b := Nat.not_le.mpr hbl
  have hown : s.vm.findClass RL = some m.cls := hown
  obtain ⟨hI2, hI9, hI12, hI16, hI18, hI22, hI31, hI38, hI43, hI47, hI50, hI101, hI102, hI103, hI104, hI105, hI106, hI107, hI109, hI110, hI111, hI119, hs_jKept, hs_jBook, ht0, ht1, ht2, ht3, ht4, ht5, ht6, ht7, ht8, ht9, ht10, ht11, hr0, hr1, hr2, hr3, hr4, hr5, hr6, hr7, hr8, hr9⟩ := hAll
  have hL9 : (L : Int) ≤ 384 := by omega
  obtain ⟨i1, i2, i3, i4, i5, w6⟩ : (0 ≤ (σ 2 0).toInt ∧ (σ 2 0).toInt ≤ 4) ∧ (0 ≤ (σ 2 1).toInt ∧ (σ 2 1).toInt ≤ 3) ∧ (0 ≤ (σ 2 2).toInt) ∧ (0 ≤ (σ 2 3).toInt) ∧ ((σ 2 2).toInt + (σ 2 3).toInt ≤ 40) ∧ (∀ k : Nat, k < 40 → 0 ≤ (σ 6 k).toInt ∧ (σ 6 k).toInt ≤ 67) := id hI2
  obtain ⟨i7, w8, w9⟩ : (0 ≤ (σ 9 0).toInt ∧ (σ 9 0).toInt ≤ 80) ∧ (∀ k : Nat, k < 80 → 0 ≤ (σ 10 k).toInt ∧ (σ 10 k).toInt ≤ 255) ∧ (∀ k : Nat, k < 8 → 0 ≤ (σ 11 k).toInt ∧ (σ 11 k).toInt ≤ 3) := id hI9
  obtain ⟨i10, i11, i12, w13⟩ : (1 ≤ (σ 16 0).toInt ∧ (σ 16 0).toInt ≤ 8) ∧ (1 ≤ (σ 16 1).toInt ∧ (σ 16 1).toInt ≤ 12) ∧ (0 ≤ (σ 16 2).toInt ∧ (σ 16 2).toInt ≤ 999) ∧ (∀ k : Nat, k < 8 → 0 ≤ (σ 17 k).toInt ∧ (σ 17 k).toInt ≤ 3) := id hI16
  obtain ⟨i14, i15, w16⟩ : (0 ≤ (σ 38 0).toInt ∧ (σ 38 0).toInt ≤ 20) ∧ (0 ≤ (σ 38 1).toInt ∧ (σ 38 1).toInt ≤ 1000) ∧ (∀ k : Nat, k < 20 → 0 ≤ (σ 39 k).toInt ∧ (σ 39 k).toInt ≤ 6) := id hI38
  obtain ⟨i17, w18, w19⟩ : (0 ≤ (σ 47 0).toInt ∧ (σ 47 0).toInt ≤ 12) ∧ (∀ k : Nat, k < 12 → 0 ≤ (σ 48 k).toInt ∧ (σ 48 k).toInt ≤ 3) ∧ (∀ k : Nat, k < 12 → 0 ≤ (σ 49 k).toInt ∧ (σ 49 k).toInt ≤ 1) := id hI47
  have w20 : ∀ k : Nat, k < 6 → 0 ≤ (σ 52 k).toInt ∧ (σ 52 k).toInt ≤ 60 := hI50
  obtain ⟨i21, i22, i23, w24, w25, w26, w27⟩ : (0 ≤ (σ 55 5).toInt) ∧ ((σ 55 5).toInt ≤ (σ 55 4).toInt) ∧ ((σ 55 4).toInt ≤ 40) ∧ (∀ k : Nat, k < 68 → (-200) ≤ (σ 56 k).toInt ∧ (σ 56 k).toInt ≤ 500) ∧ (∀ k : Nat, k < 40 → 0 ≤ (σ 57 k).toInt ∧ (σ 57 k).toInt ≤ 67) ∧ (∀ k : Nat, k < 40 → (-200) ≤ (σ 58 k).toInt ∧ (σ 58 k).toInt ≤ 500) ∧ (∀ k : Nat, k < 40 → (-200) ≤ (σ 59 k).toInt ∧ (σ 59 k).toInt ≤ 500) := id hI101
  obtain ⟨i28, w29, w30⟩ : (0 ≤ (σ 55 6).toInt ∧ (σ 55 6).toInt ≤ 4) ∧ (∀ k : Nat, k < 4 → 0 ≤ (σ 60 k).toInt ∧ (σ 60 k).toInt ≤ 50) ∧ (∀ k : Nat, k < 4 → 0 ≤ (σ 61 k).toInt ∧ (σ 61 k).toInt ≤ 20) := id hI102
  obtain ⟨i31, i32, i33, w34, w35⟩ : (1 ≤ (σ 55 10).toInt ∧ (σ 55 10).toInt ≤ 8) ∧ (1 ≤ (σ 55 12).toInt ∧ (σ 55 12).toInt ≤ 12) ∧ (0 ≤ (σ 55 13).toInt ∧ (σ 55 13).toInt ≤ 999) ∧ (∀ k : Nat, k < 8 → 0 ≤ (σ 62 k).toInt ∧ (σ 62 k).toInt ≤ 3) ∧ (∀ k : Nat, k < 8 → 0 ≤ (σ 67 k).toInt ∧ (σ 67 k).toInt ≤ 3) := id hI104
  obtain ⟨i36, w37⟩ : (0 ≤ (σ 55 15).toInt ∧ (σ 55 15).toInt ≤ 80) ∧ (∀ k : Nat, k < 2 → (-1) ≤ (σ 65 k).toInt ∧ (σ 65 k).toInt ≤ 80) := id hI105
  obtain ⟨i38, w39, w40, w41⟩ : (0 ≤ (σ 55 32).toInt ∧ (σ 55 32).toInt ≤ 20) ∧ (∀ k : Nat, k < 20 → 0 ≤ (σ 70 k).toInt ∧ (σ 70 k).toInt ≤ 6) ∧ (∀ k : Nat, k < 20 → 0 ≤ (σ 71 k).toInt ∧ (σ 71 k).toInt ≤ 8) ∧ (∀ k : Nat, k < 160 → 0 ≤ (σ 72 k).toInt ∧ (σ 72 k).toInt ≤ 3) := id hI106
  obtain ⟨i42, i43, w44⟩ : (0 ≤ (σ 55 47).toInt ∧ (σ 55 47).toInt ≤ 12) ∧ ((σ 55 47).toInt ≤ (σ 55 12).toInt) ∧ (∀ k : Nat, k < 12 → 0 ≤ (σ 80 k).toInt ∧ (σ 80 k).toInt ≤ 3) := id hI107
  refine lv_aload_n hx hb dL_law_1301 rfl (lv_at hl 2 rfl) ?_
  refine lv_aload_n hx hb dL_law_1302 rfl (lv_at hl 3 rfl) ?_
  refine lv_iload_n hx hb dL_law_1303 rfl (lv_at hl 0 rfl) ?_
  refine lv_iconst (v := 1) hx hb dL_law_1304 (of_decide_eq_true rfl) ?_
  have g45 := jrg (rfl : x0.toInt = x0.toInt)
  refine lv_iadd hx hb dL_law_1305 ?_
  refine lv_topi (fun x46 ex46 => ?_)
  exact by
   have tx46 : x46.toInt = x0.toInt + 1 := (jadd ex46 rfl jz_1 (by omega) (by omega)).trans (by omega)
   refine va_sld hx hb hX hbl hbA hS (jin tx46 (by omega) (by omega)) dL_law_1306 ?_
   have g47 := jrg (rfl : (xs x46.toNatClampNeg).toInt = (xs x46.toNatClampNeg).toInt)
   refine lv_aload_n hx hb dL_law_1307 rfl (lv_at hl 3 rfl) ?_
   refine lv_iload_n hx hb dL_law_1308 rfl (lv_at hl 0 rfl) ?_
   refine lv_iconst (v := 2) hx hb dL_law_1309 (of_decide_eq_true rfl) ?_
   refine lv_iadd hx hb dL_law_1310 ?_
   refine lv_topi (fun x48 ex48 => ?_)
   have tx48 : x48.toInt = x0.toInt + 2 := (jadd ex48 rfl jz_2 (by omega) (by omega)).trans (by omega)
   exact by
    refine va_sld hx hb hX hbl hbA hS (jin tx48 (by omega) (by omega)) dL_law_1311 ?_
    have g49 := jrg (rfl : (xs x48.toNatClampNeg).toInt = (xs x48.toNatClampNeg).toInt)
    refine jcallV (As := [.int (xs x46.toNatClampNeg), .int (xs x48.toNatClampNeg)]) (rest := []) ⟨hx, hb, hml, hown, hts⟩ hK hP hA hS hZ (c_X11_taken l D cI cL ad zz hJ σ τ (xs x46.toNatClampNeg) ((xs x46.toNatClampNeg).toInt) rfl (xs x48.toNatClampNeg) ((xs x48.toNatClampNeg).toInt) rfl hI38) cw_RL_162 (jc_0 cI cL ad σ τ) rfl ⟨Nat.le_of_ble_eq_true rfl, Nat.le_of_ble_eq_true rfl⟩ rfl rfl rfl hl.1 rfl (Nat.le_of_ble_eq_true rfl) dL_law_1312 ⟨Nat.le_of_ble_eq_true rfl, Nat.le_of_ble_eq_true rfl⟩ (fun r51 σ50 τ50 H locs h50 hP hS => ?_)
    obtain ⟨⟨rfl, rfl⟩, w52, h50⟩ := h50
    refine lv_pop hx hb dL_law_1315 rfl ?_
    refine lv_aload_n hx hb dL_law_1316 rfl (lv_at hl 1 rfl) ?_
    refine lv_aload_n hx hb dL_law_1317 rfl (lv_at hl 3 rfl) ?_
    refine lv_iload_n hx hb dL_law_1318 rfl (lv_at hl 0 rfl) ?_
    refine lv_iconst (v := 1) hx hb dL_law_1319 (of_decide_eq_true rfl) ?_
    refine lv_iadd hx hb dL_law_1320 ?_
    refine jtopr ex46.symm ?_
    exact by
     refine va_sld hx hb hX hbl hbA hS (jin tx46 (by omega) (by omega)) dL_law_1321 ?_
     refine lv_aload_n hx hb dL_law_1322 rfl (lv_at hl 3 rfl) ?_
     refine lv_iload_n hx hb dL_law_1323 rfl (lv_at hl 0 rfl) ?_
     refine lv_iconst (v := 2) hx hb dL_law_1324 (of_decide_eq_true rfl) ?_
     refine lv_iadd hx hb dL_law_1325 ?_
     refine jtopr ex48.symm ?_
     refine va_sld hx hb hX hbl hbA hS (jin tx48 (by omega) (by omega)) dL_law_1326 ?_
     refine jcallV (As := [.int (xs x46.toNatClampNeg), .int (xs x48.toNatClampNeg)]) (rest := []) ⟨hx, hb, hml, hown, hts⟩ hK hP hA hS hZ (c_X12_taken l D cI cL ad zz hJ σ τ (xs x46.toNatClampNeg) ((xs x46.toNatClampNeg).toInt) rfl (xs x48.toNatClampNeg) ((xs x48.toNatClampNeg).toInt) rfl hI106 hI110) cw_RL_165 (jc_55 cI cL ad σ τ) rfl ⟨Nat.le_of_ble_eq_true rfl, Nat.le_of_ble_eq_true rfl⟩ rfl rfl rfl hl.1 rfl (Nat.le_of_ble_eq_true rfl) dL_law_1327 ⟨Nat.le_of_ble_eq_true rfl, Nat.le_of_ble_eq_true rfl⟩ (fun r54 σ53 τ53 H locs h53 hP hS => ?_)
     obtain ⟨⟨rfl, rfl⟩, w55, h53⟩ := h53
     exact by
      refine lv_pop hx hb dL_law_1330 rfl ?_
      refine lv_goto (tgt := 1357) hx hb dL_law_1331 (of_decide_eq_true rfl) ?_
      obtain ⟨x56, ex56⟩ : ∃ y : Int32, y = x0 + 6 := ⟨_, rfl⟩
      have tx56 : x56.toInt = x0.toInt + 6 := (jadd ex56 rfl jz_6 (by omega) (by omega)).trans (by omega)
      refine lv_iinc (v := x56) (lv' := [(3, .int x56), (2, .ref (ad 55)), (1, .ref (ad 0)), (0, .ref b)]) hx hb dL_law_1357 hl (k := 0) rfl (by rw [ex56]; rfl) (of_decide_eq_true rfl) rfl (fun ls hl => ?_)
      refine lv_goto (tgt := 18) hx hb dL_law_1360 (of_decide_eq_true rfl) ?_
      exact by exact ih x56 σ τ _ _ ls (by have h9 := tx56; omega) ⟨hI2, hI9, hI12, hI16, hI18, hI22, hI31, hI38, hI43, hI47, hI50, hI101, hI102, hI103, hI104, hI105, hI106, hI107, hI109, hI110, hI111, hI119, hs_jKept, hs_jBook, (by omega), (by omega), (by omega), (by omega), (by omega), (by omega), (by omega), (by omega), (by omega), (by omega), (by omega), (by omega), hr0, hr1, hr2, hr3, hr4, hr5, hr6, hr7, hr8, hr9⟩ hP hS (lv_sub hl [0, 1, 2, 3] rfl)
set_option maxHeartbeats 4000000 in
set_option maxRecDepth 100000 in
theorem law_case_36 {p : Program} {e : Env} {s : State} {m : MethodId} {below : List Frame} {meth : Method} {c : Code} (l : Launch) {b L : Nat} {xs : Nat → Int32} {D : va_G} {cI cL : ClassId} {ad zz : Nat → Nat} (C0 : lw_At p s m meth c b L xs) (hJ : jD ad) (hA : ∀ q, jA ad q → s.heap.size ≤ q) (hK : jK D cI cL s) (hZ : jZ zz (fun q : Nat => s.heap.size ≤ q) s s.heap) {x0 : Int32} (hx0 : 0 ≤ x0.toInt) (hxL : x0.toInt + 6 ≤ (L : Int)) (hL : L ≤ 384) {σ : Nat → Nat → Int32} {τ : Nat → Nat → Int64} {H : Heap} {locs : List Loc} (hS : va_S (fun q : Nat => s.heap.size ≤ q) s.heap H locs) {ls : Array Slot} (hAll : jAll σ τ) (hP : jH D cI cL ad σ τ H) (hl : lv_has ls 4 [(3, .int x0), (2, .ref (ad 55)), (1, .ref (ad 0)), (0, .ref b)]) (ih : ∀ (x1 : Int32) (σ : Nat → Nat → Int32) (τ : Nat → Nat → Int64) (H : Heap) (locs : List Loc) (ls : Array Slot), x1.toInt = x0.toInt + 6 → jAll σ τ → jH D cI cL ad σ τ H → va_S (fun q : Nat => s.heap.size ≤ q) s.heap H locs → lv_has ls 4 [(3, .int x1), (2, .ref (ad 55)), (1, .ref (ad 0)), (0, .ref b)] → W p l e room_1 s m #[Value.ref b] below meth c H locs 90 348600 (lw_Z below #[Value.ref b] s) (F0 m 18 ls [])) : W p l e room_1 s m #[Value.ref b] below meth c H locs 90 348600 (lw_Z below #[Value.ref b] s) (F0 m 1334 ls []) := by
  obtain ⟨hx, hb, hr, hml, hown, hts0, hX, hbl, hlocks, hgv⟩ := C0
  have hts : ∀ w ∈ wsL_law, w.before #[Value.ref b] s = true := fun w h => hts0 w (wsL_law_in w h)
  have hbA : ¬ (fun q : Nat => s.heap.size ≤ q) b := Nat.not_le.mpr hbl
  have hown : s.vm.findClass RL = some m.cls := hown
  obtain ⟨hI2, hI9, hI12, hI16, hI18, hI22, hI31, hI38, hI43, hI47, hI50, hI101, hI102, hI103, hI104, hI105, hI106, hI107, hI109, hI110, hI111, hI119, hs_jKept, hs_jBook, ht0, ht1, ht2, ht3, ht4, ht5, ht6, ht7, ht8, ht9, ht10, ht11, hr0, hr1, hr2, hr3, hr4, hr5, hr6, hr7, hr8, hr9⟩ := hAll
  have hL9 : (L : Int) ≤ 384 := by omega
  obtain ⟨i1, i2, i3, i4, i5, w6⟩ : (0 ≤ (σ 2 0).toInt ∧ (σ 2 0).toInt ≤ 4) ∧ (0 ≤ (σ 2 1).toInt ∧ (σ 2 1).toInt ≤ 3) ∧ (0 ≤ (σ 2 2).toInt) ∧ (0 ≤ (σ 2 3).toInt) ∧ ((σ 2 2).toInt + (σ 2 3).toInt ≤ 40) ∧ (∀ k : Nat, k < 40 → 0 ≤ (σ 6 k).toInt ∧ (σ 6 k).toInt ≤ 67) := id hI2
  obtain ⟨i7, w8, w9⟩ : (0 ≤ (σ 9 0).toInt ∧ (σ 9 0).toInt ≤ 80) ∧ (∀ k : Nat, k < 80 → 0 ≤ (σ 10 k).toInt ∧ (σ 10 k).toInt ≤ 255) ∧ (∀ k : Nat, k < 8 → 0 ≤ (σ 11 k).toInt ∧ (σ 11 k).toInt ≤ 3) := id hI9
  obtain ⟨i10, i11, i12, w13⟩ : (1 ≤ (σ 16 0).toInt ∧ (σ 16 0).toInt ≤ 8) ∧ (1 ≤ (σ 16 1).toInt ∧ (σ 16 1).toInt ≤ 12) ∧ (0 ≤ (σ 16 2).toInt ∧ (σ 16 2).toInt ≤ 999) ∧ (∀ k : Nat, k < 8 → 0 ≤ (σ 17 k).toInt ∧ (σ 17 k).toInt ≤ 3) := id hI16
  obtain ⟨i14, i15, w16⟩ : (0 ≤ (σ 38 0).toInt ∧ (σ 38 0).toInt ≤ 20) ∧ (0 ≤ (σ 38 1).toInt ∧ (σ 38 1).toInt ≤ 1000) ∧ (∀ k : Nat, k < 20 → 0 ≤ (σ 39 k).toInt ∧ (σ 39 k).toInt ≤ 6) := id hI38
  obtain ⟨i17, w18, w19⟩ : (0 ≤ (σ 47 0).toInt ∧ (σ 47 0).toInt ≤ 12) ∧ (∀ k : Nat, k < 12 → 0 ≤ (σ 48 k).toInt ∧ (σ 48 k).toInt ≤ 3) ∧ (∀ k : Nat, k < 12 → 0 ≤ (σ 49 k).toInt ∧ (σ 49 k).toInt ≤ 1) := id hI47
  have w20 : ∀ k : Nat, k < 6 → 0 ≤ (σ 52 k).toInt ∧ (σ 52 k).toInt ≤ 60 := hI50
  obtain ⟨i21, i22, i23, w24, w25, w26, w27⟩ : (0 ≤ (σ 55 5).toInt) ∧ ((σ 55 5).toInt ≤ (σ 55 4).toInt) ∧ ((σ 55 4).toInt ≤ 40) ∧ (∀ k : Nat, k < 68 → (-200) ≤ (σ 56 k).toInt ∧ (σ 56 k).toInt ≤ 500) ∧ (∀ k : Nat, k < 40 → 0 ≤ (σ 57 k).toInt ∧ (σ 57 k).toInt ≤ 67) ∧ (∀ k : Nat, k < 40 → (-200) ≤ (σ 58 k).toInt ∧ (σ 58 k).toInt ≤ 500) ∧ (∀ k : Nat, k < 40 → (-200) ≤ (σ 59 k).toInt ∧ (σ 59 k).toInt ≤ 500) := id hI101
  obtain ⟨i28, w29, w30⟩ : (0 ≤ (σ 55 6).toInt ∧ (σ 55 6).toInt ≤ 4) ∧ (∀ k : Nat, k < 4 → 0 ≤ (σ 60 k).toInt ∧ (σ 60 k).toInt ≤ 50) ∧ (∀ k : Nat, k < 4 → 0 ≤ (σ 61 k).toInt ∧ (σ 61 k).toInt ≤ 20) := id hI102
  obtain ⟨i31, i32, i33, w34, w35⟩ : (1 ≤ (σ 55 10).toInt ∧ (σ 55 10).toInt ≤ 8) ∧ (1 ≤ (σ 55 12).toInt ∧ (σ 55 12).toInt ≤ 12) ∧ (0 ≤ (σ 55 13).toInt ∧ (σ 55 13).toInt ≤ 999) ∧ (∀ k : Nat, k < 8 → 0 ≤ (σ 62 k).toInt ∧ (σ 62 k).toInt ≤ 3) ∧ (∀ k : Nat, k < 8 → 0 ≤ (σ 67 k).toInt ∧ (σ 67 k).toInt ≤ 3) := id hI104
  obtain ⟨i36, w37⟩ : (0 ≤ (σ 55 15).toInt ∧ (σ 55 15).toInt ≤ 80) ∧ (∀ k : Nat, k < 2 → (-1) ≤ (σ 65 k).toInt ∧ (σ 65 k).toInt ≤ 80) := id hI105
  obtain ⟨i38, w39, w40, w41⟩ : (0 ≤ (σ 55 32).toInt ∧ (σ 55 32).toInt ≤ 20) ∧ (∀ k : Nat, k < 20 → 0 ≤ (σ 70 k).toInt ∧ (σ 70 k).toInt ≤ 6) ∧ (∀ k : Nat, k < 20 → 0 ≤ (σ 71 k).toInt ∧ (σ 71 k).toInt ≤ 8) ∧ (∀ k : Nat, k < 160 → 0 ≤ (σ 72 k).toInt ∧ (σ 72 k).toInt ≤ 3) := id hI106
  obtain ⟨i42, i43, w44⟩ : (0 ≤ (σ 55 47).toInt ∧ (σ 55 47).toInt ≤ 12) ∧ ((σ 55 47).toInt ≤ (σ 55 12).toInt) ∧ (∀ k : Nat, k < 12 → 0 ≤ (σ 80 k).toInt ∧ (σ 80 k).toInt ≤ 3) := id hI107
  refine lv_aload_n hx hb dL_law_1334 rfl (lv_at hl 2 rfl) ?_
  refine lv_aload_n hx hb dL_law_1335 rfl (lv_at hl 3 rfl) ?_
  refine lv_iload_n hx hb dL_law_1336 rfl (lv_at hl 0 rfl) ?_
  refine lv_iconst (v := 1) hx hb dL_law_1337 (of_decide_eq_true rfl) ?_
  have g45 := jrg (rfl : x0.toInt = x0.toInt)
  refine lv_iadd hx hb dL_law_1338 ?_
  refine lv_topi (fun x46 ex46 => ?_)
  exact by
   have tx46 : x46.toInt = x0.toInt + 1 := (jadd ex46 rfl jz_1 (by omega) (by omega)).trans (by omega)
   refine va_sld hx hb hX hbl hbA hS (jin tx46 (by omega) (by omega)) dL_law_1339 ?_
   have g47 := jrg (rfl : (xs x46.toNatClampNeg).toInt = (xs x46.toNatClampNeg).toInt)
   refine jcallV (As := [.int (xs x46.toNatClampNeg)]) (rest := []) ⟨hx, hb, hml, hown, hts⟩ hK hP hA hS hZ (c_X11_count l D cI cL ad zz hJ σ τ (xs x46.toNatClampNeg) ((xs x46.toNatClampNeg).toInt) rfl hI2 hI9 hI38 hI47) cw_RL_166 (jc_0 cI cL ad σ τ) rfl ⟨Nat.le_of_ble_eq_true rfl, Nat.le_of_ble_eq_true rfl⟩ rfl rfl rfl hl.1 rfl (Nat.le_of_ble_eq_true rfl) dL_law_1340 ⟨Nat.le_of_ble_eq_true rfl, Nat.le_of_ble_eq_true rfl⟩ (fun r49 σ48 τ48 H locs h48 hP hS => ?_)
   obtain ⟨⟨rfl, rfl⟩, h48⟩ := h48
   rcases h48 with h50 | h51 | h52 | h53 | h54 | h55 | h56
   · obtain ⟨q59, k57, k58⟩ := h50
     refine lv_aload_n hx hb dL_law_1343 rfl (lv_at hl 1 rfl) ?_
     refine lv_aload_n hx hb dL_law_1344 rfl (lv_at hl 3 rfl) ?_
     exact by
      refine lv_iload_n hx hb dL_law_1345 rfl (lv_at hl 0 rfl) ?_
      refine lv_iconst (v := 1) hx hb dL_law_1346 (of_decide_eq_true rfl) ?_
      refine lv_iadd hx hb dL_law_1347 ?_
      refine jtopr ex46.symm ?_
      refine va_sld hx hb hX hbl hbA hS (jin tx46 (by omega) (by omega)) dL_law_1348 ?_
      refine jcallV (As := [.int (xs x46.toNatClampNeg)]) (rest := [.int r49]) ⟨hx, hb, hml, hown, hts⟩ hK hP hA hS hZ (c_X12_count l D cI cL ad zz hJ σ τ (xs x46.toNatClampNeg) ((xs x46.toNatClampNeg).toInt) rfl hI101 hI102 hI105 hI106 hI107) cw_RL_169 (jc_55 cI cL ad σ τ) rfl ⟨Nat.le_of_ble_eq_true rfl, Nat.le_of_ble_eq_true rfl⟩ rfl rfl rfl hl.1 rfl (Nat.le_of_ble_eq_true rfl) dL_law_1349 ⟨Nat.le_of_ble_eq_true rfl, Nat.le_of_ble_eq_true rfl⟩ (fun r61 σ60 τ60 H locs h60 hP hS => ?_)
      obtain ⟨⟨rfl, rfl⟩, h60⟩ := h60
      rcases h60 with h62 | h63 | h64 | h65 | h66 | h67 | h68
      · obtain ⟨q71, k69, k70⟩ := h62
        exact by
         refine lv_icmp_eq (tgt := 1357) hx hb dL_law_1352 (of_decide_eq_true rfl) (fun _ => ?_) (fun c => absurd (jsame (rfl : r49.toInt = r49.toInt) (rfl : r61.toInt = r61.toInt) (by omega)) c)
         obtain ⟨x72, ex72⟩ : ∃ y : Int32, y = x0 + 6 := ⟨_, rfl⟩
         have tx72 : x72.toInt = x0.toInt + 6 := (jadd ex72 rfl jz_6 (by omega) (by omega)).trans (by omega)
         refine lv_iinc (v := x72) (lv' := [(3, .int x72), (2, .ref (ad 55)), (1, .ref (ad 0)), (0, .ref b)]) hx hb dL_law_1357 hl (k := 0) rfl (by rw [ex72]; rfl) (of_decide_eq_true rfl) rfl (fun ls hl => ?_)
         refine lv_goto (tgt := 18) hx hb dL_law_1360 (of_decide_eq_true rfl) ?_
         exact by exact ih x72 σ τ _ _ ls (by have h9 := tx72; omega) ⟨hI2, hI9, hI12, hI16, hI18, hI22, hI31, hI38, hI43, hI47, hI50, hI101, hI102, hI103, hI104, hI105, hI106, hI107, hI109, hI110, hI111, hI119, hs_jKept, hs_jBook, (by omega), (by omega), (by omega), (by omega), (by omega), (by omega), (by omega), (by omega), (by omega), (by omega), (by omega), (by omega), hr0, hr1, hr2, hr3, hr4, hr5, hr6, hr7, hr8, hr9⟩ hP hS (lv_sub hl [0, 1, 2, 3] rfl)
      · obtain ⟨q75, k73, k74⟩ := h63
        exact absurd (by omega : False) id
      · obtain ⟨q78, k76, k77⟩ := h64
        exact absurd (by omega : False) id
      · exact by
         obtain ⟨q81, k79, k80⟩ := h65
         exact absurd (by omega : False) id
      · obtain ⟨q84, k82, k83⟩ := h66
        exact absurd (by omega : False) id
      · obtain ⟨q87, k85, k86⟩ := h67
        exact absurd (by omega : False) id
      · obtain ⟨q89, k88⟩ := h68
        exact absurd (by omega : False) id
   · obtain ⟨q92, k90, k91⟩ := h51
     refine lv_aload_n hx hb dL_law_1343 rfl (lv_at hl 1 rfl) ?_
     refine lv_aload_n hx hb dL_law_1344 rfl (lv_at hl 3 rfl) ?_
     refine lv_iload_n hx hb dL_law_1345 rfl (lv_at hl 0 rfl) ?_
     refine lv_iconst (v := 1) hx hb dL_law_1346 (of_decide_eq_true rfl) ?_
     refine lv_iadd hx hb dL_law_1347 ?_
     refine jtopr ex46.symm ?_
     exact by
      refine va_sld hx hb hX hbl hbA hS (jin tx46 (by omega) (by omega)) dL_law_1348 ?_
      refine jcallV (As := [.int (xs x46.toNatClampNeg)]) (rest := [.int r49]) ⟨hx, hb, hml, hown, hts⟩ hK hP hA hS hZ (c_X12_count l D cI cL ad zz hJ σ τ (xs x46.toNatClampNeg) ((xs x46.toNatClampNeg).toInt) rfl hI101 hI102 hI105 hI106 hI107) cw_RL_169 (jc_55 cI cL ad σ τ) rfl ⟨Nat.le_of_ble_eq_true rfl, Nat.le_of_ble_eq_true rfl⟩ rfl rfl rfl hl.1 rfl (Nat.le_of_ble_eq_true rfl) dL_law_1349 ⟨Nat.le_of_ble_eq_true rfl, Nat.le_of_ble_eq_true rfl⟩ (fun r94 σ93 τ93 H locs h93 hP hS => ?_)
      obtain ⟨⟨rfl, rfl⟩, h93⟩ := h93
      rcases h93 with h95 | h96 | h97 | h98 | h99 | h100 | h101
      · obtain ⟨q104, k102, k103⟩ := h95
        exact absurd (by omega : False) id
      · obtain ⟨q107, k105, k106⟩ := h96
        refine lv_icmp_eq (tgt := 1357) hx hb dL_law_1352 (of_decide_eq_true rfl) (fun _ => ?_) (fun c => absurd (jsame (rfl : r49.toInt = r49.toInt) (rfl : r94.toInt = r94.toInt) (by omega)) c)
        obtain ⟨x108, ex108⟩ : ∃ y : Int32, y = x0 + 6 := ⟨_, rfl⟩
        exact by
         have tx108 : x108.toInt = x0.toInt + 6 := (jadd ex108 rfl jz_6 (by omega) (by omega)).trans (by omega)
         refine lv_iinc (v := x108) (lv' := [(3, .int x108), (2, .ref (ad 55)), (1, .ref (ad 0)), (0, .ref b)]) hx hb dL_law_1357 hl (k := 0) rfl (by rw [ex108]; rfl) (of_decide_eq_true rfl) rfl (fun ls hl => ?_)
         refine lv_goto (tgt := 18) hx hb dL_law_1360 (of_decide_eq_true rfl) ?_
         exact by exact ih x108 σ τ _ _ ls (by have h9 := tx108; omega) ⟨hI2, hI9, hI12, hI16, hI18, hI22, hI31, hI38, hI43, hI47, hI50, hI101, hI102, hI103, hI104, hI105, hI106, hI107, hI109, hI110, hI111, hI119, hs_jKept, hs_jBook, (by omega), (by omega), (by omega), (by omega), (by omega), (by omega), (by omega), (by omega), (by omega), (by omega), (by omega), (by omega), hr0, hr1, hr2, hr3, hr4, hr5, hr6, hr7, hr8, hr9⟩ hP hS (lv_sub hl [0, 1, 2, 3] rfl)
      · obtain ⟨q111, k109, k110⟩ := h97
        exact absurd (by omega : False) id
      · obtain ⟨q114, k112, k113⟩ := h98
        exact absurd (by omega : False) id
      · obtain ⟨q117, k115, k116⟩ := h99
        exact absurd (by omega : False) id
      · exact by
         obtain ⟨q120, k118, k119⟩ := h100
         exact absurd (by omega : False) id
      · obtain ⟨q122, k121⟩ := h101
        exact absurd (by omega : False) id
   · obtain ⟨q125, k123, k124⟩ := h52
     refine lv_aload_n hx hb dL_law_1343 rfl (lv_at hl 1 rfl) ?_
     refine lv_aload_n hx hb dL_law_1344 rfl (lv_at hl 3 rfl) ?_
     refine lv_iload_n hx hb dL_law_1345 rfl (lv_at hl 0 rfl) ?_
     refine lv_iconst (v := 1) hx hb dL_law_1346 (of_decide_eq_true rfl) ?_
     refine lv_iadd hx hb dL_law_1347 ?_
     refine jtopr ex46.symm ?_
     exact by
      refine va_sld hx hb hX hbl hbA hS (jin tx46 (by omega) (by omega)) dL_law_1348 ?_
      refine jcallV (As := [.int (xs x46.toNatClampNeg)]) (rest := [.int r49]) ⟨hx, hb, hml, hown, hts⟩ hK hP hA hS hZ (c_X12_count l D cI cL ad zz hJ σ τ (xs x46.toNatClampNeg) ((xs x46.toNatClampNeg).toInt) rfl hI101 hI102 hI105 hI106 hI107) cw_RL_169 (jc_55 cI cL ad σ τ) rfl ⟨Nat.le_of_ble_eq_true rfl, Nat.le_of_ble_eq_true rfl⟩ rfl rfl rfl hl.1 rfl (Nat.le_of_ble_eq_true rfl) dL_law_1349 ⟨Nat.le_of_ble_eq_true rfl, Nat.le_of_ble_eq_true rfl⟩ (fun r127 σ126 τ126 H locs h126 hP hS => ?_)
      obtain ⟨⟨rfl, rfl⟩, h126⟩ := h126
      rcases h126 with h128 | h129 | h130 | h131 | h132 | h133 | h134
      · obtain ⟨q137, k135, k136⟩ := h128
        exact absurd (by omega : False) id
      · obtain ⟨q140, k138, k139⟩ := h129
        exact absurd (by omega : False) id
      · obtain ⟨q143, k141, k142⟩ := h130
        exact by
         refine lv_icmp_eq (tgt := 1357) hx hb dL_law_1352 (of_decide_eq_true rfl) (fun _ => ?_) (fun c => absurd (jsame (rfl : r49.toInt = r49.toInt) (rfl : r127.toInt = r127.toInt) (by omega)) c)
         obtain ⟨x144, ex144⟩ : ∃ y : Int32, y = x0 + 6 := ⟨_, rfl⟩
         have tx144 : x144.toInt = x0.toInt + 6 := (jadd ex144 rfl jz_6 (by omega) (by omega)).trans (by omega)
         refine lv_iinc (v := x144) (lv' := [(3, .int x144), (2, .ref (ad 55)), (1, .ref (ad 0)), (0, .ref b)]) hx hb dL_law_1357 hl (k := 0) rfl (by rw [ex144]; rfl) (of_decide_eq_true rfl) rfl (fun ls hl => ?_)
         refine lv_goto (tgt := 18) hx hb dL_law_1360 (of_decide_eq_true rfl) ?_
         exact by exact ih x144 σ τ _ _ ls (by have h9 := tx144; omega) ⟨hI2, hI9, hI12, hI16, hI18, hI22, hI31, hI38, hI43, hI47, hI50, hI101, hI102, hI103, hI104, hI105, hI106, hI107, hI109, hI110, hI111, hI119, hs_jKept, hs_jBook, (by omega), (by omega), (by omega), (by omega), (by omega), (by omega), (by omega), (by omega), (by omega), (by omega), (by omega), (by omega), hr0, hr1, hr2, hr3, hr4, hr5, hr6, hr7, hr8, hr9⟩ hP hS (lv_sub hl [0, 1, 2, 3] rfl)
      · obtain ⟨q147, k145, k146⟩ := h131
        exact absurd (by omega : False) id
      · obtain ⟨q150, k148, k149⟩ := h132
        exact absurd (by omega : False) id
      · exact by
         obtain ⟨q153, k151, k152⟩ := h133
         exact absurd (by omega : False) id
      · obtain ⟨q155, k154⟩ := h134
        exact absurd (by omega : False) id
   · obtain ⟨q158, k156, k157⟩ := h53
     refine lv_aload_n hx hb dL_law_1343 rfl (lv_at hl 1 rfl) ?_
     refine lv_aload_n hx hb dL_law_1344 rfl (lv_at hl 3 rfl) ?_
     refine lv_iload_n hx hb dL_law_1345 rfl (lv_at hl 0 rfl) ?_
     refine lv_iconst (v := 1) hx hb dL_law_1346 (of_decide_eq_true rfl) ?_
     refine lv_iadd hx hb dL_law_1347 ?_
     refine jtopr ex46.symm ?_
     exact by
      refine va_sld hx hb hX hbl hbA hS (jin tx46 (by omega) (by omega)) dL_law_1348 ?_
      refine jcallV (As := [.int (xs x46.toNatClampNeg)]) (rest := [.int r49]) ⟨hx, hb, hml, hown, hts⟩ hK hP hA hS hZ (c_X12_count l D cI cL ad zz hJ σ τ (xs x46.toNatClampNeg) ((xs x46.toNatClampNeg).toInt) rfl hI101 hI102 hI105 hI106 hI107) cw_RL_169 (jc_55 cI cL ad σ τ) rfl ⟨Nat.le_of_ble_eq_true rfl, Nat.le_of_ble_eq_true rfl⟩ rfl rfl rfl hl.1 rfl (Nat.le_of_ble_eq_true rfl) dL_law_1349 ⟨Nat.le_of_ble_eq_true rfl, Nat.le_of_ble_eq_true rfl⟩ (fun r160 σ159 τ159 H locs h159 hP hS => ?_)
      obtain ⟨⟨rfl, rfl⟩, h159⟩ := h159
      rcases h159 with h161 | h162 | h163 | h164 | h165 | h166 | h167
      · obtain ⟨q170, k168, k169⟩ := h161
        exact absurd (by omega : False) id
      · obtain ⟨q173, k171, k172⟩ := h162
        exact absurd (by omega : False) id
      · obtain ⟨q176, k174, k175⟩ := h163
        exact absurd (by omega : False) id
      · obtain ⟨q179, k177, k178⟩ := h164
        exact by
         refine lv_icmp_eq (tgt := 1357) hx hb dL_law_1352 (of_decide_eq_true rfl) (fun _ => ?_) (fun c => absurd (jsame (rfl : r49.toInt = r49.toInt) (rfl : r160.toInt = r160.toInt) (by omega)) c)
         obtain ⟨x180, ex180⟩ : ∃ y : Int32, y = x0 + 6 := ⟨_, rfl⟩
         have tx180 : x180.toInt = x0.toInt + 6 := (jadd ex180 rfl jz_6 (by omega) (by omega)).trans (by omega)
         refine lv_iinc (v := x180) (lv' := [(3, .int x180), (2, .ref (ad 55)), (1, .ref (ad 0)), (0, .ref b)]) hx hb dL_law_1357 hl (k := 0) rfl (by rw [ex180]; rfl) (of_decide_eq_true rfl) rfl (fun ls hl => ?_)
         refine lv_goto (tgt := 18) hx hb dL_law_1360 (of_decide_eq_true rfl) ?_
         exact by exact ih x180 σ τ _ _ ls (by have h9 := tx180; omega) ⟨hI2, hI9, hI12, hI16, hI18, hI22, hI31, hI38, hI43, hI47, hI50, hI101, hI102, hI103, hI104, hI105, hI106, hI107, hI109, hI110, hI111, hI119, hs_jKept, hs_jBook, (by omega), (by omega), (by omega), (by omega), (by omega), (by omega), (by omega), (by omega), (by omega), (by omega), (by omega), (by omega), hr0, hr1, hr2, hr3, hr4, hr5, hr6, hr7, hr8, hr9⟩ hP hS (lv_sub hl [0, 1, 2, 3] rfl)
      · obtain ⟨q183, k181, k182⟩ := h165
        exact absurd (by omega : False) id
      · obtain ⟨q186, k184, k185⟩ := h166
        exact absurd (by omega : False) id
      · exact by
         obtain ⟨q188, k187⟩ := h167
         exact absurd (by omega : False) id
   · obtain ⟨q191, k189, k190⟩ := h54
     refine lv_aload_n hx hb dL_law_1343 rfl (lv_at hl 1 rfl) ?_
     refine lv_aload_n hx hb dL_law_1344 rfl (lv_at hl 3 rfl) ?_
     refine lv_iload_n hx hb dL_law_1345 rfl (lv_at hl 0 rfl) ?_
     refine lv_iconst (v := 1) hx hb dL_law_1346 (of_decide_eq_true rfl) ?_
     refine lv_iadd hx hb dL_law_1347 ?_
     refine jtopr ex46.symm ?_
     exact by
      refine va_sld hx hb hX hbl hbA hS (jin tx46 (by omega) (by omega)) dL_law_1348 ?_
      refine jcallV (As := [.int (xs x46.toNatClampNeg)]) (rest := [.int r49]) ⟨hx, hb, hml, hown, hts⟩ hK hP hA hS hZ (c_X12_count l D cI cL ad zz hJ σ τ (xs x46.toNatClampNeg) ((xs x46.toNatClampNeg).toInt) rfl hI101 hI102 hI105 hI106 hI107) cw_RL_169 (jc_55 cI cL ad σ τ) rfl ⟨Nat.le_of_ble_eq_true rfl, Nat.le_of_ble_eq_true rfl⟩ rfl rfl rfl hl.1 rfl (Nat.le_of_ble_eq_true rfl) dL_law_1349 ⟨Nat.le_of_ble_eq_true rfl, Nat.le_of_ble_eq_true rfl⟩ (fun r193 σ192 τ192 H locs h192 hP hS => ?_)
      obtain ⟨⟨rfl, rfl⟩, h192⟩ := h192
      rcases h192 with h194 | h195 | h196 | h197 | h198 | h199 | h200
      · obtain ⟨q203, k201, k202⟩ := h194
        exact absurd (by omega : False) id
      · obtain ⟨q206, k204, k205⟩ := h195
        exact absurd (by omega : False) id
      · obtain ⟨q209, k207, k208⟩ := h196
        exact absurd (by omega : False) id
      · obtain ⟨q212, k210, k211⟩ := h197
        exact absurd (by omega : False) id
      · obtain ⟨q215, k213, k214⟩ := h198
        exact by
         refine lv_icmp_eq (tgt := 1357) hx hb dL_law_1352 (of_decide_eq_true rfl) (fun _ => ?_) (fun c => absurd (jsame (rfl : r49.toInt = r49.toInt) (rfl : r193.toInt = r193.toInt) (by omega)) c)
         obtain ⟨x216, ex216⟩ : ∃ y : Int32, y = x0 + 6 := ⟨_, rfl⟩
         have tx216 : x216.toInt = x0.toInt + 6 := (jadd ex216 rfl jz_6 (by omega) (by omega)).trans (by omega)
         refine lv_iinc (v := x216) (lv' := [(3, .int x216), (2, .ref (ad 55)), (1, .ref (ad 0)), (0, .ref b)]) hx hb dL_law_1357 hl (k := 0) rfl (by rw [ex216]; rfl) (of_decide_eq_true rfl) rfl (fun ls hl => ?_)
         refine lv_goto (tgt := 18) hx hb dL_law_1360 (of_decide_eq_true rfl) ?_
         exact by exact ih x216 σ τ _ _ ls (by have h9 := tx216; omega) ⟨hI2, hI9, hI12, hI16, hI18, hI22, hI31, hI38, hI43, hI47, hI50, hI101, hI102, hI103, hI104, hI105, hI106, hI107, hI109, hI110, hI111, hI119, hs_jKept, hs_jBook, (by omega), (by omega), (by omega), (by omega), (by omega), (by omega), (by omega), (by omega), (by omega), (by omega), (by omega), (by omega), hr0, hr1, hr2, hr3, hr4, hr5, hr6, hr7, hr8, hr9⟩ hP hS (lv_sub hl [0, 1, 2, 3] rfl)
      · obtain ⟨q219, k217, k218⟩ := h199
        exact absurd (by omega : False) id
      · obtain ⟨q221, k220⟩ := h200
        exact absurd (by omega : False) id
   · exact by
      obtain ⟨q224, k222, k223⟩ := h55
      refine lv_aload_n hx hb dL_law_1343 rfl (lv_at hl 1 rfl) ?_
      refine lv_aload_n hx hb dL_law_1344 rfl (lv_at hl 3 rfl) ?_
      refine lv_iload_n hx hb dL_law_1345 rfl (lv_at hl 0 rfl) ?_
      refine lv_iconst (v := 1) hx hb dL_law_1346 (of_decide_eq_true rfl) ?_
      refine lv_iadd hx hb dL_law_1347 ?_
      refine jtopr ex46.symm ?_
      refine va_sld hx hb hX hbl hbA hS (jin tx46 (by omega) (by omega)) dL_law_1348 ?_
      refine jcallV (As := [.int (xs x46.toNatClampNeg)]) (rest := [.int r49]) ⟨hx, hb, hml, hown, hts⟩ hK hP hA hS hZ (c_X12_count l D cI cL ad zz hJ σ τ (xs x46.toNatClampNeg) ((xs x46.toNatClampNeg).toInt) rfl hI101 hI102 hI105 hI106 hI107) cw_RL_169 (jc_55 cI cL ad σ τ) rfl ⟨Nat.le_of_ble_eq_true rfl, Nat.le_of_ble_eq_true rfl⟩ rfl rfl rfl hl.1 rfl (Nat.le_of_ble_eq_true rfl) dL_law_1349 ⟨Nat.le_of_ble_eq_true rfl, Nat.le_of_ble_eq_true rfl⟩ (fun r226 σ225 τ225 H locs h225 hP hS => ?_)
      exact by
       obtain ⟨⟨rfl, rfl⟩, h225⟩ := h225
       rcases h225 with h227 | h228 | h229 | h230 | h231 | h232 | h233
       · obtain ⟨q236, k234, k235⟩ := h227
         exact absurd (by omega : False) id
       · obtain ⟨q239, k237, k238⟩ := h228
         exact absurd (by omega : False) id
       · obtain ⟨q242, k240, k241⟩ := h229
         exact absurd (by omega : False) id
       · obtain ⟨q245, k243, k244⟩ := h230
         exact absurd (by omega : False) id
       · obtain ⟨q248, k246, k247⟩ := h231
         exact absurd (by omega : False) id
       · obtain ⟨q251, k249, k250⟩ := h232
         exact by
          refine lv_icmp_eq (tgt := 1357) hx hb dL_law_1352 (of_decide_eq_true rfl) (fun _ => ?_) (fun c => absurd (jsame (rfl : r49.toInt = r49.toInt) (rfl : r226.toInt = r226.toInt) (by omega)) c)
          obtain ⟨x252, ex252⟩ : ∃ y : Int32, y = x0 + 6 := ⟨_, rfl⟩
          have tx252 : x252.toInt = x0.toInt + 6 := (jadd ex252 rfl jz_6 (by omega) (by omega)).trans (by omega)
          refine lv_iinc (v := x252) (lv' := [(3, .int x252), (2, .ref (ad 55)), (1, .ref (ad 0)), (0, .ref b)]) hx hb dL_law_1357 hl (k := 0) rfl (by rw [ex252]; rfl) (of_decide_eq_true rfl) rfl (fun ls hl => ?_)
          refine lv_goto (tgt := 18) hx hb dL_law_1360 (of_decide_eq_true rfl) ?_
          exact by exact ih x252 σ τ _ _ ls (by have h9 := tx252; omega) ⟨hI2, hI9, hI12, hI16, hI18, hI22, hI31, hI38, hI43, hI47, hI50, hI101, hI102, hI103, hI104, hI105, hI106, hI107, hI109, hI110, hI111, hI119, hs_jKept, hs_jBook, (by omega), (by omega), (by omega), (by omega), (by omega), (by omega), (by omega), (by omega), (by omega), (by omega), (by omega), (by omega), hr0, hr1, hr2, hr3, hr4, hr5, hr6, hr7, hr8, hr9⟩ hP hS (lv_sub hl [0, 1, 2, 3] rfl)
       · obtain ⟨q254, k253⟩ := h233
         exact absurd (by omega : False) id
   · obtain ⟨q256, k255⟩ := h56
     exact by
      have q256 := q256.symm
      subst q256
      refine lv_aload_n hx hb dL_law_1343 rfl (lv_at hl 1 rfl) ?_
      refine lv_aload_n hx hb dL_law_1344 rfl (lv_at hl 3 rfl) ?_
      refine lv_iload_n hx hb dL_law_1345 rfl (lv_at hl 0 rfl) ?_
      refine lv_iconst (v := 1) hx hb dL_law_1346 (of_decide_eq_true rfl) ?_
      refine lv_iadd hx hb dL_law_1347 ?_
      refine jtopr ex46.symm ?_
      refine va_sld hx hb hX hbl hbA hS (jin tx46 (by omega) (by omega)) dL_law_1348 ?_
      exact by
       refine jcallV (As := [.int (xs x46.toNatClampNeg)]) (rest := [.int (-1)]) ⟨hx, hb, hml, hown, hts⟩ hK hP hA hS hZ (c_X12_count l D cI cL ad zz hJ σ τ (xs x46.toNatClampNeg) ((xs x46.toNatClampNeg).toInt) rfl hI101 hI102 hI105 hI106 hI107) cw_RL_169 (jc_55 cI cL ad σ τ) rfl ⟨Nat.le_of_ble_eq_true rfl, Nat.le_of_ble_eq_true rfl⟩ rfl rfl rfl hl.1 rfl (Nat.le_of_ble_eq_true rfl) dL_law_1349 ⟨Nat.le_of_ble_eq_true rfl, Nat.le_of_ble_eq_true rfl⟩ (fun r258 σ257 τ257 H locs h257 hP hS => ?_)
       obtain ⟨⟨rfl, rfl⟩, h257⟩ := h257
       rcases h257 with h259 | h260 | h261 | h262 | h263 | h264 | h265
       · obtain ⟨q268, k266, k267⟩ := h259
         exact absurd (by omega : False) id
       · obtain ⟨q271, k269, k270⟩ := h260
         exact absurd (by omega : False) id
       · obtain ⟨q274, k272, k273⟩ := h261
         exact absurd (by omega : False) id
       · obtain ⟨q277, k275, k276⟩ := h262
         exact absurd (by omega : False) id
       · obtain ⟨q280, k278, k279⟩ := h263
         exact absurd (by omega : False) id
       · obtain ⟨q283, k281, k282⟩ := h264
         exact absurd (by omega : False) id
       · obtain ⟨q285, k284⟩ := h265
         have q285 := q285.symm
         subst q285
         refine lv_icmp_eq (tgt := 1357) hx hb dL_law_1352 (of_decide_eq_true rfl) (fun _ => ?_) (fun c => absurd (rfl) c)
         obtain ⟨x286, ex286⟩ : ∃ y : Int32, y = x0 + 6 := ⟨_, rfl⟩
         exact by
          have tx286 : x286.toInt = x0.toInt + 6 := (jadd ex286 rfl jz_6 (by omega) (by omega)).trans (by omega)
          refine lv_iinc (v := x286) (lv' := [(3, .int x286), (2, .ref (ad 55)), (1, .ref (ad 0)), (0, .ref b)]) hx hb dL_law_1357 hl (k := 0) rfl (by rw [ex286]; rfl) (of_decide_eq_true rfl) rfl (fun ls hl => ?_)
          refine lv_goto (tgt := 18) hx hb dL_law_1360 (of_decide_eq_true rfl) ?_
          exact by exact ih x286 σ τ _ _ ls (by have h9 := tx286; omega) ⟨hI2, hI9, hI12, hI16, hI18, hI22, hI31, hI38, hI43, hI47, hI50, hI101, hI102, hI103, hI104, hI105, hI106, hI107, hI109, hI110, hI111, hI119, hs_jKept, hs_jBook, (by omega), (by omega), (by omega), (by omega), (by omega), (by omega), (by omega), (by omega), (by omega), (by omega), (by omega), (by omega), hr0, hr1, hr2, hr3, hr4, hr5, hr6, hr7, hr8, hr9⟩ hP hS (lv_sub hl [0, 1, 2, 3] rfl)
set_option maxHeartbeats 4000000 in
set_option maxRecDepth 100000 in
theorem law_case_37 {p : Program} {e : Env} {s : State} {m : MethodId} {below : List Frame} {meth : Method} {c : Code} (l : Launch) {b L : Nat} {xs : Nat → Int32} {D : va_G} {cI cL : ClassId} {ad zz : Nat → Nat} (C0 : lw_At p s m meth c b L xs) (hJ : jD ad) (hA : ∀ q, jA ad q → s.heap.size ≤ q) (hK : jK D cI cL s) (hZ : jZ zz (fun q : Nat => s.heap.size ≤ q) s s.heap) {x0 : Int32} (hx0 : 0 ≤ x0.toInt) (hxL : x0.toInt + 6 ≤ (L : Int)) (hL : L ≤ 384) {σ : Nat → Nat → Int32} {τ : Nat → Nat → Int64} {H : Heap} {locs : List Loc} (hS : va_S (fun q : Nat => s.heap.size ≤ q) s.heap H locs) {ls : Array Slot} (hAll : jAll σ τ) (hP : jH D cI cL ad σ τ H) (hl : lv_has ls 4 [(3, .int x0), (2, .ref (ad 55)), (1, .ref (ad 0)), (0, .ref b)]) (ih : ∀ (x1 : Int32) (σ : Nat → Nat → Int32) (τ : Nat → Nat → Int64) (H : Heap) (locs : List Loc) (ls : Array Slot), x1.toInt = x0.toInt + 6 → jAll σ τ → jH D cI cL ad σ τ H → va_S (fun q : Nat => s.heap.size ≤ q) s.heap H locs → lv_has ls 4 [(3, .int x1), (2, .ref (ad 55)), (1, .ref (ad 0)), (0, .ref b)] → W p l e room_1 s m #[Value.ref b] below meth c H locs 90 348600 (lw_Z below #[Value.ref b] s) (F0 m 18 ls [])) : W p l e room_1 s m #[Value.ref b] below meth c H locs 90 348600 (lw_Z below #[Value.ref b] s) (F0 m 1357 ls []) := by
  obtain ⟨hx, hb, hr, hml, hown, hts0, hX, hbl, hlocks, hgv⟩ := C0
  have hts : ∀ w ∈ wsL_law, w.before #[Value.ref b] s = true := fun w h => hts0 w (wsL_law_in w h)
  have hbA : ¬ (fun q : Nat => s.heap.size ≤ q) b := Nat.not_le.mpr hbl
  have hown : s.vm.findClass RL = some m.cls := hown
  obtain ⟨hI2, hI9, hI12, hI16, hI18, hI22, hI31, hI38, hI43, hI47, hI50, hI101, hI102, hI103, hI104, hI105, hI106, hI107, hI109, hI110, hI111, hI119, hs_jKept, hs_jBook, ht0, ht1, ht2, ht3, ht4, ht5, ht6, ht7, ht8, ht9, ht10, ht11, hr0, hr1, hr2, hr3, hr4, hr5, hr6, hr7, hr8, hr9⟩ := hAll
  have hL9 : (L : Int) ≤ 384 := by omega
  obtain ⟨i1, i2, i3, i4, i5, w6⟩ : (0 ≤ (σ 2 0).toInt ∧ (σ 2 0).toInt ≤ 4) ∧ (0 ≤ (σ 2 1).toInt ∧ (σ 2 1).toInt ≤ 3) ∧ (0 ≤ (σ 2 2).toInt) ∧ (0 ≤ (σ 2 3).toInt) ∧ ((σ 2 2).toInt + (σ 2 3).toInt ≤ 40) ∧ (∀ k : Nat, k < 40 → 0 ≤ (σ 6 k).toInt ∧ (σ 6 k).toInt ≤ 67) := id hI2
  obtain ⟨i7, w8, w9⟩ : (0 ≤ (σ 9 0).toInt ∧ (σ 9 0).toInt ≤ 80) ∧ (∀ k : Nat, k < 80 → 0 ≤ (σ 10 k).toInt ∧ (σ 10 k).toInt ≤ 255) ∧ (∀ k : Nat, k < 8 → 0 ≤ (σ 11 k).toInt ∧ (σ 11 k).toInt ≤ 3) := id hI9
  obtain ⟨i10, i11, i12, w13⟩ : (1 ≤ (σ 16 0).toInt ∧ (σ 16 0).toInt ≤ 8) ∧ (1 ≤ (σ 16 1).toInt ∧ (σ 16 1).toInt ≤ 12) ∧ (0 ≤ (σ 16 2).toInt ∧ (σ 16 2).toInt ≤ 999) ∧ (∀ k : Nat, k < 8 → 0 ≤ (σ 17 k).toInt ∧ (σ 17 k).toInt ≤ 3) := id hI16
  obtain ⟨i14, i15, w16⟩ : (0 ≤ (σ 38 0).toInt ∧ (σ 38 0).toInt ≤ 20) ∧ (0 ≤ (σ 38 1).toInt ∧ (σ 38 1).toInt ≤ 1000) ∧ (∀ k : Nat, k < 20 → 0 ≤ (σ 39 k).toInt ∧ (σ 39 k).toInt ≤ 6) := id hI38
  obtain ⟨i17, w18, w19⟩ : (0 ≤ (σ 47 0).toInt ∧ (σ 47 0).toInt ≤ 12) ∧ (∀ k : Nat, k < 12 → 0 ≤ (σ 48 k).toInt ∧ (σ 48 k).toInt ≤ 3) ∧ (∀ k : Nat, k < 12 → 0 ≤ (σ 49 k).toInt ∧ (σ 49 k).toInt ≤ 1) := id hI47
  have w20 : ∀ k : Nat, k < 6 → 0 ≤ (σ 52 k).toInt ∧ (σ 52 k).toInt ≤ 60 := hI50
  obtain ⟨i21, i22, i23, w24, w25, w26, w27⟩ : (0 ≤ (σ 55 5).toInt) ∧ ((σ 55 5).toInt ≤ (σ 55 4).toInt) ∧ ((σ 55 4).toInt ≤ 40) ∧ (∀ k : Nat, k < 68 → (-200) ≤ (σ 56 k).toInt ∧ (σ 56 k).toInt ≤ 500) ∧ (∀ k : Nat, k < 40 → 0 ≤ (σ 57 k).toInt ∧ (σ 57 k).toInt ≤ 67) ∧ (∀ k : Nat, k < 40 → (-200) ≤ (σ 58 k).toInt ∧ (σ 58 k).toInt ≤ 500) ∧ (∀ k : Nat, k < 40 → (-200) ≤ (σ 59 k).toInt ∧ (σ 59 k).toInt ≤ 500) := id hI101
  obtain ⟨i28, w29, w30⟩ : (0 ≤ (σ 55 6).toInt ∧ (σ 55 6).toInt ≤ 4) ∧ (∀ k : Nat, k < 4 → 0 ≤ (σ 60 k).toInt ∧ (σ 60 k).toInt ≤ 50) ∧ (∀ k : Nat, k < 4 → 0 ≤ (σ 61 k).toInt ∧ (σ 61 k).toInt ≤ 20) := id hI102
  obtain ⟨i31, i32, i33, w34, w35⟩ : (1 ≤ (σ 55 10).toInt ∧ (σ 55 10).toInt ≤ 8) ∧ (1 ≤ (σ 55 12).toInt ∧ (σ 55 12).toInt ≤ 12) ∧ (0 ≤ (σ 55 13).toInt ∧ (σ 55 13).toInt ≤ 999) ∧ (∀ k : Nat, k < 8 → 0 ≤ (σ 62 k).toInt ∧ (σ 62 k).toInt ≤ 3) ∧ (∀ k : Nat, k < 8 → 0 ≤ (σ 67 k).toInt ∧ (σ 67 k).toInt ≤ 3) := id hI104
  obtain ⟨i36, w37⟩ : (0 ≤ (σ 55 15).toInt ∧ (σ 55 15).toInt ≤ 80) ∧ (∀ k : Nat, k < 2 → (-1) ≤ (σ 65 k).toInt ∧ (σ 65 k).toInt ≤ 80) := id hI105
  obtain ⟨i38, w39, w40, w41⟩ : (0 ≤ (σ 55 32).toInt ∧ (σ 55 32).toInt ≤ 20) ∧ (∀ k : Nat, k < 20 → 0 ≤ (σ 70 k).toInt ∧ (σ 70 k).toInt ≤ 6) ∧ (∀ k : Nat, k < 20 → 0 ≤ (σ 71 k).toInt ∧ (σ 71 k).toInt ≤ 8) ∧ (∀ k : Nat, k < 160 → 0 ≤ (σ 72 k).toInt ∧ (σ 72 k).toInt ≤ 3) := id hI106
  obtain ⟨i42, i43, w44⟩ : (0 ≤ (σ 55 47).toInt ∧ (σ 55 47).toInt ≤ 12) ∧ ((σ 55 47).toInt ≤ (σ 55 12).toInt) ∧ (∀ k : Nat, k < 12 → 0 ≤ (σ 80 k).toInt ∧ (σ 80 k).toInt ≤ 3) := id hI107
  obtain ⟨x45, ex45⟩ : ∃ y : Int32, y = x0 + 6 := ⟨_, rfl⟩
  exact by
   have tx45 : x45.toInt = x0.toInt + 6 := (jadd ex45 rfl jz_6 (by omega) (by omega)).trans (by omega)
   refine lv_iinc (v := x45) (lv' := [(3, .int x45), (2, .ref (ad 55)), (1, .ref (ad 0)), (0, .ref b)]) hx hb dL_law_1357 hl (k := 0) rfl (by rw [ex45]; rfl) (of_decide_eq_true rfl) rfl (fun ls hl => ?_)
   refine lv_goto (tgt := 18) hx hb dL_law_1360 (of_decide_eq_true rfl) ?_
   exact by exact ih x45 σ τ _ _ ls (by have h9 := tx45; omega) ⟨hI2, hI9, hI12, hI16, hI18, hI22, hI31, hI38, hI43, hI47, hI50, hI101, hI102, hI103, hI104, hI105, hI106, hI107, hI109, hI110, hI111, hI119, hs_jKept, hs_jBook, (by omega), (by omega), (by omega), (by omega), (by omega), (by omega), (by omega), (by omega), (by omega), (by omega), (by omega), (by omega), hr0, hr1, hr2, hr3, hr4, hr5, hr6, hr7, hr8, hr9⟩ hP hS (lv_sub hl [0, 1, 2, 3] rfl)
