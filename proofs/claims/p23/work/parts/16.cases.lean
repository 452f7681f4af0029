set_option maxHeartbeats 4000000 in
set_option maxRecDepth 100000 in
theorem law_case_19 {p : Program} {e : Env} {s : State} {m : MethodId} {below : List Frame} {meth : Method} {c : Code} (l : Launch) {b L : Nat} {xs : Nat → Int32} {D : va_G} {cI cL : ClassId} {ad zz : Nat → Nat} (C0 : lw_At p s m meth c b L xs) (hJ : jD ad) (hA : ∀ q, jA ad q → s.heap.size ≤ q) (hK : jK D cI cL s) (hZ : jZ zz (fun q : Nat => s.heap.size ≤ q) s s.heap) {x0 : Int32} (hx0 : 0 ≤ x0.toInt) (hxL : x0.toInt + 6 ≤ (L : Int)) (hL : L ≤ 384) {σ : Nat → Nat → Int32} {τ : Nat → Nat → Int64} {H : Heap} {locs : List Loc} (hS : va_S (fun q : Nat => s.heap.size ≤ q) s.heap H locs) {ls : Array Slot} (hAll : jAll σ τ) (hP : jH D cI cL ad σ τ H) (hl : lv_has ls 4 [(3, .int x0), (2, .ref (ad 55)), (1, .ref (ad 0)), (0, .ref b)]) (ih : ∀ (x1 : Int32) (σ : Nat → Nat → Int32) (τ : Nat → Nat → Int64) (H : Heap) (locs : List Loc) (ls : Array Slot), x1.toInt = x0.toInt + 6 → jAll σ τ → jH D cI cL ad σ τ H → va_S (fun q : Nat => s.heap.size ≤ q) s.heap H locs → lv_has ls 4 [(3, .int x1), (2, .ref (ad 55)), (1, .ref (ad 0)), (0, .ref b)] → W p l e room_1 s m #[Value.ref b] below meth c H locs 90 348600 (lw_Z below #[Value.ref b] s) (F0 m 18 ls [])) : W p l e room_1 s m #[Value.ref b] below meth c H locs 90 348600 (lw_Z below #[Value.ref b] s) (F0 m 773 ls []) := by
  obtain ⟨hx, hb, hr, hml, hown, hts0, hX, hbl, hlocks, hgv⟩ := C0
  have hts : ∀ w ∈ wsL_law, w.before #[Value.ref b] s = true := fun w h => hts0 w (wsL_law_in w h)
  have hbA : ¬ (fun q : Nat => s.heap.size ≤ q) b := Nat.not_le.mpr hbl
  have hown : s.vm.findClass RL = some m.cls := hown
  obtain ⟨hI2, hI9, hI12, hI16, hI18, hI22, hI31, hI38, hI43, hI47, hI50, hI101, hI102, hI103, hI104, hI105, hI106, hI107, hI109, hI110, hI111, hI119, hs_jKept, hs_jBook, ht0, ht1, ht2, ht3, ht4, ht5, ht6, ht7, ht8, ht9, ht10, hr0, hr1, hr2, hr3, hr4, hr5, hr6, hr7⟩ := hAll
  have hL9 : (L : Int) ≤ 384 := by omega
  obtain ⟨i1, i2, i3, i4, i5, w6⟩ : (0 ≤ (σ 2 0).toInt ∧ (σ 2 0).toInt ≤ 4) ∧ (0 ≤ (σ 2 1).toInt ∧ (σ 2 1).toInt ≤ 3) ∧ (0 ≤ (σ 2 2).toInt) ∧ (0 ≤ (σ 2 3).toInt) ∧ ((σ 2 2).toInt + (σ 2 3).toInt ≤ 40) ∧ (∀ k : Nat, k < 40 → 0 ≤ (σ 6 k).toInt ∧ (σ 6 k).toInt ≤ 67) := id hI2
  obtain ⟨i7, w8, w9⟩ : (0 ≤ (σ 9 0).toInt ∧ (σ 9 0).toInt ≤ 80) ∧ (∀ k : Nat, k < 80 → 0 ≤ (σ 10 k).toInt ∧ (σ 10 k).toInt ≤ 255) ∧ (∀ k : Nat, k < 8 → 0 ≤ (σ 11 k).toInt ∧ (σ 11 k).toInt ≤ 3) := id hI9
  obtain ⟨i10, i11, i12, w13⟩ : (1 ≤ (σ 16 0).toInt ∧ (σ 16 0).toInt ≤ 8) ∧ (1 ≤ (σ 16 1).toInt ∧ (σ 16 1).toInt ≤ 12) ∧ (0 ≤ (σ 16 2).toInt ∧ (σ 16 2).toInt ≤ 999) ∧ (∀ k : Nat, k < 8 → 0 ≤ (σ 17 k).toInt ∧ (σ 17 k).toInt ≤ 3) := id hI16
  obtain ⟨i14, i15, w16⟩ : (0 ≤ (σ 38 0).toInt ∧ (σ 38 0).toInt ≤ 20) ∧ (0 ≤ (σ 38 1).toInt ∧ (σ 38 1).toInt ≤ 1000) ∧ (∀ k : Nat, k < 20 → 0 ≤ (σ 39 k).toInt ∧ (σ 39 k).toInt ≤ 6) := id hI38
  obtain ⟨i17, w18, w19⟩ : (0 ≤ (σ 47 0).toInt ∧ (σ 47 0).toInt ≤ 12) ∧ (∀ k : Nat, k < 12 → 0 ≤ (σ 48 k).toInt ∧ (σ 48 k).toInt ≤ 3) ∧ (∀ k : Nat, k < 12 → 0 ≤ (σ 49 k).toInt ∧ (σ 49 k).toInt ≤ 1) := id hI47
  have w20 : ∀ k : Nat, k < 6 → 0 ≤ (σ 52 k).toInt ∧ (σ 52 k).toInt ≤ 60 := hI50
  obtain ⟨i21, i22, i23, w24, w25, w26, w27⟩ : (0 ≤ (σ 55 5).toInt) ∧ ((σ 55 5).toInt ≤ (σ 55 4).toInt) ∧ ((σ 55 4).toInt ≤ 40) ∧ (∀ k : Nat, k < 68 → (-200) ≤ (σ 56 k).toInt ∧ (σ 56 k).toInt ≤ 500) ∧ (∀ k : Nat, k < 40 → 0 ≤ (σ 57 k).toInt ∧ (σ 57 k).toInt ≤ 67) ∧ (∀ k : Nat, k < 40 → (-200) ≤ (σ 58 k).toInt ∧ (σ 58 k).toInt ≤ 500) ∧ (∀ k : Nat, k < 40 → (-200) ≤ (σ 59 k).toInt ∧ (σ 59 k).toInt ≤ 500) := id hI101
  obtain ⟨i28, w29, w30⟩ : (0 ≤ (σ 55 6).toInt ∧ (σ 55 6).toInt ≤ 4) ∧ (∀ k : Nat, k < 4 → 0 ≤ (σ 60 k).toInt ∧ (σ 60 k).toInt ≤ 50) ∧ (∀ k : Nat, k < 4 → 0 ≤ (σ 61 k).toInt ∧ (σ 61 k).toInt ≤ 20) := id hI102
  obtain ⟨i31, i32, i33, w34, w35⟩ : (1 ≤ (σ 55 10).toInt ∧ (σ 55 10).toInt ≤ 8) ∧ (1 ≤ (σ 55 12).toInt ∧ (σ 55 12).toInt ≤ 12) ∧ (0 ≤ (σ 55 13).toInt ∧ (σ 55 13).toInt ≤ 999) ∧ (∀ k : Nat, k < 8 → 0 ≤ (σ 62 k).toInt ∧ (σ 62 k).toInt ≤ 3) ∧ (∀ k : Nat, k < 8 → 0 ≤ (σ 67 k).toInt ∧ (σ 67 k).toInt ≤ 3) := id hI104
  obtain ⟨i36, w37⟩ : (0 ≤ (σ 55 15).toInt ∧ (σ 55 15).toInt ≤ 80) ∧ (∀ k : Nat, k < 2 → (-1) ≤ (σ 65 k).toInt ∧ (σ 65 k).toInt ≤ 80) := id hI105
  obtain ⟨i38, w39, w40, w41⟩ : (0 ≤ (σ 55 32).toInt ∧ (σ 55 32).toInt ≤ 20) ∧ (∀ k : Nat, k < 20 → 0 ≤ (σ 70 k).toInt ∧ (σ 70 k).toInt ≤ 6) ∧ (∀ k : Nat, k < 20 → 0 ≤ (σ 71 k).toInt ∧ (σ 71 k).toInt ≤ 8) ∧ (∀ k : Nat, k < 160 → 0 ≤ (σ 72 k).toInt ∧ (σ 72 k).toInt ≤ 3) := id hI106
  obtain ⟨i42, i43, w44⟩ : (0 ≤ (σ 55 47).toInt ∧ (σ 55 47).toInt ≤ 12) ∧ ((σ 55 47).toInt ≤ (σ 55 12).toInt) ∧ (∀ k : Nat, k < 12 → 0 ≤ (σ 80 k).toInt ∧ (σ 80 k).toInt ≤ 3) := id hI107
  refine lv_aload_n hx hb dL_law_773 rfl (lv_at hl 2 rfl) ?_
  refine lv_aload_n hx hb dL_law_774 rfl (lv_at hl 3 rfl) ?_
  refine lv_iload_n hx hb dL_law_775 rfl (lv_at hl 0 rfl) ?_
  refine lv_iconst (v := 1) hx hb dL_law_776 (by decide) ?_
  have g45 := jrg (rfl : x0.toInt = x0.toInt)
  refine lv_iadd hx hb dL_law_777 ?_
  refine lv_topi (fun x46 ex46 => ?_)
  have tx46 : x46.toInt = x0.toInt + 1 := (jadd ex46 rfl jz_1 (by omega) (by omega)).trans (by omega)
  refine va_sld hx hb hX hbl hbA hS (jin tx46 (by omega) (by omega)) dL_law_778 ?_
  have g47 := jrg (rfl : (xs x46.toNatClampNeg).toInt = (xs x46.toNatClampNeg).toInt)
  refine lv_aload_n hx hb dL_law_779 rfl (lv_at hl 3 rfl) ?_
  refine lv_iload_n hx hb dL_law_780 rfl (lv_at hl 0 rfl) ?_
  refine lv_iconst (v := 2) hx hb dL_law_781 (by decide) ?_
  refine lv_iadd hx hb dL_law_782 ?_
  refine lv_topi (fun x48 ex48 => ?_)
  have tx48 : x48.toInt = x0.toInt + 2 := (jadd ex48 rfl jz_2 (by omega) (by omega)).trans (by omega)
  refine va_sld hx hb hX hbl hbA hS (jin tx48 (by omega) (by omega)) dL_law_783 ?_
  have g49 := jrg (rfl : (xs x48.toNatClampNeg).toInt = (xs x48.toNatClampNeg).toInt)
  refine jcallV (As := [.int (xs x46.toNatClampNeg), .int (xs x48.toNatClampNeg)]) (rest := []) ⟨hx, hb, hml, hown, hts⟩ hK hP hA hS hZ (c_X11_book l D cI cL ad zz hJ σ τ (xs x46.toNatClampNeg) ((xs x46.toNatClampNeg).toInt) rfl (xs x48.toNatClampNeg) ((xs x48.toNatClampNeg).toInt) rfl hI2 hI16 hI47) cw_RL_93 (jc_0 cI cL ad σ τ) rfl ⟨Nat.le_of_ble_eq_true rfl, Nat.le_of_ble_eq_true rfl⟩ rfl rfl rfl hl.1 rfl (Nat.le_of_ble_eq_true rfl) dL_law_784 ⟨Nat.le_of_ble_eq_true rfl, Nat.le_of_ble_eq_true rfl⟩ (fun r51 σ50 τ50 H locs h50 hP hS => ?_)
  obtain ⟨rfl, f52, f53, I54, w55, h50⟩ := h50
  obtain ⟨i57, w58, w59⟩ : (0 ≤ (σ50 47 0).toInt ∧ (σ50 47 0).toInt ≤ 12) ∧ (∀ k : Nat, k < 12 → 0 ≤ (σ50 48 k).toInt ∧ (σ50 48 k).toInt ≤ 3) ∧ (∀ k : Nat, k < 12 → 0 ≤ (σ50 49 k).toInt ∧ (σ50 49 k).toInt ≤ 1) := id I54
  refine lv_pop hx hb dL_law_787 rfl ?_
  refine lv_aload_n hx hb dL_law_788 rfl (lv_at hl 1 rfl) ?_
  refine lv_aload_n hx hb dL_law_789 rfl (lv_at hl 3 rfl) ?_
  refine lv_iload_n hx hb dL_law_790 rfl (lv_at hl 0 rfl) ?_
  refine lv_iconst (v := 1) hx hb dL_law_791 (by decide) ?_
  refine lv_iadd hx hb dL_law_792 ?_
  refine jtopr ex46.symm ?_
  refine va_sld hx hb hX hbl hbA hS (jin tx46 (by omega) (by omega)) dL_law_793 ?_
  refine lv_aload_n hx hb dL_law_794 rfl (lv_at hl 3 rfl) ?_
  refine lv_iload_n hx hb dL_law_795 rfl (lv_at hl 0 rfl) ?_
  refine lv_iconst (v := 2) hx hb dL_law_796 (by decide) ?_
  refine lv_iadd hx hb dL_law_797 ?_
  refine jtopr ex48.symm ?_
  refine va_sld hx hb hX hbl hbA hS (jin tx48 (by omega) (by omega)) dL_law_798 ?_
  have I60 : jI102 σ50 := jI102_fr (congrFun (f52 55 (by decide)) 6) (f52 60 (by decide)) (f52 61 (by decide)) hI102
  have I61 : jI104 σ50 := jI104_fr (congrFun (f52 55 (by decide)) 10) (congrFun (f52 55 (by decide)) 12) (congrFun (f52 55 (by decide)) 13) (f52 62 (by decide)) (f52 67 (by decide)) hI104
  have I62 : jI107 σ50 := jI107_fr (congrFun (f52 55 (by decide)) 12) (congrFun (f52 55 (by decide)) 47) (f52 80 (by decide)) hI107
  have w63 : ∀ k : Nat, k < 4 → 0 ≤ (σ 68 k).toInt ∧ (σ 68 k).toInt ≤ 3 := hI119
  have w64 : ∀ k : Nat, k < 4 → 0 ≤ (σ50 68 k).toInt ∧ (σ50 68 k).toInt ≤ 3 := (jrr_fr (f52 68 (by decide)) w63)
  have p65 : jBook σ50 := jBook.fr (congrFun (f52 55 (by decide)) 47) (congrFun (f52 55 (by decide)) 10) (f52 81 (by decide)) hs_jBook
  have z66 : (σ50 55 47).toInt = (σ 55 47).toInt := (congrArg Int32.toInt (show σ50 55 47 = (σ 55 47) from (congrFun (f52 55 (by decide)) 47)))
  refine jcallV (As := [.int (xs x46.toNatClampNeg), .int (xs x48.toNatClampNeg)]) (rest := []) ⟨hx, hb, hml, hown, hts⟩ hK hP hA hS hZ (c_X12_book l D cI cL ad zz hJ σ50 τ (xs x46.toNatClampNeg) ((xs x46.toNatClampNeg).toInt) rfl (xs x48.toNatClampNeg) ((xs x48.toNatClampNeg).toInt) rfl I60 I61 I62 w64 p65) cw_RL_96 (jc_55 cI cL ad σ50 τ) rfl ⟨Nat.le_of_ble_eq_true rfl, Nat.le_of_ble_eq_true rfl⟩ rfl rfl rfl hl.1 rfl (Nat.le_of_ble_eq_true rfl) dL_law_799 ⟨Nat.le_of_ble_eq_true rfl, Nat.le_of_ble_eq_true rfl⟩ (fun r68 σ67 τ67 H locs h67 hP hS => ?_)
  obtain ⟨rfl, f69, f70, I71, w72, p73, w74, h67⟩ := h67
  obtain ⟨i76, i77, w78⟩ : (0 ≤ (σ67 55 47).toInt ∧ (σ67 55 47).toInt ≤ 12) ∧ ((σ67 55 47).toInt ≤ (σ67 55 12).toInt) ∧ (∀ k : Nat, k < 12 → 0 ≤ (σ67 80 k).toInt ∧ (σ67 80 k).toInt ≤ 3) := id I71
  have z79 : (σ50 55 6).toInt = (σ 55 6).toInt := (congrArg Int32.toInt (show σ50 55 6 = (σ 55 6) from (congrFun (f52 55 (by decide)) 6)))
  have z80 : (σ50 55 10).toInt = (σ 55 10).toInt := (congrArg Int32.toInt (show σ50 55 10 = (σ 55 10) from (congrFun (f52 55 (by decide)) 10)))
  have z81 : (σ50 55 12).toInt = (σ 55 12).toInt := (congrArg Int32.toInt (show σ50 55 12 = (σ 55 12) from (congrFun (f52 55 (by decide)) 12)))
  have z82 : (σ50 55 30).toInt = (σ 55 30).toInt := (congrArg Int32.toInt (show σ50 55 30 = (σ 55 30) from (congrFun (f52 55 (by decide)) 30)))
  have z83 : (σ50 55 31).toInt = (σ 55 31).toInt := (congrArg Int32.toInt (show σ50 55 31 = (σ 55 31) from (congrFun (f52 55 (by decide)) 31)))
  rw [show (σ50 55 6).toInt = (σ 55 6).toInt from by omega, show (σ50 55 47).toInt = (σ 55 47).toInt from by omega, show (σ50 55 10).toInt = (σ 55 10).toInt from by omega, show (σ50 55 12).toInt = (σ 55 12).toInt from by omega, show (σ50 55 30).toInt = (σ 55 30).toInt from by omega, show (σ50 55 31).toInt = (σ 55 31).toInt from by omega, show σ50 56 = σ 56 from (f52 56 (by decide)), show σ50 80 = σ 80 from (f52 80 (by decide)), show σ50 81 = σ 81 from (f52 81 (by decide))] at w74
  rw [show (σ 2 0).toInt = (σ 55 6).toInt from by omega, show (σ 47 0).toInt = (σ 55 47).toInt from by omega, show (σ 16 0).toInt = (σ 55 10).toInt from by omega, show (σ 16 1).toInt = (σ 55 12).toInt from by omega] at w55
  have p84 := hr7.bo (by omega) (w55 (hr0.ok hr1.1)) (w74 (by omega) (by omega) hr1.1) Iff.rfl (fun _ => jMy.iff hr7 hr0.t4)
  obtain ⟨k85, k86, p84⟩ := p84
  have z87 : (σ67 55 12).toInt = (σ 55 12).toInt := (congrArg Int32.toInt (show σ67 55 12 = (σ 55 12) from ((f70 12 (by decide)).trans (congrFun (f52 55 (by decide)) 12))))
  rcases h67 with h88 | h89
  · obtain ⟨q92, k90, k91⟩ := h88
    refine lv_pop hx hb dL_law_802 rfl ?_
    refine lv_goto (tgt := 1357) hx hb dL_law_803 (by decide) ?_
    obtain ⟨x93, ex93⟩ : ∃ y : Int32, y = x0 + 6 := ⟨_, rfl⟩
    have tx93 : x93.toInt = x0.toInt + 6 := (jadd ex93 rfl jz_6 (by omega) (by omega)).trans (by omega)
    refine lv_iinc (v := x93) (lv' := [(3, .int x93), (2, .ref (ad 55)), (1, .ref (ad 0)), (0, .ref b)]) hx hb dL_law_1357 hl (k := 0) rfl (by rw [ex93]; rfl) (by decide) rfl (fun ls hl => ?_)
    refine lv_goto (tgt := 18) hx hb dL_law_1360 (by decide) ?_
    have I94 : jI2 σ67 := jI2_fr ((congrFun (f69 2 (by decide)) 0).trans (congrFun (f52 2 (by decide)) 0)) ((congrFun (f69 2 (by decide)) 1).trans (congrFun (f52 2 (by decide)) 1)) ((congrFun (f69 2 (by decide)) 2).trans (congrFun (f52 2 (by decide)) 2)) ((congrFun (f69 2 (by decide)) 3).trans (congrFun (f52 2 (by decide)) 3)) ((f69 6 (by decide)).trans (f52 6 (by decide))) hI2
    have I95 : jI9 σ67 := jI9_fr ((congrFun (f69 9 (by decide)) 0).trans (congrFun (f52 9 (by decide)) 0)) ((f69 10 (by decide)).trans (f52 10 (by decide))) ((f69 11 (by decide)).trans (f52 11 (by decide))) hI9
    have I96 : jI12 σ67 := jI12_fr ((congrFun (f69 12 (by decide)) 0).trans (congrFun (f52 12 (by decide)) 0)) ((f69 13 (by decide)).trans (f52 13 (by decide))) hI12
    have I97 : jI16 σ67 := jI16_fr ((congrFun (f69 16 (by decide)) 0).trans (congrFun (f52 16 (by decide)) 0)) ((congrFun (f69 16 (by decide)) 1).trans (congrFun (f52 16 (by decide)) 1)) ((congrFun (f69 16 (by decide)) 2).trans (congrFun (f52 16 (by decide)) 2)) ((f69 17 (by decide)).trans (f52 17 (by decide))) hI16
    have I98 : jI18 σ67 := jI18_fr ((congrFun (f69 18 (by decide)) 0).trans (congrFun (f52 18 (by decide)) 0)) ((f69 19 (by decide)).trans (f52 19 (by decide))) hI18
    have I99 : jI22 σ67 := jI22_fr ((congrFun (f69 22 (by decide)) 0).trans (congrFun (f52 22 (by decide)) 0)) ((f69 23 (by decide)).trans (f52 23 (by decide))) hI22
    have I100 : jI31 σ67 := jI31_fr ((congrFun (f69 31 (by decide)) 8).trans (congrFun (f52 31 (by decide)) 8)) ((f69 33 (by decide)).trans (f52 33 (by decide))) ((f69 36 (by decide)).trans (f52 36 (by decide))) hI31
    have I101 : jI38 σ67 := jI38_fr ((congrFun (f69 38 (by decide)) 0).trans (congrFun (f52 38 (by decide)) 0)) ((congrFun (f69 38 (by decide)) 1).trans (congrFun (f52 38 (by decide)) 1)) ((f69 39 (by decide)).trans (f52 39 (by decide))) hI38
    have I102 : jI43 σ67 := jI43_fr ((congrFun (f69 43 (by decide)) 8).trans (congrFun (f52 43 (by decide)) 8)) hI43
    have I103 : jI47 σ67 := jI47_fr (congrFun (f69 47 (by decide)) 0) (f69 48 (by decide)) (f69 49 (by decide)) I54
    have I104 : jI50 σ67 := jI50_fr ((f69 52 (by decide)).trans (f52 52 (by decide))) hI50
    have I105 : jI101 σ67 := jI101_fr ((f70 4 (by decide)).trans (congrFun (f52 55 (by decide)) 4)) ((f70 5 (by decide)).trans (congrFun (f52 55 (by decide)) 5)) ((f69 56 (by decide)).trans (f52 56 (by decide))) ((f69 57 (by decide)).trans (f52 57 (by decide))) ((f69 58 (by decide)).trans (f52 58 (by decide))) ((f69 59 (by decide)).trans (f52 59 (by decide))) hI101
    have I106 : jI102 σ67 := jI102_fr (f70 6 (by decide)) (f69 60 (by decide)) (f69 61 (by decide)) I60
    have I107 : jI103 σ67 := jI103_fr ((f70 9 (by decide)).trans (congrFun (f52 55 (by decide)) 9)) hI103
    have I108 : jI104 σ67 := jI104_fr (f70 10 (by decide)) (f70 12 (by decide)) (f70 13 (by decide)) (f69 62 (by decide)) (f69 67 (by decide)) I61
    have I109 : jI105 σ67 := jI105_fr ((f70 15 (by decide)).trans (congrFun (f52 55 (by decide)) 15)) ((f69 65 (by decide)).trans (f52 65 (by decide))) hI105
    have I110 : jI106 σ67 := jI106_fr ((f70 32 (by decide)).trans (congrFun (f52 55 (by decide)) 32)) ((f69 70 (by decide)).trans (f52 70 (by decide))) ((f69 71 (by decide)).trans (f52 71 (by decide))) ((f69 72 (by decide)).trans (f52 72 (by decide))) hI106
    have I111 : jI109 σ67 := jI109_fr ((f70 50 (by decide)).trans (congrFun (f52 55 (by decide)) 50)) hI109
    have I112 : jI110 σ67 := jI110_fr ((f69 86 (by decide)).trans (f52 86 (by decide))) ((f69 87 (by decide)).trans (f52 87 (by decide))) hI110
    have I113 : jI111 σ67 := jI111_fr ((f69 79 (by decide)).trans (f52 79 (by decide))) hI111
    have I114 : jI119 σ67 := w72
    have p115 : jKept σ67 := jKept.fr ((f69 75 (by decide)).trans (f52 75 (by decide))) ((f69 76 (by decide)).trans (f52 76 (by decide))) ((f69 77 (by decide)).trans (f52 77 (by decide))) hs_jKept
    have z116 : (σ67 2 0).toInt = (σ 2 0).toInt := (congrArg Int32.toInt (show σ67 2 0 = (σ 2 0) from ((congrFun (f69 2 (by decide)) 0).trans (congrFun (f52 2 (by decide)) 0))))
    have z117 : (σ67 55 6).toInt = (σ 55 6).toInt := (congrArg Int32.toInt (show σ67 55 6 = (σ 55 6) from ((f70 6 (by decide)).trans (congrFun (f52 55 (by decide)) 6))))
    have z118 : (σ67 2 2).toInt = (σ 2 2).toInt := (congrArg Int32.toInt (show σ67 2 2 = (σ 2 2) from ((congrFun (f69 2 (by decide)) 2).trans (congrFun (f52 2 (by decide)) 2))))
    have z119 : (σ67 55 5).toInt = (σ 55 5).toInt := (congrArg Int32.toInt (show σ67 55 5 = (σ 55 5) from ((f70 5 (by decide)).trans (congrFun (f52 55 (by decide)) 5))))
    have z120 : (σ67 2 3).toInt = (σ 2 3).toInt := (congrArg Int32.toInt (show σ67 2 3 = (σ 2 3) from ((congrFun (f69 2 (by decide)) 3).trans (congrFun (f52 2 (by decide)) 3))))
    have z121 : (σ67 55 4).toInt = (σ 55 4).toInt := (congrArg Int32.toInt (show σ67 55 4 = (σ 55 4) from ((f70 4 (by decide)).trans (congrFun (f52 55 (by decide)) 4))))
    have z122 : (σ67 9 0).toInt = (σ 9 0).toInt := (congrArg Int32.toInt (show σ67 9 0 = (σ 9 0) from ((congrFun (f69 9 (by decide)) 0).trans (congrFun (f52 9 (by decide)) 0))))
    have z123 : (σ67 55 15).toInt = (σ 55 15).toInt := (congrArg Int32.toInt (show σ67 55 15 = (σ 55 15) from ((f70 15 (by decide)).trans (congrFun (f52 55 (by decide)) 15))))
    have z124 : (σ67 16 0).toInt = (σ 16 0).toInt := (congrArg Int32.toInt (show σ67 16 0 = (σ 16 0) from ((congrFun (f69 16 (by decide)) 0).trans (congrFun (f52 16 (by decide)) 0))))
    have z125 : (σ67 55 10).toInt = (σ 55 10).toInt := (congrArg Int32.toInt (show σ67 55 10 = (σ 55 10) from ((f70 10 (by decide)).trans (congrFun (f52 55 (by decide)) 10))))
    have z126 : (σ67 16 1).toInt = (σ 16 1).toInt := (congrArg Int32.toInt (show σ67 16 1 = (σ 16 1) from ((congrFun (f69 16 (by decide)) 1).trans (congrFun (f52 16 (by decide)) 1))))
    have z127 : (σ67 16 2).toInt = (σ 16 2).toInt := (congrArg Int32.toInt (show σ67 16 2 = (σ 16 2) from ((congrFun (f69 16 (by decide)) 2).trans (congrFun (f52 16 (by decide)) 2))))
    have z128 : (σ67 55 13).toInt = (σ 55 13).toInt := (congrArg Int32.toInt (show σ67 55 13 = (σ 55 13) from ((f70 13 (by decide)).trans (congrFun (f52 55 (by decide)) 13))))
    have z129 : (σ67 38 0).toInt = (σ 38 0).toInt := (congrArg Int32.toInt (show σ67 38 0 = (σ 38 0) from ((congrFun (f69 38 (by decide)) 0).trans (congrFun (f52 38 (by decide)) 0))))
    have z130 : (σ67 55 32).toInt = (σ 55 32).toInt := (congrArg Int32.toInt (show σ67 55 32 = (σ 55 32) from ((f70 32 (by decide)).trans (congrFun (f52 55 (by decide)) 32))))
    have z131 : (σ67 47 0).toInt = (σ50 47 0).toInt := (congrArg Int32.toInt (show σ67 47 0 = (σ50 47 0) from (congrFun (f69 47 (by decide)) 0)))
    have z132 : (σ67 55 30).toInt = (σ 55 30).toInt := (congrArg Int32.toInt (show σ67 55 30 = (σ 55 30) from ((f70 30 (by decide)).trans (congrFun (f52 55 (by decide)) 30))))
    have z133 : (σ67 55 31).toInt = (σ 55 31).toInt := (congrArg Int32.toInt (show σ67 55 31 = (σ 55 31) from ((f70 31 (by decide)).trans (congrFun (f52 55 (by decide)) 31))))
    exact ih x93 σ67 τ _ _ ls (by have h9 := tx93; omega) ⟨I94, I95, I96, I97, I98, I99, I100, I101, I102, I103, I104, I105, I106, I107, I108, I109, I110, I71, I111, I112, I113, I114, p115, p73, (by omega), (by omega), (by omega), (by omega), (by omega), (by omega), (by omega), (by omega), (by omega), (by omega), (by omega), (show jNumP (σ67 3) (σ67 56) (σ67 6) (σ67 57) (σ67 7) (σ67 58) (σ67 8) (σ67 59) (σ67 55 6).toInt (σ67 55 4).toInt by rw [show σ67 3 = σ 3 from ((f69 3 (by decide)).trans (f52 3 (by decide))), show σ67 56 = σ 56 from ((f69 56 (by decide)).trans (f52 56 (by decide))), show σ67 6 = σ 6 from ((f69 6 (by decide)).trans (f52 6 (by decide))), show σ67 57 = σ 57 from ((f69 57 (by decide)).trans (f52 57 (by decide))), show σ67 7 = σ 7 from ((f69 7 (by decide)).trans (f52 7 (by decide))), show σ67 58 = σ 58 from ((f69 58 (by decide)).trans (f52 58 (by decide))), show σ67 8 = σ 8 from ((f69 8 (by decide)).trans (f52 8 (by decide))), show σ67 59 = σ 59 from ((f69 59 (by decide)).trans (f52 59 (by decide))), show (σ67 55 6).toInt = (σ 55 6).toInt from by omega, show (σ67 55 4).toInt = (σ 55 4).toInt from by omega]; exact hr0), (show jOvP (σ67 56) (σ67 57) (σ67 58) (σ67 59) (σ67 55 4).toInt by rw [show σ67 56 = σ 56 from ((f69 56 (by decide)).trans (f52 56 (by decide))), show σ67 57 = σ 57 from ((f69 57 (by decide)).trans (f52 57 (by decide))), show σ67 58 = σ 58 from ((f69 58 (by decide)).trans (f52 58 (by decide))), show σ67 59 = σ 59 from ((f69 59 (by decide)).trans (f52 59 (by decide))), show (σ67 55 4).toInt = (σ 55 4).toInt from by omega]; exact hr1), (show jTp (σ67 10) (σ67 63) (σ67 55 15).toInt by rw [show σ67 10 = σ 10 from ((f69 10 (by decide)).trans (f52 10 (by decide))), show σ67 63 = σ 63 from ((f69 63 (by decide)).trans (f52 63 (by decide)))]; exact hr2.le (by omega)), (show jSo (σ67 17) (σ67 62) (σ67 16 0).toInt by rw [show σ67 17 = σ 17 from ((f69 17 (by decide)).trans (f52 17 (by decide))), show σ67 62 = σ 62 from ((f69 62 (by decide)).trans (f52 62 (by decide))), show (σ67 16 0).toInt = (σ 16 0).toInt from by omega]; exact hr3), (show jShP (σ67 51) (σ67 52) (σ67 53) (σ67 86) (σ67 87) (σ67 55 32).toInt by rw [show σ67 51 = σ 51 from ((f69 51 (by decide)).trans (f52 51 (by decide))), show σ67 52 = σ 52 from ((f69 52 (by decide)).trans (f52 52 (by decide))), show σ67 53 = σ 53 from ((f69 53 (by decide)).trans (f52 53 (by decide))), show σ67 86 = σ 86 from ((f69 86 (by decide)).trans (f52 86 (by decide))), show σ67 87 = σ 87 from ((f69 87 (by decide)).trans (f52 87 (by decide)))]; exact (hr4.up (by omega) (by omega))), (show jEl (σ67 51) (σ67 52) (τ 54) (τ 88) by rw [show σ67 51 = σ 51 from ((f69 51 (by decide)).trans (f52 51 (by decide))), show σ67 52 = σ 52 from ((f69 52 (by decide)).trans (f52 52 (by decide)))]; exact hr5), (show jByP (σ67 51) (σ67 52) (τ 54) by rw [show σ67 51 = σ 51 from ((f69 51 (by decide)).trans (f52 51 (by decide))), show σ67 52 = σ 52 from ((f69 52 (by decide)).trans (f52 52 (by decide)))]; exact hr6), (show jBk (σ67 48) (σ67 80) (σ67 49) (σ67 81) (σ67 55 47).toInt by rw [show σ67 48 = σ50 48 from (f69 48 (by decide)), show σ67 49 = σ50 49 from (f69 49 (by decide)), show (σ67 55 47).toInt = (σ50 47 0).toInt from by omega]; exact p84)⟩ hP hS (lv_sub hl [0, 1, 2, 3] rfl)
  · obtain ⟨q137, k135, k136⟩ := h89
    refine lv_pop hx hb dL_law_802 rfl ?_
    refine lv_goto (tgt := 1357) hx hb dL_law_803 (by decide) ?_
    obtain ⟨x138, ex138⟩ : ∃ y : Int32, y = x0 + 6 := ⟨_, rfl⟩
    have tx138 : x138.toInt = x0.toInt + 6 := (jadd ex138 rfl jz_6 (by omega) (by omega)).trans (by omega)
    refine lv_iinc (v := x138) (lv' := [(3, .int x138), (2, .ref (ad 55)), (1, .ref (ad 0)), (0, .ref b)]) hx hb dL_law_1357 hl (k := 0) rfl (by rw [ex138]; rfl) (by decide) rfl (fun ls hl => ?_)
    refine lv_goto (tgt := 18) hx hb dL_law_1360 (by decide) ?_
    have I139 : jI2 σ67 := jI2_fr ((congrFun (f69 2 (by decide)) 0).trans (congrFun (f52 2 (by decide)) 0)) ((congrFun (f69 2 (by decide)) 1).trans (congrFun (f52 2 (by decide)) 1)) ((congrFun (f69 2 (by decide)) 2).trans (congrFun (f52 2 (by decide)) 2)) ((congrFun (f69 2 (by decide)) 3).trans (congrFun (f52 2 (by decide)) 3)) ((f69 6 (by decide)).trans (f52 6 (by decide))) hI2
    have I140 : jI9 σ67 := jI9_fr ((congrFun (f69 9 (by decide)) 0).trans (congrFun (f52 9 (by decide)) 0)) ((f69 10 (by decide)).trans (f52 10 (by decide))) ((f69 11 (by decide)).trans (f52 11 (by decide))) hI9
    have I141 : jI12 σ67 := jI12_fr ((congrFun (f69 12 (by decide)) 0).trans (congrFun (f52 12 (by decide)) 0)) ((f69 13 (by decide)).trans (f52 13 (by decide))) hI12
    have I142 : jI16 σ67 := jI16_fr ((congrFun (f69 16 (by decide)) 0).trans (congrFun (f52 16 (by decide)) 0)) ((congrFun (f69 16 (by decide)) 1).trans (congrFun (f52 16 (by decide)) 1)) ((congrFun (f69 16 (by decide)) 2).trans (congrFun (f52 16 (by decide)) 2)) ((f69 17 (by decide)).trans (f52 17 (by decide))) hI16
    have I143 : jI18 σ67 := jI18_fr ((congrFun (f69 18 (by decide)) 0).trans (congrFun (f52 18 (by decide)) 0)) ((f69 19 (by decide)).trans (f52 19 (by decide))) hI18
    have I144 : jI22 σ67 := jI22_fr ((congrFun (f69 22 (by decide)) 0).trans (congrFun (f52 22 (by decide)) 0)) ((f69 23 (by decide)).trans (f52 23 (by decide))) hI22
    have I145 : jI31 σ67 := jI31_fr ((congrFun (f69 31 (by decide)) 8).trans (congrFun (f52 31 (by decide)) 8)) ((f69 33 (by decide)).trans (f52 33 (by decide))) ((f69 36 (by decide)).trans (f52 36 (by decide))) hI31
    have I146 : jI38 σ67 := jI38_fr ((congrFun (f69 38 (by decide)) 0).trans (congrFun (f52 38 (by decide)) 0)) ((congrFun (f69 38 (by decide)) 1).trans (congrFun (f52 38 (by decide)) 1)) ((f69 39 (by decide)).trans (f52 39 (by decide))) hI38
    have I147 : jI43 σ67 := jI43_fr ((congrFun (f69 43 (by decide)) 8).trans (congrFun (f52 43 (by decide)) 8)) hI43
    have I148 : jI47 σ67 := jI47_fr (congrFun (f69 47 (by decide)) 0) (f69 48 (by decide)) (f69 49 (by decide)) I54
    have I149 : jI50 σ67 := jI50_fr ((f69 52 (by decide)).trans (f52 52 (by decide))) hI50
    have I150 : jI101 σ67 := jI101_fr ((f70 4 (by decide)).trans (congrFun (f52 55 (by decide)) 4)) ((f70 5 (by decide)).trans (congrFun (f52 55 (by decide)) 5)) ((f69 56 (by decide)).trans (f52 56 (by decide))) ((f69 57 (by decide)).trans (f52 57 (by decide))) ((f69 58 (by decide)).trans (f52 58 (by decide))) ((f69 59 (by decide)).trans (f52 59 (by decide))) hI101
    have I151 : jI102 σ67 := jI102_fr (f70 6 (by decide)) (f69 60 (by decide)) (f69 61 (by decide)) I60
    have I152 : jI103 σ67 := jI103_fr ((f70 9 (by decide)).trans (congrFun (f52 55 (by decide)) 9)) hI103
    have I153 : jI104 σ67 := jI104_fr (f70 10 (by decide)) (f70 12 (by decide)) (f70 13 (by decide)) (f69 62 (by decide)) (f69 67 (by decide)) I61
    have I154 : jI105 σ67 := jI105_fr ((f70 15 (by decide)).trans (congrFun (f52 55 (by decide)) 15)) ((f69 65 (by decide)).trans (f52 65 (by decide))) hI105
    have I155 : jI106 σ67 := jI106_fr ((f70 32 (by decide)).trans (congrFun (f52 55 (by decide)) 32)) ((f69 70 (by decide)).trans (f52 70 (by decide))) ((f69 71 (by decide)).trans (f52 71 (by decide))) ((f69 72 (by decide)).trans (f52 72 (by decide))) hI106
    have I156 : jI109 σ67 := jI109_fr ((f70 50 (by decide)).trans (congrFun (f52 55 (by decide)) 50)) hI109
    have I157 : jI110 σ67 := jI110_fr ((f69 86 (by decide)).trans (f52 86 (by decide))) ((f69 87 (by decide)).trans (f52 87 (by decide))) hI110
    have I158 : jI111 σ67 := jI111_fr ((f69 79 (by decide)).trans (f52 79 (by decide))) hI111
    have I159 : jI119 σ67 := w72
    have p160 : jKept σ67 := jKept.fr ((f69 75 (by decide)).trans (f52 75 (by decide))) ((f69 76 (by decide)).trans (f52 76 (by decide))) ((f69 77 (by decide)).trans (f52 77 (by decide))) hs_jKept
    have z161 : (σ67 2 0).toInt = (σ 2 0).toInt := (congrArg Int32.toInt (show σ67 2 0 = (σ 2 0) from ((congrFun (f69 2 (by decide)) 0).trans (congrFun (f52 2 (by decide)) 0))))
    have z162 : (σ67 55 6).toInt = (σ 55 6).toInt := (congrArg Int32.toInt (show σ67 55 6 = (σ 55 6) from ((f70 6 (by decide)).trans (congrFun (f52 55 (by decide)) 6))))
    have z163 : (σ67 2 2).toInt = (σ 2 2).toInt := (congrArg Int32.toInt (show σ67 2 2 = (σ 2 2) from ((congrFun (f69 2 (by decide)) 2).trans (congrFun (f52 2 (by decide)) 2))))
    have z164 : (σ67 55 5).toInt = (σ 55 5).toInt := (congrArg Int32.toInt (show σ67 55 5 = (σ 55 5) from ((f70 5 (by decide)).trans (congrFun (f52 55 (by decide)) 5))))
    have z165 : (σ67 2 3).toInt = (σ 2 3).toInt := (congrArg Int32.toInt (show σ67 2 3 = (σ 2 3) from ((congrFun (f69 2 (by decide)) 3).trans (congrFun (f52 2 (by decide)) 3))))
    have z166 : (σ67 55 4).toInt = (σ 55 4).toInt := (congrArg Int32.toInt (show σ67 55 4 = (σ 55 4) from ((f70 4 (by decide)).trans (congrFun (f52 55 (by decide)) 4))))
    have z167 : (σ67 9 0).toInt = (σ 9 0).toInt := (congrArg Int32.toInt (show σ67 9 0 = (σ 9 0) from ((congrFun (f69 9 (by decide)) 0).trans (congrFun (f52 9 (by decide)) 0))))
    have z168 : (σ67 55 15).toInt = (σ 55 15).toInt := (congrArg Int32.toInt (show σ67 55 15 = (σ 55 15) from ((f70 15 (by decide)).trans (congrFun (f52 55 (by decide)) 15))))
    have z169 : (σ67 16 0).toInt = (σ 16 0).toInt := (congrArg Int32.toInt (show σ67 16 0 = (σ 16 0) from ((congrFun (f69 16 (by decide)) 0).trans (congrFun (f52 16 (by decide)) 0))))
    have z170 : (σ67 55 10).toInt = (σ 55 10).toInt := (congrArg Int32.toInt (show σ67 55 10 = (σ 55 10) from ((f70 10 (by decide)).trans (congrFun (f52 55 (by decide)) 10))))
    have z171 : (σ67 16 1).toInt = (σ 16 1).toInt := (congrArg Int32.toInt (show σ67 16 1 = (σ 16 1) from ((congrFun (f69 16 (by decide)) 1).trans (congrFun (f52 16 (by decide)) 1))))
    have z172 : (σ67 16 2).toInt = (σ 16 2).toInt := (congrArg Int32.toInt (show σ67 16 2 = (σ 16 2) from ((congrFun (f69 16 (by decide)) 2).trans (congrFun (f52 16 (by decide)) 2))))
    have z173 : (σ67 55 13).toInt = (σ 55 13).toInt := (congrArg Int32.toInt (show σ67 55 13 = (σ 55 13) from ((f70 13 (by decide)).trans (congrFun (f52 55 (by decide)) 13))))
    have z174 : (σ67 38 0).toInt = (σ 38 0).toInt := (congrArg Int32.toInt (show σ67 38 0 = (σ 38 0) from ((congrFun (f69 38 (by decide)) 0).trans (congrFun (f52 38 (by decide)) 0))))
    have z175 : (σ67 55 32).toInt = (σ 55 32).toInt := (congrArg Int32.toInt (show σ67 55 32 = (σ 55 32) from ((f70 32 (by decide)).trans (congrFun (f52 55 (by decide)) 32))))
    have z176 : (σ67 47 0).toInt = (σ50 47 0).toInt := (congrArg Int32.toInt (show σ67 47 0 = (σ50 47 0) from (congrFun (f69 47 (by decide)) 0)))
    have z177 : (σ67 55 30).toInt = (σ 55 30).toInt := (congrArg Int32.toInt (show σ67 55 30 = (σ 55 30) from ((f70 30 (by decide)).trans (congrFun (f52 55 (by decide)) 30))))
    have z178 : (σ67 55 31).toInt = (σ 55 31).toInt := (congrArg Int32.toInt (show σ67 55 31 = (σ 55 31) from ((f70 31 (by decide)).trans (congrFun (f52 55 (by decide)) 31))))
    exact ih x138 σ67 τ _ _ ls (by have h9 := tx138; omega) ⟨I139, I140, I141, I142, I143, I144, I145, I146, I147, I148, I149, I150, I151, I152, I153, I154, I155, I71, I156, I157, I158, I159, p160, p73, (by omega), (by omega), (by omega), (by omega), (by omega), (by omega), (by omega), (by omega), (by omega), (by omega), (by omega), (show jNumP (σ67 3) (σ67 56) (σ67 6) (σ67 57) (σ67 7) (σ67 58) (σ67 8) (σ67 59) (σ67 55 6).toInt (σ67 55 4).toInt by rw [show σ67 3 = σ 3 from ((f69 3 (by decide)).trans (f52 3 (by decide))), show σ67 56 = σ 56 from ((f69 56 (by decide)).trans (f52 56 (by decide))), show σ67 6 = σ 6 from ((f69 6 (by decide)).trans (f52 6 (by decide))), show σ67 57 = σ 57 from ((f69 57 (by decide)).trans (f52 57 (by decide))), show σ67 7 = σ 7 from ((f69 7 (by decide)).trans (f52 7 (by decide))), show σ67 58 = σ 58 from ((f69 58 (by decide)).trans (f52 58 (by decide))), show σ67 8 = σ 8 from ((f69 8 (by decide)).trans (f52 8 (by decide))), show σ67 59 = σ 59 from ((f69 59 (by decide)).trans (f52 59 (by decide))), show (σ67 55 6).toInt = (σ 55 6).toInt from by omega, show (σ67 55 4).toInt = (σ 55 4).toInt from by omega]; exact hr0), (show jOvP (σ67 56) (σ67 57) (σ67 58) (σ67 59) (σ67 55 4).toInt by rw [show σ67 56 = σ 56 from ((f69 56 (by decide)).trans (f52 56 (by decide))), show σ67 57 = σ 57 from ((f69 57 (by decide)).trans (f52 57 (by decide))), show σ67 58 = σ 58 from ((f69 58 (by decide)).trans (f52 58 (by decide))), show σ67 59 = σ 59 from ((f69 59 (by decide)).trans (f52 59 (by decide))), show (σ67 55 4).toInt = (σ 55 4).toInt from by omega]; exact hr1), (show jTp (σ67 10) (σ67 63) (σ67 55 15).toInt by rw [show σ67 10 = σ 10 from ((f69 10 (by decide)).trans (f52 10 (by decide))), show σ67 63 = σ 63 from ((f69 63 (by decide)).trans (f52 63 (by decide)))]; exact hr2.le (by omega)), (show jSo (σ67 17) (σ67 62) (σ67 16 0).toInt by rw [show σ67 17 = σ 17 from ((f69 17 (by decide)).trans (f52 17 (by decide))), show σ67 62 = σ 62 from ((f69 62 (by decide)).trans (f52 62 (by decide))), show (σ67 16 0).toInt = (σ 16 0).toInt from by omega]; exact hr3), (show jShP (σ67 51) (σ67 52) (σ67 53) (σ67 86) (σ67 87) (σ67 55 32).toInt by rw [show σ67 51 = σ 51 from ((f69 51 (by decide)).trans (f52 51 (by decide))), show σ67 52 = σ 52 from ((f69 52 (by decide)).trans (f52 52 (by decide))), show σ67 53 = σ 53 from ((f69 53 (by decide)).trans (f52 53 (by decide))), show σ67 86 = σ 86 from ((f69 86 (by decide)).trans (f52 86 (by decide))), show σ67 87 = σ 87 from ((f69 87 (by decide)).trans (f52 87 (by decide)))]; exact (hr4.up (by omega) (by omega))), (show jEl (σ67 51) (σ67 52) (τ 54) (τ 88) by rw [show σ67 51 = σ 51 from ((f69 51 (by decide)).trans (f52 51 (by decide))), show σ67 52 = σ 52 from ((f69 52 (by decide)).trans (f52 52 (by decide)))]; exact hr5), (show jByP (σ67 51) (σ67 52) (τ 54) by rw [show σ67 51 = σ 51 from ((f69 51 (by decide)).trans (f52 51 (by decide))), show σ67 52 = σ 52 from ((f69 52 (by decide)).trans (f52 52 (by decide)))]; exact hr6), (show jBk (σ67 48) (σ67 80) (σ67 49) (σ67 81) (σ67 55 47).toInt by rw [show σ67 48 = σ50 48 from (f69 48 (by decide)), show σ67 49 = σ50 49 from (f69 49 (by decide)), show (σ67 55 47).toInt = (σ50 47 0).toInt from by omega]; exact p84)⟩ hP hS (lv_sub hl [0, 1, 2, 3] rfl)
set_option maxHeartbeats 4000000 in
set_option maxRecDepth 100000 in
theorem law_case_20 {p : Program} {e : Env} {s : State} {m : MethodId} {below : List Frame} {meth : Method} {c : Code} (l : Launch) {b L : Nat} {xs : Nat → Int32} {D : va_G} {cI cL : ClassId} {ad zz : Nat → Nat} (C0 : lw_At p s m meth c b L xs) (hJ : jD ad) (hA : ∀ q, jA ad q → s.heap.size ≤ q) (hK : jK D cI cL s) (hZ : jZ zz (fun q : Nat => s.heap.size ≤ q) s s.heap) {x0 : Int32} (hx0 : 0 ≤ x0.toInt) (hxL : x0.toInt + 6 ≤ (L : Int)) (hL : L ≤ 384) {σ : Nat → Nat → Int32} {τ : Nat → Nat → Int64} {H : Heap} {locs : List Loc} (hS : va_S (fun q : Nat => s.heap.size ≤ q) s.heap H locs) {ls : Array Slot} (hAll : jAll σ τ) (hP : jH D cI cL ad σ τ H) (hl : lv_has ls 4 [(3, .int x0), (2, .ref (ad 55)), (1, .ref (ad 0)), (0, .ref b)]) (ih : ∀ (x1 : Int32) (σ : Nat → Nat → Int32) (τ : Nat → Nat → Int64) (H : Heap) (locs : List Loc) (ls : Array Slot), x1.toInt = x0.toInt + 6 → jAll σ τ → jH D cI cL ad σ τ H → va_S (fun q : Nat => s.heap.size ≤ q) s.heap H locs → lv_has ls 4 [(3, .int x1), (2, .ref (ad 55)), (1, .ref (ad 0)), (0, .ref b)] → W p l e room_1 s m #[Value.ref b] below meth c H locs 90 348600 (lw_Z below #[Value.ref b] s) (F0 m 18 ls [])) : W p l e room_1 s m #[Value.ref b] below meth c H locs 90 348600 (lw_Z below #[Value.ref b] s) (F0 m 806 ls []) := by
  obtain ⟨hx, hb, hr, hml, hown, hts0, hX, hbl, hlocks, hgv⟩ := C0
  have hts : ∀ w ∈ wsL_law, w.before #[Value.ref b] s = true := fun w h => hts0 w (wsL_law_in w h)
  have hbA : ¬ (fun q : Nat => s.heap.size ≤ q) b := Nat.not_le.mpr hbl
  have hown : s.vm.findClass RL = some m.cls := hown
  obtain ⟨hI2, hI9, hI12, hI16, hI18, hI22, hI31, hI38, hI43, hI47, hI50, hI101, hI102, hI103, hI104, hI105, hI106, hI107, hI109, hI110, hI111, hI119, hs_jKept, hs_jBook, ht0, ht1, ht2, ht3, ht4, ht5, ht6, ht7, ht8, ht9, ht10, hr0, hr1, hr2, hr3, hr4, hr5, hr6, hr7⟩ := hAll
  have hL9 : (L : Int) ≤ 384 := by omega
  obtain ⟨i1, i2, i3, i4, i5, w6⟩ : (0 ≤ (σ 2 0).toInt ∧ (σ 2 0).toInt ≤ 4) ∧ (0 ≤ (σ 2 1).toInt ∧ (σ 2 1).toInt ≤ 3) ∧ (0 ≤ (σ 2 2).toInt) ∧ (0 ≤ (σ 2 3).toInt) ∧ ((σ 2 2).toInt + (σ 2 3).toInt ≤ 40) ∧ (∀ k : Nat, k < 40 → 0 ≤ (σ 6 k).toInt ∧ (σ 6 k).toInt ≤ 67) := id hI2
  obtain ⟨i7, w8, w9⟩ : (0 ≤ (σ 9 0).toInt ∧ (σ 9 0).toInt ≤ 80) ∧ (∀ k : Nat, k < 80 → 0 ≤ (σ 10 k).toInt ∧ (σ 10 k).toInt ≤ 255) ∧ (∀ k : Nat, k < 8 → 0 ≤ (σ 11 k).toInt ∧ (σ 11 k).toInt ≤ 3) := id hI9
  obtain ⟨i10, i11, i12, w13⟩ : (1 ≤ (σ 16 0).toInt ∧ (σ 16 0).toInt ≤ 8) ∧ (1 ≤ (σ 16 1).toInt ∧ (σ 16 1).toInt ≤ 12) ∧ (0 ≤ (σ 16 2).toInt ∧ (σ 16 2).toInt ≤ 999) ∧ (∀ k : Nat, k < 8 → 0 ≤ (σ 17 k).toInt ∧ (σ 17 k).toInt ≤ 3) := id hI16
  obtain ⟨i14, i15, w16⟩ : (0 ≤ (σ 38 0).toInt ∧ (σ 38 0).toInt ≤ 20) ∧ (0 ≤ (σ 38 1).toInt ∧ (σ 38 1).toInt ≤ 1000) ∧ (∀ k : Nat, k < 20 → 0 ≤ (σ 39 k).toInt ∧ (σ 39 k).toInt ≤ 6) := id hI38
  obtain ⟨i17, w18, w19⟩ : (0 ≤ (σ 47 0).toInt ∧ (σ 47 0).toInt ≤ 12) ∧ (∀ k : Nat, k < 12 → 0 ≤ (σ 48 k).toInt ∧ (σ 48 k).toInt ≤ 3) ∧ (∀ k : Nat, k < 12 → 0 ≤ (σ 49 k).toInt ∧ (σ 49 k).toInt ≤ 1) := id hI47
  have w20 : ∀ k : Nat, k < 6 → 0 ≤ (σ 52 k).toInt ∧ (σ 52 k).toInt ≤ 60 := hI50
  obtain ⟨i21, i22, i23, w24, w25, w26, w27⟩ : (0 ≤ (σ 55 5).toInt) ∧ ((σ 55 5).toInt ≤ (σ 55 4).toInt) ∧ ((σ 55 4).toInt ≤ 40) ∧ (∀ k : Nat, k < 68 → (-200) ≤ (σ 56 k).toInt ∧ (σ 56 k).toInt ≤ 500) ∧ (∀ k : Nat, k < 40 → 0 ≤ (σ 57 k).toInt ∧ (σ 57 k).toInt ≤ 67) ∧ (∀ k : Nat, k < 40 → (-200) ≤ (σ 58 k).toInt ∧ (σ 58 k).toInt ≤ 500) ∧ (∀ k : Nat, k < 40 → (-200) ≤ (σ 59 k).toInt ∧ (σ 59 k).toInt ≤ 500) := id hI101
  obtain ⟨i28, w29, w30⟩ : (0 ≤ (σ 55 6).toInt ∧ (σ 55 6).toInt ≤ 4) ∧ (∀ k : Nat, k < 4 → 0 ≤ (σ 60 k).toInt ∧ (σ 60 k).toInt ≤ 50) ∧ (∀ k : Nat, k < 4 → 0 ≤ (σ 61 k).toInt ∧ (σ 61 k).toInt ≤ 20) := id hI102
  obtain ⟨i31, i32, i33, w34, w35⟩ : (1 ≤ (σ 55 10).toInt ∧ (σ 55 10).toInt ≤ 8) ∧ (1 ≤ (σ 55 12).toInt ∧ (σ 55 12).toInt ≤ 12) ∧ (0 ≤ (σ 55 13).toInt ∧ (σ 55 13).toInt ≤ 999) ∧ (∀ k : Nat, k < 8 → 0 ≤ (σ 62 k).toInt ∧ (σ 62 k).toInt ≤ 3) ∧ (∀ k : Nat, k < 8 → 0 ≤ (σ 67 k).toInt ∧ (σ 67 k).toInt ≤ 3) := id hI104
  obtain ⟨i36, w37⟩ : (0 ≤ (σ 55 15).toInt ∧ (σ 55 15).toInt ≤ 80) ∧ (∀ k : Nat, k < 2 → (-1) ≤ (σ 65 k).toInt ∧ (σ 65 k).toInt ≤ 80) := id hI105
  obtain ⟨i38, w39, w40, w41⟩ : (0 ≤ (σ 55 32).toInt ∧ (σ 55 32).toInt ≤ 20) ∧ (∀ k : Nat, k < 20 → 0 ≤ (σ 70 k).toInt ∧ (σ 70 k).toInt ≤ 6) ∧ (∀ k : Nat, k < 20 → 0 ≤ (σ 71 k).toInt ∧ (σ 71 k).toInt ≤ 8) ∧ (∀ k : Nat, k < 160 → 0 ≤ (σ 72 k).toInt ∧ (σ 72 k).toInt ≤ 3) := id hI106
  obtain ⟨i42, i43, w44⟩ : (0 ≤ (σ 55 47).toInt ∧ (σ 55 47).toInt ≤ 12) ∧ ((σ 55 47).toInt ≤ (σ 55 12).toInt) ∧ (∀ k : Nat, k < 12 → 0 ≤ (σ 80 k).toInt ∧ (σ 80 k).toInt ≤ 3) := id hI107
  refine lv_aload_n hx hb dL_law_806 rfl (lv_at hl 2 rfl) ?_
  refine lv_aload_n hx hb dL_law_807 rfl (lv_at hl 3 rfl) ?_
  refine lv_iload_n hx hb dL_law_808 rfl (lv_at hl 0 rfl) ?_
  refine lv_iconst (v := 1) hx hb dL_law_809 (by decide) ?_
  have g45 := jrg (rfl : x0.toInt = x0.toInt)
  refine lv_iadd hx hb dL_law_810 ?_
  refine lv_topi (fun x46 ex46 => ?_)
  have tx46 : x46.toInt = x0.toInt + 1 := (jadd ex46 rfl jz_1 (by omega) (by omega)).trans (by omega)
  refine va_sld hx hb hX hbl hbA hS (jin tx46 (by omega) (by omega)) dL_law_811 ?_
  have g47 := jrg (rfl : (xs x46.toNatClampNeg).toInt = (xs x46.toNatClampNeg).toInt)
  refine lv_aload_n hx hb dL_law_812 rfl (lv_at hl 3 rfl) ?_
  refine lv_iload_n hx hb dL_law_813 rfl (lv_at hl 0 rfl) ?_
  refine lv_iconst (v := 2) hx hb dL_law_814 (by decide) ?_
  refine lv_iadd hx hb dL_law_815 ?_
  refine lv_topi (fun x48 ex48 => ?_)
  have tx48 : x48.toInt = x0.toInt + 2 := (jadd ex48 rfl jz_2 (by omega) (by omega)).trans (by omega)
  refine va_sld hx hb hX hbl hbA hS (jin tx48 (by omega) (by omega)) dL_law_816 ?_
  have g49 := jrg (rfl : (xs x48.toNatClampNeg).toInt = (xs x48.toNatClampNeg).toInt)
  refine jcallV (As := [.int (xs x46.toNatClampNeg), .int (xs x48.toNatClampNeg)]) (rest := []) ⟨hx, hb, hml, hown, hts⟩ hK hP hA hS hZ (c_X11_books l D cI cL ad zz hJ σ τ (xs x46.toNatClampNeg) ((xs x46.toNatClampNeg).toInt) rfl (xs x48.toNatClampNeg) ((xs x48.toNatClampNeg).toInt) rfl hI2 hI16 hI47 hI50) cw_RL_97 (jc_0 cI cL ad σ τ) rfl ⟨Nat.le_of_ble_eq_true rfl, Nat.le_of_ble_eq_true rfl⟩ rfl rfl rfl hl.1 rfl (Nat.le_of_ble_eq_true rfl) dL_law_817 ⟨Nat.le_of_ble_eq_true rfl, Nat.le_of_ble_eq_true rfl⟩ (fun r51 σ50 τ50 H locs h50 hP hS => ?_)
  obtain ⟨rfl, f52, f53, I54, w55, h50⟩ := h50
  obtain ⟨i57, w58, w59⟩ : (0 ≤ (σ50 47 0).toInt ∧ (σ50 47 0).toInt ≤ 12) ∧ (∀ k : Nat, k < 12 → 0 ≤ (σ50 48 k).toInt ∧ (σ50 48 k).toInt ≤ 3) ∧ (∀ k : Nat, k < 12 → 0 ≤ (σ50 49 k).toInt ∧ (σ50 49 k).toInt ≤ 1) := id I54
  refine lv_pop hx hb dL_law_820 rfl ?_
  refine lv_aload_n hx hb dL_law_821 rfl (lv_at hl 1 rfl) ?_
  refine lv_aload_n hx hb dL_law_822 rfl (lv_at hl 3 rfl) ?_
  refine lv_iload_n hx hb dL_law_823 rfl (lv_at hl 0 rfl) ?_
  refine lv_iconst (v := 1) hx hb dL_law_824 (by decide) ?_
  refine lv_iadd hx hb dL_law_825 ?_
  refine jtopr ex46.symm ?_
  refine va_sld hx hb hX hbl hbA hS (jin tx46 (by omega) (by omega)) dL_law_826 ?_
  refine lv_aload_n hx hb dL_law_827 rfl (lv_at hl 3 rfl) ?_
  refine lv_iload_n hx hb dL_law_828 rfl (lv_at hl 0 rfl) ?_
  refine lv_iconst (v := 2) hx hb dL_law_829 (by decide) ?_
  refine lv_iadd hx hb dL_law_830 ?_
  refine jtopr ex48.symm ?_
  refine va_sld hx hb hX hbl hbA hS (jin tx48 (by omega) (by omega)) dL_law_831 ?_
  have I60 : jI102 σ50 := jI102_fr (congrFun (f52 55 (by decide)) 6) (f52 60 (by decide)) (f52 61 (by decide)) hI102
  have I61 : jI104 σ50 := jI104_fr (congrFun (f52 55 (by decide)) 10) (congrFun (f52 55 (by decide)) 12) (congrFun (f52 55 (by decide)) 13) (f52 62 (by decide)) (f52 67 (by decide)) hI104
  have I62 : jI107 σ50 := jI107_fr (congrFun (f52 55 (by decide)) 12) (congrFun (f52 55 (by decide)) 47) (f52 80 (by decide)) hI107
  have I63 : jI110 σ50 := jI110_fr (f52 86 (by decide)) (f52 87 (by decide)) hI110
  have I64 : jI119 σ50 := jI119_fr (f52 68 (by decide)) hI119
  have p65 : jBook σ50 := jBook.fr (congrFun (f52 55 (by decide)) 47) (congrFun (f52 55 (by decide)) 10) (f52 81 (by decide)) hs_jBook
  refine jcallV (As := [.int (xs x46.toNatClampNeg), .int (xs x48.toNatClampNeg)]) (rest := []) ⟨hx, hb, hml, hown, hts⟩ hK hP hA hS hZ (c_X12_books l D cI cL ad zz hJ σ50 τ (xs x46.toNatClampNeg) ((xs x46.toNatClampNeg).toInt) rfl (xs x48.toNatClampNeg) ((xs x48.toNatClampNeg).toInt) rfl I60 I61 I62 I63 I64 p65) cw_RL_100 (jc_55 cI cL ad σ50 τ) rfl ⟨Nat.le_of_ble_eq_true rfl, Nat.le_of_ble_eq_true rfl⟩ rfl rfl rfl hl.1 rfl (Nat.le_of_ble_eq_true rfl) dL_law_832 ⟨Nat.le_of_ble_eq_true rfl, Nat.le_of_ble_eq_true rfl⟩ (fun r67 σ66 τ66 H locs h66 hP hS => ?_)
  obtain ⟨rfl, f68, f69, I70, I71, p72, w73, h66⟩ := h66
  obtain ⟨i75, i76, w77⟩ : (0 ≤ (σ66 55 47).toInt ∧ (σ66 55 47).toInt ≤ 12) ∧ ((σ66 55 47).toInt ≤ (σ66 55 12).toInt) ∧ (∀ k : Nat, k < 12 → 0 ≤ (σ66 80 k).toInt ∧ (σ66 80 k).toInt ≤ 3) := id I70
  have z78 : (σ50 55 6).toInt = (σ 55 6).toInt := (congrArg Int32.toInt (show σ50 55 6 = (σ 55 6) from (congrFun (f52 55 (by decide)) 6)))
  have z79 : (σ50 55 47).toInt = (σ 55 47).toInt := (congrArg Int32.toInt (show σ50 55 47 = (σ 55 47) from (congrFun (f52 55 (by decide)) 47)))
  have z80 : (σ50 55 10).toInt = (σ 55 10).toInt := (congrArg Int32.toInt (show σ50 55 10 = (σ 55 10) from (congrFun (f52 55 (by decide)) 10)))
  have z81 : (σ50 55 12).toInt = (σ 55 12).toInt := (congrArg Int32.toInt (show σ50 55 12 = (σ 55 12) from (congrFun (f52 55 (by decide)) 12)))
  have z82 : (σ50 55 30).toInt = (σ 55 30).toInt := (congrArg Int32.toInt (show σ50 55 30 = (σ 55 30) from (congrFun (f52 55 (by decide)) 30)))
  have z83 : (σ50 55 31).toInt = (σ 55 31).toInt := (congrArg Int32.toInt (show σ50 55 31 = (σ 55 31) from (congrFun (f52 55 (by decide)) 31)))
  rw [show (σ50 55 6).toInt = (σ 55 6).toInt from by omega, show (σ50 55 47).toInt = (σ 55 47).toInt from by omega, show (σ50 55 10).toInt = (σ 55 10).toInt from by omega, show (σ50 55 12).toInt = (σ 55 12).toInt from by omega, show (σ50 55 30).toInt = (σ 55 30).toInt from by omega, show (σ50 55 31).toInt = (σ 55 31).toInt from by omega, show σ50 56 = σ 56 from (f52 56 (by decide)), show σ50 80 = σ 80 from (f52 80 (by decide)), show σ50 81 = σ 81 from (f52 81 (by decide)), show σ50 86 = σ 86 from (f52 86 (by decide)), show σ50 87 = σ 87 from (f52 87 (by decide))] at w73
  rw [show (σ 2 0).toInt = (σ 55 6).toInt from by omega, show (σ 47 0).toInt = (σ 55 47).toInt from by omega, show (σ 16 0).toInt = (σ 55 10).toInt from by omega, show (σ 16 1).toInt = (σ 55 12).toInt from by omega] at w55
  have p84 := jBb.det (J := 0) hr7 (w55 (hr0.ok hr1.1) (fun d0 d5 z q hq => by
      rw [jnc (rfl : (xs x46.toNatClampNeg).toInt = (xs x46.toNatClampNeg).toInt)] at z hq
      have w := hr6 ((xs x46.toNatClampNeg).toInt).toNat (by omega) z q hq
      rw [show 60 * ((xs x46.toNatClampNeg).toInt).toNat + q = (60 * ((xs x46.toNatClampNeg).toInt) + (q : Int)).toNat by omega] at w; exact w)) (w73 (by omega) (by omega) hr1.1) Iff.rfl (fun z => by
      rcases hr4.at (d := (xs x46.toNatClampNeg)) (by omega) (by omega) with ⟨x1, x2⟩ | ⟨x1, x2, x3, x4⟩ | ⟨x1, x2, x3, x4, x5⟩
      · omega
      · have x5 : (σ 86 (xs x46.toNatClampNeg).toNatClampNeg).toInt = (σ 53 (xs x46.toNatClampNeg).toNatClampNeg).toInt := by rw [x2]
        have hn9 := hr4.1
        omega
      · omega) (fun z1 z2 s1 s2 => by
      have hx := hr4.at (d := (xs x46.toNatClampNeg)) (by omega) (by omega)
      have hL : (if (σ 51 (xs x46.toNatClampNeg).toNatClampNeg).toInt = 0 ∧ 0 ≤ (xs x48.toNatClampNeg).toInt then (σ 52 (xs x46.toNatClampNeg).toNatClampNeg).toInt - ((xs x48.toNatClampNeg).toInt) else 0) = (if (σ 86 (xs x46.toNatClampNeg).toNatClampNeg).toInt = 20 ∧ 0 ≤ (xs x48.toNatClampNeg).toInt then (σ 87 (xs x46.toNatClampNeg).toNatClampNeg).toInt - ((xs x48.toNatClampNeg).toInt) else 0) := by
        rcases hx with ⟨x1, x2⟩ | ⟨x1, x2, x3, x4⟩ | ⟨x1, x2, x3, x4, x5⟩
        · rw [if_neg (by omega), if_neg (by omega)]
        · have x5 : (σ 86 (xs x46.toNatClampNeg).toNatClampNeg).toInt = (σ 53 (xs x46.toNatClampNeg).toNatClampNeg).toInt := by rw [x2]
          have hn9 := hr4.1
          rw [if_neg (by omega), if_neg (by omega)]
        · by_cases c : (σ 51 (xs x46.toNatClampNeg).toNatClampNeg).toInt = 0 ∧ 0 ≤ (xs x48.toNatClampNeg).toInt
          · rw [if_pos c, if_pos (by omega), x5]
          · rw [if_neg c, if_neg (by omega)]
      rw [← hL] at s2
      refine jBs.det (fun k hk => ?_) hr0.t4 s1 s2
      by_cases c : (σ 51 (xs x46.toNatClampNeg).toNatClampNeg).toInt = 0 ∧ 0 ≤ (xs x48.toNatClampNeg).toInt
      · rw [if_pos c] at hk
        show τ 54 (60 * ((xs x46.toNatClampNeg).toInt) + ((xs x48.toNatClampNeg).toInt) + (k : Int)).toNat = τ 88 (60 * ((xs x46.toNatClampNeg).toInt) + ((xs x48.toNatClampNeg).toInt) + (k : Int)).toNat
        obtain ⟨c1, c2⟩ := c
        rw [jnc (rfl : (xs x46.toNatClampNeg).toInt = (xs x46.toNatClampNeg).toInt)] at c1 hk
        have hd : 0 ≤ (xs x46.toNatClampNeg).toInt ∧ (xs x46.toNatClampNeg).toInt ≤ 5 := by omega
        have w := hr5 ((xs x46.toNatClampNeg).toInt).toNat (by omega) (by omega) (((xs x48.toNatClampNeg).toInt).toNat + k) (by omega)
        rw [show (60 * ((xs x46.toNatClampNeg).toInt) + ((xs x48.toNatClampNeg).toInt) + (k : Int)).toNat = 60 * ((xs x46.toNatClampNeg).toInt).toNat + (((xs x48.toNatClampNeg).toInt).toNat + k) by omega]; exact w
      · rw [if_neg c] at hk; exact absurd hk (by omega)) rfl
  obtain ⟨k85, k86, p84⟩ := p84
  have z87 : (σ66 55 12).toInt = (σ 55 12).toInt := (congrArg Int32.toInt (show σ66 55 12 = (σ 55 12) from ((f69 12 (by decide)).trans (congrFun (f52 55 (by decide)) 12))))
  refine lv_pop hx hb dL_law_835 rfl ?_
  refine lv_goto (tgt := 1357) hx hb dL_law_836 (by decide) ?_
  obtain ⟨x88, ex88⟩ : ∃ y : Int32, y = x0 + 6 := ⟨_, rfl⟩
  have tx88 : x88.toInt = x0.toInt + 6 := (jadd ex88 rfl jz_6 (by omega) (by omega)).trans (by omega)
  refine lv_iinc (v := x88) (lv' := [(3, .int x88), (2, .ref (ad 55)), (1, .ref (ad 0)), (0, .ref b)]) hx hb dL_law_1357 hl (k := 0) rfl (by rw [ex88]; rfl) (by decide) rfl (fun ls hl => ?_)
  refine lv_goto (tgt := 18) hx hb dL_law_1360 (by decide) ?_
  have I89 : jI2 σ66 := jI2_fr ((congrFun (f68 2 (by decide)) 0).trans (congrFun (f52 2 (by decide)) 0)) ((congrFun (f68 2 (by decide)) 1).trans (congrFun (f52 2 (by decide)) 1)) ((congrFun (f68 2 (by decide)) 2).trans (congrFun (f52 2 (by decide)) 2)) ((congrFun (f68 2 (by decide)) 3).trans (congrFun (f52 2 (by decide)) 3)) ((f68 6 (by decide)).trans (f52 6 (by decide))) hI2
  have I90 : jI9 σ66 := jI9_fr ((congrFun (f68 9 (by decide)) 0).trans (congrFun (f52 9 (by decide)) 0)) ((f68 10 (by decide)).trans (f52 10 (by decide))) ((f68 11 (by decide)).trans (f52 11 (by decide))) hI9
  have I91 : jI12 σ66 := jI12_fr ((congrFun (f68 12 (by decide)) 0).trans (congrFun (f52 12 (by decide)) 0)) ((f68 13 (by decide)).trans (f52 13 (by decide))) hI12
  have I92 : jI16 σ66 := jI16_fr ((congrFun (f68 16 (by decide)) 0).trans (congrFun (f52 16 (by decide)) 0)) ((congrFun (f68 16 (by decide)) 1).trans (congrFun (f52 16 (by decide)) 1)) ((congrFun (f68 16 (by decide)) 2).trans (congrFun (f52 16 (by decide)) 2)) ((f68 17 (by decide)).trans (f52 17 (by decide))) hI16
  have I93 : jI18 σ66 := jI18_fr ((congrFun (f68 18 (by decide)) 0).trans (congrFun (f52 18 (by decide)) 0)) ((f68 19 (by decide)).trans (f52 19 (by decide))) hI18
  have I94 : jI22 σ66 := jI22_fr ((congrFun (f68 22 (by decide)) 0).trans (congrFun (f52 22 (by decide)) 0)) ((f68 23 (by decide)).trans (f52 23 (by decide))) hI22
  have I95 : jI31 σ66 := jI31_fr ((congrFun (f68 31 (by decide)) 8).trans (congrFun (f52 31 (by decide)) 8)) ((f68 33 (by decide)).trans (f52 33 (by decide))) ((f68 36 (by decide)).trans (f52 36 (by decide))) hI31
  have I96 : jI38 σ66 := jI38_fr ((congrFun (f68 38 (by decide)) 0).trans (congrFun (f52 38 (by decide)) 0)) ((congrFun (f68 38 (by decide)) 1).trans (congrFun (f52 38 (by decide)) 1)) ((f68 39 (by decide)).trans (f52 39 (by decide))) hI38
  have I97 : jI43 σ66 := jI43_fr ((congrFun (f68 43 (by decide)) 8).trans (congrFun (f52 43 (by decide)) 8)) hI43
  have I98 : jI47 σ66 := jI47_fr (congrFun (f68 47 (by decide)) 0) (f68 48 (by decide)) (f68 49 (by decide)) I54
  have I99 : jI50 σ66 := jI50_fr ((f68 52 (by decide)).trans (f52 52 (by decide))) hI50
  have I100 : jI101 σ66 := jI101_fr ((f69 4 (by decide)).trans (congrFun (f52 55 (by decide)) 4)) ((f69 5 (by decide)).trans (congrFun (f52 55 (by decide)) 5)) ((f68 56 (by decide)).trans (f52 56 (by decide))) ((f68 57 (by decide)).trans (f52 57 (by decide))) ((f68 58 (by decide)).trans (f52 58 (by decide))) ((f68 59 (by decide)).trans (f52 59 (by decide))) hI101
  have I101 : jI102 σ66 := jI102_fr (f69 6 (by decide)) (f68 60 (by decide)) (f68 61 (by decide)) I60
  have I102 : jI103 σ66 := jI103_fr ((f69 9 (by decide)).trans (congrFun (f52 55 (by decide)) 9)) hI103
  have I103 : jI104 σ66 := jI104_fr (f69 10 (by decide)) (f69 12 (by decide)) (f69 13 (by decide)) (f68 62 (by decide)) (f68 67 (by decide)) I61
  have I104 : jI105 σ66 := jI105_fr ((f69 15 (by decide)).trans (congrFun (f52 55 (by decide)) 15)) ((f68 65 (by decide)).trans (f52 65 (by decide))) hI105
  have I105 : jI106 σ66 := jI106_fr ((f69 32 (by decide)).trans (congrFun (f52 55 (by decide)) 32)) ((f68 70 (by decide)).trans (f52 70 (by decide))) ((f68 71 (by decide)).trans (f52 71 (by decide))) ((f68 72 (by decide)).trans (f52 72 (by decide))) hI106
  have I106 : jI109 σ66 := jI109_fr ((f69 50 (by decide)).trans (congrFun (f52 55 (by decide)) 50)) hI109
  have I107 : jI110 σ66 := jI110_fr (f68 86 (by decide)) (f68 87 (by decide)) I63
  have I108 : jI111 σ66 := jI111_fr ((f68 79 (by decide)).trans (f52 79 (by decide))) hI111
  have p109 : jKept σ66 := jKept.fr ((f68 75 (by decide)).trans (f52 75 (by decide))) ((f68 76 (by decide)).trans (f52 76 (by decide))) ((f68 77 (by decide)).trans (f52 77 (by decide))) hs_jKept
  have z110 : (σ66 2 0).toInt = (σ 2 0).toInt := (congrArg Int32.toInt (show σ66 2 0 = (σ 2 0) from ((congrFun (f68 2 (by decide)) 0).trans (congrFun (f52 2 (by decide)) 0))))
  have z111 : (σ66 55 6).toInt = (σ 55 6).toInt := (congrArg Int32.toInt (show σ66 55 6 = (σ 55 6) from ((f69 6 (by decide)).trans (congrFun (f52 55 (by decide)) 6))))
  have z112 : (σ66 2 2).toInt = (σ 2 2).toInt := (congrArg Int32.toInt (show σ66 2 2 = (σ 2 2) from ((congrFun (f68 2 (by decide)) 2).trans (congrFun (f52 2 (by decide)) 2))))
  have z113 : (σ66 55 5).toInt = (σ 55 5).toInt := (congrArg Int32.toInt (show σ66 55 5 = (σ 55 5) from ((f69 5 (by decide)).trans (congrFun (f52 55 (by decide)) 5))))
  have z114 : (σ66 2 3).toInt = (σ 2 3).toInt := (congrArg Int32.toInt (show σ66 2 3 = (σ 2 3) from ((congrFun (f68 2 (by decide)) 3).trans (congrFun (f52 2 (by decide)) 3))))
  have z115 : (σ66 55 4).toInt = (σ 55 4).toInt := (congrArg Int32.toInt (show σ66 55 4 = (σ 55 4) from ((f69 4 (by decide)).trans (congrFun (f52 55 (by decide)) 4))))
  have z116 : (σ66 9 0).toInt = (σ 9 0).toInt := (congrArg Int32.toInt (show σ66 9 0 = (σ 9 0) from ((congrFun (f68 9 (by decide)) 0).trans (congrFun (f52 9 (by decide)) 0))))
  have z117 : (σ66 55 15).toInt = (σ 55 15).toInt := (congrArg Int32.toInt (show σ66 55 15 = (σ 55 15) from ((f69 15 (by decide)).trans (congrFun (f52 55 (by decide)) 15))))
  have z118 : (σ66 16 0).toInt = (σ 16 0).toInt := (congrArg Int32.toInt (show σ66 16 0 = (σ 16 0) from ((congrFun (f68 16 (by decide)) 0).trans (congrFun (f52 16 (by decide)) 0))))
  have z119 : (σ66 55 10).toInt = (σ 55 10).toInt := (congrArg Int32.toInt (show σ66 55 10 = (σ 55 10) from ((f69 10 (by decide)).trans (congrFun (f52 55 (by decide)) 10))))
  have z120 : (σ66 16 1).toInt = (σ 16 1).toInt := (congrArg Int32.toInt (show σ66 16 1 = (σ 16 1) from ((congrFun (f68 16 (by decide)) 1).trans (congrFun (f52 16 (by decide)) 1))))
  have z121 : (σ66 16 2).toInt = (σ 16 2).toInt := (congrArg Int32.toInt (show σ66 16 2 = (σ 16 2) from ((congrFun (f68 16 (by decide)) 2).trans (congrFun (f52 16 (by decide)) 2))))
  have z122 : (σ66 55 13).toInt = (σ 55 13).toInt := (congrArg Int32.toInt (show σ66 55 13 = (σ 55 13) from ((f69 13 (by decide)).trans (congrFun (f52 55 (by decide)) 13))))
  have z123 : (σ66 38 0).toInt = (σ 38 0).toInt := (congrArg Int32.toInt (show σ66 38 0 = (σ 38 0) from ((congrFun (f68 38 (by decide)) 0).trans (congrFun (f52 38 (by decide)) 0))))
  have z124 : (σ66 55 32).toInt = (σ 55 32).toInt := (congrArg Int32.toInt (show σ66 55 32 = (σ 55 32) from ((f69 32 (by decide)).trans (congrFun (f52 55 (by decide)) 32))))
  have z125 : (σ66 47 0).toInt = (σ50 47 0).toInt := (congrArg Int32.toInt (show σ66 47 0 = (σ50 47 0) from (congrFun (f68 47 (by decide)) 0)))
  have z126 : (σ66 55 30).toInt = (σ 55 30).toInt := (congrArg Int32.toInt (show σ66 55 30 = (σ 55 30) from ((f69 30 (by decide)).trans (congrFun (f52 55 (by decide)) 30))))
  have z127 : (σ66 55 31).toInt = (σ 55 31).toInt := (congrArg Int32.toInt (show σ66 55 31 = (σ 55 31) from ((f69 31 (by decide)).trans (congrFun (f52 55 (by decide)) 31))))
  exact ih x88 σ66 τ _ _ ls (by have h9 := tx88; omega) ⟨I89, I90, I91, I92, I93, I94, I95, I96, I97, I98, I99, I100, I101, I102, I103, I104, I105, I70, I106, I107, I108, I71, p109, p72, (by omega), (by omega), (by omega), (by omega), (by omega), (by omega), (by omega), (by omega), (by omega), (by omega), (by omega), (show jNumP (σ66 3) (σ66 56) (σ66 6) (σ66 57) (σ66 7) (σ66 58) (σ66 8) (σ66 59) (σ66 55 6).toInt (σ66 55 4).toInt by rw [show σ66 3 = σ 3 from ((f68 3 (by decide)).trans (f52 3 (by decide))), show σ66 56 = σ 56 from ((f68 56 (by decide)).trans (f52 56 (by decide))), show σ66 6 = σ 6 from ((f68 6 (by decide)).trans (f52 6 (by decide))), show σ66 57 = σ 57 from ((f68 57 (by decide)).trans (f52 57 (by decide))), show σ66 7 = σ 7 from ((f68 7 (by decide)).trans (f52 7 (by decide))), show σ66 58 = σ 58 from ((f68 58 (by decide)).trans (f52 58 (by decide))), show σ66 8 = σ 8 from ((f68 8 (by decide)).trans (f52 8 (by decide))), show σ66 59 = σ 59 from ((f68 59 (by decide)).trans (f52 59 (by decide))), show (σ66 55 6).toInt = (σ 55 6).toInt from by omega, show (σ66 55 4).toInt = (σ 55 4).toInt from by omega]; exact hr0), (show jOvP (σ66 56) (σ66 57) (σ66 58) (σ66 59) (σ66 55 4).toInt by rw [show σ66 56 = σ 56 from ((f68 56 (by decide)).trans (f52 56 (by decide))), show σ66 57 = σ 57 from ((f68 57 (by decide)).trans (f52 57 (by decide))), show σ66 58 = σ 58 from ((f68 58 (by decide)).trans (f52 58 (by decide))), show σ66 59 = σ 59 from ((f68 59 (by decide)).trans (f52 59 (by decide))), show (σ66 55 4).toInt = (σ 55 4).toInt from by omega]; exact hr1), (show jTp (σ66 10) (σ66 63) (σ66 55 15).toInt by rw [show σ66 10 = σ 10 from ((f68 10 (by decide)).trans (f52 10 (by decide))), show σ66 63 = σ 63 from ((f68 63 (by decide)).trans (f52 63 (by decide)))]; exact hr2.le (by omega)), (show jSo (σ66 17) (σ66 62) (σ66 16 0).toInt by rw [show σ66 17 = σ 17 from ((f68 17 (by decide)).trans (f52 17 (by decide))), show σ66 62 = σ 62 from ((f68 62 (by decide)).trans (f52 62 (by decide))), show (σ66 16 0).toInt = (σ 16 0).toInt from by omega]; exact hr3), (show jShP (σ66 51) (σ66 52) (σ66 53) (σ66 86) (σ66 87) (σ66 55 32).toInt by rw [show σ66 51 = σ 51 from ((f68 51 (by decide)).trans (f52 51 (by decide))), show σ66 52 = σ 52 from ((f68 52 (by decide)).trans (f52 52 (by decide))), show σ66 53 = σ 53 from ((f68 53 (by decide)).trans (f52 53 (by decide))), show σ66 86 = σ 86 from ((f68 86 (by decide)).trans (f52 86 (by decide))), show σ66 87 = σ 87 from ((f68 87 (by decide)).trans (f52 87 (by decide)))]; exact (hr4.up (by omega) (by omega))), (show jEl (σ66 51) (σ66 52) (τ 54) (τ 88) by rw [show σ66 51 = σ 51 from ((f68 51 (by decide)).trans (f52 51 (by decide))), show σ66 52 = σ 52 from ((f68 52 (by decide)).trans (f52 52 (by decide)))]; exact hr5), (show jByP (σ66 51) (σ66 52) (τ 54) by rw [show σ66 51 = σ 51 from ((f68 51 (by decide)).trans (f52 51 (by decide))), show σ66 52 = σ 52 from ((f68 52 (by decide)).trans (f52 52 (by decide)))]; exact hr6), (show jBk (σ66 48) (σ66 80) (σ66 49) (σ66 81) (σ66 55 47).toInt by rw [show σ66 48 = σ50 48 from (f68 48 (by decide)), show σ66 49 = σ50 49 from (f68 49 (by decide)), show (σ66 55 47).toInt = (σ50 47 0).toInt from by omega]; exact p84)⟩ hP hS (lv_sub hl [0, 1, 2, 3] rfl)
set_option maxHeartbeats 4000000 in
set_option maxRecDepth 100000 in
theorem law_case_21 {p : Program} {e : Env} {s : State} {m : MethodId} {below : List Frame} {meth : Method} {c : Code} (l : Launch) {b L : Nat} {xs : Nat → Int32} {D : va_G} {cI cL : ClassId} {ad zz : Nat → Nat} (C0 : lw_At p s m meth c b L xs) (hJ : jD ad) (hA : ∀ q, jA ad q → s.heap.size ≤ q) (hK : jK D cI cL s) (hZ : jZ zz (fun q : Nat => s.heap.size ≤ q) s s.heap) {x0 : Int32} (hx0 : 0 ≤ x0.toInt) (hxL : x0.toInt + 6 ≤ (L : Int)) (hL : L ≤ 384) {σ : Nat → Nat → Int32} {τ : Nat → Nat → Int64} {H : Heap} {locs : List Loc} (hS : va_S (fun q : Nat => s.heap.size ≤ q) s.heap H locs) {ls : Array Slot} (hAll : jAll σ τ) (hP : jH D cI cL ad σ τ H) (hl : lv_has ls 4 [(3, .int x0), (2, .ref (ad 55)), (1, .ref (ad 0)), (0, .ref b)]) (ih : ∀ (x1 : Int32) (σ : Nat → Nat → Int32) (τ : Nat → Nat → Int64) (H : Heap) (locs : List Loc) (ls : Array Slot), x1.toInt = x0.toInt + 6 → jAll σ τ → jH D cI cL ad σ τ H → va_S (fun q : Nat => s.heap.size ≤ q) s.heap H locs → lv_has ls 4 [(3, .int x1), (2, .ref (ad 55)), (1, .ref (ad 0)), (0, .ref b)] → W p l e room_1 s m #[Value.ref b] below meth c H locs 90 348600 (lw_Z below #[Value.ref b] s) (F0 m 18 ls [])) : W p l e room_1 s m #[Value.ref b] below meth c H locs 90 348600 (lw_Z below #[Value.ref b] s) (F0 m 839 ls []) := by
  obtain ⟨hx, hb, hr, hml, hown, hts0, hX, hbl, hlocks, hgv⟩ := C0
  have hts : ∀ w ∈ wsL_law, w.before #[Value.ref b] s = true := fun w h => hts0 w (wsL_law_in w h)
  have hbA : ¬ (fun q : Nat => s.heap.size ≤ q) b := Nat.not_le.mpr hbl
  have hown : s.vm.findClass RL = some m.cls := hown
  obtain ⟨hI2, hI9, hI12, hI16, hI18, hI22, hI31, hI38, hI43, hI47, hI50, hI101, hI102, hI103, hI104, hI105, hI106, hI107, hI109, hI110, hI111, hI119, hs_jKept, hs_jBook, ht0, ht1, ht2, ht3, ht4, ht5, ht6, ht7, ht8, ht9, ht10, hr0, hr1, hr2, hr3, hr4, hr5, hr6, hr7⟩ := hAll
  have hL9 : (L : Int) ≤ 384 := by omega
  obtain ⟨i1, i2, i3, i4, i5, w6⟩ : (0 ≤ (σ 2 0).toInt ∧ (σ 2 0).toInt ≤ 4) ∧ (0 ≤ (σ 2 1).toInt ∧ (σ 2 1).toInt ≤ 3) ∧ (0 ≤ (σ 2 2).toInt) ∧ (0 ≤ (σ 2 3).toInt) ∧ ((σ 2 2).toInt + (σ 2 3).toInt ≤ 40) ∧ (∀ k : Nat, k < 40 → 0 ≤ (σ 6 k).toInt ∧ (σ 6 k).toInt ≤ 67) := id hI2
  obtain ⟨i7, w8, w9⟩ : (0 ≤ (σ 9 0).toInt ∧ (σ 9 0).toInt ≤ 80) ∧ (∀ k : Nat, k < 80 → 0 ≤ (σ 10 k).toInt ∧ (σ 10 k).toInt ≤ 255) ∧ (∀ k : Nat, k < 8 → 0 ≤ (σ 11 k).toInt ∧ (σ 11 k).toInt ≤ 3) := id hI9
  obtain ⟨i10, i11, i12, w13⟩ : (1 ≤ (σ 16 0).toInt ∧ (σ 16 0).toInt ≤ 8) ∧ (1 ≤ (σ 16 1).toInt ∧ (σ 16 1).toInt ≤ 12) ∧ (0 ≤ (σ 16 2).toInt ∧ (σ 16 2).toInt ≤ 999) ∧ (∀ k : Nat, k < 8 → 0 ≤ (σ 17 k).toInt ∧ (σ 17 k).toInt ≤ 3) := id hI16
  obtain ⟨i14, i15, w16⟩ : (0 ≤ (σ 38 0).toInt ∧ (σ 38 0).toInt ≤ 20) ∧ (0 ≤ (σ 38 1).toInt ∧ (σ 38 1).toInt ≤ 1000) ∧ (∀ k : Nat, k < 20 → 0 ≤ (σ 39 k).toInt ∧ (σ 39 k).toInt ≤ 6) := id hI38
  obtain ⟨i17, w18, w19⟩ : (0 ≤ (σ 47 0).toInt ∧ (σ 47 0).toInt ≤ 12) ∧ (∀ k : Nat, k < 12 → 0 ≤ (σ 48 k).toInt ∧ (σ 48 k).toInt ≤ 3) ∧ (∀ k : Nat, k < 12 → 0 ≤ (σ 49 k).toInt ∧ (σ 49 k).toInt ≤ 1) := id hI47
  have w20 : ∀ k : Nat, k < 6 → 0 ≤ (σ 52 k).toInt ∧ (σ 52 k).toInt ≤ 60 := hI50
  obtain ⟨i21, i22, i23, w24, w25, w26, w27⟩ : (0 ≤ (σ 55 5).toInt) ∧ ((σ 55 5).toInt ≤ (σ 55 4).toInt) ∧ ((σ 55 4).toInt ≤ 40) ∧ (∀ k : Nat, k < 68 → (-200) ≤ (σ 56 k).toInt ∧ (σ 56 k).toInt ≤ 500) ∧ (∀ k : Nat, k < 40 → 0 ≤ (σ 57 k).toInt ∧ (σ 57 k).toInt ≤ 67) ∧ (∀ k : Nat, k < 40 → (-200) ≤ (σ 58 k).toInt ∧ (σ 58 k).toInt ≤ 500) ∧ (∀ k : Nat, k < 40 → (-200) ≤ (σ 59 k).toInt ∧ (σ 59 k).toInt ≤ 500) := id hI101
  obtain ⟨i28, w29, w30⟩ : (0 ≤ (σ 55 6).toInt ∧ (σ 55 6).toInt ≤ 4) ∧ (∀ k : Nat, k < 4 → 0 ≤ (σ 60 k).toInt ∧ (σ 60 k).toInt ≤ 50) ∧ (∀ k : Nat, k < 4 → 0 ≤ (σ 61 k).toInt ∧ (σ 61 k).toInt ≤ 20) := id hI102
  obtain ⟨i31, i32, i33, w34, w35⟩ : (1 ≤ (σ 55 10).toInt ∧ (σ 55 10).toInt ≤ 8) ∧ (1 ≤ (σ 55 12).toInt ∧ (σ 55 12).toInt ≤ 12) ∧ (0 ≤ (σ 55 13).toInt ∧ (σ 55 13).toInt ≤ 999) ∧ (∀ k : Nat, k < 8 → 0 ≤ (σ 62 k).toInt ∧ (σ 62 k).toInt ≤ 3) ∧ (∀ k : Nat, k < 8 → 0 ≤ (σ 67 k).toInt ∧ (σ 67 k).toInt ≤ 3) := id hI104
  obtain ⟨i36, w37⟩ : (0 ≤ (σ 55 15).toInt ∧ (σ 55 15).toInt ≤ 80) ∧ (∀ k : Nat, k < 2 → (-1) ≤ (σ 65 k).toInt ∧ (σ 65 k).toInt ≤ 80) := id hI105
  obtain ⟨i38, w39, w40, w41⟩ : (0 ≤ (σ 55 32).toInt ∧ (σ 55 32).toInt ≤ 20) ∧ (∀ k : Nat, k < 20 → 0 ≤ (σ 70 k).toInt ∧ (σ 70 k).toInt ≤ 6) ∧ (∀ k : Nat, k < 20 → 0 ≤ (σ 71 k).toInt ∧ (σ 71 k).toInt ≤ 8) ∧ (∀ k : Nat, k < 160 → 0 ≤ (σ 72 k).toInt ∧ (σ 72 k).toInt ≤ 3) := id hI106
  obtain ⟨i42, i43, w44⟩ : (0 ≤ (σ 55 47).toInt ∧ (σ 55 47).toInt ≤ 12) ∧ ((σ 55 47).toInt ≤ (σ 55 12).toInt) ∧ (∀ k : Nat, k < 12 → 0 ≤ (σ 80 k).toInt ∧ (σ 80 k).toInt ≤ 3) := id hI107
  refine lv_aload_n hx hb dL_law_839 rfl (lv_at hl 2 rfl) ?_
  refine jcallV (As := []) (rest := []) ⟨hx, hb, hml, hown, hts⟩ hK hP hA hS hZ (c_X11_close l D cI cL ad zz hJ σ τ hI47) cw_RL_101 (jc_0 cI cL ad σ τ) rfl ⟨Nat.le_of_ble_eq_true rfl, Nat.le_of_ble_eq_true rfl⟩ rfl rfl rfl hl.1 rfl (Nat.le_of_ble_eq_true rfl) dL_law_840 ⟨Nat.le_of_ble_eq_true rfl, Nat.le_of_ble_eq_true rfl⟩ (fun r46 σ45 τ45 H locs h45 hP hS => ?_)
  obtain ⟨rfl, f47, f48, I49, h45⟩ := h45
  obtain ⟨i51, w52, w53⟩ : (0 ≤ (σ45 47 0).toInt ∧ (σ45 47 0).toInt ≤ 12) ∧ (∀ k : Nat, k < 12 → 0 ≤ (σ45 48 k).toInt ∧ (σ45 48 k).toInt ≤ 3) ∧ (∀ k : Nat, k < 12 → 0 ≤ (σ45 49 k).toInt ∧ (σ45 49 k).toInt ≤ 1) := id I49
  have h54 := h45
  obtain ⟨q57, k55, k56⟩ := h54
  refine lv_aload_n hx hb dL_law_843 rfl (lv_at hl 1 rfl) ?_
  have I58 : jI104 σ45 := jI104_fr (congrFun (f47 55 (by decide)) 10) (congrFun (f47 55 (by decide)) 12) (congrFun (f47 55 (by decide)) 13) (f47 62 (by decide)) (f47 67 (by decide)) hI104
  have I59 : jI107 σ45 := jI107_fr (congrFun (f47 55 (by decide)) 12) (congrFun (f47 55 (by decide)) 47) (f47 80 (by decide)) hI107
  have p60 : jBook σ45 := jBook.fr (congrFun (f47 55 (by decide)) 47) (congrFun (f47 55 (by decide)) 10) (f47 81 (by decide)) hs_jBook
  have z61 : (σ45 55 47).toInt = (σ 55 47).toInt := (congrArg Int32.toInt (show σ45 55 47 = (σ 55 47) from (congrFun (f47 55 (by decide)) 47)))
  refine jcallV (As := []) (rest := [.int r46]) ⟨hx, hb, hml, hown, hts⟩ hK hP hA hS hZ (c_X12_close l D cI cL ad zz hJ σ45 τ I58 I59 p60) cw_RL_104 (jc_55 cI cL ad σ45 τ) rfl ⟨Nat.le_of_ble_eq_true rfl, Nat.le_of_ble_eq_true rfl⟩ rfl rfl rfl hl.1 rfl (Nat.le_of_ble_eq_true rfl) dL_law_844 ⟨Nat.le_of_ble_eq_true rfl, Nat.le_of_ble_eq_true rfl⟩ (fun r63 σ62 τ62 H locs h62 hP hS => ?_)
  obtain ⟨rfl, f64, f65, I66, p67, h62⟩ := h62
  obtain ⟨i69, i70, w71⟩ : (0 ≤ (σ62 55 47).toInt ∧ (σ62 55 47).toInt ≤ 12) ∧ ((σ62 55 47).toInt ≤ (σ62 55 12).toInt) ∧ (∀ k : Nat, k < 12 → 0 ≤ (σ62 80 k).toInt ∧ (σ62 80 k).toInt ≤ 3) := id I66
  have z72 : (σ62 55 12).toInt = (σ 55 12).toInt := (congrArg Int32.toInt (show σ62 55 12 = (σ 55 12) from ((f65 12 (by decide)).trans (congrFun (f47 55 (by decide)) 12))))
  have h73 := h62
  obtain ⟨q76, k74, k75⟩ := h73
  refine lv_icmp_eq (tgt := 1357) hx hb dL_law_847 (by decide) (fun _ => ?_) (fun c => absurd (jsame (rfl : r46.toInt = r46.toInt) (rfl : r63.toInt = r63.toInt) (by omega)) c)
  obtain ⟨x77, ex77⟩ : ∃ y : Int32, y = x0 + 6 := ⟨_, rfl⟩
  have tx77 : x77.toInt = x0.toInt + 6 := (jadd ex77 rfl jz_6 (by omega) (by omega)).trans (by omega)
  refine lv_iinc (v := x77) (lv' := [(3, .int x77), (2, .ref (ad 55)), (1, .ref (ad 0)), (0, .ref b)]) hx hb dL_law_1357 hl (k := 0) rfl (by rw [ex77]; rfl) (by decide) rfl (fun ls hl => ?_)
  refine lv_goto (tgt := 18) hx hb dL_law_1360 (by decide) ?_
  have I78 : jI2 σ62 := jI2_fr ((congrFun (f64 2 (by decide)) 0).trans (congrFun (f47 2 (by decide)) 0)) ((congrFun (f64 2 (by decide)) 1).trans (congrFun (f47 2 (by decide)) 1)) ((congrFun (f64 2 (by decide)) 2).trans (congrFun (f47 2 (by decide)) 2)) ((congrFun (f64 2 (by decide)) 3).trans (congrFun (f47 2 (by decide)) 3)) ((f64 6 (by decide)).trans (f47 6 (by decide))) hI2
  have I79 : jI9 σ62 := jI9_fr ((congrFun (f64 9 (by decide)) 0).trans (congrFun (f47 9 (by decide)) 0)) ((f64 10 (by decide)).trans (f47 10 (by decide))) ((f64 11 (by decide)).trans (f47 11 (by decide))) hI9
  have I80 : jI12 σ62 := jI12_fr ((congrFun (f64 12 (by decide)) 0).trans (congrFun (f47 12 (by decide)) 0)) ((f64 13 (by decide)).trans (f47 13 (by decide))) hI12
  have I81 : jI16 σ62 := jI16_fr ((congrFun (f64 16 (by decide)) 0).trans (congrFun (f47 16 (by decide)) 0)) ((congrFun (f64 16 (by decide)) 1).trans (congrFun (f47 16 (by decide)) 1)) ((congrFun (f64 16 (by decide)) 2).trans (congrFun (f47 16 (by decide)) 2)) ((f64 17 (by decide)).trans (f47 17 (by decide))) hI16
  have I82 : jI18 σ62 := jI18_fr ((congrFun (f64 18 (by decide)) 0).trans (congrFun (f47 18 (by decide)) 0)) ((f64 19 (by decide)).trans (f47 19 (by decide))) hI18
  have I83 : jI22 σ62 := jI22_fr ((congrFun (f64 22 (by decide)) 0).trans (congrFun (f47 22 (by decide)) 0)) ((f64 23 (by decide)).trans (f47 23 (by decide))) hI22
  have I84 : jI31 σ62 := jI31_fr ((congrFun (f64 31 (by decide)) 8).trans (congrFun (f47 31 (by decide)) 8)) ((f64 33 (by decide)).trans (f47 33 (by decide))) ((f64 36 (by decide)).trans (f47 36 (by decide))) hI31
  have I85 : jI38 σ62 := jI38_fr ((congrFun (f64 38 (by decide)) 0).trans (congrFun (f47 38 (by decide)) 0)) ((congrFun (f64 38 (by decide)) 1).trans (congrFun (f47 38 (by decide)) 1)) ((f64 39 (by decide)).trans (f47 39 (by decide))) hI38
  have I86 : jI43 σ62 := jI43_fr ((congrFun (f64 43 (by decide)) 8).trans (congrFun (f47 43 (by decide)) 8)) hI43
  have I87 : jI47 σ62 := jI47_fr (congrFun (f64 47 (by decide)) 0) (f64 48 (by decide)) (f64 49 (by decide)) I49
  have I88 : jI50 σ62 := jI50_fr ((f64 52 (by decide)).trans (f47 52 (by decide))) hI50
  have I89 : jI101 σ62 := jI101_fr ((f65 4 (by decide)).trans (congrFun (f47 55 (by decide)) 4)) ((f65 5 (by decide)).trans (congrFun (f47 55 (by decide)) 5)) ((f64 56 (by decide)).trans (f47 56 (by decide))) ((f64 57 (by decide)).trans (f47 57 (by decide))) ((f64 58 (by decide)).trans (f47 58 (by decide))) ((f64 59 (by decide)).trans (f47 59 (by decide))) hI101
  have I90 : jI102 σ62 := jI102_fr ((f65 6 (by decide)).trans (congrFun (f47 55 (by decide)) 6)) ((f64 60 (by decide)).trans (f47 60 (by decide))) ((f64 61 (by decide)).trans (f47 61 (by decide))) hI102
  have I91 : jI103 σ62 := jI103_fr ((f65 9 (by decide)).trans (congrFun (f47 55 (by decide)) 9)) hI103
  have I92 : jI104 σ62 := jI104_fr (f65 10 (by decide)) (f65 12 (by decide)) (f65 13 (by decide)) (f64 62 (by decide)) (f64 67 (by decide)) I58
  have I93 : jI105 σ62 := jI105_fr ((f65 15 (by decide)).trans (congrFun (f47 55 (by decide)) 15)) ((f64 65 (by decide)).trans (f47 65 (by decide))) hI105
  have I94 : jI106 σ62 := jI106_fr ((f65 32 (by decide)).trans (congrFun (f47 55 (by decide)) 32)) ((f64 70 (by decide)).trans (f47 70 (by decide))) ((f64 71 (by decide)).trans (f47 71 (by decide))) ((f64 72 (by decide)).trans (f47 72 (by decide))) hI106
  have I95 : jI109 σ62 := jI109_fr ((f65 50 (by decide)).trans (congrFun (f47 55 (by decide)) 50)) hI109
  have I96 : jI110 σ62 := jI110_fr ((f64 86 (by decide)).trans (f47 86 (by decide))) ((f64 87 (by decide)).trans (f47 87 (by decide))) hI110
  have I97 : jI111 σ62 := jI111_fr ((f64 79 (by decide)).trans (f47 79 (by decide))) hI111
  have I98 : jI119 σ62 := jI119_fr ((f64 68 (by decide)).trans (f47 68 (by decide))) hI119
  have p99 : jKept σ62 := jKept.fr ((f64 75 (by decide)).trans (f47 75 (by decide))) ((f64 76 (by decide)).trans (f47 76 (by decide))) ((f64 77 (by decide)).trans (f47 77 (by decide))) hs_jKept
  have z100 : (σ62 2 0).toInt = (σ 2 0).toInt := (congrArg Int32.toInt (show σ62 2 0 = (σ 2 0) from ((congrFun (f64 2 (by decide)) 0).trans (congrFun (f47 2 (by decide)) 0))))
  have z101 : (σ62 55 6).toInt = (σ 55 6).toInt := (congrArg Int32.toInt (show σ62 55 6 = (σ 55 6) from ((f65 6 (by decide)).trans (congrFun (f47 55 (by decide)) 6))))
  have z102 : (σ62 2 2).toInt = (σ 2 2).toInt := (congrArg Int32.toInt (show σ62 2 2 = (σ 2 2) from ((congrFun (f64 2 (by decide)) 2).trans (congrFun (f47 2 (by decide)) 2))))
  have z103 : (σ62 55 5).toInt = (σ 55 5).toInt := (congrArg Int32.toInt (show σ62 55 5 = (σ 55 5) from ((f65 5 (by decide)).trans (congrFun (f47 55 (by decide)) 5))))
  have z104 : (σ62 2 3).toInt = (σ 2 3).toInt := (congrArg Int32.toInt (show σ62 2 3 = (σ 2 3) from ((congrFun (f64 2 (by decide)) 3).trans (congrFun (f47 2 (by decide)) 3))))
  have z105 : (σ62 55 4).toInt = (σ 55 4).toInt := (congrArg Int32.toInt (show σ62 55 4 = (σ 55 4) from ((f65 4 (by decide)).trans (congrFun (f47 55 (by decide)) 4))))
  have z106 : (σ62 9 0).toInt = (σ 9 0).toInt := (congrArg Int32.toInt (show σ62 9 0 = (σ 9 0) from ((congrFun (f64 9 (by decide)) 0).trans (congrFun (f47 9 (by decide)) 0))))
  have z107 : (σ62 55 15).toInt = (σ 55 15).toInt := (congrArg Int32.toInt (show σ62 55 15 = (σ 55 15) from ((f65 15 (by decide)).trans (congrFun (f47 55 (by decide)) 15))))
  have z108 : (σ62 16 0).toInt = (σ 16 0).toInt := (congrArg Int32.toInt (show σ62 16 0 = (σ 16 0) from ((congrFun (f64 16 (by decide)) 0).trans (congrFun (f47 16 (by decide)) 0))))
  have z109 : (σ62 55 10).toInt = (σ 55 10).toInt := (congrArg Int32.toInt (show σ62 55 10 = (σ 55 10) from ((f65 10 (by decide)).trans (congrFun (f47 55 (by decide)) 10))))
  have z110 : (σ62 16 1).toInt = (σ 16 1).toInt := (congrArg Int32.toInt (show σ62 16 1 = (σ 16 1) from ((congrFun (f64 16 (by decide)) 1).trans (congrFun (f47 16 (by decide)) 1))))
  have z111 : (σ62 16 2).toInt = (σ 16 2).toInt := (congrArg Int32.toInt (show σ62 16 2 = (σ 16 2) from ((congrFun (f64 16 (by decide)) 2).trans (congrFun (f47 16 (by decide)) 2))))
  have z112 : (σ62 55 13).toInt = (σ 55 13).toInt := (congrArg Int32.toInt (show σ62 55 13 = (σ 55 13) from ((f65 13 (by decide)).trans (congrFun (f47 55 (by decide)) 13))))
  have z113 : (σ62 38 0).toInt = (σ 38 0).toInt := (congrArg Int32.toInt (show σ62 38 0 = (σ 38 0) from ((congrFun (f64 38 (by decide)) 0).trans (congrFun (f47 38 (by decide)) 0))))
  have z114 : (σ62 55 32).toInt = (σ 55 32).toInt := (congrArg Int32.toInt (show σ62 55 32 = (σ 55 32) from ((f65 32 (by decide)).trans (congrFun (f47 55 (by decide)) 32))))
  have z115 : (σ62 47 0).toInt = (σ45 47 0).toInt := (congrArg Int32.toInt (show σ62 47 0 = (σ45 47 0) from (congrFun (f64 47 (by decide)) 0)))
  have z116 : (σ62 55 30).toInt = (σ 55 30).toInt := (congrArg Int32.toInt (show σ62 55 30 = (σ 55 30) from ((f65 30 (by decide)).trans (congrFun (f47 55 (by decide)) 30))))
  have z117 : (σ62 55 31).toInt = (σ 55 31).toInt := (congrArg Int32.toInt (show σ62 55 31 = (σ 55 31) from ((f65 31 (by decide)).trans (congrFun (f47 55 (by decide)) 31))))
  exact ih x77 σ62 τ _ _ ls (by have h9 := tx77; omega) ⟨I78, I79, I80, I81, I82, I83, I84, I85, I86, I87, I88, I89, I90, I91, I92, I93, I94, I66, I95, I96, I97, I98, p99, p67, (by omega), (by omega), (by omega), (by omega), (by omega), (by omega), (by omega), (by omega), (by omega), (by omega), (by omega), (show jNumP (σ62 3) (σ62 56) (σ62 6) (σ62 57) (σ62 7) (σ62 58) (σ62 8) (σ62 59) (σ62 55 6).toInt (σ62 55 4).toInt by rw [show σ62 3 = σ 3 from ((f64 3 (by decide)).trans (f47 3 (by decide))), show σ62 56 = σ 56 from ((f64 56 (by decide)).trans (f47 56 (by decide))), show σ62 6 = σ 6 from ((f64 6 (by decide)).trans (f47 6 (by decide))), show σ62 57 = σ 57 from ((f64 57 (by decide)).trans (f47 57 (by decide))), show σ62 7 = σ 7 from ((f64 7 (by decide)).trans (f47 7 (by decide))), show σ62 58 = σ 58 from ((f64 58 (by decide)).trans (f47 58 (by decide))), show σ62 8 = σ 8 from ((f64 8 (by decide)).trans (f47 8 (by decide))), show σ62 59 = σ 59 from ((f64 59 (by decide)).trans (f47 59 (by decide))), show (σ62 55 6).toInt = (σ 55 6).toInt from by omega, show (σ62 55 4).toInt = (σ 55 4).toInt from by omega]; exact hr0), (show jOvP (σ62 56) (σ62 57) (σ62 58) (σ62 59) (σ62 55 4).toInt by rw [show σ62 56 = σ 56 from ((f64 56 (by decide)).trans (f47 56 (by decide))), show σ62 57 = σ 57 from ((f64 57 (by decide)).trans (f47 57 (by decide))), show σ62 58 = σ 58 from ((f64 58 (by decide)).trans (f47 58 (by decide))), show σ62 59 = σ 59 from ((f64 59 (by decide)).trans (f47 59 (by decide))), show (σ62 55 4).toInt = (σ 55 4).toInt from by omega]; exact hr1), (show jTp (σ62 10) (σ62 63) (σ62 55 15).toInt by rw [show σ62 10 = σ 10 from ((f64 10 (by decide)).trans (f47 10 (by decide))), show σ62 63 = σ 63 from ((f64 63 (by decide)).trans (f47 63 (by decide)))]; exact hr2.le (by omega)), (show jSo (σ62 17) (σ62 62) (σ62 16 0).toInt by rw [show σ62 17 = σ 17 from ((f64 17 (by decide)).trans (f47 17 (by decide))), show σ62 62 = σ 62 from ((f64 62 (by decide)).trans (f47 62 (by decide))), show (σ62 16 0).toInt = (σ 16 0).toInt from by omega]; exact hr3), (show jShP (σ62 51) (σ62 52) (σ62 53) (σ62 86) (σ62 87) (σ62 55 32).toInt by rw [show σ62 51 = σ 51 from ((f64 51 (by decide)).trans (f47 51 (by decide))), show σ62 52 = σ 52 from ((f64 52 (by decide)).trans (f47 52 (by decide))), show σ62 53 = σ 53 from ((f64 53 (by decide)).trans (f47 53 (by decide))), show σ62 86 = σ 86 from ((f64 86 (by decide)).trans (f47 86 (by decide))), show σ62 87 = σ 87 from ((f64 87 (by decide)).trans (f47 87 (by decide)))]; exact (hr4.up (by omega) (by omega))), (show jEl (σ62 51) (σ62 52) (τ 54) (τ 88) by rw [show σ62 51 = σ 51 from ((f64 51 (by decide)).trans (f47 51 (by decide))), show σ62 52 = σ 52 from ((f64 52 (by decide)).trans (f47 52 (by decide)))]; exact hr5), (show jByP (σ62 51) (σ62 52) (τ 54) by rw [show σ62 51 = σ 51 from ((f64 51 (by decide)).trans (f47 51 (by decide))), show σ62 52 = σ 52 from ((f64 52 (by decide)).trans (f47 52 (by decide)))]; exact hr6), (jBk.nil (by omega))⟩ hP hS (lv_sub hl [0, 1, 2, 3] rfl)
set_option maxHeartbeats 4000000 in
set_option maxRecDepth 100000 in
theorem law_case_22 {p : Program} {e : Env} {s : State} {m : MethodId} {below : List Frame} {meth : Method} {c : Code} (l : Launch) {b L : Nat} {xs : Nat → Int32} {D : va_G} {cI cL : ClassId} {ad zz : Nat → Nat} (C0 : lw_At p s m meth c b L xs) (hJ : jD ad) (hA : ∀ q, jA ad q → s.heap.size ≤ q) (hK : jK D cI cL s) (hZ : jZ zz (fun q : Nat => s.heap.size ≤ q) s s.heap) {x0 : Int32} (hx0 : 0 ≤ x0.toInt) (hxL : x0.toInt + 6 ≤ (L : Int)) (hL : L ≤ 384) {σ : Nat → Nat → Int32} {τ : Nat → Nat → Int64} {H : Heap} {locs : List Loc} (hS : va_S (fun q : Nat => s.heap.size ≤ q) s.heap H locs) {ls : Array Slot} (hAll : jAll σ τ) (hP : jH D cI cL ad σ τ H) (hl : lv_has ls 4 [(3, .int x0), (2, .ref (ad 55)), (1, .ref (ad 0)), (0, .ref b)]) (ih : ∀ (x1 : Int32) (σ : Nat → Nat → Int32) (τ : Nat → Nat → Int64) (H : Heap) (locs : List Loc) (ls : Array Slot), x1.toInt = x0.toInt + 6 → jAll σ τ → jH D cI cL ad σ τ H → va_S (fun q : Nat => s.heap.size ≤ q) s.heap H locs → lv_has ls 4 [(3, .int x1), (2, .ref (ad 55)), (1, .ref (ad 0)), (0, .ref b)] → W p l e room_1 s m #[Value.ref b] below meth c H locs 90 348600 (lw_Z below #[Value.ref b] s) (F0 m 18 ls [])) : W p l e room_1 s m #[Value.ref b] below meth c H locs 90 348600 (lw_Z below #[Value.ref b] s) (F0 m 852 ls []) := by
  obtain ⟨hx, hb, hr, hml, hown, hts0, hX, hbl, hlocks, hgv⟩ := C0
  have hts : ∀ w ∈ wsL_law, w.before #[Value.ref b] s = true := fun w h => hts0 w (wsL_law_in w h)
  have hbA : ¬ (fun q : Nat => s.heap.size ≤ q) b := Nat.not_le.mpr hbl
  have hown : s.vm.findClass RL = some m.cls := hown
  obtain ⟨hI2, hI9, hI12, hI16, hI18, hI22, hI31, hI38, hI43, hI47, hI50, hI101, hI102, hI103, hI104, hI105, hI106, hI107, hI109, hI110, hI111, hI119, hs_jKept, hs_jBook, ht0, ht1, ht2, ht3, ht4, ht5, ht6, ht7, ht8, ht9, ht10, hr0, hr1, hr2, hr3, hr4, hr5, hr6, hr7⟩ := hAll
  have hL9 : (L : Int) ≤ 384 := by omega
  obtain ⟨i1, i2, i3, i4, i5, w6⟩ : (0 ≤ (σ 2 0).toInt ∧ (σ 2 0).toInt ≤ 4) ∧ (0 ≤ (σ 2 1).toInt ∧ (σ 2 1).toInt ≤ 3) ∧ (0 ≤ (σ 2 2).toInt) ∧ (0 ≤ (σ 2 3).toInt) ∧ ((σ 2 2).toInt + (σ 2 3).toInt ≤ 40) ∧ (∀ k : Nat, k < 40 → 0 ≤ (σ 6 k).toInt ∧ (σ 6 k).toInt ≤ 67) := id hI2
  obtain ⟨i7, w8, w9⟩ : (0 ≤ (σ 9 0).toInt ∧ (σ 9 0).toInt ≤ 80) ∧ (∀ k : Nat, k < 80 → 0 ≤ (σ 10 k).toInt ∧ (σ 10 k).toInt ≤ 255) ∧ (∀ k : Nat, k < 8 → 0 ≤ (σ 11 k).toInt ∧ (σ 11 k).toInt ≤ 3) := id hI9
  obtain ⟨i10, i11, i12, w13⟩ : (1 ≤ (σ 16 0).toInt ∧ (σ 16 0).toInt ≤ 8) ∧ (1 ≤ (σ 16 1).toInt ∧ (σ 16 1).toInt ≤ 12) ∧ (0 ≤ (σ 16 2).toInt ∧ (σ 16 2).toInt ≤ 999) ∧ (∀ k : Nat, k < 8 → 0 ≤ (σ 17 k).toInt ∧ (σ 17 k).toInt ≤ 3) := id hI16
  obtain ⟨i14, i15, w16⟩ : (0 ≤ (σ 38 0).toInt ∧ (σ 38 0).toInt ≤ 20) ∧ (0 ≤ (σ 38 1).toInt ∧ (σ 38 1).toInt ≤ 1000) ∧ (∀ k : Nat, k < 20 → 0 ≤ (σ 39 k).toInt ∧ (σ 39 k).toInt ≤ 6) := id hI38
  obtain ⟨i17, w18, w19⟩ : (0 ≤ (σ 47 0).toInt ∧ (σ 47 0).toInt ≤ 12) ∧ (∀ k : Nat, k < 12 → 0 ≤ (σ 48 k).toInt ∧ (σ 48 k).toInt ≤ 3) ∧ (∀ k : Nat, k < 12 → 0 ≤ (σ 49 k).toInt ∧ (σ 49 k).toInt ≤ 1) := id hI47
  have w20 : ∀ k : Nat, k < 6 → 0 ≤ (σ 52 k).toInt ∧ (σ 52 k).toInt ≤ 60 := hI50
  obtain ⟨i21, i22, i23, w24, w25, w26, w27⟩ : (0 ≤ (σ 55 5).toInt) ∧ ((σ 55 5).toInt ≤ (σ 55 4).toInt) ∧ ((σ 55 4).toInt ≤ 40) ∧ (∀ k : Nat, k < 68 → (-200) ≤ (σ 56 k).toInt ∧ (σ 56 k).toInt ≤ 500) ∧ (∀ k : Nat, k < 40 → 0 ≤ (σ 57 k).toInt ∧ (σ 57 k).toInt ≤ 67) ∧ (∀ k : Nat, k < 40 → (-200) ≤ (σ 58 k).toInt ∧ (σ 58 k).toInt ≤ 500) ∧ (∀ k : Nat, k < 40 → (-200) ≤ (σ 59 k).toInt ∧ (σ 59 k).toInt ≤ 500) := id hI101
  obtain ⟨i28, w29, w30⟩ : (0 ≤ (σ 55 6).toInt ∧ (σ 55 6).toInt ≤ 4) ∧ (∀ k : Nat, k < 4 → 0 ≤ (σ 60 k).toInt ∧ (σ 60 k).toInt ≤ 50) ∧ (∀ k : Nat, k < 4 → 0 ≤ (σ 61 k).toInt ∧ (σ 61 k).toInt ≤ 20) := id hI102
  obtain ⟨i31, i32, i33, w34, w35⟩ : (1 ≤ (σ 55 10).toInt ∧ (σ 55 10).toInt ≤ 8) ∧ (1 ≤ (σ 55 12).toInt ∧ (σ 55 12).toInt ≤ 12) ∧ (0 ≤ (σ 55 13).toInt ∧ (σ 55 13).toInt ≤ 999) ∧ (∀ k : Nat, k < 8 → 0 ≤ (σ 62 k).toInt ∧ (σ 62 k).toInt ≤ 3) ∧ (∀ k : Nat, k < 8 → 0 ≤ (σ 67 k).toInt ∧ (σ 67 k).toInt ≤ 3) := id hI104
  obtain ⟨i36, w37⟩ : (0 ≤ (σ 55 15).toInt ∧ (σ 55 15).toInt ≤ 80) ∧ (∀ k : Nat, k < 2 → (-1) ≤ (σ 65 k).toInt ∧ (σ 65 k).toInt ≤ 80) := id hI105
  obtain ⟨i38, w39, w40, w41⟩ : (0 ≤ (σ 55 32).toInt ∧ (σ 55 32).toInt ≤ 20) ∧ (∀ k : Nat, k < 20 → 0 ≤ (σ 70 k).toInt ∧ (σ 70 k).toInt ≤ 6) ∧ (∀ k : Nat, k < 20 → 0 ≤ (σ 71 k).toInt ∧ (σ 71 k).toInt ≤ 8) ∧ (∀ k : Nat, k < 160 → 0 ≤ (σ 72 k).toInt ∧ (σ 72 k).toInt ≤ 3) := id hI106
  obtain ⟨i42, i43, w44⟩ : (0 ≤ (σ 55 47).toInt ∧ (σ 55 47).toInt ≤ 12) ∧ ((σ 55 47).toInt ≤ (σ 55 12).toInt) ∧ (∀ k : Nat, k < 12 → 0 ≤ (σ 80 k).toInt ∧ (σ 80 k).toInt ≤ 3) := id hI107
  refine lv_aload_n hx hb dL_law_852 rfl (lv_at hl 2 rfl) ?_
  refine lv_aload_n hx hb dL_law_853 rfl (lv_at hl 3 rfl) ?_
  refine lv_iload_n hx hb dL_law_854 rfl (lv_at hl 0 rfl) ?_
  refine lv_iconst (v := 1) hx hb dL_law_855 (by decide) ?_
  have g45 := jrg (rfl : x0.toInt = x0.toInt)
  refine lv_iadd hx hb dL_law_856 ?_
  refine lv_topi (fun x46 ex46 => ?_)
  have tx46 : x46.toInt = x0.toInt + 1 := (jadd ex46 rfl jz_1 (by omega) (by omega)).trans (by omega)
  refine va_sld hx hb hX hbl hbA hS (jin tx46 (by omega) (by omega)) dL_law_857 ?_
  have g47 := jrg (rfl : (xs x46.toNatClampNeg).toInt = (xs x46.toNatClampNeg).toInt)
  refine jcallV (As := [.int (xs x46.toNatClampNeg)]) (rest := []) ⟨hx, hb, hml, hown, hts⟩ hK hP hA hS hZ (c_X11_cost l D cI cL ad zz hJ σ τ (xs x46.toNatClampNeg) ((xs x46.toNatClampNeg).toInt) rfl hI2 hI16 hI22 hI31 hI47) cw_RL_105 (jc_0 cI cL ad σ τ) rfl ⟨Nat.le_of_ble_eq_true rfl, Nat.le_of_ble_eq_true rfl⟩ rfl rfl rfl hl.1 rfl (Nat.le_of_ble_eq_true rfl) dL_law_858 ⟨Nat.le_of_ble_eq_true rfl, Nat.le_of_ble_eq_true rfl⟩ (fun r49 σ48 τ48 H locs h48 hP hS => ?_)
  obtain ⟨rfl, f50, f51, I52, h48⟩ := h48
  refine lv_pop hx hb dL_law_861 rfl ?_
  refine lv_aload_n hx hb dL_law_862 rfl (lv_at hl 1 rfl) ?_
  refine lv_aload_n hx hb dL_law_863 rfl (lv_at hl 3 rfl) ?_
  refine lv_iload_n hx hb dL_law_864 rfl (lv_at hl 0 rfl) ?_
  refine lv_iconst (v := 1) hx hb dL_law_865 (by decide) ?_
  refine lv_iadd hx hb dL_law_866 ?_
  refine jtopr ex46.symm ?_
  refine va_sld hx hb hX hbl hbA hS (jin tx46 (by omega) (by omega)) dL_law_867 ?_
  have I54 : jI101 σ48 := jI101_fr (congrFun (f50 55 (by decide)) 4) (congrFun (f50 55 (by decide)) 5) (f50 56 (by decide)) (f50 57 (by decide)) (f50 58 (by decide)) (f50 59 (by decide)) hI101
  have I55 : jI102 σ48 := jI102_fr (congrFun (f50 55 (by decide)) 6) (f50 60 (by decide)) (f50 61 (by decide)) hI102
  have I56 : jI103 σ48 := jI103_fr (congrFun (f50 55 (by decide)) 9) hI103
  have I57 : jI104 σ48 := jI104_fr (congrFun (f50 55 (by decide)) 10) (congrFun (f50 55 (by decide)) 12) (congrFun (f50 55 (by decide)) 13) (f50 62 (by decide)) (f50 67 (by decide)) hI104
  have I58 : jI105 σ48 := jI105_fr (congrFun (f50 55 (by decide)) 15) (f50 65 (by decide)) hI105
  have I59 : jI106 σ48 := jI106_fr (congrFun (f50 55 (by decide)) 32) (f50 70 (by decide)) (f50 71 (by decide)) (f50 72 (by decide)) hI106
  have I60 : jI107 σ48 := jI107_fr (congrFun (f50 55 (by decide)) 12) (congrFun (f50 55 (by decide)) 47) (f50 80 (by decide)) hI107
  have I61 : jI119 σ48 := jI119_fr (f50 68 (by decide)) hI119
  have p62 : jKept σ48 := jKept.fr (f50 75 (by decide)) (f50 76 (by decide)) (f50 77 (by decide)) hs_jKept
  have p63 : jBook σ48 := jBook.fr (congrFun (f50 55 (by decide)) 47) (congrFun (f50 55 (by decide)) 10) (f50 81 (by decide)) hs_jBook
  refine jcallV (As := [.int (xs x46.toNatClampNeg)]) (rest := []) ⟨hx, hb, hml, hown, hts⟩ hK hP hA hS hZ (c_X12_cost l D cI cL ad zz hJ σ48 τ (xs x46.toNatClampNeg) ((xs x46.toNatClampNeg).toInt) rfl I54 I55 I56 I57 I58 I59 I60 I61 p62 p63) cw_RL_108 (jc_55 cI cL ad σ48 τ) rfl ⟨Nat.le_of_ble_eq_true rfl, Nat.le_of_ble_eq_true rfl⟩ rfl rfl rfl hl.1 rfl (Nat.le_of_ble_eq_true rfl) dL_law_868 ⟨Nat.le_of_ble_eq_true rfl, Nat.le_of_ble_eq_true rfl⟩ (fun r65 σ64 τ64 H locs h64 hP hS => ?_)
  obtain ⟨rfl, f66, f67, I68, p69, p70, h64⟩ := h64
  refine lv_pop hx hb dL_law_871 rfl ?_
  refine lv_goto (tgt := 1357) hx hb dL_law_872 (by decide) ?_
  obtain ⟨x72, ex72⟩ : ∃ y : Int32, y = x0 + 6 := ⟨_, rfl⟩
  have tx72 : x72.toInt = x0.toInt + 6 := (jadd ex72 rfl jz_6 (by omega) (by omega)).trans (by omega)
  refine lv_iinc (v := x72) (lv' := [(3, .int x72), (2, .ref (ad 55)), (1, .ref (ad 0)), (0, .ref b)]) hx hb dL_law_1357 hl (k := 0) rfl (by rw [ex72]; rfl) (by decide) rfl (fun ls hl => ?_)
  refine lv_goto (tgt := 18) hx hb dL_law_1360 (by decide) ?_
  have I73 : jI2 σ64 := jI2_fr ((congrFun (f66 2 (by decide)) 0).trans (congrFun (f50 2 (by decide)) 0)) ((congrFun (f66 2 (by decide)) 1).trans (congrFun (f50 2 (by decide)) 1)) ((congrFun (f66 2 (by decide)) 2).trans (congrFun (f50 2 (by decide)) 2)) ((congrFun (f66 2 (by decide)) 3).trans (congrFun (f50 2 (by decide)) 3)) ((f66 6 (by decide)).trans (f50 6 (by decide))) hI2
  have I74 : jI9 σ64 := jI9_fr ((congrFun (f66 9 (by decide)) 0).trans (congrFun (f50 9 (by decide)) 0)) ((f66 10 (by decide)).trans (f50 10 (by decide))) ((f66 11 (by decide)).trans (f50 11 (by decide))) hI9
  have I75 : jI12 σ64 := jI12_fr ((congrFun (f66 12 (by decide)) 0).trans (congrFun (f50 12 (by decide)) 0)) ((f66 13 (by decide)).trans (f50 13 (by decide))) hI12
  have I76 : jI16 σ64 := jI16_fr ((congrFun (f66 16 (by decide)) 0).trans (congrFun (f50 16 (by decide)) 0)) ((congrFun (f66 16 (by decide)) 1).trans (congrFun (f50 16 (by decide)) 1)) ((congrFun (f66 16 (by decide)) 2).trans (congrFun (f50 16 (by decide)) 2)) ((f66 17 (by decide)).trans (f50 17 (by decide))) hI16
  have I77 : jI18 σ64 := jI18_fr ((congrFun (f66 18 (by decide)) 0).trans (congrFun (f50 18 (by decide)) 0)) ((f66 19 (by decide)).trans (f50 19 (by decide))) hI18
  have I78 : jI22 σ64 := jI22_fr ((congrFun (f66 22 (by decide)) 0).trans (congrFun (f50 22 (by decide)) 0)) ((f66 23 (by decide)).trans (f50 23 (by decide))) hI22
  have I79 : jI31 σ64 := jI31_fr (congrFun (f66 31 (by decide)) 8) (f66 33 (by decide)) (f66 36 (by decide)) I52
  have I80 : jI38 σ64 := jI38_fr ((congrFun (f66 38 (by decide)) 0).trans (congrFun (f50 38 (by decide)) 0)) ((congrFun (f66 38 (by decide)) 1).trans (congrFun (f50 38 (by decide)) 1)) ((f66 39 (by decide)).trans (f50 39 (by decide))) hI38
  have I81 : jI43 σ64 := jI43_fr ((congrFun (f66 43 (by decide)) 8).trans (congrFun (f50 43 (by decide)) 8)) hI43
  have I82 : jI47 σ64 := jI47_fr ((congrFun (f66 47 (by decide)) 0).trans (congrFun (f50 47 (by decide)) 0)) ((f66 48 (by decide)).trans (f50 48 (by decide))) ((f66 49 (by decide)).trans (f50 49 (by decide))) hI47
  have I83 : jI50 σ64 := jI50_fr ((f66 52 (by decide)).trans (f50 52 (by decide))) hI50
  have I84 : jI101 σ64 := jI101_fr (f67 4 (by decide)) (f67 5 (by decide)) (f66 56 (by decide)) (f66 57 (by decide)) (f66 58 (by decide)) (f66 59 (by decide)) I54
  have I85 : jI102 σ64 := jI102_fr (f67 6 (by decide)) (f66 60 (by decide)) (f66 61 (by decide)) I55
  have I86 : jI103 σ64 := jI103_fr (f67 9 (by decide)) I56
  have I87 : jI104 σ64 := jI104_fr (f67 10 (by decide)) (f67 12 (by decide)) (f67 13 (by decide)) (f66 62 (by decide)) (f66 67 (by decide)) I57
  have I88 : jI105 σ64 := jI105_fr (f67 15 (by decide)) (f66 65 (by decide)) I58
  have I89 : jI106 σ64 := jI106_fr (f67 32 (by decide)) (f66 70 (by decide)) (f66 71 (by decide)) (f66 72 (by decide)) I59
  have I90 : jI107 σ64 := jI107_fr (f67 12 (by decide)) (f67 47 (by decide)) (f66 80 (by decide)) I60
  have I91 : jI109 σ64 := jI109_fr ((f67 50 (by decide)).trans (congrFun (f50 55 (by decide)) 50)) hI109
  have I92 : jI110 σ64 := jI110_fr ((f66 86 (by decide)).trans (f50 86 (by decide))) ((f66 87 (by decide)).trans (f50 87 (by decide))) hI110
  have I93 : jI111 σ64 := jI111_fr ((f66 79 (by decide)).trans (f50 79 (by decide))) hI111
  have z94 : (σ64 2 0).toInt = (σ 2 0).toInt := (congrArg Int32.toInt (show σ64 2 0 = (σ 2 0) from ((congrFun (f66 2 (by decide)) 0).trans (congrFun (f50 2 (by decide)) 0))))
  have z95 : (σ64 55 6).toInt = (σ 55 6).toInt := (congrArg Int32.toInt (show σ64 55 6 = (σ 55 6) from ((f67 6 (by decide)).trans (congrFun (f50 55 (by decide)) 6))))
  have z96 : (σ64 2 2).toInt = (σ 2 2).toInt := (congrArg Int32.toInt (show σ64 2 2 = (σ 2 2) from ((congrFun (f66 2 (by decide)) 2).trans (congrFun (f50 2 (by decide)) 2))))
  have z97 : (σ64 55 5).toInt = (σ 55 5).toInt := (congrArg Int32.toInt (show σ64 55 5 = (σ 55 5) from ((f67 5 (by decide)).trans (congrFun (f50 55 (by decide)) 5))))
  have z98 : (σ64 2 3).toInt = (σ 2 3).toInt := (congrArg Int32.toInt (show σ64 2 3 = (σ 2 3) from ((congrFun (f66 2 (by decide)) 3).trans (congrFun (f50 2 (by decide)) 3))))
  have z99 : (σ64 55 4).toInt = (σ 55 4).toInt := (congrArg Int32.toInt (show σ64 55 4 = (σ 55 4) from ((f67 4 (by decide)).trans (congrFun (f50 55 (by decide)) 4))))
  have z100 : (σ64 9 0).toInt = (σ 9 0).toInt := (congrArg Int32.toInt (show σ64 9 0 = (σ 9 0) from ((congrFun (f66 9 (by decide)) 0).trans (congrFun (f50 9 (by decide)) 0))))
  have z101 : (σ64 55 15).toInt = (σ 55 15).toInt := (congrArg Int32.toInt (show σ64 55 15 = (σ 55 15) from ((f67 15 (by decide)).trans (congrFun (f50 55 (by decide)) 15))))
  have z102 : (σ64 16 0).toInt = (σ 16 0).toInt := (congrArg Int32.toInt (show σ64 16 0 = (σ 16 0) from ((congrFun (f66 16 (by decide)) 0).trans (congrFun (f50 16 (by decide)) 0))))
  have z103 : (σ64 55 10).toInt = (σ 55 10).toInt := (congrArg Int32.toInt (show σ64 55 10 = (σ 55 10) from ((f67 10 (by decide)).trans (congrFun (f50 55 (by decide)) 10))))
  have z104 : (σ64 16 1).toInt = (σ 16 1).toInt := (congrArg Int32.toInt (show σ64 16 1 = (σ 16 1) from ((congrFun (f66 16 (by decide)) 1).trans (congrFun (f50 16 (by decide)) 1))))
  have z105 : (σ64 55 12).toInt = (σ 55 12).toInt := (congrArg Int32.toInt (show σ64 55 12 = (σ 55 12) from ((f67 12 (by decide)).trans (congrFun (f50 55 (by decide)) 12))))
  have z106 : (σ64 16 2).toInt = (σ 16 2).toInt := (congrArg Int32.toInt (show σ64 16 2 = (σ 16 2) from ((congrFun (f66 16 (by decide)) 2).trans (congrFun (f50 16 (by decide)) 2))))
  have z107 : (σ64 55 13).toInt = (σ 55 13).toInt := (congrArg Int32.toInt (show σ64 55 13 = (σ 55 13) from ((f67 13 (by decide)).trans (congrFun (f50 55 (by decide)) 13))))
  have z108 : (σ64 38 0).toInt = (σ 38 0).toInt := (congrArg Int32.toInt (show σ64 38 0 = (σ 38 0) from ((congrFun (f66 38 (by decide)) 0).trans (congrFun (f50 38 (by decide)) 0))))
  have z109 : (σ64 55 32).toInt = (σ 55 32).toInt := (congrArg Int32.toInt (show σ64 55 32 = (σ 55 32) from ((f67 32 (by decide)).trans (congrFun (f50 55 (by decide)) 32))))
  have z110 : (σ64 47 0).toInt = (σ 47 0).toInt := (congrArg Int32.toInt (show σ64 47 0 = (σ 47 0) from ((congrFun (f66 47 (by decide)) 0).trans (congrFun (f50 47 (by decide)) 0))))
  have z111 : (σ64 55 47).toInt = (σ 55 47).toInt := (congrArg Int32.toInt (show σ64 55 47 = (σ 55 47) from ((f67 47 (by decide)).trans (congrFun (f50 55 (by decide)) 47))))
  have z112 : (σ64 55 30).toInt = (σ 55 30).toInt := (congrArg Int32.toInt (show σ64 55 30 = (σ 55 30) from ((f67 30 (by decide)).trans (congrFun (f50 55 (by decide)) 30))))
  have z113 : (σ64 55 31).toInt = (σ 55 31).toInt := (congrArg Int32.toInt (show σ64 55 31 = (σ 55 31) from ((f67 31 (by decide)).trans (congrFun (f50 55 (by decide)) 31))))
  exact ih x72 σ64 τ _ _ ls (by have h9 := tx72; omega) ⟨I73, I74, I75, I76, I77, I78, I79, I80, I81, I82, I83, I84, I85, I86, I87, I88, I89, I90, I91, I92, I93, I68, p69, p70, (by omega), (by omega), (by omega), (by omega), (by omega), (by omega), (by omega), (by omega), (by omega), (by omega), (by omega), (show jNumP (σ64 3) (σ64 56) (σ64 6) (σ64 57) (σ64 7) (σ64 58) (σ64 8) (σ64 59) (σ64 55 6).toInt (σ64 55 4).toInt by rw [show σ64 3 = σ 3 from ((f66 3 (by decide)).trans (f50 3 (by decide))), show σ64 56 = σ 56 from ((f66 56 (by decide)).trans (f50 56 (by decide))), show σ64 6 = σ 6 from ((f66 6 (by decide)).trans (f50 6 (by decide))), show σ64 57 = σ 57 from ((f66 57 (by decide)).trans (f50 57 (by decide))), show σ64 7 = σ 7 from ((f66 7 (by decide)).trans (f50 7 (by decide))), show σ64 58 = σ 58 from ((f66 58 (by decide)).trans (f50 58 (by decide))), show σ64 8 = σ 8 from ((f66 8 (by decide)).trans (f50 8 (by decide))), show σ64 59 = σ 59 from ((f66 59 (by decide)).trans (f50 59 (by decide))), show (σ64 55 6).toInt = (σ 55 6).toInt from by omega, show (σ64 55 4).toInt = (σ 55 4).toInt from by omega]; exact hr0), (show jOvP (σ64 56) (σ64 57) (σ64 58) (σ64 59) (σ64 55 4).toInt by rw [show σ64 56 = σ 56 from ((f66 56 (by decide)).trans (f50 56 (by decide))), show σ64 57 = σ 57 from ((f66 57 (by decide)).trans (f50 57 (by decide))), show σ64 58 = σ 58 from ((f66 58 (by decide)).trans (f50 58 (by decide))), show σ64 59 = σ 59 from ((f66 59 (by decide)).trans (f50 59 (by decide))), show (σ64 55 4).toInt = (σ 55 4).toInt from by omega]; exact hr1), (show jTp (σ64 10) (σ64 63) (σ64 55 15).toInt by rw [show σ64 10 = σ 10 from ((f66 10 (by decide)).trans (f50 10 (by decide))), show σ64 63 = σ 63 from ((f66 63 (by decide)).trans (f50 63 (by decide)))]; exact hr2.le (by omega)), (show jSo (σ64 17) (σ64 62) (σ64 16 0).toInt by rw [show σ64 17 = σ 17 from ((f66 17 (by decide)).trans (f50 17 (by decide))), show σ64 62 = σ 62 from ((f66 62 (by decide)).trans (f50 62 (by decide))), show (σ64 16 0).toInt = (σ 16 0).toInt from by omega]; exact hr3), (show jShP (σ64 51) (σ64 52) (σ64 53) (σ64 86) (σ64 87) (σ64 55 32).toInt by rw [show σ64 51 = σ 51 from ((f66 51 (by decide)).trans (f50 51 (by decide))), show σ64 52 = σ 52 from ((f66 52 (by decide)).trans (f50 52 (by decide))), show σ64 53 = σ 53 from ((f66 53 (by decide)).trans (f50 53 (by decide))), show σ64 86 = σ 86 from ((f66 86 (by decide)).trans (f50 86 (by decide))), show σ64 87 = σ 87 from ((f66 87 (by decide)).trans (f50 87 (by decide)))]; exact (hr4.up (by omega) (by omega))), (show jEl (σ64 51) (σ64 52) (τ 54) (τ 88) by rw [show σ64 51 = σ 51 from ((f66 51 (by decide)).trans (f50 51 (by decide))), show σ64 52 = σ 52 from ((f66 52 (by decide)).trans (f50 52 (by decide)))]; exact hr5), (show jByP (σ64 51) (σ64 52) (τ 54) by rw [show σ64 51 = σ 51 from ((f66 51 (by decide)).trans (f50 51 (by decide))), show σ64 52 = σ 52 from ((f66 52 (by decide)).trans (f50 52 (by decide)))]; exact hr6), (show jBk (σ64 48) (σ64 80) (σ64 49) (σ64 81) (σ64 55 47).toInt by rw [show σ64 48 = σ 48 from ((f66 48 (by decide)).trans (f50 48 (by decide))), show σ64 49 = σ 49 from ((f66 49 (by decide)).trans (f50 49 (by decide))), show σ64 80 = σ 80 from ((f66 80 (by decide)).trans (f50 80 (by decide))), show σ64 81 = σ 81 from ((f66 81 (by decide)).trans (f50 81 (by decide))), show (σ64 55 47).toInt = (σ 55 47).toInt from by omega]; exact hr7)⟩ hP hS (lv_sub hl [0, 1, 2, 3] rfl)
set_option maxHeartbeats 4000000 in
set_option maxRecDepth 100000 in
theorem law_case_23 {p : Program} {e : Env} {s : State} {m : MethodId} {below : List Frame} {meth : Method} {c : Code} (l : Launch) {b L : Nat} {xs : Nat → Int32} {D : va_G} {cI cL : ClassId} {ad zz : Nat → Nat} (C0 : lw_At p s m meth c b L xs) (hJ : jD ad) (hA : ∀ q, jA ad q → s.heap.size ≤ q) (hK : jK D cI cL s) (hZ : jZ zz (fun q : Nat => s.heap.size ≤ q) s s.heap) {x0 : Int32} (hx0 : 0 ≤ x0.toInt) (hxL : x0.toInt + 6 ≤ (L : Int)) (hL : L ≤ 384) {σ : Nat → Nat → Int32} {τ : Nat → Nat → Int64} {H : Heap} {locs : List Loc} (hS : va_S (fun q : Nat => s.heap.size ≤ q) s.heap H locs) {ls : Array Slot} (hAll : jAll σ τ) (hP : jH D cI cL ad σ τ H) (hl : lv_has ls 4 [(3, .int x0), (2, .ref (ad 55)), (1, .ref (ad 0)), (0, .ref b)]) (ih : ∀ (x1 : Int32) (σ : Nat → Nat → Int32) (τ : Nat → Nat → Int64) (H : Heap) (locs : List Loc) (ls : Array Slot), x1.toInt = x0.toInt + 6 → jAll σ τ → jH D cI cL ad σ τ H → va_S (fun q : Nat => s.heap.size ≤ q) s.heap H locs → lv_has ls 4 [(3, .int x1), (2, .ref (ad 55)), (1, .ref (ad 0)), (0, .ref b)] → W p l e room_1 s m #[Value.ref b] below meth c H locs 90 348600 (lw_Z below #[Value.ref b] s) (F0 m 18 ls [])) : W p l e room_1 s m #[Value.ref b] below meth c H locs 90 348600 (lw_Z below #[Value.ref b] s) (F0 m 875 ls []) := by
  obtain ⟨hx, hb, hr, hml, hown, hts0, hX, hbl, hlocks, hgv⟩ := C0
  have hts : ∀ w ∈ wsL_law, w.before #[Value.ref b] s = true := fun w h => hts0 w (wsL_law_in w h)
  have hbA : ¬ (fun q : Nat => s.heap.size ≤ q) b := Nat.not_le.mpr hbl
  have hown : s.vm.findClass RL = some m.cls := hown
  obtain ⟨hI2, hI9, hI12, hI16, hI18, hI22, hI31, hI38, hI43, hI47, hI50, hI101, hI102, hI103, hI104, hI105, hI106, hI107, hI109, hI110, hI111, hI119, hs_jKept, hs_jBook, ht0, ht1, ht2, ht3, ht4, ht5, ht6, ht7, ht8, ht9, ht10, hr0, hr1, hr2, hr3, hr4, hr5, hr6, hr7⟩ := hAll
  have hL9 : (L : Int) ≤ 384 := by omega
  obtain ⟨i1, i2, i3, i4, i5, w6⟩ : (0 ≤ (σ 2 0).toInt ∧ (σ 2 0).toInt ≤ 4) ∧ (0 ≤ (σ 2 1).toInt ∧ (σ 2 1).toInt ≤ 3) ∧ (0 ≤ (σ 2 2).toInt) ∧ (0 ≤ (σ 2 3).toInt) ∧ ((σ 2 2).toInt + (σ 2 3).toInt ≤ 40) ∧ (∀ k : Nat, k < 40 → 0 ≤ (σ 6 k).toInt ∧ (σ 6 k).toInt ≤ 67) := id hI2
  obtain ⟨i7, w8, w9⟩ : (0 ≤ (σ 9 0).toInt ∧ (σ 9 0).toInt ≤ 80) ∧ (∀ k : Nat, k < 80 → 0 ≤ (σ 10 k).toInt ∧ (σ 10 k).toInt ≤ 255) ∧ (∀ k : Nat, k < 8 → 0 ≤ (σ 11 k).toInt ∧ (σ 11 k).toInt ≤ 3) := id hI9
  obtain ⟨i10, i11, i12, w13⟩ : (1 ≤ (σ 16 0).toInt ∧ (σ 16 0).toInt ≤ 8) ∧ (1 ≤ (σ 16 1).toInt ∧ (σ 16 1).toInt ≤ 12) ∧ (0 ≤ (σ 16 2).toInt ∧ (σ 16 2).toInt ≤ 999) ∧ (∀ k : Nat, k < 8 → 0 ≤ (σ 17 k).toInt ∧ (σ 17 k).toInt ≤ 3) := id hI16
  obtain ⟨i14, i15, w16⟩ : (0 ≤ (σ 38 0).toInt ∧ (σ 38 0).toInt ≤ 20) ∧ (0 ≤ (σ 38 1).toInt ∧ (σ 38 1).toInt ≤ 1000) ∧ (∀ k : Nat, k < 20 → 0 ≤ (σ 39 k).toInt ∧ (σ 39 k).toInt ≤ 6) := id hI38
  obtain ⟨i17, w18, w19⟩ : (0 ≤ (σ 47 0).toInt ∧ (σ 47 0).toInt ≤ 12) ∧ (∀ k : Nat, k < 12 → 0 ≤ (σ 48 k).toInt ∧ (σ 48 k).toInt ≤ 3) ∧ (∀ k : Nat, k < 12 → 0 ≤ (σ 49 k).toInt ∧ (σ 49 k).toInt ≤ 1) := id hI47
  have w20 : ∀ k : Nat, k < 6 → 0 ≤ (σ 52 k).toInt ∧ (σ 52 k).toInt ≤ 60 := hI50
  obtain ⟨i21, i22, i23, w24, w25, w26, w27⟩ : (0 ≤ (σ 55 5).toInt) ∧ ((σ 55 5).toInt ≤ (σ 55 4).toInt) ∧ ((σ 55 4).toInt ≤ 40) ∧ (∀ k : Nat, k < 68 → (-200) ≤ (σ 56 k).toInt ∧ (σ 56 k).toInt ≤ 500) ∧ (∀ k : Nat, k < 40 → 0 ≤ (σ 57 k).toInt ∧ (σ 57 k).toInt ≤ 67) ∧ (∀ k : Nat, k < 40 → (-200) ≤ (σ 58 k).toInt ∧ (σ 58 k).toInt ≤ 500) ∧ (∀ k : Nat, k < 40 → (-200) ≤ (σ 59 k).toInt ∧ (σ 59 k).toInt ≤ 500) := id hI101
  obtain ⟨i28, w29, w30⟩ : (0 ≤ (σ 55 6).toInt ∧ (σ 55 6).toInt ≤ 4) ∧ (∀ k : Nat, k < 4 → 0 ≤ (σ 60 k).toInt ∧ (σ 60 k).toInt ≤ 50) ∧ (∀ k : Nat, k < 4 → 0 ≤ (σ 61 k).toInt ∧ (σ 61 k).toInt ≤ 20) := id hI102
  obtain ⟨i31, i32, i33, w34, w35⟩ : (1 ≤ (σ 55 10).toInt ∧ (σ 55 10).toInt ≤ 8) ∧ (1 ≤ (σ 55 12).toInt ∧ (σ 55 12).toInt ≤ 12) ∧ (0 ≤ (σ 55 13).toInt ∧ (σ 55 13).toInt ≤ 999) ∧ (∀ k : Nat, k < 8 → 0 ≤ (σ 62 k).toInt ∧ (σ 62 k).toInt ≤ 3) ∧ (∀ k : Nat, k < 8 → 0 ≤ (σ 67 k).toInt ∧ (σ 67 k).toInt ≤ 3) := id hI104
  obtain ⟨i36, w37⟩ : (0 ≤ (σ 55 15).toInt ∧ (σ 55 15).toInt ≤ 80) ∧ (∀ k : Nat, k < 2 → (-1) ≤ (σ 65 k).toInt ∧ (σ 65 k).toInt ≤ 80) := id hI105
  obtain ⟨i38, w39, w40, w41⟩ : (0 ≤ (σ 55 32).toInt ∧ (σ 55 32).toInt ≤ 20) ∧ (∀ k : Nat, k < 20 → 0 ≤ (σ 70 k).toInt ∧ (σ 70 k).toInt ≤ 6) ∧ (∀ k : Nat, k < 20 → 0 ≤ (σ 71 k).toInt ∧ (σ 71 k).toInt ≤ 8) ∧ (∀ k : Nat, k < 160 → 0 ≤ (σ 72 k).toInt ∧ (σ 72 k).toInt ≤ 3) := id hI106
  obtain ⟨i42, i43, w44⟩ : (0 ≤ (σ 55 47).toInt ∧ (σ 55 47).toInt ≤ 12) ∧ ((σ 55 47).toInt ≤ (σ 55 12).toInt) ∧ (∀ k : Nat, k < 12 → 0 ≤ (σ 80 k).toInt ∧ (σ 80 k).toInt ≤ 3) := id hI107
  refine lv_aload_n hx hb dL_law_875 rfl (lv_at hl 2 rfl) ?_
  refine lv_aload_n hx hb dL_law_876 rfl (lv_at hl 3 rfl) ?_
  refine lv_iload_n hx hb dL_law_877 rfl (lv_at hl 0 rfl) ?_
  refine lv_iconst (v := 1) hx hb dL_law_878 (by decide) ?_
  have g45 := jrg (rfl : x0.toInt = x0.toInt)
  refine lv_iadd hx hb dL_law_879 ?_
  refine lv_topi (fun x46 ex46 => ?_)
  have tx46 : x46.toInt = x0.toInt + 1 := (jadd ex46 rfl jz_1 (by omega) (by omega)).trans (by omega)
  refine va_sld hx hb hX hbl hbA hS (jin tx46 (by omega) (by omega)) dL_law_880 ?_
  have g47 := jrg (rfl : (xs x46.toNatClampNeg).toInt = (xs x46.toNatClampNeg).toInt)
  refine jcallV (As := [.int (xs x46.toNatClampNeg)]) (rest := []) ⟨hx, hb, hml, hown, hts⟩ hK hP hA hS hZ (c_X11_lost l D cI cL ad zz hJ σ τ (xs x46.toNatClampNeg) ((xs x46.toNatClampNeg).toInt) rfl hI2 hI16 hI22 hI31 hI47) cw_RL_109 (jc_0 cI cL ad σ τ) rfl ⟨Nat.le_of_ble_eq_true rfl, Nat.le_of_ble_eq_true rfl⟩ rfl rfl rfl hl.1 rfl (Nat.le_of_ble_eq_true rfl) dL_law_881 ⟨Nat.le_of_ble_eq_true rfl, Nat.le_of_ble_eq_true rfl⟩ (fun r49 σ48 τ48 H locs h48 hP hS => ?_)
  obtain ⟨rfl, f50, f51, I52, h48⟩ := h48
  refine lv_pop hx hb dL_law_884 rfl ?_
  refine lv_aload_n hx hb dL_law_885 rfl (lv_at hl 1 rfl) ?_
  refine lv_aload_n hx hb dL_law_886 rfl (lv_at hl 3 rfl) ?_
  refine lv_iload_n hx hb dL_law_887 rfl (lv_at hl 0 rfl) ?_
  refine lv_iconst (v := 1) hx hb dL_law_888 (by decide) ?_
  refine lv_iadd hx hb dL_law_889 ?_
  refine jtopr ex46.symm ?_
  refine va_sld hx hb hX hbl hbA hS (jin tx46 (by omega) (by omega)) dL_law_890 ?_
  have I54 : jI101 σ48 := jI101_fr (congrFun (f50 55 (by decide)) 4) (congrFun (f50 55 (by decide)) 5) (f50 56 (by decide)) (f50 57 (by decide)) (f50 58 (by decide)) (f50 59 (by decide)) hI101
  have I55 : jI102 σ48 := jI102_fr (congrFun (f50 55 (by decide)) 6) (f50 60 (by decide)) (f50 61 (by decide)) hI102
  have I56 : jI103 σ48 := jI103_fr (congrFun (f50 55 (by decide)) 9) hI103
  have I57 : jI104 σ48 := jI104_fr (congrFun (f50 55 (by decide)) 10) (congrFun (f50 55 (by decide)) 12) (congrFun (f50 55 (by decide)) 13) (f50 62 (by decide)) (f50 67 (by decide)) hI104
  have I58 : jI105 σ48 := jI105_fr (congrFun (f50 55 (by decide)) 15) (f50 65 (by decide)) hI105
  have I59 : jI106 σ48 := jI106_fr (congrFun (f50 55 (by decide)) 32) (f50 70 (by decide)) (f50 71 (by decide)) (f50 72 (by decide)) hI106
  have I60 : jI107 σ48 := jI107_fr (congrFun (f50 55 (by decide)) 12) (congrFun (f50 55 (by decide)) 47) (f50 80 (by decide)) hI107
  have I61 : jI119 σ48 := jI119_fr (f50 68 (by decide)) hI119
  have p62 : jKept σ48 := jKept.fr (f50 75 (by decide)) (f50 76 (by decide)) (f50 77 (by decide)) hs_jKept
  have p63 : jBook σ48 := jBook.fr (congrFun (f50 55 (by decide)) 47) (congrFun (f50 55 (by decide)) 10) (f50 81 (by decide)) hs_jBook
  refine jcallV (As := [.int (xs x46.toNatClampNeg)]) (rest := []) ⟨hx, hb, hml, hown, hts⟩ hK hP hA hS hZ (c_X12_lost l D cI cL ad zz hJ σ48 τ (xs x46.toNatClampNeg) ((xs x46.toNatClampNeg).toInt) rfl I54 I55 I56 I57 I58 I59 I60 I61 p62 p63) cw_RL_112 (jc_55 cI cL ad σ48 τ) rfl ⟨Nat.le_of_ble_eq_true rfl, Nat.le_of_ble_eq_true rfl⟩ rfl rfl rfl hl.1 rfl (Nat.le_of_ble_eq_true rfl) dL_law_891 ⟨Nat.le_of_ble_eq_true rfl, Nat.le_of_ble_eq_true rfl⟩ (fun r65 σ64 τ64 H locs h64 hP hS => ?_)
  obtain ⟨rfl, f66, f67, I68, p69, p70, h64⟩ := h64
  refine lv_pop hx hb dL_law_894 rfl ?_
  refine lv_goto (tgt := 1357) hx hb dL_law_895 (by decide) ?_
  obtain ⟨x72, ex72⟩ : ∃ y : Int32, y = x0 + 6 := ⟨_, rfl⟩
  have tx72 : x72.toInt = x0.toInt + 6 := (jadd ex72 rfl jz_6 (by omega) (by omega)).trans (by omega)
  refine lv_iinc (v := x72) (lv' := [(3, .int x72), (2, .ref (ad 55)), (1, .ref (ad 0)), (0, .ref b)]) hx hb dL_law_1357 hl (k := 0) rfl (by rw [ex72]; rfl) (by decide) rfl (fun ls hl => ?_)
  refine lv_goto (tgt := 18) hx hb dL_law_1360 (by decide) ?_
  have I73 : jI2 σ64 := jI2_fr ((congrFun (f66 2 (by decide)) 0).trans (congrFun (f50 2 (by decide)) 0)) ((congrFun (f66 2 (by decide)) 1).trans (congrFun (f50 2 (by decide)) 1)) ((congrFun (f66 2 (by decide)) 2).trans (congrFun (f50 2 (by decide)) 2)) ((congrFun (f66 2 (by decide)) 3).trans (congrFun (f50 2 (by decide)) 3)) ((f66 6 (by decide)).trans (f50 6 (by decide))) hI2
  have I74 : jI9 σ64 := jI9_fr ((congrFun (f66 9 (by decide)) 0).trans (congrFun (f50 9 (by decide)) 0)) ((f66 10 (by decide)).trans (f50 10 (by decide))) ((f66 11 (by decide)).trans (f50 11 (by decide))) hI9
  have I75 : jI12 σ64 := jI12_fr ((congrFun (f66 12 (by decide)) 0).trans (congrFun (f50 12 (by decide)) 0)) ((f66 13 (by decide)).trans (f50 13 (by decide))) hI12
  have I76 : jI16 σ64 := jI16_fr ((congrFun (f66 16 (by decide)) 0).trans (congrFun (f50 16 (by decide)) 0)) ((congrFun (f66 16 (by decide)) 1).trans (congrFun (f50 16 (by decide)) 1)) ((congrFun (f66 16 (by decide)) 2).trans (congrFun (f50 16 (by decide)) 2)) ((f66 17 (by decide)).trans (f50 17 (by decide))) hI16
  have I77 : jI18 σ64 := jI18_fr ((congrFun (f66 18 (by decide)) 0).trans (congrFun (f50 18 (by decide)) 0)) ((f66 19 (by decide)).trans (f50 19 (by decide))) hI18
  have I78 : jI22 σ64 := jI22_fr ((congrFun (f66 22 (by decide)) 0).trans (congrFun (f50 22 (by decide)) 0)) ((f66 23 (by decide)).trans (f50 23 (by decide))) hI22
  have I79 : jI31 σ64 := jI31_fr (congrFun (f66 31 (by decide)) 8) (f66 33 (by decide)) (f66 36 (by decide)) I52
  have I80 : jI38 σ64 := jI38_fr ((congrFun (f66 38 (by decide)) 0).trans (congrFun (f50 38 (by decide)) 0)) ((congrFun (f66 38 (by decide)) 1).trans (congrFun (f50 38 (by decide)) 1)) ((f66 39 (by decide)).trans (f50 39 (by decide))) hI38
  have I81 : jI43 σ64 := jI43_fr ((congrFun (f66 43 (by decide)) 8).trans (congrFun (f50 43 (by decide)) 8)) hI43
  have I82 : jI47 σ64 := jI47_fr ((congrFun (f66 47 (by decide)) 0).trans (congrFun (f50 47 (by decide)) 0)) ((f66 48 (by decide)).trans (f50 48 (by decide))) ((f66 49 (by decide)).trans (f50 49 (by decide))) hI47
  have I83 : jI50 σ64 := jI50_fr ((f66 52 (by decide)).trans (f50 52 (by decide))) hI50
  have I84 : jI101 σ64 := jI101_fr (f67 4 (by decide)) (f67 5 (by decide)) (f66 56 (by decide)) (f66 57 (by decide)) (f66 58 (by decide)) (f66 59 (by decide)) I54
  have I85 : jI102 σ64 := jI102_fr (f67 6 (by decide)) (f66 60 (by decide)) (f66 61 (by decide)) I55
  have I86 : jI103 σ64 := jI103_fr (f67 9 (by decide)) I56
  have I87 : jI104 σ64 := jI104_fr (f67 10 (by decide)) (f67 12 (by decide)) (f67 13 (by decide)) (f66 62 (by decide)) (f66 67 (by decide)) I57
  have I88 : jI105 σ64 := jI105_fr (f67 15 (by decide)) (f66 65 (by decide)) I58
  have I89 : jI106 σ64 := jI106_fr (f67 32 (by decide)) (f66 70 (by decide)) (f66 71 (by decide)) (f66 72 (by decide)) I59
  have I90 : jI107 σ64 := jI107_fr (f67 12 (by decide)) (f67 47 (by decide)) (f66 80 (by decide)) I60
  have I91 : jI109 σ64 := jI109_fr ((f67 50 (by decide)).trans (congrFun (f50 55 (by decide)) 50)) hI109
  have I92 : jI110 σ64 := jI110_fr ((f66 86 (by decide)).trans (f50 86 (by decide))) ((f66 87 (by decide)).trans (f50 87 (by decide))) hI110
  have I93 : jI111 σ64 := jI111_fr ((f66 79 (by decide)).trans (f50 79 (by decide))) hI111
  have z94 : (σ64 2 0).toInt = (σ 2 0).toInt := (congrArg Int32.toInt (show σ64 2 0 = (σ 2 0) from ((congrFun (f66 2 (by decide)) 0).trans (congrFun (f50 2 (by decide)) 0))))
  have z95 : (σ64 55 6).toInt = (σ 55 6).toInt := (congrArg Int32.toInt (show σ64 55 6 = (σ 55 6) from ((f67 6 (by decide)).trans (congrFun (f50 55 (by decide)) 6))))
  have z96 : (σ64 2 2).toInt = (σ 2 2).toInt := (congrArg Int32.toInt (show σ64 2 2 = (σ 2 2) from ((congrFun (f66 2 (by decide)) 2).trans (congrFun (f50 2 (by decide)) 2))))
  have z97 : (σ64 55 5).toInt = (σ 55 5).toInt := (congrArg Int32.toInt (show σ64 55 5 = (σ 55 5) from ((f67 5 (by decide)).trans (congrFun (f50 55 (by decide)) 5))))
  have z98 : (σ64 2 3).toInt = (σ 2 3).toInt := (congrArg Int32.toInt (show σ64 2 3 = (σ 2 3) from ((congrFun (f66 2 (by decide)) 3).trans (congrFun (f50 2 (by decide)) 3))))
  have z99 : (σ64 55 4).toInt = (σ 55 4).toInt := (congrArg Int32.toInt (show σ64 55 4 = (σ 55 4) from ((f67 4 (by decide)).trans (congrFun (f50 55 (by decide)) 4))))
  have z100 : (σ64 9 0).toInt = (σ 9 0).toInt := (congrArg Int32.toInt (show σ64 9 0 = (σ 9 0) from ((congrFun (f66 9 (by decide)) 0).trans (congrFun (f50 9 (by decide)) 0))))
  have z101 : (σ64 55 15).toInt = (σ 55 15).toInt := (congrArg Int32.toInt (show σ64 55 15 = (σ 55 15) from ((f67 15 (by decide)).trans (congrFun (f50 55 (by decide)) 15))))
  have z102 : (σ64 16 0).toInt = (σ 16 0).toInt := (congrArg Int32.toInt (show σ64 16 0 = (σ 16 0) from ((congrFun (f66 16 (by decide)) 0).trans (congrFun (f50 16 (by decide)) 0))))
  have z103 : (σ64 55 10).toInt = (σ 55 10).toInt := (congrArg Int32.toInt (show σ64 55 10 = (σ 55 10) from ((f67 10 (by decide)).trans (congrFun (f50 55 (by decide)) 10))))
  have z104 : (σ64 16 1).toInt = (σ 16 1).toInt := (congrArg Int32.toInt (show σ64 16 1 = (σ 16 1) from ((congrFun (f66 16 (by decide)) 1).trans (congrFun (f50 16 (by decide)) 1))))
  have z105 : (σ64 55 12).toInt = (σ 55 12).toInt := (congrArg Int32.toInt (show σ64 55 12 = (σ 55 12) from ((f67 12 (by decide)).trans (congrFun (f50 55 (by decide)) 12))))
  have z106 : (σ64 16 2).toInt = (σ 16 2).toInt := (congrArg Int32.toInt (show σ64 16 2 = (σ 16 2) from ((congrFun (f66 16 (by decide)) 2).trans (congrFun (f50 16 (by decide)) 2))))
  have z107 : (σ64 55 13).toInt = (σ 55 13).toInt := (congrArg Int32.toInt (show σ64 55 13 = (σ 55 13) from ((f67 13 (by decide)).trans (congrFun (f50 55 (by decide)) 13))))
  have z108 : (σ64 38 0).toInt = (σ 38 0).toInt := (congrArg Int32.toInt (show σ64 38 0 = (σ 38 0) from ((congrFun (f66 38 (by decide)) 0).trans (congrFun (f50 38 (by decide)) 0))))
  have z109 : (σ64 55 32).toInt = (σ 55 32).toInt := (congrArg Int32.toInt (show σ64 55 32 = (σ 55 32) from ((f67 32 (by decide)).trans (congrFun (f50 55 (by decide)) 32))))
  have z110 : (σ64 47 0).toInt = (σ 47 0).toInt := (congrArg Int32.toInt (show σ64 47 0 = (σ 47 0) from ((congrFun (f66 47 (by decide)) 0).trans (congrFun (f50 47 (by decide)) 0))))
  have z111 : (σ64 55 47).toInt = (σ 55 47).toInt := (congrArg Int32.toInt (show σ64 55 47 = (σ 55 47) from ((f67 47 (by decide)).trans (congrFun (f50 55 (by decide)) 47))))
  have z112 : (σ64 55 30).toInt = (σ 55 30).toInt := (congrArg Int32.toInt (show σ64 55 30 = (σ 55 30) from ((f67 30 (by decide)).trans (congrFun (f50 55 (by decide)) 30))))
  have z113 : (σ64 55 31).toInt = (σ 55 31).toInt := (congrArg Int32.toInt (show σ64 55 31 = (σ 55 31) from ((f67 31 (by decide)).trans (congrFun (f50 55 (by decide)) 31))))
  exact ih x72 σ64 τ _ _ ls (by have h9 := tx72; omega) ⟨I73, I74, I75, I76, I77, I78, I79, I80, I81, I82, I83, I84, I85, I86, I87, I88, I89, I90, I91, I92, I93, I68, p69, p70, (by omega), (by omega), (by omega), (by omega), (by omega), (by omega), (by omega), (by omega), (by omega), (by omega), (by omega), (show jNumP (σ64 3) (σ64 56) (σ64 6) (σ64 57) (σ64 7) (σ64 58) (σ64 8) (σ64 59) (σ64 55 6).toInt (σ64 55 4).toInt by rw [show σ64 3 = σ 3 from ((f66 3 (by decide)).trans (f50 3 (by decide))), show σ64 56 = σ 56 from ((f66 56 (by decide)).trans (f50 56 (by decide))), show σ64 6 = σ 6 from ((f66 6 (by decide)).trans (f50 6 (by decide))), show σ64 57 = σ 57 from ((f66 57 (by decide)).trans (f50 57 (by decide))), show σ64 7 = σ 7 from ((f66 7 (by decide)).trans (f50 7 (by decide))), show σ64 58 = σ 58 from ((f66 58 (by decide)).trans (f50 58 (by decide))), show σ64 8 = σ 8 from ((f66 8 (by decide)).trans (f50 8 (by decide))), show σ64 59 = σ 59 from ((f66 59 (by decide)).trans (f50 59 (by decide))), show (σ64 55 6).toInt = (σ 55 6).toInt from by omega, show (σ64 55 4).toInt = (σ 55 4).toInt from by omega]; exact hr0), (show jOvP (σ64 56) (σ64 57) (σ64 58) (σ64 59) (σ64 55 4).toInt by rw [show σ64 56 = σ 56 from ((f66 56 (by decide)).trans (f50 56 (by decide))), show σ64 57 = σ 57 from ((f66 57 (by decide)).trans (f50 57 (by decide))), show σ64 58 = σ 58 from ((f66 58 (by decide)).trans (f50 58 (by decide))), show σ64 59 = σ 59 from ((f66 59 (by decide)).trans (f50 59 (by decide))), show (σ64 55 4).toInt = (σ 55 4).toInt from by omega]; exact hr1), (show jTp (σ64 10) (σ64 63) (σ64 55 15).toInt by rw [show σ64 10 = σ 10 from ((f66 10 (by decide)).trans (f50 10 (by decide))), show σ64 63 = σ 63 from ((f66 63 (by decide)).trans (f50 63 (by decide)))]; exact hr2.le (by omega)), (show jSo (σ64 17) (σ64 62) (σ64 16 0).toInt by rw [show σ64 17 = σ 17 from ((f66 17 (by decide)).trans (f50 17 (by decide))), show σ64 62 = σ 62 from ((f66 62 (by decide)).trans (f50 62 (by decide))), show (σ64 16 0).toInt = (σ 16 0).toInt from by omega]; exact hr3), (show jShP (σ64 51) (σ64 52) (σ64 53) (σ64 86) (σ64 87) (σ64 55 32).toInt by rw [show σ64 51 = σ 51 from ((f66 51 (by decide)).trans (f50 51 (by decide))), show σ64 52 = σ 52 from ((f66 52 (by decide)).trans (f50 52 (by decide))), show σ64 53 = σ 53 from ((f66 53 (by decide)).trans (f50 53 (by decide))), show σ64 86 = σ 86 from ((f66 86 (by decide)).trans (f50 86 (by decide))), show σ64 87 = σ 87 from ((f66 87 (by decide)).trans (f50 87 (by decide)))]; exact (hr4.up (by omega) (by omega))), (show jEl (σ64 51) (σ64 52) (τ 54) (τ 88) by rw [show σ64 51 = σ 51 from ((f66 51 (by decide)).trans (f50 51 (by decide))), show σ64 52 = σ 52 from ((f66 52 (by decide)).trans (f50 52 (by decide)))]; exact hr5), (show jByP (σ64 51) (σ64 52) (τ 54) by rw [show σ64 51 = σ 51 from ((f66 51 (by decide)).trans (f50 51 (by decide))), show σ64 52 = σ 52 from ((f66 52 (by decide)).trans (f50 52 (by decide)))]; exact hr6), (show jBk (σ64 48) (σ64 80) (σ64 49) (σ64 81) (σ64 55 47).toInt by rw [show σ64 48 = σ 48 from ((f66 48 (by decide)).trans (f50 48 (by decide))), show σ64 49 = σ 49 from ((f66 49 (by decide)).trans (f50 49 (by decide))), show σ64 80 = σ 80 from ((f66 80 (by decide)).trans (f50 80 (by decide))), show σ64 81 = σ 81 from ((f66 81 (by decide)).trans (f50 81 (by decide))), show (σ64 55 47).toInt = (σ 55 47).toInt from by omega]; exact hr7)⟩ hP hS (lv_sub hl [0, 1, 2, 3] rfl)
set_option maxHeartbeats 4000000 in
set_option maxRecDepth 100000 in
theorem law_case_24 {p : Program} {e : Env} {s : State} {m : MethodId} {below : List Frame} {meth : Method} {c : Code} (l : Launch) {b L : Nat} {xs : Nat → Int32} {D : va_G} {cI cL : ClassId} {ad zz : Nat → Nat} (C0 : lw_At p s m meth c b L xs) (hJ : jD ad) (hA : ∀ q, jA ad q → s.heap.size ≤ q) (hK : jK D cI cL s) (hZ : jZ zz (fun q : Nat => s.heap.size ≤ q) s s.heap) {x0 : Int32} (hx0 : 0 ≤ x0.toInt) (hxL : x0.toInt + 6 ≤ (L : Int)) (hL : L ≤ 384) {σ : Nat → Nat → Int32} {τ : Nat → Nat → Int64} {H : Heap} {locs : List Loc} (hS : va_S (fun q : Nat => s.heap.size ≤ q) s.heap H locs) {ls : Array Slot} (hAll : jAll σ τ) (hP : jH D cI cL ad σ τ H) (hl : lv_has ls 4 [(3, .int x0), (2, .ref (ad 55)), (1, .ref (ad 0)), (0, .ref b)]) (ih : ∀ (x1 : Int32) (σ : Nat → Nat → Int32) (τ : Nat → Nat → Int64) (H : Heap) (locs : List Loc) (ls : Array Slot), x1.toInt = x0.toInt + 6 → jAll σ τ → jH D cI cL ad σ τ H → va_S (fun q : Nat => s.heap.size ≤ q) s.heap H locs → lv_has ls 4 [(3, .int x1), (2, .ref (ad 55)), (1, .ref (ad 0)), (0, .ref b)] → W p l e room_1 s m #[Value.ref b] below meth c H locs 90 348600 (lw_Z below #[Value.ref b] s) (F0 m 18 ls [])) : W p l e room_1 s m #[Value.ref b] below meth c H locs 90 348600 (lw_Z below #[Value.ref b] s) (F0 m 898 ls []) := by
  obtain ⟨hx, hb, hr, hml, hown, hts0, hX, hbl, hlocks, hgv⟩ := C0
  have hts : ∀ w ∈ wsL_law, w.before #[Value.ref b] s = true := fun w h => hts0 w (wsL_law_in w h)
  have hbA : ¬ (fun q : Nat => s.heap.size ≤ q) b := Nat.not_le.mpr hbl
  have hown : s.vm.findClass RL = some m.cls := hown
  obtain ⟨hI2, hI9, hI12, hI16, hI18, hI22, hI31, hI38, hI43, hI47, hI50, hI101, hI102, hI103, hI104, hI105, hI106, hI107, hI109, hI110, hI111, hI119, hs_jKept, hs_jBook, ht0, ht1, ht2, ht3, ht4, ht5, ht6, ht7, ht8, ht9, ht10, hr0, hr1, hr2, hr3, hr4, hr5, hr6, hr7⟩ := hAll
  have hL9 : (L : Int) ≤ 384 := by omega
  obtain ⟨i1, i2, i3, i4, i5, w6⟩ : (0 ≤ (σ 2 0).toInt ∧ (σ 2 0).toInt ≤ 4) ∧ (0 ≤ (σ 2 1).toInt ∧ (σ 2 1).toInt ≤ 3) ∧ (0 ≤ (σ 2 2).toInt) ∧ (0 ≤ (σ 2 3).toInt) ∧ ((σ 2 2).toInt + (σ 2 3).toInt ≤ 40) ∧ (∀ k : Nat, k < 40 → 0 ≤ (σ 6 k).toInt ∧ (σ 6 k).toInt ≤ 67) := id hI2
  obtain ⟨i7, w8, w9⟩ : (0 ≤ (σ 9 0).toInt ∧ (σ 9 0).toInt ≤ 80) ∧ (∀ k : Nat, k < 80 → 0 ≤ (σ 10 k).toInt ∧ (σ 10 k).toInt ≤ 255) ∧ (∀ k : Nat, k < 8 → 0 ≤ (σ 11 k).toInt ∧ (σ 11 k).toInt ≤ 3) := id hI9
  obtain ⟨i10, i11, i12, w13⟩ : (1 ≤ (σ 16 0).toInt ∧ (σ 16 0).toInt ≤ 8) ∧ (1 ≤ (σ 16 1).toInt ∧ (σ 16 1).toInt ≤ 12) ∧ (0 ≤ (σ 16 2).toInt ∧ (σ 16 2).toInt ≤ 999) ∧ (∀ k : Nat, k < 8 → 0 ≤ (σ 17 k).toInt ∧ (σ 17 k).toInt ≤ 3) := id hI16
  obtain ⟨i14, i15, w16⟩ : (0 ≤ (σ 38 0).toInt ∧ (σ 38 0).toInt ≤ 20) ∧ (0 ≤ (σ 38 1).toInt ∧ (σ 38 1).toInt ≤ 1000) ∧ (∀ k : Nat, k < 20 → 0 ≤ (σ 39 k).toInt ∧ (σ 39 k).toInt ≤ 6) := id hI38
  obtain ⟨i17, w18, w19⟩ : (0 ≤ (σ 47 0).toInt ∧ (σ 47 0).toInt ≤ 12) ∧ (∀ k : Nat, k < 12 → 0 ≤ (σ 48 k).toInt ∧ (σ 48 k).toInt ≤ 3) ∧ (∀ k : Nat, k < 12 → 0 ≤ (σ 49 k).toInt ∧ (σ 49 k).toInt ≤ 1) := id hI47
  have w20 : ∀ k : Nat, k < 6 → 0 ≤ (σ 52 k).toInt ∧ (σ 52 k).toInt ≤ 60 := hI50
  obtain ⟨i21, i22, i23, w24, w25, w26, w27⟩ : (0 ≤ (σ 55 5).toInt) ∧ ((σ 55 5).toInt ≤ (σ 55 4).toInt) ∧ ((σ 55 4).toInt ≤ 40) ∧ (∀ k : Nat, k < 68 → (-200) ≤ (σ 56 k).toInt ∧ (σ 56 k).toInt ≤ 500) ∧ (∀ k : Nat, k < 40 → 0 ≤ (σ 57 k).toInt ∧ (σ 57 k).toInt ≤ 67) ∧ (∀ k : Nat, k < 40 → (-200) ≤ (σ 58 k).toInt ∧ (σ 58 k).toInt ≤ 500) ∧ (∀ k : Nat, k < 40 → (-200) ≤ (σ 59 k).toInt ∧ (σ 59 k).toInt ≤ 500) := id hI101
  obtain ⟨i28, w29, w30⟩ : (0 ≤ (σ 55 6).toInt ∧ (σ 55 6).toInt ≤ 4) ∧ (∀ k : Nat, k < 4 → 0 ≤ (σ 60 k).toInt ∧ (σ 60 k).toInt ≤ 50) ∧ (∀ k : Nat, k < 4 → 0 ≤ (σ 61 k).toInt ∧ (σ 61 k).toInt ≤ 20) := id hI102
  obtain ⟨i31, i32, i33, w34, w35⟩ : (1 ≤ (σ 55 10).toInt ∧ (σ 55 10).toInt ≤ 8) ∧ (1 ≤ (σ 55 12).toInt ∧ (σ 55 12).toInt ≤ 12) ∧ (0 ≤ (σ 55 13).toInt ∧ (σ 55 13).toInt ≤ 999) ∧ (∀ k : Nat, k < 8 → 0 ≤ (σ 62 k).toInt ∧ (σ 62 k).toInt ≤ 3) ∧ (∀ k : Nat, k < 8 → 0 ≤ (σ 67 k).toInt ∧ (σ 67 k).toInt ≤ 3) := id hI104
  obtain ⟨i36, w37⟩ : (0 ≤ (σ 55 15).toInt ∧ (σ 55 15).toInt ≤ 80) ∧ (∀ k : Nat, k < 2 → (-1) ≤ (σ 65 k).toInt ∧ (σ 65 k).toInt ≤ 80) := id hI105
  obtain ⟨i38, w39, w40, w41⟩ : (0 ≤ (σ 55 32).toInt ∧ (σ 55 32).toInt ≤ 20) ∧ (∀ k : Nat, k < 20 → 0 ≤ (σ 70 k).toInt ∧ (σ 70 k).toInt ≤ 6) ∧ (∀ k : Nat, k < 20 → 0 ≤ (σ 71 k).toInt ∧ (σ 71 k).toInt ≤ 8) ∧ (∀ k : Nat, k < 160 → 0 ≤ (σ 72 k).toInt ∧ (σ 72 k).toInt ≤ 3) := id hI106
  obtain ⟨i42, i43, w44⟩ : (0 ≤ (σ 55 47).toInt ∧ (σ 55 47).toInt ≤ 12) ∧ ((σ 55 47).toInt ≤ (σ 55 12).toInt) ∧ (∀ k : Nat, k < 12 → 0 ≤ (σ 80 k).toInt ∧ (σ 80 k).toInt ≤ 3) := id hI107
  refine lv_aload_n hx hb dL_law_898 rfl (lv_at hl 2 rfl) ?_
  refine lv_aload_n hx hb dL_law_899 rfl (lv_at hl 3 rfl) ?_
  refine lv_iload_n hx hb dL_law_900 rfl (lv_at hl 0 rfl) ?_
  refine lv_iconst (v := 1) hx hb dL_law_901 (by decide) ?_
  have g45 := jrg (rfl : x0.toInt = x0.toInt)
  refine lv_iadd hx hb dL_law_902 ?_
  refine lv_topi (fun x46 ex46 => ?_)
  have tx46 : x46.toInt = x0.toInt + 1 := (jadd ex46 rfl jz_1 (by omega) (by omega)).trans (by omega)
  refine va_sld hx hb hX hbl hbA hS (jin tx46 (by omega) (by omega)) dL_law_903 ?_
  have g47 := jrg (rfl : (xs x46.toNatClampNeg).toInt = (xs x46.toNatClampNeg).toInt)
  refine lv_aload_n hx hb dL_law_904 rfl (lv_at hl 3 rfl) ?_
  refine lv_iload_n hx hb dL_law_905 rfl (lv_at hl 0 rfl) ?_
  refine lv_iconst (v := 2) hx hb dL_law_906 (by decide) ?_
  refine lv_iadd hx hb dL_law_907 ?_
  refine lv_topi (fun x48 ex48 => ?_)
  have tx48 : x48.toInt = x0.toInt + 2 := (jadd ex48 rfl jz_2 (by omega) (by omega)).trans (by omega)
  refine va_sld hx hb hX hbl hbA hS (jin tx48 (by omega) (by omega)) dL_law_908 ?_
  have g49 := jrg (rfl : (xs x48.toNatClampNeg).toInt = (xs x48.toNatClampNeg).toInt)
  refine jcallV (As := [.int (xs x46.toNatClampNeg), .int (xs x48.toNatClampNeg)]) (rest := []) ⟨hx, hb, hml, hown, hts⟩ hK hP hA hS hZ (c_X11_game l D cI cL ad zz hJ σ τ (xs x46.toNatClampNeg) ((xs x46.toNatClampNeg).toInt) rfl (xs x48.toNatClampNeg) ((xs x48.toNatClampNeg).toInt) rfl hI2 hI16 hI18 hI22 hI31 hI38 hI43) cw_RL_113 (jc_0 cI cL ad σ τ) rfl ⟨Nat.le_of_ble_eq_true rfl, Nat.le_of_ble_eq_true rfl⟩ rfl rfl rfl hl.1 rfl (Nat.le_of_ble_eq_true rfl) dL_law_909 ⟨Nat.le_of_ble_eq_true rfl, Nat.le_of_ble_eq_true rfl⟩ (fun r51 σ50 τ50 H locs h50 hP hS => ?_)
  obtain ⟨rfl, f52, f53, f54, I55, I56, h50⟩ := h50
  refine lv_pop hx hb dL_law_912 rfl ?_
  refine lv_aload_n hx hb dL_law_913 rfl (lv_at hl 1 rfl) ?_
  refine lv_aload_n hx hb dL_law_914 rfl (lv_at hl 3 rfl) ?_
  refine lv_iload_n hx hb dL_law_915 rfl (lv_at hl 0 rfl) ?_
  refine lv_iconst (v := 1) hx hb dL_law_916 (by decide) ?_
  refine lv_iadd hx hb dL_law_917 ?_
  refine jtopr ex46.symm ?_
  refine va_sld hx hb hX hbl hbA hS (jin tx46 (by omega) (by omega)) dL_law_918 ?_
  refine lv_aload_n hx hb dL_law_919 rfl (lv_at hl 3 rfl) ?_
  refine lv_iload_n hx hb dL_law_920 rfl (lv_at hl 0 rfl) ?_
  refine lv_iconst (v := 2) hx hb dL_law_921 (by decide) ?_
  refine lv_iadd hx hb dL_law_922 ?_
  refine jtopr ex48.symm ?_
  refine va_sld hx hb hX hbl hbA hS (jin tx48 (by omega) (by omega)) dL_law_923 ?_
  have I58 : jI101 σ50 := jI101_fr (congrFun (f52 55 (by decide)) 4) (congrFun (f52 55 (by decide)) 5) (f52 56 (by decide)) (f52 57 (by decide)) (f52 58 (by decide)) (f52 59 (by decide)) hI101
  have I59 : jI102 σ50 := jI102_fr (congrFun (f52 55 (by decide)) 6) (f52 60 (by decide)) (f52 61 (by decide)) hI102
  have I60 : jI103 σ50 := jI103_fr (congrFun (f52 55 (by decide)) 9) hI103
  have I61 : jI104 σ50 := jI104_fr (congrFun (f52 55 (by decide)) 10) (congrFun (f52 55 (by decide)) 12) (congrFun (f52 55 (by decide)) 13) (f52 62 (by decide)) (f52 67 (by decide)) hI104
  have I62 : jI105 σ50 := jI105_fr (congrFun (f52 55 (by decide)) 15) (f52 65 (by decide)) hI105
  have I63 : jI106 σ50 := jI106_fr (congrFun (f52 55 (by decide)) 32) (f52 70 (by decide)) (f52 71 (by decide)) (f52 72 (by decide)) hI106
  have I64 : jI119 σ50 := jI119_fr (f52 68 (by decide)) hI119
  have I65 : jI109 σ50 := jI109_fr (congrFun (f52 55 (by decide)) 50) hI109
  have p66 : jKept σ50 := jKept.fr (f52 75 (by decide)) (f52 76 (by decide)) (f52 77 (by decide)) hs_jKept
  refine jcallV (As := [.int (xs x46.toNatClampNeg), .int (xs x48.toNatClampNeg)]) (rest := []) ⟨hx, hb, hml, hown, hts⟩ hK hP hA hS hZ (c_X12_game l D cI cL ad zz hJ σ50 τ (xs x46.toNatClampNeg) ((xs x46.toNatClampNeg).toInt) rfl (xs x48.toNatClampNeg) ((xs x48.toNatClampNeg).toInt) rfl I58 I59 I60 I61 I62 I63 I64 I65 p66) cw_RL_116 (jc_55 cI cL ad σ50 τ) rfl ⟨Nat.le_of_ble_eq_true rfl, Nat.le_of_ble_eq_true rfl⟩ rfl rfl rfl hl.1 rfl (Nat.le_of_ble_eq_true rfl) dL_law_924 ⟨Nat.le_of_ble_eq_true rfl, Nat.le_of_ble_eq_true rfl⟩ (fun r68 σ67 τ67 H locs h67 hP hS => ?_)
  obtain ⟨rfl, f69, f70, I71, I72, p73, h67⟩ := h67
  refine lv_pop hx hb dL_law_927 rfl ?_
  refine lv_goto (tgt := 1357) hx hb dL_law_928 (by decide) ?_
  obtain ⟨x75, ex75⟩ : ∃ y : Int32, y = x0 + 6 := ⟨_, rfl⟩
  have tx75 : x75.toInt = x0.toInt + 6 := (jadd ex75 rfl jz_6 (by omega) (by omega)).trans (by omega)
  refine lv_iinc (v := x75) (lv' := [(3, .int x75), (2, .ref (ad 55)), (1, .ref (ad 0)), (0, .ref b)]) hx hb dL_law_1357 hl (k := 0) rfl (by rw [ex75]; rfl) (by decide) rfl (fun ls hl => ?_)
  refine lv_goto (tgt := 18) hx hb dL_law_1360 (by decide) ?_
  have I76 : jI2 σ67 := jI2_fr ((congrFun (f69 2 (by decide)) 0).trans (congrFun (f52 2 (by decide)) 0)) ((congrFun (f69 2 (by decide)) 1).trans (congrFun (f52 2 (by decide)) 1)) ((congrFun (f69 2 (by decide)) 2).trans (congrFun (f52 2 (by decide)) 2)) ((congrFun (f69 2 (by decide)) 3).trans (congrFun (f52 2 (by decide)) 3)) ((f69 6 (by decide)).trans (f52 6 (by decide))) hI2
  have I77 : jI9 σ67 := jI9_fr ((congrFun (f69 9 (by decide)) 0).trans (congrFun (f52 9 (by decide)) 0)) ((f69 10 (by decide)).trans (f52 10 (by decide))) ((f69 11 (by decide)).trans (f52 11 (by decide))) hI9
  have I78 : jI12 σ67 := jI12_fr ((congrFun (f69 12 (by decide)) 0).trans (congrFun (f52 12 (by decide)) 0)) ((f69 13 (by decide)).trans (f52 13 (by decide))) hI12
  have I79 : jI16 σ67 := jI16_fr ((congrFun (f69 16 (by decide)) 0).trans (congrFun (f52 16 (by decide)) 0)) ((congrFun (f69 16 (by decide)) 1).trans (congrFun (f52 16 (by decide)) 1)) ((congrFun (f69 16 (by decide)) 2).trans (congrFun (f52 16 (by decide)) 2)) ((f69 17 (by decide)).trans (f52 17 (by decide))) hI16
  have I80 : jI18 σ67 := jI18_fr ((congrFun (f69 18 (by decide)) 0).trans (congrFun (f52 18 (by decide)) 0)) ((f69 19 (by decide)).trans (f52 19 (by decide))) hI18
  have I81 : jI22 σ67 := jI22_fr ((congrFun (f69 22 (by decide)) 0).trans (congrFun (f52 22 (by decide)) 0)) ((f69 23 (by decide)).trans (f52 23 (by decide))) hI22
  have I82 : jI31 σ67 := jI31_fr (congrFun (f69 31 (by decide)) 8) (f69 33 (by decide)) (f69 36 (by decide)) I55
  have I83 : jI38 σ67 := jI38_fr ((congrFun (f69 38 (by decide)) 0).trans (congrFun (f52 38 (by decide)) 0)) ((congrFun (f69 38 (by decide)) 1).trans (congrFun (f52 38 (by decide)) 1)) ((f69 39 (by decide)).trans (f52 39 (by decide))) hI38
  have I84 : jI43 σ67 := jI43_fr (congrFun (f69 43 (by decide)) 8) I56
  have I85 : jI47 σ67 := jI47_fr ((congrFun (f69 47 (by decide)) 0).trans (congrFun (f52 47 (by decide)) 0)) ((f69 48 (by decide)).trans (f52 48 (by decide))) ((f69 49 (by decide)).trans (f52 49 (by decide))) hI47
  have I86 : jI50 σ67 := jI50_fr ((f69 52 (by decide)).trans (f52 52 (by decide))) hI50
  have I87 : jI101 σ67 := jI101_fr (f70 4 (by decide)) (f70 5 (by decide)) (f69 56 (by decide)) (f69 57 (by decide)) (f69 58 (by decide)) (f69 59 (by decide)) I58
  have I88 : jI102 σ67 := jI102_fr (f70 6 (by decide)) (f69 60 (by decide)) (f69 61 (by decide)) I59
  have I89 : jI103 σ67 := jI103_fr (f70 9 (by decide)) I60
  have I90 : jI104 σ67 := jI104_fr (f70 10 (by decide)) (f70 12 (by decide)) (f70 13 (by decide)) (f69 62 (by decide)) (f69 67 (by decide)) I61
  have I91 : jI105 σ67 := jI105_fr (f70 15 (by decide)) (f69 65 (by decide)) I62
  have I92 : jI106 σ67 := jI106_fr (f70 32 (by decide)) (f69 70 (by decide)) (f69 71 (by decide)) (f69 72 (by decide)) I63
  have I93 : jI107 σ67 := jI107_fr ((f70 12 (by decide)).trans (congrFun (f52 55 (by decide)) 12)) ((f70 47 (by decide)).trans (congrFun (f52 55 (by decide)) 47)) ((f69 80 (by decide)).trans (f52 80 (by decide))) hI107
  have I94 : jI110 σ67 := jI110_fr ((f69 86 (by decide)).trans (f52 86 (by decide))) ((f69 87 (by decide)).trans (f52 87 (by decide))) hI110
  have I95 : jI111 σ67 := jI111_fr ((f69 79 (by decide)).trans (f52 79 (by decide))) hI111
  have p96 : jBook σ67 := jBook.fr ((f70 47 (by decide)).trans (congrFun (f52 55 (by decide)) 47)) ((f70 10 (by decide)).trans (congrFun (f52 55 (by decide)) 10)) ((f69 81 (by decide)).trans (f52 81 (by decide))) hs_jBook
  have z97 : (σ67 2 0).toInt = (σ 2 0).toInt := (congrArg Int32.toInt (show σ67 2 0 = (σ 2 0) from ((congrFun (f69 2 (by decide)) 0).trans (congrFun (f52 2 (by decide)) 0))))
  have z98 : (σ67 55 6).toInt = (σ 55 6).toInt := (congrArg Int32.toInt (show σ67 55 6 = (σ 55 6) from ((f70 6 (by decide)).trans (congrFun (f52 55 (by decide)) 6))))
  have z99 : (σ67 2 2).toInt = (σ 2 2).toInt := (congrArg Int32.toInt (show σ67 2 2 = (σ 2 2) from ((congrFun (f69 2 (by decide)) 2).trans (congrFun (f52 2 (by decide)) 2))))
  have z100 : (σ67 55 5).toInt = (σ 55 5).toInt := (congrArg Int32.toInt (show σ67 55 5 = (σ 55 5) from ((f70 5 (by decide)).trans (congrFun (f52 55 (by decide)) 5))))
  have z101 : (σ67 2 3).toInt = (σ 2 3).toInt := (congrArg Int32.toInt (show σ67 2 3 = (σ 2 3) from ((congrFun (f69 2 (by decide)) 3).trans (congrFun (f52 2 (by decide)) 3))))
  have z102 : (σ67 55 4).toInt = (σ 55 4).toInt := (congrArg Int32.toInt (show σ67 55 4 = (σ 55 4) from ((f70 4 (by decide)).trans (congrFun (f52 55 (by decide)) 4))))
  have z103 : (σ67 9 0).toInt = (σ 9 0).toInt := (congrArg Int32.toInt (show σ67 9 0 = (σ 9 0) from ((congrFun (f69 9 (by decide)) 0).trans (congrFun (f52 9 (by decide)) 0))))
  have z104 : (σ67 55 15).toInt = (σ 55 15).toInt := (congrArg Int32.toInt (show σ67 55 15 = (σ 55 15) from ((f70 15 (by decide)).trans (congrFun (f52 55 (by decide)) 15))))
  have z105 : (σ67 16 0).toInt = (σ 16 0).toInt := (congrArg Int32.toInt (show σ67 16 0 = (σ 16 0) from ((congrFun (f69 16 (by decide)) 0).trans (congrFun (f52 16 (by decide)) 0))))
  have z106 : (σ67 55 10).toInt = (σ 55 10).toInt := (congrArg Int32.toInt (show σ67 55 10 = (σ 55 10) from ((f70 10 (by decide)).trans (congrFun (f52 55 (by decide)) 10))))
  have z107 : (σ67 16 1).toInt = (σ 16 1).toInt := (congrArg Int32.toInt (show σ67 16 1 = (σ 16 1) from ((congrFun (f69 16 (by decide)) 1).trans (congrFun (f52 16 (by decide)) 1))))
  have z108 : (σ67 55 12).toInt = (σ 55 12).toInt := (congrArg Int32.toInt (show σ67 55 12 = (σ 55 12) from ((f70 12 (by decide)).trans (congrFun (f52 55 (by decide)) 12))))
  have z109 : (σ67 16 2).toInt = (σ 16 2).toInt := (congrArg Int32.toInt (show σ67 16 2 = (σ 16 2) from ((congrFun (f69 16 (by decide)) 2).trans (congrFun (f52 16 (by decide)) 2))))
  have z110 : (σ67 55 13).toInt = (σ 55 13).toInt := (congrArg Int32.toInt (show σ67 55 13 = (σ 55 13) from ((f70 13 (by decide)).trans (congrFun (f52 55 (by decide)) 13))))
  have z111 : (σ67 38 0).toInt = (σ 38 0).toInt := (congrArg Int32.toInt (show σ67 38 0 = (σ 38 0) from ((congrFun (f69 38 (by decide)) 0).trans (congrFun (f52 38 (by decide)) 0))))
  have z112 : (σ67 55 32).toInt = (σ 55 32).toInt := (congrArg Int32.toInt (show σ67 55 32 = (σ 55 32) from ((f70 32 (by decide)).trans (congrFun (f52 55 (by decide)) 32))))
  have z113 : (σ67 47 0).toInt = (σ 47 0).toInt := (congrArg Int32.toInt (show σ67 47 0 = (σ 47 0) from ((congrFun (f69 47 (by decide)) 0).trans (congrFun (f52 47 (by decide)) 0))))
  have z114 : (σ67 55 47).toInt = (σ 55 47).toInt := (congrArg Int32.toInt (show σ67 55 47 = (σ 55 47) from ((f70 47 (by decide)).trans (congrFun (f52 55 (by decide)) 47))))
  have z115 : (σ67 55 30).toInt = (σ 55 30).toInt := (congrArg Int32.toInt (show σ67 55 30 = (σ 55 30) from ((f70 30 (by decide)).trans (congrFun (f52 55 (by decide)) 30))))
  have z116 : (σ67 55 31).toInt = (σ 55 31).toInt := (congrArg Int32.toInt (show σ67 55 31 = (σ 55 31) from ((f70 31 (by decide)).trans (congrFun (f52 55 (by decide)) 31))))
  exact ih x75 σ67 τ _ _ ls (by have h9 := tx75; omega) ⟨I76, I77, I78, I79, I80, I81, I82, I83, I84, I85, I86, I87, I88, I89, I90, I91, I92, I93, I71, I94, I95, I72, p73, p96, (by omega), (by omega), (by omega), (by omega), (by omega), (by omega), (by omega), (by omega), (by omega), (by omega), (by omega), (show jNumP (σ67 3) (σ67 56) (σ67 6) (σ67 57) (σ67 7) (σ67 58) (σ67 8) (σ67 59) (σ67 55 6).toInt (σ67 55 4).toInt by rw [show σ67 3 = σ 3 from ((f69 3 (by decide)).trans (f52 3 (by decide))), show σ67 56 = σ 56 from ((f69 56 (by decide)).trans (f52 56 (by decide))), show σ67 6 = σ 6 from ((f69 6 (by decide)).trans (f52 6 (by decide))), show σ67 57 = σ 57 from ((f69 57 (by decide)).trans (f52 57 (by decide))), show σ67 7 = σ 7 from ((f69 7 (by decide)).trans (f52 7 (by decide))), show σ67 58 = σ 58 from ((f69 58 (by decide)).trans (f52 58 (by decide))), show σ67 8 = σ 8 from ((f69 8 (by decide)).trans (f52 8 (by decide))), show σ67 59 = σ 59 from ((f69 59 (by decide)).trans (f52 59 (by decide))), show (σ67 55 6).toInt = (σ 55 6).toInt from by omega, show (σ67 55 4).toInt = (σ 55 4).toInt from by omega]; exact hr0), (show jOvP (σ67 56) (σ67 57) (σ67 58) (σ67 59) (σ67 55 4).toInt by rw [show σ67 56 = σ 56 from ((f69 56 (by decide)).trans (f52 56 (by decide))), show σ67 57 = σ 57 from ((f69 57 (by decide)).trans (f52 57 (by decide))), show σ67 58 = σ 58 from ((f69 58 (by decide)).trans (f52 58 (by decide))), show σ67 59 = σ 59 from ((f69 59 (by decide)).trans (f52 59 (by decide))), show (σ67 55 4).toInt = (σ 55 4).toInt from by omega]; exact hr1), (show jTp (σ67 10) (σ67 63) (σ67 55 15).toInt by rw [show σ67 10 = σ 10 from ((f69 10 (by decide)).trans (f52 10 (by decide))), show σ67 63 = σ 63 from ((f69 63 (by decide)).trans (f52 63 (by decide)))]; exact hr2.le (by omega)), (show jSo (σ67 17) (σ67 62) (σ67 16 0).toInt by rw [show σ67 17 = σ 17 from ((f69 17 (by decide)).trans (f52 17 (by decide))), show σ67 62 = σ 62 from ((f69 62 (by decide)).trans (f52 62 (by decide))), show (σ67 16 0).toInt = (σ 16 0).toInt from by omega]; exact hr3), (show jShP (σ67 51) (σ67 52) (σ67 53) (σ67 86) (σ67 87) (σ67 55 32).toInt by rw [show σ67 51 = σ 51 from ((f69 51 (by decide)).trans (f52 51 (by decide))), show σ67 52 = σ 52 from ((f69 52 (by decide)).trans (f52 52 (by decide))), show σ67 53 = σ 53 from ((f69 53 (by decide)).trans (f52 53 (by decide))), show σ67 86 = σ 86 from ((f69 86 (by decide)).trans (f52 86 (by decide))), show σ67 87 = σ 87 from ((f69 87 (by decide)).trans (f52 87 (by decide)))]; exact (hr4.up (by omega) (by omega))), (show jEl (σ67 51) (σ67 52) (τ 54) (τ 88) by rw [show σ67 51 = σ 51 from ((f69 51 (by decide)).trans (f52 51 (by decide))), show σ67 52 = σ 52 from ((f69 52 (by decide)).trans (f52 52 (by decide)))]; exact hr5), (show jByP (σ67 51) (σ67 52) (τ 54) by rw [show σ67 51 = σ 51 from ((f69 51 (by decide)).trans (f52 51 (by decide))), show σ67 52 = σ 52 from ((f69 52 (by decide)).trans (f52 52 (by decide)))]; exact hr6), (show jBk (σ67 48) (σ67 80) (σ67 49) (σ67 81) (σ67 55 47).toInt by rw [show σ67 48 = σ 48 from ((f69 48 (by decide)).trans (f52 48 (by decide))), show σ67 49 = σ 49 from ((f69 49 (by decide)).trans (f52 49 (by decide))), show σ67 80 = σ 80 from ((f69 80 (by decide)).trans (f52 80 (by decide))), show σ67 81 = σ 81 from ((f69 81 (by decide)).trans (f52 81 (by decide))), show (σ67 55 47).toInt = (σ 55 47).toInt from by omega]; exact hr7)⟩ hP hS (lv_sub hl [0, 1, 2, 3] rfl)
set_option maxHeartbeats 4000000 in
set_option maxRecDepth 100000 in
theorem law_case_25 {p : Program} {e : Env} {s : State} {m : MethodId} {below : List Frame} {meth : Method} {c : Code} (l : Launch) {b L : Nat} {xs : Nat → Int32} {D : va_G} {cI cL : ClassId} {ad zz : Nat → Nat} (C0 : lw_At p s m meth c b L xs) (hJ : jD ad) (hA : ∀ q, jA ad q → s.heap.size ≤ q) (hK : jK D cI cL s) (hZ : jZ zz (fun q : Nat => s.heap.size ≤ q) s s.heap) {x0 : Int32} (hx0 : 0 ≤ x0.toInt) (hxL : x0.toInt + 6 ≤ (L : Int)) (hL : L ≤ 384) {σ : Nat → Nat → Int32} {τ : Nat → Nat → Int64} {H : Heap} {locs : List Loc} (hS : va_S (fun q : Nat => s.heap.size ≤ q) s.heap H locs) {ls : Array Slot} (hAll : jAll σ τ) (hP : jH D cI cL ad σ τ H) (hl : lv_has ls 4 [(3, .int x0), (2, .ref (ad 55)), (1, .ref (ad 0)), (0, .ref b)]) (ih : ∀ (x1 : Int32) (σ : Nat → Nat → Int32) (τ : Nat → Nat → Int64) (H : Heap) (locs : List Loc) (ls : Array Slot), x1.toInt = x0.toInt + 6 → jAll σ τ → jH D cI cL ad σ τ H → va_S (fun q : Nat => s.heap.size ≤ q) s.heap H locs → lv_has ls 4 [(3, .int x1), (2, .ref (ad 55)), (1, .ref (ad 0)), (0, .ref b)] → W p l e room_1 s m #[Value.ref b] below meth c H locs 90 348600 (lw_Z below #[Value.ref b] s) (F0 m 18 ls [])) : W p l e room_1 s m #[Value.ref b] below meth c H locs 90 348600 (lw_Z below #[Value.ref b] s) (F0 m 931 ls []) := by
  obtain ⟨hx, hb, hr, hml, hown, hts0, hX, hbl, hlocks, hgv⟩ := C0
  have hts : ∀ w ∈ wsL_law, w.before #[Value.ref b] s = true := fun w h => hts0 w (wsL_law_in w h)
  have hbA : ¬ (fun q : Nat => s.heap.size ≤ q) b := Nat.not_le.mpr hbl
  have hown : s.vm.findClass RL = some m.cls := hown
  obtain ⟨hI2, hI9, hI12, hI16, hI18, hI22, hI31, hI38, hI43, hI47, hI50, hI101, hI102, hI103, hI104, hI105, hI106, hI107, hI109, hI110, hI111, hI119, hs_jKept, hs_jBook, ht0, ht1, ht2, ht3, ht4, ht5, ht6, ht7, ht8, ht9, ht10, hr0, hr1, hr2, hr3, hr4, hr5, hr6, hr7⟩ := hAll
  have hL9 : (L : Int) ≤ 384 := by omega
  obtain ⟨i1, i2, i3, i4, i5, w6⟩ : (0 ≤ (σ 2 0).toInt ∧ (σ 2 0).toInt ≤ 4) ∧ (0 ≤ (σ 2 1).toInt ∧ (σ 2 1).toInt ≤ 3) ∧ (0 ≤ (σ 2 2).toInt) ∧ (0 ≤ (σ 2 3).toInt) ∧ ((σ 2 2).toInt + (σ 2 3).toInt ≤ 40) ∧ (∀ k : Nat, k < 40 → 0 ≤ (σ 6 k).toInt ∧ (σ 6 k).toInt ≤ 67) := id hI2
  obtain ⟨i7, w8, w9⟩ : (0 ≤ (σ 9 0).toInt ∧ (σ 9 0).toInt ≤ 80) ∧ (∀ k : Nat, k < 80 → 0 ≤ (σ 10 k).toInt ∧ (σ 10 k).toInt ≤ 255) ∧ (∀ k : Nat, k < 8 → 0 ≤ (σ 11 k).toInt ∧ (σ 11 k).toInt ≤ 3) := id hI9
  obtain ⟨i10, i11, i12, w13⟩ : (1 ≤ (σ 16 0).toInt ∧ (σ 16 0).toInt ≤ 8) ∧ (1 ≤ (σ 16 1).toInt ∧ (σ 16 1).toInt ≤ 12) ∧ (0 ≤ (σ 16 2).toInt ∧ (σ 16 2).toInt ≤ 999) ∧ (∀ k : Nat, k < 8 → 0 ≤ (σ 17 k).toInt ∧ (σ 17 k).toInt ≤ 3) := id hI16
  obtain ⟨i14, i15, w16⟩ : (0 ≤ (σ 38 0).toInt ∧ (σ 38 0).toInt ≤ 20) ∧ (0 ≤ (σ 38 1).toInt ∧ (σ 38 1).toInt ≤ 1000) ∧ (∀ k : Nat, k < 20 → 0 ≤ (σ 39 k).toInt ∧ (σ 39 k).toInt ≤ 6) := id hI38
  obtain ⟨i17, w18, w19⟩ : (0 ≤ (σ 47 0).toInt ∧ (σ 47 0).toInt ≤ 12) ∧ (∀ k : Nat, k < 12 → 0 ≤ (σ 48 k).toInt ∧ (σ 48 k).toInt ≤ 3) ∧ (∀ k : Nat, k < 12 → 0 ≤ (σ 49 k).toInt ∧ (σ 49 k).toInt ≤ 1) := id hI47
  have w20 : ∀ k : Nat, k < 6 → 0 ≤ (σ 52 k).toInt ∧ (σ 52 k).toInt ≤ 60 := hI50
  obtain ⟨i21, i22, i23, w24, w25, w26, w27⟩ : (0 ≤ (σ 55 5).toInt) ∧ ((σ 55 5).toInt ≤ (σ 55 4).toInt) ∧ ((σ 55 4).toInt ≤ 40) ∧ (∀ k : Nat, k < 68 → (-200) ≤ (σ 56 k).toInt ∧ (σ 56 k).toInt ≤ 500) ∧ (∀ k : Nat, k < 40 → 0 ≤ (σ 57 k).toInt ∧ (σ 57 k).toInt ≤ 67) ∧ (∀ k : Nat, k < 40 → (-200) ≤ (σ 58 k).toInt ∧ (σ 58 k).toInt ≤ 500) ∧ (∀ k : Nat, k < 40 → (-200) ≤ (σ 59 k).toInt ∧ (σ 59 k).toInt ≤ 500) := id hI101
  obtain ⟨i28, w29, w30⟩ : (0 ≤ (σ 55 6).toInt ∧ (σ 55 6).toInt ≤ 4) ∧ (∀ k : Nat, k < 4 → 0 ≤ (σ 60 k).toInt ∧ (σ 60 k).toInt ≤ 50) ∧ (∀ k : Nat, k < 4 → 0 ≤ (σ 61 k).toInt ∧ (σ 61 k).toInt ≤ 20) := id hI102
  obtain ⟨i31, i32, i33, w34, w35⟩ : (1 ≤ (σ 55 10).toInt ∧ (σ 55 10).toInt ≤ 8) ∧ (1 ≤ (σ 55 12).toInt ∧ (σ 55 12).toInt ≤ 12) ∧ (0 ≤ (σ 55 13).toInt ∧ (σ 55 13).toInt ≤ 999) ∧ (∀ k : Nat, k < 8 → 0 ≤ (σ 62 k).toInt ∧ (σ 62 k).toInt ≤ 3) ∧ (∀ k : Nat, k < 8 → 0 ≤ (σ 67 k).toInt ∧ (σ 67 k).toInt ≤ 3) := id hI104
  obtain ⟨i36, w37⟩ : (0 ≤ (σ 55 15).toInt ∧ (σ 55 15).toInt ≤ 80) ∧ (∀ k : Nat, k < 2 → (-1) ≤ (σ 65 k).toInt ∧ (σ 65 k).toInt ≤ 80) := id hI105
  obtain ⟨i38, w39, w40, w41⟩ : (0 ≤ (σ 55 32).toInt ∧ (σ 55 32).toInt ≤ 20) ∧ (∀ k : Nat, k < 20 → 0 ≤ (σ 70 k).toInt ∧ (σ 70 k).toInt ≤ 6) ∧ (∀ k : Nat, k < 20 → 0 ≤ (σ 71 k).toInt ∧ (σ 71 k).toInt ≤ 8) ∧ (∀ k : Nat, k < 160 → 0 ≤ (σ 72 k).toInt ∧ (σ 72 k).toInt ≤ 3) := id hI106
  obtain ⟨i42, i43, w44⟩ : (0 ≤ (σ 55 47).toInt ∧ (σ 55 47).toInt ≤ 12) ∧ ((σ 55 47).toInt ≤ (σ 55 12).toInt) ∧ (∀ k : Nat, k < 12 → 0 ≤ (σ 80 k).toInt ∧ (σ 80 k).toInt ≤ 3) := id hI107
  refine lv_aload_n hx hb dL_law_931 rfl (lv_at hl 2 rfl) ?_
  refine lv_aload_n hx hb dL_law_932 rfl (lv_at hl 3 rfl) ?_
  refine lv_iload_n hx hb dL_law_933 rfl (lv_at hl 0 rfl) ?_
  refine lv_iconst (v := 1) hx hb dL_law_934 (by decide) ?_
  have g45 := jrg (rfl : x0.toInt = x0.toInt)
  refine lv_iadd hx hb dL_law_935 ?_
  refine lv_topi (fun x46 ex46 => ?_)
  have tx46 : x46.toInt = x0.toInt + 1 := (jadd ex46 rfl jz_1 (by omega) (by omega)).trans (by omega)
  refine va_sld hx hb hX hbl hbA hS (jin tx46 (by omega) (by omega)) dL_law_936 ?_
  have g47 := jrg (rfl : (xs x46.toNatClampNeg).toInt = (xs x46.toNatClampNeg).toInt)
  refine lv_aload_n hx hb dL_law_937 rfl (lv_at hl 3 rfl) ?_
  refine lv_iload_n hx hb dL_law_938 rfl (lv_at hl 0 rfl) ?_
  refine lv_iconst (v := 2) hx hb dL_law_939 (by decide) ?_
  refine lv_iadd hx hb dL_law_940 ?_
  refine lv_topi (fun x48 ex48 => ?_)
  have tx48 : x48.toInt = x0.toInt + 2 := (jadd ex48 rfl jz_2 (by omega) (by omega)).trans (by omega)
  refine va_sld hx hb hX hbl hbA hS (jin tx48 (by omega) (by omega)) dL_law_941 ?_
  have g49 := jrg (rfl : (xs x48.toNatClampNeg).toInt = (xs x48.toNatClampNeg).toInt)
  refine jcallV (As := [.int (xs x46.toNatClampNeg), .int (xs x48.toNatClampNeg)]) (rest := []) ⟨hx, hb, hml, hown, hts⟩ hK hP hA hS hZ (c_X11_led l D cI cL ad zz hJ σ τ (xs x46.toNatClampNeg) ((xs x46.toNatClampNeg).toInt) rfl (xs x48.toNatClampNeg) ((xs x48.toNatClampNeg).toInt) rfl hI43) cw_RL_117 (jc_0 cI cL ad σ τ) rfl ⟨Nat.le_of_ble_eq_true rfl, Nat.le_of_ble_eq_true rfl⟩ rfl rfl rfl hl.1 rfl (Nat.le_of_ble_eq_true rfl) dL_law_942 ⟨Nat.le_of_ble_eq_true rfl, Nat.le_of_ble_eq_true rfl⟩ (fun r51 σ50 τ50 H locs h50 hP hS => ?_)
  obtain ⟨⟨rfl, rfl⟩, h50⟩ := h50
  refine lv_pop hx hb dL_law_945 rfl ?_
  refine lv_aload_n hx hb dL_law_946 rfl (lv_at hl 1 rfl) ?_
  refine lv_aload_n hx hb dL_law_947 rfl (lv_at hl 3 rfl) ?_
  refine lv_iload_n hx hb dL_law_948 rfl (lv_at hl 0 rfl) ?_
  refine lv_iconst (v := 1) hx hb dL_law_949 (by decide) ?_
  refine lv_iadd hx hb dL_law_950 ?_
  refine jtopr ex46.symm ?_
  refine va_sld hx hb hX hbl hbA hS (jin tx46 (by omega) (by omega)) dL_law_951 ?_
  refine lv_aload_n hx hb dL_law_952 rfl (lv_at hl 3 rfl) ?_
  refine lv_iload_n hx hb dL_law_953 rfl (lv_at hl 0 rfl) ?_
  refine lv_iconst (v := 2) hx hb dL_law_954 (by decide) ?_
  refine lv_iadd hx hb dL_law_955 ?_
  refine jtopr ex48.symm ?_
  refine va_sld hx hb hX hbl hbA hS (jin tx48 (by omega) (by omega)) dL_law_956 ?_
  refine jcallV (As := [.int (xs x46.toNatClampNeg), .int (xs x48.toNatClampNeg)]) (rest := []) ⟨hx, hb, hml, hown, hts⟩ hK hP hA hS hZ (c_X12_led l D cI cL ad zz hJ σ τ (xs x46.toNatClampNeg) ((xs x46.toNatClampNeg).toInt) rfl (xs x48.toNatClampNeg) ((xs x48.toNatClampNeg).toInt) rfl hI109) cw_RL_120 (jc_55 cI cL ad σ τ) rfl ⟨Nat.le_of_ble_eq_true rfl, Nat.le_of_ble_eq_true rfl⟩ rfl rfl rfl hl.1 rfl (Nat.le_of_ble_eq_true rfl) dL_law_957 ⟨Nat.le_of_ble_eq_true rfl, Nat.le_of_ble_eq_true rfl⟩ (fun r53 σ52 τ52 H locs h52 hP hS => ?_)
  obtain ⟨⟨rfl, rfl⟩, h52⟩ := h52
  refine lv_pop hx hb dL_law_960 rfl ?_
  refine lv_goto (tgt := 1357) hx hb dL_law_961 (by decide) ?_
  obtain ⟨x54, ex54⟩ : ∃ y : Int32, y = x0 + 6 := ⟨_, rfl⟩
  have tx54 : x54.toInt = x0.toInt + 6 := (jadd ex54 rfl jz_6 (by omega) (by omega)).trans (by omega)
  refine lv_iinc (v := x54) (lv' := [(3, .int x54), (2, .ref (ad 55)), (1, .ref (ad 0)), (0, .ref b)]) hx hb dL_law_1357 hl (k := 0) rfl (by rw [ex54]; rfl) (by decide) rfl (fun ls hl => ?_)
  refine lv_goto (tgt := 18) hx hb dL_law_1360 (by decide) ?_
  exact ih x54 σ τ _ _ ls (by have h9 := tx54; omega) ⟨hI2, hI9, hI12, hI16, hI18, hI22, hI31, hI38, hI43, hI47, hI50, hI101, hI102, hI103, hI104, hI105, hI106, hI107, hI109, hI110, hI111, hI119, hs_jKept, hs_jBook, (by omega), (by omega), (by omega), (by omega), (by omega), (by omega), (by omega), (by omega), (by omega), (by omega), (by omega), hr0, hr1, hr2, hr3, hr4, hr5, hr6, hr7⟩ hP hS (lv_sub hl [0, 1, 2, 3] rfl)
set_option maxHeartbeats 4000000 in
set_option maxRecDepth 100000 in
theorem law_case_26 {p : Program} {e : Env} {s : State} {m : MethodId} {below : List Frame} {meth : Method} {c : Code} (l : Launch) {b L : Nat} {xs : Nat → Int32} {D : va_G} {cI cL : ClassId} {ad zz : Nat → Nat} (C0 : lw_At p s m meth c b L xs) (hJ : jD ad) (hA : ∀ q, jA ad q → s.heap.size ≤ q) (hK : jK D cI cL s) (hZ : jZ zz (fun q : Nat => s.heap.size ≤ q) s s.heap) {x0 : Int32} (hx0 : 0 ≤ x0.toInt) (hxL : x0.toInt + 6 ≤ (L : Int)) (hL : L ≤ 384) {σ : Nat → Nat → Int32} {τ : Nat → Nat → Int64} {H : Heap} {locs : List Loc} (hS : va_S (fun q : Nat => s.heap.size ≤ q) s.heap H locs) {ls : Array Slot} (hAll : jAll σ τ) (hP : jH D cI cL ad σ τ H) (hl : lv_has ls 4 [(3, .int x0), (2, .ref (ad 55)), (1, .ref (ad 0)), (0, .ref b)]) (ih : ∀ (x1 : Int32) (σ : Nat → Nat → Int32) (τ : Nat → Nat → Int64) (H : Heap) (locs : List Loc) (ls : Array Slot), x1.toInt = x0.toInt + 6 → jAll σ τ → jH D cI cL ad σ τ H → va_S (fun q : Nat => s.heap.size ≤ q) s.heap H locs → lv_has ls 4 [(3, .int x1), (2, .ref (ad 55)), (1, .ref (ad 0)), (0, .ref b)] → W p l e room_1 s m #[Value.ref b] below meth c H locs 90 348600 (lw_Z below #[Value.ref b] s) (F0 m 18 ls [])) : W p l e room_1 s m #[Value.ref b] below meth c H locs 90 348600 (lw_Z below #[Value.ref b] s) (F0 m 964 ls []) := by
  obtain ⟨hx, hb, hr, hml, hown, hts0, hX, hbl, hlocks, hgv⟩ := C0
  have hts : ∀ w ∈ wsL_law, w.before #[Value.ref b] s = true := fun w h => hts0 w (wsL_law_in w h)
  have hbA : ¬ (fun q : Nat => s.heap.size ≤ q) b := Nat.not_le.mpr hbl
  have hown : s.vm.findClass RL = some m.cls := hown
  obtain ⟨hI2, hI9, hI12, hI16, hI18, hI22, hI31, hI38, hI43, hI47, hI50, hI101, hI102, hI103, hI104, hI105, hI106, hI107, hI109, hI110, hI111, hI119, hs_jKept, hs_jBook, ht0, ht1, ht2, ht3, ht4, ht5, ht6, ht7, ht8, ht9, ht10, hr0, hr1, hr2, hr3, hr4, hr5, hr6, hr7⟩ := hAll
  have hL9 : (L : Int) ≤ 384 := by omega
  obtain ⟨i1, i2, i3, i4, i5, w6⟩ : (0 ≤ (σ 2 0).toInt ∧ (σ 2 0).toInt ≤ 4) ∧ (0 ≤ (σ 2 1).toInt ∧ (σ 2 1).toInt ≤ 3) ∧ (0 ≤ (σ 2 2).toInt) ∧ (0 ≤ (σ 2 3).toInt) ∧ ((σ 2 2).toInt + (σ 2 3).toInt ≤ 40) ∧ (∀ k : Nat, k < 40 → 0 ≤ (σ 6 k).toInt ∧ (σ 6 k).toInt ≤ 67) := id hI2
  obtain ⟨i7, w8, w9⟩ : (0 ≤ (σ 9 0).toInt ∧ (σ 9 0).toInt ≤ 80) ∧ (∀ k : Nat, k < 80 → 0 ≤ (σ 10 k).toInt ∧ (σ 10 k).toInt ≤ 255) ∧ (∀ k : Nat, k < 8 → 0 ≤ (σ 11 k).toInt ∧ (σ 11 k).toInt ≤ 3) := id hI9
  obtain ⟨i10, i11, i12, w13⟩ : (1 ≤ (σ 16 0).toInt ∧ (σ 16 0).toInt ≤ 8) ∧ (1 ≤ (σ 16 1).toInt ∧ (σ 16 1).toInt ≤ 12) ∧ (0 ≤ (σ 16 2).toInt ∧ (σ 16 2).toInt ≤ 999) ∧ (∀ k : Nat, k < 8 → 0 ≤ (σ 17 k).toInt ∧ (σ 17 k).toInt ≤ 3) := id hI16
  obtain ⟨i14, i15, w16⟩ : (0 ≤ (σ 38 0).toInt ∧ (σ 38 0).toInt ≤ 20) ∧ (0 ≤ (σ 38 1).toInt ∧ (σ 38 1).toInt ≤ 1000) ∧ (∀ k : Nat, k < 20 → 0 ≤ (σ 39 k).toInt ∧ (σ 39 k).toInt ≤ 6) := id hI38
  obtain ⟨i17, w18, w19⟩ : (0 ≤ (σ 47 0).toInt ∧ (σ 47 0).toInt ≤ 12) ∧ (∀ k : Nat, k < 12 → 0 ≤ (σ 48 k).toInt ∧ (σ 48 k).toInt ≤ 3) ∧ (∀ k : Nat, k < 12 → 0 ≤ (σ 49 k).toInt ∧ (σ 49 k).toInt ≤ 1) := id hI47
  have w20 : ∀ k : Nat, k < 6 → 0 ≤ (σ 52 k).toInt ∧ (σ 52 k).toInt ≤ 60 := hI50
  obtain ⟨i21, i22, i23, w24, w25, w26, w27⟩ : (0 ≤ (σ 55 5).toInt) ∧ ((σ 55 5).toInt ≤ (σ 55 4).toInt) ∧ ((σ 55 4).toInt ≤ 40) ∧ (∀ k : Nat, k < 68 → (-200) ≤ (σ 56 k).toInt ∧ (σ 56 k).toInt ≤ 500) ∧ (∀ k : Nat, k < 40 → 0 ≤ (σ 57 k).toInt ∧ (σ 57 k).toInt ≤ 67) ∧ (∀ k : Nat, k < 40 → (-200) ≤ (σ 58 k).toInt ∧ (σ 58 k).toInt ≤ 500) ∧ (∀ k : Nat, k < 40 → (-200) ≤ (σ 59 k).toInt ∧ (σ 59 k).toInt ≤ 500) := id hI101
  obtain ⟨i28, w29, w30⟩ : (0 ≤ (σ 55 6).toInt ∧ (σ 55 6).toInt ≤ 4) ∧ (∀ k : Nat, k < 4 → 0 ≤ (σ 60 k).toInt ∧ (σ 60 k).toInt ≤ 50) ∧ (∀ k : Nat, k < 4 → 0 ≤ (σ 61 k).toInt ∧ (σ 61 k).toInt ≤ 20) := id hI102
  obtain ⟨i31, i32, i33, w34, w35⟩ : (1 ≤ (σ 55 10).toInt ∧ (σ 55 10).toInt ≤ 8) ∧ (1 ≤ (σ 55 12).toInt ∧ (σ 55 12).toInt ≤ 12) ∧ (0 ≤ (σ 55 13).toInt ∧ (σ 55 13).toInt ≤ 999) ∧ (∀ k : Nat, k < 8 → 0 ≤ (σ 62 k).toInt ∧ (σ 62 k).toInt ≤ 3) ∧ (∀ k : Nat, k < 8 → 0 ≤ (σ 67 k).toInt ∧ (σ 67 k).toInt ≤ 3) := id hI104
  obtain ⟨i36, w37⟩ : (0 ≤ (σ 55 15).toInt ∧ (σ 55 15).toInt ≤ 80) ∧ (∀ k : Nat, k < 2 → (-1) ≤ (σ 65 k).toInt ∧ (σ 65 k).toInt ≤ 80) := id hI105
  obtain ⟨i38, w39, w40, w41⟩ : (0 ≤ (σ 55 32).toInt ∧ (σ 55 32).toInt ≤ 20) ∧ (∀ k : Nat, k < 20 → 0 ≤ (σ 70 k).toInt ∧ (σ 70 k).toInt ≤ 6) ∧ (∀ k : Nat, k < 20 → 0 ≤ (σ 71 k).toInt ∧ (σ 71 k).toInt ≤ 8) ∧ (∀ k : Nat, k < 160 → 0 ≤ (σ 72 k).toInt ∧ (σ 72 k).toInt ≤ 3) := id hI106
  obtain ⟨i42, i43, w44⟩ : (0 ≤ (σ 55 47).toInt ∧ (σ 55 47).toInt ≤ 12) ∧ ((σ 55 47).toInt ≤ (σ 55 12).toInt) ∧ (∀ k : Nat, k < 12 → 0 ≤ (σ 80 k).toInt ∧ (σ 80 k).toInt ≤ 3) := id hI107
  refine lv_aload_n hx hb dL_law_964 rfl (lv_at hl 2 rfl) ?_
  refine jcallV (As := []) (rest := []) ⟨hx, hb, hml, hown, hts⟩ hK hP hA hS hZ (c_X11_undo l D cI cL ad zz hJ σ τ hI2) cw_RL_121 (jc_0 cI cL ad σ τ) rfl ⟨Nat.le_of_ble_eq_true rfl, Nat.le_of_ble_eq_true rfl⟩ rfl rfl rfl hl.1 rfl (Nat.le_of_ble_eq_true rfl) dL_law_965 ⟨Nat.le_of_ble_eq_true rfl, Nat.le_of_ble_eq_true rfl⟩ (fun r46 σ45 τ45 H locs h45 hP hS => ?_)
  obtain ⟨rfl, f47, f48, I49, h45⟩ := h45
  obtain ⟨i51, i52, i53, i54, i55, w56⟩ : (0 ≤ (σ45 2 0).toInt ∧ (σ45 2 0).toInt ≤ 4) ∧ (0 ≤ (σ45 2 1).toInt ∧ (σ45 2 1).toInt ≤ 3) ∧ (0 ≤ (σ45 2 2).toInt) ∧ (0 ≤ (σ45 2 3).toInt) ∧ ((σ45 2 2).toInt + (σ45 2 3).toInt ≤ 40) ∧ (∀ k : Nat, k < 40 → 0 ≤ (σ45 6 k).toInt ∧ (σ45 6 k).toInt ≤ 67) := id I49
  have z57 : (σ45 2 0).toInt = (σ 2 0).toInt := (congrArg Int32.toInt (show σ45 2 0 = (σ 2 0) from (f48 0 (by decide))))
  have z58 : (σ45 2 1).toInt = (σ 2 1).toInt := (congrArg Int32.toInt (show σ45 2 1 = (σ 2 1) from (f48 1 (by decide))))
  rcases h45 with h59 | h60
  · obtain ⟨q65, k61, k62, k63, k64⟩ := h59
    have q65 := q65.symm
    subst q65
    refine lv_pop hx hb dL_law_968 rfl ?_
    refine lv_aload_n hx hb dL_law_969 rfl (lv_at hl 1 rfl) ?_
    have I66 : jI101 σ45 := jI101_fr (congrFun (f47 55 (by decide)) 4) (congrFun (f47 55 (by decide)) 5) (f47 56 (by decide)) (f47 57 (by decide)) (f47 58 (by decide)) (f47 59 (by decide)) hI101
    have z67 : (σ45 55 5).toInt = (σ 55 5).toInt := (congrArg Int32.toInt (show σ45 55 5 = (σ 55 5) from (congrFun (f47 55 (by decide)) 5)))
    refine jcallV (As := []) (rest := []) ⟨hx, hb, hml, hown, hts⟩ hK hP hA hS hZ (c_X12_undo l D cI cL ad zz hJ σ45 τ I66) cw_RL_124 (jc_55 cI cL ad σ45 τ) rfl ⟨Nat.le_of_ble_eq_true rfl, Nat.le_of_ble_eq_true rfl⟩ rfl rfl rfl hl.1 rfl (Nat.le_of_ble_eq_true rfl) dL_law_970 ⟨Nat.le_of_ble_eq_true rfl, Nat.le_of_ble_eq_true rfl⟩ (fun r69 σ68 τ68 H locs h68 hP hS => ?_)
    obtain ⟨rfl, f70, f71, I72, h68⟩ := h68
    obtain ⟨i74, i75, i76, w77, w78, w79, w80⟩ : (0 ≤ (σ68 55 5).toInt) ∧ ((σ68 55 5).toInt ≤ (σ68 55 4).toInt) ∧ ((σ68 55 4).toInt ≤ 40) ∧ (∀ k : Nat, k < 68 → (-200) ≤ (σ68 56 k).toInt ∧ (σ68 56 k).toInt ≤ 500) ∧ (∀ k : Nat, k < 40 → 0 ≤ (σ68 57 k).toInt ∧ (σ68 57 k).toInt ≤ 67) ∧ (∀ k : Nat, k < 40 → (-200) ≤ (σ68 58 k).toInt ∧ (σ68 58 k).toInt ≤ 500) ∧ (∀ k : Nat, k < 40 → (-200) ≤ (σ68 59 k).toInt ∧ (σ68 59 k).toInt ≤ 500) := id I72
    have z81 : (σ68 55 4).toInt = (σ 55 4).toInt := (congrArg Int32.toInt (show σ68 55 4 = (σ 55 4) from ((f71 4 (by decide)).trans (congrFun (f47 55 (by decide)) 4))))
    rcases h68 with h82 | h83
    · obtain ⟨q87, k84, k85, k86⟩ := h82
      have q87 := q87.symm
      subst q87
      refine lv_pop hx hb dL_law_973 rfl ?_
      refine lv_goto (tgt := 1357) hx hb dL_law_974 (by decide) ?_
      obtain ⟨x88, ex88⟩ : ∃ y : Int32, y = x0 + 6 := ⟨_, rfl⟩
      have tx88 : x88.toInt = x0.toInt + 6 := (jadd ex88 rfl jz_6 (by omega) (by omega)).trans (by omega)
      refine lv_iinc (v := x88) (lv' := [(3, .int x88), (2, .ref (ad 55)), (1, .ref (ad 0)), (0, .ref b)]) hx hb dL_law_1357 hl (k := 0) rfl (by rw [ex88]; rfl) (by decide) rfl (fun ls hl => ?_)
      refine lv_goto (tgt := 18) hx hb dL_law_1360 (by decide) ?_
      have I89 : jI2 σ68 := jI2_fr (congrFun (f70 2 (by decide)) 0) (congrFun (f70 2 (by decide)) 1) (congrFun (f70 2 (by decide)) 2) (congrFun (f70 2 (by decide)) 3) (f70 6 (by decide)) I49
      have I90 : jI9 σ68 := jI9_fr ((congrFun (f70 9 (by decide)) 0).trans (congrFun (f47 9 (by decide)) 0)) ((f70 10 (by decide)).trans (f47 10 (by decide))) ((f70 11 (by decide)).trans (f47 11 (by decide))) hI9
      have I91 : jI12 σ68 := jI12_fr ((congrFun (f70 12 (by decide)) 0).trans (congrFun (f47 12 (by decide)) 0)) ((f70 13 (by decide)).trans (f47 13 (by decide))) hI12
      have I92 : jI16 σ68 := jI16_fr ((congrFun (f70 16 (by decide)) 0).trans (congrFun (f47 16 (by decide)) 0)) ((congrFun (f70 16 (by decide)) 1).trans (congrFun (f47 16 (by decide)) 1)) ((congrFun (f70 16 (by decide)) 2).trans (congrFun (f47 16 (by decide)) 2)) ((f70 17 (by decide)).trans (f47 17 (by decide))) hI16
      have I93 : jI18 σ68 := jI18_fr ((congrFun (f70 18 (by decide)) 0).trans (congrFun (f47 18 (by decide)) 0)) ((f70 19 (by decide)).trans (f47 19 (by decide))) hI18
      have I94 : jI22 σ68 := jI22_fr ((congrFun (f70 22 (by decide)) 0).trans (congrFun (f47 22 (by decide)) 0)) ((f70 23 (by decide)).trans (f47 23 (by decide))) hI22
      have I95 : jI31 σ68 := jI31_fr ((congrFun (f70 31 (by decide)) 8).trans (congrFun (f47 31 (by decide)) 8)) ((f70 33 (by decide)).trans (f47 33 (by decide))) ((f70 36 (by decide)).trans (f47 36 (by decide))) hI31
      have I96 : jI38 σ68 := jI38_fr ((congrFun (f70 38 (by decide)) 0).trans (congrFun (f47 38 (by decide)) 0)) ((congrFun (f70 38 (by decide)) 1).trans (congrFun (f47 38 (by decide)) 1)) ((f70 39 (by decide)).trans (f47 39 (by decide))) hI38
      have I97 : jI43 σ68 := jI43_fr ((congrFun (f70 43 (by decide)) 8).trans (congrFun (f47 43 (by decide)) 8)) hI43
      have I98 : jI47 σ68 := jI47_fr ((congrFun (f70 47 (by decide)) 0).trans (congrFun (f47 47 (by decide)) 0)) ((f70 48 (by decide)).trans (f47 48 (by decide))) ((f70 49 (by decide)).trans (f47 49 (by decide))) hI47
      have I99 : jI50 σ68 := jI50_fr ((f70 52 (by decide)).trans (f47 52 (by decide))) hI50
      have I100 : jI102 σ68 := jI102_fr ((f71 6 (by decide)).trans (congrFun (f47 55 (by decide)) 6)) ((f70 60 (by decide)).trans (f47 60 (by decide))) ((f70 61 (by decide)).trans (f47 61 (by decide))) hI102
      have I101 : jI103 σ68 := jI103_fr ((f71 9 (by decide)).trans (congrFun (f47 55 (by decide)) 9)) hI103
      have I102 : jI104 σ68 := jI104_fr ((f71 10 (by decide)).trans (congrFun (f47 55 (by decide)) 10)) ((f71 12 (by decide)).trans (congrFun (f47 55 (by decide)) 12)) ((f71 13 (by decide)).trans (congrFun (f47 55 (by decide)) 13)) ((f70 62 (by decide)).trans (f47 62 (by decide))) ((f70 67 (by decide)).trans (f47 67 (by decide))) hI104
      have I103 : jI105 σ68 := jI105_fr ((f71 15 (by decide)).trans (congrFun (f47 55 (by decide)) 15)) ((f70 65 (by decide)).trans (f47 65 (by decide))) hI105
      have I104 : jI106 σ68 := jI106_fr ((f71 32 (by decide)).trans (congrFun (f47 55 (by decide)) 32)) ((f70 70 (by decide)).trans (f47 70 (by decide))) ((f70 71 (by decide)).trans (f47 71 (by decide))) ((f70 72 (by decide)).trans (f47 72 (by decide))) hI106
      have I105 : jI107 σ68 := jI107_fr ((f71 12 (by decide)).trans (congrFun (f47 55 (by decide)) 12)) ((f71 47 (by decide)).trans (congrFun (f47 55 (by decide)) 47)) ((f70 80 (by decide)).trans (f47 80 (by decide))) hI107
      have I106 : jI109 σ68 := jI109_fr ((f71 50 (by decide)).trans (congrFun (f47 55 (by decide)) 50)) hI109
      have I107 : jI110 σ68 := jI110_fr ((f70 86 (by decide)).trans (f47 86 (by decide))) ((f70 87 (by decide)).trans (f47 87 (by decide))) hI110
      have I108 : jI111 σ68 := jI111_fr ((f70 79 (by decide)).trans (f47 79 (by decide))) hI111
      have I109 : jI119 σ68 := jI119_fr ((f70 68 (by decide)).trans (f47 68 (by decide))) hI119
      have p110 : jKept σ68 := jKept.fr ((f70 75 (by decide)).trans (f47 75 (by decide))) ((f70 76 (by decide)).trans (f47 76 (by decide))) ((f70 77 (by decide)).trans (f47 77 (by decide))) hs_jKept
      have p111 : jBook σ68 := jBook.fr ((f71 47 (by decide)).trans (congrFun (f47 55 (by decide)) 47)) ((f71 10 (by decide)).trans (congrFun (f47 55 (by decide)) 10)) ((f70 81 (by decide)).trans (f47 81 (by decide))) hs_jBook
      have z112 : (σ68 2 0).toInt = (σ 2 0).toInt := (congrArg Int32.toInt (show σ68 2 0 = (σ 2 0) from ((congrFun (f70 2 (by decide)) 0).trans (f48 0 (by decide)))))
      have z113 : (σ68 55 6).toInt = (σ 55 6).toInt := (congrArg Int32.toInt (show σ68 55 6 = (σ 55 6) from ((f71 6 (by decide)).trans (congrFun (f47 55 (by decide)) 6))))
      have z114 : (σ68 2 2).toInt = (σ45 2 2).toInt := (congrArg Int32.toInt (show σ68 2 2 = (σ45 2 2) from (congrFun (f70 2 (by decide)) 2)))
      have z115 : (σ68 2 3).toInt = (σ45 2 3).toInt := (congrArg Int32.toInt (show σ68 2 3 = (σ45 2 3) from (congrFun (f70 2 (by decide)) 3)))
      have z116 : (σ68 9 0).toInt = (σ 9 0).toInt := (congrArg Int32.toInt (show σ68 9 0 = (σ 9 0) from ((congrFun (f70 9 (by decide)) 0).trans (congrFun (f47 9 (by decide)) 0))))
      have z117 : (σ68 55 15).toInt = (σ 55 15).toInt := (congrArg Int32.toInt (show σ68 55 15 = (σ 55 15) from ((f71 15 (by decide)).trans (congrFun (f47 55 (by decide)) 15))))
      have z118 : (σ68 16 0).toInt = (σ 16 0).toInt := (congrArg Int32.toInt (show σ68 16 0 = (σ 16 0) from ((congrFun (f70 16 (by decide)) 0).trans (congrFun (f47 16 (by decide)) 0))))
      have z119 : (σ68 55 10).toInt = (σ 55 10).toInt := (congrArg Int32.toInt (show σ68 55 10 = (σ 55 10) from ((f71 10 (by decide)).trans (congrFun (f47 55 (by decide)) 10))))
      have z120 : (σ68 16 1).toInt = (σ 16 1).toInt := (congrArg Int32.toInt (show σ68 16 1 = (σ 16 1) from ((congrFun (f70 16 (by decide)) 1).trans (congrFun (f47 16 (by decide)) 1))))
      have z121 : (σ68 55 12).toInt = (σ 55 12).toInt := (congrArg Int32.toInt (show σ68 55 12 = (σ 55 12) from ((f71 12 (by decide)).trans (congrFun (f47 55 (by decide)) 12))))
      have z122 : (σ68 16 2).toInt = (σ 16 2).toInt := (congrArg Int32.toInt (show σ68 16 2 = (σ 16 2) from ((congrFun (f70 16 (by decide)) 2).trans (congrFun (f47 16 (by decide)) 2))))
      have z123 : (σ68 55 13).toInt = (σ 55 13).toInt := (congrArg Int32.toInt (show σ68 55 13 = (σ 55 13) from ((f71 13 (by decide)).trans (congrFun (f47 55 (by decide)) 13))))
      have z124 : (σ68 38 0).toInt = (σ 38 0).toInt := (congrArg Int32.toInt (show σ68 38 0 = (σ 38 0) from ((congrFun (f70 38 (by decide)) 0).trans (congrFun (f47 38 (by decide)) 0))))
      have z125 : (σ68 55 32).toInt = (σ 55 32).toInt := (congrArg Int32.toInt (show σ68 55 32 = (σ 55 32) from ((f71 32 (by decide)).trans (congrFun (f47 55 (by decide)) 32))))
      have z126 : (σ68 47 0).toInt = (σ 47 0).toInt := (congrArg Int32.toInt (show σ68 47 0 = (σ 47 0) from ((congrFun (f70 47 (by decide)) 0).trans (congrFun (f47 47 (by decide)) 0))))
      have z127 : (σ68 55 47).toInt = (σ 55 47).toInt := (congrArg Int32.toInt (show σ68 55 47 = (σ 55 47) from ((f71 47 (by decide)).trans (congrFun (f47 55 (by decide)) 47))))
      have z128 : (σ68 55 30).toInt = (σ 55 30).toInt := (congrArg Int32.toInt (show σ68 55 30 = (σ 55 30) from ((f71 30 (by decide)).trans (congrFun (f47 55 (by decide)) 30))))
      have z129 : (σ68 55 31).toInt = (σ 55 31).toInt := (congrArg Int32.toInt (show σ68 55 31 = (σ 55 31) from ((f71 31 (by decide)).trans (congrFun (f47 55 (by decide)) 31))))
      exact ih x88 σ68 τ _ _ ls (by have h9 := tx88; omega) ⟨I89, I90, I91, I92, I93, I94, I95, I96, I97, I98, I99, I72, I100, I101, I102, I103, I104, I105, I106, I107, I108, I109, p110, p111, (by omega), (by omega), (by omega), (by omega), (by omega), (by omega), (by omega), (by omega), (by omega), (by omega), (by omega), (show jNumP (σ68 3) (σ68 56) (σ68 6) (σ68 57) (σ68 7) (σ68 58) (σ68 8) (σ68 59) (σ68 55 6).toInt (σ68 55 4).toInt by rw [show σ68 3 = σ 3 from ((f70 3 (by decide)).trans k64), show σ68 56 = σ 56 from (k86.trans (f47 56 (by decide))), show σ68 6 = σ 6 from ((f70 6 (by decide)).trans (f47 6 (by decide))), show σ68 57 = σ 57 from ((f70 57 (by decide)).trans (f47 57 (by decide))), show σ68 7 = σ 7 from ((f70 7 (by decide)).trans (f47 7 (by decide))), show σ68 58 = σ 58 from ((f70 58 (by decide)).trans (f47 58 (by decide))), show σ68 8 = σ 8 from ((f70 8 (by decide)).trans (f47 8 (by decide))), show σ68 59 = σ 59 from ((f70 59 (by decide)).trans (f47 59 (by decide))), show (σ68 55 6).toInt = (σ 55 6).toInt from by omega, show (σ68 55 4).toInt = (σ 55 4).toInt from by omega]; exact hr0), (show jOvP (σ68 56) (σ68 57) (σ68 58) (σ68 59) (σ68 55 4).toInt by rw [show σ68 56 = σ 56 from (k86.trans (f47 56 (by decide))), show σ68 57 = σ 57 from ((f70 57 (by decide)).trans (f47 57 (by decide))), show σ68 58 = σ 58 from ((f70 58 (by decide)).trans (f47 58 (by decide))), show σ68 59 = σ 59 from ((f70 59 (by decide)).trans (f47 59 (by decide))), show (σ68 55 4).toInt = (σ 55 4).toInt from by omega]; exact hr1), (show jTp (σ68 10) (σ68 63) (σ68 55 15).toInt by rw [show σ68 10 = σ 10 from ((f70 10 (by decide)).trans (f47 10 (by decide))), show σ68 63 = σ 63 from ((f70 63 (by decide)).trans (f47 63 (by decide)))]; exact hr2.le (by omega)), (show jSo (σ68 17) (σ68 62) (σ68 16 0).toInt by rw [show σ68 17 = σ 17 from ((f70 17 (by decide)).trans (f47 17 (by decide))), show σ68 62 = σ 62 from ((f70 62 (by decide)).trans (f47 62 (by decide))), show (σ68 16 0).toInt = (σ 16 0).toInt from by omega]; exact hr3), (show jShP (σ68 51) (σ68 52) (σ68 53) (σ68 86) (σ68 87) (σ68 55 32).toInt by rw [show σ68 51 = σ 51 from ((f70 51 (by decide)).trans (f47 51 (by decide))), show σ68 52 = σ 52 from ((f70 52 (by decide)).trans (f47 52 (by decide))), show σ68 53 = σ 53 from ((f70 53 (by decide)).trans (f47 53 (by decide))), show σ68 86 = σ 86 from ((f70 86 (by decide)).trans (f47 86 (by decide))), show σ68 87 = σ 87 from ((f70 87 (by decide)).trans (f47 87 (by decide)))]; exact (hr4.up (by omega) (by omega))), (show jEl (σ68 51) (σ68 52) (τ 54) (τ 88) by rw [show σ68 51 = σ 51 from ((f70 51 (by decide)).trans (f47 51 (by decide))), show σ68 52 = σ 52 from ((f70 52 (by decide)).trans (f47 52 (by decide)))]; exact hr5), (show jByP (σ68 51) (σ68 52) (τ 54) by rw [show σ68 51 = σ 51 from ((f70 51 (by decide)).trans (f47 51 (by decide))), show σ68 52 = σ 52 from ((f70 52 (by decide)).trans (f47 52 (by decide)))]; exact hr6), (show jBk (σ68 48) (σ68 80) (σ68 49) (σ68 81) (σ68 55 47).toInt by rw [show σ68 48 = σ 48 from ((f70 48 (by decide)).trans (f47 48 (by decide))), show σ68 49 = σ 49 from ((f70 49 (by decide)).trans (f47 49 (by decide))), show σ68 80 = σ 80 from ((f70 80 (by decide)).trans (f47 80 (by decide))), show σ68 81 = σ 81 from ((f70 81 (by decide)).trans (f47 81 (by decide))), show (σ68 55 47).toInt = (σ 55 47).toInt from by omega]; exact hr7)⟩ hP hS (lv_sub hl [0, 1, 2, 3] rfl)
    · obtain ⟨q136, k131, k132, k133, k134, k135⟩ := h83
      exact absurd (by omega : False) id
  · obtain ⟨q143, k137, k138, k139, k140, k141, k142⟩ := h60
    refine lv_pop hx hb dL_law_968 rfl ?_
    refine lv_aload_n hx hb dL_law_969 rfl (lv_at hl 1 rfl) ?_
    have I144 : jI101 σ45 := jI101_fr (congrFun (f47 55 (by decide)) 4) (congrFun (f47 55 (by decide)) 5) (f47 56 (by decide)) (f47 57 (by decide)) (f47 58 (by decide)) (f47 59 (by decide)) hI101
    have z145 : (σ45 55 5).toInt = (σ 55 5).toInt := (congrArg Int32.toInt (show σ45 55 5 = (σ 55 5) from (congrFun (f47 55 (by decide)) 5)))
    refine jcallV (As := []) (rest := []) ⟨hx, hb, hml, hown, hts⟩ hK hP hA hS hZ (c_X12_undo l D cI cL ad zz hJ σ45 τ I144) cw_RL_124 (jc_55 cI cL ad σ45 τ) rfl ⟨Nat.le_of_ble_eq_true rfl, Nat.le_of_ble_eq_true rfl⟩ rfl rfl rfl hl.1 rfl (Nat.le_of_ble_eq_true rfl) dL_law_970 ⟨Nat.le_of_ble_eq_true rfl, Nat.le_of_ble_eq_true rfl⟩ (fun r147 σ146 τ146 H locs h146 hP hS => ?_)
    obtain ⟨rfl, f148, f149, I150, h146⟩ := h146
    obtain ⟨i152, i153, i154, w155, w156, w157, w158⟩ : (0 ≤ (σ146 55 5).toInt) ∧ ((σ146 55 5).toInt ≤ (σ146 55 4).toInt) ∧ ((σ146 55 4).toInt ≤ 40) ∧ (∀ k : Nat, k < 68 → (-200) ≤ (σ146 56 k).toInt ∧ (σ146 56 k).toInt ≤ 500) ∧ (∀ k : Nat, k < 40 → 0 ≤ (σ146 57 k).toInt ∧ (σ146 57 k).toInt ≤ 67) ∧ (∀ k : Nat, k < 40 → (-200) ≤ (σ146 58 k).toInt ∧ (σ146 58 k).toInt ≤ 500) ∧ (∀ k : Nat, k < 40 → (-200) ≤ (σ146 59 k).toInt ∧ (σ146 59 k).toInt ≤ 500) := id I150
    have z159 : (σ146 55 4).toInt = (σ 55 4).toInt := (congrArg Int32.toInt (show σ146 55 4 = (σ 55 4) from ((f149 4 (by decide)).trans (congrFun (f47 55 (by decide)) 4))))
    rcases h146 with h160 | h161
    · obtain ⟨q165, k162, k163, k164⟩ := h160
      exact absurd (by omega : False) id
    · obtain ⟨q171, k166, k167, k168, k169, k170⟩ := h161
      refine lv_pop hx hb dL_law_973 rfl ?_
      refine lv_goto (tgt := 1357) hx hb dL_law_974 (by decide) ?_
      obtain ⟨x172, ex172⟩ : ∃ y : Int32, y = x0 + 6 := ⟨_, rfl⟩
      have tx172 : x172.toInt = x0.toInt + 6 := (jadd ex172 rfl jz_6 (by omega) (by omega)).trans (by omega)
      refine lv_iinc (v := x172) (lv' := [(3, .int x172), (2, .ref (ad 55)), (1, .ref (ad 0)), (0, .ref b)]) hx hb dL_law_1357 hl (k := 0) rfl (by rw [ex172]; rfl) (by decide) rfl (fun ls hl => ?_)
      refine lv_goto (tgt := 18) hx hb dL_law_1360 (by decide) ?_
      have I173 : jI2 σ146 := jI2_fr (congrFun (f148 2 (by decide)) 0) (congrFun (f148 2 (by decide)) 1) (congrFun (f148 2 (by decide)) 2) (congrFun (f148 2 (by decide)) 3) (f148 6 (by decide)) I49
      have I174 : jI9 σ146 := jI9_fr ((congrFun (f148 9 (by decide)) 0).trans (congrFun (f47 9 (by decide)) 0)) ((f148 10 (by decide)).trans (f47 10 (by decide))) ((f148 11 (by decide)).trans (f47 11 (by decide))) hI9
      have I175 : jI12 σ146 := jI12_fr ((congrFun (f148 12 (by decide)) 0).trans (congrFun (f47 12 (by decide)) 0)) ((f148 13 (by decide)).trans (f47 13 (by decide))) hI12
      have I176 : jI16 σ146 := jI16_fr ((congrFun (f148 16 (by decide)) 0).trans (congrFun (f47 16 (by decide)) 0)) ((congrFun (f148 16 (by decide)) 1).trans (congrFun (f47 16 (by decide)) 1)) ((congrFun (f148 16 (by decide)) 2).trans (congrFun (f47 16 (by decide)) 2)) ((f148 17 (by decide)).trans (f47 17 (by decide))) hI16
      have I177 : jI18 σ146 := jI18_fr ((congrFun (f148 18 (by decide)) 0).trans (congrFun (f47 18 (by decide)) 0)) ((f148 19 (by decide)).trans (f47 19 (by decide))) hI18
      have I178 : jI22 σ146 := jI22_fr ((congrFun (f148 22 (by decide)) 0).trans (congrFun (f47 22 (by decide)) 0)) ((f148 23 (by decide)).trans (f47 23 (by decide))) hI22
      have I179 : jI31 σ146 := jI31_fr ((congrFun (f148 31 (by decide)) 8).trans (congrFun (f47 31 (by decide)) 8)) ((f148 33 (by decide)).trans (f47 33 (by decide))) ((f148 36 (by decide)).trans (f47 36 (by decide))) hI31
      have I180 : jI38 σ146 := jI38_fr ((congrFun (f148 38 (by decide)) 0).trans (congrFun (f47 38 (by decide)) 0)) ((congrFun (f148 38 (by decide)) 1).trans (congrFun (f47 38 (by decide)) 1)) ((f148 39 (by decide)).trans (f47 39 (by decide))) hI38
      have I181 : jI43 σ146 := jI43_fr ((congrFun (f148 43 (by decide)) 8).trans (congrFun (f47 43 (by decide)) 8)) hI43
      have I182 : jI47 σ146 := jI47_fr ((congrFun (f148 47 (by decide)) 0).trans (congrFun (f47 47 (by decide)) 0)) ((f148 48 (by decide)).trans (f47 48 (by decide))) ((f148 49 (by decide)).trans (f47 49 (by decide))) hI47
      have I183 : jI50 σ146 := jI50_fr ((f148 52 (by decide)).trans (f47 52 (by decide))) hI50
      have I184 : jI102 σ146 := jI102_fr ((f149 6 (by decide)).trans (congrFun (f47 55 (by decide)) 6)) ((f148 60 (by decide)).trans (f47 60 (by decide))) ((f148 61 (by decide)).trans (f47 61 (by decide))) hI102
      have I185 : jI103 σ146 := jI103_fr ((f149 9 (by decide)).trans (congrFun (f47 55 (by decide)) 9)) hI103
      have I186 : jI104 σ146 := jI104_fr ((f149 10 (by decide)).trans (congrFun (f47 55 (by decide)) 10)) ((f149 12 (by decide)).trans (congrFun (f47 55 (by decide)) 12)) ((f149 13 (by decide)).trans (congrFun (f47 55 (by decide)) 13)) ((f148 62 (by decide)).trans (f47 62 (by decide))) ((f148 67 (by decide)).trans (f47 67 (by decide))) hI104
      have I187 : jI105 σ146 := jI105_fr ((f149 15 (by decide)).trans (congrFun (f47 55 (by decide)) 15)) ((f148 65 (by decide)).trans (f47 65 (by decide))) hI105
      have I188 : jI106 σ146 := jI106_fr ((f149 32 (by decide)).trans (congrFun (f47 55 (by decide)) 32)) ((f148 70 (by decide)).trans (f47 70 (by decide))) ((f148 71 (by decide)).trans (f47 71 (by decide))) ((f148 72 (by decide)).trans (f47 72 (by decide))) hI106
      have I189 : jI107 σ146 := jI107_fr ((f149 12 (by decide)).trans (congrFun (f47 55 (by decide)) 12)) ((f149 47 (by decide)).trans (congrFun (f47 55 (by decide)) 47)) ((f148 80 (by decide)).trans (f47 80 (by decide))) hI107
      have I190 : jI109 σ146 := jI109_fr ((f149 50 (by decide)).trans (congrFun (f47 55 (by decide)) 50)) hI109
      have I191 : jI110 σ146 := jI110_fr ((f148 86 (by decide)).trans (f47 86 (by decide))) ((f148 87 (by decide)).trans (f47 87 (by decide))) hI110
      have I192 : jI111 σ146 := jI111_fr ((f148 79 (by decide)).trans (f47 79 (by decide))) hI111
      have I193 : jI119 σ146 := jI119_fr ((f148 68 (by decide)).trans (f47 68 (by decide))) hI119
      have p194 : jKept σ146 := jKept.fr ((f148 75 (by decide)).trans (f47 75 (by decide))) ((f148 76 (by decide)).trans (f47 76 (by decide))) ((f148 77 (by decide)).trans (f47 77 (by decide))) hs_jKept
      have p195 : jBook σ146 := jBook.fr ((f149 47 (by decide)).trans (congrFun (f47 55 (by decide)) 47)) ((f149 10 (by decide)).trans (congrFun (f47 55 (by decide)) 10)) ((f148 81 (by decide)).trans (f47 81 (by decide))) hs_jBook
      have z196 : (σ146 2 0).toInt = (σ 2 0).toInt := (congrArg Int32.toInt (show σ146 2 0 = (σ 2 0) from ((congrFun (f148 2 (by decide)) 0).trans (f48 0 (by decide)))))
      have z197 : (σ146 55 6).toInt = (σ 55 6).toInt := (congrArg Int32.toInt (show σ146 55 6 = (σ 55 6) from ((f149 6 (by decide)).trans (congrFun (f47 55 (by decide)) 6))))
      have z198 : (σ146 2 2).toInt = (σ45 2 2).toInt := (congrArg Int32.toInt (show σ146 2 2 = (σ45 2 2) from (congrFun (f148 2 (by decide)) 2)))
      have z199 : (σ146 2 3).toInt = (σ45 2 3).toInt := (congrArg Int32.toInt (show σ146 2 3 = (σ45 2 3) from (congrFun (f148 2 (by decide)) 3)))
      have z200 : (σ146 9 0).toInt = (σ 9 0).toInt := (congrArg Int32.toInt (show σ146 9 0 = (σ 9 0) from ((congrFun (f148 9 (by decide)) 0).trans (congrFun (f47 9 (by decide)) 0))))
      have z201 : (σ146 55 15).toInt = (σ 55 15).toInt := (congrArg Int32.toInt (show σ146 55 15 = (σ 55 15) from ((f149 15 (by decide)).trans (congrFun (f47 55 (by decide)) 15))))
      have z202 : (σ146 16 0).toInt = (σ 16 0).toInt := (congrArg Int32.toInt (show σ146 16 0 = (σ 16 0) from ((congrFun (f148 16 (by decide)) 0).trans (congrFun (f47 16 (by decide)) 0))))
      have z203 : (σ146 55 10).toInt = (σ 55 10).toInt := (congrArg Int32.toInt (show σ146 55 10 = (σ 55 10) from ((f149 10 (by decide)).trans (congrFun (f47 55 (by decide)) 10))))
      have z204 : (σ146 16 1).toInt = (σ 16 1).toInt := (congrArg Int32.toInt (show σ146 16 1 = (σ 16 1) from ((congrFun (f148 16 (by decide)) 1).trans (congrFun (f47 16 (by decide)) 1))))
      have z205 : (σ146 55 12).toInt = (σ 55 12).toInt := (congrArg Int32.toInt (show σ146 55 12 = (σ 55 12) from ((f149 12 (by decide)).trans (congrFun (f47 55 (by decide)) 12))))
      have z206 : (σ146 16 2).toInt = (σ 16 2).toInt := (congrArg Int32.toInt (show σ146 16 2 = (σ 16 2) from ((congrFun (f148 16 (by decide)) 2).trans (congrFun (f47 16 (by decide)) 2))))
      have z207 : (σ146 55 13).toInt = (σ 55 13).toInt := (congrArg Int32.toInt (show σ146 55 13 = (σ 55 13) from ((f149 13 (by decide)).trans (congrFun (f47 55 (by decide)) 13))))
      have z208 : (σ146 38 0).toInt = (σ 38 0).toInt := (congrArg Int32.toInt (show σ146 38 0 = (σ 38 0) from ((congrFun (f148 38 (by decide)) 0).trans (congrFun (f47 38 (by decide)) 0))))
      have z209 : (σ146 55 32).toInt = (σ 55 32).toInt := (congrArg Int32.toInt (show σ146 55 32 = (σ 55 32) from ((f149 32 (by decide)).trans (congrFun (f47 55 (by decide)) 32))))
      have z210 : (σ146 47 0).toInt = (σ 47 0).toInt := (congrArg Int32.toInt (show σ146 47 0 = (σ 47 0) from ((congrFun (f148 47 (by decide)) 0).trans (congrFun (f47 47 (by decide)) 0))))
      have z211 : (σ146 55 47).toInt = (σ 55 47).toInt := (congrArg Int32.toInt (show σ146 55 47 = (σ 55 47) from ((f149 47 (by decide)).trans (congrFun (f47 55 (by decide)) 47))))
      have z212 : (σ146 55 30).toInt = (σ 55 30).toInt := (congrArg Int32.toInt (show σ146 55 30 = (σ 55 30) from ((f149 30 (by decide)).trans (congrFun (f47 55 (by decide)) 30))))
      have z213 : (σ146 55 31).toInt = (σ 55 31).toInt := (congrArg Int32.toInt (show σ146 55 31 = (σ 55 31) from ((f149 31 (by decide)).trans (congrFun (f47 55 (by decide)) 31))))
      rw [show r46.toInt = ((σ 55 5).toInt - 1) from by omega] at k142
      rw [show r147.toInt = ((σ 55 5).toInt - 1) from by omega, show σ45 56 = σ 56 from (f47 56 (by decide)), show σ45 57 = σ 57 from (f47 57 (by decide)), show σ45 58 = σ 58 from (f47 58 (by decide))] at k170
      have p214 := hr0.back (by omega) (by omega) k142 k170
      exact ih x172 σ146 τ _ _ ls (by have h9 := tx172; omega) ⟨I173, I174, I175, I176, I177, I178, I179, I180, I181, I182, I183, I150, I184, I185, I186, I187, I188, I189, I190, I191, I192, I193, p194, p195, (by omega), (by omega), (by omega), (by omega), (by omega), (by omega), (by omega), (by omega), (by omega), (by omega), (by omega), (show jNumP (σ146 3) (σ146 56) (σ146 6) (σ146 57) (σ146 7) (σ146 58) (σ146 8) (σ146 59) (σ146 55 6).toInt (σ146 55 4).toInt by rw [show σ146 3 = σ45 3 from (f148 3 (by decide)), show σ146 6 = σ 6 from ((f148 6 (by decide)).trans (f47 6 (by decide))), show σ146 57 = σ 57 from ((f148 57 (by decide)).trans (f47 57 (by decide))), show σ146 7 = σ 7 from ((f148 7 (by decide)).trans (f47 7 (by decide))), show σ146 58 = σ 58 from ((f148 58 (by decide)).trans (f47 58 (by decide))), show σ146 8 = σ 8 from ((f148 8 (by decide)).trans (f47 8 (by decide))), show σ146 59 = σ 59 from ((f148 59 (by decide)).trans (f47 59 (by decide))), show (σ146 55 6).toInt = (σ 55 6).toInt from by omega, show (σ146 55 4).toInt = (σ 55 4).toInt from by omega]; exact p214), (show jOvP (σ146 56) (σ146 57) (σ146 58) (σ146 59) (σ146 55 4).toInt by rw [show σ146 57 = σ 57 from ((f148 57 (by decide)).trans (f47 57 (by decide))), show σ146 58 = σ 58 from ((f148 58 (by decide)).trans (f47 58 (by decide))), show σ146 59 = σ 59 from ((f148 59 (by decide)).trans (f47 59 (by decide))), show (σ146 55 4).toInt = (σ 55 4).toInt from by omega]; exact (hr1.back (by omega) (by omega) ((hr0.2.2 (((σ 55 5).toInt - 1)).toNat (by omega)).2.1.1) k170)), (show jTp (σ146 10) (σ146 63) (σ146 55 15).toInt by rw [show σ146 10 = σ 10 from ((f148 10 (by decide)).trans (f47 10 (by decide))), show σ146 63 = σ 63 from ((f148 63 (by decide)).trans (f47 63 (by decide)))]; exact hr2.le (by omega)), (show jSo (σ146 17) (σ146 62) (σ146 16 0).toInt by rw [show σ146 17 = σ 17 from ((f148 17 (by decide)).trans (f47 17 (by decide))), show σ146 62 = σ 62 from ((f148 62 (by decide)).trans (f47 62 (by decide))), show (σ146 16 0).toInt = (σ 16 0).toInt from by omega]; exact hr3), (show jShP (σ146 51) (σ146 52) (σ146 53) (σ146 86) (σ146 87) (σ146 55 32).toInt by rw [show σ146 51 = σ 51 from ((f148 51 (by decide)).trans (f47 51 (by decide))), show σ146 52 = σ 52 from ((f148 52 (by decide)).trans (f47 52 (by decide))), show σ146 53 = σ 53 from ((f148 53 (by decide)).trans (f47 53 (by decide))), show σ146 86 = σ 86 from ((f148 86 (by decide)).trans (f47 86 (by decide))), show σ146 87 = σ 87 from ((f148 87 (by decide)).trans (f47 87 (by decide)))]; exact (hr4.up (by omega) (by omega))), (show jEl (σ146 51) (σ146 52) (τ 54) (τ 88) by rw [show σ146 51 = σ 51 from ((f148 51 (by decide)).trans (f47 51 (by decide))), show σ146 52 = σ 52 from ((f148 52 (by decide)).trans (f47 52 (by decide)))]; exact hr5), (show jByP (σ146 51) (σ146 52) (τ 54) by rw [show σ146 51 = σ 51 from ((f148 51 (by decide)).trans (f47 51 (by decide))), show σ146 52 = σ 52 from ((f148 52 (by decide)).trans (f47 52 (by decide)))]; exact hr6), (show jBk (σ146 48) (σ146 80) (σ146 49) (σ146 81) (σ146 55 47).toInt by rw [show σ146 48 = σ 48 from ((f148 48 (by decide)).trans (f47 48 (by decide))), show σ146 49 = σ 49 from ((f148 49 (by decide)).trans (f47 49 (by decide))), show σ146 80 = σ 80 from ((f148 80 (by decide)).trans (f47 80 (by decide))), show σ146 81 = σ 81 from ((f148 81 (by decide)).trans (f47 81 (by decide))), show (σ146 55 47).toInt = (σ 55 47).toInt from by omega]; exact hr7)⟩ hP hS (lv_sub hl [0, 1, 2, 3] rfl)
set_option maxHeartbeats 4000000 in
set_option maxRecDepth 100000 in
theorem law_case_27 {p : Program} {e : Env} {s : State} {m : MethodId} {below : List Frame} {meth : Method} {c : Code} (l : Launch) {b L : Nat} {xs : Nat → Int32} {D : va_G} {cI cL : ClassId} {ad zz : Nat → Nat} (C0 : lw_At p s m meth c b L xs) (hJ : jD ad) (hA : ∀ q, jA ad q → s.heap.size ≤ q) (hK : jK D cI cL s) (hZ : jZ zz (fun q : Nat => s.heap.size ≤ q) s s.heap) {x0 : Int32} (hx0 : 0 ≤ x0.toInt) (hxL : x0.toInt + 6 ≤ (L : Int)) (hL : L ≤ 384) {σ : Nat → Nat → Int32} {τ : Nat → Nat → Int64} {H : Heap} {locs : List Loc} (hS : va_S (fun q : Nat => s.heap.size ≤ q) s.heap H locs) {ls : Array Slot} (hAll : jAll σ τ) (hP : jH D cI cL ad σ τ H) (hl : lv_has ls 4 [(3, .int x0), (2, .ref (ad 55)), (1, .ref (ad 0)), (0, .ref b)]) (ih : ∀ (x1 : Int32) (σ : Nat → Nat → Int32) (τ : Nat → Nat → Int64) (H : Heap) (locs : List Loc) (ls : Array Slot), x1.toInt = x0.toInt + 6 → jAll σ τ → jH D cI cL ad σ τ H → va_S (fun q : Nat => s.heap.size ≤ q) s.heap H locs → lv_has ls 4 [(3, .int x1), (2, .ref (ad 55)), (1, .ref (ad 0)), (0, .ref b)] → W p l e room_1 s m #[Value.ref b] below meth c H locs 90 348600 (lw_Z below #[Value.ref b] s) (F0 m 18 ls [])) : W p l e room_1 s m #[Value.ref b] below meth c H locs 90 348600 (lw_Z below #[Value.ref b] s) (F0 m 977 ls []) := by
  obtain ⟨hx, hb, hr, hml, hown, hts0, hX, hbl, hlocks, hgv⟩ := C0
  have hts : ∀ w ∈ wsL_law, w.before #[Value.ref b] s = true := fun w h => hts0 w (wsL_law_in w h)
  have hbA : ¬ (fun q : Nat => s.heap.size ≤ q) b := Nat.not_le.mpr hbl
  have hown : s.vm.findClass RL = some m.cls := hown
  obtain ⟨hI2, hI9, hI12, hI16, hI18, hI22, hI31, hI38, hI43, hI47, hI50, hI101, hI102, hI103, hI104, hI105, hI106, hI107, hI109, hI110, hI111, hI119, hs_jKept, hs_jBook, ht0, ht1, ht2, ht3, ht4, ht5, ht6, ht7, ht8, ht9, ht10, hr0, hr1, hr2, hr3, hr4, hr5, hr6, hr7⟩ := hAll
  have hL9 : (L : Int) ≤ 384 := by omega
  obtain ⟨i1, i2, i3, i4, i5, w6⟩ : (0 ≤ (σ 2 0).toInt ∧ (σ 2 0).toInt ≤ 4) ∧ (0 ≤ (σ 2 1).toInt ∧ (σ 2 1).toInt ≤ 3) ∧ (0 ≤ (σ 2 2).toInt) ∧ (0 ≤ (σ 2 3).toInt) ∧ ((σ 2 2).toInt + (σ 2 3).toInt ≤ 40) ∧ (∀ k : Nat, k < 40 → 0 ≤ (σ 6 k).toInt ∧ (σ 6 k).toInt ≤ 67) := id hI2
  obtain ⟨i7, w8, w9⟩ : (0 ≤ (σ 9 0).toInt ∧ (σ 9 0).toInt ≤ 80) ∧ (∀ k : Nat, k < 80 → 0 ≤ (σ 10 k).toInt ∧ (σ 10 k).toInt ≤ 255) ∧ (∀ k : Nat, k < 8 → 0 ≤ (σ 11 k).toInt ∧ (σ 11 k).toInt ≤ 3) := id hI9
  obtain ⟨i10, i11, i12, w13⟩ : (1 ≤ (σ 16 0).toInt ∧ (σ 16 0).toInt ≤ 8) ∧ (1 ≤ (σ 16 1).toInt ∧ (σ 16 1).toInt ≤ 12) ∧ (0 ≤ (σ 16 2).toInt ∧ (σ 16 2).toInt ≤ 999) ∧ (∀ k : Nat, k < 8 → 0 ≤ (σ 17 k).toInt ∧ (σ 17 k).toInt ≤ 3) := id hI16
  obtain ⟨i14, i15, w16⟩ : (0 ≤ (σ 38 0).toInt ∧ (σ 38 0).toInt ≤ 20) ∧ (0 ≤ (σ 38 1).toInt ∧ (σ 38 1).toInt ≤ 1000) ∧ (∀ k : Nat, k < 20 → 0 ≤ (σ 39 k).toInt ∧ (σ 39 k).toInt ≤ 6) := id hI38
  obtain ⟨i17, w18, w19⟩ : (0 ≤ (σ 47 0).toInt ∧ (σ 47 0).toInt ≤ 12) ∧ (∀ k : Nat, k < 12 → 0 ≤ (σ 48 k).toInt ∧ (σ 48 k).toInt ≤ 3) ∧ (∀ k : Nat, k < 12 → 0 ≤ (σ 49 k).toInt ∧ (σ 49 k).toInt ≤ 1) := id hI47
  have w20 : ∀ k : Nat, k < 6 → 0 ≤ (σ 52 k).toInt ∧ (σ 52 k).toInt ≤ 60 := hI50
  obtain ⟨i21, i22, i23, w24, w25, w26, w27⟩ : (0 ≤ (σ 55 5).toInt) ∧ ((σ 55 5).toInt ≤ (σ 55 4).toInt) ∧ ((σ 55 4).toInt ≤ 40) ∧ (∀ k : Nat, k < 68 → (-200) ≤ (σ 56 k).toInt ∧ (σ 56 k).toInt ≤ 500) ∧ (∀ k : Nat, k < 40 → 0 ≤ (σ 57 k).toInt ∧ (σ 57 k).toInt ≤ 67) ∧ (∀ k : Nat, k < 40 → (-200) ≤ (σ 58 k).toInt ∧ (σ 58 k).toInt ≤ 500) ∧ (∀ k : Nat, k < 40 → (-200) ≤ (σ 59 k).toInt ∧ (σ 59 k).toInt ≤ 500) := id hI101
  obtain ⟨i28, w29, w30⟩ : (0 ≤ (σ 55 6).toInt ∧ (σ 55 6).toInt ≤ 4) ∧ (∀ k : Nat, k < 4 → 0 ≤ (σ 60 k).toInt ∧ (σ 60 k).toInt ≤ 50) ∧ (∀ k : Nat, k < 4 → 0 ≤ (σ 61 k).toInt ∧ (σ 61 k).toInt ≤ 20) := id hI102
  obtain ⟨i31, i32, i33, w34, w35⟩ : (1 ≤ (σ 55 10).toInt ∧ (σ 55 10).toInt ≤ 8) ∧ (1 ≤ (σ 55 12).toInt ∧ (σ 55 12).toInt ≤ 12) ∧ (0 ≤ (σ 55 13).toInt ∧ (σ 55 13).toInt ≤ 999) ∧ (∀ k : Nat, k < 8 → 0 ≤ (σ 62 k).toInt ∧ (σ 62 k).toInt ≤ 3) ∧ (∀ k : Nat, k < 8 → 0 ≤ (σ 67 k).toInt ∧ (σ 67 k).toInt ≤ 3) := id hI104
  obtain ⟨i36, w37⟩ : (0 ≤ (σ 55 15).toInt ∧ (σ 55 15).toInt ≤ 80) ∧ (∀ k : Nat, k < 2 → (-1) ≤ (σ 65 k).toInt ∧ (σ 65 k).toInt ≤ 80) := id hI105
  obtain ⟨i38, w39, w40, w41⟩ : (0 ≤ (σ 55 32).toInt ∧ (σ 55 32).toInt ≤ 20) ∧ (∀ k : Nat, k < 20 → 0 ≤ (σ 70 k).toInt ∧ (σ 70 k).toInt ≤ 6) ∧ (∀ k : Nat, k < 20 → 0 ≤ (σ 71 k).toInt ∧ (σ 71 k).toInt ≤ 8) ∧ (∀ k : Nat, k < 160 → 0 ≤ (σ 72 k).toInt ∧ (σ 72 k).toInt ≤ 3) := id hI106
  obtain ⟨i42, i43, w44⟩ : (0 ≤ (σ 55 47).toInt ∧ (σ 55 47).toInt ≤ 12) ∧ ((σ 55 47).toInt ≤ (σ 55 12).toInt) ∧ (∀ k : Nat, k < 12 → 0 ≤ (σ 80 k).toInt ∧ (σ 80 k).toInt ≤ 3) := id hI107
  refine lv_aload_n hx hb dL_law_977 rfl (lv_at hl 2 rfl) ?_
  refine jcallV (As := []) (rest := []) ⟨hx, hb, hml, hown, hts⟩ hK hP hA hS hZ (c_X11_redo l D cI cL ad zz hJ σ τ hI2) cw_RL_125 (jc_0 cI cL ad σ τ) rfl ⟨Nat.le_of_ble_eq_true rfl, Nat.le_of_ble_eq_true rfl⟩ rfl rfl rfl hl.1 rfl (Nat.le_of_ble_eq_true rfl) dL_law_978 ⟨Nat.le_of_ble_eq_true rfl, Nat.le_of_ble_eq_true rfl⟩ (fun r46 σ45 τ45 H locs h45 hP hS => ?_)
  obtain ⟨rfl, f47, f48, I49, h45⟩ := h45
  obtain ⟨i51, i52, i53, i54, i55, w56⟩ : (0 ≤ (σ45 2 0).toInt ∧ (σ45 2 0).toInt ≤ 4) ∧ (0 ≤ (σ45 2 1).toInt ∧ (σ45 2 1).toInt ≤ 3) ∧ (0 ≤ (σ45 2 2).toInt) ∧ (0 ≤ (σ45 2 3).toInt) ∧ ((σ45 2 2).toInt + (σ45 2 3).toInt ≤ 40) ∧ (∀ k : Nat, k < 40 → 0 ≤ (σ45 6 k).toInt ∧ (σ45 6 k).toInt ≤ 67) := id I49
  have z57 : (σ45 2 0).toInt = (σ 2 0).toInt := (congrArg Int32.toInt (show σ45 2 0 = (σ 2 0) from (f48 0 (by decide))))
  have z58 : (σ45 2 1).toInt = (σ 2 1).toInt := (congrArg Int32.toInt (show σ45 2 1 = (σ 2 1) from (f48 1 (by decide))))
  rcases h45 with h59 | h60
  · obtain ⟨q65, k61, k62, k63, k64⟩ := h59
    have q65 := q65.symm
    subst q65
    refine lv_pop hx hb dL_law_981 rfl ?_
    refine lv_aload_n hx hb dL_law_982 rfl (lv_at hl 1 rfl) ?_
    have I66 : jI101 σ45 := jI101_fr (congrFun (f47 55 (by decide)) 4) (congrFun (f47 55 (by decide)) 5) (f47 56 (by decide)) (f47 57 (by decide)) (f47 58 (by decide)) (f47 59 (by decide)) hI101
    have z67 : (σ45 55 5).toInt = (σ 55 5).toInt := (congrArg Int32.toInt (show σ45 55 5 = (σ 55 5) from (congrFun (f47 55 (by decide)) 5)))
    have z68 : (σ45 55 4).toInt = (σ 55 4).toInt := (congrArg Int32.toInt (show σ45 55 4 = (σ 55 4) from (congrFun (f47 55 (by decide)) 4)))
    refine jcallV (As := []) (rest := []) ⟨hx, hb, hml, hown, hts⟩ hK hP hA hS hZ (c_X12_redo l D cI cL ad zz hJ σ45 τ I66) cw_RL_128 (jc_55 cI cL ad σ45 τ) rfl ⟨Nat.le_of_ble_eq_true rfl, Nat.le_of_ble_eq_true rfl⟩ rfl rfl rfl hl.1 rfl (Nat.le_of_ble_eq_true rfl) dL_law_983 ⟨Nat.le_of_ble_eq_true rfl, Nat.le_of_ble_eq_true rfl⟩ (fun r70 σ69 τ69 H locs h69 hP hS => ?_)
    obtain ⟨rfl, f71, f72, I73, h69⟩ := h69
    obtain ⟨i75, i76, i77, w78, w79, w80, w81⟩ : (0 ≤ (σ69 55 5).toInt) ∧ ((σ69 55 5).toInt ≤ (σ69 55 4).toInt) ∧ ((σ69 55 4).toInt ≤ 40) ∧ (∀ k : Nat, k < 68 → (-200) ≤ (σ69 56 k).toInt ∧ (σ69 56 k).toInt ≤ 500) ∧ (∀ k : Nat, k < 40 → 0 ≤ (σ69 57 k).toInt ∧ (σ69 57 k).toInt ≤ 67) ∧ (∀ k : Nat, k < 40 → (-200) ≤ (σ69 58 k).toInt ∧ (σ69 58 k).toInt ≤ 500) ∧ (∀ k : Nat, k < 40 → (-200) ≤ (σ69 59 k).toInt ∧ (σ69 59 k).toInt ≤ 500) := id I73
    have z82 : (σ69 55 4).toInt = (σ 55 4).toInt := (congrArg Int32.toInt (show σ69 55 4 = (σ 55 4) from ((f72 4 (by decide)).trans (congrFun (f47 55 (by decide)) 4))))
    rcases h69 with h83 | h84
    · obtain ⟨q88, k85, k86, k87⟩ := h83
      have q88 := q88.symm
      subst q88
      refine lv_pop hx hb dL_law_986 rfl ?_
      refine lv_goto (tgt := 1357) hx hb dL_law_987 (by decide) ?_
      obtain ⟨x89, ex89⟩ : ∃ y : Int32, y = x0 + 6 := ⟨_, rfl⟩
      have tx89 : x89.toInt = x0.toInt + 6 := (jadd ex89 rfl jz_6 (by omega) (by omega)).trans (by omega)
      refine lv_iinc (v := x89) (lv' := [(3, .int x89), (2, .ref (ad 55)), (1, .ref (ad 0)), (0, .ref b)]) hx hb dL_law_1357 hl (k := 0) rfl (by rw [ex89]; rfl) (by decide) rfl (fun ls hl => ?_)
      refine lv_goto (tgt := 18) hx hb dL_law_1360 (by decide) ?_
      have I90 : jI2 σ69 := jI2_fr (congrFun (f71 2 (by decide)) 0) (congrFun (f71 2 (by decide)) 1) (congrFun (f71 2 (by decide)) 2) (congrFun (f71 2 (by decide)) 3) (f71 6 (by decide)) I49
      have I91 : jI9 σ69 := jI9_fr ((congrFun (f71 9 (by decide)) 0).trans (congrFun (f47 9 (by decide)) 0)) ((f71 10 (by decide)).trans (f47 10 (by decide))) ((f71 11 (by decide)).trans (f47 11 (by decide))) hI9
      have I92 : jI12 σ69 := jI12_fr ((congrFun (f71 12 (by decide)) 0).trans (congrFun (f47 12 (by decide)) 0)) ((f71 13 (by decide)).trans (f47 13 (by decide))) hI12
      have I93 : jI16 σ69 := jI16_fr ((congrFun (f71 16 (by decide)) 0).trans (congrFun (f47 16 (by decide)) 0)) ((congrFun (f71 16 (by decide)) 1).trans (congrFun (f47 16 (by decide)) 1)) ((congrFun (f71 16 (by decide)) 2).trans (congrFun (f47 16 (by decide)) 2)) ((f71 17 (by decide)).trans (f47 17 (by decide))) hI16
      have I94 : jI18 σ69 := jI18_fr ((congrFun (f71 18 (by decide)) 0).trans (congrFun (f47 18 (by decide)) 0)) ((f71 19 (by decide)).trans (f47 19 (by decide))) hI18
      have I95 : jI22 σ69 := jI22_fr ((congrFun (f71 22 (by decide)) 0).trans (congrFun (f47 22 (by decide)) 0)) ((f71 23 (by decide)).trans (f47 23 (by decide))) hI22
      have I96 : jI31 σ69 := jI31_fr ((congrFun (f71 31 (by decide)) 8).trans (congrFun (f47 31 (by decide)) 8)) ((f71 33 (by decide)).trans (f47 33 (by decide))) ((f71 36 (by decide)).trans (f47 36 (by decide))) hI31
      have I97 : jI38 σ69 := jI38_fr ((congrFun (f71 38 (by decide)) 0).trans (congrFun (f47 38 (by decide)) 0)) ((congrFun (f71 38 (by decide)) 1).trans (congrFun (f47 38 (by decide)) 1)) ((f71 39 (by decide)).trans (f47 39 (by decide))) hI38
      have I98 : jI43 σ69 := jI43_fr ((congrFun (f71 43 (by decide)) 8).trans (congrFun (f47 43 (by decide)) 8)) hI43
      have I99 : jI47 σ69 := jI47_fr ((congrFun (f71 47 (by decide)) 0).trans (congrFun (f47 47 (by decide)) 0)) ((f71 48 (by decide)).trans (f47 48 (by decide))) ((f71 49 (by decide)).trans (f47 49 (by decide))) hI47
      have I100 : jI50 σ69 := jI50_fr ((f71 52 (by decide)).trans (f47 52 (by decide))) hI50
      have I101 : jI102 σ69 := jI102_fr ((f72 6 (by decide)).trans (congrFun (f47 55 (by decide)) 6)) ((f71 60 (by decide)).trans (f47 60 (by decide))) ((f71 61 (by decide)).trans (f47 61 (by decide))) hI102
      have I102 : jI103 σ69 := jI103_fr ((f72 9 (by decide)).trans (congrFun (f47 55 (by decide)) 9)) hI103
      have I103 : jI104 σ69 := jI104_fr ((f72 10 (by decide)).trans (congrFun (f47 55 (by decide)) 10)) ((f72 12 (by decide)).trans (congrFun (f47 55 (by decide)) 12)) ((f72 13 (by decide)).trans (congrFun (f47 55 (by decide)) 13)) ((f71 62 (by decide)).trans (f47 62 (by decide))) ((f71 67 (by decide)).trans (f47 67 (by decide))) hI104
      have I104 : jI105 σ69 := jI105_fr ((f72 15 (by decide)).trans (congrFun (f47 55 (by decide)) 15)) ((f71 65 (by decide)).trans (f47 65 (by decide))) hI105
      have I105 : jI106 σ69 := jI106_fr ((f72 32 (by decide)).trans (congrFun (f47 55 (by decide)) 32)) ((f71 70 (by decide)).trans (f47 70 (by decide))) ((f71 71 (by decide)).trans (f47 71 (by decide))) ((f71 72 (by decide)).trans (f47 72 (by decide))) hI106
      have I106 : jI107 σ69 := jI107_fr ((f72 12 (by decide)).trans (congrFun (f47 55 (by decide)) 12)) ((f72 47 (by decide)).trans (congrFun (f47 55 (by decide)) 47)) ((f71 80 (by decide)).trans (f47 80 (by decide))) hI107
      have I107 : jI109 σ69 := jI109_fr ((f72 50 (by decide)).trans (congrFun (f47 55 (by decide)) 50)) hI109
      have I108 : jI110 σ69 := jI110_fr ((f71 86 (by decide)).trans (f47 86 (by decide))) ((f71 87 (by decide)).trans (f47 87 (by decide))) hI110
      have I109 : jI111 σ69 := jI111_fr ((f71 79 (by decide)).trans (f47 79 (by decide))) hI111
      have I110 : jI119 σ69 := jI119_fr ((f71 68 (by decide)).trans (f47 68 (by decide))) hI119
      have p111 : jKept σ69 := jKept.fr ((f71 75 (by decide)).trans (f47 75 (by decide))) ((f71 76 (by decide)).trans (f47 76 (by decide))) ((f71 77 (by decide)).trans (f47 77 (by decide))) hs_jKept
      have p112 : jBook σ69 := jBook.fr ((f72 47 (by decide)).trans (congrFun (f47 55 (by decide)) 47)) ((f72 10 (by decide)).trans (congrFun (f47 55 (by decide)) 10)) ((f71 81 (by decide)).trans (f47 81 (by decide))) hs_jBook
      have z113 : (σ69 2 0).toInt = (σ 2 0).toInt := (congrArg Int32.toInt (show σ69 2 0 = (σ 2 0) from ((congrFun (f71 2 (by decide)) 0).trans (f48 0 (by decide)))))
      have z114 : (σ69 55 6).toInt = (σ 55 6).toInt := (congrArg Int32.toInt (show σ69 55 6 = (σ 55 6) from ((f72 6 (by decide)).trans (congrFun (f47 55 (by decide)) 6))))
      have z115 : (σ69 2 2).toInt = (σ45 2 2).toInt := (congrArg Int32.toInt (show σ69 2 2 = (σ45 2 2) from (congrFun (f71 2 (by decide)) 2)))
      have z116 : (σ69 2 3).toInt = (σ45 2 3).toInt := (congrArg Int32.toInt (show σ69 2 3 = (σ45 2 3) from (congrFun (f71 2 (by decide)) 3)))
      have z117 : (σ69 9 0).toInt = (σ 9 0).toInt := (congrArg Int32.toInt (show σ69 9 0 = (σ 9 0) from ((congrFun (f71 9 (by decide)) 0).trans (congrFun (f47 9 (by decide)) 0))))
      have z118 : (σ69 55 15).toInt = (σ 55 15).toInt := (congrArg Int32.toInt (show σ69 55 15 = (σ 55 15) from ((f72 15 (by decide)).trans (congrFun (f47 55 (by decide)) 15))))
      have z119 : (σ69 16 0).toInt = (σ 16 0).toInt := (congrArg Int32.toInt (show σ69 16 0 = (σ 16 0) from ((congrFun (f71 16 (by decide)) 0).trans (congrFun (f47 16 (by decide)) 0))))
      have z120 : (σ69 55 10).toInt = (σ 55 10).toInt := (congrArg Int32.toInt (show σ69 55 10 = (σ 55 10) from ((f72 10 (by decide)).trans (congrFun (f47 55 (by decide)) 10))))
      have z121 : (σ69 16 1).toInt = (σ 16 1).toInt := (congrArg Int32.toInt (show σ69 16 1 = (σ 16 1) from ((congrFun (f71 16 (by decide)) 1).trans (congrFun (f47 16 (by decide)) 1))))
      have z122 : (σ69 55 12).toInt = (σ 55 12).toInt := (congrArg Int32.toInt (show σ69 55 12 = (σ 55 12) from ((f72 12 (by decide)).trans (congrFun (f47 55 (by decide)) 12))))
      have z123 : (σ69 16 2).toInt = (σ 16 2).toInt := (congrArg Int32.toInt (show σ69 16 2 = (σ 16 2) from ((congrFun (f71 16 (by decide)) 2).trans (congrFun (f47 16 (by decide)) 2))))
      have z124 : (σ69 55 13).toInt = (σ 55 13).toInt := (congrArg Int32.toInt (show σ69 55 13 = (σ 55 13) from ((f72 13 (by decide)).trans (congrFun (f47 55 (by decide)) 13))))
      have z125 : (σ69 38 0).toInt = (σ 38 0).toInt := (congrArg Int32.toInt (show σ69 38 0 = (σ 38 0) from ((congrFun (f71 38 (by decide)) 0).trans (congrFun (f47 38 (by decide)) 0))))
      have z126 : (σ69 55 32).toInt = (σ 55 32).toInt := (congrArg Int32.toInt (show σ69 55 32 = (σ 55 32) from ((f72 32 (by decide)).trans (congrFun (f47 55 (by decide)) 32))))
      have z127 : (σ69 47 0).toInt = (σ 47 0).toInt := (congrArg Int32.toInt (show σ69 47 0 = (σ 47 0) from ((congrFun (f71 47 (by decide)) 0).trans (congrFun (f47 47 (by decide)) 0))))
      have z128 : (σ69 55 47).toInt = (σ 55 47).toInt := (congrArg Int32.toInt (show σ69 55 47 = (σ 55 47) from ((f72 47 (by decide)).trans (congrFun (f47 55 (by decide)) 47))))
      have z129 : (σ69 55 30).toInt = (σ 55 30).toInt := (congrArg Int32.toInt (show σ69 55 30 = (σ 55 30) from ((f72 30 (by decide)).trans (congrFun (f47 55 (by decide)) 30))))
      have z130 : (σ69 55 31).toInt = (σ 55 31).toInt := (congrArg Int32.toInt (show σ69 55 31 = (σ 55 31) from ((f72 31 (by decide)).trans (congrFun (f47 55 (by decide)) 31))))
      exact ih x89 σ69 τ _ _ ls (by have h9 := tx89; omega) ⟨I90, I91, I92, I93, I94, I95, I96, I97, I98, I99, I100, I73, I101, I102, I103, I104, I105, I106, I107, I108, I109, I110, p111, p112, (by omega), (by omega), (by omega), (by omega), (by omega), (by omega), (by omega), (by omega), (by omega), (by omega), (by omega), (show jNumP (σ69 3) (σ69 56) (σ69 6) (σ69 57) (σ69 7) (σ69 58) (σ69 8) (σ69 59) (σ69 55 6).toInt (σ69 55 4).toInt by rw [show σ69 3 = σ 3 from ((f71 3 (by decide)).trans k64), show σ69 56 = σ 56 from (k87.trans (f47 56 (by decide))), show σ69 6 = σ 6 from ((f71 6 (by decide)).trans (f47 6 (by decide))), show σ69 57 = σ 57 from ((f71 57 (by decide)).trans (f47 57 (by decide))), show σ69 7 = σ 7 from ((f71 7 (by decide)).trans (f47 7 (by decide))), show σ69 58 = σ 58 from ((f71 58 (by decide)).trans (f47 58 (by decide))), show σ69 8 = σ 8 from ((f71 8 (by decide)).trans (f47 8 (by decide))), show σ69 59 = σ 59 from ((f71 59 (by decide)).trans (f47 59 (by decide))), show (σ69 55 6).toInt = (σ 55 6).toInt from by omega, show (σ69 55 4).toInt = (σ 55 4).toInt from by omega]; exact hr0), (show jOvP (σ69 56) (σ69 57) (σ69 58) (σ69 59) (σ69 55 4).toInt by rw [show σ69 56 = σ 56 from (k87.trans (f47 56 (by decide))), show σ69 57 = σ 57 from ((f71 57 (by decide)).trans (f47 57 (by decide))), show σ69 58 = σ 58 from ((f71 58 (by decide)).trans (f47 58 (by decide))), show σ69 59 = σ 59 from ((f71 59 (by decide)).trans (f47 59 (by decide))), show (σ69 55 4).toInt = (σ 55 4).toInt from by omega]; exact hr1), (show jTp (σ69 10) (σ69 63) (σ69 55 15).toInt by rw [show σ69 10 = σ 10 from ((f71 10 (by decide)).trans (f47 10 (by decide))), show σ69 63 = σ 63 from ((f71 63 (by decide)).trans (f47 63 (by decide)))]; exact hr2.le (by omega)), (show jSo (σ69 17) (σ69 62) (σ69 16 0).toInt by rw [show σ69 17 = σ 17 from ((f71 17 (by decide)).trans (f47 17 (by decide))), show σ69 62 = σ 62 from ((f71 62 (by decide)).trans (f47 62 (by decide))), show (σ69 16 0).toInt = (σ 16 0).toInt from by omega]; exact hr3), (show jShP (σ69 51) (σ69 52) (σ69 53) (σ69 86) (σ69 87) (σ69 55 32).toInt by rw [show σ69 51 = σ 51 from ((f71 51 (by decide)).trans (f47 51 (by decide))), show σ69 52 = σ 52 from ((f71 52 (by decide)).trans (f47 52 (by decide))), show σ69 53 = σ 53 from ((f71 53 (by decide)).trans (f47 53 (by decide))), show σ69 86 = σ 86 from ((f71 86 (by decide)).trans (f47 86 (by decide))), show σ69 87 = σ 87 from ((f71 87 (by decide)).trans (f47 87 (by decide)))]; exact (hr4.up (by omega) (by omega))), (show jEl (σ69 51) (σ69 52) (τ 54) (τ 88) by rw [show σ69 51 = σ 51 from ((f71 51 (by decide)).trans (f47 51 (by decide))), show σ69 52 = σ 52 from ((f71 52 (by decide)).trans (f47 52 (by decide)))]; exact hr5), (show jByP (σ69 51) (σ69 52) (τ 54) by rw [show σ69 51 = σ 51 from ((f71 51 (by decide)).trans (f47 51 (by decide))), show σ69 52 = σ 52 from ((f71 52 (by decide)).trans (f47 52 (by decide)))]; exact hr6), (show jBk (σ69 48) (σ69 80) (σ69 49) (σ69 81) (σ69 55 47).toInt by rw [show σ69 48 = σ 48 from ((f71 48 (by decide)).trans (f47 48 (by decide))), show σ69 49 = σ 49 from ((f71 49 (by decide)).trans (f47 49 (by decide))), show σ69 80 = σ 80 from ((f71 80 (by decide)).trans (f47 80 (by decide))), show σ69 81 = σ 81 from ((f71 81 (by decide)).trans (f47 81 (by decide))), show (σ69 55 47).toInt = (σ 55 47).toInt from by omega]; exact hr7)⟩ hP hS (lv_sub hl [0, 1, 2, 3] rfl)
    · obtain ⟨q137, k132, k133, k134, k135, k136⟩ := h84
      exact absurd (by omega : False) id
  · obtain ⟨q144, k138, k139, k140, k141, k142, k143⟩ := h60
    refine lv_pop hx hb dL_law_981 rfl ?_
    refine lv_aload_n hx hb dL_law_982 rfl (lv_at hl 1 rfl) ?_
    have I145 : jI101 σ45 := jI101_fr (congrFun (f47 55 (by decide)) 4) (congrFun (f47 55 (by decide)) 5) (f47 56 (by decide)) (f47 57 (by decide)) (f47 58 (by decide)) (f47 59 (by decide)) hI101
    have z146 : (σ45 55 5).toInt = (σ 55 5).toInt := (congrArg Int32.toInt (show σ45 55 5 = (σ 55 5) from (congrFun (f47 55 (by decide)) 5)))
    have z147 : (σ45 55 4).toInt = (σ 55 4).toInt := (congrArg Int32.toInt (show σ45 55 4 = (σ 55 4) from (congrFun (f47 55 (by decide)) 4)))
    refine jcallV (As := []) (rest := []) ⟨hx, hb, hml, hown, hts⟩ hK hP hA hS hZ (c_X12_redo l D cI cL ad zz hJ σ45 τ I145) cw_RL_128 (jc_55 cI cL ad σ45 τ) rfl ⟨Nat.le_of_ble_eq_true rfl, Nat.le_of_ble_eq_true rfl⟩ rfl rfl rfl hl.1 rfl (Nat.le_of_ble_eq_true rfl) dL_law_983 ⟨Nat.le_of_ble_eq_true rfl, Nat.le_of_ble_eq_true rfl⟩ (fun r149 σ148 τ148 H locs h148 hP hS => ?_)
    obtain ⟨rfl, f150, f151, I152, h148⟩ := h148
    obtain ⟨i154, i155, i156, w157, w158, w159, w160⟩ : (0 ≤ (σ148 55 5).toInt) ∧ ((σ148 55 5).toInt ≤ (σ148 55 4).toInt) ∧ ((σ148 55 4).toInt ≤ 40) ∧ (∀ k : Nat, k < 68 → (-200) ≤ (σ148 56 k).toInt ∧ (σ148 56 k).toInt ≤ 500) ∧ (∀ k : Nat, k < 40 → 0 ≤ (σ148 57 k).toInt ∧ (σ148 57 k).toInt ≤ 67) ∧ (∀ k : Nat, k < 40 → (-200) ≤ (σ148 58 k).toInt ∧ (σ148 58 k).toInt ≤ 500) ∧ (∀ k : Nat, k < 40 → (-200) ≤ (σ148 59 k).toInt ∧ (σ148 59 k).toInt ≤ 500) := id I152
    have z161 : (σ148 55 4).toInt = (σ 55 4).toInt := (congrArg Int32.toInt (show σ148 55 4 = (σ 55 4) from ((f151 4 (by decide)).trans (congrFun (f47 55 (by decide)) 4))))
    rcases h148 with h162 | h163
    · obtain ⟨q167, k164, k165, k166⟩ := h162
      exact absurd (by omega : False) id
    · obtain ⟨q173, k168, k169, k170, k171, k172⟩ := h163
      refine lv_pop hx hb dL_law_986 rfl ?_
      refine lv_goto (tgt := 1357) hx hb dL_law_987 (by decide) ?_
      obtain ⟨x174, ex174⟩ : ∃ y : Int32, y = x0 + 6 := ⟨_, rfl⟩
      have tx174 : x174.toInt = x0.toInt + 6 := (jadd ex174 rfl jz_6 (by omega) (by omega)).trans (by omega)
      refine lv_iinc (v := x174) (lv' := [(3, .int x174), (2, .ref (ad 55)), (1, .ref (ad 0)), (0, .ref b)]) hx hb dL_law_1357 hl (k := 0) rfl (by rw [ex174]; rfl) (by decide) rfl (fun ls hl => ?_)
      refine lv_goto (tgt := 18) hx hb dL_law_1360 (by decide) ?_
      have I175 : jI2 σ148 := jI2_fr (congrFun (f150 2 (by decide)) 0) (congrFun (f150 2 (by decide)) 1) (congrFun (f150 2 (by decide)) 2) (congrFun (f150 2 (by decide)) 3) (f150 6 (by decide)) I49
      have I176 : jI9 σ148 := jI9_fr ((congrFun (f150 9 (by decide)) 0).trans (congrFun (f47 9 (by decide)) 0)) ((f150 10 (by decide)).trans (f47 10 (by decide))) ((f150 11 (by decide)).trans (f47 11 (by decide))) hI9
      have I177 : jI12 σ148 := jI12_fr ((congrFun (f150 12 (by decide)) 0).trans (congrFun (f47 12 (by decide)) 0)) ((f150 13 (by decide)).trans (f47 13 (by decide))) hI12
      have I178 : jI16 σ148 := jI16_fr ((congrFun (f150 16 (by decide)) 0).trans (congrFun (f47 16 (by decide)) 0)) ((congrFun (f150 16 (by decide)) 1).trans (congrFun (f47 16 (by decide)) 1)) ((congrFun (f150 16 (by decide)) 2).trans (congrFun (f47 16 (by decide)) 2)) ((f150 17 (by decide)).trans (f47 17 (by decide))) hI16
      have I179 : jI18 σ148 := jI18_fr ((congrFun (f150 18 (by decide)) 0).trans (congrFun (f47 18 (by decide)) 0)) ((f150 19 (by decide)).trans (f47 19 (by decide))) hI18
      have I180 : jI22 σ148 := jI22_fr ((congrFun (f150 22 (by decide)) 0).trans (congrFun (f47 22 (by decide)) 0)) ((f150 23 (by decide)).trans (f47 23 (by decide))) hI22
      have I181 : jI31 σ148 := jI31_fr ((congrFun (f150 31 (by decide)) 8).trans (congrFun (f47 31 (by decide)) 8)) ((f150 33 (by decide)).trans (f47 33 (by decide))) ((f150 36 (by decide)).trans (f47 36 (by decide))) hI31
      have I182 : jI38 σ148 := jI38_fr ((congrFun (f150 38 (by decide)) 0).trans (congrFun (f47 38 (by decide)) 0)) ((congrFun (f150 38 (by decide)) 1).trans (congrFun (f47 38 (by decide)) 1)) ((f150 39 (by decide)).trans (f47 39 (by decide))) hI38
      have I183 : jI43 σ148 := jI43_fr ((congrFun (f150 43 (by decide)) 8).trans (congrFun (f47 43 (by decide)) 8)) hI43
      have I184 : jI47 σ148 := jI47_fr ((congrFun (f150 47 (by decide)) 0).trans (congrFun (f47 47 (by decide)) 0)) ((f150 48 (by decide)).trans (f47 48 (by decide))) ((f150 49 (by decide)).trans (f47 49 (by decide))) hI47
      have I185 : jI50 σ148 := jI50_fr ((f150 52 (by decide)).trans (f47 52 (by decide))) hI50
      have I186 : jI102 σ148 := jI102_fr ((f151 6 (by decide)).trans (congrFun (f47 55 (by decide)) 6)) ((f150 60 (by decide)).trans (f47 60 (by decide))) ((f150 61 (by decide)).trans (f47 61 (by decide))) hI102
      have I187 : jI103 σ148 := jI103_fr ((f151 9 (by decide)).trans (congrFun (f47 55 (by decide)) 9)) hI103
      have I188 : jI104 σ148 := jI104_fr ((f151 10 (by decide)).trans (congrFun (f47 55 (by decide)) 10)) ((f151 12 (by decide)).trans (congrFun (f47 55 (by decide)) 12)) ((f151 13 (by decide)).trans (congrFun (f47 55 (by decide)) 13)) ((f150 62 (by decide)).trans (f47 62 (by decide))) ((f150 67 (by decide)).trans (f47 67 (by decide))) hI104
      have I189 : jI105 σ148 := jI105_fr ((f151 15 (by decide)).trans (congrFun (f47 55 (by decide)) 15)) ((f150 65 (by decide)).trans (f47 65 (by decide))) hI105
      have I190 : jI106 σ148 := jI106_fr ((f151 32 (by decide)).trans (congrFun (f47 55 (by decide)) 32)) ((f150 70 (by decide)).trans (f47 70 (by decide))) ((f150 71 (by decide)).trans (f47 71 (by decide))) ((f150 72 (by decide)).trans (f47 72 (by decide))) hI106
      have I191 : jI107 σ148 := jI107_fr ((f151 12 (by decide)).trans (congrFun (f47 55 (by decide)) 12)) ((f151 47 (by decide)).trans (congrFun (f47 55 (by decide)) 47)) ((f150 80 (by decide)).trans (f47 80 (by decide))) hI107
      have I192 : jI109 σ148 := jI109_fr ((f151 50 (by decide)).trans (congrFun (f47 55 (by decide)) 50)) hI109
      have I193 : jI110 σ148 := jI110_fr ((f150 86 (by decide)).trans (f47 86 (by decide))) ((f150 87 (by decide)).trans (f47 87 (by decide))) hI110
      have I194 : jI111 σ148 := jI111_fr ((f150 79 (by decide)).trans (f47 79 (by decide))) hI111
      have I195 : jI119 σ148 := jI119_fr ((f150 68 (by decide)).trans (f47 68 (by decide))) hI119
      have p196 : jKept σ148 := jKept.fr ((f150 75 (by decide)).trans (f47 75 (by decide))) ((f150 76 (by decide)).trans (f47 76 (by decide))) ((f150 77 (by decide)).trans (f47 77 (by decide))) hs_jKept
      have p197 : jBook σ148 := jBook.fr ((f151 47 (by decide)).trans (congrFun (f47 55 (by decide)) 47)) ((f151 10 (by decide)).trans (congrFun (f47 55 (by decide)) 10)) ((f150 81 (by decide)).trans (f47 81 (by decide))) hs_jBook
      have z198 : (σ148 2 0).toInt = (σ 2 0).toInt := (congrArg Int32.toInt (show σ148 2 0 = (σ 2 0) from ((congrFun (f150 2 (by decide)) 0).trans (f48 0 (by decide)))))
      have z199 : (σ148 55 6).toInt = (σ 55 6).toInt := (congrArg Int32.toInt (show σ148 55 6 = (σ 55 6) from ((f151 6 (by decide)).trans (congrFun (f47 55 (by decide)) 6))))
      have z200 : (σ148 2 2).toInt = (σ45 2 2).toInt := (congrArg Int32.toInt (show σ148 2 2 = (σ45 2 2) from (congrFun (f150 2 (by decide)) 2)))
      have z201 : (σ148 2 3).toInt = (σ45 2 3).toInt := (congrArg Int32.toInt (show σ148 2 3 = (σ45 2 3) from (congrFun (f150 2 (by decide)) 3)))
      have z202 : (σ148 9 0).toInt = (σ 9 0).toInt := (congrArg Int32.toInt (show σ148 9 0 = (σ 9 0) from ((congrFun (f150 9 (by decide)) 0).trans (congrFun (f47 9 (by decide)) 0))))
      have z203 : (σ148 55 15).toInt = (σ 55 15).toInt := (congrArg Int32.toInt (show σ148 55 15 = (σ 55 15) from ((f151 15 (by decide)).trans (congrFun (f47 55 (by decide)) 15))))
      have z204 : (σ148 16 0).toInt = (σ 16 0).toInt := (congrArg Int32.toInt (show σ148 16 0 = (σ 16 0) from ((congrFun (f150 16 (by decide)) 0).trans (congrFun (f47 16 (by decide)) 0))))
      have z205 : (σ148 55 10).toInt = (σ 55 10).toInt := (congrArg Int32.toInt (show σ148 55 10 = (σ 55 10) from ((f151 10 (by decide)).trans (congrFun (f47 55 (by decide)) 10))))
      have z206 : (σ148 16 1).toInt = (σ 16 1).toInt := (congrArg Int32.toInt (show σ148 16 1 = (σ 16 1) from ((congrFun (f150 16 (by decide)) 1).trans (congrFun (f47 16 (by decide)) 1))))
      have z207 : (σ148 55 12).toInt = (σ 55 12).toInt := (congrArg Int32.toInt (show σ148 55 12 = (σ 55 12) from ((f151 12 (by decide)).trans (congrFun (f47 55 (by decide)) 12))))
      have z208 : (σ148 16 2).toInt = (σ 16 2).toInt := (congrArg Int32.toInt (show σ148 16 2 = (σ 16 2) from ((congrFun (f150 16 (by decide)) 2).trans (congrFun (f47 16 (by decide)) 2))))
      have z209 : (σ148 55 13).toInt = (σ 55 13).toInt := (congrArg Int32.toInt (show σ148 55 13 = (σ 55 13) from ((f151 13 (by decide)).trans (congrFun (f47 55 (by decide)) 13))))
      have z210 : (σ148 38 0).toInt = (σ 38 0).toInt := (congrArg Int32.toInt (show σ148 38 0 = (σ 38 0) from ((congrFun (f150 38 (by decide)) 0).trans (congrFun (f47 38 (by decide)) 0))))
      have z211 : (σ148 55 32).toInt = (σ 55 32).toInt := (congrArg Int32.toInt (show σ148 55 32 = (σ 55 32) from ((f151 32 (by decide)).trans (congrFun (f47 55 (by decide)) 32))))
      have z212 : (σ148 47 0).toInt = (σ 47 0).toInt := (congrArg Int32.toInt (show σ148 47 0 = (σ 47 0) from ((congrFun (f150 47 (by decide)) 0).trans (congrFun (f47 47 (by decide)) 0))))
      have z213 : (σ148 55 47).toInt = (σ 55 47).toInt := (congrArg Int32.toInt (show σ148 55 47 = (σ 55 47) from ((f151 47 (by decide)).trans (congrFun (f47 55 (by decide)) 47))))
      have z214 : (σ148 55 30).toInt = (σ 55 30).toInt := (congrArg Int32.toInt (show σ148 55 30 = (σ 55 30) from ((f151 30 (by decide)).trans (congrFun (f47 55 (by decide)) 30))))
      have z215 : (σ148 55 31).toInt = (σ 55 31).toInt := (congrArg Int32.toInt (show σ148 55 31 = (σ 55 31) from ((f151 31 (by decide)).trans (congrFun (f47 55 (by decide)) 31))))
      rw [show (σ 2 2).toInt = (σ 55 5).toInt from by omega] at k143
      rw [show (σ45 55 5).toInt = (σ 55 5).toInt from by omega, show σ45 56 = σ 56 from (f47 56 (by decide)), show σ45 57 = σ 57 from (f47 57 (by decide)), show σ45 59 = σ 59 from (f47 59 (by decide))] at k172
      have p216 := hr0.forth (by omega) (by omega) k143 k172
      exact ih x174 σ148 τ _ _ ls (by have h9 := tx174; omega) ⟨I175, I176, I177, I178, I179, I180, I181, I182, I183, I184, I185, I152, I186, I187, I188, I189, I190, I191, I192, I193, I194, I195, p196, p197, (by omega), (by omega), (by omega), (by omega), (by omega), (by omega), (by omega), (by omega), (by omega), (by omega), (by omega), (show jNumP (σ148 3) (σ148 56) (σ148 6) (σ148 57) (σ148 7) (σ148 58) (σ148 8) (σ148 59) (σ148 55 6).toInt (σ148 55 4).toInt by rw [show σ148 3 = σ45 3 from (f150 3 (by decide)), show σ148 6 = σ 6 from ((f150 6 (by decide)).trans (f47 6 (by decide))), show σ148 57 = σ 57 from ((f150 57 (by decide)).trans (f47 57 (by decide))), show σ148 7 = σ 7 from ((f150 7 (by decide)).trans (f47 7 (by decide))), show σ148 58 = σ 58 from ((f150 58 (by decide)).trans (f47 58 (by decide))), show σ148 8 = σ 8 from ((f150 8 (by decide)).trans (f47 8 (by decide))), show σ148 59 = σ 59 from ((f150 59 (by decide)).trans (f47 59 (by decide))), show (σ148 55 6).toInt = (σ 55 6).toInt from by omega, show (σ148 55 4).toInt = (σ 55 4).toInt from by omega]; exact p216), (show jOvP (σ148 56) (σ148 57) (σ148 58) (σ148 59) (σ148 55 4).toInt by rw [show σ148 57 = σ 57 from ((f150 57 (by decide)).trans (f47 57 (by decide))), show σ148 58 = σ 58 from ((f150 58 (by decide)).trans (f47 58 (by decide))), show σ148 59 = σ 59 from ((f150 59 (by decide)).trans (f47 59 (by decide))), show (σ148 55 4).toInt = (σ 55 4).toInt from by omega]; exact (hr1.forth (by omega) (by omega) ((hr0.2.2 ((σ 55 5).toInt).toNat (by omega)).2.1.1) k172)), (show jTp (σ148 10) (σ148 63) (σ148 55 15).toInt by rw [show σ148 10 = σ 10 from ((f150 10 (by decide)).trans (f47 10 (by decide))), show σ148 63 = σ 63 from ((f150 63 (by decide)).trans (f47 63 (by decide)))]; exact hr2.le (by omega)), (show jSo (σ148 17) (σ148 62) (σ148 16 0).toInt by rw [show σ148 17 = σ 17 from ((f150 17 (by decide)).trans (f47 17 (by decide))), show σ148 62 = σ 62 from ((f150 62 (by decide)).trans (f47 62 (by decide))), show (σ148 16 0).toInt = (σ 16 0).toInt from by omega]; exact hr3), (show jShP (σ148 51) (σ148 52) (σ148 53) (σ148 86) (σ148 87) (σ148 55 32).toInt by rw [show σ148 51 = σ 51 from ((f150 51 (by decide)).trans (f47 51 (by decide))), show σ148 52 = σ 52 from ((f150 52 (by decide)).trans (f47 52 (by decide))), show σ148 53 = σ 53 from ((f150 53 (by decide)).trans (f47 53 (by decide))), show σ148 86 = σ 86 from ((f150 86 (by decide)).trans (f47 86 (by decide))), show σ148 87 = σ 87 from ((f150 87 (by decide)).trans (f47 87 (by decide)))]; exact (hr4.up (by omega) (by omega))), (show jEl (σ148 51) (σ148 52) (τ 54) (τ 88) by rw [show σ148 51 = σ 51 from ((f150 51 (by decide)).trans (f47 51 (by decide))), show σ148 52 = σ 52 from ((f150 52 (by decide)).trans (f47 52 (by decide)))]; exact hr5), (show jByP (σ148 51) (σ148 52) (τ 54) by rw [show σ148 51 = σ 51 from ((f150 51 (by decide)).trans (f47 51 (by decide))), show σ148 52 = σ 52 from ((f150 52 (by decide)).trans (f47 52 (by decide)))]; exact hr6), (show jBk (σ148 48) (σ148 80) (σ148 49) (σ148 81) (σ148 55 47).toInt by rw [show σ148 48 = σ 48 from ((f150 48 (by decide)).trans (f47 48 (by decide))), show σ148 49 = σ 49 from ((f150 49 (by decide)).trans (f47 49 (by decide))), show σ148 80 = σ 80 from ((f150 80 (by decide)).trans (f47 80 (by decide))), show σ148 81 = σ 81 from ((f150 81 (by decide)).trans (f47 81 (by decide))), show (σ148 55 47).toInt = (σ 55 47).toInt from by omega]; exact hr7)⟩ hP hS (lv_sub hl [0, 1, 2, 3] rfl)
set_option maxHeartbeats 4000000 in
set_option maxRecDepth 100000 in
theorem law_case_28 {p : Program} {e : Env} {s : State} {m : MethodId} {below : List Frame} {meth : Method} {c : Code} (l : Launch) {b L : Nat} {xs : Nat → Int32} {D : va_G} {cI cL : ClassId} {ad zz : Nat → Nat} (C0 : lw_At p s m meth c b L xs) (hJ : jD ad) (hA : ∀ q, jA ad q → s.heap.size ≤ q) (hK : jK D cI cL s) (hZ : jZ zz (fun q : Nat => s.heap.size ≤ q) s s.heap) {x0 : Int32} (hx0 : 0 ≤ x0.toInt) (hxL : x0.toInt + 6 ≤ (L : Int)) (hL : L ≤ 384) {σ : Nat → Nat → Int32} {τ : Nat → Nat → Int64} {H : Heap} {locs : List Loc} (hS : va_S (fun q : Nat => s.heap.size ≤ q) s.heap H locs) {ls : Array Slot} (hAll : jAll σ τ) (hP : jH D cI cL ad σ τ H) (hl : lv_has ls 4 [(3, .int x0), (2, .ref (ad 55)), (1, .ref (ad 0)), (0, .ref b)]) (ih : ∀ (x1 : Int32) (σ : Nat → Nat → Int32) (τ : Nat → Nat → Int64) (H : Heap) (locs : List Loc) (ls : Array Slot), x1.toInt = x0.toInt + 6 → jAll σ τ → jH D cI cL ad σ τ H → va_S (fun q : Nat => s.heap.size ≤ q) s.heap H locs → lv_has ls 4 [(3, .int x1), (2, .ref (ad 55)), (1, .ref (ad 0)), (0, .ref b)] → W p l e room_1 s m #[Value.ref b] below meth c H locs 90 348600 (lw_Z below #[Value.ref b] s) (F0 m 18 ls [])) : W p l e room_1 s m #[Value.ref b] below meth c H locs 90 348600 (lw_Z below #[Value.ref b] s) (F0 m 990 ls []) := by
  obtain ⟨hx, hb, hr, hml, hown, hts0, hX, hbl, hlocks, hgv⟩ := C0
  have hts : ∀ w ∈ wsL_law, w.before #[Value.ref b] s = true := fun w h => hts0 w (wsL_law_in w h)
  have hbA : ¬ (fun q : Nat => s.heap.size ≤ q) b := Nat.not_le.mpr hbl
  have hown : s.vm.findClass RL = some m.cls := hown
  obtain ⟨hI2, hI9, hI12, hI16, hI18, hI22, hI31, hI38, hI43, hI47, hI50, hI101, hI102, hI103, hI104, hI105, hI106, hI107, hI109, hI110, hI111, hI119, hs_jKept, hs_jBook, ht0, ht1, ht2, ht3, ht4, ht5, ht6, ht7, ht8, ht9, ht10, hr0, hr1, hr2, hr3, hr4, hr5, hr6, hr7⟩ := hAll
  have hL9 : (L : Int) ≤ 384 := by omega
  obtain ⟨i1, i2, i3, i4, i5, w6⟩ : (0 ≤ (σ 2 0).toInt ∧ (σ 2 0).toInt ≤ 4) ∧ (0 ≤ (σ 2 1).toInt ∧ (σ 2 1).toInt ≤ 3) ∧ (0 ≤ (σ 2 2).toInt) ∧ (0 ≤ (σ 2 3).toInt) ∧ ((σ 2 2).toInt + (σ 2 3).toInt ≤ 40) ∧ (∀ k : Nat, k < 40 → 0 ≤ (σ 6 k).toInt ∧ (σ 6 k).toInt ≤ 67) := id hI2
  obtain ⟨i7, w8, w9⟩ : (0 ≤ (σ 9 0).toInt ∧ (σ 9 0).toInt ≤ 80) ∧ (∀ k : Nat, k < 80 → 0 ≤ (σ 10 k).toInt ∧ (σ 10 k).toInt ≤ 255) ∧ (∀ k : Nat, k < 8 → 0 ≤ (σ 11 k).toInt ∧ (σ 11 k).toInt ≤ 3) := id hI9
  obtain ⟨i10, i11, i12, w13⟩ : (1 ≤ (σ 16 0).toInt ∧ (σ 16 0).toInt ≤ 8) ∧ (1 ≤ (σ 16 1).toInt ∧ (σ 16 1).toInt ≤ 12) ∧ (0 ≤ (σ 16 2).toInt ∧ (σ 16 2).toInt ≤ 999) ∧ (∀ k : Nat, k < 8 → 0 ≤ (σ 17 k).toInt ∧ (σ 17 k).toInt ≤ 3) := id hI16
  obtain ⟨i14, i15, w16⟩ : (0 ≤ (σ 38 0).toInt ∧ (σ 38 0).toInt ≤ 20) ∧ (0 ≤ (σ 38 1).toInt ∧ (σ 38 1).toInt ≤ 1000) ∧ (∀ k : Nat, k < 20 → 0 ≤ (σ 39 k).toInt ∧ (σ 39 k).toInt ≤ 6) := id hI38
  obtain ⟨i17, w18, w19⟩ : (0 ≤ (σ 47 0).toInt ∧ (σ 47 0).toInt ≤ 12) ∧ (∀ k : Nat, k < 12 → 0 ≤ (σ 48 k).toInt ∧ (σ 48 k).toInt ≤ 3) ∧ (∀ k : Nat, k < 12 → 0 ≤ (σ 49 k).toInt ∧ (σ 49 k).toInt ≤ 1) := id hI47
  have w20 : ∀ k : Nat, k < 6 → 0 ≤ (σ 52 k).toInt ∧ (σ 52 k).toInt ≤ 60 := hI50
  obtain ⟨i21, i22, i23, w24, w25, w26, w27⟩ : (0 ≤ (σ 55 5).toInt) ∧ ((σ 55 5).toInt ≤ (σ 55 4).toInt) ∧ ((σ 55 4).toInt ≤ 40) ∧ (∀ k : Nat, k < 68 → (-200) ≤ (σ 56 k).toInt ∧ (σ 56 k).toInt ≤ 500) ∧ (∀ k : Nat, k < 40 → 0 ≤ (σ 57 k).toInt ∧ (σ 57 k).toInt ≤ 67) ∧ (∀ k : Nat, k < 40 → (-200) ≤ (σ 58 k).toInt ∧ (σ 58 k).toInt ≤ 500) ∧ (∀ k : Nat, k < 40 → (-200) ≤ (σ 59 k).toInt ∧ (σ 59 k).toInt ≤ 500) := id hI101
  obtain ⟨i28, w29, w30⟩ : (0 ≤ (σ 55 6).toInt ∧ (σ 55 6).toInt ≤ 4) ∧ (∀ k : Nat, k < 4 → 0 ≤ (σ 60 k).toInt ∧ (σ 60 k).toInt ≤ 50) ∧ (∀ k : Nat, k < 4 → 0 ≤ (σ 61 k).toInt ∧ (σ 61 k).toInt ≤ 20) := id hI102
  obtain ⟨i31, i32, i33, w34, w35⟩ : (1 ≤ (σ 55 10).toInt ∧ (σ 55 10).toInt ≤ 8) ∧ (1 ≤ (σ 55 12).toInt ∧ (σ 55 12).toInt ≤ 12) ∧ (0 ≤ (σ 55 13).toInt ∧ (σ 55 13).toInt ≤ 999) ∧ (∀ k : Nat, k < 8 → 0 ≤ (σ 62 k).toInt ∧ (σ 62 k).toInt ≤ 3) ∧ (∀ k : Nat, k < 8 → 0 ≤ (σ 67 k).toInt ∧ (σ 67 k).toInt ≤ 3) := id hI104
  obtain ⟨i36, w37⟩ : (0 ≤ (σ 55 15).toInt ∧ (σ 55 15).toInt ≤ 80) ∧ (∀ k : Nat, k < 2 → (-1) ≤ (σ 65 k).toInt ∧ (σ 65 k).toInt ≤ 80) := id hI105
  obtain ⟨i38, w39, w40, w41⟩ : (0 ≤ (σ 55 32).toInt ∧ (σ 55 32).toInt ≤ 20) ∧ (∀ k : Nat, k < 20 → 0 ≤ (σ 70 k).toInt ∧ (σ 70 k).toInt ≤ 6) ∧ (∀ k : Nat, k < 20 → 0 ≤ (σ 71 k).toInt ∧ (σ 71 k).toInt ≤ 8) ∧ (∀ k : Nat, k < 160 → 0 ≤ (σ 72 k).toInt ∧ (σ 72 k).toInt ≤ 3) := id hI106
  obtain ⟨i42, i43, w44⟩ : (0 ≤ (σ 55 47).toInt ∧ (σ 55 47).toInt ≤ 12) ∧ ((σ 55 47).toInt ≤ (σ 55 12).toInt) ∧ (∀ k : Nat, k < 12 → 0 ≤ (σ 80 k).toInt ∧ (σ 80 k).toInt ≤ 3) := id hI107
  refine lv_aload_n hx hb dL_law_990 rfl (lv_at hl 2 rfl) ?_
  refine lv_aload_n hx hb dL_law_991 rfl (lv_at hl 3 rfl) ?_
  refine lv_iload_n hx hb dL_law_992 rfl (lv_at hl 0 rfl) ?_
  refine lv_iconst (v := 1) hx hb dL_law_993 (by decide) ?_
  have g45 := jrg (rfl : x0.toInt = x0.toInt)
  refine lv_iadd hx hb dL_law_994 ?_
  refine lv_topi (fun x46 ex46 => ?_)
  have tx46 : x46.toInt = x0.toInt + 1 := (jadd ex46 rfl jz_1 (by omega) (by omega)).trans (by omega)
  refine va_sld hx hb hX hbl hbA hS (jin tx46 (by omega) (by omega)) dL_law_995 ?_
  have g47 := jrg (rfl : (xs x46.toNatClampNeg).toInt = (xs x46.toNatClampNeg).toInt)
  refine lv_aload_n hx hb dL_law_996 rfl (lv_at hl 3 rfl) ?_
  refine lv_iload_n hx hb dL_law_997 rfl (lv_at hl 0 rfl) ?_
  refine lv_iconst (v := 2) hx hb dL_law_998 (by decide) ?_
  refine lv_iadd hx hb dL_law_999 ?_
  refine lv_topi (fun x48 ex48 => ?_)
  have tx48 : x48.toInt = x0.toInt + 2 := (jadd ex48 rfl jz_2 (by omega) (by omega)).trans (by omega)
  refine va_sld hx hb hX hbl hbA hS (jin tx48 (by omega) (by omega)) dL_law_1000 ?_
  have g49 := jrg (rfl : (xs x48.toNatClampNeg).toInt = (xs x48.toNatClampNeg).toInt)
  refine lv_aload_n hx hb dL_law_1001 rfl (lv_at hl 3 rfl) ?_
  refine lv_iload_n hx hb dL_law_1002 rfl (lv_at hl 0 rfl) ?_
  refine lv_iconst (v := 3) hx hb dL_law_1003 (by decide) ?_
  refine lv_iadd hx hb dL_law_1004 ?_
  refine lv_topi (fun x50 ex50 => ?_)
  have tx50 : x50.toInt = x0.toInt + 3 := (jadd ex50 rfl jz_3 (by omega) (by omega)).trans (by omega)
  refine va_sld hx hb hX hbl hbA hS (jin tx50 (by omega) (by omega)) dL_law_1005 ?_
  have g51 := jrg (rfl : (xs x50.toNatClampNeg).toInt = (xs x50.toNatClampNeg).toInt)
  refine jcallV (As := [.int (xs x46.toNatClampNeg), .int (xs x48.toNatClampNeg), .int (xs x50.toNatClampNeg)]) (rest := []) ⟨hx, hb, hml, hown, hts⟩ hK hP hA hS hZ (c_X11_act l D cI cL ad zz hJ σ τ (xs x46.toNatClampNeg) ((xs x46.toNatClampNeg).toInt) rfl (xs x48.toNatClampNeg) ((xs x48.toNatClampNeg).toInt) rfl (xs x50.toNatClampNeg) ((xs x50.toNatClampNeg).toInt) rfl hI38) cw_RL_129 (jc_0 cI cL ad σ τ) rfl ⟨Nat.le_of_ble_eq_true rfl, Nat.le_of_ble_eq_true rfl⟩ rfl rfl rfl hl.1 rfl (Nat.le_of_ble_eq_true rfl) dL_law_1006 ⟨Nat.le_of_ble_eq_true rfl, Nat.le_of_ble_eq_true rfl⟩ (fun r53 σ52 τ52 H locs h52 hP hS => ?_)
  obtain ⟨rfl, f54, f55, I56, h52⟩ := h52
  obtain ⟨i58, i59, w60⟩ : (0 ≤ (σ52 38 0).toInt ∧ (σ52 38 0).toInt ≤ 20) ∧ (0 ≤ (σ52 38 1).toInt ∧ (σ52 38 1).toInt ≤ 1000) ∧ (∀ k : Nat, k < 20 → 0 ≤ (σ52 39 k).toInt ∧ (σ52 39 k).toInt ≤ 6) := id I56
  have z61 : (σ52 38 0).toInt = (σ 38 0).toInt := (congrArg Int32.toInt (show σ52 38 0 = (σ 38 0) from (f55 0 (by decide))))
  rcases h52 with h62 | h63
  · obtain ⟨q66, k64, k65⟩ := h62
    have q66 := q66.symm
    subst q66
    refine lv_pop hx hb dL_law_1009 rfl ?_
    refine lv_aload_n hx hb dL_law_1010 rfl (lv_at hl 1 rfl) ?_
    refine lv_aload_n hx hb dL_law_1011 rfl (lv_at hl 3 rfl) ?_
    refine lv_iload_n hx hb dL_law_1012 rfl (lv_at hl 0 rfl) ?_
    refine lv_iconst (v := 1) hx hb dL_law_1013 (by decide) ?_
    refine lv_iadd hx hb dL_law_1014 ?_
    refine jtopr ex46.symm ?_
    refine va_sld hx hb hX hbl hbA hS (jin tx46 (by omega) (by omega)) dL_law_1015 ?_
    refine lv_aload_n hx hb dL_law_1016 rfl (lv_at hl 3 rfl) ?_
    refine lv_iload_n hx hb dL_law_1017 rfl (lv_at hl 0 rfl) ?_
    refine lv_iconst (v := 2) hx hb dL_law_1018 (by decide) ?_
    refine lv_iadd hx hb dL_law_1019 ?_
    refine jtopr ex48.symm ?_
    refine va_sld hx hb hX hbl hbA hS (jin tx48 (by omega) (by omega)) dL_law_1020 ?_
    refine lv_aload_n hx hb dL_law_1021 rfl (lv_at hl 3 rfl) ?_
    refine lv_iload_n hx hb dL_law_1022 rfl (lv_at hl 0 rfl) ?_
    refine lv_iconst (v := 3) hx hb dL_law_1023 (by decide) ?_
    refine lv_iadd hx hb dL_law_1024 ?_
    refine jtopr ex50.symm ?_
    refine va_sld hx hb hX hbl hbA hS (jin tx50 (by omega) (by omega)) dL_law_1025 ?_
    have I67 : jI106 σ52 := jI106_fr (congrFun (f54 55 (by decide)) 32) (f54 70 (by decide)) (f54 71 (by decide)) (f54 72 (by decide)) hI106
    have z68 : (σ52 55 32).toInt = (σ 55 32).toInt := (congrArg Int32.toInt (show σ52 55 32 = (σ 55 32) from (congrFun (f54 55 (by decide)) 32)))
    refine jcallV (As := [.int (xs x46.toNatClampNeg), .int (xs x48.toNatClampNeg), .int (xs x50.toNatClampNeg)]) (rest := []) ⟨hx, hb, hml, hown, hts⟩ hK hP hA hS hZ (c_X12_act l D cI cL ad zz hJ σ52 τ (xs x46.toNatClampNeg) ((xs x46.toNatClampNeg).toInt) rfl (xs x48.toNatClampNeg) ((xs x48.toNatClampNeg).toInt) rfl (xs x50.toNatClampNeg) ((xs x50.toNatClampNeg).toInt) rfl I67) cw_RL_132 (jc_55 cI cL ad σ52 τ) rfl ⟨Nat.le_of_ble_eq_true rfl, Nat.le_of_ble_eq_true rfl⟩ rfl rfl rfl hl.1 rfl (Nat.le_of_ble_eq_true rfl) dL_law_1026 ⟨Nat.le_of_ble_eq_true rfl, Nat.le_of_ble_eq_true rfl⟩ (fun r70 σ69 τ69 H locs h69 hP hS => ?_)
    obtain ⟨rfl, f71, f72, h69⟩ := h69
    rcases h69 with h74 | h75
    · obtain ⟨q78, k76, k77⟩ := h74
      have q78 := q78.symm
      subst q78
      refine lv_pop hx hb dL_law_1029 rfl ?_
      refine lv_goto (tgt := 1357) hx hb dL_law_1030 (by decide) ?_
      obtain ⟨x79, ex79⟩ : ∃ y : Int32, y = x0 + 6 := ⟨_, rfl⟩
      have tx79 : x79.toInt = x0.toInt + 6 := (jadd ex79 rfl jz_6 (by omega) (by omega)).trans (by omega)
      refine lv_iinc (v := x79) (lv' := [(3, .int x79), (2, .ref (ad 55)), (1, .ref (ad 0)), (0, .ref b)]) hx hb dL_law_1357 hl (k := 0) rfl (by rw [ex79]; rfl) (by decide) rfl (fun ls hl => ?_)
      refine lv_goto (tgt := 18) hx hb dL_law_1360 (by decide) ?_
      have I80 : jI2 σ69 := jI2_fr ((congrFun (f71 2 (by decide)) 0).trans (congrFun (f54 2 (by decide)) 0)) ((congrFun (f71 2 (by decide)) 1).trans (congrFun (f54 2 (by decide)) 1)) ((congrFun (f71 2 (by decide)) 2).trans (congrFun (f54 2 (by decide)) 2)) ((congrFun (f71 2 (by decide)) 3).trans (congrFun (f54 2 (by decide)) 3)) ((f71 6 (by decide)).trans (f54 6 (by decide))) hI2
      have I81 : jI9 σ69 := jI9_fr ((congrFun (f71 9 (by decide)) 0).trans (congrFun (f54 9 (by decide)) 0)) ((f71 10 (by decide)).trans (f54 10 (by decide))) ((f71 11 (by decide)).trans (f54 11 (by decide))) hI9
      have I82 : jI12 σ69 := jI12_fr ((congrFun (f71 12 (by decide)) 0).trans (congrFun (f54 12 (by decide)) 0)) ((f71 13 (by decide)).trans (f54 13 (by decide))) hI12
      have I83 : jI16 σ69 := jI16_fr ((congrFun (f71 16 (by decide)) 0).trans (congrFun (f54 16 (by decide)) 0)) ((congrFun (f71 16 (by decide)) 1).trans (congrFun (f54 16 (by decide)) 1)) ((congrFun (f71 16 (by decide)) 2).trans (congrFun (f54 16 (by decide)) 2)) ((f71 17 (by decide)).trans (f54 17 (by decide))) hI16
      have I84 : jI18 σ69 := jI18_fr ((congrFun (f71 18 (by decide)) 0).trans (congrFun (f54 18 (by decide)) 0)) ((f71 19 (by decide)).trans (f54 19 (by decide))) hI18
      have I85 : jI22 σ69 := jI22_fr ((congrFun (f71 22 (by decide)) 0).trans (congrFun (f54 22 (by decide)) 0)) ((f71 23 (by decide)).trans (f54 23 (by decide))) hI22
      have I86 : jI31 σ69 := jI31_fr ((congrFun (f71 31 (by decide)) 8).trans (congrFun (f54 31 (by decide)) 8)) ((f71 33 (by decide)).trans (f54 33 (by decide))) ((f71 36 (by decide)).trans (f54 36 (by decide))) hI31
      have I87 : jI38 σ69 := jI38_fr (congrFun (f71 38 (by decide)) 0) (congrFun (f71 38 (by decide)) 1) (f71 39 (by decide)) I56
      have I88 : jI43 σ69 := jI43_fr ((congrFun (f71 43 (by decide)) 8).trans (congrFun (f54 43 (by decide)) 8)) hI43
      have I89 : jI47 σ69 := jI47_fr ((congrFun (f71 47 (by decide)) 0).trans (congrFun (f54 47 (by decide)) 0)) ((f71 48 (by decide)).trans (f54 48 (by decide))) ((f71 49 (by decide)).trans (f54 49 (by decide))) hI47
      have I90 : jI50 σ69 := jI50_fr ((f71 52 (by decide)).trans (f54 52 (by decide))) hI50
      have I91 : jI101 σ69 := jI101_fr ((f72 4 (by decide)).trans (congrFun (f54 55 (by decide)) 4)) ((f72 5 (by decide)).trans (congrFun (f54 55 (by decide)) 5)) ((f71 56 (by decide)).trans (f54 56 (by decide))) ((f71 57 (by decide)).trans (f54 57 (by decide))) ((f71 58 (by decide)).trans (f54 58 (by decide))) ((f71 59 (by decide)).trans (f54 59 (by decide))) hI101
      have I92 : jI102 σ69 := jI102_fr ((f72 6 (by decide)).trans (congrFun (f54 55 (by decide)) 6)) ((f71 60 (by decide)).trans (f54 60 (by decide))) ((f71 61 (by decide)).trans (f54 61 (by decide))) hI102
      have I93 : jI103 σ69 := jI103_fr ((f72 9 (by decide)).trans (congrFun (f54 55 (by decide)) 9)) hI103
      have I94 : jI104 σ69 := jI104_fr ((f72 10 (by decide)).trans (congrFun (f54 55 (by decide)) 10)) ((f72 12 (by decide)).trans (congrFun (f54 55 (by decide)) 12)) ((f72 13 (by decide)).trans (congrFun (f54 55 (by decide)) 13)) ((f71 62 (by decide)).trans (f54 62 (by decide))) ((f71 67 (by decide)).trans (f54 67 (by decide))) hI104
      have I95 : jI105 σ69 := jI105_fr ((f72 15 (by decide)).trans (congrFun (f54 55 (by decide)) 15)) ((f71 65 (by decide)).trans (f54 65 (by decide))) hI105
      have I96 : jI106 σ69 := jI106_fr (f72 32 (by decide)) (f71 70 (by decide)) (f71 71 (by decide)) (f71 72 (by decide)) I67
      have I97 : jI107 σ69 := jI107_fr ((f72 12 (by decide)).trans (congrFun (f54 55 (by decide)) 12)) ((f72 47 (by decide)).trans (congrFun (f54 55 (by decide)) 47)) ((f71 80 (by decide)).trans (f54 80 (by decide))) hI107
      have I98 : jI109 σ69 := jI109_fr ((f72 50 (by decide)).trans (congrFun (f54 55 (by decide)) 50)) hI109
      have I99 : jI110 σ69 := jI110_fr ((f71 86 (by decide)).trans (f54 86 (by decide))) ((f71 87 (by decide)).trans (f54 87 (by decide))) hI110
      have I100 : jI111 σ69 := jI111_fr ((f71 79 (by decide)).trans (f54 79 (by decide))) hI111
      have I101 : jI119 σ69 := jI119_fr ((f71 68 (by decide)).trans (f54 68 (by decide))) hI119
      have p102 : jKept σ69 := jKept.fr ((f71 75 (by decide)).trans (f54 75 (by decide))) ((f71 76 (by decide)).trans (f54 76 (by decide))) ((f71 77 (by decide)).trans (f54 77 (by decide))) hs_jKept
      have p103 : jBook σ69 := jBook.fr ((f72 47 (by decide)).trans (congrFun (f54 55 (by decide)) 47)) ((f72 10 (by decide)).trans (congrFun (f54 55 (by decide)) 10)) ((f71 81 (by decide)).trans (f54 81 (by decide))) hs_jBook
      have z104 : (σ69 2 0).toInt = (σ 2 0).toInt := (congrArg Int32.toInt (show σ69 2 0 = (σ 2 0) from ((congrFun (f71 2 (by decide)) 0).trans (congrFun (f54 2 (by decide)) 0))))
      have z105 : (σ69 55 6).toInt = (σ 55 6).toInt := (congrArg Int32.toInt (show σ69 55 6 = (σ 55 6) from ((f72 6 (by decide)).trans (congrFun (f54 55 (by decide)) 6))))
      have z106 : (σ69 2 2).toInt = (σ 2 2).toInt := (congrArg Int32.toInt (show σ69 2 2 = (σ 2 2) from ((congrFun (f71 2 (by decide)) 2).trans (congrFun (f54 2 (by decide)) 2))))
      have z107 : (σ69 55 5).toInt = (σ 55 5).toInt := (congrArg Int32.toInt (show σ69 55 5 = (σ 55 5) from ((f72 5 (by decide)).trans (congrFun (f54 55 (by decide)) 5))))
      have z108 : (σ69 2 3).toInt = (σ 2 3).toInt := (congrArg Int32.toInt (show σ69 2 3 = (σ 2 3) from ((congrFun (f71 2 (by decide)) 3).trans (congrFun (f54 2 (by decide)) 3))))
      have z109 : (σ69 55 4).toInt = (σ 55 4).toInt := (congrArg Int32.toInt (show σ69 55 4 = (σ 55 4) from ((f72 4 (by decide)).trans (congrFun (f54 55 (by decide)) 4))))
      have z110 : (σ69 9 0).toInt = (σ 9 0).toInt := (congrArg Int32.toInt (show σ69 9 0 = (σ 9 0) from ((congrFun (f71 9 (by decide)) 0).trans (congrFun (f54 9 (by decide)) 0))))
      have z111 : (σ69 55 15).toInt = (σ 55 15).toInt := (congrArg Int32.toInt (show σ69 55 15 = (σ 55 15) from ((f72 15 (by decide)).trans (congrFun (f54 55 (by decide)) 15))))
      have z112 : (σ69 16 0).toInt = (σ 16 0).toInt := (congrArg Int32.toInt (show σ69 16 0 = (σ 16 0) from ((congrFun (f71 16 (by decide)) 0).trans (congrFun (f54 16 (by decide)) 0))))
      have z113 : (σ69 55 10).toInt = (σ 55 10).toInt := (congrArg Int32.toInt (show σ69 55 10 = (σ 55 10) from ((f72 10 (by decide)).trans (congrFun (f54 55 (by decide)) 10))))
      have z114 : (σ69 16 1).toInt = (σ 16 1).toInt := (congrArg Int32.toInt (show σ69 16 1 = (σ 16 1) from ((congrFun (f71 16 (by decide)) 1).trans (congrFun (f54 16 (by decide)) 1))))
      have z115 : (σ69 55 12).toInt = (σ 55 12).toInt := (congrArg Int32.toInt (show σ69 55 12 = (σ 55 12) from ((f72 12 (by decide)).trans (congrFun (f54 55 (by decide)) 12))))
      have z116 : (σ69 16 2).toInt = (σ 16 2).toInt := (congrArg Int32.toInt (show σ69 16 2 = (σ 16 2) from ((congrFun (f71 16 (by decide)) 2).trans (congrFun (f54 16 (by decide)) 2))))
      have z117 : (σ69 55 13).toInt = (σ 55 13).toInt := (congrArg Int32.toInt (show σ69 55 13 = (σ 55 13) from ((f72 13 (by decide)).trans (congrFun (f54 55 (by decide)) 13))))
      have z118 : (σ69 38 0).toInt = (σ 38 0).toInt := (congrArg Int32.toInt (show σ69 38 0 = (σ 38 0) from ((congrFun (f71 38 (by decide)) 0).trans (f55 0 (by decide)))))
      have z119 : (σ69 55 32).toInt = (σ 55 32).toInt := (congrArg Int32.toInt (show σ69 55 32 = (σ 55 32) from ((f72 32 (by decide)).trans (congrFun (f54 55 (by decide)) 32))))
      have z120 : (σ69 47 0).toInt = (σ 47 0).toInt := (congrArg Int32.toInt (show σ69 47 0 = (σ 47 0) from ((congrFun (f71 47 (by decide)) 0).trans (congrFun (f54 47 (by decide)) 0))))
      have z121 : (σ69 55 47).toInt = (σ 55 47).toInt := (congrArg Int32.toInt (show σ69 55 47 = (σ 55 47) from ((f72 47 (by decide)).trans (congrFun (f54 55 (by decide)) 47))))
      have z122 : (σ69 55 30).toInt = (σ 55 30).toInt := (congrArg Int32.toInt (show σ69 55 30 = (σ 55 30) from ((f72 30 (by decide)).trans (congrFun (f54 55 (by decide)) 30))))
      have z123 : (σ69 55 31).toInt = (σ 55 31).toInt := (congrArg Int32.toInt (show σ69 55 31 = (σ 55 31) from ((f72 31 (by decide)).trans (congrFun (f54 55 (by decide)) 31))))
      exact ih x79 σ69 τ _ _ ls (by have h9 := tx79; omega) ⟨I80, I81, I82, I83, I84, I85, I86, I87, I88, I89, I90, I91, I92, I93, I94, I95, I96, I97, I98, I99, I100, I101, p102, p103, (by omega), (by omega), (by omega), (by omega), (by omega), (by omega), (by omega), (by omega), (by omega), (by omega), (by omega), (show jNumP (σ69 3) (σ69 56) (σ69 6) (σ69 57) (σ69 7) (σ69 58) (σ69 8) (σ69 59) (σ69 55 6).toInt (σ69 55 4).toInt by rw [show σ69 3 = σ 3 from ((f71 3 (by decide)).trans (f54 3 (by decide))), show σ69 56 = σ 56 from ((f71 56 (by decide)).trans (f54 56 (by decide))), show σ69 6 = σ 6 from ((f71 6 (by decide)).trans (f54 6 (by decide))), show σ69 57 = σ 57 from ((f71 57 (by decide)).trans (f54 57 (by decide))), show σ69 7 = σ 7 from ((f71 7 (by decide)).trans (f54 7 (by decide))), show σ69 58 = σ 58 from ((f71 58 (by decide)).trans (f54 58 (by decide))), show σ69 8 = σ 8 from ((f71 8 (by decide)).trans (f54 8 (by decide))), show σ69 59 = σ 59 from ((f71 59 (by decide)).trans (f54 59 (by decide))), show (σ69 55 6).toInt = (σ 55 6).toInt from by omega, show (σ69 55 4).toInt = (σ 55 4).toInt from by omega]; exact hr0), (show jOvP (σ69 56) (σ69 57) (σ69 58) (σ69 59) (σ69 55 4).toInt by rw [show σ69 56 = σ 56 from ((f71 56 (by decide)).trans (f54 56 (by decide))), show σ69 57 = σ 57 from ((f71 57 (by decide)).trans (f54 57 (by decide))), show σ69 58 = σ 58 from ((f71 58 (by decide)).trans (f54 58 (by decide))), show σ69 59 = σ 59 from ((f71 59 (by decide)).trans (f54 59 (by decide))), show (σ69 55 4).toInt = (σ 55 4).toInt from by omega]; exact hr1), (show jTp (σ69 10) (σ69 63) (σ69 55 15).toInt by rw [show σ69 10 = σ 10 from ((f71 10 (by decide)).trans (f54 10 (by decide))), show σ69 63 = σ 63 from ((f71 63 (by decide)).trans (f54 63 (by decide)))]; exact hr2.le (by omega)), (show jSo (σ69 17) (σ69 62) (σ69 16 0).toInt by rw [show σ69 17 = σ 17 from ((f71 17 (by decide)).trans (f54 17 (by decide))), show σ69 62 = σ 62 from ((f71 62 (by decide)).trans (f54 62 (by decide))), show (σ69 16 0).toInt = (σ 16 0).toInt from by omega]; exact hr3), (show jShP (σ69 51) (σ69 52) (σ69 53) (σ69 86) (σ69 87) (σ69 55 32).toInt by rw [show σ69 51 = σ 51 from ((f71 51 (by decide)).trans (f54 51 (by decide))), show σ69 52 = σ 52 from ((f71 52 (by decide)).trans (f54 52 (by decide))), show σ69 53 = σ 53 from ((f71 53 (by decide)).trans (f54 53 (by decide))), show σ69 86 = σ 86 from ((f71 86 (by decide)).trans (f54 86 (by decide))), show σ69 87 = σ 87 from ((f71 87 (by decide)).trans (f54 87 (by decide)))]; exact (hr4.up (by omega) (by omega))), (show jEl (σ69 51) (σ69 52) (τ 54) (τ 88) by rw [show σ69 51 = σ 51 from ((f71 51 (by decide)).trans (f54 51 (by decide))), show σ69 52 = σ 52 from ((f71 52 (by decide)).trans (f54 52 (by decide)))]; exact hr5), (show jByP (σ69 51) (σ69 52) (τ 54) by rw [show σ69 51 = σ 51 from ((f71 51 (by decide)).trans (f54 51 (by decide))), show σ69 52 = σ 52 from ((f71 52 (by decide)).trans (f54 52 (by decide)))]; exact hr6), (show jBk (σ69 48) (σ69 80) (σ69 49) (σ69 81) (σ69 55 47).toInt by rw [show σ69 48 = σ 48 from ((f71 48 (by decide)).trans (f54 48 (by decide))), show σ69 49 = σ 49 from ((f71 49 (by decide)).trans (f54 49 (by decide))), show σ69 80 = σ 80 from ((f71 80 (by decide)).trans (f54 80 (by decide))), show σ69 81 = σ 81 from ((f71 81 (by decide)).trans (f54 81 (by decide))), show (σ69 55 47).toInt = (σ 55 47).toInt from by omega]; exact hr7)⟩ hP hS (lv_sub hl [0, 1, 2, 3] rfl)
    · obtain ⟨q129, k125, k126, k127, k128⟩ := h75
      exact absurd (by omega : False) id
  · obtain ⟨q134, k130, k131, k132, k133⟩ := h63
    refine lv_pop hx hb dL_law_1009 rfl ?_
    refine lv_aload_n hx hb dL_law_1010 rfl (lv_at hl 1 rfl) ?_
    refine lv_aload_n hx hb dL_law_1011 rfl (lv_at hl 3 rfl) ?_
    refine lv_iload_n hx hb dL_law_1012 rfl (lv_at hl 0 rfl) ?_
    refine lv_iconst (v := 1) hx hb dL_law_1013 (by decide) ?_
    refine lv_iadd hx hb dL_law_1014 ?_
    refine jtopr ex46.symm ?_
    refine va_sld hx hb hX hbl hbA hS (jin tx46 (by omega) (by omega)) dL_law_1015 ?_
    refine lv_aload_n hx hb dL_law_1016 rfl (lv_at hl 3 rfl) ?_
    refine lv_iload_n hx hb dL_law_1017 rfl (lv_at hl 0 rfl) ?_
    refine lv_iconst (v := 2) hx hb dL_law_1018 (by decide) ?_
    refine lv_iadd hx hb dL_law_1019 ?_
    refine jtopr ex48.symm ?_
    refine va_sld hx hb hX hbl hbA hS (jin tx48 (by omega) (by omega)) dL_law_1020 ?_
    refine lv_aload_n hx hb dL_law_1021 rfl (lv_at hl 3 rfl) ?_
    refine lv_iload_n hx hb dL_law_1022 rfl (lv_at hl 0 rfl) ?_
    refine lv_iconst (v := 3) hx hb dL_law_1023 (by decide) ?_
    refine lv_iadd hx hb dL_law_1024 ?_
    refine jtopr ex50.symm ?_
    refine va_sld hx hb hX hbl hbA hS (jin tx50 (by omega) (by omega)) dL_law_1025 ?_
    have I135 : jI106 σ52 := jI106_fr (congrFun (f54 55 (by decide)) 32) (f54 70 (by decide)) (f54 71 (by decide)) (f54 72 (by decide)) hI106
    have z136 : (σ52 55 32).toInt = (σ 55 32).toInt := (congrArg Int32.toInt (show σ52 55 32 = (σ 55 32) from (congrFun (f54 55 (by decide)) 32)))
    refine jcallV (As := [.int (xs x46.toNatClampNeg), .int (xs x48.toNatClampNeg), .int (xs x50.toNatClampNeg)]) (rest := []) ⟨hx, hb, hml, hown, hts⟩ hK hP hA hS hZ (c_X12_act l D cI cL ad zz hJ σ52 τ (xs x46.toNatClampNeg) ((xs x46.toNatClampNeg).toInt) rfl (xs x48.toNatClampNeg) ((xs x48.toNatClampNeg).toInt) rfl (xs x50.toNatClampNeg) ((xs x50.toNatClampNeg).toInt) rfl I135) cw_RL_132 (jc_55 cI cL ad σ52 τ) rfl ⟨Nat.le_of_ble_eq_true rfl, Nat.le_of_ble_eq_true rfl⟩ rfl rfl rfl hl.1 rfl (Nat.le_of_ble_eq_true rfl) dL_law_1026 ⟨Nat.le_of_ble_eq_true rfl, Nat.le_of_ble_eq_true rfl⟩ (fun r138 σ137 τ137 H locs h137 hP hS => ?_)
    obtain ⟨rfl, f139, f140, h137⟩ := h137
    rcases h137 with h142 | h143
    · obtain ⟨q146, k144, k145⟩ := h142
      exact absurd (by omega : False) id
    · obtain ⟨q151, k147, k148, k149, k150⟩ := h143
      refine lv_pop hx hb dL_law_1029 rfl ?_
      refine lv_goto (tgt := 1357) hx hb dL_law_1030 (by decide) ?_
      obtain ⟨x152, ex152⟩ : ∃ y : Int32, y = x0 + 6 := ⟨_, rfl⟩
      have tx152 : x152.toInt = x0.toInt + 6 := (jadd ex152 rfl jz_6 (by omega) (by omega)).trans (by omega)
      refine lv_iinc (v := x152) (lv' := [(3, .int x152), (2, .ref (ad 55)), (1, .ref (ad 0)), (0, .ref b)]) hx hb dL_law_1357 hl (k := 0) rfl (by rw [ex152]; rfl) (by decide) rfl (fun ls hl => ?_)
      refine lv_goto (tgt := 18) hx hb dL_law_1360 (by decide) ?_
      have I153 : jI2 σ137 := jI2_fr ((congrFun (f139 2 (by decide)) 0).trans (congrFun (f54 2 (by decide)) 0)) ((congrFun (f139 2 (by decide)) 1).trans (congrFun (f54 2 (by decide)) 1)) ((congrFun (f139 2 (by decide)) 2).trans (congrFun (f54 2 (by decide)) 2)) ((congrFun (f139 2 (by decide)) 3).trans (congrFun (f54 2 (by decide)) 3)) ((f139 6 (by decide)).trans (f54 6 (by decide))) hI2
      have I154 : jI9 σ137 := jI9_fr ((congrFun (f139 9 (by decide)) 0).trans (congrFun (f54 9 (by decide)) 0)) ((f139 10 (by decide)).trans (f54 10 (by decide))) ((f139 11 (by decide)).trans (f54 11 (by decide))) hI9
      have I155 : jI12 σ137 := jI12_fr ((congrFun (f139 12 (by decide)) 0).trans (congrFun (f54 12 (by decide)) 0)) ((f139 13 (by decide)).trans (f54 13 (by decide))) hI12
      have I156 : jI16 σ137 := jI16_fr ((congrFun (f139 16 (by decide)) 0).trans (congrFun (f54 16 (by decide)) 0)) ((congrFun (f139 16 (by decide)) 1).trans (congrFun (f54 16 (by decide)) 1)) ((congrFun (f139 16 (by decide)) 2).trans (congrFun (f54 16 (by decide)) 2)) ((f139 17 (by decide)).trans (f54 17 (by decide))) hI16
      have I157 : jI18 σ137 := jI18_fr ((congrFun (f139 18 (by decide)) 0).trans (congrFun (f54 18 (by decide)) 0)) ((f139 19 (by decide)).trans (f54 19 (by decide))) hI18
      have I158 : jI22 σ137 := jI22_fr ((congrFun (f139 22 (by decide)) 0).trans (congrFun (f54 22 (by decide)) 0)) ((f139 23 (by decide)).trans (f54 23 (by decide))) hI22
      have I159 : jI31 σ137 := jI31_fr ((congrFun (f139 31 (by decide)) 8).trans (congrFun (f54 31 (by decide)) 8)) ((f139 33 (by decide)).trans (f54 33 (by decide))) ((f139 36 (by decide)).trans (f54 36 (by decide))) hI31
      have I160 : jI38 σ137 := jI38_fr (congrFun (f139 38 (by decide)) 0) (congrFun (f139 38 (by decide)) 1) (f139 39 (by decide)) I56
      have I161 : jI43 σ137 := jI43_fr ((congrFun (f139 43 (by decide)) 8).trans (congrFun (f54 43 (by decide)) 8)) hI43
      have I162 : jI47 σ137 := jI47_fr ((congrFun (f139 47 (by decide)) 0).trans (congrFun (f54 47 (by decide)) 0)) ((f139 48 (by decide)).trans (f54 48 (by decide))) ((f139 49 (by decide)).trans (f54 49 (by decide))) hI47
      have I163 : jI50 σ137 := jI50_fr ((f139 52 (by decide)).trans (f54 52 (by decide))) hI50
      have I164 : jI101 σ137 := jI101_fr ((f140 4 (by decide)).trans (congrFun (f54 55 (by decide)) 4)) ((f140 5 (by decide)).trans (congrFun (f54 55 (by decide)) 5)) ((f139 56 (by decide)).trans (f54 56 (by decide))) ((f139 57 (by decide)).trans (f54 57 (by decide))) ((f139 58 (by decide)).trans (f54 58 (by decide))) ((f139 59 (by decide)).trans (f54 59 (by decide))) hI101
      have I165 : jI102 σ137 := jI102_fr ((f140 6 (by decide)).trans (congrFun (f54 55 (by decide)) 6)) ((f139 60 (by decide)).trans (f54 60 (by decide))) ((f139 61 (by decide)).trans (f54 61 (by decide))) hI102
      have I166 : jI103 σ137 := jI103_fr ((f140 9 (by decide)).trans (congrFun (f54 55 (by decide)) 9)) hI103
      have I167 : jI104 σ137 := jI104_fr ((f140 10 (by decide)).trans (congrFun (f54 55 (by decide)) 10)) ((f140 12 (by decide)).trans (congrFun (f54 55 (by decide)) 12)) ((f140 13 (by decide)).trans (congrFun (f54 55 (by decide)) 13)) ((f139 62 (by decide)).trans (f54 62 (by decide))) ((f139 67 (by decide)).trans (f54 67 (by decide))) hI104
      have I168 : jI105 σ137 := jI105_fr ((f140 15 (by decide)).trans (congrFun (f54 55 (by decide)) 15)) ((f139 65 (by decide)).trans (f54 65 (by decide))) hI105
      have I169 : jI106 σ137 := jI106_fr (f140 32 (by decide)) (f139 70 (by decide)) (f139 71 (by decide)) (f139 72 (by decide)) I135
      have I170 : jI107 σ137 := jI107_fr ((f140 12 (by decide)).trans (congrFun (f54 55 (by decide)) 12)) ((f140 47 (by decide)).trans (congrFun (f54 55 (by decide)) 47)) ((f139 80 (by decide)).trans (f54 80 (by decide))) hI107
      have I171 : jI109 σ137 := jI109_fr ((f140 50 (by decide)).trans (congrFun (f54 55 (by decide)) 50)) hI109
      have I172 : jI110 σ137 := jI110_fr ((f139 86 (by decide)).trans (f54 86 (by decide))) ((f139 87 (by decide)).trans (f54 87 (by decide))) hI110
      have I173 : jI111 σ137 := jI111_fr ((f139 79 (by decide)).trans (f54 79 (by decide))) hI111
      have I174 : jI119 σ137 := jI119_fr ((f139 68 (by decide)).trans (f54 68 (by decide))) hI119
      have p175 : jKept σ137 := jKept.fr ((f139 75 (by decide)).trans (f54 75 (by decide))) ((f139 76 (by decide)).trans (f54 76 (by decide))) ((f139 77 (by decide)).trans (f54 77 (by decide))) hs_jKept
      have p176 : jBook σ137 := jBook.fr ((f140 47 (by decide)).trans (congrFun (f54 55 (by decide)) 47)) ((f140 10 (by decide)).trans (congrFun (f54 55 (by decide)) 10)) ((f139 81 (by decide)).trans (f54 81 (by decide))) hs_jBook
      have z177 : (σ137 2 0).toInt = (σ 2 0).toInt := (congrArg Int32.toInt (show σ137 2 0 = (σ 2 0) from ((congrFun (f139 2 (by decide)) 0).trans (congrFun (f54 2 (by decide)) 0))))
      have z178 : (σ137 55 6).toInt = (σ 55 6).toInt := (congrArg Int32.toInt (show σ137 55 6 = (σ 55 6) from ((f140 6 (by decide)).trans (congrFun (f54 55 (by decide)) 6))))
      have z179 : (σ137 2 2).toInt = (σ 2 2).toInt := (congrArg Int32.toInt (show σ137 2 2 = (σ 2 2) from ((congrFun (f139 2 (by decide)) 2).trans (congrFun (f54 2 (by decide)) 2))))
      have z180 : (σ137 55 5).toInt = (σ 55 5).toInt := (congrArg Int32.toInt (show σ137 55 5 = (σ 55 5) from ((f140 5 (by decide)).trans (congrFun (f54 55 (by decide)) 5))))
      have z181 : (σ137 2 3).toInt = (σ 2 3).toInt := (congrArg Int32.toInt (show σ137 2 3 = (σ 2 3) from ((congrFun (f139 2 (by decide)) 3).trans (congrFun (f54 2 (by decide)) 3))))
      have z182 : (σ137 55 4).toInt = (σ 55 4).toInt := (congrArg Int32.toInt (show σ137 55 4 = (σ 55 4) from ((f140 4 (by decide)).trans (congrFun (f54 55 (by decide)) 4))))
      have z183 : (σ137 9 0).toInt = (σ 9 0).toInt := (congrArg Int32.toInt (show σ137 9 0 = (σ 9 0) from ((congrFun (f139 9 (by decide)) 0).trans (congrFun (f54 9 (by decide)) 0))))
      have z184 : (σ137 55 15).toInt = (σ 55 15).toInt := (congrArg Int32.toInt (show σ137 55 15 = (σ 55 15) from ((f140 15 (by decide)).trans (congrFun (f54 55 (by decide)) 15))))
      have z185 : (σ137 16 0).toInt = (σ 16 0).toInt := (congrArg Int32.toInt (show σ137 16 0 = (σ 16 0) from ((congrFun (f139 16 (by decide)) 0).trans (congrFun (f54 16 (by decide)) 0))))
      have z186 : (σ137 55 10).toInt = (σ 55 10).toInt := (congrArg Int32.toInt (show σ137 55 10 = (σ 55 10) from ((f140 10 (by decide)).trans (congrFun (f54 55 (by decide)) 10))))
      have z187 : (σ137 16 1).toInt = (σ 16 1).toInt := (congrArg Int32.toInt (show σ137 16 1 = (σ 16 1) from ((congrFun (f139 16 (by decide)) 1).trans (congrFun (f54 16 (by decide)) 1))))
      have z188 : (σ137 55 12).toInt = (σ 55 12).toInt := (congrArg Int32.toInt (show σ137 55 12 = (σ 55 12) from ((f140 12 (by decide)).trans (congrFun (f54 55 (by decide)) 12))))
      have z189 : (σ137 16 2).toInt = (σ 16 2).toInt := (congrArg Int32.toInt (show σ137 16 2 = (σ 16 2) from ((congrFun (f139 16 (by decide)) 2).trans (congrFun (f54 16 (by decide)) 2))))
      have z190 : (σ137 55 13).toInt = (σ 55 13).toInt := (congrArg Int32.toInt (show σ137 55 13 = (σ 55 13) from ((f140 13 (by decide)).trans (congrFun (f54 55 (by decide)) 13))))
      have z191 : (σ137 38 0).toInt = (σ 38 0).toInt := (congrArg Int32.toInt (show σ137 38 0 = (σ 38 0) from ((congrFun (f139 38 (by decide)) 0).trans (f55 0 (by decide)))))
      have z192 : (σ137 55 32).toInt = (σ 55 32).toInt := (congrArg Int32.toInt (show σ137 55 32 = (σ 55 32) from ((f140 32 (by decide)).trans (congrFun (f54 55 (by decide)) 32))))
      have z193 : (σ137 47 0).toInt = (σ 47 0).toInt := (congrArg Int32.toInt (show σ137 47 0 = (σ 47 0) from ((congrFun (f139 47 (by decide)) 0).trans (congrFun (f54 47 (by decide)) 0))))
      have z194 : (σ137 55 47).toInt = (σ 55 47).toInt := (congrArg Int32.toInt (show σ137 55 47 = (σ 55 47) from ((f140 47 (by decide)).trans (congrFun (f54 55 (by decide)) 47))))
      have z195 : (σ137 55 30).toInt = (σ 55 30).toInt := (congrArg Int32.toInt (show σ137 55 30 = (σ 55 30) from ((f140 30 (by decide)).trans (congrFun (f54 55 (by decide)) 30))))
      have z196 : (σ137 55 31).toInt = (σ 55 31).toInt := (congrArg Int32.toInt (show σ137 55 31 = (σ 55 31) from ((f140 31 (by decide)).trans (congrFun (f54 55 (by decide)) 31))))
      exact ih x152 σ137 τ _ _ ls (by have h9 := tx152; omega) ⟨I153, I154, I155, I156, I157, I158, I159, I160, I161, I162, I163, I164, I165, I166, I167, I168, I169, I170, I171, I172, I173, I174, p175, p176, (by omega), (by omega), (by omega), (by omega), (by omega), (by omega), (by omega), (by omega), (by omega), (by omega), (by omega), (show jNumP (σ137 3) (σ137 56) (σ137 6) (σ137 57) (σ137 7) (σ137 58) (σ137 8) (σ137 59) (σ137 55 6).toInt (σ137 55 4).toInt by rw [show σ137 3 = σ 3 from ((f139 3 (by decide)).trans (f54 3 (by decide))), show σ137 56 = σ 56 from ((f139 56 (by decide)).trans (f54 56 (by decide))), show σ137 6 = σ 6 from ((f139 6 (by decide)).trans (f54 6 (by decide))), show σ137 57 = σ 57 from ((f139 57 (by decide)).trans (f54 57 (by decide))), show σ137 7 = σ 7 from ((f139 7 (by decide)).trans (f54 7 (by decide))), show σ137 58 = σ 58 from ((f139 58 (by decide)).trans (f54 58 (by decide))), show σ137 8 = σ 8 from ((f139 8 (by decide)).trans (f54 8 (by decide))), show σ137 59 = σ 59 from ((f139 59 (by decide)).trans (f54 59 (by decide))), show (σ137 55 6).toInt = (σ 55 6).toInt from by omega, show (σ137 55 4).toInt = (σ 55 4).toInt from by omega]; exact hr0), (show jOvP (σ137 56) (σ137 57) (σ137 58) (σ137 59) (σ137 55 4).toInt by rw [show σ137 56 = σ 56 from ((f139 56 (by decide)).trans (f54 56 (by decide))), show σ137 57 = σ 57 from ((f139 57 (by decide)).trans (f54 57 (by decide))), show σ137 58 = σ 58 from ((f139 58 (by decide)).trans (f54 58 (by decide))), show σ137 59 = σ 59 from ((f139 59 (by decide)).trans (f54 59 (by decide))), show (σ137 55 4).toInt = (σ 55 4).toInt from by omega]; exact hr1), (show jTp (σ137 10) (σ137 63) (σ137 55 15).toInt by rw [show σ137 10 = σ 10 from ((f139 10 (by decide)).trans (f54 10 (by decide))), show σ137 63 = σ 63 from ((f139 63 (by decide)).trans (f54 63 (by decide)))]; exact hr2.le (by omega)), (show jSo (σ137 17) (σ137 62) (σ137 16 0).toInt by rw [show σ137 17 = σ 17 from ((f139 17 (by decide)).trans (f54 17 (by decide))), show σ137 62 = σ 62 from ((f139 62 (by decide)).trans (f54 62 (by decide))), show (σ137 16 0).toInt = (σ 16 0).toInt from by omega]; exact hr3), (show jShP (σ137 51) (σ137 52) (σ137 53) (σ137 86) (σ137 87) (σ137 55 32).toInt by rw [show σ137 51 = σ 51 from ((f139 51 (by decide)).trans (f54 51 (by decide))), show σ137 52 = σ 52 from ((f139 52 (by decide)).trans (f54 52 (by decide))), show σ137 53 = σ 53 from ((f139 53 (by decide)).trans (f54 53 (by decide))), show σ137 86 = σ 86 from ((f139 86 (by decide)).trans (f54 86 (by decide))), show σ137 87 = σ 87 from ((f139 87 (by decide)).trans (f54 87 (by decide)))]; exact (hr4.up (by omega) (by omega))), (show jEl (σ137 51) (σ137 52) (τ 54) (τ 88) by rw [show σ137 51 = σ 51 from ((f139 51 (by decide)).trans (f54 51 (by decide))), show σ137 52 = σ 52 from ((f139 52 (by decide)).trans (f54 52 (by decide)))]; exact hr5), (show jByP (σ137 51) (σ137 52) (τ 54) by rw [show σ137 51 = σ 51 from ((f139 51 (by decide)).trans (f54 51 (by decide))), show σ137 52 = σ 52 from ((f139 52 (by decide)).trans (f54 52 (by decide)))]; exact hr6), (show jBk (σ137 48) (σ137 80) (σ137 49) (σ137 81) (σ137 55 47).toInt by rw [show σ137 48 = σ 48 from ((f139 48 (by decide)).trans (f54 48 (by decide))), show σ137 49 = σ 49 from ((f139 49 (by decide)).trans (f54 49 (by decide))), show σ137 80 = σ 80 from ((f139 80 (by decide)).trans (f54 80 (by decide))), show σ137 81 = σ 81 from ((f139 81 (by decide)).trans (f54 81 (by decide))), show (σ137 55 47).toInt = (σ 55 47).toInt from by omega]; exact hr7)⟩ hP hS (lv_sub hl [0, 1, 2, 3] rfl)
set_option maxHeartbeats 4000000 in
set_option maxRecDepth 100000 in
theorem law_case_29 {p : Program} {e : Env} {s : State} {m : MethodId} {below : List Frame} {meth : Method} {c : Code} (l : Launch) {b L : Nat} {xs : Nat → Int32} {D : va_G} {cI cL : ClassId} {ad zz : Nat → Nat} (C0 : lw_At p s m meth c b L xs) (hJ : jD ad) (hA : ∀ q, jA ad q → s.heap.size ≤ q) (hK : jK D cI cL s) (hZ : jZ zz (fun q : Nat => s.heap.size ≤ q) s s.heap) {x0 : Int32} (hx0 : 0 ≤ x0.toInt) (hxL : x0.toInt + 6 ≤ (L : Int)) (hL : L ≤ 384) {σ : Nat → Nat → Int32} {τ : Nat → Nat → Int64} {H : Heap} {locs : List Loc} (hS : va_S (fun q : Nat => s.heap.size ≤ q) s.heap H locs) {ls : Array Slot} (hAll : jAll σ τ) (hP : jH D cI cL ad σ τ H) (hl : lv_has ls 4 [(3, .int x0), (2, .ref (ad 55)), (1, .ref (ad 0)), (0, .ref b)]) (ih : ∀ (x1 : Int32) (σ : Nat → Nat → Int32) (τ : Nat → Nat → Int64) (H : Heap) (locs : List Loc) (ls : Array Slot), x1.toInt = x0.toInt + 6 → jAll σ τ → jH D cI cL ad σ τ H → va_S (fun q : Nat => s.heap.size ≤ q) s.heap H locs → lv_has ls 4 [(3, .int x1), (2, .ref (ad 55)), (1, .ref (ad 0)), (0, .ref b)] → W p l e room_1 s m #[Value.ref b] below meth c H locs 90 348600 (lw_Z below #[Value.ref b] s) (F0 m 18 ls [])) : W p l e room_1 s m #[Value.ref b] below meth c H locs 90 348600 (lw_Z below #[Value.ref b] s) (F0 m 1033 ls []) := by
  obtain ⟨hx, hb, hr, hml, hown, hts0, hX, hbl, hlocks, hgv⟩ := C0
  have hts : ∀ w ∈ wsL_law, w.before #[Value.ref b] s = true := fun w h => hts0 w (wsL_law_in w h)
  have hbA : ¬ (fun q : Nat => s.heap.size ≤ q) b := Nat.not_le.mpr hbl
  have hown : s.vm.findClass RL = some m.cls := hown
  obtain ⟨hI2, hI9, hI12, hI16, hI18, hI22, hI31, hI38, hI43, hI47, hI50, hI101, hI102, hI103, hI104, hI105, hI106, hI107, hI109, hI110, hI111, hI119, hs_jKept, hs_jBook, ht0, ht1, ht2, ht3, ht4, ht5, ht6, ht7, ht8, ht9, ht10, hr0, hr1, hr2, hr3, hr4, hr5, hr6, hr7⟩ := hAll
  have hL9 : (L : Int) ≤ 384 := by omega
  obtain ⟨i1, i2, i3, i4, i5, w6⟩ : (0 ≤ (σ 2 0).toInt ∧ (σ 2 0).toInt ≤ 4) ∧ (0 ≤ (σ 2 1).toInt ∧ (σ 2 1).toInt ≤ 3) ∧ (0 ≤ (σ 2 2).toInt) ∧ (0 ≤ (σ 2 3).toInt) ∧ ((σ 2 2).toInt + (σ 2 3).toInt ≤ 40) ∧ (∀ k : Nat, k < 40 → 0 ≤ (σ 6 k).toInt ∧ (σ 6 k).toInt ≤ 67) := id hI2
  obtain ⟨i7, w8, w9⟩ : (0 ≤ (σ 9 0).toInt ∧ (σ 9 0).toInt ≤ 80) ∧ (∀ k : Nat, k < 80 → 0 ≤ (σ 10 k).toInt ∧ (σ 10 k).toInt ≤ 255) ∧ (∀ k : Nat, k < 8 → 0 ≤ (σ 11 k).toInt ∧ (σ 11 k).toInt ≤ 3) := id hI9
  obtain ⟨i10, i11, i12, w13⟩ : (1 ≤ (σ 16 0).toInt ∧ (σ 16 0).toInt ≤ 8) ∧ (1 ≤ (σ 16 1).toInt ∧ (σ 16 1).toInt ≤ 12) ∧ (0 ≤ (σ 16 2).toInt ∧ (σ 16 2).toInt ≤ 999) ∧ (∀ k : Nat, k < 8 → 0 ≤ (σ 17 k).toInt ∧ (σ 17 k).toInt ≤ 3) := id hI16
  obtain ⟨i14, i15, w16⟩ : (0 ≤ (σ 38 0).toInt ∧ (σ 38 0).toInt ≤ 20) ∧ (0 ≤ (σ 38 1).toInt ∧ (σ 38 1).toInt ≤ 1000) ∧ (∀ k : Nat, k < 20 → 0 ≤ (σ 39 k).toInt ∧ (σ 39 k).toInt ≤ 6) := id hI38
  obtain ⟨i17, w18, w19⟩ : (0 ≤ (σ 47 0).toInt ∧ (σ 47 0).toInt ≤ 12) ∧ (∀ k : Nat, k < 12 → 0 ≤ (σ 48 k).toInt ∧ (σ 48 k).toInt ≤ 3) ∧ (∀ k : Nat, k < 12 → 0 ≤ (σ 49 k).toInt ∧ (σ 49 k).toInt ≤ 1) := id hI47
  have w20 : ∀ k : Nat, k < 6 → 0 ≤ (σ 52 k).toInt ∧ (σ 52 k).toInt ≤ 60 := hI50
  obtain ⟨i21, i22, i23, w24, w25, w26, w27⟩ : (0 ≤ (σ 55 5).toInt) ∧ ((σ 55 5).toInt ≤ (σ 55 4).toInt) ∧ ((σ 55 4).toInt ≤ 40) ∧ (∀ k : Nat, k < 68 → (-200) ≤ (σ 56 k).toInt ∧ (σ 56 k).toInt ≤ 500) ∧ (∀ k : Nat, k < 40 → 0 ≤ (σ 57 k).toInt ∧ (σ 57 k).toInt ≤ 67) ∧ (∀ k : Nat, k < 40 → (-200) ≤ (σ 58 k).toInt ∧ (σ 58 k).toInt ≤ 500) ∧ (∀ k : Nat, k < 40 → (-200) ≤ (σ 59 k).toInt ∧ (σ 59 k).toInt ≤ 500) := id hI101
  obtain ⟨i28, w29, w30⟩ : (0 ≤ (σ 55 6).toInt ∧ (σ 55 6).toInt ≤ 4) ∧ (∀ k : Nat, k < 4 → 0 ≤ (σ 60 k).toInt ∧ (σ 60 k).toInt ≤ 50) ∧ (∀ k : Nat, k < 4 → 0 ≤ (σ 61 k).toInt ∧ (σ 61 k).toInt ≤ 20) := id hI102
  obtain ⟨i31, i32, i33, w34, w35⟩ : (1 ≤ (σ 55 10).toInt ∧ (σ 55 10).toInt ≤ 8) ∧ (1 ≤ (σ 55 12).toInt ∧ (σ 55 12).toInt ≤ 12) ∧ (0 ≤ (σ 55 13).toInt ∧ (σ 55 13).toInt ≤ 999) ∧ (∀ k : Nat, k < 8 → 0 ≤ (σ 62 k).toInt ∧ (σ 62 k).toInt ≤ 3) ∧ (∀ k : Nat, k < 8 → 0 ≤ (σ 67 k).toInt ∧ (σ 67 k).toInt ≤ 3) := id hI104
  obtain ⟨i36, w37⟩ : (0 ≤ (σ 55 15).toInt ∧ (σ 55 15).toInt ≤ 80) ∧ (∀ k : Nat, k < 2 → (-1) ≤ (σ 65 k).toInt ∧ (σ 65 k).toInt ≤ 80) := id hI105
  obtain ⟨i38, w39, w40, w41⟩ : (0 ≤ (σ 55 32).toInt ∧ (σ 55 32).toInt ≤ 20) ∧ (∀ k : Nat, k < 20 → 0 ≤ (σ 70 k).toInt ∧ (σ 70 k).toInt ≤ 6) ∧ (∀ k : Nat, k < 20 → 0 ≤ (σ 71 k).toInt ∧ (σ 71 k).toInt ≤ 8) ∧ (∀ k : Nat, k < 160 → 0 ≤ (σ 72 k).toInt ∧ (σ 72 k).toInt ≤ 3) := id hI106
  obtain ⟨i42, i43, w44⟩ : (0 ≤ (σ 55 47).toInt ∧ (σ 55 47).toInt ≤ 12) ∧ ((σ 55 47).toInt ≤ (σ 55 12).toInt) ∧ (∀ k : Nat, k < 12 → 0 ≤ (σ 80 k).toInt ∧ (σ 80 k).toInt ≤ 3) := id hI107
  refine lv_aload_n hx hb dL_law_1033 rfl (lv_at hl 2 rfl) ?_
  refine lv_aload_n hx hb dL_law_1034 rfl (lv_at hl 3 rfl) ?_
  refine lv_iload_n hx hb dL_law_1035 rfl (lv_at hl 0 rfl) ?_
  refine lv_iconst (v := 1) hx hb dL_law_1036 (by decide) ?_
  have g45 := jrg (rfl : x0.toInt = x0.toInt)
  refine lv_iadd hx hb dL_law_1037 ?_
  refine lv_topi (fun x46 ex46 => ?_)
  have tx46 : x46.toInt = x0.toInt + 1 := (jadd ex46 rfl jz_1 (by omega) (by omega)).trans (by omega)
  refine va_sld hx hb hX hbl hbA hS (jin tx46 (by omega) (by omega)) dL_law_1038 ?_
  have g47 := jrg (rfl : (xs x46.toNatClampNeg).toInt = (xs x46.toNatClampNeg).toInt)
  refine jcallV (As := [.int (xs x46.toNatClampNeg)]) (rest := []) ⟨hx, hb, hml, hown, hts⟩ hK hP hA hS hZ (c_X11_trace l D cI cL ad zz hJ σ τ (xs x46.toNatClampNeg) ((xs x46.toNatClampNeg).toInt) rfl hI38) cw_RL_133 (jc_0 cI cL ad σ τ) rfl ⟨Nat.le_of_ble_eq_true rfl, Nat.le_of_ble_eq_true rfl⟩ rfl rfl rfl hl.1 rfl (Nat.le_of_ble_eq_true rfl) dL_law_1039 ⟨Nat.le_of_ble_eq_true rfl, Nat.le_of_ble_eq_true rfl⟩ (fun r49 σ48 τ48 H locs h48 hP hS => ?_)
  obtain ⟨⟨rfl, rfl⟩, h48⟩ := h48
  rcases h48 with h50 | h51
  · obtain ⟨q55, k52, k53, k54⟩ := h50
    have q56 : r49 = (σ 42 (xs x46.toNatClampNeg).toNatClampNeg) := q55.trans rfl
    have q56 := q56.symm
    subst q56
    refine lv_pop hx hb dL_law_1042 rfl ?_
    refine lv_aload_n hx hb dL_law_1043 rfl (lv_at hl 1 rfl) ?_
    refine lv_aload_n hx hb dL_law_1044 rfl (lv_at hl 3 rfl) ?_
    refine lv_iload_n hx hb dL_law_1045 rfl (lv_at hl 0 rfl) ?_
    refine lv_iconst (v := 1) hx hb dL_law_1046 (by decide) ?_
    refine lv_iadd hx hb dL_law_1047 ?_
    refine jtopr ex46.symm ?_
    refine va_sld hx hb hX hbl hbA hS (jin tx46 (by omega) (by omega)) dL_law_1048 ?_
    refine jcallV (As := [.int (xs x46.toNatClampNeg)]) (rest := []) ⟨hx, hb, hml, hown, hts⟩ hK hP hA hS hZ (c_X12_trace l D cI cL ad zz hJ σ τ (xs x46.toNatClampNeg) ((xs x46.toNatClampNeg).toInt) rfl) cw_RL_136 (jc_55 cI cL ad σ τ) rfl ⟨Nat.le_of_ble_eq_true rfl, Nat.le_of_ble_eq_true rfl⟩ rfl rfl rfl hl.1 rfl (Nat.le_of_ble_eq_true rfl) dL_law_1049 ⟨Nat.le_of_ble_eq_true rfl, Nat.le_of_ble_eq_true rfl⟩ (fun r58 σ57 τ57 H locs h57 hP hS => ?_)
    obtain ⟨⟨rfl, rfl⟩, h57⟩ := h57
    rcases h57 with h59 | h60
    · obtain ⟨q64, k61, k62, k63⟩ := h59
      have q65 : r58 = (σ 85 (xs x46.toNatClampNeg).toNatClampNeg) := q64.trans rfl
      have q65 := q65.symm
      subst q65
      refine lv_pop hx hb dL_law_1052 rfl ?_
      refine lv_goto (tgt := 1357) hx hb dL_law_1053 (by decide) ?_
      obtain ⟨x66, ex66⟩ : ∃ y : Int32, y = x0 + 6 := ⟨_, rfl⟩
      have tx66 : x66.toInt = x0.toInt + 6 := (jadd ex66 rfl jz_6 (by omega) (by omega)).trans (by omega)
      refine lv_iinc (v := x66) (lv' := [(3, .int x66), (2, .ref (ad 55)), (1, .ref (ad 0)), (0, .ref b)]) hx hb dL_law_1357 hl (k := 0) rfl (by rw [ex66]; rfl) (by decide) rfl (fun ls hl => ?_)
      refine lv_goto (tgt := 18) hx hb dL_law_1360 (by decide) ?_
      exact ih x66 σ τ _ _ ls (by have h9 := tx66; omega) ⟨hI2, hI9, hI12, hI16, hI18, hI22, hI31, hI38, hI43, hI47, hI50, hI101, hI102, hI103, hI104, hI105, hI106, hI107, hI109, hI110, hI111, hI119, hs_jKept, hs_jBook, (by omega), (by omega), (by omega), (by omega), (by omega), (by omega), (by omega), (by omega), (by omega), (by omega), (by omega), hr0, hr1, hr2, hr3, hr4, hr5, hr6, hr7⟩ hP hS (lv_sub hl [0, 1, 2, 3] rfl)
    · obtain ⟨q68, k67⟩ := h60
      have q68 := q68.symm
      subst q68
      refine lv_pop hx hb dL_law_1052 rfl ?_
      refine lv_goto (tgt := 1357) hx hb dL_law_1053 (by decide) ?_
      obtain ⟨x69, ex69⟩ : ∃ y : Int32, y = x0 + 6 := ⟨_, rfl⟩
      have tx69 : x69.toInt = x0.toInt + 6 := (jadd ex69 rfl jz_6 (by omega) (by omega)).trans (by omega)
      refine lv_iinc (v := x69) (lv' := [(3, .int x69), (2, .ref (ad 55)), (1, .ref (ad 0)), (0, .ref b)]) hx hb dL_law_1357 hl (k := 0) rfl (by rw [ex69]; rfl) (by decide) rfl (fun ls hl => ?_)
      refine lv_goto (tgt := 18) hx hb dL_law_1360 (by decide) ?_
      exact ih x69 σ τ _ _ ls (by have h9 := tx69; omega) ⟨hI2, hI9, hI12, hI16, hI18, hI22, hI31, hI38, hI43, hI47, hI50, hI101, hI102, hI103, hI104, hI105, hI106, hI107, hI109, hI110, hI111, hI119, hs_jKept, hs_jBook, (by omega), (by omega), (by omega), (by omega), (by omega), (by omega), (by omega), (by omega), (by omega), (by omega), (by omega), hr0, hr1, hr2, hr3, hr4, hr5, hr6, hr7⟩ hP hS (lv_sub hl [0, 1, 2, 3] rfl)
  · obtain ⟨q71, k70⟩ := h51
    have q71 := q71.symm
    subst q71
    refine lv_pop hx hb dL_law_1042 rfl ?_
    refine lv_aload_n hx hb dL_law_1043 rfl (lv_at hl 1 rfl) ?_
    refine lv_aload_n hx hb dL_law_1044 rfl (lv_at hl 3 rfl) ?_
    refine lv_iload_n hx hb dL_law_1045 rfl (lv_at hl 0 rfl) ?_
    refine lv_iconst (v := 1) hx hb dL_law_1046 (by decide) ?_
    refine lv_iadd hx hb dL_law_1047 ?_
    refine jtopr ex46.symm ?_
    refine va_sld hx hb hX hbl hbA hS (jin tx46 (by omega) (by omega)) dL_law_1048 ?_
    refine jcallV (As := [.int (xs x46.toNatClampNeg)]) (rest := []) ⟨hx, hb, hml, hown, hts⟩ hK hP hA hS hZ (c_X12_trace l D cI cL ad zz hJ σ τ (xs x46.toNatClampNeg) ((xs x46.toNatClampNeg).toInt) rfl) cw_RL_136 (jc_55 cI cL ad σ τ) rfl ⟨Nat.le_of_ble_eq_true rfl, Nat.le_of_ble_eq_true rfl⟩ rfl rfl rfl hl.1 rfl (Nat.le_of_ble_eq_true rfl) dL_law_1049 ⟨Nat.le_of_ble_eq_true rfl, Nat.le_of_ble_eq_true rfl⟩ (fun r73 σ72 τ72 H locs h72 hP hS => ?_)
    obtain ⟨⟨rfl, rfl⟩, h72⟩ := h72
    rcases h72 with h74 | h75
    · obtain ⟨q79, k76, k77, k78⟩ := h74
      have q80 : r73 = (σ 85 (xs x46.toNatClampNeg).toNatClampNeg) := q79.trans rfl
      have q80 := q80.symm
      subst q80
      refine lv_pop hx hb dL_law_1052 rfl ?_
      refine lv_goto (tgt := 1357) hx hb dL_law_1053 (by decide) ?_
      obtain ⟨x81, ex81⟩ : ∃ y : Int32, y = x0 + 6 := ⟨_, rfl⟩
      have tx81 : x81.toInt = x0.toInt + 6 := (jadd ex81 rfl jz_6 (by omega) (by omega)).trans (by omega)
      refine lv_iinc (v := x81) (lv' := [(3, .int x81), (2, .ref (ad 55)), (1, .ref (ad 0)), (0, .ref b)]) hx hb dL_law_1357 hl (k := 0) rfl (by rw [ex81]; rfl) (by decide) rfl (fun ls hl => ?_)
      refine lv_goto (tgt := 18) hx hb dL_law_1360 (by decide) ?_
      exact ih x81 σ τ _ _ ls (by have h9 := tx81; omega) ⟨hI2, hI9, hI12, hI16, hI18, hI22, hI31, hI38, hI43, hI47, hI50, hI101, hI102, hI103, hI104, hI105, hI106, hI107, hI109, hI110, hI111, hI119, hs_jKept, hs_jBook, (by omega), (by omega), (by omega), (by omega), (by omega), (by omega), (by omega), (by omega), (by omega), (by omega), (by omega), hr0, hr1, hr2, hr3, hr4, hr5, hr6, hr7⟩ hP hS (lv_sub hl [0, 1, 2, 3] rfl)
    · obtain ⟨q83, k82⟩ := h75
      have q83 := q83.symm
      subst q83
      refine lv_pop hx hb dL_law_1052 rfl ?_
      refine lv_goto (tgt := 1357) hx hb dL_law_1053 (by decide) ?_
      obtain ⟨x84, ex84⟩ : ∃ y : Int32, y = x0 + 6 := ⟨_, rfl⟩
      have tx84 : x84.toInt = x0.toInt + 6 := (jadd ex84 rfl jz_6 (by omega) (by omega)).trans (by omega)
      refine lv_iinc (v := x84) (lv' := [(3, .int x84), (2, .ref (ad 55)), (1, .ref (ad 0)), (0, .ref b)]) hx hb dL_law_1357 hl (k := 0) rfl (by rw [ex84]; rfl) (by decide) rfl (fun ls hl => ?_)
      refine lv_goto (tgt := 18) hx hb dL_law_1360 (by decide) ?_
      exact ih x84 σ τ _ _ ls (by have h9 := tx84; omega) ⟨hI2, hI9, hI12, hI16, hI18, hI22, hI31, hI38, hI43, hI47, hI50, hI101, hI102, hI103, hI104, hI105, hI106, hI107, hI109, hI110, hI111, hI119, hs_jKept, hs_jBook, (by omega), (by omega), (by omega), (by omega), (by omega), (by omega), (by omega), (by omega), (by omega), (by omega), (by omega), hr0, hr1, hr2, hr3, hr4, hr5, hr6, hr7⟩ hP hS (lv_sub hl [0, 1, 2, 3] rfl)
set_option maxHeartbeats 4000000 in
set_option maxRecDepth 100000 in
theorem law_case_30 {p : Program} {e : Env} {s : State} {m : MethodId} {below : List Frame} {meth : Method} {c : Code} (l : Launch) {b L : Nat} {xs : Nat → Int32} {D : va_G} {cI cL : ClassId} {ad zz : Nat → Nat} (C0 : lw_At p s m meth c b L xs) (hJ : jD ad) (hA : ∀ q, jA ad q → s.heap.size ≤ q) (hK : jK D cI cL s) (hZ : jZ zz (fun q : Nat => s.heap.size ≤ q) s s.heap) {x0 : Int32} (hx0 : 0 ≤ x0.toInt) (hxL : x0.toInt + 6 ≤ (L : Int)) (hL : L ≤ 384) {σ : Nat → Nat → Int32} {τ : Nat → Nat → Int64} {H : Heap} {locs : List Loc} (hS : va_S (fun q : Nat => s.heap.size ≤ q) s.heap H locs) {ls : Array Slot} (hAll : jAll σ τ) (hP : jH D cI cL ad σ τ H) (hl : lv_has ls 4 [(3, .int x0), (2, .ref (ad 55)), (1, .ref (ad 0)), (0, .ref b)]) (ih : ∀ (x1 : Int32) (σ : Nat → Nat → Int32) (τ : Nat → Nat → Int64) (H : Heap) (locs : List Loc) (ls : Array Slot), x1.toInt = x0.toInt + 6 → jAll σ τ → jH D cI cL ad σ τ H → va_S (fun q : Nat => s.heap.size ≤ q) s.heap H locs → lv_has ls 4 [(3, .int x1), (2, .ref (ad 55)), (1, .ref (ad 0)), (0, .ref b)] → W p l e room_1 s m #[Value.ref b] below meth c H locs 90 348600 (lw_Z below #[Value.ref b] s) (F0 m 18 ls [])) : W p l e room_1 s m #[Value.ref b] below meth c H locs 90 348600 (lw_Z below #[Value.ref b] s) (F0 m 1056 ls []) := by
  obtain ⟨hx, hb, hr, hml, hown, hts0, hX, hbl, hlocks, hgv⟩ := C0
  have hts : ∀ w ∈ wsL_law, w.before #[Value.ref b] s = true := fun w h => hts0 w (wsL_law_in w h)
  have hbA : ¬ (fun q : Nat => s.heap.size ≤ q) b := Nat.not_le.mpr hbl
  have hown : s.vm.findClass RL = some m.cls := hown
  obtain ⟨hI2, hI9, hI12, hI16, hI18, hI22, hI31, hI38, hI43, hI47, hI50, hI101, hI102, hI103, hI104, hI105, hI106, hI107, hI109, hI110, hI111, hI119, hs_jKept, hs_jBook, ht0, ht1, ht2, ht3, ht4, ht5, ht6, ht7, ht8, ht9, ht10, hr0, hr1, hr2, hr3, hr4, hr5, hr6, hr7⟩ := hAll
  have hL9 : (L : Int) ≤ 384 := by omega
  obtain ⟨i1, i2, i3, i4, i5, w6⟩ : (0 ≤ (σ 2 0).toInt ∧ (σ 2 0).toInt ≤ 4) ∧ (0 ≤ (σ 2 1).toInt ∧ (σ 2 1).toInt ≤ 3) ∧ (0 ≤ (σ 2 2).toInt) ∧ (0 ≤ (σ 2 3).toInt) ∧ ((σ 2 2).toInt + (σ 2 3).toInt ≤ 40) ∧ (∀ k : Nat, k < 40 → 0 ≤ (σ 6 k).toInt ∧ (σ 6 k).toInt ≤ 67) := id hI2
  obtain ⟨i7, w8, w9⟩ : (0 ≤ (σ 9 0).toInt ∧ (σ 9 0).toInt ≤ 80) ∧ (∀ k : Nat, k < 80 → 0 ≤ (σ 10 k).toInt ∧ (σ 10 k).toInt ≤ 255) ∧ (∀ k : Nat, k < 8 → 0 ≤ (σ 11 k).toInt ∧ (σ 11 k).toInt ≤ 3) := id hI9
  obtain ⟨i10, i11, i12, w13⟩ : (1 ≤ (σ 16 0).toInt ∧ (σ 16 0).toInt ≤ 8) ∧ (1 ≤ (σ 16 1).toInt ∧ (σ 16 1).toInt ≤ 12) ∧ (0 ≤ (σ 16 2).toInt ∧ (σ 16 2).toInt ≤ 999) ∧ (∀ k : Nat, k < 8 → 0 ≤ (σ 17 k).toInt ∧ (σ 17 k).toInt ≤ 3) := id hI16
  obtain ⟨i14, i15, w16⟩ : (0 ≤ (σ 38 0).toInt ∧ (σ 38 0).toInt ≤ 20) ∧ (0 ≤ (σ 38 1).toInt ∧ (σ 38 1).toInt ≤ 1000) ∧ (∀ k : Nat, k < 20 → 0 ≤ (σ 39 k).toInt ∧ (σ 39 k).toInt ≤ 6) := id hI38
  obtain ⟨i17, w18, w19⟩ : (0 ≤ (σ 47 0).toInt ∧ (σ 47 0).toInt ≤ 12) ∧ (∀ k : Nat, k < 12 → 0 ≤ (σ 48 k).toInt ∧ (σ 48 k).toInt ≤ 3) ∧ (∀ k : Nat, k < 12 → 0 ≤ (σ 49 k).toInt ∧ (σ 49 k).toInt ≤ 1) := id hI47
  have w20 : ∀ k : Nat, k < 6 → 0 ≤ (σ 52 k).toInt ∧ (σ 52 k).toInt ≤ 60 := hI50
  obtain ⟨i21, i22, i23, w24, w25, w26, w27⟩ : (0 ≤ (σ 55 5).toInt) ∧ ((σ 55 5).toInt ≤ (σ 55 4).toInt) ∧ ((σ 55 4).toInt ≤ 40) ∧ (∀ k : Nat, k < 68 → (-200) ≤ (σ 56 k).toInt ∧ (σ 56 k).toInt ≤ 500) ∧ (∀ k : Nat, k < 40 → 0 ≤ (σ 57 k).toInt ∧ (σ 57 k).toInt ≤ 67) ∧ (∀ k : Nat, k < 40 → (-200) ≤ (σ 58 k).toInt ∧ (σ 58 k).toInt ≤ 500) ∧ (∀ k : Nat, k < 40 → (-200) ≤ (σ 59 k).toInt ∧ (σ 59 k).toInt ≤ 500) := id hI101
  obtain ⟨i28, w29, w30⟩ : (0 ≤ (σ 55 6).toInt ∧ (σ 55 6).toInt ≤ 4) ∧ (∀ k : Nat, k < 4 → 0 ≤ (σ 60 k).toInt ∧ (σ 60 k).toInt ≤ 50) ∧ (∀ k : Nat, k < 4 → 0 ≤ (σ 61 k).toInt ∧ (σ 61 k).toInt ≤ 20) := id hI102
  obtain ⟨i31, i32, i33, w34, w35⟩ : (1 ≤ (σ 55 10).toInt ∧ (σ 55 10).toInt ≤ 8) ∧ (1 ≤ (σ 55 12).toInt ∧ (σ 55 12).toInt ≤ 12) ∧ (0 ≤ (σ 55 13).toInt ∧ (σ 55 13).toInt ≤ 999) ∧ (∀ k : Nat, k < 8 → 0 ≤ (σ 62 k).toInt ∧ (σ 62 k).toInt ≤ 3) ∧ (∀ k : Nat, k < 8 → 0 ≤ (σ 67 k).toInt ∧ (σ 67 k).toInt ≤ 3) := id hI104
  obtain ⟨i36, w37⟩ : (0 ≤ (σ 55 15).toInt ∧ (σ 55 15).toInt ≤ 80) ∧ (∀ k : Nat, k < 2 → (-1) ≤ (σ 65 k).toInt ∧ (σ 65 k).toInt ≤ 80) := id hI105
  obtain ⟨i38, w39, w40, w41⟩ : (0 ≤ (σ 55 32).toInt ∧ (σ 55 32).toInt ≤ 20) ∧ (∀ k : Nat, k < 20 → 0 ≤ (σ 70 k).toInt ∧ (σ 70 k).toInt ≤ 6) ∧ (∀ k : Nat, k < 20 → 0 ≤ (σ 71 k).toInt ∧ (σ 71 k).toInt ≤ 8) ∧ (∀ k : Nat, k < 160 → 0 ≤ (σ 72 k).toInt ∧ (σ 72 k).toInt ≤ 3) := id hI106
  obtain ⟨i42, i43, w44⟩ : (0 ≤ (σ 55 47).toInt ∧ (σ 55 47).toInt ≤ 12) ∧ ((σ 55 47).toInt ≤ (σ 55 12).toInt) ∧ (∀ k : Nat, k < 12 → 0 ≤ (σ 80 k).toInt ∧ (σ 80 k).toInt ≤ 3) := id hI107
  refine lv_aload_n hx hb dL_law_1056 rfl (lv_at hl 2 rfl) ?_
  refine lv_aload_n hx hb dL_law_1057 rfl (lv_at hl 3 rfl) ?_
  refine lv_iload_n hx hb dL_law_1058 rfl (lv_at hl 0 rfl) ?_
  refine lv_iconst (v := 1) hx hb dL_law_1059 (by decide) ?_
  have g45 := jrg (rfl : x0.toInt = x0.toInt)
  refine lv_iadd hx hb dL_law_1060 ?_
  refine lv_topi (fun x46 ex46 => ?_)
  have tx46 : x46.toInt = x0.toInt + 1 := (jadd ex46 rfl jz_1 (by omega) (by omega)).trans (by omega)
  refine va_sld hx hb hX hbl hbA hS (jin tx46 (by omega) (by omega)) dL_law_1061 ?_
  have g47 := jrg (rfl : (xs x46.toNatClampNeg).toInt = (xs x46.toNatClampNeg).toInt)
  refine lv_aload_n hx hb dL_law_1062 rfl (lv_at hl 3 rfl) ?_
  refine lv_iload_n hx hb dL_law_1063 rfl (lv_at hl 0 rfl) ?_
  refine lv_iconst (v := 2) hx hb dL_law_1064 (by decide) ?_
  refine lv_iadd hx hb dL_law_1065 ?_
  refine lv_topi (fun x48 ex48 => ?_)
  have tx48 : x48.toInt = x0.toInt + 2 := (jadd ex48 rfl jz_2 (by omega) (by omega)).trans (by omega)
  refine va_sld hx hb hX hbl hbA hS (jin tx48 (by omega) (by omega)) dL_law_1066 ?_
  have g49 := jrg (rfl : (xs x48.toNatClampNeg).toInt = (xs x48.toNatClampNeg).toInt)
  refine jcallV (As := [.int (xs x46.toNatClampNeg), .int (xs x48.toNatClampNeg)]) (rest := []) ⟨hx, hb, hml, hown, hts⟩ hK hP hA hS hZ (c_X11_keep l D cI cL ad zz hJ σ τ (xs x46.toNatClampNeg) ((xs x46.toNatClampNeg).toInt) rfl (xs x48.toNatClampNeg) ((xs x48.toNatClampNeg).toInt) rfl hI38 hI50) cw_RL_137 (jc_0 cI cL ad σ τ) rfl ⟨Nat.le_of_ble_eq_true rfl, Nat.le_of_ble_eq_true rfl⟩ rfl rfl rfl hl.1 rfl (Nat.le_of_ble_eq_true rfl) dL_law_1067 ⟨Nat.le_of_ble_eq_true rfl, Nat.le_of_ble_eq_true rfl⟩ (fun r51 σ50 τ50 H locs h50 hP hS => ?_)
  obtain ⟨rfl, f52, I53, h50⟩ := h50
  have w55 : ∀ k : Nat, k < 6 → 0 ≤ (σ50 52 k).toInt ∧ (σ50 52 k).toInt ≤ 60 := I53
  rcases h50 with h56 | h57 | h58
  · obtain ⟨q62, k59, k60, k61⟩ := h56
    have q62 := q62.symm
    subst q62
    refine lv_pop hx hb dL_law_1070 rfl ?_
    refine lv_aload_n hx hb dL_law_1071 rfl (lv_at hl 1 rfl) ?_
    refine lv_aload_n hx hb dL_law_1072 rfl (lv_at hl 3 rfl) ?_
    refine lv_iload_n hx hb dL_law_1073 rfl (lv_at hl 0 rfl) ?_
    refine lv_iconst (v := 1) hx hb dL_law_1074 (by decide) ?_
    refine lv_iadd hx hb dL_law_1075 ?_
    refine jtopr ex46.symm ?_
    refine va_sld hx hb hX hbl hbA hS (jin tx46 (by omega) (by omega)) dL_law_1076 ?_
    refine lv_aload_n hx hb dL_law_1077 rfl (lv_at hl 3 rfl) ?_
    refine lv_iload_n hx hb dL_law_1078 rfl (lv_at hl 0 rfl) ?_
    refine lv_iconst (v := 2) hx hb dL_law_1079 (by decide) ?_
    refine lv_iadd hx hb dL_law_1080 ?_
    refine jtopr ex48.symm ?_
    refine va_sld hx hb hX hbl hbA hS (jin tx48 (by omega) (by omega)) dL_law_1081 ?_
    have I63 : jI106 σ50 := jI106_fr (congrFun (f52 55 (by decide)) 32) (f52 70 (by decide)) (f52 71 (by decide)) (f52 72 (by decide)) hI106
    have I64 : jI110 σ50 := jI110_fr (f52 86 (by decide)) (f52 87 (by decide)) hI110
    have z65 : (σ50 55 32).toInt = (σ 55 32).toInt := (congrArg Int32.toInt (show σ50 55 32 = (σ 55 32) from (congrFun (f52 55 (by decide)) 32)))
    refine jcallV (As := [.int (xs x46.toNatClampNeg), .int (xs x48.toNatClampNeg)]) (rest := []) ⟨hx, hb, hml, hown, hts⟩ hK hP hA hS hZ (c_X12_keep l D cI cL ad zz hJ σ50 τ (xs x46.toNatClampNeg) ((xs x46.toNatClampNeg).toInt) rfl (xs x48.toNatClampNeg) ((xs x48.toNatClampNeg).toInt) rfl I63 I64) cw_RL_140 (jc_55 cI cL ad σ50 τ) rfl ⟨Nat.le_of_ble_eq_true rfl, Nat.le_of_ble_eq_true rfl⟩ rfl rfl rfl hl.1 rfl (Nat.le_of_ble_eq_true rfl) dL_law_1082 ⟨Nat.le_of_ble_eq_true rfl, Nat.le_of_ble_eq_true rfl⟩ (fun r67 σ66 τ66 H locs h66 hP hS => ?_)
    obtain ⟨rfl, f68, I69, h66⟩ := h66
    rcases h66 with h71 | h72 | h73
    · obtain ⟨q77, k74, k75, k76⟩ := h71
      have q77 := q77.symm
      subst q77
      refine lv_pop hx hb dL_law_1085 rfl ?_
      refine lv_goto (tgt := 1357) hx hb dL_law_1086 (by decide) ?_
      obtain ⟨x78, ex78⟩ : ∃ y : Int32, y = x0 + 6 := ⟨_, rfl⟩
      have tx78 : x78.toInt = x0.toInt + 6 := (jadd ex78 rfl jz_6 (by omega) (by omega)).trans (by omega)
      refine lv_iinc (v := x78) (lv' := [(3, .int x78), (2, .ref (ad 55)), (1, .ref (ad 0)), (0, .ref b)]) hx hb dL_law_1357 hl (k := 0) rfl (by rw [ex78]; rfl) (by decide) rfl (fun ls hl => ?_)
      refine lv_goto (tgt := 18) hx hb dL_law_1360 (by decide) ?_
      have I79 : jI2 σ66 := jI2_fr ((congrFun (f68 2 (by decide)) 0).trans (congrFun (f52 2 (by decide)) 0)) ((congrFun (f68 2 (by decide)) 1).trans (congrFun (f52 2 (by decide)) 1)) ((congrFun (f68 2 (by decide)) 2).trans (congrFun (f52 2 (by decide)) 2)) ((congrFun (f68 2 (by decide)) 3).trans (congrFun (f52 2 (by decide)) 3)) ((f68 6 (by decide)).trans (f52 6 (by decide))) hI2
      have I80 : jI9 σ66 := jI9_fr ((congrFun (f68 9 (by decide)) 0).trans (congrFun (f52 9 (by decide)) 0)) ((f68 10 (by decide)).trans (f52 10 (by decide))) ((f68 11 (by decide)).trans (f52 11 (by decide))) hI9
      have I81 : jI12 σ66 := jI12_fr ((congrFun (f68 12 (by decide)) 0).trans (congrFun (f52 12 (by decide)) 0)) ((f68 13 (by decide)).trans (f52 13 (by decide))) hI12
      have I82 : jI16 σ66 := jI16_fr ((congrFun (f68 16 (by decide)) 0).trans (congrFun (f52 16 (by decide)) 0)) ((congrFun (f68 16 (by decide)) 1).trans (congrFun (f52 16 (by decide)) 1)) ((congrFun (f68 16 (by decide)) 2).trans (congrFun (f52 16 (by decide)) 2)) ((f68 17 (by decide)).trans (f52 17 (by decide))) hI16
      have I83 : jI18 σ66 := jI18_fr ((congrFun (f68 18 (by decide)) 0).trans (congrFun (f52 18 (by decide)) 0)) ((f68 19 (by decide)).trans (f52 19 (by decide))) hI18
      have I84 : jI22 σ66 := jI22_fr ((congrFun (f68 22 (by decide)) 0).trans (congrFun (f52 22 (by decide)) 0)) ((f68 23 (by decide)).trans (f52 23 (by decide))) hI22
      have I85 : jI31 σ66 := jI31_fr ((congrFun (f68 31 (by decide)) 8).trans (congrFun (f52 31 (by decide)) 8)) ((f68 33 (by decide)).trans (f52 33 (by decide))) ((f68 36 (by decide)).trans (f52 36 (by decide))) hI31
      have I86 : jI38 σ66 := jI38_fr ((congrFun (f68 38 (by decide)) 0).trans (congrFun (f52 38 (by decide)) 0)) ((congrFun (f68 38 (by decide)) 1).trans (congrFun (f52 38 (by decide)) 1)) ((f68 39 (by decide)).trans (f52 39 (by decide))) hI38
      have I87 : jI43 σ66 := jI43_fr ((congrFun (f68 43 (by decide)) 8).trans (congrFun (f52 43 (by decide)) 8)) hI43
      have I88 : jI47 σ66 := jI47_fr ((congrFun (f68 47 (by decide)) 0).trans (congrFun (f52 47 (by decide)) 0)) ((f68 48 (by decide)).trans (f52 48 (by decide))) ((f68 49 (by decide)).trans (f52 49 (by decide))) hI47
      have I89 : jI50 σ66 := jI50_fr (f68 52 (by decide)) I53
      have I90 : jI101 σ66 := jI101_fr ((congrFun (f68 55 (by decide)) 4).trans (congrFun (f52 55 (by decide)) 4)) ((congrFun (f68 55 (by decide)) 5).trans (congrFun (f52 55 (by decide)) 5)) ((f68 56 (by decide)).trans (f52 56 (by decide))) ((f68 57 (by decide)).trans (f52 57 (by decide))) ((f68 58 (by decide)).trans (f52 58 (by decide))) ((f68 59 (by decide)).trans (f52 59 (by decide))) hI101
      have I91 : jI102 σ66 := jI102_fr ((congrFun (f68 55 (by decide)) 6).trans (congrFun (f52 55 (by decide)) 6)) ((f68 60 (by decide)).trans (f52 60 (by decide))) ((f68 61 (by decide)).trans (f52 61 (by decide))) hI102
      have I92 : jI103 σ66 := jI103_fr ((congrFun (f68 55 (by decide)) 9).trans (congrFun (f52 55 (by decide)) 9)) hI103
      have I93 : jI104 σ66 := jI104_fr ((congrFun (f68 55 (by decide)) 10).trans (congrFun (f52 55 (by decide)) 10)) ((congrFun (f68 55 (by decide)) 12).trans (congrFun (f52 55 (by decide)) 12)) ((congrFun (f68 55 (by decide)) 13).trans (congrFun (f52 55 (by decide)) 13)) ((f68 62 (by decide)).trans (f52 62 (by decide))) ((f68 67 (by decide)).trans (f52 67 (by decide))) hI104
      have I94 : jI105 σ66 := jI105_fr ((congrFun (f68 55 (by decide)) 15).trans (congrFun (f52 55 (by decide)) 15)) ((f68 65 (by decide)).trans (f52 65 (by decide))) hI105
      have I95 : jI106 σ66 := jI106_fr (congrFun (f68 55 (by decide)) 32) (f68 70 (by decide)) (f68 71 (by decide)) (f68 72 (by decide)) I63
      have I96 : jI107 σ66 := jI107_fr ((congrFun (f68 55 (by decide)) 12).trans (congrFun (f52 55 (by decide)) 12)) ((congrFun (f68 55 (by decide)) 47).trans (congrFun (f52 55 (by decide)) 47)) ((f68 80 (by decide)).trans (f52 80 (by decide))) hI107
      have I97 : jI109 σ66 := jI109_fr ((congrFun (f68 55 (by decide)) 50).trans (congrFun (f52 55 (by decide)) 50)) hI109
      have I98 : jI111 σ66 := jI111_fr ((f68 79 (by decide)).trans (f52 79 (by decide))) hI111
      have I99 : jI119 σ66 := jI119_fr ((f68 68 (by decide)).trans (f52 68 (by decide))) hI119
      have p100 : jKept σ66 := jKept.fr ((f68 75 (by decide)).trans (f52 75 (by decide))) ((f68 76 (by decide)).trans (f52 76 (by decide))) ((f68 77 (by decide)).trans (f52 77 (by decide))) hs_jKept
      have p101 : jBook σ66 := jBook.fr ((congrFun (f68 55 (by decide)) 47).trans (congrFun (f52 55 (by decide)) 47)) ((congrFun (f68 55 (by decide)) 10).trans (congrFun (f52 55 (by decide)) 10)) ((f68 81 (by decide)).trans (f52 81 (by decide))) hs_jBook
      have z102 : (σ66 2 0).toInt = (σ 2 0).toInt := (congrArg Int32.toInt (show σ66 2 0 = (σ 2 0) from ((congrFun (f68 2 (by decide)) 0).trans (congrFun (f52 2 (by decide)) 0))))
      have z103 : (σ66 55 6).toInt = (σ 55 6).toInt := (congrArg Int32.toInt (show σ66 55 6 = (σ 55 6) from ((congrFun (f68 55 (by decide)) 6).trans (congrFun (f52 55 (by decide)) 6))))
      have z104 : (σ66 2 2).toInt = (σ 2 2).toInt := (congrArg Int32.toInt (show σ66 2 2 = (σ 2 2) from ((congrFun (f68 2 (by decide)) 2).trans (congrFun (f52 2 (by decide)) 2))))
      have z105 : (σ66 55 5).toInt = (σ 55 5).toInt := (congrArg Int32.toInt (show σ66 55 5 = (σ 55 5) from ((congrFun (f68 55 (by decide)) 5).trans (congrFun (f52 55 (by decide)) 5))))
      have z106 : (σ66 2 3).toInt = (σ 2 3).toInt := (congrArg Int32.toInt (show σ66 2 3 = (σ 2 3) from ((congrFun (f68 2 (by decide)) 3).trans (congrFun (f52 2 (by decide)) 3))))
      have z107 : (σ66 55 4).toInt = (σ 55 4).toInt := (congrArg Int32.toInt (show σ66 55 4 = (σ 55 4) from ((congrFun (f68 55 (by decide)) 4).trans (congrFun (f52 55 (by decide)) 4))))
      have z108 : (σ66 9 0).toInt = (σ 9 0).toInt := (congrArg Int32.toInt (show σ66 9 0 = (σ 9 0) from ((congrFun (f68 9 (by decide)) 0).trans (congrFun (f52 9 (by decide)) 0))))
      have z109 : (σ66 55 15).toInt = (σ 55 15).toInt := (congrArg Int32.toInt (show σ66 55 15 = (σ 55 15) from ((congrFun (f68 55 (by decide)) 15).trans (congrFun (f52 55 (by decide)) 15))))
      have z110 : (σ66 16 0).toInt = (σ 16 0).toInt := (congrArg Int32.toInt (show σ66 16 0 = (σ 16 0) from ((congrFun (f68 16 (by decide)) 0).trans (congrFun (f52 16 (by decide)) 0))))
      have z111 : (σ66 55 10).toInt = (σ 55 10).toInt := (congrArg Int32.toInt (show σ66 55 10 = (σ 55 10) from ((congrFun (f68 55 (by decide)) 10).trans (congrFun (f52 55 (by decide)) 10))))
      have z112 : (σ66 16 1).toInt = (σ 16 1).toInt := (congrArg Int32.toInt (show σ66 16 1 = (σ 16 1) from ((congrFun (f68 16 (by decide)) 1).trans (congrFun (f52 16 (by decide)) 1))))
      have z113 : (σ66 55 12).toInt = (σ 55 12).toInt := (congrArg Int32.toInt (show σ66 55 12 = (σ 55 12) from ((congrFun (f68 55 (by decide)) 12).trans (congrFun (f52 55 (by decide)) 12))))
      have z114 : (σ66 16 2).toInt = (σ 16 2).toInt := (congrArg Int32.toInt (show σ66 16 2 = (σ 16 2) from ((congrFun (f68 16 (by decide)) 2).trans (congrFun (f52 16 (by decide)) 2))))
      have z115 : (σ66 55 13).toInt = (σ 55 13).toInt := (congrArg Int32.toInt (show σ66 55 13 = (σ 55 13) from ((congrFun (f68 55 (by decide)) 13).trans (congrFun (f52 55 (by decide)) 13))))
      have z116 : (σ66 38 0).toInt = (σ 38 0).toInt := (congrArg Int32.toInt (show σ66 38 0 = (σ 38 0) from ((congrFun (f68 38 (by decide)) 0).trans (congrFun (f52 38 (by decide)) 0))))
      have z117 : (σ66 55 32).toInt = (σ 55 32).toInt := (congrArg Int32.toInt (show σ66 55 32 = (σ 55 32) from ((congrFun (f68 55 (by decide)) 32).trans (congrFun (f52 55 (by decide)) 32))))
      have z118 : (σ66 47 0).toInt = (σ 47 0).toInt := (congrArg Int32.toInt (show σ66 47 0 = (σ 47 0) from ((congrFun (f68 47 (by decide)) 0).trans (congrFun (f52 47 (by decide)) 0))))
      have z119 : (σ66 55 47).toInt = (σ 55 47).toInt := (congrArg Int32.toInt (show σ66 55 47 = (σ 55 47) from ((congrFun (f68 55 (by decide)) 47).trans (congrFun (f52 55 (by decide)) 47))))
      have z120 : (σ66 55 30).toInt = (σ 55 30).toInt := (congrArg Int32.toInt (show σ66 55 30 = (σ 55 30) from ((congrFun (f68 55 (by decide)) 30).trans (congrFun (f52 55 (by decide)) 30))))
      have z121 : (σ66 55 31).toInt = (σ 55 31).toInt := (congrArg Int32.toInt (show σ66 55 31 = (σ 55 31) from ((congrFun (f68 55 (by decide)) 31).trans (congrFun (f52 55 (by decide)) 31))))
      rw [show σ50 86 = σ 86 from (f52 86 (by decide)), show σ50 87 = σ 87 from (f52 87 (by decide))] at k76
      have p122 := hr4.set k61.1 k61.2.2 k61.2.1 k76.1 k76.2 (Or.inl ⟨rfl, Int32.toInt_inj.mp (show (xs x48.toNatClampNeg).toInt = (-1 : Int32).toInt by rw [show (-1 : Int32).toInt = -1 by decide]; omega)⟩)
      have p123 := hr5.keep k61.1 k61.2.2 (by decide)
      exact ih x78 σ66 τ _ _ ls (by have h9 := tx78; omega) ⟨I79, I80, I81, I82, I83, I84, I85, I86, I87, I88, I89, I90, I91, I92, I93, I94, I95, I96, I97, I69, I98, I99, p100, p101, (by omega), (by omega), (by omega), (by omega), (by omega), (by omega), (by omega), (by omega), (by omega), (by omega), (by omega), (show jNumP (σ66 3) (σ66 56) (σ66 6) (σ66 57) (σ66 7) (σ66 58) (σ66 8) (σ66 59) (σ66 55 6).toInt (σ66 55 4).toInt by rw [show σ66 3 = σ 3 from ((f68 3 (by decide)).trans (f52 3 (by decide))), show σ66 56 = σ 56 from ((f68 56 (by decide)).trans (f52 56 (by decide))), show σ66 6 = σ 6 from ((f68 6 (by decide)).trans (f52 6 (by decide))), show σ66 57 = σ 57 from ((f68 57 (by decide)).trans (f52 57 (by decide))), show σ66 7 = σ 7 from ((f68 7 (by decide)).trans (f52 7 (by decide))), show σ66 58 = σ 58 from ((f68 58 (by decide)).trans (f52 58 (by decide))), show σ66 8 = σ 8 from ((f68 8 (by decide)).trans (f52 8 (by decide))), show σ66 59 = σ 59 from ((f68 59 (by decide)).trans (f52 59 (by decide))), show (σ66 55 6).toInt = (σ 55 6).toInt from by omega, show (σ66 55 4).toInt = (σ 55 4).toInt from by omega]; exact hr0), (show jOvP (σ66 56) (σ66 57) (σ66 58) (σ66 59) (σ66 55 4).toInt by rw [show σ66 56 = σ 56 from ((f68 56 (by decide)).trans (f52 56 (by decide))), show σ66 57 = σ 57 from ((f68 57 (by decide)).trans (f52 57 (by decide))), show σ66 58 = σ 58 from ((f68 58 (by decide)).trans (f52 58 (by decide))), show σ66 59 = σ 59 from ((f68 59 (by decide)).trans (f52 59 (by decide))), show (σ66 55 4).toInt = (σ 55 4).toInt from by omega]; exact hr1), (show jTp (σ66 10) (σ66 63) (σ66 55 15).toInt by rw [show σ66 10 = σ 10 from ((f68 10 (by decide)).trans (f52 10 (by decide))), show σ66 63 = σ 63 from ((f68 63 (by decide)).trans (f52 63 (by decide)))]; exact hr2.le (by omega)), (show jSo (σ66 17) (σ66 62) (σ66 16 0).toInt by rw [show σ66 17 = σ 17 from ((f68 17 (by decide)).trans (f52 17 (by decide))), show σ66 62 = σ 62 from ((f68 62 (by decide)).trans (f52 62 (by decide))), show (σ66 16 0).toInt = (σ 16 0).toInt from by omega]; exact hr3), (show jShP (σ66 51) (σ66 52) (σ66 53) (σ66 86) (σ66 87) (σ66 55 32).toInt by rw [show σ66 51 = σ50 51 from (f68 51 (by decide)), show σ66 52 = σ50 52 from (f68 52 (by decide)), show σ66 53 = σ50 53 from (f68 53 (by decide))]; exact (p122.up (by omega) (by omega))), (show jEl (σ66 51) (σ66 52) (τ 54) (τ 88) by rw [show σ66 51 = σ50 51 from (f68 51 (by decide)), show σ66 52 = σ50 52 from (f68 52 (by decide))]; exact p123), (show jByP (σ66 51) (σ66 52) (τ 54) by rw [show σ66 51 = σ50 51 from (f68 51 (by decide)), show σ66 52 = σ50 52 from (f68 52 (by decide))]; exact (hr6.keep k61.1 k61.2.2 (by decide))), (show jBk (σ66 48) (σ66 80) (σ66 49) (σ66 81) (σ66 55 47).toInt by rw [show σ66 48 = σ 48 from ((f68 48 (by decide)).trans (f52 48 (by decide))), show σ66 49 = σ 49 from ((f68 49 (by decide)).trans (f52 49 (by decide))), show σ66 80 = σ 80 from ((f68 80 (by decide)).trans (f52 80 (by decide))), show σ66 81 = σ 81 from ((f68 81 (by decide)).trans (f52 81 (by decide))), show (σ66 55 47).toInt = (σ 55 47).toInt from by omega]; exact hr7)⟩ hP hS (lv_sub hl [0, 1, 2, 3] rfl)
    · obtain ⟨q127, k124, k125, k126⟩ := h72
      exact absurd (by omega : False) id
    · obtain ⟨q130, k128, k129⟩ := h73
      exact absurd (by omega : False) id
  · obtain ⟨q134, k131, k132, k133⟩ := h57
    have q134 := q134.symm
    subst q134
    refine lv_pop hx hb dL_law_1070 rfl ?_
    refine lv_aload_n hx hb dL_law_1071 rfl (lv_at hl 1 rfl) ?_
    refine lv_aload_n hx hb dL_law_1072 rfl (lv_at hl 3 rfl) ?_
    refine lv_iload_n hx hb dL_law_1073 rfl (lv_at hl 0 rfl) ?_
    refine lv_iconst (v := 1) hx hb dL_law_1074 (by decide) ?_
    refine lv_iadd hx hb dL_law_1075 ?_
    refine jtopr ex46.symm ?_
    refine va_sld hx hb hX hbl hbA hS (jin tx46 (by omega) (by omega)) dL_law_1076 ?_
    refine lv_aload_n hx hb dL_law_1077 rfl (lv_at hl 3 rfl) ?_
    refine lv_iload_n hx hb dL_law_1078 rfl (lv_at hl 0 rfl) ?_
    refine lv_iconst (v := 2) hx hb dL_law_1079 (by decide) ?_
    refine lv_iadd hx hb dL_law_1080 ?_
    refine jtopr ex48.symm ?_
    refine va_sld hx hb hX hbl hbA hS (jin tx48 (by omega) (by omega)) dL_law_1081 ?_
    have I135 : jI106 σ50 := jI106_fr (congrFun (f52 55 (by decide)) 32) (f52 70 (by decide)) (f52 71 (by decide)) (f52 72 (by decide)) hI106
    have I136 : jI110 σ50 := jI110_fr (f52 86 (by decide)) (f52 87 (by decide)) hI110
    have z137 : (σ50 55 32).toInt = (σ 55 32).toInt := (congrArg Int32.toInt (show σ50 55 32 = (σ 55 32) from (congrFun (f52 55 (by decide)) 32)))
    refine jcallV (As := [.int (xs x46.toNatClampNeg), .int (xs x48.toNatClampNeg)]) (rest := []) ⟨hx, hb, hml, hown, hts⟩ hK hP hA hS hZ (c_X12_keep l D cI cL ad zz hJ σ50 τ (xs x46.toNatClampNeg) ((xs x46.toNatClampNeg).toInt) rfl (xs x48.toNatClampNeg) ((xs x48.toNatClampNeg).toInt) rfl I135 I136) cw_RL_140 (jc_55 cI cL ad σ50 τ) rfl ⟨Nat.le_of_ble_eq_true rfl, Nat.le_of_ble_eq_true rfl⟩ rfl rfl rfl hl.1 rfl (Nat.le_of_ble_eq_true rfl) dL_law_1082 ⟨Nat.le_of_ble_eq_true rfl, Nat.le_of_ble_eq_true rfl⟩ (fun r139 σ138 τ138 H locs h138 hP hS => ?_)
    obtain ⟨rfl, f140, I141, h138⟩ := h138
    rcases h138 with h143 | h144 | h145
    · obtain ⟨q149, k146, k147, k148⟩ := h143
      exact absurd (by omega : False) id
    · obtain ⟨q153, k150, k151, k152⟩ := h144
      have q153 := q153.symm
      subst q153
      refine lv_pop hx hb dL_law_1085 rfl ?_
      refine lv_goto (tgt := 1357) hx hb dL_law_1086 (by decide) ?_
      obtain ⟨x154, ex154⟩ : ∃ y : Int32, y = x0 + 6 := ⟨_, rfl⟩
      have tx154 : x154.toInt = x0.toInt + 6 := (jadd ex154 rfl jz_6 (by omega) (by omega)).trans (by omega)
      refine lv_iinc (v := x154) (lv' := [(3, .int x154), (2, .ref (ad 55)), (1, .ref (ad 0)), (0, .ref b)]) hx hb dL_law_1357 hl (k := 0) rfl (by rw [ex154]; rfl) (by decide) rfl (fun ls hl => ?_)
      refine lv_goto (tgt := 18) hx hb dL_law_1360 (by decide) ?_
      have I155 : jI2 σ138 := jI2_fr ((congrFun (f140 2 (by decide)) 0).trans (congrFun (f52 2 (by decide)) 0)) ((congrFun (f140 2 (by decide)) 1).trans (congrFun (f52 2 (by decide)) 1)) ((congrFun (f140 2 (by decide)) 2).trans (congrFun (f52 2 (by decide)) 2)) ((congrFun (f140 2 (by decide)) 3).trans (congrFun (f52 2 (by decide)) 3)) ((f140 6 (by decide)).trans (f52 6 (by decide))) hI2
      have I156 : jI9 σ138 := jI9_fr ((congrFun (f140 9 (by decide)) 0).trans (congrFun (f52 9 (by decide)) 0)) ((f140 10 (by decide)).trans (f52 10 (by decide))) ((f140 11 (by decide)).trans (f52 11 (by decide))) hI9
      have I157 : jI12 σ138 := jI12_fr ((congrFun (f140 12 (by decide)) 0).trans (congrFun (f52 12 (by decide)) 0)) ((f140 13 (by decide)).trans (f52 13 (by decide))) hI12
      have I158 : jI16 σ138 := jI16_fr ((congrFun (f140 16 (by decide)) 0).trans (congrFun (f52 16 (by decide)) 0)) ((congrFun (f140 16 (by decide)) 1).trans (congrFun (f52 16 (by decide)) 1)) ((congrFun (f140 16 (by decide)) 2).trans (congrFun (f52 16 (by decide)) 2)) ((f140 17 (by decide)).trans (f52 17 (by decide))) hI16
      have I159 : jI18 σ138 := jI18_fr ((congrFun (f140 18 (by decide)) 0).trans (congrFun (f52 18 (by decide)) 0)) ((f140 19 (by decide)).trans (f52 19 (by decide))) hI18
      have I160 : jI22 σ138 := jI22_fr ((congrFun (f140 22 (by decide)) 0).trans (congrFun (f52 22 (by decide)) 0)) ((f140 23 (by decide)).trans (f52 23 (by decide))) hI22
      have I161 : jI31 σ138 := jI31_fr ((congrFun (f140 31 (by decide)) 8).trans (congrFun (f52 31 (by decide)) 8)) ((f140 33 (by decide)).trans (f52 33 (by decide))) ((f140 36 (by decide)).trans (f52 36 (by decide))) hI31
      have I162 : jI38 σ138 := jI38_fr ((congrFun (f140 38 (by decide)) 0).trans (congrFun (f52 38 (by decide)) 0)) ((congrFun (f140 38 (by decide)) 1).trans (congrFun (f52 38 (by decide)) 1)) ((f140 39 (by decide)).trans (f52 39 (by decide))) hI38
      have I163 : jI43 σ138 := jI43_fr ((congrFun (f140 43 (by decide)) 8).trans (congrFun (f52 43 (by decide)) 8)) hI43
      have I164 : jI47 σ138 := jI47_fr ((congrFun (f140 47 (by decide)) 0).trans (congrFun (f52 47 (by decide)) 0)) ((f140 48 (by decide)).trans (f52 48 (by decide))) ((f140 49 (by decide)).trans (f52 49 (by decide))) hI47
      have I165 : jI50 σ138 := jI50_fr (f140 52 (by decide)) I53
      have I166 : jI101 σ138 := jI101_fr ((congrFun (f140 55 (by decide)) 4).trans (congrFun (f52 55 (by decide)) 4)) ((congrFun (f140 55 (by decide)) 5).trans (congrFun (f52 55 (by decide)) 5)) ((f140 56 (by decide)).trans (f52 56 (by decide))) ((f140 57 (by decide)).trans (f52 57 (by decide))) ((f140 58 (by decide)).trans (f52 58 (by decide))) ((f140 59 (by decide)).trans (f52 59 (by decide))) hI101
      have I167 : jI102 σ138 := jI102_fr ((congrFun (f140 55 (by decide)) 6).trans (congrFun (f52 55 (by decide)) 6)) ((f140 60 (by decide)).trans (f52 60 (by decide))) ((f140 61 (by decide)).trans (f52 61 (by decide))) hI102
      have I168 : jI103 σ138 := jI103_fr ((congrFun (f140 55 (by decide)) 9).trans (congrFun (f52 55 (by decide)) 9)) hI103
      have I169 : jI104 σ138 := jI104_fr ((congrFun (f140 55 (by decide)) 10).trans (congrFun (f52 55 (by decide)) 10)) ((congrFun (f140 55 (by decide)) 12).trans (congrFun (f52 55 (by decide)) 12)) ((congrFun (f140 55 (by decide)) 13).trans (congrFun (f52 55 (by decide)) 13)) ((f140 62 (by decide)).trans (f52 62 (by decide))) ((f140 67 (by decide)).trans (f52 67 (by decide))) hI104
      have I170 : jI105 σ138 := jI105_fr ((congrFun (f140 55 (by decide)) 15).trans (congrFun (f52 55 (by decide)) 15)) ((f140 65 (by decide)).trans (f52 65 (by decide))) hI105
      have I171 : jI106 σ138 := jI106_fr (congrFun (f140 55 (by decide)) 32) (f140 70 (by decide)) (f140 71 (by decide)) (f140 72 (by decide)) I135
      have I172 : jI107 σ138 := jI107_fr ((congrFun (f140 55 (by decide)) 12).trans (congrFun (f52 55 (by decide)) 12)) ((congrFun (f140 55 (by decide)) 47).trans (congrFun (f52 55 (by decide)) 47)) ((f140 80 (by decide)).trans (f52 80 (by decide))) hI107
      have I173 : jI109 σ138 := jI109_fr ((congrFun (f140 55 (by decide)) 50).trans (congrFun (f52 55 (by decide)) 50)) hI109
      have I174 : jI111 σ138 := jI111_fr ((f140 79 (by decide)).trans (f52 79 (by decide))) hI111
      have I175 : jI119 σ138 := jI119_fr ((f140 68 (by decide)).trans (f52 68 (by decide))) hI119
      have p176 : jKept σ138 := jKept.fr ((f140 75 (by decide)).trans (f52 75 (by decide))) ((f140 76 (by decide)).trans (f52 76 (by decide))) ((f140 77 (by decide)).trans (f52 77 (by decide))) hs_jKept
      have p177 : jBook σ138 := jBook.fr ((congrFun (f140 55 (by decide)) 47).trans (congrFun (f52 55 (by decide)) 47)) ((congrFun (f140 55 (by decide)) 10).trans (congrFun (f52 55 (by decide)) 10)) ((f140 81 (by decide)).trans (f52 81 (by decide))) hs_jBook
      have z178 : (σ138 2 0).toInt = (σ 2 0).toInt := (congrArg Int32.toInt (show σ138 2 0 = (σ 2 0) from ((congrFun (f140 2 (by decide)) 0).trans (congrFun (f52 2 (by decide)) 0))))
      have z179 : (σ138 55 6).toInt = (σ 55 6).toInt := (congrArg Int32.toInt (show σ138 55 6 = (σ 55 6) from ((congrFun (f140 55 (by decide)) 6).trans (congrFun (f52 55 (by decide)) 6))))
      have z180 : (σ138 2 2).toInt = (σ 2 2).toInt := (congrArg Int32.toInt (show σ138 2 2 = (σ 2 2) from ((congrFun (f140 2 (by decide)) 2).trans (congrFun (f52 2 (by decide)) 2))))
      have z181 : (σ138 55 5).toInt = (σ 55 5).toInt := (congrArg Int32.toInt (show σ138 55 5 = (σ 55 5) from ((congrFun (f140 55 (by decide)) 5).trans (congrFun (f52 55 (by decide)) 5))))
      have z182 : (σ138 2 3).toInt = (σ 2 3).toInt := (congrArg Int32.toInt (show σ138 2 3 = (σ 2 3) from ((congrFun (f140 2 (by decide)) 3).trans (congrFun (f52 2 (by decide)) 3))))
      have z183 : (σ138 55 4).toInt = (σ 55 4).toInt := (congrArg Int32.toInt (show σ138 55 4 = (σ 55 4) from ((congrFun (f140 55 (by decide)) 4).trans (congrFun (f52 55 (by decide)) 4))))
      have z184 : (σ138 9 0).toInt = (σ 9 0).toInt := (congrArg Int32.toInt (show σ138 9 0 = (σ 9 0) from ((congrFun (f140 9 (by decide)) 0).trans (congrFun (f52 9 (by decide)) 0))))
      have z185 : (σ138 55 15).toInt = (σ 55 15).toInt := (congrArg Int32.toInt (show σ138 55 15 = (σ 55 15) from ((congrFun (f140 55 (by decide)) 15).trans (congrFun (f52 55 (by decide)) 15))))
      have z186 : (σ138 16 0).toInt = (σ 16 0).toInt := (congrArg Int32.toInt (show σ138 16 0 = (σ 16 0) from ((congrFun (f140 16 (by decide)) 0).trans (congrFun (f52 16 (by decide)) 0))))
      have z187 : (σ138 55 10).toInt = (σ 55 10).toInt := (congrArg Int32.toInt (show σ138 55 10 = (σ 55 10) from ((congrFun (f140 55 (by decide)) 10).trans (congrFun (f52 55 (by decide)) 10))))
      have z188 : (σ138 16 1).toInt = (σ 16 1).toInt := (congrArg Int32.toInt (show σ138 16 1 = (σ 16 1) from ((congrFun (f140 16 (by decide)) 1).trans (congrFun (f52 16 (by decide)) 1))))
      have z189 : (σ138 55 12).toInt = (σ 55 12).toInt := (congrArg Int32.toInt (show σ138 55 12 = (σ 55 12) from ((congrFun (f140 55 (by decide)) 12).trans (congrFun (f52 55 (by decide)) 12))))
      have z190 : (σ138 16 2).toInt = (σ 16 2).toInt := (congrArg Int32.toInt (show σ138 16 2 = (σ 16 2) from ((congrFun (f140 16 (by decide)) 2).trans (congrFun (f52 16 (by decide)) 2))))
      have z191 : (σ138 55 13).toInt = (σ 55 13).toInt := (congrArg Int32.toInt (show σ138 55 13 = (σ 55 13) from ((congrFun (f140 55 (by decide)) 13).trans (congrFun (f52 55 (by decide)) 13))))
      have z192 : (σ138 38 0).toInt = (σ 38 0).toInt := (congrArg Int32.toInt (show σ138 38 0 = (σ 38 0) from ((congrFun (f140 38 (by decide)) 0).trans (congrFun (f52 38 (by decide)) 0))))
      have z193 : (σ138 55 32).toInt = (σ 55 32).toInt := (congrArg Int32.toInt (show σ138 55 32 = (σ 55 32) from ((congrFun (f140 55 (by decide)) 32).trans (congrFun (f52 55 (by decide)) 32))))
      have z194 : (σ138 47 0).toInt = (σ 47 0).toInt := (congrArg Int32.toInt (show σ138 47 0 = (σ 47 0) from ((congrFun (f140 47 (by decide)) 0).trans (congrFun (f52 47 (by decide)) 0))))
      have z195 : (σ138 55 47).toInt = (σ 55 47).toInt := (congrArg Int32.toInt (show σ138 55 47 = (σ 55 47) from ((congrFun (f140 55 (by decide)) 47).trans (congrFun (f52 55 (by decide)) 47))))
      have z196 : (σ138 55 30).toInt = (σ 55 30).toInt := (congrArg Int32.toInt (show σ138 55 30 = (σ 55 30) from ((congrFun (f140 55 (by decide)) 30).trans (congrFun (f52 55 (by decide)) 30))))
      have z197 : (σ138 55 31).toInt = (σ 55 31).toInt := (congrArg Int32.toInt (show σ138 55 31 = (σ 55 31) from ((congrFun (f140 55 (by decide)) 31).trans (congrFun (f52 55 (by decide)) 31))))
      rw [show σ50 86 = σ 86 from (f52 86 (by decide)), show σ50 87 = σ 87 from (f52 87 (by decide))] at k152
      have p198 := hr4.set k133.1 k133.2.2 k133.2.1 k152.1 k152.2 (Or.inr (Or.inl ⟨rfl, rfl, by omega, by omega⟩))
      have p199 := hr5.keep k133.1 k133.2.2 (by decide)
      exact ih x154 σ138 τ _ _ ls (by have h9 := tx154; omega) ⟨I155, I156, I157, I158, I159, I160, I161, I162, I163, I164, I165, I166, I167, I168, I169, I170, I171, I172, I173, I141, I174, I175, p176, p177, (by omega), (by omega), (by omega), (by omega), (by omega), (by omega), (by omega), (by omega), (by omega), (by omega), (by omega), (show jNumP (σ138 3) (σ138 56) (σ138 6) (σ138 57) (σ138 7) (σ138 58) (σ138 8) (σ138 59) (σ138 55 6).toInt (σ138 55 4).toInt by rw [show σ138 3 = σ 3 from ((f140 3 (by decide)).trans (f52 3 (by decide))), show σ138 56 = σ 56 from ((f140 56 (by decide)).trans (f52 56 (by decide))), show σ138 6 = σ 6 from ((f140 6 (by decide)).trans (f52 6 (by decide))), show σ138 57 = σ 57 from ((f140 57 (by decide)).trans (f52 57 (by decide))), show σ138 7 = σ 7 from ((f140 7 (by decide)).trans (f52 7 (by decide))), show σ138 58 = σ 58 from ((f140 58 (by decide)).trans (f52 58 (by decide))), show σ138 8 = σ 8 from ((f140 8 (by decide)).trans (f52 8 (by decide))), show σ138 59 = σ 59 from ((f140 59 (by decide)).trans (f52 59 (by decide))), show (σ138 55 6).toInt = (σ 55 6).toInt from by omega, show (σ138 55 4).toInt = (σ 55 4).toInt from by omega]; exact hr0), (show jOvP (σ138 56) (σ138 57) (σ138 58) (σ138 59) (σ138 55 4).toInt by rw [show σ138 56 = σ 56 from ((f140 56 (by decide)).trans (f52 56 (by decide))), show σ138 57 = σ 57 from ((f140 57 (by decide)).trans (f52 57 (by decide))), show σ138 58 = σ 58 from ((f140 58 (by decide)).trans (f52 58 (by decide))), show σ138 59 = σ 59 from ((f140 59 (by decide)).trans (f52 59 (by decide))), show (σ138 55 4).toInt = (σ 55 4).toInt from by omega]; exact hr1), (show jTp (σ138 10) (σ138 63) (σ138 55 15).toInt by rw [show σ138 10 = σ 10 from ((f140 10 (by decide)).trans (f52 10 (by decide))), show σ138 63 = σ 63 from ((f140 63 (by decide)).trans (f52 63 (by decide)))]; exact hr2.le (by omega)), (show jSo (σ138 17) (σ138 62) (σ138 16 0).toInt by rw [show σ138 17 = σ 17 from ((f140 17 (by decide)).trans (f52 17 (by decide))), show σ138 62 = σ 62 from ((f140 62 (by decide)).trans (f52 62 (by decide))), show (σ138 16 0).toInt = (σ 16 0).toInt from by omega]; exact hr3), (show jShP (σ138 51) (σ138 52) (σ138 53) (σ138 86) (σ138 87) (σ138 55 32).toInt by rw [show σ138 51 = σ50 51 from (f140 51 (by decide)), show σ138 52 = σ50 52 from (f140 52 (by decide)), show σ138 53 = σ50 53 from (f140 53 (by decide))]; exact (p198.up (by omega) (by omega))), (show jEl (σ138 51) (σ138 52) (τ 54) (τ 88) by rw [show σ138 51 = σ50 51 from (f140 51 (by decide)), show σ138 52 = σ50 52 from (f140 52 (by decide))]; exact p199), (show jByP (σ138 51) (σ138 52) (τ 54) by rw [show σ138 51 = σ50 51 from (f140 51 (by decide)), show σ138 52 = σ50 52 from (f140 52 (by decide))]; exact (hr6.keep k133.1 k133.2.2 (by decide))), (show jBk (σ138 48) (σ138 80) (σ138 49) (σ138 81) (σ138 55 47).toInt by rw [show σ138 48 = σ 48 from ((f140 48 (by decide)).trans (f52 48 (by decide))), show σ138 49 = σ 49 from ((f140 49 (by decide)).trans (f52 49 (by decide))), show σ138 80 = σ 80 from ((f140 80 (by decide)).trans (f52 80 (by decide))), show σ138 81 = σ 81 from ((f140 81 (by decide)).trans (f52 81 (by decide))), show (σ138 55 47).toInt = (σ 55 47).toInt from by omega]; exact hr7)⟩ hP hS (lv_sub hl [0, 1, 2, 3] rfl)
    · obtain ⟨q202, k200, k201⟩ := h145
      exact absurd (by omega : False) id
  · obtain ⟨q205, k203, k204⟩ := h58
    have q205 := q205.symm
    subst q205
    refine lv_pop hx hb dL_law_1070 rfl ?_
    refine lv_aload_n hx hb dL_law_1071 rfl (lv_at hl 1 rfl) ?_
    refine lv_aload_n hx hb dL_law_1072 rfl (lv_at hl 3 rfl) ?_
    refine lv_iload_n hx hb dL_law_1073 rfl (lv_at hl 0 rfl) ?_
    refine lv_iconst (v := 1) hx hb dL_law_1074 (by decide) ?_
    refine lv_iadd hx hb dL_law_1075 ?_
    refine jtopr ex46.symm ?_
    refine va_sld hx hb hX hbl hbA hS (jin tx46 (by omega) (by omega)) dL_law_1076 ?_
    refine lv_aload_n hx hb dL_law_1077 rfl (lv_at hl 3 rfl) ?_
    refine lv_iload_n hx hb dL_law_1078 rfl (lv_at hl 0 rfl) ?_
    refine lv_iconst (v := 2) hx hb dL_law_1079 (by decide) ?_
    refine lv_iadd hx hb dL_law_1080 ?_
    refine jtopr ex48.symm ?_
    refine va_sld hx hb hX hbl hbA hS (jin tx48 (by omega) (by omega)) dL_law_1081 ?_
    have I206 : jI106 σ50 := jI106_fr (congrFun (f52 55 (by decide)) 32) (f52 70 (by decide)) (f52 71 (by decide)) (f52 72 (by decide)) hI106
    have I207 : jI110 σ50 := jI110_fr (f52 86 (by decide)) (f52 87 (by decide)) hI110
    have z208 : (σ50 55 32).toInt = (σ 55 32).toInt := (congrArg Int32.toInt (show σ50 55 32 = (σ 55 32) from (congrFun (f52 55 (by decide)) 32)))
    refine jcallV (As := [.int (xs x46.toNatClampNeg), .int (xs x48.toNatClampNeg)]) (rest := []) ⟨hx, hb, hml, hown, hts⟩ hK hP hA hS hZ (c_X12_keep l D cI cL ad zz hJ σ50 τ (xs x46.toNatClampNeg) ((xs x46.toNatClampNeg).toInt) rfl (xs x48.toNatClampNeg) ((xs x48.toNatClampNeg).toInt) rfl I206 I207) cw_RL_140 (jc_55 cI cL ad σ50 τ) rfl ⟨Nat.le_of_ble_eq_true rfl, Nat.le_of_ble_eq_true rfl⟩ rfl rfl rfl hl.1 rfl (Nat.le_of_ble_eq_true rfl) dL_law_1082 ⟨Nat.le_of_ble_eq_true rfl, Nat.le_of_ble_eq_true rfl⟩ (fun r210 σ209 τ209 H locs h209 hP hS => ?_)
    obtain ⟨rfl, f211, I212, h209⟩ := h209
    rcases h209 with h214 | h215 | h216
    · obtain ⟨q220, k217, k218, k219⟩ := h214
      exact absurd (by omega : False) id
    · obtain ⟨q224, k221, k222, k223⟩ := h215
      exact absurd (by omega : False) id
    · obtain ⟨q227, k225, k226⟩ := h216
      have q227 := q227.symm
      subst q227
      refine lv_pop hx hb dL_law_1085 rfl ?_
      refine lv_goto (tgt := 1357) hx hb dL_law_1086 (by decide) ?_
      obtain ⟨x228, ex228⟩ : ∃ y : Int32, y = x0 + 6 := ⟨_, rfl⟩
      have tx228 : x228.toInt = x0.toInt + 6 := (jadd ex228 rfl jz_6 (by omega) (by omega)).trans (by omega)
      refine lv_iinc (v := x228) (lv' := [(3, .int x228), (2, .ref (ad 55)), (1, .ref (ad 0)), (0, .ref b)]) hx hb dL_law_1357 hl (k := 0) rfl (by rw [ex228]; rfl) (by decide) rfl (fun ls hl => ?_)
      refine lv_goto (tgt := 18) hx hb dL_law_1360 (by decide) ?_
      have I229 : jI2 σ209 := jI2_fr ((congrFun (f211 2 (by decide)) 0).trans (congrFun (f52 2 (by decide)) 0)) ((congrFun (f211 2 (by decide)) 1).trans (congrFun (f52 2 (by decide)) 1)) ((congrFun (f211 2 (by decide)) 2).trans (congrFun (f52 2 (by decide)) 2)) ((congrFun (f211 2 (by decide)) 3).trans (congrFun (f52 2 (by decide)) 3)) ((f211 6 (by decide)).trans (f52 6 (by decide))) hI2
      have I230 : jI9 σ209 := jI9_fr ((congrFun (f211 9 (by decide)) 0).trans (congrFun (f52 9 (by decide)) 0)) ((f211 10 (by decide)).trans (f52 10 (by decide))) ((f211 11 (by decide)).trans (f52 11 (by decide))) hI9
      have I231 : jI12 σ209 := jI12_fr ((congrFun (f211 12 (by decide)) 0).trans (congrFun (f52 12 (by decide)) 0)) ((f211 13 (by decide)).trans (f52 13 (by decide))) hI12
      have I232 : jI16 σ209 := jI16_fr ((congrFun (f211 16 (by decide)) 0).trans (congrFun (f52 16 (by decide)) 0)) ((congrFun (f211 16 (by decide)) 1).trans (congrFun (f52 16 (by decide)) 1)) ((congrFun (f211 16 (by decide)) 2).trans (congrFun (f52 16 (by decide)) 2)) ((f211 17 (by decide)).trans (f52 17 (by decide))) hI16
      have I233 : jI18 σ209 := jI18_fr ((congrFun (f211 18 (by decide)) 0).trans (congrFun (f52 18 (by decide)) 0)) ((f211 19 (by decide)).trans (f52 19 (by decide))) hI18
      have I234 : jI22 σ209 := jI22_fr ((congrFun (f211 22 (by decide)) 0).trans (congrFun (f52 22 (by decide)) 0)) ((f211 23 (by decide)).trans (f52 23 (by decide))) hI22
      have I235 : jI31 σ209 := jI31_fr ((congrFun (f211 31 (by decide)) 8).trans (congrFun (f52 31 (by decide)) 8)) ((f211 33 (by decide)).trans (f52 33 (by decide))) ((f211 36 (by decide)).trans (f52 36 (by decide))) hI31
      have I236 : jI38 σ209 := jI38_fr ((congrFun (f211 38 (by decide)) 0).trans (congrFun (f52 38 (by decide)) 0)) ((congrFun (f211 38 (by decide)) 1).trans (congrFun (f52 38 (by decide)) 1)) ((f211 39 (by decide)).trans (f52 39 (by decide))) hI38
      have I237 : jI43 σ209 := jI43_fr ((congrFun (f211 43 (by decide)) 8).trans (congrFun (f52 43 (by decide)) 8)) hI43
      have I238 : jI47 σ209 := jI47_fr ((congrFun (f211 47 (by decide)) 0).trans (congrFun (f52 47 (by decide)) 0)) ((f211 48 (by decide)).trans (f52 48 (by decide))) ((f211 49 (by decide)).trans (f52 49 (by decide))) hI47
      have I239 : jI50 σ209 := jI50_fr (f211 52 (by decide)) I53
      have I240 : jI101 σ209 := jI101_fr ((congrFun (f211 55 (by decide)) 4).trans (congrFun (f52 55 (by decide)) 4)) ((congrFun (f211 55 (by decide)) 5).trans (congrFun (f52 55 (by decide)) 5)) ((f211 56 (by decide)).trans (f52 56 (by decide))) ((f211 57 (by decide)).trans (f52 57 (by decide))) ((f211 58 (by decide)).trans (f52 58 (by decide))) ((f211 59 (by decide)).trans (f52 59 (by decide))) hI101
      have I241 : jI102 σ209 := jI102_fr ((congrFun (f211 55 (by decide)) 6).trans (congrFun (f52 55 (by decide)) 6)) ((f211 60 (by decide)).trans (f52 60 (by decide))) ((f211 61 (by decide)).trans (f52 61 (by decide))) hI102
      have I242 : jI103 σ209 := jI103_fr ((congrFun (f211 55 (by decide)) 9).trans (congrFun (f52 55 (by decide)) 9)) hI103
      have I243 : jI104 σ209 := jI104_fr ((congrFun (f211 55 (by decide)) 10).trans (congrFun (f52 55 (by decide)) 10)) ((congrFun (f211 55 (by decide)) 12).trans (congrFun (f52 55 (by decide)) 12)) ((congrFun (f211 55 (by decide)) 13).trans (congrFun (f52 55 (by decide)) 13)) ((f211 62 (by decide)).trans (f52 62 (by decide))) ((f211 67 (by decide)).trans (f52 67 (by decide))) hI104
      have I244 : jI105 σ209 := jI105_fr ((congrFun (f211 55 (by decide)) 15).trans (congrFun (f52 55 (by decide)) 15)) ((f211 65 (by decide)).trans (f52 65 (by decide))) hI105
      have I245 : jI106 σ209 := jI106_fr (congrFun (f211 55 (by decide)) 32) (f211 70 (by decide)) (f211 71 (by decide)) (f211 72 (by decide)) I206
      have I246 : jI107 σ209 := jI107_fr ((congrFun (f211 55 (by decide)) 12).trans (congrFun (f52 55 (by decide)) 12)) ((congrFun (f211 55 (by decide)) 47).trans (congrFun (f52 55 (by decide)) 47)) ((f211 80 (by decide)).trans (f52 80 (by decide))) hI107
      have I247 : jI109 σ209 := jI109_fr ((congrFun (f211 55 (by decide)) 50).trans (congrFun (f52 55 (by decide)) 50)) hI109
      have I248 : jI111 σ209 := jI111_fr ((f211 79 (by decide)).trans (f52 79 (by decide))) hI111
      have I249 : jI119 σ209 := jI119_fr ((f211 68 (by decide)).trans (f52 68 (by decide))) hI119
      have p250 : jKept σ209 := jKept.fr ((f211 75 (by decide)).trans (f52 75 (by decide))) ((f211 76 (by decide)).trans (f52 76 (by decide))) ((f211 77 (by decide)).trans (f52 77 (by decide))) hs_jKept
      have p251 : jBook σ209 := jBook.fr ((congrFun (f211 55 (by decide)) 47).trans (congrFun (f52 55 (by decide)) 47)) ((congrFun (f211 55 (by decide)) 10).trans (congrFun (f52 55 (by decide)) 10)) ((f211 81 (by decide)).trans (f52 81 (by decide))) hs_jBook
      have z252 : (σ209 2 0).toInt = (σ 2 0).toInt := (congrArg Int32.toInt (show σ209 2 0 = (σ 2 0) from ((congrFun (f211 2 (by decide)) 0).trans (congrFun (f52 2 (by decide)) 0))))
      have z253 : (σ209 55 6).toInt = (σ 55 6).toInt := (congrArg Int32.toInt (show σ209 55 6 = (σ 55 6) from ((congrFun (f211 55 (by decide)) 6).trans (congrFun (f52 55 (by decide)) 6))))
      have z254 : (σ209 2 2).toInt = (σ 2 2).toInt := (congrArg Int32.toInt (show σ209 2 2 = (σ 2 2) from ((congrFun (f211 2 (by decide)) 2).trans (congrFun (f52 2 (by decide)) 2))))
      have z255 : (σ209 55 5).toInt = (σ 55 5).toInt := (congrArg Int32.toInt (show σ209 55 5 = (σ 55 5) from ((congrFun (f211 55 (by decide)) 5).trans (congrFun (f52 55 (by decide)) 5))))
      have z256 : (σ209 2 3).toInt = (σ 2 3).toInt := (congrArg Int32.toInt (show σ209 2 3 = (σ 2 3) from ((congrFun (f211 2 (by decide)) 3).trans (congrFun (f52 2 (by decide)) 3))))
      have z257 : (σ209 55 4).toInt = (σ 55 4).toInt := (congrArg Int32.toInt (show σ209 55 4 = (σ 55 4) from ((congrFun (f211 55 (by decide)) 4).trans (congrFun (f52 55 (by decide)) 4))))
      have z258 : (σ209 9 0).toInt = (σ 9 0).toInt := (congrArg Int32.toInt (show σ209 9 0 = (σ 9 0) from ((congrFun (f211 9 (by decide)) 0).trans (congrFun (f52 9 (by decide)) 0))))
      have z259 : (σ209 55 15).toInt = (σ 55 15).toInt := (congrArg Int32.toInt (show σ209 55 15 = (σ 55 15) from ((congrFun (f211 55 (by decide)) 15).trans (congrFun (f52 55 (by decide)) 15))))
      have z260 : (σ209 16 0).toInt = (σ 16 0).toInt := (congrArg Int32.toInt (show σ209 16 0 = (σ 16 0) from ((congrFun (f211 16 (by decide)) 0).trans (congrFun (f52 16 (by decide)) 0))))
      have z261 : (σ209 55 10).toInt = (σ 55 10).toInt := (congrArg Int32.toInt (show σ209 55 10 = (σ 55 10) from ((congrFun (f211 55 (by decide)) 10).trans (congrFun (f52 55 (by decide)) 10))))
      have z262 : (σ209 16 1).toInt = (σ 16 1).toInt := (congrArg Int32.toInt (show σ209 16 1 = (σ 16 1) from ((congrFun (f211 16 (by decide)) 1).trans (congrFun (f52 16 (by decide)) 1))))
      have z263 : (σ209 55 12).toInt = (σ 55 12).toInt := (congrArg Int32.toInt (show σ209 55 12 = (σ 55 12) from ((congrFun (f211 55 (by decide)) 12).trans (congrFun (f52 55 (by decide)) 12))))
      have z264 : (σ209 16 2).toInt = (σ 16 2).toInt := (congrArg Int32.toInt (show σ209 16 2 = (σ 16 2) from ((congrFun (f211 16 (by decide)) 2).trans (congrFun (f52 16 (by decide)) 2))))
      have z265 : (σ209 55 13).toInt = (σ 55 13).toInt := (congrArg Int32.toInt (show σ209 55 13 = (σ 55 13) from ((congrFun (f211 55 (by decide)) 13).trans (congrFun (f52 55 (by decide)) 13))))
      have z266 : (σ209 38 0).toInt = (σ 38 0).toInt := (congrArg Int32.toInt (show σ209 38 0 = (σ 38 0) from ((congrFun (f211 38 (by decide)) 0).trans (congrFun (f52 38 (by decide)) 0))))
      have z267 : (σ209 55 32).toInt = (σ 55 32).toInt := (congrArg Int32.toInt (show σ209 55 32 = (σ 55 32) from ((congrFun (f211 55 (by decide)) 32).trans (congrFun (f52 55 (by decide)) 32))))
      have z268 : (σ209 47 0).toInt = (σ 47 0).toInt := (congrArg Int32.toInt (show σ209 47 0 = (σ 47 0) from ((congrFun (f211 47 (by decide)) 0).trans (congrFun (f52 47 (by decide)) 0))))
      have z269 : (σ209 55 47).toInt = (σ 55 47).toInt := (congrArg Int32.toInt (show σ209 55 47 = (σ 55 47) from ((congrFun (f211 55 (by decide)) 47).trans (congrFun (f52 55 (by decide)) 47))))
      have z270 : (σ209 55 30).toInt = (σ 55 30).toInt := (congrArg Int32.toInt (show σ209 55 30 = (σ 55 30) from ((congrFun (f211 55 (by decide)) 30).trans (congrFun (f52 55 (by decide)) 30))))
      have z271 : (σ209 55 31).toInt = (σ 55 31).toInt := (congrArg Int32.toInt (show σ209 55 31 = (σ 55 31) from ((congrFun (f211 55 (by decide)) 31).trans (congrFun (f52 55 (by decide)) 31))))
      exact ih x228 σ209 τ _ _ ls (by have h9 := tx228; omega) ⟨I229, I230, I231, I232, I233, I234, I235, I236, I237, I238, I239, I240, I241, I242, I243, I244, I245, I246, I247, I212, I248, I249, p250, p251, (by omega), (by omega), (by omega), (by omega), (by omega), (by omega), (by omega), (by omega), (by omega), (by omega), (by omega), (show jNumP (σ209 3) (σ209 56) (σ209 6) (σ209 57) (σ209 7) (σ209 58) (σ209 8) (σ209 59) (σ209 55 6).toInt (σ209 55 4).toInt by rw [show σ209 3 = σ 3 from ((f211 3 (by decide)).trans (f52 3 (by decide))), show σ209 56 = σ 56 from ((f211 56 (by decide)).trans (f52 56 (by decide))), show σ209 6 = σ 6 from ((f211 6 (by decide)).trans (f52 6 (by decide))), show σ209 57 = σ 57 from ((f211 57 (by decide)).trans (f52 57 (by decide))), show σ209 7 = σ 7 from ((f211 7 (by decide)).trans (f52 7 (by decide))), show σ209 58 = σ 58 from ((f211 58 (by decide)).trans (f52 58 (by decide))), show σ209 8 = σ 8 from ((f211 8 (by decide)).trans (f52 8 (by decide))), show σ209 59 = σ 59 from ((f211 59 (by decide)).trans (f52 59 (by decide))), show (σ209 55 6).toInt = (σ 55 6).toInt from by omega, show (σ209 55 4).toInt = (σ 55 4).toInt from by omega]; exact hr0), (show jOvP (σ209 56) (σ209 57) (σ209 58) (σ209 59) (σ209 55 4).toInt by rw [show σ209 56 = σ 56 from ((f211 56 (by decide)).trans (f52 56 (by decide))), show σ209 57 = σ 57 from ((f211 57 (by decide)).trans (f52 57 (by decide))), show σ209 58 = σ 58 from ((f211 58 (by decide)).trans (f52 58 (by decide))), show σ209 59 = σ 59 from ((f211 59 (by decide)).trans (f52 59 (by decide))), show (σ209 55 4).toInt = (σ 55 4).toInt from by omega]; exact hr1), (show jTp (σ209 10) (σ209 63) (σ209 55 15).toInt by rw [show σ209 10 = σ 10 from ((f211 10 (by decide)).trans (f52 10 (by decide))), show σ209 63 = σ 63 from ((f211 63 (by decide)).trans (f52 63 (by decide)))]; exact hr2.le (by omega)), (show jSo (σ209 17) (σ209 62) (σ209 16 0).toInt by rw [show σ209 17 = σ 17 from ((f211 17 (by decide)).trans (f52 17 (by decide))), show σ209 62 = σ 62 from ((f211 62 (by decide)).trans (f52 62 (by decide))), show (σ209 16 0).toInt = (σ 16 0).toInt from by omega]; exact hr3), (show jShP (σ209 51) (σ209 52) (σ209 53) (σ209 86) (σ209 87) (σ209 55 32).toInt by rw [show σ209 51 = σ 51 from ((f211 51 (by decide)).trans k204.1), show σ209 52 = σ 52 from ((f211 52 (by decide)).trans k204.2.1), show σ209 53 = σ 53 from ((f211 53 (by decide)).trans k204.2.2), show σ209 86 = σ 86 from (k226.1.trans (f52 86 (by decide))), show σ209 87 = σ 87 from (k226.2.trans (f52 87 (by decide)))]; exact (hr4.up (by omega) (by omega))), (show jEl (σ209 51) (σ209 52) (τ 54) (τ 88) by rw [show σ209 51 = σ 51 from ((f211 51 (by decide)).trans k204.1), show σ209 52 = σ 52 from ((f211 52 (by decide)).trans k204.2.1)]; exact hr5), (show jByP (σ209 51) (σ209 52) (τ 54) by rw [show σ209 51 = σ 51 from ((f211 51 (by decide)).trans k204.1), show σ209 52 = σ 52 from ((f211 52 (by decide)).trans k204.2.1)]; exact hr6), (show jBk (σ209 48) (σ209 80) (σ209 49) (σ209 81) (σ209 55 47).toInt by rw [show σ209 48 = σ 48 from ((f211 48 (by decide)).trans (f52 48 (by decide))), show σ209 49 = σ 49 from ((f211 49 (by decide)).trans (f52 49 (by decide))), show σ209 80 = σ 80 from ((f211 80 (by decide)).trans (f52 80 (by decide))), show σ209 81 = σ 81 from ((f211 81 (by decide)).trans (f52 81 (by decide))), show (σ209 55 47).toInt = (σ 55 47).toInt from by omega]; exact hr7)⟩ hP hS (lv_sub hl [0, 1, 2, 3] rfl)
set_option maxHeartbeats 4000000 in
set_option maxRecDepth 100000 in
theorem law_case_31 {p : Program} {e : Env} {s : State} {m : MethodId} {below : List Frame} {meth : Method} {c : Code} (l : Launch) {b L : Nat} {xs : Nat → Int32} {D : va_G} {cI cL : ClassId} {ad zz : Nat → Nat} (C0 : lw_At p s m meth c b L xs) (hJ : jD ad) (hA : ∀ q, jA ad q → s.heap.size ≤ q) (hK : jK D cI cL s) (hZ : jZ zz (fun q : Nat => s.heap.size ≤ q) s s.heap) {x0 : Int32} (hx0 : 0 ≤ x0.toInt) (hxL : x0.toInt + 6 ≤ (L : Int)) (hL : L ≤ 384) {σ : Nat → Nat → Int32} {τ : Nat → Nat → Int64} {H : Heap} {locs : List Loc} (hS : va_S (fun q : Nat => s.heap.size ≤ q) s.heap H locs) {ls : Array Slot} (hAll : jAll σ τ) (hP : jH D cI cL ad σ τ H) (hl : lv_has ls 4 [(3, .int x0), (2, .ref (ad 55)), (1, .ref (ad 0)), (0, .ref b)]) (ih : ∀ (x1 : Int32) (σ : Nat → Nat → Int32) (τ : Nat → Nat → Int64) (H : Heap) (locs : List Loc) (ls : Array Slot), x1.toInt = x0.toInt + 6 → jAll σ τ → jH D cI cL ad σ τ H → va_S (fun q : Nat => s.heap.size ≤ q) s.heap H locs → lv_has ls 4 [(3, .int x1), (2, .ref (ad 55)), (1, .ref (ad 0)), (0, .ref b)] → W p l e room_1 s m #[Value.ref b] below meth c H locs 90 348600 (lw_Z below #[Value.ref b] s) (F0 m 18 ls [])) : W p l e room_1 s m #[Value.ref b] below meth c H locs 90 348600 (lw_Z below #[Value.ref b] s) (F0 m 1089 ls []) := by
  obtain ⟨hx, hb, hr, hml, hown, hts0, hX, hbl, hlocks, hgv⟩ := C0
  have hts : ∀ w ∈ wsL_law, w.before #[Value.ref b] s = true := fun w h => hts0 w (wsL_law_in w h)
  have hbA : ¬ (fun q : Nat => s.heap.size ≤ q) b := Nat.not_le.mpr hbl
  have hown : s.vm.findClass RL = some m.cls := hown
  obtain ⟨hI2, hI9, hI12, hI16, hI18, hI22, hI31, hI38, hI43, hI47, hI50, hI101, hI102, hI103, hI104, hI105, hI106, hI107, hI109, hI110, hI111, hI119, hs_jKept, hs_jBook, ht0, ht1, ht2, ht3, ht4, ht5, ht6, ht7, ht8, ht9, ht10, hr0, hr1, hr2, hr3, hr4, hr5, hr6, hr7⟩ := hAll
  have hL9 : (L : Int) ≤ 384 := by omega
  obtain ⟨i1, i2, i3, i4, i5, w6⟩ : (0 ≤ (σ 2 0).toInt ∧ (σ 2 0).toInt ≤ 4) ∧ (0 ≤ (σ 2 1).toInt ∧ (σ 2 1).toInt ≤ 3) ∧ (0 ≤ (σ 2 2).toInt) ∧ (0 ≤ (σ 2 3).toInt) ∧ ((σ 2 2).toInt + (σ 2 3).toInt ≤ 40) ∧ (∀ k : Nat, k < 40 → 0 ≤ (σ 6 k).toInt ∧ (σ 6 k).toInt ≤ 67) := id hI2
  obtain ⟨i7, w8, w9⟩ : (0 ≤ (σ 9 0).toInt ∧ (σ 9 0).toInt ≤ 80) ∧ (∀ k : Nat, k < 80 → 0 ≤ (σ 10 k).toInt ∧ (σ 10 k).toInt ≤ 255) ∧ (∀ k : Nat, k < 8 → 0 ≤ (σ 11 k).toInt ∧ (σ 11 k).toInt ≤ 3) := id hI9
  obtain ⟨i10, i11, i12, w13⟩ : (1 ≤ (σ 16 0).toInt ∧ (σ 16 0).toInt ≤ 8) ∧ (1 ≤ (σ 16 1).toInt ∧ (σ 16 1).toInt ≤ 12) ∧ (0 ≤ (σ 16 2).toInt ∧ (σ 16 2).toInt ≤ 999) ∧ (∀ k : Nat, k < 8 → 0 ≤ (σ 17 k).toInt ∧ (σ 17 k).toInt ≤ 3) := id hI16
  obtain ⟨i14, i15, w16⟩ : (0 ≤ (σ 38 0).toInt ∧ (σ 38 0).toInt ≤ 20) ∧ (0 ≤ (σ 38 1).toInt ∧ (σ 38 1).toInt ≤ 1000) ∧ (∀ k : Nat, k < 20 → 0 ≤ (σ 39 k).toInt ∧ (σ 39 k).toInt ≤ 6) := id hI38
  obtain ⟨i17, w18, w19⟩ : (0 ≤ (σ 47 0).toInt ∧ (σ 47 0).toInt ≤ 12) ∧ (∀ k : Nat, k < 12 → 0 ≤ (σ 48 k).toInt ∧ (σ 48 k).toInt ≤ 3) ∧ (∀ k : Nat, k < 12 → 0 ≤ (σ 49 k).toInt ∧ (σ 49 k).toInt ≤ 1) := id hI47
  have w20 : ∀ k : Nat, k < 6 → 0 ≤ (σ 52 k).toInt ∧ (σ 52 k).toInt ≤ 60 := hI50
  obtain ⟨i21, i22, i23, w24, w25, w26, w27⟩ : (0 ≤ (σ 55 5).toInt) ∧ ((σ 55 5).toInt ≤ (σ 55 4).toInt) ∧ ((σ 55 4).toInt ≤ 40) ∧ (∀ k : Nat, k < 68 → (-200) ≤ (σ 56 k).toInt ∧ (σ 56 k).toInt ≤ 500) ∧ (∀ k : Nat, k < 40 → 0 ≤ (σ 57 k).toInt ∧ (σ 57 k).toInt ≤ 67) ∧ (∀ k : Nat, k < 40 → (-200) ≤ (σ 58 k).toInt ∧ (σ 58 k).toInt ≤ 500) ∧ (∀ k : Nat, k < 40 → (-200) ≤ (σ 59 k).toInt ∧ (σ 59 k).toInt ≤ 500) := id hI101
  obtain ⟨i28, w29, w30⟩ : (0 ≤ (σ 55 6).toInt ∧ (σ 55 6).toInt ≤ 4) ∧ (∀ k : Nat, k < 4 → 0 ≤ (σ 60 k).toInt ∧ (σ 60 k).toInt ≤ 50) ∧ (∀ k : Nat, k < 4 → 0 ≤ (σ 61 k).toInt ∧ (σ 61 k).toInt ≤ 20) := id hI102
  obtain ⟨i31, i32, i33, w34, w35⟩ : (1 ≤ (σ 55 10).toInt ∧ (σ 55 10).toInt ≤ 8) ∧ (1 ≤ (σ 55 12).toInt ∧ (σ 55 12).toInt ≤ 12) ∧ (0 ≤ (σ 55 13).toInt ∧ (σ 55 13).toInt ≤ 999) ∧ (∀ k : Nat, k < 8 → 0 ≤ (σ 62 k).toInt ∧ (σ 62 k).toInt ≤ 3) ∧ (∀ k : Nat, k < 8 → 0 ≤ (σ 67 k).toInt ∧ (σ 67 k).toInt ≤ 3) := id hI104
  obtain ⟨i36, w37⟩ : (0 ≤ (σ 55 15).toInt ∧ (σ 55 15).toInt ≤ 80) ∧ (∀ k : Nat, k < 2 → (-1) ≤ (σ 65 k).toInt ∧ (σ 65 k).toInt ≤ 80) := id hI105
  obtain ⟨i38, w39, w40, w41⟩ : (0 ≤ (σ 55 32).toInt ∧ (σ 55 32).toInt ≤ 20) ∧ (∀ k : Nat, k < 20 → 0 ≤ (σ 70 k).toInt ∧ (σ 70 k).toInt ≤ 6) ∧ (∀ k : Nat, k < 20 → 0 ≤ (σ 71 k).toInt ∧ (σ 71 k).toInt ≤ 8) ∧ (∀ k : Nat, k < 160 → 0 ≤ (σ 72 k).toInt ∧ (σ 72 k).toInt ≤ 3) := id hI106
  obtain ⟨i42, i43, w44⟩ : (0 ≤ (σ 55 47).toInt ∧ (σ 55 47).toInt ≤ 12) ∧ ((σ 55 47).toInt ≤ (σ 55 12).toInt) ∧ (∀ k : Nat, k < 12 → 0 ≤ (σ 80 k).toInt ∧ (σ 80 k).toInt ≤ 3) := id hI107
  refine lv_aload_n hx hb dL_law_1089 rfl (lv_at hl 2 rfl) ?_
  refine lv_aload_n hx hb dL_law_1090 rfl (lv_at hl 3 rfl) ?_
  refine lv_iload_n hx hb dL_law_1091 rfl (lv_at hl 0 rfl) ?_
  refine lv_iconst (v := 1) hx hb dL_law_1092 (by decide) ?_
  have g45 := jrg (rfl : x0.toInt = x0.toInt)
  refine lv_iadd hx hb dL_law_1093 ?_
  refine lv_topi (fun x46 ex46 => ?_)
  have tx46 : x46.toInt = x0.toInt + 1 := (jadd ex46 rfl jz_1 (by omega) (by omega)).trans (by omega)
  refine va_sld hx hb hX hbl hbA hS (jin tx46 (by omega) (by omega)) dL_law_1094 ?_
  have g47 := jrg (rfl : (xs x46.toNatClampNeg).toInt = (xs x46.toNatClampNeg).toInt)
  refine lv_aload_n hx hb dL_law_1095 rfl (lv_at hl 3 rfl) ?_
  refine lv_iload_n hx hb dL_law_1096 rfl (lv_at hl 0 rfl) ?_
  refine lv_iconst (v := 2) hx hb dL_law_1097 (by decide) ?_
  refine lv_iadd hx hb dL_law_1098 ?_
  refine lv_topi (fun x48 ex48 => ?_)
  have tx48 : x48.toInt = x0.toInt + 2 := (jadd ex48 rfl jz_2 (by omega) (by omega)).trans (by omega)
  refine va_sld hx hb hX hbl hbA hS (jin tx48 (by omega) (by omega)) dL_law_1099 ?_
  have g49 := jrg (rfl : (xs x48.toNatClampNeg).toInt = (xs x48.toNatClampNeg).toInt)
  refine lv_aload_n hx hb dL_law_1100 rfl (lv_at hl 3 rfl) ?_
  refine lv_iload_n hx hb dL_law_1101 rfl (lv_at hl 0 rfl) ?_
  refine lv_iconst (v := 3) hx hb dL_law_1102 (by decide) ?_
  refine lv_iadd hx hb dL_law_1103 ?_
  refine lv_topi (fun x50 ex50 => ?_)
  have tx50 : x50.toInt = x0.toInt + 3 := (jadd ex50 rfl jz_3 (by omega) (by omega)).trans (by omega)
  refine va_sld hx hb hX hbl hbA hS (jin tx50 (by omega) (by omega)) dL_law_1104 ?_
  have g51 := jrg (rfl : (xs x50.toNatClampNeg).toInt = (xs x50.toNatClampNeg).toInt)
  refine jcallV (As := [.int (xs x46.toNatClampNeg), .int (xs x48.toNatClampNeg), .int (xs x50.toNatClampNeg)]) (rest := []) ⟨hx, hb, hml, hown, hts⟩ hK hP hA hS hZ (c_X11_row l D cI cL ad zz hJ σ τ (xs x46.toNatClampNeg) ((xs x46.toNatClampNeg).toInt) rfl (xs x48.toNatClampNeg) ((xs x48.toNatClampNeg).toInt) rfl (xs x50.toNatClampNeg) ((xs x50.toNatClampNeg).toInt) rfl hI50) cw_RL_141 (jc_0 cI cL ad σ τ) rfl ⟨Nat.le_of_ble_eq_true rfl, Nat.le_of_ble_eq_true rfl⟩ rfl rfl rfl hl.1 rfl (Nat.le_of_ble_eq_true rfl) dL_law_1105 ⟨Nat.le_of_ble_eq_true rfl, Nat.le_of_ble_eq_true rfl⟩ (fun r53 σ52 τ52 H locs h52 hP hS => ?_)
  obtain ⟨f56, f54, I55, h52⟩ := h52
  have w57 : ∀ k : Nat, k < 6 → 0 ≤ (σ52 52 k).toInt ∧ (σ52 52 k).toInt ≤ 60 := I55
  rcases h52 with h58 | h59 | h60
  · obtain ⟨q64, k61, k62, k63⟩ := h58
    have q64 := q64.symm
    subst q64
    refine lv_pop hx hb dL_law_1108 rfl ?_
    refine lv_aload_n hx hb dL_law_1109 rfl (lv_at hl 1 rfl) ?_
    refine lv_aload_n hx hb dL_law_1110 rfl (lv_at hl 3 rfl) ?_
    refine lv_iload_n hx hb dL_law_1111 rfl (lv_at hl 0 rfl) ?_
    refine lv_iconst (v := 1) hx hb dL_law_1112 (by decide) ?_
    refine lv_iadd hx hb dL_law_1113 ?_
    refine jtopr ex46.symm ?_
    refine va_sld hx hb hX hbl hbA hS (jin tx46 (by omega) (by omega)) dL_law_1114 ?_
    refine lv_aload_n hx hb dL_law_1115 rfl (lv_at hl 3 rfl) ?_
    refine lv_iload_n hx hb dL_law_1116 rfl (lv_at hl 0 rfl) ?_
    refine lv_iconst (v := 2) hx hb dL_law_1117 (by decide) ?_
    refine lv_iadd hx hb dL_law_1118 ?_
    refine jtopr ex48.symm ?_
    refine va_sld hx hb hX hbl hbA hS (jin tx48 (by omega) (by omega)) dL_law_1119 ?_
    refine lv_aload_n hx hb dL_law_1120 rfl (lv_at hl 3 rfl) ?_
    refine lv_iload_n hx hb dL_law_1121 rfl (lv_at hl 0 rfl) ?_
    refine lv_iconst (v := 3) hx hb dL_law_1122 (by decide) ?_
    refine lv_iadd hx hb dL_law_1123 ?_
    refine jtopr ex50.symm ?_
    refine va_sld hx hb hX hbl hbA hS (jin tx50 (by omega) (by omega)) dL_law_1124 ?_
    have I65 : jI110 σ52 := jI110_fr (f54 86 (by decide)) (f54 87 (by decide)) hI110
    refine jcallV (As := [.int (xs x46.toNatClampNeg), .int (xs x48.toNatClampNeg), .int (xs x50.toNatClampNeg)]) (rest := []) ⟨hx, hb, hml, hown, hts⟩ hK hP hA hS hZ (c_X12_row l D cI cL ad zz hJ σ52 τ52 (xs x46.toNatClampNeg) ((xs x46.toNatClampNeg).toInt) rfl (xs x48.toNatClampNeg) ((xs x48.toNatClampNeg).toInt) rfl (xs x50.toNatClampNeg) ((xs x50.toNatClampNeg).toInt) rfl I65) cw_RL_144 (jc_55 cI cL ad σ52 τ52) rfl ⟨Nat.le_of_ble_eq_true rfl, Nat.le_of_ble_eq_true rfl⟩ rfl rfl rfl hl.1 rfl (Nat.le_of_ble_eq_true rfl) dL_law_1125 ⟨Nat.le_of_ble_eq_true rfl, Nat.le_of_ble_eq_true rfl⟩ (fun r67 σ66 τ66 H locs h66 hP hS => ?_)
    obtain ⟨f70, f68, I69, h66⟩ := h66
    rcases h66 with h71 | h72 | h73
    · obtain ⟨q77, k74, k75, k76⟩ := h71
      have q77 := q77.symm
      subst q77
      refine lv_pop hx hb dL_law_1128 rfl ?_
      refine lv_goto (tgt := 1357) hx hb dL_law_1129 (by decide) ?_
      obtain ⟨x78, ex78⟩ : ∃ y : Int32, y = x0 + 6 := ⟨_, rfl⟩
      have tx78 : x78.toInt = x0.toInt + 6 := (jadd ex78 rfl jz_6 (by omega) (by omega)).trans (by omega)
      refine lv_iinc (v := x78) (lv' := [(3, .int x78), (2, .ref (ad 55)), (1, .ref (ad 0)), (0, .ref b)]) hx hb dL_law_1357 hl (k := 0) rfl (by rw [ex78]; rfl) (by decide) rfl (fun ls hl => ?_)
      refine lv_goto (tgt := 18) hx hb dL_law_1360 (by decide) ?_
      have I79 : jI2 σ66 := jI2_fr ((congrFun (f68 2 (by decide)) 0).trans (congrFun (f54 2 (by decide)) 0)) ((congrFun (f68 2 (by decide)) 1).trans (congrFun (f54 2 (by decide)) 1)) ((congrFun (f68 2 (by decide)) 2).trans (congrFun (f54 2 (by decide)) 2)) ((congrFun (f68 2 (by decide)) 3).trans (congrFun (f54 2 (by decide)) 3)) ((f68 6 (by decide)).trans (f54 6 (by decide))) hI2
      have I80 : jI9 σ66 := jI9_fr ((congrFun (f68 9 (by decide)) 0).trans (congrFun (f54 9 (by decide)) 0)) ((f68 10 (by decide)).trans (f54 10 (by decide))) ((f68 11 (by decide)).trans (f54 11 (by decide))) hI9
      have I81 : jI12 σ66 := jI12_fr ((congrFun (f68 12 (by decide)) 0).trans (congrFun (f54 12 (by decide)) 0)) ((f68 13 (by decide)).trans (f54 13 (by decide))) hI12
      have I82 : jI16 σ66 := jI16_fr ((congrFun (f68 16 (by decide)) 0).trans (congrFun (f54 16 (by decide)) 0)) ((congrFun (f68 16 (by decide)) 1).trans (congrFun (f54 16 (by decide)) 1)) ((congrFun (f68 16 (by decide)) 2).trans (congrFun (f54 16 (by decide)) 2)) ((f68 17 (by decide)).trans (f54 17 (by decide))) hI16
      have I83 : jI18 σ66 := jI18_fr ((congrFun (f68 18 (by decide)) 0).trans (congrFun (f54 18 (by decide)) 0)) ((f68 19 (by decide)).trans (f54 19 (by decide))) hI18
      have I84 : jI22 σ66 := jI22_fr ((congrFun (f68 22 (by decide)) 0).trans (congrFun (f54 22 (by decide)) 0)) ((f68 23 (by decide)).trans (f54 23 (by decide))) hI22
      have I85 : jI31 σ66 := jI31_fr ((congrFun (f68 31 (by decide)) 8).trans (congrFun (f54 31 (by decide)) 8)) ((f68 33 (by decide)).trans (f54 33 (by decide))) ((f68 36 (by decide)).trans (f54 36 (by decide))) hI31
      have I86 : jI38 σ66 := jI38_fr ((congrFun (f68 38 (by decide)) 0).trans (congrFun (f54 38 (by decide)) 0)) ((congrFun (f68 38 (by decide)) 1).trans (congrFun (f54 38 (by decide)) 1)) ((f68 39 (by decide)).trans (f54 39 (by decide))) hI38
      have I87 : jI43 σ66 := jI43_fr ((congrFun (f68 43 (by decide)) 8).trans (congrFun (f54 43 (by decide)) 8)) hI43
      have I88 : jI47 σ66 := jI47_fr ((congrFun (f68 47 (by decide)) 0).trans (congrFun (f54 47 (by decide)) 0)) ((f68 48 (by decide)).trans (f54 48 (by decide))) ((f68 49 (by decide)).trans (f54 49 (by decide))) hI47
      have I89 : jI50 σ66 := jI50_fr (f68 52 (by decide)) I55
      have I90 : jI101 σ66 := jI101_fr ((congrFun (f68 55 (by decide)) 4).trans (congrFun (f54 55 (by decide)) 4)) ((congrFun (f68 55 (by decide)) 5).trans (congrFun (f54 55 (by decide)) 5)) ((f68 56 (by decide)).trans (f54 56 (by decide))) ((f68 57 (by decide)).trans (f54 57 (by decide))) ((f68 58 (by decide)).trans (f54 58 (by decide))) ((f68 59 (by decide)).trans (f54 59 (by decide))) hI101
      have I91 : jI102 σ66 := jI102_fr ((congrFun (f68 55 (by decide)) 6).trans (congrFun (f54 55 (by decide)) 6)) ((f68 60 (by decide)).trans (f54 60 (by decide))) ((f68 61 (by decide)).trans (f54 61 (by decide))) hI102
      have I92 : jI103 σ66 := jI103_fr ((congrFun (f68 55 (by decide)) 9).trans (congrFun (f54 55 (by decide)) 9)) hI103
      have I93 : jI104 σ66 := jI104_fr ((congrFun (f68 55 (by decide)) 10).trans (congrFun (f54 55 (by decide)) 10)) ((congrFun (f68 55 (by decide)) 12).trans (congrFun (f54 55 (by decide)) 12)) ((congrFun (f68 55 (by decide)) 13).trans (congrFun (f54 55 (by decide)) 13)) ((f68 62 (by decide)).trans (f54 62 (by decide))) ((f68 67 (by decide)).trans (f54 67 (by decide))) hI104
      have I94 : jI105 σ66 := jI105_fr ((congrFun (f68 55 (by decide)) 15).trans (congrFun (f54 55 (by decide)) 15)) ((f68 65 (by decide)).trans (f54 65 (by decide))) hI105
      have I95 : jI106 σ66 := jI106_fr ((congrFun (f68 55 (by decide)) 32).trans (congrFun (f54 55 (by decide)) 32)) ((f68 70 (by decide)).trans (f54 70 (by decide))) ((f68 71 (by decide)).trans (f54 71 (by decide))) ((f68 72 (by decide)).trans (f54 72 (by decide))) hI106
      have I96 : jI107 σ66 := jI107_fr ((congrFun (f68 55 (by decide)) 12).trans (congrFun (f54 55 (by decide)) 12)) ((congrFun (f68 55 (by decide)) 47).trans (congrFun (f54 55 (by decide)) 47)) ((f68 80 (by decide)).trans (f54 80 (by decide))) hI107
      have I97 : jI109 σ66 := jI109_fr ((congrFun (f68 55 (by decide)) 50).trans (congrFun (f54 55 (by decide)) 50)) hI109
      have I98 : jI111 σ66 := jI111_fr ((f68 79 (by decide)).trans (f54 79 (by decide))) hI111
      have I99 : jI119 σ66 := jI119_fr ((f68 68 (by decide)).trans (f54 68 (by decide))) hI119
      have p100 : jKept σ66 := jKept.fr ((f68 75 (by decide)).trans (f54 75 (by decide))) ((f68 76 (by decide)).trans (f54 76 (by decide))) ((f68 77 (by decide)).trans (f54 77 (by decide))) hs_jKept
      have p101 : jBook σ66 := jBook.fr ((congrFun (f68 55 (by decide)) 47).trans (congrFun (f54 55 (by decide)) 47)) ((congrFun (f68 55 (by decide)) 10).trans (congrFun (f54 55 (by decide)) 10)) ((f68 81 (by decide)).trans (f54 81 (by decide))) hs_jBook
      have z102 : (σ66 2 0).toInt = (σ 2 0).toInt := (congrArg Int32.toInt (show σ66 2 0 = (σ 2 0) from ((congrFun (f68 2 (by decide)) 0).trans (congrFun (f54 2 (by decide)) 0))))
      have z103 : (σ66 55 6).toInt = (σ 55 6).toInt := (congrArg Int32.toInt (show σ66 55 6 = (σ 55 6) from ((congrFun (f68 55 (by decide)) 6).trans (congrFun (f54 55 (by decide)) 6))))
      have z104 : (σ66 2 2).toInt = (σ 2 2).toInt := (congrArg Int32.toInt (show σ66 2 2 = (σ 2 2) from ((congrFun (f68 2 (by decide)) 2).trans (congrFun (f54 2 (by decide)) 2))))
      have z105 : (σ66 55 5).toInt = (σ 55 5).toInt := (congrArg Int32.toInt (show σ66 55 5 = (σ 55 5) from ((congrFun (f68 55 (by decide)) 5).trans (congrFun (f54 55 (by decide)) 5))))
      have z106 : (σ66 2 3).toInt = (σ 2 3).toInt := (congrArg Int32.toInt (show σ66 2 3 = (σ 2 3) from ((congrFun (f68 2 (by decide)) 3).trans (congrFun (f54 2 (by decide)) 3))))
      have z107 : (σ66 55 4).toInt = (σ 55 4).toInt := (congrArg Int32.toInt (show σ66 55 4 = (σ 55 4) from ((congrFun (f68 55 (by decide)) 4).trans (congrFun (f54 55 (by decide)) 4))))
      have z108 : (σ66 9 0).toInt = (σ 9 0).toInt := (congrArg Int32.toInt (show σ66 9 0 = (σ 9 0) from ((congrFun (f68 9 (by decide)) 0).trans (congrFun (f54 9 (by decide)) 0))))
      have z109 : (σ66 55 15).toInt = (σ 55 15).toInt := (congrArg Int32.toInt (show σ66 55 15 = (σ 55 15) from ((congrFun (f68 55 (by decide)) 15).trans (congrFun (f54 55 (by decide)) 15))))
      have z110 : (σ66 16 0).toInt = (σ 16 0).toInt := (congrArg Int32.toInt (show σ66 16 0 = (σ 16 0) from ((congrFun (f68 16 (by decide)) 0).trans (congrFun (f54 16 (by decide)) 0))))
      have z111 : (σ66 55 10).toInt = (σ 55 10).toInt := (congrArg Int32.toInt (show σ66 55 10 = (σ 55 10) from ((congrFun (f68 55 (by decide)) 10).trans (congrFun (f54 55 (by decide)) 10))))
      have z112 : (σ66 16 1).toInt = (σ 16 1).toInt := (congrArg Int32.toInt (show σ66 16 1 = (σ 16 1) from ((congrFun (f68 16 (by decide)) 1).trans (congrFun (f54 16 (by decide)) 1))))
      have z113 : (σ66 55 12).toInt = (σ 55 12).toInt := (congrArg Int32.toInt (show σ66 55 12 = (σ 55 12) from ((congrFun (f68 55 (by decide)) 12).trans (congrFun (f54 55 (by decide)) 12))))
      have z114 : (σ66 16 2).toInt = (σ 16 2).toInt := (congrArg Int32.toInt (show σ66 16 2 = (σ 16 2) from ((congrFun (f68 16 (by decide)) 2).trans (congrFun (f54 16 (by decide)) 2))))
      have z115 : (σ66 55 13).toInt = (σ 55 13).toInt := (congrArg Int32.toInt (show σ66 55 13 = (σ 55 13) from ((congrFun (f68 55 (by decide)) 13).trans (congrFun (f54 55 (by decide)) 13))))
      have z116 : (σ66 38 0).toInt = (σ 38 0).toInt := (congrArg Int32.toInt (show σ66 38 0 = (σ 38 0) from ((congrFun (f68 38 (by decide)) 0).trans (congrFun (f54 38 (by decide)) 0))))
      have z117 : (σ66 55 32).toInt = (σ 55 32).toInt := (congrArg Int32.toInt (show σ66 55 32 = (σ 55 32) from ((congrFun (f68 55 (by decide)) 32).trans (congrFun (f54 55 (by decide)) 32))))
      have z118 : (σ66 47 0).toInt = (σ 47 0).toInt := (congrArg Int32.toInt (show σ66 47 0 = (σ 47 0) from ((congrFun (f68 47 (by decide)) 0).trans (congrFun (f54 47 (by decide)) 0))))
      have z119 : (σ66 55 47).toInt = (σ 55 47).toInt := (congrArg Int32.toInt (show σ66 55 47 = (σ 55 47) from ((congrFun (f68 55 (by decide)) 47).trans (congrFun (f54 55 (by decide)) 47))))
      have z120 : (σ66 55 30).toInt = (σ 55 30).toInt := (congrArg Int32.toInt (show σ66 55 30 = (σ 55 30) from ((congrFun (f68 55 (by decide)) 30).trans (congrFun (f54 55 (by decide)) 30))))
      have z121 : (σ66 55 31).toInt = (σ 55 31).toInt := (congrArg Int32.toInt (show σ66 55 31 = (σ 55 31) from ((congrFun (f68 55 (by decide)) 31).trans (congrFun (f54 55 (by decide)) 31))))
      exact ih x78 σ66 τ66 _ _ ls (by have h9 := tx78; omega) ⟨I79, I80, I81, I82, I83, I84, I85, I86, I87, I88, I89, I90, I91, I92, I93, I94, I95, I96, I97, I69, I98, I99, p100, p101, (by omega), (by omega), (by omega), (by omega), (by omega), (by omega), (by omega), (by omega), (by omega), (by omega), (by omega), (show jNumP (σ66 3) (σ66 56) (σ66 6) (σ66 57) (σ66 7) (σ66 58) (σ66 8) (σ66 59) (σ66 55 6).toInt (σ66 55 4).toInt by rw [show σ66 3 = σ 3 from ((f68 3 (by decide)).trans (f54 3 (by decide))), show σ66 56 = σ 56 from ((f68 56 (by decide)).trans (f54 56 (by decide))), show σ66 6 = σ 6 from ((f68 6 (by decide)).trans (f54 6 (by decide))), show σ66 57 = σ 57 from ((f68 57 (by decide)).trans (f54 57 (by decide))), show σ66 7 = σ 7 from ((f68 7 (by decide)).trans (f54 7 (by decide))), show σ66 58 = σ 58 from ((f68 58 (by decide)).trans (f54 58 (by decide))), show σ66 8 = σ 8 from ((f68 8 (by decide)).trans (f54 8 (by decide))), show σ66 59 = σ 59 from ((f68 59 (by decide)).trans (f54 59 (by decide))), show (σ66 55 6).toInt = (σ 55 6).toInt from by omega, show (σ66 55 4).toInt = (σ 55 4).toInt from by omega]; exact hr0), (show jOvP (σ66 56) (σ66 57) (σ66 58) (σ66 59) (σ66 55 4).toInt by rw [show σ66 56 = σ 56 from ((f68 56 (by decide)).trans (f54 56 (by decide))), show σ66 57 = σ 57 from ((f68 57 (by decide)).trans (f54 57 (by decide))), show σ66 58 = σ 58 from ((f68 58 (by decide)).trans (f54 58 (by decide))), show σ66 59 = σ 59 from ((f68 59 (by decide)).trans (f54 59 (by decide))), show (σ66 55 4).toInt = (σ 55 4).toInt from by omega]; exact hr1), (show jTp (σ66 10) (σ66 63) (σ66 55 15).toInt by rw [show σ66 10 = σ 10 from ((f68 10 (by decide)).trans (f54 10 (by decide))), show σ66 63 = σ 63 from ((f68 63 (by decide)).trans (f54 63 (by decide)))]; exact hr2.le (by omega)), (show jSo (σ66 17) (σ66 62) (σ66 16 0).toInt by rw [show σ66 17 = σ 17 from ((f68 17 (by decide)).trans (f54 17 (by decide))), show σ66 62 = σ 62 from ((f68 62 (by decide)).trans (f54 62 (by decide))), show (σ66 16 0).toInt = (σ 16 0).toInt from by omega]; exact hr3), (show jShP (σ66 51) (σ66 52) (σ66 53) (σ66 86) (σ66 87) (σ66 55 32).toInt by rw [show σ66 51 = σ 51 from ((f68 51 (by decide)).trans k62.1), show σ66 52 = σ 52 from ((f68 52 (by decide)).trans k62.2.1), show σ66 53 = σ 53 from ((f68 53 (by decide)).trans k62.2.2), show σ66 86 = σ 86 from (k75.1.trans (f54 86 (by decide))), show σ66 87 = σ 87 from (k75.2.trans (f54 87 (by decide)))]; exact (hr4.up (by omega) (by omega))), (show jEl (σ66 51) (σ66 52) (τ66 54) (τ66 88) by rw [show σ66 51 = σ 51 from ((f68 51 (by decide)).trans k62.1), show σ66 52 = σ 52 from ((f68 52 (by decide)).trans k62.2.1), show τ66 54 = τ 54 from ((f70 54 (by decide)).trans k63), show τ66 88 = τ 88 from (k76.trans (f56 88 (by decide)))]; exact hr5), (show jByP (σ66 51) (σ66 52) (τ66 54) by rw [show σ66 51 = σ 51 from ((f68 51 (by decide)).trans k62.1), show σ66 52 = σ 52 from ((f68 52 (by decide)).trans k62.2.1), show τ66 54 = τ 54 from ((f70 54 (by decide)).trans k63)]; exact hr6), (show jBk (σ66 48) (σ66 80) (σ66 49) (σ66 81) (σ66 55 47).toInt by rw [show σ66 48 = σ 48 from ((f68 48 (by decide)).trans (f54 48 (by decide))), show σ66 49 = σ 49 from ((f68 49 (by decide)).trans (f54 49 (by decide))), show σ66 80 = σ 80 from ((f68 80 (by decide)).trans (f54 80 (by decide))), show σ66 81 = σ 81 from ((f68 81 (by decide)).trans (f54 81 (by decide))), show (σ66 55 47).toInt = (σ 55 47).toInt from by omega]; exact hr7)⟩ hP hS (lv_sub hl [0, 1, 2, 3] rfl)
    · obtain ⟨q128, k123, k124, k125, k126, k127⟩ := h72
      exact absurd (by omega : False) id
    · obtain ⟨q134, k129, k130, k131, k132, k133⟩ := h73
      exact absurd (by omega : False) id
  · obtain ⟨q140, k135, k136, k137, k138, k139⟩ := h59
    have q140 := q140.symm
    subst q140
    refine lv_pop hx hb dL_law_1108 rfl ?_
    refine lv_aload_n hx hb dL_law_1109 rfl (lv_at hl 1 rfl) ?_
    refine lv_aload_n hx hb dL_law_1110 rfl (lv_at hl 3 rfl) ?_
    refine lv_iload_n hx hb dL_law_1111 rfl (lv_at hl 0 rfl) ?_
    refine lv_iconst (v := 1) hx hb dL_law_1112 (by decide) ?_
    refine lv_iadd hx hb dL_law_1113 ?_
    refine jtopr ex46.symm ?_
    refine va_sld hx hb hX hbl hbA hS (jin tx46 (by omega) (by omega)) dL_law_1114 ?_
    refine lv_aload_n hx hb dL_law_1115 rfl (lv_at hl 3 rfl) ?_
    refine lv_iload_n hx hb dL_law_1116 rfl (lv_at hl 0 rfl) ?_
    refine lv_iconst (v := 2) hx hb dL_law_1117 (by decide) ?_
    refine lv_iadd hx hb dL_law_1118 ?_
    refine jtopr ex48.symm ?_
    refine va_sld hx hb hX hbl hbA hS (jin tx48 (by omega) (by omega)) dL_law_1119 ?_
    refine lv_aload_n hx hb dL_law_1120 rfl (lv_at hl 3 rfl) ?_
    refine lv_iload_n hx hb dL_law_1121 rfl (lv_at hl 0 rfl) ?_
    refine lv_iconst (v := 3) hx hb dL_law_1122 (by decide) ?_
    refine lv_iadd hx hb dL_law_1123 ?_
    refine jtopr ex50.symm ?_
    refine va_sld hx hb hX hbl hbA hS (jin tx50 (by omega) (by omega)) dL_law_1124 ?_
    have I141 : jI110 σ52 := jI110_fr (f54 86 (by decide)) (f54 87 (by decide)) hI110
    refine jcallV (As := [.int (xs x46.toNatClampNeg), .int (xs x48.toNatClampNeg), .int (xs x50.toNatClampNeg)]) (rest := []) ⟨hx, hb, hml, hown, hts⟩ hK hP hA hS hZ (c_X12_row l D cI cL ad zz hJ σ52 τ52 (xs x46.toNatClampNeg) ((xs x46.toNatClampNeg).toInt) rfl (xs x48.toNatClampNeg) ((xs x48.toNatClampNeg).toInt) rfl (xs x50.toNatClampNeg) ((xs x50.toNatClampNeg).toInt) rfl I141) cw_RL_144 (jc_55 cI cL ad σ52 τ52) rfl ⟨Nat.le_of_ble_eq_true rfl, Nat.le_of_ble_eq_true rfl⟩ rfl rfl rfl hl.1 rfl (Nat.le_of_ble_eq_true rfl) dL_law_1125 ⟨Nat.le_of_ble_eq_true rfl, Nat.le_of_ble_eq_true rfl⟩ (fun r143 σ142 τ142 H locs h142 hP hS => ?_)
    obtain ⟨f146, f144, I145, h142⟩ := h142
    rcases h142 with h147 | h148 | h149
    · obtain ⟨q153, k150, k151, k152⟩ := h147
      exact absurd (by omega : False) id
    · obtain ⟨q159, k154, k155, k156, k157, k158⟩ := h148
      have q159 := q159.symm
      subst q159
      refine lv_pop hx hb dL_law_1128 rfl ?_
      refine lv_goto (tgt := 1357) hx hb dL_law_1129 (by decide) ?_
      obtain ⟨x160, ex160⟩ : ∃ y : Int32, y = x0 + 6 := ⟨_, rfl⟩
      have tx160 : x160.toInt = x0.toInt + 6 := (jadd ex160 rfl jz_6 (by omega) (by omega)).trans (by omega)
      refine lv_iinc (v := x160) (lv' := [(3, .int x160), (2, .ref (ad 55)), (1, .ref (ad 0)), (0, .ref b)]) hx hb dL_law_1357 hl (k := 0) rfl (by rw [ex160]; rfl) (by decide) rfl (fun ls hl => ?_)
      refine lv_goto (tgt := 18) hx hb dL_law_1360 (by decide) ?_
      have I161 : jI2 σ142 := jI2_fr ((congrFun (f144 2 (by decide)) 0).trans (congrFun (f54 2 (by decide)) 0)) ((congrFun (f144 2 (by decide)) 1).trans (congrFun (f54 2 (by decide)) 1)) ((congrFun (f144 2 (by decide)) 2).trans (congrFun (f54 2 (by decide)) 2)) ((congrFun (f144 2 (by decide)) 3).trans (congrFun (f54 2 (by decide)) 3)) ((f144 6 (by decide)).trans (f54 6 (by decide))) hI2
      have I162 : jI9 σ142 := jI9_fr ((congrFun (f144 9 (by decide)) 0).trans (congrFun (f54 9 (by decide)) 0)) ((f144 10 (by decide)).trans (f54 10 (by decide))) ((f144 11 (by decide)).trans (f54 11 (by decide))) hI9
      have I163 : jI12 σ142 := jI12_fr ((congrFun (f144 12 (by decide)) 0).trans (congrFun (f54 12 (by decide)) 0)) ((f144 13 (by decide)).trans (f54 13 (by decide))) hI12
      have I164 : jI16 σ142 := jI16_fr ((congrFun (f144 16 (by decide)) 0).trans (congrFun (f54 16 (by decide)) 0)) ((congrFun (f144 16 (by decide)) 1).trans (congrFun (f54 16 (by decide)) 1)) ((congrFun (f144 16 (by decide)) 2).trans (congrFun (f54 16 (by decide)) 2)) ((f144 17 (by decide)).trans (f54 17 (by decide))) hI16
      have I165 : jI18 σ142 := jI18_fr ((congrFun (f144 18 (by decide)) 0).trans (congrFun (f54 18 (by decide)) 0)) ((f144 19 (by decide)).trans (f54 19 (by decide))) hI18
      have I166 : jI22 σ142 := jI22_fr ((congrFun (f144 22 (by decide)) 0).trans (congrFun (f54 22 (by decide)) 0)) ((f144 23 (by decide)).trans (f54 23 (by decide))) hI22
      have I167 : jI31 σ142 := jI31_fr ((congrFun (f144 31 (by decide)) 8).trans (congrFun (f54 31 (by decide)) 8)) ((f144 33 (by decide)).trans (f54 33 (by decide))) ((f144 36 (by decide)).trans (f54 36 (by decide))) hI31
      have I168 : jI38 σ142 := jI38_fr ((congrFun (f144 38 (by decide)) 0).trans (congrFun (f54 38 (by decide)) 0)) ((congrFun (f144 38 (by decide)) 1).trans (congrFun (f54 38 (by decide)) 1)) ((f144 39 (by decide)).trans (f54 39 (by decide))) hI38
      have I169 : jI43 σ142 := jI43_fr ((congrFun (f144 43 (by decide)) 8).trans (congrFun (f54 43 (by decide)) 8)) hI43
      have I170 : jI47 σ142 := jI47_fr ((congrFun (f144 47 (by decide)) 0).trans (congrFun (f54 47 (by decide)) 0)) ((f144 48 (by decide)).trans (f54 48 (by decide))) ((f144 49 (by decide)).trans (f54 49 (by decide))) hI47
      have I171 : jI50 σ142 := jI50_fr (f144 52 (by decide)) I55
      have I172 : jI101 σ142 := jI101_fr ((congrFun (f144 55 (by decide)) 4).trans (congrFun (f54 55 (by decide)) 4)) ((congrFun (f144 55 (by decide)) 5).trans (congrFun (f54 55 (by decide)) 5)) ((f144 56 (by decide)).trans (f54 56 (by decide))) ((f144 57 (by decide)).trans (f54 57 (by decide))) ((f144 58 (by decide)).trans (f54 58 (by decide))) ((f144 59 (by decide)).trans (f54 59 (by decide))) hI101
      have I173 : jI102 σ142 := jI102_fr ((congrFun (f144 55 (by decide)) 6).trans (congrFun (f54 55 (by decide)) 6)) ((f144 60 (by decide)).trans (f54 60 (by decide))) ((f144 61 (by decide)).trans (f54 61 (by decide))) hI102
      have I174 : jI103 σ142 := jI103_fr ((congrFun (f144 55 (by decide)) 9).trans (congrFun (f54 55 (by decide)) 9)) hI103
      have I175 : jI104 σ142 := jI104_fr ((congrFun (f144 55 (by decide)) 10).trans (congrFun (f54 55 (by decide)) 10)) ((congrFun (f144 55 (by decide)) 12).trans (congrFun (f54 55 (by decide)) 12)) ((congrFun (f144 55 (by decide)) 13).trans (congrFun (f54 55 (by decide)) 13)) ((f144 62 (by decide)).trans (f54 62 (by decide))) ((f144 67 (by decide)).trans (f54 67 (by decide))) hI104
      have I176 : jI105 σ142 := jI105_fr ((congrFun (f144 55 (by decide)) 15).trans (congrFun (f54 55 (by decide)) 15)) ((f144 65 (by decide)).trans (f54 65 (by decide))) hI105
      have I177 : jI106 σ142 := jI106_fr ((congrFun (f144 55 (by decide)) 32).trans (congrFun (f54 55 (by decide)) 32)) ((f144 70 (by decide)).trans (f54 70 (by decide))) ((f144 71 (by decide)).trans (f54 71 (by decide))) ((f144 72 (by decide)).trans (f54 72 (by decide))) hI106
      have I178 : jI107 σ142 := jI107_fr ((congrFun (f144 55 (by decide)) 12).trans (congrFun (f54 55 (by decide)) 12)) ((congrFun (f144 55 (by decide)) 47).trans (congrFun (f54 55 (by decide)) 47)) ((f144 80 (by decide)).trans (f54 80 (by decide))) hI107
      have I179 : jI109 σ142 := jI109_fr ((congrFun (f144 55 (by decide)) 50).trans (congrFun (f54 55 (by decide)) 50)) hI109
      have I180 : jI111 σ142 := jI111_fr ((f144 79 (by decide)).trans (f54 79 (by decide))) hI111
      have I181 : jI119 σ142 := jI119_fr ((f144 68 (by decide)).trans (f54 68 (by decide))) hI119
      have p182 : jKept σ142 := jKept.fr ((f144 75 (by decide)).trans (f54 75 (by decide))) ((f144 76 (by decide)).trans (f54 76 (by decide))) ((f144 77 (by decide)).trans (f54 77 (by decide))) hs_jKept
      have p183 : jBook σ142 := jBook.fr ((congrFun (f144 55 (by decide)) 47).trans (congrFun (f54 55 (by decide)) 47)) ((congrFun (f144 55 (by decide)) 10).trans (congrFun (f54 55 (by decide)) 10)) ((f144 81 (by decide)).trans (f54 81 (by decide))) hs_jBook
      have z184 : (σ142 2 0).toInt = (σ 2 0).toInt := (congrArg Int32.toInt (show σ142 2 0 = (σ 2 0) from ((congrFun (f144 2 (by decide)) 0).trans (congrFun (f54 2 (by decide)) 0))))
      have z185 : (σ142 55 6).toInt = (σ 55 6).toInt := (congrArg Int32.toInt (show σ142 55 6 = (σ 55 6) from ((congrFun (f144 55 (by decide)) 6).trans (congrFun (f54 55 (by decide)) 6))))
      have z186 : (σ142 2 2).toInt = (σ 2 2).toInt := (congrArg Int32.toInt (show σ142 2 2 = (σ 2 2) from ((congrFun (f144 2 (by decide)) 2).trans (congrFun (f54 2 (by decide)) 2))))
      have z187 : (σ142 55 5).toInt = (σ 55 5).toInt := (congrArg Int32.toInt (show σ142 55 5 = (σ 55 5) from ((congrFun (f144 55 (by decide)) 5).trans (congrFun (f54 55 (by decide)) 5))))
      have z188 : (σ142 2 3).toInt = (σ 2 3).toInt := (congrArg Int32.toInt (show σ142 2 3 = (σ 2 3) from ((congrFun (f144 2 (by decide)) 3).trans (congrFun (f54 2 (by decide)) 3))))
      have z189 : (σ142 55 4).toInt = (σ 55 4).toInt := (congrArg Int32.toInt (show σ142 55 4 = (σ 55 4) from ((congrFun (f144 55 (by decide)) 4).trans (congrFun (f54 55 (by decide)) 4))))
      have z190 : (σ142 9 0).toInt = (σ 9 0).toInt := (congrArg Int32.toInt (show σ142 9 0 = (σ 9 0) from ((congrFun (f144 9 (by decide)) 0).trans (congrFun (f54 9 (by decide)) 0))))
      have z191 : (σ142 55 15).toInt = (σ 55 15).toInt := (congrArg Int32.toInt (show σ142 55 15 = (σ 55 15) from ((congrFun (f144 55 (by decide)) 15).trans (congrFun (f54 55 (by decide)) 15))))
      have z192 : (σ142 16 0).toInt = (σ 16 0).toInt := (congrArg Int32.toInt (show σ142 16 0 = (σ 16 0) from ((congrFun (f144 16 (by decide)) 0).trans (congrFun (f54 16 (by decide)) 0))))
      have z193 : (σ142 55 10).toInt = (σ 55 10).toInt := (congrArg Int32.toInt (show σ142 55 10 = (σ 55 10) from ((congrFun (f144 55 (by decide)) 10).trans (congrFun (f54 55 (by decide)) 10))))
      have z194 : (σ142 16 1).toInt = (σ 16 1).toInt := (congrArg Int32.toInt (show σ142 16 1 = (σ 16 1) from ((congrFun (f144 16 (by decide)) 1).trans (congrFun (f54 16 (by decide)) 1))))
      have z195 : (σ142 55 12).toInt = (σ 55 12).toInt := (congrArg Int32.toInt (show σ142 55 12 = (σ 55 12) from ((congrFun (f144 55 (by decide)) 12).trans (congrFun (f54 55 (by decide)) 12))))
      have z196 : (σ142 16 2).toInt = (σ 16 2).toInt := (congrArg Int32.toInt (show σ142 16 2 = (σ 16 2) from ((congrFun (f144 16 (by decide)) 2).trans (congrFun (f54 16 (by decide)) 2))))
      have z197 : (σ142 55 13).toInt = (σ 55 13).toInt := (congrArg Int32.toInt (show σ142 55 13 = (σ 55 13) from ((congrFun (f144 55 (by decide)) 13).trans (congrFun (f54 55 (by decide)) 13))))
      have z198 : (σ142 38 0).toInt = (σ 38 0).toInt := (congrArg Int32.toInt (show σ142 38 0 = (σ 38 0) from ((congrFun (f144 38 (by decide)) 0).trans (congrFun (f54 38 (by decide)) 0))))
      have z199 : (σ142 55 32).toInt = (σ 55 32).toInt := (congrArg Int32.toInt (show σ142 55 32 = (σ 55 32) from ((congrFun (f144 55 (by decide)) 32).trans (congrFun (f54 55 (by decide)) 32))))
      have z200 : (σ142 47 0).toInt = (σ 47 0).toInt := (congrArg Int32.toInt (show σ142 47 0 = (σ 47 0) from ((congrFun (f144 47 (by decide)) 0).trans (congrFun (f54 47 (by decide)) 0))))
      have z201 : (σ142 55 47).toInt = (σ 55 47).toInt := (congrArg Int32.toInt (show σ142 55 47 = (σ 55 47) from ((congrFun (f144 55 (by decide)) 47).trans (congrFun (f54 55 (by decide)) 47))))
      have z202 : (σ142 55 30).toInt = (σ 55 30).toInt := (congrArg Int32.toInt (show σ142 55 30 = (σ 55 30) from ((congrFun (f144 55 (by decide)) 30).trans (congrFun (f54 55 (by decide)) 30))))
      have z203 : (σ142 55 31).toInt = (σ 55 31).toInt := (congrArg Int32.toInt (show σ142 55 31 = (σ 55 31) from ((congrFun (f144 55 (by decide)) 31).trans (congrFun (f54 55 (by decide)) 31))))
      exact ih x160 σ142 τ142 _ _ ls (by have h9 := tx160; omega) ⟨I161, I162, I163, I164, I165, I166, I167, I168, I169, I170, I171, I172, I173, I174, I175, I176, I177, I178, I179, I145, I180, I181, p182, p183, (by omega), (by omega), (by omega), (by omega), (by omega), (by omega), (by omega), (by omega), (by omega), (by omega), (by omega), (show jNumP (σ142 3) (σ142 56) (σ142 6) (σ142 57) (σ142 7) (σ142 58) (σ142 8) (σ142 59) (σ142 55 6).toInt (σ142 55 4).toInt by rw [show σ142 3 = σ 3 from ((f144 3 (by decide)).trans (f54 3 (by decide))), show σ142 56 = σ 56 from ((f144 56 (by decide)).trans (f54 56 (by decide))), show σ142 6 = σ 6 from ((f144 6 (by decide)).trans (f54 6 (by decide))), show σ142 57 = σ 57 from ((f144 57 (by decide)).trans (f54 57 (by decide))), show σ142 7 = σ 7 from ((f144 7 (by decide)).trans (f54 7 (by decide))), show σ142 58 = σ 58 from ((f144 58 (by decide)).trans (f54 58 (by decide))), show σ142 8 = σ 8 from ((f144 8 (by decide)).trans (f54 8 (by decide))), show σ142 59 = σ 59 from ((f144 59 (by decide)).trans (f54 59 (by decide))), show (σ142 55 6).toInt = (σ 55 6).toInt from by omega, show (σ142 55 4).toInt = (σ 55 4).toInt from by omega]; exact hr0), (show jOvP (σ142 56) (σ142 57) (σ142 58) (σ142 59) (σ142 55 4).toInt by rw [show σ142 56 = σ 56 from ((f144 56 (by decide)).trans (f54 56 (by decide))), show σ142 57 = σ 57 from ((f144 57 (by decide)).trans (f54 57 (by decide))), show σ142 58 = σ 58 from ((f144 58 (by decide)).trans (f54 58 (by decide))), show σ142 59 = σ 59 from ((f144 59 (by decide)).trans (f54 59 (by decide))), show (σ142 55 4).toInt = (σ 55 4).toInt from by omega]; exact hr1), (show jTp (σ142 10) (σ142 63) (σ142 55 15).toInt by rw [show σ142 10 = σ 10 from ((f144 10 (by decide)).trans (f54 10 (by decide))), show σ142 63 = σ 63 from ((f144 63 (by decide)).trans (f54 63 (by decide)))]; exact hr2.le (by omega)), (show jSo (σ142 17) (σ142 62) (σ142 16 0).toInt by rw [show σ142 17 = σ 17 from ((f144 17 (by decide)).trans (f54 17 (by decide))), show σ142 62 = σ 62 from ((f144 62 (by decide)).trans (f54 62 (by decide))), show (σ142 16 0).toInt = (σ 16 0).toInt from by omega]; exact hr3), (show jShP (σ142 51) (σ142 52) (σ142 53) (σ142 86) (σ142 87) (σ142 55 32).toInt by rw [show σ142 51 = σ 51 from ((f144 51 (by decide)).trans k138.1), show σ142 52 = σ 52 from ((f144 52 (by decide)).trans k138.2.1), show σ142 53 = σ 53 from ((f144 53 (by decide)).trans k138.2.2), show σ142 86 = σ 86 from (k157.1.trans (f54 86 (by decide))), show σ142 87 = σ 87 from (k157.2.trans (f54 87 (by decide)))]; exact (hr4.up (by omega) (by omega))), (show jEl (σ142 51) (σ142 52) (τ142 54) (τ142 88) by rw [show σ142 51 = σ 51 from ((f144 51 (by decide)).trans k138.1), show σ142 52 = σ 52 from ((f144 52 (by decide)).trans k138.2.1), show τ142 54 = τ 54 from ((f146 54 (by decide)).trans k139), show τ142 88 = τ 88 from (k158.trans (f56 88 (by decide)))]; exact hr5), (show jByP (σ142 51) (σ142 52) (τ142 54) by rw [show σ142 51 = σ 51 from ((f144 51 (by decide)).trans k138.1), show σ142 52 = σ 52 from ((f144 52 (by decide)).trans k138.2.1), show τ142 54 = τ 54 from ((f146 54 (by decide)).trans k139)]; exact hr6), (show jBk (σ142 48) (σ142 80) (σ142 49) (σ142 81) (σ142 55 47).toInt by rw [show σ142 48 = σ 48 from ((f144 48 (by decide)).trans (f54 48 (by decide))), show σ142 49 = σ 49 from ((f144 49 (by decide)).trans (f54 49 (by decide))), show σ142 80 = σ 80 from ((f144 80 (by decide)).trans (f54 80 (by decide))), show σ142 81 = σ 81 from ((f144 81 (by decide)).trans (f54 81 (by decide))), show (σ142 55 47).toInt = (σ 55 47).toInt from by omega]; exact hr7)⟩ hP hS (lv_sub hl [0, 1, 2, 3] rfl)
    · obtain ⟨q210, k205, k206, k207, k208, k209⟩ := h149
      exact absurd (by omega : False) id
  · obtain ⟨q216, k211, k212, k213, k214, k215⟩ := h60
    have q216 := q216.symm
    subst q216
    refine lv_pop hx hb dL_law_1108 rfl ?_
    refine lv_aload_n hx hb dL_law_1109 rfl (lv_at hl 1 rfl) ?_
    refine lv_aload_n hx hb dL_law_1110 rfl (lv_at hl 3 rfl) ?_
    refine lv_iload_n hx hb dL_law_1111 rfl (lv_at hl 0 rfl) ?_
    refine lv_iconst (v := 1) hx hb dL_law_1112 (by decide) ?_
    refine lv_iadd hx hb dL_law_1113 ?_
    refine jtopr ex46.symm ?_
    refine va_sld hx hb hX hbl hbA hS (jin tx46 (by omega) (by omega)) dL_law_1114 ?_
    refine lv_aload_n hx hb dL_law_1115 rfl (lv_at hl 3 rfl) ?_
    refine lv_iload_n hx hb dL_law_1116 rfl (lv_at hl 0 rfl) ?_
    refine lv_iconst (v := 2) hx hb dL_law_1117 (by decide) ?_
    refine lv_iadd hx hb dL_law_1118 ?_
    refine jtopr ex48.symm ?_
    refine va_sld hx hb hX hbl hbA hS (jin tx48 (by omega) (by omega)) dL_law_1119 ?_
    refine lv_aload_n hx hb dL_law_1120 rfl (lv_at hl 3 rfl) ?_
    refine lv_iload_n hx hb dL_law_1121 rfl (lv_at hl 0 rfl) ?_
    refine lv_iconst (v := 3) hx hb dL_law_1122 (by decide) ?_
    refine lv_iadd hx hb dL_law_1123 ?_
    refine jtopr ex50.symm ?_
    refine va_sld hx hb hX hbl hbA hS (jin tx50 (by omega) (by omega)) dL_law_1124 ?_
    have I217 : jI110 σ52 := jI110_fr (f54 86 (by decide)) (f54 87 (by decide)) hI110
    refine jcallV (As := [.int (xs x46.toNatClampNeg), .int (xs x48.toNatClampNeg), .int (xs x50.toNatClampNeg)]) (rest := []) ⟨hx, hb, hml, hown, hts⟩ hK hP hA hS hZ (c_X12_row l D cI cL ad zz hJ σ52 τ52 (xs x46.toNatClampNeg) ((xs x46.toNatClampNeg).toInt) rfl (xs x48.toNatClampNeg) ((xs x48.toNatClampNeg).toInt) rfl (xs x50.toNatClampNeg) ((xs x50.toNatClampNeg).toInt) rfl I217) cw_RL_144 (jc_55 cI cL ad σ52 τ52) rfl ⟨Nat.le_of_ble_eq_true rfl, Nat.le_of_ble_eq_true rfl⟩ rfl rfl rfl hl.1 rfl (Nat.le_of_ble_eq_true rfl) dL_law_1125 ⟨Nat.le_of_ble_eq_true rfl, Nat.le_of_ble_eq_true rfl⟩ (fun r219 σ218 τ218 H locs h218 hP hS => ?_)
    obtain ⟨f222, f220, I221, h218⟩ := h218
    rcases h218 with h223 | h224 | h225
    · obtain ⟨q229, k226, k227, k228⟩ := h223
      exact absurd (by omega : False) id
    · obtain ⟨q235, k230, k231, k232, k233, k234⟩ := h224
      exact absurd (by omega : False) id
    · obtain ⟨q241, k236, k237, k238, k239, k240⟩ := h225
      have q241 := q241.symm
      subst q241
      refine lv_pop hx hb dL_law_1128 rfl ?_
      refine lv_goto (tgt := 1357) hx hb dL_law_1129 (by decide) ?_
      obtain ⟨x242, ex242⟩ : ∃ y : Int32, y = x0 + 6 := ⟨_, rfl⟩
      have tx242 : x242.toInt = x0.toInt + 6 := (jadd ex242 rfl jz_6 (by omega) (by omega)).trans (by omega)
      refine lv_iinc (v := x242) (lv' := [(3, .int x242), (2, .ref (ad 55)), (1, .ref (ad 0)), (0, .ref b)]) hx hb dL_law_1357 hl (k := 0) rfl (by rw [ex242]; rfl) (by decide) rfl (fun ls hl => ?_)
      refine lv_goto (tgt := 18) hx hb dL_law_1360 (by decide) ?_
      have I243 : jI2 σ218 := jI2_fr ((congrFun (f220 2 (by decide)) 0).trans (congrFun (f54 2 (by decide)) 0)) ((congrFun (f220 2 (by decide)) 1).trans (congrFun (f54 2 (by decide)) 1)) ((congrFun (f220 2 (by decide)) 2).trans (congrFun (f54 2 (by decide)) 2)) ((congrFun (f220 2 (by decide)) 3).trans (congrFun (f54 2 (by decide)) 3)) ((f220 6 (by decide)).trans (f54 6 (by decide))) hI2
      have I244 : jI9 σ218 := jI9_fr ((congrFun (f220 9 (by decide)) 0).trans (congrFun (f54 9 (by decide)) 0)) ((f220 10 (by decide)).trans (f54 10 (by decide))) ((f220 11 (by decide)).trans (f54 11 (by decide))) hI9
      have I245 : jI12 σ218 := jI12_fr ((congrFun (f220 12 (by decide)) 0).trans (congrFun (f54 12 (by decide)) 0)) ((f220 13 (by decide)).trans (f54 13 (by decide))) hI12
      have I246 : jI16 σ218 := jI16_fr ((congrFun (f220 16 (by decide)) 0).trans (congrFun (f54 16 (by decide)) 0)) ((congrFun (f220 16 (by decide)) 1).trans (congrFun (f54 16 (by decide)) 1)) ((congrFun (f220 16 (by decide)) 2).trans (congrFun (f54 16 (by decide)) 2)) ((f220 17 (by decide)).trans (f54 17 (by decide))) hI16
      have I247 : jI18 σ218 := jI18_fr ((congrFun (f220 18 (by decide)) 0).trans (congrFun (f54 18 (by decide)) 0)) ((f220 19 (by decide)).trans (f54 19 (by decide))) hI18
      have I248 : jI22 σ218 := jI22_fr ((congrFun (f220 22 (by decide)) 0).trans (congrFun (f54 22 (by decide)) 0)) ((f220 23 (by decide)).trans (f54 23 (by decide))) hI22
      have I249 : jI31 σ218 := jI31_fr ((congrFun (f220 31 (by decide)) 8).trans (congrFun (f54 31 (by decide)) 8)) ((f220 33 (by decide)).trans (f54 33 (by decide))) ((f220 36 (by decide)).trans (f54 36 (by decide))) hI31
      have I250 : jI38 σ218 := jI38_fr ((congrFun (f220 38 (by decide)) 0).trans (congrFun (f54 38 (by decide)) 0)) ((congrFun (f220 38 (by decide)) 1).trans (congrFun (f54 38 (by decide)) 1)) ((f220 39 (by decide)).trans (f54 39 (by decide))) hI38
      have I251 : jI43 σ218 := jI43_fr ((congrFun (f220 43 (by decide)) 8).trans (congrFun (f54 43 (by decide)) 8)) hI43
      have I252 : jI47 σ218 := jI47_fr ((congrFun (f220 47 (by decide)) 0).trans (congrFun (f54 47 (by decide)) 0)) ((f220 48 (by decide)).trans (f54 48 (by decide))) ((f220 49 (by decide)).trans (f54 49 (by decide))) hI47
      have I253 : jI50 σ218 := jI50_fr (f220 52 (by decide)) I55
      have I254 : jI101 σ218 := jI101_fr ((congrFun (f220 55 (by decide)) 4).trans (congrFun (f54 55 (by decide)) 4)) ((congrFun (f220 55 (by decide)) 5).trans (congrFun (f54 55 (by decide)) 5)) ((f220 56 (by decide)).trans (f54 56 (by decide))) ((f220 57 (by decide)).trans (f54 57 (by decide))) ((f220 58 (by decide)).trans (f54 58 (by decide))) ((f220 59 (by decide)).trans (f54 59 (by decide))) hI101
      have I255 : jI102 σ218 := jI102_fr ((congrFun (f220 55 (by decide)) 6).trans (congrFun (f54 55 (by decide)) 6)) ((f220 60 (by decide)).trans (f54 60 (by decide))) ((f220 61 (by decide)).trans (f54 61 (by decide))) hI102
      have I256 : jI103 σ218 := jI103_fr ((congrFun (f220 55 (by decide)) 9).trans (congrFun (f54 55 (by decide)) 9)) hI103
      have I257 : jI104 σ218 := jI104_fr ((congrFun (f220 55 (by decide)) 10).trans (congrFun (f54 55 (by decide)) 10)) ((congrFun (f220 55 (by decide)) 12).trans (congrFun (f54 55 (by decide)) 12)) ((congrFun (f220 55 (by decide)) 13).trans (congrFun (f54 55 (by decide)) 13)) ((f220 62 (by decide)).trans (f54 62 (by decide))) ((f220 67 (by decide)).trans (f54 67 (by decide))) hI104
      have I258 : jI105 σ218 := jI105_fr ((congrFun (f220 55 (by decide)) 15).trans (congrFun (f54 55 (by decide)) 15)) ((f220 65 (by decide)).trans (f54 65 (by decide))) hI105
      have I259 : jI106 σ218 := jI106_fr ((congrFun (f220 55 (by decide)) 32).trans (congrFun (f54 55 (by decide)) 32)) ((f220 70 (by decide)).trans (f54 70 (by decide))) ((f220 71 (by decide)).trans (f54 71 (by decide))) ((f220 72 (by decide)).trans (f54 72 (by decide))) hI106
      have I260 : jI107 σ218 := jI107_fr ((congrFun (f220 55 (by decide)) 12).trans (congrFun (f54 55 (by decide)) 12)) ((congrFun (f220 55 (by decide)) 47).trans (congrFun (f54 55 (by decide)) 47)) ((f220 80 (by decide)).trans (f54 80 (by decide))) hI107
      have I261 : jI109 σ218 := jI109_fr ((congrFun (f220 55 (by decide)) 50).trans (congrFun (f54 55 (by decide)) 50)) hI109
      have I262 : jI111 σ218 := jI111_fr ((f220 79 (by decide)).trans (f54 79 (by decide))) hI111
      have I263 : jI119 σ218 := jI119_fr ((f220 68 (by decide)).trans (f54 68 (by decide))) hI119
      have p264 : jKept σ218 := jKept.fr ((f220 75 (by decide)).trans (f54 75 (by decide))) ((f220 76 (by decide)).trans (f54 76 (by decide))) ((f220 77 (by decide)).trans (f54 77 (by decide))) hs_jKept
      have p265 : jBook σ218 := jBook.fr ((congrFun (f220 55 (by decide)) 47).trans (congrFun (f54 55 (by decide)) 47)) ((congrFun (f220 55 (by decide)) 10).trans (congrFun (f54 55 (by decide)) 10)) ((f220 81 (by decide)).trans (f54 81 (by decide))) hs_jBook
      have z266 : (σ218 2 0).toInt = (σ 2 0).toInt := (congrArg Int32.toInt (show σ218 2 0 = (σ 2 0) from ((congrFun (f220 2 (by decide)) 0).trans (congrFun (f54 2 (by decide)) 0))))
      have z267 : (σ218 55 6).toInt = (σ 55 6).toInt := (congrArg Int32.toInt (show σ218 55 6 = (σ 55 6) from ((congrFun (f220 55 (by decide)) 6).trans (congrFun (f54 55 (by decide)) 6))))
      have z268 : (σ218 2 2).toInt = (σ 2 2).toInt := (congrArg Int32.toInt (show σ218 2 2 = (σ 2 2) from ((congrFun (f220 2 (by decide)) 2).trans (congrFun (f54 2 (by decide)) 2))))
      have z269 : (σ218 55 5).toInt = (σ 55 5).toInt := (congrArg Int32.toInt (show σ218 55 5 = (σ 55 5) from ((congrFun (f220 55 (by decide)) 5).trans (congrFun (f54 55 (by decide)) 5))))
      have z270 : (σ218 2 3).toInt = (σ 2 3).toInt := (congrArg Int32.toInt (show σ218 2 3 = (σ 2 3) from ((congrFun (f220 2 (by decide)) 3).trans (congrFun (f54 2 (by decide)) 3))))
      have z271 : (σ218 55 4).toInt = (σ 55 4).toInt := (congrArg Int32.toInt (show σ218 55 4 = (σ 55 4) from ((congrFun (f220 55 (by decide)) 4).trans (congrFun (f54 55 (by decide)) 4))))
      have z272 : (σ218 9 0).toInt = (σ 9 0).toInt := (congrArg Int32.toInt (show σ218 9 0 = (σ 9 0) from ((congrFun (f220 9 (by decide)) 0).trans (congrFun (f54 9 (by decide)) 0))))
      have z273 : (σ218 55 15).toInt = (σ 55 15).toInt := (congrArg Int32.toInt (show σ218 55 15 = (σ 55 15) from ((congrFun (f220 55 (by decide)) 15).trans (congrFun (f54 55 (by decide)) 15))))
      have z274 : (σ218 16 0).toInt = (σ 16 0).toInt := (congrArg Int32.toInt (show σ218 16 0 = (σ 16 0) from ((congrFun (f220 16 (by decide)) 0).trans (congrFun (f54 16 (by decide)) 0))))
      have z275 : (σ218 55 10).toInt = (σ 55 10).toInt := (congrArg Int32.toInt (show σ218 55 10 = (σ 55 10) from ((congrFun (f220 55 (by decide)) 10).trans (congrFun (f54 55 (by decide)) 10))))
      have z276 : (σ218 16 1).toInt = (σ 16 1).toInt := (congrArg Int32.toInt (show σ218 16 1 = (σ 16 1) from ((congrFun (f220 16 (by decide)) 1).trans (congrFun (f54 16 (by decide)) 1))))
      have z277 : (σ218 55 12).toInt = (σ 55 12).toInt := (congrArg Int32.toInt (show σ218 55 12 = (σ 55 12) from ((congrFun (f220 55 (by decide)) 12).trans (congrFun (f54 55 (by decide)) 12))))
      have z278 : (σ218 16 2).toInt = (σ 16 2).toInt := (congrArg Int32.toInt (show σ218 16 2 = (σ 16 2) from ((congrFun (f220 16 (by decide)) 2).trans (congrFun (f54 16 (by decide)) 2))))
      have z279 : (σ218 55 13).toInt = (σ 55 13).toInt := (congrArg Int32.toInt (show σ218 55 13 = (σ 55 13) from ((congrFun (f220 55 (by decide)) 13).trans (congrFun (f54 55 (by decide)) 13))))
      have z280 : (σ218 38 0).toInt = (σ 38 0).toInt := (congrArg Int32.toInt (show σ218 38 0 = (σ 38 0) from ((congrFun (f220 38 (by decide)) 0).trans (congrFun (f54 38 (by decide)) 0))))
      have z281 : (σ218 55 32).toInt = (σ 55 32).toInt := (congrArg Int32.toInt (show σ218 55 32 = (σ 55 32) from ((congrFun (f220 55 (by decide)) 32).trans (congrFun (f54 55 (by decide)) 32))))
      have z282 : (σ218 47 0).toInt = (σ 47 0).toInt := (congrArg Int32.toInt (show σ218 47 0 = (σ 47 0) from ((congrFun (f220 47 (by decide)) 0).trans (congrFun (f54 47 (by decide)) 0))))
      have z283 : (σ218 55 47).toInt = (σ 55 47).toInt := (congrArg Int32.toInt (show σ218 55 47 = (σ 55 47) from ((congrFun (f220 55 (by decide)) 47).trans (congrFun (f54 55 (by decide)) 47))))
      have z284 : (σ218 55 30).toInt = (σ 55 30).toInt := (congrArg Int32.toInt (show σ218 55 30 = (σ 55 30) from ((congrFun (f220 55 (by decide)) 30).trans (congrFun (f54 55 (by decide)) 30))))
      have z285 : (σ218 55 31).toInt = (σ 55 31).toInt := (congrArg Int32.toInt (show σ218 55 31 = (σ 55 31) from ((congrFun (f220 55 (by decide)) 31).trans (congrFun (f54 55 (by decide)) 31))))
      rw [show σ52 86 = σ 86 from (f54 86 (by decide)), show σ52 87 = σ 87 from (f54 87 (by decide))] at k239
      obtain ⟨⟨z287, k288, k289⟩, k290⟩ := k239
      have p286 := hr4.set k214.1 k214.2.1 k214.2.2 k289 k290 (Or.inr (Or.inr ⟨by omega, by omega, k288, rfl, rfl⟩))
      rw [show τ52 88 = τ 88 from (f56 88 (by decide))] at k240
      have p291 := hr5.row w20 k214.1 k214.2.1 k215 k240 (by omega) (by omega) (by omega) (by omega) (by omega) (by omega)
      exact ih x242 σ218 τ218 _ _ ls (by have h9 := tx242; omega) ⟨I243, I244, I245, I246, I247, I248, I249, I250, I251, I252, I253, I254, I255, I256, I257, I258, I259, I260, I261, I221, I262, I263, p264, p265, (by omega), (by omega), (by omega), (by omega), (by omega), (by omega), (by omega), (by omega), (by omega), (by omega), (by omega), (show jNumP (σ218 3) (σ218 56) (σ218 6) (σ218 57) (σ218 7) (σ218 58) (σ218 8) (σ218 59) (σ218 55 6).toInt (σ218 55 4).toInt by rw [show σ218 3 = σ 3 from ((f220 3 (by decide)).trans (f54 3 (by decide))), show σ218 56 = σ 56 from ((f220 56 (by decide)).trans (f54 56 (by decide))), show σ218 6 = σ 6 from ((f220 6 (by decide)).trans (f54 6 (by decide))), show σ218 57 = σ 57 from ((f220 57 (by decide)).trans (f54 57 (by decide))), show σ218 7 = σ 7 from ((f220 7 (by decide)).trans (f54 7 (by decide))), show σ218 58 = σ 58 from ((f220 58 (by decide)).trans (f54 58 (by decide))), show σ218 8 = σ 8 from ((f220 8 (by decide)).trans (f54 8 (by decide))), show σ218 59 = σ 59 from ((f220 59 (by decide)).trans (f54 59 (by decide))), show (σ218 55 6).toInt = (σ 55 6).toInt from by omega, show (σ218 55 4).toInt = (σ 55 4).toInt from by omega]; exact hr0), (show jOvP (σ218 56) (σ218 57) (σ218 58) (σ218 59) (σ218 55 4).toInt by rw [show σ218 56 = σ 56 from ((f220 56 (by decide)).trans (f54 56 (by decide))), show σ218 57 = σ 57 from ((f220 57 (by decide)).trans (f54 57 (by decide))), show σ218 58 = σ 58 from ((f220 58 (by decide)).trans (f54 58 (by decide))), show σ218 59 = σ 59 from ((f220 59 (by decide)).trans (f54 59 (by decide))), show (σ218 55 4).toInt = (σ 55 4).toInt from by omega]; exact hr1), (show jTp (σ218 10) (σ218 63) (σ218 55 15).toInt by rw [show σ218 10 = σ 10 from ((f220 10 (by decide)).trans (f54 10 (by decide))), show σ218 63 = σ 63 from ((f220 63 (by decide)).trans (f54 63 (by decide)))]; exact hr2.le (by omega)), (show jSo (σ218 17) (σ218 62) (σ218 16 0).toInt by rw [show σ218 17 = σ 17 from ((f220 17 (by decide)).trans (f54 17 (by decide))), show σ218 62 = σ 62 from ((f220 62 (by decide)).trans (f54 62 (by decide))), show (σ218 16 0).toInt = (σ 16 0).toInt from by omega]; exact hr3), (show jShP (σ218 51) (σ218 52) (σ218 53) (σ218 86) (σ218 87) (σ218 55 32).toInt by rw [show σ218 51 = σ52 51 from (f220 51 (by decide)), show σ218 52 = σ52 52 from (f220 52 (by decide)), show σ218 53 = σ52 53 from (f220 53 (by decide))]; exact (p286.up (by omega) (by omega))), (show jEl (σ218 51) (σ218 52) (τ218 54) (τ218 88) by rw [show σ218 51 = σ52 51 from (f220 51 (by decide)), show σ218 52 = σ52 52 from (f220 52 (by decide)), show τ218 54 = τ52 54 from (f222 54 (by decide))]; exact p291), (show jByP (σ218 51) (σ218 52) (τ218 54) by rw [show σ218 51 = σ52 51 from (f220 51 (by decide)), show σ218 52 = σ52 52 from (f220 52 (by decide)), show τ218 54 = τ52 54 from (f222 54 (by decide))]; exact (hr6.row w20 k214.1 k214.2.1 k215 (by omega) (by omega) (by omega))), (show jBk (σ218 48) (σ218 80) (σ218 49) (σ218 81) (σ218 55 47).toInt by rw [show σ218 48 = σ 48 from ((f220 48 (by decide)).trans (f54 48 (by decide))), show σ218 49 = σ 49 from ((f220 49 (by decide)).trans (f54 49 (by decide))), show σ218 80 = σ 80 from ((f220 80 (by decide)).trans (f54 80 (by decide))), show σ218 81 = σ 81 from ((f220 81 (by decide)).trans (f54 81 (by decide))), show (σ218 55 47).toInt = (σ 55 47).toInt from by omega]; exact hr7)⟩ hP hS (lv_sub hl [0, 1, 2, 3] rfl)
set_option maxHeartbeats 4000000 in
set_option maxRecDepth 100000 in
theorem law_case_32 {p : Program} {e : Env} {s : State} {m : MethodId} {below : List Frame} {meth : Method} {c : Code} (l : Launch) {b L : Nat} {xs : Nat → Int32} {D : va_G} {cI cL : ClassId} {ad zz : Nat → Nat} (C0 : lw_At p s m meth c b L xs) (hJ : jD ad) (hA : ∀ q, jA ad q → s.heap.size ≤ q) (hK : jK D cI cL s) (hZ : jZ zz (fun q : Nat => s.heap.size ≤ q) s s.heap) {x0 : Int32} (hx0 : 0 ≤ x0.toInt) (hxL : x0.toInt + 6 ≤ (L : Int)) (hL : L ≤ 384) {σ : Nat → Nat → Int32} {τ : Nat → Nat → Int64} {H : Heap} {locs : List Loc} (hS : va_S (fun q : Nat => s.heap.size ≤ q) s.heap H locs) {ls : Array Slot} (hAll : jAll σ τ) (hP : jH D cI cL ad σ τ H) (hl : lv_has ls 4 [(3, .int x0), (2, .ref (ad 55)), (1, .ref (ad 0)), (0, .ref b)]) (ih : ∀ (x1 : Int32) (σ : Nat → Nat → Int32) (τ : Nat → Nat → Int64) (H : Heap) (locs : List Loc) (ls : Array Slot), x1.toInt = x0.toInt + 6 → jAll σ τ → jH D cI cL ad σ τ H → va_S (fun q : Nat => s.heap.size ≤ q) s.heap H locs → lv_has ls 4 [(3, .int x1), (2, .ref (ad 55)), (1, .ref (ad 0)), (0, .ref b)] → W p l e room_1 s m #[Value.ref b] below meth c H locs 90 348600 (lw_Z below #[Value.ref b] s) (F0 m 18 ls [])) : W p l e room_1 s m #[Value.ref b] below meth c H locs 90 348600 (lw_Z below #[Value.ref b] s) (F0 m 1132 ls []) := by
  obtain ⟨hx, hb, hr, hml, hown, hts0, hX, hbl, hlocks, hgv⟩ := C0
  have hts : ∀ w ∈ wsL_law, w.before #[Value.ref b] s = true := fun w h => hts0 w (wsL_law_in w h)
  have hbA : ¬ (fun q : Nat => s.heap.size ≤ q) b := Nat.not_le.mpr hbl
  have hown : s.vm.findClass RL = some m.cls := hown
  obtain ⟨hI2, hI9, hI12, hI16, hI18, hI22, hI31, hI38, hI43, hI47, hI50, hI101, hI102, hI103, hI104, hI105, hI106, hI107, hI109, hI110, hI111, hI119, hs_jKept, hs_jBook, ht0, ht1, ht2, ht3, ht4, ht5, ht6, ht7, ht8, ht9, ht10, hr0, hr1, hr2, hr3, hr4, hr5, hr6, hr7⟩ := hAll
  have hL9 : (L : Int) ≤ 384 := by omega
  obtain ⟨i1, i2, i3, i4, i5, w6⟩ : (0 ≤ (σ 2 0).toInt ∧ (σ 2 0).toInt ≤ 4) ∧ (0 ≤ (σ 2 1).toInt ∧ (σ 2 1).toInt ≤ 3) ∧ (0 ≤ (σ 2 2).toInt) ∧ (0 ≤ (σ 2 3).toInt) ∧ ((σ 2 2).toInt + (σ 2 3).toInt ≤ 40) ∧ (∀ k : Nat, k < 40 → 0 ≤ (σ 6 k).toInt ∧ (σ 6 k).toInt ≤ 67) := id hI2
  obtain ⟨i7, w8, w9⟩ : (0 ≤ (σ 9 0).toInt ∧ (σ 9 0).toInt ≤ 80) ∧ (∀ k : Nat, k < 80 → 0 ≤ (σ 10 k).toInt ∧ (σ 10 k).toInt ≤ 255) ∧ (∀ k : Nat, k < 8 → 0 ≤ (σ 11 k).toInt ∧ (σ 11 k).toInt ≤ 3) := id hI9
  obtain ⟨i10, i11, i12, w13⟩ : (1 ≤ (σ 16 0).toInt ∧ (σ 16 0).toInt ≤ 8) ∧ (1 ≤ (σ 16 1).toInt ∧ (σ 16 1).toInt ≤ 12) ∧ (0 ≤ (σ 16 2).toInt ∧ (σ 16 2).toInt ≤ 999) ∧ (∀ k : Nat, k < 8 → 0 ≤ (σ 17 k).toInt ∧ (σ 17 k).toInt ≤ 3) := id hI16
  obtain ⟨i14, i15, w16⟩ : (0 ≤ (σ 38 0).toInt ∧ (σ 38 0).toInt ≤ 20) ∧ (0 ≤ (σ 38 1).toInt ∧ (σ 38 1).toInt ≤ 1000) ∧ (∀ k : Nat, k < 20 → 0 ≤ (σ 39 k).toInt ∧ (σ 39 k).toInt ≤ 6) := id hI38
  obtain ⟨i17, w18, w19⟩ : (0 ≤ (σ 47 0).toInt ∧ (σ 47 0).toInt ≤ 12) ∧ (∀ k : Nat, k < 12 → 0 ≤ (σ 48 k).toInt ∧ (σ 48 k).toInt ≤ 3) ∧ (∀ k : Nat, k < 12 → 0 ≤ (σ 49 k).toInt ∧ (σ 49 k).toInt ≤ 1) := id hI47
  have w20 : ∀ k : Nat, k < 6 → 0 ≤ (σ 52 k).toInt ∧ (σ 52 k).toInt ≤ 60 := hI50
  obtain ⟨i21, i22, i23, w24, w25, w26, w27⟩ : (0 ≤ (σ 55 5).toInt) ∧ ((σ 55 5).toInt ≤ (σ 55 4).toInt) ∧ ((σ 55 4).toInt ≤ 40) ∧ (∀ k : Nat, k < 68 → (-200) ≤ (σ 56 k).toInt ∧ (σ 56 k).toInt ≤ 500) ∧ (∀ k : Nat, k < 40 → 0 ≤ (σ 57 k).toInt ∧ (σ 57 k).toInt ≤ 67) ∧ (∀ k : Nat, k < 40 → (-200) ≤ (σ 58 k).toInt ∧ (σ 58 k).toInt ≤ 500) ∧ (∀ k : Nat, k < 40 → (-200) ≤ (σ 59 k).toInt ∧ (σ 59 k).toInt ≤ 500) := id hI101
  obtain ⟨i28, w29, w30⟩ : (0 ≤ (σ 55 6).toInt ∧ (σ 55 6).toInt ≤ 4) ∧ (∀ k : Nat, k < 4 → 0 ≤ (σ 60 k).toInt ∧ (σ 60 k).toInt ≤ 50) ∧ (∀ k : Nat, k < 4 → 0 ≤ (σ 61 k).toInt ∧ (σ 61 k).toInt ≤ 20) := id hI102
  obtain ⟨i31, i32, i33, w34, w35⟩ : (1 ≤ (σ 55 10).toInt ∧ (σ 55 10).toInt ≤ 8) ∧ (1 ≤ (σ 55 12).toInt ∧ (σ 55 12).toInt ≤ 12) ∧ (0 ≤ (σ 55 13).toInt ∧ (σ 55 13).toInt ≤ 999) ∧ (∀ k : Nat, k < 8 → 0 ≤ (σ 62 k).toInt ∧ (σ 62 k).toInt ≤ 3) ∧ (∀ k : Nat, k < 8 → 0 ≤ (σ 67 k).toInt ∧ (σ 67 k).toInt ≤ 3) := id hI104
  obtain ⟨i36, w37⟩ : (0 ≤ (σ 55 15).toInt ∧ (σ 55 15).toInt ≤ 80) ∧ (∀ k : Nat, k < 2 → (-1) ≤ (σ 65 k).toInt ∧ (σ 65 k).toInt ≤ 80) := id hI105
  obtain ⟨i38, w39, w40, w41⟩ : (0 ≤ (σ 55 32).toInt ∧ (σ 55 32).toInt ≤ 20) ∧ (∀ k : Nat, k < 20 → 0 ≤ (σ 70 k).toInt ∧ (σ 70 k).toInt ≤ 6) ∧ (∀ k : Nat, k < 20 → 0 ≤ (σ 71 k).toInt ∧ (σ 71 k).toInt ≤ 8) ∧ (∀ k : Nat, k < 160 → 0 ≤ (σ 72 k).toInt ∧ (σ 72 k).toInt ≤ 3) := id hI106
  obtain ⟨i42, i43, w44⟩ : (0 ≤ (σ 55 47).toInt ∧ (σ 55 47).toInt ≤ 12) ∧ ((σ 55 47).toInt ≤ (σ 55 12).toInt) ∧ (∀ k : Nat, k < 12 → 0 ≤ (σ 80 k).toInt ∧ (σ 80 k).toInt ≤ 3) := id hI107
  refine lv_aload_n hx hb dL_law_1132 rfl (lv_at hl 2 rfl) ?_
  refine lv_aload_n hx hb dL_law_1133 rfl (lv_at hl 3 rfl) ?_
  refine lv_iload_n hx hb dL_law_1134 rfl (lv_at hl 0 rfl) ?_
  refine lv_iconst (v := 1) hx hb dL_law_1135 (by decide) ?_
  have g45 := jrg (rfl : x0.toInt = x0.toInt)
  refine lv_iadd hx hb dL_law_1136 ?_
  refine lv_topi (fun x46 ex46 => ?_)
  have tx46 : x46.toInt = x0.toInt + 1 := (jadd ex46 rfl jz_1 (by omega) (by omega)).trans (by omega)
  refine va_sld hx hb hX hbl hbA hS (jin tx46 (by omega) (by omega)) dL_law_1137 ?_
  have g47 := jrg (rfl : (xs x46.toNatClampNeg).toInt = (xs x46.toNatClampNeg).toInt)
  refine lv_aload_n hx hb dL_law_1138 rfl (lv_at hl 3 rfl) ?_
  refine lv_iload_n hx hb dL_law_1139 rfl (lv_at hl 0 rfl) ?_
  refine lv_iconst (v := 2) hx hb dL_law_1140 (by decide) ?_
  refine lv_iadd hx hb dL_law_1141 ?_
  refine lv_topi (fun x48 ex48 => ?_)
  have tx48 : x48.toInt = x0.toInt + 2 := (jadd ex48 rfl jz_2 (by omega) (by omega)).trans (by omega)
  refine va_sld hx hb hX hbl hbA hS (jin tx48 (by omega) (by omega)) dL_law_1142 ?_
  have g49 := jrg (rfl : (xs x48.toNatClampNeg).toInt = (xs x48.toNatClampNeg).toInt)
  refine lv_aload_n hx hb dL_law_1143 rfl (lv_at hl 3 rfl) ?_
  refine lv_iload_n hx hb dL_law_1144 rfl (lv_at hl 0 rfl) ?_
  refine lv_iconst (v := 3) hx hb dL_law_1145 (by decide) ?_
  refine lv_iadd hx hb dL_law_1146 ?_
  refine lv_topi (fun x50 ex50 => ?_)
  have tx50 : x50.toInt = x0.toInt + 3 := (jadd ex50 rfl jz_3 (by omega) (by omega)).trans (by omega)
  refine va_sld hx hb hX hbl hbA hS (jin tx50 (by omega) (by omega)) dL_law_1147 ?_
  have g51 := jrg (rfl : (xs x50.toNatClampNeg).toInt = (xs x50.toNatClampNeg).toInt)
  refine lv_i2l (v := (xs x50.toNatClampNeg).toInt64) hx hb dL_law_1148 rfl ?_
  refine lv_bipush (v := 32) hx hb dL_law_1149 (by decide) ?_
  refine lv_lshl hx hb dL_law_1151 rfl ?_
  refine lv_topl (fun lx52 elx52 => ?_)
  refine lv_aload_n hx hb dL_law_1152 rfl (lv_at hl 3 rfl) ?_
  refine lv_iload_n hx hb dL_law_1153 rfl (lv_at hl 0 rfl) ?_
  refine lv_iconst (v := 4) hx hb dL_law_1154 (by decide) ?_
  refine lv_iadd hx hb dL_law_1155 ?_
  refine lv_topi (fun x53 ex53 => ?_)
  have tx53 : x53.toInt = x0.toInt + 4 := (jadd ex53 rfl jz_4 (by omega) (by omega)).trans (by omega)
  refine va_sld hx hb hX hbl hbA hS (jin tx53 (by omega) (by omega)) dL_law_1156 ?_
  have g54 := jrg (rfl : (xs x53.toNatClampNeg).toInt = (xs x53.toNatClampNeg).toInt)
  refine lv_i2l (v := (xs x53.toNatClampNeg).toInt64) hx hb dL_law_1157 rfl ?_
  refine lv_ldc2 (v := 4294967295) hx hb hown (hts _ kw_1_6) dL_law_1158 ?_
  refine lv_land hx hb dL_law_1161 ?_
  refine lv_topl (fun lx55 elx55 => ?_)
  refine lv_lor hx hb dL_law_1162 ?_
  refine lv_topl (fun lx56 elx56 => ?_)
  refine jcallV (As := [.int (xs x46.toNatClampNeg), .int (xs x48.toNatClampNeg), .long lx56]) (rest := []) ⟨hx, hb, hml, hown, hts⟩ hK hP hA hS hZ (c_X11_put l D cI cL ad zz hJ σ τ (xs x46.toNatClampNeg) ((xs x46.toNatClampNeg).toInt) rfl (xs x48.toNatClampNeg) ((xs x48.toNatClampNeg).toInt) rfl lx56 (lx56.toInt) rfl hI50) cw_RL_147 (jc_0 cI cL ad σ τ) rfl ⟨Nat.le_of_ble_eq_true rfl, Nat.le_of_ble_eq_true rfl⟩ rfl rfl rfl hl.1 rfl (Nat.le_of_ble_eq_true rfl) dL_law_1163 ⟨Nat.le_of_ble_eq_true rfl, Nat.le_of_ble_eq_true rfl⟩ (fun r58 σ57 τ57 H locs h57 hP hS => ?_)
  obtain ⟨f62, f59, w60, w61, h57⟩ := h57
  refine lv_pop hx hb dL_law_1166 rfl ?_
  refine lv_aload_n hx hb dL_law_1167 rfl (lv_at hl 1 rfl) ?_
  refine lv_aload_n hx hb dL_law_1168 rfl (lv_at hl 3 rfl) ?_
  refine lv_iload_n hx hb dL_law_1169 rfl (lv_at hl 0 rfl) ?_
  refine lv_iconst (v := 1) hx hb dL_law_1170 (by decide) ?_
  refine lv_iadd hx hb dL_law_1171 ?_
  refine jtopr ex46.symm ?_
  refine va_sld hx hb hX hbl hbA hS (jin tx46 (by omega) (by omega)) dL_law_1172 ?_
  refine lv_aload_n hx hb dL_law_1173 rfl (lv_at hl 3 rfl) ?_
  refine lv_iload_n hx hb dL_law_1174 rfl (lv_at hl 0 rfl) ?_
  refine lv_iconst (v := 2) hx hb dL_law_1175 (by decide) ?_
  refine lv_iadd hx hb dL_law_1176 ?_
  refine jtopr ex48.symm ?_
  refine va_sld hx hb hX hbl hbA hS (jin tx48 (by omega) (by omega)) dL_law_1177 ?_
  refine lv_aload_n hx hb dL_law_1178 rfl (lv_at hl 3 rfl) ?_
  refine lv_iload_n hx hb dL_law_1179 rfl (lv_at hl 0 rfl) ?_
  refine lv_iconst (v := 3) hx hb dL_law_1180 (by decide) ?_
  refine lv_iadd hx hb dL_law_1181 ?_
  refine jtopr ex50.symm ?_
  refine va_sld hx hb hX hbl hbA hS (jin tx50 (by omega) (by omega)) dL_law_1182 ?_
  refine lv_i2l (v := (xs x50.toNatClampNeg).toInt64) hx hb dL_law_1183 rfl ?_
  refine lv_bipush (v := 32) hx hb dL_law_1184 (by decide) ?_
  refine lv_lshl hx hb dL_law_1186 rfl ?_
  refine lv_topl (fun lx63 elx63 => ?_)
  refine lv_aload_n hx hb dL_law_1187 rfl (lv_at hl 3 rfl) ?_
  refine lv_iload_n hx hb dL_law_1188 rfl (lv_at hl 0 rfl) ?_
  refine lv_iconst (v := 4) hx hb dL_law_1189 (by decide) ?_
  refine lv_iadd hx hb dL_law_1190 ?_
  refine jtopr ex53.symm ?_
  refine va_sld hx hb hX hbl hbA hS (jin tx53 (by omega) (by omega)) dL_law_1191 ?_
  refine lv_i2l (v := (xs x53.toNatClampNeg).toInt64) hx hb dL_law_1192 rfl ?_
  refine lv_ldc2 (v := 4294967295) hx hb hown (hts _ kw_1_6) dL_law_1193 ?_
  refine lv_land hx hb dL_law_1196 ?_
  refine lv_topl (fun lx64 elx64 => ?_)
  refine lv_lor hx hb dL_law_1197 ?_
  refine lv_topl (fun lx65 elx65 => ?_)
  have I66 : jI110 σ57 := jI110_fr (f59 86 (by decide)) (f59 87 (by decide)) hI110
  refine jcallV (As := [.int (xs x46.toNatClampNeg), .int (xs x48.toNatClampNeg), .long lx65]) (rest := []) ⟨hx, hb, hml, hown, hts⟩ hK hP hA hS hZ (c_X12_put l D cI cL ad zz hJ σ57 τ57 (xs x46.toNatClampNeg) ((xs x46.toNatClampNeg).toInt) rfl (xs x48.toNatClampNeg) ((xs x48.toNatClampNeg).toInt) rfl lx65 (lx65.toInt) rfl I66) cw_RL_151 (jc_55 cI cL ad σ57 τ57) rfl ⟨Nat.le_of_ble_eq_true rfl, Nat.le_of_ble_eq_true rfl⟩ rfl rfl rfl hl.1 rfl (Nat.le_of_ble_eq_true rfl) dL_law_1198 ⟨Nat.le_of_ble_eq_true rfl, Nat.le_of_ble_eq_true rfl⟩ (fun r68 σ67 τ67 H locs h67 hP hS => ?_)
  obtain ⟨f72, f69, w70, w71, h67⟩ := h67
  refine lv_pop hx hb dL_law_1201 rfl ?_
  refine lv_goto (tgt := 1357) hx hb dL_law_1202 (by decide) ?_
  obtain ⟨x73, ex73⟩ : ∃ y : Int32, y = x0 + 6 := ⟨_, rfl⟩
  have tx73 : x73.toInt = x0.toInt + 6 := (jadd ex73 rfl jz_6 (by omega) (by omega)).trans (by omega)
  refine lv_iinc (v := x73) (lv' := [(3, .int x73), (2, .ref (ad 55)), (1, .ref (ad 0)), (0, .ref b)]) hx hb dL_law_1357 hl (k := 0) rfl (by rw [ex73]; rfl) (by decide) rfl (fun ls hl => ?_)
  refine lv_goto (tgt := 18) hx hb dL_law_1360 (by decide) ?_
  have I74 : jI2 σ67 := jI2_fr ((congrFun (f69 2 (by decide)) 0).trans (congrFun (f59 2 (by decide)) 0)) ((congrFun (f69 2 (by decide)) 1).trans (congrFun (f59 2 (by decide)) 1)) ((congrFun (f69 2 (by decide)) 2).trans (congrFun (f59 2 (by decide)) 2)) ((congrFun (f69 2 (by decide)) 3).trans (congrFun (f59 2 (by decide)) 3)) ((f69 6 (by decide)).trans (f59 6 (by decide))) hI2
  have I75 : jI9 σ67 := jI9_fr ((congrFun (f69 9 (by decide)) 0).trans (congrFun (f59 9 (by decide)) 0)) ((f69 10 (by decide)).trans (f59 10 (by decide))) ((f69 11 (by decide)).trans (f59 11 (by decide))) hI9
  have I76 : jI12 σ67 := jI12_fr ((congrFun (f69 12 (by decide)) 0).trans (congrFun (f59 12 (by decide)) 0)) ((f69 13 (by decide)).trans (f59 13 (by decide))) hI12
  have I77 : jI16 σ67 := jI16_fr ((congrFun (f69 16 (by decide)) 0).trans (congrFun (f59 16 (by decide)) 0)) ((congrFun (f69 16 (by decide)) 1).trans (congrFun (f59 16 (by decide)) 1)) ((congrFun (f69 16 (by decide)) 2).trans (congrFun (f59 16 (by decide)) 2)) ((f69 17 (by decide)).trans (f59 17 (by decide))) hI16
  have I78 : jI18 σ67 := jI18_fr ((congrFun (f69 18 (by decide)) 0).trans (congrFun (f59 18 (by decide)) 0)) ((f69 19 (by decide)).trans (f59 19 (by decide))) hI18
  have I79 : jI22 σ67 := jI22_fr ((congrFun (f69 22 (by decide)) 0).trans (congrFun (f59 22 (by decide)) 0)) ((f69 23 (by decide)).trans (f59 23 (by decide))) hI22
  have I80 : jI31 σ67 := jI31_fr ((congrFun (f69 31 (by decide)) 8).trans (congrFun (f59 31 (by decide)) 8)) ((f69 33 (by decide)).trans (f59 33 (by decide))) ((f69 36 (by decide)).trans (f59 36 (by decide))) hI31
  have I81 : jI38 σ67 := jI38_fr ((congrFun (f69 38 (by decide)) 0).trans (congrFun (f59 38 (by decide)) 0)) ((congrFun (f69 38 (by decide)) 1).trans (congrFun (f59 38 (by decide)) 1)) ((f69 39 (by decide)).trans (f59 39 (by decide))) hI38
  have I82 : jI43 σ67 := jI43_fr ((congrFun (f69 43 (by decide)) 8).trans (congrFun (f59 43 (by decide)) 8)) hI43
  have I83 : jI47 σ67 := jI47_fr ((congrFun (f69 47 (by decide)) 0).trans (congrFun (f59 47 (by decide)) 0)) ((f69 48 (by decide)).trans (f59 48 (by decide))) ((f69 49 (by decide)).trans (f59 49 (by decide))) hI47
  have I84 : jI50 σ67 := jI50_fr ((f69 52 (by decide)).trans (f59 52 (by decide))) hI50
  have I85 : jI101 σ67 := jI101_fr ((congrFun (f69 55 (by decide)) 4).trans (congrFun (f59 55 (by decide)) 4)) ((congrFun (f69 55 (by decide)) 5).trans (congrFun (f59 55 (by decide)) 5)) ((f69 56 (by decide)).trans (f59 56 (by decide))) ((f69 57 (by decide)).trans (f59 57 (by decide))) ((f69 58 (by decide)).trans (f59 58 (by decide))) ((f69 59 (by decide)).trans (f59 59 (by decide))) hI101
  have I86 : jI102 σ67 := jI102_fr ((congrFun (f69 55 (by decide)) 6).trans (congrFun (f59 55 (by decide)) 6)) ((f69 60 (by decide)).trans (f59 60 (by decide))) ((f69 61 (by decide)).trans (f59 61 (by decide))) hI102
  have I87 : jI103 σ67 := jI103_fr ((congrFun (f69 55 (by decide)) 9).trans (congrFun (f59 55 (by decide)) 9)) hI103
  have I88 : jI104 σ67 := jI104_fr ((congrFun (f69 55 (by decide)) 10).trans (congrFun (f59 55 (by decide)) 10)) ((congrFun (f69 55 (by decide)) 12).trans (congrFun (f59 55 (by decide)) 12)) ((congrFun (f69 55 (by decide)) 13).trans (congrFun (f59 55 (by decide)) 13)) ((f69 62 (by decide)).trans (f59 62 (by decide))) ((f69 67 (by decide)).trans (f59 67 (by decide))) hI104
  have I89 : jI105 σ67 := jI105_fr ((congrFun (f69 55 (by decide)) 15).trans (congrFun (f59 55 (by decide)) 15)) ((f69 65 (by decide)).trans (f59 65 (by decide))) hI105
  have I90 : jI106 σ67 := jI106_fr ((congrFun (f69 55 (by decide)) 32).trans (congrFun (f59 55 (by decide)) 32)) ((f69 70 (by decide)).trans (f59 70 (by decide))) ((f69 71 (by decide)).trans (f59 71 (by decide))) ((f69 72 (by decide)).trans (f59 72 (by decide))) hI106
  have I91 : jI107 σ67 := jI107_fr ((congrFun (f69 55 (by decide)) 12).trans (congrFun (f59 55 (by decide)) 12)) ((congrFun (f69 55 (by decide)) 47).trans (congrFun (f59 55 (by decide)) 47)) ((f69 80 (by decide)).trans (f59 80 (by decide))) hI107
  have I92 : jI109 σ67 := jI109_fr ((congrFun (f69 55 (by decide)) 50).trans (congrFun (f59 55 (by decide)) 50)) hI109
  have I93 : jI110 σ67 := jI110_fr (f69 86 (by decide)) (f69 87 (by decide)) I66
  have I94 : jI111 σ67 := jI111_fr ((f69 79 (by decide)).trans (f59 79 (by decide))) hI111
  have I95 : jI119 σ67 := jI119_fr ((f69 68 (by decide)).trans (f59 68 (by decide))) hI119
  have p96 : jKept σ67 := jKept.fr ((f69 75 (by decide)).trans (f59 75 (by decide))) ((f69 76 (by decide)).trans (f59 76 (by decide))) ((f69 77 (by decide)).trans (f59 77 (by decide))) hs_jKept
  have p97 : jBook σ67 := jBook.fr ((congrFun (f69 55 (by decide)) 47).trans (congrFun (f59 55 (by decide)) 47)) ((congrFun (f69 55 (by decide)) 10).trans (congrFun (f59 55 (by decide)) 10)) ((f69 81 (by decide)).trans (f59 81 (by decide))) hs_jBook
  have z98 : (σ67 2 0).toInt = (σ 2 0).toInt := (congrArg Int32.toInt (show σ67 2 0 = (σ 2 0) from ((congrFun (f69 2 (by decide)) 0).trans (congrFun (f59 2 (by decide)) 0))))
  have z99 : (σ67 55 6).toInt = (σ 55 6).toInt := (congrArg Int32.toInt (show σ67 55 6 = (σ 55 6) from ((congrFun (f69 55 (by decide)) 6).trans (congrFun (f59 55 (by decide)) 6))))
  have z100 : (σ67 2 2).toInt = (σ 2 2).toInt := (congrArg Int32.toInt (show σ67 2 2 = (σ 2 2) from ((congrFun (f69 2 (by decide)) 2).trans (congrFun (f59 2 (by decide)) 2))))
  have z101 : (σ67 55 5).toInt = (σ 55 5).toInt := (congrArg Int32.toInt (show σ67 55 5 = (σ 55 5) from ((congrFun (f69 55 (by decide)) 5).trans (congrFun (f59 55 (by decide)) 5))))
  have z102 : (σ67 2 3).toInt = (σ 2 3).toInt := (congrArg Int32.toInt (show σ67 2 3 = (σ 2 3) from ((congrFun (f69 2 (by decide)) 3).trans (congrFun (f59 2 (by decide)) 3))))
  have z103 : (σ67 55 4).toInt = (σ 55 4).toInt := (congrArg Int32.toInt (show σ67 55 4 = (σ 55 4) from ((congrFun (f69 55 (by decide)) 4).trans (congrFun (f59 55 (by decide)) 4))))
  have z104 : (σ67 9 0).toInt = (σ 9 0).toInt := (congrArg Int32.toInt (show σ67 9 0 = (σ 9 0) from ((congrFun (f69 9 (by decide)) 0).trans (congrFun (f59 9 (by decide)) 0))))
  have z105 : (σ67 55 15).toInt = (σ 55 15).toInt := (congrArg Int32.toInt (show σ67 55 15 = (σ 55 15) from ((congrFun (f69 55 (by decide)) 15).trans (congrFun (f59 55 (by decide)) 15))))
  have z106 : (σ67 16 0).toInt = (σ 16 0).toInt := (congrArg Int32.toInt (show σ67 16 0 = (σ 16 0) from ((congrFun (f69 16 (by decide)) 0).trans (congrFun (f59 16 (by decide)) 0))))
  have z107 : (σ67 55 10).toInt = (σ 55 10).toInt := (congrArg Int32.toInt (show σ67 55 10 = (σ 55 10) from ((congrFun (f69 55 (by decide)) 10).trans (congrFun (f59 55 (by decide)) 10))))
  have z108 : (σ67 16 1).toInt = (σ 16 1).toInt := (congrArg Int32.toInt (show σ67 16 1 = (σ 16 1) from ((congrFun (f69 16 (by decide)) 1).trans (congrFun (f59 16 (by decide)) 1))))
  have z109 : (σ67 55 12).toInt = (σ 55 12).toInt := (congrArg Int32.toInt (show σ67 55 12 = (σ 55 12) from ((congrFun (f69 55 (by decide)) 12).trans (congrFun (f59 55 (by decide)) 12))))
  have z110 : (σ67 16 2).toInt = (σ 16 2).toInt := (congrArg Int32.toInt (show σ67 16 2 = (σ 16 2) from ((congrFun (f69 16 (by decide)) 2).trans (congrFun (f59 16 (by decide)) 2))))
  have z111 : (σ67 55 13).toInt = (σ 55 13).toInt := (congrArg Int32.toInt (show σ67 55 13 = (σ 55 13) from ((congrFun (f69 55 (by decide)) 13).trans (congrFun (f59 55 (by decide)) 13))))
  have z112 : (σ67 38 0).toInt = (σ 38 0).toInt := (congrArg Int32.toInt (show σ67 38 0 = (σ 38 0) from ((congrFun (f69 38 (by decide)) 0).trans (congrFun (f59 38 (by decide)) 0))))
  have z113 : (σ67 55 32).toInt = (σ 55 32).toInt := (congrArg Int32.toInt (show σ67 55 32 = (σ 55 32) from ((congrFun (f69 55 (by decide)) 32).trans (congrFun (f59 55 (by decide)) 32))))
  have z114 : (σ67 47 0).toInt = (σ 47 0).toInt := (congrArg Int32.toInt (show σ67 47 0 = (σ 47 0) from ((congrFun (f69 47 (by decide)) 0).trans (congrFun (f59 47 (by decide)) 0))))
  have z115 : (σ67 55 47).toInt = (σ 55 47).toInt := (congrArg Int32.toInt (show σ67 55 47 = (σ 55 47) from ((congrFun (f69 55 (by decide)) 47).trans (congrFun (f59 55 (by decide)) 47))))
  have z116 : (σ67 55 30).toInt = (σ 55 30).toInt := (congrArg Int32.toInt (show σ67 55 30 = (σ 55 30) from ((congrFun (f69 55 (by decide)) 30).trans (congrFun (f59 55 (by decide)) 30))))
  have z117 : (σ67 55 31).toInt = (σ 55 31).toInt := (congrArg Int32.toInt (show σ67 55 31 = (σ 55 31) from ((congrFun (f69 55 (by decide)) 31).trans (congrFun (f59 55 (by decide)) 31))))
  rw [show τ57 88 = τ 88 from (f62 88 (by decide))] at w71
  have s119 := w70
  rw [show σ57 86 = σ 86 from (f59 86 (by decide)), show σ57 87 = σ 87 from (f59 87 (by decide))] at s119
  rw [show σ57 86 = σ 86 from (f59 86 (by decide))] at w71
  have v120 : lx65 = lx56 := by rw [elx65, elx63, elx64, elx56, elx52, elx55]
  rw [v120] at w71
  have p118 := hr5.put w61 w71 (w60.trans (hr4.rf.trans s119.symm)) rfl (fun z => by rw [(hr4.cut w60 z).1])
  exact ih x73 σ67 τ67 _ _ ls (by have h9 := tx73; omega) ⟨I74, I75, I76, I77, I78, I79, I80, I81, I82, I83, I84, I85, I86, I87, I88, I89, I90, I91, I92, I93, I94, I95, p96, p97, (by omega), (by omega), (by omega), (by omega), (by omega), (by omega), (by omega), (by omega), (by omega), (by omega), (by omega), (show jNumP (σ67 3) (σ67 56) (σ67 6) (σ67 57) (σ67 7) (σ67 58) (σ67 8) (σ67 59) (σ67 55 6).toInt (σ67 55 4).toInt by rw [show σ67 3 = σ 3 from ((f69 3 (by decide)).trans (f59 3 (by decide))), show σ67 56 = σ 56 from ((f69 56 (by decide)).trans (f59 56 (by decide))), show σ67 6 = σ 6 from ((f69 6 (by decide)).trans (f59 6 (by decide))), show σ67 57 = σ 57 from ((f69 57 (by decide)).trans (f59 57 (by decide))), show σ67 7 = σ 7 from ((f69 7 (by decide)).trans (f59 7 (by decide))), show σ67 58 = σ 58 from ((f69 58 (by decide)).trans (f59 58 (by decide))), show σ67 8 = σ 8 from ((f69 8 (by decide)).trans (f59 8 (by decide))), show σ67 59 = σ 59 from ((f69 59 (by decide)).trans (f59 59 (by decide))), show (σ67 55 6).toInt = (σ 55 6).toInt from by omega, show (σ67 55 4).toInt = (σ 55 4).toInt from by omega]; exact hr0), (show jOvP (σ67 56) (σ67 57) (σ67 58) (σ67 59) (σ67 55 4).toInt by rw [show σ67 56 = σ 56 from ((f69 56 (by decide)).trans (f59 56 (by decide))), show σ67 57 = σ 57 from ((f69 57 (by decide)).trans (f59 57 (by decide))), show σ67 58 = σ 58 from ((f69 58 (by decide)).trans (f59 58 (by decide))), show σ67 59 = σ 59 from ((f69 59 (by decide)).trans (f59 59 (by decide))), show (σ67 55 4).toInt = (σ 55 4).toInt from by omega]; exact hr1), (show jTp (σ67 10) (σ67 63) (σ67 55 15).toInt by rw [show σ67 10 = σ 10 from ((f69 10 (by decide)).trans (f59 10 (by decide))), show σ67 63 = σ 63 from ((f69 63 (by decide)).trans (f59 63 (by decide)))]; exact hr2.le (by omega)), (show jSo (σ67 17) (σ67 62) (σ67 16 0).toInt by rw [show σ67 17 = σ 17 from ((f69 17 (by decide)).trans (f59 17 (by decide))), show σ67 62 = σ 62 from ((f69 62 (by decide)).trans (f59 62 (by decide))), show (σ67 16 0).toInt = (σ 16 0).toInt from by omega]; exact hr3), (show jShP (σ67 51) (σ67 52) (σ67 53) (σ67 86) (σ67 87) (σ67 55 32).toInt by rw [show σ67 51 = σ 51 from ((f69 51 (by decide)).trans (f59 51 (by decide))), show σ67 52 = σ 52 from ((f69 52 (by decide)).trans (f59 52 (by decide))), show σ67 53 = σ 53 from ((f69 53 (by decide)).trans (f59 53 (by decide))), show σ67 86 = σ 86 from ((f69 86 (by decide)).trans (f59 86 (by decide))), show σ67 87 = σ 87 from ((f69 87 (by decide)).trans (f59 87 (by decide)))]; exact (hr4.up (by omega) (by omega))), (show jEl (σ67 51) (σ67 52) (τ67 54) (τ67 88) by rw [show σ67 51 = σ 51 from ((f69 51 (by decide)).trans (f59 51 (by decide))), show σ67 52 = σ 52 from ((f69 52 (by decide)).trans (f59 52 (by decide))), show τ67 54 = τ57 54 from (f72 54 (by decide))]; exact p118), (show jByP (σ67 51) (σ67 52) (τ67 54) by rw [show σ67 51 = σ 51 from ((f69 51 (by decide)).trans (f59 51 (by decide))), show σ67 52 = σ 52 from ((f69 52 (by decide)).trans (f59 52 (by decide))), show τ67 54 = τ57 54 from (f72 54 (by decide))]; exact (hr6.put (d := (xs x46.toNatClampNeg).toInt) (i := (xs x48.toNatClampNeg).toInt) w20 w61 rfl (fun z => by
    have w := hr4.cut w60 z
    rw [jnc (rfl : (xs x46.toNatClampNeg).toInt = (xs x46.toNatClampNeg).toInt)] at w
    exact ⟨w.2.1, w.2.2.1, w.2.2.2.1, by rw [jnc (rfl : (xs x46.toNatClampNeg).toInt = (xs x46.toNatClampNeg).toInt)]⟩))), (show jBk (σ67 48) (σ67 80) (σ67 49) (σ67 81) (σ67 55 47).toInt by rw [show σ67 48 = σ 48 from ((f69 48 (by decide)).trans (f59 48 (by decide))), show σ67 49 = σ 49 from ((f69 49 (by decide)).trans (f59 49 (by decide))), show σ67 80 = σ 80 from ((f69 80 (by decide)).trans (f59 80 (by decide))), show σ67 81 = σ 81 from ((f69 81 (by decide)).trans (f59 81 (by decide))), show (σ67 55 47).toInt = (σ 55 47).toInt from by omega]; exact hr7)⟩ hP hS (lv_sub hl [0, 1, 2, 3] rfl)
set_option maxHeartbeats 4000000 in
set_option maxRecDepth 100000 in
theorem law_case_33 {p : Program} {e : Env} {s : State} {m : MethodId} {below : List Frame} {meth : Method} {c : Code} (l : Launch) {b L : Nat} {xs : Nat → Int32} {D : va_G} {cI cL : ClassId} {ad zz : Nat → Nat} (C0 : lw_At p s m meth c b L xs) (hJ : jD ad) (hA : ∀ q, jA ad q → s.heap.size ≤ q) (hK : jK D cI cL s) (hZ : jZ zz (fun q : Nat => s.heap.size ≤ q) s s.heap) {x0 : Int32} (hx0 : 0 ≤ x0.toInt) (hxL : x0.toInt + 6 ≤ (L : Int)) (hL : L ≤ 384) {σ : Nat → Nat → Int32} {τ : Nat → Nat → Int64} {H : Heap} {locs : List Loc} (hS : va_S (fun q : Nat => s.heap.size ≤ q) s.heap H locs) {ls : Array Slot} (hAll : jAll σ τ) (hP : jH D cI cL ad σ τ H) (hl : lv_has ls 4 [(3, .int x0), (2, .ref (ad 55)), (1, .ref (ad 0)), (0, .ref b)]) (ih : ∀ (x1 : Int32) (σ : Nat → Nat → Int32) (τ : Nat → Nat → Int64) (H : Heap) (locs : List Loc) (ls : Array Slot), x1.toInt = x0.toInt + 6 → jAll σ τ → jH D cI cL ad σ τ H → va_S (fun q : Nat => s.heap.size ≤ q) s.heap H locs → lv_has ls 4 [(3, .int x1), (2, .ref (ad 55)), (1, .ref (ad 0)), (0, .ref b)] → W p l e room_1 s m #[Value.ref b] below meth c H locs 90 348600 (lw_Z below #[Value.ref b] s) (F0 m 18 ls [])) : W p l e room_1 s m #[Value.ref b] below meth c H locs 90 348600 (lw_Z below #[Value.ref b] s) (F0 m 1205 ls []) := by
  obtain ⟨hx, hb, hr, hml, hown, hts0, hX, hbl, hlocks, hgv⟩ := C0
  have hts : ∀ w ∈ wsL_law, w.before #[Value.ref b] s = true := fun w h => hts0 w (wsL_law_in w h)
  have hbA : ¬ (fun q : Nat => s.heap.size ≤ q) b := Nat.not_le.mpr hbl
  have hown : s.vm.findClass RL = some m.cls := hown
  obtain ⟨hI2, hI9, hI12, hI16, hI18, hI22, hI31, hI38, hI43, hI47, hI50, hI101, hI102, hI103, hI104, hI105, hI106, hI107, hI109, hI110, hI111, hI119, hs_jKept, hs_jBook, ht0, ht1, ht2, ht3, ht4, ht5, ht6, ht7, ht8, ht9, ht10, hr0, hr1, hr2, hr3, hr4, hr5, hr6, hr7⟩ := hAll
  have hL9 : (L : Int) ≤ 384 := by omega
  obtain ⟨i1, i2, i3, i4, i5, w6⟩ : (0 ≤ (σ 2 0).toInt ∧ (σ 2 0).toInt ≤ 4) ∧ (0 ≤ (σ 2 1).toInt ∧ (σ 2 1).toInt ≤ 3) ∧ (0 ≤ (σ 2 2).toInt) ∧ (0 ≤ (σ 2 3).toInt) ∧ ((σ 2 2).toInt + (σ 2 3).toInt ≤ 40) ∧ (∀ k : Nat, k < 40 → 0 ≤ (σ 6 k).toInt ∧ (σ 6 k).toInt ≤ 67) := id hI2
  obtain ⟨i7, w8, w9⟩ : (0 ≤ (σ 9 0).toInt ∧ (σ 9 0).toInt ≤ 80) ∧ (∀ k : Nat, k < 80 → 0 ≤ (σ 10 k).toInt ∧ (σ 10 k).toInt ≤ 255) ∧ (∀ k : Nat, k < 8 → 0 ≤ (σ 11 k).toInt ∧ (σ 11 k).toInt ≤ 3) := id hI9
  obtain ⟨i10, i11, i12, w13⟩ : (1 ≤ (σ 16 0).toInt ∧ (σ 16 0).toInt ≤ 8) ∧ (1 ≤ (σ 16 1).toInt ∧ (σ 16 1).toInt ≤ 12) ∧ (0 ≤ (σ 16 2).toInt ∧ (σ 16 2).toInt ≤ 999) ∧ (∀ k : Nat, k < 8 → 0 ≤ (σ 17 k).toInt ∧ (σ 17 k).toInt ≤ 3) := id hI16
  obtain ⟨i14, i15, w16⟩ : (0 ≤ (σ 38 0).toInt ∧ (σ 38 0).toInt ≤ 20) ∧ (0 ≤ (σ 38 1).toInt ∧ (σ 38 1).toInt ≤ 1000) ∧ (∀ k : Nat, k < 20 → 0 ≤ (σ 39 k).toInt ∧ (σ 39 k).toInt ≤ 6) := id hI38
  obtain ⟨i17, w18, w19⟩ : (0 ≤ (σ 47 0).toInt ∧ (σ 47 0).toInt ≤ 12) ∧ (∀ k : Nat, k < 12 → 0 ≤ (σ 48 k).toInt ∧ (σ 48 k).toInt ≤ 3) ∧ (∀ k : Nat, k < 12 → 0 ≤ (σ 49 k).toInt ∧ (σ 49 k).toInt ≤ 1) := id hI47
  have w20 : ∀ k : Nat, k < 6 → 0 ≤ (σ 52 k).toInt ∧ (σ 52 k).toInt ≤ 60 := hI50
  obtain ⟨i21, i22, i23, w24, w25, w26, w27⟩ : (0 ≤ (σ 55 5).toInt) ∧ ((σ 55 5).toInt ≤ (σ 55 4).toInt) ∧ ((σ 55 4).toInt ≤ 40) ∧ (∀ k : Nat, k < 68 → (-200) ≤ (σ 56 k).toInt ∧ (σ 56 k).toInt ≤ 500) ∧ (∀ k : Nat, k < 40 → 0 ≤ (σ 57 k).toInt ∧ (σ 57 k).toInt ≤ 67) ∧ (∀ k : Nat, k < 40 → (-200) ≤ (σ 58 k).toInt ∧ (σ 58 k).toInt ≤ 500) ∧ (∀ k : Nat, k < 40 → (-200) ≤ (σ 59 k).toInt ∧ (σ 59 k).toInt ≤ 500) := id hI101
  obtain ⟨i28, w29, w30⟩ : (0 ≤ (σ 55 6).toInt ∧ (σ 55 6).toInt ≤ 4) ∧ (∀ k : Nat, k < 4 → 0 ≤ (σ 60 k).toInt ∧ (σ 60 k).toInt ≤ 50) ∧ (∀ k : Nat, k < 4 → 0 ≤ (σ 61 k).toInt ∧ (σ 61 k).toInt ≤ 20) := id hI102
  obtain ⟨i31, i32, i33, w34, w35⟩ : (1 ≤ (σ 55 10).toInt ∧ (σ 55 10).toInt ≤ 8) ∧ (1 ≤ (σ 55 12).toInt ∧ (σ 55 12).toInt ≤ 12) ∧ (0 ≤ (σ 55 13).toInt ∧ (σ 55 13).toInt ≤ 999) ∧ (∀ k : Nat, k < 8 → 0 ≤ (σ 62 k).toInt ∧ (σ 62 k).toInt ≤ 3) ∧ (∀ k : Nat, k < 8 → 0 ≤ (σ 67 k).toInt ∧ (σ 67 k).toInt ≤ 3) := id hI104
  obtain ⟨i36, w37⟩ : (0 ≤ (σ 55 15).toInt ∧ (σ 55 15).toInt ≤ 80) ∧ (∀ k : Nat, k < 2 → (-1) ≤ (σ 65 k).toInt ∧ (σ 65 k).toInt ≤ 80) := id hI105
  obtain ⟨i38, w39, w40, w41⟩ : (0 ≤ (σ 55 32).toInt ∧ (σ 55 32).toInt ≤ 20) ∧ (∀ k : Nat, k < 20 → 0 ≤ (σ 70 k).toInt ∧ (σ 70 k).toInt ≤ 6) ∧ (∀ k : Nat, k < 20 → 0 ≤ (σ 71 k).toInt ∧ (σ 71 k).toInt ≤ 8) ∧ (∀ k : Nat, k < 160 → 0 ≤ (σ 72 k).toInt ∧ (σ 72 k).toInt ≤ 3) := id hI106
  obtain ⟨i42, i43, w44⟩ : (0 ≤ (σ 55 47).toInt ∧ (σ 55 47).toInt ≤ 12) ∧ ((σ 55 47).toInt ≤ (σ 55 12).toInt) ∧ (∀ k : Nat, k < 12 → 0 ≤ (σ 80 k).toInt ∧ (σ 80 k).toInt ≤ 3) := id hI107
  refine lv_aload_n hx hb dL_law_1205 rfl (lv_at hl 2 rfl) ?_
  refine lv_aload_n hx hb dL_law_1206 rfl (lv_at hl 3 rfl) ?_
  refine lv_iload_n hx hb dL_law_1207 rfl (lv_at hl 0 rfl) ?_
  refine lv_iconst (v := 1) hx hb dL_law_1208 (by decide) ?_
  have g45 := jrg (rfl : x0.toInt = x0.toInt)
  refine lv_iadd hx hb dL_law_1209 ?_
  refine lv_topi (fun x46 ex46 => ?_)
  have tx46 : x46.toInt = x0.toInt + 1 := (jadd ex46 rfl jz_1 (by omega) (by omega)).trans (by omega)
  refine va_sld hx hb hX hbl hbA hS (jin tx46 (by omega) (by omega)) dL_law_1210 ?_
  have g47 := jrg (rfl : (xs x46.toNatClampNeg).toInt = (xs x46.toNatClampNeg).toInt)
  refine lv_aload_n hx hb dL_law_1211 rfl (lv_at hl 3 rfl) ?_
  refine lv_iload_n hx hb dL_law_1212 rfl (lv_at hl 0 rfl) ?_
  refine lv_iconst (v := 2) hx hb dL_law_1213 (by decide) ?_
  refine lv_iadd hx hb dL_law_1214 ?_
  refine lv_topi (fun x48 ex48 => ?_)
  have tx48 : x48.toInt = x0.toInt + 2 := (jadd ex48 rfl jz_2 (by omega) (by omega)).trans (by omega)
  refine va_sld hx hb hX hbl hbA hS (jin tx48 (by omega) (by omega)) dL_law_1215 ?_
  have g49 := jrg (rfl : (xs x48.toNatClampNeg).toInt = (xs x48.toNatClampNeg).toInt)
  refine jcallVl (As := [.int (xs x46.toNatClampNeg), .int (xs x48.toNatClampNeg)]) (rest := []) ⟨hx, hb, hml, hown, hts⟩ hK hP hA hS hZ (c_X11_element l D cI cL ad zz hJ σ τ (xs x46.toNatClampNeg) ((xs x46.toNatClampNeg).toInt) rfl (xs x48.toNatClampNeg) ((xs x48.toNatClampNeg).toInt) rfl hI50) cw_RL_152 (jc_0 cI cL ad σ τ) rfl ⟨Nat.le_of_ble_eq_true rfl, Nat.le_of_ble_eq_true rfl⟩ rfl rfl rfl hl.1 rfl (Nat.le_of_ble_eq_true rfl) dL_law_1216 ⟨Nat.le_of_ble_eq_true rfl, Nat.le_of_ble_eq_true rfl⟩ (fun lxr51 σ50 τ50 H locs h50 hP hS => ?_)
  obtain ⟨⟨rfl, rfl⟩, w52, h50⟩ := h50
  refine lv_pop2_2 hx hb dL_law_1219 rfl ?_
  refine lv_aload_n hx hb dL_law_1220 rfl (lv_at hl 1 rfl) ?_
  refine lv_aload_n hx hb dL_law_1221 rfl (lv_at hl 3 rfl) ?_
  refine lv_iload_n hx hb dL_law_1222 rfl (lv_at hl 0 rfl) ?_
  refine lv_iconst (v := 1) hx hb dL_law_1223 (by decide) ?_
  refine lv_iadd hx hb dL_law_1224 ?_
  refine jtopr ex46.symm ?_
  refine va_sld hx hb hX hbl hbA hS (jin tx46 (by omega) (by omega)) dL_law_1225 ?_
  refine lv_aload_n hx hb dL_law_1226 rfl (lv_at hl 3 rfl) ?_
  refine lv_iload_n hx hb dL_law_1227 rfl (lv_at hl 0 rfl) ?_
  refine lv_iconst (v := 2) hx hb dL_law_1228 (by decide) ?_
  refine lv_iadd hx hb dL_law_1229 ?_
  refine jtopr ex48.symm ?_
  refine va_sld hx hb hX hbl hbA hS (jin tx48 (by omega) (by omega)) dL_law_1230 ?_
  refine jcallVl (As := [.int (xs x46.toNatClampNeg), .int (xs x48.toNatClampNeg)]) (rest := []) ⟨hx, hb, hml, hown, hts⟩ hK hP hA hS hZ (c_X12_element l D cI cL ad zz hJ σ τ (xs x46.toNatClampNeg) ((xs x46.toNatClampNeg).toInt) rfl (xs x48.toNatClampNeg) ((xs x48.toNatClampNeg).toInt) rfl hI110) cw_RL_156 (jc_55 cI cL ad σ τ) rfl ⟨Nat.le_of_ble_eq_true rfl, Nat.le_of_ble_eq_true rfl⟩ rfl rfl rfl hl.1 rfl (Nat.le_of_ble_eq_true rfl) dL_law_1231 ⟨Nat.le_of_ble_eq_true rfl, Nat.le_of_ble_eq_true rfl⟩ (fun lxr54 σ53 τ53 H locs h53 hP hS => ?_)
  obtain ⟨⟨rfl, rfl⟩, w55, h53⟩ := h53
  refine lv_pop2_2 hx hb dL_law_1234 rfl ?_
  refine lv_goto (tgt := 1357) hx hb dL_law_1235 (by decide) ?_
  obtain ⟨x56, ex56⟩ : ∃ y : Int32, y = x0 + 6 := ⟨_, rfl⟩
  have tx56 : x56.toInt = x0.toInt + 6 := (jadd ex56 rfl jz_6 (by omega) (by omega)).trans (by omega)
  refine lv_iinc (v := x56) (lv' := [(3, .int x56), (2, .ref (ad 55)), (1, .ref (ad 0)), (0, .ref b)]) hx hb dL_law_1357 hl (k := 0) rfl (by rw [ex56]; rfl) (by decide) rfl (fun ls hl => ?_)
  refine lv_goto (tgt := 18) hx hb dL_law_1360 (by decide) ?_
  exact ih x56 σ τ _ _ ls (by have h9 := tx56; omega) ⟨hI2, hI9, hI12, hI16, hI18, hI22, hI31, hI38, hI43, hI47, hI50, hI101, hI102, hI103, hI104, hI105, hI106, hI107, hI109, hI110, hI111, hI119, hs_jKept, hs_jBook, (by omega), (by omega), (by omega), (by omega), (by omega), (by omega), (by omega), (by omega), (by omega), (by omega), (by omega), hr0, hr1, hr2, hr3, hr4, hr5, hr6, hr7⟩ hP hS (lv_sub hl [0, 1, 2, 3] rfl)
set_option maxHeartbeats 4000000 in
set_option maxRecDepth 100000 in
theorem law_case_34 {p : Program} {e : Env} {s : State} {m : MethodId} {below : List Frame} {meth : Method} {c : Code} (l : Launch) {b L : Nat} {xs : Nat → Int32} {D : va_G} {cI cL : ClassId} {ad zz : Nat → Nat} (C0 : lw_At p s m meth c b L xs) (hJ : jD ad) (hA : ∀ q, jA ad q → s.heap.size ≤ q) (hK : jK D cI cL s) (hZ : jZ zz (fun q : Nat => s.heap.size ≤ q) s s.heap) {x0 : Int32} (hx0 : 0 ≤ x0.toInt) (hxL : x0.toInt + 6 ≤ (L : Int)) (hL : L ≤ 384) {σ : Nat → Nat → Int32} {τ : Nat → Nat → Int64} {H : Heap} {locs : List Loc} (hS : va_S (fun q : Nat => s.heap.size ≤ q) s.heap H locs) {ls : Array Slot} (hAll : jAll σ τ) (hP : jH D cI cL ad σ τ H) (hl : lv_has ls 4 [(3, .int x0), (2, .ref (ad 55)), (1, .ref (ad 0)), (0, .ref b)]) (ih : ∀ (x1 : Int32) (σ : Nat → Nat → Int32) (τ : Nat → Nat → Int64) (H : Heap) (locs : List Loc) (ls : Array Slot), x1.toInt = x0.toInt + 6 → jAll σ τ → jH D cI cL ad σ τ H → va_S (fun q : Nat => s.heap.size ≤ q) s.heap H locs → lv_has ls 4 [(3, .int x1), (2, .ref (ad 55)), (1, .ref (ad 0)), (0, .ref b)] → W p l e room_1 s m #[Value.ref b] below meth c H locs 90 348600 (lw_Z below #[Value.ref b] s) (F0 m 18 ls [])) : W p l e room_1 s m #[Value.ref b] below meth c H locs 90 348600 (lw_Z below #[Value.ref b] s) (F0 m 1238 ls []) := by
  obtain ⟨hx, hb, hr, hml, hown, hts0, hX, hbl, hlocks, hgv⟩ := C0
  have hts : ∀ w ∈ wsL_law, w.before #[Value.ref b] s = true := fun w h => hts0 w (wsL_law_in w h)
  have hbA : ¬ (fun q : Nat => s.heap.size ≤ q) b := Nat.not_le.mpr hbl
  have hown : s.vm.findClass RL = some m.cls := hown
  obtain ⟨hI2, hI9, hI12, hI16, hI18, hI22, hI31, hI38, hI43, hI47, hI50, hI101, hI102, hI103, hI104, hI105, hI106, hI107, hI109, hI110, hI111, hI119, hs_jKept, hs_jBook, ht0, ht1, ht2, ht3, ht4, ht5, ht6, ht7, ht8, ht9, ht10, hr0, hr1, hr2, hr3, hr4, hr5, hr6, hr7⟩ := hAll
  have hL9 : (L : Int) ≤ 384 := by omega
  obtain ⟨i1, i2, i3, i4, i5, w6⟩ : (0 ≤ (σ 2 0).toInt ∧ (σ 2 0).toInt ≤ 4) ∧ (0 ≤ (σ 2 1).toInt ∧ (σ 2 1).toInt ≤ 3) ∧ (0 ≤ (σ 2 2).toInt) ∧ (0 ≤ (σ 2 3).toInt) ∧ ((σ 2 2).toInt + (σ 2 3).toInt ≤ 40) ∧ (∀ k : Nat, k < 40 → 0 ≤ (σ 6 k).toInt ∧ (σ 6 k).toInt ≤ 67) := id hI2
  obtain ⟨i7, w8, w9⟩ : (0 ≤ (σ 9 0).toInt ∧ (σ 9 0).toInt ≤ 80) ∧ (∀ k : Nat, k < 80 → 0 ≤ (σ 10 k).toInt ∧ (σ 10 k).toInt ≤ 255) ∧ (∀ k : Nat, k < 8 → 0 ≤ (σ 11 k).toInt ∧ (σ 11 k).toInt ≤ 3) := id hI9
  obtain ⟨i10, i11, i12, w13⟩ : (1 ≤ (σ 16 0).toInt ∧ (σ 16 0).toInt ≤ 8) ∧ (1 ≤ (σ 16 1).toInt ∧ (σ 16 1).toInt ≤ 12) ∧ (0 ≤ (σ 16 2).toInt ∧ (σ 16 2).toInt ≤ 999) ∧ (∀ k : Nat, k < 8 → 0 ≤ (σ 17 k).toInt ∧ (σ 17 k).toInt ≤ 3) := id hI16
  obtain ⟨i14, i15, w16⟩ : (0 ≤ (σ 38 0).toInt ∧ (σ 38 0).toInt ≤ 20) ∧ (0 ≤ (σ 38 1).toInt ∧ (σ 38 1).toInt ≤ 1000) ∧ (∀ k : Nat, k < 20 → 0 ≤ (σ 39 k).toInt ∧ (σ 39 k).toInt ≤ 6) := id hI38
  obtain ⟨i17, w18, w19⟩ : (0 ≤ (σ 47 0).toInt ∧ (σ 47 0).toInt ≤ 12) ∧ (∀ k : Nat, k < 12 → 0 ≤ (σ 48 k).toInt ∧ (σ 48 k).toInt ≤ 3) ∧ (∀ k : Nat, k < 12 → 0 ≤ (σ 49 k).toInt ∧ (σ 49 k).toInt ≤ 1) := id hI47
  have w20 : ∀ k : Nat, k < 6 → 0 ≤ (σ 52 k).toInt ∧ (σ 52 k).toInt ≤ 60 := hI50
  obtain ⟨i21, i22, i23, w24, w25, w26, w27⟩ : (0 ≤ (σ 55 5).toInt) ∧ ((σ 55 5).toInt ≤ (σ 55 4).toInt) ∧ ((σ 55 4).toInt ≤ 40) ∧ (∀ k : Nat, k < 68 → (-200) ≤ (σ 56 k).toInt ∧ (σ 56 k).toInt ≤ 500) ∧ (∀ k : Nat, k < 40 → 0 ≤ (σ 57 k).toInt ∧ (σ 57 k).toInt ≤ 67) ∧ (∀ k : Nat, k < 40 → (-200) ≤ (σ 58 k).toInt ∧ (σ 58 k).toInt ≤ 500) ∧ (∀ k : Nat, k < 40 → (-200) ≤ (σ 59 k).toInt ∧ (σ 59 k).toInt ≤ 500) := id hI101
  obtain ⟨i28, w29, w30⟩ : (0 ≤ (σ 55 6).toInt ∧ (σ 55 6).toInt ≤ 4) ∧ (∀ k : Nat, k < 4 → 0 ≤ (σ 60 k).toInt ∧ (σ 60 k).toInt ≤ 50) ∧ (∀ k : Nat, k < 4 → 0 ≤ (σ 61 k).toInt ∧ (σ 61 k).toInt ≤ 20) := id hI102
  obtain ⟨i31, i32, i33, w34, w35⟩ : (1 ≤ (σ 55 10).toInt ∧ (σ 55 10).toInt ≤ 8) ∧ (1 ≤ (σ 55 12).toInt ∧ (σ 55 12).toInt ≤ 12) ∧ (0 ≤ (σ 55 13).toInt ∧ (σ 55 13).toInt ≤ 999) ∧ (∀ k : Nat, k < 8 → 0 ≤ (σ 62 k).toInt ∧ (σ 62 k).toInt ≤ 3) ∧ (∀ k : Nat, k < 8 → 0 ≤ (σ 67 k).toInt ∧ (σ 67 k).toInt ≤ 3) := id hI104
  obtain ⟨i36, w37⟩ : (0 ≤ (σ 55 15).toInt ∧ (σ 55 15).toInt ≤ 80) ∧ (∀ k : Nat, k < 2 → (-1) ≤ (σ 65 k).toInt ∧ (σ 65 k).toInt ≤ 80) := id hI105
  obtain ⟨i38, w39, w40, w41⟩ : (0 ≤ (σ 55 32).toInt ∧ (σ 55 32).toInt ≤ 20) ∧ (∀ k : Nat, k < 20 → 0 ≤ (σ 70 k).toInt ∧ (σ 70 k).toInt ≤ 6) ∧ (∀ k : Nat, k < 20 → 0 ≤ (σ 71 k).toInt ∧ (σ 71 k).toInt ≤ 8) ∧ (∀ k : Nat, k < 160 → 0 ≤ (σ 72 k).toInt ∧ (σ 72 k).toInt ≤ 3) := id hI106
  obtain ⟨i42, i43, w44⟩ : (0 ≤ (σ 55 47).toInt ∧ (σ 55 47).toInt ≤ 12) ∧ ((σ 55 47).toInt ≤ (σ 55 12).toInt) ∧ (∀ k : Nat, k < 12 → 0 ≤ (σ 80 k).toInt ∧ (σ 80 k).toInt ≤ 3) := id hI107
  refine lv_aload_n hx hb dL_law_1238 rfl (lv_at hl 2 rfl) ?_
  refine lv_aload_n hx hb dL_law_1239 rfl (lv_at hl 3 rfl) ?_
  refine lv_iload_n hx hb dL_law_1240 rfl (lv_at hl 0 rfl) ?_
  refine lv_iconst (v := 1) hx hb dL_law_1241 (by decide) ?_
  have g45 := jrg (rfl : x0.toInt = x0.toInt)
  refine lv_iadd hx hb dL_law_1242 ?_
  refine lv_topi (fun x46 ex46 => ?_)
  have tx46 : x46.toInt = x0.toInt + 1 := (jadd ex46 rfl jz_1 (by omega) (by omega)).trans (by omega)
  refine va_sld hx hb hX hbl hbA hS (jin tx46 (by omega) (by omega)) dL_law_1243 ?_
  have g47 := jrg (rfl : (xs x46.toNatClampNeg).toInt = (xs x46.toNatClampNeg).toInt)
  refine lv_aload_n hx hb dL_law_1244 rfl (lv_at hl 3 rfl) ?_
  refine lv_iload_n hx hb dL_law_1245 rfl (lv_at hl 0 rfl) ?_
  refine lv_iconst (v := 2) hx hb dL_law_1246 (by decide) ?_
  refine lv_iadd hx hb dL_law_1247 ?_
  refine lv_topi (fun x48 ex48 => ?_)
  have tx48 : x48.toInt = x0.toInt + 2 := (jadd ex48 rfl jz_2 (by omega) (by omega)).trans (by omega)
  refine va_sld hx hb hX hbl hbA hS (jin tx48 (by omega) (by omega)) dL_law_1248 ?_
  have g49 := jrg (rfl : (xs x48.toNatClampNeg).toInt = (xs x48.toNatClampNeg).toInt)
  refine lv_aload_n hx hb dL_law_1249 rfl (lv_at hl 3 rfl) ?_
  refine lv_iload_n hx hb dL_law_1250 rfl (lv_at hl 0 rfl) ?_
  refine lv_iconst (v := 3) hx hb dL_law_1251 (by decide) ?_
  refine lv_iadd hx hb dL_law_1252 ?_
  refine lv_topi (fun x50 ex50 => ?_)
  have tx50 : x50.toInt = x0.toInt + 3 := (jadd ex50 rfl jz_3 (by omega) (by omega)).trans (by omega)
  refine va_sld hx hb hX hbl hbA hS (jin tx50 (by omega) (by omega)) dL_law_1253 ?_
  have g51 := jrg (rfl : (xs x50.toNatClampNeg).toInt = (xs x50.toNatClampNeg).toInt)
  refine lv_aload_n hx hb dL_law_1254 rfl (lv_at hl 3 rfl) ?_
  refine lv_iload_n hx hb dL_law_1255 rfl (lv_at hl 0 rfl) ?_
  refine lv_iconst (v := 4) hx hb dL_law_1256 (by decide) ?_
  refine lv_iadd hx hb dL_law_1257 ?_
  refine lv_topi (fun x52 ex52 => ?_)
  have tx52 : x52.toInt = x0.toInt + 4 := (jadd ex52 rfl jz_4 (by omega) (by omega)).trans (by omega)
  refine va_sld hx hb hX hbl hbA hS (jin tx52 (by omega) (by omega)) dL_law_1258 ?_
  have g53 := jrg (rfl : (xs x52.toNatClampNeg).toInt = (xs x52.toNatClampNeg).toInt)
  refine lv_aload_n hx hb dL_law_1259 rfl (lv_at hl 3 rfl) ?_
  refine lv_iload_n hx hb dL_law_1260 rfl (lv_at hl 0 rfl) ?_
  refine lv_iconst (v := 5) hx hb dL_law_1261 (by decide) ?_
  refine lv_iadd hx hb dL_law_1262 ?_
  refine lv_topi (fun x54 ex54 => ?_)
  have tx54 : x54.toInt = x0.toInt + 5 := (jadd ex54 rfl jz_5 (by omega) (by omega)).trans (by omega)
  refine va_sld hx hb hX hbl hbA hS (jin tx54 (by omega) (by omega)) dL_law_1263 ?_
  have g55 := jrg (rfl : (xs x54.toNatClampNeg).toInt = (xs x54.toNatClampNeg).toInt)
  refine jcallV (As := [.int (xs x46.toNatClampNeg), .int (xs x48.toNatClampNeg), .int (xs x50.toNatClampNeg), .int (xs x52.toNatClampNeg), .int (xs x54.toNatClampNeg)]) (rest := []) ⟨hx, hb, hml, hown, hts⟩ hK hP hA hS hZ (c_X11_shift l D cI cL ad zz hJ σ τ (xs x46.toNatClampNeg) ((xs x46.toNatClampNeg).toInt) rfl (xs x48.toNatClampNeg) ((xs x48.toNatClampNeg).toInt) rfl (xs x50.toNatClampNeg) ((xs x50.toNatClampNeg).toInt) rfl (xs x52.toNatClampNeg) ((xs x52.toNatClampNeg).toInt) rfl (xs x54.toNatClampNeg) ((xs x54.toNatClampNeg).toInt) rfl hI50) cw_RL_157 (jc_0 cI cL ad σ τ) rfl ⟨Nat.le_of_ble_eq_true rfl, Nat.le_of_ble_eq_true rfl⟩ rfl rfl rfl hl.1 rfl (Nat.le_of_ble_eq_true rfl) dL_law_1264 ⟨Nat.le_of_ble_eq_true rfl, Nat.le_of_ble_eq_true rfl⟩ (fun r57 σ56 τ56 H locs h56 hP hS => ?_)
  obtain ⟨f61, f58, w59, w60, h56⟩ := h56
  refine lv_pop hx hb dL_law_1267 rfl ?_
  refine lv_aload_n hx hb dL_law_1268 rfl (lv_at hl 1 rfl) ?_
  refine lv_aload_n hx hb dL_law_1269 rfl (lv_at hl 3 rfl) ?_
  refine lv_iload_n hx hb dL_law_1270 rfl (lv_at hl 0 rfl) ?_
  refine lv_iconst (v := 1) hx hb dL_law_1271 (by decide) ?_
  refine lv_iadd hx hb dL_law_1272 ?_
  refine jtopr ex46.symm ?_
  refine va_sld hx hb hX hbl hbA hS (jin tx46 (by omega) (by omega)) dL_law_1273 ?_
  refine lv_aload_n hx hb dL_law_1274 rfl (lv_at hl 3 rfl) ?_
  refine lv_iload_n hx hb dL_law_1275 rfl (lv_at hl 0 rfl) ?_
  refine lv_iconst (v := 2) hx hb dL_law_1276 (by decide) ?_
  refine lv_iadd hx hb dL_law_1277 ?_
  refine jtopr ex48.symm ?_
  refine va_sld hx hb hX hbl hbA hS (jin tx48 (by omega) (by omega)) dL_law_1278 ?_
  refine lv_aload_n hx hb dL_law_1279 rfl (lv_at hl 3 rfl) ?_
  refine lv_iload_n hx hb dL_law_1280 rfl (lv_at hl 0 rfl) ?_
  refine lv_iconst (v := 3) hx hb dL_law_1281 (by decide) ?_
  refine lv_iadd hx hb dL_law_1282 ?_
  refine jtopr ex50.symm ?_
  refine va_sld hx hb hX hbl hbA hS (jin tx50 (by omega) (by omega)) dL_law_1283 ?_
  refine lv_aload_n hx hb dL_law_1284 rfl (lv_at hl 3 rfl) ?_
  refine lv_iload_n hx hb dL_law_1285 rfl (lv_at hl 0 rfl) ?_
  refine lv_iconst (v := 4) hx hb dL_law_1286 (by decide) ?_
  refine lv_iadd hx hb dL_law_1287 ?_
  refine jtopr ex52.symm ?_
  refine va_sld hx hb hX hbl hbA hS (jin tx52 (by omega) (by omega)) dL_law_1288 ?_
  refine lv_aload_n hx hb dL_law_1289 rfl (lv_at hl 3 rfl) ?_
  refine lv_iload_n hx hb dL_law_1290 rfl (lv_at hl 0 rfl) ?_
  refine lv_iconst (v := 5) hx hb dL_law_1291 (by decide) ?_
  refine lv_iadd hx hb dL_law_1292 ?_
  refine jtopr ex54.symm ?_
  refine va_sld hx hb hX hbl hbA hS (jin tx54 (by omega) (by omega)) dL_law_1293 ?_
  have I62 : jI110 σ56 := jI110_fr (f58 86 (by decide)) (f58 87 (by decide)) hI110
  refine jcallV (As := [.int (xs x46.toNatClampNeg), .int (xs x48.toNatClampNeg), .int (xs x50.toNatClampNeg), .int (xs x52.toNatClampNeg), .int (xs x54.toNatClampNeg)]) (rest := []) ⟨hx, hb, hml, hown, hts⟩ hK hP hA hS hZ (c_X12_shift l D cI cL ad zz hJ σ56 τ56 (xs x46.toNatClampNeg) ((xs x46.toNatClampNeg).toInt) rfl (xs x48.toNatClampNeg) ((xs x48.toNatClampNeg).toInt) rfl (xs x50.toNatClampNeg) ((xs x50.toNatClampNeg).toInt) rfl (xs x52.toNatClampNeg) ((xs x52.toNatClampNeg).toInt) rfl (xs x54.toNatClampNeg) ((xs x54.toNatClampNeg).toInt) rfl I62) cw_RL_161 (jc_55 cI cL ad σ56 τ56) rfl ⟨Nat.le_of_ble_eq_true rfl, Nat.le_of_ble_eq_true rfl⟩ rfl rfl rfl hl.1 rfl (Nat.le_of_ble_eq_true rfl) dL_law_1294 ⟨Nat.le_of_ble_eq_true rfl, Nat.le_of_ble_eq_true rfl⟩ (fun r64 σ63 τ63 H locs h63 hP hS => ?_)
  obtain ⟨f68, f65, w66, w67, h63⟩ := h63
  refine lv_pop hx hb dL_law_1297 rfl ?_
  refine lv_goto (tgt := 1357) hx hb dL_law_1298 (by decide) ?_
  obtain ⟨x69, ex69⟩ : ∃ y : Int32, y = x0 + 6 := ⟨_, rfl⟩
  have tx69 : x69.toInt = x0.toInt + 6 := (jadd ex69 rfl jz_6 (by omega) (by omega)).trans (by omega)
  refine lv_iinc (v := x69) (lv' := [(3, .int x69), (2, .ref (ad 55)), (1, .ref (ad 0)), (0, .ref b)]) hx hb dL_law_1357 hl (k := 0) rfl (by rw [ex69]; rfl) (by decide) rfl (fun ls hl => ?_)
  refine lv_goto (tgt := 18) hx hb dL_law_1360 (by decide) ?_
  have I70 : jI2 σ63 := jI2_fr ((congrFun (f65 2 (by decide)) 0).trans (congrFun (f58 2 (by decide)) 0)) ((congrFun (f65 2 (by decide)) 1).trans (congrFun (f58 2 (by decide)) 1)) ((congrFun (f65 2 (by decide)) 2).trans (congrFun (f58 2 (by decide)) 2)) ((congrFun (f65 2 (by decide)) 3).trans (congrFun (f58 2 (by decide)) 3)) ((f65 6 (by decide)).trans (f58 6 (by decide))) hI2
  have I71 : jI9 σ63 := jI9_fr ((congrFun (f65 9 (by decide)) 0).trans (congrFun (f58 9 (by decide)) 0)) ((f65 10 (by decide)).trans (f58 10 (by decide))) ((f65 11 (by decide)).trans (f58 11 (by decide))) hI9
  have I72 : jI12 σ63 := jI12_fr ((congrFun (f65 12 (by decide)) 0).trans (congrFun (f58 12 (by decide)) 0)) ((f65 13 (by decide)).trans (f58 13 (by decide))) hI12
  have I73 : jI16 σ63 := jI16_fr ((congrFun (f65 16 (by decide)) 0).trans (congrFun (f58 16 (by decide)) 0)) ((congrFun (f65 16 (by decide)) 1).trans (congrFun (f58 16 (by decide)) 1)) ((congrFun (f65 16 (by decide)) 2).trans (congrFun (f58 16 (by decide)) 2)) ((f65 17 (by decide)).trans (f58 17 (by decide))) hI16
  have I74 : jI18 σ63 := jI18_fr ((congrFun (f65 18 (by decide)) 0).trans (congrFun (f58 18 (by decide)) 0)) ((f65 19 (by decide)).trans (f58 19 (by decide))) hI18
  have I75 : jI22 σ63 := jI22_fr ((congrFun (f65 22 (by decide)) 0).trans (congrFun (f58 22 (by decide)) 0)) ((f65 23 (by decide)).trans (f58 23 (by decide))) hI22
  have I76 : jI31 σ63 := jI31_fr ((congrFun (f65 31 (by decide)) 8).trans (congrFun (f58 31 (by decide)) 8)) ((f65 33 (by decide)).trans (f58 33 (by decide))) ((f65 36 (by decide)).trans (f58 36 (by decide))) hI31
  have I77 : jI38 σ63 := jI38_fr ((congrFun (f65 38 (by decide)) 0).trans (congrFun (f58 38 (by decide)) 0)) ((congrFun (f65 38 (by decide)) 1).trans (congrFun (f58 38 (by decide)) 1)) ((f65 39 (by decide)).trans (f58 39 (by decide))) hI38
  have I78 : jI43 σ63 := jI43_fr ((congrFun (f65 43 (by decide)) 8).trans (congrFun (f58 43 (by decide)) 8)) hI43
  have I79 : jI47 σ63 := jI47_fr ((congrFun (f65 47 (by decide)) 0).trans (congrFun (f58 47 (by decide)) 0)) ((f65 48 (by decide)).trans (f58 48 (by decide))) ((f65 49 (by decide)).trans (f58 49 (by decide))) hI47
  have I80 : jI50 σ63 := jI50_fr ((f65 52 (by decide)).trans (f58 52 (by decide))) hI50
  have I81 : jI101 σ63 := jI101_fr ((congrFun (f65 55 (by decide)) 4).trans (congrFun (f58 55 (by decide)) 4)) ((congrFun (f65 55 (by decide)) 5).trans (congrFun (f58 55 (by decide)) 5)) ((f65 56 (by decide)).trans (f58 56 (by decide))) ((f65 57 (by decide)).trans (f58 57 (by decide))) ((f65 58 (by decide)).trans (f58 58 (by decide))) ((f65 59 (by decide)).trans (f58 59 (by decide))) hI101
  have I82 : jI102 σ63 := jI102_fr ((congrFun (f65 55 (by decide)) 6).trans (congrFun (f58 55 (by decide)) 6)) ((f65 60 (by decide)).trans (f58 60 (by decide))) ((f65 61 (by decide)).trans (f58 61 (by decide))) hI102
  have I83 : jI103 σ63 := jI103_fr ((congrFun (f65 55 (by decide)) 9).trans (congrFun (f58 55 (by decide)) 9)) hI103
  have I84 : jI104 σ63 := jI104_fr ((congrFun (f65 55 (by decide)) 10).trans (congrFun (f58 55 (by decide)) 10)) ((congrFun (f65 55 (by decide)) 12).trans (congrFun (f58 55 (by decide)) 12)) ((congrFun (f65 55 (by decide)) 13).trans (congrFun (f58 55 (by decide)) 13)) ((f65 62 (by decide)).trans (f58 62 (by decide))) ((f65 67 (by decide)).trans (f58 67 (by decide))) hI104
  have I85 : jI105 σ63 := jI105_fr ((congrFun (f65 55 (by decide)) 15).trans (congrFun (f58 55 (by decide)) 15)) ((f65 65 (by decide)).trans (f58 65 (by decide))) hI105
  have I86 : jI106 σ63 := jI106_fr ((congrFun (f65 55 (by decide)) 32).trans (congrFun (f58 55 (by decide)) 32)) ((f65 70 (by decide)).trans (f58 70 (by decide))) ((f65 71 (by decide)).trans (f58 71 (by decide))) ((f65 72 (by decide)).trans (f58 72 (by decide))) hI106
  have I87 : jI107 σ63 := jI107_fr ((congrFun (f65 55 (by decide)) 12).trans (congrFun (f58 55 (by decide)) 12)) ((congrFun (f65 55 (by decide)) 47).trans (congrFun (f58 55 (by decide)) 47)) ((f65 80 (by decide)).trans (f58 80 (by decide))) hI107
  have I88 : jI109 σ63 := jI109_fr ((congrFun (f65 55 (by decide)) 50).trans (congrFun (f58 55 (by decide)) 50)) hI109
  have I89 : jI110 σ63 := jI110_fr (f65 86 (by decide)) (f65 87 (by decide)) I62
  have I90 : jI111 σ63 := jI111_fr ((f65 79 (by decide)).trans (f58 79 (by decide))) hI111
  have I91 : jI119 σ63 := jI119_fr ((f65 68 (by decide)).trans (f58 68 (by decide))) hI119
  have p92 : jKept σ63 := jKept.fr ((f65 75 (by decide)).trans (f58 75 (by decide))) ((f65 76 (by decide)).trans (f58 76 (by decide))) ((f65 77 (by decide)).trans (f58 77 (by decide))) hs_jKept
  have p93 : jBook σ63 := jBook.fr ((congrFun (f65 55 (by decide)) 47).trans (congrFun (f58 55 (by decide)) 47)) ((congrFun (f65 55 (by decide)) 10).trans (congrFun (f58 55 (by decide)) 10)) ((f65 81 (by decide)).trans (f58 81 (by decide))) hs_jBook
  have z94 : (σ63 2 0).toInt = (σ 2 0).toInt := (congrArg Int32.toInt (show σ63 2 0 = (σ 2 0) from ((congrFun (f65 2 (by decide)) 0).trans (congrFun (f58 2 (by decide)) 0))))
  have z95 : (σ63 55 6).toInt = (σ 55 6).toInt := (congrArg Int32.toInt (show σ63 55 6 = (σ 55 6) from ((congrFun (f65 55 (by decide)) 6).trans (congrFun (f58 55 (by decide)) 6))))
  have z96 : (σ63 2 2).toInt = (σ 2 2).toInt := (congrArg Int32.toInt (show σ63 2 2 = (σ 2 2) from ((congrFun (f65 2 (by decide)) 2).trans (congrFun (f58 2 (by decide)) 2))))
  have z97 : (σ63 55 5).toInt = (σ 55 5).toInt := (congrArg Int32.toInt (show σ63 55 5 = (σ 55 5) from ((congrFun (f65 55 (by decide)) 5).trans (congrFun (f58 55 (by decide)) 5))))
  have z98 : (σ63 2 3).toInt = (σ 2 3).toInt := (congrArg Int32.toInt (show σ63 2 3 = (σ 2 3) from ((congrFun (f65 2 (by decide)) 3).trans (congrFun (f58 2 (by decide)) 3))))
  have z99 : (σ63 55 4).toInt = (σ 55 4).toInt := (congrArg Int32.toInt (show σ63 55 4 = (σ 55 4) from ((congrFun (f65 55 (by decide)) 4).trans (congrFun (f58 55 (by decide)) 4))))
  have z100 : (σ63 9 0).toInt = (σ 9 0).toInt := (congrArg Int32.toInt (show σ63 9 0 = (σ 9 0) from ((congrFun (f65 9 (by decide)) 0).trans (congrFun (f58 9 (by decide)) 0))))
  have z101 : (σ63 55 15).toInt = (σ 55 15).toInt := (congrArg Int32.toInt (show σ63 55 15 = (σ 55 15) from ((congrFun (f65 55 (by decide)) 15).trans (congrFun (f58 55 (by decide)) 15))))
  have z102 : (σ63 16 0).toInt = (σ 16 0).toInt := (congrArg Int32.toInt (show σ63 16 0 = (σ 16 0) from ((congrFun (f65 16 (by decide)) 0).trans (congrFun (f58 16 (by decide)) 0))))
  have z103 : (σ63 55 10).toInt = (σ 55 10).toInt := (congrArg Int32.toInt (show σ63 55 10 = (σ 55 10) from ((congrFun (f65 55 (by decide)) 10).trans (congrFun (f58 55 (by decide)) 10))))
  have z104 : (σ63 16 1).toInt = (σ 16 1).toInt := (congrArg Int32.toInt (show σ63 16 1 = (σ 16 1) from ((congrFun (f65 16 (by decide)) 1).trans (congrFun (f58 16 (by decide)) 1))))
  have z105 : (σ63 55 12).toInt = (σ 55 12).toInt := (congrArg Int32.toInt (show σ63 55 12 = (σ 55 12) from ((congrFun (f65 55 (by decide)) 12).trans (congrFun (f58 55 (by decide)) 12))))
  have z106 : (σ63 16 2).toInt = (σ 16 2).toInt := (congrArg Int32.toInt (show σ63 16 2 = (σ 16 2) from ((congrFun (f65 16 (by decide)) 2).trans (congrFun (f58 16 (by decide)) 2))))
  have z107 : (σ63 55 13).toInt = (σ 55 13).toInt := (congrArg Int32.toInt (show σ63 55 13 = (σ 55 13) from ((congrFun (f65 55 (by decide)) 13).trans (congrFun (f58 55 (by decide)) 13))))
  have z108 : (σ63 38 0).toInt = (σ 38 0).toInt := (congrArg Int32.toInt (show σ63 38 0 = (σ 38 0) from ((congrFun (f65 38 (by decide)) 0).trans (congrFun (f58 38 (by decide)) 0))))
  have z109 : (σ63 55 32).toInt = (σ 55 32).toInt := (congrArg Int32.toInt (show σ63 55 32 = (σ 55 32) from ((congrFun (f65 55 (by decide)) 32).trans (congrFun (f58 55 (by decide)) 32))))
  have z110 : (σ63 47 0).toInt = (σ 47 0).toInt := (congrArg Int32.toInt (show σ63 47 0 = (σ 47 0) from ((congrFun (f65 47 (by decide)) 0).trans (congrFun (f58 47 (by decide)) 0))))
  have z111 : (σ63 55 47).toInt = (σ 55 47).toInt := (congrArg Int32.toInt (show σ63 55 47 = (σ 55 47) from ((congrFun (f65 55 (by decide)) 47).trans (congrFun (f58 55 (by decide)) 47))))
  have z112 : (σ63 55 30).toInt = (σ 55 30).toInt := (congrArg Int32.toInt (show σ63 55 30 = (σ 55 30) from ((congrFun (f65 55 (by decide)) 30).trans (congrFun (f58 55 (by decide)) 30))))
  have z113 : (σ63 55 31).toInt = (σ 55 31).toInt := (congrArg Int32.toInt (show σ63 55 31 = (σ 55 31) from ((congrFun (f65 55 (by decide)) 31).trans (congrFun (f58 55 (by decide)) 31))))
  rw [show τ56 88 = τ 88 from (f61 88 (by decide))] at w67
  have s115 := w66
  rw [show σ56 86 = σ 86 from (f58 86 (by decide)), show σ56 87 = σ 87 from (f58 87 (by decide))] at s115
  have p114 := hr5.move w20 w60 w67 (w59.trans (hr4.sf.trans s115.symm)) rfl rfl rfl rfl rfl (fun z => hr4.mvok w59 z)
  exact ih x69 σ63 τ63 _ _ ls (by have h9 := tx69; omega) ⟨I70, I71, I72, I73, I74, I75, I76, I77, I78, I79, I80, I81, I82, I83, I84, I85, I86, I87, I88, I89, I90, I91, p92, p93, (by omega), (by omega), (by omega), (by omega), (by omega), (by omega), (by omega), (by omega), (by omega), (by omega), (by omega), (show jNumP (σ63 3) (σ63 56) (σ63 6) (σ63 57) (σ63 7) (σ63 58) (σ63 8) (σ63 59) (σ63 55 6).toInt (σ63 55 4).toInt by rw [show σ63 3 = σ 3 from ((f65 3 (by decide)).trans (f58 3 (by decide))), show σ63 56 = σ 56 from ((f65 56 (by decide)).trans (f58 56 (by decide))), show σ63 6 = σ 6 from ((f65 6 (by decide)).trans (f58 6 (by decide))), show σ63 57 = σ 57 from ((f65 57 (by decide)).trans (f58 57 (by decide))), show σ63 7 = σ 7 from ((f65 7 (by decide)).trans (f58 7 (by decide))), show σ63 58 = σ 58 from ((f65 58 (by decide)).trans (f58 58 (by decide))), show σ63 8 = σ 8 from ((f65 8 (by decide)).trans (f58 8 (by decide))), show σ63 59 = σ 59 from ((f65 59 (by decide)).trans (f58 59 (by decide))), show (σ63 55 6).toInt = (σ 55 6).toInt from by omega, show (σ63 55 4).toInt = (σ 55 4).toInt from by omega]; exact hr0), (show jOvP (σ63 56) (σ63 57) (σ63 58) (σ63 59) (σ63 55 4).toInt by rw [show σ63 56 = σ 56 from ((f65 56 (by decide)).trans (f58 56 (by decide))), show σ63 57 = σ 57 from ((f65 57 (by decide)).trans (f58 57 (by decide))), show σ63 58 = σ 58 from ((f65 58 (by decide)).trans (f58 58 (by decide))), show σ63 59 = σ 59 from ((f65 59 (by decide)).trans (f58 59 (by decide))), show (σ63 55 4).toInt = (σ 55 4).toInt from by omega]; exact hr1), (show jTp (σ63 10) (σ63 63) (σ63 55 15).toInt by rw [show σ63 10 = σ 10 from ((f65 10 (by decide)).trans (f58 10 (by decide))), show σ63 63 = σ 63 from ((f65 63 (by decide)).trans (f58 63 (by decide)))]; exact hr2.le (by omega)), (show jSo (σ63 17) (σ63 62) (σ63 16 0).toInt by rw [show σ63 17 = σ 17 from ((f65 17 (by decide)).trans (f58 17 (by decide))), show σ63 62 = σ 62 from ((f65 62 (by decide)).trans (f58 62 (by decide))), show (σ63 16 0).toInt = (σ 16 0).toInt from by omega]; exact hr3), (show jShP (σ63 51) (σ63 52) (σ63 53) (σ63 86) (σ63 87) (σ63 55 32).toInt by rw [show σ63 51 = σ 51 from ((f65 51 (by decide)).trans (f58 51 (by decide))), show σ63 52 = σ 52 from ((f65 52 (by decide)).trans (f58 52 (by decide))), show σ63 53 = σ 53 from ((f65 53 (by decide)).trans (f58 53 (by decide))), show σ63 86 = σ 86 from ((f65 86 (by decide)).trans (f58 86 (by decide))), show σ63 87 = σ 87 from ((f65 87 (by decide)).trans (f58 87 (by decide)))]; exact (hr4.up (by omega) (by omega))), (show jEl (σ63 51) (σ63 52) (τ63 54) (τ63 88) by rw [show σ63 51 = σ 51 from ((f65 51 (by decide)).trans (f58 51 (by decide))), show σ63 52 = σ 52 from ((f65 52 (by decide)).trans (f58 52 (by decide))), show τ63 54 = τ56 54 from (f68 54 (by decide))]; exact p114), (show jByP (σ63 51) (σ63 52) (τ63 54) by rw [show σ63 51 = σ 51 from ((f65 51 (by decide)).trans (f58 51 (by decide))), show σ63 52 = σ 52 from ((f65 52 (by decide)).trans (f58 52 (by decide))), show τ63 54 = τ56 54 from (f68 54 (by decide))]; exact (hr6.move (d := (xs x46.toNatClampNeg).toInt) (i := (xs x48.toNatClampNeg).toInt) (e := (xs x50.toNatClampNeg).toInt) (j := (xs x52.toNatClampNeg).toInt) w20 w60 rfl rfl (fun z => hr4.mvok w59 z) (fun z => hr4.mvs w59 z))), (show jBk (σ63 48) (σ63 80) (σ63 49) (σ63 81) (σ63 55 47).toInt by rw [show σ63 48 = σ 48 from ((f65 48 (by decide)).trans (f58 48 (by decide))), show σ63 49 = σ 49 from ((f65 49 (by decide)).trans (f58 49 (by decide))), show σ63 80 = σ 80 from ((f65 80 (by decide)).trans (f58 80 (by decide))), show σ63 81 = σ 81 from ((f65 81 (by decide)).trans (f58 81 (by decide))), show (σ63 55 47).toInt = (σ 55 47).toInt from by omega]; exact hr7)⟩ hP hS (lv_sub hl [0, 1, 2, 3] rfl)
set_option maxHeartbeats 4000000 in
set_option maxRecDepth 100000 in
theorem law_case_35 {p : Program} {e : Env} {s : State} {m : MethodId} {below : List Frame} {meth : Method} {c : Code} (l : Launch) {b L : Nat} {xs : Nat → Int32} {D : va_G} {cI cL : ClassId} {ad zz : Nat → Nat} (C0 : lw_At p s m meth c b L xs) (hJ : jD ad) (hA : ∀ q, jA ad q → s.heap.size ≤ q) (hK : jK D cI cL s) (hZ : jZ zz (fun q : Nat => s.heap.size ≤ q) s s.heap) {x0 : Int32} (hx0 : 0 ≤ x0.toInt) (hxL : x0.toInt + 6 ≤ (L : Int)) (hL : L ≤ 384) {σ : Nat → Nat → Int32} {τ : Nat → Nat → Int64} {H : Heap} {locs : List Loc} (hS : va_S (fun q : Nat => s.heap.size ≤ q) s.heap H locs) {ls : Array Slot} (hAll : jAll σ τ) (hP : jH D cI cL ad σ τ H) (hl : lv_has ls 4 [(3, .int x0), (2, .ref (ad 55)), (1, .ref (ad 0)), (0, .ref b)]) (ih : ∀ (x1 : Int32) (σ : Nat → Nat → Int32) (τ : Nat → Nat → Int64) (H : Heap) (locs : List Loc) (ls : Array Slot), x1.toInt = x0.toInt + 6 → jAll σ τ → jH D cI cL ad σ τ H → va_S (fun q : Nat => s.heap.size ≤ q) s.heap H locs → lv_has ls 4 [(3, .int x1), (2, .ref (ad 55)), (1, .ref (ad 0)), (0, .ref b)] → W p l e room_1 s m #[Value.ref b] below meth c H locs 90 348600 (lw_Z below #[Value.ref b] s) (F0 m 18 ls [])) : W p l e room_1 s m #[Value.ref b] below meth c H locs 90 348600 (lw_Z below #[Value.ref b] s) (F0 m 1301 ls []) := by
  obtain ⟨hx, hb, hr, hml, hown, hts0, hX, hbl, hlocks, hgv⟩ := C0
  have hts : ∀ w ∈ wsL_law, w.before #[Value.ref b] s = true := fun w h => hts0 w (wsL_law_in w h)
  have hbA : ¬ (fun q : Nat => s.heap.size ≤ q) b := Nat.not_le.mpr hbl
  have hown : s.vm.findClass RL = some m.cls := hown
  obtain ⟨hI2, hI9, hI12, hI16, hI18, hI22, hI31, hI38, hI43, hI47, hI50, hI101, hI102, hI103, hI104, hI105, hI106, hI107, hI109, hI110, hI111, hI119, hs_jKept, hs_jBook, ht0, ht1, ht2, ht3, ht4, ht5, ht6, ht7, ht8, ht9, ht10, hr0, hr1, hr2, hr3, hr4, hr5, hr6, hr7⟩ := hAll
  have hL9 : (L : Int) ≤ 384 := by omega
  obtain ⟨i1, i2, i3, i4, i5, w6⟩ : (0 ≤ (σ 2 0).toInt ∧ (σ 2 0).toInt ≤ 4) ∧ (0 ≤ (σ 2 1).toInt ∧ (σ 2 1).toInt ≤ 3) ∧ (0 ≤ (σ 2 2).toInt) ∧ (0 ≤ (σ 2 3).toInt) ∧ ((σ 2 2).toInt + (σ 2 3).toInt ≤ 40) ∧ (∀ k : Nat, k < 40 → 0 ≤ (σ 6 k).toInt ∧ (σ 6 k).toInt ≤ 67) := id hI2
  obtain ⟨i7, w8, w9⟩ : (0 ≤ (σ 9 0).toInt ∧ (σ 9 0).toInt ≤ 80) ∧ (∀ k : Nat, k < 80 → 0 ≤ (σ 10 k).toInt ∧ (σ 10 k).toInt ≤ 255) ∧ (∀ k : Nat, k < 8 → 0 ≤ (σ 11 k).toInt ∧ (σ 11 k).toInt ≤ 3) := id hI9
  obtain ⟨i10, i11, i12, w13⟩ : (1 ≤ (σ 16 0).toInt ∧ (σ 16 0).toInt ≤ 8) ∧ (1 ≤ (σ 16 1).toInt ∧ (σ 16 1).toInt ≤ 12) ∧ (0 ≤ (σ 16 2).toInt ∧ (σ 16 2).toInt ≤ 999) ∧ (∀ k : Nat, k < 8 → 0 ≤ (σ 17 k).toInt ∧ (σ 17 k).toInt ≤ 3) := id hI16
  obtain ⟨i14, i15, w16⟩ : (0 ≤ (σ 38 0).toInt ∧ (σ 38 0).toInt ≤ 20) ∧ (0 ≤ (σ 38 1).toInt ∧ (σ 38 1).toInt ≤ 1000) ∧ (∀ k : Nat, k < 20 → 0 ≤ (σ 39 k).toInt ∧ (σ 39 k).toInt ≤ 6) := id hI38
  obtain ⟨i17, w18, w19⟩ : (0 ≤ (σ 47 0).toInt ∧ (σ 47 0).toInt ≤ 12) ∧ (∀ k : Nat, k < 12 → 0 ≤ (σ 48 k).toInt ∧ (σ 48 k).toInt ≤ 3) ∧ (∀ k : Nat, k < 12 → 0 ≤ (σ 49 k).toInt ∧ (σ 49 k).toInt ≤ 1) := id hI47
  have w20 : ∀ k : Nat, k < 6 → 0 ≤ (σ 52 k).toInt ∧ (σ 52 k).toInt ≤ 60 := hI50
  obtain ⟨i21, i22, i23, w24, w25, w26, w27⟩ : (0 ≤ (σ 55 5).toInt) ∧ ((σ 55 5).toInt ≤ (σ 55 4).toInt) ∧ ((σ 55 4).toInt ≤ 40) ∧ (∀ k : Nat, k < 68 → (-200) ≤ (σ 56 k).toInt ∧ (σ 56 k).toInt ≤ 500) ∧ (∀ k : Nat, k < 40 → 0 ≤ (σ 57 k).toInt ∧ (σ 57 k).toInt ≤ 67) ∧ (∀ k : Nat, k < 40 → (-200) ≤ (σ 58 k).toInt ∧ (σ 58 k).toInt ≤ 500) ∧ (∀ k : Nat, k < 40 → (-200) ≤ (σ 59 k).toInt ∧ (σ 59 k).toInt ≤ 500) := id hI101
  obtain ⟨i28, w29, w30⟩ : (0 ≤ (σ 55 6).toInt ∧ (σ 55 6).toInt ≤ 4) ∧ (∀ k : Nat, k < 4 → 0 ≤ (σ 60 k).toInt ∧ (σ 60 k).toInt ≤ 50) ∧ (∀ k : Nat, k < 4 → 0 ≤ (σ 61 k).toInt ∧ (σ 61 k).toInt ≤ 20) := id hI102
  obtain ⟨i31, i32, i33, w34, w35⟩ : (1 ≤ (σ 55 10).toInt ∧ (σ 55 10).toInt ≤ 8) ∧ (1 ≤ (σ 55 12).toInt ∧ (σ 55 12).toInt ≤ 12) ∧ (0 ≤ (σ 55 13).toInt ∧ (σ 55 13).toInt ≤ 999) ∧ (∀ k : Nat, k < 8 → 0 ≤ (σ 62 k).toInt ∧ (σ 62 k).toInt ≤ 3) ∧ (∀ k : Nat, k < 8 → 0 ≤ (σ 67 k).toInt ∧ (σ 67 k).toInt ≤ 3) := id hI104
  obtain ⟨i36, w37⟩ : (0 ≤ (σ 55 15).toInt ∧ (σ 55 15).toInt ≤ 80) ∧ (∀ k : Nat, k < 2 → (-1) ≤ (σ 65 k).toInt ∧ (σ 65 k).toInt ≤ 80) := id hI105
  obtain ⟨i38, w39, w40, w41⟩ : (0 ≤ (σ 55 32).toInt ∧ (σ 55 32).toInt ≤ 20) ∧ (∀ k : Nat, k < 20 → 0 ≤ (σ 70 k).toInt ∧ (σ 70 k).toInt ≤ 6) ∧ (∀ k : Nat, k < 20 → 0 ≤ (σ 71 k).toInt ∧ (σ 71 k).toInt ≤ 8) ∧ (∀ k : Nat, k < 160 → 0 ≤ (σ 72 k).toInt ∧ (σ 72 k).toInt ≤ 3) := id hI106
  obtain ⟨i42, i43, w44⟩ : (0 ≤ (σ 55 47).toInt ∧ (σ 55 47).toInt ≤ 12) ∧ ((σ 55 47).toInt ≤ (σ 55 12).toInt) ∧ (∀ k : Nat, k < 12 → 0 ≤ (σ 80 k).toInt ∧ (σ 80 k).toInt ≤ 3) := id hI107
  refine lv_aload_n hx hb dL_law_1301 rfl (lv_at hl 2 rfl) ?_
  refine lv_aload_n hx hb dL_law_1302 rfl (lv_at hl 3 rfl) ?_
  refine lv_iload_n hx hb dL_law_1303 rfl (lv_at hl 0 rfl) ?_
  refine lv_iconst (v := 1) hx hb dL_law_1304 (by decide) ?_
  have g45 := jrg (rfl : x0.toInt = x0.toInt)
  refine lv_iadd hx hb dL_law_1305 ?_
  refine lv_topi (fun x46 ex46 => ?_)
  have tx46 : x46.toInt = x0.toInt + 1 := (jadd ex46 rfl jz_1 (by omega) (by omega)).trans (by omega)
  refine va_sld hx hb hX hbl hbA hS (jin tx46 (by omega) (by omega)) dL_law_1306 ?_
  have g47 := jrg (rfl : (xs x46.toNatClampNeg).toInt = (xs x46.toNatClampNeg).toInt)
  refine lv_aload_n hx hb dL_law_1307 rfl (lv_at hl 3 rfl) ?_
  refine lv_iload_n hx hb dL_law_1308 rfl (lv_at hl 0 rfl) ?_
  refine lv_iconst (v := 2) hx hb dL_law_1309 (by decide) ?_
  refine lv_iadd hx hb dL_law_1310 ?_
  refine lv_topi (fun x48 ex48 => ?_)
  have tx48 : x48.toInt = x0.toInt + 2 := (jadd ex48 rfl jz_2 (by omega) (by omega)).trans (by omega)
  refine va_sld hx hb hX hbl hbA hS (jin tx48 (by omega) (by omega)) dL_law_1311 ?_
  have g49 := jrg (rfl : (xs x48.toNatClampNeg).toInt = (xs x48.toNatClampNeg).toInt)
  refine jcallV (As := [.int (xs x46.toNatClampNeg), .int (xs x48.toNatClampNeg)]) (rest := []) ⟨hx, hb, hml, hown, hts⟩ hK hP hA hS hZ (c_X11_taken l D cI cL ad zz hJ σ τ (xs x46.toNatClampNeg) ((xs x46.toNatClampNeg).toInt) rfl (xs x48.toNatClampNeg) ((xs x48.toNatClampNeg).toInt) rfl hI38) cw_RL_162 (jc_0 cI cL ad σ τ) rfl ⟨Nat.le_of_ble_eq_true rfl, Nat.le_of_ble_eq_true rfl⟩ rfl rfl rfl hl.1 rfl (Nat.le_of_ble_eq_true rfl) dL_law_1312 ⟨Nat.le_of_ble_eq_true rfl, Nat.le_of_ble_eq_true rfl⟩ (fun r51 σ50 τ50 H locs h50 hP hS => ?_)
  obtain ⟨⟨rfl, rfl⟩, w52, h50⟩ := h50
  refine lv_pop hx hb dL_law_1315 rfl ?_
  refine lv_aload_n hx hb dL_law_1316 rfl (lv_at hl 1 rfl) ?_
  refine lv_aload_n hx hb dL_law_1317 rfl (lv_at hl 3 rfl) ?_
  refine lv_iload_n hx hb dL_law_1318 rfl (lv_at hl 0 rfl) ?_
  refine lv_iconst (v := 1) hx hb dL_law_1319 (by decide) ?_
  refine lv_iadd hx hb dL_law_1320 ?_
  refine jtopr ex46.symm ?_
  refine va_sld hx hb hX hbl hbA hS (jin tx46 (by omega) (by omega)) dL_law_1321 ?_
  refine lv_aload_n hx hb dL_law_1322 rfl (lv_at hl 3 rfl) ?_
  refine lv_iload_n hx hb dL_law_1323 rfl (lv_at hl 0 rfl) ?_
  refine lv_iconst (v := 2) hx hb dL_law_1324 (by decide) ?_
  refine lv_iadd hx hb dL_law_1325 ?_
  refine jtopr ex48.symm ?_
  refine va_sld hx hb hX hbl hbA hS (jin tx48 (by omega) (by omega)) dL_law_1326 ?_
  refine jcallV (As := [.int (xs x46.toNatClampNeg), .int (xs x48.toNatClampNeg)]) (rest := []) ⟨hx, hb, hml, hown, hts⟩ hK hP hA hS hZ (c_X12_taken l D cI cL ad zz hJ σ τ (xs x46.toNatClampNeg) ((xs x46.toNatClampNeg).toInt) rfl (xs x48.toNatClampNeg) ((xs x48.toNatClampNeg).toInt) rfl hI106 hI110) cw_RL_165 (jc_55 cI cL ad σ τ) rfl ⟨Nat.le_of_ble_eq_true rfl, Nat.le_of_ble_eq_true rfl⟩ rfl rfl rfl hl.1 rfl (Nat.le_of_ble_eq_true rfl) dL_law_1327 ⟨Nat.le_of_ble_eq_true rfl, Nat.le_of_ble_eq_true rfl⟩ (fun r54 σ53 τ53 H locs h53 hP hS => ?_)
  obtain ⟨⟨rfl, rfl⟩, w55, h53⟩ := h53
  refine lv_pop hx hb dL_law_1330 rfl ?_
  refine lv_goto (tgt := 1357) hx hb dL_law_1331 (by decide) ?_
  obtain ⟨x56, ex56⟩ : ∃ y : Int32, y = x0 + 6 := ⟨_, rfl⟩
  have tx56 : x56.toInt = x0.toInt + 6 := (jadd ex56 rfl jz_6 (by omega) (by omega)).trans (by omega)
  refine lv_iinc (v := x56) (lv' := [(3, .int x56), (2, .ref (ad 55)), (1, .ref (ad 0)), (0, .ref b)]) hx hb dL_law_1357 hl (k := 0) rfl (by rw [ex56]; rfl) (by decide) rfl (fun ls hl => ?_)
  refine lv_goto (tgt := 18) hx hb dL_law_1360 (by decide) ?_
  exact ih x56 σ τ _ _ ls (by have h9 := tx56; omega) ⟨hI2, hI9, hI12, hI16, hI18, hI22, hI31, hI38, hI43, hI47, hI50, hI101, hI102, hI103, hI104, hI105, hI106, hI107, hI109, hI110, hI111, hI119, hs_jKept, hs_jBook, (by omega), (by omega), (by omega), (by omega), (by omega), (by omega), (by omega), (by omega), (by omega), (by omega), (by omega), hr0, hr1, hr2, hr3, hr4, hr5, hr6, hr7⟩ hP hS (lv_sub hl [0, 1, 2, 3] rfl)
set_option maxHeartbeats 4000000 in
set_option maxRecDepth 100000 in
theorem law_case_36 {p : Program} {e : Env} {s : State} {m : MethodId} {below : List Frame} {meth : Method} {c : Code} (l : Launch) {b L : Nat} {xs : Nat → Int32} {D : va_G} {cI cL : ClassId} {ad zz : Nat → Nat} (C0 : lw_At p s m meth c b L xs) (hJ : jD ad) (hA : ∀ q, jA ad q → s.heap.size ≤ q) (hK : jK D cI cL s) (hZ : jZ zz (fun q : Nat => s.heap.size ≤ q) s s.heap) {x0 : Int32} (hx0 : 0 ≤ x0.toInt) (hxL : x0.toInt + 6 ≤ (L : Int)) (hL : L ≤ 384) {σ : Nat → Nat → Int32} {τ : Nat → Nat → Int64} {H : Heap} {locs : List Loc} (hS : va_S (fun q : Nat => s.heap.size ≤ q) s.heap H locs) {ls : Array Slot} (hAll : jAll σ τ) (hP : jH D cI cL ad σ τ H) (hl : lv_has ls 4 [(3, .int x0), (2, .ref (ad 55)), (1, .ref (ad 0)), (0, .ref b)]) (ih : ∀ (x1 : Int32) (σ : Nat → Nat → Int32) (τ : Nat → Nat → Int64) (H : Heap) (locs : List Loc) (ls : Array Slot), x1.toInt = x0.toInt + 6 → jAll σ τ → jH D cI cL ad σ τ H → va_S (fun q : Nat => s.heap.size ≤ q) s.heap H locs → lv_has ls 4 [(3, .int x1), (2, .ref (ad 55)), (1, .ref (ad 0)), (0, .ref b)] → W p l e room_1 s m #[Value.ref b] below meth c H locs 90 348600 (lw_Z below #[Value.ref b] s) (F0 m 18 ls [])) : W p l e room_1 s m #[Value.ref b] below meth c H locs 90 348600 (lw_Z below #[Value.ref b] s) (F0 m 1334 ls []) := by
  obtain ⟨hx, hb, hr, hml, hown, hts0, hX, hbl, hlocks, hgv⟩ := C0
  have hts : ∀ w ∈ wsL_law, w.before #[Value.ref b] s = true := fun w h => hts0 w (wsL_law_in w h)
  have hbA : ¬ (fun q : Nat => s.heap.size ≤ q) b := Nat.not_le.mpr hbl
  have hown : s.vm.findClass RL = some m.cls := hown
  obtain ⟨hI2, hI9, hI12, hI16, hI18, hI22, hI31, hI38, hI43, hI47, hI50, hI101, hI102, hI103, hI104, hI105, hI106, hI107, hI109, hI110, hI111, hI119, hs_jKept, hs_jBook, ht0, ht1, ht2, ht3, ht4, ht5, ht6, ht7, ht8, ht9, ht10, hr0, hr1, hr2, hr3, hr4, hr5, hr6, hr7⟩ := hAll
  have hL9 : (L : Int) ≤ 384 := by omega
  obtain ⟨i1, i2, i3, i4, i5, w6⟩ : (0 ≤ (σ 2 0).toInt ∧ (σ 2 0).toInt ≤ 4) ∧ (0 ≤ (σ 2 1).toInt ∧ (σ 2 1).toInt ≤ 3) ∧ (0 ≤ (σ 2 2).toInt) ∧ (0 ≤ (σ 2 3).toInt) ∧ ((σ 2 2).toInt + (σ 2 3).toInt ≤ 40) ∧ (∀ k : Nat, k < 40 → 0 ≤ (σ 6 k).toInt ∧ (σ 6 k).toInt ≤ 67) := id hI2
  obtain ⟨i7, w8, w9⟩ : (0 ≤ (σ 9 0).toInt ∧ (σ 9 0).toInt ≤ 80) ∧ (∀ k : Nat, k < 80 → 0 ≤ (σ 10 k).toInt ∧ (σ 10 k).toInt ≤ 255) ∧ (∀ k : Nat, k < 8 → 0 ≤ (σ 11 k).toInt ∧ (σ 11 k).toInt ≤ 3) := id hI9
  obtain ⟨i10, i11, i12, w13⟩ : (1 ≤ (σ 16 0).toInt ∧ (σ 16 0).toInt ≤ 8) ∧ (1 ≤ (σ 16 1).toInt ∧ (σ 16 1).toInt ≤ 12) ∧ (0 ≤ (σ 16 2).toInt ∧ (σ 16 2).toInt ≤ 999) ∧ (∀ k : Nat, k < 8 → 0 ≤ (σ 17 k).toInt ∧ (σ 17 k).toInt ≤ 3) := id hI16
  obtain ⟨i14, i15, w16⟩ : (0 ≤ (σ 38 0).toInt ∧ (σ 38 0).toInt ≤ 20) ∧ (0 ≤ (σ 38 1).toInt ∧ (σ 38 1).toInt ≤ 1000) ∧ (∀ k : Nat, k < 20 → 0 ≤ (σ 39 k).toInt ∧ (σ 39 k).toInt ≤ 6) := id hI38
  obtain ⟨i17, w18, w19⟩ : (0 ≤ (σ 47 0).toInt ∧ (σ 47 0).toInt ≤ 12) ∧ (∀ k : Nat, k < 12 → 0 ≤ (σ 48 k).toInt ∧ (σ 48 k).toInt ≤ 3) ∧ (∀ k : Nat, k < 12 → 0 ≤ (σ 49 k).toInt ∧ (σ 49 k).toInt ≤ 1) := id hI47
  have w20 : ∀ k : Nat, k < 6 → 0 ≤ (σ 52 k).toInt ∧ (σ 52 k).toInt ≤ 60 := hI50
  obtain ⟨i21, i22, i23, w24, w25, w26, w27⟩ : (0 ≤ (σ 55 5).toInt) ∧ ((σ 55 5).toInt ≤ (σ 55 4).toInt) ∧ ((σ 55 4).toInt ≤ 40) ∧ (∀ k : Nat, k < 68 → (-200) ≤ (σ 56 k).toInt ∧ (σ 56 k).toInt ≤ 500) ∧ (∀ k : Nat, k < 40 → 0 ≤ (σ 57 k).toInt ∧ (σ 57 k).toInt ≤ 67) ∧ (∀ k : Nat, k < 40 → (-200) ≤ (σ 58 k).toInt ∧ (σ 58 k).toInt ≤ 500) ∧ (∀ k : Nat, k < 40 → (-200) ≤ (σ 59 k).toInt ∧ (σ 59 k).toInt ≤ 500) := id hI101
  obtain ⟨i28, w29, w30⟩ : (0 ≤ (σ 55 6).toInt ∧ (σ 55 6).toInt ≤ 4) ∧ (∀ k : Nat, k < 4 → 0 ≤ (σ 60 k).toInt ∧ (σ 60 k).toInt ≤ 50) ∧ (∀ k : Nat, k < 4 → 0 ≤ (σ 61 k).toInt ∧ (σ 61 k).toInt ≤ 20) := id hI102
  obtain ⟨i31, i32, i33, w34, w35⟩ : (1 ≤ (σ 55 10).toInt ∧ (σ 55 10).toInt ≤ 8) ∧ (1 ≤ (σ 55 12).toInt ∧ (σ 55 12).toInt ≤ 12) ∧ (0 ≤ (σ 55 13).toInt ∧ (σ 55 13).toInt ≤ 999) ∧ (∀ k : Nat, k < 8 → 0 ≤ (σ 62 k).toInt ∧ (σ 62 k).toInt ≤ 3) ∧ (∀ k : Nat, k < 8 → 0 ≤ (σ 67 k).toInt ∧ (σ 67 k).toInt ≤ 3) := id hI104
  obtain ⟨i36, w37⟩ : (0 ≤ (σ 55 15).toInt ∧ (σ 55 15).toInt ≤ 80) ∧ (∀ k : Nat, k < 2 → (-1) ≤ (σ 65 k).toInt ∧ (σ 65 k).toInt ≤ 80) := id hI105
  obtain ⟨i38, w39, w40, w41⟩ : (0 ≤ (σ 55 32).toInt ∧ (σ 55 32).toInt ≤ 20) ∧ (∀ k : Nat, k < 20 → 0 ≤ (σ 70 k).toInt ∧ (σ 70 k).toInt ≤ 6) ∧ (∀ k : Nat, k < 20 → 0 ≤ (σ 71 k).toInt ∧ (σ 71 k).toInt ≤ 8) ∧ (∀ k : Nat, k < 160 → 0 ≤ (σ 72 k).toInt ∧ (σ 72 k).toInt ≤ 3) := id hI106
  obtain ⟨i42, i43, w44⟩ : (0 ≤ (σ 55 47).toInt ∧ (σ 55 47).toInt ≤ 12) ∧ ((σ 55 47).toInt ≤ (σ 55 12).toInt) ∧ (∀ k : Nat, k < 12 → 0 ≤ (σ 80 k).toInt ∧ (σ 80 k).toInt ≤ 3) := id hI107
  refine lv_aload_n hx hb dL_law_1334 rfl (lv_at hl 2 rfl) ?_
  refine lv_aload_n hx hb dL_law_1335 rfl (lv_at hl 3 rfl) ?_
  refine lv_iload_n hx hb dL_law_1336 rfl (lv_at hl 0 rfl) ?_
  refine lv_iconst (v := 1) hx hb dL_law_1337 (by decide) ?_
  have g45 := jrg (rfl : x0.toInt = x0.toInt)
  refine lv_iadd hx hb dL_law_1338 ?_
  refine lv_topi (fun x46 ex46 => ?_)
  have tx46 : x46.toInt = x0.toInt + 1 := (jadd ex46 rfl jz_1 (by omega) (by omega)).trans (by omega)
  refine va_sld hx hb hX hbl hbA hS (jin tx46 (by omega) (by omega)) dL_law_1339 ?_
  have g47 := jrg (rfl : (xs x46.toNatClampNeg).toInt = (xs x46.toNatClampNeg).toInt)
  refine jcallV (As := [.int (xs x46.toNatClampNeg)]) (rest := []) ⟨hx, hb, hml, hown, hts⟩ hK hP hA hS hZ (c_X11_count l D cI cL ad zz hJ σ τ (xs x46.toNatClampNeg) ((xs x46.toNatClampNeg).toInt) rfl hI2 hI9 hI38 hI47) cw_RL_166 (jc_0 cI cL ad σ τ) rfl ⟨Nat.le_of_ble_eq_true rfl, Nat.le_of_ble_eq_true rfl⟩ rfl rfl rfl hl.1 rfl (Nat.le_of_ble_eq_true rfl) dL_law_1340 ⟨Nat.le_of_ble_eq_true rfl, Nat.le_of_ble_eq_true rfl⟩ (fun r49 σ48 τ48 H locs h48 hP hS => ?_)
  obtain ⟨⟨rfl, rfl⟩, h48⟩ := h48
  rcases h48 with h50 | h51 | h52 | h53 | h54 | h55 | h56
  · obtain ⟨q59, k57, k58⟩ := h50
    refine lv_pop hx hb dL_law_1343 rfl ?_
    refine lv_aload_n hx hb dL_law_1344 rfl (lv_at hl 1 rfl) ?_
    refine lv_aload_n hx hb dL_law_1345 rfl (lv_at hl 3 rfl) ?_
    refine lv_iload_n hx hb dL_law_1346 rfl (lv_at hl 0 rfl) ?_
    refine lv_iconst (v := 1) hx hb dL_law_1347 (by decide) ?_
    refine lv_iadd hx hb dL_law_1348 ?_
    refine jtopr ex46.symm ?_
    refine va_sld hx hb hX hbl hbA hS (jin tx46 (by omega) (by omega)) dL_law_1349 ?_
    refine jcallV (As := [.int (xs x46.toNatClampNeg)]) (rest := []) ⟨hx, hb, hml, hown, hts⟩ hK hP hA hS hZ (c_X12_count l D cI cL ad zz hJ σ τ (xs x46.toNatClampNeg) ((xs x46.toNatClampNeg).toInt) rfl hI101 hI102 hI105 hI106 hI107) cw_RL_169 (jc_55 cI cL ad σ τ) rfl ⟨Nat.le_of_ble_eq_true rfl, Nat.le_of_ble_eq_true rfl⟩ rfl rfl rfl hl.1 rfl (Nat.le_of_ble_eq_true rfl) dL_law_1350 ⟨Nat.le_of_ble_eq_true rfl, Nat.le_of_ble_eq_true rfl⟩ (fun r61 σ60 τ60 H locs h60 hP hS => ?_)
    obtain ⟨⟨rfl, rfl⟩, h60⟩ := h60
    rcases h60 with h62 | h63 | h64 | h65 | h66 | h67 | h68
    · obtain ⟨q71, k69, k70⟩ := h62
      refine lv_pop hx hb dL_law_1353 rfl ?_
      refine lv_goto (tgt := 1357) hx hb dL_law_1354 (by decide) ?_
      obtain ⟨x72, ex72⟩ : ∃ y : Int32, y = x0 + 6 := ⟨_, rfl⟩
      have tx72 : x72.toInt = x0.toInt + 6 := (jadd ex72 rfl jz_6 (by omega) (by omega)).trans (by omega)
      refine lv_iinc (v := x72) (lv' := [(3, .int x72), (2, .ref (ad 55)), (1, .ref (ad 0)), (0, .ref b)]) hx hb dL_law_1357 hl (k := 0) rfl (by rw [ex72]; rfl) (by decide) rfl (fun ls hl => ?_)
      refine lv_goto (tgt := 18) hx hb dL_law_1360 (by decide) ?_
      exact ih x72 σ τ _ _ ls (by have h9 := tx72; omega) ⟨hI2, hI9, hI12, hI16, hI18, hI22, hI31, hI38, hI43, hI47, hI50, hI101, hI102, hI103, hI104, hI105, hI106, hI107, hI109, hI110, hI111, hI119, hs_jKept, hs_jBook, (by omega), (by omega), (by omega), (by omega), (by omega), (by omega), (by omega), (by omega), (by omega), (by omega), (by omega), hr0, hr1, hr2, hr3, hr4, hr5, hr6, hr7⟩ hP hS (lv_sub hl [0, 1, 2, 3] rfl)
    · obtain ⟨q75, k73, k74⟩ := h63
      exact absurd (by omega : False) id
    · obtain ⟨q78, k76, k77⟩ := h64
      exact absurd (by omega : False) id
    · obtain ⟨q81, k79, k80⟩ := h65
      exact absurd (by omega : False) id
    · obtain ⟨q84, k82, k83⟩ := h66
      exact absurd (by omega : False) id
    · obtain ⟨q87, k85, k86⟩ := h67
      exact absurd (by omega : False) id
    · obtain ⟨q89, k88⟩ := h68
      exact absurd (by omega : False) id
  · obtain ⟨q92, k90, k91⟩ := h51
    refine lv_pop hx hb dL_law_1343 rfl ?_
    refine lv_aload_n hx hb dL_law_1344 rfl (lv_at hl 1 rfl) ?_
    refine lv_aload_n hx hb dL_law_1345 rfl (lv_at hl 3 rfl) ?_
    refine lv_iload_n hx hb dL_law_1346 rfl (lv_at hl 0 rfl) ?_
    refine lv_iconst (v := 1) hx hb dL_law_1347 (by decide) ?_
    refine lv_iadd hx hb dL_law_1348 ?_
    refine jtopr ex46.symm ?_
    refine va_sld hx hb hX hbl hbA hS (jin tx46 (by omega) (by omega)) dL_law_1349 ?_
    refine jcallV (As := [.int (xs x46.toNatClampNeg)]) (rest := []) ⟨hx, hb, hml, hown, hts⟩ hK hP hA hS hZ (c_X12_count l D cI cL ad zz hJ σ τ (xs x46.toNatClampNeg) ((xs x46.toNatClampNeg).toInt) rfl hI101 hI102 hI105 hI106 hI107) cw_RL_169 (jc_55 cI cL ad σ τ) rfl ⟨Nat.le_of_ble_eq_true rfl, Nat.le_of_ble_eq_true rfl⟩ rfl rfl rfl hl.1 rfl (Nat.le_of_ble_eq_true rfl) dL_law_1350 ⟨Nat.le_of_ble_eq_true rfl, Nat.le_of_ble_eq_true rfl⟩ (fun r94 σ93 τ93 H locs h93 hP hS => ?_)
    obtain ⟨⟨rfl, rfl⟩, h93⟩ := h93
    rcases h93 with h95 | h96 | h97 | h98 | h99 | h100 | h101
    · obtain ⟨q104, k102, k103⟩ := h95
      exact absurd (by omega : False) id
    · obtain ⟨q107, k105, k106⟩ := h96
      refine lv_pop hx hb dL_law_1353 rfl ?_
      refine lv_goto (tgt := 1357) hx hb dL_law_1354 (by decide) ?_
      obtain ⟨x108, ex108⟩ : ∃ y : Int32, y = x0 + 6 := ⟨_, rfl⟩
      have tx108 : x108.toInt = x0.toInt + 6 := (jadd ex108 rfl jz_6 (by omega) (by omega)).trans (by omega)
      refine lv_iinc (v := x108) (lv' := [(3, .int x108), (2, .ref (ad 55)), (1, .ref (ad 0)), (0, .ref b)]) hx hb dL_law_1357 hl (k := 0) rfl (by rw [ex108]; rfl) (by decide) rfl (fun ls hl => ?_)
      refine lv_goto (tgt := 18) hx hb dL_law_1360 (by decide) ?_
      exact ih x108 σ τ _ _ ls (by have h9 := tx108; omega) ⟨hI2, hI9, hI12, hI16, hI18, hI22, hI31, hI38, hI43, hI47, hI50, hI101, hI102, hI103, hI104, hI105, hI106, hI107, hI109, hI110, hI111, hI119, hs_jKept, hs_jBook, (by omega), (by omega), (by omega), (by omega), (by omega), (by omega), (by omega), (by omega), (by omega), (by omega), (by omega), hr0, hr1, hr2, hr3, hr4, hr5, hr6, hr7⟩ hP hS (lv_sub hl [0, 1, 2, 3] rfl)
    · obtain ⟨q111, k109, k110⟩ := h97
      exact absurd (by omega : False) id
    · obtain ⟨q114, k112, k113⟩ := h98
      exact absurd (by omega : False) id
    · obtain ⟨q117, k115, k116⟩ := h99
      exact absurd (by omega : False) id
    · obtain ⟨q120, k118, k119⟩ := h100
      exact absurd (by omega : False) id
    · obtain ⟨q122, k121⟩ := h101
      exact absurd (by omega : False) id
  · obtain ⟨q125, k123, k124⟩ := h52
    refine lv_pop hx hb dL_law_1343 rfl ?_
    refine lv_aload_n hx hb dL_law_1344 rfl (lv_at hl 1 rfl) ?_
    refine lv_aload_n hx hb dL_law_1345 rfl (lv_at hl 3 rfl) ?_
    refine lv_iload_n hx hb dL_law_1346 rfl (lv_at hl 0 rfl) ?_
    refine lv_iconst (v := 1) hx hb dL_law_1347 (by decide) ?_
    refine lv_iadd hx hb dL_law_1348 ?_
    refine jtopr ex46.symm ?_
    refine va_sld hx hb hX hbl hbA hS (jin tx46 (by omega) (by omega)) dL_law_1349 ?_
    refine jcallV (As := [.int (xs x46.toNatClampNeg)]) (rest := []) ⟨hx, hb, hml, hown, hts⟩ hK hP hA hS hZ (c_X12_count l D cI cL ad zz hJ σ τ (xs x46.toNatClampNeg) ((xs x46.toNatClampNeg).toInt) rfl hI101 hI102 hI105 hI106 hI107) cw_RL_169 (jc_55 cI cL ad σ τ) rfl ⟨Nat.le_of_ble_eq_true rfl, Nat.le_of_ble_eq_true rfl⟩ rfl rfl rfl hl.1 rfl (Nat.le_of_ble_eq_true rfl) dL_law_1350 ⟨Nat.le_of_ble_eq_true rfl, Nat.le_of_ble_eq_true rfl⟩ (fun r127 σ126 τ126 H locs h126 hP hS => ?_)
    obtain ⟨⟨rfl, rfl⟩, h126⟩ := h126
    rcases h126 with h128 | h129 | h130 | h131 | h132 | h133 | h134
    · obtain ⟨q137, k135, k136⟩ := h128
      exact absurd (by omega : False) id
    · obtain ⟨q140, k138, k139⟩ := h129
      exact absurd (by omega : False) id
    · obtain ⟨q143, k141, k142⟩ := h130
      refine lv_pop hx hb dL_law_1353 rfl ?_
      refine lv_goto (tgt := 1357) hx hb dL_law_1354 (by decide) ?_
      obtain ⟨x144, ex144⟩ : ∃ y : Int32, y = x0 + 6 := ⟨_, rfl⟩
      have tx144 : x144.toInt = x0.toInt + 6 := (jadd ex144 rfl jz_6 (by omega) (by omega)).trans (by omega)
      refine lv_iinc (v := x144) (lv' := [(3, .int x144), (2, .ref (ad 55)), (1, .ref (ad 0)), (0, .ref b)]) hx hb dL_law_1357 hl (k := 0) rfl (by rw [ex144]; rfl) (by decide) rfl (fun ls hl => ?_)
      refine lv_goto (tgt := 18) hx hb dL_law_1360 (by decide) ?_
      exact ih x144 σ τ _ _ ls (by have h9 := tx144; omega) ⟨hI2, hI9, hI12, hI16, hI18, hI22, hI31, hI38, hI43, hI47, hI50, hI101, hI102, hI103, hI104, hI105, hI106, hI107, hI109, hI110, hI111, hI119, hs_jKept, hs_jBook, (by omega), (by omega), (by omega), (by omega), (by omega), (by omega), (by omega), (by omega), (by omega), (by omega), (by omega), hr0, hr1, hr2, hr3, hr4, hr5, hr6, hr7⟩ hP hS (lv_sub hl [0, 1, 2, 3] rfl)
    · obtain ⟨q147, k145, k146⟩ := h131
      exact absurd (by omega : False) id
    · obtain ⟨q150, k148, k149⟩ := h132
      exact absurd (by omega : False) id
    · obtain ⟨q153, k151, k152⟩ := h133
      exact absurd (by omega : False) id
    · obtain ⟨q155, k154⟩ := h134
      exact absurd (by omega : False) id
  · obtain ⟨q158, k156, k157⟩ := h53
    refine lv_pop hx hb dL_law_1343 rfl ?_
    refine lv_aload_n hx hb dL_law_1344 rfl (lv_at hl 1 rfl) ?_
    refine lv_aload_n hx hb dL_law_1345 rfl (lv_at hl 3 rfl) ?_
    refine lv_iload_n hx hb dL_law_1346 rfl (lv_at hl 0 rfl) ?_
    refine lv_iconst (v := 1) hx hb dL_law_1347 (by decide) ?_
    refine lv_iadd hx hb dL_law_1348 ?_
    refine jtopr ex46.symm ?_
    refine va_sld hx hb hX hbl hbA hS (jin tx46 (by omega) (by omega)) dL_law_1349 ?_
    refine jcallV (As := [.int (xs x46.toNatClampNeg)]) (rest := []) ⟨hx, hb, hml, hown, hts⟩ hK hP hA hS hZ (c_X12_count l D cI cL ad zz hJ σ τ (xs x46.toNatClampNeg) ((xs x46.toNatClampNeg).toInt) rfl hI101 hI102 hI105 hI106 hI107) cw_RL_169 (jc_55 cI cL ad σ τ) rfl ⟨Nat.le_of_ble_eq_true rfl, Nat.le_of_ble_eq_true rfl⟩ rfl rfl rfl hl.1 rfl (Nat.le_of_ble_eq_true rfl) dL_law_1350 ⟨Nat.le_of_ble_eq_true rfl, Nat.le_of_ble_eq_true rfl⟩ (fun r160 σ159 τ159 H locs h159 hP hS => ?_)
    obtain ⟨⟨rfl, rfl⟩, h159⟩ := h159
    rcases h159 with h161 | h162 | h163 | h164 | h165 | h166 | h167
    · obtain ⟨q170, k168, k169⟩ := h161
      exact absurd (by omega : False) id
    · obtain ⟨q173, k171, k172⟩ := h162
      exact absurd (by omega : False) id
    · obtain ⟨q176, k174, k175⟩ := h163
      exact absurd (by omega : False) id
    · obtain ⟨q179, k177, k178⟩ := h164
      refine lv_pop hx hb dL_law_1353 rfl ?_
      refine lv_goto (tgt := 1357) hx hb dL_law_1354 (by decide) ?_
      obtain ⟨x180, ex180⟩ : ∃ y : Int32, y = x0 + 6 := ⟨_, rfl⟩
      have tx180 : x180.toInt = x0.toInt + 6 := (jadd ex180 rfl jz_6 (by omega) (by omega)).trans (by omega)
      refine lv_iinc (v := x180) (lv' := [(3, .int x180), (2, .ref (ad 55)), (1, .ref (ad 0)), (0, .ref b)]) hx hb dL_law_1357 hl (k := 0) rfl (by rw [ex180]; rfl) (by decide) rfl (fun ls hl => ?_)
      refine lv_goto (tgt := 18) hx hb dL_law_1360 (by decide) ?_
      exact ih x180 σ τ _ _ ls (by have h9 := tx180; omega) ⟨hI2, hI9, hI12, hI16, hI18, hI22, hI31, hI38, hI43, hI47, hI50, hI101, hI102, hI103, hI104, hI105, hI106, hI107, hI109, hI110, hI111, hI119, hs_jKept, hs_jBook, (by omega), (by omega), (by omega), (by omega), (by omega), (by omega), (by omega), (by omega), (by omega), (by omega), (by omega), hr0, hr1, hr2, hr3, hr4, hr5, hr6, hr7⟩ hP hS (lv_sub hl [0, 1, 2, 3] rfl)
    · obtain ⟨q183, k181, k182⟩ := h165
      exact absurd (by omega : False) id
    · obtain ⟨q186, k184, k185⟩ := h166
      exact absurd (by omega : False) id
    · obtain ⟨q188, k187⟩ := h167
      exact absurd (by omega : False) id
  · obtain ⟨q191, k189, k190⟩ := h54
    refine lv_pop hx hb dL_law_1343 rfl ?_
    refine lv_aload_n hx hb dL_law_1344 rfl (lv_at hl 1 rfl) ?_
    refine lv_aload_n hx hb dL_law_1345 rfl (lv_at hl 3 rfl) ?_
    refine lv_iload_n hx hb dL_law_1346 rfl (lv_at hl 0 rfl) ?_
    refine lv_iconst (v := 1) hx hb dL_law_1347 (by decide) ?_
    refine lv_iadd hx hb dL_law_1348 ?_
    refine jtopr ex46.symm ?_
    refine va_sld hx hb hX hbl hbA hS (jin tx46 (by omega) (by omega)) dL_law_1349 ?_
    refine jcallV (As := [.int (xs x46.toNatClampNeg)]) (rest := []) ⟨hx, hb, hml, hown, hts⟩ hK hP hA hS hZ (c_X12_count l D cI cL ad zz hJ σ τ (xs x46.toNatClampNeg) ((xs x46.toNatClampNeg).toInt) rfl hI101 hI102 hI105 hI106 hI107) cw_RL_169 (jc_55 cI cL ad σ τ) rfl ⟨Nat.le_of_ble_eq_true rfl, Nat.le_of_ble_eq_true rfl⟩ rfl rfl rfl hl.1 rfl (Nat.le_of_ble_eq_true rfl) dL_law_1350 ⟨Nat.le_of_ble_eq_true rfl, Nat.le_of_ble_eq_true rfl⟩ (fun r193 σ192 τ192 H locs h192 hP hS => ?_)
    obtain ⟨⟨rfl, rfl⟩, h192⟩ := h192
    rcases h192 with h194 | h195 | h196 | h197 | h198 | h199 | h200
    · obtain ⟨q203, k201, k202⟩ := h194
      exact absurd (by omega : False) id
    · obtain ⟨q206, k204, k205⟩ := h195
      exact absurd (by omega : False) id
    · obtain ⟨q209, k207, k208⟩ := h196
      exact absurd (by omega : False) id
    · obtain ⟨q212, k210, k211⟩ := h197
      exact absurd (by omega : False) id
    · obtain ⟨q215, k213, k214⟩ := h198
      refine lv_pop hx hb dL_law_1353 rfl ?_
      refine lv_goto (tgt := 1357) hx hb dL_law_1354 (by decide) ?_
      obtain ⟨x216, ex216⟩ : ∃ y : Int32, y = x0 + 6 := ⟨_, rfl⟩
      have tx216 : x216.toInt = x0.toInt + 6 := (jadd ex216 rfl jz_6 (by omega) (by omega)).trans (by omega)
      refine lv_iinc (v := x216) (lv' := [(3, .int x216), (2, .ref (ad 55)), (1, .ref (ad 0)), (0, .ref b)]) hx hb dL_law_1357 hl (k := 0) rfl (by rw [ex216]; rfl) (by decide) rfl (fun ls hl => ?_)
      refine lv_goto (tgt := 18) hx hb dL_law_1360 (by decide) ?_
      exact ih x216 σ τ _ _ ls (by have h9 := tx216; omega) ⟨hI2, hI9, hI12, hI16, hI18, hI22, hI31, hI38, hI43, hI47, hI50, hI101, hI102, hI103, hI104, hI105, hI106, hI107, hI109, hI110, hI111, hI119, hs_jKept, hs_jBook, (by omega), (by omega), (by omega), (by omega), (by omega), (by omega), (by omega), (by omega), (by omega), (by omega), (by omega), hr0, hr1, hr2, hr3, hr4, hr5, hr6, hr7⟩ hP hS (lv_sub hl [0, 1, 2, 3] rfl)
    · obtain ⟨q219, k217, k218⟩ := h199
      exact absurd (by omega : False) id
    · obtain ⟨q221, k220⟩ := h200
      exact absurd (by omega : False) id
  · obtain ⟨q224, k222, k223⟩ := h55
    refine lv_pop hx hb dL_law_1343 rfl ?_
    refine lv_aload_n hx hb dL_law_1344 rfl (lv_at hl 1 rfl) ?_
    refine lv_aload_n hx hb dL_law_1345 rfl (lv_at hl 3 rfl) ?_
    refine lv_iload_n hx hb dL_law_1346 rfl (lv_at hl 0 rfl) ?_
    refine lv_iconst (v := 1) hx hb dL_law_1347 (by decide) ?_
    refine lv_iadd hx hb dL_law_1348 ?_
    refine jtopr ex46.symm ?_
    refine va_sld hx hb hX hbl hbA hS (jin tx46 (by omega) (by omega)) dL_law_1349 ?_
    refine jcallV (As := [.int (xs x46.toNatClampNeg)]) (rest := []) ⟨hx, hb, hml, hown, hts⟩ hK hP hA hS hZ (c_X12_count l D cI cL ad zz hJ σ τ (xs x46.toNatClampNeg) ((xs x46.toNatClampNeg).toInt) rfl hI101 hI102 hI105 hI106 hI107) cw_RL_169 (jc_55 cI cL ad σ τ) rfl ⟨Nat.le_of_ble_eq_true rfl, Nat.le_of_ble_eq_true rfl⟩ rfl rfl rfl hl.1 rfl (Nat.le_of_ble_eq_true rfl) dL_law_1350 ⟨Nat.le_of_ble_eq_true rfl, Nat.le_of_ble_eq_true rfl⟩ (fun r226 σ225 τ225 H locs h225 hP hS => ?_)
    obtain ⟨⟨rfl, rfl⟩, h225⟩ := h225
    rcases h225 with h227 | h228 | h229 | h230 | h231 | h232 | h233
    · obtain ⟨q236, k234, k235⟩ := h227
      exact absurd (by omega : False) id
    · obtain ⟨q239, k237, k238⟩ := h228
      exact absurd (by omega : False) id
    · obtain ⟨q242, k240, k241⟩ := h229
      exact absurd (by omega : False) id
    · obtain ⟨q245, k243, k244⟩ := h230
      exact absurd (by omega : False) id
    · obtain ⟨q248, k246, k247⟩ := h231
      exact absurd (by omega : False) id
    · obtain ⟨q251, k249, k250⟩ := h232
      refine lv_pop hx hb dL_law_1353 rfl ?_
      refine lv_goto (tgt := 1357) hx hb dL_law_1354 (by decide) ?_
      obtain ⟨x252, ex252⟩ : ∃ y : Int32, y = x0 + 6 := ⟨_, rfl⟩
      have tx252 : x252.toInt = x0.toInt + 6 := (jadd ex252 rfl jz_6 (by omega) (by omega)).trans (by omega)
      refine lv_iinc (v := x252) (lv' := [(3, .int x252), (2, .ref (ad 55)), (1, .ref (ad 0)), (0, .ref b)]) hx hb dL_law_1357 hl (k := 0) rfl (by rw [ex252]; rfl) (by decide) rfl (fun ls hl => ?_)
      refine lv_goto (tgt := 18) hx hb dL_law_1360 (by decide) ?_
      exact ih x252 σ τ _ _ ls (by have h9 := tx252; omega) ⟨hI2, hI9, hI12, hI16, hI18, hI22, hI31, hI38, hI43, hI47, hI50, hI101, hI102, hI103, hI104, hI105, hI106, hI107, hI109, hI110, hI111, hI119, hs_jKept, hs_jBook, (by omega), (by omega), (by omega), (by omega), (by omega), (by omega), (by omega), (by omega), (by omega), (by omega), (by omega), hr0, hr1, hr2, hr3, hr4, hr5, hr6, hr7⟩ hP hS (lv_sub hl [0, 1, 2, 3] rfl)
    · obtain ⟨q254, k253⟩ := h233
      exact absurd (by omega : False) id
  · obtain ⟨q256, k255⟩ := h56
    have q256 := q256.symm
    subst q256
    refine lv_pop hx hb dL_law_1343 rfl ?_
    refine lv_aload_n hx hb dL_law_1344 rfl (lv_at hl 1 rfl) ?_
    refine lv_aload_n hx hb dL_law_1345 rfl (lv_at hl 3 rfl) ?_
    refine lv_iload_n hx hb dL_law_1346 rfl (lv_at hl 0 rfl) ?_
    refine lv_iconst (v := 1) hx hb dL_law_1347 (by decide) ?_
    refine lv_iadd hx hb dL_law_1348 ?_
    refine jtopr ex46.symm ?_
    refine va_sld hx hb hX hbl hbA hS (jin tx46 (by omega) (by omega)) dL_law_1349 ?_
    refine jcallV (As := [.int (xs x46.toNatClampNeg)]) (rest := []) ⟨hx, hb, hml, hown, hts⟩ hK hP hA hS hZ (c_X12_count l D cI cL ad zz hJ σ τ (xs x46.toNatClampNeg) ((xs x46.toNatClampNeg).toInt) rfl hI101 hI102 hI105 hI106 hI107) cw_RL_169 (jc_55 cI cL ad σ τ) rfl ⟨Nat.le_of_ble_eq_true rfl, Nat.le_of_ble_eq_true rfl⟩ rfl rfl rfl hl.1 rfl (Nat.le_of_ble_eq_true rfl) dL_law_1350 ⟨Nat.le_of_ble_eq_true rfl, Nat.le_of_ble_eq_true rfl⟩ (fun r258 σ257 τ257 H locs h257 hP hS => ?_)
    obtain ⟨⟨rfl, rfl⟩, h257⟩ := h257
    rcases h257 with h259 | h260 | h261 | h262 | h263 | h264 | h265
    · obtain ⟨q268, k266, k267⟩ := h259
      exact absurd (by omega : False) id
    · obtain ⟨q271, k269, k270⟩ := h260
      exact absurd (by omega : False) id
    · obtain ⟨q274, k272, k273⟩ := h261
      exact absurd (by omega : False) id
    · obtain ⟨q277, k275, k276⟩ := h262
      exact absurd (by omega : False) id
    · obtain ⟨q280, k278, k279⟩ := h263
      exact absurd (by omega : False) id
    · obtain ⟨q283, k281, k282⟩ := h264
      exact absurd (by omega : False) id
    · obtain ⟨q285, k284⟩ := h265
      have q285 := q285.symm
      subst q285
      refine lv_pop hx hb dL_law_1353 rfl ?_
      refine lv_goto (tgt := 1357) hx hb dL_law_1354 (by decide) ?_
      obtain ⟨x286, ex286⟩ : ∃ y : Int32, y = x0 + 6 := ⟨_, rfl⟩
      have tx286 : x286.toInt = x0.toInt + 6 := (jadd ex286 rfl jz_6 (by omega) (by omega)).trans (by omega)
      refine lv_iinc (v := x286) (lv' := [(3, .int x286), (2, .ref (ad 55)), (1, .ref (ad 0)), (0, .ref b)]) hx hb dL_law_1357 hl (k := 0) rfl (by rw [ex286]; rfl) (by decide) rfl (fun ls hl => ?_)
      refine lv_goto (tgt := 18) hx hb dL_law_1360 (by decide) ?_
      exact ih x286 σ τ _ _ ls (by have h9 := tx286; omega) ⟨hI2, hI9, hI12, hI16, hI18, hI22, hI31, hI38, hI43, hI47, hI50, hI101, hI102, hI103, hI104, hI105, hI106, hI107, hI109, hI110, hI111, hI119, hs_jKept, hs_jBook, (by omega), (by omega), (by omega), (by omega), (by omega), (by omega), (by omega), (by omega), (by omega), (by omega), (by omega), hr0, hr1, hr2, hr3, hr4, hr5, hr6, hr7⟩ hP hS (lv_sub hl [0, 1, 2, 3] rfl)
set_option maxHeartbeats 4000000 in
set_option maxRecDepth 100000 in
theorem law_case_37 {p : Program} {e : Env} {s : State} {m : MethodId} {below : List Frame} {meth : Method} {c : Code} (l : Launch) {b L : Nat} {xs : Nat → Int32} {D : va_G} {cI cL : ClassId} {ad zz : Nat → Nat} (C0 : lw_At p s m meth c b L xs) (hJ : jD ad) (hA : ∀ q, jA ad q → s.heap.size ≤ q) (hK : jK D cI cL s) (hZ : jZ zz (fun q : Nat => s.heap.size ≤ q) s s.heap) {x0 : Int32} (hx0 : 0 ≤ x0.toInt) (hxL : x0.toInt + 6 ≤ (L : Int)) (hL : L ≤ 384) {σ : Nat → Nat → Int32} {τ : Nat → Nat → Int64} {H : Heap} {locs : List Loc} (hS : va_S (fun q : Nat => s.heap.size ≤ q) s.heap H locs) {ls : Array Slot} (hAll : jAll σ τ) (hP : jH D cI cL ad σ τ H) (hl : lv_has ls 4 [(3, .int x0), (2, .ref (ad 55)), (1, .ref (ad 0)), (0, .ref b)]) (ih : ∀ (x1 : Int32) (σ : Nat → Nat → Int32) (τ : Nat → Nat → Int64) (H : Heap) (locs : List Loc) (ls : Array Slot), x1.toInt = x0.toInt + 6 → jAll σ τ → jH D cI cL ad σ τ H → va_S (fun q : Nat => s.heap.size ≤ q) s.heap H locs → lv_has ls 4 [(3, .int x1), (2, .ref (ad 55)), (1, .ref (ad 0)), (0, .ref b)] → W p l e room_1 s m #[Value.ref b] below meth c H locs 90 348600 (lw_Z below #[Value.ref b] s) (F0 m 18 ls [])) : W p l e room_1 s m #[Value.ref b] below meth c H locs 90 348600 (lw_Z below #[Value.ref b] s) (F0 m 1357 ls []) := by
  obtain ⟨hx, hb, hr, hml, hown, hts0, hX, hbl, hlocks, hgv⟩ := C0
  have hts : ∀ w ∈ wsL_law, w.before #[Value.ref b] s = true := fun w h => hts0 w (wsL_law_in w h)
  have hbA : ¬ (fun q : Nat => s.heap.size ≤ q) b := Nat.not_le.mpr hbl
  have hown : s.vm.findClass RL = some m.cls := hown
  obtain ⟨hI2, hI9, hI12, hI16, hI18, hI22, hI31, hI38, hI43, hI47, hI50, hI101, hI102, hI103, hI104, hI105, hI106, hI107, hI109, hI110, hI111, hI119, hs_jKept, hs_jBook, ht0, ht1, ht2, ht3, ht4, ht5, ht6, ht7, ht8, ht9, ht10, hr0, hr1, hr2, hr3, hr4, hr5, hr6, hr7⟩ := hAll
  have hL9 : (L : Int) ≤ 384 := by omega
  obtain ⟨i1, i2, i3, i4, i5, w6⟩ : (0 ≤ (σ 2 0).toInt ∧ (σ 2 0).toInt ≤ 4) ∧ (0 ≤ (σ 2 1).toInt ∧ (σ 2 1).toInt ≤ 3) ∧ (0 ≤ (σ 2 2).toInt) ∧ (0 ≤ (σ 2 3).toInt) ∧ ((σ 2 2).toInt + (σ 2 3).toInt ≤ 40) ∧ (∀ k : Nat, k < 40 → 0 ≤ (σ 6 k).toInt ∧ (σ 6 k).toInt ≤ 67) := id hI2
  obtain ⟨i7, w8, w9⟩ : (0 ≤ (σ 9 0).toInt ∧ (σ 9 0).toInt ≤ 80) ∧ (∀ k : Nat, k < 80 → 0 ≤ (σ 10 k).toInt ∧ (σ 10 k).toInt ≤ 255) ∧ (∀ k : Nat, k < 8 → 0 ≤ (σ 11 k).toInt ∧ (σ 11 k).toInt ≤ 3) := id hI9
  obtain ⟨i10, i11, i12, w13⟩ : (1 ≤ (σ 16 0).toInt ∧ (σ 16 0).toInt ≤ 8) ∧ (1 ≤ (σ 16 1).toInt ∧ (σ 16 1).toInt ≤ 12) ∧ (0 ≤ (σ 16 2).toInt ∧ (σ 16 2).toInt ≤ 999) ∧ (∀ k : Nat, k < 8 → 0 ≤ (σ 17 k).toInt ∧ (σ 17 k).toInt ≤ 3) := id hI16
  obtain ⟨i14, i15, w16⟩ : (0 ≤ (σ 38 0).toInt ∧ (σ 38 0).toInt ≤ 20) ∧ (0 ≤ (σ 38 1).toInt ∧ (σ 38 1).toInt ≤ 1000) ∧ (∀ k : Nat, k < 20 → 0 ≤ (σ 39 k).toInt ∧ (σ 39 k).toInt ≤ 6) := id hI38
  obtain ⟨i17, w18, w19⟩ : (0 ≤ (σ 47 0).toInt ∧ (σ 47 0).toInt ≤ 12) ∧ (∀ k : Nat, k < 12 → 0 ≤ (σ 48 k).toInt ∧ (σ 48 k).toInt ≤ 3) ∧ (∀ k : Nat, k < 12 → 0 ≤ (σ 49 k).toInt ∧ (σ 49 k).toInt ≤ 1) := id hI47
  have w20 : ∀ k : Nat, k < 6 → 0 ≤ (σ 52 k).toInt ∧ (σ 52 k).toInt ≤ 60 := hI50
  obtain ⟨i21, i22, i23, w24, w25, w26, w27⟩ : (0 ≤ (σ 55 5).toInt) ∧ ((σ 55 5).toInt ≤ (σ 55 4).toInt) ∧ ((σ 55 4).toInt ≤ 40) ∧ (∀ k : Nat, k < 68 → (-200) ≤ (σ 56 k).toInt ∧ (σ 56 k).toInt ≤ 500) ∧ (∀ k : Nat, k < 40 → 0 ≤ (σ 57 k).toInt ∧ (σ 57 k).toInt ≤ 67) ∧ (∀ k : Nat, k < 40 → (-200) ≤ (σ 58 k).toInt ∧ (σ 58 k).toInt ≤ 500) ∧ (∀ k : Nat, k < 40 → (-200) ≤ (σ 59 k).toInt ∧ (σ 59 k).toInt ≤ 500) := id hI101
  obtain ⟨i28, w29, w30⟩ : (0 ≤ (σ 55 6).toInt ∧ (σ 55 6).toInt ≤ 4) ∧ (∀ k : Nat, k < 4 → 0 ≤ (σ 60 k).toInt ∧ (σ 60 k).toInt ≤ 50) ∧ (∀ k : Nat, k < 4 → 0 ≤ (σ 61 k).toInt ∧ (σ 61 k).toInt ≤ 20) := id hI102
  obtain ⟨i31, i32, i33, w34, w35⟩ : (1 ≤ (σ 55 10).toInt ∧ (σ 55 10).toInt ≤ 8) ∧ (1 ≤ (σ 55 12).toInt ∧ (σ 55 12).toInt ≤ 12) ∧ (0 ≤ (σ 55 13).toInt ∧ (σ 55 13).toInt ≤ 999) ∧ (∀ k : Nat, k < 8 → 0 ≤ (σ 62 k).toInt ∧ (σ 62 k).toInt ≤ 3) ∧ (∀ k : Nat, k < 8 → 0 ≤ (σ 67 k).toInt ∧ (σ 67 k).toInt ≤ 3) := id hI104
  obtain ⟨i36, w37⟩ : (0 ≤ (σ 55 15).toInt ∧ (σ 55 15).toInt ≤ 80) ∧ (∀ k : Nat, k < 2 → (-1) ≤ (σ 65 k).toInt ∧ (σ 65 k).toInt ≤ 80) := id hI105
  obtain ⟨i38, w39, w40, w41⟩ : (0 ≤ (σ 55 32).toInt ∧ (σ 55 32).toInt ≤ 20) ∧ (∀ k : Nat, k < 20 → 0 ≤ (σ 70 k).toInt ∧ (σ 70 k).toInt ≤ 6) ∧ (∀ k : Nat, k < 20 → 0 ≤ (σ 71 k).toInt ∧ (σ 71 k).toInt ≤ 8) ∧ (∀ k : Nat, k < 160 → 0 ≤ (σ 72 k).toInt ∧ (σ 72 k).toInt ≤ 3) := id hI106
  obtain ⟨i42, i43, w44⟩ : (0 ≤ (σ 55 47).toInt ∧ (σ 55 47).toInt ≤ 12) ∧ ((σ 55 47).toInt ≤ (σ 55 12).toInt) ∧ (∀ k : Nat, k < 12 → 0 ≤ (σ 80 k).toInt ∧ (σ 80 k).toInt ≤ 3) := id hI107
  obtain ⟨x45, ex45⟩ : ∃ y : Int32, y = x0 + 6 := ⟨_, rfl⟩
  have tx45 : x45.toInt = x0.toInt + 6 := (jadd ex45 rfl jz_6 (by omega) (by omega)).trans (by omega)
  refine lv_iinc (v := x45) (lv' := [(3, .int x45), (2, .ref (ad 55)), (1, .ref (ad 0)), (0, .ref b)]) hx hb dL_law_1357 hl (k := 0) rfl (by rw [ex45]; rfl) (by decide) rfl (fun ls hl => ?_)
  refine lv_goto (tgt := 18) hx hb dL_law_1360 (by decide) ?_
  exact ih x45 σ τ _ _ ls (by have h9 := tx45; omega) ⟨hI2, hI9, hI12, hI16, hI18, hI22, hI31, hI38, hI43, hI47, hI50, hI101, hI102, hI103, hI104, hI105, hI106, hI107, hI109, hI110, hI111, hI119, hs_jKept, hs_jBook, (by omega), (by omega), (by omega), (by omega), (by omega), (by omega), (by omega), (by omega), (by omega), (by omega), (by omega), hr0, hr1, hr2, hr3, hr4, hr5, hr6, hr7⟩ hP hS (lv_sub hl [0, 1, 2, 3] rfl)
