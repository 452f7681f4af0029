set_option maxHeartbeats 4000000 in
set_option maxRecDepth 100000 in
theorem law_case_19 {p : Program} {e : Env} {s : State} {m : MethodId} {below : List Frame} {meth : Method} {c : Code} (l : Launch) {b L : Nat} {xs : Nat → Int32} {D : va_G} {cI cL : ClassId} {ad zz : Nat → Nat} (C0 : lw_At p s m meth c b L xs) (hJ : jD ad) (hA : ∀ q, jA ad q → s.heap.size ≤ q) (hK : jK D cI cL s) (hZ : jZ zz (fun q : Nat => s.heap.size ≤ q) s s.heap) {x0 : Int32} (hx0 : 0 ≤ x0.toInt) (hxL : x0.toInt + 6 ≤ (L : Int)) (hL : L ≤ 384) {σ : Nat → Nat → Int32} {τ : Nat → Nat → Int64} {H : Heap} {locs : List Loc} (hS : va_S (fun q : Nat => s.heap.size ≤ q) s.heap H locs) {ls : Array Slot} (hAll : jAll x0.toInt σ τ) (hP : jH D cI cL ad σ τ H) (hl : lv_has ls 4 [(3, .int x0), (2, .ref (ad 55)), (1, .ref (ad 0)), (0, .ref b)]) (ih : ∀ (x1 : Int32) (σ : Nat → Nat → Int32) (τ : Nat → Nat → Int64) (H : Heap) (locs : List Loc) (ls : Array Slot), x1.toInt = x0.toInt + 6 → jAll x1.toInt σ τ → jH D cI cL ad σ τ H → va_S (fun q : Nat => s.heap.size ≤ q) s.heap H locs → lv_has ls 4 [(3, .int x1), (2, .ref (ad 55)), (1, .ref (ad 0)), (0, .ref b)] → W p l e room_1 s m #[Value.ref b] below meth c H locs 90 348600 (lw_Z below #[Value.ref b] s) (F0 m 18 ls [])) : W p l e room_1 s m #[Value.ref b] below meth c H locs 90 348600 (lw_Z below #[Value.ref b] s) (F0 m 773 ls []) := by
  obtain ⟨hx, hb, hr, hml, hown, hts0, hX, hbl, hlocks, hgv⟩ := C0
  have hts : ∀ w ∈ wsL_law, w.before #[Value.ref b] s = true := fun w h => hts0 w (wsL_law_in w h)
  have hbA : ¬ (fun q : Nat => s.heap.size ≤ q) b := Nat.not_le.mpr hbl
  have hown : s.vm.findClass RL = some m.cls := hown
  obtain ⟨hI2, hI9, hI12, hI16, hI18, hI22, hI31, hI38, hI43, hI47, hI50, hI0, hI26, hI101, hI102, hI103, hI104, hI105, hI106, hI107, hI109, hI110, hI111, hI119, hs_jKept, hs_jBook, hs_jNd12, hs_jN67, hs_jBl, hs_jKb, hs_jTR, hs_jKh, hs_jKg, ht0, ht1, ht2, ht3, ht4, ht5, ht6, ht7, ht8, ht9, ht10, ht11, ht12, ht13, hr0, hr1, hr2, hr3, hr4, hr5, hr6, hr7, hr8, hr9, hr10, hr11, hr12⟩ := hAll
  have hL9 : (L : Int) ≤ 384 := by omega
  obtain ⟨i1, i2, i3, i4, i5, w6⟩ : (0 ≤ (σ 2 0).toInt ∧ (σ 2 0).toInt ≤ 4) ∧ (0 ≤ (σ 2 1).toInt ∧ (σ 2 1).toInt ≤ 3) ∧ (0 ≤ (σ 2 2).toInt) ∧ (0 ≤ (σ 2 3).toInt) ∧ ((σ 2 2).toInt + (σ 2 3).toInt ≤ 40) ∧ (∀ k : Nat, k < 40 → 0 ≤ (σ 6 k).toInt ∧ (σ 6 k).toInt ≤ 67) := id hI2
  obtain ⟨i7, w8, w9⟩ : (0 ≤ (σ 9 0).toInt ∧ (σ 9 0).toInt ≤ 80) ∧ (∀ k : Nat, k < 80 → 0 ≤ (σ 10 k).toInt ∧ (σ 10 k).toInt ≤ 255) ∧ (∀ k : Nat, k < 8 → 0 ≤ (σ 11 k).toInt ∧ (σ 11 k).toInt ≤ 3) := id hI9
  obtain ⟨i10, i11, i12, w13⟩ : (1 ≤ (σ 16 0).toInt ∧ (σ 16 0).toInt ≤ 8) ∧ (1 ≤ (σ 16 1).toInt ∧ (σ 16 1).toInt ≤ 12) ∧ (0 ≤ (σ 16 2).toInt ∧ (σ 16 2).toInt ≤ 999) ∧ (∀ k : Nat, k < 8 → 0 ≤ (σ 17 k).toInt ∧ (σ 17 k).toInt ≤ 3) := id hI16
  obtain ⟨i14, i15, w16⟩ : (0 ≤ (σ 38 0).toInt ∧ (σ 38 0).toInt ≤ 20) ∧ (0 ≤ (σ 38 1).toInt ∧ (σ 38 1).toInt ≤ 1000) ∧ (∀ k : Nat, k < 20 → 0 ≤ (σ 39 k).toInt ∧ (σ 39 k).toInt ≤ 6) := id hI38
  obtain ⟨i17, w18, w19⟩ : (0 ≤ (σ 47 0).toInt ∧ (σ 47 0).toInt ≤ 12) ∧ (∀ k : Nat, k < 12 → 0 ≤ (σ 48 k).toInt ∧ (σ 48 k).toInt ≤ 3) ∧ (∀ k : Nat, k < 12 → 0 ≤ (σ 49 k).toInt ∧ (σ 49 k).toInt ≤ 1) := id hI47
  have w20 : ∀ k : Nat, k < 6 → 0 ≤ (σ 52 k).toInt ∧ (σ 52 k).toInt ≤ 60 := hI50
  have i21 : 1 ≤ (σ 26 6).toInt ∧ (σ 26 6).toInt ≤ 8000 := hI26
  obtain ⟨i22, i23, i24, w25, w26, w27, w28⟩ : (0 ≤ (σ 55 5).toInt) ∧ ((σ 55 5).toInt ≤ (σ 55 4).toInt) ∧ ((σ 55 4).toInt ≤ 40) ∧ (∀ k : Nat, k < 68 → (-200) ≤ (σ 56 k).toInt ∧ (σ 56 k).toInt ≤ 500) ∧ (∀ k : Nat, k < 40 → 0 ≤ (σ 57 k).toInt ∧ (σ 57 k).toInt ≤ 67) ∧ (∀ k : Nat, k < 40 → (-200) ≤ (σ 58 k).toInt ∧ (σ 58 k).toInt ≤ 500) ∧ (∀ k : Nat, k < 40 → (-200) ≤ (σ 59 k).toInt ∧ (σ 59 k).toInt ≤ 500) := id hI101
  obtain ⟨i29, w30, w31⟩ : (0 ≤ (σ 55 6).toInt ∧ (σ 55 6).toInt ≤ 4) ∧ (∀ k : Nat, k < 4 → 0 ≤ (σ 60 k).toInt ∧ (σ 60 k).toInt ≤ 50) ∧ (∀ k : Nat, k < 4 → 0 ≤ (σ 61 k).toInt ∧ (σ 61 k).toInt ≤ 20) := id hI102
  have i32 : 0 ≤ (σ 55 9).toInt ∧ (σ 55 9).toInt ≤ 3 := hI103
  obtain ⟨i33, i34, i35, w36, w37⟩ : (1 ≤ (σ 55 10).toInt ∧ (σ 55 10).toInt ≤ 8) ∧ (1 ≤ (σ 55 12).toInt ∧ (σ 55 12).toInt ≤ 12) ∧ (0 ≤ (σ 55 13).toInt ∧ (σ 55 13).toInt ≤ 999) ∧ (∀ k : Nat, k < 8 → 0 ≤ (σ 62 k).toInt ∧ (σ 62 k).toInt ≤ 3) ∧ (∀ k : Nat, k < 8 → 0 ≤ (σ 67 k).toInt ∧ (σ 67 k).toInt ≤ 3) := id hI104
  obtain ⟨i38, w39⟩ : (0 ≤ (σ 55 15).toInt ∧ (σ 55 15).toInt ≤ 80) ∧ (∀ k : Nat, k < 2 → (-1) ≤ (σ 65 k).toInt ∧ (σ 65 k).toInt ≤ 80) := id hI105
  obtain ⟨i40, w41, w42, w43⟩ : (0 ≤ (σ 55 32).toInt ∧ (σ 55 32).toInt ≤ 20) ∧ (∀ k : Nat, k < 20 → 0 ≤ (σ 70 k).toInt ∧ (σ 70 k).toInt ≤ 6) ∧ (∀ k : Nat, k < 20 → 0 ≤ (σ 71 k).toInt ∧ (σ 71 k).toInt ≤ 8) ∧ (∀ k : Nat, k < 160 → 0 ≤ (σ 72 k).toInt ∧ (σ 72 k).toInt ≤ 3) := id hI106
  obtain ⟨i44, i45, w46⟩ : (0 ≤ (σ 55 47).toInt ∧ (σ 55 47).toInt ≤ 12) ∧ ((σ 55 47).toInt ≤ (σ 55 12).toInt) ∧ (∀ k : Nat, k < 12 → 0 ≤ (σ 80 k).toInt ∧ (σ 80 k).toInt ≤ 3) := id hI107
  have hs_jOk3 : jOk3 σ := hr0.ok hr1.1
  refine lv_aload_n hx hb dL_law_773 rfl (lv_at hl 2 rfl) ?_
  refine lv_aload_n hx hb dL_law_774 rfl (lv_at hl 3 rfl) ?_
  refine lv_iload_n hx hb dL_law_775 rfl (lv_at hl 0 rfl) ?_
  refine lv_iconst (v := 1) hx hb dL_law_776 (by decide) ?_
  have g47 := jrg (rfl : x0.toInt = x0.toInt)
  refine lv_iadd hx hb dL_law_777 ?_
  refine lv_topi (fun x48 ex48 => ?_)
  have tx48 : x48.toInt = x0.toInt + 1 := (jadd ex48 rfl jz_1 (by omega) (by omega)).trans (by omega)
  refine va_sld hx hb hX hbl hbA hS (jin tx48 (by omega) (by omega)) dL_law_778 ?_
  have g49 := jrg (rfl : (xs x48.toNatClampNeg).toInt = (xs x48.toNatClampNeg).toInt)
  refine lv_aload_n hx hb dL_law_779 rfl (lv_at hl 3 rfl) ?_
  refine lv_iload_n hx hb dL_law_780 rfl (lv_at hl 0 rfl) ?_
  refine lv_iconst (v := 2) hx hb dL_law_781 (by decide) ?_
  refine lv_iadd hx hb dL_law_782 ?_
  refine lv_topi (fun x50 ex50 => ?_)
  have tx50 : x50.toInt = x0.toInt + 2 := (jadd ex50 rfl jz_2 (by omega) (by omega)).trans (by omega)
  refine va_sld hx hb hX hbl hbA hS (jin tx50 (by omega) (by omega)) dL_law_783 ?_
  have g51 := jrg (rfl : (xs x50.toNatClampNeg).toInt = (xs x50.toNatClampNeg).toInt)
  refine jcallV (As := [.int (xs x48.toNatClampNeg), .int (xs x50.toNatClampNeg)]) (rest := []) ⟨hx, hb, hml, hown, hts⟩ hK hP hA hS hZ (c_X11_book l D cI cL ad zz hJ σ τ (xs x48.toNatClampNeg) ((xs x48.toNatClampNeg).toInt) rfl (xs x50.toNatClampNeg) ((xs x50.toNatClampNeg).toInt) rfl hI2 hI16 hI47) cw_RL_93 (jc_0 cI cL ad σ τ) rfl ⟨Nat.le_of_ble_eq_true rfl, Nat.le_of_ble_eq_true rfl⟩ rfl rfl rfl hl.1 rfl (Nat.le_of_ble_eq_true rfl) dL_law_784 ⟨Nat.le_of_ble_eq_true rfl, Nat.le_of_ble_eq_true rfl⟩ (fun r53 σ52 τ52 H locs h52 hP hS => ?_)
  obtain ⟨rfl, f54, f55, I56, w57, h52⟩ := h52
  obtain ⟨i59, w60, w61⟩ : (0 ≤ (σ52 47 0).toInt ∧ (σ52 47 0).toInt ≤ 12) ∧ (∀ k : Nat, k < 12 → 0 ≤ (σ52 48 k).toInt ∧ (σ52 48 k).toInt ≤ 3) ∧ (∀ k : Nat, k < 12 → 0 ≤ (σ52 49 k).toInt ∧ (σ52 49 k).toInt ≤ 1) := id I56
  refine lv_pop hx hb dL_law_787 rfl ?_
  refine lv_aload_n hx hb dL_law_788 rfl (lv_at hl 1 rfl) ?_
  refine lv_aload_n hx hb dL_law_789 rfl (lv_at hl 3 rfl) ?_
  refine lv_iload_n hx hb dL_law_790 rfl (lv_at hl 0 rfl) ?_
  refine lv_iconst (v := 1) hx hb dL_law_791 (by decide) ?_
  refine lv_iadd hx hb dL_law_792 ?_
  refine jtopr ex48.symm ?_
  refine va_sld hx hb hX hbl hbA hS (jin tx48 (by omega) (by omega)) dL_law_793 ?_
  refine lv_aload_n hx hb dL_law_794 rfl (lv_at hl 3 rfl) ?_
  refine lv_iload_n hx hb dL_law_795 rfl (lv_at hl 0 rfl) ?_
  refine lv_iconst (v := 2) hx hb dL_law_796 (by decide) ?_
  refine lv_iadd hx hb dL_law_797 ?_
  refine jtopr ex50.symm ?_
  refine va_sld hx hb hX hbl hbA hS (jin tx50 (by omega) (by omega)) dL_law_798 ?_
  have I62 : jI102 σ52 := jI102_fr (congrFun (f54 55 (by decide)) 6) (f54 60 (by decide)) (f54 61 (by decide)) hI102
  have I63 : jI104 σ52 := jI104_fr (congrFun (f54 55 (by decide)) 10) (congrFun (f54 55 (by decide)) 12) (congrFun (f54 55 (by decide)) 13) (f54 62 (by decide)) (f54 67 (by decide)) hI104
  have I64 : jI107 σ52 := jI107_fr (congrFun (f54 55 (by decide)) 12) (congrFun (f54 55 (by decide)) 47) (f54 80 (by decide)) hI107
  have w65 : ∀ k : Nat, k < 4 → 0 ≤ (σ 68 k).toInt ∧ (σ 68 k).toInt ≤ 3 := hI119
  have w66 : ∀ k : Nat, k < 4 → 0 ≤ (σ52 68 k).toInt ∧ (σ52 68 k).toInt ≤ 3 := (jrr_fr (f54 68 (by decide)) w65)
  have p67 : jBook σ52 := jBook.fr (congrFun (f54 55 (by decide)) 47) (congrFun (f54 55 (by decide)) 10) (f54 81 (by decide)) hs_jBook
  have z68 : (σ52 55 47).toInt = (σ 55 47).toInt := (congrArg Int32.toInt (show σ52 55 47 = (σ 55 47) from (congrFun (f54 55 (by decide)) 47)))
  refine jcallV (As := [.int (xs x48.toNatClampNeg), .int (xs x50.toNatClampNeg)]) (rest := []) ⟨hx, hb, hml, hown, hts⟩ hK hP hA hS hZ (c_X12_book l D cI cL ad zz hJ σ52 τ (xs x48.toNatClampNeg) ((xs x48.toNatClampNeg).toInt) rfl (xs x50.toNatClampNeg) ((xs x50.toNatClampNeg).toInt) rfl I62 I63 I64 w66 p67) cw_RL_96 (jc_55 cI cL ad σ52 τ) rfl ⟨Nat.le_of_ble_eq_true rfl, Nat.le_of_ble_eq_true rfl⟩ rfl rfl rfl hl.1 rfl (Nat.le_of_ble_eq_true rfl) dL_law_799 ⟨Nat.le_of_ble_eq_true rfl, Nat.le_of_ble_eq_true rfl⟩ (fun r70 σ69 τ69 H locs h69 hP hS => ?_)
  obtain ⟨rfl, f71, f72, I73, w74, p75, w76, h69⟩ := h69
  obtain ⟨i78, i79, w80⟩ : (0 ≤ (σ69 55 47).toInt ∧ (σ69 55 47).toInt ≤ 12) ∧ ((σ69 55 47).toInt ≤ (σ69 55 12).toInt) ∧ (∀ k : Nat, k < 12 → 0 ≤ (σ69 80 k).toInt ∧ (σ69 80 k).toInt ≤ 3) := id I73
  have z81 : (σ52 55 6).toInt = (σ 55 6).toInt := (congrArg Int32.toInt (show σ52 55 6 = (σ 55 6) from (congrFun (f54 55 (by decide)) 6)))
  have z82 : (σ52 55 10).toInt = (σ 55 10).toInt := (congrArg Int32.toInt (show σ52 55 10 = (σ 55 10) from (congrFun (f54 55 (by decide)) 10)))
  have z83 : (σ52 55 12).toInt = (σ 55 12).toInt := (congrArg Int32.toInt (show σ52 55 12 = (σ 55 12) from (congrFun (f54 55 (by decide)) 12)))
  have z84 : (σ52 55 30).toInt = (σ 55 30).toInt := (congrArg Int32.toInt (show σ52 55 30 = (σ 55 30) from (congrFun (f54 55 (by decide)) 30)))
  have z85 : (σ52 55 31).toInt = (σ 55 31).toInt := (congrArg Int32.toInt (show σ52 55 31 = (σ 55 31) from (congrFun (f54 55 (by decide)) 31)))
  rw [show (σ52 55 6).toInt = (σ 55 6).toInt from by omega, show (σ52 55 47).toInt = (σ 55 47).toInt from by omega, show (σ52 55 10).toInt = (σ 55 10).toInt from by omega, show (σ52 55 12).toInt = (σ 55 12).toInt from by omega, show (σ52 55 30).toInt = (σ 55 30).toInt from by omega, show (σ52 55 31).toInt = (σ 55 31).toInt from by omega, show σ52 56 = σ 56 from (f54 56 (by decide)), show σ52 80 = σ 80 from (f54 80 (by decide)), show σ52 81 = σ 81 from (f54 81 (by decide))] at w76
  rw [show (σ 2 0).toInt = (σ 55 6).toInt from by omega, show (σ 47 0).toInt = (σ 55 47).toInt from by omega, show (σ 16 0).toInt = (σ 55 10).toInt from by omega, show (σ 16 1).toInt = (σ 55 12).toInt from by omega] at w57
  have p86 := hr7.bo (by omega) (w57 (hr0.ok hr1.1)) (w76 (by omega) (by omega) hr1.1) Iff.rfl (fun _ => jMy.iff hr7 hr0.t4)
  obtain ⟨k87, k88, p86⟩ := p86
  have z89 : (σ69 55 12).toInt = (σ 55 12).toInt := (congrArg Int32.toInt (show σ69 55 12 = (σ 55 12) from ((f72 12 (by decide)).trans (congrFun (f54 55 (by decide)) 12))))
  rcases h69 with h90 | h91
  · obtain ⟨q94, k92, k93⟩ := h90
    refine lv_pop hx hb dL_law_802 rfl ?_
    refine lv_goto (tgt := 1357) hx hb dL_law_803 (by decide) ?_
    obtain ⟨x95, ex95⟩ : ∃ y : Int32, y = x0 + 6 := ⟨_, rfl⟩
    have tx95 : x95.toInt = x0.toInt + 6 := (jadd ex95 rfl jz_6 (by omega) (by omega)).trans (by omega)
    refine lv_iinc (v := x95) (lv' := [(3, .int x95), (2, .ref (ad 55)), (1, .ref (ad 0)), (0, .ref b)]) hx hb dL_law_1357 hl (k := 0) rfl (by rw [ex95]; rfl) (by decide) rfl (fun ls hl => ?_)
    refine lv_goto (tgt := 18) hx hb dL_law_1360 (by decide) ?_
    have I96 : jI2 σ69 := jI2_fr ((congrFun (f71 2 (by decide)) 0).trans (congrFun (f54 2 (by decide)) 0)) ((congrFun (f71 2 (by decide)) 1).trans (congrFun (f54 2 (by decide)) 1)) ((congrFun (f71 2 (by decide)) 2).trans (congrFun (f54 2 (by decide)) 2)) ((congrFun (f71 2 (by decide)) 3).trans (congrFun (f54 2 (by decide)) 3)) ((f71 6 (by decide)).trans (f54 6 (by decide))) hI2
    have I97 : jI9 σ69 := jI9_fr ((congrFun (f71 9 (by decide)) 0).trans (congrFun (f54 9 (by decide)) 0)) ((f71 10 (by decide)).trans (f54 10 (by decide))) ((f71 11 (by decide)).trans (f54 11 (by decide))) hI9
    have I98 : jI12 σ69 := jI12_fr ((congrFun (f71 12 (by decide)) 0).trans (congrFun (f54 12 (by decide)) 0)) ((f71 13 (by decide)).trans (f54 13 (by decide))) hI12
    have I99 : jI16 σ69 := jI16_fr ((congrFun (f71 16 (by decide)) 0).trans (congrFun (f54 16 (by decide)) 0)) ((congrFun (f71 16 (by decide)) 1).trans (congrFun (f54 16 (by decide)) 1)) ((congrFun (f71 16 (by decide)) 2).trans (congrFun (f54 16 (by decide)) 2)) ((f71 17 (by decide)).trans (f54 17 (by decide))) hI16
    have I100 : jI18 σ69 := jI18_fr ((congrFun (f71 18 (by decide)) 0).trans (congrFun (f54 18 (by decide)) 0)) ((f71 19 (by decide)).trans (f54 19 (by decide))) hI18
    have I101 : jI22 σ69 := jI22_fr ((congrFun (f71 22 (by decide)) 0).trans (congrFun (f54 22 (by decide)) 0)) ((f71 23 (by decide)).trans (f54 23 (by decide))) hI22
    have I102 : jI31 σ69 := jI31_fr ((congrFun (f71 31 (by decide)) 8).trans (congrFun (f54 31 (by decide)) 8)) ((congrFun (f71 31 (by decide)) 10).trans (congrFun (f54 31 (by decide)) 10)) ((congrFun (f71 31 (by decide)) 11).trans (congrFun (f54 31 (by decide)) 11)) ((f71 33 (by decide)).trans (f54 33 (by decide))) ((f71 35 (by decide)).trans (f54 35 (by decide))) ((f71 36 (by decide)).trans (f54 36 (by decide))) hI31
    have I103 : jI38 σ69 := jI38_fr ((congrFun (f71 38 (by decide)) 0).trans (congrFun (f54 38 (by decide)) 0)) ((congrFun (f71 38 (by decide)) 1).trans (congrFun (f54 38 (by decide)) 1)) ((f71 39 (by decide)).trans (f54 39 (by decide))) hI38
    have I104 : jI43 σ69 := jI43_fr ((congrFun (f71 43 (by decide)) 8).trans (congrFun (f54 43 (by decide)) 8)) hI43
    have I105 : jI47 σ69 := jI47_fr (congrFun (f71 47 (by decide)) 0) (f71 48 (by decide)) (f71 49 (by decide)) I56
    have I106 : jI50 σ69 := jI50_fr ((f71 52 (by decide)).trans (f54 52 (by decide))) hI50
    have I107 : jI0 σ69 := jI0_fr ((f71 1 (by decide)).trans (f54 1 (by decide))) hI0
    have I108 : jI26 σ69 := jI26_fr ((congrFun (f71 26 (by decide)) 6).trans (congrFun (f54 26 (by decide)) 6)) hI26
    have I109 : jI101 σ69 := jI101_fr ((f72 4 (by decide)).trans (congrFun (f54 55 (by decide)) 4)) ((f72 5 (by decide)).trans (congrFun (f54 55 (by decide)) 5)) ((f71 56 (by decide)).trans (f54 56 (by decide))) ((f71 57 (by decide)).trans (f54 57 (by decide))) ((f71 58 (by decide)).trans (f54 58 (by decide))) ((f71 59 (by decide)).trans (f54 59 (by decide))) hI101
    have I110 : jI102 σ69 := jI102_fr (f72 6 (by decide)) (f71 60 (by decide)) (f71 61 (by decide)) I62
    have I111 : jI103 σ69 := jI103_fr ((f72 9 (by decide)).trans (congrFun (f54 55 (by decide)) 9)) hI103
    have I112 : jI104 σ69 := jI104_fr (f72 10 (by decide)) (f72 12 (by decide)) (f72 13 (by decide)) (f71 62 (by decide)) (f71 67 (by decide)) I63
    have I113 : jI105 σ69 := jI105_fr ((f72 15 (by decide)).trans (congrFun (f54 55 (by decide)) 15)) ((f71 65 (by decide)).trans (f54 65 (by decide))) hI105
    have I114 : jI106 σ69 := jI106_fr ((f72 32 (by decide)).trans (congrFun (f54 55 (by decide)) 32)) ((f71 70 (by decide)).trans (f54 70 (by decide))) ((f71 71 (by decide)).trans (f54 71 (by decide))) ((f71 72 (by decide)).trans (f54 72 (by decide))) hI106
    have I115 : jI109 σ69 := jI109_fr ((f72 50 (by decide)).trans (congrFun (f54 55 (by decide)) 50)) hI109
    have I116 : jI110 σ69 := jI110_fr ((f71 86 (by decide)).trans (f54 86 (by decide))) ((f71 87 (by decide)).trans (f54 87 (by decide))) hI110
    have I117 : jI111 σ69 := jI111_fr ((f71 79 (by decide)).trans (f54 79 (by decide))) hI111
    have I118 : jI119 σ69 := w74
    have p119 : jKept σ69 := jKept.fr ((f71 75 (by decide)).trans (f54 75 (by decide))) ((f71 76 (by decide)).trans (f54 76 (by decide))) ((f71 77 (by decide)).trans (f54 77 (by decide))) hs_jKept
    have p120 : jNd12 σ69 := jNd12.fr ((congrFun (f71 12 (by decide)) 0).trans (congrFun (f54 12 (by decide)) 0)) ((congrFun (f71 12 (by decide)) 1).trans (congrFun (f54 12 (by decide)) 1)) ((f71 13 (by decide)).trans (f54 13 (by decide))) hs_jNd12
    have p121 : jN67 σ69 := jN67.fr ((f71 24 (by decide)).trans (f54 24 (by decide))) hs_jN67
    have p122 : jBl σ69 := jBl.fr ((congrFun (f71 22 (by decide)) 0).trans (congrFun (f54 22 (by decide)) 0)) ((congrFun (f71 22 (by decide)) 1).trans (congrFun (f54 22 (by decide)) 1)) ((f71 23 (by decide)).trans (f54 23 (by decide))) ((congrFun (f71 26 (by decide)) 6).trans (congrFun (f54 26 (by decide)) 6)) ((congrFun (f71 26 (by decide)) 7).trans (congrFun (f54 26 (by decide)) 7)) ((f71 29 (by decide)).trans (f54 29 (by decide))) ((f71 30 (by decide)).trans (f54 30 (by decide))) hs_jBl
    have p123 : jKb σ69 := jKb.fr ((congrFun (f71 31 (by decide)) 8).trans (congrFun (f54 31 (by decide)) 8)) ((congrFun (f71 31 (by decide)) 11).trans (congrFun (f54 31 (by decide)) 11)) ((f71 32 (by decide)).trans (f54 32 (by decide))) hs_jKb
    have p124 : jTR σ69 := jTR.fr ((f71 64 (by decide)).trans (f54 64 (by decide))) ((f71 65 (by decide)).trans (f54 65 (by decide))) hs_jTR
    have p125 : jKh σ69 := jKh.fr ((congrFun (f71 31 (by decide)) 8).trans (congrFun (f54 31 (by decide)) 8)) ((f71 32 (by decide)).trans (f54 32 (by decide))) ((f71 36 (by decide)).trans (f54 36 (by decide))) ((f71 37 (by decide)).trans (f54 37 (by decide))) hs_jKh
    have p126 : jKg σ69 := jKg.fr ((congrFun (f71 31 (by decide)) 8).trans (congrFun (f54 31 (by decide)) 8)) ((congrFun (f71 31 (by decide)) 9).trans (congrFun (f54 31 (by decide)) 9)) ((congrFun (f71 31 (by decide)) 11).trans (congrFun (f54 31 (by decide)) 11)) ((congrFun (f71 31 (by decide)) 12).trans (congrFun (f54 31 (by decide)) 12)) ((f71 32 (by decide)).trans (f54 32 (by decide))) ((f71 33 (by decide)).trans (f54 33 (by decide))) hs_jKg
    have z127 : (σ69 2 0).toInt = (σ 2 0).toInt := (congrArg Int32.toInt (show σ69 2 0 = (σ 2 0) from ((congrFun (f71 2 (by decide)) 0).trans (congrFun (f54 2 (by decide)) 0))))
    have z128 : (σ69 55 6).toInt = (σ 55 6).toInt := (congrArg Int32.toInt (show σ69 55 6 = (σ 55 6) from ((f72 6 (by decide)).trans (congrFun (f54 55 (by decide)) 6))))
    have z129 : (σ69 2 2).toInt = (σ 2 2).toInt := (congrArg Int32.toInt (show σ69 2 2 = (σ 2 2) from ((congrFun (f71 2 (by decide)) 2).trans (congrFun (f54 2 (by decide)) 2))))
    have z130 : (σ69 55 5).toInt = (σ 55 5).toInt := (congrArg Int32.toInt (show σ69 55 5 = (σ 55 5) from ((f72 5 (by decide)).trans (congrFun (f54 55 (by decide)) 5))))
    have z131 : (σ69 2 3).toInt = (σ 2 3).toInt := (congrArg Int32.toInt (show σ69 2 3 = (σ 2 3) from ((congrFun (f71 2 (by decide)) 3).trans (congrFun (f54 2 (by decide)) 3))))
    have z132 : (σ69 55 4).toInt = (σ 55 4).toInt := (congrArg Int32.toInt (show σ69 55 4 = (σ 55 4) from ((f72 4 (by decide)).trans (congrFun (f54 55 (by decide)) 4))))
    have z133 : (σ69 9 0).toInt = (σ 9 0).toInt := (congrArg Int32.toInt (show σ69 9 0 = (σ 9 0) from ((congrFun (f71 9 (by decide)) 0).trans (congrFun (f54 9 (by decide)) 0))))
    have z134 : (σ69 55 15).toInt = (σ 55 15).toInt := (congrArg Int32.toInt (show σ69 55 15 = (σ 55 15) from ((f72 15 (by decide)).trans (congrFun (f54 55 (by decide)) 15))))
    have z135 : (σ69 16 0).toInt = (σ 16 0).toInt := (congrArg Int32.toInt (show σ69 16 0 = (σ 16 0) from ((congrFun (f71 16 (by decide)) 0).trans (congrFun (f54 16 (by decide)) 0))))
    have z136 : (σ69 55 10).toInt = (σ 55 10).toInt := (congrArg Int32.toInt (show σ69 55 10 = (σ 55 10) from ((f72 10 (by decide)).trans (congrFun (f54 55 (by decide)) 10))))
    have z137 : (σ69 16 1).toInt = (σ 16 1).toInt := (congrArg Int32.toInt (show σ69 16 1 = (σ 16 1) from ((congrFun (f71 16 (by decide)) 1).trans (congrFun (f54 16 (by decide)) 1))))
    have z138 : (σ69 16 2).toInt = (σ 16 2).toInt := (congrArg Int32.toInt (show σ69 16 2 = (σ 16 2) from ((congrFun (f71 16 (by decide)) 2).trans (congrFun (f54 16 (by decide)) 2))))
    have z139 : (σ69 55 13).toInt = (σ 55 13).toInt := (congrArg Int32.toInt (show σ69 55 13 = (σ 55 13) from ((f72 13 (by decide)).trans (congrFun (f54 55 (by decide)) 13))))
    have z140 : (σ69 38 0).toInt = (σ 38 0).toInt := (congrArg Int32.toInt (show σ69 38 0 = (σ 38 0) from ((congrFun (f71 38 (by decide)) 0).trans (congrFun (f54 38 (by decide)) 0))))
    have z141 : (σ69 55 32).toInt = (σ 55 32).toInt := (congrArg Int32.toInt (show σ69 55 32 = (σ 55 32) from ((f72 32 (by decide)).trans (congrFun (f54 55 (by decide)) 32))))
    have z142 : (σ69 38 1).toInt = (σ 38 1).toInt := (congrArg Int32.toInt (show σ69 38 1 = (σ 38 1) from ((congrFun (f71 38 (by decide)) 1).trans (congrFun (f54 38 (by decide)) 1))))
    have z143 : (σ69 55 55).toInt = (σ 55 55).toInt := (congrArg Int32.toInt (show σ69 55 55 = (σ 55 55) from ((f72 55 (by decide)).trans (congrFun (f54 55 (by decide)) 55))))
    have z144 : (σ69 47 0).toInt = (σ52 47 0).toInt := (congrArg Int32.toInt (show σ69 47 0 = (σ52 47 0) from (congrFun (f71 47 (by decide)) 0)))
    have z145 : (σ69 55 30).toInt = (σ 55 30).toInt := (congrArg Int32.toInt (show σ69 55 30 = (σ 55 30) from ((f72 30 (by decide)).trans (congrFun (f54 55 (by decide)) 30))))
    have z146 : (σ69 55 31).toInt = (σ 55 31).toInt := (congrArg Int32.toInt (show σ69 55 31 = (σ 55 31) from ((f72 31 (by decide)).trans (congrFun (f54 55 (by decide)) 31))))
    have z147 : (σ69 2 1).toInt = (σ 2 1).toInt := (congrArg Int32.toInt (show σ69 2 1 = (σ 2 1) from ((congrFun (f71 2 (by decide)) 1).trans (congrFun (f54 2 (by decide)) 1))))
    have z148 : (σ69 55 9).toInt = (σ 55 9).toInt := (congrArg Int32.toInt (show σ69 55 9 = (σ 55 9) from ((f72 9 (by decide)).trans (congrFun (f54 55 (by decide)) 9))))
    have z149 : (σ69 26 6).toInt = (σ 26 6).toInt := (congrArg Int32.toInt (show σ69 26 6 = (σ 26 6) from ((congrFun (f71 26 (by decide)) 6).trans (congrFun (f54 26 (by decide)) 6))))
    have z151 : (σ69 18 0).toInt = (σ 18 0).toInt := (congrArg Int32.toInt (show σ69 18 0 = (σ 18 0) from ((congrFun (f71 18 (by decide)) 0).trans (congrFun (f54 18 (by decide)) 0))))
    have z152 : (σ69 22 0).toInt = (σ 22 0).toInt := (congrArg Int32.toInt (show σ69 22 0 = (σ 22 0) from ((congrFun (f71 22 (by decide)) 0).trans (congrFun (f54 22 (by decide)) 0))))
    exact ih x95 σ69 τ _ _ ls (by have h9 := tx95; omega) ⟨I96, I97, I98, I99, I100, I101, I102, I103, I104, I105, I106, I107, I108, I109, I110, I111, I112, I113, I114, I73, I115, I116, I117, I118, p119, p75, p120, p121, p122, p123, p124, p125, p126, (by omega), (by omega), (by omega), (by omega), (by omega), (by omega), (by omega), (by omega), (by omega), (by omega), (by omega), (by omega), (by omega), (by have h9 := tx95; omega), (show jNumP (σ69 3) (σ69 56) (σ69 6) (σ69 57) (σ69 7) (σ69 58) (σ69 8) (σ69 59) (σ69 55 6).toInt (σ69 55 4).toInt by rw [show σ69 3 = σ 3 from ((f71 3 (by decide)).trans (f54 3 (by decide))), show σ69 56 = σ 56 from ((f71 56 (by decide)).trans (f54 56 (by decide))), show σ69 6 = σ 6 from ((f71 6 (by decide)).trans (f54 6 (by decide))), show σ69 57 = σ 57 from ((f71 57 (by decide)).trans (f54 57 (by decide))), show σ69 7 = σ 7 from ((f71 7 (by decide)).trans (f54 7 (by decide))), show σ69 58 = σ 58 from ((f71 58 (by decide)).trans (f54 58 (by decide))), show σ69 8 = σ 8 from ((f71 8 (by decide)).trans (f54 8 (by decide))), show σ69 59 = σ 59 from ((f71 59 (by decide)).trans (f54 59 (by decide))), show (σ69 55 6).toInt = (σ 55 6).toInt from by omega, show (σ69 55 4).toInt = (σ 55 4).toInt from by omega]; exact hr0), (show jOvP (σ69 56) (σ69 57) (σ69 58) (σ69 59) (σ69 55 4).toInt by rw [show σ69 56 = σ 56 from ((f71 56 (by decide)).trans (f54 56 (by decide))), show σ69 57 = σ 57 from ((f71 57 (by decide)).trans (f54 57 (by decide))), show σ69 58 = σ 58 from ((f71 58 (by decide)).trans (f54 58 (by decide))), show σ69 59 = σ 59 from ((f71 59 (by decide)).trans (f54 59 (by decide))), show (σ69 55 4).toInt = (σ 55 4).toInt from by omega]; exact hr1), (show jTp (σ69 10) (σ69 63) (σ69 55 15).toInt by rw [show σ69 10 = σ 10 from ((f71 10 (by decide)).trans (f54 10 (by decide))), show σ69 63 = σ 63 from ((f71 63 (by decide)).trans (f54 63 (by decide)))]; exact hr2.le (by omega)), (show jSo (σ69 17) (σ69 62) (σ69 16 0).toInt by rw [show σ69 17 = σ 17 from ((f71 17 (by decide)).trans (f54 17 (by decide))), show σ69 62 = σ 62 from ((f71 62 (by decide)).trans (f54 62 (by decide))), show (σ69 16 0).toInt = (σ 16 0).toInt from by omega]; exact hr3), (show jShP (σ69 51) (σ69 52) (σ69 53) (σ69 86) (σ69 87) (σ69 55 32).toInt by rw [show σ69 51 = σ 51 from ((f71 51 (by decide)).trans (f54 51 (by decide))), show σ69 52 = σ 52 from ((f71 52 (by decide)).trans (f54 52 (by decide))), show σ69 53 = σ 53 from ((f71 53 (by decide)).trans (f54 53 (by decide))), show σ69 86 = σ 86 from ((f71 86 (by decide)).trans (f54 86 (by decide))), show σ69 87 = σ 87 from ((f71 87 (by decide)).trans (f54 87 (by decide)))]; exact (hr4.up (by omega) (by omega))), (show jEl (σ69 51) (σ69 52) (τ 54) (τ 88) by rw [show σ69 51 = σ 51 from ((f71 51 (by decide)).trans (f54 51 (by decide))), show σ69 52 = σ 52 from ((f71 52 (by decide)).trans (f54 52 (by decide)))]; exact hr5), (show jByP (σ69 51) (σ69 52) (τ 54) by rw [show σ69 51 = σ 51 from ((f71 51 (by decide)).trans (f54 51 (by decide))), show σ69 52 = σ 52 from ((f71 52 (by decide)).trans (f54 52 (by decide)))]; exact hr6), (show jBk (σ69 48) (σ69 80) (σ69 49) (σ69 81) (σ69 55 47).toInt by rw [show σ69 48 = σ52 48 from (f71 48 (by decide)), show σ69 49 = σ52 49 from (f71 49 (by decide)), show (σ69 55 47).toInt = (σ52 47 0).toInt from by omega]; exact p86), (show jKd (σ69 39) (σ69 70) (σ69 55 32).toInt by rw [show σ69 39 = σ 39 from ((f71 39 (by decide)).trans (f54 39 (by decide))), show σ69 70 = σ 70 from ((f71 70 (by decide)).trans (f54 70 (by decide))), show (σ69 55 32).toInt = (σ 55 32).toInt from by omega]; exact hr8), (show jTt (σ69 42) (σ69 85) (σ69 55 55).toInt by rw [show σ69 42 = σ 42 from ((f71 42 (by decide)).trans (f54 42 (by decide))), show σ69 85 = σ 85 from ((f71 85 (by decide)).trans (f54 85 (by decide))), show (σ69 55 55).toInt = (σ 55 55).toInt from by omega]; exact hr9), (fun k hk => by rw [show σ69 4 = σ 4 from ((f71 4 (by decide)).trans (f54 4 (by decide))), show σ69 5 = σ 5 from ((f71 5 (by decide)).trans (f54 5 (by decide))), show σ69 60 = σ 60 from ((f71 60 (by decide)).trans (f54 60 (by decide))), show σ69 61 = σ 61 from ((f71 61 (by decide)).trans (f54 61 (by decide)))]; exact hr10 k (by omega)), (fun nm => by rw [show σ69 19 = σ 19 from ((f71 19 (by decide)).trans (f54 19 (by decide))), show σ69 64 = σ 64 from ((f71 64 (by decide)).trans (f54 64 (by decide))), show σ69 65 = σ 65 from ((f71 65 (by decide)).trans (f54 65 (by decide))), show (σ69 18 0).toInt = (σ 18 0).toInt from by omega]; exact hr11 nm), (fun nm => by rw [show σ69 23 = σ 23 from ((f71 23 (by decide)).trans (f54 23 (by decide))), show σ69 64 = σ 64 from ((f71 64 (by decide)).trans (f54 64 (by decide))), show σ69 65 = σ 65 from ((f71 65 (by decide)).trans (f54 65 (by decide))), show (σ69 22 0).toInt = (σ 22 0).toInt from by omega]; exact hr12 nm)⟩ hP hS (lv_sub hl [0, 1, 2, 3] rfl)
  · obtain ⟨q155, k153, k154⟩ := h91
    refine lv_pop hx hb dL_law_802 rfl ?_
    refine lv_goto (tgt := 1357) hx hb dL_law_803 (by decide) ?_
    obtain ⟨x156, ex156⟩ : ∃ y : Int32, y = x0 + 6 := ⟨_, rfl⟩
    have tx156 : x156.toInt = x0.toInt + 6 := (jadd ex156 rfl jz_6 (by omega) (by omega)).trans (by omega)
    refine lv_iinc (v := x156) (lv' := [(3, .int x156), (2, .ref (ad 55)), (1, .ref (ad 0)), (0, .ref b)]) hx hb dL_law_1357 hl (k := 0) rfl (by rw [ex156]; rfl) (by decide) rfl (fun ls hl => ?_)
    refine lv_goto (tgt := 18) hx hb dL_law_1360 (by decide) ?_
    have I157 : jI2 σ69 := jI2_fr ((congrFun (f71 2 (by decide)) 0).trans (congrFun (f54 2 (by decide)) 0)) ((congrFun (f71 2 (by decide)) 1).trans (congrFun (f54 2 (by decide)) 1)) ((congrFun (f71 2 (by decide)) 2).trans (congrFun (f54 2 (by decide)) 2)) ((congrFun (f71 2 (by decide)) 3).trans (congrFun (f54 2 (by decide)) 3)) ((f71 6 (by decide)).trans (f54 6 (by decide))) hI2
    have I158 : jI9 σ69 := jI9_fr ((congrFun (f71 9 (by decide)) 0).trans (congrFun (f54 9 (by decide)) 0)) ((f71 10 (by decide)).trans (f54 10 (by decide))) ((f71 11 (by decide)).trans (f54 11 (by decide))) hI9
    have I159 : jI12 σ69 := jI12_fr ((congrFun (f71 12 (by decide)) 0).trans (congrFun (f54 12 (by decide)) 0)) ((f71 13 (by decide)).trans (f54 13 (by decide))) hI12
    have I160 : jI16 σ69 := jI16_fr ((congrFun (f71 16 (by decide)) 0).trans (congrFun (f54 16 (by decide)) 0)) ((congrFun (f71 16 (by decide)) 1).trans (congrFun (f54 16 (by decide)) 1)) ((congrFun (f71 16 (by decide)) 2).trans (congrFun (f54 16 (by decide)) 2)) ((f71 17 (by decide)).trans (f54 17 (by decide))) hI16
    have I161 : jI18 σ69 := jI18_fr ((congrFun (f71 18 (by decide)) 0).trans (congrFun (f54 18 (by decide)) 0)) ((f71 19 (by decide)).trans (f54 19 (by decide))) hI18
    have I162 : jI22 σ69 := jI22_fr ((congrFun (f71 22 (by decide)) 0).trans (congrFun (f54 22 (by decide)) 0)) ((f71 23 (by decide)).trans (f54 23 (by decide))) hI22
    have I163 : jI31 σ69 := jI31_fr ((congrFun (f71 31 (by decide)) 8).trans (congrFun (f54 31 (by decide)) 8)) ((congrFun (f71 31 (by decide)) 10).trans (congrFun (f54 31 (by decide)) 10)) ((congrFun (f71 31 (by decide)) 11).trans (congrFun (f54 31 (by decide)) 11)) ((f71 33 (by decide)).trans (f54 33 (by decide))) ((f71 35 (by decide)).trans (f54 35 (by decide))) ((f71 36 (by decide)).trans (f54 36 (by decide))) hI31
    have I164 : jI38 σ69 := jI38_fr ((congrFun (f71 38 (by decide)) 0).trans (congrFun (f54 38 (by decide)) 0)) ((congrFun (f71 38 (by decide)) 1).trans (congrFun (f54 38 (by decide)) 1)) ((f71 39 (by decide)).trans (f54 39 (by decide))) hI38
    have I165 : jI43 σ69 := jI43_fr ((congrFun (f71 43 (by decide)) 8).trans (congrFun (f54 43 (by decide)) 8)) hI43
    have I166 : jI47 σ69 := jI47_fr (congrFun (f71 47 (by decide)) 0) (f71 48 (by decide)) (f71 49 (by decide)) I56
    have I167 : jI50 σ69 := jI50_fr ((f71 52 (by decide)).trans (f54 52 (by decide))) hI50
    have I168 : jI0 σ69 := jI0_fr ((f71 1 (by decide)).trans (f54 1 (by decide))) hI0
    have I169 : jI26 σ69 := jI26_fr ((congrFun (f71 26 (by decide)) 6).trans (congrFun (f54 26 (by decide)) 6)) hI26
    have I170 : jI101 σ69 := jI101_fr ((f72 4 (by decide)).trans (congrFun (f54 55 (by decide)) 4)) ((f72 5 (by decide)).trans (congrFun (f54 55 (by decide)) 5)) ((f71 56 (by decide)).trans (f54 56 (by decide))) ((f71 57 (by decide)).trans (f54 57 (by decide))) ((f71 58 (by decide)).trans (f54 58 (by decide))) ((f71 59 (by decide)).trans (f54 59 (by decide))) hI101
    have I171 : jI102 σ69 := jI102_fr (f72 6 (by decide)) (f71 60 (by decide)) (f71 61 (by decide)) I62
    have I172 : jI103 σ69 := jI103_fr ((f72 9 (by decide)).trans (congrFun (f54 55 (by decide)) 9)) hI103
    have I173 : jI104 σ69 := jI104_fr (f72 10 (by decide)) (f72 12 (by decide)) (f72 13 (by decide)) (f71 62 (by decide)) (f71 67 (by decide)) I63
    have I174 : jI105 σ69 := jI105_fr ((f72 15 (by decide)).trans (congrFun (f54 55 (by decide)) 15)) ((f71 65 (by decide)).trans (f54 65 (by decide))) hI105
    have I175 : jI106 σ69 := jI106_fr ((f72 32 (by decide)).trans (congrFun (f54 55 (by decide)) 32)) ((f71 70 (by decide)).trans (f54 70 (by decide))) ((f71 71 (by decide)).trans (f54 71 (by decide))) ((f71 72 (by decide)).trans (f54 72 (by decide))) hI106
    have I176 : jI109 σ69 := jI109_fr ((f72 50 (by decide)).trans (congrFun (f54 55 (by decide)) 50)) hI109
    have I177 : jI110 σ69 := jI110_fr ((f71 86 (by decide)).trans (f54 86 (by decide))) ((f71 87 (by decide)).trans (f54 87 (by decide))) hI110
    have I178 : jI111 σ69 := jI111_fr ((f71 79 (by decide)).trans (f54 79 (by decide))) hI111
    have I179 : jI119 σ69 := w74
    have p180 : jKept σ69 := jKept.fr ((f71 75 (by decide)).trans (f54 75 (by decide))) ((f71 76 (by decide)).trans (f54 76 (by decide))) ((f71 77 (by decide)).trans (f54 77 (by decide))) hs_jKept
    have p181 : jNd12 σ69 := jNd12.fr ((congrFun (f71 12 (by decide)) 0).trans (congrFun (f54 12 (by decide)) 0)) ((congrFun (f71 12 (by decide)) 1).trans (congrFun (f54 12 (by decide)) 1)) ((f71 13 (by decide)).trans (f54 13 (by decide))) hs_jNd12
    have p182 : jN67 σ69 := jN67.fr ((f71 24 (by decide)).trans (f54 24 (by decide))) hs_jN67
    have p183 : jBl σ69 := jBl.fr ((congrFun (f71 22 (by decide)) 0).trans (congrFun (f54 22 (by decide)) 0)) ((congrFun (f71 22 (by decide)) 1).trans (congrFun (f54 22 (by decide)) 1)) ((f71 23 (by decide)).trans (f54 23 (by decide))) ((congrFun (f71 26 (by decide)) 6).trans (congrFun (f54 26 (by decide)) 6)) ((congrFun (f71 26 (by decide)) 7).trans (congrFun (f54 26 (by decide)) 7)) ((f71 29 (by decide)).trans (f54 29 (by decide))) ((f71 30 (by decide)).trans (f54 30 (by decide))) hs_jBl
    have p184 : jKb σ69 := jKb.fr ((congrFun (f71 31 (by decide)) 8).trans (congrFun (f54 31 (by decide)) 8)) ((congrFun (f71 31 (by decide)) 11).trans (congrFun (f54 31 (by decide)) 11)) ((f71 32 (by decide)).trans (f54 32 (by decide))) hs_jKb
    have p185 : jTR σ69 := jTR.fr ((f71 64 (by decide)).trans (f54 64 (by decide))) ((f71 65 (by decide)).trans (f54 65 (by decide))) hs_jTR
    have p186 : jKh σ69 := jKh.fr ((congrFun (f71 31 (by decide)) 8).trans (congrFun (f54 31 (by decide)) 8)) ((f71 32 (by decide)).trans (f54 32 (by decide))) ((f71 36 (by decide)).trans (f54 36 (by decide))) ((f71 37 (by decide)).trans (f54 37 (by decide))) hs_jKh
    have p187 : jKg σ69 := jKg.fr ((congrFun (f71 31 (by decide)) 8).trans (congrFun (f54 31 (by decide)) 8)) ((congrFun (f71 31 (by decide)) 9).trans (congrFun (f54 31 (by decide)) 9)) ((congrFun (f71 31 (by decide)) 11).trans (congrFun (f54 31 (by decide)) 11)) ((congrFun (f71 31 (by decide)) 12).trans (congrFun (f54 31 (by decide)) 12)) ((f71 32 (by decide)).trans (f54 32 (by decide))) ((f71 33 (by decide)).trans (f54 33 (by decide))) hs_jKg
    have z188 : (σ69 2 0).toInt = (σ 2 0).toInt := (congrArg Int32.toInt (show σ69 2 0 = (σ 2 0) from ((congrFun (f71 2 (by decide)) 0).trans (congrFun (f54 2 (by decide)) 0))))
    have z189 : (σ69 55 6).toInt = (σ 55 6).toInt := (congrArg Int32.toInt (show σ69 55 6 = (σ 55 6) from ((f72 6 (by decide)).trans (congrFun (f54 55 (by decide)) 6))))
    have z190 : (σ69 2 2).toInt = (σ 2 2).toInt := (congrArg Int32.toInt (show σ69 2 2 = (σ 2 2) from ((congrFun (f71 2 (by decide)) 2).trans (congrFun (f54 2 (by decide)) 2))))
    have z191 : (σ69 55 5).toInt = (σ 55 5).toInt := (congrArg Int32.toInt (show σ69 55 5 = (σ 55 5) from ((f72 5 (by decide)).trans (congrFun (f54 55 (by decide)) 5))))
    have z192 : (σ69 2 3).toInt = (σ 2 3).toInt := (congrArg Int32.toInt (show σ69 2 3 = (σ 2 3) from ((congrFun (f71 2 (by decide)) 3).trans (congrFun (f54 2 (by decide)) 3))))
    have z193 : (σ69 55 4).toInt = (σ 55 4).toInt := (congrArg Int32.toInt (show σ69 55 4 = (σ 55 4) from ((f72 4 (by decide)).trans (congrFun (f54 55 (by decide)) 4))))
    have z194 : (σ69 9 0).toInt = (σ 9 0).toInt := (congrArg Int32.toInt (show σ69 9 0 = (σ 9 0) from ((congrFun (f71 9 (by decide)) 0).trans (congrFun (f54 9 (by decide)) 0))))
    have z195 : (σ69 55 15).toInt = (σ 55 15).toInt := (congrArg Int32.toInt (show σ69 55 15 = (σ 55 15) from ((f72 15 (by decide)).trans (congrFun (f54 55 (by decide)) 15))))
    have z196 : (σ69 16 0).toInt = (σ 16 0).toInt := (congrArg Int32.toInt (show σ69 16 0 = (σ 16 0) from ((congrFun (f71 16 (by decide)) 0).trans (congrFun (f54 16 (by decide)) 0))))
    have z197 : (σ69 55 10).toInt = (σ 55 10).toInt := (congrArg Int32.toInt (show σ69 55 10 = (σ 55 10) from ((f72 10 (by decide)).trans (congrFun (f54 55 (by decide)) 10))))
    have z198 : (σ69 16 1).toInt = (σ 16 1).toInt := (congrArg Int32.toInt (show σ69 16 1 = (σ 16 1) from ((congrFun (f71 16 (by decide)) 1).trans (congrFun (f54 16 (by decide)) 1))))
    have z199 : (σ69 16 2).toInt = (σ 16 2).toInt := (congrArg Int32.toInt (show σ69 16 2 = (σ 16 2) from ((congrFun (f71 16 (by decide)) 2).trans (congrFun (f54 16 (by decide)) 2))))
    have z200 : (σ69 55 13).toInt = (σ 55 13).toInt := (congrArg Int32.toInt (show σ69 55 13 = (σ 55 13) from ((f72 13 (by decide)).trans (congrFun (f54 55 (by decide)) 13))))
    have z201 : (σ69 38 0).toInt = (σ 38 0).toInt := (congrArg Int32.toInt (show σ69 38 0 = (σ 38 0) from ((congrFun (f71 38 (by decide)) 0).trans (congrFun (f54 38 (by decide)) 0))))
    have z202 : (σ69 55 32).toInt = (σ 55 32).toInt := (congrArg Int32.toInt (show σ69 55 32 = (σ 55 32) from ((f72 32 (by decide)).trans (congrFun (f54 55 (by decide)) 32))))
    have z203 : (σ69 38 1).toInt = (σ 38 1).toInt := (congrArg Int32.toInt (show σ69 38 1 = (σ 38 1) from ((congrFun (f71 38 (by decide)) 1).trans (congrFun (f54 38 (by decide)) 1))))
    have z204 : (σ69 55 55).toInt = (σ 55 55).toInt := (congrArg Int32.toInt (show σ69 55 55 = (σ 55 55) from ((f72 55 (by decide)).trans (congrFun (f54 55 (by decide)) 55))))
    have z205 : (σ69 47 0).toInt = (σ52 47 0).toInt := (congrArg Int32.toInt (show σ69 47 0 = (σ52 47 0) from (congrFun (f71 47 (by decide)) 0)))
    have z206 : (σ69 55 30).toInt = (σ 55 30).toInt := (congrArg Int32.toInt (show σ69 55 30 = (σ 55 30) from ((f72 30 (by decide)).trans (congrFun (f54 55 (by decide)) 30))))
    have z207 : (σ69 55 31).toInt = (σ 55 31).toInt := (congrArg Int32.toInt (show σ69 55 31 = (σ 55 31) from ((f72 31 (by decide)).trans (congrFun (f54 55 (by decide)) 31))))
    have z208 : (σ69 2 1).toInt = (σ 2 1).toInt := (congrArg Int32.toInt (show σ69 2 1 = (σ 2 1) from ((congrFun (f71 2 (by decide)) 1).trans (congrFun (f54 2 (by decide)) 1))))
    have z209 : (σ69 55 9).toInt = (σ 55 9).toInt := (congrArg Int32.toInt (show σ69 55 9 = (σ 55 9) from ((f72 9 (by decide)).trans (congrFun (f54 55 (by decide)) 9))))
    have z210 : (σ69 26 6).toInt = (σ 26 6).toInt := (congrArg Int32.toInt (show σ69 26 6 = (σ 26 6) from ((congrFun (f71 26 (by decide)) 6).trans (congrFun (f54 26 (by decide)) 6))))
    have z212 : (σ69 18 0).toInt = (σ 18 0).toInt := (congrArg Int32.toInt (show σ69 18 0 = (σ 18 0) from ((congrFun (f71 18 (by decide)) 0).trans (congrFun (f54 18 (by decide)) 0))))
    have z213 : (σ69 22 0).toInt = (σ 22 0).toInt := (congrArg Int32.toInt (show σ69 22 0 = (σ 22 0) from ((congrFun (f71 22 (by decide)) 0).trans (congrFun (f54 22 (by decide)) 0))))
    exact ih x156 σ69 τ _ _ ls (by have h9 := tx156; omega) ⟨I157, I158, I159, I160, I161, I162, I163, I164, I165, I166, I167, I168, I169, I170, I171, I172, I173, I174, I175, I73, I176, I177, I178, I179, p180, p75, p181, p182, p183, p184, p185, p186, p187, (by omega), (by omega), (by omega), (by omega), (by omega), (by omega), (by omega), (by omega), (by omega), (by omega), (by omega), (by omega), (by omega), (by have h9 := tx156; omega), (show jNumP (σ69 3) (σ69 56) (σ69 6) (σ69 57) (σ69 7) (σ69 58) (σ69 8) (σ69 59) (σ69 55 6).toInt (σ69 55 4).toInt by rw [show σ69 3 = σ 3 from ((f71 3 (by decide)).trans (f54 3 (by decide))), show σ69 56 = σ 56 from ((f71 56 (by decide)).trans (f54 56 (by decide))), show σ69 6 = σ 6 from ((f71 6 (by decide)).trans (f54 6 (by decide))), show σ69 57 = σ 57 from ((f71 57 (by decide)).trans (f54 57 (by decide))), show σ69 7 = σ 7 from ((f71 7 (by decide)).trans (f54 7 (by decide))), show σ69 58 = σ 58 from ((f71 58 (by decide)).trans (f54 58 (by decide))), show σ69 8 = σ 8 from ((f71 8 (by decide)).trans (f54 8 (by decide))), show σ69 59 = σ 59 from ((f71 59 (by decide)).trans (f54 59 (by decide))), show (σ69 55 6).toInt = (σ 55 6).toInt from by omega, show (σ69 55 4).toInt = (σ 55 4).toInt from by omega]; exact hr0), (show jOvP (σ69 56) (σ69 57) (σ69 58) (σ69 59) (σ69 55 4).toInt by rw [show σ69 56 = σ 56 from ((f71 56 (by decide)).trans (f54 56 (by decide))), show σ69 57 = σ 57 from ((f71 57 (by decide)).trans (f54 57 (by decide))), show σ69 58 = σ 58 from ((f71 58 (by decide)).trans (f54 58 (by decide))), show σ69 59 = σ 59 from ((f71 59 (by decide)).trans (f54 59 (by decide))), show (σ69 55 4).toInt = (σ 55 4).toInt from by omega]; exact hr1), (show jTp (σ69 10) (σ69 63) (σ69 55 15).toInt by rw [show σ69 10 = σ 10 from ((f71 10 (by decide)).trans (f54 10 (by decide))), show σ69 63 = σ 63 from ((f71 63 (by decide)).trans (f54 63 (by decide)))]; exact hr2.le (by omega)), (show jSo (σ69 17) (σ69 62) (σ69 16 0).toInt by rw [show σ69 17 = σ 17 from ((f71 17 (by decide)).trans (f54 17 (by decide))), show σ69 62 = σ 62 from ((f71 62 (by decide)).trans (f54 62 (by decide))), show (σ69 16 0).toInt = (σ 16 0).toInt from by omega]; exact hr3), (show jShP (σ69 51) (σ69 52) (σ69 53) (σ69 86) (σ69 87) (σ69 55 32).toInt by rw [show σ69 51 = σ 51 from ((f71 51 (by decide)).trans (f54 51 (by decide))), show σ69 52 = σ 52 from ((f71 52 (by decide)).trans (f54 52 (by decide))), show σ69 53 = σ 53 from ((f71 53 (by decide)).trans (f54 53 (by decide))), show σ69 86 = σ 86 from ((f71 86 (by decide)).trans (f54 86 (by decide))), show σ69 87 = σ 87 from ((f71 87 (by decide)).trans (f54 87 (by decide)))]; exact (hr4.up (by omega) (by omega))), (show jEl (σ69 51) (σ69 52) (τ 54) (τ 88) by rw [show σ69 51 = σ 51 from ((f71 51 (by decide)).trans (f54 51 (by decide))), show σ69 52 = σ 52 from ((f71 52 (by decide)).trans (f54 52 (by decide)))]; exact hr5), (show jByP (σ69 51) (σ69 52) (τ 54) by rw [show σ69 51 = σ 51 from ((f71 51 (by decide)).trans (f54 51 (by decide))), show σ69 52 = σ 52 from ((f71 52 (by decide)).trans (f54 52 (by decide)))]; exact hr6), (show jBk (σ69 48) (σ69 80) (σ69 49) (σ69 81) (σ69 55 47).toInt by rw [show σ69 48 = σ52 48 from (f71 48 (by decide)), show σ69 49 = σ52 49 from (f71 49 (by decide)), show (σ69 55 47).toInt = (σ52 47 0).toInt from by omega]; exact p86), (show jKd (σ69 39) (σ69 70) (σ69 55 32).toInt by rw [show σ69 39 = σ 39 from ((f71 39 (by decide)).trans (f54 39 (by decide))), show σ69 70 = σ 70 from ((f71 70 (by decide)).trans (f54 70 (by decide))), show (σ69 55 32).toInt = (σ 55 32).toInt from by omega]; exact hr8), (show jTt (σ69 42) (σ69 85) (σ69 55 55).toInt by rw [show σ69 42 = σ 42 from ((f71 42 (by decide)).trans (f54 42 (by decide))), show σ69 85 = σ 85 from ((f71 85 (by decide)).trans (f54 85 (by decide))), show (σ69 55 55).toInt = (σ 55 55).toInt from by omega]; exact hr9), (fun k hk => by rw [show σ69 4 = σ 4 from ((f71 4 (by decide)).trans (f54 4 (by decide))), show σ69 5 = σ 5 from ((f71 5 (by decide)).trans (f54 5 (by decide))), show σ69 60 = σ 60 from ((f71 60 (by decide)).trans (f54 60 (by decide))), show σ69 61 = σ 61 from ((f71 61 (by decide)).trans (f54 61 (by decide)))]; exact hr10 k (by omega)), (fun nm => by rw [show σ69 19 = σ 19 from ((f71 19 (by decide)).trans (f54 19 (by decide))), show σ69 64 = σ 64 from ((f71 64 (by decide)).trans (f54 64 (by decide))), show σ69 65 = σ 65 from ((f71 65 (by decide)).trans (f54 65 (by decide))), show (σ69 18 0).toInt = (σ 18 0).toInt from by omega]; exact hr11 nm), (fun nm => by rw [show σ69 23 = σ 23 from ((f71 23 (by decide)).trans (f54 23 (by decide))), show σ69 64 = σ 64 from ((f71 64 (by decide)).trans (f54 64 (by decide))), show σ69 65 = σ 65 from ((f71 65 (by decide)).trans (f54 65 (by decide))), show (σ69 22 0).toInt = (σ 22 0).toInt from by omega]; exact hr12 nm)⟩ hP hS (lv_sub hl [0, 1, 2, 3] rfl)
set_option maxHeartbeats 4000000 in
set_option maxRecDepth 100000 in
theorem law_case_20 {p : Program} {e : Env} {s : State} {m : MethodId} {below : List Frame} {meth : Method} {c : Code} (l : Launch) {b L : Nat} {xs : Nat → Int32} {D : va_G} {cI cL : ClassId} {ad zz : Nat → Nat} (C0 : lw_At p s m meth c b L xs) (hJ : jD ad) (hA : ∀ q, jA ad q → s.heap.size ≤ q) (hK : jK D cI cL s) (hZ : jZ zz (fun q : Nat => s.heap.size ≤ q) s s.heap) {x0 : Int32} (hx0 : 0 ≤ x0.toInt) (hxL : x0.toInt + 6 ≤ (L : Int)) (hL : L ≤ 384) {σ : Nat → Nat → Int32} {τ : Nat → Nat → Int64} {H : Heap} {locs : List Loc} (hS : va_S (fun q : Nat => s.heap.size ≤ q) s.heap H locs) {ls : Array Slot} (hAll : jAll x0.toInt σ τ) (hP : jH D cI cL ad σ τ H) (hl : lv_has ls 4 [(3, .int x0), (2, .ref (ad 55)), (1, .ref (ad 0)), (0, .ref b)]) (ih : ∀ (x1 : Int32) (σ : Nat → Nat → Int32) (τ : Nat → Nat → Int64) (H : Heap) (locs : List Loc) (ls : Array Slot), x1.toInt = x0.toInt + 6 → jAll x1.toInt σ τ → jH D cI cL ad σ τ H → va_S (fun q : Nat => s.heap.size ≤ q) s.heap H locs → lv_has ls 4 [(3, .int x1), (2, .ref (ad 55)), (1, .ref (ad 0)), (0, .ref b)] → W p l e room_1 s m #[Value.ref b] below meth c H locs 90 348600 (lw_Z below #[Value.ref b] s) (F0 m 18 ls [])) : W p l e room_1 s m #[Value.ref b] below meth c H locs 90 348600 (lw_Z below #[Value.ref b] s) (F0 m 806 ls []) := by
  obtain ⟨hx, hb, hr, hml, hown, hts0, hX, hbl, hlocks, hgv⟩ := C0
  have hts : ∀ w ∈ wsL_law, w.before #[Value.ref b] s = true := fun w h => hts0 w (wsL_law_in w h)
  have hbA : ¬ (fun q : Nat => s.heap.size ≤ q) b := Nat.not_le.mpr hbl
  have hown : s.vm.findClass RL = some m.cls := hown
  obtain ⟨hI2, hI9, hI12, hI16, hI18, hI22, hI31, hI38, hI43, hI47, hI50, hI0, hI26, hI101, hI102, hI103, hI104, hI105, hI106, hI107, hI109, hI110, hI111, hI119, hs_jKept, hs_jBook, hs_jNd12, hs_jN67, hs_jBl, hs_jKb, hs_jTR, hs_jKh, hs_jKg, ht0, ht1, ht2, ht3, ht4, ht5, ht6, ht7, ht8, ht9, ht10, ht11, ht12, ht13, hr0, hr1, hr2, hr3, hr4, hr5, hr6, hr7, hr8, hr9, hr10, hr11, hr12⟩ := hAll
  have hL9 : (L : Int) ≤ 384 := by omega
  obtain ⟨i1, i2, i3, i4, i5, w6⟩ : (0 ≤ (σ 2 0).toInt ∧ (σ 2 0).toInt ≤ 4) ∧ (0 ≤ (σ 2 1).toInt ∧ (σ 2 1).toInt ≤ 3) ∧ (0 ≤ (σ 2 2).toInt) ∧ (0 ≤ (σ 2 3).toInt) ∧ ((σ 2 2).toInt + (σ 2 3).toInt ≤ 40) ∧ (∀ k : Nat, k < 40 → 0 ≤ (σ 6 k).toInt ∧ (σ 6 k).toInt ≤ 67) := id hI2
  obtain ⟨i7, w8, w9⟩ : (0 ≤ (σ 9 0).toInt ∧ (σ 9 0).toInt ≤ 80) ∧ (∀ k : Nat, k < 80 → 0 ≤ (σ 10 k).toInt ∧ (σ 10 k).toInt ≤ 255) ∧ (∀ k : Nat, k < 8 → 0 ≤ (σ 11 k).toInt ∧ (σ 11 k).toInt ≤ 3) := id hI9
  obtain ⟨i10, i11, i12, w13⟩ : (1 ≤ (σ 16 0).toInt ∧ (σ 16 0).toInt ≤ 8) ∧ (1 ≤ (σ 16 1).toInt ∧ (σ 16 1).toInt ≤ 12) ∧ (0 ≤ (σ 16 2).toInt ∧ (σ 16 2).toInt ≤ 999) ∧ (∀ k : Nat, k < 8 → 0 ≤ (σ 17 k).toInt ∧ (σ 17 k).toInt ≤ 3) := id hI16
  obtain ⟨i14, i15, w16⟩ : (0 ≤ (σ 38 0).toInt ∧ (σ 38 0).toInt ≤ 20) ∧ (0 ≤ (σ 38 1).toInt ∧ (σ 38 1).toInt ≤ 1000) ∧ (∀ k : Nat, k < 20 → 0 ≤ (σ 39 k).toInt ∧ (σ 39 k).toInt ≤ 6) := id hI38
  obtain ⟨i17, w18, w19⟩ : (0 ≤ (σ 47 0).toInt ∧ (σ 47 0).toInt ≤ 12) ∧ (∀ k : Nat, k < 12 → 0 ≤ (σ 48 k).toInt ∧ (σ 48 k).toInt ≤ 3) ∧ (∀ k : Nat, k < 12 → 0 ≤ (σ 49 k).toInt ∧ (σ 49 k).toInt ≤ 1) := id hI47
  have w20 : ∀ k : Nat, k < 6 → 0 ≤ (σ 52 k).toInt ∧ (σ 52 k).toInt ≤ 60 := hI50
  have i21 : 1 ≤ (σ 26 6).toInt ∧ (σ 26 6).toInt ≤ 8000 := hI26
  obtain ⟨i22, i23, i24, w25, w26, w27, w28⟩ : (0 ≤ (σ 55 5).toInt) ∧ ((σ 55 5).toInt ≤ (σ 55 4).toInt) ∧ ((σ 55 4).toInt ≤ 40) ∧ (∀ k : Nat, k < 68 → (-200) ≤ (σ 56 k).toInt ∧ (σ 56 k).toInt ≤ 500) ∧ (∀ k : Nat, k < 40 → 0 ≤ (σ 57 k).toInt ∧ (σ 57 k).toInt ≤ 67) ∧ (∀ k : Nat, k < 40 → (-200) ≤ (σ 58 k).toInt ∧ (σ 58 k).toInt ≤ 500) ∧ (∀ k : Nat, k < 40 → (-200) ≤ (σ 59 k).toInt ∧ (σ 59 k).toInt ≤ 500) := id hI101
  obtain ⟨i29, w30, w31⟩ : (0 ≤ (σ 55 6).toInt ∧ (σ 55 6).toInt ≤ 4) ∧ (∀ k : Nat, k < 4 → 0 ≤ (σ 60 k).toInt ∧ (σ 60 k).toInt ≤ 50) ∧ (∀ k : Nat, k < 4 → 0 ≤ (σ 61 k).toInt ∧ (σ 61 k).toInt ≤ 20) := id hI102
  have i32 : 0 ≤ (σ 55 9).toInt ∧ (σ 55 9).toInt ≤ 3 := hI103
  obtain ⟨i33, i34, i35, w36, w37⟩ : (1 ≤ (σ 55 10).toInt ∧ (σ 55 10).toInt ≤ 8) ∧ (1 ≤ (σ 55 12).toInt ∧ (σ 55 12).toInt ≤ 12) ∧ (0 ≤ (σ 55 13).toInt ∧ (σ 55 13).toInt ≤ 999) ∧ (∀ k : Nat, k < 8 → 0 ≤ (σ 62 k).toInt ∧ (σ 62 k).toInt ≤ 3) ∧ (∀ k : Nat, k < 8 → 0 ≤ (σ 67 k).toInt ∧ (σ 67 k).toInt ≤ 3) := id hI104
  obtain ⟨i38, w39⟩ : (0 ≤ (σ 55 15).toInt ∧ (σ 55 15).toInt ≤ 80) ∧ (∀ k : Nat, k < 2 → (-1) ≤ (σ 65 k).toInt ∧ (σ 65 k).toInt ≤ 80) := id hI105
  obtain ⟨i40, w41, w42, w43⟩ : (0 ≤ (σ 55 32).toInt ∧ (σ 55 32).toInt ≤ 20) ∧ (∀ k : Nat, k < 20 → 0 ≤ (σ 70 k).toInt ∧ (σ 70 k).toInt ≤ 6) ∧ (∀ k : Nat, k < 20 → 0 ≤ (σ 71 k).toInt ∧ (σ 71 k).toInt ≤ 8) ∧ (∀ k : Nat, k < 160 → 0 ≤ (σ 72 k).toInt ∧ (σ 72 k).toInt ≤ 3) := id hI106
  obtain ⟨i44, i45, w46⟩ : (0 ≤ (σ 55 47).toInt ∧ (σ 55 47).toInt ≤ 12) ∧ ((σ 55 47).toInt ≤ (σ 55 12).toInt) ∧ (∀ k : Nat, k < 12 → 0 ≤ (σ 80 k).toInt ∧ (σ 80 k).toInt ≤ 3) := id hI107
  have hs_jOk3 : jOk3 σ := hr0.ok hr1.1
  refine lv_aload_n hx hb dL_law_806 rfl (lv_at hl 2 rfl) ?_
  refine lv_aload_n hx hb dL_law_807 rfl (lv_at hl 3 rfl) ?_
  refine lv_iload_n hx hb dL_law_808 rfl (lv_at hl 0 rfl) ?_
  refine lv_iconst (v := 1) hx hb dL_law_809 (by decide) ?_
  have g47 := jrg (rfl : x0.toInt = x0.toInt)
  refine lv_iadd hx hb dL_law_810 ?_
  refine lv_topi (fun x48 ex48 => ?_)
  have tx48 : x48.toInt = x0.toInt + 1 := (jadd ex48 rfl jz_1 (by omega) (by omega)).trans (by omega)
  refine va_sld hx hb hX hbl hbA hS (jin tx48 (by omega) (by omega)) dL_law_811 ?_
  have g49 := jrg (rfl : (xs x48.toNatClampNeg).toInt = (xs x48.toNatClampNeg).toInt)
  refine lv_aload_n hx hb dL_law_812 rfl (lv_at hl 3 rfl) ?_
  refine lv_iload_n hx hb dL_law_813 rfl (lv_at hl 0 rfl) ?_
  refine lv_iconst (v := 2) hx hb dL_law_814 (by decide) ?_
  refine lv_iadd hx hb dL_law_815 ?_
  refine lv_topi (fun x50 ex50 => ?_)
  have tx50 : x50.toInt = x0.toInt + 2 := (jadd ex50 rfl jz_2 (by omega) (by omega)).trans (by omega)
  refine va_sld hx hb hX hbl hbA hS (jin tx50 (by omega) (by omega)) dL_law_816 ?_
  have g51 := jrg (rfl : (xs x50.toNatClampNeg).toInt = (xs x50.toNatClampNeg).toInt)
  refine jcallV (As := [.int (xs x48.toNatClampNeg), .int (xs x50.toNatClampNeg)]) (rest := []) ⟨hx, hb, hml, hown, hts⟩ hK hP hA hS hZ (c_X11_books l D cI cL ad zz hJ σ τ (xs x48.toNatClampNeg) ((xs x48.toNatClampNeg).toInt) rfl (xs x50.toNatClampNeg) ((xs x50.toNatClampNeg).toInt) rfl hI2 hI16 hI47 hI50) cw_RL_97 (jc_0 cI cL ad σ τ) rfl ⟨Nat.le_of_ble_eq_true rfl, Nat.le_of_ble_eq_true rfl⟩ rfl rfl rfl hl.1 rfl (Nat.le_of_ble_eq_true rfl) dL_law_817 ⟨Nat.le_of_ble_eq_true rfl, Nat.le_of_ble_eq_true rfl⟩ (fun r53 σ52 τ52 H locs h52 hP hS => ?_)
  obtain ⟨rfl, f54, f55, I56, w57, h52⟩ := h52
  obtain ⟨i59, w60, w61⟩ : (0 ≤ (σ52 47 0).toInt ∧ (σ52 47 0).toInt ≤ 12) ∧ (∀ k : Nat, k < 12 → 0 ≤ (σ52 48 k).toInt ∧ (σ52 48 k).toInt ≤ 3) ∧ (∀ k : Nat, k < 12 → 0 ≤ (σ52 49 k).toInt ∧ (σ52 49 k).toInt ≤ 1) := id I56
  refine lv_pop hx hb dL_law_820 rfl ?_
  refine lv_aload_n hx hb dL_law_821 rfl (lv_at hl 1 rfl) ?_
  refine lv_aload_n hx hb dL_law_822 rfl (lv_at hl 3 rfl) ?_
  refine lv_iload_n hx hb dL_law_823 rfl (lv_at hl 0 rfl) ?_
  refine lv_iconst (v := 1) hx hb dL_law_824 (by decide) ?_
  refine lv_iadd hx hb dL_law_825 ?_
  refine jtopr ex48.symm ?_
  refine va_sld hx hb hX hbl hbA hS (jin tx48 (by omega) (by omega)) dL_law_826 ?_
  refine lv_aload_n hx hb dL_law_827 rfl (lv_at hl 3 rfl) ?_
  refine lv_iload_n hx hb dL_law_828 rfl (lv_at hl 0 rfl) ?_
  refine lv_iconst (v := 2) hx hb dL_law_829 (by decide) ?_
  refine lv_iadd hx hb dL_law_830 ?_
  refine jtopr ex50.symm ?_
  refine va_sld hx hb hX hbl hbA hS (jin tx50 (by omega) (by omega)) dL_law_831 ?_
  have I62 : jI102 σ52 := jI102_fr (congrFun (f54 55 (by decide)) 6) (f54 60 (by decide)) (f54 61 (by decide)) hI102
  have I63 : jI104 σ52 := jI104_fr (congrFun (f54 55 (by decide)) 10) (congrFun (f54 55 (by decide)) 12) (congrFun (f54 55 (by decide)) 13) (f54 62 (by decide)) (f54 67 (by decide)) hI104
  have I64 : jI107 σ52 := jI107_fr (congrFun (f54 55 (by decide)) 12) (congrFun (f54 55 (by decide)) 47) (f54 80 (by decide)) hI107
  have I65 : jI110 σ52 := jI110_fr (f54 86 (by decide)) (f54 87 (by decide)) hI110
  have I66 : jI119 σ52 := jI119_fr (f54 68 (by decide)) hI119
  have p67 : jBook σ52 := jBook.fr (congrFun (f54 55 (by decide)) 47) (congrFun (f54 55 (by decide)) 10) (f54 81 (by decide)) hs_jBook
  refine jcallV (As := [.int (xs x48.toNatClampNeg), .int (xs x50.toNatClampNeg)]) (rest := []) ⟨hx, hb, hml, hown, hts⟩ hK hP hA hS hZ (c_X12_books l D cI cL ad zz hJ σ52 τ (xs x48.toNatClampNeg) ((xs x48.toNatClampNeg).toInt) rfl (xs x50.toNatClampNeg) ((xs x50.toNatClampNeg).toInt) rfl I62 I63 I64 I65 I66 p67) cw_RL_100 (jc_55 cI cL ad σ52 τ) rfl ⟨Nat.le_of_ble_eq_true rfl, Nat.le_of_ble_eq_true rfl⟩ rfl rfl rfl hl.1 rfl (Nat.le_of_ble_eq_true rfl) dL_law_832 ⟨Nat.le_of_ble_eq_true rfl, Nat.le_of_ble_eq_true rfl⟩ (fun r69 σ68 τ68 H locs h68 hP hS => ?_)
  obtain ⟨rfl, f70, f71, I72, I73, p74, w75, h68⟩ := h68
  obtain ⟨i77, i78, w79⟩ : (0 ≤ (σ68 55 47).toInt ∧ (σ68 55 47).toInt ≤ 12) ∧ ((σ68 55 47).toInt ≤ (σ68 55 12).toInt) ∧ (∀ k : Nat, k < 12 → 0 ≤ (σ68 80 k).toInt ∧ (σ68 80 k).toInt ≤ 3) := id I72
  have z80 : (σ52 55 6).toInt = (σ 55 6).toInt := (congrArg Int32.toInt (show σ52 55 6 = (σ 55 6) from (congrFun (f54 55 (by decide)) 6)))
  have z81 : (σ52 55 47).toInt = (σ 55 47).toInt := (congrArg Int32.toInt (show σ52 55 47 = (σ 55 47) from (congrFun (f54 55 (by decide)) 47)))
  have z82 : (σ52 55 10).toInt = (σ 55 10).toInt := (congrArg Int32.toInt (show σ52 55 10 = (σ 55 10) from (congrFun (f54 55 (by decide)) 10)))
  have z83 : (σ52 55 12).toInt = (σ 55 12).toInt := (congrArg Int32.toInt (show σ52 55 12 = (σ 55 12) from (congrFun (f54 55 (by decide)) 12)))
  have z84 : (σ52 55 30).toInt = (σ 55 30).toInt := (congrArg Int32.toInt (show σ52 55 30 = (σ 55 30) from (congrFun (f54 55 (by decide)) 30)))
  have z85 : (σ52 55 31).toInt = (σ 55 31).toInt := (congrArg Int32.toInt (show σ52 55 31 = (σ 55 31) from (congrFun (f54 55 (by decide)) 31)))
  rw [show (σ52 55 6).toInt = (σ 55 6).toInt from by omega, show (σ52 55 47).toInt = (σ 55 47).toInt from by omega, show (σ52 55 10).toInt = (σ 55 10).toInt from by omega, show (σ52 55 12).toInt = (σ 55 12).toInt from by omega, show (σ52 55 30).toInt = (σ 55 30).toInt from by omega, show (σ52 55 31).toInt = (σ 55 31).toInt from by omega, show σ52 56 = σ 56 from (f54 56 (by decide)), show σ52 80 = σ 80 from (f54 80 (by decide)), show σ52 81 = σ 81 from (f54 81 (by decide)), show σ52 86 = σ 86 from (f54 86 (by decide)), show σ52 87 = σ 87 from (f54 87 (by decide))] at w75
  rw [show (σ 2 0).toInt = (σ 55 6).toInt from by omega, show (σ 47 0).toInt = (σ 55 47).toInt from by omega, show (σ 16 0).toInt = (σ 55 10).toInt from by omega, show (σ 16 1).toInt = (σ 55 12).toInt from by omega] at w57
  have p86 := jBb.det (J := 0) hr7 (w57 (hr0.ok hr1.1) (fun d0 d5 z q hq => by
      rw [jnc (rfl : (xs x48.toNatClampNeg).toInt = (xs x48.toNatClampNeg).toInt)] at z hq
      have w := hr6 ((xs x48.toNatClampNeg).toInt).toNat (by omega) z q hq
      rw [show 60 * ((xs x48.toNatClampNeg).toInt).toNat + q = (60 * ((xs x48.toNatClampNeg).toInt) + (q : Int)).toNat by omega] at w; exact w)) (w75 (by omega) (by omega) hr1.1) Iff.rfl (fun z => by
      rcases hr4.at (d := (xs x48.toNatClampNeg)) (by omega) (by omega) with ⟨x1, x2⟩ | ⟨x1, x2, x3, x4⟩ | ⟨x1, x2, x3, x4, x5⟩
      · omega
      · have x5 : (σ 86 (xs x48.toNatClampNeg).toNatClampNeg).toInt = (σ 53 (xs x48.toNatClampNeg).toNatClampNeg).toInt := by rw [x2]
        have hn9 := hr4.1
        omega
      · omega) (fun z1 z2 s1 s2 => by
      have hx := hr4.at (d := (xs x48.toNatClampNeg)) (by omega) (by omega)
      have hL : (if (σ 51 (xs x48.toNatClampNeg).toNatClampNeg).toInt = 0 ∧ 0 ≤ (xs x50.toNatClampNeg).toInt then (σ 52 (xs x48.toNatClampNeg).toNatClampNeg).toInt - ((xs x50.toNatClampNeg).toInt) else 0) = (if (σ 86 (xs x48.toNatClampNeg).toNatClampNeg).toInt = 20 ∧ 0 ≤ (xs x50.toNatClampNeg).toInt then (σ 87 (xs x48.toNatClampNeg).toNatClampNeg).toInt - ((xs x50.toNatClampNeg).toInt) else 0) := by
        rcases hx with ⟨x1, x2⟩ | ⟨x1, x2, x3, x4⟩ | ⟨x1, x2, x3, x4, x5⟩
        · rw [if_neg (by omega), if_neg (by omega)]
        · have x5 : (σ 86 (xs x48.toNatClampNeg).toNatClampNeg).toInt = (σ 53 (xs x48.toNatClampNeg).toNatClampNeg).toInt := by rw [x2]
          have hn9 := hr4.1
          rw [if_neg (by omega), if_neg (by omega)]
        · by_cases c : (σ 51 (xs x48.toNatClampNeg).toNatClampNeg).toInt = 0 ∧ 0 ≤ (xs x50.toNatClampNeg).toInt
          · rw [if_pos c, if_pos (by omega), x5]
          · rw [if_neg c, if_neg (by omega)]
      rw [← hL] at s2
      refine jBs.det (fun k hk => ?_) hr0.t4 s1 s2
      by_cases c : (σ 51 (xs x48.toNatClampNeg).toNatClampNeg).toInt = 0 ∧ 0 ≤ (xs x50.toNatClampNeg).toInt
      · rw [if_pos c] at hk
        show τ 54 (60 * ((xs x48.toNatClampNeg).toInt) + ((xs x50.toNatClampNeg).toInt) + (k : Int)).toNat = τ 88 (60 * ((xs x48.toNatClampNeg).toInt) + ((xs x50.toNatClampNeg).toInt) + (k : Int)).toNat
        obtain ⟨c1, c2⟩ := c
        rw [jnc (rfl : (xs x48.toNatClampNeg).toInt = (xs x48.toNatClampNeg).toInt)] at c1 hk
        have hd : 0 ≤ (xs x48.toNatClampNeg).toInt ∧ (xs x48.toNatClampNeg).toInt ≤ 5 := by omega
        have w := hr5 ((xs x48.toNatClampNeg).toInt).toNat (by omega) (by omega) (((xs x50.toNatClampNeg).toInt).toNat + k) (by omega)
        rw [show (60 * ((xs x48.toNatClampNeg).toInt) + ((xs x50.toNatClampNeg).toInt) + (k : Int)).toNat = 60 * ((xs x48.toNatClampNeg).toInt).toNat + (((xs x50.toNatClampNeg).toInt).toNat + k) by omega]; exact w
      · rw [if_neg c] at hk; exact absurd hk (by omega)) rfl
  obtain ⟨k87, k88, p86⟩ := p86
  have z89 : (σ68 55 12).toInt = (σ 55 12).toInt := (congrArg Int32.toInt (show σ68 55 12 = (σ 55 12) from ((f71 12 (by decide)).trans (congrFun (f54 55 (by decide)) 12))))
  refine lv_pop hx hb dL_law_835 rfl ?_
  refine lv_goto (tgt := 1357) hx hb dL_law_836 (by decide) ?_
  obtain ⟨x90, ex90⟩ : ∃ y : Int32, y = x0 + 6 := ⟨_, rfl⟩
  have tx90 : x90.toInt = x0.toInt + 6 := (jadd ex90 rfl jz_6 (by omega) (by omega)).trans (by omega)
  refine lv_iinc (v := x90) (lv' := [(3, .int x90), (2, .ref (ad 55)), (1, .ref (ad 0)), (0, .ref b)]) hx hb dL_law_1357 hl (k := 0) rfl (by rw [ex90]; rfl) (by decide) rfl (fun ls hl => ?_)
  refine lv_goto (tgt := 18) hx hb dL_law_1360 (by decide) ?_
  have I91 : jI2 σ68 := jI2_fr ((congrFun (f70 2 (by decide)) 0).trans (congrFun (f54 2 (by decide)) 0)) ((congrFun (f70 2 (by decide)) 1).trans (congrFun (f54 2 (by decide)) 1)) ((congrFun (f70 2 (by decide)) 2).trans (congrFun (f54 2 (by decide)) 2)) ((congrFun (f70 2 (by decide)) 3).trans (congrFun (f54 2 (by decide)) 3)) ((f70 6 (by decide)).trans (f54 6 (by decide))) hI2
  have I92 : jI9 σ68 := jI9_fr ((congrFun (f70 9 (by decide)) 0).trans (congrFun (f54 9 (by decide)) 0)) ((f70 10 (by decide)).trans (f54 10 (by decide))) ((f70 11 (by decide)).trans (f54 11 (by decide))) hI9
  have I93 : jI12 σ68 := jI12_fr ((congrFun (f70 12 (by decide)) 0).trans (congrFun (f54 12 (by decide)) 0)) ((f70 13 (by decide)).trans (f54 13 (by decide))) hI12
  have I94 : jI16 σ68 := jI16_fr ((congrFun (f70 16 (by decide)) 0).trans (congrFun (f54 16 (by decide)) 0)) ((congrFun (f70 16 (by decide)) 1).trans (congrFun (f54 16 (by decide)) 1)) ((congrFun (f70 16 (by decide)) 2).trans (congrFun (f54 16 (by decide)) 2)) ((f70 17 (by decide)).trans (f54 17 (by decide))) hI16
  have I95 : jI18 σ68 := jI18_fr ((congrFun (f70 18 (by decide)) 0).trans (congrFun (f54 18 (by decide)) 0)) ((f70 19 (by decide)).trans (f54 19 (by decide))) hI18
  have I96 : jI22 σ68 := jI22_fr ((congrFun (f70 22 (by decide)) 0).trans (congrFun (f54 22 (by decide)) 0)) ((f70 23 (by decide)).trans (f54 23 (by decide))) hI22
  have I97 : jI31 σ68 := jI31_fr ((congrFun (f70 31 (by decide)) 8).trans (congrFun (f54 31 (by decide)) 8)) ((congrFun (f70 31 (by decide)) 10).trans (congrFun (f54 31 (by decide)) 10)) ((congrFun (f70 31 (by decide)) 11).trans (congrFun (f54 31 (by decide)) 11)) ((f70 33 (by decide)).trans (f54 33 (by decide))) ((f70 35 (by decide)).trans (f54 35 (by decide))) ((f70 36 (by decide)).trans (f54 36 (by decide))) hI31
  have I98 : jI38 σ68 := jI38_fr ((congrFun (f70 38 (by decide)) 0).trans (congrFun (f54 38 (by decide)) 0)) ((congrFun (f70 38 (by decide)) 1).trans (congrFun (f54 38 (by decide)) 1)) ((f70 39 (by decide)).trans (f54 39 (by decide))) hI38
  have I99 : jI43 σ68 := jI43_fr ((congrFun (f70 43 (by decide)) 8).trans (congrFun (f54 43 (by decide)) 8)) hI43
  have I100 : jI47 σ68 := jI47_fr (congrFun (f70 47 (by decide)) 0) (f70 48 (by decide)) (f70 49 (by decide)) I56
  have I101 : jI50 σ68 := jI50_fr ((f70 52 (by decide)).trans (f54 52 (by decide))) hI50
  have I102 : jI0 σ68 := jI0_fr ((f70 1 (by decide)).trans (f54 1 (by decide))) hI0
  have I103 : jI26 σ68 := jI26_fr ((congrFun (f70 26 (by decide)) 6).trans (congrFun (f54 26 (by decide)) 6)) hI26
  have I104 : jI101 σ68 := jI101_fr ((f71 4 (by decide)).trans (congrFun (f54 55 (by decide)) 4)) ((f71 5 (by decide)).trans (congrFun (f54 55 (by decide)) 5)) ((f70 56 (by decide)).trans (f54 56 (by decide))) ((f70 57 (by decide)).trans (f54 57 (by decide))) ((f70 58 (by decide)).trans (f54 58 (by decide))) ((f70 59 (by decide)).trans (f54 59 (by decide))) hI101
  have I105 : jI102 σ68 := jI102_fr (f71 6 (by decide)) (f70 60 (by decide)) (f70 61 (by decide)) I62
  have I106 : jI103 σ68 := jI103_fr ((f71 9 (by decide)).trans (congrFun (f54 55 (by decide)) 9)) hI103
  have I107 : jI104 σ68 := jI104_fr (f71 10 (by decide)) (f71 12 (by decide)) (f71 13 (by decide)) (f70 62 (by decide)) (f70 67 (by decide)) I63
  have I108 : jI105 σ68 := jI105_fr ((f71 15 (by decide)).trans (congrFun (f54 55 (by decide)) 15)) ((f70 65 (by decide)).trans (f54 65 (by decide))) hI105
  have I109 : jI106 σ68 := jI106_fr ((f71 32 (by decide)).trans (congrFun (f54 55 (by decide)) 32)) ((f70 70 (by decide)).trans (f54 70 (by decide))) ((f70 71 (by decide)).trans (f54 71 (by decide))) ((f70 72 (by decide)).trans (f54 72 (by decide))) hI106
  have I110 : jI109 σ68 := jI109_fr ((f71 50 (by decide)).trans (congrFun (f54 55 (by decide)) 50)) hI109
  have I111 : jI110 σ68 := jI110_fr (f70 86 (by decide)) (f70 87 (by decide)) I65
  have I112 : jI111 σ68 := jI111_fr ((f70 79 (by decide)).trans (f54 79 (by decide))) hI111
  have p113 : jKept σ68 := jKept.fr ((f70 75 (by decide)).trans (f54 75 (by decide))) ((f70 76 (by decide)).trans (f54 76 (by decide))) ((f70 77 (by decide)).trans (f54 77 (by decide))) hs_jKept
  have p114 : jNd12 σ68 := jNd12.fr ((congrFun (f70 12 (by decide)) 0).trans (congrFun (f54 12 (by decide)) 0)) ((congrFun (f70 12 (by decide)) 1).trans (congrFun (f54 12 (by decide)) 1)) ((f70 13 (by decide)).trans (f54 13 (by decide))) hs_jNd12
  have p115 : jN67 σ68 := jN67.fr ((f70 24 (by decide)).trans (f54 24 (by decide))) hs_jN67
  have p116 : jBl σ68 := jBl.fr ((congrFun (f70 22 (by decide)) 0).trans (congrFun (f54 22 (by decide)) 0)) ((congrFun (f70 22 (by decide)) 1).trans (congrFun (f54 22 (by decide)) 1)) ((f70 23 (by decide)).trans (f54 23 (by decide))) ((congrFun (f70 26 (by decide)) 6).trans (congrFun (f54 26 (by decide)) 6)) ((congrFun (f70 26 (by decide)) 7).trans (congrFun (f54 26 (by decide)) 7)) ((f70 29 (by decide)).trans (f54 29 (by decide))) ((f70 30 (by decide)).trans (f54 30 (by decide))) hs_jBl
  have p117 : jKb σ68 := jKb.fr ((congrFun (f70 31 (by decide)) 8).trans (congrFun (f54 31 (by decide)) 8)) ((congrFun (f70 31 (by decide)) 11).trans (congrFun (f54 31 (by decide)) 11)) ((f70 32 (by decide)).trans (f54 32 (by decide))) hs_jKb
  have p118 : jTR σ68 := jTR.fr ((f70 64 (by decide)).trans (f54 64 (by decide))) ((f70 65 (by decide)).trans (f54 65 (by decide))) hs_jTR
  have p119 : jKh σ68 := jKh.fr ((congrFun (f70 31 (by decide)) 8).trans (congrFun (f54 31 (by decide)) 8)) ((f70 32 (by decide)).trans (f54 32 (by decide))) ((f70 36 (by decide)).trans (f54 36 (by decide))) ((f70 37 (by decide)).trans (f54 37 (by decide))) hs_jKh
  have p120 : jKg σ68 := jKg.fr ((congrFun (f70 31 (by decide)) 8).trans (congrFun (f54 31 (by decide)) 8)) ((congrFun (f70 31 (by decide)) 9).trans (congrFun (f54 31 (by decide)) 9)) ((congrFun (f70 31 (by decide)) 11).trans (congrFun (f54 31 (by decide)) 11)) ((congrFun (f70 31 (by decide)) 12).trans (congrFun (f54 31 (by decide)) 12)) ((f70 32 (by decide)).trans (f54 32 (by decide))) ((f70 33 (by decide)).trans (f54 33 (by decide))) hs_jKg
  have z121 : (σ68 2 0).toInt = (σ 2 0).toInt := (congrArg Int32.toInt (show σ68 2 0 = (σ 2 0) from ((congrFun (f70 2 (by decide)) 0).trans (congrFun (f54 2 (by decide)) 0))))
  have z122 : (σ68 55 6).toInt = (σ 55 6).toInt := (congrArg Int32.toInt (show σ68 55 6 = (σ 55 6) from ((f71 6 (by decide)).trans (congrFun (f54 55 (by decide)) 6))))
  have z123 : (σ68 2 2).toInt = (σ 2 2).toInt := (congrArg Int32.toInt (show σ68 2 2 = (σ 2 2) from ((congrFun (f70 2 (by decide)) 2).trans (congrFun (f54 2 (by decide)) 2))))
  have z124 : (σ68 55 5).toInt = (σ 55 5).toInt := (congrArg Int32.toInt (show σ68 55 5 = (σ 55 5) from ((f71 5 (by decide)).trans (congrFun (f54 55 (by decide)) 5))))
  have z125 : (σ68 2 3).toInt = (σ 2 3).toInt := (congrArg Int32.toInt (show σ68 2 3 = (σ 2 3) from ((congrFun (f70 2 (by decide)) 3).trans (congrFun (f54 2 (by decide)) 3))))
  have z126 : (σ68 55 4).toInt = (σ 55 4).toInt := (congrArg Int32.toInt (show σ68 55 4 = (σ 55 4) from ((f71 4 (by decide)).trans (congrFun (f54 55 (by decide)) 4))))
  have z127 : (σ68 9 0).toInt = (σ 9 0).toInt := (congrArg Int32.toInt (show σ68 9 0 = (σ 9 0) from ((congrFun (f70 9 (by decide)) 0).trans (congrFun (f54 9 (by decide)) 0))))
  have z128 : (σ68 55 15).toInt = (σ 55 15).toInt := (congrArg Int32.toInt (show σ68 55 15 = (σ 55 15) from ((f71 15 (by decide)).trans (congrFun (f54 55 (by decide)) 15))))
  have z129 : (σ68 16 0).toInt = (σ 16 0).toInt := (congrArg Int32.toInt (show σ68 16 0 = (σ 16 0) from ((congrFun (f70 16 (by decide)) 0).trans (congrFun (f54 16 (by decide)) 0))))
  have z130 : (σ68 55 10).toInt = (σ 55 10).toInt := (congrArg Int32.toInt (show σ68 55 10 = (σ 55 10) from ((f71 10 (by decide)).trans (congrFun (f54 55 (by decide)) 10))))
  have z131 : (σ68 16 1).toInt = (σ 16 1).toInt := (congrArg Int32.toInt (show σ68 16 1 = (σ 16 1) from ((congrFun (f70 16 (by decide)) 1).trans (congrFun (f54 16 (by decide)) 1))))
  have z132 : (σ68 16 2).toInt = (σ 16 2).toInt := (congrArg Int32.toInt (show σ68 16 2 = (σ 16 2) from ((congrFun (f70 16 (by decide)) 2).trans (congrFun (f54 16 (by decide)) 2))))
  have z133 : (σ68 55 13).toInt = (σ 55 13).toInt := (congrArg Int32.toInt (show σ68 55 13 = (σ 55 13) from ((f71 13 (by decide)).trans (congrFun (f54 55 (by decide)) 13))))
  have z134 : (σ68 38 0).toInt = (σ 38 0).toInt := (congrArg Int32.toInt (show σ68 38 0 = (σ 38 0) from ((congrFun (f70 38 (by decide)) 0).trans (congrFun (f54 38 (by decide)) 0))))
  have z135 : (σ68 55 32).toInt = (σ 55 32).toInt := (congrArg Int32.toInt (show σ68 55 32 = (σ 55 32) from ((f71 32 (by decide)).trans (congrFun (f54 55 (by decide)) 32))))
  have z136 : (σ68 38 1).toInt = (σ 38 1).toInt := (congrArg Int32.toInt (show σ68 38 1 = (σ 38 1) from ((congrFun (f70 38 (by decide)) 1).trans (congrFun (f54 38 (by decide)) 1))))
  have z137 : (σ68 55 55).toInt = (σ 55 55).toInt := (congrArg Int32.toInt (show σ68 55 55 = (σ 55 55) from ((f71 55 (by decide)).trans (congrFun (f54 55 (by decide)) 55))))
  have z138 : (σ68 47 0).toInt = (σ52 47 0).toInt := (congrArg Int32.toInt (show σ68 47 0 = (σ52 47 0) from (congrFun (f70 47 (by decide)) 0)))
  have z139 : (σ68 55 30).toInt = (σ 55 30).toInt := (congrArg Int32.toInt (show σ68 55 30 = (σ 55 30) from ((f71 30 (by decide)).trans (congrFun (f54 55 (by decide)) 30))))
  have z140 : (σ68 55 31).toInt = (σ 55 31).toInt := (congrArg Int32.toInt (show σ68 55 31 = (σ 55 31) from ((f71 31 (by decide)).trans (congrFun (f54 55 (by decide)) 31))))
  have z141 : (σ68 2 1).toInt = (σ 2 1).toInt := (congrArg Int32.toInt (show σ68 2 1 = (σ 2 1) from ((congrFun (f70 2 (by decide)) 1).trans (congrFun (f54 2 (by decide)) 1))))
  have z142 : (σ68 55 9).toInt = (σ 55 9).toInt := (congrArg Int32.toInt (show σ68 55 9 = (σ 55 9) from ((f71 9 (by decide)).trans (congrFun (f54 55 (by decide)) 9))))
  have z143 : (σ68 26 6).toInt = (σ 26 6).toInt := (congrArg Int32.toInt (show σ68 26 6 = (σ 26 6) from ((congrFun (f70 26 (by decide)) 6).trans (congrFun (f54 26 (by decide)) 6))))
  have z145 : (σ68 18 0).toInt = (σ 18 0).toInt := (congrArg Int32.toInt (show σ68 18 0 = (σ 18 0) from ((congrFun (f70 18 (by decide)) 0).trans (congrFun (f54 18 (by decide)) 0))))
  have z146 : (σ68 22 0).toInt = (σ 22 0).toInt := (congrArg Int32.toInt (show σ68 22 0 = (σ 22 0) from ((congrFun (f70 22 (by decide)) 0).trans (congrFun (f54 22 (by decide)) 0))))
  exact ih x90 σ68 τ _ _ ls (by have h9 := tx90; omega) ⟨I91, I92, I93, I94, I95, I96, I97, I98, I99, I100, I101, I102, I103, I104, I105, I106, I107, I108, I109, I72, I110, I111, I112, I73, p113, p74, p114, p115, p116, p117, p118, p119, p120, (by omega), (by omega), (by omega), (by omega), (by omega), (by omega), (by omega), (by omega), (by omega), (by omega), (by omega), (by omega), (by omega), (by have h9 := tx90; omega), (show jNumP (σ68 3) (σ68 56) (σ68 6) (σ68 57) (σ68 7) (σ68 58) (σ68 8) (σ68 59) (σ68 55 6).toInt (σ68 55 4).toInt by rw [show σ68 3 = σ 3 from ((f70 3 (by decide)).trans (f54 3 (by decide))), show σ68 56 = σ 56 from ((f70 56 (by decide)).trans (f54 56 (by decide))), show σ68 6 = σ 6 from ((f70 6 (by decide)).trans (f54 6 (by decide))), show σ68 57 = σ 57 from ((f70 57 (by decide)).trans (f54 57 (by decide))), show σ68 7 = σ 7 from ((f70 7 (by decide)).trans (f54 7 (by decide))), show σ68 58 = σ 58 from ((f70 58 (by decide)).trans (f54 58 (by decide))), show σ68 8 = σ 8 from ((f70 8 (by decide)).trans (f54 8 (by decide))), show σ68 59 = σ 59 from ((f70 59 (by decide)).trans (f54 59 (by decide))), show (σ68 55 6).toInt = (σ 55 6).toInt from by omega, show (σ68 55 4).toInt = (σ 55 4).toInt from by omega]; exact hr0), (show jOvP (σ68 56) (σ68 57) (σ68 58) (σ68 59) (σ68 55 4).toInt by rw [show σ68 56 = σ 56 from ((f70 56 (by decide)).trans (f54 56 (by decide))), show σ68 57 = σ 57 from ((f70 57 (by decide)).trans (f54 57 (by decide))), show σ68 58 = σ 58 from ((f70 58 (by decide)).trans (f54 58 (by decide))), show σ68 59 = σ 59 from ((f70 59 (by decide)).trans (f54 59 (by decide))), show (σ68 55 4).toInt = (σ 55 4).toInt from by omega]; exact hr1), (show jTp (σ68 10) (σ68 63) (σ68 55 15).toInt by rw [show σ68 10 = σ 10 from ((f70 10 (by decide)).trans (f54 10 (by decide))), show σ68 63 = σ 63 from ((f70 63 (by decide)).trans (f54 63 (by decide)))]; exact hr2.le (by omega)), (show jSo (σ68 17) (σ68 62) (σ68 16 0).toInt by rw [show σ68 17 = σ 17 from ((f70 17 (by decide)).trans (f54 17 (by decide))), show σ68 62 = σ 62 from ((f70 62 (by decide)).trans (f54 62 (by decide))), show (σ68 16 0).toInt = (σ 16 0).toInt from by omega]; exact hr3), (show jShP (σ68 51) (σ68 52) (σ68 53) (σ68 86) (σ68 87) (σ68 55 32).toInt by rw [show σ68 51 = σ 51 from ((f70 51 (by decide)).trans (f54 51 (by decide))), show σ68 52 = σ 52 from ((f70 52 (by decide)).trans (f54 52 (by decide))), show σ68 53 = σ 53 from ((f70 53 (by decide)).trans (f54 53 (by decide))), show σ68 86 = σ 86 from ((f70 86 (by decide)).trans (f54 86 (by decide))), show σ68 87 = σ 87 from ((f70 87 (by decide)).trans (f54 87 (by decide)))]; exact (hr4.up (by omega) (by omega))), (show jEl (σ68 51) (σ68 52) (τ 54) (τ 88) by rw [show σ68 51 = σ 51 from ((f70 51 (by decide)).trans (f54 51 (by decide))), show σ68 52 = σ 52 from ((f70 52 (by decide)).trans (f54 52 (by decide)))]; exact hr5), (show jByP (σ68 51) (σ68 52) (τ 54) by rw [show σ68 51 = σ 51 from ((f70 51 (by decide)).trans (f54 51 (by decide))), show σ68 52 = σ 52 from ((f70 52 (by decide)).trans (f54 52 (by decide)))]; exact hr6), (show jBk (σ68 48) (σ68 80) (σ68 49) (σ68 81) (σ68 55 47).toInt by rw [show σ68 48 = σ52 48 from (f70 48 (by decide)), show σ68 49 = σ52 49 from (f70 49 (by decide)), show (σ68 55 47).toInt = (σ52 47 0).toInt from by omega]; exact p86), (show jKd (σ68 39) (σ68 70) (σ68 55 32).toInt by rw [show σ68 39 = σ 39 from ((f70 39 (by decide)).trans (f54 39 (by decide))), show σ68 70 = σ 70 from ((f70 70 (by decide)).trans (f54 70 (by decide))), show (σ68 55 32).toInt = (σ 55 32).toInt from by omega]; exact hr8), (show jTt (σ68 42) (σ68 85) (σ68 55 55).toInt by rw [show σ68 42 = σ 42 from ((f70 42 (by decide)).trans (f54 42 (by decide))), show σ68 85 = σ 85 from ((f70 85 (by decide)).trans (f54 85 (by decide))), show (σ68 55 55).toInt = (σ 55 55).toInt from by omega]; exact hr9), (fun k hk => by rw [show σ68 4 = σ 4 from ((f70 4 (by decide)).trans (f54 4 (by decide))), show σ68 5 = σ 5 from ((f70 5 (by decide)).trans (f54 5 (by decide))), show σ68 60 = σ 60 from ((f70 60 (by decide)).trans (f54 60 (by decide))), show σ68 61 = σ 61 from ((f70 61 (by decide)).trans (f54 61 (by decide)))]; exact hr10 k (by omega)), (fun nm => by rw [show σ68 19 = σ 19 from ((f70 19 (by decide)).trans (f54 19 (by decide))), show σ68 64 = σ 64 from ((f70 64 (by decide)).trans (f54 64 (by decide))), show σ68 65 = σ 65 from ((f70 65 (by decide)).trans (f54 65 (by decide))), show (σ68 18 0).toInt = (σ 18 0).toInt from by omega]; exact hr11 nm), (fun nm => by rw [show σ68 23 = σ 23 from ((f70 23 (by decide)).trans (f54 23 (by decide))), show σ68 64 = σ 64 from ((f70 64 (by decide)).trans (f54 64 (by decide))), show σ68 65 = σ 65 from ((f70 65 (by decide)).trans (f54 65 (by decide))), show (σ68 22 0).toInt = (σ 22 0).toInt from by omega]; exact hr12 nm)⟩ hP hS (lv_sub hl [0, 1, 2, 3] rfl)
set_option maxHeartbeats 4000000 in
set_option maxRecDepth 100000 in
theorem law_case_21 {p : Program} {e : Env} {s : State} {m : MethodId} {below : List Frame} {meth : Method} {c : Code} (l : Launch) {b L : Nat} {xs : Nat → Int32} {D : va_G} {cI cL : ClassId} {ad zz : Nat → Nat} (C0 : lw_At p s m meth c b L xs) (hJ : jD ad) (hA : ∀ q, jA ad q → s.heap.size ≤ q) (hK : jK D cI cL s) (hZ : jZ zz (fun q : Nat => s.heap.size ≤ q) s s.heap) {x0 : Int32} (hx0 : 0 ≤ x0.toInt) (hxL : x0.toInt + 6 ≤ (L : Int)) (hL : L ≤ 384) {σ : Nat → Nat → Int32} {τ : Nat → Nat → Int64} {H : Heap} {locs : List Loc} (hS : va_S (fun q : Nat => s.heap.size ≤ q) s.heap H locs) {ls : Array Slot} (hAll : jAll x0.toInt σ τ) (hP : jH D cI cL ad σ τ H) (hl : lv_has ls 4 [(3, .int x0), (2, .ref (ad 55)), (1, .ref (ad 0)), (0, .ref b)]) (ih : ∀ (x1 : Int32) (σ : Nat → Nat → Int32) (τ : Nat → Nat → Int64) (H : Heap) (locs : List Loc) (ls : Array Slot), x1.toInt = x0.toInt + 6 → jAll x1.toInt σ τ → jH D cI cL ad σ τ H → va_S (fun q : Nat => s.heap.size ≤ q) s.heap H locs → lv_has ls 4 [(3, .int x1), (2, .ref (ad 55)), (1, .ref (ad 0)), (0, .ref b)] → W p l e room_1 s m #[Value.ref b] below meth c H locs 90 348600 (lw_Z below #[Value.ref b] s) (F0 m 18 ls [])) : W p l e room_1 s m #[Value.ref b] below meth c H locs 90 348600 (lw_Z below #[Value.ref b] s) (F0 m 839 ls []) := by
  obtain ⟨hx, hb, hr, hml, hown, hts0, hX, hbl, hlocks, hgv⟩ := C0
  have hts : ∀ w ∈ wsL_law, w.before #[Value.ref b] s = true := fun w h => hts0 w (wsL_law_in w h)
  have hbA : ¬ (fun q : Nat => s.heap.size ≤ q) b := Nat.not_le.mpr hbl
  have hown : s.vm.findClass RL = some m.cls := hown
  obtain ⟨hI2, hI9, hI12, hI16, hI18, hI22, hI31, hI38, hI43, hI47, hI50, hI0, hI26, hI101, hI102, hI103, hI104, hI105, hI106, hI107, hI109, hI110, hI111, hI119, hs_jKept, hs_jBook, hs_jNd12, hs_jN67, hs_jBl, hs_jKb, hs_jTR, hs_jKh, hs_jKg, ht0, ht1, ht2, ht3, ht4, ht5, ht6, ht7, ht8, ht9, ht10, ht11, ht12, ht13, hr0, hr1, hr2, hr3, hr4, hr5, hr6, hr7, hr8, hr9, hr10, hr11, hr12⟩ := hAll
  have hL9 : (L : Int) ≤ 384 := by omega
  obtain ⟨i1, i2, i3, i4, i5, w6⟩ : (0 ≤ (σ 2 0).toInt ∧ (σ 2 0).toInt ≤ 4) ∧ (0 ≤ (σ 2 1).toInt ∧ (σ 2 1).toInt ≤ 3) ∧ (0 ≤ (σ 2 2).toInt) ∧ (0 ≤ (σ 2 3).toInt) ∧ ((σ 2 2).toInt + (σ 2 3).toInt ≤ 40) ∧ (∀ k : Nat, k < 40 → 0 ≤ (σ 6 k).toInt ∧ (σ 6 k).toInt ≤ 67) := id hI2
  obtain ⟨i7, w8, w9⟩ : (0 ≤ (σ 9 0).toInt ∧ (σ 9 0).toInt ≤ 80) ∧ (∀ k : Nat, k < 80 → 0 ≤ (σ 10 k).toInt ∧ (σ 10 k).toInt ≤ 255) ∧ (∀ k : Nat, k < 8 → 0 ≤ (σ 11 k).toInt ∧ (σ 11 k).toInt ≤ 3) := id hI9
  obtain ⟨i10, i11, i12, w13⟩ : (1 ≤ (σ 16 0).toInt ∧ (σ 16 0).toInt ≤ 8) ∧ (1 ≤ (σ 16 1).toInt ∧ (σ 16 1).toInt ≤ 12) ∧ (0 ≤ (σ 16 2).toInt ∧ (σ 16 2).toInt ≤ 999) ∧ (∀ k : Nat, k < 8 → 0 ≤ (σ 17 k).toInt ∧ (σ 17 k).toInt ≤ 3) := id hI16
  obtain ⟨i14, i15, w16⟩ : (0 ≤ (σ 38 0).toInt ∧ (σ 38 0).toInt ≤ 20) ∧ (0 ≤ (σ 38 1).toInt ∧ (σ 38 1).toInt ≤ 1000) ∧ (∀ k : Nat, k < 20 → 0 ≤ (σ 39 k).toInt ∧ (σ 39 k).toInt ≤ 6) := id hI38
  obtain ⟨i17, w18, w19⟩ : (0 ≤ (σ 47 0).toInt ∧ (σ 47 0).toInt ≤ 12) ∧ (∀ k : Nat, k < 12 → 0 ≤ (σ 48 k).toInt ∧ (σ 48 k).toInt ≤ 3) ∧ (∀ k : Nat, k < 12 → 0 ≤ (σ 49 k).toInt ∧ (σ 49 k).toInt ≤ 1) := id hI47
  have w20 : ∀ k : Nat, k < 6 → 0 ≤ (σ 52 k).toInt ∧ (σ 52 k).toInt ≤ 60 := hI50
  have i21 : 1 ≤ (σ 26 6).toInt ∧ (σ 26 6).toInt ≤ 8000 := hI26
  obtain ⟨i22, i23, i24, w25, w26, w27, w28⟩ : (0 ≤ (σ 55 5).toInt) ∧ ((σ 55 5).toInt ≤ (σ 55 4).toInt) ∧ ((σ 55 4).toInt ≤ 40) ∧ (∀ k : Nat, k < 68 → (-200) ≤ (σ 56 k).toInt ∧ (σ 56 k).toInt ≤ 500) ∧ (∀ k : Nat, k < 40 → 0 ≤ (σ 57 k).toInt ∧ (σ 57 k).toInt ≤ 67) ∧ (∀ k : Nat, k < 40 → (-200) ≤ (σ 58 k).toInt ∧ (σ 58 k).toInt ≤ 500) ∧ (∀ k : Nat, k < 40 → (-200) ≤ (σ 59 k).toInt ∧ (σ 59 k).toInt ≤ 500) := id hI101
  obtain ⟨i29, w30, w31⟩ : (0 ≤ (σ 55 6).toInt ∧ (σ 55 6).toInt ≤ 4) ∧ (∀ k : Nat, k < 4 → 0 ≤ (σ 60 k).toInt ∧ (σ 60 k).toInt ≤ 50) ∧ (∀ k : Nat, k < 4 → 0 ≤ (σ 61 k).toInt ∧ (σ 61 k).toInt ≤ 20) := id hI102
  have i32 : 0 ≤ (σ 55 9).toInt ∧ (σ 55 9).toInt ≤ 3 := hI103
  obtain ⟨i33, i34, i35, w36, w37⟩ : (1 ≤ (σ 55 10).toInt ∧ (σ 55 10).toInt ≤ 8) ∧ (1 ≤ (σ 55 12).toInt ∧ (σ 55 12).toInt ≤ 12) ∧ (0 ≤ (σ 55 13).toInt ∧ (σ 55 13).toInt ≤ 999) ∧ (∀ k : Nat, k < 8 → 0 ≤ (σ 62 k).toInt ∧ (σ 62 k).toInt ≤ 3) ∧ (∀ k : Nat, k < 8 → 0 ≤ (σ 67 k).toInt ∧ (σ 67 k).toInt ≤ 3) := id hI104
  obtain ⟨i38, w39⟩ : (0 ≤ (σ 55 15).toInt ∧ (σ 55 15).toInt ≤ 80) ∧ (∀ k : Nat, k < 2 → (-1) ≤ (σ 65 k).toInt ∧ (σ 65 k).toInt ≤ 80) := id hI105
  obtain ⟨i40, w41, w42, w43⟩ : (0 ≤ (σ 55 32).toInt ∧ (σ 55 32).toInt ≤ 20) ∧ (∀ k : Nat, k < 20 → 0 ≤ (σ 70 k).toInt ∧ (σ 70 k).toInt ≤ 6) ∧ (∀ k : Nat, k < 20 → 0 ≤ (σ 71 k).toInt ∧ (σ 71 k).toInt ≤ 8) ∧ (∀ k : Nat, k < 160 → 0 ≤ (σ 72 k).toInt ∧ (σ 72 k).toInt ≤ 3) := id hI106
  obtain ⟨i44, i45, w46⟩ : (0 ≤ (σ 55 47).toInt ∧ (σ 55 47).toInt ≤ 12) ∧ ((σ 55 47).toInt ≤ (σ 55 12).toInt) ∧ (∀ k : Nat, k < 12 → 0 ≤ (σ 80 k).toInt ∧ (σ 80 k).toInt ≤ 3) := id hI107
  have hs_jOk3 : jOk3 σ := hr0.ok hr1.1
  refine lv_aload_n hx hb dL_law_839 rfl (lv_at hl 2 rfl) ?_
  refine jcallV (As := []) (rest := []) ⟨hx, hb, hml, hown, hts⟩ hK hP hA hS hZ (c_X11_close l D cI cL ad zz hJ σ τ hI47) cw_RL_101 (jc_0 cI cL ad σ τ) rfl ⟨Nat.le_of_ble_eq_true rfl, Nat.le_of_ble_eq_true rfl⟩ rfl rfl rfl hl.1 rfl (Nat.le_of_ble_eq_true rfl) dL_law_840 ⟨Nat.le_of_ble_eq_true rfl, Nat.le_of_ble_eq_true rfl⟩ (fun r48 σ47 τ47 H locs h47 hP hS => ?_)
  obtain ⟨rfl, f49, f50, I51, h47⟩ := h47
  obtain ⟨i53, w54, w55⟩ : (0 ≤ (σ47 47 0).toInt ∧ (σ47 47 0).toInt ≤ 12) ∧ (∀ k : Nat, k < 12 → 0 ≤ (σ47 48 k).toInt ∧ (σ47 48 k).toInt ≤ 3) ∧ (∀ k : Nat, k < 12 → 0 ≤ (σ47 49 k).toInt ∧ (σ47 49 k).toInt ≤ 1) := id I51
  have h56 := h47
  obtain ⟨q59, k57, k58⟩ := h56
  refine lv_pop hx hb dL_law_843 rfl ?_
  refine lv_aload_n hx hb dL_law_844 rfl (lv_at hl 1 rfl) ?_
  have I60 : jI104 σ47 := jI104_fr (congrFun (f49 55 (by decide)) 10) (congrFun (f49 55 (by decide)) 12) (congrFun (f49 55 (by decide)) 13) (f49 62 (by decide)) (f49 67 (by decide)) hI104
  have I61 : jI107 σ47 := jI107_fr (congrFun (f49 55 (by decide)) 12) (congrFun (f49 55 (by decide)) 47) (f49 80 (by decide)) hI107
  have p62 : jBook σ47 := jBook.fr (congrFun (f49 55 (by decide)) 47) (congrFun (f49 55 (by decide)) 10) (f49 81 (by decide)) hs_jBook
  have z63 : (σ47 55 47).toInt = (σ 55 47).toInt := (congrArg Int32.toInt (show σ47 55 47 = (σ 55 47) from (congrFun (f49 55 (by decide)) 47)))
  refine jcallV (As := []) (rest := []) ⟨hx, hb, hml, hown, hts⟩ hK hP hA hS hZ (c_X12_close l D cI cL ad zz hJ σ47 τ I60 I61 p62) cw_RL_104 (jc_55 cI cL ad σ47 τ) rfl ⟨Nat.le_of_ble_eq_true rfl, Nat.le_of_ble_eq_true rfl⟩ rfl rfl rfl hl.1 rfl (Nat.le_of_ble_eq_true rfl) dL_law_845 ⟨Nat.le_of_ble_eq_true rfl, Nat.le_of_ble_eq_true rfl⟩ (fun r65 σ64 τ64 H locs h64 hP hS => ?_)
  obtain ⟨rfl, f66, f67, I68, p69, h64⟩ := h64
  obtain ⟨i71, i72, w73⟩ : (0 ≤ (σ64 55 47).toInt ∧ (σ64 55 47).toInt ≤ 12) ∧ ((σ64 55 47).toInt ≤ (σ64 55 12).toInt) ∧ (∀ k : Nat, k < 12 → 0 ≤ (σ64 80 k).toInt ∧ (σ64 80 k).toInt ≤ 3) := id I68
  have z74 : (σ64 55 12).toInt = (σ 55 12).toInt := (congrArg Int32.toInt (show σ64 55 12 = (σ 55 12) from ((f67 12 (by decide)).trans (congrFun (f49 55 (by decide)) 12))))
  have h75 := h64
  obtain ⟨q78, k76, k77⟩ := h75
  refine lv_pop hx hb dL_law_848 rfl ?_
  refine lv_goto (tgt := 1357) hx hb dL_law_849 (by decide) ?_
  obtain ⟨x79, ex79⟩ : ∃ y : Int32, y = x0 + 6 := ⟨_, rfl⟩
  have tx79 : x79.toInt = x0.toInt + 6 := (jadd ex79 rfl jz_6 (by omega) (by omega)).trans (by omega)
  refine lv_iinc (v := x79) (lv' := [(3, .int x79), (2, .ref (ad 55)), (1, .ref (ad 0)), (0, .ref b)]) hx hb dL_law_1357 hl (k := 0) rfl (by rw [ex79]; rfl) (by decide) rfl (fun ls hl => ?_)
  refine lv_goto (tgt := 18) hx hb dL_law_1360 (by decide) ?_
  have I80 : jI2 σ64 := jI2_fr ((congrFun (f66 2 (by decide)) 0).trans (congrFun (f49 2 (by decide)) 0)) ((congrFun (f66 2 (by decide)) 1).trans (congrFun (f49 2 (by decide)) 1)) ((congrFun (f66 2 (by decide)) 2).trans (congrFun (f49 2 (by decide)) 2)) ((congrFun (f66 2 (by decide)) 3).trans (congrFun (f49 2 (by decide)) 3)) ((f66 6 (by decide)).trans (f49 6 (by decide))) hI2
  have I81 : jI9 σ64 := jI9_fr ((congrFun (f66 9 (by decide)) 0).trans (congrFun (f49 9 (by decide)) 0)) ((f66 10 (by decide)).trans (f49 10 (by decide))) ((f66 11 (by decide)).trans (f49 11 (by decide))) hI9
  have I82 : jI12 σ64 := jI12_fr ((congrFun (f66 12 (by decide)) 0).trans (congrFun (f49 12 (by decide)) 0)) ((f66 13 (by decide)).trans (f49 13 (by decide))) hI12
  have I83 : jI16 σ64 := jI16_fr ((congrFun (f66 16 (by decide)) 0).trans (congrFun (f49 16 (by decide)) 0)) ((congrFun (f66 16 (by decide)) 1).trans (congrFun (f49 16 (by decide)) 1)) ((congrFun (f66 16 (by decide)) 2).trans (congrFun (f49 16 (by decide)) 2)) ((f66 17 (by decide)).trans (f49 17 (by decide))) hI16
  have I84 : jI18 σ64 := jI18_fr ((congrFun (f66 18 (by decide)) 0).trans (congrFun (f49 18 (by decide)) 0)) ((f66 19 (by decide)).trans (f49 19 (by decide))) hI18
  have I85 : jI22 σ64 := jI22_fr ((congrFun (f66 22 (by decide)) 0).trans (congrFun (f49 22 (by decide)) 0)) ((f66 23 (by decide)).trans (f49 23 (by decide))) hI22
  have I86 : jI31 σ64 := jI31_fr ((congrFun (f66 31 (by decide)) 8).trans (congrFun (f49 31 (by decide)) 8)) ((congrFun (f66 31 (by decide)) 10).trans (congrFun (f49 31 (by decide)) 10)) ((congrFun (f66 31 (by decide)) 11).trans (congrFun (f49 31 (by decide)) 11)) ((f66 33 (by decide)).trans (f49 33 (by decide))) ((f66 35 (by decide)).trans (f49 35 (by decide))) ((f66 36 (by decide)).trans (f49 36 (by decide))) hI31
  have I87 : jI38 σ64 := jI38_fr ((congrFun (f66 38 (by decide)) 0).trans (congrFun (f49 38 (by decide)) 0)) ((congrFun (f66 38 (by decide)) 1).trans (congrFun (f49 38 (by decide)) 1)) ((f66 39 (by decide)).trans (f49 39 (by decide))) hI38
  have I88 : jI43 σ64 := jI43_fr ((congrFun (f66 43 (by decide)) 8).trans (congrFun (f49 43 (by decide)) 8)) hI43
  have I89 : jI47 σ64 := jI47_fr (congrFun (f66 47 (by decide)) 0) (f66 48 (by decide)) (f66 49 (by decide)) I51
  have I90 : jI50 σ64 := jI50_fr ((f66 52 (by decide)).trans (f49 52 (by decide))) hI50
  have I91 : jI0 σ64 := jI0_fr ((f66 1 (by decide)).trans (f49 1 (by decide))) hI0
  have I92 : jI26 σ64 := jI26_fr ((congrFun (f66 26 (by decide)) 6).trans (congrFun (f49 26 (by decide)) 6)) hI26
  have I93 : jI101 σ64 := jI101_fr ((f67 4 (by decide)).trans (congrFun (f49 55 (by decide)) 4)) ((f67 5 (by decide)).trans (congrFun (f49 55 (by decide)) 5)) ((f66 56 (by decide)).trans (f49 56 (by decide))) ((f66 57 (by decide)).trans (f49 57 (by decide))) ((f66 58 (by decide)).trans (f49 58 (by decide))) ((f66 59 (by decide)).trans (f49 59 (by decide))) hI101
  have I94 : jI102 σ64 := jI102_fr ((f67 6 (by decide)).trans (congrFun (f49 55 (by decide)) 6)) ((f66 60 (by decide)).trans (f49 60 (by decide))) ((f66 61 (by decide)).trans (f49 61 (by decide))) hI102
  have I95 : jI103 σ64 := jI103_fr ((f67 9 (by decide)).trans (congrFun (f49 55 (by decide)) 9)) hI103
  have I96 : jI104 σ64 := jI104_fr (f67 10 (by decide)) (f67 12 (by decide)) (f67 13 (by decide)) (f66 62 (by decide)) (f66 67 (by decide)) I60
  have I97 : jI105 σ64 := jI105_fr ((f67 15 (by decide)).trans (congrFun (f49 55 (by decide)) 15)) ((f66 65 (by decide)).trans (f49 65 (by decide))) hI105
  have I98 : jI106 σ64 := jI106_fr ((f67 32 (by decide)).trans (congrFun (f49 55 (by decide)) 32)) ((f66 70 (by decide)).trans (f49 70 (by decide))) ((f66 71 (by decide)).trans (f49 71 (by decide))) ((f66 72 (by decide)).trans (f49 72 (by decide))) hI106
  have I99 : jI109 σ64 := jI109_fr ((f67 50 (by decide)).trans (congrFun (f49 55 (by decide)) 50)) hI109
  have I100 : jI110 σ64 := jI110_fr ((f66 86 (by decide)).trans (f49 86 (by decide))) ((f66 87 (by decide)).trans (f49 87 (by decide))) hI110
  have I101 : jI111 σ64 := jI111_fr ((f66 79 (by decide)).trans (f49 79 (by decide))) hI111
  have I102 : jI119 σ64 := jI119_fr ((f66 68 (by decide)).trans (f49 68 (by decide))) hI119
  have p103 : jKept σ64 := jKept.fr ((f66 75 (by decide)).trans (f49 75 (by decide))) ((f66 76 (by decide)).trans (f49 76 (by decide))) ((f66 77 (by decide)).trans (f49 77 (by decide))) hs_jKept
  have p104 : jNd12 σ64 := jNd12.fr ((congrFun (f66 12 (by decide)) 0).trans (congrFun (f49 12 (by decide)) 0)) ((congrFun (f66 12 (by decide)) 1).trans (congrFun (f49 12 (by decide)) 1)) ((f66 13 (by decide)).trans (f49 13 (by decide))) hs_jNd12
  have p105 : jN67 σ64 := jN67.fr ((f66 24 (by decide)).trans (f49 24 (by decide))) hs_jN67
  have p106 : jBl σ64 := jBl.fr ((congrFun (f66 22 (by decide)) 0).trans (congrFun (f49 22 (by decide)) 0)) ((congrFun (f66 22 (by decide)) 1).trans (congrFun (f49 22 (by decide)) 1)) ((f66 23 (by decide)).trans (f49 23 (by decide))) ((congrFun (f66 26 (by decide)) 6).trans (congrFun (f49 26 (by decide)) 6)) ((congrFun (f66 26 (by decide)) 7).trans (congrFun (f49 26 (by decide)) 7)) ((f66 29 (by decide)).trans (f49 29 (by decide))) ((f66 30 (by decide)).trans (f49 30 (by decide))) hs_jBl
  have p107 : jKb σ64 := jKb.fr ((congrFun (f66 31 (by decide)) 8).trans (congrFun (f49 31 (by decide)) 8)) ((congrFun (f66 31 (by decide)) 11).trans (congrFun (f49 31 (by decide)) 11)) ((f66 32 (by decide)).trans (f49 32 (by decide))) hs_jKb
  have p108 : jTR σ64 := jTR.fr ((f66 64 (by decide)).trans (f49 64 (by decide))) ((f66 65 (by decide)).trans (f49 65 (by decide))) hs_jTR
  have p109 : jKh σ64 := jKh.fr ((congrFun (f66 31 (by decide)) 8).trans (congrFun (f49 31 (by decide)) 8)) ((f66 32 (by decide)).trans (f49 32 (by decide))) ((f66 36 (by decide)).trans (f49 36 (by decide))) ((f66 37 (by decide)).trans (f49 37 (by decide))) hs_jKh
  have p110 : jKg σ64 := jKg.fr ((congrFun (f66 31 (by decide)) 8).trans (congrFun (f49 31 (by decide)) 8)) ((congrFun (f66 31 (by decide)) 9).trans (congrFun (f49 31 (by decide)) 9)) ((congrFun (f66 31 (by decide)) 11).trans (congrFun (f49 31 (by decide)) 11)) ((congrFun (f66 31 (by decide)) 12).trans (congrFun (f49 31 (by decide)) 12)) ((f66 32 (by decide)).trans (f49 32 (by decide))) ((f66 33 (by decide)).trans (f49 33 (by decide))) hs_jKg
  have z111 : (σ64 2 0).toInt = (σ 2 0).toInt := (congrArg Int32.toInt (show σ64 2 0 = (σ 2 0) from ((congrFun (f66 2 (by decide)) 0).trans (congrFun (f49 2 (by decide)) 0))))
  have z112 : (σ64 55 6).toInt = (σ 55 6).toInt := (congrArg Int32.toInt (show σ64 55 6 = (σ 55 6) from ((f67 6 (by decide)).trans (congrFun (f49 55 (by decide)) 6))))
  have z113 : (σ64 2 2).toInt = (σ 2 2).toInt := (congrArg Int32.toInt (show σ64 2 2 = (σ 2 2) from ((congrFun (f66 2 (by decide)) 2).trans (congrFun (f49 2 (by decide)) 2))))
  have z114 : (σ64 55 5).toInt = (σ 55 5).toInt := (congrArg Int32.toInt (show σ64 55 5 = (σ 55 5) from ((f67 5 (by decide)).trans (congrFun (f49 55 (by decide)) 5))))
  have z115 : (σ64 2 3).toInt = (σ 2 3).toInt := (congrArg Int32.toInt (show σ64 2 3 = (σ 2 3) from ((congrFun (f66 2 (by decide)) 3).trans (congrFun (f49 2 (by decide)) 3))))
  have z116 : (σ64 55 4).toInt = (σ 55 4).toInt := (congrArg Int32.toInt (show σ64 55 4 = (σ 55 4) from ((f67 4 (by decide)).trans (congrFun (f49 55 (by decide)) 4))))
  have z117 : (σ64 9 0).toInt = (σ 9 0).toInt := (congrArg Int32.toInt (show σ64 9 0 = (σ 9 0) from ((congrFun (f66 9 (by decide)) 0).trans (congrFun (f49 9 (by decide)) 0))))
  have z118 : (σ64 55 15).toInt = (σ 55 15).toInt := (congrArg Int32.toInt (show σ64 55 15 = (σ 55 15) from ((f67 15 (by decide)).trans (congrFun (f49 55 (by decide)) 15))))
  have z119 : (σ64 16 0).toInt = (σ 16 0).toInt := (congrArg Int32.toInt (show σ64 16 0 = (σ 16 0) from ((congrFun (f66 16 (by decide)) 0).trans (congrFun (f49 16 (by decide)) 0))))
  have z120 : (σ64 55 10).toInt = (σ 55 10).toInt := (congrArg Int32.toInt (show σ64 55 10 = (σ 55 10) from ((f67 10 (by decide)).trans (congrFun (f49 55 (by decide)) 10))))
  have z121 : (σ64 16 1).toInt = (σ 16 1).toInt := (congrArg Int32.toInt (show σ64 16 1 = (σ 16 1) from ((congrFun (f66 16 (by decide)) 1).trans (congrFun (f49 16 (by decide)) 1))))
  have z122 : (σ64 16 2).toInt = (σ 16 2).toInt := (congrArg Int32.toInt (show σ64 16 2 = (σ 16 2) from ((congrFun (f66 16 (by decide)) 2).trans (congrFun (f49 16 (by decide)) 2))))
  have z123 : (σ64 55 13).toInt = (σ 55 13).toInt := (congrArg Int32.toInt (show σ64 55 13 = (σ 55 13) from ((f67 13 (by decide)).trans (congrFun (f49 55 (by decide)) 13))))
  have z124 : (σ64 38 0).toInt = (σ 38 0).toInt := (congrArg Int32.toInt (show σ64 38 0 = (σ 38 0) from ((congrFun (f66 38 (by decide)) 0).trans (congrFun (f49 38 (by decide)) 0))))
  have z125 : (σ64 55 32).toInt = (σ 55 32).toInt := (congrArg Int32.toInt (show σ64 55 32 = (σ 55 32) from ((f67 32 (by decide)).trans (congrFun (f49 55 (by decide)) 32))))
  have z126 : (σ64 38 1).toInt = (σ 38 1).toInt := (congrArg Int32.toInt (show σ64 38 1 = (σ 38 1) from ((congrFun (f66 38 (by decide)) 1).trans (congrFun (f49 38 (by decide)) 1))))
  have z127 : (σ64 55 55).toInt = (σ 55 55).toInt := (congrArg Int32.toInt (show σ64 55 55 = (σ 55 55) from ((f67 55 (by decide)).trans (congrFun (f49 55 (by decide)) 55))))
  have z128 : (σ64 47 0).toInt = (σ47 47 0).toInt := (congrArg Int32.toInt (show σ64 47 0 = (σ47 47 0) from (congrFun (f66 47 (by decide)) 0)))
  have z129 : (σ64 55 30).toInt = (σ 55 30).toInt := (congrArg Int32.toInt (show σ64 55 30 = (σ 55 30) from ((f67 30 (by decide)).trans (congrFun (f49 55 (by decide)) 30))))
  have z130 : (σ64 55 31).toInt = (σ 55 31).toInt := (congrArg Int32.toInt (show σ64 55 31 = (σ 55 31) from ((f67 31 (by decide)).trans (congrFun (f49 55 (by decide)) 31))))
  have z131 : (σ64 2 1).toInt = (σ 2 1).toInt := (congrArg Int32.toInt (show σ64 2 1 = (σ 2 1) from ((congrFun (f66 2 (by decide)) 1).trans (congrFun (f49 2 (by decide)) 1))))
  have z132 : (σ64 55 9).toInt = (σ 55 9).toInt := (congrArg Int32.toInt (show σ64 55 9 = (σ 55 9) from ((f67 9 (by decide)).trans (congrFun (f49 55 (by decide)) 9))))
  have z133 : (σ64 26 6).toInt = (σ 26 6).toInt := (congrArg Int32.toInt (show σ64 26 6 = (σ 26 6) from ((congrFun (f66 26 (by decide)) 6).trans (congrFun (f49 26 (by decide)) 6))))
  have z135 : (σ64 18 0).toInt = (σ 18 0).toInt := (congrArg Int32.toInt (show σ64 18 0 = (σ 18 0) from ((congrFun (f66 18 (by decide)) 0).trans (congrFun (f49 18 (by decide)) 0))))
  have z136 : (σ64 22 0).toInt = (σ 22 0).toInt := (congrArg Int32.toInt (show σ64 22 0 = (σ 22 0) from ((congrFun (f66 22 (by decide)) 0).trans (congrFun (f49 22 (by decide)) 0))))
  exact ih x79 σ64 τ _ _ ls (by have h9 := tx79; omega) ⟨I80, I81, I82, I83, I84, I85, I86, I87, I88, I89, I90, I91, I92, I93, I94, I95, I96, I97, I98, I68, I99, I100, I101, I102, p103, p69, p104, p105, p106, p107, p108, p109, p110, (by omega), (by omega), (by omega), (by omega), (by omega), (by omega), (by omega), (by omega), (by omega), (by omega), (by omega), (by omega), (by omega), (by have h9 := tx79; omega), (show jNumP (σ64 3) (σ64 56) (σ64 6) (σ64 57) (σ64 7) (σ64 58) (σ64 8) (σ64 59) (σ64 55 6).toInt (σ64 55 4).toInt by rw [show σ64 3 = σ 3 from ((f66 3 (by decide)).trans (f49 3 (by decide))), show σ64 56 = σ 56 from ((f66 56 (by decide)).trans (f49 56 (by decide))), show σ64 6 = σ 6 from ((f66 6 (by decide)).trans (f49 6 (by decide))), show σ64 57 = σ 57 from ((f66 57 (by decide)).trans (f49 57 (by decide))), show σ64 7 = σ 7 from ((f66 7 (by decide)).trans (f49 7 (by decide))), show σ64 58 = σ 58 from ((f66 58 (by decide)).trans (f49 58 (by decide))), show σ64 8 = σ 8 from ((f66 8 (by decide)).trans (f49 8 (by decide))), show σ64 59 = σ 59 from ((f66 59 (by decide)).trans (f49 59 (by decide))), show (σ64 55 6).toInt = (σ 55 6).toInt from by omega, show (σ64 55 4).toInt = (σ 55 4).toInt from by omega]; exact hr0), (show jOvP (σ64 56) (σ64 57) (σ64 58) (σ64 59) (σ64 55 4).toInt by rw [show σ64 56 = σ 56 from ((f66 56 (by decide)).trans (f49 56 (by decide))), show σ64 57 = σ 57 from ((f66 57 (by decide)).trans (f49 57 (by decide))), show σ64 58 = σ 58 from ((f66 58 (by decide)).trans (f49 58 (by decide))), show σ64 59 = σ 59 from ((f66 59 (by decide)).trans (f49 59 (by decide))), show (σ64 55 4).toInt = (σ 55 4).toInt from by omega]; exact hr1), (show jTp (σ64 10) (σ64 63) (σ64 55 15).toInt by rw [show σ64 10 = σ 10 from ((f66 10 (by decide)).trans (f49 10 (by decide))), show σ64 63 = σ 63 from ((f66 63 (by decide)).trans (f49 63 (by decide)))]; exact hr2.le (by omega)), (show jSo (σ64 17) (σ64 62) (σ64 16 0).toInt by rw [show σ64 17 = σ 17 from ((f66 17 (by decide)).trans (f49 17 (by decide))), show σ64 62 = σ 62 from ((f66 62 (by decide)).trans (f49 62 (by decide))), show (σ64 16 0).toInt = (σ 16 0).toInt from by omega]; exact hr3), (show jShP (σ64 51) (σ64 52) (σ64 53) (σ64 86) (σ64 87) (σ64 55 32).toInt by rw [show σ64 51 = σ 51 from ((f66 51 (by decide)).trans (f49 51 (by decide))), show σ64 52 = σ 52 from ((f66 52 (by decide)).trans (f49 52 (by decide))), show σ64 53 = σ 53 from ((f66 53 (by decide)).trans (f49 53 (by decide))), show σ64 86 = σ 86 from ((f66 86 (by decide)).trans (f49 86 (by decide))), show σ64 87 = σ 87 from ((f66 87 (by decide)).trans (f49 87 (by decide)))]; exact (hr4.up (by omega) (by omega))), (show jEl (σ64 51) (σ64 52) (τ 54) (τ 88) by rw [show σ64 51 = σ 51 from ((f66 51 (by decide)).trans (f49 51 (by decide))), show σ64 52 = σ 52 from ((f66 52 (by decide)).trans (f49 52 (by decide)))]; exact hr5), (show jByP (σ64 51) (σ64 52) (τ 54) by rw [show σ64 51 = σ 51 from ((f66 51 (by decide)).trans (f49 51 (by decide))), show σ64 52 = σ 52 from ((f66 52 (by decide)).trans (f49 52 (by decide)))]; exact hr6), (jBk.nil (by omega)), (show jKd (σ64 39) (σ64 70) (σ64 55 32).toInt by rw [show σ64 39 = σ 39 from ((f66 39 (by decide)).trans (f49 39 (by decide))), show σ64 70 = σ 70 from ((f66 70 (by decide)).trans (f49 70 (by decide))), show (σ64 55 32).toInt = (σ 55 32).toInt from by omega]; exact hr8), (show jTt (σ64 42) (σ64 85) (σ64 55 55).toInt by rw [show σ64 42 = σ 42 from ((f66 42 (by decide)).trans (f49 42 (by decide))), show σ64 85 = σ 85 from ((f66 85 (by decide)).trans (f49 85 (by decide))), show (σ64 55 55).toInt = (σ 55 55).toInt from by omega]; exact hr9), (fun k hk => by rw [show σ64 4 = σ 4 from ((f66 4 (by decide)).trans (f49 4 (by decide))), show σ64 5 = σ 5 from ((f66 5 (by decide)).trans (f49 5 (by decide))), show σ64 60 = σ 60 from ((f66 60 (by decide)).trans (f49 60 (by decide))), show σ64 61 = σ 61 from ((f66 61 (by decide)).trans (f49 61 (by decide)))]; exact hr10 k (by omega)), (fun nm => by rw [show σ64 19 = σ 19 from ((f66 19 (by decide)).trans (f49 19 (by decide))), show σ64 64 = σ 64 from ((f66 64 (by decide)).trans (f49 64 (by decide))), show σ64 65 = σ 65 from ((f66 65 (by decide)).trans (f49 65 (by decide))), show (σ64 18 0).toInt = (σ 18 0).toInt from by omega]; exact hr11 nm), (fun nm => by rw [show σ64 23 = σ 23 from ((f66 23 (by decide)).trans (f49 23 (by decide))), show σ64 64 = σ 64 from ((f66 64 (by decide)).trans (f49 64 (by decide))), show σ64 65 = σ 65 from ((f66 65 (by decide)).trans (f49 65 (by decide))), show (σ64 22 0).toInt = (σ 22 0).toInt from by omega]; exact hr12 nm)⟩ hP hS (lv_sub hl [0, 1, 2, 3] rfl)
set_option maxHeartbeats 4000000 in
set_option maxRecDepth 100000 in
theorem law_case_22 {p : Program} {e : Env} {s : State} {m : MethodId} {below : List Frame} {meth : Method} {c : Code} (l : Launch) {b L : Nat} {xs : Nat → Int32} {D : va_G} {cI cL : ClassId} {ad zz : Nat → Nat} (C0 : lw_At p s m meth c b L xs) (hJ : jD ad) (hA : ∀ q, jA ad q → s.heap.size ≤ q) (hK : jK D cI cL s) (hZ : jZ zz (fun q : Nat => s.heap.size ≤ q) s s.heap) {x0 : Int32} (hx0 : 0 ≤ x0.toInt) (hxL : x0.toInt + 6 ≤ (L : Int)) (hL : L ≤ 384) {σ : Nat → Nat → Int32} {τ : Nat → Nat → Int64} {H : Heap} {locs : List Loc} (hS : va_S (fun q : Nat => s.heap.size ≤ q) s.heap H locs) {ls : Array Slot} (hAll : jAll x0.toInt σ τ) (hP : jH D cI cL ad σ τ H) (hl : lv_has ls 4 [(3, .int x0), (2, .ref (ad 55)), (1, .ref (ad 0)), (0, .ref b)]) (ih : ∀ (x1 : Int32) (σ : Nat → Nat → Int32) (τ : Nat → Nat → Int64) (H : Heap) (locs : List Loc) (ls : Array Slot), x1.toInt = x0.toInt + 6 → jAll x1.toInt σ τ → jH D cI cL ad σ τ H → va_S (fun q : Nat => s.heap.size ≤ q) s.heap H locs → lv_has ls 4 [(3, .int x1), (2, .ref (ad 55)), (1, .ref (ad 0)), (0, .ref b)] → W p l e room_1 s m #[Value.ref b] below meth c H locs 90 348600 (lw_Z below #[Value.ref b] s) (F0 m 18 ls [])) : W p l e room_1 s m #[Value.ref b] below meth c H locs 90 348600 (lw_Z below #[Value.ref b] s) (F0 m 852 ls []) := by
  obtain ⟨hx, hb, hr, hml, hown, hts0, hX, hbl, hlocks, hgv⟩ := C0
  have hts : ∀ w ∈ wsL_law, w.before #[Value.ref b] s = true := fun w h => hts0 w (wsL_law_in w h)
  have hbA : ¬ (fun q : Nat => s.heap.size ≤ q) b := Nat.not_le.mpr hbl
  have hown : s.vm.findClass RL = some m.cls := hown
  obtain ⟨hI2, hI9, hI12, hI16, hI18, hI22, hI31, hI38, hI43, hI47, hI50, hI0, hI26, hI101, hI102, hI103, hI104, hI105, hI106, hI107, hI109, hI110, hI111, hI119, hs_jKept, hs_jBook, hs_jNd12, hs_jN67, hs_jBl, hs_jKb, hs_jTR, hs_jKh, hs_jKg, ht0, ht1, ht2, ht3, ht4, ht5, ht6, ht7, ht8, ht9, ht10, ht11, ht12, ht13, hr0, hr1, hr2, hr3, hr4, hr5, hr6, hr7, hr8, hr9, hr10, hr11, hr12⟩ := hAll
  have hL9 : (L : Int) ≤ 384 := by omega
  obtain ⟨i1, i2, i3, i4, i5, w6⟩ : (0 ≤ (σ 2 0).toInt ∧ (σ 2 0).toInt ≤ 4) ∧ (0 ≤ (σ 2 1).toInt ∧ (σ 2 1).toInt ≤ 3) ∧ (0 ≤ (σ 2 2).toInt) ∧ (0 ≤ (σ 2 3).toInt) ∧ ((σ 2 2).toInt + (σ 2 3).toInt ≤ 40) ∧ (∀ k : Nat, k < 40 → 0 ≤ (σ 6 k).toInt ∧ (σ 6 k).toInt ≤ 67) := id hI2
  obtain ⟨i7, w8, w9⟩ : (0 ≤ (σ 9 0).toInt ∧ (σ 9 0).toInt ≤ 80) ∧ (∀ k : Nat, k < 80 → 0 ≤ (σ 10 k).toInt ∧ (σ 10 k).toInt ≤ 255) ∧ (∀ k : Nat, k < 8 → 0 ≤ (σ 11 k).toInt ∧ (σ 11 k).toInt ≤ 3) := id hI9
  obtain ⟨i10, i11, i12, w13⟩ : (1 ≤ (σ 16 0).toInt ∧ (σ 16 0).toInt ≤ 8) ∧ (1 ≤ (σ 16 1).toInt ∧ (σ 16 1).toInt ≤ 12) ∧ (0 ≤ (σ 16 2).toInt ∧ (σ 16 2).toInt ≤ 999) ∧ (∀ k : Nat, k < 8 → 0 ≤ (σ 17 k).toInt ∧ (σ 17 k).toInt ≤ 3) := id hI16
  obtain ⟨i14, i15, w16⟩ : (0 ≤ (σ 38 0).toInt ∧ (σ 38 0).toInt ≤ 20) ∧ (0 ≤ (σ 38 1).toInt ∧ (σ 38 1).toInt ≤ 1000) ∧ (∀ k : Nat, k < 20 → 0 ≤ (σ 39 k).toInt ∧ (σ 39 k).toInt ≤ 6) := id hI38
  obtain ⟨i17, w18, w19⟩ : (0 ≤ (σ 47 0).toInt ∧ (σ 47 0).toInt ≤ 12) ∧ (∀ k : Nat, k < 12 → 0 ≤ (σ 48 k).toInt ∧ (σ 48 k).toInt ≤ 3) ∧ (∀ k : Nat, k < 12 → 0 ≤ (σ 49 k).toInt ∧ (σ 49 k).toInt ≤ 1) := id hI47
  have w20 : ∀ k : Nat, k < 6 → 0 ≤ (σ 52 k).toInt ∧ (σ 52 k).toInt ≤ 60 := hI50
  have i21 : 1 ≤ (σ 26 6).toInt ∧ (σ 26 6).toInt ≤ 8000 := hI26
  obtain ⟨i22, i23, i24, w25, w26, w27, w28⟩ : (0 ≤ (σ 55 5).toInt) ∧ ((σ 55 5).toInt ≤ (σ 55 4).toInt) ∧ ((σ 55 4).toInt ≤ 40) ∧ (∀ k : Nat, k < 68 → (-200) ≤ (σ 56 k).toInt ∧ (σ 56 k).toInt ≤ 500) ∧ (∀ k : Nat, k < 40 → 0 ≤ (σ 57 k).toInt ∧ (σ 57 k).toInt ≤ 67) ∧ (∀ k : Nat, k < 40 → (-200) ≤ (σ 58 k).toInt ∧ (σ 58 k).toInt ≤ 500) ∧ (∀ k : Nat, k < 40 → (-200) ≤ (σ 59 k).toInt ∧ (σ 59 k).toInt ≤ 500) := id hI101
  obtain ⟨i29, w30, w31⟩ : (0 ≤ (σ 55 6).toInt ∧ (σ 55 6).toInt ≤ 4) ∧ (∀ k : Nat, k < 4 → 0 ≤ (σ 60 k).toInt ∧ (σ 60 k).toInt ≤ 50) ∧ (∀ k : Nat, k < 4 → 0 ≤ (σ 61 k).toInt ∧ (σ 61 k).toInt ≤ 20) := id hI102
  have i32 : 0 ≤ (σ 55 9).toInt ∧ (σ 55 9).toInt ≤ 3 := hI103
  obtain ⟨i33, i34, i35, w36, w37⟩ : (1 ≤ (σ 55 10).toInt ∧ (σ 55 10).toInt ≤ 8) ∧ (1 ≤ (σ 55 12).toInt ∧ (σ 55 12).toInt ≤ 12) ∧ (0 ≤ (σ 55 13).toInt ∧ (σ 55 13).toInt ≤ 999) ∧ (∀ k : Nat, k < 8 → 0 ≤ (σ 62 k).toInt ∧ (σ 62 k).toInt ≤ 3) ∧ (∀ k : Nat, k < 8 → 0 ≤ (σ 67 k).toInt ∧ (σ 67 k).toInt ≤ 3) := id hI104
  obtain ⟨i38, w39⟩ : (0 ≤ (σ 55 15).toInt ∧ (σ 55 15).toInt ≤ 80) ∧ (∀ k : Nat, k < 2 → (-1) ≤ (σ 65 k).toInt ∧ (σ 65 k).toInt ≤ 80) := id hI105
  obtain ⟨i40, w41, w42, w43⟩ : (0 ≤ (σ 55 32).toInt ∧ (σ 55 32).toInt ≤ 20) ∧ (∀ k : Nat, k < 20 → 0 ≤ (σ 70 k).toInt ∧ (σ 70 k).toInt ≤ 6) ∧ (∀ k : Nat, k < 20 → 0 ≤ (σ 71 k).toInt ∧ (σ 71 k).toInt ≤ 8) ∧ (∀ k : Nat, k < 160 → 0 ≤ (σ 72 k).toInt ∧ (σ 72 k).toInt ≤ 3) := id hI106
  obtain ⟨i44, i45, w46⟩ : (0 ≤ (σ 55 47).toInt ∧ (σ 55 47).toInt ≤ 12) ∧ ((σ 55 47).toInt ≤ (σ 55 12).toInt) ∧ (∀ k : Nat, k < 12 → 0 ≤ (σ 80 k).toInt ∧ (σ 80 k).toInt ≤ 3) := id hI107
  have hs_jOk3 : jOk3 σ := hr0.ok hr1.1
  refine lv_aload_n hx hb dL_law_852 rfl (lv_at hl 2 rfl) ?_
  refine lv_aload_n hx hb dL_law_853 rfl (lv_at hl 3 rfl) ?_
  refine lv_iload_n hx hb dL_law_854 rfl (lv_at hl 0 rfl) ?_
  refine lv_iconst (v := 1) hx hb dL_law_855 (by decide) ?_
  have g47 := jrg (rfl : x0.toInt = x0.toInt)
  refine lv_iadd hx hb dL_law_856 ?_
  refine lv_topi (fun x48 ex48 => ?_)
  have tx48 : x48.toInt = x0.toInt + 1 := (jadd ex48 rfl jz_1 (by omega) (by omega)).trans (by omega)
  refine va_sld hx hb hX hbl hbA hS (jin tx48 (by omega) (by omega)) dL_law_857 ?_
  have g49 := jrg (rfl : (xs x48.toNatClampNeg).toInt = (xs x48.toNatClampNeg).toInt)
  refine jcallV (As := [.int (xs x48.toNatClampNeg)]) (rest := []) ⟨hx, hb, hml, hown, hts⟩ hK hP hA hS hZ (c_X11_cost l D cI cL ad zz hJ σ τ (xs x48.toNatClampNeg) ((xs x48.toNatClampNeg).toInt) rfl hI2 hI16 hI22 hI31 hI47 hI26 hs_jOk3 hs_jN67 hs_jBl hs_jKb hs_jKh hs_jKg) cw_RL_105 (jc_0 cI cL ad σ τ) rfl ⟨Nat.le_of_ble_eq_true rfl, Nat.le_of_ble_eq_true rfl⟩ rfl rfl rfl hl.1 rfl (Nat.le_of_ble_eq_true rfl) dL_law_858 ⟨Nat.le_of_ble_eq_true rfl, Nat.le_of_ble_eq_true rfl⟩ (fun r51 σ50 τ50 H locs h50 hP hS => ?_)
  obtain ⟨rfl, f52, f53, I54, p55, p56, p57, p58, p59, p60, h50⟩ := h50
  refine lv_pop hx hb dL_law_861 rfl ?_
  refine lv_aload_n hx hb dL_law_862 rfl (lv_at hl 1 rfl) ?_
  refine lv_aload_n hx hb dL_law_863 rfl (lv_at hl 3 rfl) ?_
  refine lv_iload_n hx hb dL_law_864 rfl (lv_at hl 0 rfl) ?_
  refine lv_iconst (v := 1) hx hb dL_law_865 (by decide) ?_
  refine lv_iadd hx hb dL_law_866 ?_
  refine jtopr ex48.symm ?_
  refine va_sld hx hb hX hbl hbA hS (jin tx48 (by omega) (by omega)) dL_law_867 ?_
  have I62 : jI101 σ50 := jI101_fr (congrFun (f52 55 (by decide)) 4) (congrFun (f52 55 (by decide)) 5) (f52 56 (by decide)) (f52 57 (by decide)) (f52 58 (by decide)) (f52 59 (by decide)) hI101
  have I63 : jI102 σ50 := jI102_fr (congrFun (f52 55 (by decide)) 6) (f52 60 (by decide)) (f52 61 (by decide)) hI102
  have I64 : jI103 σ50 := jI103_fr (congrFun (f52 55 (by decide)) 9) hI103
  have I65 : jI104 σ50 := jI104_fr (congrFun (f52 55 (by decide)) 10) (congrFun (f52 55 (by decide)) 12) (congrFun (f52 55 (by decide)) 13) (f52 62 (by decide)) (f52 67 (by decide)) hI104
  have I66 : jI105 σ50 := jI105_fr (congrFun (f52 55 (by decide)) 15) (f52 65 (by decide)) hI105
  have I67 : jI106 σ50 := jI106_fr (congrFun (f52 55 (by decide)) 32) (f52 70 (by decide)) (f52 71 (by decide)) (f52 72 (by decide)) hI106
  have I68 : jI107 σ50 := jI107_fr (congrFun (f52 55 (by decide)) 12) (congrFun (f52 55 (by decide)) 47) (f52 80 (by decide)) hI107
  have I69 : jI119 σ50 := jI119_fr (f52 68 (by decide)) hI119
  have p70 : jKept σ50 := jKept.fr (f52 75 (by decide)) (f52 76 (by decide)) (f52 77 (by decide)) hs_jKept
  have p71 : jBook σ50 := jBook.fr (congrFun (f52 55 (by decide)) 47) (congrFun (f52 55 (by decide)) 10) (f52 81 (by decide)) hs_jBook
  have p72 : jTR σ50 := jTR.fr (f52 64 (by decide)) (f52 65 (by decide)) hs_jTR
  refine jcallV (As := [.int (xs x48.toNatClampNeg)]) (rest := []) ⟨hx, hb, hml, hown, hts⟩ hK hP hA hS hZ (c_X12_cost l D cI cL ad zz hJ σ50 τ (xs x48.toNatClampNeg) ((xs x48.toNatClampNeg).toInt) rfl I62 I63 I64 I65 I66 I67 I68 I69 p70 p71 p72) cw_RL_108 (jc_55 cI cL ad σ50 τ) rfl ⟨Nat.le_of_ble_eq_true rfl, Nat.le_of_ble_eq_true rfl⟩ rfl rfl rfl hl.1 rfl (Nat.le_of_ble_eq_true rfl) dL_law_868 ⟨Nat.le_of_ble_eq_true rfl, Nat.le_of_ble_eq_true rfl⟩ (fun r74 σ73 τ73 H locs h73 hP hS => ?_)
  obtain ⟨rfl, f75, f76, I77, p78, p79, p80, h73⟩ := h73
  refine lv_pop hx hb dL_law_871 rfl ?_
  refine lv_goto (tgt := 1357) hx hb dL_law_872 (by decide) ?_
  obtain ⟨x82, ex82⟩ : ∃ y : Int32, y = x0 + 6 := ⟨_, rfl⟩
  have tx82 : x82.toInt = x0.toInt + 6 := (jadd ex82 rfl jz_6 (by omega) (by omega)).trans (by omega)
  refine lv_iinc (v := x82) (lv' := [(3, .int x82), (2, .ref (ad 55)), (1, .ref (ad 0)), (0, .ref b)]) hx hb dL_law_1357 hl (k := 0) rfl (by rw [ex82]; rfl) (by decide) rfl (fun ls hl => ?_)
  refine lv_goto (tgt := 18) hx hb dL_law_1360 (by decide) ?_
  have I83 : jI2 σ73 := jI2_fr ((congrFun (f75 2 (by decide)) 0).trans (congrFun (f52 2 (by decide)) 0)) ((congrFun (f75 2 (by decide)) 1).trans (congrFun (f52 2 (by decide)) 1)) ((congrFun (f75 2 (by decide)) 2).trans (congrFun (f52 2 (by decide)) 2)) ((congrFun (f75 2 (by decide)) 3).trans (congrFun (f52 2 (by decide)) 3)) ((f75 6 (by decide)).trans (f52 6 (by decide))) hI2
  have I84 : jI9 σ73 := jI9_fr ((congrFun (f75 9 (by decide)) 0).trans (congrFun (f52 9 (by decide)) 0)) ((f75 10 (by decide)).trans (f52 10 (by decide))) ((f75 11 (by decide)).trans (f52 11 (by decide))) hI9
  have I85 : jI12 σ73 := jI12_fr ((congrFun (f75 12 (by decide)) 0).trans (congrFun (f52 12 (by decide)) 0)) ((f75 13 (by decide)).trans (f52 13 (by decide))) hI12
  have I86 : jI16 σ73 := jI16_fr ((congrFun (f75 16 (by decide)) 0).trans (congrFun (f52 16 (by decide)) 0)) ((congrFun (f75 16 (by decide)) 1).trans (congrFun (f52 16 (by decide)) 1)) ((congrFun (f75 16 (by decide)) 2).trans (congrFun (f52 16 (by decide)) 2)) ((f75 17 (by decide)).trans (f52 17 (by decide))) hI16
  have I87 : jI18 σ73 := jI18_fr ((congrFun (f75 18 (by decide)) 0).trans (congrFun (f52 18 (by decide)) 0)) ((f75 19 (by decide)).trans (f52 19 (by decide))) hI18
  have I88 : jI22 σ73 := jI22_fr ((congrFun (f75 22 (by decide)) 0).trans (congrFun (f52 22 (by decide)) 0)) ((f75 23 (by decide)).trans (f52 23 (by decide))) hI22
  have I89 : jI31 σ73 := jI31_fr (congrFun (f75 31 (by decide)) 8) (congrFun (f75 31 (by decide)) 10) (congrFun (f75 31 (by decide)) 11) (f75 33 (by decide)) (f75 35 (by decide)) (f75 36 (by decide)) I54
  have I90 : jI38 σ73 := jI38_fr ((congrFun (f75 38 (by decide)) 0).trans (congrFun (f52 38 (by decide)) 0)) ((congrFun (f75 38 (by decide)) 1).trans (congrFun (f52 38 (by decide)) 1)) ((f75 39 (by decide)).trans (f52 39 (by decide))) hI38
  have I91 : jI43 σ73 := jI43_fr ((congrFun (f75 43 (by decide)) 8).trans (congrFun (f52 43 (by decide)) 8)) hI43
  have I92 : jI47 σ73 := jI47_fr ((congrFun (f75 47 (by decide)) 0).trans (congrFun (f52 47 (by decide)) 0)) ((f75 48 (by decide)).trans (f52 48 (by decide))) ((f75 49 (by decide)).trans (f52 49 (by decide))) hI47
  have I93 : jI50 σ73 := jI50_fr ((f75 52 (by decide)).trans (f52 52 (by decide))) hI50
  have I94 : jI0 σ73 := jI0_fr ((f75 1 (by decide)).trans (f52 1 (by decide))) hI0
  have I95 : jI26 σ73 := jI26_fr ((congrFun (f75 26 (by decide)) 6).trans (congrFun (f52 26 (by decide)) 6)) hI26
  have I96 : jI101 σ73 := jI101_fr (f76 4 (by decide)) (f76 5 (by decide)) (f75 56 (by decide)) (f75 57 (by decide)) (f75 58 (by decide)) (f75 59 (by decide)) I62
  have I97 : jI102 σ73 := jI102_fr (f76 6 (by decide)) (f75 60 (by decide)) (f75 61 (by decide)) I63
  have I98 : jI103 σ73 := jI103_fr (f76 9 (by decide)) I64
  have I99 : jI104 σ73 := jI104_fr (f76 10 (by decide)) (f76 12 (by decide)) (f76 13 (by decide)) (f75 62 (by decide)) (f75 67 (by decide)) I65
  have I100 : jI105 σ73 := jI105_fr (f76 15 (by decide)) (f75 65 (by decide)) I66
  have I101 : jI106 σ73 := jI106_fr (f76 32 (by decide)) (f75 70 (by decide)) (f75 71 (by decide)) (f75 72 (by decide)) I67
  have I102 : jI107 σ73 := jI107_fr (f76 12 (by decide)) (f76 47 (by decide)) (f75 80 (by decide)) I68
  have I103 : jI109 σ73 := jI109_fr ((f76 50 (by decide)).trans (congrFun (f52 55 (by decide)) 50)) hI109
  have I104 : jI110 σ73 := jI110_fr ((f75 86 (by decide)).trans (f52 86 (by decide))) ((f75 87 (by decide)).trans (f52 87 (by decide))) hI110
  have I105 : jI111 σ73 := jI111_fr ((f75 79 (by decide)).trans (f52 79 (by decide))) hI111
  have p106 : jNd12 σ73 := jNd12.fr ((congrFun (f75 12 (by decide)) 0).trans (congrFun (f52 12 (by decide)) 0)) ((congrFun (f75 12 (by decide)) 1).trans (congrFun (f52 12 (by decide)) 1)) ((f75 13 (by decide)).trans (f52 13 (by decide))) hs_jNd12
  have p107 : jN67 σ73 := jN67.fr (f75 24 (by decide)) p56
  have p108 : jBl σ73 := jBl.fr (congrFun (f75 22 (by decide)) 0) (congrFun (f75 22 (by decide)) 1) (f75 23 (by decide)) (congrFun (f75 26 (by decide)) 6) (congrFun (f75 26 (by decide)) 7) (f75 29 (by decide)) (f75 30 (by decide)) p57
  have p109 : jKb σ73 := jKb.fr (congrFun (f75 31 (by decide)) 8) (congrFun (f75 31 (by decide)) 11) (f75 32 (by decide)) p58
  have p110 : jKh σ73 := jKh.fr (congrFun (f75 31 (by decide)) 8) (f75 32 (by decide)) (f75 36 (by decide)) (f75 37 (by decide)) p59
  have p111 : jKg σ73 := jKg.fr (congrFun (f75 31 (by decide)) 8) (congrFun (f75 31 (by decide)) 9) (congrFun (f75 31 (by decide)) 11) (congrFun (f75 31 (by decide)) 12) (f75 32 (by decide)) (f75 33 (by decide)) p60
  have z112 : (σ73 2 0).toInt = (σ 2 0).toInt := (congrArg Int32.toInt (show σ73 2 0 = (σ 2 0) from ((congrFun (f75 2 (by decide)) 0).trans (congrFun (f52 2 (by decide)) 0))))
  have z113 : (σ73 55 6).toInt = (σ 55 6).toInt := (congrArg Int32.toInt (show σ73 55 6 = (σ 55 6) from ((f76 6 (by decide)).trans (congrFun (f52 55 (by decide)) 6))))
  have z114 : (σ73 2 2).toInt = (σ 2 2).toInt := (congrArg Int32.toInt (show σ73 2 2 = (σ 2 2) from ((congrFun (f75 2 (by decide)) 2).trans (congrFun (f52 2 (by decide)) 2))))
  have z115 : (σ73 55 5).toInt = (σ 55 5).toInt := (congrArg Int32.toInt (show σ73 55 5 = (σ 55 5) from ((f76 5 (by decide)).trans (congrFun (f52 55 (by decide)) 5))))
  have z116 : (σ73 2 3).toInt = (σ 2 3).toInt := (congrArg Int32.toInt (show σ73 2 3 = (σ 2 3) from ((congrFun (f75 2 (by decide)) 3).trans (congrFun (f52 2 (by decide)) 3))))
  have z117 : (σ73 55 4).toInt = (σ 55 4).toInt := (congrArg Int32.toInt (show σ73 55 4 = (σ 55 4) from ((f76 4 (by decide)).trans (congrFun (f52 55 (by decide)) 4))))
  have z118 : (σ73 9 0).toInt = (σ 9 0).toInt := (congrArg Int32.toInt (show σ73 9 0 = (σ 9 0) from ((congrFun (f75 9 (by decide)) 0).trans (congrFun (f52 9 (by decide)) 0))))
  have z119 : (σ73 55 15).toInt = (σ 55 15).toInt := (congrArg Int32.toInt (show σ73 55 15 = (σ 55 15) from ((f76 15 (by decide)).trans (congrFun (f52 55 (by decide)) 15))))
  have z120 : (σ73 16 0).toInt = (σ 16 0).toInt := (congrArg Int32.toInt (show σ73 16 0 = (σ 16 0) from ((congrFun (f75 16 (by decide)) 0).trans (congrFun (f52 16 (by decide)) 0))))
  have z121 : (σ73 55 10).toInt = (σ 55 10).toInt := (congrArg Int32.toInt (show σ73 55 10 = (σ 55 10) from ((f76 10 (by decide)).trans (congrFun (f52 55 (by decide)) 10))))
  have z122 : (σ73 16 1).toInt = (σ 16 1).toInt := (congrArg Int32.toInt (show σ73 16 1 = (σ 16 1) from ((congrFun (f75 16 (by decide)) 1).trans (congrFun (f52 16 (by decide)) 1))))
  have z123 : (σ73 55 12).toInt = (σ 55 12).toInt := (congrArg Int32.toInt (show σ73 55 12 = (σ 55 12) from ((f76 12 (by decide)).trans (congrFun (f52 55 (by decide)) 12))))
  have z124 : (σ73 16 2).toInt = (σ 16 2).toInt := (congrArg Int32.toInt (show σ73 16 2 = (σ 16 2) from ((congrFun (f75 16 (by decide)) 2).trans (congrFun (f52 16 (by decide)) 2))))
  have z125 : (σ73 55 13).toInt = (σ 55 13).toInt := (congrArg Int32.toInt (show σ73 55 13 = (σ 55 13) from ((f76 13 (by decide)).trans (congrFun (f52 55 (by decide)) 13))))
  have z126 : (σ73 38 0).toInt = (σ 38 0).toInt := (congrArg Int32.toInt (show σ73 38 0 = (σ 38 0) from ((congrFun (f75 38 (by decide)) 0).trans (congrFun (f52 38 (by decide)) 0))))
  have z127 : (σ73 55 32).toInt = (σ 55 32).toInt := (congrArg Int32.toInt (show σ73 55 32 = (σ 55 32) from ((f76 32 (by decide)).trans (congrFun (f52 55 (by decide)) 32))))
  have z128 : (σ73 38 1).toInt = (σ 38 1).toInt := (congrArg Int32.toInt (show σ73 38 1 = (σ 38 1) from ((congrFun (f75 38 (by decide)) 1).trans (congrFun (f52 38 (by decide)) 1))))
  have z129 : (σ73 55 55).toInt = (σ 55 55).toInt := (congrArg Int32.toInt (show σ73 55 55 = (σ 55 55) from ((f76 55 (by decide)).trans (congrFun (f52 55 (by decide)) 55))))
  have z130 : (σ73 47 0).toInt = (σ 47 0).toInt := (congrArg Int32.toInt (show σ73 47 0 = (σ 47 0) from ((congrFun (f75 47 (by decide)) 0).trans (congrFun (f52 47 (by decide)) 0))))
  have z131 : (σ73 55 47).toInt = (σ 55 47).toInt := (congrArg Int32.toInt (show σ73 55 47 = (σ 55 47) from ((f76 47 (by decide)).trans (congrFun (f52 55 (by decide)) 47))))
  have z132 : (σ73 55 30).toInt = (σ 55 30).toInt := (congrArg Int32.toInt (show σ73 55 30 = (σ 55 30) from ((f76 30 (by decide)).trans (congrFun (f52 55 (by decide)) 30))))
  have z133 : (σ73 55 31).toInt = (σ 55 31).toInt := (congrArg Int32.toInt (show σ73 55 31 = (σ 55 31) from ((f76 31 (by decide)).trans (congrFun (f52 55 (by decide)) 31))))
  have z134 : (σ73 2 1).toInt = (σ 2 1).toInt := (congrArg Int32.toInt (show σ73 2 1 = (σ 2 1) from ((congrFun (f75 2 (by decide)) 1).trans (congrFun (f52 2 (by decide)) 1))))
  have z135 : (σ73 55 9).toInt = (σ 55 9).toInt := (congrArg Int32.toInt (show σ73 55 9 = (σ 55 9) from ((f76 9 (by decide)).trans (congrFun (f52 55 (by decide)) 9))))
  have z136 : (σ73 26 6).toInt = (σ 26 6).toInt := (congrArg Int32.toInt (show σ73 26 6 = (σ 26 6) from ((congrFun (f75 26 (by decide)) 6).trans (congrFun (f52 26 (by decide)) 6))))
  have z138 : (σ73 18 0).toInt = (σ 18 0).toInt := (congrArg Int32.toInt (show σ73 18 0 = (σ 18 0) from ((congrFun (f75 18 (by decide)) 0).trans (congrFun (f52 18 (by decide)) 0))))
  have z139 : (σ73 22 0).toInt = (σ 22 0).toInt := (congrArg Int32.toInt (show σ73 22 0 = (σ 22 0) from ((congrFun (f75 22 (by decide)) 0).trans (congrFun (f52 22 (by decide)) 0))))
  exact ih x82 σ73 τ _ _ ls (by have h9 := tx82; omega) ⟨I83, I84, I85, I86, I87, I88, I89, I90, I91, I92, I93, I94, I95, I96, I97, I98, I99, I100, I101, I102, I103, I104, I105, I77, p78, p79, p106, p107, p108, p109, p80, p110, p111, (by omega), (by omega), (by omega), (by omega), (by omega), (by omega), (by omega), (by omega), (by omega), (by omega), (by omega), (by omega), (by omega), (by have h9 := tx82; omega), (show jNumP (σ73 3) (σ73 56) (σ73 6) (σ73 57) (σ73 7) (σ73 58) (σ73 8) (σ73 59) (σ73 55 6).toInt (σ73 55 4).toInt by rw [show σ73 3 = σ 3 from ((f75 3 (by decide)).trans (f52 3 (by decide))), show σ73 56 = σ 56 from ((f75 56 (by decide)).trans (f52 56 (by decide))), show σ73 6 = σ 6 from ((f75 6 (by decide)).trans (f52 6 (by decide))), show σ73 57 = σ 57 from ((f75 57 (by decide)).trans (f52 57 (by decide))), show σ73 7 = σ 7 from ((f75 7 (by decide)).trans (f52 7 (by decide))), show σ73 58 = σ 58 from ((f75 58 (by decide)).trans (f52 58 (by decide))), show σ73 8 = σ 8 from ((f75 8 (by decide)).trans (f52 8 (by decide))), show σ73 59 = σ 59 from ((f75 59 (by decide)).trans (f52 59 (by decide))), show (σ73 55 6).toInt = (σ 55 6).toInt from by omega, show (σ73 55 4).toInt = (σ 55 4).toInt from by omega]; exact hr0), (show jOvP (σ73 56) (σ73 57) (σ73 58) (σ73 59) (σ73 55 4).toInt by rw [show σ73 56 = σ 56 from ((f75 56 (by decide)).trans (f52 56 (by decide))), show σ73 57 = σ 57 from ((f75 57 (by decide)).trans (f52 57 (by decide))), show σ73 58 = σ 58 from ((f75 58 (by decide)).trans (f52 58 (by decide))), show σ73 59 = σ 59 from ((f75 59 (by decide)).trans (f52 59 (by decide))), show (σ73 55 4).toInt = (σ 55 4).toInt from by omega]; exact hr1), (show jTp (σ73 10) (σ73 63) (σ73 55 15).toInt by rw [show σ73 10 = σ 10 from ((f75 10 (by decide)).trans (f52 10 (by decide))), show σ73 63 = σ 63 from ((f75 63 (by decide)).trans (f52 63 (by decide)))]; exact hr2.le (by omega)), (show jSo (σ73 17) (σ73 62) (σ73 16 0).toInt by rw [show σ73 17 = σ 17 from ((f75 17 (by decide)).trans (f52 17 (by decide))), show σ73 62 = σ 62 from ((f75 62 (by decide)).trans (f52 62 (by decide))), show (σ73 16 0).toInt = (σ 16 0).toInt from by omega]; exact hr3), (show jShP (σ73 51) (σ73 52) (σ73 53) (σ73 86) (σ73 87) (σ73 55 32).toInt by rw [show σ73 51 = σ 51 from ((f75 51 (by decide)).trans (f52 51 (by decide))), show σ73 52 = σ 52 from ((f75 52 (by decide)).trans (f52 52 (by decide))), show σ73 53 = σ 53 from ((f75 53 (by decide)).trans (f52 53 (by decide))), show σ73 86 = σ 86 from ((f75 86 (by decide)).trans (f52 86 (by decide))), show σ73 87 = σ 87 from ((f75 87 (by decide)).trans (f52 87 (by decide)))]; exact (hr4.up (by omega) (by omega))), (show jEl (σ73 51) (σ73 52) (τ 54) (τ 88) by rw [show σ73 51 = σ 51 from ((f75 51 (by decide)).trans (f52 51 (by decide))), show σ73 52 = σ 52 from ((f75 52 (by decide)).trans (f52 52 (by decide)))]; exact hr5), (show jByP (σ73 51) (σ73 52) (τ 54) by rw [show σ73 51 = σ 51 from ((f75 51 (by decide)).trans (f52 51 (by decide))), show σ73 52 = σ 52 from ((f75 52 (by decide)).trans (f52 52 (by decide)))]; exact hr6), (show jBk (σ73 48) (σ73 80) (σ73 49) (σ73 81) (σ73 55 47).toInt by rw [show σ73 48 = σ 48 from ((f75 48 (by decide)).trans (f52 48 (by decide))), show σ73 49 = σ 49 from ((f75 49 (by decide)).trans (f52 49 (by decide))), show σ73 80 = σ 80 from ((f75 80 (by decide)).trans (f52 80 (by decide))), show σ73 81 = σ 81 from ((f75 81 (by decide)).trans (f52 81 (by decide))), show (σ73 55 47).toInt = (σ 55 47).toInt from by omega]; exact hr7), (show jKd (σ73 39) (σ73 70) (σ73 55 32).toInt by rw [show σ73 39 = σ 39 from ((f75 39 (by decide)).trans (f52 39 (by decide))), show σ73 70 = σ 70 from ((f75 70 (by decide)).trans (f52 70 (by decide))), show (σ73 55 32).toInt = (σ 55 32).toInt from by omega]; exact hr8), (show jTt (σ73 42) (σ73 85) (σ73 55 55).toInt by rw [show σ73 42 = σ 42 from ((f75 42 (by decide)).trans (f52 42 (by decide))), show σ73 85 = σ 85 from ((f75 85 (by decide)).trans (f52 85 (by decide))), show (σ73 55 55).toInt = (σ 55 55).toInt from by omega]; exact hr9), (fun k hk => by rw [show σ73 4 = σ 4 from ((f75 4 (by decide)).trans (f52 4 (by decide))), show σ73 5 = σ 5 from ((f75 5 (by decide)).trans (f52 5 (by decide))), show σ73 60 = σ 60 from ((f75 60 (by decide)).trans (f52 60 (by decide))), show σ73 61 = σ 61 from ((f75 61 (by decide)).trans (f52 61 (by decide)))]; exact hr10 k (by omega)), (fun nm => by rw [show σ73 19 = σ 19 from ((f75 19 (by decide)).trans (f52 19 (by decide))), show σ73 64 = σ 64 from ((f75 64 (by decide)).trans (f52 64 (by decide))), show σ73 65 = σ 65 from ((f75 65 (by decide)).trans (f52 65 (by decide))), show (σ73 18 0).toInt = (σ 18 0).toInt from by omega]; exact hr11 nm), (fun nm => by rw [show σ73 23 = σ 23 from ((f75 23 (by decide)).trans (f52 23 (by decide))), show σ73 64 = σ 64 from ((f75 64 (by decide)).trans (f52 64 (by decide))), show σ73 65 = σ 65 from ((f75 65 (by decide)).trans (f52 65 (by decide))), show (σ73 22 0).toInt = (σ 22 0).toInt from by omega]; exact hr12 nm)⟩ hP hS (lv_sub hl [0, 1, 2, 3] rfl)
set_option maxHeartbeats 4000000 in
set_option maxRecDepth 100000 in
theorem law_case_23 {p : Program} {e : Env} {s : State} {m : MethodId} {below : List Frame} {meth : Method} {c : Code} (l : Launch) {b L : Nat} {xs : Nat → Int32} {D : va_G} {cI cL : ClassId} {ad zz : Nat → Nat} (C0 : lw_At p s m meth c b L xs) (hJ : jD ad) (hA : ∀ q, jA ad q → s.heap.size ≤ q) (hK : jK D cI cL s) (hZ : jZ zz (fun q : Nat => s.heap.size ≤ q) s s.heap) {x0 : Int32} (hx0 : 0 ≤ x0.toInt) (hxL : x0.toInt + 6 ≤ (L : Int)) (hL : L ≤ 384) {σ : Nat → Nat → Int32} {τ : Nat → Nat → Int64} {H : Heap} {locs : List Loc} (hS : va_S (fun q : Nat => s.heap.size ≤ q) s.heap H locs) {ls : Array Slot} (hAll : jAll x0.toInt σ τ) (hP : jH D cI cL ad σ τ H) (hl : lv_has ls 4 [(3, .int x0), (2, .ref (ad 55)), (1, .ref (ad 0)), (0, .ref b)]) (ih : ∀ (x1 : Int32) (σ : Nat → Nat → Int32) (τ : Nat → Nat → Int64) (H : Heap) (locs : List Loc) (ls : Array Slot), x1.toInt = x0.toInt + 6 → jAll x1.toInt σ τ → jH D cI cL ad σ τ H → va_S (fun q : Nat => s.heap.size ≤ q) s.heap H locs → lv_has ls 4 [(3, .int x1), (2, .ref (ad 55)), (1, .ref (ad 0)), (0, .ref b)] → W p l e room_1 s m #[Value.ref b] below meth c H locs 90 348600 (lw_Z below #[Value.ref b] s) (F0 m 18 ls [])) : W p l e room_1 s m #[Value.ref b] below meth c H locs 90 348600 (lw_Z below #[Value.ref b] s) (F0 m 875 ls []) := by
  obtain ⟨hx, hb, hr, hml, hown, hts0, hX, hbl, hlocks, hgv⟩ := C0
  have hts : ∀ w ∈ wsL_law, w.before #[Value.ref b] s = true := fun w h => hts0 w (wsL_law_in w h)
  have hbA : ¬ (fun q : Nat => s.heap.size ≤ q) b := Nat.not_le.mpr hbl
  have hown : s.vm.findClass RL = some m.cls := hown
  obtain ⟨hI2, hI9, hI12, hI16, hI18, hI22, hI31, hI38, hI43, hI47, hI50, hI0, hI26, hI101, hI102, hI103, hI104, hI105, hI106, hI107, hI109, hI110, hI111, hI119, hs_jKept, hs_jBook, hs_jNd12, hs_jN67, hs_jBl, hs_jKb, hs_jTR, hs_jKh, hs_jKg, ht0, ht1, ht2, ht3, ht4, ht5, ht6, ht7, ht8, ht9, ht10, ht11, ht12, ht13, hr0, hr1, hr2, hr3, hr4, hr5, hr6, hr7, hr8, hr9, hr10, hr11, hr12⟩ := hAll
  have hL9 : (L : Int) ≤ 384 := by omega
  obtain ⟨i1, i2, i3, i4, i5, w6⟩ : (0 ≤ (σ 2 0).toInt ∧ (σ 2 0).toInt ≤ 4) ∧ (0 ≤ (σ 2 1).toInt ∧ (σ 2 1).toInt ≤ 3) ∧ (0 ≤ (σ 2 2).toInt) ∧ (0 ≤ (σ 2 3).toInt) ∧ ((σ 2 2).toInt + (σ 2 3).toInt ≤ 40) ∧ (∀ k : Nat, k < 40 → 0 ≤ (σ 6 k).toInt ∧ (σ 6 k).toInt ≤ 67) := id hI2
  obtain ⟨i7, w8, w9⟩ : (0 ≤ (σ 9 0).toInt ∧ (σ 9 0).toInt ≤ 80) ∧ (∀ k : Nat, k < 80 → 0 ≤ (σ 10 k).toInt ∧ (σ 10 k).toInt ≤ 255) ∧ (∀ k : Nat, k < 8 → 0 ≤ (σ 11 k).toInt ∧ (σ 11 k).toInt ≤ 3) := id hI9
  obtain ⟨i10, i11, i12, w13⟩ : (1 ≤ (σ 16 0).toInt ∧ (σ 16 0).toInt ≤ 8) ∧ (1 ≤ (σ 16 1).toInt ∧ (σ 16 1).toInt ≤ 12) ∧ (0 ≤ (σ 16 2).toInt ∧ (σ 16 2).toInt ≤ 999) ∧ (∀ k : Nat, k < 8 → 0 ≤ (σ 17 k).toInt ∧ (σ 17 k).toInt ≤ 3) := id hI16
  obtain ⟨i14, i15, w16⟩ : (0 ≤ (σ 38 0).toInt ∧ (σ 38 0).toInt ≤ 20) ∧ (0 ≤ (σ 38 1).toInt ∧ (σ 38 1).toInt ≤ 1000) ∧ (∀ k : Nat, k < 20 → 0 ≤ (σ 39 k).toInt ∧ (σ 39 k).toInt ≤ 6) := id hI38
  obtain ⟨i17, w18, w19⟩ : (0 ≤ (σ 47 0).toInt ∧ (σ 47 0).toInt ≤ 12) ∧ (∀ k : Nat, k < 12 → 0 ≤ (σ 48 k).toInt ∧ (σ 48 k).toInt ≤ 3) ∧ (∀ k : Nat, k < 12 → 0 ≤ (σ 49 k).toInt ∧ (σ 49 k).toInt ≤ 1) := id hI47
  have w20 : ∀ k : Nat, k < 6 → 0 ≤ (σ 52 k).toInt ∧ (σ 52 k).toInt ≤ 60 := hI50
  have i21 : 1 ≤ (σ 26 6).toInt ∧ (σ 26 6).toInt ≤ 8000 := hI26
  obtain ⟨i22, i23, i24, w25, w26, w27, w28⟩ : (0 ≤ (σ 55 5).toInt) ∧ ((σ 55 5).toInt ≤ (σ 55 4).toInt) ∧ ((σ 55 4).toInt ≤ 40) ∧ (∀ k : Nat, k < 68 → (-200) ≤ (σ 56 k).toInt ∧ (σ 56 k).toInt ≤ 500) ∧ (∀ k : Nat, k < 40 → 0 ≤ (σ 57 k).toInt ∧ (σ 57 k).toInt ≤ 67) ∧ (∀ k : Nat, k < 40 → (-200) ≤ (σ 58 k).toInt ∧ (σ 58 k).toInt ≤ 500) ∧ (∀ k : Nat, k < 40 → (-200) ≤ (σ 59 k).toInt ∧ (σ 59 k).toInt ≤ 500) := id hI101
  obtain ⟨i29, w30, w31⟩ : (0 ≤ (σ 55 6).toInt ∧ (σ 55 6).toInt ≤ 4) ∧ (∀ k : Nat, k < 4 → 0 ≤ (σ 60 k).toInt ∧ (σ 60 k).toInt ≤ 50) ∧ (∀ k : Nat, k < 4 → 0 ≤ (σ 61 k).toInt ∧ (σ 61 k).toInt ≤ 20) := id hI102
  have i32 : 0 ≤ (σ 55 9).toInt ∧ (σ 55 9).toInt ≤ 3 := hI103
  obtain ⟨i33, i34, i35, w36, w37⟩ : (1 ≤ (σ 55 10).toInt ∧ (σ 55 10).toInt ≤ 8) ∧ (1 ≤ (σ 55 12).toInt ∧ (σ 55 12).toInt ≤ 12) ∧ (0 ≤ (σ 55 13).toInt ∧ (σ 55 13).toInt ≤ 999) ∧ (∀ k : Nat, k < 8 → 0 ≤ (σ 62 k).toInt ∧ (σ 62 k).toInt ≤ 3) ∧ (∀ k : Nat, k < 8 → 0 ≤ (σ 67 k).toInt ∧ (σ 67 k).toInt ≤ 3) := id hI104
  obtain ⟨i38, w39⟩ : (0 ≤ (σ 55 15).toInt ∧ (σ 55 15).toInt ≤ 80) ∧ (∀ k : Nat, k < 2 → (-1) ≤ (σ 65 k).toInt ∧ (σ 65 k).toInt ≤ 80) := id hI105
  obtain ⟨i40, w41, w42, w43⟩ : (0 ≤ (σ 55 32).toInt ∧ (σ 55 32).toInt ≤ 20) ∧ (∀ k : Nat, k < 20 → 0 ≤ (σ 70 k).toInt ∧ (σ 70 k).toInt ≤ 6) ∧ (∀ k : Nat, k < 20 → 0 ≤ (σ 71 k).toInt ∧ (σ 71 k).toInt ≤ 8) ∧ (∀ k : Nat, k < 160 → 0 ≤ (σ 72 k).toInt ∧ (σ 72 k).toInt ≤ 3) := id hI106
  obtain ⟨i44, i45, w46⟩ : (0 ≤ (σ 55 47).toInt ∧ (σ 55 47).toInt ≤ 12) ∧ ((σ 55 47).toInt ≤ (σ 55 12).toInt) ∧ (∀ k : Nat, k < 12 → 0 ≤ (σ 80 k).toInt ∧ (σ 80 k).toInt ≤ 3) := id hI107
  have hs_jOk3 : jOk3 σ := hr0.ok hr1.1
  refine lv_aload_n hx hb dL_law_875 rfl (lv_at hl 2 rfl) ?_
  refine lv_aload_n hx hb dL_law_876 rfl (lv_at hl 3 rfl) ?_
  refine lv_iload_n hx hb dL_law_877 rfl (lv_at hl 0 rfl) ?_
  refine lv_iconst (v := 1) hx hb dL_law_878 (by decide) ?_
  have g47 := jrg (rfl : x0.toInt = x0.toInt)
  refine lv_iadd hx hb dL_law_879 ?_
  refine lv_topi (fun x48 ex48 => ?_)
  have tx48 : x48.toInt = x0.toInt + 1 := (jadd ex48 rfl jz_1 (by omega) (by omega)).trans (by omega)
  refine va_sld hx hb hX hbl hbA hS (jin tx48 (by omega) (by omega)) dL_law_880 ?_
  have g49 := jrg (rfl : (xs x48.toNatClampNeg).toInt = (xs x48.toNatClampNeg).toInt)
  refine jcallV (As := [.int (xs x48.toNatClampNeg)]) (rest := []) ⟨hx, hb, hml, hown, hts⟩ hK hP hA hS hZ (c_X11_lost l D cI cL ad zz hJ σ τ (xs x48.toNatClampNeg) ((xs x48.toNatClampNeg).toInt) rfl hI2 hI16 hI22 hI31 hI47 hI26 hs_jOk3 hs_jN67 hs_jBl hs_jKb hs_jKh hs_jKg) cw_RL_109 (jc_0 cI cL ad σ τ) rfl ⟨Nat.le_of_ble_eq_true rfl, Nat.le_of_ble_eq_true rfl⟩ rfl rfl rfl hl.1 rfl (Nat.le_of_ble_eq_true rfl) dL_law_881 ⟨Nat.le_of_ble_eq_true rfl, Nat.le_of_ble_eq_true rfl⟩ (fun r51 σ50 τ50 H locs h50 hP hS => ?_)
  obtain ⟨rfl, f52, f53, I54, p55, p56, p57, p58, p59, p60, h50⟩ := h50
  refine lv_pop hx hb dL_law_884 rfl ?_
  refine lv_aload_n hx hb dL_law_885 rfl (lv_at hl 1 rfl) ?_
  refine lv_aload_n hx hb dL_law_886 rfl (lv_at hl 3 rfl) ?_
  refine lv_iload_n hx hb dL_law_887 rfl (lv_at hl 0 rfl) ?_
  refine lv_iconst (v := 1) hx hb dL_law_888 (by decide) ?_
  refine lv_iadd hx hb dL_law_889 ?_
  refine jtopr ex48.symm ?_
  refine va_sld hx hb hX hbl hbA hS (jin tx48 (by omega) (by omega)) dL_law_890 ?_
  have I62 : jI101 σ50 := jI101_fr (congrFun (f52 55 (by decide)) 4) (congrFun (f52 55 (by decide)) 5) (f52 56 (by decide)) (f52 57 (by decide)) (f52 58 (by decide)) (f52 59 (by decide)) hI101
  have I63 : jI102 σ50 := jI102_fr (congrFun (f52 55 (by decide)) 6) (f52 60 (by decide)) (f52 61 (by decide)) hI102
  have I64 : jI103 σ50 := jI103_fr (congrFun (f52 55 (by decide)) 9) hI103
  have I65 : jI104 σ50 := jI104_fr (congrFun (f52 55 (by decide)) 10) (congrFun (f52 55 (by decide)) 12) (congrFun (f52 55 (by decide)) 13) (f52 62 (by decide)) (f52 67 (by decide)) hI104
  have I66 : jI105 σ50 := jI105_fr (congrFun (f52 55 (by decide)) 15) (f52 65 (by decide)) hI105
  have I67 : jI106 σ50 := jI106_fr (congrFun (f52 55 (by decide)) 32) (f52 70 (by decide)) (f52 71 (by decide)) (f52 72 (by decide)) hI106
  have I68 : jI107 σ50 := jI107_fr (congrFun (f52 55 (by decide)) 12) (congrFun (f52 55 (by decide)) 47) (f52 80 (by decide)) hI107
  have I69 : jI119 σ50 := jI119_fr (f52 68 (by decide)) hI119
  have p70 : jKept σ50 := jKept.fr (f52 75 (by decide)) (f52 76 (by decide)) (f52 77 (by decide)) hs_jKept
  have p71 : jBook σ50 := jBook.fr (congrFun (f52 55 (by decide)) 47) (congrFun (f52 55 (by decide)) 10) (f52 81 (by decide)) hs_jBook
  have p72 : jTR σ50 := jTR.fr (f52 64 (by decide)) (f52 65 (by decide)) hs_jTR
  refine jcallV (As := [.int (xs x48.toNatClampNeg)]) (rest := []) ⟨hx, hb, hml, hown, hts⟩ hK hP hA hS hZ (c_X12_lost l D cI cL ad zz hJ σ50 τ (xs x48.toNatClampNeg) ((xs x48.toNatClampNeg).toInt) rfl I62 I63 I64 I65 I66 I67 I68 I69 p70 p71 p72) cw_RL_112 (jc_55 cI cL ad σ50 τ) rfl ⟨Nat.le_of_ble_eq_true rfl, Nat.le_of_ble_eq_true rfl⟩ rfl rfl rfl hl.1 rfl (Nat.le_of_ble_eq_true rfl) dL_law_891 ⟨Nat.le_of_ble_eq_true rfl, Nat.le_of_ble_eq_true rfl⟩ (fun r74 σ73 τ73 H locs h73 hP hS => ?_)
  obtain ⟨rfl, f75, f76, I77, p78, p79, p80, h73⟩ := h73
  refine lv_pop hx hb dL_law_894 rfl ?_
  refine lv_goto (tgt := 1357) hx hb dL_law_895 (by decide) ?_
  obtain ⟨x82, ex82⟩ : ∃ y : Int32, y = x0 + 6 := ⟨_, rfl⟩
  have tx82 : x82.toInt = x0.toInt + 6 := (jadd ex82 rfl jz_6 (by omega) (by omega)).trans (by omega)
  refine lv_iinc (v := x82) (lv' := [(3, .int x82), (2, .ref (ad 55)), (1, .ref (ad 0)), (0, .ref b)]) hx hb dL_law_1357 hl (k := 0) rfl (by rw [ex82]; rfl) (by decide) rfl (fun ls hl => ?_)
  refine lv_goto (tgt := 18) hx hb dL_law_1360 (by decide) ?_
  have I83 : jI2 σ73 := jI2_fr ((congrFun (f75 2 (by decide)) 0).trans (congrFun (f52 2 (by decide)) 0)) ((congrFun (f75 2 (by decide)) 1).trans (congrFun (f52 2 (by decide)) 1)) ((congrFun (f75 2 (by decide)) 2).trans (congrFun (f52 2 (by decide)) 2)) ((congrFun (f75 2 (by decide)) 3).trans (congrFun (f52 2 (by decide)) 3)) ((f75 6 (by decide)).trans (f52 6 (by decide))) hI2
  have I84 : jI9 σ73 := jI9_fr ((congrFun (f75 9 (by decide)) 0).trans (congrFun (f52 9 (by decide)) 0)) ((f75 10 (by decide)).trans (f52 10 (by decide))) ((f75 11 (by decide)).trans (f52 11 (by decide))) hI9
  have I85 : jI12 σ73 := jI12_fr ((congrFun (f75 12 (by decide)) 0).trans (congrFun (f52 12 (by decide)) 0)) ((f75 13 (by decide)).trans (f52 13 (by decide))) hI12
  have I86 : jI16 σ73 := jI16_fr ((congrFun (f75 16 (by decide)) 0).trans (congrFun (f52 16 (by decide)) 0)) ((congrFun (f75 16 (by decide)) 1).trans (congrFun (f52 16 (by decide)) 1)) ((congrFun (f75 16 (by decide)) 2).trans (congrFun (f52 16 (by decide)) 2)) ((f75 17 (by decide)).trans (f52 17 (by decide))) hI16
  have I87 : jI18 σ73 := jI18_fr ((congrFun (f75 18 (by decide)) 0).trans (congrFun (f52 18 (by decide)) 0)) ((f75 19 (by decide)).trans (f52 19 (by decide))) hI18
  have I88 : jI22 σ73 := jI22_fr ((congrFun (f75 22 (by decide)) 0).trans (congrFun (f52 22 (by decide)) 0)) ((f75 23 (by decide)).trans (f52 23 (by decide))) hI22
  have I89 : jI31 σ73 := jI31_fr (congrFun (f75 31 (by decide)) 8) (congrFun (f75 31 (by decide)) 10) (congrFun (f75 31 (by decide)) 11) (f75 33 (by decide)) (f75 35 (by decide)) (f75 36 (by decide)) I54
  have I90 : jI38 σ73 := jI38_fr ((congrFun (f75 38 (by decide)) 0).trans (congrFun (f52 38 (by decide)) 0)) ((congrFun (f75 38 (by decide)) 1).trans (congrFun (f52 38 (by decide)) 1)) ((f75 39 (by decide)).trans (f52 39 (by decide))) hI38
  have I91 : jI43 σ73 := jI43_fr ((congrFun (f75 43 (by decide)) 8).trans (congrFun (f52 43 (by decide)) 8)) hI43
  have I92 : jI47 σ73 := jI47_fr ((congrFun (f75 47 (by decide)) 0).trans (congrFun (f52 47 (by decide)) 0)) ((f75 48 (by decide)).trans (f52 48 (by decide))) ((f75 49 (by decide)).trans (f52 49 (by decide))) hI47
  have I93 : jI50 σ73 := jI50_fr ((f75 52 (by decide)).trans (f52 52 (by decide))) hI50
  have I94 : jI0 σ73 := jI0_fr ((f75 1 (by decide)).trans (f52 1 (by decide))) hI0
  have I95 : jI26 σ73 := jI26_fr ((congrFun (f75 26 (by decide)) 6).trans (congrFun (f52 26 (by decide)) 6)) hI26
  have I96 : jI101 σ73 := jI101_fr (f76 4 (by decide)) (f76 5 (by decide)) (f75 56 (by decide)) (f75 57 (by decide)) (f75 58 (by decide)) (f75 59 (by decide)) I62
  have I97 : jI102 σ73 := jI102_fr (f76 6 (by decide)) (f75 60 (by decide)) (f75 61 (by decide)) I63
  have I98 : jI103 σ73 := jI103_fr (f76 9 (by decide)) I64
  have I99 : jI104 σ73 := jI104_fr (f76 10 (by decide)) (f76 12 (by decide)) (f76 13 (by decide)) (f75 62 (by decide)) (f75 67 (by decide)) I65
  have I100 : jI105 σ73 := jI105_fr (f76 15 (by decide)) (f75 65 (by decide)) I66
  have I101 : jI106 σ73 := jI106_fr (f76 32 (by decide)) (f75 70 (by decide)) (f75 71 (by decide)) (f75 72 (by decide)) I67
  have I102 : jI107 σ73 := jI107_fr (f76 12 (by decide)) (f76 47 (by decide)) (f75 80 (by decide)) I68
  have I103 : jI109 σ73 := jI109_fr ((f76 50 (by decide)).trans (congrFun (f52 55 (by decide)) 50)) hI109
  have I104 : jI110 σ73 := jI110_fr ((f75 86 (by decide)).trans (f52 86 (by decide))) ((f75 87 (by decide)).trans (f52 87 (by decide))) hI110
  have I105 : jI111 σ73 := jI111_fr ((f75 79 (by decide)).trans (f52 79 (by decide))) hI111
  have p106 : jNd12 σ73 := jNd12.fr ((congrFun (f75 12 (by decide)) 0).trans (congrFun (f52 12 (by decide)) 0)) ((congrFun (f75 12 (by decide)) 1).trans (congrFun (f52 12 (by decide)) 1)) ((f75 13 (by decide)).trans (f52 13 (by decide))) hs_jNd12
  have p107 : jN67 σ73 := jN67.fr (f75 24 (by decide)) p56
  have p108 : jBl σ73 := jBl.fr (congrFun (f75 22 (by decide)) 0) (congrFun (f75 22 (by decide)) 1) (f75 23 (by decide)) (congrFun (f75 26 (by decide)) 6) (congrFun (f75 26 (by decide)) 7) (f75 29 (by decide)) (f75 30 (by decide)) p57
  have p109 : jKb σ73 := jKb.fr (congrFun (f75 31 (by decide)) 8) (congrFun (f75 31 (by decide)) 11) (f75 32 (by decide)) p58
  have p110 : jKh σ73 := jKh.fr (congrFun (f75 31 (by decide)) 8) (f75 32 (by decide)) (f75 36 (by decide)) (f75 37 (by decide)) p59
  have p111 : jKg σ73 := jKg.fr (congrFun (f75 31 (by decide)) 8) (congrFun (f75 31 (by decide)) 9) (congrFun (f75 31 (by decide)) 11) (congrFun (f75 31 (by decide)) 12) (f75 32 (by decide)) (f75 33 (by decide)) p60
  have z112 : (σ73 2 0).toInt = (σ 2 0).toInt := (congrArg Int32.toInt (show σ73 2 0 = (σ 2 0) from ((congrFun (f75 2 (by decide)) 0).trans (congrFun (f52 2 (by decide)) 0))))
  have z113 : (σ73 55 6).toInt = (σ 55 6).toInt := (congrArg Int32.toInt (show σ73 55 6 = (σ 55 6) from ((f76 6 (by decide)).trans (congrFun (f52 55 (by decide)) 6))))
  have z114 : (σ73 2 2).toInt = (σ 2 2).toInt := (congrArg Int32.toInt (show σ73 2 2 = (σ 2 2) from ((congrFun (f75 2 (by decide)) 2).trans (congrFun (f52 2 (by decide)) 2))))
  have z115 : (σ73 55 5).toInt = (σ 55 5).toInt := (congrArg Int32.toInt (show σ73 55 5 = (σ 55 5) from ((f76 5 (by decide)).trans (congrFun (f52 55 (by decide)) 5))))
  have z116 : (σ73 2 3).toInt = (σ 2 3).toInt := (congrArg Int32.toInt (show σ73 2 3 = (σ 2 3) from ((congrFun (f75 2 (by decide)) 3).trans (congrFun (f52 2 (by decide)) 3))))
  have z117 : (σ73 55 4).toInt = (σ 55 4).toInt := (congrArg Int32.toInt (show σ73 55 4 = (σ 55 4) from ((f76 4 (by decide)).trans (congrFun (f52 55 (by decide)) 4))))
  have z118 : (σ73 9 0).toInt = (σ 9 0).toInt := (congrArg Int32.toInt (show σ73 9 0 = (σ 9 0) from ((congrFun (f75 9 (by decide)) 0).trans (congrFun (f52 9 (by decide)) 0))))
  have z119 : (σ73 55 15).toInt = (σ 55 15).toInt := (congrArg Int32.toInt (show σ73 55 15 = (σ 55 15) from ((f76 15 (by decide)).trans (congrFun (f52 55 (by decide)) 15))))
  have z120 : (σ73 16 0).toInt = (σ 16 0).toInt := (congrArg Int32.toInt (show σ73 16 0 = (σ 16 0) from ((congrFun (f75 16 (by decide)) 0).trans (congrFun (f52 16 (by decide)) 0))))
  have z121 : (σ73 55 10).toInt = (σ 55 10).toInt := (congrArg Int32.toInt (show σ73 55 10 = (σ 55 10) from ((f76 10 (by decide)).trans (congrFun (f52 55 (by decide)) 10))))
  have z122 : (σ73 16 1).toInt = (σ 16 1).toInt := (congrArg Int32.toInt (show σ73 16 1 = (σ 16 1) from ((congrFun (f75 16 (by decide)) 1).trans (congrFun (f52 16 (by decide)) 1))))
  have z123 : (σ73 55 12).toInt = (σ 55 12).toInt := (congrArg Int32.toInt (show σ73 55 12 = (σ 55 12) from ((f76 12 (by decide)).trans (congrFun (f52 55 (by decide)) 12))))
  have z124 : (σ73 16 2).toInt = (σ 16 2).toInt := (congrArg Int32.toInt (show σ73 16 2 = (σ 16 2) from ((congrFun (f75 16 (by decide)) 2).trans (congrFun (f52 16 (by decide)) 2))))
  have z125 : (σ73 55 13).toInt = (σ 55 13).toInt := (congrArg Int32.toInt (show σ73 55 13 = (σ 55 13) from ((f76 13 (by decide)).trans (congrFun (f52 55 (by decide)) 13))))
  have z126 : (σ73 38 0).toInt = (σ 38 0).toInt := (congrArg Int32.toInt (show σ73 38 0 = (σ 38 0) from ((congrFun (f75 38 (by decide)) 0).trans (congrFun (f52 38 (by decide)) 0))))
  have z127 : (σ73 55 32).toInt = (σ 55 32).toInt := (congrArg Int32.toInt (show σ73 55 32 = (σ 55 32) from ((f76 32 (by decide)).trans (congrFun (f52 55 (by decide)) 32))))
  have z128 : (σ73 38 1).toInt = (σ 38 1).toInt := (congrArg Int32.toInt (show σ73 38 1 = (σ 38 1) from ((congrFun (f75 38 (by decide)) 1).trans (congrFun (f52 38 (by decide)) 1))))
  have z129 : (σ73 55 55).toInt = (σ 55 55).toInt := (congrArg Int32.toInt (show σ73 55 55 = (σ 55 55) from ((f76 55 (by decide)).trans (congrFun (f52 55 (by decide)) 55))))
  have z130 : (σ73 47 0).toInt = (σ 47 0).toInt := (congrArg Int32.toInt (show σ73 47 0 = (σ 47 0) from ((congrFun (f75 47 (by decide)) 0).trans (congrFun (f52 47 (by decide)) 0))))
  have z131 : (σ73 55 47).toInt = (σ 55 47).toInt := (congrArg Int32.toInt (show σ73 55 47 = (σ 55 47) from ((f76 47 (by decide)).trans (congrFun (f52 55 (by decide)) 47))))
  have z132 : (σ73 55 30).toInt = (σ 55 30).toInt := (congrArg Int32.toInt (show σ73 55 30 = (σ 55 30) from ((f76 30 (by decide)).trans (congrFun (f52 55 (by decide)) 30))))
  have z133 : (σ73 55 31).toInt = (σ 55 31).toInt := (congrArg Int32.toInt (show σ73 55 31 = (σ 55 31) from ((f76 31 (by decide)).trans (congrFun (f52 55 (by decide)) 31))))
  have z134 : (σ73 2 1).toInt = (σ 2 1).toInt := (congrArg Int32.toInt (show σ73 2 1 = (σ 2 1) from ((congrFun (f75 2 (by decide)) 1).trans (congrFun (f52 2 (by decide)) 1))))
  have z135 : (σ73 55 9).toInt = (σ 55 9).toInt := (congrArg Int32.toInt (show σ73 55 9 = (σ 55 9) from ((f76 9 (by decide)).trans (congrFun (f52 55 (by decide)) 9))))
  have z136 : (σ73 26 6).toInt = (σ 26 6).toInt := (congrArg Int32.toInt (show σ73 26 6 = (σ 26 6) from ((congrFun (f75 26 (by decide)) 6).trans (congrFun (f52 26 (by decide)) 6))))
  have z138 : (σ73 18 0).toInt = (σ 18 0).toInt := (congrArg Int32.toInt (show σ73 18 0 = (σ 18 0) from ((congrFun (f75 18 (by decide)) 0).trans (congrFun (f52 18 (by decide)) 0))))
  have z139 : (σ73 22 0).toInt = (σ 22 0).toInt := (congrArg Int32.toInt (show σ73 22 0 = (σ 22 0) from ((congrFun (f75 22 (by decide)) 0).trans (congrFun (f52 22 (by decide)) 0))))
  exact ih x82 σ73 τ _ _ ls (by have h9 := tx82; omega) ⟨I83, I84, I85, I86, I87, I88, I89, I90, I91, I92, I93, I94, I95, I96, I97, I98, I99, I100, I101, I102, I103, I104, I105, I77, p78, p79, p106, p107, p108, p109, p80, p110, p111, (by omega), (by omega), (by omega), (by omega), (by omega), (by omega), (by omega), (by omega), (by omega), (by omega), (by omega), (by omega), (by omega), (by have h9 := tx82; omega), (show jNumP (σ73 3) (σ73 56) (σ73 6) (σ73 57) (σ73 7) (σ73 58) (σ73 8) (σ73 59) (σ73 55 6).toInt (σ73 55 4).toInt by rw [show σ73 3 = σ 3 from ((f75 3 (by decide)).trans (f52 3 (by decide))), show σ73 56 = σ 56 from ((f75 56 (by decide)).trans (f52 56 (by decide))), show σ73 6 = σ 6 from ((f75 6 (by decide)).trans (f52 6 (by decide))), show σ73 57 = σ 57 from ((f75 57 (by decide)).trans (f52 57 (by decide))), show σ73 7 = σ 7 from ((f75 7 (by decide)).trans (f52 7 (by decide))), show σ73 58 = σ 58 from ((f75 58 (by decide)).trans (f52 58 (by decide))), show σ73 8 = σ 8 from ((f75 8 (by decide)).trans (f52 8 (by decide))), show σ73 59 = σ 59 from ((f75 59 (by decide)).trans (f52 59 (by decide))), show (σ73 55 6).toInt = (σ 55 6).toInt from by omega, show (σ73 55 4).toInt = (σ 55 4).toInt from by omega]; exact hr0), (show jOvP (σ73 56) (σ73 57) (σ73 58) (σ73 59) (σ73 55 4).toInt by rw [show σ73 56 = σ 56 from ((f75 56 (by decide)).trans (f52 56 (by decide))), show σ73 57 = σ 57 from ((f75 57 (by decide)).trans (f52 57 (by decide))), show σ73 58 = σ 58 from ((f75 58 (by decide)).trans (f52 58 (by decide))), show σ73 59 = σ 59 from ((f75 59 (by decide)).trans (f52 59 (by decide))), show (σ73 55 4).toInt = (σ 55 4).toInt from by omega]; exact hr1), (show jTp (σ73 10) (σ73 63) (σ73 55 15).toInt by rw [show σ73 10 = σ 10 from ((f75 10 (by decide)).trans (f52 10 (by decide))), show σ73 63 = σ 63 from ((f75 63 (by decide)).trans (f52 63 (by decide)))]; exact hr2.le (by omega)), (show jSo (σ73 17) (σ73 62) (σ73 16 0).toInt by rw [show σ73 17 = σ 17 from ((f75 17 (by decide)).trans (f52 17 (by decide))), show σ73 62 = σ 62 from ((f75 62 (by decide)).trans (f52 62 (by decide))), show (σ73 16 0).toInt = (σ 16 0).toInt from by omega]; exact hr3), (show jShP (σ73 51) (σ73 52) (σ73 53) (σ73 86) (σ73 87) (σ73 55 32).toInt by rw [show σ73 51 = σ 51 from ((f75 51 (by decide)).trans (f52 51 (by decide))), show σ73 52 = σ 52 from ((f75 52 (by decide)).trans (f52 52 (by decide))), show σ73 53 = σ 53 from ((f75 53 (by decide)).trans (f52 53 (by decide))), show σ73 86 = σ 86 from ((f75 86 (by decide)).trans (f52 86 (by decide))), show σ73 87 = σ 87 from ((f75 87 (by decide)).trans (f52 87 (by decide)))]; exact (hr4.up (by omega) (by omega))), (show jEl (σ73 51) (σ73 52) (τ 54) (τ 88) by rw [show σ73 51 = σ 51 from ((f75 51 (by decide)).trans (f52 51 (by decide))), show σ73 52 = σ 52 from ((f75 52 (by decide)).trans (f52 52 (by decide)))]; exact hr5), (show jByP (σ73 51) (σ73 52) (τ 54) by rw [show σ73 51 = σ 51 from ((f75 51 (by decide)).trans (f52 51 (by decide))), show σ73 52 = σ 52 from ((f75 52 (by decide)).trans (f52 52 (by decide)))]; exact hr6), (show jBk (σ73 48) (σ73 80) (σ73 49) (σ73 81) (σ73 55 47).toInt by rw [show σ73 48 = σ 48 from ((f75 48 (by decide)).trans (f52 48 (by decide))), show σ73 49 = σ 49 from ((f75 49 (by decide)).trans (f52 49 (by decide))), show σ73 80 = σ 80 from ((f75 80 (by decide)).trans (f52 80 (by decide))), show σ73 81 = σ 81 from ((f75 81 (by decide)).trans (f52 81 (by decide))), show (σ73 55 47).toInt = (σ 55 47).toInt from by omega]; exact hr7), (show jKd (σ73 39) (σ73 70) (σ73 55 32).toInt by rw [show σ73 39 = σ 39 from ((f75 39 (by decide)).trans (f52 39 (by decide))), show σ73 70 = σ 70 from ((f75 70 (by decide)).trans (f52 70 (by decide))), show (σ73 55 32).toInt = (σ 55 32).toInt from by omega]; exact hr8), (show jTt (σ73 42) (σ73 85) (σ73 55 55).toInt by rw [show σ73 42 = σ 42 from ((f75 42 (by decide)).trans (f52 42 (by decide))), show σ73 85 = σ 85 from ((f75 85 (by decide)).trans (f52 85 (by decide))), show (σ73 55 55).toInt = (σ 55 55).toInt from by omega]; exact hr9), (fun k hk => by rw [show σ73 4 = σ 4 from ((f75 4 (by decide)).trans (f52 4 (by decide))), show σ73 5 = σ 5 from ((f75 5 (by decide)).trans (f52 5 (by decide))), show σ73 60 = σ 60 from ((f75 60 (by decide)).trans (f52 60 (by decide))), show σ73 61 = σ 61 from ((f75 61 (by decide)).trans (f52 61 (by decide)))]; exact hr10 k (by omega)), (fun nm => by rw [show σ73 19 = σ 19 from ((f75 19 (by decide)).trans (f52 19 (by decide))), show σ73 64 = σ 64 from ((f75 64 (by decide)).trans (f52 64 (by decide))), show σ73 65 = σ 65 from ((f75 65 (by decide)).trans (f52 65 (by decide))), show (σ73 18 0).toInt = (σ 18 0).toInt from by omega]; exact hr11 nm), (fun nm => by rw [show σ73 23 = σ 23 from ((f75 23 (by decide)).trans (f52 23 (by decide))), show σ73 64 = σ 64 from ((f75 64 (by decide)).trans (f52 64 (by decide))), show σ73 65 = σ 65 from ((f75 65 (by decide)).trans (f52 65 (by decide))), show (σ73 22 0).toInt = (σ 22 0).toInt from by omega]; exact hr12 nm)⟩ hP hS (lv_sub hl [0, 1, 2, 3] rfl)
set_option maxHeartbeats 4000000 in
set_option maxRecDepth 100000 in
theorem law_case_24 {p : Program} {e : Env} {s : State} {m : MethodId} {below : List Frame} {meth : Method} {c : Code} (l : Launch) {b L : Nat} {xs : Nat → Int32} {D : va_G} {cI cL : ClassId} {ad zz : Nat → Nat} (C0 : lw_At p s m meth c b L xs) (hJ : jD ad) (hA : ∀ q, jA ad q → s.heap.size ≤ q) (hK : jK D cI cL s) (hZ : jZ zz (fun q : Nat => s.heap.size ≤ q) s s.heap) {x0 : Int32} (hx0 : 0 ≤ x0.toInt) (hxL : x0.toInt + 6 ≤ (L : Int)) (hL : L ≤ 384) {σ : Nat → Nat → Int32} {τ : Nat → Nat → Int64} {H : Heap} {locs : List Loc} (hS : va_S (fun q : Nat => s.heap.size ≤ q) s.heap H locs) {ls : Array Slot} (hAll : jAll x0.toInt σ τ) (hP : jH D cI cL ad σ τ H) (hl : lv_has ls 4 [(3, .int x0), (2, .ref (ad 55)), (1, .ref (ad 0)), (0, .ref b)]) (ih : ∀ (x1 : Int32) (σ : Nat → Nat → Int32) (τ : Nat → Nat → Int64) (H : Heap) (locs : List Loc) (ls : Array Slot), x1.toInt = x0.toInt + 6 → jAll x1.toInt σ τ → jH D cI cL ad σ τ H → va_S (fun q : Nat => s.heap.size ≤ q) s.heap H locs → lv_has ls 4 [(3, .int x1), (2, .ref (ad 55)), (1, .ref (ad 0)), (0, .ref b)] → W p l e room_1 s m #[Value.ref b] below meth c H locs 90 348600 (lw_Z below #[Value.ref b] s) (F0 m 18 ls [])) : W p l e room_1 s m #[Value.ref b] below meth c H locs 90 348600 (lw_Z below #[Value.ref b] s) (F0 m 898 ls []) := by
  obtain ⟨hx, hb, hr, hml, hown, hts0, hX, hbl, hlocks, hgv⟩ := C0
  have hts : ∀ w ∈ wsL_law, w.before #[Value.ref b] s = true := fun w h => hts0 w (wsL_law_in w h)
  have hbA : ¬ (fun q : Nat => s.heap.size ≤ q) b := Nat.not_le.mpr hbl
  have hown : s.vm.findClass RL = some m.cls := hown
  obtain ⟨hI2, hI9, hI12, hI16, hI18, hI22, hI31, hI38, hI43, hI47, hI50, hI0, hI26, hI101, hI102, hI103, hI104, hI105, hI106, hI107, hI109, hI110, hI111, hI119, hs_jKept, hs_jBook, hs_jNd12, hs_jN67, hs_jBl, hs_jKb, hs_jTR, hs_jKh, hs_jKg, ht0, ht1, ht2, ht3, ht4, ht5, ht6, ht7, ht8, ht9, ht10, ht11, ht12, ht13, hr0, hr1, hr2, hr3, hr4, hr5, hr6, hr7, hr8, hr9, hr10, hr11, hr12⟩ := hAll
  have hL9 : (L : Int) ≤ 384 := by omega
  obtain ⟨i1, i2, i3, i4, i5, w6⟩ : (0 ≤ (σ 2 0).toInt ∧ (σ 2 0).toInt ≤ 4) ∧ (0 ≤ (σ 2 1).toInt ∧ (σ 2 1).toInt ≤ 3) ∧ (0 ≤ (σ 2 2).toInt) ∧ (0 ≤ (σ 2 3).toInt) ∧ ((σ 2 2).toInt + (σ 2 3).toInt ≤ 40) ∧ (∀ k : Nat, k < 40 → 0 ≤ (σ 6 k).toInt ∧ (σ 6 k).toInt ≤ 67) := id hI2
  obtain ⟨i7, w8, w9⟩ : (0 ≤ (σ 9 0).toInt ∧ (σ 9 0).toInt ≤ 80) ∧ (∀ k : Nat, k < 80 → 0 ≤ (σ 10 k).toInt ∧ (σ 10 k).toInt ≤ 255) ∧ (∀ k : Nat, k < 8 → 0 ≤ (σ 11 k).toInt ∧ (σ 11 k).toInt ≤ 3) := id hI9
  obtain ⟨i10, i11, i12, w13⟩ : (1 ≤ (σ 16 0).toInt ∧ (σ 16 0).toInt ≤ 8) ∧ (1 ≤ (σ 16 1).toInt ∧ (σ 16 1).toInt ≤ 12) ∧ (0 ≤ (σ 16 2).toInt ∧ (σ 16 2).toInt ≤ 999) ∧ (∀ k : Nat, k < 8 → 0 ≤ (σ 17 k).toInt ∧ (σ 17 k).toInt ≤ 3) := id hI16
  obtain ⟨i14, i15, w16⟩ : (0 ≤ (σ 38 0).toInt ∧ (σ 38 0).toInt ≤ 20) ∧ (0 ≤ (σ 38 1).toInt ∧ (σ 38 1).toInt ≤ 1000) ∧ (∀ k : Nat, k < 20 → 0 ≤ (σ 39 k).toInt ∧ (σ 39 k).toInt ≤ 6) := id hI38
  obtain ⟨i17, w18, w19⟩ : (0 ≤ (σ 47 0).toInt ∧ (σ 47 0).toInt ≤ 12) ∧ (∀ k : Nat, k < 12 → 0 ≤ (σ 48 k).toInt ∧ (σ 48 k).toInt ≤ 3) ∧ (∀ k : Nat, k < 12 → 0 ≤ (σ 49 k).toInt ∧ (σ 49 k).toInt ≤ 1) := id hI47
  have w20 : ∀ k : Nat, k < 6 → 0 ≤ (σ 52 k).toInt ∧ (σ 52 k).toInt ≤ 60 := hI50
  have i21 : 1 ≤ (σ 26 6).toInt ∧ (σ 26 6).toInt ≤ 8000 := hI26
  obtain ⟨i22, i23, i24, w25, w26, w27, w28⟩ : (0 ≤ (σ 55 5).toInt) ∧ ((σ 55 5).toInt ≤ (σ 55 4).toInt) ∧ ((σ 55 4).toInt ≤ 40) ∧ (∀ k : Nat, k < 68 → (-200) ≤ (σ 56 k).toInt ∧ (σ 56 k).toInt ≤ 500) ∧ (∀ k : Nat, k < 40 → 0 ≤ (σ 57 k).toInt ∧ (σ 57 k).toInt ≤ 67) ∧ (∀ k : Nat, k < 40 → (-200) ≤ (σ 58 k).toInt ∧ (σ 58 k).toInt ≤ 500) ∧ (∀ k : Nat, k < 40 → (-200) ≤ (σ 59 k).toInt ∧ (σ 59 k).toInt ≤ 500) := id hI101
  obtain ⟨i29, w30, w31⟩ : (0 ≤ (σ 55 6).toInt ∧ (σ 55 6).toInt ≤ 4) ∧ (∀ k : Nat, k < 4 → 0 ≤ (σ 60 k).toInt ∧ (σ 60 k).toInt ≤ 50) ∧ (∀ k : Nat, k < 4 → 0 ≤ (σ 61 k).toInt ∧ (σ 61 k).toInt ≤ 20) := id hI102
  have i32 : 0 ≤ (σ 55 9).toInt ∧ (σ 55 9).toInt ≤ 3 := hI103
  obtain ⟨i33, i34, i35, w36, w37⟩ : (1 ≤ (σ 55 10).toInt ∧ (σ 55 10).toInt ≤ 8) ∧ (1 ≤ (σ 55 12).toInt ∧ (σ 55 12).toInt ≤ 12) ∧ (0 ≤ (σ 55 13).toInt ∧ (σ 55 13).toInt ≤ 999) ∧ (∀ k : Nat, k < 8 → 0 ≤ (σ 62 k).toInt ∧ (σ 62 k).toInt ≤ 3) ∧ (∀ k : Nat, k < 8 → 0 ≤ (σ 67 k).toInt ∧ (σ 67 k).toInt ≤ 3) := id hI104
  obtain ⟨i38, w39⟩ : (0 ≤ (σ 55 15).toInt ∧ (σ 55 15).toInt ≤ 80) ∧ (∀ k : Nat, k < 2 → (-1) ≤ (σ 65 k).toInt ∧ (σ 65 k).toInt ≤ 80) := id hI105
  obtain ⟨i40, w41, w42, w43⟩ : (0 ≤ (σ 55 32).toInt ∧ (σ 55 32).toInt ≤ 20) ∧ (∀ k : Nat, k < 20 → 0 ≤ (σ 70 k).toInt ∧ (σ 70 k).toInt ≤ 6) ∧ (∀ k : Nat, k < 20 → 0 ≤ (σ 71 k).toInt ∧ (σ 71 k).toInt ≤ 8) ∧ (∀ k : Nat, k < 160 → 0 ≤ (σ 72 k).toInt ∧ (σ 72 k).toInt ≤ 3) := id hI106
  obtain ⟨i44, i45, w46⟩ : (0 ≤ (σ 55 47).toInt ∧ (σ 55 47).toInt ≤ 12) ∧ ((σ 55 47).toInt ≤ (σ 55 12).toInt) ∧ (∀ k : Nat, k < 12 → 0 ≤ (σ 80 k).toInt ∧ (σ 80 k).toInt ≤ 3) := id hI107
  have hs_jOk3 : jOk3 σ := hr0.ok hr1.1
  refine lv_aload_n hx hb dL_law_898 rfl (lv_at hl 2 rfl) ?_
  refine lv_aload_n hx hb dL_law_899 rfl (lv_at hl 3 rfl) ?_
  refine lv_iload_n hx hb dL_law_900 rfl (lv_at hl 0 rfl) ?_
  refine lv_iconst (v := 1) hx hb dL_law_901 (by decide) ?_
  have g47 := jrg (rfl : x0.toInt = x0.toInt)
  refine lv_iadd hx hb dL_law_902 ?_
  refine lv_topi (fun x48 ex48 => ?_)
  have tx48 : x48.toInt = x0.toInt + 1 := (jadd ex48 rfl jz_1 (by omega) (by omega)).trans (by omega)
  refine va_sld hx hb hX hbl hbA hS (jin tx48 (by omega) (by omega)) dL_law_903 ?_
  have g49 := jrg (rfl : (xs x48.toNatClampNeg).toInt = (xs x48.toNatClampNeg).toInt)
  refine lv_aload_n hx hb dL_law_904 rfl (lv_at hl 3 rfl) ?_
  refine lv_iload_n hx hb dL_law_905 rfl (lv_at hl 0 rfl) ?_
  refine lv_iconst (v := 2) hx hb dL_law_906 (by decide) ?_
  refine lv_iadd hx hb dL_law_907 ?_
  refine lv_topi (fun x50 ex50 => ?_)
  have tx50 : x50.toInt = x0.toInt + 2 := (jadd ex50 rfl jz_2 (by omega) (by omega)).trans (by omega)
  refine va_sld hx hb hX hbl hbA hS (jin tx50 (by omega) (by omega)) dL_law_908 ?_
  have g51 := jrg (rfl : (xs x50.toNatClampNeg).toInt = (xs x50.toNatClampNeg).toInt)
  refine jcallV (As := [.int (xs x48.toNatClampNeg), .int (xs x50.toNatClampNeg)]) (rest := []) ⟨hx, hb, hml, hown, hts⟩ hK hP hA hS hZ (c_X11_game l D cI cL ad zz hJ σ τ (xs x48.toNatClampNeg) ((xs x48.toNatClampNeg).toInt) rfl (xs x50.toNatClampNeg) ((xs x50.toNatClampNeg).toInt) rfl hI2 hI16 hI18 hI22 hI31 hI38 hI43 hI26 hs_jN67 hs_jBl hs_jKb hs_jKh hs_jKg) cw_RL_113 (jc_0 cI cL ad σ τ) rfl ⟨Nat.le_of_ble_eq_true rfl, Nat.le_of_ble_eq_true rfl⟩ rfl rfl rfl hl.1 rfl (Nat.le_of_ble_eq_true rfl) dL_law_909 ⟨Nat.le_of_ble_eq_true rfl, Nat.le_of_ble_eq_true rfl⟩ (fun r53 σ52 τ52 H locs h52 hP hS => ?_)
  obtain ⟨rfl, f54, f55, f56, I57, I58, p59, p60, p61, p62, p63, h52⟩ := h52
  refine lv_pop hx hb dL_law_912 rfl ?_
  refine lv_aload_n hx hb dL_law_913 rfl (lv_at hl 1 rfl) ?_
  refine lv_aload_n hx hb dL_law_914 rfl (lv_at hl 3 rfl) ?_
  refine lv_iload_n hx hb dL_law_915 rfl (lv_at hl 0 rfl) ?_
  refine lv_iconst (v := 1) hx hb dL_law_916 (by decide) ?_
  refine lv_iadd hx hb dL_law_917 ?_
  refine jtopr ex48.symm ?_
  refine va_sld hx hb hX hbl hbA hS (jin tx48 (by omega) (by omega)) dL_law_918 ?_
  refine lv_aload_n hx hb dL_law_919 rfl (lv_at hl 3 rfl) ?_
  refine lv_iload_n hx hb dL_law_920 rfl (lv_at hl 0 rfl) ?_
  refine lv_iconst (v := 2) hx hb dL_law_921 (by decide) ?_
  refine lv_iadd hx hb dL_law_922 ?_
  refine jtopr ex50.symm ?_
  refine va_sld hx hb hX hbl hbA hS (jin tx50 (by omega) (by omega)) dL_law_923 ?_
  have I65 : jI101 σ52 := jI101_fr (congrFun (f54 55 (by decide)) 4) (congrFun (f54 55 (by decide)) 5) (f54 56 (by decide)) (f54 57 (by decide)) (f54 58 (by decide)) (f54 59 (by decide)) hI101
  have I66 : jI102 σ52 := jI102_fr (congrFun (f54 55 (by decide)) 6) (f54 60 (by decide)) (f54 61 (by decide)) hI102
  have I67 : jI103 σ52 := jI103_fr (congrFun (f54 55 (by decide)) 9) hI103
  have I68 : jI104 σ52 := jI104_fr (congrFun (f54 55 (by decide)) 10) (congrFun (f54 55 (by decide)) 12) (congrFun (f54 55 (by decide)) 13) (f54 62 (by decide)) (f54 67 (by decide)) hI104
  have I69 : jI105 σ52 := jI105_fr (congrFun (f54 55 (by decide)) 15) (f54 65 (by decide)) hI105
  have I70 : jI106 σ52 := jI106_fr (congrFun (f54 55 (by decide)) 32) (f54 70 (by decide)) (f54 71 (by decide)) (f54 72 (by decide)) hI106
  have I71 : jI119 σ52 := jI119_fr (f54 68 (by decide)) hI119
  have I72 : jI109 σ52 := jI109_fr (congrFun (f54 55 (by decide)) 50) hI109
  have p73 : jKept σ52 := jKept.fr (f54 75 (by decide)) (f54 76 (by decide)) (f54 77 (by decide)) hs_jKept
  have p74 : jTR σ52 := jTR.fr (f54 64 (by decide)) (f54 65 (by decide)) hs_jTR
  refine jcallV (As := [.int (xs x48.toNatClampNeg), .int (xs x50.toNatClampNeg)]) (rest := []) ⟨hx, hb, hml, hown, hts⟩ hK hP hA hS hZ (c_X12_game l D cI cL ad zz hJ σ52 τ (xs x48.toNatClampNeg) ((xs x48.toNatClampNeg).toInt) rfl (xs x50.toNatClampNeg) ((xs x50.toNatClampNeg).toInt) rfl I65 I66 I67 I68 I69 I70 I71 I72 p73 p74) cw_RL_116 (jc_55 cI cL ad σ52 τ) rfl ⟨Nat.le_of_ble_eq_true rfl, Nat.le_of_ble_eq_true rfl⟩ rfl rfl rfl hl.1 rfl (Nat.le_of_ble_eq_true rfl) dL_law_924 ⟨Nat.le_of_ble_eq_true rfl, Nat.le_of_ble_eq_true rfl⟩ (fun r76 σ75 τ75 H locs h75 hP hS => ?_)
  obtain ⟨rfl, f77, f78, I79, I80, p81, p82, h75⟩ := h75
  refine lv_pop hx hb dL_law_927 rfl ?_
  refine lv_goto (tgt := 1357) hx hb dL_law_928 (by decide) ?_
  obtain ⟨x84, ex84⟩ : ∃ y : Int32, y = x0 + 6 := ⟨_, rfl⟩
  have tx84 : x84.toInt = x0.toInt + 6 := (jadd ex84 rfl jz_6 (by omega) (by omega)).trans (by omega)
  refine lv_iinc (v := x84) (lv' := [(3, .int x84), (2, .ref (ad 55)), (1, .ref (ad 0)), (0, .ref b)]) hx hb dL_law_1357 hl (k := 0) rfl (by rw [ex84]; rfl) (by decide) rfl (fun ls hl => ?_)
  refine lv_goto (tgt := 18) hx hb dL_law_1360 (by decide) ?_
  have I85 : jI2 σ75 := jI2_fr ((congrFun (f77 2 (by decide)) 0).trans (congrFun (f54 2 (by decide)) 0)) ((congrFun (f77 2 (by decide)) 1).trans (congrFun (f54 2 (by decide)) 1)) ((congrFun (f77 2 (by decide)) 2).trans (congrFun (f54 2 (by decide)) 2)) ((congrFun (f77 2 (by decide)) 3).trans (congrFun (f54 2 (by decide)) 3)) ((f77 6 (by decide)).trans (f54 6 (by decide))) hI2
  have I86 : jI9 σ75 := jI9_fr ((congrFun (f77 9 (by decide)) 0).trans (congrFun (f54 9 (by decide)) 0)) ((f77 10 (by decide)).trans (f54 10 (by decide))) ((f77 11 (by decide)).trans (f54 11 (by decide))) hI9
  have I87 : jI12 σ75 := jI12_fr ((congrFun (f77 12 (by decide)) 0).trans (congrFun (f54 12 (by decide)) 0)) ((f77 13 (by decide)).trans (f54 13 (by decide))) hI12
  have I88 : jI16 σ75 := jI16_fr ((congrFun (f77 16 (by decide)) 0).trans (congrFun (f54 16 (by decide)) 0)) ((congrFun (f77 16 (by decide)) 1).trans (congrFun (f54 16 (by decide)) 1)) ((congrFun (f77 16 (by decide)) 2).trans (congrFun (f54 16 (by decide)) 2)) ((f77 17 (by decide)).trans (f54 17 (by decide))) hI16
  have I89 : jI18 σ75 := jI18_fr ((congrFun (f77 18 (by decide)) 0).trans (congrFun (f54 18 (by decide)) 0)) ((f77 19 (by decide)).trans (f54 19 (by decide))) hI18
  have I90 : jI22 σ75 := jI22_fr ((congrFun (f77 22 (by decide)) 0).trans (congrFun (f54 22 (by decide)) 0)) ((f77 23 (by decide)).trans (f54 23 (by decide))) hI22
  have I91 : jI31 σ75 := jI31_fr (congrFun (f77 31 (by decide)) 8) (congrFun (f77 31 (by decide)) 10) (congrFun (f77 31 (by decide)) 11) (f77 33 (by decide)) (f77 35 (by decide)) (f77 36 (by decide)) I57
  have I92 : jI38 σ75 := jI38_fr ((congrFun (f77 38 (by decide)) 0).trans (congrFun (f54 38 (by decide)) 0)) ((congrFun (f77 38 (by decide)) 1).trans (congrFun (f54 38 (by decide)) 1)) ((f77 39 (by decide)).trans (f54 39 (by decide))) hI38
  have I93 : jI43 σ75 := jI43_fr (congrFun (f77 43 (by decide)) 8) I58
  have I94 : jI47 σ75 := jI47_fr ((congrFun (f77 47 (by decide)) 0).trans (congrFun (f54 47 (by decide)) 0)) ((f77 48 (by decide)).trans (f54 48 (by decide))) ((f77 49 (by decide)).trans (f54 49 (by decide))) hI47
  have I95 : jI50 σ75 := jI50_fr ((f77 52 (by decide)).trans (f54 52 (by decide))) hI50
  have I96 : jI0 σ75 := jI0_fr ((f77 1 (by decide)).trans (f54 1 (by decide))) hI0
  have I97 : jI26 σ75 := jI26_fr ((congrFun (f77 26 (by decide)) 6).trans (congrFun (f54 26 (by decide)) 6)) hI26
  have I98 : jI101 σ75 := jI101_fr (f78 4 (by decide)) (f78 5 (by decide)) (f77 56 (by decide)) (f77 57 (by decide)) (f77 58 (by decide)) (f77 59 (by decide)) I65
  have I99 : jI102 σ75 := jI102_fr (f78 6 (by decide)) (f77 60 (by decide)) (f77 61 (by decide)) I66
  have I100 : jI103 σ75 := jI103_fr (f78 9 (by decide)) I67
  have I101 : jI104 σ75 := jI104_fr (f78 10 (by decide)) (f78 12 (by decide)) (f78 13 (by decide)) (f77 62 (by decide)) (f77 67 (by decide)) I68
  have I102 : jI105 σ75 := jI105_fr (f78 15 (by decide)) (f77 65 (by decide)) I69
  have I103 : jI106 σ75 := jI106_fr (f78 32 (by decide)) (f77 70 (by decide)) (f77 71 (by decide)) (f77 72 (by decide)) I70
  have I104 : jI107 σ75 := jI107_fr ((f78 12 (by decide)).trans (congrFun (f54 55 (by decide)) 12)) ((f78 47 (by decide)).trans (congrFun (f54 55 (by decide)) 47)) ((f77 80 (by decide)).trans (f54 80 (by decide))) hI107
  have I105 : jI110 σ75 := jI110_fr ((f77 86 (by decide)).trans (f54 86 (by decide))) ((f77 87 (by decide)).trans (f54 87 (by decide))) hI110
  have I106 : jI111 σ75 := jI111_fr ((f77 79 (by decide)).trans (f54 79 (by decide))) hI111
  have p107 : jBook σ75 := jBook.fr ((f78 47 (by decide)).trans (congrFun (f54 55 (by decide)) 47)) ((f78 10 (by decide)).trans (congrFun (f54 55 (by decide)) 10)) ((f77 81 (by decide)).trans (f54 81 (by decide))) hs_jBook
  have p108 : jNd12 σ75 := jNd12.fr ((congrFun (f77 12 (by decide)) 0).trans (congrFun (f54 12 (by decide)) 0)) ((congrFun (f77 12 (by decide)) 1).trans (congrFun (f54 12 (by decide)) 1)) ((f77 13 (by decide)).trans (f54 13 (by decide))) hs_jNd12
  have p109 : jN67 σ75 := jN67.fr (f77 24 (by decide)) p59
  have p110 : jBl σ75 := jBl.fr (congrFun (f77 22 (by decide)) 0) (congrFun (f77 22 (by decide)) 1) (f77 23 (by decide)) (congrFun (f77 26 (by decide)) 6) (congrFun (f77 26 (by decide)) 7) (f77 29 (by decide)) (f77 30 (by decide)) p60
  have p111 : jKb σ75 := jKb.fr (congrFun (f77 31 (by decide)) 8) (congrFun (f77 31 (by decide)) 11) (f77 32 (by decide)) p61
  have p112 : jKh σ75 := jKh.fr (congrFun (f77 31 (by decide)) 8) (f77 32 (by decide)) (f77 36 (by decide)) (f77 37 (by decide)) p62
  have p113 : jKg σ75 := jKg.fr (congrFun (f77 31 (by decide)) 8) (congrFun (f77 31 (by decide)) 9) (congrFun (f77 31 (by decide)) 11) (congrFun (f77 31 (by decide)) 12) (f77 32 (by decide)) (f77 33 (by decide)) p63
  have z114 : (σ75 2 0).toInt = (σ 2 0).toInt := (congrArg Int32.toInt (show σ75 2 0 = (σ 2 0) from ((congrFun (f77 2 (by decide)) 0).trans (congrFun (f54 2 (by decide)) 0))))
  have z115 : (σ75 55 6).toInt = (σ 55 6).toInt := (congrArg Int32.toInt (show σ75 55 6 = (σ 55 6) from ((f78 6 (by decide)).trans (congrFun (f54 55 (by decide)) 6))))
  have z116 : (σ75 2 2).toInt = (σ 2 2).toInt := (congrArg Int32.toInt (show σ75 2 2 = (σ 2 2) from ((congrFun (f77 2 (by decide)) 2).trans (congrFun (f54 2 (by decide)) 2))))
  have z117 : (σ75 55 5).toInt = (σ 55 5).toInt := (congrArg Int32.toInt (show σ75 55 5 = (σ 55 5) from ((f78 5 (by decide)).trans (congrFun (f54 55 (by decide)) 5))))
  have z118 : (σ75 2 3).toInt = (σ 2 3).toInt := (congrArg Int32.toInt (show σ75 2 3 = (σ 2 3) from ((congrFun (f77 2 (by decide)) 3).trans (congrFun (f54 2 (by decide)) 3))))
  have z119 : (σ75 55 4).toInt = (σ 55 4).toInt := (congrArg Int32.toInt (show σ75 55 4 = (σ 55 4) from ((f78 4 (by decide)).trans (congrFun (f54 55 (by decide)) 4))))
  have z120 : (σ75 9 0).toInt = (σ 9 0).toInt := (congrArg Int32.toInt (show σ75 9 0 = (σ 9 0) from ((congrFun (f77 9 (by decide)) 0).trans (congrFun (f54 9 (by decide)) 0))))
  have z121 : (σ75 55 15).toInt = (σ 55 15).toInt := (congrArg Int32.toInt (show σ75 55 15 = (σ 55 15) from ((f78 15 (by decide)).trans (congrFun (f54 55 (by decide)) 15))))
  have z122 : (σ75 16 0).toInt = (σ 16 0).toInt := (congrArg Int32.toInt (show σ75 16 0 = (σ 16 0) from ((congrFun (f77 16 (by decide)) 0).trans (congrFun (f54 16 (by decide)) 0))))
  have z123 : (σ75 55 10).toInt = (σ 55 10).toInt := (congrArg Int32.toInt (show σ75 55 10 = (σ 55 10) from ((f78 10 (by decide)).trans (congrFun (f54 55 (by decide)) 10))))
  have z124 : (σ75 16 1).toInt = (σ 16 1).toInt := (congrArg Int32.toInt (show σ75 16 1 = (σ 16 1) from ((congrFun (f77 16 (by decide)) 1).trans (congrFun (f54 16 (by decide)) 1))))
  have z125 : (σ75 55 12).toInt = (σ 55 12).toInt := (congrArg Int32.toInt (show σ75 55 12 = (σ 55 12) from ((f78 12 (by decide)).trans (congrFun (f54 55 (by decide)) 12))))
  have z126 : (σ75 16 2).toInt = (σ 16 2).toInt := (congrArg Int32.toInt (show σ75 16 2 = (σ 16 2) from ((congrFun (f77 16 (by decide)) 2).trans (congrFun (f54 16 (by decide)) 2))))
  have z127 : (σ75 55 13).toInt = (σ 55 13).toInt := (congrArg Int32.toInt (show σ75 55 13 = (σ 55 13) from ((f78 13 (by decide)).trans (congrFun (f54 55 (by decide)) 13))))
  have z128 : (σ75 38 0).toInt = (σ 38 0).toInt := (congrArg Int32.toInt (show σ75 38 0 = (σ 38 0) from ((congrFun (f77 38 (by decide)) 0).trans (congrFun (f54 38 (by decide)) 0))))
  have z129 : (σ75 55 32).toInt = (σ 55 32).toInt := (congrArg Int32.toInt (show σ75 55 32 = (σ 55 32) from ((f78 32 (by decide)).trans (congrFun (f54 55 (by decide)) 32))))
  have z130 : (σ75 38 1).toInt = (σ 38 1).toInt := (congrArg Int32.toInt (show σ75 38 1 = (σ 38 1) from ((congrFun (f77 38 (by decide)) 1).trans (congrFun (f54 38 (by decide)) 1))))
  have z131 : (σ75 55 55).toInt = (σ 55 55).toInt := (congrArg Int32.toInt (show σ75 55 55 = (σ 55 55) from ((f78 55 (by decide)).trans (congrFun (f54 55 (by decide)) 55))))
  have z132 : (σ75 47 0).toInt = (σ 47 0).toInt := (congrArg Int32.toInt (show σ75 47 0 = (σ 47 0) from ((congrFun (f77 47 (by decide)) 0).trans (congrFun (f54 47 (by decide)) 0))))
  have z133 : (σ75 55 47).toInt = (σ 55 47).toInt := (congrArg Int32.toInt (show σ75 55 47 = (σ 55 47) from ((f78 47 (by decide)).trans (congrFun (f54 55 (by decide)) 47))))
  have z134 : (σ75 55 30).toInt = (σ 55 30).toInt := (congrArg Int32.toInt (show σ75 55 30 = (σ 55 30) from ((f78 30 (by decide)).trans (congrFun (f54 55 (by decide)) 30))))
  have z135 : (σ75 55 31).toInt = (σ 55 31).toInt := (congrArg Int32.toInt (show σ75 55 31 = (σ 55 31) from ((f78 31 (by decide)).trans (congrFun (f54 55 (by decide)) 31))))
  have z136 : (σ75 2 1).toInt = (σ 2 1).toInt := (congrArg Int32.toInt (show σ75 2 1 = (σ 2 1) from ((congrFun (f77 2 (by decide)) 1).trans (congrFun (f54 2 (by decide)) 1))))
  have z137 : (σ75 55 9).toInt = (σ 55 9).toInt := (congrArg Int32.toInt (show σ75 55 9 = (σ 55 9) from ((f78 9 (by decide)).trans (congrFun (f54 55 (by decide)) 9))))
  have z138 : (σ75 26 6).toInt = (σ 26 6).toInt := (congrArg Int32.toInt (show σ75 26 6 = (σ 26 6) from ((congrFun (f77 26 (by decide)) 6).trans (congrFun (f54 26 (by decide)) 6))))
  have z140 : (σ75 18 0).toInt = (σ 18 0).toInt := (congrArg Int32.toInt (show σ75 18 0 = (σ 18 0) from ((congrFun (f77 18 (by decide)) 0).trans (congrFun (f54 18 (by decide)) 0))))
  have z141 : (σ75 22 0).toInt = (σ 22 0).toInt := (congrArg Int32.toInt (show σ75 22 0 = (σ 22 0) from ((congrFun (f77 22 (by decide)) 0).trans (congrFun (f54 22 (by decide)) 0))))
  exact ih x84 σ75 τ _ _ ls (by have h9 := tx84; omega) ⟨I85, I86, I87, I88, I89, I90, I91, I92, I93, I94, I95, I96, I97, I98, I99, I100, I101, I102, I103, I104, I79, I105, I106, I80, p81, p107, p108, p109, p110, p111, p82, p112, p113, (by omega), (by omega), (by omega), (by omega), (by omega), (by omega), (by omega), (by omega), (by omega), (by omega), (by omega), (by omega), (by omega), (by have h9 := tx84; omega), (show jNumP (σ75 3) (σ75 56) (σ75 6) (σ75 57) (σ75 7) (σ75 58) (σ75 8) (σ75 59) (σ75 55 6).toInt (σ75 55 4).toInt by rw [show σ75 3 = σ 3 from ((f77 3 (by decide)).trans (f54 3 (by decide))), show σ75 56 = σ 56 from ((f77 56 (by decide)).trans (f54 56 (by decide))), show σ75 6 = σ 6 from ((f77 6 (by decide)).trans (f54 6 (by decide))), show σ75 57 = σ 57 from ((f77 57 (by decide)).trans (f54 57 (by decide))), show σ75 7 = σ 7 from ((f77 7 (by decide)).trans (f54 7 (by decide))), show σ75 58 = σ 58 from ((f77 58 (by decide)).trans (f54 58 (by decide))), show σ75 8 = σ 8 from ((f77 8 (by decide)).trans (f54 8 (by decide))), show σ75 59 = σ 59 from ((f77 59 (by decide)).trans (f54 59 (by decide))), show (σ75 55 6).toInt = (σ 55 6).toInt from by omega, show (σ75 55 4).toInt = (σ 55 4).toInt from by omega]; exact hr0), (show jOvP (σ75 56) (σ75 57) (σ75 58) (σ75 59) (σ75 55 4).toInt by rw [show σ75 56 = σ 56 from ((f77 56 (by decide)).trans (f54 56 (by decide))), show σ75 57 = σ 57 from ((f77 57 (by decide)).trans (f54 57 (by decide))), show σ75 58 = σ 58 from ((f77 58 (by decide)).trans (f54 58 (by decide))), show σ75 59 = σ 59 from ((f77 59 (by decide)).trans (f54 59 (by decide))), show (σ75 55 4).toInt = (σ 55 4).toInt from by omega]; exact hr1), (show jTp (σ75 10) (σ75 63) (σ75 55 15).toInt by rw [show σ75 10 = σ 10 from ((f77 10 (by decide)).trans (f54 10 (by decide))), show σ75 63 = σ 63 from ((f77 63 (by decide)).trans (f54 63 (by decide)))]; exact hr2.le (by omega)), (show jSo (σ75 17) (σ75 62) (σ75 16 0).toInt by rw [show σ75 17 = σ 17 from ((f77 17 (by decide)).trans (f54 17 (by decide))), show σ75 62 = σ 62 from ((f77 62 (by decide)).trans (f54 62 (by decide))), show (σ75 16 0).toInt = (σ 16 0).toInt from by omega]; exact hr3), (show jShP (σ75 51) (σ75 52) (σ75 53) (σ75 86) (σ75 87) (σ75 55 32).toInt by rw [show σ75 51 = σ 51 from ((f77 51 (by decide)).trans (f54 51 (by decide))), show σ75 52 = σ 52 from ((f77 52 (by decide)).trans (f54 52 (by decide))), show σ75 53 = σ 53 from ((f77 53 (by decide)).trans (f54 53 (by decide))), show σ75 86 = σ 86 from ((f77 86 (by decide)).trans (f54 86 (by decide))), show σ75 87 = σ 87 from ((f77 87 (by decide)).trans (f54 87 (by decide)))]; exact (hr4.up (by omega) (by omega))), (show jEl (σ75 51) (σ75 52) (τ 54) (τ 88) by rw [show σ75 51 = σ 51 from ((f77 51 (by decide)).trans (f54 51 (by decide))), show σ75 52 = σ 52 from ((f77 52 (by decide)).trans (f54 52 (by decide)))]; exact hr5), (show jByP (σ75 51) (σ75 52) (τ 54) by rw [show σ75 51 = σ 51 from ((f77 51 (by decide)).trans (f54 51 (by decide))), show σ75 52 = σ 52 from ((f77 52 (by decide)).trans (f54 52 (by decide)))]; exact hr6), (show jBk (σ75 48) (σ75 80) (σ75 49) (σ75 81) (σ75 55 47).toInt by rw [show σ75 48 = σ 48 from ((f77 48 (by decide)).trans (f54 48 (by decide))), show σ75 49 = σ 49 from ((f77 49 (by decide)).trans (f54 49 (by decide))), show σ75 80 = σ 80 from ((f77 80 (by decide)).trans (f54 80 (by decide))), show σ75 81 = σ 81 from ((f77 81 (by decide)).trans (f54 81 (by decide))), show (σ75 55 47).toInt = (σ 55 47).toInt from by omega]; exact hr7), (show jKd (σ75 39) (σ75 70) (σ75 55 32).toInt by rw [show σ75 39 = σ 39 from ((f77 39 (by decide)).trans (f54 39 (by decide))), show σ75 70 = σ 70 from ((f77 70 (by decide)).trans (f54 70 (by decide))), show (σ75 55 32).toInt = (σ 55 32).toInt from by omega]; exact hr8), (show jTt (σ75 42) (σ75 85) (σ75 55 55).toInt by rw [show σ75 42 = σ 42 from ((f77 42 (by decide)).trans (f54 42 (by decide))), show σ75 85 = σ 85 from ((f77 85 (by decide)).trans (f54 85 (by decide))), show (σ75 55 55).toInt = (σ 55 55).toInt from by omega]; exact hr9), (fun k hk => by rw [show σ75 4 = σ 4 from ((f77 4 (by decide)).trans (f54 4 (by decide))), show σ75 5 = σ 5 from ((f77 5 (by decide)).trans (f54 5 (by decide))), show σ75 60 = σ 60 from ((f77 60 (by decide)).trans (f54 60 (by decide))), show σ75 61 = σ 61 from ((f77 61 (by decide)).trans (f54 61 (by decide)))]; exact hr10 k (by omega)), (fun nm => by rw [show σ75 19 = σ 19 from ((f77 19 (by decide)).trans (f54 19 (by decide))), show σ75 64 = σ 64 from ((f77 64 (by decide)).trans (f54 64 (by decide))), show σ75 65 = σ 65 from ((f77 65 (by decide)).trans (f54 65 (by decide))), show (σ75 18 0).toInt = (σ 18 0).toInt from by omega]; exact hr11 nm), (fun nm => by rw [show σ75 23 = σ 23 from ((f77 23 (by decide)).trans (f54 23 (by decide))), show σ75 64 = σ 64 from ((f77 64 (by decide)).trans (f54 64 (by decide))), show σ75 65 = σ 65 from ((f77 65 (by decide)).trans (f54 65 (by decide))), show (σ75 22 0).toInt = (σ 22 0).toInt from by omega]; exact hr12 nm)⟩ hP hS (lv_sub hl [0, 1, 2, 3] rfl)
set_option maxHeartbeats 4000000 in
set_option maxRecDepth 100000 in
theorem law_case_25 {p : Program} {e : Env} {s : State} {m : MethodId} {below : List Frame} {meth : Method} {c : Code} (l : Launch) {b L : Nat} {xs : Nat → Int32} {D : va_G} {cI cL : ClassId} {ad zz : Nat → Nat} (C0 : lw_At p s m meth c b L xs) (hJ : jD ad) (hA : ∀ q, jA ad q → s.heap.size ≤ q) (hK : jK D cI cL s) (hZ : jZ zz (fun q : Nat => s.heap.size ≤ q) s s.heap) {x0 : Int32} (hx0 : 0 ≤ x0.toInt) (hxL : x0.toInt + 6 ≤ (L : Int)) (hL : L ≤ 384) {σ : Nat → Nat → Int32} {τ : Nat → Nat → Int64} {H : Heap} {locs : List Loc} (hS : va_S (fun q : Nat => s.heap.size ≤ q) s.heap H locs) {ls : Array Slot} (hAll : jAll x0.toInt σ τ) (hP : jH D cI cL ad σ τ H) (hl : lv_has ls 4 [(3, .int x0), (2, .ref (ad 55)), (1, .ref (ad 0)), (0, .ref b)]) (ih : ∀ (x1 : Int32) (σ : Nat → Nat → Int32) (τ : Nat → Nat → Int64) (H : Heap) (locs : List Loc) (ls : Array Slot), x1.toInt = x0.toInt + 6 → jAll x1.toInt σ τ → jH D cI cL ad σ τ H → va_S (fun q : Nat => s.heap.size ≤ q) s.heap H locs → lv_has ls 4 [(3, .int x1), (2, .ref (ad 55)), (1, .ref (ad 0)), (0, .ref b)] → W p l e room_1 s m #[Value.ref b] below meth c H locs 90 348600 (lw_Z below #[Value.ref b] s) (F0 m 18 ls [])) : W p l e room_1 s m #[Value.ref b] below meth c H locs 90 348600 (lw_Z below #[Value.ref b] s) (F0 m 931 ls []) := by
  obtain ⟨hx, hb, hr, hml, hown, hts0, hX, hbl, hlocks, hgv⟩ := C0
  have hts : ∀ w ∈ wsL_law, w.before #[Value.ref b] s = true := fun w h => hts0 w (wsL_law_in w h)
  have hbA : ¬ (fun q : Nat => s.heap.size ≤ q) b := Nat.not_le.mpr hbl
  have hown : s.vm.findClass RL = some m.cls := hown
  obtain ⟨hI2, hI9, hI12, hI16, hI18, hI22, hI31, hI38, hI43, hI47, hI50, hI0, hI26, hI101, hI102, hI103, hI104, hI105, hI106, hI107, hI109, hI110, hI111, hI119, hs_jKept, hs_jBook, hs_jNd12, hs_jN67, hs_jBl, hs_jKb, hs_jTR, hs_jKh, hs_jKg, ht0, ht1, ht2, ht3, ht4, ht5, ht6, ht7, ht8, ht9, ht10, ht11, ht12, ht13, hr0, hr1, hr2, hr3, hr4, hr5, hr6, hr7, hr8, hr9, hr10, hr11, hr12⟩ := hAll
  have hL9 : (L : Int) ≤ 384 := by omega
  obtain ⟨i1, i2, i3, i4, i5, w6⟩ : (0 ≤ (σ 2 0).toInt ∧ (σ 2 0).toInt ≤ 4) ∧ (0 ≤ (σ 2 1).toInt ∧ (σ 2 1).toInt ≤ 3) ∧ (0 ≤ (σ 2 2).toInt) ∧ (0 ≤ (σ 2 3).toInt) ∧ ((σ 2 2).toInt + (σ 2 3).toInt ≤ 40) ∧ (∀ k : Nat, k < 40 → 0 ≤ (σ 6 k).toInt ∧ (σ 6 k).toInt ≤ 67) := id hI2
  obtain ⟨i7, w8, w9⟩ : (0 ≤ (σ 9 0).toInt ∧ (σ 9 0).toInt ≤ 80) ∧ (∀ k : Nat, k < 80 → 0 ≤ (σ 10 k).toInt ∧ (σ 10 k).toInt ≤ 255) ∧ (∀ k : Nat, k < 8 → 0 ≤ (σ 11 k).toInt ∧ (σ 11 k).toInt ≤ 3) := id hI9
  obtain ⟨i10, i11, i12, w13⟩ : (1 ≤ (σ 16 0).toInt ∧ (σ 16 0).toInt ≤ 8) ∧ (1 ≤ (σ 16 1).toInt ∧ (σ 16 1).toInt ≤ 12) ∧ (0 ≤ (σ 16 2).toInt ∧ (σ 16 2).toInt ≤ 999) ∧ (∀ k : Nat, k < 8 → 0 ≤ (σ 17 k).toInt ∧ (σ 17 k).toInt ≤ 3) := id hI16
  obtain ⟨i14, i15, w16⟩ : (0 ≤ (σ 38 0).toInt ∧ (σ 38 0).toInt ≤ 20) ∧ (0 ≤ (σ 38 1).toInt ∧ (σ 38 1).toInt ≤ 1000) ∧ (∀ k : Nat, k < 20 → 0 ≤ (σ 39 k).toInt ∧ (σ 39 k).toInt ≤ 6) := id hI38
  obtain ⟨i17, w18, w19⟩ : (0 ≤ (σ 47 0).toInt ∧ (σ 47 0).toInt ≤ 12) ∧ (∀ k : Nat, k < 12 → 0 ≤ (σ 48 k).toInt ∧ (σ 48 k).toInt ≤ 3) ∧ (∀ k : Nat, k < 12 → 0 ≤ (σ 49 k).toInt ∧ (σ 49 k).toInt ≤ 1) := id hI47
  have w20 : ∀ k : Nat, k < 6 → 0 ≤ (σ 52 k).toInt ∧ (σ 52 k).toInt ≤ 60 := hI50
  have i21 : 1 ≤ (σ 26 6).toInt ∧ (σ 26 6).toInt ≤ 8000 := hI26
  obtain ⟨i22, i23, i24, w25, w26, w27, w28⟩ : (0 ≤ (σ 55 5).toInt) ∧ ((σ 55 5).toInt ≤ (σ 55 4).toInt) ∧ ((σ 55 4).toInt ≤ 40) ∧ (∀ k : Nat, k < 68 → (-200) ≤ (σ 56 k).toInt ∧ (σ 56 k).toInt ≤ 500) ∧ (∀ k : Nat, k < 40 → 0 ≤ (σ 57 k).toInt ∧ (σ 57 k).toInt ≤ 67) ∧ (∀ k : Nat, k < 40 → (-200) ≤ (σ 58 k).toInt ∧ (σ 58 k).toInt ≤ 500) ∧ (∀ k : Nat, k < 40 → (-200) ≤ (σ 59 k).toInt ∧ (σ 59 k).toInt ≤ 500) := id hI101
  obtain ⟨i29, w30, w31⟩ : (0 ≤ (σ 55 6).toInt ∧ (σ 55 6).toInt ≤ 4) ∧ (∀ k : Nat, k < 4 → 0 ≤ (σ 60 k).toInt ∧ (σ 60 k).toInt ≤ 50) ∧ (∀ k : Nat, k < 4 → 0 ≤ (σ 61 k).toInt ∧ (σ 61 k).toInt ≤ 20) := id hI102
  have i32 : 0 ≤ (σ 55 9).toInt ∧ (σ 55 9).toInt ≤ 3 := hI103
  obtain ⟨i33, i34, i35, w36, w37⟩ : (1 ≤ (σ 55 10).toInt ∧ (σ 55 10).toInt ≤ 8) ∧ (1 ≤ (σ 55 12).toInt ∧ (σ 55 12).toInt ≤ 12) ∧ (0 ≤ (σ 55 13).toInt ∧ (σ 55 13).toInt ≤ 999) ∧ (∀ k : Nat, k < 8 → 0 ≤ (σ 62 k).toInt ∧ (σ 62 k).toInt ≤ 3) ∧ (∀ k : Nat, k < 8 → 0 ≤ (σ 67 k).toInt ∧ (σ 67 k).toInt ≤ 3) := id hI104
  obtain ⟨i38, w39⟩ : (0 ≤ (σ 55 15).toInt ∧ (σ 55 15).toInt ≤ 80) ∧ (∀ k : Nat, k < 2 → (-1) ≤ (σ 65 k).toInt ∧ (σ 65 k).toInt ≤ 80) := id hI105
  obtain ⟨i40, w41, w42, w43⟩ : (0 ≤ (σ 55 32).toInt ∧ (σ 55 32).toInt ≤ 20) ∧ (∀ k : Nat, k < 20 → 0 ≤ (σ 70 k).toInt ∧ (σ 70 k).toInt ≤ 6) ∧ (∀ k : Nat, k < 20 → 0 ≤ (σ 71 k).toInt ∧ (σ 71 k).toInt ≤ 8) ∧ (∀ k : Nat, k < 160 → 0 ≤ (σ 72 k).toInt ∧ (σ 72 k).toInt ≤ 3) := id hI106
  obtain ⟨i44, i45, w46⟩ : (0 ≤ (σ 55 47).toInt ∧ (σ 55 47).toInt ≤ 12) ∧ ((σ 55 47).toInt ≤ (σ 55 12).toInt) ∧ (∀ k : Nat, k < 12 → 0 ≤ (σ 80 k).toInt ∧ (σ 80 k).toInt ≤ 3) := id hI107
  have hs_jOk3 : jOk3 σ := hr0.ok hr1.1
  refine lv_aload_n hx hb dL_law_931 rfl (lv_at hl 2 rfl) ?_
  refine lv_aload_n hx hb dL_law_932 rfl (lv_at hl 3 rfl) ?_
  refine lv_iload_n hx hb dL_law_933 rfl (lv_at hl 0 rfl) ?_
  refine lv_iconst (v := 1) hx hb dL_law_934 (by decide) ?_
  have g47 := jrg (rfl : x0.toInt = x0.toInt)
  refine lv_iadd hx hb dL_law_935 ?_
  refine lv_topi (fun x48 ex48 => ?_)
  have tx48 : x48.toInt = x0.toInt + 1 := (jadd ex48 rfl jz_1 (by omega) (by omega)).trans (by omega)
  refine va_sld hx hb hX hbl hbA hS (jin tx48 (by omega) (by omega)) dL_law_936 ?_
  have g49 := jrg (rfl : (xs x48.toNatClampNeg).toInt = (xs x48.toNatClampNeg).toInt)
  refine lv_aload_n hx hb dL_law_937 rfl (lv_at hl 3 rfl) ?_
  refine lv_iload_n hx hb dL_law_938 rfl (lv_at hl 0 rfl) ?_
  refine lv_iconst (v := 2) hx hb dL_law_939 (by decide) ?_
  refine lv_iadd hx hb dL_law_940 ?_
  refine lv_topi (fun x50 ex50 => ?_)
  have tx50 : x50.toInt = x0.toInt + 2 := (jadd ex50 rfl jz_2 (by omega) (by omega)).trans (by omega)
  refine va_sld hx hb hX hbl hbA hS (jin tx50 (by omega) (by omega)) dL_law_941 ?_
  have g51 := jrg (rfl : (xs x50.toNatClampNeg).toInt = (xs x50.toNatClampNeg).toInt)
  refine jcallV (As := [.int (xs x48.toNatClampNeg), .int (xs x50.toNatClampNeg)]) (rest := []) ⟨hx, hb, hml, hown, hts⟩ hK hP hA hS hZ (c_X11_led l D cI cL ad zz hJ σ τ (xs x48.toNatClampNeg) ((xs x48.toNatClampNeg).toInt) rfl (xs x50.toNatClampNeg) ((xs x50.toNatClampNeg).toInt) rfl hI43) cw_RL_117 (jc_0 cI cL ad σ τ) rfl ⟨Nat.le_of_ble_eq_true rfl, Nat.le_of_ble_eq_true rfl⟩ rfl rfl rfl hl.1 rfl (Nat.le_of_ble_eq_true rfl) dL_law_942 ⟨Nat.le_of_ble_eq_true rfl, Nat.le_of_ble_eq_true rfl⟩ (fun r53 σ52 τ52 H locs h52 hP hS => ?_)
  obtain ⟨⟨rfl, rfl⟩, h52⟩ := h52
  refine lv_pop hx hb dL_law_945 rfl ?_
  refine lv_aload_n hx hb dL_law_946 rfl (lv_at hl 1 rfl) ?_
  refine lv_aload_n hx hb dL_law_947 rfl (lv_at hl 3 rfl) ?_
  refine lv_iload_n hx hb dL_law_948 rfl (lv_at hl 0 rfl) ?_
  refine lv_iconst (v := 1) hx hb dL_law_949 (by decide) ?_
  refine lv_iadd hx hb dL_law_950 ?_
  refine jtopr ex48.symm ?_
  refine va_sld hx hb hX hbl hbA hS (jin tx48 (by omega) (by omega)) dL_law_951 ?_
  refine lv_aload_n hx hb dL_law_952 rfl (lv_at hl 3 rfl) ?_
  refine lv_iload_n hx hb dL_law_953 rfl (lv_at hl 0 rfl) ?_
  refine lv_iconst (v := 2) hx hb dL_law_954 (by decide) ?_
  refine lv_iadd hx hb dL_law_955 ?_
  refine jtopr ex50.symm ?_
  refine va_sld hx hb hX hbl hbA hS (jin tx50 (by omega) (by omega)) dL_law_956 ?_
  refine jcallV (As := [.int (xs x48.toNatClampNeg), .int (xs x50.toNatClampNeg)]) (rest := []) ⟨hx, hb, hml, hown, hts⟩ hK hP hA hS hZ (c_X12_led l D cI cL ad zz hJ σ τ (xs x48.toNatClampNeg) ((xs x48.toNatClampNeg).toInt) rfl (xs x50.toNatClampNeg) ((xs x50.toNatClampNeg).toInt) rfl hI109) cw_RL_120 (jc_55 cI cL ad σ τ) rfl ⟨Nat.le_of_ble_eq_true rfl, Nat.le_of_ble_eq_true rfl⟩ rfl rfl rfl hl.1 rfl (Nat.le_of_ble_eq_true rfl) dL_law_957 ⟨Nat.le_of_ble_eq_true rfl, Nat.le_of_ble_eq_true rfl⟩ (fun r55 σ54 τ54 H locs h54 hP hS => ?_)
  obtain ⟨⟨rfl, rfl⟩, h54⟩ := h54
  refine lv_pop hx hb dL_law_960 rfl ?_
  refine lv_goto (tgt := 1357) hx hb dL_law_961 (by decide) ?_
  obtain ⟨x56, ex56⟩ : ∃ y : Int32, y = x0 + 6 := ⟨_, rfl⟩
  have tx56 : x56.toInt = x0.toInt + 6 := (jadd ex56 rfl jz_6 (by omega) (by omega)).trans (by omega)
  refine lv_iinc (v := x56) (lv' := [(3, .int x56), (2, .ref (ad 55)), (1, .ref (ad 0)), (0, .ref b)]) hx hb dL_law_1357 hl (k := 0) rfl (by rw [ex56]; rfl) (by decide) rfl (fun ls hl => ?_)
  refine lv_goto (tgt := 18) hx hb dL_law_1360 (by decide) ?_
  exact ih x56 σ τ _ _ ls (by have h9 := tx56; omega) ⟨hI2, hI9, hI12, hI16, hI18, hI22, hI31, hI38, hI43, hI47, hI50, hI0, hI26, hI101, hI102, hI103, hI104, hI105, hI106, hI107, hI109, hI110, hI111, hI119, hs_jKept, hs_jBook, hs_jNd12, hs_jN67, hs_jBl, hs_jKb, hs_jTR, hs_jKh, hs_jKg, (by omega), (by omega), (by omega), (by omega), (by omega), (by omega), (by omega), (by omega), (by omega), (by omega), (by omega), (by omega), (by omega), (by have h9 := tx56; omega), hr0, hr1, hr2, hr3, hr4, hr5, hr6, hr7, hr8, hr9, hr10, hr11, hr12⟩ hP hS (lv_sub hl [0, 1, 2, 3] rfl)
set_option maxHeartbeats 4000000 in
set_option maxRecDepth 100000 in
theorem law_case_26 {p : Program} {e : Env} {s : State} {m : MethodId} {below : List Frame} {meth : Method} {c : Code} (l : Launch) {b L : Nat} {xs : Nat → Int32} {D : va_G} {cI cL : ClassId} {ad zz : Nat → Nat} (C0 : lw_At p s m meth c b L xs) (hJ : jD ad) (hA : ∀ q, jA ad q → s.heap.size ≤ q) (hK : jK D cI cL s) (hZ : jZ zz (fun q : Nat => s.heap.size ≤ q) s s.heap) {x0 : Int32} (hx0 : 0 ≤ x0.toInt) (hxL : x0.toInt + 6 ≤ (L : Int)) (hL : L ≤ 384) {σ : Nat → Nat → Int32} {τ : Nat → Nat → Int64} {H : Heap} {locs : List Loc} (hS : va_S (fun q : Nat => s.heap.size ≤ q) s.heap H locs) {ls : Array Slot} (hAll : jAll x0.toInt σ τ) (hP : jH D cI cL ad σ τ H) (hl : lv_has ls 4 [(3, .int x0), (2, .ref (ad 55)), (1, .ref (ad 0)), (0, .ref b)]) (ih : ∀ (x1 : Int32) (σ : Nat → Nat → Int32) (τ : Nat → Nat → Int64) (H : Heap) (locs : List Loc) (ls : Array Slot), x1.toInt = x0.toInt + 6 → jAll x1.toInt σ τ → jH D cI cL ad σ τ H → va_S (fun q : Nat => s.heap.size ≤ q) s.heap H locs → lv_has ls 4 [(3, .int x1), (2, .ref (ad 55)), (1, .ref (ad 0)), (0, .ref b)] → W p l e room_1 s m #[Value.ref b] below meth c H locs 90 348600 (lw_Z below #[Value.ref b] s) (F0 m 18 ls [])) : W p l e room_1 s m #[Value.ref b] below meth c H locs 90 348600 (lw_Z below #[Value.ref b] s) (F0 m 964 ls []) := by
  obtain ⟨hx, hb, hr, hml, hown, hts0, hX, hbl, hlocks, hgv⟩ := C0
  have hts : ∀ w ∈ wsL_law, w.before #[Value.ref b] s = true := fun w h => hts0 w (wsL_law_in w h)
  have hbA : ¬ (fun q : Nat => s.heap.size ≤ q) b := Nat.not_le.mpr hbl
  have hown : s.vm.findClass RL = some m.cls := hown
  obtain ⟨hI2, hI9, hI12, hI16, hI18, hI22, hI31, hI38, hI43, hI47, hI50, hI0, hI26, hI101, hI102, hI103, hI104, hI105, hI106, hI107, hI109, hI110, hI111, hI119, hs_jKept, hs_jBook, hs_jNd12, hs_jN67, hs_jBl, hs_jKb, hs_jTR, hs_jKh, hs_jKg, ht0, ht1, ht2, ht3, ht4, ht5, ht6, ht7, ht8, ht9, ht10, ht11, ht12, ht13, hr0, hr1, hr2, hr3, hr4, hr5, hr6, hr7, hr8, hr9, hr10, hr11, hr12⟩ := hAll
  have hL9 : (L : Int) ≤ 384 := by omega
  obtain ⟨i1, i2, i3, i4, i5, w6⟩ : (0 ≤ (σ 2 0).toInt ∧ (σ 2 0).toInt ≤ 4) ∧ (0 ≤ (σ 2 1).toInt ∧ (σ 2 1).toInt ≤ 3) ∧ (0 ≤ (σ 2 2).toInt) ∧ (0 ≤ (σ 2 3).toInt) ∧ ((σ 2 2).toInt + (σ 2 3).toInt ≤ 40) ∧ (∀ k : Nat, k < 40 → 0 ≤ (σ 6 k).toInt ∧ (σ 6 k).toInt ≤ 67) := id hI2
  obtain ⟨i7, w8, w9⟩ : (0 ≤ (σ 9 0).toInt ∧ (σ 9 0).toInt ≤ 80) ∧ (∀ k : Nat, k < 80 → 0 ≤ (σ 10 k).toInt ∧ (σ 10 k).toInt ≤ 255) ∧ (∀ k : Nat, k < 8 → 0 ≤ (σ 11 k).toInt ∧ (σ 11 k).toInt ≤ 3) := id hI9
  obtain ⟨i10, i11, i12, w13⟩ : (1 ≤ (σ 16 0).toInt ∧ (σ 16 0).toInt ≤ 8) ∧ (1 ≤ (σ 16 1).toInt ∧ (σ 16 1).toInt ≤ 12) ∧ (0 ≤ (σ 16 2).toInt ∧ (σ 16 2).toInt ≤ 999) ∧ (∀ k : Nat, k < 8 → 0 ≤ (σ 17 k).toInt ∧ (σ 17 k).toInt ≤ 3) := id hI16
  obtain ⟨i14, i15, w16⟩ : (0 ≤ (σ 38 0).toInt ∧ (σ 38 0).toInt ≤ 20) ∧ (0 ≤ (σ 38 1).toInt ∧ (σ 38 1).toInt ≤ 1000) ∧ (∀ k : Nat, k < 20 → 0 ≤ (σ 39 k).toInt ∧ (σ 39 k).toInt ≤ 6) := id hI38
  obtain ⟨i17, w18, w19⟩ : (0 ≤ (σ 47 0).toInt ∧ (σ 47 0).toInt ≤ 12) ∧ (∀ k : Nat, k < 12 → 0 ≤ (σ 48 k).toInt ∧ (σ 48 k).toInt ≤ 3) ∧ (∀ k : Nat, k < 12 → 0 ≤ (σ 49 k).toInt ∧ (σ 49 k).toInt ≤ 1) := id hI47
  have w20 : ∀ k : Nat, k < 6 → 0 ≤ (σ 52 k).toInt ∧ (σ 52 k).toInt ≤ 60 := hI50
  have i21 : 1 ≤ (σ 26 6).toInt ∧ (σ 26 6).toInt ≤ 8000 := hI26
  obtain ⟨i22, i23, i24, w25, w26, w27, w28⟩ : (0 ≤ (σ 55 5).toInt) ∧ ((σ 55 5).toInt ≤ (σ 55 4).toInt) ∧ ((σ 55 4).toInt ≤ 40) ∧ (∀ k : Nat, k < 68 → (-200) ≤ (σ 56 k).toInt ∧ (σ 56 k).toInt ≤ 500) ∧ (∀ k : Nat, k < 40 → 0 ≤ (σ 57 k).toInt ∧ (σ 57 k).toInt ≤ 67) ∧ (∀ k : Nat, k < 40 → (-200) ≤ (σ 58 k).toInt ∧ (σ 58 k).toInt ≤ 500) ∧ (∀ k : Nat, k < 40 → (-200) ≤ (σ 59 k).toInt ∧ (σ 59 k).toInt ≤ 500) := id hI101
  obtain ⟨i29, w30, w31⟩ : (0 ≤ (σ 55 6).toInt ∧ (σ 55 6).toInt ≤ 4) ∧ (∀ k : Nat, k < 4 → 0 ≤ (σ 60 k).toInt ∧ (σ 60 k).toInt ≤ 50) ∧ (∀ k : Nat, k < 4 → 0 ≤ (σ 61 k).toInt ∧ (σ 61 k).toInt ≤ 20) := id hI102
  have i32 : 0 ≤ (σ 55 9).toInt ∧ (σ 55 9).toInt ≤ 3 := hI103
  obtain ⟨i33, i34, i35, w36, w37⟩ : (1 ≤ (σ 55 10).toInt ∧ (σ 55 10).toInt ≤ 8) ∧ (1 ≤ (σ 55 12).toInt ∧ (σ 55 12).toInt ≤ 12) ∧ (0 ≤ (σ 55 13).toInt ∧ (σ 55 13).toInt ≤ 999) ∧ (∀ k : Nat, k < 8 → 0 ≤ (σ 62 k).toInt ∧ (σ 62 k).toInt ≤ 3) ∧ (∀ k : Nat, k < 8 → 0 ≤ (σ 67 k).toInt ∧ (σ 67 k).toInt ≤ 3) := id hI104
  obtain ⟨i38, w39⟩ : (0 ≤ (σ 55 15).toInt ∧ (σ 55 15).toInt ≤ 80) ∧ (∀ k : Nat, k < 2 → (-1) ≤ (σ 65 k).toInt ∧ (σ 65 k).toInt ≤ 80) := id hI105
  obtain ⟨i40, w41, w42, w43⟩ : (0 ≤ (σ 55 32).toInt ∧ (σ 55 32).toInt ≤ 20) ∧ (∀ k : Nat, k < 20 → 0 ≤ (σ 70 k).toInt ∧ (σ 70 k).toInt ≤ 6) ∧ (∀ k : Nat, k < 20 → 0 ≤ (σ 71 k).toInt ∧ (σ 71 k).toInt ≤ 8) ∧ (∀ k : Nat, k < 160 → 0 ≤ (σ 72 k).toInt ∧ (σ 72 k).toInt ≤ 3) := id hI106
  obtain ⟨i44, i45, w46⟩ : (0 ≤ (σ 55 47).toInt ∧ (σ 55 47).toInt ≤ 12) ∧ ((σ 55 47).toInt ≤ (σ 55 12).toInt) ∧ (∀ k : Nat, k < 12 → 0 ≤ (σ 80 k).toInt ∧ (σ 80 k).toInt ≤ 3) := id hI107
  have hs_jOk3 : jOk3 σ := hr0.ok hr1.1
  refine lv_aload_n hx hb dL_law_964 rfl (lv_at hl 2 rfl) ?_
  refine jcallV (As := []) (rest := []) ⟨hx, hb, hml, hown, hts⟩ hK hP hA hS hZ (c_X11_undo l D cI cL ad zz hJ σ τ hI2) cw_RL_121 (jc_0 cI cL ad σ τ) rfl ⟨Nat.le_of_ble_eq_true rfl, Nat.le_of_ble_eq_true rfl⟩ rfl rfl rfl hl.1 rfl (Nat.le_of_ble_eq_true rfl) dL_law_965 ⟨Nat.le_of_ble_eq_true rfl, Nat.le_of_ble_eq_true rfl⟩ (fun r48 σ47 τ47 H locs h47 hP hS => ?_)
  obtain ⟨rfl, f49, f50, I51, h47⟩ := h47
  obtain ⟨i53, i54, i55, i56, i57, w58⟩ : (0 ≤ (σ47 2 0).toInt ∧ (σ47 2 0).toInt ≤ 4) ∧ (0 ≤ (σ47 2 1).toInt ∧ (σ47 2 1).toInt ≤ 3) ∧ (0 ≤ (σ47 2 2).toInt) ∧ (0 ≤ (σ47 2 3).toInt) ∧ ((σ47 2 2).toInt + (σ47 2 3).toInt ≤ 40) ∧ (∀ k : Nat, k < 40 → 0 ≤ (σ47 6 k).toInt ∧ (σ47 6 k).toInt ≤ 67) := id I51
  have z59 : (σ47 2 0).toInt = (σ 2 0).toInt := (congrArg Int32.toInt (show σ47 2 0 = (σ 2 0) from (f50 0 (by decide))))
  have z60 : (σ47 2 1).toInt = (σ 2 1).toInt := (congrArg Int32.toInt (show σ47 2 1 = (σ 2 1) from (f50 1 (by decide))))
  rcases h47 with h61 | h62
  · obtain ⟨q67, k63, k64, k65, k66⟩ := h61
    have q67 := q67.symm
    subst q67
    refine lv_pop hx hb dL_law_968 rfl ?_
    refine lv_aload_n hx hb dL_law_969 rfl (lv_at hl 1 rfl) ?_
    have I68 : jI101 σ47 := jI101_fr (congrFun (f49 55 (by decide)) 4) (congrFun (f49 55 (by decide)) 5) (f49 56 (by decide)) (f49 57 (by decide)) (f49 58 (by decide)) (f49 59 (by decide)) hI101
    have z69 : (σ47 55 5).toInt = (σ 55 5).toInt := (congrArg Int32.toInt (show σ47 55 5 = (σ 55 5) from (congrFun (f49 55 (by decide)) 5)))
    refine jcallV (As := []) (rest := []) ⟨hx, hb, hml, hown, hts⟩ hK hP hA hS hZ (c_X12_undo l D cI cL ad zz hJ σ47 τ I68) cw_RL_124 (jc_55 cI cL ad σ47 τ) rfl ⟨Nat.le_of_ble_eq_true rfl, Nat.le_of_ble_eq_true rfl⟩ rfl rfl rfl hl.1 rfl (Nat.le_of_ble_eq_true rfl) dL_law_970 ⟨Nat.le_of_ble_eq_true rfl, Nat.le_of_ble_eq_true rfl⟩ (fun r71 σ70 τ70 H locs h70 hP hS => ?_)
    obtain ⟨rfl, f72, f73, I74, h70⟩ := h70
    obtain ⟨i76, i77, i78, w79, w80, w81, w82⟩ : (0 ≤ (σ70 55 5).toInt) ∧ ((σ70 55 5).toInt ≤ (σ70 55 4).toInt) ∧ ((σ70 55 4).toInt ≤ 40) ∧ (∀ k : Nat, k < 68 → (-200) ≤ (σ70 56 k).toInt ∧ (σ70 56 k).toInt ≤ 500) ∧ (∀ k : Nat, k < 40 → 0 ≤ (σ70 57 k).toInt ∧ (σ70 57 k).toInt ≤ 67) ∧ (∀ k : Nat, k < 40 → (-200) ≤ (σ70 58 k).toInt ∧ (σ70 58 k).toInt ≤ 500) ∧ (∀ k : Nat, k < 40 → (-200) ≤ (σ70 59 k).toInt ∧ (σ70 59 k).toInt ≤ 500) := id I74
    have z83 : (σ70 55 4).toInt = (σ 55 4).toInt := (congrArg Int32.toInt (show σ70 55 4 = (σ 55 4) from ((f73 4 (by decide)).trans (congrFun (f49 55 (by decide)) 4))))
    rcases h70 with h84 | h85
    · obtain ⟨q89, k86, k87, k88⟩ := h84
      have q89 := q89.symm
      subst q89
      refine lv_pop hx hb dL_law_973 rfl ?_
      refine lv_goto (tgt := 1357) hx hb dL_law_974 (by decide) ?_
      obtain ⟨x90, ex90⟩ : ∃ y : Int32, y = x0 + 6 := ⟨_, rfl⟩
      have tx90 : x90.toInt = x0.toInt + 6 := (jadd ex90 rfl jz_6 (by omega) (by omega)).trans (by omega)
      refine lv_iinc (v := x90) (lv' := [(3, .int x90), (2, .ref (ad 55)), (1, .ref (ad 0)), (0, .ref b)]) hx hb dL_law_1357 hl (k := 0) rfl (by rw [ex90]; rfl) (by decide) rfl (fun ls hl => ?_)
      refine lv_goto (tgt := 18) hx hb dL_law_1360 (by decide) ?_
      have I91 : jI2 σ70 := jI2_fr (congrFun (f72 2 (by decide)) 0) (congrFun (f72 2 (by decide)) 1) (congrFun (f72 2 (by decide)) 2) (congrFun (f72 2 (by decide)) 3) (f72 6 (by decide)) I51
      have I92 : jI9 σ70 := jI9_fr ((congrFun (f72 9 (by decide)) 0).trans (congrFun (f49 9 (by decide)) 0)) ((f72 10 (by decide)).trans (f49 10 (by decide))) ((f72 11 (by decide)).trans (f49 11 (by decide))) hI9
      have I93 : jI12 σ70 := jI12_fr ((congrFun (f72 12 (by decide)) 0).trans (congrFun (f49 12 (by decide)) 0)) ((f72 13 (by decide)).trans (f49 13 (by decide))) hI12
      have I94 : jI16 σ70 := jI16_fr ((congrFun (f72 16 (by decide)) 0).trans (congrFun (f49 16 (by decide)) 0)) ((congrFun (f72 16 (by decide)) 1).trans (congrFun (f49 16 (by decide)) 1)) ((congrFun (f72 16 (by decide)) 2).trans (congrFun (f49 16 (by decide)) 2)) ((f72 17 (by decide)).trans (f49 17 (by decide))) hI16
      have I95 : jI18 σ70 := jI18_fr ((congrFun (f72 18 (by decide)) 0).trans (congrFun (f49 18 (by decide)) 0)) ((f72 19 (by decide)).trans (f49 19 (by decide))) hI18
      have I96 : jI22 σ70 := jI22_fr ((congrFun (f72 22 (by decide)) 0).trans (congrFun (f49 22 (by decide)) 0)) ((f72 23 (by decide)).trans (f49 23 (by decide))) hI22
      have I97 : jI31 σ70 := jI31_fr ((congrFun (f72 31 (by decide)) 8).trans (congrFun (f49 31 (by decide)) 8)) ((congrFun (f72 31 (by decide)) 10).trans (congrFun (f49 31 (by decide)) 10)) ((congrFun (f72 31 (by decide)) 11).trans (congrFun (f49 31 (by decide)) 11)) ((f72 33 (by decide)).trans (f49 33 (by decide))) ((f72 35 (by decide)).trans (f49 35 (by decide))) ((f72 36 (by decide)).trans (f49 36 (by decide))) hI31
      have I98 : jI38 σ70 := jI38_fr ((congrFun (f72 38 (by decide)) 0).trans (congrFun (f49 38 (by decide)) 0)) ((congrFun (f72 38 (by decide)) 1).trans (congrFun (f49 38 (by decide)) 1)) ((f72 39 (by decide)).trans (f49 39 (by decide))) hI38
      have I99 : jI43 σ70 := jI43_fr ((congrFun (f72 43 (by decide)) 8).trans (congrFun (f49 43 (by decide)) 8)) hI43
      have I100 : jI47 σ70 := jI47_fr ((congrFun (f72 47 (by decide)) 0).trans (congrFun (f49 47 (by decide)) 0)) ((f72 48 (by decide)).trans (f49 48 (by decide))) ((f72 49 (by decide)).trans (f49 49 (by decide))) hI47
      have I101 : jI50 σ70 := jI50_fr ((f72 52 (by decide)).trans (f49 52 (by decide))) hI50
      have I102 : jI0 σ70 := jI0_fr ((f72 1 (by decide)).trans (f49 1 (by decide))) hI0
      have I103 : jI26 σ70 := jI26_fr ((congrFun (f72 26 (by decide)) 6).trans (congrFun (f49 26 (by decide)) 6)) hI26
      have I104 : jI102 σ70 := jI102_fr ((f73 6 (by decide)).trans (congrFun (f49 55 (by decide)) 6)) ((f72 60 (by decide)).trans (f49 60 (by decide))) ((f72 61 (by decide)).trans (f49 61 (by decide))) hI102
      have I105 : jI103 σ70 := jI103_fr ((f73 9 (by decide)).trans (congrFun (f49 55 (by decide)) 9)) hI103
      have I106 : jI104 σ70 := jI104_fr ((f73 10 (by decide)).trans (congrFun (f49 55 (by decide)) 10)) ((f73 12 (by decide)).trans (congrFun (f49 55 (by decide)) 12)) ((f73 13 (by decide)).trans (congrFun (f49 55 (by decide)) 13)) ((f72 62 (by decide)).trans (f49 62 (by decide))) ((f72 67 (by decide)).trans (f49 67 (by decide))) hI104
      have I107 : jI105 σ70 := jI105_fr ((f73 15 (by decide)).trans (congrFun (f49 55 (by decide)) 15)) ((f72 65 (by decide)).trans (f49 65 (by decide))) hI105
      have I108 : jI106 σ70 := jI106_fr ((f73 32 (by decide)).trans (congrFun (f49 55 (by decide)) 32)) ((f72 70 (by decide)).trans (f49 70 (by decide))) ((f72 71 (by decide)).trans (f49 71 (by decide))) ((f72 72 (by decide)).trans (f49 72 (by decide))) hI106
      have I109 : jI107 σ70 := jI107_fr ((f73 12 (by decide)).trans (congrFun (f49 55 (by decide)) 12)) ((f73 47 (by decide)).trans (congrFun (f49 55 (by decide)) 47)) ((f72 80 (by decide)).trans (f49 80 (by decide))) hI107
      have I110 : jI109 σ70 := jI109_fr ((f73 50 (by decide)).trans (congrFun (f49 55 (by decide)) 50)) hI109
      have I111 : jI110 σ70 := jI110_fr ((f72 86 (by decide)).trans (f49 86 (by decide))) ((f72 87 (by decide)).trans (f49 87 (by decide))) hI110
      have I112 : jI111 σ70 := jI111_fr ((f72 79 (by decide)).trans (f49 79 (by decide))) hI111
      have I113 : jI119 σ70 := jI119_fr ((f72 68 (by decide)).trans (f49 68 (by decide))) hI119
      have p114 : jKept σ70 := jKept.fr ((f72 75 (by decide)).trans (f49 75 (by decide))) ((f72 76 (by decide)).trans (f49 76 (by decide))) ((f72 77 (by decide)).trans (f49 77 (by decide))) hs_jKept
      have p115 : jBook σ70 := jBook.fr ((f73 47 (by decide)).trans (congrFun (f49 55 (by decide)) 47)) ((f73 10 (by decide)).trans (congrFun (f49 55 (by decide)) 10)) ((f72 81 (by decide)).trans (f49 81 (by decide))) hs_jBook
      have p116 : jNd12 σ70 := jNd12.fr ((congrFun (f72 12 (by decide)) 0).trans (congrFun (f49 12 (by decide)) 0)) ((congrFun (f72 12 (by decide)) 1).trans (congrFun (f49 12 (by decide)) 1)) ((f72 13 (by decide)).trans (f49 13 (by decide))) hs_jNd12
      have p117 : jN67 σ70 := jN67.fr ((f72 24 (by decide)).trans (f49 24 (by decide))) hs_jN67
      have p118 : jBl σ70 := jBl.fr ((congrFun (f72 22 (by decide)) 0).trans (congrFun (f49 22 (by decide)) 0)) ((congrFun (f72 22 (by decide)) 1).trans (congrFun (f49 22 (by decide)) 1)) ((f72 23 (by decide)).trans (f49 23 (by decide))) ((congrFun (f72 26 (by decide)) 6).trans (congrFun (f49 26 (by decide)) 6)) ((congrFun (f72 26 (by decide)) 7).trans (congrFun (f49 26 (by decide)) 7)) ((f72 29 (by decide)).trans (f49 29 (by decide))) ((f72 30 (by decide)).trans (f49 30 (by decide))) hs_jBl
      have p119 : jKb σ70 := jKb.fr ((congrFun (f72 31 (by decide)) 8).trans (congrFun (f49 31 (by decide)) 8)) ((congrFun (f72 31 (by decide)) 11).trans (congrFun (f49 31 (by decide)) 11)) ((f72 32 (by decide)).trans (f49 32 (by decide))) hs_jKb
      have p120 : jTR σ70 := jTR.fr ((f72 64 (by decide)).trans (f49 64 (by decide))) ((f72 65 (by decide)).trans (f49 65 (by decide))) hs_jTR
      have p121 : jKh σ70 := jKh.fr ((congrFun (f72 31 (by decide)) 8).trans (congrFun (f49 31 (by decide)) 8)) ((f72 32 (by decide)).trans (f49 32 (by decide))) ((f72 36 (by decide)).trans (f49 36 (by decide))) ((f72 37 (by decide)).trans (f49 37 (by decide))) hs_jKh
      have p122 : jKg σ70 := jKg.fr ((congrFun (f72 31 (by decide)) 8).trans (congrFun (f49 31 (by decide)) 8)) ((congrFun (f72 31 (by decide)) 9).trans (congrFun (f49 31 (by decide)) 9)) ((congrFun (f72 31 (by decide)) 11).trans (congrFun (f49 31 (by decide)) 11)) ((congrFun (f72 31 (by decide)) 12).trans (congrFun (f49 31 (by decide)) 12)) ((f72 32 (by decide)).trans (f49 32 (by decide))) ((f72 33 (by decide)).trans (f49 33 (by decide))) hs_jKg
      have z123 : (σ70 2 0).toInt = (σ 2 0).toInt := (congrArg Int32.toInt (show σ70 2 0 = (σ 2 0) from ((congrFun (f72 2 (by decide)) 0).trans (f50 0 (by decide)))))
      have z124 : (σ70 55 6).toInt = (σ 55 6).toInt := (congrArg Int32.toInt (show σ70 55 6 = (σ 55 6) from ((f73 6 (by decide)).trans (congrFun (f49 55 (by decide)) 6))))
      have z125 : (σ70 2 2).toInt = (σ47 2 2).toInt := (congrArg Int32.toInt (show σ70 2 2 = (σ47 2 2) from (congrFun (f72 2 (by decide)) 2)))
      have z126 : (σ70 2 3).toInt = (σ47 2 3).toInt := (congrArg Int32.toInt (show σ70 2 3 = (σ47 2 3) from (congrFun (f72 2 (by decide)) 3)))
      have z127 : (σ70 9 0).toInt = (σ 9 0).toInt := (congrArg Int32.toInt (show σ70 9 0 = (σ 9 0) from ((congrFun (f72 9 (by decide)) 0).trans (congrFun (f49 9 (by decide)) 0))))
      have z128 : (σ70 55 15).toInt = (σ 55 15).toInt := (congrArg Int32.toInt (show σ70 55 15 = (σ 55 15) from ((f73 15 (by decide)).trans (congrFun (f49 55 (by decide)) 15))))
      have z129 : (σ70 16 0).toInt = (σ 16 0).toInt := (congrArg Int32.toInt (show σ70 16 0 = (σ 16 0) from ((congrFun (f72 16 (by decide)) 0).trans (congrFun (f49 16 (by decide)) 0))))
      have z130 : (σ70 55 10).toInt = (σ 55 10).toInt := (congrArg Int32.toInt (show σ70 55 10 = (σ 55 10) from ((f73 10 (by decide)).trans (congrFun (f49 55 (by decide)) 10))))
      have z131 : (σ70 16 1).toInt = (σ 16 1).toInt := (congrArg Int32.toInt (show σ70 16 1 = (σ 16 1) from ((congrFun (f72 16 (by decide)) 1).trans (congrFun (f49 16 (by decide)) 1))))
      have z132 : (σ70 55 12).toInt = (σ 55 12).toInt := (congrArg Int32.toInt (show σ70 55 12 = (σ 55 12) from ((f73 12 (by decide)).trans (congrFun (f49 55 (by decide)) 12))))
      have z133 : (σ70 16 2).toInt = (σ 16 2).toInt := (congrArg Int32.toInt (show σ70 16 2 = (σ 16 2) from ((congrFun (f72 16 (by decide)) 2).trans (congrFun (f49 16 (by decide)) 2))))
      have z134 : (σ70 55 13).toInt = (σ 55 13).toInt := (congrArg Int32.toInt (show σ70 55 13 = (σ 55 13) from ((f73 13 (by decide)).trans (congrFun (f49 55 (by decide)) 13))))
      have z135 : (σ70 38 0).toInt = (σ 38 0).toInt := (congrArg Int32.toInt (show σ70 38 0 = (σ 38 0) from ((congrFun (f72 38 (by decide)) 0).trans (congrFun (f49 38 (by decide)) 0))))
      have z136 : (σ70 55 32).toInt = (σ 55 32).toInt := (congrArg Int32.toInt (show σ70 55 32 = (σ 55 32) from ((f73 32 (by decide)).trans (congrFun (f49 55 (by decide)) 32))))
      have z137 : (σ70 38 1).toInt = (σ 38 1).toInt := (congrArg Int32.toInt (show σ70 38 1 = (σ 38 1) from ((congrFun (f72 38 (by decide)) 1).trans (congrFun (f49 38 (by decide)) 1))))
      have z138 : (σ70 55 55).toInt = (σ 55 55).toInt := (congrArg Int32.toInt (show σ70 55 55 = (σ 55 55) from ((f73 55 (by decide)).trans (congrFun (f49 55 (by decide)) 55))))
      have z139 : (σ70 47 0).toInt = (σ 47 0).toInt := (congrArg Int32.toInt (show σ70 47 0 = (σ 47 0) from ((congrFun (f72 47 (by decide)) 0).trans (congrFun (f49 47 (by decide)) 0))))
      have z140 : (σ70 55 47).toInt = (σ 55 47).toInt := (congrArg Int32.toInt (show σ70 55 47 = (σ 55 47) from ((f73 47 (by decide)).trans (congrFun (f49 55 (by decide)) 47))))
      have z141 : (σ70 55 30).toInt = (σ 55 30).toInt := (congrArg Int32.toInt (show σ70 55 30 = (σ 55 30) from ((f73 30 (by decide)).trans (congrFun (f49 55 (by decide)) 30))))
      have z142 : (σ70 55 31).toInt = (σ 55 31).toInt := (congrArg Int32.toInt (show σ70 55 31 = (σ 55 31) from ((f73 31 (by decide)).trans (congrFun (f49 55 (by decide)) 31))))
      have z143 : (σ70 2 1).toInt = (σ 2 1).toInt := (congrArg Int32.toInt (show σ70 2 1 = (σ 2 1) from ((congrFun (f72 2 (by decide)) 1).trans (f50 1 (by decide)))))
      have z144 : (σ70 55 9).toInt = (σ 55 9).toInt := (congrArg Int32.toInt (show σ70 55 9 = (σ 55 9) from ((f73 9 (by decide)).trans (congrFun (f49 55 (by decide)) 9))))
      have z145 : (σ70 26 6).toInt = (σ 26 6).toInt := (congrArg Int32.toInt (show σ70 26 6 = (σ 26 6) from ((congrFun (f72 26 (by decide)) 6).trans (congrFun (f49 26 (by decide)) 6))))
      have z147 : (σ70 18 0).toInt = (σ 18 0).toInt := (congrArg Int32.toInt (show σ70 18 0 = (σ 18 0) from ((congrFun (f72 18 (by decide)) 0).trans (congrFun (f49 18 (by decide)) 0))))
      have z148 : (σ70 22 0).toInt = (σ 22 0).toInt := (congrArg Int32.toInt (show σ70 22 0 = (σ 22 0) from ((congrFun (f72 22 (by decide)) 0).trans (congrFun (f49 22 (by decide)) 0))))
      exact ih x90 σ70 τ _ _ ls (by have h9 := tx90; omega) ⟨I91, I92, I93, I94, I95, I96, I97, I98, I99, I100, I101, I102, I103, I74, I104, I105, I106, I107, I108, I109, I110, I111, I112, I113, p114, p115, p116, p117, p118, p119, p120, p121, p122, (by omega), (by omega), (by omega), (by omega), (by omega), (by omega), (by omega), (by omega), (by omega), (by omega), (by omega), (by omega), (by omega), (by have h9 := tx90; omega), (show jNumP (σ70 3) (σ70 56) (σ70 6) (σ70 57) (σ70 7) (σ70 58) (σ70 8) (σ70 59) (σ70 55 6).toInt (σ70 55 4).toInt by rw [show σ70 3 = σ 3 from ((f72 3 (by decide)).trans k66), show σ70 56 = σ 56 from (k88.trans (f49 56 (by decide))), show σ70 6 = σ 6 from ((f72 6 (by decide)).trans (f49 6 (by decide))), show σ70 57 = σ 57 from ((f72 57 (by decide)).trans (f49 57 (by decide))), show σ70 7 = σ 7 from ((f72 7 (by decide)).trans (f49 7 (by decide))), show σ70 58 = σ 58 from ((f72 58 (by decide)).trans (f49 58 (by decide))), show σ70 8 = σ 8 from ((f72 8 (by decide)).trans (f49 8 (by decide))), show σ70 59 = σ 59 from ((f72 59 (by decide)).trans (f49 59 (by decide))), show (σ70 55 6).toInt = (σ 55 6).toInt from by omega, show (σ70 55 4).toInt = (σ 55 4).toInt from by omega]; exact hr0), (show jOvP (σ70 56) (σ70 57) (σ70 58) (σ70 59) (σ70 55 4).toInt by rw [show σ70 56 = σ 56 from (k88.trans (f49 56 (by decide))), show σ70 57 = σ 57 from ((f72 57 (by decide)).trans (f49 57 (by decide))), show σ70 58 = σ 58 from ((f72 58 (by decide)).trans (f49 58 (by decide))), show σ70 59 = σ 59 from ((f72 59 (by decide)).trans (f49 59 (by decide))), show (σ70 55 4).toInt = (σ 55 4).toInt from by omega]; exact hr1), (show jTp (σ70 10) (σ70 63) (σ70 55 15).toInt by rw [show σ70 10 = σ 10 from ((f72 10 (by decide)).trans (f49 10 (by decide))), show σ70 63 = σ 63 from ((f72 63 (by decide)).trans (f49 63 (by decide)))]; exact hr2.le (by omega)), (show jSo (σ70 17) (σ70 62) (σ70 16 0).toInt by rw [show σ70 17 = σ 17 from ((f72 17 (by decide)).trans (f49 17 (by decide))), show σ70 62 = σ 62 from ((f72 62 (by decide)).trans (f49 62 (by decide))), show (σ70 16 0).toInt = (σ 16 0).toInt from by omega]; exact hr3), (show jShP (σ70 51) (σ70 52) (σ70 53) (σ70 86) (σ70 87) (σ70 55 32).toInt by rw [show σ70 51 = σ 51 from ((f72 51 (by decide)).trans (f49 51 (by decide))), show σ70 52 = σ 52 from ((f72 52 (by decide)).trans (f49 52 (by decide))), show σ70 53 = σ 53 from ((f72 53 (by decide)).trans (f49 53 (by decide))), show σ70 86 = σ 86 from ((f72 86 (by decide)).trans (f49 86 (by decide))), show σ70 87 = σ 87 from ((f72 87 (by decide)).trans (f49 87 (by decide)))]; exact (hr4.up (by omega) (by omega))), (show jEl (σ70 51) (σ70 52) (τ 54) (τ 88) by rw [show σ70 51 = σ 51 from ((f72 51 (by decide)).trans (f49 51 (by decide))), show σ70 52 = σ 52 from ((f72 52 (by decide)).trans (f49 52 (by decide)))]; exact hr5), (show jByP (σ70 51) (σ70 52) (τ 54) by rw [show σ70 51 = σ 51 from ((f72 51 (by decide)).trans (f49 51 (by decide))), show σ70 52 = σ 52 from ((f72 52 (by decide)).trans (f49 52 (by decide)))]; exact hr6), (show jBk (σ70 48) (σ70 80) (σ70 49) (σ70 81) (σ70 55 47).toInt by rw [show σ70 48 = σ 48 from ((f72 48 (by decide)).trans (f49 48 (by decide))), show σ70 49 = σ 49 from ((f72 49 (by decide)).trans (f49 49 (by decide))), show σ70 80 = σ 80 from ((f72 80 (by decide)).trans (f49 80 (by decide))), show σ70 81 = σ 81 from ((f72 81 (by decide)).trans (f49 81 (by decide))), show (σ70 55 47).toInt = (σ 55 47).toInt from by omega]; exact hr7), (show jKd (σ70 39) (σ70 70) (σ70 55 32).toInt by rw [show σ70 39 = σ 39 from ((f72 39 (by decide)).trans (f49 39 (by decide))), show σ70 70 = σ 70 from ((f72 70 (by decide)).trans (f49 70 (by decide))), show (σ70 55 32).toInt = (σ 55 32).toInt from by omega]; exact hr8), (show jTt (σ70 42) (σ70 85) (σ70 55 55).toInt by rw [show σ70 42 = σ 42 from ((f72 42 (by decide)).trans (f49 42 (by decide))), show σ70 85 = σ 85 from ((f72 85 (by decide)).trans (f49 85 (by decide))), show (σ70 55 55).toInt = (σ 55 55).toInt from by omega]; exact hr9), (fun k hk => by rw [show σ70 4 = σ 4 from ((f72 4 (by decide)).trans (f49 4 (by decide))), show σ70 5 = σ 5 from ((f72 5 (by decide)).trans (f49 5 (by decide))), show σ70 60 = σ 60 from ((f72 60 (by decide)).trans (f49 60 (by decide))), show σ70 61 = σ 61 from ((f72 61 (by decide)).trans (f49 61 (by decide)))]; exact hr10 k (by omega)), (fun nm => by rw [show σ70 19 = σ 19 from ((f72 19 (by decide)).trans (f49 19 (by decide))), show σ70 64 = σ 64 from ((f72 64 (by decide)).trans (f49 64 (by decide))), show σ70 65 = σ 65 from ((f72 65 (by decide)).trans (f49 65 (by decide))), show (σ70 18 0).toInt = (σ 18 0).toInt from by omega]; exact hr11 nm), (fun nm => by rw [show σ70 23 = σ 23 from ((f72 23 (by decide)).trans (f49 23 (by decide))), show σ70 64 = σ 64 from ((f72 64 (by decide)).trans (f49 64 (by decide))), show σ70 65 = σ 65 from ((f72 65 (by decide)).trans (f49 65 (by decide))), show (σ70 22 0).toInt = (σ 22 0).toInt from by omega]; exact hr12 nm)⟩ hP hS (lv_sub hl [0, 1, 2, 3] rfl)
    · obtain ⟨q154, k149, k150, k151, k152, k153⟩ := h85
      exact absurd (by omega : False) id
  · obtain ⟨q161, k155, k156, k157, k158, k159, k160⟩ := h62
    refine lv_pop hx hb dL_law_968 rfl ?_
    refine lv_aload_n hx hb dL_law_969 rfl (lv_at hl 1 rfl) ?_
    have I162 : jI101 σ47 := jI101_fr (congrFun (f49 55 (by decide)) 4) (congrFun (f49 55 (by decide)) 5) (f49 56 (by decide)) (f49 57 (by decide)) (f49 58 (by decide)) (f49 59 (by decide)) hI101
    have z163 : (σ47 55 5).toInt = (σ 55 5).toInt := (congrArg Int32.toInt (show σ47 55 5 = (σ 55 5) from (congrFun (f49 55 (by decide)) 5)))
    refine jcallV (As := []) (rest := []) ⟨hx, hb, hml, hown, hts⟩ hK hP hA hS hZ (c_X12_undo l D cI cL ad zz hJ σ47 τ I162) cw_RL_124 (jc_55 cI cL ad σ47 τ) rfl ⟨Nat.le_of_ble_eq_true rfl, Nat.le_of_ble_eq_true rfl⟩ rfl rfl rfl hl.1 rfl (Nat.le_of_ble_eq_true rfl) dL_law_970 ⟨Nat.le_of_ble_eq_true rfl, Nat.le_of_ble_eq_true rfl⟩ (fun r165 σ164 τ164 H locs h164 hP hS => ?_)
    obtain ⟨rfl, f166, f167, I168, h164⟩ := h164
    obtain ⟨i170, i171, i172, w173, w174, w175, w176⟩ : (0 ≤ (σ164 55 5).toInt) ∧ ((σ164 55 5).toInt ≤ (σ164 55 4).toInt) ∧ ((σ164 55 4).toInt ≤ 40) ∧ (∀ k : Nat, k < 68 → (-200) ≤ (σ164 56 k).toInt ∧ (σ164 56 k).toInt ≤ 500) ∧ (∀ k : Nat, k < 40 → 0 ≤ (σ164 57 k).toInt ∧ (σ164 57 k).toInt ≤ 67) ∧ (∀ k : Nat, k < 40 → (-200) ≤ (σ164 58 k).toInt ∧ (σ164 58 k).toInt ≤ 500) ∧ (∀ k : Nat, k < 40 → (-200) ≤ (σ164 59 k).toInt ∧ (σ164 59 k).toInt ≤ 500) := id I168
    have z177 : (σ164 55 4).toInt = (σ 55 4).toInt := (congrArg Int32.toInt (show σ164 55 4 = (σ 55 4) from ((f167 4 (by decide)).trans (congrFun (f49 55 (by decide)) 4))))
    rcases h164 with h178 | h179
    · obtain ⟨q183, k180, k181, k182⟩ := h178
      exact absurd (by omega : False) id
    · obtain ⟨q189, k184, k185, k186, k187, k188⟩ := h179
      refine lv_pop hx hb dL_law_973 rfl ?_
      refine lv_goto (tgt := 1357) hx hb dL_law_974 (by decide) ?_
      obtain ⟨x190, ex190⟩ : ∃ y : Int32, y = x0 + 6 := ⟨_, rfl⟩
      have tx190 : x190.toInt = x0.toInt + 6 := (jadd ex190 rfl jz_6 (by omega) (by omega)).trans (by omega)
      refine lv_iinc (v := x190) (lv' := [(3, .int x190), (2, .ref (ad 55)), (1, .ref (ad 0)), (0, .ref b)]) hx hb dL_law_1357 hl (k := 0) rfl (by rw [ex190]; rfl) (by decide) rfl (fun ls hl => ?_)
      refine lv_goto (tgt := 18) hx hb dL_law_1360 (by decide) ?_
      have I191 : jI2 σ164 := jI2_fr (congrFun (f166 2 (by decide)) 0) (congrFun (f166 2 (by decide)) 1) (congrFun (f166 2 (by decide)) 2) (congrFun (f166 2 (by decide)) 3) (f166 6 (by decide)) I51
      have I192 : jI9 σ164 := jI9_fr ((congrFun (f166 9 (by decide)) 0).trans (congrFun (f49 9 (by decide)) 0)) ((f166 10 (by decide)).trans (f49 10 (by decide))) ((f166 11 (by decide)).trans (f49 11 (by decide))) hI9
      have I193 : jI12 σ164 := jI12_fr ((congrFun (f166 12 (by decide)) 0).trans (congrFun (f49 12 (by decide)) 0)) ((f166 13 (by decide)).trans (f49 13 (by decide))) hI12
      have I194 : jI16 σ164 := jI16_fr ((congrFun (f166 16 (by decide)) 0).trans (congrFun (f49 16 (by decide)) 0)) ((congrFun (f166 16 (by decide)) 1).trans (congrFun (f49 16 (by decide)) 1)) ((congrFun (f166 16 (by decide)) 2).trans (congrFun (f49 16 (by decide)) 2)) ((f166 17 (by decide)).trans (f49 17 (by decide))) hI16
      have I195 : jI18 σ164 := jI18_fr ((congrFun (f166 18 (by decide)) 0).trans (congrFun (f49 18 (by decide)) 0)) ((f166 19 (by decide)).trans (f49 19 (by decide))) hI18
      have I196 : jI22 σ164 := jI22_fr ((congrFun (f166 22 (by decide)) 0).trans (congrFun (f49 22 (by decide)) 0)) ((f166 23 (by decide)).trans (f49 23 (by decide))) hI22
      have I197 : jI31 σ164 := jI31_fr ((congrFun (f166 31 (by decide)) 8).trans (congrFun (f49 31 (by decide)) 8)) ((congrFun (f166 31 (by decide)) 10).trans (congrFun (f49 31 (by decide)) 10)) ((congrFun (f166 31 (by decide)) 11).trans (congrFun (f49 31 (by decide)) 11)) ((f166 33 (by decide)).trans (f49 33 (by decide))) ((f166 35 (by decide)).trans (f49 35 (by decide))) ((f166 36 (by decide)).trans (f49 36 (by decide))) hI31
      have I198 : jI38 σ164 := jI38_fr ((congrFun (f166 38 (by decide)) 0).trans (congrFun (f49 38 (by decide)) 0)) ((congrFun (f166 38 (by decide)) 1).trans (congrFun (f49 38 (by decide)) 1)) ((f166 39 (by decide)).trans (f49 39 (by decide))) hI38
      have I199 : jI43 σ164 := jI43_fr ((congrFun (f166 43 (by decide)) 8).trans (congrFun (f49 43 (by decide)) 8)) hI43
      have I200 : jI47 σ164 := jI47_fr ((congrFun (f166 47 (by decide)) 0).trans (congrFun (f49 47 (by decide)) 0)) ((f166 48 (by decide)).trans (f49 48 (by decide))) ((f166 49 (by decide)).trans (f49 49 (by decide))) hI47
      have I201 : jI50 σ164 := jI50_fr ((f166 52 (by decide)).trans (f49 52 (by decide))) hI50
      have I202 : jI0 σ164 := jI0_fr ((f166 1 (by decide)).trans (f49 1 (by decide))) hI0
      have I203 : jI26 σ164 := jI26_fr ((congrFun (f166 26 (by decide)) 6).trans (congrFun (f49 26 (by decide)) 6)) hI26
      have I204 : jI102 σ164 := jI102_fr ((f167 6 (by decide)).trans (congrFun (f49 55 (by decide)) 6)) ((f166 60 (by decide)).trans (f49 60 (by decide))) ((f166 61 (by decide)).trans (f49 61 (by decide))) hI102
      have I205 : jI103 σ164 := jI103_fr ((f167 9 (by decide)).trans (congrFun (f49 55 (by decide)) 9)) hI103
      have I206 : jI104 σ164 := jI104_fr ((f167 10 (by decide)).trans (congrFun (f49 55 (by decide)) 10)) ((f167 12 (by decide)).trans (congrFun (f49 55 (by decide)) 12)) ((f167 13 (by decide)).trans (congrFun (f49 55 (by decide)) 13)) ((f166 62 (by decide)).trans (f49 62 (by decide))) ((f166 67 (by decide)).trans (f49 67 (by decide))) hI104
      have I207 : jI105 σ164 := jI105_fr ((f167 15 (by decide)).trans (congrFun (f49 55 (by decide)) 15)) ((f166 65 (by decide)).trans (f49 65 (by decide))) hI105
      have I208 : jI106 σ164 := jI106_fr ((f167 32 (by decide)).trans (congrFun (f49 55 (by decide)) 32)) ((f166 70 (by decide)).trans (f49 70 (by decide))) ((f166 71 (by decide)).trans (f49 71 (by decide))) ((f166 72 (by decide)).trans (f49 72 (by decide))) hI106
      have I209 : jI107 σ164 := jI107_fr ((f167 12 (by decide)).trans (congrFun (f49 55 (by decide)) 12)) ((f167 47 (by decide)).trans (congrFun (f49 55 (by decide)) 47)) ((f166 80 (by decide)).trans (f49 80 (by decide))) hI107
      have I210 : jI109 σ164 := jI109_fr ((f167 50 (by decide)).trans (congrFun (f49 55 (by decide)) 50)) hI109
      have I211 : jI110 σ164 := jI110_fr ((f166 86 (by decide)).trans (f49 86 (by decide))) ((f166 87 (by decide)).trans (f49 87 (by decide))) hI110
      have I212 : jI111 σ164 := jI111_fr ((f166 79 (by decide)).trans (f49 79 (by decide))) hI111
      have I213 : jI119 σ164 := jI119_fr ((f166 68 (by decide)).trans (f49 68 (by decide))) hI119
      have p214 : jKept σ164 := jKept.fr ((f166 75 (by decide)).trans (f49 75 (by decide))) ((f166 76 (by decide)).trans (f49 76 (by decide))) ((f166 77 (by decide)).trans (f49 77 (by decide))) hs_jKept
      have p215 : jBook σ164 := jBook.fr ((f167 47 (by decide)).trans (congrFun (f49 55 (by decide)) 47)) ((f167 10 (by decide)).trans (congrFun (f49 55 (by decide)) 10)) ((f166 81 (by decide)).trans (f49 81 (by decide))) hs_jBook
      have p216 : jNd12 σ164 := jNd12.fr ((congrFun (f166 12 (by decide)) 0).trans (congrFun (f49 12 (by decide)) 0)) ((congrFun (f166 12 (by decide)) 1).trans (congrFun (f49 12 (by decide)) 1)) ((f166 13 (by decide)).trans (f49 13 (by decide))) hs_jNd12
      have p217 : jN67 σ164 := jN67.fr ((f166 24 (by decide)).trans (f49 24 (by decide))) hs_jN67
      have p218 : jBl σ164 := jBl.fr ((congrFun (f166 22 (by decide)) 0).trans (congrFun (f49 22 (by decide)) 0)) ((congrFun (f166 22 (by decide)) 1).trans (congrFun (f49 22 (by decide)) 1)) ((f166 23 (by decide)).trans (f49 23 (by decide))) ((congrFun (f166 26 (by decide)) 6).trans (congrFun (f49 26 (by decide)) 6)) ((congrFun (f166 26 (by decide)) 7).trans (congrFun (f49 26 (by decide)) 7)) ((f166 29 (by decide)).trans (f49 29 (by decide))) ((f166 30 (by decide)).trans (f49 30 (by decide))) hs_jBl
      have p219 : jKb σ164 := jKb.fr ((congrFun (f166 31 (by decide)) 8).trans (congrFun (f49 31 (by decide)) 8)) ((congrFun (f166 31 (by decide)) 11).trans (congrFun (f49 31 (by decide)) 11)) ((f166 32 (by decide)).trans (f49 32 (by decide))) hs_jKb
      have p220 : jTR σ164 := jTR.fr ((f166 64 (by decide)).trans (f49 64 (by decide))) ((f166 65 (by decide)).trans (f49 65 (by decide))) hs_jTR
      have p221 : jKh σ164 := jKh.fr ((congrFun (f166 31 (by decide)) 8).trans (congrFun (f49 31 (by decide)) 8)) ((f166 32 (by decide)).trans (f49 32 (by decide))) ((f166 36 (by decide)).trans (f49 36 (by decide))) ((f166 37 (by decide)).trans (f49 37 (by decide))) hs_jKh
      have p222 : jKg σ164 := jKg.fr ((congrFun (f166 31 (by decide)) 8).trans (congrFun (f49 31 (by decide)) 8)) ((congrFun (f166 31 (by decide)) 9).trans (congrFun (f49 31 (by decide)) 9)) ((congrFun (f166 31 (by decide)) 11).trans (congrFun (f49 31 (by decide)) 11)) ((congrFun (f166 31 (by decide)) 12).trans (congrFun (f49 31 (by decide)) 12)) ((f166 32 (by decide)).trans (f49 32 (by decide))) ((f166 33 (by decide)).trans (f49 33 (by decide))) hs_jKg
      have z223 : (σ164 2 0).toInt = (σ 2 0).toInt := (congrArg Int32.toInt (show σ164 2 0 = (σ 2 0) from ((congrFun (f166 2 (by decide)) 0).trans (f50 0 (by decide)))))
      have z224 : (σ164 55 6).toInt = (σ 55 6).toInt := (congrArg Int32.toInt (show σ164 55 6 = (σ 55 6) from ((f167 6 (by decide)).trans (congrFun (f49 55 (by decide)) 6))))
      have z225 : (σ164 2 2).toInt = (σ47 2 2).toInt := (congrArg Int32.toInt (show σ164 2 2 = (σ47 2 2) from (congrFun (f166 2 (by decide)) 2)))
      have z226 : (σ164 2 3).toInt = (σ47 2 3).toInt := (congrArg Int32.toInt (show σ164 2 3 = (σ47 2 3) from (congrFun (f166 2 (by decide)) 3)))
      have z227 : (σ164 9 0).toInt = (σ 9 0).toInt := (congrArg Int32.toInt (show σ164 9 0 = (σ 9 0) from ((congrFun (f166 9 (by decide)) 0).trans (congrFun (f49 9 (by decide)) 0))))
      have z228 : (σ164 55 15).toInt = (σ 55 15).toInt := (congrArg Int32.toInt (show σ164 55 15 = (σ 55 15) from ((f167 15 (by decide)).trans (congrFun (f49 55 (by decide)) 15))))
      have z229 : (σ164 16 0).toInt = (σ 16 0).toInt := (congrArg Int32.toInt (show σ164 16 0 = (σ 16 0) from ((congrFun (f166 16 (by decide)) 0).trans (congrFun (f49 16 (by decide)) 0))))
      have z230 : (σ164 55 10).toInt = (σ 55 10).toInt := (congrArg Int32.toInt (show σ164 55 10 = (σ 55 10) from ((f167 10 (by decide)).trans (congrFun (f49 55 (by decide)) 10))))
      have z231 : (σ164 16 1).toInt = (σ 16 1).toInt := (congrArg Int32.toInt (show σ164 16 1 = (σ 16 1) from ((congrFun (f166 16 (by decide)) 1).trans (congrFun (f49 16 (by decide)) 1))))
      have z232 : (σ164 55 12).toInt = (σ 55 12).toInt := (congrArg Int32.toInt (show σ164 55 12 = (σ 55 12) from ((f167 12 (by decide)).trans (congrFun (f49 55 (by decide)) 12))))
      have z233 : (σ164 16 2).toInt = (σ 16 2).toInt := (congrArg Int32.toInt (show σ164 16 2 = (σ 16 2) from ((congrFun (f166 16 (by decide)) 2).trans (congrFun (f49 16 (by decide)) 2))))
      have z234 : (σ164 55 13).toInt = (σ 55 13).toInt := (congrArg Int32.toInt (show σ164 55 13 = (σ 55 13) from ((f167 13 (by decide)).trans (congrFun (f49 55 (by decide)) 13))))
      have z235 : (σ164 38 0).toInt = (σ 38 0).toInt := (congrArg Int32.toInt (show σ164 38 0 = (σ 38 0) from ((congrFun (f166 38 (by decide)) 0).trans (congrFun (f49 38 (by decide)) 0))))
      have z236 : (σ164 55 32).toInt = (σ 55 32).toInt := (congrArg Int32.toInt (show σ164 55 32 = (σ 55 32) from ((f167 32 (by decide)).trans (congrFun (f49 55 (by decide)) 32))))
      have z237 : (σ164 38 1).toInt = (σ 38 1).toInt := (congrArg Int32.toInt (show σ164 38 1 = (σ 38 1) from ((congrFun (f166 38 (by decide)) 1).trans (congrFun (f49 38 (by decide)) 1))))
      have z238 : (σ164 55 55).toInt = (σ 55 55).toInt := (congrArg Int32.toInt (show σ164 55 55 = (σ 55 55) from ((f167 55 (by decide)).trans (congrFun (f49 55 (by decide)) 55))))
      have z239 : (σ164 47 0).toInt = (σ 47 0).toInt := (congrArg Int32.toInt (show σ164 47 0 = (σ 47 0) from ((congrFun (f166 47 (by decide)) 0).trans (congrFun (f49 47 (by decide)) 0))))
      have z240 : (σ164 55 47).toInt = (σ 55 47).toInt := (congrArg Int32.toInt (show σ164 55 47 = (σ 55 47) from ((f167 47 (by decide)).trans (congrFun (f49 55 (by decide)) 47))))
      have z241 : (σ164 55 30).toInt = (σ 55 30).toInt := (congrArg Int32.toInt (show σ164 55 30 = (σ 55 30) from ((f167 30 (by decide)).trans (congrFun (f49 55 (by decide)) 30))))
      have z242 : (σ164 55 31).toInt = (σ 55 31).toInt := (congrArg Int32.toInt (show σ164 55 31 = (σ 55 31) from ((f167 31 (by decide)).trans (congrFun (f49 55 (by decide)) 31))))
      have z243 : (σ164 2 1).toInt = (σ 2 1).toInt := (congrArg Int32.toInt (show σ164 2 1 = (σ 2 1) from ((congrFun (f166 2 (by decide)) 1).trans (f50 1 (by decide)))))
      have z244 : (σ164 55 9).toInt = (σ 55 9).toInt := (congrArg Int32.toInt (show σ164 55 9 = (σ 55 9) from ((f167 9 (by decide)).trans (congrFun (f49 55 (by decide)) 9))))
      have z245 : (σ164 26 6).toInt = (σ 26 6).toInt := (congrArg Int32.toInt (show σ164 26 6 = (σ 26 6) from ((congrFun (f166 26 (by decide)) 6).trans (congrFun (f49 26 (by decide)) 6))))
      rw [show r48.toInt = ((σ 55 5).toInt - 1) from by omega] at k160
      rw [show r165.toInt = ((σ 55 5).toInt - 1) from by omega, show σ47 56 = σ 56 from (f49 56 (by decide)), show σ47 57 = σ 57 from (f49 57 (by decide)), show σ47 58 = σ 58 from (f49 58 (by decide))] at k188
      have p246 := hr0.back (by omega) (by omega) k160 k188
      have z248 : (σ164 18 0).toInt = (σ 18 0).toInt := (congrArg Int32.toInt (show σ164 18 0 = (σ 18 0) from ((congrFun (f166 18 (by decide)) 0).trans (congrFun (f49 18 (by decide)) 0))))
      have z249 : (σ164 22 0).toInt = (σ 22 0).toInt := (congrArg Int32.toInt (show σ164 22 0 = (σ 22 0) from ((congrFun (f166 22 (by decide)) 0).trans (congrFun (f49 22 (by decide)) 0))))
      exact ih x190 σ164 τ _ _ ls (by have h9 := tx190; omega) ⟨I191, I192, I193, I194, I195, I196, I197, I198, I199, I200, I201, I202, I203, I168, I204, I205, I206, I207, I208, I209, I210, I211, I212, I213, p214, p215, p216, p217, p218, p219, p220, p221, p222, (by omega), (by omega), (by omega), (by omega), (by omega), (by omega), (by omega), (by omega), (by omega), (by omega), (by omega), (by omega), (by omega), (by have h9 := tx190; omega), (show jNumP (σ164 3) (σ164 56) (σ164 6) (σ164 57) (σ164 7) (σ164 58) (σ164 8) (σ164 59) (σ164 55 6).toInt (σ164 55 4).toInt by rw [show σ164 3 = σ47 3 from (f166 3 (by decide)), show σ164 6 = σ 6 from ((f166 6 (by decide)).trans (f49 6 (by decide))), show σ164 57 = σ 57 from ((f166 57 (by decide)).trans (f49 57 (by decide))), show σ164 7 = σ 7 from ((f166 7 (by decide)).trans (f49 7 (by decide))), show σ164 58 = σ 58 from ((f166 58 (by decide)).trans (f49 58 (by decide))), show σ164 8 = σ 8 from ((f166 8 (by decide)).trans (f49 8 (by decide))), show σ164 59 = σ 59 from ((f166 59 (by decide)).trans (f49 59 (by decide))), show (σ164 55 6).toInt = (σ 55 6).toInt from by omega, show (σ164 55 4).toInt = (σ 55 4).toInt from by omega]; exact p246), (show jOvP (σ164 56) (σ164 57) (σ164 58) (σ164 59) (σ164 55 4).toInt by rw [show σ164 57 = σ 57 from ((f166 57 (by decide)).trans (f49 57 (by decide))), show σ164 58 = σ 58 from ((f166 58 (by decide)).trans (f49 58 (by decide))), show σ164 59 = σ 59 from ((f166 59 (by decide)).trans (f49 59 (by decide))), show (σ164 55 4).toInt = (σ 55 4).toInt from by omega]; exact (hr1.back (by omega) (by omega) ((hr0.2.2 (((σ 55 5).toInt - 1)).toNat (by omega)).2.1.1) k188)), (show jTp (σ164 10) (σ164 63) (σ164 55 15).toInt by rw [show σ164 10 = σ 10 from ((f166 10 (by decide)).trans (f49 10 (by decide))), show σ164 63 = σ 63 from ((f166 63 (by decide)).trans (f49 63 (by decide)))]; exact hr2.le (by omega)), (show jSo (σ164 17) (σ164 62) (σ164 16 0).toInt by rw [show σ164 17 = σ 17 from ((f166 17 (by decide)).trans (f49 17 (by decide))), show σ164 62 = σ 62 from ((f166 62 (by decide)).trans (f49 62 (by decide))), show (σ164 16 0).toInt = (σ 16 0).toInt from by omega]; exact hr3), (show jShP (σ164 51) (σ164 52) (σ164 53) (σ164 86) (σ164 87) (σ164 55 32).toInt by rw [show σ164 51 = σ 51 from ((f166 51 (by decide)).trans (f49 51 (by decide))), show σ164 52 = σ 52 from ((f166 52 (by decide)).trans (f49 52 (by decide))), show σ164 53 = σ 53 from ((f166 53 (by decide)).trans (f49 53 (by decide))), show σ164 86 = σ 86 from ((f166 86 (by decide)).trans (f49 86 (by decide))), show σ164 87 = σ 87 from ((f166 87 (by decide)).trans (f49 87 (by decide)))]; exact (hr4.up (by omega) (by omega))), (show jEl (σ164 51) (σ164 52) (τ 54) (τ 88) by rw [show σ164 51 = σ 51 from ((f166 51 (by decide)).trans (f49 51 (by decide))), show σ164 52 = σ 52 from ((f166 52 (by decide)).trans (f49 52 (by decide)))]; exact hr5), (show jByP (σ164 51) (σ164 52) (τ 54) by rw [show σ164 51 = σ 51 from ((f166 51 (by decide)).trans (f49 51 (by decide))), show σ164 52 = σ 52 from ((f166 52 (by decide)).trans (f49 52 (by decide)))]; exact hr6), (show jBk (σ164 48) (σ164 80) (σ164 49) (σ164 81) (σ164 55 47).toInt by rw [show σ164 48 = σ 48 from ((f166 48 (by decide)).trans (f49 48 (by decide))), show σ164 49 = σ 49 from ((f166 49 (by decide)).trans (f49 49 (by decide))), show σ164 80 = σ 80 from ((f166 80 (by decide)).trans (f49 80 (by decide))), show σ164 81 = σ 81 from ((f166 81 (by decide)).trans (f49 81 (by decide))), show (σ164 55 47).toInt = (σ 55 47).toInt from by omega]; exact hr7), (show jKd (σ164 39) (σ164 70) (σ164 55 32).toInt by rw [show σ164 39 = σ 39 from ((f166 39 (by decide)).trans (f49 39 (by decide))), show σ164 70 = σ 70 from ((f166 70 (by decide)).trans (f49 70 (by decide))), show (σ164 55 32).toInt = (σ 55 32).toInt from by omega]; exact hr8), (show jTt (σ164 42) (σ164 85) (σ164 55 55).toInt by rw [show σ164 42 = σ 42 from ((f166 42 (by decide)).trans (f49 42 (by decide))), show σ164 85 = σ 85 from ((f166 85 (by decide)).trans (f49 85 (by decide))), show (σ164 55 55).toInt = (σ 55 55).toInt from by omega]; exact hr9), (fun k hk => by rw [show σ164 4 = σ 4 from ((f166 4 (by decide)).trans (f49 4 (by decide))), show σ164 5 = σ 5 from ((f166 5 (by decide)).trans (f49 5 (by decide))), show σ164 60 = σ 60 from ((f166 60 (by decide)).trans (f49 60 (by decide))), show σ164 61 = σ 61 from ((f166 61 (by decide)).trans (f49 61 (by decide)))]; exact hr10 k (by omega)), (fun nm => by rw [show σ164 19 = σ 19 from ((f166 19 (by decide)).trans (f49 19 (by decide))), show σ164 64 = σ 64 from ((f166 64 (by decide)).trans (f49 64 (by decide))), show σ164 65 = σ 65 from ((f166 65 (by decide)).trans (f49 65 (by decide))), show (σ164 18 0).toInt = (σ 18 0).toInt from by omega]; exact hr11 nm), (fun nm => by rw [show σ164 23 = σ 23 from ((f166 23 (by decide)).trans (f49 23 (by decide))), show σ164 64 = σ 64 from ((f166 64 (by decide)).trans (f49 64 (by decide))), show σ164 65 = σ 65 from ((f166 65 (by decide)).trans (f49 65 (by decide))), show (σ164 22 0).toInt = (σ 22 0).toInt from by omega]; exact hr12 nm)⟩ hP hS (lv_sub hl [0, 1, 2, 3] rfl)
set_option maxHeartbeats 4000000 in
set_option maxRecDepth 100000 in
theorem law_case_27 {p : Program} {e : Env} {s : State} {m : MethodId} {below : List Frame} {meth : Method} {c : Code} (l : Launch) {b L : Nat} {xs : Nat → Int32} {D : va_G} {cI cL : ClassId} {ad zz : Nat → Nat} (C0 : lw_At p s m meth c b L xs) (hJ : jD ad) (hA : ∀ q, jA ad q → s.heap.size ≤ q) (hK : jK D cI cL s) (hZ : jZ zz (fun q : Nat => s.heap.size ≤ q) s s.heap) {x0 : Int32} (hx0 : 0 ≤ x0.toInt) (hxL : x0.toInt + 6 ≤ (L : Int)) (hL : L ≤ 384) {σ : Nat → Nat → Int32} {τ : Nat → Nat → Int64} {H : Heap} {locs : List Loc} (hS : va_S (fun q : Nat => s.heap.size ≤ q) s.heap H locs) {ls : Array Slot} (hAll : jAll x0.toInt σ τ) (hP : jH D cI cL ad σ τ H) (hl : lv_has ls 4 [(3, .int x0), (2, .ref (ad 55)), (1, .ref (ad 0)), (0, .ref b)]) (ih : ∀ (x1 : Int32) (σ : Nat → Nat → Int32) (τ : Nat → Nat → Int64) (H : Heap) (locs : List Loc) (ls : Array Slot), x1.toInt = x0.toInt + 6 → jAll x1.toInt σ τ → jH D cI cL ad σ τ H → va_S (fun q : Nat => s.heap.size ≤ q) s.heap H locs → lv_has ls 4 [(3, .int x1), (2, .ref (ad 55)), (1, .ref (ad 0)), (0, .ref b)] → W p l e room_1 s m #[Value.ref b] below meth c H locs 90 348600 (lw_Z below #[Value.ref b] s) (F0 m 18 ls [])) : W p l e room_1 s m #[Value.ref b] below meth c H locs 90 348600 (lw_Z below #[Value.ref b] s) (F0 m 977 ls []) := by
  obtain ⟨hx, hb, hr, hml, hown, hts0, hX, hbl, hlocks, hgv⟩ := C0
  have hts : ∀ w ∈ wsL_law, w.before #[Value.ref b] s = true := fun w h => hts0 w (wsL_law_in w h)
  have hbA : ¬ (fun q : Nat => s.heap.size ≤ q) b := Nat.not_le.mpr hbl
  have hown : s.vm.findClass RL = some m.cls := hown
  obtain ⟨hI2, hI9, hI12, hI16, hI18, hI22, hI31, hI38, hI43, hI47, hI50, hI0, hI26, hI101, hI102, hI103, hI104, hI105, hI106, hI107, hI109, hI110, hI111, hI119, hs_jKept, hs_jBook, hs_jNd12, hs_jN67, hs_jBl, hs_jKb, hs_jTR, hs_jKh, hs_jKg, ht0, ht1, ht2, ht3, ht4, ht5, ht6, ht7, ht8, ht9, ht10, ht11, ht12, ht13, hr0, hr1, hr2, hr3, hr4, hr5, hr6, hr7, hr8, hr9, hr10, hr11, hr12⟩ := hAll
  have hL9 : (L : Int) ≤ 384 := by omega
  obtain ⟨i1, i2, i3, i4, i5, w6⟩ : (0 ≤ (σ 2 0).toInt ∧ (σ 2 0).toInt ≤ 4) ∧ (0 ≤ (σ 2 1).toInt ∧ (σ 2 1).toInt ≤ 3) ∧ (0 ≤ (σ 2 2).toInt) ∧ (0 ≤ (σ 2 3).toInt) ∧ ((σ 2 2).toInt + (σ 2 3).toInt ≤ 40) ∧ (∀ k : Nat, k < 40 → 0 ≤ (σ 6 k).toInt ∧ (σ 6 k).toInt ≤ 67) := id hI2
  obtain ⟨i7, w8, w9⟩ : (0 ≤ (σ 9 0).toInt ∧ (σ 9 0).toInt ≤ 80) ∧ (∀ k : Nat, k < 80 → 0 ≤ (σ 10 k).toInt ∧ (σ 10 k).toInt ≤ 255) ∧ (∀ k : Nat, k < 8 → 0 ≤ (σ 11 k).toInt ∧ (σ 11 k).toInt ≤ 3) := id hI9
  obtain ⟨i10, i11, i12, w13⟩ : (1 ≤ (σ 16 0).toInt ∧ (σ 16 0).toInt ≤ 8) ∧ (1 ≤ (σ 16 1).toInt ∧ (σ 16 1).toInt ≤ 12) ∧ (0 ≤ (σ 16 2).toInt ∧ (σ 16 2).toInt ≤ 999) ∧ (∀ k : Nat, k < 8 → 0 ≤ (σ 17 k).toInt ∧ (σ 17 k).toInt ≤ 3) := id hI16
  obtain ⟨i14, i15, w16⟩ : (0 ≤ (σ 38 0).toInt ∧ (σ 38 0).toInt ≤ 20) ∧ (0 ≤ (σ 38 1).toInt ∧ (σ 38 1).toInt ≤ 1000) ∧ (∀ k : Nat, k < 20 → 0 ≤ (σ 39 k).toInt ∧ (σ 39 k).toInt ≤ 6) := id hI38
  obtain ⟨i17, w18, w19⟩ : (0 ≤ (σ 47 0).toInt ∧ (σ 47 0).toInt ≤ 12) ∧ (∀ k : Nat, k < 12 → 0 ≤ (σ 48 k).toInt ∧ (σ 48 k).toInt ≤ 3) ∧ (∀ k : Nat, k < 12 → 0 ≤ (σ 49 k).toInt ∧ (σ 49 k).toInt ≤ 1) := id hI47
  have w20 : ∀ k : Nat, k < 6 → 0 ≤ (σ 52 k).toInt ∧ (σ 52 k).toInt ≤ 60 := hI50
  have i21 : 1 ≤ (σ 26 6).toInt ∧ (σ 26 6).toInt ≤ 8000 := hI26
  obtain ⟨i22, i23, i24, w25, w26, w27, w28⟩ : (0 ≤ (σ 55 5).toInt) ∧ ((σ 55 5).toInt ≤ (σ 55 4).toInt) ∧ ((σ 55 4).toInt ≤ 40) ∧ (∀ k : Nat, k < 68 → (-200) ≤ (σ 56 k).toInt ∧ (σ 56 k).toInt ≤ 500) ∧ (∀ k : Nat, k < 40 → 0 ≤ (σ 57 k).toInt ∧ (σ 57 k).toInt ≤ 67) ∧ (∀ k : Nat, k < 40 → (-200) ≤ (σ 58 k).toInt ∧ (σ 58 k).toInt ≤ 500) ∧ (∀ k : Nat, k < 40 → (-200) ≤ (σ 59 k).toInt ∧ (σ 59 k).toInt ≤ 500) := id hI101
  obtain ⟨i29, w30, w31⟩ : (0 ≤ (σ 55 6).toInt ∧ (σ 55 6).toInt ≤ 4) ∧ (∀ k : Nat, k < 4 → 0 ≤ (σ 60 k).toInt ∧ (σ 60 k).toInt ≤ 50) ∧ (∀ k : Nat, k < 4 → 0 ≤ (σ 61 k).toInt ∧ (σ 61 k).toInt ≤ 20) := id hI102
  have i32 : 0 ≤ (σ 55 9).toInt ∧ (σ 55 9).toInt ≤ 3 := hI103
  obtain ⟨i33, i34, i35, w36, w37⟩ : (1 ≤ (σ 55 10).toInt ∧ (σ 55 10).toInt ≤ 8) ∧ (1 ≤ (σ 55 12).toInt ∧ (σ 55 12).toInt ≤ 12) ∧ (0 ≤ (σ 55 13).toInt ∧ (σ 55 13).toInt ≤ 999) ∧ (∀ k : Nat, k < 8 → 0 ≤ (σ 62 k).toInt ∧ (σ 62 k).toInt ≤ 3) ∧ (∀ k : Nat, k < 8 → 0 ≤ (σ 67 k).toInt ∧ (σ 67 k).toInt ≤ 3) := id hI104
  obtain ⟨i38, w39⟩ : (0 ≤ (σ 55 15).toInt ∧ (σ 55 15).toInt ≤ 80) ∧ (∀ k : Nat, k < 2 → (-1) ≤ (σ 65 k).toInt ∧ (σ 65 k).toInt ≤ 80) := id hI105
  obtain ⟨i40, w41, w42, w43⟩ : (0 ≤ (σ 55 32).toInt ∧ (σ 55 32).toInt ≤ 20) ∧ (∀ k : Nat, k < 20 → 0 ≤ (σ 70 k).toInt ∧ (σ 70 k).toInt ≤ 6) ∧ (∀ k : Nat, k < 20 → 0 ≤ (σ 71 k).toInt ∧ (σ 71 k).toInt ≤ 8) ∧ (∀ k : Nat, k < 160 → 0 ≤ (σ 72 k).toInt ∧ (σ 72 k).toInt ≤ 3) := id hI106
  obtain ⟨i44, i45, w46⟩ : (0 ≤ (σ 55 47).toInt ∧ (σ 55 47).toInt ≤ 12) ∧ ((σ 55 47).toInt ≤ (σ 55 12).toInt) ∧ (∀ k : Nat, k < 12 → 0 ≤ (σ 80 k).toInt ∧ (σ 80 k).toInt ≤ 3) := id hI107
  have hs_jOk3 : jOk3 σ := hr0.ok hr1.1
  refine lv_aload_n hx hb dL_law_977 rfl (lv_at hl 2 rfl) ?_
  refine jcallV (As := []) (rest := []) ⟨hx, hb, hml, hown, hts⟩ hK hP hA hS hZ (c_X11_redo l D cI cL ad zz hJ σ τ hI2) cw_RL_125 (jc_0 cI cL ad σ τ) rfl ⟨Nat.le_of_ble_eq_true rfl, Nat.le_of_ble_eq_true rfl⟩ rfl rfl rfl hl.1 rfl (Nat.le_of_ble_eq_true rfl) dL_law_978 ⟨Nat.le_of_ble_eq_true rfl, Nat.le_of_ble_eq_true rfl⟩ (fun r48 σ47 τ47 H locs h47 hP hS => ?_)
  obtain ⟨rfl, f49, f50, I51, h47⟩ := h47
  obtain ⟨i53, i54, i55, i56, i57, w58⟩ : (0 ≤ (σ47 2 0).toInt ∧ (σ47 2 0).toInt ≤ 4) ∧ (0 ≤ (σ47 2 1).toInt ∧ (σ47 2 1).toInt ≤ 3) ∧ (0 ≤ (σ47 2 2).toInt) ∧ (0 ≤ (σ47 2 3).toInt) ∧ ((σ47 2 2).toInt + (σ47 2 3).toInt ≤ 40) ∧ (∀ k : Nat, k < 40 → 0 ≤ (σ47 6 k).toInt ∧ (σ47 6 k).toInt ≤ 67) := id I51
  have z59 : (σ47 2 0).toInt = (σ 2 0).toInt := (congrArg Int32.toInt (show σ47 2 0 = (σ 2 0) from (f50 0 (by decide))))
  have z60 : (σ47 2 1).toInt = (σ 2 1).toInt := (congrArg Int32.toInt (show σ47 2 1 = (σ 2 1) from (f50 1 (by decide))))
  rcases h47 with h61 | h62
  · obtain ⟨q67, k63, k64, k65, k66⟩ := h61
    have q67 := q67.symm
    subst q67
    refine lv_pop hx hb dL_law_981 rfl ?_
    refine lv_aload_n hx hb dL_law_982 rfl (lv_at hl 1 rfl) ?_
    have I68 : jI101 σ47 := jI101_fr (congrFun (f49 55 (by decide)) 4) (congrFun (f49 55 (by decide)) 5) (f49 56 (by decide)) (f49 57 (by decide)) (f49 58 (by decide)) (f49 59 (by decide)) hI101
    have z69 : (σ47 55 5).toInt = (σ 55 5).toInt := (congrArg Int32.toInt (show σ47 55 5 = (σ 55 5) from (congrFun (f49 55 (by decide)) 5)))
    have z70 : (σ47 55 4).toInt = (σ 55 4).toInt := (congrArg Int32.toInt (show σ47 55 4 = (σ 55 4) from (congrFun (f49 55 (by decide)) 4)))
    refine jcallV (As := []) (rest := []) ⟨hx, hb, hml, hown, hts⟩ hK hP hA hS hZ (c_X12_redo l D cI cL ad zz hJ σ47 τ I68) cw_RL_128 (jc_55 cI cL ad σ47 τ) rfl ⟨Nat.le_of_ble_eq_true rfl, Nat.le_of_ble_eq_true rfl⟩ rfl rfl rfl hl.1 rfl (Nat.le_of_ble_eq_true rfl) dL_law_983 ⟨Nat.le_of_ble_eq_true rfl, Nat.le_of_ble_eq_true rfl⟩ (fun r72 σ71 τ71 H locs h71 hP hS => ?_)
    obtain ⟨rfl, f73, f74, I75, h71⟩ := h71
    obtain ⟨i77, i78, i79, w80, w81, w82, w83⟩ : (0 ≤ (σ71 55 5).toInt) ∧ ((σ71 55 5).toInt ≤ (σ71 55 4).toInt) ∧ ((σ71 55 4).toInt ≤ 40) ∧ (∀ k : Nat, k < 68 → (-200) ≤ (σ71 56 k).toInt ∧ (σ71 56 k).toInt ≤ 500) ∧ (∀ k : Nat, k < 40 → 0 ≤ (σ71 57 k).toInt ∧ (σ71 57 k).toInt ≤ 67) ∧ (∀ k : Nat, k < 40 → (-200) ≤ (σ71 58 k).toInt ∧ (σ71 58 k).toInt ≤ 500) ∧ (∀ k : Nat, k < 40 → (-200) ≤ (σ71 59 k).toInt ∧ (σ71 59 k).toInt ≤ 500) := id I75
    have z84 : (σ71 55 4).toInt = (σ 55 4).toInt := (congrArg Int32.toInt (show σ71 55 4 = (σ 55 4) from ((f74 4 (by decide)).trans (congrFun (f49 55 (by decide)) 4))))
    rcases h71 with h85 | h86
    · obtain ⟨q90, k87, k88, k89⟩ := h85
      have q90 := q90.symm
      subst q90
      refine lv_pop hx hb dL_law_986 rfl ?_
      refine lv_goto (tgt := 1357) hx hb dL_law_987 (by decide) ?_
      obtain ⟨x91, ex91⟩ : ∃ y : Int32, y = x0 + 6 := ⟨_, rfl⟩
      have tx91 : x91.toInt = x0.toInt + 6 := (jadd ex91 rfl jz_6 (by omega) (by omega)).trans (by omega)
      refine lv_iinc (v := x91) (lv' := [(3, .int x91), (2, .ref (ad 55)), (1, .ref (ad 0)), (0, .ref b)]) hx hb dL_law_1357 hl (k := 0) rfl (by rw [ex91]; rfl) (by decide) rfl (fun ls hl => ?_)
      refine lv_goto (tgt := 18) hx hb dL_law_1360 (by decide) ?_
      have I92 : jI2 σ71 := jI2_fr (congrFun (f73 2 (by decide)) 0) (congrFun (f73 2 (by decide)) 1) (congrFun (f73 2 (by decide)) 2) (congrFun (f73 2 (by decide)) 3) (f73 6 (by decide)) I51
      have I93 : jI9 σ71 := jI9_fr ((congrFun (f73 9 (by decide)) 0).trans (congrFun (f49 9 (by decide)) 0)) ((f73 10 (by decide)).trans (f49 10 (by decide))) ((f73 11 (by decide)).trans (f49 11 (by decide))) hI9
      have I94 : jI12 σ71 := jI12_fr ((congrFun (f73 12 (by decide)) 0).trans (congrFun (f49 12 (by decide)) 0)) ((f73 13 (by decide)).trans (f49 13 (by decide))) hI12
      have I95 : jI16 σ71 := jI16_fr ((congrFun (f73 16 (by decide)) 0).trans (congrFun (f49 16 (by decide)) 0)) ((congrFun (f73 16 (by decide)) 1).trans (congrFun (f49 16 (by decide)) 1)) ((congrFun (f73 16 (by decide)) 2).trans (congrFun (f49 16 (by decide)) 2)) ((f73 17 (by decide)).trans (f49 17 (by decide))) hI16
      have I96 : jI18 σ71 := jI18_fr ((congrFun (f73 18 (by decide)) 0).trans (congrFun (f49 18 (by decide)) 0)) ((f73 19 (by decide)).trans (f49 19 (by decide))) hI18
      have I97 : jI22 σ71 := jI22_fr ((congrFun (f73 22 (by decide)) 0).trans (congrFun (f49 22 (by decide)) 0)) ((f73 23 (by decide)).trans (f49 23 (by decide))) hI22
      have I98 : jI31 σ71 := jI31_fr ((congrFun (f73 31 (by decide)) 8).trans (congrFun (f49 31 (by decide)) 8)) ((congrFun (f73 31 (by decide)) 10).trans (congrFun (f49 31 (by decide)) 10)) ((congrFun (f73 31 (by decide)) 11).trans (congrFun (f49 31 (by decide)) 11)) ((f73 33 (by decide)).trans (f49 33 (by decide))) ((f73 35 (by decide)).trans (f49 35 (by decide))) ((f73 36 (by decide)).trans (f49 36 (by decide))) hI31
      have I99 : jI38 σ71 := jI38_fr ((congrFun (f73 38 (by decide)) 0).trans (congrFun (f49 38 (by decide)) 0)) ((congrFun (f73 38 (by decide)) 1).trans (congrFun (f49 38 (by decide)) 1)) ((f73 39 (by decide)).trans (f49 39 (by decide))) hI38
      have I100 : jI43 σ71 := jI43_fr ((congrFun (f73 43 (by decide)) 8).trans (congrFun (f49 43 (by decide)) 8)) hI43
      have I101 : jI47 σ71 := jI47_fr ((congrFun (f73 47 (by decide)) 0).trans (congrFun (f49 47 (by decide)) 0)) ((f73 48 (by decide)).trans (f49 48 (by decide))) ((f73 49 (by decide)).trans (f49 49 (by decide))) hI47
      have I102 : jI50 σ71 := jI50_fr ((f73 52 (by decide)).trans (f49 52 (by decide))) hI50
      have I103 : jI0 σ71 := jI0_fr ((f73 1 (by decide)).trans (f49 1 (by decide))) hI0
      have I104 : jI26 σ71 := jI26_fr ((congrFun (f73 26 (by decide)) 6).trans (congrFun (f49 26 (by decide)) 6)) hI26
      have I105 : jI102 σ71 := jI102_fr ((f74 6 (by decide)).trans (congrFun (f49 55 (by decide)) 6)) ((f73 60 (by decide)).trans (f49 60 (by decide))) ((f73 61 (by decide)).trans (f49 61 (by decide))) hI102
      have I106 : jI103 σ71 := jI103_fr ((f74 9 (by decide)).trans (congrFun (f49 55 (by decide)) 9)) hI103
      have I107 : jI104 σ71 := jI104_fr ((f74 10 (by decide)).trans (congrFun (f49 55 (by decide)) 10)) ((f74 12 (by decide)).trans (congrFun (f49 55 (by decide)) 12)) ((f74 13 (by decide)).trans (congrFun (f49 55 (by decide)) 13)) ((f73 62 (by decide)).trans (f49 62 (by decide))) ((f73 67 (by decide)).trans (f49 67 (by decide))) hI104
      have I108 : jI105 σ71 := jI105_fr ((f74 15 (by decide)).trans (congrFun (f49 55 (by decide)) 15)) ((f73 65 (by decide)).trans (f49 65 (by decide))) hI105
      have I109 : jI106 σ71 := jI106_fr ((f74 32 (by decide)).trans (congrFun (f49 55 (by decide)) 32)) ((f73 70 (by decide)).trans (f49 70 (by decide))) ((f73 71 (by decide)).trans (f49 71 (by decide))) ((f73 72 (by decide)).trans (f49 72 (by decide))) hI106
      have I110 : jI107 σ71 := jI107_fr ((f74 12 (by decide)).trans (congrFun (f49 55 (by decide)) 12)) ((f74 47 (by decide)).trans (congrFun (f49 55 (by decide)) 47)) ((f73 80 (by decide)).trans (f49 80 (by decide))) hI107
      have I111 : jI109 σ71 := jI109_fr ((f74 50 (by decide)).trans (congrFun (f49 55 (by decide)) 50)) hI109
      have I112 : jI110 σ71 := jI110_fr ((f73 86 (by decide)).trans (f49 86 (by decide))) ((f73 87 (by decide)).trans (f49 87 (by decide))) hI110
      have I113 : jI111 σ71 := jI111_fr ((f73 79 (by decide)).trans (f49 79 (by decide))) hI111
      have I114 : jI119 σ71 := jI119_fr ((f73 68 (by decide)).trans (f49 68 (by decide))) hI119
      have p115 : jKept σ71 := jKept.fr ((f73 75 (by decide)).trans (f49 75 (by decide))) ((f73 76 (by decide)).trans (f49 76 (by decide))) ((f73 77 (by decide)).trans (f49 77 (by decide))) hs_jKept
      have p116 : jBook σ71 := jBook.fr ((f74 47 (by decide)).trans (congrFun (f49 55 (by decide)) 47)) ((f74 10 (by decide)).trans (congrFun (f49 55 (by decide)) 10)) ((f73 81 (by decide)).trans (f49 81 (by decide))) hs_jBook
      have p117 : jNd12 σ71 := jNd12.fr ((congrFun (f73 12 (by decide)) 0).trans (congrFun (f49 12 (by decide)) 0)) ((congrFun (f73 12 (by decide)) 1).trans (congrFun (f49 12 (by decide)) 1)) ((f73 13 (by decide)).trans (f49 13 (by decide))) hs_jNd12
      have p118 : jN67 σ71 := jN67.fr ((f73 24 (by decide)).trans (f49 24 (by decide))) hs_jN67
      have p119 : jBl σ71 := jBl.fr ((congrFun (f73 22 (by decide)) 0).trans (congrFun (f49 22 (by decide)) 0)) ((congrFun (f73 22 (by decide)) 1).trans (congrFun (f49 22 (by decide)) 1)) ((f73 23 (by decide)).trans (f49 23 (by decide))) ((congrFun (f73 26 (by decide)) 6).trans (congrFun (f49 26 (by decide)) 6)) ((congrFun (f73 26 (by decide)) 7).trans (congrFun (f49 26 (by decide)) 7)) ((f73 29 (by decide)).trans (f49 29 (by decide))) ((f73 30 (by decide)).trans (f49 30 (by decide))) hs_jBl
      have p120 : jKb σ71 := jKb.fr ((congrFun (f73 31 (by decide)) 8).trans (congrFun (f49 31 (by decide)) 8)) ((congrFun (f73 31 (by decide)) 11).trans (congrFun (f49 31 (by decide)) 11)) ((f73 32 (by decide)).trans (f49 32 (by decide))) hs_jKb
      have p121 : jTR σ71 := jTR.fr ((f73 64 (by decide)).trans (f49 64 (by decide))) ((f73 65 (by decide)).trans (f49 65 (by decide))) hs_jTR
      have p122 : jKh σ71 := jKh.fr ((congrFun (f73 31 (by decide)) 8).trans (congrFun (f49 31 (by decide)) 8)) ((f73 32 (by decide)).trans (f49 32 (by decide))) ((f73 36 (by decide)).trans (f49 36 (by decide))) ((f73 37 (by decide)).trans (f49 37 (by decide))) hs_jKh
      have p123 : jKg σ71 := jKg.fr ((congrFun (f73 31 (by decide)) 8).trans (congrFun (f49 31 (by decide)) 8)) ((congrFun (f73 31 (by decide)) 9).trans (congrFun (f49 31 (by decide)) 9)) ((congrFun (f73 31 (by decide)) 11).trans (congrFun (f49 31 (by decide)) 11)) ((congrFun (f73 31 (by decide)) 12).trans (congrFun (f49 31 (by decide)) 12)) ((f73 32 (by decide)).trans (f49 32 (by decide))) ((f73 33 (by decide)).trans (f49 33 (by decide))) hs_jKg
      have z124 : (σ71 2 0).toInt = (σ 2 0).toInt := (congrArg Int32.toInt (show σ71 2 0 = (σ 2 0) from ((congrFun (f73 2 (by decide)) 0).trans (f50 0 (by decide)))))
      have z125 : (σ71 55 6).toInt = (σ 55 6).toInt := (congrArg Int32.toInt (show σ71 55 6 = (σ 55 6) from ((f74 6 (by decide)).trans (congrFun (f49 55 (by decide)) 6))))
      have z126 : (σ71 2 2).toInt = (σ47 2 2).toInt := (congrArg Int32.toInt (show σ71 2 2 = (σ47 2 2) from (congrFun (f73 2 (by decide)) 2)))
      have z127 : (σ71 2 3).toInt = (σ47 2 3).toInt := (congrArg Int32.toInt (show σ71 2 3 = (σ47 2 3) from (congrFun (f73 2 (by decide)) 3)))
      have z128 : (σ71 9 0).toInt = (σ 9 0).toInt := (congrArg Int32.toInt (show σ71 9 0 = (σ 9 0) from ((congrFun (f73 9 (by decide)) 0).trans (congrFun (f49 9 (by decide)) 0))))
      have z129 : (σ71 55 15).toInt = (σ 55 15).toInt := (congrArg Int32.toInt (show σ71 55 15 = (σ 55 15) from ((f74 15 (by decide)).trans (congrFun (f49 55 (by decide)) 15))))
      have z130 : (σ71 16 0).toInt = (σ 16 0).toInt := (congrArg Int32.toInt (show σ71 16 0 = (σ 16 0) from ((congrFun (f73 16 (by decide)) 0).trans (congrFun (f49 16 (by decide)) 0))))
      have z131 : (σ71 55 10).toInt = (σ 55 10).toInt := (congrArg Int32.toInt (show σ71 55 10 = (σ 55 10) from ((f74 10 (by decide)).trans (congrFun (f49 55 (by decide)) 10))))
      have z132 : (σ71 16 1).toInt = (σ 16 1).toInt := (congrArg Int32.toInt (show σ71 16 1 = (σ 16 1) from ((congrFun (f73 16 (by decide)) 1).trans (congrFun (f49 16 (by decide)) 1))))
      have z133 : (σ71 55 12).toInt = (σ 55 12).toInt := (congrArg Int32.toInt (show σ71 55 12 = (σ 55 12) from ((f74 12 (by decide)).trans (congrFun (f49 55 (by decide)) 12))))
      have z134 : (σ71 16 2).toInt = (σ 16 2).toInt := (congrArg Int32.toInt (show σ71 16 2 = (σ 16 2) from ((congrFun (f73 16 (by decide)) 2).trans (congrFun (f49 16 (by decide)) 2))))
      have z135 : (σ71 55 13).toInt = (σ 55 13).toInt := (congrArg Int32.toInt (show σ71 55 13 = (σ 55 13) from ((f74 13 (by decide)).trans (congrFun (f49 55 (by decide)) 13))))
      have z136 : (σ71 38 0).toInt = (σ 38 0).toInt := (congrArg Int32.toInt (show σ71 38 0 = (σ 38 0) from ((congrFun (f73 38 (by decide)) 0).trans (congrFun (f49 38 (by decide)) 0))))
      have z137 : (σ71 55 32).toInt = (σ 55 32).toInt := (congrArg Int32.toInt (show σ71 55 32 = (σ 55 32) from ((f74 32 (by decide)).trans (congrFun (f49 55 (by decide)) 32))))
      have z138 : (σ71 38 1).toInt = (σ 38 1).toInt := (congrArg Int32.toInt (show σ71 38 1 = (σ 38 1) from ((congrFun (f73 38 (by decide)) 1).trans (congrFun (f49 38 (by decide)) 1))))
      have z139 : (σ71 55 55).toInt = (σ 55 55).toInt := (congrArg Int32.toInt (show σ71 55 55 = (σ 55 55) from ((f74 55 (by decide)).trans (congrFun (f49 55 (by decide)) 55))))
      have z140 : (σ71 47 0).toInt = (σ 47 0).toInt := (congrArg Int32.toInt (show σ71 47 0 = (σ 47 0) from ((congrFun (f73 47 (by decide)) 0).trans (congrFun (f49 47 (by decide)) 0))))
      have z141 : (σ71 55 47).toInt = (σ 55 47).toInt := (congrArg Int32.toInt (show σ71 55 47 = (σ 55 47) from ((f74 47 (by decide)).trans (congrFun (f49 55 (by decide)) 47))))
      have z142 : (σ71 55 30).toInt = (σ 55 30).toInt := (congrArg Int32.toInt (show σ71 55 30 = (σ 55 30) from ((f74 30 (by decide)).trans (congrFun (f49 55 (by decide)) 30))))
      have z143 : (σ71 55 31).toInt = (σ 55 31).toInt := (congrArg Int32.toInt (show σ71 55 31 = (σ 55 31) from ((f74 31 (by decide)).trans (congrFun (f49 55 (by decide)) 31))))
      have z144 : (σ71 2 1).toInt = (σ 2 1).toInt := (congrArg Int32.toInt (show σ71 2 1 = (σ 2 1) from ((congrFun (f73 2 (by decide)) 1).trans (f50 1 (by decide)))))
      have z145 : (σ71 55 9).toInt = (σ 55 9).toInt := (congrArg Int32.toInt (show σ71 55 9 = (σ 55 9) from ((f74 9 (by decide)).trans (congrFun (f49 55 (by decide)) 9))))
      have z146 : (σ71 26 6).toInt = (σ 26 6).toInt := (congrArg Int32.toInt (show σ71 26 6 = (σ 26 6) from ((congrFun (f73 26 (by decide)) 6).trans (congrFun (f49 26 (by decide)) 6))))
      have z148 : (σ71 18 0).toInt = (σ 18 0).toInt := (congrArg Int32.toInt (show σ71 18 0 = (σ 18 0) from ((congrFun (f73 18 (by decide)) 0).trans (congrFun (f49 18 (by decide)) 0))))
      have z149 : (σ71 22 0).toInt = (σ 22 0).toInt := (congrArg Int32.toInt (show σ71 22 0 = (σ 22 0) from ((congrFun (f73 22 (by decide)) 0).trans (congrFun (f49 22 (by decide)) 0))))
      exact ih x91 σ71 τ _ _ ls (by have h9 := tx91; omega) ⟨I92, I93, I94, I95, I96, I97, I98, I99, I100, I101, I102, I103, I104, I75, I105, I106, I107, I108, I109, I110, I111, I112, I113, I114, p115, p116, p117, p118, p119, p120, p121, p122, p123, (by omega), (by omega), (by omega), (by omega), (by omega), (by omega), (by omega), (by omega), (by omega), (by omega), (by omega), (by omega), (by omega), (by have h9 := tx91; omega), (show jNumP (σ71 3) (σ71 56) (σ71 6) (σ71 57) (σ71 7) (σ71 58) (σ71 8) (σ71 59) (σ71 55 6).toInt (σ71 55 4).toInt by rw [show σ71 3 = σ 3 from ((f73 3 (by decide)).trans k66), show σ71 56 = σ 56 from (k89.trans (f49 56 (by decide))), show σ71 6 = σ 6 from ((f73 6 (by decide)).trans (f49 6 (by decide))), show σ71 57 = σ 57 from ((f73 57 (by decide)).trans (f49 57 (by decide))), show σ71 7 = σ 7 from ((f73 7 (by decide)).trans (f49 7 (by decide))), show σ71 58 = σ 58 from ((f73 58 (by decide)).trans (f49 58 (by decide))), show σ71 8 = σ 8 from ((f73 8 (by decide)).trans (f49 8 (by decide))), show σ71 59 = σ 59 from ((f73 59 (by decide)).trans (f49 59 (by decide))), show (σ71 55 6).toInt = (σ 55 6).toInt from by omega, show (σ71 55 4).toInt = (σ 55 4).toInt from by omega]; exact hr0), (show jOvP (σ71 56) (σ71 57) (σ71 58) (σ71 59) (σ71 55 4).toInt by rw [show σ71 56 = σ 56 from (k89.trans (f49 56 (by decide))), show σ71 57 = σ 57 from ((f73 57 (by decide)).trans (f49 57 (by decide))), show σ71 58 = σ 58 from ((f73 58 (by decide)).trans (f49 58 (by decide))), show σ71 59 = σ 59 from ((f73 59 (by decide)).trans (f49 59 (by decide))), show (σ71 55 4).toInt = (σ 55 4).toInt from by omega]; exact hr1), (show jTp (σ71 10) (σ71 63) (σ71 55 15).toInt by rw [show σ71 10 = σ 10 from ((f73 10 (by decide)).trans (f49 10 (by decide))), show σ71 63 = σ 63 from ((f73 63 (by decide)).trans (f49 63 (by decide)))]; exact hr2.le (by omega)), (show jSo (σ71 17) (σ71 62) (σ71 16 0).toInt by rw [show σ71 17 = σ 17 from ((f73 17 (by decide)).trans (f49 17 (by decide))), show σ71 62 = σ 62 from ((f73 62 (by decide)).trans (f49 62 (by decide))), show (σ71 16 0).toInt = (σ 16 0).toInt from by omega]; exact hr3), (show jShP (σ71 51) (σ71 52) (σ71 53) (σ71 86) (σ71 87) (σ71 55 32).toInt by rw [show σ71 51 = σ 51 from ((f73 51 (by decide)).trans (f49 51 (by decide))), show σ71 52 = σ 52 from ((f73 52 (by decide)).trans (f49 52 (by decide))), show σ71 53 = σ 53 from ((f73 53 (by decide)).trans (f49 53 (by decide))), show σ71 86 = σ 86 from ((f73 86 (by decide)).trans (f49 86 (by decide))), show σ71 87 = σ 87 from ((f73 87 (by decide)).trans (f49 87 (by decide)))]; exact (hr4.up (by omega) (by omega))), (show jEl (σ71 51) (σ71 52) (τ 54) (τ 88) by rw [show σ71 51 = σ 51 from ((f73 51 (by decide)).trans (f49 51 (by decide))), show σ71 52 = σ 52 from ((f73 52 (by decide)).trans (f49 52 (by decide)))]; exact hr5), (show jByP (σ71 51) (σ71 52) (τ 54) by rw [show σ71 51 = σ 51 from ((f73 51 (by decide)).trans (f49 51 (by decide))), show σ71 52 = σ 52 from ((f73 52 (by decide)).trans (f49 52 (by decide)))]; exact hr6), (show jBk (σ71 48) (σ71 80) (σ71 49) (σ71 81) (σ71 55 47).toInt by rw [show σ71 48 = σ 48 from ((f73 48 (by decide)).trans (f49 48 (by decide))), show σ71 49 = σ 49 from ((f73 49 (by decide)).trans (f49 49 (by decide))), show σ71 80 = σ 80 from ((f73 80 (by decide)).trans (f49 80 (by decide))), show σ71 81 = σ 81 from ((f73 81 (by decide)).trans (f49 81 (by decide))), show (σ71 55 47).toInt = (σ 55 47).toInt from by omega]; exact hr7), (show jKd (σ71 39) (σ71 70) (σ71 55 32).toInt by rw [show σ71 39 = σ 39 from ((f73 39 (by decide)).trans (f49 39 (by decide))), show σ71 70 = σ 70 from ((f73 70 (by decide)).trans (f49 70 (by decide))), show (σ71 55 32).toInt = (σ 55 32).toInt from by omega]; exact hr8), (show jTt (σ71 42) (σ71 85) (σ71 55 55).toInt by rw [show σ71 42 = σ 42 from ((f73 42 (by decide)).trans (f49 42 (by decide))), show σ71 85 = σ 85 from ((f73 85 (by decide)).trans (f49 85 (by decide))), show (σ71 55 55).toInt = (σ 55 55).toInt from by omega]; exact hr9), (fun k hk => by rw [show σ71 4 = σ 4 from ((f73 4 (by decide)).trans (f49 4 (by decide))), show σ71 5 = σ 5 from ((f73 5 (by decide)).trans (f49 5 (by decide))), show σ71 60 = σ 60 from ((f73 60 (by decide)).trans (f49 60 (by decide))), show σ71 61 = σ 61 from ((f73 61 (by decide)).trans (f49 61 (by decide)))]; exact hr10 k (by omega)), (fun nm => by rw [show σ71 19 = σ 19 from ((f73 19 (by decide)).trans (f49 19 (by decide))), show σ71 64 = σ 64 from ((f73 64 (by decide)).trans (f49 64 (by decide))), show σ71 65 = σ 65 from ((f73 65 (by decide)).trans (f49 65 (by decide))), show (σ71 18 0).toInt = (σ 18 0).toInt from by omega]; exact hr11 nm), (fun nm => by rw [show σ71 23 = σ 23 from ((f73 23 (by decide)).trans (f49 23 (by decide))), show σ71 64 = σ 64 from ((f73 64 (by decide)).trans (f49 64 (by decide))), show σ71 65 = σ 65 from ((f73 65 (by decide)).trans (f49 65 (by decide))), show (σ71 22 0).toInt = (σ 22 0).toInt from by omega]; exact hr12 nm)⟩ hP hS (lv_sub hl [0, 1, 2, 3] rfl)
    · obtain ⟨q155, k150, k151, k152, k153, k154⟩ := h86
      exact absurd (by omega : False) id
  · obtain ⟨q162, k156, k157, k158, k159, k160, k161⟩ := h62
    refine lv_pop hx hb dL_law_981 rfl ?_
    refine lv_aload_n hx hb dL_law_982 rfl (lv_at hl 1 rfl) ?_
    have I163 : jI101 σ47 := jI101_fr (congrFun (f49 55 (by decide)) 4) (congrFun (f49 55 (by decide)) 5) (f49 56 (by decide)) (f49 57 (by decide)) (f49 58 (by decide)) (f49 59 (by decide)) hI101
    have z164 : (σ47 55 5).toInt = (σ 55 5).toInt := (congrArg Int32.toInt (show σ47 55 5 = (σ 55 5) from (congrFun (f49 55 (by decide)) 5)))
    have z165 : (σ47 55 4).toInt = (σ 55 4).toInt := (congrArg Int32.toInt (show σ47 55 4 = (σ 55 4) from (congrFun (f49 55 (by decide)) 4)))
    refine jcallV (As := []) (rest := []) ⟨hx, hb, hml, hown, hts⟩ hK hP hA hS hZ (c_X12_redo l D cI cL ad zz hJ σ47 τ I163) cw_RL_128 (jc_55 cI cL ad σ47 τ) rfl ⟨Nat.le_of_ble_eq_true rfl, Nat.le_of_ble_eq_true rfl⟩ rfl rfl rfl hl.1 rfl (Nat.le_of_ble_eq_true rfl) dL_law_983 ⟨Nat.le_of_ble_eq_true rfl, Nat.le_of_ble_eq_true rfl⟩ (fun r167 σ166 τ166 H locs h166 hP hS => ?_)
    obtain ⟨rfl, f168, f169, I170, h166⟩ := h166
    obtain ⟨i172, i173, i174, w175, w176, w177, w178⟩ : (0 ≤ (σ166 55 5).toInt) ∧ ((σ166 55 5).toInt ≤ (σ166 55 4).toInt) ∧ ((σ166 55 4).toInt ≤ 40) ∧ (∀ k : Nat, k < 68 → (-200) ≤ (σ166 56 k).toInt ∧ (σ166 56 k).toInt ≤ 500) ∧ (∀ k : Nat, k < 40 → 0 ≤ (σ166 57 k).toInt ∧ (σ166 57 k).toInt ≤ 67) ∧ (∀ k : Nat, k < 40 → (-200) ≤ (σ166 58 k).toInt ∧ (σ166 58 k).toInt ≤ 500) ∧ (∀ k : Nat, k < 40 → (-200) ≤ (σ166 59 k).toInt ∧ (σ166 59 k).toInt ≤ 500) := id I170
    have z179 : (σ166 55 4).toInt = (σ 55 4).toInt := (congrArg Int32.toInt (show σ166 55 4 = (σ 55 4) from ((f169 4 (by decide)).trans (congrFun (f49 55 (by decide)) 4))))
    rcases h166 with h180 | h181
    · obtain ⟨q185, k182, k183, k184⟩ := h180
      exact absurd (by omega : False) id
    · obtain ⟨q191, k186, k187, k188, k189, k190⟩ := h181
      refine lv_pop hx hb dL_law_986 rfl ?_
      refine lv_goto (tgt := 1357) hx hb dL_law_987 (by decide) ?_
      obtain ⟨x192, ex192⟩ : ∃ y : Int32, y = x0 + 6 := ⟨_, rfl⟩
      have tx192 : x192.toInt = x0.toInt + 6 := (jadd ex192 rfl jz_6 (by omega) (by omega)).trans (by omega)
      refine lv_iinc (v := x192) (lv' := [(3, .int x192), (2, .ref (ad 55)), (1, .ref (ad 0)), (0, .ref b)]) hx hb dL_law_1357 hl (k := 0) rfl (by rw [ex192]; rfl) (by decide) rfl (fun ls hl => ?_)
      refine lv_goto (tgt := 18) hx hb dL_law_1360 (by decide) ?_
      have I193 : jI2 σ166 := jI2_fr (congrFun (f168 2 (by decide)) 0) (congrFun (f168 2 (by decide)) 1) (congrFun (f168 2 (by decide)) 2) (congrFun (f168 2 (by decide)) 3) (f168 6 (by decide)) I51
      have I194 : jI9 σ166 := jI9_fr ((congrFun (f168 9 (by decide)) 0).trans (congrFun (f49 9 (by decide)) 0)) ((f168 10 (by decide)).trans (f49 10 (by decide))) ((f168 11 (by decide)).trans (f49 11 (by decide))) hI9
      have I195 : jI12 σ166 := jI12_fr ((congrFun (f168 12 (by decide)) 0).trans (congrFun (f49 12 (by decide)) 0)) ((f168 13 (by decide)).trans (f49 13 (by decide))) hI12
      have I196 : jI16 σ166 := jI16_fr ((congrFun (f168 16 (by decide)) 0).trans (congrFun (f49 16 (by decide)) 0)) ((congrFun (f168 16 (by decide)) 1).trans (congrFun (f49 16 (by decide)) 1)) ((congrFun (f168 16 (by decide)) 2).trans (congrFun (f49 16 (by decide)) 2)) ((f168 17 (by decide)).trans (f49 17 (by decide))) hI16
      have I197 : jI18 σ166 := jI18_fr ((congrFun (f168 18 (by decide)) 0).trans (congrFun (f49 18 (by decide)) 0)) ((f168 19 (by decide)).trans (f49 19 (by decide))) hI18
      have I198 : jI22 σ166 := jI22_fr ((congrFun (f168 22 (by decide)) 0).trans (congrFun (f49 22 (by decide)) 0)) ((f168 23 (by decide)).trans (f49 23 (by decide))) hI22
      have I199 : jI31 σ166 := jI31_fr ((congrFun (f168 31 (by decide)) 8).trans (congrFun (f49 31 (by decide)) 8)) ((congrFun (f168 31 (by decide)) 10).trans (congrFun (f49 31 (by decide)) 10)) ((congrFun (f168 31 (by decide)) 11).trans (congrFun (f49 31 (by decide)) 11)) ((f168 33 (by decide)).trans (f49 33 (by decide))) ((f168 35 (by decide)).trans (f49 35 (by decide))) ((f168 36 (by decide)).trans (f49 36 (by decide))) hI31
      have I200 : jI38 σ166 := jI38_fr ((congrFun (f168 38 (by decide)) 0).trans (congrFun (f49 38 (by decide)) 0)) ((congrFun (f168 38 (by decide)) 1).trans (congrFun (f49 38 (by decide)) 1)) ((f168 39 (by decide)).trans (f49 39 (by decide))) hI38
      have I201 : jI43 σ166 := jI43_fr ((congrFun (f168 43 (by decide)) 8).trans (congrFun (f49 43 (by decide)) 8)) hI43
      have I202 : jI47 σ166 := jI47_fr ((congrFun (f168 47 (by decide)) 0).trans (congrFun (f49 47 (by decide)) 0)) ((f168 48 (by decide)).trans (f49 48 (by decide))) ((f168 49 (by decide)).trans (f49 49 (by decide))) hI47
      have I203 : jI50 σ166 := jI50_fr ((f168 52 (by decide)).trans (f49 52 (by decide))) hI50
      have I204 : jI0 σ166 := jI0_fr ((f168 1 (by decide)).trans (f49 1 (by decide))) hI0
      have I205 : jI26 σ166 := jI26_fr ((congrFun (f168 26 (by decide)) 6).trans (congrFun (f49 26 (by decide)) 6)) hI26
      have I206 : jI102 σ166 := jI102_fr ((f169 6 (by decide)).trans (congrFun (f49 55 (by decide)) 6)) ((f168 60 (by decide)).trans (f49 60 (by decide))) ((f168 61 (by decide)).trans (f49 61 (by decide))) hI102
      have I207 : jI103 σ166 := jI103_fr ((f169 9 (by decide)).trans (congrFun (f49 55 (by decide)) 9)) hI103
      have I208 : jI104 σ166 := jI104_fr ((f169 10 (by decide)).trans (congrFun (f49 55 (by decide)) 10)) ((f169 12 (by decide)).trans (congrFun (f49 55 (by decide)) 12)) ((f169 13 (by decide)).trans (congrFun (f49 55 (by decide)) 13)) ((f168 62 (by decide)).trans (f49 62 (by decide))) ((f168 67 (by decide)).trans (f49 67 (by decide))) hI104
      have I209 : jI105 σ166 := jI105_fr ((f169 15 (by decide)).trans (congrFun (f49 55 (by decide)) 15)) ((f168 65 (by decide)).trans (f49 65 (by decide))) hI105
      have I210 : jI106 σ166 := jI106_fr ((f169 32 (by decide)).trans (congrFun (f49 55 (by decide)) 32)) ((f168 70 (by decide)).trans (f49 70 (by decide))) ((f168 71 (by decide)).trans (f49 71 (by decide))) ((f168 72 (by decide)).trans (f49 72 (by decide))) hI106
      have I211 : jI107 σ166 := jI107_fr ((f169 12 (by decide)).trans (congrFun (f49 55 (by decide)) 12)) ((f169 47 (by decide)).trans (congrFun (f49 55 (by decide)) 47)) ((f168 80 (by decide)).trans (f49 80 (by decide))) hI107
      have I212 : jI109 σ166 := jI109_fr ((f169 50 (by decide)).trans (congrFun (f49 55 (by decide)) 50)) hI109
      have I213 : jI110 σ166 := jI110_fr ((f168 86 (by decide)).trans (f49 86 (by decide))) ((f168 87 (by decide)).trans (f49 87 (by decide))) hI110
      have I214 : jI111 σ166 := jI111_fr ((f168 79 (by decide)).trans (f49 79 (by decide))) hI111
      have I215 : jI119 σ166 := jI119_fr ((f168 68 (by decide)).trans (f49 68 (by decide))) hI119
      have p216 : jKept σ166 := jKept.fr ((f168 75 (by decide)).trans (f49 75 (by decide))) ((f168 76 (by decide)).trans (f49 76 (by decide))) ((f168 77 (by decide)).trans (f49 77 (by decide))) hs_jKept
      have p217 : jBook σ166 := jBook.fr ((f169 47 (by decide)).trans (congrFun (f49 55 (by decide)) 47)) ((f169 10 (by decide)).trans (congrFun (f49 55 (by decide)) 10)) ((f168 81 (by decide)).trans (f49 81 (by decide))) hs_jBook
      have p218 : jNd12 σ166 := jNd12.fr ((congrFun (f168 12 (by decide)) 0).trans (congrFun (f49 12 (by decide)) 0)) ((congrFun (f168 12 (by decide)) 1).trans (congrFun (f49 12 (by decide)) 1)) ((f168 13 (by decide)).trans (f49 13 (by decide))) hs_jNd12
      have p219 : jN67 σ166 := jN67.fr ((f168 24 (by decide)).trans (f49 24 (by decide))) hs_jN67
      have p220 : jBl σ166 := jBl.fr ((congrFun (f168 22 (by decide)) 0).trans (congrFun (f49 22 (by decide)) 0)) ((congrFun (f168 22 (by decide)) 1).trans (congrFun (f49 22 (by decide)) 1)) ((f168 23 (by decide)).trans (f49 23 (by decide))) ((congrFun (f168 26 (by decide)) 6).trans (congrFun (f49 26 (by decide)) 6)) ((congrFun (f168 26 (by decide)) 7).trans (congrFun (f49 26 (by decide)) 7)) ((f168 29 (by decide)).trans (f49 29 (by decide))) ((f168 30 (by decide)).trans (f49 30 (by decide))) hs_jBl
      have p221 : jKb σ166 := jKb.fr ((congrFun (f168 31 (by decide)) 8).trans (congrFun (f49 31 (by decide)) 8)) ((congrFun (f168 31 (by decide)) 11).trans (congrFun (f49 31 (by decide)) 11)) ((f168 32 (by decide)).trans (f49 32 (by decide))) hs_jKb
      have p222 : jTR σ166 := jTR.fr ((f168 64 (by decide)).trans (f49 64 (by decide))) ((f168 65 (by decide)).trans (f49 65 (by decide))) hs_jTR
      have p223 : jKh σ166 := jKh.fr ((congrFun (f168 31 (by decide)) 8).trans (congrFun (f49 31 (by decide)) 8)) ((f168 32 (by decide)).trans (f49 32 (by decide))) ((f168 36 (by decide)).trans (f49 36 (by decide))) ((f168 37 (by decide)).trans (f49 37 (by decide))) hs_jKh
      have p224 : jKg σ166 := jKg.fr ((congrFun (f168 31 (by decide)) 8).trans (congrFun (f49 31 (by decide)) 8)) ((congrFun (f168 31 (by decide)) 9).trans (congrFun (f49 31 (by decide)) 9)) ((congrFun (f168 31 (by decide)) 11).trans (congrFun (f49 31 (by decide)) 11)) ((congrFun (f168 31 (by decide)) 12).trans (congrFun (f49 31 (by decide)) 12)) ((f168 32 (by decide)).trans (f49 32 (by decide))) ((f168 33 (by decide)).trans (f49 33 (by decide))) hs_jKg
      have z225 : (σ166 2 0).toInt = (σ 2 0).toInt := (congrArg Int32.toInt (show σ166 2 0 = (σ 2 0) from ((congrFun (f168 2 (by decide)) 0).trans (f50 0 (by decide)))))
      have z226 : (σ166 55 6).toInt = (σ 55 6).toInt := (congrArg Int32.toInt (show σ166 55 6 = (σ 55 6) from ((f169 6 (by decide)).trans (congrFun (f49 55 (by decide)) 6))))
      have z227 : (σ166 2 2).toInt = (σ47 2 2).toInt := (congrArg Int32.toInt (show σ166 2 2 = (σ47 2 2) from (congrFun (f168 2 (by decide)) 2)))
      have z228 : (σ166 2 3).toInt = (σ47 2 3).toInt := (congrArg Int32.toInt (show σ166 2 3 = (σ47 2 3) from (congrFun (f168 2 (by decide)) 3)))
      have z229 : (σ166 9 0).toInt = (σ 9 0).toInt := (congrArg Int32.toInt (show σ166 9 0 = (σ 9 0) from ((congrFun (f168 9 (by decide)) 0).trans (congrFun (f49 9 (by decide)) 0))))
      have z230 : (σ166 55 15).toInt = (σ 55 15).toInt := (congrArg Int32.toInt (show σ166 55 15 = (σ 55 15) from ((f169 15 (by decide)).trans (congrFun (f49 55 (by decide)) 15))))
      have z231 : (σ166 16 0).toInt = (σ 16 0).toInt := (congrArg Int32.toInt (show σ166 16 0 = (σ 16 0) from ((congrFun (f168 16 (by decide)) 0).trans (congrFun (f49 16 (by decide)) 0))))
      have z232 : (σ166 55 10).toInt = (σ 55 10).toInt := (congrArg Int32.toInt (show σ166 55 10 = (σ 55 10) from ((f169 10 (by decide)).trans (congrFun (f49 55 (by decide)) 10))))
      have z233 : (σ166 16 1).toInt = (σ 16 1).toInt := (congrArg Int32.toInt (show σ166 16 1 = (σ 16 1) from ((congrFun (f168 16 (by decide)) 1).trans (congrFun (f49 16 (by decide)) 1))))
      have z234 : (σ166 55 12).toInt = (σ 55 12).toInt := (congrArg Int32.toInt (show σ166 55 12 = (σ 55 12) from ((f169 12 (by decide)).trans (congrFun (f49 55 (by decide)) 12))))
      have z235 : (σ166 16 2).toInt = (σ 16 2).toInt := (congrArg Int32.toInt (show σ166 16 2 = (σ 16 2) from ((congrFun (f168 16 (by decide)) 2).trans (congrFun (f49 16 (by decide)) 2))))
      have z236 : (σ166 55 13).toInt = (σ 55 13).toInt := (congrArg Int32.toInt (show σ166 55 13 = (σ 55 13) from ((f169 13 (by decide)).trans (congrFun (f49 55 (by decide)) 13))))
      have z237 : (σ166 38 0).toInt = (σ 38 0).toInt := (congrArg Int32.toInt (show σ166 38 0 = (σ 38 0) from ((congrFun (f168 38 (by decide)) 0).trans (congrFun (f49 38 (by decide)) 0))))
      have z238 : (σ166 55 32).toInt = (σ 55 32).toInt := (congrArg Int32.toInt (show σ166 55 32 = (σ 55 32) from ((f169 32 (by decide)).trans (congrFun (f49 55 (by decide)) 32))))
      have z239 : (σ166 38 1).toInt = (σ 38 1).toInt := (congrArg Int32.toInt (show σ166 38 1 = (σ 38 1) from ((congrFun (f168 38 (by decide)) 1).trans (congrFun (f49 38 (by decide)) 1))))
      have z240 : (σ166 55 55).toInt = (σ 55 55).toInt := (congrArg Int32.toInt (show σ166 55 55 = (σ 55 55) from ((f169 55 (by decide)).trans (congrFun (f49 55 (by decide)) 55))))
      have z241 : (σ166 47 0).toInt = (σ 47 0).toInt := (congrArg Int32.toInt (show σ166 47 0 = (σ 47 0) from ((congrFun (f168 47 (by decide)) 0).trans (congrFun (f49 47 (by decide)) 0))))
      have z242 : (σ166 55 47).toInt = (σ 55 47).toInt := (congrArg Int32.toInt (show σ166 55 47 = (σ 55 47) from ((f169 47 (by decide)).trans (congrFun (f49 55 (by decide)) 47))))
      have z243 : (σ166 55 30).toInt = (σ 55 30).toInt := (congrArg Int32.toInt (show σ166 55 30 = (σ 55 30) from ((f169 30 (by decide)).trans (congrFun (f49 55 (by decide)) 30))))
      have z244 : (σ166 55 31).toInt = (σ 55 31).toInt := (congrArg Int32.toInt (show σ166 55 31 = (σ 55 31) from ((f169 31 (by decide)).trans (congrFun (f49 55 (by decide)) 31))))
      have z245 : (σ166 2 1).toInt = (σ 2 1).toInt := (congrArg Int32.toInt (show σ166 2 1 = (σ 2 1) from ((congrFun (f168 2 (by decide)) 1).trans (f50 1 (by decide)))))
      have z246 : (σ166 55 9).toInt = (σ 55 9).toInt := (congrArg Int32.toInt (show σ166 55 9 = (σ 55 9) from ((f169 9 (by decide)).trans (congrFun (f49 55 (by decide)) 9))))
      have z247 : (σ166 26 6).toInt = (σ 26 6).toInt := (congrArg Int32.toInt (show σ166 26 6 = (σ 26 6) from ((congrFun (f168 26 (by decide)) 6).trans (congrFun (f49 26 (by decide)) 6))))
      rw [show (σ 2 2).toInt = (σ 55 5).toInt from by omega] at k161
      rw [show (σ47 55 5).toInt = (σ 55 5).toInt from by omega, show σ47 56 = σ 56 from (f49 56 (by decide)), show σ47 57 = σ 57 from (f49 57 (by decide)), show σ47 59 = σ 59 from (f49 59 (by decide))] at k190
      have p248 := hr0.forth (by omega) (by omega) k161 k190
      have z250 : (σ166 18 0).toInt = (σ 18 0).toInt := (congrArg Int32.toInt (show σ166 18 0 = (σ 18 0) from ((congrFun (f168 18 (by decide)) 0).trans (congrFun (f49 18 (by decide)) 0))))
      have z251 : (σ166 22 0).toInt = (σ 22 0).toInt := (congrArg Int32.toInt (show σ166 22 0 = (σ 22 0) from ((congrFun (f168 22 (by decide)) 0).trans (congrFun (f49 22 (by decide)) 0))))
      exact ih x192 σ166 τ _ _ ls (by have h9 := tx192; omega) ⟨I193, I194, I195, I196, I197, I198, I199, I200, I201, I202, I203, I204, I205, I170, I206, I207, I208, I209, I210, I211, I212, I213, I214, I215, p216, p217, p218, p219, p220, p221, p222, p223, p224, (by omega), (by omega), (by omega), (by omega), (by omega), (by omega), (by omega), (by omega), (by omega), (by omega), (by omega), (by omega), (by omega), (by have h9 := tx192; omega), (show jNumP (σ166 3) (σ166 56) (σ166 6) (σ166 57) (σ166 7) (σ166 58) (σ166 8) (σ166 59) (σ166 55 6).toInt (σ166 55 4).toInt by rw [show σ166 3 = σ47 3 from (f168 3 (by decide)), show σ166 6 = σ 6 from ((f168 6 (by decide)).trans (f49 6 (by decide))), show σ166 57 = σ 57 from ((f168 57 (by decide)).trans (f49 57 (by decide))), show σ166 7 = σ 7 from ((f168 7 (by decide)).trans (f49 7 (by decide))), show σ166 58 = σ 58 from ((f168 58 (by decide)).trans (f49 58 (by decide))), show σ166 8 = σ 8 from ((f168 8 (by decide)).trans (f49 8 (by decide))), show σ166 59 = σ 59 from ((f168 59 (by decide)).trans (f49 59 (by decide))), show (σ166 55 6).toInt = (σ 55 6).toInt from by omega, show (σ166 55 4).toInt = (σ 55 4).toInt from by omega]; exact p248), (show jOvP (σ166 56) (σ166 57) (σ166 58) (σ166 59) (σ166 55 4).toInt by rw [show σ166 57 = σ 57 from ((f168 57 (by decide)).trans (f49 57 (by decide))), show σ166 58 = σ 58 from ((f168 58 (by decide)).trans (f49 58 (by decide))), show σ166 59 = σ 59 from ((f168 59 (by decide)).trans (f49 59 (by decide))), show (σ166 55 4).toInt = (σ 55 4).toInt from by omega]; exact (hr1.forth (by omega) (by omega) ((hr0.2.2 ((σ 55 5).toInt).toNat (by omega)).2.1.1) k190)), (show jTp (σ166 10) (σ166 63) (σ166 55 15).toInt by rw [show σ166 10 = σ 10 from ((f168 10 (by decide)).trans (f49 10 (by decide))), show σ166 63 = σ 63 from ((f168 63 (by decide)).trans (f49 63 (by decide)))]; exact hr2.le (by omega)), (show jSo (σ166 17) (σ166 62) (σ166 16 0).toInt by rw [show σ166 17 = σ 17 from ((f168 17 (by decide)).trans (f49 17 (by decide))), show σ166 62 = σ 62 from ((f168 62 (by decide)).trans (f49 62 (by decide))), show (σ166 16 0).toInt = (σ 16 0).toInt from by omega]; exact hr3), (show jShP (σ166 51) (σ166 52) (σ166 53) (σ166 86) (σ166 87) (σ166 55 32).toInt by rw [show σ166 51 = σ 51 from ((f168 51 (by decide)).trans (f49 51 (by decide))), show σ166 52 = σ 52 from ((f168 52 (by decide)).trans (f49 52 (by decide))), show σ166 53 = σ 53 from ((f168 53 (by decide)).trans (f49 53 (by decide))), show σ166 86 = σ 86 from ((f168 86 (by decide)).trans (f49 86 (by decide))), show σ166 87 = σ 87 from ((f168 87 (by decide)).trans (f49 87 (by decide)))]; exact (hr4.up (by omega) (by omega))), (show jEl (σ166 51) (σ166 52) (τ 54) (τ 88) by rw [show σ166 51 = σ 51 from ((f168 51 (by decide)).trans (f49 51 (by decide))), show σ166 52 = σ 52 from ((f168 52 (by decide)).trans (f49 52 (by decide)))]; exact hr5), (show jByP (σ166 51) (σ166 52) (τ 54) by rw [show σ166 51 = σ 51 from ((f168 51 (by decide)).trans (f49 51 (by decide))), show σ166 52 = σ 52 from ((f168 52 (by decide)).trans (f49 52 (by decide)))]; exact hr6), (show jBk (σ166 48) (σ166 80) (σ166 49) (σ166 81) (σ166 55 47).toInt by rw [show σ166 48 = σ 48 from ((f168 48 (by decide)).trans (f49 48 (by decide))), show σ166 49 = σ 49 from ((f168 49 (by decide)).trans (f49 49 (by decide))), show σ166 80 = σ 80 from ((f168 80 (by decide)).trans (f49 80 (by decide))), show σ166 81 = σ 81 from ((f168 81 (by decide)).trans (f49 81 (by decide))), show (σ166 55 47).toInt = (σ 55 47).toInt from by omega]; exact hr7), (show jKd (σ166 39) (σ166 70) (σ166 55 32).toInt by rw [show σ166 39 = σ 39 from ((f168 39 (by decide)).trans (f49 39 (by decide))), show σ166 70 = σ 70 from ((f168 70 (by decide)).trans (f49 70 (by decide))), show (σ166 55 32).toInt = (σ 55 32).toInt from by omega]; exact hr8), (show jTt (σ166 42) (σ166 85) (σ166 55 55).toInt by rw [show σ166 42 = σ 42 from ((f168 42 (by decide)).trans (f49 42 (by decide))), show σ166 85 = σ 85 from ((f168 85 (by decide)).trans (f49 85 (by decide))), show (σ166 55 55).toInt = (σ 55 55).toInt from by omega]; exact hr9), (fun k hk => by rw [show σ166 4 = σ 4 from ((f168 4 (by decide)).trans (f49 4 (by decide))), show σ166 5 = σ 5 from ((f168 5 (by decide)).trans (f49 5 (by decide))), show σ166 60 = σ 60 from ((f168 60 (by decide)).trans (f49 60 (by decide))), show σ166 61 = σ 61 from ((f168 61 (by decide)).trans (f49 61 (by decide)))]; exact hr10 k (by omega)), (fun nm => by rw [show σ166 19 = σ 19 from ((f168 19 (by decide)).trans (f49 19 (by decide))), show σ166 64 = σ 64 from ((f168 64 (by decide)).trans (f49 64 (by decide))), show σ166 65 = σ 65 from ((f168 65 (by decide)).trans (f49 65 (by decide))), show (σ166 18 0).toInt = (σ 18 0).toInt from by omega]; exact hr11 nm), (fun nm => by rw [show σ166 23 = σ 23 from ((f168 23 (by decide)).trans (f49 23 (by decide))), show σ166 64 = σ 64 from ((f168 64 (by decide)).trans (f49 64 (by decide))), show σ166 65 = σ 65 from ((f168 65 (by decide)).trans (f49 65 (by decide))), show (σ166 22 0).toInt = (σ 22 0).toInt from by omega]; exact hr12 nm)⟩ hP hS (lv_sub hl [0, 1, 2, 3] rfl)
set_option maxHeartbeats 4000000 in
set_option maxRecDepth 100000 in
theorem law_case_28 {p : Program} {e : Env} {s : State} {m : MethodId} {below : List Frame} {meth : Method} {c : Code} (l : Launch) {b L : Nat} {xs : Nat → Int32} {D : va_G} {cI cL : ClassId} {ad zz : Nat → Nat} (C0 : lw_At p s m meth c b L xs) (hJ : jD ad) (hA : ∀ q, jA ad q → s.heap.size ≤ q) (hK : jK D cI cL s) (hZ : jZ zz (fun q : Nat => s.heap.size ≤ q) s s.heap) {x0 : Int32} (hx0 : 0 ≤ x0.toInt) (hxL : x0.toInt + 6 ≤ (L : Int)) (hL : L ≤ 384) {σ : Nat → Nat → Int32} {τ : Nat → Nat → Int64} {H : Heap} {locs : List Loc} (hS : va_S (fun q : Nat => s.heap.size ≤ q) s.heap H locs) {ls : Array Slot} (hAll : jAll x0.toInt σ τ) (hP : jH D cI cL ad σ τ H) (hl : lv_has ls 4 [(3, .int x0), (2, .ref (ad 55)), (1, .ref (ad 0)), (0, .ref b)]) (ih : ∀ (x1 : Int32) (σ : Nat → Nat → Int32) (τ : Nat → Nat → Int64) (H : Heap) (locs : List Loc) (ls : Array Slot), x1.toInt = x0.toInt + 6 → jAll x1.toInt σ τ → jH D cI cL ad σ τ H → va_S (fun q : Nat => s.heap.size ≤ q) s.heap H locs → lv_has ls 4 [(3, .int x1), (2, .ref (ad 55)), (1, .ref (ad 0)), (0, .ref b)] → W p l e room_1 s m #[Value.ref b] below meth c H locs 90 348600 (lw_Z below #[Value.ref b] s) (F0 m 18 ls [])) : W p l e room_1 s m #[Value.ref b] below meth c H locs 90 348600 (lw_Z below #[Value.ref b] s) (F0 m 990 ls []) := by
  obtain ⟨hx, hb, hr, hml, hown, hts0, hX, hbl, hlocks, hgv⟩ := C0
  have hts : ∀ w ∈ wsL_law, w.before #[Value.ref b] s = true := fun w h => hts0 w (wsL_law_in w h)
  have hbA : ¬ (fun q : Nat => s.heap.size ≤ q) b := Nat.not_le.mpr hbl
  have hown : s.vm.findClass RL = some m.cls := hown
  obtain ⟨hI2, hI9, hI12, hI16, hI18, hI22, hI31, hI38, hI43, hI47, hI50, hI0, hI26, hI101, hI102, hI103, hI104, hI105, hI106, hI107, hI109, hI110, hI111, hI119, hs_jKept, hs_jBook, hs_jNd12, hs_jN67, hs_jBl, hs_jKb, hs_jTR, hs_jKh, hs_jKg, ht0, ht1, ht2, ht3, ht4, ht5, ht6, ht7, ht8, ht9, ht10, ht11, ht12, ht13, hr0, hr1, hr2, hr3, hr4, hr5, hr6, hr7, hr8, hr9, hr10, hr11, hr12⟩ := hAll
  have hL9 : (L : Int) ≤ 384 := by omega
  obtain ⟨i1, i2, i3, i4, i5, w6⟩ : (0 ≤ (σ 2 0).toInt ∧ (σ 2 0).toInt ≤ 4) ∧ (0 ≤ (σ 2 1).toInt ∧ (σ 2 1).toInt ≤ 3) ∧ (0 ≤ (σ 2 2).toInt) ∧ (0 ≤ (σ 2 3).toInt) ∧ ((σ 2 2).toInt + (σ 2 3).toInt ≤ 40) ∧ (∀ k : Nat, k < 40 → 0 ≤ (σ 6 k).toInt ∧ (σ 6 k).toInt ≤ 67) := id hI2
  obtain ⟨i7, w8, w9⟩ : (0 ≤ (σ 9 0).toInt ∧ (σ 9 0).toInt ≤ 80) ∧ (∀ k : Nat, k < 80 → 0 ≤ (σ 10 k).toInt ∧ (σ 10 k).toInt ≤ 255) ∧ (∀ k : Nat, k < 8 → 0 ≤ (σ 11 k).toInt ∧ (σ 11 k).toInt ≤ 3) := id hI9
  obtain ⟨i10, i11, i12, w13⟩ : (1 ≤ (σ 16 0).toInt ∧ (σ 16 0).toInt ≤ 8) ∧ (1 ≤ (σ 16 1).toInt ∧ (σ 16 1).toInt ≤ 12) ∧ (0 ≤ (σ 16 2).toInt ∧ (σ 16 2).toInt ≤ 999) ∧ (∀ k : Nat, k < 8 → 0 ≤ (σ 17 k).toInt ∧ (σ 17 k).toInt ≤ 3) := id hI16
  obtain ⟨i14, i15, w16⟩ : (0 ≤ (σ 38 0).toInt ∧ (σ 38 0).toInt ≤ 20) ∧ (0 ≤ (σ 38 1).toInt ∧ (σ 38 1).toInt ≤ 1000) ∧ (∀ k : Nat, k < 20 → 0 ≤ (σ 39 k).toInt ∧ (σ 39 k).toInt ≤ 6) := id hI38
  obtain ⟨i17, w18, w19⟩ : (0 ≤ (σ 47 0).toInt ∧ (σ 47 0).toInt ≤ 12) ∧ (∀ k : Nat, k < 12 → 0 ≤ (σ 48 k).toInt ∧ (σ 48 k).toInt ≤ 3) ∧ (∀ k : Nat, k < 12 → 0 ≤ (σ 49 k).toInt ∧ (σ 49 k).toInt ≤ 1) := id hI47
  have w20 : ∀ k : Nat, k < 6 → 0 ≤ (σ 52 k).toInt ∧ (σ 52 k).toInt ≤ 60 := hI50
  have i21 : 1 ≤ (σ 26 6).toInt ∧ (σ 26 6).toInt ≤ 8000 := hI26
  obtain ⟨i22, i23, i24, w25, w26, w27, w28⟩ : (0 ≤ (σ 55 5).toInt) ∧ ((σ 55 5).toInt ≤ (σ 55 4).toInt) ∧ ((σ 55 4).toInt ≤ 40) ∧ (∀ k : Nat, k < 68 → (-200) ≤ (σ 56 k).toInt ∧ (σ 56 k).toInt ≤ 500) ∧ (∀ k : Nat, k < 40 → 0 ≤ (σ 57 k).toInt ∧ (σ 57 k).toInt ≤ 67) ∧ (∀ k : Nat, k < 40 → (-200) ≤ (σ 58 k).toInt ∧ (σ 58 k).toInt ≤ 500) ∧ (∀ k : Nat, k < 40 → (-200) ≤ (σ 59 k).toInt ∧ (σ 59 k).toInt ≤ 500) := id hI101
  obtain ⟨i29, w30, w31⟩ : (0 ≤ (σ 55 6).toInt ∧ (σ 55 6).toInt ≤ 4) ∧ (∀ k : Nat, k < 4 → 0 ≤ (σ 60 k).toInt ∧ (σ 60 k).toInt ≤ 50) ∧ (∀ k : Nat, k < 4 → 0 ≤ (σ 61 k).toInt ∧ (σ 61 k).toInt ≤ 20) := id hI102
  have i32 : 0 ≤ (σ 55 9).toInt ∧ (σ 55 9).toInt ≤ 3 := hI103
  obtain ⟨i33, i34, i35, w36, w37⟩ : (1 ≤ (σ 55 10).toInt ∧ (σ 55 10).toInt ≤ 8) ∧ (1 ≤ (σ 55 12).toInt ∧ (σ 55 12).toInt ≤ 12) ∧ (0 ≤ (σ 55 13).toInt ∧ (σ 55 13).toInt ≤ 999) ∧ (∀ k : Nat, k < 8 → 0 ≤ (σ 62 k).toInt ∧ (σ 62 k).toInt ≤ 3) ∧ (∀ k : Nat, k < 8 → 0 ≤ (σ 67 k).toInt ∧ (σ 67 k).toInt ≤ 3) := id hI104
  obtain ⟨i38, w39⟩ : (0 ≤ (σ 55 15).toInt ∧ (σ 55 15).toInt ≤ 80) ∧ (∀ k : Nat, k < 2 → (-1) ≤ (σ 65 k).toInt ∧ (σ 65 k).toInt ≤ 80) := id hI105
  obtain ⟨i40, w41, w42, w43⟩ : (0 ≤ (σ 55 32).toInt ∧ (σ 55 32).toInt ≤ 20) ∧ (∀ k : Nat, k < 20 → 0 ≤ (σ 70 k).toInt ∧ (σ 70 k).toInt ≤ 6) ∧ (∀ k : Nat, k < 20 → 0 ≤ (σ 71 k).toInt ∧ (σ 71 k).toInt ≤ 8) ∧ (∀ k : Nat, k < 160 → 0 ≤ (σ 72 k).toInt ∧ (σ 72 k).toInt ≤ 3) := id hI106
  obtain ⟨i44, i45, w46⟩ : (0 ≤ (σ 55 47).toInt ∧ (σ 55 47).toInt ≤ 12) ∧ ((σ 55 47).toInt ≤ (σ 55 12).toInt) ∧ (∀ k : Nat, k < 12 → 0 ≤ (σ 80 k).toInt ∧ (σ 80 k).toInt ≤ 3) := id hI107
  have hs_jOk3 : jOk3 σ := hr0.ok hr1.1
  refine lv_aload_n hx hb dL_law_990 rfl (lv_at hl 2 rfl) ?_
  refine lv_aload_n hx hb dL_law_991 rfl (lv_at hl 3 rfl) ?_
  refine lv_iload_n hx hb dL_law_992 rfl (lv_at hl 0 rfl) ?_
  refine lv_iconst (v := 1) hx hb dL_law_993 (by decide) ?_
  have g47 := jrg (rfl : x0.toInt = x0.toInt)
  refine lv_iadd hx hb dL_law_994 ?_
  refine lv_topi (fun x48 ex48 => ?_)
  have tx48 : x48.toInt = x0.toInt + 1 := (jadd ex48 rfl jz_1 (by omega) (by omega)).trans (by omega)
  refine va_sld hx hb hX hbl hbA hS (jin tx48 (by omega) (by omega)) dL_law_995 ?_
  have g49 := jrg (rfl : (xs x48.toNatClampNeg).toInt = (xs x48.toNatClampNeg).toInt)
  refine lv_aload_n hx hb dL_law_996 rfl (lv_at hl 3 rfl) ?_
  refine lv_iload_n hx hb dL_law_997 rfl (lv_at hl 0 rfl) ?_
  refine lv_iconst (v := 2) hx hb dL_law_998 (by decide) ?_
  refine lv_iadd hx hb dL_law_999 ?_
  refine lv_topi (fun x50 ex50 => ?_)
  have tx50 : x50.toInt = x0.toInt + 2 := (jadd ex50 rfl jz_2 (by omega) (by omega)).trans (by omega)
  refine va_sld hx hb hX hbl hbA hS (jin tx50 (by omega) (by omega)) dL_law_1000 ?_
  have g51 := jrg (rfl : (xs x50.toNatClampNeg).toInt = (xs x50.toNatClampNeg).toInt)
  refine lv_aload_n hx hb dL_law_1001 rfl (lv_at hl 3 rfl) ?_
  refine lv_iload_n hx hb dL_law_1002 rfl (lv_at hl 0 rfl) ?_
  refine lv_iconst (v := 3) hx hb dL_law_1003 (by decide) ?_
  refine lv_iadd hx hb dL_law_1004 ?_
  refine lv_topi (fun x52 ex52 => ?_)
  have tx52 : x52.toInt = x0.toInt + 3 := (jadd ex52 rfl jz_3 (by omega) (by omega)).trans (by omega)
  refine va_sld hx hb hX hbl hbA hS (jin tx52 (by omega) (by omega)) dL_law_1005 ?_
  have g53 := jrg (rfl : (xs x52.toNatClampNeg).toInt = (xs x52.toNatClampNeg).toInt)
  refine jcallV (As := [.int (xs x48.toNatClampNeg), .int (xs x50.toNatClampNeg), .int (xs x52.toNatClampNeg)]) (rest := []) ⟨hx, hb, hml, hown, hts⟩ hK hP hA hS hZ (c_X11_act l D cI cL ad zz hJ σ τ (xs x48.toNatClampNeg) ((xs x48.toNatClampNeg).toInt) rfl (xs x50.toNatClampNeg) ((xs x50.toNatClampNeg).toInt) rfl (xs x52.toNatClampNeg) ((xs x52.toNatClampNeg).toInt) rfl hI38) cw_RL_129 (jc_0 cI cL ad σ τ) rfl ⟨Nat.le_of_ble_eq_true rfl, Nat.le_of_ble_eq_true rfl⟩ rfl rfl rfl hl.1 rfl (Nat.le_of_ble_eq_true rfl) dL_law_1006 ⟨Nat.le_of_ble_eq_true rfl, Nat.le_of_ble_eq_true rfl⟩ (fun r55 σ54 τ54 H locs h54 hP hS => ?_)
  obtain ⟨rfl, f56, f57, I58, h54⟩ := h54
  obtain ⟨i60, i61, w62⟩ : (0 ≤ (σ54 38 0).toInt ∧ (σ54 38 0).toInt ≤ 20) ∧ (0 ≤ (σ54 38 1).toInt ∧ (σ54 38 1).toInt ≤ 1000) ∧ (∀ k : Nat, k < 20 → 0 ≤ (σ54 39 k).toInt ∧ (σ54 39 k).toInt ≤ 6) := id I58
  have z63 : (σ54 38 0).toInt = (σ 38 0).toInt := (congrArg Int32.toInt (show σ54 38 0 = (σ 38 0) from (f57 0 (by decide))))
  rcases h54 with h64 | h65
  · obtain ⟨q68, k66, k67⟩ := h64
    have q68 := q68.symm
    subst q68
    refine lv_pop hx hb dL_law_1009 rfl ?_
    refine lv_aload_n hx hb dL_law_1010 rfl (lv_at hl 1 rfl) ?_
    refine lv_aload_n hx hb dL_law_1011 rfl (lv_at hl 3 rfl) ?_
    refine lv_iload_n hx hb dL_law_1012 rfl (lv_at hl 0 rfl) ?_
    refine lv_iconst (v := 1) hx hb dL_law_1013 (by decide) ?_
    refine lv_iadd hx hb dL_law_1014 ?_
    refine jtopr ex48.symm ?_
    refine va_sld hx hb hX hbl hbA hS (jin tx48 (by omega) (by omega)) dL_law_1015 ?_
    refine lv_aload_n hx hb dL_law_1016 rfl (lv_at hl 3 rfl) ?_
    refine lv_iload_n hx hb dL_law_1017 rfl (lv_at hl 0 rfl) ?_
    refine lv_iconst (v := 2) hx hb dL_law_1018 (by decide) ?_
    refine lv_iadd hx hb dL_law_1019 ?_
    refine jtopr ex50.symm ?_
    refine va_sld hx hb hX hbl hbA hS (jin tx50 (by omega) (by omega)) dL_law_1020 ?_
    refine lv_aload_n hx hb dL_law_1021 rfl (lv_at hl 3 rfl) ?_
    refine lv_iload_n hx hb dL_law_1022 rfl (lv_at hl 0 rfl) ?_
    refine lv_iconst (v := 3) hx hb dL_law_1023 (by decide) ?_
    refine lv_iadd hx hb dL_law_1024 ?_
    refine jtopr ex52.symm ?_
    refine va_sld hx hb hX hbl hbA hS (jin tx52 (by omega) (by omega)) dL_law_1025 ?_
    have I69 : jI106 σ54 := jI106_fr (congrFun (f56 55 (by decide)) 32) (f56 70 (by decide)) (f56 71 (by decide)) (f56 72 (by decide)) hI106
    have z70 : (σ54 55 32).toInt = (σ 55 32).toInt := (congrArg Int32.toInt (show σ54 55 32 = (σ 55 32) from (congrFun (f56 55 (by decide)) 32)))
    refine jcallV (As := [.int (xs x48.toNatClampNeg), .int (xs x50.toNatClampNeg), .int (xs x52.toNatClampNeg)]) (rest := []) ⟨hx, hb, hml, hown, hts⟩ hK hP hA hS hZ (c_X12_act l D cI cL ad zz hJ σ54 τ (xs x48.toNatClampNeg) ((xs x48.toNatClampNeg).toInt) rfl (xs x50.toNatClampNeg) ((xs x50.toNatClampNeg).toInt) rfl (xs x52.toNatClampNeg) ((xs x52.toNatClampNeg).toInt) rfl I69) cw_RL_132 (jc_55 cI cL ad σ54 τ) rfl ⟨Nat.le_of_ble_eq_true rfl, Nat.le_of_ble_eq_true rfl⟩ rfl rfl rfl hl.1 rfl (Nat.le_of_ble_eq_true rfl) dL_law_1026 ⟨Nat.le_of_ble_eq_true rfl, Nat.le_of_ble_eq_true rfl⟩ (fun r72 σ71 τ71 H locs h71 hP hS => ?_)
    obtain ⟨rfl, f73, f74, h71⟩ := h71
    rcases h71 with h76 | h77
    · obtain ⟨q80, k78, k79⟩ := h76
      have q80 := q80.symm
      subst q80
      refine lv_pop hx hb dL_law_1029 rfl ?_
      refine lv_goto (tgt := 1357) hx hb dL_law_1030 (by decide) ?_
      obtain ⟨x81, ex81⟩ : ∃ y : Int32, y = x0 + 6 := ⟨_, rfl⟩
      have tx81 : x81.toInt = x0.toInt + 6 := (jadd ex81 rfl jz_6 (by omega) (by omega)).trans (by omega)
      refine lv_iinc (v := x81) (lv' := [(3, .int x81), (2, .ref (ad 55)), (1, .ref (ad 0)), (0, .ref b)]) hx hb dL_law_1357 hl (k := 0) rfl (by rw [ex81]; rfl) (by decide) rfl (fun ls hl => ?_)
      refine lv_goto (tgt := 18) hx hb dL_law_1360 (by decide) ?_
      have I82 : jI2 σ71 := jI2_fr ((congrFun (f73 2 (by decide)) 0).trans (congrFun (f56 2 (by decide)) 0)) ((congrFun (f73 2 (by decide)) 1).trans (congrFun (f56 2 (by decide)) 1)) ((congrFun (f73 2 (by decide)) 2).trans (congrFun (f56 2 (by decide)) 2)) ((congrFun (f73 2 (by decide)) 3).trans (congrFun (f56 2 (by decide)) 3)) ((f73 6 (by decide)).trans (f56 6 (by decide))) hI2
      have I83 : jI9 σ71 := jI9_fr ((congrFun (f73 9 (by decide)) 0).trans (congrFun (f56 9 (by decide)) 0)) ((f73 10 (by decide)).trans (f56 10 (by decide))) ((f73 11 (by decide)).trans (f56 11 (by decide))) hI9
      have I84 : jI12 σ71 := jI12_fr ((congrFun (f73 12 (by decide)) 0).trans (congrFun (f56 12 (by decide)) 0)) ((f73 13 (by decide)).trans (f56 13 (by decide))) hI12
      have I85 : jI16 σ71 := jI16_fr ((congrFun (f73 16 (by decide)) 0).trans (congrFun (f56 16 (by decide)) 0)) ((congrFun (f73 16 (by decide)) 1).trans (congrFun (f56 16 (by decide)) 1)) ((congrFun (f73 16 (by decide)) 2).trans (congrFun (f56 16 (by decide)) 2)) ((f73 17 (by decide)).trans (f56 17 (by decide))) hI16
      have I86 : jI18 σ71 := jI18_fr ((congrFun (f73 18 (by decide)) 0).trans (congrFun (f56 18 (by decide)) 0)) ((f73 19 (by decide)).trans (f56 19 (by decide))) hI18
      have I87 : jI22 σ71 := jI22_fr ((congrFun (f73 22 (by decide)) 0).trans (congrFun (f56 22 (by decide)) 0)) ((f73 23 (by decide)).trans (f56 23 (by decide))) hI22
      have I88 : jI31 σ71 := jI31_fr ((congrFun (f73 31 (by decide)) 8).trans (congrFun (f56 31 (by decide)) 8)) ((congrFun (f73 31 (by decide)) 10).trans (congrFun (f56 31 (by decide)) 10)) ((congrFun (f73 31 (by decide)) 11).trans (congrFun (f56 31 (by decide)) 11)) ((f73 33 (by decide)).trans (f56 33 (by decide))) ((f73 35 (by decide)).trans (f56 35 (by decide))) ((f73 36 (by decide)).trans (f56 36 (by decide))) hI31
      have I89 : jI38 σ71 := jI38_fr (congrFun (f73 38 (by decide)) 0) (congrFun (f73 38 (by decide)) 1) (f73 39 (by decide)) I58
      have I90 : jI43 σ71 := jI43_fr ((congrFun (f73 43 (by decide)) 8).trans (congrFun (f56 43 (by decide)) 8)) hI43
      have I91 : jI47 σ71 := jI47_fr ((congrFun (f73 47 (by decide)) 0).trans (congrFun (f56 47 (by decide)) 0)) ((f73 48 (by decide)).trans (f56 48 (by decide))) ((f73 49 (by decide)).trans (f56 49 (by decide))) hI47
      have I92 : jI50 σ71 := jI50_fr ((f73 52 (by decide)).trans (f56 52 (by decide))) hI50
      have I93 : jI0 σ71 := jI0_fr ((f73 1 (by decide)).trans (f56 1 (by decide))) hI0
      have I94 : jI26 σ71 := jI26_fr ((congrFun (f73 26 (by decide)) 6).trans (congrFun (f56 26 (by decide)) 6)) hI26
      have I95 : jI101 σ71 := jI101_fr ((f74 4 (by decide)).trans (congrFun (f56 55 (by decide)) 4)) ((f74 5 (by decide)).trans (congrFun (f56 55 (by decide)) 5)) ((f73 56 (by decide)).trans (f56 56 (by decide))) ((f73 57 (by decide)).trans (f56 57 (by decide))) ((f73 58 (by decide)).trans (f56 58 (by decide))) ((f73 59 (by decide)).trans (f56 59 (by decide))) hI101
      have I96 : jI102 σ71 := jI102_fr ((f74 6 (by decide)).trans (congrFun (f56 55 (by decide)) 6)) ((f73 60 (by decide)).trans (f56 60 (by decide))) ((f73 61 (by decide)).trans (f56 61 (by decide))) hI102
      have I97 : jI103 σ71 := jI103_fr ((f74 9 (by decide)).trans (congrFun (f56 55 (by decide)) 9)) hI103
      have I98 : jI104 σ71 := jI104_fr ((f74 10 (by decide)).trans (congrFun (f56 55 (by decide)) 10)) ((f74 12 (by decide)).trans (congrFun (f56 55 (by decide)) 12)) ((f74 13 (by decide)).trans (congrFun (f56 55 (by decide)) 13)) ((f73 62 (by decide)).trans (f56 62 (by decide))) ((f73 67 (by decide)).trans (f56 67 (by decide))) hI104
      have I99 : jI105 σ71 := jI105_fr ((f74 15 (by decide)).trans (congrFun (f56 55 (by decide)) 15)) ((f73 65 (by decide)).trans (f56 65 (by decide))) hI105
      have I100 : jI106 σ71 := jI106_fr (f74 32 (by decide)) (f73 70 (by decide)) (f73 71 (by decide)) (f73 72 (by decide)) I69
      have I101 : jI107 σ71 := jI107_fr ((f74 12 (by decide)).trans (congrFun (f56 55 (by decide)) 12)) ((f74 47 (by decide)).trans (congrFun (f56 55 (by decide)) 47)) ((f73 80 (by decide)).trans (f56 80 (by decide))) hI107
      have I102 : jI109 σ71 := jI109_fr ((f74 50 (by decide)).trans (congrFun (f56 55 (by decide)) 50)) hI109
      have I103 : jI110 σ71 := jI110_fr ((f73 86 (by decide)).trans (f56 86 (by decide))) ((f73 87 (by decide)).trans (f56 87 (by decide))) hI110
      have I104 : jI111 σ71 := jI111_fr ((f73 79 (by decide)).trans (f56 79 (by decide))) hI111
      have I105 : jI119 σ71 := jI119_fr ((f73 68 (by decide)).trans (f56 68 (by decide))) hI119
      have p106 : jKept σ71 := jKept.fr ((f73 75 (by decide)).trans (f56 75 (by decide))) ((f73 76 (by decide)).trans (f56 76 (by decide))) ((f73 77 (by decide)).trans (f56 77 (by decide))) hs_jKept
      have p107 : jBook σ71 := jBook.fr ((f74 47 (by decide)).trans (congrFun (f56 55 (by decide)) 47)) ((f74 10 (by decide)).trans (congrFun (f56 55 (by decide)) 10)) ((f73 81 (by decide)).trans (f56 81 (by decide))) hs_jBook
      have p108 : jNd12 σ71 := jNd12.fr ((congrFun (f73 12 (by decide)) 0).trans (congrFun (f56 12 (by decide)) 0)) ((congrFun (f73 12 (by decide)) 1).trans (congrFun (f56 12 (by decide)) 1)) ((f73 13 (by decide)).trans (f56 13 (by decide))) hs_jNd12
      have p109 : jN67 σ71 := jN67.fr ((f73 24 (by decide)).trans (f56 24 (by decide))) hs_jN67
      have p110 : jBl σ71 := jBl.fr ((congrFun (f73 22 (by decide)) 0).trans (congrFun (f56 22 (by decide)) 0)) ((congrFun (f73 22 (by decide)) 1).trans (congrFun (f56 22 (by decide)) 1)) ((f73 23 (by decide)).trans (f56 23 (by decide))) ((congrFun (f73 26 (by decide)) 6).trans (congrFun (f56 26 (by decide)) 6)) ((congrFun (f73 26 (by decide)) 7).trans (congrFun (f56 26 (by decide)) 7)) ((f73 29 (by decide)).trans (f56 29 (by decide))) ((f73 30 (by decide)).trans (f56 30 (by decide))) hs_jBl
      have p111 : jKb σ71 := jKb.fr ((congrFun (f73 31 (by decide)) 8).trans (congrFun (f56 31 (by decide)) 8)) ((congrFun (f73 31 (by decide)) 11).trans (congrFun (f56 31 (by decide)) 11)) ((f73 32 (by decide)).trans (f56 32 (by decide))) hs_jKb
      have p112 : jTR σ71 := jTR.fr ((f73 64 (by decide)).trans (f56 64 (by decide))) ((f73 65 (by decide)).trans (f56 65 (by decide))) hs_jTR
      have p113 : jKh σ71 := jKh.fr ((congrFun (f73 31 (by decide)) 8).trans (congrFun (f56 31 (by decide)) 8)) ((f73 32 (by decide)).trans (f56 32 (by decide))) ((f73 36 (by decide)).trans (f56 36 (by decide))) ((f73 37 (by decide)).trans (f56 37 (by decide))) hs_jKh
      have p114 : jKg σ71 := jKg.fr ((congrFun (f73 31 (by decide)) 8).trans (congrFun (f56 31 (by decide)) 8)) ((congrFun (f73 31 (by decide)) 9).trans (congrFun (f56 31 (by decide)) 9)) ((congrFun (f73 31 (by decide)) 11).trans (congrFun (f56 31 (by decide)) 11)) ((congrFun (f73 31 (by decide)) 12).trans (congrFun (f56 31 (by decide)) 12)) ((f73 32 (by decide)).trans (f56 32 (by decide))) ((f73 33 (by decide)).trans (f56 33 (by decide))) hs_jKg
      have z115 : (σ71 2 0).toInt = (σ 2 0).toInt := (congrArg Int32.toInt (show σ71 2 0 = (σ 2 0) from ((congrFun (f73 2 (by decide)) 0).trans (congrFun (f56 2 (by decide)) 0))))
      have z116 : (σ71 55 6).toInt = (σ 55 6).toInt := (congrArg Int32.toInt (show σ71 55 6 = (σ 55 6) from ((f74 6 (by decide)).trans (congrFun (f56 55 (by decide)) 6))))
      have z117 : (σ71 2 2).toInt = (σ 2 2).toInt := (congrArg Int32.toInt (show σ71 2 2 = (σ 2 2) from ((congrFun (f73 2 (by decide)) 2).trans (congrFun (f56 2 (by decide)) 2))))
      have z118 : (σ71 55 5).toInt = (σ 55 5).toInt := (congrArg Int32.toInt (show σ71 55 5 = (σ 55 5) from ((f74 5 (by decide)).trans (congrFun (f56 55 (by decide)) 5))))
      have z119 : (σ71 2 3).toInt = (σ 2 3).toInt := (congrArg Int32.toInt (show σ71 2 3 = (σ 2 3) from ((congrFun (f73 2 (by decide)) 3).trans (congrFun (f56 2 (by decide)) 3))))
      have z120 : (σ71 55 4).toInt = (σ 55 4).toInt := (congrArg Int32.toInt (show σ71 55 4 = (σ 55 4) from ((f74 4 (by decide)).trans (congrFun (f56 55 (by decide)) 4))))
      have z121 : (σ71 9 0).toInt = (σ 9 0).toInt := (congrArg Int32.toInt (show σ71 9 0 = (σ 9 0) from ((congrFun (f73 9 (by decide)) 0).trans (congrFun (f56 9 (by decide)) 0))))
      have z122 : (σ71 55 15).toInt = (σ 55 15).toInt := (congrArg Int32.toInt (show σ71 55 15 = (σ 55 15) from ((f74 15 (by decide)).trans (congrFun (f56 55 (by decide)) 15))))
      have z123 : (σ71 16 0).toInt = (σ 16 0).toInt := (congrArg Int32.toInt (show σ71 16 0 = (σ 16 0) from ((congrFun (f73 16 (by decide)) 0).trans (congrFun (f56 16 (by decide)) 0))))
      have z124 : (σ71 55 10).toInt = (σ 55 10).toInt := (congrArg Int32.toInt (show σ71 55 10 = (σ 55 10) from ((f74 10 (by decide)).trans (congrFun (f56 55 (by decide)) 10))))
      have z125 : (σ71 16 1).toInt = (σ 16 1).toInt := (congrArg Int32.toInt (show σ71 16 1 = (σ 16 1) from ((congrFun (f73 16 (by decide)) 1).trans (congrFun (f56 16 (by decide)) 1))))
      have z126 : (σ71 55 12).toInt = (σ 55 12).toInt := (congrArg Int32.toInt (show σ71 55 12 = (σ 55 12) from ((f74 12 (by decide)).trans (congrFun (f56 55 (by decide)) 12))))
      have z127 : (σ71 16 2).toInt = (σ 16 2).toInt := (congrArg Int32.toInt (show σ71 16 2 = (σ 16 2) from ((congrFun (f73 16 (by decide)) 2).trans (congrFun (f56 16 (by decide)) 2))))
      have z128 : (σ71 55 13).toInt = (σ 55 13).toInt := (congrArg Int32.toInt (show σ71 55 13 = (σ 55 13) from ((f74 13 (by decide)).trans (congrFun (f56 55 (by decide)) 13))))
      have z129 : (σ71 38 0).toInt = (σ 38 0).toInt := (congrArg Int32.toInt (show σ71 38 0 = (σ 38 0) from ((congrFun (f73 38 (by decide)) 0).trans (f57 0 (by decide)))))
      have z130 : (σ71 55 32).toInt = (σ 55 32).toInt := (congrArg Int32.toInt (show σ71 55 32 = (σ 55 32) from ((f74 32 (by decide)).trans (congrFun (f56 55 (by decide)) 32))))
      have z131 : (σ71 38 1).toInt = (σ54 38 1).toInt := (congrArg Int32.toInt (show σ71 38 1 = (σ54 38 1) from (congrFun (f73 38 (by decide)) 1)))
      have z132 : (σ71 47 0).toInt = (σ 47 0).toInt := (congrArg Int32.toInt (show σ71 47 0 = (σ 47 0) from ((congrFun (f73 47 (by decide)) 0).trans (congrFun (f56 47 (by decide)) 0))))
      have z133 : (σ71 55 47).toInt = (σ 55 47).toInt := (congrArg Int32.toInt (show σ71 55 47 = (σ 55 47) from ((f74 47 (by decide)).trans (congrFun (f56 55 (by decide)) 47))))
      have z134 : (σ71 55 30).toInt = (σ 55 30).toInt := (congrArg Int32.toInt (show σ71 55 30 = (σ 55 30) from ((f74 30 (by decide)).trans (congrFun (f56 55 (by decide)) 30))))
      have z135 : (σ71 55 31).toInt = (σ 55 31).toInt := (congrArg Int32.toInt (show σ71 55 31 = (σ 55 31) from ((f74 31 (by decide)).trans (congrFun (f56 55 (by decide)) 31))))
      have z136 : (σ71 2 1).toInt = (σ 2 1).toInt := (congrArg Int32.toInt (show σ71 2 1 = (σ 2 1) from ((congrFun (f73 2 (by decide)) 1).trans (congrFun (f56 2 (by decide)) 1))))
      have z137 : (σ71 55 9).toInt = (σ 55 9).toInt := (congrArg Int32.toInt (show σ71 55 9 = (σ 55 9) from ((f74 9 (by decide)).trans (congrFun (f56 55 (by decide)) 9))))
      have z138 : (σ71 26 6).toInt = (σ 26 6).toInt := (congrArg Int32.toInt (show σ71 26 6 = (σ 26 6) from ((congrFun (f73 26 (by decide)) 6).trans (congrFun (f56 26 (by decide)) 6))))
      have z140 : (σ71 18 0).toInt = (σ 18 0).toInt := (congrArg Int32.toInt (show σ71 18 0 = (σ 18 0) from ((congrFun (f73 18 (by decide)) 0).trans (congrFun (f56 18 (by decide)) 0))))
      have z141 : (σ71 22 0).toInt = (σ 22 0).toInt := (congrArg Int32.toInt (show σ71 22 0 = (σ 22 0) from ((congrFun (f73 22 (by decide)) 0).trans (congrFun (f56 22 (by decide)) 0))))
      exact ih x81 σ71 τ _ _ ls (by have h9 := tx81; omega) ⟨I82, I83, I84, I85, I86, I87, I88, I89, I90, I91, I92, I93, I94, I95, I96, I97, I98, I99, I100, I101, I102, I103, I104, I105, p106, p107, p108, p109, p110, p111, p112, p113, p114, (by omega), (by omega), (by omega), (by omega), (by omega), (by omega), (by omega), (by omega), (by omega), (by omega), (by omega), (by omega), (by omega), (by have h9 := tx81; omega), (show jNumP (σ71 3) (σ71 56) (σ71 6) (σ71 57) (σ71 7) (σ71 58) (σ71 8) (σ71 59) (σ71 55 6).toInt (σ71 55 4).toInt by rw [show σ71 3 = σ 3 from ((f73 3 (by decide)).trans (f56 3 (by decide))), show σ71 56 = σ 56 from ((f73 56 (by decide)).trans (f56 56 (by decide))), show σ71 6 = σ 6 from ((f73 6 (by decide)).trans (f56 6 (by decide))), show σ71 57 = σ 57 from ((f73 57 (by decide)).trans (f56 57 (by decide))), show σ71 7 = σ 7 from ((f73 7 (by decide)).trans (f56 7 (by decide))), show σ71 58 = σ 58 from ((f73 58 (by decide)).trans (f56 58 (by decide))), show σ71 8 = σ 8 from ((f73 8 (by decide)).trans (f56 8 (by decide))), show σ71 59 = σ 59 from ((f73 59 (by decide)).trans (f56 59 (by decide))), show (σ71 55 6).toInt = (σ 55 6).toInt from by omega, show (σ71 55 4).toInt = (σ 55 4).toInt from by omega]; exact hr0), (show jOvP (σ71 56) (σ71 57) (σ71 58) (σ71 59) (σ71 55 4).toInt by rw [show σ71 56 = σ 56 from ((f73 56 (by decide)).trans (f56 56 (by decide))), show σ71 57 = σ 57 from ((f73 57 (by decide)).trans (f56 57 (by decide))), show σ71 58 = σ 58 from ((f73 58 (by decide)).trans (f56 58 (by decide))), show σ71 59 = σ 59 from ((f73 59 (by decide)).trans (f56 59 (by decide))), show (σ71 55 4).toInt = (σ 55 4).toInt from by omega]; exact hr1), (show jTp (σ71 10) (σ71 63) (σ71 55 15).toInt by rw [show σ71 10 = σ 10 from ((f73 10 (by decide)).trans (f56 10 (by decide))), show σ71 63 = σ 63 from ((f73 63 (by decide)).trans (f56 63 (by decide)))]; exact hr2.le (by omega)), (show jSo (σ71 17) (σ71 62) (σ71 16 0).toInt by rw [show σ71 17 = σ 17 from ((f73 17 (by decide)).trans (f56 17 (by decide))), show σ71 62 = σ 62 from ((f73 62 (by decide)).trans (f56 62 (by decide))), show (σ71 16 0).toInt = (σ 16 0).toInt from by omega]; exact hr3), (show jShP (σ71 51) (σ71 52) (σ71 53) (σ71 86) (σ71 87) (σ71 55 32).toInt by rw [show σ71 51 = σ 51 from ((f73 51 (by decide)).trans (f56 51 (by decide))), show σ71 52 = σ 52 from ((f73 52 (by decide)).trans (f56 52 (by decide))), show σ71 53 = σ 53 from ((f73 53 (by decide)).trans (f56 53 (by decide))), show σ71 86 = σ 86 from ((f73 86 (by decide)).trans (f56 86 (by decide))), show σ71 87 = σ 87 from ((f73 87 (by decide)).trans (f56 87 (by decide)))]; exact (hr4.up (by omega) (by omega))), (show jEl (σ71 51) (σ71 52) (τ 54) (τ 88) by rw [show σ71 51 = σ 51 from ((f73 51 (by decide)).trans (f56 51 (by decide))), show σ71 52 = σ 52 from ((f73 52 (by decide)).trans (f56 52 (by decide)))]; exact hr5), (show jByP (σ71 51) (σ71 52) (τ 54) by rw [show σ71 51 = σ 51 from ((f73 51 (by decide)).trans (f56 51 (by decide))), show σ71 52 = σ 52 from ((f73 52 (by decide)).trans (f56 52 (by decide)))]; exact hr6), (show jBk (σ71 48) (σ71 80) (σ71 49) (σ71 81) (σ71 55 47).toInt by rw [show σ71 48 = σ 48 from ((f73 48 (by decide)).trans (f56 48 (by decide))), show σ71 49 = σ 49 from ((f73 49 (by decide)).trans (f56 49 (by decide))), show σ71 80 = σ 80 from ((f73 80 (by decide)).trans (f56 80 (by decide))), show σ71 81 = σ 81 from ((f73 81 (by decide)).trans (f56 81 (by decide))), show (σ71 55 47).toInt = (σ 55 47).toInt from by omega]; exact hr7), (show jKd (σ71 39) (σ71 70) (σ71 55 32).toInt by rw [show σ71 39 = σ 39 from ((f73 39 (by decide)).trans (f56 39 (by decide))), show σ71 70 = σ 70 from ((f73 70 (by decide)).trans (f56 70 (by decide))), show (σ71 55 32).toInt = (σ 55 32).toInt from by omega]; exact hr8), (jTt.nil (by omega)), (fun k hk => by rw [show σ71 4 = σ 4 from ((f73 4 (by decide)).trans (f56 4 (by decide))), show σ71 5 = σ 5 from ((f73 5 (by decide)).trans (f56 5 (by decide))), show σ71 60 = σ 60 from ((f73 60 (by decide)).trans (f56 60 (by decide))), show σ71 61 = σ 61 from ((f73 61 (by decide)).trans (f56 61 (by decide)))]; exact hr10 k (by omega)), (fun nm => by rw [show σ71 19 = σ 19 from ((f73 19 (by decide)).trans (f56 19 (by decide))), show σ71 64 = σ 64 from ((f73 64 (by decide)).trans (f56 64 (by decide))), show σ71 65 = σ 65 from ((f73 65 (by decide)).trans (f56 65 (by decide))), show (σ71 18 0).toInt = (σ 18 0).toInt from by omega]; exact hr11 nm), (fun nm => by rw [show σ71 23 = σ 23 from ((f73 23 (by decide)).trans (f56 23 (by decide))), show σ71 64 = σ 64 from ((f73 64 (by decide)).trans (f56 64 (by decide))), show σ71 65 = σ 65 from ((f73 65 (by decide)).trans (f56 65 (by decide))), show (σ71 22 0).toInt = (σ 22 0).toInt from by omega]; exact hr12 nm)⟩ hP hS (lv_sub hl [0, 1, 2, 3] rfl)
    · obtain ⟨q146, k142, k143, k144, k145⟩ := h77
      exact absurd (by omega : False) id
  · obtain ⟨q151, k147, k148, k149, k150⟩ := h65
    refine lv_pop hx hb dL_law_1009 rfl ?_
    refine lv_aload_n hx hb dL_law_1010 rfl (lv_at hl 1 rfl) ?_
    refine lv_aload_n hx hb dL_law_1011 rfl (lv_at hl 3 rfl) ?_
    refine lv_iload_n hx hb dL_law_1012 rfl (lv_at hl 0 rfl) ?_
    refine lv_iconst (v := 1) hx hb dL_law_1013 (by decide) ?_
    refine lv_iadd hx hb dL_law_1014 ?_
    refine jtopr ex48.symm ?_
    refine va_sld hx hb hX hbl hbA hS (jin tx48 (by omega) (by omega)) dL_law_1015 ?_
    refine lv_aload_n hx hb dL_law_1016 rfl (lv_at hl 3 rfl) ?_
    refine lv_iload_n hx hb dL_law_1017 rfl (lv_at hl 0 rfl) ?_
    refine lv_iconst (v := 2) hx hb dL_law_1018 (by decide) ?_
    refine lv_iadd hx hb dL_law_1019 ?_
    refine jtopr ex50.symm ?_
    refine va_sld hx hb hX hbl hbA hS (jin tx50 (by omega) (by omega)) dL_law_1020 ?_
    refine lv_aload_n hx hb dL_law_1021 rfl (lv_at hl 3 rfl) ?_
    refine lv_iload_n hx hb dL_law_1022 rfl (lv_at hl 0 rfl) ?_
    refine lv_iconst (v := 3) hx hb dL_law_1023 (by decide) ?_
    refine lv_iadd hx hb dL_law_1024 ?_
    refine jtopr ex52.symm ?_
    refine va_sld hx hb hX hbl hbA hS (jin tx52 (by omega) (by omega)) dL_law_1025 ?_
    have I152 : jI106 σ54 := jI106_fr (congrFun (f56 55 (by decide)) 32) (f56 70 (by decide)) (f56 71 (by decide)) (f56 72 (by decide)) hI106
    have z153 : (σ54 55 32).toInt = (σ 55 32).toInt := (congrArg Int32.toInt (show σ54 55 32 = (σ 55 32) from (congrFun (f56 55 (by decide)) 32)))
    refine jcallV (As := [.int (xs x48.toNatClampNeg), .int (xs x50.toNatClampNeg), .int (xs x52.toNatClampNeg)]) (rest := []) ⟨hx, hb, hml, hown, hts⟩ hK hP hA hS hZ (c_X12_act l D cI cL ad zz hJ σ54 τ (xs x48.toNatClampNeg) ((xs x48.toNatClampNeg).toInt) rfl (xs x50.toNatClampNeg) ((xs x50.toNatClampNeg).toInt) rfl (xs x52.toNatClampNeg) ((xs x52.toNatClampNeg).toInt) rfl I152) cw_RL_132 (jc_55 cI cL ad σ54 τ) rfl ⟨Nat.le_of_ble_eq_true rfl, Nat.le_of_ble_eq_true rfl⟩ rfl rfl rfl hl.1 rfl (Nat.le_of_ble_eq_true rfl) dL_law_1026 ⟨Nat.le_of_ble_eq_true rfl, Nat.le_of_ble_eq_true rfl⟩ (fun r155 σ154 τ154 H locs h154 hP hS => ?_)
    obtain ⟨rfl, f156, f157, h154⟩ := h154
    rcases h154 with h159 | h160
    · obtain ⟨q163, k161, k162⟩ := h159
      exact absurd (by omega : False) id
    · obtain ⟨q168, k164, k165, k166, k167⟩ := h160
      rw [show σ54 70 = σ 70 from (f56 70 (by decide))] at k167
      have k169 : σ 39 (xs x48.toNatClampNeg).toNatClampNeg = σ 70 (xs x48.toNatClampNeg).toNatClampNeg := hr8 _ (by rw [jnc (rfl : (xs x48.toNatClampNeg).toInt = (xs x48.toNatClampNeg).toInt)]; omega)
      rw [k169] at k150
      have p170 := k150.2.tt k167.2
      have k171 := p170.2
      refine lv_pop hx hb dL_law_1029 rfl ?_
      refine lv_goto (tgt := 1357) hx hb dL_law_1030 (by decide) ?_
      obtain ⟨x172, ex172⟩ : ∃ y : Int32, y = x0 + 6 := ⟨_, rfl⟩
      have tx172 : x172.toInt = x0.toInt + 6 := (jadd ex172 rfl jz_6 (by omega) (by omega)).trans (by omega)
      refine lv_iinc (v := x172) (lv' := [(3, .int x172), (2, .ref (ad 55)), (1, .ref (ad 0)), (0, .ref b)]) hx hb dL_law_1357 hl (k := 0) rfl (by rw [ex172]; rfl) (by decide) rfl (fun ls hl => ?_)
      refine lv_goto (tgt := 18) hx hb dL_law_1360 (by decide) ?_
      have I173 : jI2 σ154 := jI2_fr ((congrFun (f156 2 (by decide)) 0).trans (congrFun (f56 2 (by decide)) 0)) ((congrFun (f156 2 (by decide)) 1).trans (congrFun (f56 2 (by decide)) 1)) ((congrFun (f156 2 (by decide)) 2).trans (congrFun (f56 2 (by decide)) 2)) ((congrFun (f156 2 (by decide)) 3).trans (congrFun (f56 2 (by decide)) 3)) ((f156 6 (by decide)).trans (f56 6 (by decide))) hI2
      have I174 : jI9 σ154 := jI9_fr ((congrFun (f156 9 (by decide)) 0).trans (congrFun (f56 9 (by decide)) 0)) ((f156 10 (by decide)).trans (f56 10 (by decide))) ((f156 11 (by decide)).trans (f56 11 (by decide))) hI9
      have I175 : jI12 σ154 := jI12_fr ((congrFun (f156 12 (by decide)) 0).trans (congrFun (f56 12 (by decide)) 0)) ((f156 13 (by decide)).trans (f56 13 (by decide))) hI12
      have I176 : jI16 σ154 := jI16_fr ((congrFun (f156 16 (by decide)) 0).trans (congrFun (f56 16 (by decide)) 0)) ((congrFun (f156 16 (by decide)) 1).trans (congrFun (f56 16 (by decide)) 1)) ((congrFun (f156 16 (by decide)) 2).trans (congrFun (f56 16 (by decide)) 2)) ((f156 17 (by decide)).trans (f56 17 (by decide))) hI16
      have I177 : jI18 σ154 := jI18_fr ((congrFun (f156 18 (by decide)) 0).trans (congrFun (f56 18 (by decide)) 0)) ((f156 19 (by decide)).trans (f56 19 (by decide))) hI18
      have I178 : jI22 σ154 := jI22_fr ((congrFun (f156 22 (by decide)) 0).trans (congrFun (f56 22 (by decide)) 0)) ((f156 23 (by decide)).trans (f56 23 (by decide))) hI22
      have I179 : jI31 σ154 := jI31_fr ((congrFun (f156 31 (by decide)) 8).trans (congrFun (f56 31 (by decide)) 8)) ((congrFun (f156 31 (by decide)) 10).trans (congrFun (f56 31 (by decide)) 10)) ((congrFun (f156 31 (by decide)) 11).trans (congrFun (f56 31 (by decide)) 11)) ((f156 33 (by decide)).trans (f56 33 (by decide))) ((f156 35 (by decide)).trans (f56 35 (by decide))) ((f156 36 (by decide)).trans (f56 36 (by decide))) hI31
      have I180 : jI38 σ154 := jI38_fr (congrFun (f156 38 (by decide)) 0) (congrFun (f156 38 (by decide)) 1) (f156 39 (by decide)) I58
      have I181 : jI43 σ154 := jI43_fr ((congrFun (f156 43 (by decide)) 8).trans (congrFun (f56 43 (by decide)) 8)) hI43
      have I182 : jI47 σ154 := jI47_fr ((congrFun (f156 47 (by decide)) 0).trans (congrFun (f56 47 (by decide)) 0)) ((f156 48 (by decide)).trans (f56 48 (by decide))) ((f156 49 (by decide)).trans (f56 49 (by decide))) hI47
      have I183 : jI50 σ154 := jI50_fr ((f156 52 (by decide)).trans (f56 52 (by decide))) hI50
      have I184 : jI0 σ154 := jI0_fr ((f156 1 (by decide)).trans (f56 1 (by decide))) hI0
      have I185 : jI26 σ154 := jI26_fr ((congrFun (f156 26 (by decide)) 6).trans (congrFun (f56 26 (by decide)) 6)) hI26
      have I186 : jI101 σ154 := jI101_fr ((f157 4 (by decide)).trans (congrFun (f56 55 (by decide)) 4)) ((f157 5 (by decide)).trans (congrFun (f56 55 (by decide)) 5)) ((f156 56 (by decide)).trans (f56 56 (by decide))) ((f156 57 (by decide)).trans (f56 57 (by decide))) ((f156 58 (by decide)).trans (f56 58 (by decide))) ((f156 59 (by decide)).trans (f56 59 (by decide))) hI101
      have I187 : jI102 σ154 := jI102_fr ((f157 6 (by decide)).trans (congrFun (f56 55 (by decide)) 6)) ((f156 60 (by decide)).trans (f56 60 (by decide))) ((f156 61 (by decide)).trans (f56 61 (by decide))) hI102
      have I188 : jI103 σ154 := jI103_fr ((f157 9 (by decide)).trans (congrFun (f56 55 (by decide)) 9)) hI103
      have I189 : jI104 σ154 := jI104_fr ((f157 10 (by decide)).trans (congrFun (f56 55 (by decide)) 10)) ((f157 12 (by decide)).trans (congrFun (f56 55 (by decide)) 12)) ((f157 13 (by decide)).trans (congrFun (f56 55 (by decide)) 13)) ((f156 62 (by decide)).trans (f56 62 (by decide))) ((f156 67 (by decide)).trans (f56 67 (by decide))) hI104
      have I190 : jI105 σ154 := jI105_fr ((f157 15 (by decide)).trans (congrFun (f56 55 (by decide)) 15)) ((f156 65 (by decide)).trans (f56 65 (by decide))) hI105
      have I191 : jI106 σ154 := jI106_fr (f157 32 (by decide)) (f156 70 (by decide)) (f156 71 (by decide)) (f156 72 (by decide)) I152
      have I192 : jI107 σ154 := jI107_fr ((f157 12 (by decide)).trans (congrFun (f56 55 (by decide)) 12)) ((f157 47 (by decide)).trans (congrFun (f56 55 (by decide)) 47)) ((f156 80 (by decide)).trans (f56 80 (by decide))) hI107
      have I193 : jI109 σ154 := jI109_fr ((f157 50 (by decide)).trans (congrFun (f56 55 (by decide)) 50)) hI109
      have I194 : jI110 σ154 := jI110_fr ((f156 86 (by decide)).trans (f56 86 (by decide))) ((f156 87 (by decide)).trans (f56 87 (by decide))) hI110
      have I195 : jI111 σ154 := jI111_fr ((f156 79 (by decide)).trans (f56 79 (by decide))) hI111
      have I196 : jI119 σ154 := jI119_fr ((f156 68 (by decide)).trans (f56 68 (by decide))) hI119
      have p197 : jKept σ154 := jKept.fr ((f156 75 (by decide)).trans (f56 75 (by decide))) ((f156 76 (by decide)).trans (f56 76 (by decide))) ((f156 77 (by decide)).trans (f56 77 (by decide))) hs_jKept
      have p198 : jBook σ154 := jBook.fr ((f157 47 (by decide)).trans (congrFun (f56 55 (by decide)) 47)) ((f157 10 (by decide)).trans (congrFun (f56 55 (by decide)) 10)) ((f156 81 (by decide)).trans (f56 81 (by decide))) hs_jBook
      have p199 : jNd12 σ154 := jNd12.fr ((congrFun (f156 12 (by decide)) 0).trans (congrFun (f56 12 (by decide)) 0)) ((congrFun (f156 12 (by decide)) 1).trans (congrFun (f56 12 (by decide)) 1)) ((f156 13 (by decide)).trans (f56 13 (by decide))) hs_jNd12
      have p200 : jN67 σ154 := jN67.fr ((f156 24 (by decide)).trans (f56 24 (by decide))) hs_jN67
      have p201 : jBl σ154 := jBl.fr ((congrFun (f156 22 (by decide)) 0).trans (congrFun (f56 22 (by decide)) 0)) ((congrFun (f156 22 (by decide)) 1).trans (congrFun (f56 22 (by decide)) 1)) ((f156 23 (by decide)).trans (f56 23 (by decide))) ((congrFun (f156 26 (by decide)) 6).trans (congrFun (f56 26 (by decide)) 6)) ((congrFun (f156 26 (by decide)) 7).trans (congrFun (f56 26 (by decide)) 7)) ((f156 29 (by decide)).trans (f56 29 (by decide))) ((f156 30 (by decide)).trans (f56 30 (by decide))) hs_jBl
      have p202 : jKb σ154 := jKb.fr ((congrFun (f156 31 (by decide)) 8).trans (congrFun (f56 31 (by decide)) 8)) ((congrFun (f156 31 (by decide)) 11).trans (congrFun (f56 31 (by decide)) 11)) ((f156 32 (by decide)).trans (f56 32 (by decide))) hs_jKb
      have p203 : jTR σ154 := jTR.fr ((f156 64 (by decide)).trans (f56 64 (by decide))) ((f156 65 (by decide)).trans (f56 65 (by decide))) hs_jTR
      have p204 : jKh σ154 := jKh.fr ((congrFun (f156 31 (by decide)) 8).trans (congrFun (f56 31 (by decide)) 8)) ((f156 32 (by decide)).trans (f56 32 (by decide))) ((f156 36 (by decide)).trans (f56 36 (by decide))) ((f156 37 (by decide)).trans (f56 37 (by decide))) hs_jKh
      have p205 : jKg σ154 := jKg.fr ((congrFun (f156 31 (by decide)) 8).trans (congrFun (f56 31 (by decide)) 8)) ((congrFun (f156 31 (by decide)) 9).trans (congrFun (f56 31 (by decide)) 9)) ((congrFun (f156 31 (by decide)) 11).trans (congrFun (f56 31 (by decide)) 11)) ((congrFun (f156 31 (by decide)) 12).trans (congrFun (f56 31 (by decide)) 12)) ((f156 32 (by decide)).trans (f56 32 (by decide))) ((f156 33 (by decide)).trans (f56 33 (by decide))) hs_jKg
      have z206 : (σ154 2 0).toInt = (σ 2 0).toInt := (congrArg Int32.toInt (show σ154 2 0 = (σ 2 0) from ((congrFun (f156 2 (by decide)) 0).trans (congrFun (f56 2 (by decide)) 0))))
      have z207 : (σ154 55 6).toInt = (σ 55 6).toInt := (congrArg Int32.toInt (show σ154 55 6 = (σ 55 6) from ((f157 6 (by decide)).trans (congrFun (f56 55 (by decide)) 6))))
      have z208 : (σ154 2 2).toInt = (σ 2 2).toInt := (congrArg Int32.toInt (show σ154 2 2 = (σ 2 2) from ((congrFun (f156 2 (by decide)) 2).trans (congrFun (f56 2 (by decide)) 2))))
      have z209 : (σ154 55 5).toInt = (σ 55 5).toInt := (congrArg Int32.toInt (show σ154 55 5 = (σ 55 5) from ((f157 5 (by decide)).trans (congrFun (f56 55 (by decide)) 5))))
      have z210 : (σ154 2 3).toInt = (σ 2 3).toInt := (congrArg Int32.toInt (show σ154 2 3 = (σ 2 3) from ((congrFun (f156 2 (by decide)) 3).trans (congrFun (f56 2 (by decide)) 3))))
      have z211 : (σ154 55 4).toInt = (σ 55 4).toInt := (congrArg Int32.toInt (show σ154 55 4 = (σ 55 4) from ((f157 4 (by decide)).trans (congrFun (f56 55 (by decide)) 4))))
      have z212 : (σ154 9 0).toInt = (σ 9 0).toInt := (congrArg Int32.toInt (show σ154 9 0 = (σ 9 0) from ((congrFun (f156 9 (by decide)) 0).trans (congrFun (f56 9 (by decide)) 0))))
      have z213 : (σ154 55 15).toInt = (σ 55 15).toInt := (congrArg Int32.toInt (show σ154 55 15 = (σ 55 15) from ((f157 15 (by decide)).trans (congrFun (f56 55 (by decide)) 15))))
      have z214 : (σ154 16 0).toInt = (σ 16 0).toInt := (congrArg Int32.toInt (show σ154 16 0 = (σ 16 0) from ((congrFun (f156 16 (by decide)) 0).trans (congrFun (f56 16 (by decide)) 0))))
      have z215 : (σ154 55 10).toInt = (σ 55 10).toInt := (congrArg Int32.toInt (show σ154 55 10 = (σ 55 10) from ((f157 10 (by decide)).trans (congrFun (f56 55 (by decide)) 10))))
      have z216 : (σ154 16 1).toInt = (σ 16 1).toInt := (congrArg Int32.toInt (show σ154 16 1 = (σ 16 1) from ((congrFun (f156 16 (by decide)) 1).trans (congrFun (f56 16 (by decide)) 1))))
      have z217 : (σ154 55 12).toInt = (σ 55 12).toInt := (congrArg Int32.toInt (show σ154 55 12 = (σ 55 12) from ((f157 12 (by decide)).trans (congrFun (f56 55 (by decide)) 12))))
      have z218 : (σ154 16 2).toInt = (σ 16 2).toInt := (congrArg Int32.toInt (show σ154 16 2 = (σ 16 2) from ((congrFun (f156 16 (by decide)) 2).trans (congrFun (f56 16 (by decide)) 2))))
      have z219 : (σ154 55 13).toInt = (σ 55 13).toInt := (congrArg Int32.toInt (show σ154 55 13 = (σ 55 13) from ((f157 13 (by decide)).trans (congrFun (f56 55 (by decide)) 13))))
      have z220 : (σ154 38 0).toInt = (σ 38 0).toInt := (congrArg Int32.toInt (show σ154 38 0 = (σ 38 0) from ((congrFun (f156 38 (by decide)) 0).trans (f57 0 (by decide)))))
      have z221 : (σ154 55 32).toInt = (σ 55 32).toInt := (congrArg Int32.toInt (show σ154 55 32 = (σ 55 32) from ((f157 32 (by decide)).trans (congrFun (f56 55 (by decide)) 32))))
      have z222 : (σ154 38 1).toInt = (σ54 38 1).toInt := (congrArg Int32.toInt (show σ154 38 1 = (σ54 38 1) from (congrFun (f156 38 (by decide)) 1)))
      have z223 : (σ154 47 0).toInt = (σ 47 0).toInt := (congrArg Int32.toInt (show σ154 47 0 = (σ 47 0) from ((congrFun (f156 47 (by decide)) 0).trans (congrFun (f56 47 (by decide)) 0))))
      have z224 : (σ154 55 47).toInt = (σ 55 47).toInt := (congrArg Int32.toInt (show σ154 55 47 = (σ 55 47) from ((f157 47 (by decide)).trans (congrFun (f56 55 (by decide)) 47))))
      have z225 : (σ154 55 30).toInt = (σ 55 30).toInt := (congrArg Int32.toInt (show σ154 55 30 = (σ 55 30) from ((f157 30 (by decide)).trans (congrFun (f56 55 (by decide)) 30))))
      have z226 : (σ154 55 31).toInt = (σ 55 31).toInt := (congrArg Int32.toInt (show σ154 55 31 = (σ 55 31) from ((f157 31 (by decide)).trans (congrFun (f56 55 (by decide)) 31))))
      have z227 : (σ154 2 1).toInt = (σ 2 1).toInt := (congrArg Int32.toInt (show σ154 2 1 = (σ 2 1) from ((congrFun (f156 2 (by decide)) 1).trans (congrFun (f56 2 (by decide)) 1))))
      have z228 : (σ154 55 9).toInt = (σ 55 9).toInt := (congrArg Int32.toInt (show σ154 55 9 = (σ 55 9) from ((f157 9 (by decide)).trans (congrFun (f56 55 (by decide)) 9))))
      have z229 : (σ154 26 6).toInt = (σ 26 6).toInt := (congrArg Int32.toInt (show σ154 26 6 = (σ 26 6) from ((congrFun (f156 26 (by decide)) 6).trans (congrFun (f56 26 (by decide)) 6))))
      have z231 : (σ154 18 0).toInt = (σ 18 0).toInt := (congrArg Int32.toInt (show σ154 18 0 = (σ 18 0) from ((congrFun (f156 18 (by decide)) 0).trans (congrFun (f56 18 (by decide)) 0))))
      have z232 : (σ154 22 0).toInt = (σ 22 0).toInt := (congrArg Int32.toInt (show σ154 22 0 = (σ 22 0) from ((congrFun (f156 22 (by decide)) 0).trans (congrFun (f56 22 (by decide)) 0))))
      exact ih x172 σ154 τ _ _ ls (by have h9 := tx172; omega) ⟨I173, I174, I175, I176, I177, I178, I179, I180, I181, I182, I183, I184, I185, I186, I187, I188, I189, I190, I191, I192, I193, I194, I195, I196, p197, p198, p199, p200, p201, p202, p203, p204, p205, (by omega), (by omega), (by omega), (by omega), (by omega), (by omega), (by omega), (by omega), (by omega), (by omega), (by omega), (by omega), (by omega), (by have h9 := tx172; omega), (show jNumP (σ154 3) (σ154 56) (σ154 6) (σ154 57) (σ154 7) (σ154 58) (σ154 8) (σ154 59) (σ154 55 6).toInt (σ154 55 4).toInt by rw [show σ154 3 = σ 3 from ((f156 3 (by decide)).trans (f56 3 (by decide))), show σ154 56 = σ 56 from ((f156 56 (by decide)).trans (f56 56 (by decide))), show σ154 6 = σ 6 from ((f156 6 (by decide)).trans (f56 6 (by decide))), show σ154 57 = σ 57 from ((f156 57 (by decide)).trans (f56 57 (by decide))), show σ154 7 = σ 7 from ((f156 7 (by decide)).trans (f56 7 (by decide))), show σ154 58 = σ 58 from ((f156 58 (by decide)).trans (f56 58 (by decide))), show σ154 8 = σ 8 from ((f156 8 (by decide)).trans (f56 8 (by decide))), show σ154 59 = σ 59 from ((f156 59 (by decide)).trans (f56 59 (by decide))), show (σ154 55 6).toInt = (σ 55 6).toInt from by omega, show (σ154 55 4).toInt = (σ 55 4).toInt from by omega]; exact hr0), (show jOvP (σ154 56) (σ154 57) (σ154 58) (σ154 59) (σ154 55 4).toInt by rw [show σ154 56 = σ 56 from ((f156 56 (by decide)).trans (f56 56 (by decide))), show σ154 57 = σ 57 from ((f156 57 (by decide)).trans (f56 57 (by decide))), show σ154 58 = σ 58 from ((f156 58 (by decide)).trans (f56 58 (by decide))), show σ154 59 = σ 59 from ((f156 59 (by decide)).trans (f56 59 (by decide))), show (σ154 55 4).toInt = (σ 55 4).toInt from by omega]; exact hr1), (show jTp (σ154 10) (σ154 63) (σ154 55 15).toInt by rw [show σ154 10 = σ 10 from ((f156 10 (by decide)).trans (f56 10 (by decide))), show σ154 63 = σ 63 from ((f156 63 (by decide)).trans (f56 63 (by decide)))]; exact hr2.le (by omega)), (show jSo (σ154 17) (σ154 62) (σ154 16 0).toInt by rw [show σ154 17 = σ 17 from ((f156 17 (by decide)).trans (f56 17 (by decide))), show σ154 62 = σ 62 from ((f156 62 (by decide)).trans (f56 62 (by decide))), show (σ154 16 0).toInt = (σ 16 0).toInt from by omega]; exact hr3), (show jShP (σ154 51) (σ154 52) (σ154 53) (σ154 86) (σ154 87) (σ154 55 32).toInt by rw [show σ154 51 = σ 51 from ((f156 51 (by decide)).trans (f56 51 (by decide))), show σ154 52 = σ 52 from ((f156 52 (by decide)).trans (f56 52 (by decide))), show σ154 53 = σ 53 from ((f156 53 (by decide)).trans (f56 53 (by decide))), show σ154 86 = σ 86 from ((f156 86 (by decide)).trans (f56 86 (by decide))), show σ154 87 = σ 87 from ((f156 87 (by decide)).trans (f56 87 (by decide)))]; exact (hr4.up (by omega) (by omega))), (show jEl (σ154 51) (σ154 52) (τ 54) (τ 88) by rw [show σ154 51 = σ 51 from ((f156 51 (by decide)).trans (f56 51 (by decide))), show σ154 52 = σ 52 from ((f156 52 (by decide)).trans (f56 52 (by decide)))]; exact hr5), (show jByP (σ154 51) (σ154 52) (τ 54) by rw [show σ154 51 = σ 51 from ((f156 51 (by decide)).trans (f56 51 (by decide))), show σ154 52 = σ 52 from ((f156 52 (by decide)).trans (f56 52 (by decide)))]; exact hr6), (show jBk (σ154 48) (σ154 80) (σ154 49) (σ154 81) (σ154 55 47).toInt by rw [show σ154 48 = σ 48 from ((f156 48 (by decide)).trans (f56 48 (by decide))), show σ154 49 = σ 49 from ((f156 49 (by decide)).trans (f56 49 (by decide))), show σ154 80 = σ 80 from ((f156 80 (by decide)).trans (f56 80 (by decide))), show σ154 81 = σ 81 from ((f156 81 (by decide)).trans (f56 81 (by decide))), show (σ154 55 47).toInt = (σ 55 47).toInt from by omega]; exact hr7), (show jKd (σ154 39) (σ154 70) (σ154 55 32).toInt by rw [show σ154 39 = σ 39 from ((f156 39 (by decide)).trans (f56 39 (by decide))), show σ154 70 = σ 70 from ((f156 70 (by decide)).trans (f56 70 (by decide))), show (σ154 55 32).toInt = (σ 55 32).toInt from by omega]; exact hr8), (show jTt (σ154 42) (σ154 85) (σ154 55 55).toInt by rw [show σ154 42 = σ54 42 from (f156 42 (by decide))]; exact p170.1), (fun k hk => by rw [show σ154 4 = σ 4 from ((f156 4 (by decide)).trans (f56 4 (by decide))), show σ154 5 = σ 5 from ((f156 5 (by decide)).trans (f56 5 (by decide))), show σ154 60 = σ 60 from ((f156 60 (by decide)).trans (f56 60 (by decide))), show σ154 61 = σ 61 from ((f156 61 (by decide)).trans (f56 61 (by decide)))]; exact hr10 k (by omega)), (fun nm => by rw [show σ154 19 = σ 19 from ((f156 19 (by decide)).trans (f56 19 (by decide))), show σ154 64 = σ 64 from ((f156 64 (by decide)).trans (f56 64 (by decide))), show σ154 65 = σ 65 from ((f156 65 (by decide)).trans (f56 65 (by decide))), show (σ154 18 0).toInt = (σ 18 0).toInt from by omega]; exact hr11 nm), (fun nm => by rw [show σ154 23 = σ 23 from ((f156 23 (by decide)).trans (f56 23 (by decide))), show σ154 64 = σ 64 from ((f156 64 (by decide)).trans (f56 64 (by decide))), show σ154 65 = σ 65 from ((f156 65 (by decide)).trans (f56 65 (by decide))), show (σ154 22 0).toInt = (σ 22 0).toInt from by omega]; exact hr12 nm)⟩ hP hS (lv_sub hl [0, 1, 2, 3] rfl)
set_option maxHeartbeats 4000000 in
set_option maxRecDepth 100000 in
theorem law_case_29 {p : Program} {e : Env} {s : State} {m : MethodId} {below : List Frame} {meth : Method} {c : Code} (l : Launch) {b L : Nat} {xs : Nat → Int32} {D : va_G} {cI cL : ClassId} {ad zz : Nat → Nat} (C0 : lw_At p s m meth c b L xs) (hJ : jD ad) (hA : ∀ q, jA ad q → s.heap.size ≤ q) (hK : jK D cI cL s) (hZ : jZ zz (fun q : Nat => s.heap.size ≤ q) s s.heap) {x0 : Int32} (hx0 : 0 ≤ x0.toInt) (hxL : x0.toInt + 6 ≤ (L : Int)) (hL : L ≤ 384) {σ : Nat → Nat → Int32} {τ : Nat → Nat → Int64} {H : Heap} {locs : List Loc} (hS : va_S (fun q : Nat => s.heap.size ≤ q) s.heap H locs) {ls : Array Slot} (hAll : jAll x0.toInt σ τ) (hP : jH D cI cL ad σ τ H) (hl : lv_has ls 4 [(3, .int x0), (2, .ref (ad 55)), (1, .ref (ad 0)), (0, .ref b)]) (ih : ∀ (x1 : Int32) (σ : Nat → Nat → Int32) (τ : Nat → Nat → Int64) (H : Heap) (locs : List Loc) (ls : Array Slot), x1.toInt = x0.toInt + 6 → jAll x1.toInt σ τ → jH D cI cL ad σ τ H → va_S (fun q : Nat => s.heap.size ≤ q) s.heap H locs → lv_has ls 4 [(3, .int x1), (2, .ref (ad 55)), (1, .ref (ad 0)), (0, .ref b)] → W p l e room_1 s m #[Value.ref b] below meth c H locs 90 348600 (lw_Z below #[Value.ref b] s) (F0 m 18 ls [])) : W p l e room_1 s m #[Value.ref b] below meth c H locs 90 348600 (lw_Z below #[Value.ref b] s) (F0 m 1033 ls []) := by
  obtain ⟨hx, hb, hr, hml, hown, hts0, hX, hbl, hlocks, hgv⟩ := C0
  have hts : ∀ w ∈ wsL_law, w.before #[Value.ref b] s = true := fun w h => hts0 w (wsL_law_in w h)
  have hbA : ¬ (fun q : Nat => s.heap.size ≤ q) b := Nat.not_le.mpr hbl
  have hown : s.vm.findClass RL = some m.cls := hown
  obtain ⟨hI2, hI9, hI12, hI16, hI18, hI22, hI31, hI38, hI43, hI47, hI50, hI0, hI26, hI101, hI102, hI103, hI104, hI105, hI106, hI107, hI109, hI110, hI111, hI119, hs_jKept, hs_jBook, hs_jNd12, hs_jN67, hs_jBl, hs_jKb, hs_jTR, hs_jKh, hs_jKg, ht0, ht1, ht2, ht3, ht4, ht5, ht6, ht7, ht8, ht9, ht10, ht11, ht12, ht13, hr0, hr1, hr2, hr3, hr4, hr5, hr6, hr7, hr8, hr9, hr10, hr11, hr12⟩ := hAll
  have hL9 : (L : Int) ≤ 384 := by omega
  obtain ⟨i1, i2, i3, i4, i5, w6⟩ : (0 ≤ (σ 2 0).toInt ∧ (σ 2 0).toInt ≤ 4) ∧ (0 ≤ (σ 2 1).toInt ∧ (σ 2 1).toInt ≤ 3) ∧ (0 ≤ (σ 2 2).toInt) ∧ (0 ≤ (σ 2 3).toInt) ∧ ((σ 2 2).toInt + (σ 2 3).toInt ≤ 40) ∧ (∀ k : Nat, k < 40 → 0 ≤ (σ 6 k).toInt ∧ (σ 6 k).toInt ≤ 67) := id hI2
  obtain ⟨i7, w8, w9⟩ : (0 ≤ (σ 9 0).toInt ∧ (σ 9 0).toInt ≤ 80) ∧ (∀ k : Nat, k < 80 → 0 ≤ (σ 10 k).toInt ∧ (σ 10 k).toInt ≤ 255) ∧ (∀ k : Nat, k < 8 → 0 ≤ (σ 11 k).toInt ∧ (σ 11 k).toInt ≤ 3) := id hI9
  obtain ⟨i10, i11, i12, w13⟩ : (1 ≤ (σ 16 0).toInt ∧ (σ 16 0).toInt ≤ 8) ∧ (1 ≤ (σ 16 1).toInt ∧ (σ 16 1).toInt ≤ 12) ∧ (0 ≤ (σ 16 2).toInt ∧ (σ 16 2).toInt ≤ 999) ∧ (∀ k : Nat, k < 8 → 0 ≤ (σ 17 k).toInt ∧ (σ 17 k).toInt ≤ 3) := id hI16
  obtain ⟨i14, i15, w16⟩ : (0 ≤ (σ 38 0).toInt ∧ (σ 38 0).toInt ≤ 20) ∧ (0 ≤ (σ 38 1).toInt ∧ (σ 38 1).toInt ≤ 1000) ∧ (∀ k : Nat, k < 20 → 0 ≤ (σ 39 k).toInt ∧ (σ 39 k).toInt ≤ 6) := id hI38
  obtain ⟨i17, w18, w19⟩ : (0 ≤ (σ 47 0).toInt ∧ (σ 47 0).toInt ≤ 12) ∧ (∀ k : Nat, k < 12 → 0 ≤ (σ 48 k).toInt ∧ (σ 48 k).toInt ≤ 3) ∧ (∀ k : Nat, k < 12 → 0 ≤ (σ 49 k).toInt ∧ (σ 49 k).toInt ≤ 1) := id hI47
  have w20 : ∀ k : Nat, k < 6 → 0 ≤ (σ 52 k).toInt ∧ (σ 52 k).toInt ≤ 60 := hI50
  have i21 : 1 ≤ (σ 26 6).toInt ∧ (σ 26 6).toInt ≤ 8000 := hI26
  obtain ⟨i22, i23, i24, w25, w26, w27, w28⟩ : (0 ≤ (σ 55 5).toInt) ∧ ((σ 55 5).toInt ≤ (σ 55 4).toInt) ∧ ((σ 55 4).toInt ≤ 40) ∧ (∀ k : Nat, k < 68 → (-200) ≤ (σ 56 k).toInt ∧ (σ 56 k).toInt ≤ 500) ∧ (∀ k : Nat, k < 40 → 0 ≤ (σ 57 k).toInt ∧ (σ 57 k).toInt ≤ 67) ∧ (∀ k : Nat, k < 40 → (-200) ≤ (σ 58 k).toInt ∧ (σ 58 k).toInt ≤ 500) ∧ (∀ k : Nat, k < 40 → (-200) ≤ (σ 59 k).toInt ∧ (σ 59 k).toInt ≤ 500) := id hI101
  obtain ⟨i29, w30, w31⟩ : (0 ≤ (σ 55 6).toInt ∧ (σ 55 6).toInt ≤ 4) ∧ (∀ k : Nat, k < 4 → 0 ≤ (σ 60 k).toInt ∧ (σ 60 k).toInt ≤ 50) ∧ (∀ k : Nat, k < 4 → 0 ≤ (σ 61 k).toInt ∧ (σ 61 k).toInt ≤ 20) := id hI102
  have i32 : 0 ≤ (σ 55 9).toInt ∧ (σ 55 9).toInt ≤ 3 := hI103
  obtain ⟨i33, i34, i35, w36, w37⟩ : (1 ≤ (σ 55 10).toInt ∧ (σ 55 10).toInt ≤ 8) ∧ (1 ≤ (σ 55 12).toInt ∧ (σ 55 12).toInt ≤ 12) ∧ (0 ≤ (σ 55 13).toInt ∧ (σ 55 13).toInt ≤ 999) ∧ (∀ k : Nat, k < 8 → 0 ≤ (σ 62 k).toInt ∧ (σ 62 k).toInt ≤ 3) ∧ (∀ k : Nat, k < 8 → 0 ≤ (σ 67 k).toInt ∧ (σ 67 k).toInt ≤ 3) := id hI104
  obtain ⟨i38, w39⟩ : (0 ≤ (σ 55 15).toInt ∧ (σ 55 15).toInt ≤ 80) ∧ (∀ k : Nat, k < 2 → (-1) ≤ (σ 65 k).toInt ∧ (σ 65 k).toInt ≤ 80) := id hI105
  obtain ⟨i40, w41, w42, w43⟩ : (0 ≤ (σ 55 32).toInt ∧ (σ 55 32).toInt ≤ 20) ∧ (∀ k : Nat, k < 20 → 0 ≤ (σ 70 k).toInt ∧ (σ 70 k).toInt ≤ 6) ∧ (∀ k : Nat, k < 20 → 0 ≤ (σ 71 k).toInt ∧ (σ 71 k).toInt ≤ 8) ∧ (∀ k : Nat, k < 160 → 0 ≤ (σ 72 k).toInt ∧ (σ 72 k).toInt ≤ 3) := id hI106
  obtain ⟨i44, i45, w46⟩ : (0 ≤ (σ 55 47).toInt ∧ (σ 55 47).toInt ≤ 12) ∧ ((σ 55 47).toInt ≤ (σ 55 12).toInt) ∧ (∀ k : Nat, k < 12 → 0 ≤ (σ 80 k).toInt ∧ (σ 80 k).toInt ≤ 3) := id hI107
  have hs_jOk3 : jOk3 σ := hr0.ok hr1.1
  refine lv_aload_n hx hb dL_law_1033 rfl (lv_at hl 2 rfl) ?_
  refine lv_aload_n hx hb dL_law_1034 rfl (lv_at hl 3 rfl) ?_
  refine lv_iload_n hx hb dL_law_1035 rfl (lv_at hl 0 rfl) ?_
  refine lv_iconst (v := 1) hx hb dL_law_1036 (by decide) ?_
  have g47 := jrg (rfl : x0.toInt = x0.toInt)
  refine lv_iadd hx hb dL_law_1037 ?_
  refine lv_topi (fun x48 ex48 => ?_)
  have tx48 : x48.toInt = x0.toInt + 1 := (jadd ex48 rfl jz_1 (by omega) (by omega)).trans (by omega)
  refine va_sld hx hb hX hbl hbA hS (jin tx48 (by omega) (by omega)) dL_law_1038 ?_
  have g49 := jrg (rfl : (xs x48.toNatClampNeg).toInt = (xs x48.toNatClampNeg).toInt)
  refine jcallV (As := [.int (xs x48.toNatClampNeg)]) (rest := []) ⟨hx, hb, hml, hown, hts⟩ hK hP hA hS hZ (c_X11_trace l D cI cL ad zz hJ σ τ (xs x48.toNatClampNeg) ((xs x48.toNatClampNeg).toInt) rfl hI38) cw_RL_133 (jc_0 cI cL ad σ τ) rfl ⟨Nat.le_of_ble_eq_true rfl, Nat.le_of_ble_eq_true rfl⟩ rfl rfl rfl hl.1 rfl (Nat.le_of_ble_eq_true rfl) dL_law_1039 ⟨Nat.le_of_ble_eq_true rfl, Nat.le_of_ble_eq_true rfl⟩ (fun r51 σ50 τ50 H locs h50 hP hS => ?_)
  obtain ⟨⟨rfl, rfl⟩, h50⟩ := h50
  rcases h50 with h52 | h53
  · obtain ⟨q57, k54, k55, k56⟩ := h52
    have q58 : r51 = (σ 42 (xs x48.toNatClampNeg).toNatClampNeg) := q57.trans rfl
    have q58 := q58.symm
    subst q58
    refine lv_pop hx hb dL_law_1042 rfl ?_
    refine lv_aload_n hx hb dL_law_1043 rfl (lv_at hl 1 rfl) ?_
    refine lv_aload_n hx hb dL_law_1044 rfl (lv_at hl 3 rfl) ?_
    refine lv_iload_n hx hb dL_law_1045 rfl (lv_at hl 0 rfl) ?_
    refine lv_iconst (v := 1) hx hb dL_law_1046 (by decide) ?_
    refine lv_iadd hx hb dL_law_1047 ?_
    refine jtopr ex48.symm ?_
    refine va_sld hx hb hX hbl hbA hS (jin tx48 (by omega) (by omega)) dL_law_1048 ?_
    refine jcallV (As := [.int (xs x48.toNatClampNeg)]) (rest := []) ⟨hx, hb, hml, hown, hts⟩ hK hP hA hS hZ (c_X12_trace l D cI cL ad zz hJ σ τ (xs x48.toNatClampNeg) ((xs x48.toNatClampNeg).toInt) rfl) cw_RL_136 (jc_55 cI cL ad σ τ) rfl ⟨Nat.le_of_ble_eq_true rfl, Nat.le_of_ble_eq_true rfl⟩ rfl rfl rfl hl.1 rfl (Nat.le_of_ble_eq_true rfl) dL_law_1049 ⟨Nat.le_of_ble_eq_true rfl, Nat.le_of_ble_eq_true rfl⟩ (fun r60 σ59 τ59 H locs h59 hP hS => ?_)
    obtain ⟨⟨rfl, rfl⟩, h59⟩ := h59
    rcases h59 with h61 | h62
    · obtain ⟨q66, k63, k64, k65⟩ := h61
      have q67 : r60 = (σ 85 (xs x48.toNatClampNeg).toNatClampNeg) := q66.trans rfl
      have q67 := q67.symm
      subst q67
      refine lv_pop hx hb dL_law_1052 rfl ?_
      refine lv_goto (tgt := 1357) hx hb dL_law_1053 (by decide) ?_
      obtain ⟨x68, ex68⟩ : ∃ y : Int32, y = x0 + 6 := ⟨_, rfl⟩
      have tx68 : x68.toInt = x0.toInt + 6 := (jadd ex68 rfl jz_6 (by omega) (by omega)).trans (by omega)
      refine lv_iinc (v := x68) (lv' := [(3, .int x68), (2, .ref (ad 55)), (1, .ref (ad 0)), (0, .ref b)]) hx hb dL_law_1357 hl (k := 0) rfl (by rw [ex68]; rfl) (by decide) rfl (fun ls hl => ?_)
      refine lv_goto (tgt := 18) hx hb dL_law_1360 (by decide) ?_
      exact ih x68 σ τ _ _ ls (by have h9 := tx68; omega) ⟨hI2, hI9, hI12, hI16, hI18, hI22, hI31, hI38, hI43, hI47, hI50, hI0, hI26, hI101, hI102, hI103, hI104, hI105, hI106, hI107, hI109, hI110, hI111, hI119, hs_jKept, hs_jBook, hs_jNd12, hs_jN67, hs_jBl, hs_jKb, hs_jTR, hs_jKh, hs_jKg, (by omega), (by omega), (by omega), (by omega), (by omega), (by omega), (by omega), (by omega), (by omega), (by omega), (by omega), (by omega), (by omega), (by have h9 := tx68; omega), hr0, hr1, hr2, hr3, hr4, hr5, hr6, hr7, hr8, hr9, hr10, hr11, hr12⟩ hP hS (lv_sub hl [0, 1, 2, 3] rfl)
    · obtain ⟨q70, k69⟩ := h62
      exact absurd (by omega : False) id
  · obtain ⟨q72, k71⟩ := h53
    have q72 := q72.symm
    subst q72
    refine lv_pop hx hb dL_law_1042 rfl ?_
    refine lv_aload_n hx hb dL_law_1043 rfl (lv_at hl 1 rfl) ?_
    refine lv_aload_n hx hb dL_law_1044 rfl (lv_at hl 3 rfl) ?_
    refine lv_iload_n hx hb dL_law_1045 rfl (lv_at hl 0 rfl) ?_
    refine lv_iconst (v := 1) hx hb dL_law_1046 (by decide) ?_
    refine lv_iadd hx hb dL_law_1047 ?_
    refine jtopr ex48.symm ?_
    refine va_sld hx hb hX hbl hbA hS (jin tx48 (by omega) (by omega)) dL_law_1048 ?_
    refine jcallV (As := [.int (xs x48.toNatClampNeg)]) (rest := []) ⟨hx, hb, hml, hown, hts⟩ hK hP hA hS hZ (c_X12_trace l D cI cL ad zz hJ σ τ (xs x48.toNatClampNeg) ((xs x48.toNatClampNeg).toInt) rfl) cw_RL_136 (jc_55 cI cL ad σ τ) rfl ⟨Nat.le_of_ble_eq_true rfl, Nat.le_of_ble_eq_true rfl⟩ rfl rfl rfl hl.1 rfl (Nat.le_of_ble_eq_true rfl) dL_law_1049 ⟨Nat.le_of_ble_eq_true rfl, Nat.le_of_ble_eq_true rfl⟩ (fun r74 σ73 τ73 H locs h73 hP hS => ?_)
    obtain ⟨⟨rfl, rfl⟩, h73⟩ := h73
    rcases h73 with h75 | h76
    · obtain ⟨q80, k77, k78, k79⟩ := h75
      exact absurd (by omega : False) id
    · obtain ⟨q82, k81⟩ := h76
      have q82 := q82.symm
      subst q82
      refine lv_pop hx hb dL_law_1052 rfl ?_
      refine lv_goto (tgt := 1357) hx hb dL_law_1053 (by decide) ?_
      obtain ⟨x83, ex83⟩ : ∃ y : Int32, y = x0 + 6 := ⟨_, rfl⟩
      have tx83 : x83.toInt = x0.toInt + 6 := (jadd ex83 rfl jz_6 (by omega) (by omega)).trans (by omega)
      refine lv_iinc (v := x83) (lv' := [(3, .int x83), (2, .ref (ad 55)), (1, .ref (ad 0)), (0, .ref b)]) hx hb dL_law_1357 hl (k := 0) rfl (by rw [ex83]; rfl) (by decide) rfl (fun ls hl => ?_)
      refine lv_goto (tgt := 18) hx hb dL_law_1360 (by decide) ?_
      exact ih x83 σ τ _ _ ls (by have h9 := tx83; omega) ⟨hI2, hI9, hI12, hI16, hI18, hI22, hI31, hI38, hI43, hI47, hI50, hI0, hI26, hI101, hI102, hI103, hI104, hI105, hI106, hI107, hI109, hI110, hI111, hI119, hs_jKept, hs_jBook, hs_jNd12, hs_jN67, hs_jBl, hs_jKb, hs_jTR, hs_jKh, hs_jKg, (by omega), (by omega), (by omega), (by omega), (by omega), (by omega), (by omega), (by omega), (by omega), (by omega), (by omega), (by omega), (by omega), (by have h9 := tx83; omega), hr0, hr1, hr2, hr3, hr4, hr5, hr6, hr7, hr8, hr9, hr10, hr11, hr12⟩ hP hS (lv_sub hl [0, 1, 2, 3] rfl)
set_option maxHeartbeats 4000000 in
set_option maxRecDepth 100000 in
theorem law_case_30 {p : Program} {e : Env} {s : State} {m : MethodId} {below : List Frame} {meth : Method} {c : Code} (l : Launch) {b L : Nat} {xs : Nat → Int32} {D : va_G} {cI cL : ClassId} {ad zz : Nat → Nat} (C0 : lw_At p s m meth c b L xs) (hJ : jD ad) (hA : ∀ q, jA ad q → s.heap.size ≤ q) (hK : jK D cI cL s) (hZ : jZ zz (fun q : Nat => s.heap.size ≤ q) s s.heap) {x0 : Int32} (hx0 : 0 ≤ x0.toInt) (hxL : x0.toInt + 6 ≤ (L : Int)) (hL : L ≤ 384) {σ : Nat → Nat → Int32} {τ : Nat → Nat → Int64} {H : Heap} {locs : List Loc} (hS : va_S (fun q : Nat => s.heap.size ≤ q) s.heap H locs) {ls : Array Slot} (hAll : jAll x0.toInt σ τ) (hP : jH D cI cL ad σ τ H) (hl : lv_has ls 4 [(3, .int x0), (2, .ref (ad 55)), (1, .ref (ad 0)), (0, .ref b)]) (ih : ∀ (x1 : Int32) (σ : Nat → Nat → Int32) (τ : Nat → Nat → Int64) (H : Heap) (locs : List Loc) (ls : Array Slot), x1.toInt = x0.toInt + 6 → jAll x1.toInt σ τ → jH D cI cL ad σ τ H → va_S (fun q : Nat => s.heap.size ≤ q) s.heap H locs → lv_has ls 4 [(3, .int x1), (2, .ref (ad 55)), (1, .ref (ad 0)), (0, .ref b)] → W p l e room_1 s m #[Value.ref b] below meth c H locs 90 348600 (lw_Z below #[Value.ref b] s) (F0 m 18 ls [])) : W p l e room_1 s m #[Value.ref b] below meth c H locs 90 348600 (lw_Z below #[Value.ref b] s) (F0 m 1056 ls []) := by
  obtain ⟨hx, hb, hr, hml, hown, hts0, hX, hbl, hlocks, hgv⟩ := C0
  have hts : ∀ w ∈ wsL_law, w.before #[Value.ref b] s = true := fun w h => hts0 w (wsL_law_in w h)
  have hbA : ¬ (fun q : Nat => s.heap.size ≤ q) b := Nat.not_le.mpr hbl
  have hown : s.vm.findClass RL = some m.cls := hown
  obtain ⟨hI2, hI9, hI12, hI16, hI18, hI22, hI31, hI38, hI43, hI47, hI50, hI0, hI26, hI101, hI102, hI103, hI104, hI105, hI106, hI107, hI109, hI110, hI111, hI119, hs_jKept, hs_jBook, hs_jNd12, hs_jN67, hs_jBl, hs_jKb, hs_jTR, hs_jKh, hs_jKg, ht0, ht1, ht2, ht3, ht4, ht5, ht6, ht7, ht8, ht9, ht10, ht11, ht12, ht13, hr0, hr1, hr2, hr3, hr4, hr5, hr6, hr7, hr8, hr9, hr10, hr11, hr12⟩ := hAll
  have hL9 : (L : Int) ≤ 384 := by omega
  obtain ⟨i1, i2, i3, i4, i5, w6⟩ : (0 ≤ (σ 2 0).toInt ∧ (σ 2 0).toInt ≤ 4) ∧ (0 ≤ (σ 2 1).toInt ∧ (σ 2 1).toInt ≤ 3) ∧ (0 ≤ (σ 2 2).toInt) ∧ (0 ≤ (σ 2 3).toInt) ∧ ((σ 2 2).toInt + (σ 2 3).toInt ≤ 40) ∧ (∀ k : Nat, k < 40 → 0 ≤ (σ 6 k).toInt ∧ (σ 6 k).toInt ≤ 67) := id hI2
  obtain ⟨i7, w8, w9⟩ : (0 ≤ (σ 9 0).toInt ∧ (σ 9 0).toInt ≤ 80) ∧ (∀ k : Nat, k < 80 → 0 ≤ (σ 10 k).toInt ∧ (σ 10 k).toInt ≤ 255) ∧ (∀ k : Nat, k < 8 → 0 ≤ (σ 11 k).toInt ∧ (σ 11 k).toInt ≤ 3) := id hI9
  obtain ⟨i10, i11, i12, w13⟩ : (1 ≤ (σ 16 0).toInt ∧ (σ 16 0).toInt ≤ 8) ∧ (1 ≤ (σ 16 1).toInt ∧ (σ 16 1).toInt ≤ 12) ∧ (0 ≤ (σ 16 2).toInt ∧ (σ 16 2).toInt ≤ 999) ∧ (∀ k : Nat, k < 8 → 0 ≤ (σ 17 k).toInt ∧ (σ 17 k).toInt ≤ 3) := id hI16
  obtain ⟨i14, i15, w16⟩ : (0 ≤ (σ 38 0).toInt ∧ (σ 38 0).toInt ≤ 20) ∧ (0 ≤ (σ 38 1).toInt ∧ (σ 38 1).toInt ≤ 1000) ∧ (∀ k : Nat, k < 20 → 0 ≤ (σ 39 k).toInt ∧ (σ 39 k).toInt ≤ 6) := id hI38
  obtain ⟨i17, w18, w19⟩ : (0 ≤ (σ 47 0).toInt ∧ (σ 47 0).toInt ≤ 12) ∧ (∀ k : Nat, k < 12 → 0 ≤ (σ 48 k).toInt ∧ (σ 48 k).toInt ≤ 3) ∧ (∀ k : Nat, k < 12 → 0 ≤ (σ 49 k).toInt ∧ (σ 49 k).toInt ≤ 1) := id hI47
  have w20 : ∀ k : Nat, k < 6 → 0 ≤ (σ 52 k).toInt ∧ (σ 52 k).toInt ≤ 60 := hI50
  have i21 : 1 ≤ (σ 26 6).toInt ∧ (σ 26 6).toInt ≤ 8000 := hI26
  obtain ⟨i22, i23, i24, w25, w26, w27, w28⟩ : (0 ≤ (σ 55 5).toInt) ∧ ((σ 55 5).toInt ≤ (σ 55 4).toInt) ∧ ((σ 55 4).toInt ≤ 40) ∧ (∀ k : Nat, k < 68 → (-200) ≤ (σ 56 k).toInt ∧ (σ 56 k).toInt ≤ 500) ∧ (∀ k : Nat, k < 40 → 0 ≤ (σ 57 k).toInt ∧ (σ 57 k).toInt ≤ 67) ∧ (∀ k : Nat, k < 40 → (-200) ≤ (σ 58 k).toInt ∧ (σ 58 k).toInt ≤ 500) ∧ (∀ k : Nat, k < 40 → (-200) ≤ (σ 59 k).toInt ∧ (σ 59 k).toInt ≤ 500) := id hI101
  obtain ⟨i29, w30, w31⟩ : (0 ≤ (σ 55 6).toInt ∧ (σ 55 6).toInt ≤ 4) ∧ (∀ k : Nat, k < 4 → 0 ≤ (σ 60 k).toInt ∧ (σ 60 k).toInt ≤ 50) ∧ (∀ k : Nat, k < 4 → 0 ≤ (σ 61 k).toInt ∧ (σ 61 k).toInt ≤ 20) := id hI102
  have i32 : 0 ≤ (σ 55 9).toInt ∧ (σ 55 9).toInt ≤ 3 := hI103
  obtain ⟨i33, i34, i35, w36, w37⟩ : (1 ≤ (σ 55 10).toInt ∧ (σ 55 10).toInt ≤ 8) ∧ (1 ≤ (σ 55 12).toInt ∧ (σ 55 12).toInt ≤ 12) ∧ (0 ≤ (σ 55 13).toInt ∧ (σ 55 13).toInt ≤ 999) ∧ (∀ k : Nat, k < 8 → 0 ≤ (σ 62 k).toInt ∧ (σ 62 k).toInt ≤ 3) ∧ (∀ k : Nat, k < 8 → 0 ≤ (σ 67 k).toInt ∧ (σ 67 k).toInt ≤ 3) := id hI104
  obtain ⟨i38, w39⟩ : (0 ≤ (σ 55 15).toInt ∧ (σ 55 15).toInt ≤ 80) ∧ (∀ k : Nat, k < 2 → (-1) ≤ (σ 65 k).toInt ∧ (σ 65 k).toInt ≤ 80) := id hI105
  obtain ⟨i40, w41, w42, w43⟩ : (0 ≤ (σ 55 32).toInt ∧ (σ 55 32).toInt ≤ 20) ∧ (∀ k : Nat, k < 20 → 0 ≤ (σ 70 k).toInt ∧ (σ 70 k).toInt ≤ 6) ∧ (∀ k : Nat, k < 20 → 0 ≤ (σ 71 k).toInt ∧ (σ 71 k).toInt ≤ 8) ∧ (∀ k : Nat, k < 160 → 0 ≤ (σ 72 k).toInt ∧ (σ 72 k).toInt ≤ 3) := id hI106
  obtain ⟨i44, i45, w46⟩ : (0 ≤ (σ 55 47).toInt ∧ (σ 55 47).toInt ≤ 12) ∧ ((σ 55 47).toInt ≤ (σ 55 12).toInt) ∧ (∀ k : Nat, k < 12 → 0 ≤ (σ 80 k).toInt ∧ (σ 80 k).toInt ≤ 3) := id hI107
  have hs_jOk3 : jOk3 σ := hr0.ok hr1.1
  refine lv_aload_n hx hb dL_law_1056 rfl (lv_at hl 2 rfl) ?_
  refine lv_aload_n hx hb dL_law_1057 rfl (lv_at hl 3 rfl) ?_
  refine lv_iload_n hx hb dL_law_1058 rfl (lv_at hl 0 rfl) ?_
  refine lv_iconst (v := 1) hx hb dL_law_1059 (by decide) ?_
  have g47 := jrg (rfl : x0.toInt = x0.toInt)
  refine lv_iadd hx hb dL_law_1060 ?_
  refine lv_topi (fun x48 ex48 => ?_)
  have tx48 : x48.toInt = x0.toInt + 1 := (jadd ex48 rfl jz_1 (by omega) (by omega)).trans (by omega)
  refine va_sld hx hb hX hbl hbA hS (jin tx48 (by omega) (by omega)) dL_law_1061 ?_
  have g49 := jrg (rfl : (xs x48.toNatClampNeg).toInt = (xs x48.toNatClampNeg).toInt)
  refine lv_aload_n hx hb dL_law_1062 rfl (lv_at hl 3 rfl) ?_
  refine lv_iload_n hx hb dL_law_1063 rfl (lv_at hl 0 rfl) ?_
  refine lv_iconst (v := 2) hx hb dL_law_1064 (by decide) ?_
  refine lv_iadd hx hb dL_law_1065 ?_
  refine lv_topi (fun x50 ex50 => ?_)
  have tx50 : x50.toInt = x0.toInt + 2 := (jadd ex50 rfl jz_2 (by omega) (by omega)).trans (by omega)
  refine va_sld hx hb hX hbl hbA hS (jin tx50 (by omega) (by omega)) dL_law_1066 ?_
  have g51 := jrg (rfl : (xs x50.toNatClampNeg).toInt = (xs x50.toNatClampNeg).toInt)
  refine jcallV (As := [.int (xs x48.toNatClampNeg), .int (xs x50.toNatClampNeg)]) (rest := []) ⟨hx, hb, hml, hown, hts⟩ hK hP hA hS hZ (c_X11_keep l D cI cL ad zz hJ σ τ (xs x48.toNatClampNeg) ((xs x48.toNatClampNeg).toInt) rfl (xs x50.toNatClampNeg) ((xs x50.toNatClampNeg).toInt) rfl hI38 hI50) cw_RL_137 (jc_0 cI cL ad σ τ) rfl ⟨Nat.le_of_ble_eq_true rfl, Nat.le_of_ble_eq_true rfl⟩ rfl rfl rfl hl.1 rfl (Nat.le_of_ble_eq_true rfl) dL_law_1067 ⟨Nat.le_of_ble_eq_true rfl, Nat.le_of_ble_eq_true rfl⟩ (fun r53 σ52 τ52 H locs h52 hP hS => ?_)
  obtain ⟨rfl, f54, I55, h52⟩ := h52
  have w57 : ∀ k : Nat, k < 6 → 0 ≤ (σ52 52 k).toInt ∧ (σ52 52 k).toInt ≤ 60 := I55
  rcases h52 with h58 | h59 | h60
  · obtain ⟨q64, k61, k62, k63⟩ := h58
    have q64 := q64.symm
    subst q64
    refine lv_pop hx hb dL_law_1070 rfl ?_
    refine lv_aload_n hx hb dL_law_1071 rfl (lv_at hl 1 rfl) ?_
    refine lv_aload_n hx hb dL_law_1072 rfl (lv_at hl 3 rfl) ?_
    refine lv_iload_n hx hb dL_law_1073 rfl (lv_at hl 0 rfl) ?_
    refine lv_iconst (v := 1) hx hb dL_law_1074 (by decide) ?_
    refine lv_iadd hx hb dL_law_1075 ?_
    refine jtopr ex48.symm ?_
    refine va_sld hx hb hX hbl hbA hS (jin tx48 (by omega) (by omega)) dL_law_1076 ?_
    refine lv_aload_n hx hb dL_law_1077 rfl (lv_at hl 3 rfl) ?_
    refine lv_iload_n hx hb dL_law_1078 rfl (lv_at hl 0 rfl) ?_
    refine lv_iconst (v := 2) hx hb dL_law_1079 (by decide) ?_
    refine lv_iadd hx hb dL_law_1080 ?_
    refine jtopr ex50.symm ?_
    refine va_sld hx hb hX hbl hbA hS (jin tx50 (by omega) (by omega)) dL_law_1081 ?_
    have I65 : jI106 σ52 := jI106_fr (congrFun (f54 55 (by decide)) 32) (f54 70 (by decide)) (f54 71 (by decide)) (f54 72 (by decide)) hI106
    have I66 : jI110 σ52 := jI110_fr (f54 86 (by decide)) (f54 87 (by decide)) hI110
    have z67 : (σ52 55 32).toInt = (σ 55 32).toInt := (congrArg Int32.toInt (show σ52 55 32 = (σ 55 32) from (congrFun (f54 55 (by decide)) 32)))
    refine jcallV (As := [.int (xs x48.toNatClampNeg), .int (xs x50.toNatClampNeg)]) (rest := []) ⟨hx, hb, hml, hown, hts⟩ hK hP hA hS hZ (c_X12_keep l D cI cL ad zz hJ σ52 τ (xs x48.toNatClampNeg) ((xs x48.toNatClampNeg).toInt) rfl (xs x50.toNatClampNeg) ((xs x50.toNatClampNeg).toInt) rfl I65 I66) cw_RL_140 (jc_55 cI cL ad σ52 τ) rfl ⟨Nat.le_of_ble_eq_true rfl, Nat.le_of_ble_eq_true rfl⟩ rfl rfl rfl hl.1 rfl (Nat.le_of_ble_eq_true rfl) dL_law_1082 ⟨Nat.le_of_ble_eq_true rfl, Nat.le_of_ble_eq_true rfl⟩ (fun r69 σ68 τ68 H locs h68 hP hS => ?_)
    obtain ⟨rfl, f70, I71, h68⟩ := h68
    rcases h68 with h73 | h74 | h75
    · obtain ⟨q79, k76, k77, k78⟩ := h73
      have q79 := q79.symm
      subst q79
      refine lv_pop hx hb dL_law_1085 rfl ?_
      refine lv_goto (tgt := 1357) hx hb dL_law_1086 (by decide) ?_
      obtain ⟨x80, ex80⟩ : ∃ y : Int32, y = x0 + 6 := ⟨_, rfl⟩
      have tx80 : x80.toInt = x0.toInt + 6 := (jadd ex80 rfl jz_6 (by omega) (by omega)).trans (by omega)
      refine lv_iinc (v := x80) (lv' := [(3, .int x80), (2, .ref (ad 55)), (1, .ref (ad 0)), (0, .ref b)]) hx hb dL_law_1357 hl (k := 0) rfl (by rw [ex80]; rfl) (by decide) rfl (fun ls hl => ?_)
      refine lv_goto (tgt := 18) hx hb dL_law_1360 (by decide) ?_
      have I81 : jI2 σ68 := jI2_fr ((congrFun (f70 2 (by decide)) 0).trans (congrFun (f54 2 (by decide)) 0)) ((congrFun (f70 2 (by decide)) 1).trans (congrFun (f54 2 (by decide)) 1)) ((congrFun (f70 2 (by decide)) 2).trans (congrFun (f54 2 (by decide)) 2)) ((congrFun (f70 2 (by decide)) 3).trans (congrFun (f54 2 (by decide)) 3)) ((f70 6 (by decide)).trans (f54 6 (by decide))) hI2
      have I82 : jI9 σ68 := jI9_fr ((congrFun (f70 9 (by decide)) 0).trans (congrFun (f54 9 (by decide)) 0)) ((f70 10 (by decide)).trans (f54 10 (by decide))) ((f70 11 (by decide)).trans (f54 11 (by decide))) hI9
      have I83 : jI12 σ68 := jI12_fr ((congrFun (f70 12 (by decide)) 0).trans (congrFun (f54 12 (by decide)) 0)) ((f70 13 (by decide)).trans (f54 13 (by decide))) hI12
      have I84 : jI16 σ68 := jI16_fr ((congrFun (f70 16 (by decide)) 0).trans (congrFun (f54 16 (by decide)) 0)) ((congrFun (f70 16 (by decide)) 1).trans (congrFun (f54 16 (by decide)) 1)) ((congrFun (f70 16 (by decide)) 2).trans (congrFun (f54 16 (by decide)) 2)) ((f70 17 (by decide)).trans (f54 17 (by decide))) hI16
      have I85 : jI18 σ68 := jI18_fr ((congrFun (f70 18 (by decide)) 0).trans (congrFun (f54 18 (by decide)) 0)) ((f70 19 (by decide)).trans (f54 19 (by decide))) hI18
      have I86 : jI22 σ68 := jI22_fr ((congrFun (f70 22 (by decide)) 0).trans (congrFun (f54 22 (by decide)) 0)) ((f70 23 (by decide)).trans (f54 23 (by decide))) hI22
      have I87 : jI31 σ68 := jI31_fr ((congrFun (f70 31 (by decide)) 8).trans (congrFun (f54 31 (by decide)) 8)) ((congrFun (f70 31 (by decide)) 10).trans (congrFun (f54 31 (by decide)) 10)) ((congrFun (f70 31 (by decide)) 11).trans (congrFun (f54 31 (by decide)) 11)) ((f70 33 (by decide)).trans (f54 33 (by decide))) ((f70 35 (by decide)).trans (f54 35 (by decide))) ((f70 36 (by decide)).trans (f54 36 (by decide))) hI31
      have I88 : jI38 σ68 := jI38_fr ((congrFun (f70 38 (by decide)) 0).trans (congrFun (f54 38 (by decide)) 0)) ((congrFun (f70 38 (by decide)) 1).trans (congrFun (f54 38 (by decide)) 1)) ((f70 39 (by decide)).trans (f54 39 (by decide))) hI38
      have I89 : jI43 σ68 := jI43_fr ((congrFun (f70 43 (by decide)) 8).trans (congrFun (f54 43 (by decide)) 8)) hI43
      have I90 : jI47 σ68 := jI47_fr ((congrFun (f70 47 (by decide)) 0).trans (congrFun (f54 47 (by decide)) 0)) ((f70 48 (by decide)).trans (f54 48 (by decide))) ((f70 49 (by decide)).trans (f54 49 (by decide))) hI47
      have I91 : jI50 σ68 := jI50_fr (f70 52 (by decide)) I55
      have I92 : jI0 σ68 := jI0_fr ((f70 1 (by decide)).trans (f54 1 (by decide))) hI0
      have I93 : jI26 σ68 := jI26_fr ((congrFun (f70 26 (by decide)) 6).trans (congrFun (f54 26 (by decide)) 6)) hI26
      have I94 : jI101 σ68 := jI101_fr ((congrFun (f70 55 (by decide)) 4).trans (congrFun (f54 55 (by decide)) 4)) ((congrFun (f70 55 (by decide)) 5).trans (congrFun (f54 55 (by decide)) 5)) ((f70 56 (by decide)).trans (f54 56 (by decide))) ((f70 57 (by decide)).trans (f54 57 (by decide))) ((f70 58 (by decide)).trans (f54 58 (by decide))) ((f70 59 (by decide)).trans (f54 59 (by decide))) hI101
      have I95 : jI102 σ68 := jI102_fr ((congrFun (f70 55 (by decide)) 6).trans (congrFun (f54 55 (by decide)) 6)) ((f70 60 (by decide)).trans (f54 60 (by decide))) ((f70 61 (by decide)).trans (f54 61 (by decide))) hI102
      have I96 : jI103 σ68 := jI103_fr ((congrFun (f70 55 (by decide)) 9).trans (congrFun (f54 55 (by decide)) 9)) hI103
      have I97 : jI104 σ68 := jI104_fr ((congrFun (f70 55 (by decide)) 10).trans (congrFun (f54 55 (by decide)) 10)) ((congrFun (f70 55 (by decide)) 12).trans (congrFun (f54 55 (by decide)) 12)) ((congrFun (f70 55 (by decide)) 13).trans (congrFun (f54 55 (by decide)) 13)) ((f70 62 (by decide)).trans (f54 62 (by decide))) ((f70 67 (by decide)).trans (f54 67 (by decide))) hI104
      have I98 : jI105 σ68 := jI105_fr ((congrFun (f70 55 (by decide)) 15).trans (congrFun (f54 55 (by decide)) 15)) ((f70 65 (by decide)).trans (f54 65 (by decide))) hI105
      have I99 : jI106 σ68 := jI106_fr (congrFun (f70 55 (by decide)) 32) (f70 70 (by decide)) (f70 71 (by decide)) (f70 72 (by decide)) I65
      have I100 : jI107 σ68 := jI107_fr ((congrFun (f70 55 (by decide)) 12).trans (congrFun (f54 55 (by decide)) 12)) ((congrFun (f70 55 (by decide)) 47).trans (congrFun (f54 55 (by decide)) 47)) ((f70 80 (by decide)).trans (f54 80 (by decide))) hI107
      have I101 : jI109 σ68 := jI109_fr ((congrFun (f70 55 (by decide)) 50).trans (congrFun (f54 55 (by decide)) 50)) hI109
      have I102 : jI111 σ68 := jI111_fr ((f70 79 (by decide)).trans (f54 79 (by decide))) hI111
      have I103 : jI119 σ68 := jI119_fr ((f70 68 (by decide)).trans (f54 68 (by decide))) hI119
      have p104 : jKept σ68 := jKept.fr ((f70 75 (by decide)).trans (f54 75 (by decide))) ((f70 76 (by decide)).trans (f54 76 (by decide))) ((f70 77 (by decide)).trans (f54 77 (by decide))) hs_jKept
      have p105 : jBook σ68 := jBook.fr ((congrFun (f70 55 (by decide)) 47).trans (congrFun (f54 55 (by decide)) 47)) ((congrFun (f70 55 (by decide)) 10).trans (congrFun (f54 55 (by decide)) 10)) ((f70 81 (by decide)).trans (f54 81 (by decide))) hs_jBook
      have p106 : jNd12 σ68 := jNd12.fr ((congrFun (f70 12 (by decide)) 0).trans (congrFun (f54 12 (by decide)) 0)) ((congrFun (f70 12 (by decide)) 1).trans (congrFun (f54 12 (by decide)) 1)) ((f70 13 (by decide)).trans (f54 13 (by decide))) hs_jNd12
      have p107 : jN67 σ68 := jN67.fr ((f70 24 (by decide)).trans (f54 24 (by decide))) hs_jN67
      have p108 : jBl σ68 := jBl.fr ((congrFun (f70 22 (by decide)) 0).trans (congrFun (f54 22 (by decide)) 0)) ((congrFun (f70 22 (by decide)) 1).trans (congrFun (f54 22 (by decide)) 1)) ((f70 23 (by decide)).trans (f54 23 (by decide))) ((congrFun (f70 26 (by decide)) 6).trans (congrFun (f54 26 (by decide)) 6)) ((congrFun (f70 26 (by decide)) 7).trans (congrFun (f54 26 (by decide)) 7)) ((f70 29 (by decide)).trans (f54 29 (by decide))) ((f70 30 (by decide)).trans (f54 30 (by decide))) hs_jBl
      have p109 : jKb σ68 := jKb.fr ((congrFun (f70 31 (by decide)) 8).trans (congrFun (f54 31 (by decide)) 8)) ((congrFun (f70 31 (by decide)) 11).trans (congrFun (f54 31 (by decide)) 11)) ((f70 32 (by decide)).trans (f54 32 (by decide))) hs_jKb
      have p110 : jTR σ68 := jTR.fr ((f70 64 (by decide)).trans (f54 64 (by decide))) ((f70 65 (by decide)).trans (f54 65 (by decide))) hs_jTR
      have p111 : jKh σ68 := jKh.fr ((congrFun (f70 31 (by decide)) 8).trans (congrFun (f54 31 (by decide)) 8)) ((f70 32 (by decide)).trans (f54 32 (by decide))) ((f70 36 (by decide)).trans (f54 36 (by decide))) ((f70 37 (by decide)).trans (f54 37 (by decide))) hs_jKh
      have p112 : jKg σ68 := jKg.fr ((congrFun (f70 31 (by decide)) 8).trans (congrFun (f54 31 (by decide)) 8)) ((congrFun (f70 31 (by decide)) 9).trans (congrFun (f54 31 (by decide)) 9)) ((congrFun (f70 31 (by decide)) 11).trans (congrFun (f54 31 (by decide)) 11)) ((congrFun (f70 31 (by decide)) 12).trans (congrFun (f54 31 (by decide)) 12)) ((f70 32 (by decide)).trans (f54 32 (by decide))) ((f70 33 (by decide)).trans (f54 33 (by decide))) hs_jKg
      have z113 : (σ68 2 0).toInt = (σ 2 0).toInt := (congrArg Int32.toInt (show σ68 2 0 = (σ 2 0) from ((congrFun (f70 2 (by decide)) 0).trans (congrFun (f54 2 (by decide)) 0))))
      have z114 : (σ68 55 6).toInt = (σ 55 6).toInt := (congrArg Int32.toInt (show σ68 55 6 = (σ 55 6) from ((congrFun (f70 55 (by decide)) 6).trans (congrFun (f54 55 (by decide)) 6))))
      have z115 : (σ68 2 2).toInt = (σ 2 2).toInt := (congrArg Int32.toInt (show σ68 2 2 = (σ 2 2) from ((congrFun (f70 2 (by decide)) 2).trans (congrFun (f54 2 (by decide)) 2))))
      have z116 : (σ68 55 5).toInt = (σ 55 5).toInt := (congrArg Int32.toInt (show σ68 55 5 = (σ 55 5) from ((congrFun (f70 55 (by decide)) 5).trans (congrFun (f54 55 (by decide)) 5))))
      have z117 : (σ68 2 3).toInt = (σ 2 3).toInt := (congrArg Int32.toInt (show σ68 2 3 = (σ 2 3) from ((congrFun (f70 2 (by decide)) 3).trans (congrFun (f54 2 (by decide)) 3))))
      have z118 : (σ68 55 4).toInt = (σ 55 4).toInt := (congrArg Int32.toInt (show σ68 55 4 = (σ 55 4) from ((congrFun (f70 55 (by decide)) 4).trans (congrFun (f54 55 (by decide)) 4))))
      have z119 : (σ68 9 0).toInt = (σ 9 0).toInt := (congrArg Int32.toInt (show σ68 9 0 = (σ 9 0) from ((congrFun (f70 9 (by decide)) 0).trans (congrFun (f54 9 (by decide)) 0))))
      have z120 : (σ68 55 15).toInt = (σ 55 15).toInt := (congrArg Int32.toInt (show σ68 55 15 = (σ 55 15) from ((congrFun (f70 55 (by decide)) 15).trans (congrFun (f54 55 (by decide)) 15))))
      have z121 : (σ68 16 0).toInt = (σ 16 0).toInt := (congrArg Int32.toInt (show σ68 16 0 = (σ 16 0) from ((congrFun (f70 16 (by decide)) 0).trans (congrFun (f54 16 (by decide)) 0))))
      have z122 : (σ68 55 10).toInt = (σ 55 10).toInt := (congrArg Int32.toInt (show σ68 55 10 = (σ 55 10) from ((congrFun (f70 55 (by decide)) 10).trans (congrFun (f54 55 (by decide)) 10))))
      have z123 : (σ68 16 1).toInt = (σ 16 1).toInt := (congrArg Int32.toInt (show σ68 16 1 = (σ 16 1) from ((congrFun (f70 16 (by decide)) 1).trans (congrFun (f54 16 (by decide)) 1))))
      have z124 : (σ68 55 12).toInt = (σ 55 12).toInt := (congrArg Int32.toInt (show σ68 55 12 = (σ 55 12) from ((congrFun (f70 55 (by decide)) 12).trans (congrFun (f54 55 (by decide)) 12))))
      have z125 : (σ68 16 2).toInt = (σ 16 2).toInt := (congrArg Int32.toInt (show σ68 16 2 = (σ 16 2) from ((congrFun (f70 16 (by decide)) 2).trans (congrFun (f54 16 (by decide)) 2))))
      have z126 : (σ68 55 13).toInt = (σ 55 13).toInt := (congrArg Int32.toInt (show σ68 55 13 = (σ 55 13) from ((congrFun (f70 55 (by decide)) 13).trans (congrFun (f54 55 (by decide)) 13))))
      have z127 : (σ68 38 0).toInt = (σ 38 0).toInt := (congrArg Int32.toInt (show σ68 38 0 = (σ 38 0) from ((congrFun (f70 38 (by decide)) 0).trans (congrFun (f54 38 (by decide)) 0))))
      have z128 : (σ68 55 32).toInt = (σ 55 32).toInt := (congrArg Int32.toInt (show σ68 55 32 = (σ 55 32) from ((congrFun (f70 55 (by decide)) 32).trans (congrFun (f54 55 (by decide)) 32))))
      have z129 : (σ68 38 1).toInt = (σ 38 1).toInt := (congrArg Int32.toInt (show σ68 38 1 = (σ 38 1) from ((congrFun (f70 38 (by decide)) 1).trans (congrFun (f54 38 (by decide)) 1))))
      have z130 : (σ68 55 55).toInt = (σ 55 55).toInt := (congrArg Int32.toInt (show σ68 55 55 = (σ 55 55) from ((congrFun (f70 55 (by decide)) 55).trans (congrFun (f54 55 (by decide)) 55))))
      have z131 : (σ68 47 0).toInt = (σ 47 0).toInt := (congrArg Int32.toInt (show σ68 47 0 = (σ 47 0) from ((congrFun (f70 47 (by decide)) 0).trans (congrFun (f54 47 (by decide)) 0))))
      have z132 : (σ68 55 47).toInt = (σ 55 47).toInt := (congrArg Int32.toInt (show σ68 55 47 = (σ 55 47) from ((congrFun (f70 55 (by decide)) 47).trans (congrFun (f54 55 (by decide)) 47))))
      have z133 : (σ68 55 30).toInt = (σ 55 30).toInt := (congrArg Int32.toInt (show σ68 55 30 = (σ 55 30) from ((congrFun (f70 55 (by decide)) 30).trans (congrFun (f54 55 (by decide)) 30))))
      have z134 : (σ68 55 31).toInt = (σ 55 31).toInt := (congrArg Int32.toInt (show σ68 55 31 = (σ 55 31) from ((congrFun (f70 55 (by decide)) 31).trans (congrFun (f54 55 (by decide)) 31))))
      have z135 : (σ68 2 1).toInt = (σ 2 1).toInt := (congrArg Int32.toInt (show σ68 2 1 = (σ 2 1) from ((congrFun (f70 2 (by decide)) 1).trans (congrFun (f54 2 (by decide)) 1))))
      have z136 : (σ68 55 9).toInt = (σ 55 9).toInt := (congrArg Int32.toInt (show σ68 55 9 = (σ 55 9) from ((congrFun (f70 55 (by decide)) 9).trans (congrFun (f54 55 (by decide)) 9))))
      have z137 : (σ68 26 6).toInt = (σ 26 6).toInt := (congrArg Int32.toInt (show σ68 26 6 = (σ 26 6) from ((congrFun (f70 26 (by decide)) 6).trans (congrFun (f54 26 (by decide)) 6))))
      rw [show σ52 86 = σ 86 from (f54 86 (by decide)), show σ52 87 = σ 87 from (f54 87 (by decide))] at k78
      have p138 := hr4.set k63.1 k63.2.2 k63.2.1 k78.1 k78.2 (Or.inl ⟨rfl, Int32.toInt_inj.mp (show (xs x50.toNatClampNeg).toInt = (-1 : Int32).toInt by rw [show (-1 : Int32).toInt = -1 by decide]; omega)⟩)
      have p139 := hr5.keep k63.1 k63.2.2 (by decide)
      have z140 : (σ68 18 0).toInt = (σ 18 0).toInt := (congrArg Int32.toInt (show σ68 18 0 = (σ 18 0) from ((congrFun (f70 18 (by decide)) 0).trans (congrFun (f54 18 (by decide)) 0))))
      have z141 : (σ68 22 0).toInt = (σ 22 0).toInt := (congrArg Int32.toInt (show σ68 22 0 = (σ 22 0) from ((congrFun (f70 22 (by decide)) 0).trans (congrFun (f54 22 (by decide)) 0))))
      exact ih x80 σ68 τ _ _ ls (by have h9 := tx80; omega) ⟨I81, I82, I83, I84, I85, I86, I87, I88, I89, I90, I91, I92, I93, I94, I95, I96, I97, I98, I99, I100, I101, I71, I102, I103, p104, p105, p106, p107, p108, p109, p110, p111, p112, (by omega), (by omega), (by omega), (by omega), (by omega), (by omega), (by omega), (by omega), (by omega), (by omega), (by omega), (by omega), (by omega), (by have h9 := tx80; omega), (show jNumP (σ68 3) (σ68 56) (σ68 6) (σ68 57) (σ68 7) (σ68 58) (σ68 8) (σ68 59) (σ68 55 6).toInt (σ68 55 4).toInt by rw [show σ68 3 = σ 3 from ((f70 3 (by decide)).trans (f54 3 (by decide))), show σ68 56 = σ 56 from ((f70 56 (by decide)).trans (f54 56 (by decide))), show σ68 6 = σ 6 from ((f70 6 (by decide)).trans (f54 6 (by decide))), show σ68 57 = σ 57 from ((f70 57 (by decide)).trans (f54 57 (by decide))), show σ68 7 = σ 7 from ((f70 7 (by decide)).trans (f54 7 (by decide))), show σ68 58 = σ 58 from ((f70 58 (by decide)).trans (f54 58 (by decide))), show σ68 8 = σ 8 from ((f70 8 (by decide)).trans (f54 8 (by decide))), show σ68 59 = σ 59 from ((f70 59 (by decide)).trans (f54 59 (by decide))), show (σ68 55 6).toInt = (σ 55 6).toInt from by omega, show (σ68 55 4).toInt = (σ 55 4).toInt from by omega]; exact hr0), (show jOvP (σ68 56) (σ68 57) (σ68 58) (σ68 59) (σ68 55 4).toInt by rw [show σ68 56 = σ 56 from ((f70 56 (by decide)).trans (f54 56 (by decide))), show σ68 57 = σ 57 from ((f70 57 (by decide)).trans (f54 57 (by decide))), show σ68 58 = σ 58 from ((f70 58 (by decide)).trans (f54 58 (by decide))), show σ68 59 = σ 59 from ((f70 59 (by decide)).trans (f54 59 (by decide))), show (σ68 55 4).toInt = (σ 55 4).toInt from by omega]; exact hr1), (show jTp (σ68 10) (σ68 63) (σ68 55 15).toInt by rw [show σ68 10 = σ 10 from ((f70 10 (by decide)).trans (f54 10 (by decide))), show σ68 63 = σ 63 from ((f70 63 (by decide)).trans (f54 63 (by decide)))]; exact hr2.le (by omega)), (show jSo (σ68 17) (σ68 62) (σ68 16 0).toInt by rw [show σ68 17 = σ 17 from ((f70 17 (by decide)).trans (f54 17 (by decide))), show σ68 62 = σ 62 from ((f70 62 (by decide)).trans (f54 62 (by decide))), show (σ68 16 0).toInt = (σ 16 0).toInt from by omega]; exact hr3), (show jShP (σ68 51) (σ68 52) (σ68 53) (σ68 86) (σ68 87) (σ68 55 32).toInt by rw [show σ68 51 = σ52 51 from (f70 51 (by decide)), show σ68 52 = σ52 52 from (f70 52 (by decide)), show σ68 53 = σ52 53 from (f70 53 (by decide))]; exact (p138.up (by omega) (by omega))), (show jEl (σ68 51) (σ68 52) (τ 54) (τ 88) by rw [show σ68 51 = σ52 51 from (f70 51 (by decide)), show σ68 52 = σ52 52 from (f70 52 (by decide))]; exact p139), (show jByP (σ68 51) (σ68 52) (τ 54) by rw [show σ68 51 = σ52 51 from (f70 51 (by decide)), show σ68 52 = σ52 52 from (f70 52 (by decide))]; exact (hr6.keep k63.1 k63.2.2 (by decide))), (show jBk (σ68 48) (σ68 80) (σ68 49) (σ68 81) (σ68 55 47).toInt by rw [show σ68 48 = σ 48 from ((f70 48 (by decide)).trans (f54 48 (by decide))), show σ68 49 = σ 49 from ((f70 49 (by decide)).trans (f54 49 (by decide))), show σ68 80 = σ 80 from ((f70 80 (by decide)).trans (f54 80 (by decide))), show σ68 81 = σ 81 from ((f70 81 (by decide)).trans (f54 81 (by decide))), show (σ68 55 47).toInt = (σ 55 47).toInt from by omega]; exact hr7), (show jKd (σ68 39) (σ68 70) (σ68 55 32).toInt by rw [show σ68 39 = σ 39 from ((f70 39 (by decide)).trans (f54 39 (by decide))), show σ68 70 = σ 70 from ((f70 70 (by decide)).trans (f54 70 (by decide))), show (σ68 55 32).toInt = (σ 55 32).toInt from by omega]; exact hr8), (show jTt (σ68 42) (σ68 85) (σ68 55 55).toInt by rw [show σ68 42 = σ 42 from ((f70 42 (by decide)).trans (f54 42 (by decide))), show σ68 85 = σ 85 from ((f70 85 (by decide)).trans (f54 85 (by decide))), show (σ68 55 55).toInt = (σ 55 55).toInt from by omega]; exact hr9), (fun k hk => by rw [show σ68 4 = σ 4 from ((f70 4 (by decide)).trans (f54 4 (by decide))), show σ68 5 = σ 5 from ((f70 5 (by decide)).trans (f54 5 (by decide))), show σ68 60 = σ 60 from ((f70 60 (by decide)).trans (f54 60 (by decide))), show σ68 61 = σ 61 from ((f70 61 (by decide)).trans (f54 61 (by decide)))]; exact hr10 k (by omega)), (fun nm => by rw [show σ68 19 = σ 19 from ((f70 19 (by decide)).trans (f54 19 (by decide))), show σ68 64 = σ 64 from ((f70 64 (by decide)).trans (f54 64 (by decide))), show σ68 65 = σ 65 from ((f70 65 (by decide)).trans (f54 65 (by decide))), show (σ68 18 0).toInt = (σ 18 0).toInt from by omega]; exact hr11 nm), (fun nm => by rw [show σ68 23 = σ 23 from ((f70 23 (by decide)).trans (f54 23 (by decide))), show σ68 64 = σ 64 from ((f70 64 (by decide)).trans (f54 64 (by decide))), show σ68 65 = σ 65 from ((f70 65 (by decide)).trans (f54 65 (by decide))), show (σ68 22 0).toInt = (σ 22 0).toInt from by omega]; exact hr12 nm)⟩ hP hS (lv_sub hl [0, 1, 2, 3] rfl)
    · obtain ⟨q145, k142, k143, k144⟩ := h74
      exact absurd (by omega : False) id
    · obtain ⟨q148, k146, k147⟩ := h75
      exact absurd (by omega : False) id
  · obtain ⟨q152, k149, k150, k151⟩ := h59
    have q152 := q152.symm
    subst q152
    refine lv_pop hx hb dL_law_1070 rfl ?_
    refine lv_aload_n hx hb dL_law_1071 rfl (lv_at hl 1 rfl) ?_
    refine lv_aload_n hx hb dL_law_1072 rfl (lv_at hl 3 rfl) ?_
    refine lv_iload_n hx hb dL_law_1073 rfl (lv_at hl 0 rfl) ?_
    refine lv_iconst (v := 1) hx hb dL_law_1074 (by decide) ?_
    refine lv_iadd hx hb dL_law_1075 ?_
    refine jtopr ex48.symm ?_
    refine va_sld hx hb hX hbl hbA hS (jin tx48 (by omega) (by omega)) dL_law_1076 ?_
    refine lv_aload_n hx hb dL_law_1077 rfl (lv_at hl 3 rfl) ?_
    refine lv_iload_n hx hb dL_law_1078 rfl (lv_at hl 0 rfl) ?_
    refine lv_iconst (v := 2) hx hb dL_law_1079 (by decide) ?_
    refine lv_iadd hx hb dL_law_1080 ?_
    refine jtopr ex50.symm ?_
    refine va_sld hx hb hX hbl hbA hS (jin tx50 (by omega) (by omega)) dL_law_1081 ?_
    have I153 : jI106 σ52 := jI106_fr (congrFun (f54 55 (by decide)) 32) (f54 70 (by decide)) (f54 71 (by decide)) (f54 72 (by decide)) hI106
    have I154 : jI110 σ52 := jI110_fr (f54 86 (by decide)) (f54 87 (by decide)) hI110
    have z155 : (σ52 55 32).toInt = (σ 55 32).toInt := (congrArg Int32.toInt (show σ52 55 32 = (σ 55 32) from (congrFun (f54 55 (by decide)) 32)))
    refine jcallV (As := [.int (xs x48.toNatClampNeg), .int (xs x50.toNatClampNeg)]) (rest := []) ⟨hx, hb, hml, hown, hts⟩ hK hP hA hS hZ (c_X12_keep l D cI cL ad zz hJ σ52 τ (xs x48.toNatClampNeg) ((xs x48.toNatClampNeg).toInt) rfl (xs x50.toNatClampNeg) ((xs x50.toNatClampNeg).toInt) rfl I153 I154) cw_RL_140 (jc_55 cI cL ad σ52 τ) rfl ⟨Nat.le_of_ble_eq_true rfl, Nat.le_of_ble_eq_true rfl⟩ rfl rfl rfl hl.1 rfl (Nat.le_of_ble_eq_true rfl) dL_law_1082 ⟨Nat.le_of_ble_eq_true rfl, Nat.le_of_ble_eq_true rfl⟩ (fun r157 σ156 τ156 H locs h156 hP hS => ?_)
    obtain ⟨rfl, f158, I159, h156⟩ := h156
    rcases h156 with h161 | h162 | h163
    · obtain ⟨q167, k164, k165, k166⟩ := h161
      exact absurd (by omega : False) id
    · obtain ⟨q171, k168, k169, k170⟩ := h162
      have q171 := q171.symm
      subst q171
      refine lv_pop hx hb dL_law_1085 rfl ?_
      refine lv_goto (tgt := 1357) hx hb dL_law_1086 (by decide) ?_
      obtain ⟨x172, ex172⟩ : ∃ y : Int32, y = x0 + 6 := ⟨_, rfl⟩
      have tx172 : x172.toInt = x0.toInt + 6 := (jadd ex172 rfl jz_6 (by omega) (by omega)).trans (by omega)
      refine lv_iinc (v := x172) (lv' := [(3, .int x172), (2, .ref (ad 55)), (1, .ref (ad 0)), (0, .ref b)]) hx hb dL_law_1357 hl (k := 0) rfl (by rw [ex172]; rfl) (by decide) rfl (fun ls hl => ?_)
      refine lv_goto (tgt := 18) hx hb dL_law_1360 (by decide) ?_
      have I173 : jI2 σ156 := jI2_fr ((congrFun (f158 2 (by decide)) 0).trans (congrFun (f54 2 (by decide)) 0)) ((congrFun (f158 2 (by decide)) 1).trans (congrFun (f54 2 (by decide)) 1)) ((congrFun (f158 2 (by decide)) 2).trans (congrFun (f54 2 (by decide)) 2)) ((congrFun (f158 2 (by decide)) 3).trans (congrFun (f54 2 (by decide)) 3)) ((f158 6 (by decide)).trans (f54 6 (by decide))) hI2
      have I174 : jI9 σ156 := jI9_fr ((congrFun (f158 9 (by decide)) 0).trans (congrFun (f54 9 (by decide)) 0)) ((f158 10 (by decide)).trans (f54 10 (by decide))) ((f158 11 (by decide)).trans (f54 11 (by decide))) hI9
      have I175 : jI12 σ156 := jI12_fr ((congrFun (f158 12 (by decide)) 0).trans (congrFun (f54 12 (by decide)) 0)) ((f158 13 (by decide)).trans (f54 13 (by decide))) hI12
      have I176 : jI16 σ156 := jI16_fr ((congrFun (f158 16 (by decide)) 0).trans (congrFun (f54 16 (by decide)) 0)) ((congrFun (f158 16 (by decide)) 1).trans (congrFun (f54 16 (by decide)) 1)) ((congrFun (f158 16 (by decide)) 2).trans (congrFun (f54 16 (by decide)) 2)) ((f158 17 (by decide)).trans (f54 17 (by decide))) hI16
      have I177 : jI18 σ156 := jI18_fr ((congrFun (f158 18 (by decide)) 0).trans (congrFun (f54 18 (by decide)) 0)) ((f158 19 (by decide)).trans (f54 19 (by decide))) hI18
      have I178 : jI22 σ156 := jI22_fr ((congrFun (f158 22 (by decide)) 0).trans (congrFun (f54 22 (by decide)) 0)) ((f158 23 (by decide)).trans (f54 23 (by decide))) hI22
      have I179 : jI31 σ156 := jI31_fr ((congrFun (f158 31 (by decide)) 8).trans (congrFun (f54 31 (by decide)) 8)) ((congrFun (f158 31 (by decide)) 10).trans (congrFun (f54 31 (by decide)) 10)) ((congrFun (f158 31 (by decide)) 11).trans (congrFun (f54 31 (by decide)) 11)) ((f158 33 (by decide)).trans (f54 33 (by decide))) ((f158 35 (by decide)).trans (f54 35 (by decide))) ((f158 36 (by decide)).trans (f54 36 (by decide))) hI31
      have I180 : jI38 σ156 := jI38_fr ((congrFun (f158 38 (by decide)) 0).trans (congrFun (f54 38 (by decide)) 0)) ((congrFun (f158 38 (by decide)) 1).trans (congrFun (f54 38 (by decide)) 1)) ((f158 39 (by decide)).trans (f54 39 (by decide))) hI38
      have I181 : jI43 σ156 := jI43_fr ((congrFun (f158 43 (by decide)) 8).trans (congrFun (f54 43 (by decide)) 8)) hI43
      have I182 : jI47 σ156 := jI47_fr ((congrFun (f158 47 (by decide)) 0).trans (congrFun (f54 47 (by decide)) 0)) ((f158 48 (by decide)).trans (f54 48 (by decide))) ((f158 49 (by decide)).trans (f54 49 (by decide))) hI47
      have I183 : jI50 σ156 := jI50_fr (f158 52 (by decide)) I55
      have I184 : jI0 σ156 := jI0_fr ((f158 1 (by decide)).trans (f54 1 (by decide))) hI0
      have I185 : jI26 σ156 := jI26_fr ((congrFun (f158 26 (by decide)) 6).trans (congrFun (f54 26 (by decide)) 6)) hI26
      have I186 : jI101 σ156 := jI101_fr ((congrFun (f158 55 (by decide)) 4).trans (congrFun (f54 55 (by decide)) 4)) ((congrFun (f158 55 (by decide)) 5).trans (congrFun (f54 55 (by decide)) 5)) ((f158 56 (by decide)).trans (f54 56 (by decide))) ((f158 57 (by decide)).trans (f54 57 (by decide))) ((f158 58 (by decide)).trans (f54 58 (by decide))) ((f158 59 (by decide)).trans (f54 59 (by decide))) hI101
      have I187 : jI102 σ156 := jI102_fr ((congrFun (f158 55 (by decide)) 6).trans (congrFun (f54 55 (by decide)) 6)) ((f158 60 (by decide)).trans (f54 60 (by decide))) ((f158 61 (by decide)).trans (f54 61 (by decide))) hI102
      have I188 : jI103 σ156 := jI103_fr ((congrFun (f158 55 (by decide)) 9).trans (congrFun (f54 55 (by decide)) 9)) hI103
      have I189 : jI104 σ156 := jI104_fr ((congrFun (f158 55 (by decide)) 10).trans (congrFun (f54 55 (by decide)) 10)) ((congrFun (f158 55 (by decide)) 12).trans (congrFun (f54 55 (by decide)) 12)) ((congrFun (f158 55 (by decide)) 13).trans (congrFun (f54 55 (by decide)) 13)) ((f158 62 (by decide)).trans (f54 62 (by decide))) ((f158 67 (by decide)).trans (f54 67 (by decide))) hI104
      have I190 : jI105 σ156 := jI105_fr ((congrFun (f158 55 (by decide)) 15).trans (congrFun (f54 55 (by decide)) 15)) ((f158 65 (by decide)).trans (f54 65 (by decide))) hI105
      have I191 : jI106 σ156 := jI106_fr (congrFun (f158 55 (by decide)) 32) (f158 70 (by decide)) (f158 71 (by decide)) (f158 72 (by decide)) I153
      have I192 : jI107 σ156 := jI107_fr ((congrFun (f158 55 (by decide)) 12).trans (congrFun (f54 55 (by decide)) 12)) ((congrFun (f158 55 (by decide)) 47).trans (congrFun (f54 55 (by decide)) 47)) ((f158 80 (by decide)).trans (f54 80 (by decide))) hI107
      have I193 : jI109 σ156 := jI109_fr ((congrFun (f158 55 (by decide)) 50).trans (congrFun (f54 55 (by decide)) 50)) hI109
      have I194 : jI111 σ156 := jI111_fr ((f158 79 (by decide)).trans (f54 79 (by decide))) hI111
      have I195 : jI119 σ156 := jI119_fr ((f158 68 (by decide)).trans (f54 68 (by decide))) hI119
      have p196 : jKept σ156 := jKept.fr ((f158 75 (by decide)).trans (f54 75 (by decide))) ((f158 76 (by decide)).trans (f54 76 (by decide))) ((f158 77 (by decide)).trans (f54 77 (by decide))) hs_jKept
      have p197 : jBook σ156 := jBook.fr ((congrFun (f158 55 (by decide)) 47).trans (congrFun (f54 55 (by decide)) 47)) ((congrFun (f158 55 (by decide)) 10).trans (congrFun (f54 55 (by decide)) 10)) ((f158 81 (by decide)).trans (f54 81 (by decide))) hs_jBook
      have p198 : jNd12 σ156 := jNd12.fr ((congrFun (f158 12 (by decide)) 0).trans (congrFun (f54 12 (by decide)) 0)) ((congrFun (f158 12 (by decide)) 1).trans (congrFun (f54 12 (by decide)) 1)) ((f158 13 (by decide)).trans (f54 13 (by decide))) hs_jNd12
      have p199 : jN67 σ156 := jN67.fr ((f158 24 (by decide)).trans (f54 24 (by decide))) hs_jN67
      have p200 : jBl σ156 := jBl.fr ((congrFun (f158 22 (by decide)) 0).trans (congrFun (f54 22 (by decide)) 0)) ((congrFun (f158 22 (by decide)) 1).trans (congrFun (f54 22 (by decide)) 1)) ((f158 23 (by decide)).trans (f54 23 (by decide))) ((congrFun (f158 26 (by decide)) 6).trans (congrFun (f54 26 (by decide)) 6)) ((congrFun (f158 26 (by decide)) 7).trans (congrFun (f54 26 (by decide)) 7)) ((f158 29 (by decide)).trans (f54 29 (by decide))) ((f158 30 (by decide)).trans (f54 30 (by decide))) hs_jBl
      have p201 : jKb σ156 := jKb.fr ((congrFun (f158 31 (by decide)) 8).trans (congrFun (f54 31 (by decide)) 8)) ((congrFun (f158 31 (by decide)) 11).trans (congrFun (f54 31 (by decide)) 11)) ((f158 32 (by decide)).trans (f54 32 (by decide))) hs_jKb
      have p202 : jTR σ156 := jTR.fr ((f158 64 (by decide)).trans (f54 64 (by decide))) ((f158 65 (by decide)).trans (f54 65 (by decide))) hs_jTR
      have p203 : jKh σ156 := jKh.fr ((congrFun (f158 31 (by decide)) 8).trans (congrFun (f54 31 (by decide)) 8)) ((f158 32 (by decide)).trans (f54 32 (by decide))) ((f158 36 (by decide)).trans (f54 36 (by decide))) ((f158 37 (by decide)).trans (f54 37 (by decide))) hs_jKh
      have p204 : jKg σ156 := jKg.fr ((congrFun (f158 31 (by decide)) 8).trans (congrFun (f54 31 (by decide)) 8)) ((congrFun (f158 31 (by decide)) 9).trans (congrFun (f54 31 (by decide)) 9)) ((congrFun (f158 31 (by decide)) 11).trans (congrFun (f54 31 (by decide)) 11)) ((congrFun (f158 31 (by decide)) 12).trans (congrFun (f54 31 (by decide)) 12)) ((f158 32 (by decide)).trans (f54 32 (by decide))) ((f158 33 (by decide)).trans (f54 33 (by decide))) hs_jKg
      have z205 : (σ156 2 0).toInt = (σ 2 0).toInt := (congrArg Int32.toInt (show σ156 2 0 = (σ 2 0) from ((congrFun (f158 2 (by decide)) 0).trans (congrFun (f54 2 (by decide)) 0))))
      have z206 : (σ156 55 6).toInt = (σ 55 6).toInt := (congrArg Int32.toInt (show σ156 55 6 = (σ 55 6) from ((congrFun (f158 55 (by decide)) 6).trans (congrFun (f54 55 (by decide)) 6))))
      have z207 : (σ156 2 2).toInt = (σ 2 2).toInt := (congrArg Int32.toInt (show σ156 2 2 = (σ 2 2) from ((congrFun (f158 2 (by decide)) 2).trans (congrFun (f54 2 (by decide)) 2))))
      have z208 : (σ156 55 5).toInt = (σ 55 5).toInt := (congrArg Int32.toInt (show σ156 55 5 = (σ 55 5) from ((congrFun (f158 55 (by decide)) 5).trans (congrFun (f54 55 (by decide)) 5))))
      have z209 : (σ156 2 3).toInt = (σ 2 3).toInt := (congrArg Int32.toInt (show σ156 2 3 = (σ 2 3) from ((congrFun (f158 2 (by decide)) 3).trans (congrFun (f54 2 (by decide)) 3))))
      have z210 : (σ156 55 4).toInt = (σ 55 4).toInt := (congrArg Int32.toInt (show σ156 55 4 = (σ 55 4) from ((congrFun (f158 55 (by decide)) 4).trans (congrFun (f54 55 (by decide)) 4))))
      have z211 : (σ156 9 0).toInt = (σ 9 0).toInt := (congrArg Int32.toInt (show σ156 9 0 = (σ 9 0) from ((congrFun (f158 9 (by decide)) 0).trans (congrFun (f54 9 (by decide)) 0))))
      have z212 : (σ156 55 15).toInt = (σ 55 15).toInt := (congrArg Int32.toInt (show σ156 55 15 = (σ 55 15) from ((congrFun (f158 55 (by decide)) 15).trans (congrFun (f54 55 (by decide)) 15))))
      have z213 : (σ156 16 0).toInt = (σ 16 0).toInt := (congrArg Int32.toInt (show σ156 16 0 = (σ 16 0) from ((congrFun (f158 16 (by decide)) 0).trans (congrFun (f54 16 (by decide)) 0))))
      have z214 : (σ156 55 10).toInt = (σ 55 10).toInt := (congrArg Int32.toInt (show σ156 55 10 = (σ 55 10) from ((congrFun (f158 55 (by decide)) 10).trans (congrFun (f54 55 (by decide)) 10))))
      have z215 : (σ156 16 1).toInt = (σ 16 1).toInt := (congrArg Int32.toInt (show σ156 16 1 = (σ 16 1) from ((congrFun (f158 16 (by decide)) 1).trans (congrFun (f54 16 (by decide)) 1))))
      have z216 : (σ156 55 12).toInt = (σ 55 12).toInt := (congrArg Int32.toInt (show σ156 55 12 = (σ 55 12) from ((congrFun (f158 55 (by decide)) 12).trans (congrFun (f54 55 (by decide)) 12))))
      have z217 : (σ156 16 2).toInt = (σ 16 2).toInt := (congrArg Int32.toInt (show σ156 16 2 = (σ 16 2) from ((congrFun (f158 16 (by decide)) 2).trans (congrFun (f54 16 (by decide)) 2))))
      have z218 : (σ156 55 13).toInt = (σ 55 13).toInt := (congrArg Int32.toInt (show σ156 55 13 = (σ 55 13) from ((congrFun (f158 55 (by decide)) 13).trans (congrFun (f54 55 (by decide)) 13))))
      have z219 : (σ156 38 0).toInt = (σ 38 0).toInt := (congrArg Int32.toInt (show σ156 38 0 = (σ 38 0) from ((congrFun (f158 38 (by decide)) 0).trans (congrFun (f54 38 (by decide)) 0))))
      have z220 : (σ156 55 32).toInt = (σ 55 32).toInt := (congrArg Int32.toInt (show σ156 55 32 = (σ 55 32) from ((congrFun (f158 55 (by decide)) 32).trans (congrFun (f54 55 (by decide)) 32))))
      have z221 : (σ156 38 1).toInt = (σ 38 1).toInt := (congrArg Int32.toInt (show σ156 38 1 = (σ 38 1) from ((congrFun (f158 38 (by decide)) 1).trans (congrFun (f54 38 (by decide)) 1))))
      have z222 : (σ156 55 55).toInt = (σ 55 55).toInt := (congrArg Int32.toInt (show σ156 55 55 = (σ 55 55) from ((congrFun (f158 55 (by decide)) 55).trans (congrFun (f54 55 (by decide)) 55))))
      have z223 : (σ156 47 0).toInt = (σ 47 0).toInt := (congrArg Int32.toInt (show σ156 47 0 = (σ 47 0) from ((congrFun (f158 47 (by decide)) 0).trans (congrFun (f54 47 (by decide)) 0))))
      have z224 : (σ156 55 47).toInt = (σ 55 47).toInt := (congrArg Int32.toInt (show σ156 55 47 = (σ 55 47) from ((congrFun (f158 55 (by decide)) 47).trans (congrFun (f54 55 (by decide)) 47))))
      have z225 : (σ156 55 30).toInt = (σ 55 30).toInt := (congrArg Int32.toInt (show σ156 55 30 = (σ 55 30) from ((congrFun (f158 55 (by decide)) 30).trans (congrFun (f54 55 (by decide)) 30))))
      have z226 : (σ156 55 31).toInt = (σ 55 31).toInt := (congrArg Int32.toInt (show σ156 55 31 = (σ 55 31) from ((congrFun (f158 55 (by decide)) 31).trans (congrFun (f54 55 (by decide)) 31))))
      have z227 : (σ156 2 1).toInt = (σ 2 1).toInt := (congrArg Int32.toInt (show σ156 2 1 = (σ 2 1) from ((congrFun (f158 2 (by decide)) 1).trans (congrFun (f54 2 (by decide)) 1))))
      have z228 : (σ156 55 9).toInt = (σ 55 9).toInt := (congrArg Int32.toInt (show σ156 55 9 = (σ 55 9) from ((congrFun (f158 55 (by decide)) 9).trans (congrFun (f54 55 (by decide)) 9))))
      have z229 : (σ156 26 6).toInt = (σ 26 6).toInt := (congrArg Int32.toInt (show σ156 26 6 = (σ 26 6) from ((congrFun (f158 26 (by decide)) 6).trans (congrFun (f54 26 (by decide)) 6))))
      rw [show σ52 86 = σ 86 from (f54 86 (by decide)), show σ52 87 = σ 87 from (f54 87 (by decide))] at k170
      have p230 := hr4.set k151.1 k151.2.2 k151.2.1 k170.1 k170.2 (Or.inr (Or.inl ⟨rfl, rfl, by omega, by omega⟩))
      have p231 := hr5.keep k151.1 k151.2.2 (by decide)
      have z232 : (σ156 18 0).toInt = (σ 18 0).toInt := (congrArg Int32.toInt (show σ156 18 0 = (σ 18 0) from ((congrFun (f158 18 (by decide)) 0).trans (congrFun (f54 18 (by decide)) 0))))
      have z233 : (σ156 22 0).toInt = (σ 22 0).toInt := (congrArg Int32.toInt (show σ156 22 0 = (σ 22 0) from ((congrFun (f158 22 (by decide)) 0).trans (congrFun (f54 22 (by decide)) 0))))
      exact ih x172 σ156 τ _ _ ls (by have h9 := tx172; omega) ⟨I173, I174, I175, I176, I177, I178, I179, I180, I181, I182, I183, I184, I185, I186, I187, I188, I189, I190, I191, I192, I193, I159, I194, I195, p196, p197, p198, p199, p200, p201, p202, p203, p204, (by omega), (by omega), (by omega), (by omega), (by omega), (by omega), (by omega), (by omega), (by omega), (by omega), (by omega), (by omega), (by omega), (by have h9 := tx172; omega), (show jNumP (σ156 3) (σ156 56) (σ156 6) (σ156 57) (σ156 7) (σ156 58) (σ156 8) (σ156 59) (σ156 55 6).toInt (σ156 55 4).toInt by rw [show σ156 3 = σ 3 from ((f158 3 (by decide)).trans (f54 3 (by decide))), show σ156 56 = σ 56 from ((f158 56 (by decide)).trans (f54 56 (by decide))), show σ156 6 = σ 6 from ((f158 6 (by decide)).trans (f54 6 (by decide))), show σ156 57 = σ 57 from ((f158 57 (by decide)).trans (f54 57 (by decide))), show σ156 7 = σ 7 from ((f158 7 (by decide)).trans (f54 7 (by decide))), show σ156 58 = σ 58 from ((f158 58 (by decide)).trans (f54 58 (by decide))), show σ156 8 = σ 8 from ((f158 8 (by decide)).trans (f54 8 (by decide))), show σ156 59 = σ 59 from ((f158 59 (by decide)).trans (f54 59 (by decide))), show (σ156 55 6).toInt = (σ 55 6).toInt from by omega, show (σ156 55 4).toInt = (σ 55 4).toInt from by omega]; exact hr0), (show jOvP (σ156 56) (σ156 57) (σ156 58) (σ156 59) (σ156 55 4).toInt by rw [show σ156 56 = σ 56 from ((f158 56 (by decide)).trans (f54 56 (by decide))), show σ156 57 = σ 57 from ((f158 57 (by decide)).trans (f54 57 (by decide))), show σ156 58 = σ 58 from ((f158 58 (by decide)).trans (f54 58 (by decide))), show σ156 59 = σ 59 from ((f158 59 (by decide)).trans (f54 59 (by decide))), show (σ156 55 4).toInt = (σ 55 4).toInt from by omega]; exact hr1), (show jTp (σ156 10) (σ156 63) (σ156 55 15).toInt by rw [show σ156 10 = σ 10 from ((f158 10 (by decide)).trans (f54 10 (by decide))), show σ156 63 = σ 63 from ((f158 63 (by decide)).trans (f54 63 (by decide)))]; exact hr2.le (by omega)), (show jSo (σ156 17) (σ156 62) (σ156 16 0).toInt by rw [show σ156 17 = σ 17 from ((f158 17 (by decide)).trans (f54 17 (by decide))), show σ156 62 = σ 62 from ((f158 62 (by decide)).trans (f54 62 (by decide))), show (σ156 16 0).toInt = (σ 16 0).toInt from by omega]; exact hr3), (show jShP (σ156 51) (σ156 52) (σ156 53) (σ156 86) (σ156 87) (σ156 55 32).toInt by rw [show σ156 51 = σ52 51 from (f158 51 (by decide)), show σ156 52 = σ52 52 from (f158 52 (by decide)), show σ156 53 = σ52 53 from (f158 53 (by decide))]; exact (p230.up (by omega) (by omega))), (show jEl (σ156 51) (σ156 52) (τ 54) (τ 88) by rw [show σ156 51 = σ52 51 from (f158 51 (by decide)), show σ156 52 = σ52 52 from (f158 52 (by decide))]; exact p231), (show jByP (σ156 51) (σ156 52) (τ 54) by rw [show σ156 51 = σ52 51 from (f158 51 (by decide)), show σ156 52 = σ52 52 from (f158 52 (by decide))]; exact (hr6.keep k151.1 k151.2.2 (by decide))), (show jBk (σ156 48) (σ156 80) (σ156 49) (σ156 81) (σ156 55 47).toInt by rw [show σ156 48 = σ 48 from ((f158 48 (by decide)).trans (f54 48 (by decide))), show σ156 49 = σ 49 from ((f158 49 (by decide)).trans (f54 49 (by decide))), show σ156 80 = σ 80 from ((f158 80 (by decide)).trans (f54 80 (by decide))), show σ156 81 = σ 81 from ((f158 81 (by decide)).trans (f54 81 (by decide))), show (σ156 55 47).toInt = (σ 55 47).toInt from by omega]; exact hr7), (show jKd (σ156 39) (σ156 70) (σ156 55 32).toInt by rw [show σ156 39 = σ 39 from ((f158 39 (by decide)).trans (f54 39 (by decide))), show σ156 70 = σ 70 from ((f158 70 (by decide)).trans (f54 70 (by decide))), show (σ156 55 32).toInt = (σ 55 32).toInt from by omega]; exact hr8), (show jTt (σ156 42) (σ156 85) (σ156 55 55).toInt by rw [show σ156 42 = σ 42 from ((f158 42 (by decide)).trans (f54 42 (by decide))), show σ156 85 = σ 85 from ((f158 85 (by decide)).trans (f54 85 (by decide))), show (σ156 55 55).toInt = (σ 55 55).toInt from by omega]; exact hr9), (fun k hk => by rw [show σ156 4 = σ 4 from ((f158 4 (by decide)).trans (f54 4 (by decide))), show σ156 5 = σ 5 from ((f158 5 (by decide)).trans (f54 5 (by decide))), show σ156 60 = σ 60 from ((f158 60 (by decide)).trans (f54 60 (by decide))), show σ156 61 = σ 61 from ((f158 61 (by decide)).trans (f54 61 (by decide)))]; exact hr10 k (by omega)), (fun nm => by rw [show σ156 19 = σ 19 from ((f158 19 (by decide)).trans (f54 19 (by decide))), show σ156 64 = σ 64 from ((f158 64 (by decide)).trans (f54 64 (by decide))), show σ156 65 = σ 65 from ((f158 65 (by decide)).trans (f54 65 (by decide))), show (σ156 18 0).toInt = (σ 18 0).toInt from by omega]; exact hr11 nm), (fun nm => by rw [show σ156 23 = σ 23 from ((f158 23 (by decide)).trans (f54 23 (by decide))), show σ156 64 = σ 64 from ((f158 64 (by decide)).trans (f54 64 (by decide))), show σ156 65 = σ 65 from ((f158 65 (by decide)).trans (f54 65 (by decide))), show (σ156 22 0).toInt = (σ 22 0).toInt from by omega]; exact hr12 nm)⟩ hP hS (lv_sub hl [0, 1, 2, 3] rfl)
    · obtain ⟨q236, k234, k235⟩ := h163
      exact absurd (by omega : False) id
  · obtain ⟨q239, k237, k238⟩ := h60
    have q239 := q239.symm
    subst q239
    refine lv_pop hx hb dL_law_1070 rfl ?_
    refine lv_aload_n hx hb dL_law_1071 rfl (lv_at hl 1 rfl) ?_
    refine lv_aload_n hx hb dL_law_1072 rfl (lv_at hl 3 rfl) ?_
    refine lv_iload_n hx hb dL_law_1073 rfl (lv_at hl 0 rfl) ?_
    refine lv_iconst (v := 1) hx hb dL_law_1074 (by decide) ?_
    refine lv_iadd hx hb dL_law_1075 ?_
    refine jtopr ex48.symm ?_
    refine va_sld hx hb hX hbl hbA hS (jin tx48 (by omega) (by omega)) dL_law_1076 ?_
    refine lv_aload_n hx hb dL_law_1077 rfl (lv_at hl 3 rfl) ?_
    refine lv_iload_n hx hb dL_law_1078 rfl (lv_at hl 0 rfl) ?_
    refine lv_iconst (v := 2) hx hb dL_law_1079 (by decide) ?_
    refine lv_iadd hx hb dL_law_1080 ?_
    refine jtopr ex50.symm ?_
    refine va_sld hx hb hX hbl hbA hS (jin tx50 (by omega) (by omega)) dL_law_1081 ?_
    have I240 : jI106 σ52 := jI106_fr (congrFun (f54 55 (by decide)) 32) (f54 70 (by decide)) (f54 71 (by decide)) (f54 72 (by decide)) hI106
    have I241 : jI110 σ52 := jI110_fr (f54 86 (by decide)) (f54 87 (by decide)) hI110
    have z242 : (σ52 55 32).toInt = (σ 55 32).toInt := (congrArg Int32.toInt (show σ52 55 32 = (σ 55 32) from (congrFun (f54 55 (by decide)) 32)))
    refine jcallV (As := [.int (xs x48.toNatClampNeg), .int (xs x50.toNatClampNeg)]) (rest := []) ⟨hx, hb, hml, hown, hts⟩ hK hP hA hS hZ (c_X12_keep l D cI cL ad zz hJ σ52 τ (xs x48.toNatClampNeg) ((xs x48.toNatClampNeg).toInt) rfl (xs x50.toNatClampNeg) ((xs x50.toNatClampNeg).toInt) rfl I240 I241) cw_RL_140 (jc_55 cI cL ad σ52 τ) rfl ⟨Nat.le_of_ble_eq_true rfl, Nat.le_of_ble_eq_true rfl⟩ rfl rfl rfl hl.1 rfl (Nat.le_of_ble_eq_true rfl) dL_law_1082 ⟨Nat.le_of_ble_eq_true rfl, Nat.le_of_ble_eq_true rfl⟩ (fun r244 σ243 τ243 H locs h243 hP hS => ?_)
    obtain ⟨rfl, f245, I246, h243⟩ := h243
    rcases h243 with h248 | h249 | h250
    · obtain ⟨q254, k251, k252, k253⟩ := h248
      exact absurd (by omega : False) id
    · obtain ⟨q258, k255, k256, k257⟩ := h249
      exact absurd (by omega : False) id
    · obtain ⟨q261, k259, k260⟩ := h250
      have q261 := q261.symm
      subst q261
      refine lv_pop hx hb dL_law_1085 rfl ?_
      refine lv_goto (tgt := 1357) hx hb dL_law_1086 (by decide) ?_
      obtain ⟨x262, ex262⟩ : ∃ y : Int32, y = x0 + 6 := ⟨_, rfl⟩
      have tx262 : x262.toInt = x0.toInt + 6 := (jadd ex262 rfl jz_6 (by omega) (by omega)).trans (by omega)
      refine lv_iinc (v := x262) (lv' := [(3, .int x262), (2, .ref (ad 55)), (1, .ref (ad 0)), (0, .ref b)]) hx hb dL_law_1357 hl (k := 0) rfl (by rw [ex262]; rfl) (by decide) rfl (fun ls hl => ?_)
      refine lv_goto (tgt := 18) hx hb dL_law_1360 (by decide) ?_
      have I263 : jI2 σ243 := jI2_fr ((congrFun (f245 2 (by decide)) 0).trans (congrFun (f54 2 (by decide)) 0)) ((congrFun (f245 2 (by decide)) 1).trans (congrFun (f54 2 (by decide)) 1)) ((congrFun (f245 2 (by decide)) 2).trans (congrFun (f54 2 (by decide)) 2)) ((congrFun (f245 2 (by decide)) 3).trans (congrFun (f54 2 (by decide)) 3)) ((f245 6 (by decide)).trans (f54 6 (by decide))) hI2
      have I264 : jI9 σ243 := jI9_fr ((congrFun (f245 9 (by decide)) 0).trans (congrFun (f54 9 (by decide)) 0)) ((f245 10 (by decide)).trans (f54 10 (by decide))) ((f245 11 (by decide)).trans (f54 11 (by decide))) hI9
      have I265 : jI12 σ243 := jI12_fr ((congrFun (f245 12 (by decide)) 0).trans (congrFun (f54 12 (by decide)) 0)) ((f245 13 (by decide)).trans (f54 13 (by decide))) hI12
      have I266 : jI16 σ243 := jI16_fr ((congrFun (f245 16 (by decide)) 0).trans (congrFun (f54 16 (by decide)) 0)) ((congrFun (f245 16 (by decide)) 1).trans (congrFun (f54 16 (by decide)) 1)) ((congrFun (f245 16 (by decide)) 2).trans (congrFun (f54 16 (by decide)) 2)) ((f245 17 (by decide)).trans (f54 17 (by decide))) hI16
      have I267 : jI18 σ243 := jI18_fr ((congrFun (f245 18 (by decide)) 0).trans (congrFun (f54 18 (by decide)) 0)) ((f245 19 (by decide)).trans (f54 19 (by decide))) hI18
      have I268 : jI22 σ243 := jI22_fr ((congrFun (f245 22 (by decide)) 0).trans (congrFun (f54 22 (by decide)) 0)) ((f245 23 (by decide)).trans (f54 23 (by decide))) hI22
      have I269 : jI31 σ243 := jI31_fr ((congrFun (f245 31 (by decide)) 8).trans (congrFun (f54 31 (by decide)) 8)) ((congrFun (f245 31 (by decide)) 10).trans (congrFun (f54 31 (by decide)) 10)) ((congrFun (f245 31 (by decide)) 11).trans (congrFun (f54 31 (by decide)) 11)) ((f245 33 (by decide)).trans (f54 33 (by decide))) ((f245 35 (by decide)).trans (f54 35 (by decide))) ((f245 36 (by decide)).trans (f54 36 (by decide))) hI31
      have I270 : jI38 σ243 := jI38_fr ((congrFun (f245 38 (by decide)) 0).trans (congrFun (f54 38 (by decide)) 0)) ((congrFun (f245 38 (by decide)) 1).trans (congrFun (f54 38 (by decide)) 1)) ((f245 39 (by decide)).trans (f54 39 (by decide))) hI38
      have I271 : jI43 σ243 := jI43_fr ((congrFun (f245 43 (by decide)) 8).trans (congrFun (f54 43 (by decide)) 8)) hI43
      have I272 : jI47 σ243 := jI47_fr ((congrFun (f245 47 (by decide)) 0).trans (congrFun (f54 47 (by decide)) 0)) ((f245 48 (by decide)).trans (f54 48 (by decide))) ((f245 49 (by decide)).trans (f54 49 (by decide))) hI47
      have I273 : jI50 σ243 := jI50_fr (f245 52 (by decide)) I55
      have I274 : jI0 σ243 := jI0_fr ((f245 1 (by decide)).trans (f54 1 (by decide))) hI0
      have I275 : jI26 σ243 := jI26_fr ((congrFun (f245 26 (by decide)) 6).trans (congrFun (f54 26 (by decide)) 6)) hI26
      have I276 : jI101 σ243 := jI101_fr ((congrFun (f245 55 (by decide)) 4).trans (congrFun (f54 55 (by decide)) 4)) ((congrFun (f245 55 (by decide)) 5).trans (congrFun (f54 55 (by decide)) 5)) ((f245 56 (by decide)).trans (f54 56 (by decide))) ((f245 57 (by decide)).trans (f54 57 (by decide))) ((f245 58 (by decide)).trans (f54 58 (by decide))) ((f245 59 (by decide)).trans (f54 59 (by decide))) hI101
      have I277 : jI102 σ243 := jI102_fr ((congrFun (f245 55 (by decide)) 6).trans (congrFun (f54 55 (by decide)) 6)) ((f245 60 (by decide)).trans (f54 60 (by decide))) ((f245 61 (by decide)).trans (f54 61 (by decide))) hI102
      have I278 : jI103 σ243 := jI103_fr ((congrFun (f245 55 (by decide)) 9).trans (congrFun (f54 55 (by decide)) 9)) hI103
      have I279 : jI104 σ243 := jI104_fr ((congrFun (f245 55 (by decide)) 10).trans (congrFun (f54 55 (by decide)) 10)) ((congrFun (f245 55 (by decide)) 12).trans (congrFun (f54 55 (by decide)) 12)) ((congrFun (f245 55 (by decide)) 13).trans (congrFun (f54 55 (by decide)) 13)) ((f245 62 (by decide)).trans (f54 62 (by decide))) ((f245 67 (by decide)).trans (f54 67 (by decide))) hI104
      have I280 : jI105 σ243 := jI105_fr ((congrFun (f245 55 (by decide)) 15).trans (congrFun (f54 55 (by decide)) 15)) ((f245 65 (by decide)).trans (f54 65 (by decide))) hI105
      have I281 : jI106 σ243 := jI106_fr (congrFun (f245 55 (by decide)) 32) (f245 70 (by decide)) (f245 71 (by decide)) (f245 72 (by decide)) I240
      have I282 : jI107 σ243 := jI107_fr ((congrFun (f245 55 (by decide)) 12).trans (congrFun (f54 55 (by decide)) 12)) ((congrFun (f245 55 (by decide)) 47).trans (congrFun (f54 55 (by decide)) 47)) ((f245 80 (by decide)).trans (f54 80 (by decide))) hI107
      have I283 : jI109 σ243 := jI109_fr ((congrFun (f245 55 (by decide)) 50).trans (congrFun (f54 55 (by decide)) 50)) hI109
      have I284 : jI111 σ243 := jI111_fr ((f245 79 (by decide)).trans (f54 79 (by decide))) hI111
      have I285 : jI119 σ243 := jI119_fr ((f245 68 (by decide)).trans (f54 68 (by decide))) hI119
      have p286 : jKept σ243 := jKept.fr ((f245 75 (by decide)).trans (f54 75 (by decide))) ((f245 76 (by decide)).trans (f54 76 (by decide))) ((f245 77 (by decide)).trans (f54 77 (by decide))) hs_jKept
      have p287 : jBook σ243 := jBook.fr ((congrFun (f245 55 (by decide)) 47).trans (congrFun (f54 55 (by decide)) 47)) ((congrFun (f245 55 (by decide)) 10).trans (congrFun (f54 55 (by decide)) 10)) ((f245 81 (by decide)).trans (f54 81 (by decide))) hs_jBook
      have p288 : jNd12 σ243 := jNd12.fr ((congrFun (f245 12 (by decide)) 0).trans (congrFun (f54 12 (by decide)) 0)) ((congrFun (f245 12 (by decide)) 1).trans (congrFun (f54 12 (by decide)) 1)) ((f245 13 (by decide)).trans (f54 13 (by decide))) hs_jNd12
      have p289 : jN67 σ243 := jN67.fr ((f245 24 (by decide)).trans (f54 24 (by decide))) hs_jN67
      have p290 : jBl σ243 := jBl.fr ((congrFun (f245 22 (by decide)) 0).trans (congrFun (f54 22 (by decide)) 0)) ((congrFun (f245 22 (by decide)) 1).trans (congrFun (f54 22 (by decide)) 1)) ((f245 23 (by decide)).trans (f54 23 (by decide))) ((congrFun (f245 26 (by decide)) 6).trans (congrFun (f54 26 (by decide)) 6)) ((congrFun (f245 26 (by decide)) 7).trans (congrFun (f54 26 (by decide)) 7)) ((f245 29 (by decide)).trans (f54 29 (by decide))) ((f245 30 (by decide)).trans (f54 30 (by decide))) hs_jBl
      have p291 : jKb σ243 := jKb.fr ((congrFun (f245 31 (by decide)) 8).trans (congrFun (f54 31 (by decide)) 8)) ((congrFun (f245 31 (by decide)) 11).trans (congrFun (f54 31 (by decide)) 11)) ((f245 32 (by decide)).trans (f54 32 (by decide))) hs_jKb
      have p292 : jTR σ243 := jTR.fr ((f245 64 (by decide)).trans (f54 64 (by decide))) ((f245 65 (by decide)).trans (f54 65 (by decide))) hs_jTR
      have p293 : jKh σ243 := jKh.fr ((congrFun (f245 31 (by decide)) 8).trans (congrFun (f54 31 (by decide)) 8)) ((f245 32 (by decide)).trans (f54 32 (by decide))) ((f245 36 (by decide)).trans (f54 36 (by decide))) ((f245 37 (by decide)).trans (f54 37 (by decide))) hs_jKh
      have p294 : jKg σ243 := jKg.fr ((congrFun (f245 31 (by decide)) 8).trans (congrFun (f54 31 (by decide)) 8)) ((congrFun (f245 31 (by decide)) 9).trans (congrFun (f54 31 (by decide)) 9)) ((congrFun (f245 31 (by decide)) 11).trans (congrFun (f54 31 (by decide)) 11)) ((congrFun (f245 31 (by decide)) 12).trans (congrFun (f54 31 (by decide)) 12)) ((f245 32 (by decide)).trans (f54 32 (by decide))) ((f245 33 (by decide)).trans (f54 33 (by decide))) hs_jKg
      have z295 : (σ243 2 0).toInt = (σ 2 0).toInt := (congrArg Int32.toInt (show σ243 2 0 = (σ 2 0) from ((congrFun (f245 2 (by decide)) 0).trans (congrFun (f54 2 (by decide)) 0))))
      have z296 : (σ243 55 6).toInt = (σ 55 6).toInt := (congrArg Int32.toInt (show σ243 55 6 = (σ 55 6) from ((congrFun (f245 55 (by decide)) 6).trans (congrFun (f54 55 (by decide)) 6))))
      have z297 : (σ243 2 2).toInt = (σ 2 2).toInt := (congrArg Int32.toInt (show σ243 2 2 = (σ 2 2) from ((congrFun (f245 2 (by decide)) 2).trans (congrFun (f54 2 (by decide)) 2))))
      have z298 : (σ243 55 5).toInt = (σ 55 5).toInt := (congrArg Int32.toInt (show σ243 55 5 = (σ 55 5) from ((congrFun (f245 55 (by decide)) 5).trans (congrFun (f54 55 (by decide)) 5))))
      have z299 : (σ243 2 3).toInt = (σ 2 3).toInt := (congrArg Int32.toInt (show σ243 2 3 = (σ 2 3) from ((congrFun (f245 2 (by decide)) 3).trans (congrFun (f54 2 (by decide)) 3))))
      have z300 : (σ243 55 4).toInt = (σ 55 4).toInt := (congrArg Int32.toInt (show σ243 55 4 = (σ 55 4) from ((congrFun (f245 55 (by decide)) 4).trans (congrFun (f54 55 (by decide)) 4))))
      have z301 : (σ243 9 0).toInt = (σ 9 0).toInt := (congrArg Int32.toInt (show σ243 9 0 = (σ 9 0) from ((congrFun (f245 9 (by decide)) 0).trans (congrFun (f54 9 (by decide)) 0))))
      have z302 : (σ243 55 15).toInt = (σ 55 15).toInt := (congrArg Int32.toInt (show σ243 55 15 = (σ 55 15) from ((congrFun (f245 55 (by decide)) 15).trans (congrFun (f54 55 (by decide)) 15))))
      have z303 : (σ243 16 0).toInt = (σ 16 0).toInt := (congrArg Int32.toInt (show σ243 16 0 = (σ 16 0) from ((congrFun (f245 16 (by decide)) 0).trans (congrFun (f54 16 (by decide)) 0))))
      have z304 : (σ243 55 10).toInt = (σ 55 10).toInt := (congrArg Int32.toInt (show σ243 55 10 = (σ 55 10) from ((congrFun (f245 55 (by decide)) 10).trans (congrFun (f54 55 (by decide)) 10))))
      have z305 : (σ243 16 1).toInt = (σ 16 1).toInt := (congrArg Int32.toInt (show σ243 16 1 = (σ 16 1) from ((congrFun (f245 16 (by decide)) 1).trans (congrFun (f54 16 (by decide)) 1))))
      have z306 : (σ243 55 12).toInt = (σ 55 12).toInt := (congrArg Int32.toInt (show σ243 55 12 = (σ 55 12) from ((congrFun (f245 55 (by decide)) 12).trans (congrFun (f54 55 (by decide)) 12))))
      have z307 : (σ243 16 2).toInt = (σ 16 2).toInt := (congrArg Int32.toInt (show σ243 16 2 = (σ 16 2) from ((congrFun (f245 16 (by decide)) 2).trans (congrFun (f54 16 (by decide)) 2))))
      have z308 : (σ243 55 13).toInt = (σ 55 13).toInt := (congrArg Int32.toInt (show σ243 55 13 = (σ 55 13) from ((congrFun (f245 55 (by decide)) 13).trans (congrFun (f54 55 (by decide)) 13))))
      have z309 : (σ243 38 0).toInt = (σ 38 0).toInt := (congrArg Int32.toInt (show σ243 38 0 = (σ 38 0) from ((congrFun (f245 38 (by decide)) 0).trans (congrFun (f54 38 (by decide)) 0))))
      have z310 : (σ243 55 32).toInt = (σ 55 32).toInt := (congrArg Int32.toInt (show σ243 55 32 = (σ 55 32) from ((congrFun (f245 55 (by decide)) 32).trans (congrFun (f54 55 (by decide)) 32))))
      have z311 : (σ243 38 1).toInt = (σ 38 1).toInt := (congrArg Int32.toInt (show σ243 38 1 = (σ 38 1) from ((congrFun (f245 38 (by decide)) 1).trans (congrFun (f54 38 (by decide)) 1))))
      have z312 : (σ243 55 55).toInt = (σ 55 55).toInt := (congrArg Int32.toInt (show σ243 55 55 = (σ 55 55) from ((congrFun (f245 55 (by decide)) 55).trans (congrFun (f54 55 (by decide)) 55))))
      have z313 : (σ243 47 0).toInt = (σ 47 0).toInt := (congrArg Int32.toInt (show σ243 47 0 = (σ 47 0) from ((congrFun (f245 47 (by decide)) 0).trans (congrFun (f54 47 (by decide)) 0))))
      have z314 : (σ243 55 47).toInt = (σ 55 47).toInt := (congrArg Int32.toInt (show σ243 55 47 = (σ 55 47) from ((congrFun (f245 55 (by decide)) 47).trans (congrFun (f54 55 (by decide)) 47))))
      have z315 : (σ243 55 30).toInt = (σ 55 30).toInt := (congrArg Int32.toInt (show σ243 55 30 = (σ 55 30) from ((congrFun (f245 55 (by decide)) 30).trans (congrFun (f54 55 (by decide)) 30))))
      have z316 : (σ243 55 31).toInt = (σ 55 31).toInt := (congrArg Int32.toInt (show σ243 55 31 = (σ 55 31) from ((congrFun (f245 55 (by decide)) 31).trans (congrFun (f54 55 (by decide)) 31))))
      have z317 : (σ243 2 1).toInt = (σ 2 1).toInt := (congrArg Int32.toInt (show σ243 2 1 = (σ 2 1) from ((congrFun (f245 2 (by decide)) 1).trans (congrFun (f54 2 (by decide)) 1))))
      have z318 : (σ243 55 9).toInt = (σ 55 9).toInt := (congrArg Int32.toInt (show σ243 55 9 = (σ 55 9) from ((congrFun (f245 55 (by decide)) 9).trans (congrFun (f54 55 (by decide)) 9))))
      have z319 : (σ243 26 6).toInt = (σ 26 6).toInt := (congrArg Int32.toInt (show σ243 26 6 = (σ 26 6) from ((congrFun (f245 26 (by decide)) 6).trans (congrFun (f54 26 (by decide)) 6))))
      have z321 : (σ243 18 0).toInt = (σ 18 0).toInt := (congrArg Int32.toInt (show σ243 18 0 = (σ 18 0) from ((congrFun (f245 18 (by decide)) 0).trans (congrFun (f54 18 (by decide)) 0))))
      have z322 : (σ243 22 0).toInt = (σ 22 0).toInt := (congrArg Int32.toInt (show σ243 22 0 = (σ 22 0) from ((congrFun (f245 22 (by decide)) 0).trans (congrFun (f54 22 (by decide)) 0))))
      exact ih x262 σ243 τ _ _ ls (by have h9 := tx262; omega) ⟨I263, I264, I265, I266, I267, I268, I269, I270, I271, I272, I273, I274, I275, I276, I277, I278, I279, I280, I281, I282, I283, I246, I284, I285, p286, p287, p288, p289, p290, p291, p292, p293, p294, (by omega), (by omega), (by omega), (by omega), (by omega), (by omega), (by omega), (by omega), (by omega), (by omega), (by omega), (by omega), (by omega), (by have h9 := tx262; omega), (show jNumP (σ243 3) (σ243 56) (σ243 6) (σ243 57) (σ243 7) (σ243 58) (σ243 8) (σ243 59) (σ243 55 6).toInt (σ243 55 4).toInt by rw [show σ243 3 = σ 3 from ((f245 3 (by decide)).trans (f54 3 (by decide))), show σ243 56 = σ 56 from ((f245 56 (by decide)).trans (f54 56 (by decide))), show σ243 6 = σ 6 from ((f245 6 (by decide)).trans (f54 6 (by decide))), show σ243 57 = σ 57 from ((f245 57 (by decide)).trans (f54 57 (by decide))), show σ243 7 = σ 7 from ((f245 7 (by decide)).trans (f54 7 (by decide))), show σ243 58 = σ 58 from ((f245 58 (by decide)).trans (f54 58 (by decide))), show σ243 8 = σ 8 from ((f245 8 (by decide)).trans (f54 8 (by decide))), show σ243 59 = σ 59 from ((f245 59 (by decide)).trans (f54 59 (by decide))), show (σ243 55 6).toInt = (σ 55 6).toInt from by omega, show (σ243 55 4).toInt = (σ 55 4).toInt from by omega]; exact hr0), (show jOvP (σ243 56) (σ243 57) (σ243 58) (σ243 59) (σ243 55 4).toInt by rw [show σ243 56 = σ 56 from ((f245 56 (by decide)).trans (f54 56 (by decide))), show σ243 57 = σ 57 from ((f245 57 (by decide)).trans (f54 57 (by decide))), show σ243 58 = σ 58 from ((f245 58 (by decide)).trans (f54 58 (by decide))), show σ243 59 = σ 59 from ((f245 59 (by decide)).trans (f54 59 (by decide))), show (σ243 55 4).toInt = (σ 55 4).toInt from by omega]; exact hr1), (show jTp (σ243 10) (σ243 63) (σ243 55 15).toInt by rw [show σ243 10 = σ 10 from ((f245 10 (by decide)).trans (f54 10 (by decide))), show σ243 63 = σ 63 from ((f245 63 (by decide)).trans (f54 63 (by decide)))]; exact hr2.le (by omega)), (show jSo (σ243 17) (σ243 62) (σ243 16 0).toInt by rw [show σ243 17 = σ 17 from ((f245 17 (by decide)).trans (f54 17 (by decide))), show σ243 62 = σ 62 from ((f245 62 (by decide)).trans (f54 62 (by decide))), show (σ243 16 0).toInt = (σ 16 0).toInt from by omega]; exact hr3), (show jShP (σ243 51) (σ243 52) (σ243 53) (σ243 86) (σ243 87) (σ243 55 32).toInt by rw [show σ243 51 = σ 51 from ((f245 51 (by decide)).trans k238.1), show σ243 52 = σ 52 from ((f245 52 (by decide)).trans k238.2.1), show σ243 53 = σ 53 from ((f245 53 (by decide)).trans k238.2.2), show σ243 86 = σ 86 from (k260.1.trans (f54 86 (by decide))), show σ243 87 = σ 87 from (k260.2.trans (f54 87 (by decide)))]; exact (hr4.up (by omega) (by omega))), (show jEl (σ243 51) (σ243 52) (τ 54) (τ 88) by rw [show σ243 51 = σ 51 from ((f245 51 (by decide)).trans k238.1), show σ243 52 = σ 52 from ((f245 52 (by decide)).trans k238.2.1)]; exact hr5), (show jByP (σ243 51) (σ243 52) (τ 54) by rw [show σ243 51 = σ 51 from ((f245 51 (by decide)).trans k238.1), show σ243 52 = σ 52 from ((f245 52 (by decide)).trans k238.2.1)]; exact hr6), (show jBk (σ243 48) (σ243 80) (σ243 49) (σ243 81) (σ243 55 47).toInt by rw [show σ243 48 = σ 48 from ((f245 48 (by decide)).trans (f54 48 (by decide))), show σ243 49 = σ 49 from ((f245 49 (by decide)).trans (f54 49 (by decide))), show σ243 80 = σ 80 from ((f245 80 (by decide)).trans (f54 80 (by decide))), show σ243 81 = σ 81 from ((f245 81 (by decide)).trans (f54 81 (by decide))), show (σ243 55 47).toInt = (σ 55 47).toInt from by omega]; exact hr7), (show jKd (σ243 39) (σ243 70) (σ243 55 32).toInt by rw [show σ243 39 = σ 39 from ((f245 39 (by decide)).trans (f54 39 (by decide))), show σ243 70 = σ 70 from ((f245 70 (by decide)).trans (f54 70 (by decide))), show (σ243 55 32).toInt = (σ 55 32).toInt from by omega]; exact hr8), (show jTt (σ243 42) (σ243 85) (σ243 55 55).toInt by rw [show σ243 42 = σ 42 from ((f245 42 (by decide)).trans (f54 42 (by decide))), show σ243 85 = σ 85 from ((f245 85 (by decide)).trans (f54 85 (by decide))), show (σ243 55 55).toInt = (σ 55 55).toInt from by omega]; exact hr9), (fun k hk => by rw [show σ243 4 = σ 4 from ((f245 4 (by decide)).trans (f54 4 (by decide))), show σ243 5 = σ 5 from ((f245 5 (by decide)).trans (f54 5 (by decide))), show σ243 60 = σ 60 from ((f245 60 (by decide)).trans (f54 60 (by decide))), show σ243 61 = σ 61 from ((f245 61 (by decide)).trans (f54 61 (by decide)))]; exact hr10 k (by omega)), (fun nm => by rw [show σ243 19 = σ 19 from ((f245 19 (by decide)).trans (f54 19 (by decide))), show σ243 64 = σ 64 from ((f245 64 (by decide)).trans (f54 64 (by decide))), show σ243 65 = σ 65 from ((f245 65 (by decide)).trans (f54 65 (by decide))), show (σ243 18 0).toInt = (σ 18 0).toInt from by omega]; exact hr11 nm), (fun nm => by rw [show σ243 23 = σ 23 from ((f245 23 (by decide)).trans (f54 23 (by decide))), show σ243 64 = σ 64 from ((f245 64 (by decide)).trans (f54 64 (by decide))), show σ243 65 = σ 65 from ((f245 65 (by decide)).trans (f54 65 (by decide))), show (σ243 22 0).toInt = (σ 22 0).toInt from by omega]; exact hr12 nm)⟩ hP hS (lv_sub hl [0, 1, 2, 3] rfl)
set_option maxHeartbeats 4000000 in
set_option maxRecDepth 100000 in
theorem law_case_31 {p : Program} {e : Env} {s : State} {m : MethodId} {below : List Frame} {meth : Method} {c : Code} (l : Launch) {b L : Nat} {xs : Nat → Int32} {D : va_G} {cI cL : ClassId} {ad zz : Nat → Nat} (C0 : lw_At p s m meth c b L xs) (hJ : jD ad) (hA : ∀ q, jA ad q → s.heap.size ≤ q) (hK : jK D cI cL s) (hZ : jZ zz (fun q : Nat => s.heap.size ≤ q) s s.heap) {x0 : Int32} (hx0 : 0 ≤ x0.toInt) (hxL : x0.toInt + 6 ≤ (L : Int)) (hL : L ≤ 384) {σ : Nat → Nat → Int32} {τ : Nat → Nat → Int64} {H : Heap} {locs : List Loc} (hS : va_S (fun q : Nat => s.heap.size ≤ q) s.heap H locs) {ls : Array Slot} (hAll : jAll x0.toInt σ τ) (hP : jH D cI cL ad σ τ H) (hl : lv_has ls 4 [(3, .int x0), (2, .ref (ad 55)), (1, .ref (ad 0)), (0, .ref b)]) (ih : ∀ (x1 : Int32) (σ : Nat → Nat → Int32) (τ : Nat → Nat → Int64) (H : Heap) (locs : List Loc) (ls : Array Slot), x1.toInt = x0.toInt + 6 → jAll x1.toInt σ τ → jH D cI cL ad σ τ H → va_S (fun q : Nat => s.heap.size ≤ q) s.heap H locs → lv_has ls 4 [(3, .int x1), (2, .ref (ad 55)), (1, .ref (ad 0)), (0, .ref b)] → W p l e room_1 s m #[Value.ref b] below meth c H locs 90 348600 (lw_Z below #[Value.ref b] s) (F0 m 18 ls [])) : W p l e room_1 s m #[Value.ref b] below meth c H locs 90 348600 (lw_Z below #[Value.ref b] s) (F0 m 1089 ls []) := by
  obtain ⟨hx, hb, hr, hml, hown, hts0, hX, hbl, hlocks, hgv⟩ := C0
  have hts : ∀ w ∈ wsL_law, w.before #[Value.ref b] s = true := fun w h => hts0 w (wsL_law_in w h)
  have hbA : ¬ (fun q : Nat => s.heap.size ≤ q) b := Nat.not_le.mpr hbl
  have hown : s.vm.findClass RL = some m.cls := hown
  obtain ⟨hI2, hI9, hI12, hI16, hI18, hI22, hI31, hI38, hI43, hI47, hI50, hI0, hI26, hI101, hI102, hI103, hI104, hI105, hI106, hI107, hI109, hI110, hI111, hI119, hs_jKept, hs_jBook, hs_jNd12, hs_jN67, hs_jBl, hs_jKb, hs_jTR, hs_jKh, hs_jKg, ht0, ht1, ht2, ht3, ht4, ht5, ht6, ht7, ht8, ht9, ht10, ht11, ht12, ht13, hr0, hr1, hr2, hr3, hr4, hr5, hr6, hr7, hr8, hr9, hr10, hr11, hr12⟩ := hAll
  have hL9 : (L : Int) ≤ 384 := by omega
  obtain ⟨i1, i2, i3, i4, i5, w6⟩ : (0 ≤ (σ 2 0).toInt ∧ (σ 2 0).toInt ≤ 4) ∧ (0 ≤ (σ 2 1).toInt ∧ (σ 2 1).toInt ≤ 3) ∧ (0 ≤ (σ 2 2).toInt) ∧ (0 ≤ (σ 2 3).toInt) ∧ ((σ 2 2).toInt + (σ 2 3).toInt ≤ 40) ∧ (∀ k : Nat, k < 40 → 0 ≤ (σ 6 k).toInt ∧ (σ 6 k).toInt ≤ 67) := id hI2
  obtain ⟨i7, w8, w9⟩ : (0 ≤ (σ 9 0).toInt ∧ (σ 9 0).toInt ≤ 80) ∧ (∀ k : Nat, k < 80 → 0 ≤ (σ 10 k).toInt ∧ (σ 10 k).toInt ≤ 255) ∧ (∀ k : Nat, k < 8 → 0 ≤ (σ 11 k).toInt ∧ (σ 11 k).toInt ≤ 3) := id hI9
  obtain ⟨i10, i11, i12, w13⟩ : (1 ≤ (σ 16 0).toInt ∧ (σ 16 0).toInt ≤ 8) ∧ (1 ≤ (σ 16 1).toInt ∧ (σ 16 1).toInt ≤ 12) ∧ (0 ≤ (σ 16 2).toInt ∧ (σ 16 2).toInt ≤ 999) ∧ (∀ k : Nat, k < 8 → 0 ≤ (σ 17 k).toInt ∧ (σ 17 k).toInt ≤ 3) := id hI16
  obtain ⟨i14, i15, w16⟩ : (0 ≤ (σ 38 0).toInt ∧ (σ 38 0).toInt ≤ 20) ∧ (0 ≤ (σ 38 1).toInt ∧ (σ 38 1).toInt ≤ 1000) ∧ (∀ k : Nat, k < 20 → 0 ≤ (σ 39 k).toInt ∧ (σ 39 k).toInt ≤ 6) := id hI38
  obtain ⟨i17, w18, w19⟩ : (0 ≤ (σ 47 0).toInt ∧ (σ 47 0).toInt ≤ 12) ∧ (∀ k : Nat, k < 12 → 0 ≤ (σ 48 k).toInt ∧ (σ 48 k).toInt ≤ 3) ∧ (∀ k : Nat, k < 12 → 0 ≤ (σ 49 k).toInt ∧ (σ 49 k).toInt ≤ 1) := id hI47
  have w20 : ∀ k : Nat, k < 6 → 0 ≤ (σ 52 k).toInt ∧ (σ 52 k).toInt ≤ 60 := hI50
  have i21 : 1 ≤ (σ 26 6).toInt ∧ (σ 26 6).toInt ≤ 8000 := hI26
  obtain ⟨i22, i23, i24, w25, w26, w27, w28⟩ : (0 ≤ (σ 55 5).toInt) ∧ ((σ 55 5).toInt ≤ (σ 55 4).toInt) ∧ ((σ 55 4).toInt ≤ 40) ∧ (∀ k : Nat, k < 68 → (-200) ≤ (σ 56 k).toInt ∧ (σ 56 k).toInt ≤ 500) ∧ (∀ k : Nat, k < 40 → 0 ≤ (σ 57 k).toInt ∧ (σ 57 k).toInt ≤ 67) ∧ (∀ k : Nat, k < 40 → (-200) ≤ (σ 58 k).toInt ∧ (σ 58 k).toInt ≤ 500) ∧ (∀ k : Nat, k < 40 → (-200) ≤ (σ 59 k).toInt ∧ (σ 59 k).toInt ≤ 500) := id hI101
  obtain ⟨i29, w30, w31⟩ : (0 ≤ (σ 55 6).toInt ∧ (σ 55 6).toInt ≤ 4) ∧ (∀ k : Nat, k < 4 → 0 ≤ (σ 60 k).toInt ∧ (σ 60 k).toInt ≤ 50) ∧ (∀ k : Nat, k < 4 → 0 ≤ (σ 61 k).toInt ∧ (σ 61 k).toInt ≤ 20) := id hI102
  have i32 : 0 ≤ (σ 55 9).toInt ∧ (σ 55 9).toInt ≤ 3 := hI103
  obtain ⟨i33, i34, i35, w36, w37⟩ : (1 ≤ (σ 55 10).toInt ∧ (σ 55 10).toInt ≤ 8) ∧ (1 ≤ (σ 55 12).toInt ∧ (σ 55 12).toInt ≤ 12) ∧ (0 ≤ (σ 55 13).toInt ∧ (σ 55 13).toInt ≤ 999) ∧ (∀ k : Nat, k < 8 → 0 ≤ (σ 62 k).toInt ∧ (σ 62 k).toInt ≤ 3) ∧ (∀ k : Nat, k < 8 → 0 ≤ (σ 67 k).toInt ∧ (σ 67 k).toInt ≤ 3) := id hI104
  obtain ⟨i38, w39⟩ : (0 ≤ (σ 55 15).toInt ∧ (σ 55 15).toInt ≤ 80) ∧ (∀ k : Nat, k < 2 → (-1) ≤ (σ 65 k).toInt ∧ (σ 65 k).toInt ≤ 80) := id hI105
  obtain ⟨i40, w41, w42, w43⟩ : (0 ≤ (σ 55 32).toInt ∧ (σ 55 32).toInt ≤ 20) ∧ (∀ k : Nat, k < 20 → 0 ≤ (σ 70 k).toInt ∧ (σ 70 k).toInt ≤ 6) ∧ (∀ k : Nat, k < 20 → 0 ≤ (σ 71 k).toInt ∧ (σ 71 k).toInt ≤ 8) ∧ (∀ k : Nat, k < 160 → 0 ≤ (σ 72 k).toInt ∧ (σ 72 k).toInt ≤ 3) := id hI106
  obtain ⟨i44, i45, w46⟩ : (0 ≤ (σ 55 47).toInt ∧ (σ 55 47).toInt ≤ 12) ∧ ((σ 55 47).toInt ≤ (σ 55 12).toInt) ∧ (∀ k : Nat, k < 12 → 0 ≤ (σ 80 k).toInt ∧ (σ 80 k).toInt ≤ 3) := id hI107
  have hs_jOk3 : jOk3 σ := hr0.ok hr1.1
  refine lv_aload_n hx hb dL_law_1089 rfl (lv_at hl 2 rfl) ?_
  refine lv_aload_n hx hb dL_law_1090 rfl (lv_at hl 3 rfl) ?_
  refine lv_iload_n hx hb dL_law_1091 rfl (lv_at hl 0 rfl) ?_
  refine lv_iconst (v := 1) hx hb dL_law_1092 (by decide) ?_
  have g47 := jrg (rfl : x0.toInt = x0.toInt)
  refine lv_iadd hx hb dL_law_1093 ?_
  refine lv_topi (fun x48 ex48 => ?_)
  have tx48 : x48.toInt = x0.toInt + 1 := (jadd ex48 rfl jz_1 (by omega) (by omega)).trans (by omega)
  refine va_sld hx hb hX hbl hbA hS (jin tx48 (by omega) (by omega)) dL_law_1094 ?_
  have g49 := jrg (rfl : (xs x48.toNatClampNeg).toInt = (xs x48.toNatClampNeg).toInt)
  refine lv_aload_n hx hb dL_law_1095 rfl (lv_at hl 3 rfl) ?_
  refine lv_iload_n hx hb dL_law_1096 rfl (lv_at hl 0 rfl) ?_
  refine lv_iconst (v := 2) hx hb dL_law_1097 (by decide) ?_
  refine lv_iadd hx hb dL_law_1098 ?_
  refine lv_topi (fun x50 ex50 => ?_)
  have tx50 : x50.toInt = x0.toInt + 2 := (jadd ex50 rfl jz_2 (by omega) (by omega)).trans (by omega)
  refine va_sld hx hb hX hbl hbA hS (jin tx50 (by omega) (by omega)) dL_law_1099 ?_
  have g51 := jrg (rfl : (xs x50.toNatClampNeg).toInt = (xs x50.toNatClampNeg).toInt)
  refine lv_aload_n hx hb dL_law_1100 rfl (lv_at hl 3 rfl) ?_
  refine lv_iload_n hx hb dL_law_1101 rfl (lv_at hl 0 rfl) ?_
  refine lv_iconst (v := 3) hx hb dL_law_1102 (by decide) ?_
  refine lv_iadd hx hb dL_law_1103 ?_
  refine lv_topi (fun x52 ex52 => ?_)
  have tx52 : x52.toInt = x0.toInt + 3 := (jadd ex52 rfl jz_3 (by omega) (by omega)).trans (by omega)
  refine va_sld hx hb hX hbl hbA hS (jin tx52 (by omega) (by omega)) dL_law_1104 ?_
  have g53 := jrg (rfl : (xs x52.toNatClampNeg).toInt = (xs x52.toNatClampNeg).toInt)
  refine jcallV (As := [.int (xs x48.toNatClampNeg), .int (xs x50.toNatClampNeg), .int (xs x52.toNatClampNeg)]) (rest := []) ⟨hx, hb, hml, hown, hts⟩ hK hP hA hS hZ (c_X11_row l D cI cL ad zz hJ σ τ (xs x48.toNatClampNeg) ((xs x48.toNatClampNeg).toInt) rfl (xs x50.toNatClampNeg) ((xs x50.toNatClampNeg).toInt) rfl (xs x52.toNatClampNeg) ((xs x52.toNatClampNeg).toInt) rfl hI50) cw_RL_141 (jc_0 cI cL ad σ τ) rfl ⟨Nat.le_of_ble_eq_true rfl, Nat.le_of_ble_eq_true rfl⟩ rfl rfl rfl hl.1 rfl (Nat.le_of_ble_eq_true rfl) dL_law_1105 ⟨Nat.le_of_ble_eq_true rfl, Nat.le_of_ble_eq_true rfl⟩ (fun r55 σ54 τ54 H locs h54 hP hS => ?_)
  obtain ⟨f58, f56, I57, h54⟩ := h54
  have w59 : ∀ k : Nat, k < 6 → 0 ≤ (σ54 52 k).toInt ∧ (σ54 52 k).toInt ≤ 60 := I57
  rcases h54 with h60 | h61 | h62
  · obtain ⟨q66, k63, k64, k65⟩ := h60
    have q66 := q66.symm
    subst q66
    refine lv_pop hx hb dL_law_1108 rfl ?_
    refine lv_aload_n hx hb dL_law_1109 rfl (lv_at hl 1 rfl) ?_
    refine lv_aload_n hx hb dL_law_1110 rfl (lv_at hl 3 rfl) ?_
    refine lv_iload_n hx hb dL_law_1111 rfl (lv_at hl 0 rfl) ?_
    refine lv_iconst (v := 1) hx hb dL_law_1112 (by decide) ?_
    refine lv_iadd hx hb dL_law_1113 ?_
    refine jtopr ex48.symm ?_
    refine va_sld hx hb hX hbl hbA hS (jin tx48 (by omega) (by omega)) dL_law_1114 ?_
    refine lv_aload_n hx hb dL_law_1115 rfl (lv_at hl 3 rfl) ?_
    refine lv_iload_n hx hb dL_law_1116 rfl (lv_at hl 0 rfl) ?_
    refine lv_iconst (v := 2) hx hb dL_law_1117 (by decide) ?_
    refine lv_iadd hx hb dL_law_1118 ?_
    refine jtopr ex50.symm ?_
    refine va_sld hx hb hX hbl hbA hS (jin tx50 (by omega) (by omega)) dL_law_1119 ?_
    refine lv_aload_n hx hb dL_law_1120 rfl (lv_at hl 3 rfl) ?_
    refine lv_iload_n hx hb dL_law_1121 rfl (lv_at hl 0 rfl) ?_
    refine lv_iconst (v := 3) hx hb dL_law_1122 (by decide) ?_
    refine lv_iadd hx hb dL_law_1123 ?_
    refine jtopr ex52.symm ?_
    refine va_sld hx hb hX hbl hbA hS (jin tx52 (by omega) (by omega)) dL_law_1124 ?_
    have I67 : jI110 σ54 := jI110_fr (f56 86 (by decide)) (f56 87 (by decide)) hI110
    refine jcallV (As := [.int (xs x48.toNatClampNeg), .int (xs x50.toNatClampNeg), .int (xs x52.toNatClampNeg)]) (rest := []) ⟨hx, hb, hml, hown, hts⟩ hK hP hA hS hZ (c_X12_row l D cI cL ad zz hJ σ54 τ54 (xs x48.toNatClampNeg) ((xs x48.toNatClampNeg).toInt) rfl (xs x50.toNatClampNeg) ((xs x50.toNatClampNeg).toInt) rfl (xs x52.toNatClampNeg) ((xs x52.toNatClampNeg).toInt) rfl I67) cw_RL_144 (jc_55 cI cL ad σ54 τ54) rfl ⟨Nat.le_of_ble_eq_true rfl, Nat.le_of_ble_eq_true rfl⟩ rfl rfl rfl hl.1 rfl (Nat.le_of_ble_eq_true rfl) dL_law_1125 ⟨Nat.le_of_ble_eq_true rfl, Nat.le_of_ble_eq_true rfl⟩ (fun r69 σ68 τ68 H locs h68 hP hS => ?_)
    obtain ⟨f72, f70, I71, h68⟩ := h68
    rcases h68 with h73 | h74 | h75
    · obtain ⟨q79, k76, k77, k78⟩ := h73
      have q79 := q79.symm
      subst q79
      refine lv_pop hx hb dL_law_1128 rfl ?_
      refine lv_goto (tgt := 1357) hx hb dL_law_1129 (by decide) ?_
      obtain ⟨x80, ex80⟩ : ∃ y : Int32, y = x0 + 6 := ⟨_, rfl⟩
      have tx80 : x80.toInt = x0.toInt + 6 := (jadd ex80 rfl jz_6 (by omega) (by omega)).trans (by omega)
      refine lv_iinc (v := x80) (lv' := [(3, .int x80), (2, .ref (ad 55)), (1, .ref (ad 0)), (0, .ref b)]) hx hb dL_law_1357 hl (k := 0) rfl (by rw [ex80]; rfl) (by decide) rfl (fun ls hl => ?_)
      refine lv_goto (tgt := 18) hx hb dL_law_1360 (by decide) ?_
      have I81 : jI2 σ68 := jI2_fr ((congrFun (f70 2 (by decide)) 0).trans (congrFun (f56 2 (by decide)) 0)) ((congrFun (f70 2 (by decide)) 1).trans (congrFun (f56 2 (by decide)) 1)) ((congrFun (f70 2 (by decide)) 2).trans (congrFun (f56 2 (by decide)) 2)) ((congrFun (f70 2 (by decide)) 3).trans (congrFun (f56 2 (by decide)) 3)) ((f70 6 (by decide)).trans (f56 6 (by decide))) hI2
      have I82 : jI9 σ68 := jI9_fr ((congrFun (f70 9 (by decide)) 0).trans (congrFun (f56 9 (by decide)) 0)) ((f70 10 (by decide)).trans (f56 10 (by decide))) ((f70 11 (by decide)).trans (f56 11 (by decide))) hI9
      have I83 : jI12 σ68 := jI12_fr ((congrFun (f70 12 (by decide)) 0).trans (congrFun (f56 12 (by decide)) 0)) ((f70 13 (by decide)).trans (f56 13 (by decide))) hI12
      have I84 : jI16 σ68 := jI16_fr ((congrFun (f70 16 (by decide)) 0).trans (congrFun (f56 16 (by decide)) 0)) ((congrFun (f70 16 (by decide)) 1).trans (congrFun (f56 16 (by decide)) 1)) ((congrFun (f70 16 (by decide)) 2).trans (congrFun (f56 16 (by decide)) 2)) ((f70 17 (by decide)).trans (f56 17 (by decide))) hI16
      have I85 : jI18 σ68 := jI18_fr ((congrFun (f70 18 (by decide)) 0).trans (congrFun (f56 18 (by decide)) 0)) ((f70 19 (by decide)).trans (f56 19 (by decide))) hI18
      have I86 : jI22 σ68 := jI22_fr ((congrFun (f70 22 (by decide)) 0).trans (congrFun (f56 22 (by decide)) 0)) ((f70 23 (by decide)).trans (f56 23 (by decide))) hI22
      have I87 : jI31 σ68 := jI31_fr ((congrFun (f70 31 (by decide)) 8).trans (congrFun (f56 31 (by decide)) 8)) ((congrFun (f70 31 (by decide)) 10).trans (congrFun (f56 31 (by decide)) 10)) ((congrFun (f70 31 (by decide)) 11).trans (congrFun (f56 31 (by decide)) 11)) ((f70 33 (by decide)).trans (f56 33 (by decide))) ((f70 35 (by decide)).trans (f56 35 (by decide))) ((f70 36 (by decide)).trans (f56 36 (by decide))) hI31
      have I88 : jI38 σ68 := jI38_fr ((congrFun (f70 38 (by decide)) 0).trans (congrFun (f56 38 (by decide)) 0)) ((congrFun (f70 38 (by decide)) 1).trans (congrFun (f56 38 (by decide)) 1)) ((f70 39 (by decide)).trans (f56 39 (by decide))) hI38
      have I89 : jI43 σ68 := jI43_fr ((congrFun (f70 43 (by decide)) 8).trans (congrFun (f56 43 (by decide)) 8)) hI43
      have I90 : jI47 σ68 := jI47_fr ((congrFun (f70 47 (by decide)) 0).trans (congrFun (f56 47 (by decide)) 0)) ((f70 48 (by decide)).trans (f56 48 (by decide))) ((f70 49 (by decide)).trans (f56 49 (by decide))) hI47
      have I91 : jI50 σ68 := jI50_fr (f70 52 (by decide)) I57
      have I92 : jI0 σ68 := jI0_fr ((f70 1 (by decide)).trans (f56 1 (by decide))) hI0
      have I93 : jI26 σ68 := jI26_fr ((congrFun (f70 26 (by decide)) 6).trans (congrFun (f56 26 (by decide)) 6)) hI26
      have I94 : jI101 σ68 := jI101_fr ((congrFun (f70 55 (by decide)) 4).trans (congrFun (f56 55 (by decide)) 4)) ((congrFun (f70 55 (by decide)) 5).trans (congrFun (f56 55 (by decide)) 5)) ((f70 56 (by decide)).trans (f56 56 (by decide))) ((f70 57 (by decide)).trans (f56 57 (by decide))) ((f70 58 (by decide)).trans (f56 58 (by decide))) ((f70 59 (by decide)).trans (f56 59 (by decide))) hI101
      have I95 : jI102 σ68 := jI102_fr ((congrFun (f70 55 (by decide)) 6).trans (congrFun (f56 55 (by decide)) 6)) ((f70 60 (by decide)).trans (f56 60 (by decide))) ((f70 61 (by decide)).trans (f56 61 (by decide))) hI102
      have I96 : jI103 σ68 := jI103_fr ((congrFun (f70 55 (by decide)) 9).trans (congrFun (f56 55 (by decide)) 9)) hI103
      have I97 : jI104 σ68 := jI104_fr ((congrFun (f70 55 (by decide)) 10).trans (congrFun (f56 55 (by decide)) 10)) ((congrFun (f70 55 (by decide)) 12).trans (congrFun (f56 55 (by decide)) 12)) ((congrFun (f70 55 (by decide)) 13).trans (congrFun (f56 55 (by decide)) 13)) ((f70 62 (by decide)).trans (f56 62 (by decide))) ((f70 67 (by decide)).trans (f56 67 (by decide))) hI104
      have I98 : jI105 σ68 := jI105_fr ((congrFun (f70 55 (by decide)) 15).trans (congrFun (f56 55 (by decide)) 15)) ((f70 65 (by decide)).trans (f56 65 (by decide))) hI105
      have I99 : jI106 σ68 := jI106_fr ((congrFun (f70 55 (by decide)) 32).trans (congrFun (f56 55 (by decide)) 32)) ((f70 70 (by decide)).trans (f56 70 (by decide))) ((f70 71 (by decide)).trans (f56 71 (by decide))) ((f70 72 (by decide)).trans (f56 72 (by decide))) hI106
      have I100 : jI107 σ68 := jI107_fr ((congrFun (f70 55 (by decide)) 12).trans (congrFun (f56 55 (by decide)) 12)) ((congrFun (f70 55 (by decide)) 47).trans (congrFun (f56 55 (by decide)) 47)) ((f70 80 (by decide)).trans (f56 80 (by decide))) hI107
      have I101 : jI109 σ68 := jI109_fr ((congrFun (f70 55 (by decide)) 50).trans (congrFun (f56 55 (by decide)) 50)) hI109
      have I102 : jI111 σ68 := jI111_fr ((f70 79 (by decide)).trans (f56 79 (by decide))) hI111
      have I103 : jI119 σ68 := jI119_fr ((f70 68 (by decide)).trans (f56 68 (by decide))) hI119
      have p104 : jKept σ68 := jKept.fr ((f70 75 (by decide)).trans (f56 75 (by decide))) ((f70 76 (by decide)).trans (f56 76 (by decide))) ((f70 77 (by decide)).trans (f56 77 (by decide))) hs_jKept
      have p105 : jBook σ68 := jBook.fr ((congrFun (f70 55 (by decide)) 47).trans (congrFun (f56 55 (by decide)) 47)) ((congrFun (f70 55 (by decide)) 10).trans (congrFun (f56 55 (by decide)) 10)) ((f70 81 (by decide)).trans (f56 81 (by decide))) hs_jBook
      have p106 : jNd12 σ68 := jNd12.fr ((congrFun (f70 12 (by decide)) 0).trans (congrFun (f56 12 (by decide)) 0)) ((congrFun (f70 12 (by decide)) 1).trans (congrFun (f56 12 (by decide)) 1)) ((f70 13 (by decide)).trans (f56 13 (by decide))) hs_jNd12
      have p107 : jN67 σ68 := jN67.fr ((f70 24 (by decide)).trans (f56 24 (by decide))) hs_jN67
      have p108 : jBl σ68 := jBl.fr ((congrFun (f70 22 (by decide)) 0).trans (congrFun (f56 22 (by decide)) 0)) ((congrFun (f70 22 (by decide)) 1).trans (congrFun (f56 22 (by decide)) 1)) ((f70 23 (by decide)).trans (f56 23 (by decide))) ((congrFun (f70 26 (by decide)) 6).trans (congrFun (f56 26 (by decide)) 6)) ((congrFun (f70 26 (by decide)) 7).trans (congrFun (f56 26 (by decide)) 7)) ((f70 29 (by decide)).trans (f56 29 (by decide))) ((f70 30 (by decide)).trans (f56 30 (by decide))) hs_jBl
      have p109 : jKb σ68 := jKb.fr ((congrFun (f70 31 (by decide)) 8).trans (congrFun (f56 31 (by decide)) 8)) ((congrFun (f70 31 (by decide)) 11).trans (congrFun (f56 31 (by decide)) 11)) ((f70 32 (by decide)).trans (f56 32 (by decide))) hs_jKb
      have p110 : jTR σ68 := jTR.fr ((f70 64 (by decide)).trans (f56 64 (by decide))) ((f70 65 (by decide)).trans (f56 65 (by decide))) hs_jTR
      have p111 : jKh σ68 := jKh.fr ((congrFun (f70 31 (by decide)) 8).trans (congrFun (f56 31 (by decide)) 8)) ((f70 32 (by decide)).trans (f56 32 (by decide))) ((f70 36 (by decide)).trans (f56 36 (by decide))) ((f70 37 (by decide)).trans (f56 37 (by decide))) hs_jKh
      have p112 : jKg σ68 := jKg.fr ((congrFun (f70 31 (by decide)) 8).trans (congrFun (f56 31 (by decide)) 8)) ((congrFun (f70 31 (by decide)) 9).trans (congrFun (f56 31 (by decide)) 9)) ((congrFun (f70 31 (by decide)) 11).trans (congrFun (f56 31 (by decide)) 11)) ((congrFun (f70 31 (by decide)) 12).trans (congrFun (f56 31 (by decide)) 12)) ((f70 32 (by decide)).trans (f56 32 (by decide))) ((f70 33 (by decide)).trans (f56 33 (by decide))) hs_jKg
      have z113 : (σ68 2 0).toInt = (σ 2 0).toInt := (congrArg Int32.toInt (show σ68 2 0 = (σ 2 0) from ((congrFun (f70 2 (by decide)) 0).trans (congrFun (f56 2 (by decide)) 0))))
      have z114 : (σ68 55 6).toInt = (σ 55 6).toInt := (congrArg Int32.toInt (show σ68 55 6 = (σ 55 6) from ((congrFun (f70 55 (by decide)) 6).trans (congrFun (f56 55 (by decide)) 6))))
      have z115 : (σ68 2 2).toInt = (σ 2 2).toInt := (congrArg Int32.toInt (show σ68 2 2 = (σ 2 2) from ((congrFun (f70 2 (by decide)) 2).trans (congrFun (f56 2 (by decide)) 2))))
      have z116 : (σ68 55 5).toInt = (σ 55 5).toInt := (congrArg Int32.toInt (show σ68 55 5 = (σ 55 5) from ((congrFun (f70 55 (by decide)) 5).trans (congrFun (f56 55 (by decide)) 5))))
      have z117 : (σ68 2 3).toInt = (σ 2 3).toInt := (congrArg Int32.toInt (show σ68 2 3 = (σ 2 3) from ((congrFun (f70 2 (by decide)) 3).trans (congrFun (f56 2 (by decide)) 3))))
      have z118 : (σ68 55 4).toInt = (σ 55 4).toInt := (congrArg Int32.toInt (show σ68 55 4 = (σ 55 4) from ((congrFun (f70 55 (by decide)) 4).trans (congrFun (f56 55 (by decide)) 4))))
      have z119 : (σ68 9 0).toInt = (σ 9 0).toInt := (congrArg Int32.toInt (show σ68 9 0 = (σ 9 0) from ((congrFun (f70 9 (by decide)) 0).trans (congrFun (f56 9 (by decide)) 0))))
      have z120 : (σ68 55 15).toInt = (σ 55 15).toInt := (congrArg Int32.toInt (show σ68 55 15 = (σ 55 15) from ((congrFun (f70 55 (by decide)) 15).trans (congrFun (f56 55 (by decide)) 15))))
      have z121 : (σ68 16 0).toInt = (σ 16 0).toInt := (congrArg Int32.toInt (show σ68 16 0 = (σ 16 0) from ((congrFun (f70 16 (by decide)) 0).trans (congrFun (f56 16 (by decide)) 0))))
      have z122 : (σ68 55 10).toInt = (σ 55 10).toInt := (congrArg Int32.toInt (show σ68 55 10 = (σ 55 10) from ((congrFun (f70 55 (by decide)) 10).trans (congrFun (f56 55 (by decide)) 10))))
      have z123 : (σ68 16 1).toInt = (σ 16 1).toInt := (congrArg Int32.toInt (show σ68 16 1 = (σ 16 1) from ((congrFun (f70 16 (by decide)) 1).trans (congrFun (f56 16 (by decide)) 1))))
      have z124 : (σ68 55 12).toInt = (σ 55 12).toInt := (congrArg Int32.toInt (show σ68 55 12 = (σ 55 12) from ((congrFun (f70 55 (by decide)) 12).trans (congrFun (f56 55 (by decide)) 12))))
      have z125 : (σ68 16 2).toInt = (σ 16 2).toInt := (congrArg Int32.toInt (show σ68 16 2 = (σ 16 2) from ((congrFun (f70 16 (by decide)) 2).trans (congrFun (f56 16 (by decide)) 2))))
      have z126 : (σ68 55 13).toInt = (σ 55 13).toInt := (congrArg Int32.toInt (show σ68 55 13 = (σ 55 13) from ((congrFun (f70 55 (by decide)) 13).trans (congrFun (f56 55 (by decide)) 13))))
      have z127 : (σ68 38 0).toInt = (σ 38 0).toInt := (congrArg Int32.toInt (show σ68 38 0 = (σ 38 0) from ((congrFun (f70 38 (by decide)) 0).trans (congrFun (f56 38 (by decide)) 0))))
      have z128 : (σ68 55 32).toInt = (σ 55 32).toInt := (congrArg Int32.toInt (show σ68 55 32 = (σ 55 32) from ((congrFun (f70 55 (by decide)) 32).trans (congrFun (f56 55 (by decide)) 32))))
      have z129 : (σ68 38 1).toInt = (σ 38 1).toInt := (congrArg Int32.toInt (show σ68 38 1 = (σ 38 1) from ((congrFun (f70 38 (by decide)) 1).trans (congrFun (f56 38 (by decide)) 1))))
      have z130 : (σ68 55 55).toInt = (σ 55 55).toInt := (congrArg Int32.toInt (show σ68 55 55 = (σ 55 55) from ((congrFun (f70 55 (by decide)) 55).trans (congrFun (f56 55 (by decide)) 55))))
      have z131 : (σ68 47 0).toInt = (σ 47 0).toInt := (congrArg Int32.toInt (show σ68 47 0 = (σ 47 0) from ((congrFun (f70 47 (by decide)) 0).trans (congrFun (f56 47 (by decide)) 0))))
      have z132 : (σ68 55 47).toInt = (σ 55 47).toInt := (congrArg Int32.toInt (show σ68 55 47 = (σ 55 47) from ((congrFun (f70 55 (by decide)) 47).trans (congrFun (f56 55 (by decide)) 47))))
      have z133 : (σ68 55 30).toInt = (σ 55 30).toInt := (congrArg Int32.toInt (show σ68 55 30 = (σ 55 30) from ((congrFun (f70 55 (by decide)) 30).trans (congrFun (f56 55 (by decide)) 30))))
      have z134 : (σ68 55 31).toInt = (σ 55 31).toInt := (congrArg Int32.toInt (show σ68 55 31 = (σ 55 31) from ((congrFun (f70 55 (by decide)) 31).trans (congrFun (f56 55 (by decide)) 31))))
      have z135 : (σ68 2 1).toInt = (σ 2 1).toInt := (congrArg Int32.toInt (show σ68 2 1 = (σ 2 1) from ((congrFun (f70 2 (by decide)) 1).trans (congrFun (f56 2 (by decide)) 1))))
      have z136 : (σ68 55 9).toInt = (σ 55 9).toInt := (congrArg Int32.toInt (show σ68 55 9 = (σ 55 9) from ((congrFun (f70 55 (by decide)) 9).trans (congrFun (f56 55 (by decide)) 9))))
      have z137 : (σ68 26 6).toInt = (σ 26 6).toInt := (congrArg Int32.toInt (show σ68 26 6 = (σ 26 6) from ((congrFun (f70 26 (by decide)) 6).trans (congrFun (f56 26 (by decide)) 6))))
      have z139 : (σ68 18 0).toInt = (σ 18 0).toInt := (congrArg Int32.toInt (show σ68 18 0 = (σ 18 0) from ((congrFun (f70 18 (by decide)) 0).trans (congrFun (f56 18 (by decide)) 0))))
      have z140 : (σ68 22 0).toInt = (σ 22 0).toInt := (congrArg Int32.toInt (show σ68 22 0 = (σ 22 0) from ((congrFun (f70 22 (by decide)) 0).trans (congrFun (f56 22 (by decide)) 0))))
      exact ih x80 σ68 τ68 _ _ ls (by have h9 := tx80; omega) ⟨I81, I82, I83, I84, I85, I86, I87, I88, I89, I90, I91, I92, I93, I94, I95, I96, I97, I98, I99, I100, I101, I71, I102, I103, p104, p105, p106, p107, p108, p109, p110, p111, p112, (by omega), (by omega), (by omega), (by omega), (by omega), (by omega), (by omega), (by omega), (by omega), (by omega), (by omega), (by omega), (by omega), (by have h9 := tx80; omega), (show jNumP (σ68 3) (σ68 56) (σ68 6) (σ68 57) (σ68 7) (σ68 58) (σ68 8) (σ68 59) (σ68 55 6).toInt (σ68 55 4).toInt by rw [show σ68 3 = σ 3 from ((f70 3 (by decide)).trans (f56 3 (by decide))), show σ68 56 = σ 56 from ((f70 56 (by decide)).trans (f56 56 (by decide))), show σ68 6 = σ 6 from ((f70 6 (by decide)).trans (f56 6 (by decide))), show σ68 57 = σ 57 from ((f70 57 (by decide)).trans (f56 57 (by decide))), show σ68 7 = σ 7 from ((f70 7 (by decide)).trans (f56 7 (by decide))), show σ68 58 = σ 58 from ((f70 58 (by decide)).trans (f56 58 (by decide))), show σ68 8 = σ 8 from ((f70 8 (by decide)).trans (f56 8 (by decide))), show σ68 59 = σ 59 from ((f70 59 (by decide)).trans (f56 59 (by decide))), show (σ68 55 6).toInt = (σ 55 6).toInt from by omega, show (σ68 55 4).toInt = (σ 55 4).toInt from by omega]; exact hr0), (show jOvP (σ68 56) (σ68 57) (σ68 58) (σ68 59) (σ68 55 4).toInt by rw [show σ68 56 = σ 56 from ((f70 56 (by decide)).trans (f56 56 (by decide))), show σ68 57 = σ 57 from ((f70 57 (by decide)).trans (f56 57 (by decide))), show σ68 58 = σ 58 from ((f70 58 (by decide)).trans (f56 58 (by decide))), show σ68 59 = σ 59 from ((f70 59 (by decide)).trans (f56 59 (by decide))), show (σ68 55 4).toInt = (σ 55 4).toInt from by omega]; exact hr1), (show jTp (σ68 10) (σ68 63) (σ68 55 15).toInt by rw [show σ68 10 = σ 10 from ((f70 10 (by decide)).trans (f56 10 (by decide))), show σ68 63 = σ 63 from ((f70 63 (by decide)).trans (f56 63 (by decide)))]; exact hr2.le (by omega)), (show jSo (σ68 17) (σ68 62) (σ68 16 0).toInt by rw [show σ68 17 = σ 17 from ((f70 17 (by decide)).trans (f56 17 (by decide))), show σ68 62 = σ 62 from ((f70 62 (by decide)).trans (f56 62 (by decide))), show (σ68 16 0).toInt = (σ 16 0).toInt from by omega]; exact hr3), (show jShP (σ68 51) (σ68 52) (σ68 53) (σ68 86) (σ68 87) (σ68 55 32).toInt by rw [show σ68 51 = σ 51 from ((f70 51 (by decide)).trans k64.1), show σ68 52 = σ 52 from ((f70 52 (by decide)).trans k64.2.1), show σ68 53 = σ 53 from ((f70 53 (by decide)).trans k64.2.2), show σ68 86 = σ 86 from (k77.1.trans (f56 86 (by decide))), show σ68 87 = σ 87 from (k77.2.trans (f56 87 (by decide)))]; exact (hr4.up (by omega) (by omega))), (show jEl (σ68 51) (σ68 52) (τ68 54) (τ68 88) by rw [show σ68 51 = σ 51 from ((f70 51 (by decide)).trans k64.1), show σ68 52 = σ 52 from ((f70 52 (by decide)).trans k64.2.1), show τ68 54 = τ 54 from ((f72 54 (by decide)).trans k65), show τ68 88 = τ 88 from (k78.trans (f58 88 (by decide)))]; exact hr5), (show jByP (σ68 51) (σ68 52) (τ68 54) by rw [show σ68 51 = σ 51 from ((f70 51 (by decide)).trans k64.1), show σ68 52 = σ 52 from ((f70 52 (by decide)).trans k64.2.1), show τ68 54 = τ 54 from ((f72 54 (by decide)).trans k65)]; exact hr6), (show jBk (σ68 48) (σ68 80) (σ68 49) (σ68 81) (σ68 55 47).toInt by rw [show σ68 48 = σ 48 from ((f70 48 (by decide)).trans (f56 48 (by decide))), show σ68 49 = σ 49 from ((f70 49 (by decide)).trans (f56 49 (by decide))), show σ68 80 = σ 80 from ((f70 80 (by decide)).trans (f56 80 (by decide))), show σ68 81 = σ 81 from ((f70 81 (by decide)).trans (f56 81 (by decide))), show (σ68 55 47).toInt = (σ 55 47).toInt from by omega]; exact hr7), (show jKd (σ68 39) (σ68 70) (σ68 55 32).toInt by rw [show σ68 39 = σ 39 from ((f70 39 (by decide)).trans (f56 39 (by decide))), show σ68 70 = σ 70 from ((f70 70 (by decide)).trans (f56 70 (by decide))), show (σ68 55 32).toInt = (σ 55 32).toInt from by omega]; exact hr8), (show jTt (σ68 42) (σ68 85) (σ68 55 55).toInt by rw [show σ68 42 = σ 42 from ((f70 42 (by decide)).trans (f56 42 (by decide))), show σ68 85 = σ 85 from ((f70 85 (by decide)).trans (f56 85 (by decide))), show (σ68 55 55).toInt = (σ 55 55).toInt from by omega]; exact hr9), (fun k hk => by rw [show σ68 4 = σ 4 from ((f70 4 (by decide)).trans (f56 4 (by decide))), show σ68 5 = σ 5 from ((f70 5 (by decide)).trans (f56 5 (by decide))), show σ68 60 = σ 60 from ((f70 60 (by decide)).trans (f56 60 (by decide))), show σ68 61 = σ 61 from ((f70 61 (by decide)).trans (f56 61 (by decide)))]; exact hr10 k (by omega)), (fun nm => by rw [show σ68 19 = σ 19 from ((f70 19 (by decide)).trans (f56 19 (by decide))), show σ68 64 = σ 64 from ((f70 64 (by decide)).trans (f56 64 (by decide))), show σ68 65 = σ 65 from ((f70 65 (by decide)).trans (f56 65 (by decide))), show (σ68 18 0).toInt = (σ 18 0).toInt from by omega]; exact hr11 nm), (fun nm => by rw [show σ68 23 = σ 23 from ((f70 23 (by decide)).trans (f56 23 (by decide))), show σ68 64 = σ 64 from ((f70 64 (by decide)).trans (f56 64 (by decide))), show σ68 65 = σ 65 from ((f70 65 (by decide)).trans (f56 65 (by decide))), show (σ68 22 0).toInt = (σ 22 0).toInt from by omega]; exact hr12 nm)⟩ hP hS (lv_sub hl [0, 1, 2, 3] rfl)
    · obtain ⟨q146, k141, k142, k143, k144, k145⟩ := h74
      exact absurd (by omega : False) id
    · obtain ⟨q152, k147, k148, k149, k150, k151⟩ := h75
      exact absurd (by omega : False) id
  · obtain ⟨q158, k153, k154, k155, k156, k157⟩ := h61
    have q158 := q158.symm
    subst q158
    refine lv_pop hx hb dL_law_1108 rfl ?_
    refine lv_aload_n hx hb dL_law_1109 rfl (lv_at hl 1 rfl) ?_
    refine lv_aload_n hx hb dL_law_1110 rfl (lv_at hl 3 rfl) ?_
    refine lv_iload_n hx hb dL_law_1111 rfl (lv_at hl 0 rfl) ?_
    refine lv_iconst (v := 1) hx hb dL_law_1112 (by decide) ?_
    refine lv_iadd hx hb dL_law_1113 ?_
    refine jtopr ex48.symm ?_
    refine va_sld hx hb hX hbl hbA hS (jin tx48 (by omega) (by omega)) dL_law_1114 ?_
    refine lv_aload_n hx hb dL_law_1115 rfl (lv_at hl 3 rfl) ?_
    refine lv_iload_n hx hb dL_law_1116 rfl (lv_at hl 0 rfl) ?_
    refine lv_iconst (v := 2) hx hb dL_law_1117 (by decide) ?_
    refine lv_iadd hx hb dL_law_1118 ?_
    refine jtopr ex50.symm ?_
    refine va_sld hx hb hX hbl hbA hS (jin tx50 (by omega) (by omega)) dL_law_1119 ?_
    refine lv_aload_n hx hb dL_law_1120 rfl (lv_at hl 3 rfl) ?_
    refine lv_iload_n hx hb dL_law_1121 rfl (lv_at hl 0 rfl) ?_
    refine lv_iconst (v := 3) hx hb dL_law_1122 (by decide) ?_
    refine lv_iadd hx hb dL_law_1123 ?_
    refine jtopr ex52.symm ?_
    refine va_sld hx hb hX hbl hbA hS (jin tx52 (by omega) (by omega)) dL_law_1124 ?_
    have I159 : jI110 σ54 := jI110_fr (f56 86 (by decide)) (f56 87 (by decide)) hI110
    refine jcallV (As := [.int (xs x48.toNatClampNeg), .int (xs x50.toNatClampNeg), .int (xs x52.toNatClampNeg)]) (rest := []) ⟨hx, hb, hml, hown, hts⟩ hK hP hA hS hZ (c_X12_row l D cI cL ad zz hJ σ54 τ54 (xs x48.toNatClampNeg) ((xs x48.toNatClampNeg).toInt) rfl (xs x50.toNatClampNeg) ((xs x50.toNatClampNeg).toInt) rfl (xs x52.toNatClampNeg) ((xs x52.toNatClampNeg).toInt) rfl I159) cw_RL_144 (jc_55 cI cL ad σ54 τ54) rfl ⟨Nat.le_of_ble_eq_true rfl, Nat.le_of_ble_eq_true rfl⟩ rfl rfl rfl hl.1 rfl (Nat.le_of_ble_eq_true rfl) dL_law_1125 ⟨Nat.le_of_ble_eq_true rfl, Nat.le_of_ble_eq_true rfl⟩ (fun r161 σ160 τ160 H locs h160 hP hS => ?_)
    obtain ⟨f164, f162, I163, h160⟩ := h160
    rcases h160 with h165 | h166 | h167
    · obtain ⟨q171, k168, k169, k170⟩ := h165
      exact absurd (by omega : False) id
    · obtain ⟨q177, k172, k173, k174, k175, k176⟩ := h166
      have q177 := q177.symm
      subst q177
      refine lv_pop hx hb dL_law_1128 rfl ?_
      refine lv_goto (tgt := 1357) hx hb dL_law_1129 (by decide) ?_
      obtain ⟨x178, ex178⟩ : ∃ y : Int32, y = x0 + 6 := ⟨_, rfl⟩
      have tx178 : x178.toInt = x0.toInt + 6 := (jadd ex178 rfl jz_6 (by omega) (by omega)).trans (by omega)
      refine lv_iinc (v := x178) (lv' := [(3, .int x178), (2, .ref (ad 55)), (1, .ref (ad 0)), (0, .ref b)]) hx hb dL_law_1357 hl (k := 0) rfl (by rw [ex178]; rfl) (by decide) rfl (fun ls hl => ?_)
      refine lv_goto (tgt := 18) hx hb dL_law_1360 (by decide) ?_
      have I179 : jI2 σ160 := jI2_fr ((congrFun (f162 2 (by decide)) 0).trans (congrFun (f56 2 (by decide)) 0)) ((congrFun (f162 2 (by decide)) 1).trans (congrFun (f56 2 (by decide)) 1)) ((congrFun (f162 2 (by decide)) 2).trans (congrFun (f56 2 (by decide)) 2)) ((congrFun (f162 2 (by decide)) 3).trans (congrFun (f56 2 (by decide)) 3)) ((f162 6 (by decide)).trans (f56 6 (by decide))) hI2
      have I180 : jI9 σ160 := jI9_fr ((congrFun (f162 9 (by decide)) 0).trans (congrFun (f56 9 (by decide)) 0)) ((f162 10 (by decide)).trans (f56 10 (by decide))) ((f162 11 (by decide)).trans (f56 11 (by decide))) hI9
      have I181 : jI12 σ160 := jI12_fr ((congrFun (f162 12 (by decide)) 0).trans (congrFun (f56 12 (by decide)) 0)) ((f162 13 (by decide)).trans (f56 13 (by decide))) hI12
      have I182 : jI16 σ160 := jI16_fr ((congrFun (f162 16 (by decide)) 0).trans (congrFun (f56 16 (by decide)) 0)) ((congrFun (f162 16 (by decide)) 1).trans (congrFun (f56 16 (by decide)) 1)) ((congrFun (f162 16 (by decide)) 2).trans (congrFun (f56 16 (by decide)) 2)) ((f162 17 (by decide)).trans (f56 17 (by decide))) hI16
      have I183 : jI18 σ160 := jI18_fr ((congrFun (f162 18 (by decide)) 0).trans (congrFun (f56 18 (by decide)) 0)) ((f162 19 (by decide)).trans (f56 19 (by decide))) hI18
      have I184 : jI22 σ160 := jI22_fr ((congrFun (f162 22 (by decide)) 0).trans (congrFun (f56 22 (by decide)) 0)) ((f162 23 (by decide)).trans (f56 23 (by decide))) hI22
      have I185 : jI31 σ160 := jI31_fr ((congrFun (f162 31 (by decide)) 8).trans (congrFun (f56 31 (by decide)) 8)) ((congrFun (f162 31 (by decide)) 10).trans (congrFun (f56 31 (by decide)) 10)) ((congrFun (f162 31 (by decide)) 11).trans (congrFun (f56 31 (by decide)) 11)) ((f162 33 (by decide)).trans (f56 33 (by decide))) ((f162 35 (by decide)).trans (f56 35 (by decide))) ((f162 36 (by decide)).trans (f56 36 (by decide))) hI31
      have I186 : jI38 σ160 := jI38_fr ((congrFun (f162 38 (by decide)) 0).trans (congrFun (f56 38 (by decide)) 0)) ((congrFun (f162 38 (by decide)) 1).trans (congrFun (f56 38 (by decide)) 1)) ((f162 39 (by decide)).trans (f56 39 (by decide))) hI38
      have I187 : jI43 σ160 := jI43_fr ((congrFun (f162 43 (by decide)) 8).trans (congrFun (f56 43 (by decide)) 8)) hI43
      have I188 : jI47 σ160 := jI47_fr ((congrFun (f162 47 (by decide)) 0).trans (congrFun (f56 47 (by decide)) 0)) ((f162 48 (by decide)).trans (f56 48 (by decide))) ((f162 49 (by decide)).trans (f56 49 (by decide))) hI47
      have I189 : jI50 σ160 := jI50_fr (f162 52 (by decide)) I57
      have I190 : jI0 σ160 := jI0_fr ((f162 1 (by decide)).trans (f56 1 (by decide))) hI0
      have I191 : jI26 σ160 := jI26_fr ((congrFun (f162 26 (by decide)) 6).trans (congrFun (f56 26 (by decide)) 6)) hI26
      have I192 : jI101 σ160 := jI101_fr ((congrFun (f162 55 (by decide)) 4).trans (congrFun (f56 55 (by decide)) 4)) ((congrFun (f162 55 (by decide)) 5).trans (congrFun (f56 55 (by decide)) 5)) ((f162 56 (by decide)).trans (f56 56 (by decide))) ((f162 57 (by decide)).trans (f56 57 (by decide))) ((f162 58 (by decide)).trans (f56 58 (by decide))) ((f162 59 (by decide)).trans (f56 59 (by decide))) hI101
      have I193 : jI102 σ160 := jI102_fr ((congrFun (f162 55 (by decide)) 6).trans (congrFun (f56 55 (by decide)) 6)) ((f162 60 (by decide)).trans (f56 60 (by decide))) ((f162 61 (by decide)).trans (f56 61 (by decide))) hI102
      have I194 : jI103 σ160 := jI103_fr ((congrFun (f162 55 (by decide)) 9).trans (congrFun (f56 55 (by decide)) 9)) hI103
      have I195 : jI104 σ160 := jI104_fr ((congrFun (f162 55 (by decide)) 10).trans (congrFun (f56 55 (by decide)) 10)) ((congrFun (f162 55 (by decide)) 12).trans (congrFun (f56 55 (by decide)) 12)) ((congrFun (f162 55 (by decide)) 13).trans (congrFun (f56 55 (by decide)) 13)) ((f162 62 (by decide)).trans (f56 62 (by decide))) ((f162 67 (by decide)).trans (f56 67 (by decide))) hI104
      have I196 : jI105 σ160 := jI105_fr ((congrFun (f162 55 (by decide)) 15).trans (congrFun (f56 55 (by decide)) 15)) ((f162 65 (by decide)).trans (f56 65 (by decide))) hI105
      have I197 : jI106 σ160 := jI106_fr ((congrFun (f162 55 (by decide)) 32).trans (congrFun (f56 55 (by decide)) 32)) ((f162 70 (by decide)).trans (f56 70 (by decide))) ((f162 71 (by decide)).trans (f56 71 (by decide))) ((f162 72 (by decide)).trans (f56 72 (by decide))) hI106
      have I198 : jI107 σ160 := jI107_fr ((congrFun (f162 55 (by decide)) 12).trans (congrFun (f56 55 (by decide)) 12)) ((congrFun (f162 55 (by decide)) 47).trans (congrFun (f56 55 (by decide)) 47)) ((f162 80 (by decide)).trans (f56 80 (by decide))) hI107
      have I199 : jI109 σ160 := jI109_fr ((congrFun (f162 55 (by decide)) 50).trans (congrFun (f56 55 (by decide)) 50)) hI109
      have I200 : jI111 σ160 := jI111_fr ((f162 79 (by decide)).trans (f56 79 (by decide))) hI111
      have I201 : jI119 σ160 := jI119_fr ((f162 68 (by decide)).trans (f56 68 (by decide))) hI119
      have p202 : jKept σ160 := jKept.fr ((f162 75 (by decide)).trans (f56 75 (by decide))) ((f162 76 (by decide)).trans (f56 76 (by decide))) ((f162 77 (by decide)).trans (f56 77 (by decide))) hs_jKept
      have p203 : jBook σ160 := jBook.fr ((congrFun (f162 55 (by decide)) 47).trans (congrFun (f56 55 (by decide)) 47)) ((congrFun (f162 55 (by decide)) 10).trans (congrFun (f56 55 (by decide)) 10)) ((f162 81 (by decide)).trans (f56 81 (by decide))) hs_jBook
      have p204 : jNd12 σ160 := jNd12.fr ((congrFun (f162 12 (by decide)) 0).trans (congrFun (f56 12 (by decide)) 0)) ((congrFun (f162 12 (by decide)) 1).trans (congrFun (f56 12 (by decide)) 1)) ((f162 13 (by decide)).trans (f56 13 (by decide))) hs_jNd12
      have p205 : jN67 σ160 := jN67.fr ((f162 24 (by decide)).trans (f56 24 (by decide))) hs_jN67
      have p206 : jBl σ160 := jBl.fr ((congrFun (f162 22 (by decide)) 0).trans (congrFun (f56 22 (by decide)) 0)) ((congrFun (f162 22 (by decide)) 1).trans (congrFun (f56 22 (by decide)) 1)) ((f162 23 (by decide)).trans (f56 23 (by decide))) ((congrFun (f162 26 (by decide)) 6).trans (congrFun (f56 26 (by decide)) 6)) ((congrFun (f162 26 (by decide)) 7).trans (congrFun (f56 26 (by decide)) 7)) ((f162 29 (by decide)).trans (f56 29 (by decide))) ((f162 30 (by decide)).trans (f56 30 (by decide))) hs_jBl
      have p207 : jKb σ160 := jKb.fr ((congrFun (f162 31 (by decide)) 8).trans (congrFun (f56 31 (by decide)) 8)) ((congrFun (f162 31 (by decide)) 11).trans (congrFun (f56 31 (by decide)) 11)) ((f162 32 (by decide)).trans (f56 32 (by decide))) hs_jKb
      have p208 : jTR σ160 := jTR.fr ((f162 64 (by decide)).trans (f56 64 (by decide))) ((f162 65 (by decide)).trans (f56 65 (by decide))) hs_jTR
      have p209 : jKh σ160 := jKh.fr ((congrFun (f162 31 (by decide)) 8).trans (congrFun (f56 31 (by decide)) 8)) ((f162 32 (by decide)).trans (f56 32 (by decide))) ((f162 36 (by decide)).trans (f56 36 (by decide))) ((f162 37 (by decide)).trans (f56 37 (by decide))) hs_jKh
      have p210 : jKg σ160 := jKg.fr ((congrFun (f162 31 (by decide)) 8).trans (congrFun (f56 31 (by decide)) 8)) ((congrFun (f162 31 (by decide)) 9).trans (congrFun (f56 31 (by decide)) 9)) ((congrFun (f162 31 (by decide)) 11).trans (congrFun (f56 31 (by decide)) 11)) ((congrFun (f162 31 (by decide)) 12).trans (congrFun (f56 31 (by decide)) 12)) ((f162 32 (by decide)).trans (f56 32 (by decide))) ((f162 33 (by decide)).trans (f56 33 (by decide))) hs_jKg
      have z211 : (σ160 2 0).toInt = (σ 2 0).toInt := (congrArg Int32.toInt (show σ160 2 0 = (σ 2 0) from ((congrFun (f162 2 (by decide)) 0).trans (congrFun (f56 2 (by decide)) 0))))
      have z212 : (σ160 55 6).toInt = (σ 55 6).toInt := (congrArg Int32.toInt (show σ160 55 6 = (σ 55 6) from ((congrFun (f162 55 (by decide)) 6).trans (congrFun (f56 55 (by decide)) 6))))
      have z213 : (σ160 2 2).toInt = (σ 2 2).toInt := (congrArg Int32.toInt (show σ160 2 2 = (σ 2 2) from ((congrFun (f162 2 (by decide)) 2).trans (congrFun (f56 2 (by decide)) 2))))
      have z214 : (σ160 55 5).toInt = (σ 55 5).toInt := (congrArg Int32.toInt (show σ160 55 5 = (σ 55 5) from ((congrFun (f162 55 (by decide)) 5).trans (congrFun (f56 55 (by decide)) 5))))
      have z215 : (σ160 2 3).toInt = (σ 2 3).toInt := (congrArg Int32.toInt (show σ160 2 3 = (σ 2 3) from ((congrFun (f162 2 (by decide)) 3).trans (congrFun (f56 2 (by decide)) 3))))
      have z216 : (σ160 55 4).toInt = (σ 55 4).toInt := (congrArg Int32.toInt (show σ160 55 4 = (σ 55 4) from ((congrFun (f162 55 (by decide)) 4).trans (congrFun (f56 55 (by decide)) 4))))
      have z217 : (σ160 9 0).toInt = (σ 9 0).toInt := (congrArg Int32.toInt (show σ160 9 0 = (σ 9 0) from ((congrFun (f162 9 (by decide)) 0).trans (congrFun (f56 9 (by decide)) 0))))
      have z218 : (σ160 55 15).toInt = (σ 55 15).toInt := (congrArg Int32.toInt (show σ160 55 15 = (σ 55 15) from ((congrFun (f162 55 (by decide)) 15).trans (congrFun (f56 55 (by decide)) 15))))
      have z219 : (σ160 16 0).toInt = (σ 16 0).toInt := (congrArg Int32.toInt (show σ160 16 0 = (σ 16 0) from ((congrFun (f162 16 (by decide)) 0).trans (congrFun (f56 16 (by decide)) 0))))
      have z220 : (σ160 55 10).toInt = (σ 55 10).toInt := (congrArg Int32.toInt (show σ160 55 10 = (σ 55 10) from ((congrFun (f162 55 (by decide)) 10).trans (congrFun (f56 55 (by decide)) 10))))
      have z221 : (σ160 16 1).toInt = (σ 16 1).toInt := (congrArg Int32.toInt (show σ160 16 1 = (σ 16 1) from ((congrFun (f162 16 (by decide)) 1).trans (congrFun (f56 16 (by decide)) 1))))
      have z222 : (σ160 55 12).toInt = (σ 55 12).toInt := (congrArg Int32.toInt (show σ160 55 12 = (σ 55 12) from ((congrFun (f162 55 (by decide)) 12).trans (congrFun (f56 55 (by decide)) 12))))
      have z223 : (σ160 16 2).toInt = (σ 16 2).toInt := (congrArg Int32.toInt (show σ160 16 2 = (σ 16 2) from ((congrFun (f162 16 (by decide)) 2).trans (congrFun (f56 16 (by decide)) 2))))
      have z224 : (σ160 55 13).toInt = (σ 55 13).toInt := (congrArg Int32.toInt (show σ160 55 13 = (σ 55 13) from ((congrFun (f162 55 (by decide)) 13).trans (congrFun (f56 55 (by decide)) 13))))
      have z225 : (σ160 38 0).toInt = (σ 38 0).toInt := (congrArg Int32.toInt (show σ160 38 0 = (σ 38 0) from ((congrFun (f162 38 (by decide)) 0).trans (congrFun (f56 38 (by decide)) 0))))
      have z226 : (σ160 55 32).toInt = (σ 55 32).toInt := (congrArg Int32.toInt (show σ160 55 32 = (σ 55 32) from ((congrFun (f162 55 (by decide)) 32).trans (congrFun (f56 55 (by decide)) 32))))
      have z227 : (σ160 38 1).toInt = (σ 38 1).toInt := (congrArg Int32.toInt (show σ160 38 1 = (σ 38 1) from ((congrFun (f162 38 (by decide)) 1).trans (congrFun (f56 38 (by decide)) 1))))
      have z228 : (σ160 55 55).toInt = (σ 55 55).toInt := (congrArg Int32.toInt (show σ160 55 55 = (σ 55 55) from ((congrFun (f162 55 (by decide)) 55).trans (congrFun (f56 55 (by decide)) 55))))
      have z229 : (σ160 47 0).toInt = (σ 47 0).toInt := (congrArg Int32.toInt (show σ160 47 0 = (σ 47 0) from ((congrFun (f162 47 (by decide)) 0).trans (congrFun (f56 47 (by decide)) 0))))
      have z230 : (σ160 55 47).toInt = (σ 55 47).toInt := (congrArg Int32.toInt (show σ160 55 47 = (σ 55 47) from ((congrFun (f162 55 (by decide)) 47).trans (congrFun (f56 55 (by decide)) 47))))
      have z231 : (σ160 55 30).toInt = (σ 55 30).toInt := (congrArg Int32.toInt (show σ160 55 30 = (σ 55 30) from ((congrFun (f162 55 (by decide)) 30).trans (congrFun (f56 55 (by decide)) 30))))
      have z232 : (σ160 55 31).toInt = (σ 55 31).toInt := (congrArg Int32.toInt (show σ160 55 31 = (σ 55 31) from ((congrFun (f162 55 (by decide)) 31).trans (congrFun (f56 55 (by decide)) 31))))
      have z233 : (σ160 2 1).toInt = (σ 2 1).toInt := (congrArg Int32.toInt (show σ160 2 1 = (σ 2 1) from ((congrFun (f162 2 (by decide)) 1).trans (congrFun (f56 2 (by decide)) 1))))
      have z234 : (σ160 55 9).toInt = (σ 55 9).toInt := (congrArg Int32.toInt (show σ160 55 9 = (σ 55 9) from ((congrFun (f162 55 (by decide)) 9).trans (congrFun (f56 55 (by decide)) 9))))
      have z235 : (σ160 26 6).toInt = (σ 26 6).toInt := (congrArg Int32.toInt (show σ160 26 6 = (σ 26 6) from ((congrFun (f162 26 (by decide)) 6).trans (congrFun (f56 26 (by decide)) 6))))
      have z237 : (σ160 18 0).toInt = (σ 18 0).toInt := (congrArg Int32.toInt (show σ160 18 0 = (σ 18 0) from ((congrFun (f162 18 (by decide)) 0).trans (congrFun (f56 18 (by decide)) 0))))
      have z238 : (σ160 22 0).toInt = (σ 22 0).toInt := (congrArg Int32.toInt (show σ160 22 0 = (σ 22 0) from ((congrFun (f162 22 (by decide)) 0).trans (congrFun (f56 22 (by decide)) 0))))
      exact ih x178 σ160 τ160 _ _ ls (by have h9 := tx178; omega) ⟨I179, I180, I181, I182, I183, I184, I185, I186, I187, I188, I189, I190, I191, I192, I193, I194, I195, I196, I197, I198, I199, I163, I200, I201, p202, p203, p204, p205, p206, p207, p208, p209, p210, (by omega), (by omega), (by omega), (by omega), (by omega), (by omega), (by omega), (by omega), (by omega), (by omega), (by omega), (by omega), (by omega), (by have h9 := tx178; omega), (show jNumP (σ160 3) (σ160 56) (σ160 6) (σ160 57) (σ160 7) (σ160 58) (σ160 8) (σ160 59) (σ160 55 6).toInt (σ160 55 4).toInt by rw [show σ160 3 = σ 3 from ((f162 3 (by decide)).trans (f56 3 (by decide))), show σ160 56 = σ 56 from ((f162 56 (by decide)).trans (f56 56 (by decide))), show σ160 6 = σ 6 from ((f162 6 (by decide)).trans (f56 6 (by decide))), show σ160 57 = σ 57 from ((f162 57 (by decide)).trans (f56 57 (by decide))), show σ160 7 = σ 7 from ((f162 7 (by decide)).trans (f56 7 (by decide))), show σ160 58 = σ 58 from ((f162 58 (by decide)).trans (f56 58 (by decide))), show σ160 8 = σ 8 from ((f162 8 (by decide)).trans (f56 8 (by decide))), show σ160 59 = σ 59 from ((f162 59 (by decide)).trans (f56 59 (by decide))), show (σ160 55 6).toInt = (σ 55 6).toInt from by omega, show (σ160 55 4).toInt = (σ 55 4).toInt from by omega]; exact hr0), (show jOvP (σ160 56) (σ160 57) (σ160 58) (σ160 59) (σ160 55 4).toInt by rw [show σ160 56 = σ 56 from ((f162 56 (by decide)).trans (f56 56 (by decide))), show σ160 57 = σ 57 from ((f162 57 (by decide)).trans (f56 57 (by decide))), show σ160 58 = σ 58 from ((f162 58 (by decide)).trans (f56 58 (by decide))), show σ160 59 = σ 59 from ((f162 59 (by decide)).trans (f56 59 (by decide))), show (σ160 55 4).toInt = (σ 55 4).toInt from by omega]; exact hr1), (show jTp (σ160 10) (σ160 63) (σ160 55 15).toInt by rw [show σ160 10 = σ 10 from ((f162 10 (by decide)).trans (f56 10 (by decide))), show σ160 63 = σ 63 from ((f162 63 (by decide)).trans (f56 63 (by decide)))]; exact hr2.le (by omega)), (show jSo (σ160 17) (σ160 62) (σ160 16 0).toInt by rw [show σ160 17 = σ 17 from ((f162 17 (by decide)).trans (f56 17 (by decide))), show σ160 62 = σ 62 from ((f162 62 (by decide)).trans (f56 62 (by decide))), show (σ160 16 0).toInt = (σ 16 0).toInt from by omega]; exact hr3), (show jShP (σ160 51) (σ160 52) (σ160 53) (σ160 86) (σ160 87) (σ160 55 32).toInt by rw [show σ160 51 = σ 51 from ((f162 51 (by decide)).trans k156.1), show σ160 52 = σ 52 from ((f162 52 (by decide)).trans k156.2.1), show σ160 53 = σ 53 from ((f162 53 (by decide)).trans k156.2.2), show σ160 86 = σ 86 from (k175.1.trans (f56 86 (by decide))), show σ160 87 = σ 87 from (k175.2.trans (f56 87 (by decide)))]; exact (hr4.up (by omega) (by omega))), (show jEl (σ160 51) (σ160 52) (τ160 54) (τ160 88) by rw [show σ160 51 = σ 51 from ((f162 51 (by decide)).trans k156.1), show σ160 52 = σ 52 from ((f162 52 (by decide)).trans k156.2.1), show τ160 54 = τ 54 from ((f164 54 (by decide)).trans k157), show τ160 88 = τ 88 from (k176.trans (f58 88 (by decide)))]; exact hr5), (show jByP (σ160 51) (σ160 52) (τ160 54) by rw [show σ160 51 = σ 51 from ((f162 51 (by decide)).trans k156.1), show σ160 52 = σ 52 from ((f162 52 (by decide)).trans k156.2.1), show τ160 54 = τ 54 from ((f164 54 (by decide)).trans k157)]; exact hr6), (show jBk (σ160 48) (σ160 80) (σ160 49) (σ160 81) (σ160 55 47).toInt by rw [show σ160 48 = σ 48 from ((f162 48 (by decide)).trans (f56 48 (by decide))), show σ160 49 = σ 49 from ((f162 49 (by decide)).trans (f56 49 (by decide))), show σ160 80 = σ 80 from ((f162 80 (by decide)).trans (f56 80 (by decide))), show σ160 81 = σ 81 from ((f162 81 (by decide)).trans (f56 81 (by decide))), show (σ160 55 47).toInt = (σ 55 47).toInt from by omega]; exact hr7), (show jKd (σ160 39) (σ160 70) (σ160 55 32).toInt by rw [show σ160 39 = σ 39 from ((f162 39 (by decide)).trans (f56 39 (by decide))), show σ160 70 = σ 70 from ((f162 70 (by decide)).trans (f56 70 (by decide))), show (σ160 55 32).toInt = (σ 55 32).toInt from by omega]; exact hr8), (show jTt (σ160 42) (σ160 85) (σ160 55 55).toInt by rw [show σ160 42 = σ 42 from ((f162 42 (by decide)).trans (f56 42 (by decide))), show σ160 85 = σ 85 from ((f162 85 (by decide)).trans (f56 85 (by decide))), show (σ160 55 55).toInt = (σ 55 55).toInt from by omega]; exact hr9), (fun k hk => by rw [show σ160 4 = σ 4 from ((f162 4 (by decide)).trans (f56 4 (by decide))), show σ160 5 = σ 5 from ((f162 5 (by decide)).trans (f56 5 (by decide))), show σ160 60 = σ 60 from ((f162 60 (by decide)).trans (f56 60 (by decide))), show σ160 61 = σ 61 from ((f162 61 (by decide)).trans (f56 61 (by decide)))]; exact hr10 k (by omega)), (fun nm => by rw [show σ160 19 = σ 19 from ((f162 19 (by decide)).trans (f56 19 (by decide))), show σ160 64 = σ 64 from ((f162 64 (by decide)).trans (f56 64 (by decide))), show σ160 65 = σ 65 from ((f162 65 (by decide)).trans (f56 65 (by decide))), show (σ160 18 0).toInt = (σ 18 0).toInt from by omega]; exact hr11 nm), (fun nm => by rw [show σ160 23 = σ 23 from ((f162 23 (by decide)).trans (f56 23 (by decide))), show σ160 64 = σ 64 from ((f162 64 (by decide)).trans (f56 64 (by decide))), show σ160 65 = σ 65 from ((f162 65 (by decide)).trans (f56 65 (by decide))), show (σ160 22 0).toInt = (σ 22 0).toInt from by omega]; exact hr12 nm)⟩ hP hS (lv_sub hl [0, 1, 2, 3] rfl)
    · obtain ⟨q244, k239, k240, k241, k242, k243⟩ := h167
      exact absurd (by omega : False) id
  · obtain ⟨q250, k245, k246, k247, k248, k249⟩ := h62
    have q250 := q250.symm
    subst q250
    refine lv_pop hx hb dL_law_1108 rfl ?_
    refine lv_aload_n hx hb dL_law_1109 rfl (lv_at hl 1 rfl) ?_
    refine lv_aload_n hx hb dL_law_1110 rfl (lv_at hl 3 rfl) ?_
    refine lv_iload_n hx hb dL_law_1111 rfl (lv_at hl 0 rfl) ?_
    refine lv_iconst (v := 1) hx hb dL_law_1112 (by decide) ?_
    refine lv_iadd hx hb dL_law_1113 ?_
    refine jtopr ex48.symm ?_
    refine va_sld hx hb hX hbl hbA hS (jin tx48 (by omega) (by omega)) dL_law_1114 ?_
    refine lv_aload_n hx hb dL_law_1115 rfl (lv_at hl 3 rfl) ?_
    refine lv_iload_n hx hb dL_law_1116 rfl (lv_at hl 0 rfl) ?_
    refine lv_iconst (v := 2) hx hb dL_law_1117 (by decide) ?_
    refine lv_iadd hx hb dL_law_1118 ?_
    refine jtopr ex50.symm ?_
    refine va_sld hx hb hX hbl hbA hS (jin tx50 (by omega) (by omega)) dL_law_1119 ?_
    refine lv_aload_n hx hb dL_law_1120 rfl (lv_at hl 3 rfl) ?_
    refine lv_iload_n hx hb dL_law_1121 rfl (lv_at hl 0 rfl) ?_
    refine lv_iconst (v := 3) hx hb dL_law_1122 (by decide) ?_
    refine lv_iadd hx hb dL_law_1123 ?_
    refine jtopr ex52.symm ?_
    refine va_sld hx hb hX hbl hbA hS (jin tx52 (by omega) (by omega)) dL_law_1124 ?_
    have I251 : jI110 σ54 := jI110_fr (f56 86 (by decide)) (f56 87 (by decide)) hI110
    refine jcallV (As := [.int (xs x48.toNatClampNeg), .int (xs x50.toNatClampNeg), .int (xs x52.toNatClampNeg)]) (rest := []) ⟨hx, hb, hml, hown, hts⟩ hK hP hA hS hZ (c_X12_row l D cI cL ad zz hJ σ54 τ54 (xs x48.toNatClampNeg) ((xs x48.toNatClampNeg).toInt) rfl (xs x50.toNatClampNeg) ((xs x50.toNatClampNeg).toInt) rfl (xs x52.toNatClampNeg) ((xs x52.toNatClampNeg).toInt) rfl I251) cw_RL_144 (jc_55 cI cL ad σ54 τ54) rfl ⟨Nat.le_of_ble_eq_true rfl, Nat.le_of_ble_eq_true rfl⟩ rfl rfl rfl hl.1 rfl (Nat.le_of_ble_eq_true rfl) dL_law_1125 ⟨Nat.le_of_ble_eq_true rfl, Nat.le_of_ble_eq_true rfl⟩ (fun r253 σ252 τ252 H locs h252 hP hS => ?_)
    obtain ⟨f256, f254, I255, h252⟩ := h252
    rcases h252 with h257 | h258 | h259
    · obtain ⟨q263, k260, k261, k262⟩ := h257
      exact absurd (by omega : False) id
    · obtain ⟨q269, k264, k265, k266, k267, k268⟩ := h258
      exact absurd (by omega : False) id
    · obtain ⟨q275, k270, k271, k272, k273, k274⟩ := h259
      have q275 := q275.symm
      subst q275
      refine lv_pop hx hb dL_law_1128 rfl ?_
      refine lv_goto (tgt := 1357) hx hb dL_law_1129 (by decide) ?_
      obtain ⟨x276, ex276⟩ : ∃ y : Int32, y = x0 + 6 := ⟨_, rfl⟩
      have tx276 : x276.toInt = x0.toInt + 6 := (jadd ex276 rfl jz_6 (by omega) (by omega)).trans (by omega)
      refine lv_iinc (v := x276) (lv' := [(3, .int x276), (2, .ref (ad 55)), (1, .ref (ad 0)), (0, .ref b)]) hx hb dL_law_1357 hl (k := 0) rfl (by rw [ex276]; rfl) (by decide) rfl (fun ls hl => ?_)
      refine lv_goto (tgt := 18) hx hb dL_law_1360 (by decide) ?_
      have I277 : jI2 σ252 := jI2_fr ((congrFun (f254 2 (by decide)) 0).trans (congrFun (f56 2 (by decide)) 0)) ((congrFun (f254 2 (by decide)) 1).trans (congrFun (f56 2 (by decide)) 1)) ((congrFun (f254 2 (by decide)) 2).trans (congrFun (f56 2 (by decide)) 2)) ((congrFun (f254 2 (by decide)) 3).trans (congrFun (f56 2 (by decide)) 3)) ((f254 6 (by decide)).trans (f56 6 (by decide))) hI2
      have I278 : jI9 σ252 := jI9_fr ((congrFun (f254 9 (by decide)) 0).trans (congrFun (f56 9 (by decide)) 0)) ((f254 10 (by decide)).trans (f56 10 (by decide))) ((f254 11 (by decide)).trans (f56 11 (by decide))) hI9
      have I279 : jI12 σ252 := jI12_fr ((congrFun (f254 12 (by decide)) 0).trans (congrFun (f56 12 (by decide)) 0)) ((f254 13 (by decide)).trans (f56 13 (by decide))) hI12
      have I280 : jI16 σ252 := jI16_fr ((congrFun (f254 16 (by decide)) 0).trans (congrFun (f56 16 (by decide)) 0)) ((congrFun (f254 16 (by decide)) 1).trans (congrFun (f56 16 (by decide)) 1)) ((congrFun (f254 16 (by decide)) 2).trans (congrFun (f56 16 (by decide)) 2)) ((f254 17 (by decide)).trans (f56 17 (by decide))) hI16
      have I281 : jI18 σ252 := jI18_fr ((congrFun (f254 18 (by decide)) 0).trans (congrFun (f56 18 (by decide)) 0)) ((f254 19 (by decide)).trans (f56 19 (by decide))) hI18
      have I282 : jI22 σ252 := jI22_fr ((congrFun (f254 22 (by decide)) 0).trans (congrFun (f56 22 (by decide)) 0)) ((f254 23 (by decide)).trans (f56 23 (by decide))) hI22
      have I283 : jI31 σ252 := jI31_fr ((congrFun (f254 31 (by decide)) 8).trans (congrFun (f56 31 (by decide)) 8)) ((congrFun (f254 31 (by decide)) 10).trans (congrFun (f56 31 (by decide)) 10)) ((congrFun (f254 31 (by decide)) 11).trans (congrFun (f56 31 (by decide)) 11)) ((f254 33 (by decide)).trans (f56 33 (by decide))) ((f254 35 (by decide)).trans (f56 35 (by decide))) ((f254 36 (by decide)).trans (f56 36 (by decide))) hI31
      have I284 : jI38 σ252 := jI38_fr ((congrFun (f254 38 (by decide)) 0).trans (congrFun (f56 38 (by decide)) 0)) ((congrFun (f254 38 (by decide)) 1).trans (congrFun (f56 38 (by decide)) 1)) ((f254 39 (by decide)).trans (f56 39 (by decide))) hI38
      have I285 : jI43 σ252 := jI43_fr ((congrFun (f254 43 (by decide)) 8).trans (congrFun (f56 43 (by decide)) 8)) hI43
      have I286 : jI47 σ252 := jI47_fr ((congrFun (f254 47 (by decide)) 0).trans (congrFun (f56 47 (by decide)) 0)) ((f254 48 (by decide)).trans (f56 48 (by decide))) ((f254 49 (by decide)).trans (f56 49 (by decide))) hI47
      have I287 : jI50 σ252 := jI50_fr (f254 52 (by decide)) I57
      have I288 : jI0 σ252 := jI0_fr ((f254 1 (by decide)).trans (f56 1 (by decide))) hI0
      have I289 : jI26 σ252 := jI26_fr ((congrFun (f254 26 (by decide)) 6).trans (congrFun (f56 26 (by decide)) 6)) hI26
      have I290 : jI101 σ252 := jI101_fr ((congrFun (f254 55 (by decide)) 4).trans (congrFun (f56 55 (by decide)) 4)) ((congrFun (f254 55 (by decide)) 5).trans (congrFun (f56 55 (by decide)) 5)) ((f254 56 (by decide)).trans (f56 56 (by decide))) ((f254 57 (by decide)).trans (f56 57 (by decide))) ((f254 58 (by decide)).trans (f56 58 (by decide))) ((f254 59 (by decide)).trans (f56 59 (by decide))) hI101
      have I291 : jI102 σ252 := jI102_fr ((congrFun (f254 55 (by decide)) 6).trans (congrFun (f56 55 (by decide)) 6)) ((f254 60 (by decide)).trans (f56 60 (by decide))) ((f254 61 (by decide)).trans (f56 61 (by decide))) hI102
      have I292 : jI103 σ252 := jI103_fr ((congrFun (f254 55 (by decide)) 9).trans (congrFun (f56 55 (by decide)) 9)) hI103
      have I293 : jI104 σ252 := jI104_fr ((congrFun (f254 55 (by decide)) 10).trans (congrFun (f56 55 (by decide)) 10)) ((congrFun (f254 55 (by decide)) 12).trans (congrFun (f56 55 (by decide)) 12)) ((congrFun (f254 55 (by decide)) 13).trans (congrFun (f56 55 (by decide)) 13)) ((f254 62 (by decide)).trans (f56 62 (by decide))) ((f254 67 (by decide)).trans (f56 67 (by decide))) hI104
      have I294 : jI105 σ252 := jI105_fr ((congrFun (f254 55 (by decide)) 15).trans (congrFun (f56 55 (by decide)) 15)) ((f254 65 (by decide)).trans (f56 65 (by decide))) hI105
      have I295 : jI106 σ252 := jI106_fr ((congrFun (f254 55 (by decide)) 32).trans (congrFun (f56 55 (by decide)) 32)) ((f254 70 (by decide)).trans (f56 70 (by decide))) ((f254 71 (by decide)).trans (f56 71 (by decide))) ((f254 72 (by decide)).trans (f56 72 (by decide))) hI106
      have I296 : jI107 σ252 := jI107_fr ((congrFun (f254 55 (by decide)) 12).trans (congrFun (f56 55 (by decide)) 12)) ((congrFun (f254 55 (by decide)) 47).trans (congrFun (f56 55 (by decide)) 47)) ((f254 80 (by decide)).trans (f56 80 (by decide))) hI107
      have I297 : jI109 σ252 := jI109_fr ((congrFun (f254 55 (by decide)) 50).trans (congrFun (f56 55 (by decide)) 50)) hI109
      have I298 : jI111 σ252 := jI111_fr ((f254 79 (by decide)).trans (f56 79 (by decide))) hI111
      have I299 : jI119 σ252 := jI119_fr ((f254 68 (by decide)).trans (f56 68 (by decide))) hI119
      have p300 : jKept σ252 := jKept.fr ((f254 75 (by decide)).trans (f56 75 (by decide))) ((f254 76 (by decide)).trans (f56 76 (by decide))) ((f254 77 (by decide)).trans (f56 77 (by decide))) hs_jKept
      have p301 : jBook σ252 := jBook.fr ((congrFun (f254 55 (by decide)) 47).trans (congrFun (f56 55 (by decide)) 47)) ((congrFun (f254 55 (by decide)) 10).trans (congrFun (f56 55 (by decide)) 10)) ((f254 81 (by decide)).trans (f56 81 (by decide))) hs_jBook
      have p302 : jNd12 σ252 := jNd12.fr ((congrFun (f254 12 (by decide)) 0).trans (congrFun (f56 12 (by decide)) 0)) ((congrFun (f254 12 (by decide)) 1).trans (congrFun (f56 12 (by decide)) 1)) ((f254 13 (by decide)).trans (f56 13 (by decide))) hs_jNd12
      have p303 : jN67 σ252 := jN67.fr ((f254 24 (by decide)).trans (f56 24 (by decide))) hs_jN67
      have p304 : jBl σ252 := jBl.fr ((congrFun (f254 22 (by decide)) 0).trans (congrFun (f56 22 (by decide)) 0)) ((congrFun (f254 22 (by decide)) 1).trans (congrFun (f56 22 (by decide)) 1)) ((f254 23 (by decide)).trans (f56 23 (by decide))) ((congrFun (f254 26 (by decide)) 6).trans (congrFun (f56 26 (by decide)) 6)) ((congrFun (f254 26 (by decide)) 7).trans (congrFun (f56 26 (by decide)) 7)) ((f254 29 (by decide)).trans (f56 29 (by decide))) ((f254 30 (by decide)).trans (f56 30 (by decide))) hs_jBl
      have p305 : jKb σ252 := jKb.fr ((congrFun (f254 31 (by decide)) 8).trans (congrFun (f56 31 (by decide)) 8)) ((congrFun (f254 31 (by decide)) 11).trans (congrFun (f56 31 (by decide)) 11)) ((f254 32 (by decide)).trans (f56 32 (by decide))) hs_jKb
      have p306 : jTR σ252 := jTR.fr ((f254 64 (by decide)).trans (f56 64 (by decide))) ((f254 65 (by decide)).trans (f56 65 (by decide))) hs_jTR
      have p307 : jKh σ252 := jKh.fr ((congrFun (f254 31 (by decide)) 8).trans (congrFun (f56 31 (by decide)) 8)) ((f254 32 (by decide)).trans (f56 32 (by decide))) ((f254 36 (by decide)).trans (f56 36 (by decide))) ((f254 37 (by decide)).trans (f56 37 (by decide))) hs_jKh
      have p308 : jKg σ252 := jKg.fr ((congrFun (f254 31 (by decide)) 8).trans (congrFun (f56 31 (by decide)) 8)) ((congrFun (f254 31 (by decide)) 9).trans (congrFun (f56 31 (by decide)) 9)) ((congrFun (f254 31 (by decide)) 11).trans (congrFun (f56 31 (by decide)) 11)) ((congrFun (f254 31 (by decide)) 12).trans (congrFun (f56 31 (by decide)) 12)) ((f254 32 (by decide)).trans (f56 32 (by decide))) ((f254 33 (by decide)).trans (f56 33 (by decide))) hs_jKg
      have z309 : (σ252 2 0).toInt = (σ 2 0).toInt := (congrArg Int32.toInt (show σ252 2 0 = (σ 2 0) from ((congrFun (f254 2 (by decide)) 0).trans (congrFun (f56 2 (by decide)) 0))))
      have z310 : (σ252 55 6).toInt = (σ 55 6).toInt := (congrArg Int32.toInt (show σ252 55 6 = (σ 55 6) from ((congrFun (f254 55 (by decide)) 6).trans (congrFun (f56 55 (by decide)) 6))))
      have z311 : (σ252 2 2).toInt = (σ 2 2).toInt := (congrArg Int32.toInt (show σ252 2 2 = (σ 2 2) from ((congrFun (f254 2 (by decide)) 2).trans (congrFun (f56 2 (by decide)) 2))))
      have z312 : (σ252 55 5).toInt = (σ 55 5).toInt := (congrArg Int32.toInt (show σ252 55 5 = (σ 55 5) from ((congrFun (f254 55 (by decide)) 5).trans (congrFun (f56 55 (by decide)) 5))))
      have z313 : (σ252 2 3).toInt = (σ 2 3).toInt := (congrArg Int32.toInt (show σ252 2 3 = (σ 2 3) from ((congrFun (f254 2 (by decide)) 3).trans (congrFun (f56 2 (by decide)) 3))))
      have z314 : (σ252 55 4).toInt = (σ 55 4).toInt := (congrArg Int32.toInt (show σ252 55 4 = (σ 55 4) from ((congrFun (f254 55 (by decide)) 4).trans (congrFun (f56 55 (by decide)) 4))))
      have z315 : (σ252 9 0).toInt = (σ 9 0).toInt := (congrArg Int32.toInt (show σ252 9 0 = (σ 9 0) from ((congrFun (f254 9 (by decide)) 0).trans (congrFun (f56 9 (by decide)) 0))))
      have z316 : (σ252 55 15).toInt = (σ 55 15).toInt := (congrArg Int32.toInt (show σ252 55 15 = (σ 55 15) from ((congrFun (f254 55 (by decide)) 15).trans (congrFun (f56 55 (by decide)) 15))))
      have z317 : (σ252 16 0).toInt = (σ 16 0).toInt := (congrArg Int32.toInt (show σ252 16 0 = (σ 16 0) from ((congrFun (f254 16 (by decide)) 0).trans (congrFun (f56 16 (by decide)) 0))))
      have z318 : (σ252 55 10).toInt = (σ 55 10).toInt := (congrArg Int32.toInt (show σ252 55 10 = (σ 55 10) from ((congrFun (f254 55 (by decide)) 10).trans (congrFun (f56 55 (by decide)) 10))))
      have z319 : (σ252 16 1).toInt = (σ 16 1).toInt := (congrArg Int32.toInt (show σ252 16 1 = (σ 16 1) from ((congrFun (f254 16 (by decide)) 1).trans (congrFun (f56 16 (by decide)) 1))))
      have z320 : (σ252 55 12).toInt = (σ 55 12).toInt := (congrArg Int32.toInt (show σ252 55 12 = (σ 55 12) from ((congrFun (f254 55 (by decide)) 12).trans (congrFun (f56 55 (by decide)) 12))))
      have z321 : (σ252 16 2).toInt = (σ 16 2).toInt := (congrArg Int32.toInt (show σ252 16 2 = (σ 16 2) from ((congrFun (f254 16 (by decide)) 2).trans (congrFun (f56 16 (by decide)) 2))))
      have z322 : (σ252 55 13).toInt = (σ 55 13).toInt := (congrArg Int32.toInt (show σ252 55 13 = (σ 55 13) from ((congrFun (f254 55 (by decide)) 13).trans (congrFun (f56 55 (by decide)) 13))))
      have z323 : (σ252 38 0).toInt = (σ 38 0).toInt := (congrArg Int32.toInt (show σ252 38 0 = (σ 38 0) from ((congrFun (f254 38 (by decide)) 0).trans (congrFun (f56 38 (by decide)) 0))))
      have z324 : (σ252 55 32).toInt = (σ 55 32).toInt := (congrArg Int32.toInt (show σ252 55 32 = (σ 55 32) from ((congrFun (f254 55 (by decide)) 32).trans (congrFun (f56 55 (by decide)) 32))))
      have z325 : (σ252 38 1).toInt = (σ 38 1).toInt := (congrArg Int32.toInt (show σ252 38 1 = (σ 38 1) from ((congrFun (f254 38 (by decide)) 1).trans (congrFun (f56 38 (by decide)) 1))))
      have z326 : (σ252 55 55).toInt = (σ 55 55).toInt := (congrArg Int32.toInt (show σ252 55 55 = (σ 55 55) from ((congrFun (f254 55 (by decide)) 55).trans (congrFun (f56 55 (by decide)) 55))))
      have z327 : (σ252 47 0).toInt = (σ 47 0).toInt := (congrArg Int32.toInt (show σ252 47 0 = (σ 47 0) from ((congrFun (f254 47 (by decide)) 0).trans (congrFun (f56 47 (by decide)) 0))))
      have z328 : (σ252 55 47).toInt = (σ 55 47).toInt := (congrArg Int32.toInt (show σ252 55 47 = (σ 55 47) from ((congrFun (f254 55 (by decide)) 47).trans (congrFun (f56 55 (by decide)) 47))))
      have z329 : (σ252 55 30).toInt = (σ 55 30).toInt := (congrArg Int32.toInt (show σ252 55 30 = (σ 55 30) from ((congrFun (f254 55 (by decide)) 30).trans (congrFun (f56 55 (by decide)) 30))))
      have z330 : (σ252 55 31).toInt = (σ 55 31).toInt := (congrArg Int32.toInt (show σ252 55 31 = (σ 55 31) from ((congrFun (f254 55 (by decide)) 31).trans (congrFun (f56 55 (by decide)) 31))))
      have z331 : (σ252 2 1).toInt = (σ 2 1).toInt := (congrArg Int32.toInt (show σ252 2 1 = (σ 2 1) from ((congrFun (f254 2 (by decide)) 1).trans (congrFun (f56 2 (by decide)) 1))))
      have z332 : (σ252 55 9).toInt = (σ 55 9).toInt := (congrArg Int32.toInt (show σ252 55 9 = (σ 55 9) from ((congrFun (f254 55 (by decide)) 9).trans (congrFun (f56 55 (by decide)) 9))))
      have z333 : (σ252 26 6).toInt = (σ 26 6).toInt := (congrArg Int32.toInt (show σ252 26 6 = (σ 26 6) from ((congrFun (f254 26 (by decide)) 6).trans (congrFun (f56 26 (by decide)) 6))))
      rw [show σ54 86 = σ 86 from (f56 86 (by decide)), show σ54 87 = σ 87 from (f56 87 (by decide))] at k273
      obtain ⟨⟨z335, k336, k337⟩, k338⟩ := k273
      have p334 := hr4.set k248.1 k248.2.1 k248.2.2 k337 k338 (Or.inr (Or.inr ⟨by omega, by omega, k336, rfl, rfl⟩))
      rw [show τ54 88 = τ 88 from (f58 88 (by decide))] at k274
      have p339 := hr5.row w20 k248.1 k248.2.1 k249 k274 (by omega) (by omega) (by omega) (by omega) (by omega) (by omega)
      have z340 : (σ252 18 0).toInt = (σ 18 0).toInt := (congrArg Int32.toInt (show σ252 18 0 = (σ 18 0) from ((congrFun (f254 18 (by decide)) 0).trans (congrFun (f56 18 (by decide)) 0))))
      have z341 : (σ252 22 0).toInt = (σ 22 0).toInt := (congrArg Int32.toInt (show σ252 22 0 = (σ 22 0) from ((congrFun (f254 22 (by decide)) 0).trans (congrFun (f56 22 (by decide)) 0))))
      exact ih x276 σ252 τ252 _ _ ls (by have h9 := tx276; omega) ⟨I277, I278, I279, I280, I281, I282, I283, I284, I285, I286, I287, I288, I289, I290, I291, I292, I293, I294, I295, I296, I297, I255, I298, I299, p300, p301, p302, p303, p304, p305, p306, p307, p308, (by omega), (by omega), (by omega), (by omega), (by omega), (by omega), (by omega), (by omega), (by omega), (by omega), (by omega), (by omega), (by omega), (by have h9 := tx276; omega), (show jNumP (σ252 3) (σ252 56) (σ252 6) (σ252 57) (σ252 7) (σ252 58) (σ252 8) (σ252 59) (σ252 55 6).toInt (σ252 55 4).toInt by rw [show σ252 3 = σ 3 from ((f254 3 (by decide)).trans (f56 3 (by decide))), show σ252 56 = σ 56 from ((f254 56 (by decide)).trans (f56 56 (by decide))), show σ252 6 = σ 6 from ((f254 6 (by decide)).trans (f56 6 (by decide))), show σ252 57 = σ 57 from ((f254 57 (by decide)).trans (f56 57 (by decide))), show σ252 7 = σ 7 from ((f254 7 (by decide)).trans (f56 7 (by decide))), show σ252 58 = σ 58 from ((f254 58 (by decide)).trans (f56 58 (by decide))), show σ252 8 = σ 8 from ((f254 8 (by decide)).trans (f56 8 (by decide))), show σ252 59 = σ 59 from ((f254 59 (by decide)).trans (f56 59 (by decide))), show (σ252 55 6).toInt = (σ 55 6).toInt from by omega, show (σ252 55 4).toInt = (σ 55 4).toInt from by omega]; exact hr0), (show jOvP (σ252 56) (σ252 57) (σ252 58) (σ252 59) (σ252 55 4).toInt by rw [show σ252 56 = σ 56 from ((f254 56 (by decide)).trans (f56 56 (by decide))), show σ252 57 = σ 57 from ((f254 57 (by decide)).trans (f56 57 (by decide))), show σ252 58 = σ 58 from ((f254 58 (by decide)).trans (f56 58 (by decide))), show σ252 59 = σ 59 from ((f254 59 (by decide)).trans (f56 59 (by decide))), show (σ252 55 4).toInt = (σ 55 4).toInt from by omega]; exact hr1), (show jTp (σ252 10) (σ252 63) (σ252 55 15).toInt by rw [show σ252 10 = σ 10 from ((f254 10 (by decide)).trans (f56 10 (by decide))), show σ252 63 = σ 63 from ((f254 63 (by decide)).trans (f56 63 (by decide)))]; exact hr2.le (by omega)), (show jSo (σ252 17) (σ252 62) (σ252 16 0).toInt by rw [show σ252 17 = σ 17 from ((f254 17 (by decide)).trans (f56 17 (by decide))), show σ252 62 = σ 62 from ((f254 62 (by decide)).trans (f56 62 (by decide))), show (σ252 16 0).toInt = (σ 16 0).toInt from by omega]; exact hr3), (show jShP (σ252 51) (σ252 52) (σ252 53) (σ252 86) (σ252 87) (σ252 55 32).toInt by rw [show σ252 51 = σ54 51 from (f254 51 (by decide)), show σ252 52 = σ54 52 from (f254 52 (by decide)), show σ252 53 = σ54 53 from (f254 53 (by decide))]; exact (p334.up (by omega) (by omega))), (show jEl (σ252 51) (σ252 52) (τ252 54) (τ252 88) by rw [show σ252 51 = σ54 51 from (f254 51 (by decide)), show σ252 52 = σ54 52 from (f254 52 (by decide)), show τ252 54 = τ54 54 from (f256 54 (by decide))]; exact p339), (show jByP (σ252 51) (σ252 52) (τ252 54) by rw [show σ252 51 = σ54 51 from (f254 51 (by decide)), show σ252 52 = σ54 52 from (f254 52 (by decide)), show τ252 54 = τ54 54 from (f256 54 (by decide))]; exact (hr6.row w20 k248.1 k248.2.1 k249 (by omega) (by omega) (by omega))), (show jBk (σ252 48) (σ252 80) (σ252 49) (σ252 81) (σ252 55 47).toInt by rw [show σ252 48 = σ 48 from ((f254 48 (by decide)).trans (f56 48 (by decide))), show σ252 49 = σ 49 from ((f254 49 (by decide)).trans (f56 49 (by decide))), show σ252 80 = σ 80 from ((f254 80 (by decide)).trans (f56 80 (by decide))), show σ252 81 = σ 81 from ((f254 81 (by decide)).trans (f56 81 (by decide))), show (σ252 55 47).toInt = (σ 55 47).toInt from by omega]; exact hr7), (show jKd (σ252 39) (σ252 70) (σ252 55 32).toInt by rw [show σ252 39 = σ 39 from ((f254 39 (by decide)).trans (f56 39 (by decide))), show σ252 70 = σ 70 from ((f254 70 (by decide)).trans (f56 70 (by decide))), show (σ252 55 32).toInt = (σ 55 32).toInt from by omega]; exact hr8), (show jTt (σ252 42) (σ252 85) (σ252 55 55).toInt by rw [show σ252 42 = σ 42 from ((f254 42 (by decide)).trans (f56 42 (by decide))), show σ252 85 = σ 85 from ((f254 85 (by decide)).trans (f56 85 (by decide))), show (σ252 55 55).toInt = (σ 55 55).toInt from by omega]; exact hr9), (fun k hk => by rw [show σ252 4 = σ 4 from ((f254 4 (by decide)).trans (f56 4 (by decide))), show σ252 5 = σ 5 from ((f254 5 (by decide)).trans (f56 5 (by decide))), show σ252 60 = σ 60 from ((f254 60 (by decide)).trans (f56 60 (by decide))), show σ252 61 = σ 61 from ((f254 61 (by decide)).trans (f56 61 (by decide)))]; exact hr10 k (by omega)), (fun nm => by rw [show σ252 19 = σ 19 from ((f254 19 (by decide)).trans (f56 19 (by decide))), show σ252 64 = σ 64 from ((f254 64 (by decide)).trans (f56 64 (by decide))), show σ252 65 = σ 65 from ((f254 65 (by decide)).trans (f56 65 (by decide))), show (σ252 18 0).toInt = (σ 18 0).toInt from by omega]; exact hr11 nm), (fun nm => by rw [show σ252 23 = σ 23 from ((f254 23 (by decide)).trans (f56 23 (by decide))), show σ252 64 = σ 64 from ((f254 64 (by decide)).trans (f56 64 (by decide))), show σ252 65 = σ 65 from ((f254 65 (by decide)).trans (f56 65 (by decide))), show (σ252 22 0).toInt = (σ 22 0).toInt from by omega]; exact hr12 nm)⟩ hP hS (lv_sub hl [0, 1, 2, 3] rfl)
set_option maxHeartbeats 4000000 in
set_option maxRecDepth 100000 in
theorem law_case_32 {p : Program} {e : Env} {s : State} {m : MethodId} {below : List Frame} {meth : Method} {c : Code} (l : Launch) {b L : Nat} {xs : Nat → Int32} {D : va_G} {cI cL : ClassId} {ad zz : Nat → Nat} (C0 : lw_At p s m meth c b L xs) (hJ : jD ad) (hA : ∀ q, jA ad q → s.heap.size ≤ q) (hK : jK D cI cL s) (hZ : jZ zz (fun q : Nat => s.heap.size ≤ q) s s.heap) {x0 : Int32} (hx0 : 0 ≤ x0.toInt) (hxL : x0.toInt + 6 ≤ (L : Int)) (hL : L ≤ 384) {σ : Nat → Nat → Int32} {τ : Nat → Nat → Int64} {H : Heap} {locs : List Loc} (hS : va_S (fun q : Nat => s.heap.size ≤ q) s.heap H locs) {ls : Array Slot} (hAll : jAll x0.toInt σ τ) (hP : jH D cI cL ad σ τ H) (hl : lv_has ls 4 [(3, .int x0), (2, .ref (ad 55)), (1, .ref (ad 0)), (0, .ref b)]) (ih : ∀ (x1 : Int32) (σ : Nat → Nat → Int32) (τ : Nat → Nat → Int64) (H : Heap) (locs : List Loc) (ls : Array Slot), x1.toInt = x0.toInt + 6 → jAll x1.toInt σ τ → jH D cI cL ad σ τ H → va_S (fun q : Nat => s.heap.size ≤ q) s.heap H locs → lv_has ls 4 [(3, .int x1), (2, .ref (ad 55)), (1, .ref (ad 0)), (0, .ref b)] → W p l e room_1 s m #[Value.ref b] below meth c H locs 90 348600 (lw_Z below #[Value.ref b] s) (F0 m 18 ls [])) : W p l e room_1 s m #[Value.ref b] below meth c H locs 90 348600 (lw_Z below #[Value.ref b] s) (F0 m 1132 ls []) := by
  obtain ⟨hx, hb, hr, hml, hown, hts0, hX, hbl, hlocks, hgv⟩ := C0
  have hts : ∀ w ∈ wsL_law, w.before #[Value.ref b] s = true := fun w h => hts0 w (wsL_law_in w h)
  have hbA : ¬ (fun q : Nat => s.heap.size ≤ q) b := Nat.not_le.mpr hbl
  have hown : s.vm.findClass RL = some m.cls := hown
  obtain ⟨hI2, hI9, hI12, hI16, hI18, hI22, hI31, hI38, hI43, hI47, hI50, hI0, hI26, hI101, hI102, hI103, hI104, hI105, hI106, hI107, hI109, hI110, hI111, hI119, hs_jKept, hs_jBook, hs_jNd12, hs_jN67, hs_jBl, hs_jKb, hs_jTR, hs_jKh, hs_jKg, ht0, ht1, ht2, ht3, ht4, ht5, ht6, ht7, ht8, ht9, ht10, ht11, ht12, ht13, hr0, hr1, hr2, hr3, hr4, hr5, hr6, hr7, hr8, hr9, hr10, hr11, hr12⟩ := hAll
  have hL9 : (L : Int) ≤ 384 := by omega
  obtain ⟨i1, i2, i3, i4, i5, w6⟩ : (0 ≤ (σ 2 0).toInt ∧ (σ 2 0).toInt ≤ 4) ∧ (0 ≤ (σ 2 1).toInt ∧ (σ 2 1).toInt ≤ 3) ∧ (0 ≤ (σ 2 2).toInt) ∧ (0 ≤ (σ 2 3).toInt) ∧ ((σ 2 2).toInt + (σ 2 3).toInt ≤ 40) ∧ (∀ k : Nat, k < 40 → 0 ≤ (σ 6 k).toInt ∧ (σ 6 k).toInt ≤ 67) := id hI2
  obtain ⟨i7, w8, w9⟩ : (0 ≤ (σ 9 0).toInt ∧ (σ 9 0).toInt ≤ 80) ∧ (∀ k : Nat, k < 80 → 0 ≤ (σ 10 k).toInt ∧ (σ 10 k).toInt ≤ 255) ∧ (∀ k : Nat, k < 8 → 0 ≤ (σ 11 k).toInt ∧ (σ 11 k).toInt ≤ 3) := id hI9
  obtain ⟨i10, i11, i12, w13⟩ : (1 ≤ (σ 16 0).toInt ∧ (σ 16 0).toInt ≤ 8) ∧ (1 ≤ (σ 16 1).toInt ∧ (σ 16 1).toInt ≤ 12) ∧ (0 ≤ (σ 16 2).toInt ∧ (σ 16 2).toInt ≤ 999) ∧ (∀ k : Nat, k < 8 → 0 ≤ (σ 17 k).toInt ∧ (σ 17 k).toInt ≤ 3) := id hI16
  obtain ⟨i14, i15, w16⟩ : (0 ≤ (σ 38 0).toInt ∧ (σ 38 0).toInt ≤ 20) ∧ (0 ≤ (σ 38 1).toInt ∧ (σ 38 1).toInt ≤ 1000) ∧ (∀ k : Nat, k < 20 → 0 ≤ (σ 39 k).toInt ∧ (σ 39 k).toInt ≤ 6) := id hI38
  obtain ⟨i17, w18, w19⟩ : (0 ≤ (σ 47 0).toInt ∧ (σ 47 0).toInt ≤ 12) ∧ (∀ k : Nat, k < 12 → 0 ≤ (σ 48 k).toInt ∧ (σ 48 k).toInt ≤ 3) ∧ (∀ k : Nat, k < 12 → 0 ≤ (σ 49 k).toInt ∧ (σ 49 k).toInt ≤ 1) := id hI47
  have w20 : ∀ k : Nat, k < 6 → 0 ≤ (σ 52 k).toInt ∧ (σ 52 k).toInt ≤ 60 := hI50
  have i21 : 1 ≤ (σ 26 6).toInt ∧ (σ 26 6).toInt ≤ 8000 := hI26
  obtain ⟨i22, i23, i24, w25, w26, w27, w28⟩ : (0 ≤ (σ 55 5).toInt) ∧ ((σ 55 5).toInt ≤ (σ 55 4).toInt) ∧ ((σ 55 4).toInt ≤ 40) ∧ (∀ k : Nat, k < 68 → (-200) ≤ (σ 56 k).toInt ∧ (σ 56 k).toInt ≤ 500) ∧ (∀ k : Nat, k < 40 → 0 ≤ (σ 57 k).toInt ∧ (σ 57 k).toInt ≤ 67) ∧ (∀ k : Nat, k < 40 → (-200) ≤ (σ 58 k).toInt ∧ (σ 58 k).toInt ≤ 500) ∧ (∀ k : Nat, k < 40 → (-200) ≤ (σ 59 k).toInt ∧ (σ 59 k).toInt ≤ 500) := id hI101
  obtain ⟨i29, w30, w31⟩ : (0 ≤ (σ 55 6).toInt ∧ (σ 55 6).toInt ≤ 4) ∧ (∀ k : Nat, k < 4 → 0 ≤ (σ 60 k).toInt ∧ (σ 60 k).toInt ≤ 50) ∧ (∀ k : Nat, k < 4 → 0 ≤ (σ 61 k).toInt ∧ (σ 61 k).toInt ≤ 20) := id hI102
  have i32 : 0 ≤ (σ 55 9).toInt ∧ (σ 55 9).toInt ≤ 3 := hI103
  obtain ⟨i33, i34, i35, w36, w37⟩ : (1 ≤ (σ 55 10).toInt ∧ (σ 55 10).toInt ≤ 8) ∧ (1 ≤ (σ 55 12).toInt ∧ (σ 55 12).toInt ≤ 12) ∧ (0 ≤ (σ 55 13).toInt ∧ (σ 55 13).toInt ≤ 999) ∧ (∀ k : Nat, k < 8 → 0 ≤ (σ 62 k).toInt ∧ (σ 62 k).toInt ≤ 3) ∧ (∀ k : Nat, k < 8 → 0 ≤ (σ 67 k).toInt ∧ (σ 67 k).toInt ≤ 3) := id hI104
  obtain ⟨i38, w39⟩ : (0 ≤ (σ 55 15).toInt ∧ (σ 55 15).toInt ≤ 80) ∧ (∀ k : Nat, k < 2 → (-1) ≤ (σ 65 k).toInt ∧ (σ 65 k).toInt ≤ 80) := id hI105
  obtain ⟨i40, w41, w42, w43⟩ : (0 ≤ (σ 55 32).toInt ∧ (σ 55 32).toInt ≤ 20) ∧ (∀ k : Nat, k < 20 → 0 ≤ (σ 70 k).toInt ∧ (σ 70 k).toInt ≤ 6) ∧ (∀ k : Nat, k < 20 → 0 ≤ (σ 71 k).toInt ∧ (σ 71 k).toInt ≤ 8) ∧ (∀ k : Nat, k < 160 → 0 ≤ (σ 72 k).toInt ∧ (σ 72 k).toInt ≤ 3) := id hI106
  obtain ⟨i44, i45, w46⟩ : (0 ≤ (σ 55 47).toInt ∧ (σ 55 47).toInt ≤ 12) ∧ ((σ 55 47).toInt ≤ (σ 55 12).toInt) ∧ (∀ k : Nat, k < 12 → 0 ≤ (σ 80 k).toInt ∧ (σ 80 k).toInt ≤ 3) := id hI107
  have hs_jOk3 : jOk3 σ := hr0.ok hr1.1
  refine lv_aload_n hx hb dL_law_1132 rfl (lv_at hl 2 rfl) ?_
  refine lv_aload_n hx hb dL_law_1133 rfl (lv_at hl 3 rfl) ?_
  refine lv_iload_n hx hb dL_law_1134 rfl (lv_at hl 0 rfl) ?_
  refine lv_iconst (v := 1) hx hb dL_law_1135 (by decide) ?_
  have g47 := jrg (rfl : x0.toInt = x0.toInt)
  refine lv_iadd hx hb dL_law_1136 ?_
  refine lv_topi (fun x48 ex48 => ?_)
  have tx48 : x48.toInt = x0.toInt + 1 := (jadd ex48 rfl jz_1 (by omega) (by omega)).trans (by omega)
  refine va_sld hx hb hX hbl hbA hS (jin tx48 (by omega) (by omega)) dL_law_1137 ?_
  have g49 := jrg (rfl : (xs x48.toNatClampNeg).toInt = (xs x48.toNatClampNeg).toInt)
  refine lv_aload_n hx hb dL_law_1138 rfl (lv_at hl 3 rfl) ?_
  refine lv_iload_n hx hb dL_law_1139 rfl (lv_at hl 0 rfl) ?_
  refine lv_iconst (v := 2) hx hb dL_law_1140 (by decide) ?_
  refine lv_iadd hx hb dL_law_1141 ?_
  refine lv_topi (fun x50 ex50 => ?_)
  have tx50 : x50.toInt = x0.toInt + 2 := (jadd ex50 rfl jz_2 (by omega) (by omega)).trans (by omega)
  refine va_sld hx hb hX hbl hbA hS (jin tx50 (by omega) (by omega)) dL_law_1142 ?_
  have g51 := jrg (rfl : (xs x50.toNatClampNeg).toInt = (xs x50.toNatClampNeg).toInt)
  refine lv_aload_n hx hb dL_law_1143 rfl (lv_at hl 3 rfl) ?_
  refine lv_iload_n hx hb dL_law_1144 rfl (lv_at hl 0 rfl) ?_
  refine lv_iconst (v := 3) hx hb dL_law_1145 (by decide) ?_
  refine lv_iadd hx hb dL_law_1146 ?_
  refine lv_topi (fun x52 ex52 => ?_)
  have tx52 : x52.toInt = x0.toInt + 3 := (jadd ex52 rfl jz_3 (by omega) (by omega)).trans (by omega)
  refine va_sld hx hb hX hbl hbA hS (jin tx52 (by omega) (by omega)) dL_law_1147 ?_
  have g53 := jrg (rfl : (xs x52.toNatClampNeg).toInt = (xs x52.toNatClampNeg).toInt)
  refine lv_i2l (v := (xs x52.toNatClampNeg).toInt64) hx hb dL_law_1148 rfl ?_
  refine lv_bipush (v := 32) hx hb dL_law_1149 (by decide) ?_
  refine lv_lshl hx hb dL_law_1151 rfl ?_
  refine lv_topl (fun lx54 elx54 => ?_)
  refine lv_aload_n hx hb dL_law_1152 rfl (lv_at hl 3 rfl) ?_
  refine lv_iload_n hx hb dL_law_1153 rfl (lv_at hl 0 rfl) ?_
  refine lv_iconst (v := 4) hx hb dL_law_1154 (by decide) ?_
  refine lv_iadd hx hb dL_law_1155 ?_
  refine lv_topi (fun x55 ex55 => ?_)
  have tx55 : x55.toInt = x0.toInt + 4 := (jadd ex55 rfl jz_4 (by omega) (by omega)).trans (by omega)
  refine va_sld hx hb hX hbl hbA hS (jin tx55 (by omega) (by omega)) dL_law_1156 ?_
  have g56 := jrg (rfl : (xs x55.toNatClampNeg).toInt = (xs x55.toNatClampNeg).toInt)
  refine lv_i2l (v := (xs x55.toNatClampNeg).toInt64) hx hb dL_law_1157 rfl ?_
  refine lv_ldc2 (v := 4294967295) hx hb hown (hts _ kw_1_6) dL_law_1158 ?_
  refine lv_land hx hb dL_law_1161 ?_
  refine lv_topl (fun lx57 elx57 => ?_)
  refine lv_lor hx hb dL_law_1162 ?_
  refine lv_topl (fun lx58 elx58 => ?_)
  refine jcallV (As := [.int (xs x48.toNatClampNeg), .int (xs x50.toNatClampNeg), .long lx58]) (rest := []) ⟨hx, hb, hml, hown, hts⟩ hK hP hA hS hZ (c_X11_put l D cI cL ad zz hJ σ τ (xs x48.toNatClampNeg) ((xs x48.toNatClampNeg).toInt) rfl (xs x50.toNatClampNeg) ((xs x50.toNatClampNeg).toInt) rfl lx58 (lx58.toInt) rfl hI50) cw_RL_147 (jc_0 cI cL ad σ τ) rfl ⟨Nat.le_of_ble_eq_true rfl, Nat.le_of_ble_eq_true rfl⟩ rfl rfl rfl hl.1 rfl (Nat.le_of_ble_eq_true rfl) dL_law_1163 ⟨Nat.le_of_ble_eq_true rfl, Nat.le_of_ble_eq_true rfl⟩ (fun r60 σ59 τ59 H locs h59 hP hS => ?_)
  obtain ⟨f64, f61, w62, w63, h59⟩ := h59
  refine lv_pop hx hb dL_law_1166 rfl ?_
  refine lv_aload_n hx hb dL_law_1167 rfl (lv_at hl 1 rfl) ?_
  refine lv_aload_n hx hb dL_law_1168 rfl (lv_at hl 3 rfl) ?_
  refine lv_iload_n hx hb dL_law_1169 rfl (lv_at hl 0 rfl) ?_
  refine lv_iconst (v := 1) hx hb dL_law_1170 (by decide) ?_
  refine lv_iadd hx hb dL_law_1171 ?_
  refine jtopr ex48.symm ?_
  refine va_sld hx hb hX hbl hbA hS (jin tx48 (by omega) (by omega)) dL_law_1172 ?_
  refine lv_aload_n hx hb dL_law_1173 rfl (lv_at hl 3 rfl) ?_
  refine lv_iload_n hx hb dL_law_1174 rfl (lv_at hl 0 rfl) ?_
  refine lv_iconst (v := 2) hx hb dL_law_1175 (by decide) ?_
  refine lv_iadd hx hb dL_law_1176 ?_
  refine jtopr ex50.symm ?_
  refine va_sld hx hb hX hbl hbA hS (jin tx50 (by omega) (by omega)) dL_law_1177 ?_
  refine lv_aload_n hx hb dL_law_1178 rfl (lv_at hl 3 rfl) ?_
  refine lv_iload_n hx hb dL_law_1179 rfl (lv_at hl 0 rfl) ?_
  refine lv_iconst (v := 3) hx hb dL_law_1180 (by decide) ?_
  refine lv_iadd hx hb dL_law_1181 ?_
  refine jtopr ex52.symm ?_
  refine va_sld hx hb hX hbl hbA hS (jin tx52 (by omega) (by omega)) dL_law_1182 ?_
  refine lv_i2l (v := (xs x52.toNatClampNeg).toInt64) hx hb dL_law_1183 rfl ?_
  refine lv_bipush (v := 32) hx hb dL_law_1184 (by decide) ?_
  refine lv_lshl hx hb dL_law_1186 rfl ?_
  refine lv_topl (fun lx65 elx65 => ?_)
  refine lv_aload_n hx hb dL_law_1187 rfl (lv_at hl 3 rfl) ?_
  refine lv_iload_n hx hb dL_law_1188 rfl (lv_at hl 0 rfl) ?_
  refine lv_iconst (v := 4) hx hb dL_law_1189 (by decide) ?_
  refine lv_iadd hx hb dL_law_1190 ?_
  refine jtopr ex55.symm ?_
  refine va_sld hx hb hX hbl hbA hS (jin tx55 (by omega) (by omega)) dL_law_1191 ?_
  refine lv_i2l (v := (xs x55.toNatClampNeg).toInt64) hx hb dL_law_1192 rfl ?_
  refine lv_ldc2 (v := 4294967295) hx hb hown (hts _ kw_1_6) dL_law_1193 ?_
  refine lv_land hx hb dL_law_1196 ?_
  refine lv_topl (fun lx66 elx66 => ?_)
  refine lv_lor hx hb dL_law_1197 ?_
  refine lv_topl (fun lx67 elx67 => ?_)
  have I68 : jI110 σ59 := jI110_fr (f61 86 (by decide)) (f61 87 (by decide)) hI110
  refine jcallV (As := [.int (xs x48.toNatClampNeg), .int (xs x50.toNatClampNeg), .long lx67]) (rest := []) ⟨hx, hb, hml, hown, hts⟩ hK hP hA hS hZ (c_X12_put l D cI cL ad zz hJ σ59 τ59 (xs x48.toNatClampNeg) ((xs x48.toNatClampNeg).toInt) rfl (xs x50.toNatClampNeg) ((xs x50.toNatClampNeg).toInt) rfl lx67 (lx67.toInt) rfl I68) cw_RL_151 (jc_55 cI cL ad σ59 τ59) rfl ⟨Nat.le_of_ble_eq_true rfl, Nat.le_of_ble_eq_true rfl⟩ rfl rfl rfl hl.1 rfl (Nat.le_of_ble_eq_true rfl) dL_law_1198 ⟨Nat.le_of_ble_eq_true rfl, Nat.le_of_ble_eq_true rfl⟩ (fun r70 σ69 τ69 H locs h69 hP hS => ?_)
  obtain ⟨f74, f71, w72, w73, h69⟩ := h69
  refine lv_pop hx hb dL_law_1201 rfl ?_
  refine lv_goto (tgt := 1357) hx hb dL_law_1202 (by decide) ?_
  obtain ⟨x75, ex75⟩ : ∃ y : Int32, y = x0 + 6 := ⟨_, rfl⟩
  have tx75 : x75.toInt = x0.toInt + 6 := (jadd ex75 rfl jz_6 (by omega) (by omega)).trans (by omega)
  refine lv_iinc (v := x75) (lv' := [(3, .int x75), (2, .ref (ad 55)), (1, .ref (ad 0)), (0, .ref b)]) hx hb dL_law_1357 hl (k := 0) rfl (by rw [ex75]; rfl) (by decide) rfl (fun ls hl => ?_)
  refine lv_goto (tgt := 18) hx hb dL_law_1360 (by decide) ?_
  have I76 : jI2 σ69 := jI2_fr ((congrFun (f71 2 (by decide)) 0).trans (congrFun (f61 2 (by decide)) 0)) ((congrFun (f71 2 (by decide)) 1).trans (congrFun (f61 2 (by decide)) 1)) ((congrFun (f71 2 (by decide)) 2).trans (congrFun (f61 2 (by decide)) 2)) ((congrFun (f71 2 (by decide)) 3).trans (congrFun (f61 2 (by decide)) 3)) ((f71 6 (by decide)).trans (f61 6 (by decide))) hI2
  have I77 : jI9 σ69 := jI9_fr ((congrFun (f71 9 (by decide)) 0).trans (congrFun (f61 9 (by decide)) 0)) ((f71 10 (by decide)).trans (f61 10 (by decide))) ((f71 11 (by decide)).trans (f61 11 (by decide))) hI9
  have I78 : jI12 σ69 := jI12_fr ((congrFun (f71 12 (by decide)) 0).trans (congrFun (f61 12 (by decide)) 0)) ((f71 13 (by decide)).trans (f61 13 (by decide))) hI12
  have I79 : jI16 σ69 := jI16_fr ((congrFun (f71 16 (by decide)) 0).trans (congrFun (f61 16 (by decide)) 0)) ((congrFun (f71 16 (by decide)) 1).trans (congrFun (f61 16 (by decide)) 1)) ((congrFun (f71 16 (by decide)) 2).trans (congrFun (f61 16 (by decide)) 2)) ((f71 17 (by decide)).trans (f61 17 (by decide))) hI16
  have I80 : jI18 σ69 := jI18_fr ((congrFun (f71 18 (by decide)) 0).trans (congrFun (f61 18 (by decide)) 0)) ((f71 19 (by decide)).trans (f61 19 (by decide))) hI18
  have I81 : jI22 σ69 := jI22_fr ((congrFun (f71 22 (by decide)) 0).trans (congrFun (f61 22 (by decide)) 0)) ((f71 23 (by decide)).trans (f61 23 (by decide))) hI22
  have I82 : jI31 σ69 := jI31_fr ((congrFun (f71 31 (by decide)) 8).trans (congrFun (f61 31 (by decide)) 8)) ((congrFun (f71 31 (by decide)) 10).trans (congrFun (f61 31 (by decide)) 10)) ((congrFun (f71 31 (by decide)) 11).trans (congrFun (f61 31 (by decide)) 11)) ((f71 33 (by decide)).trans (f61 33 (by decide))) ((f71 35 (by decide)).trans (f61 35 (by decide))) ((f71 36 (by decide)).trans (f61 36 (by decide))) hI31
  have I83 : jI38 σ69 := jI38_fr ((congrFun (f71 38 (by decide)) 0).trans (congrFun (f61 38 (by decide)) 0)) ((congrFun (f71 38 (by decide)) 1).trans (congrFun (f61 38 (by decide)) 1)) ((f71 39 (by decide)).trans (f61 39 (by decide))) hI38
  have I84 : jI43 σ69 := jI43_fr ((congrFun (f71 43 (by decide)) 8).trans (congrFun (f61 43 (by decide)) 8)) hI43
  have I85 : jI47 σ69 := jI47_fr ((congrFun (f71 47 (by decide)) 0).trans (congrFun (f61 47 (by decide)) 0)) ((f71 48 (by decide)).trans (f61 48 (by decide))) ((f71 49 (by decide)).trans (f61 49 (by decide))) hI47
  have I86 : jI50 σ69 := jI50_fr ((f71 52 (by decide)).trans (f61 52 (by decide))) hI50
  have I87 : jI0 σ69 := jI0_fr ((f71 1 (by decide)).trans (f61 1 (by decide))) hI0
  have I88 : jI26 σ69 := jI26_fr ((congrFun (f71 26 (by decide)) 6).trans (congrFun (f61 26 (by decide)) 6)) hI26
  have I89 : jI101 σ69 := jI101_fr ((congrFun (f71 55 (by decide)) 4).trans (congrFun (f61 55 (by decide)) 4)) ((congrFun (f71 55 (by decide)) 5).trans (congrFun (f61 55 (by decide)) 5)) ((f71 56 (by decide)).trans (f61 56 (by decide))) ((f71 57 (by decide)).trans (f61 57 (by decide))) ((f71 58 (by decide)).trans (f61 58 (by decide))) ((f71 59 (by decide)).trans (f61 59 (by decide))) hI101
  have I90 : jI102 σ69 := jI102_fr ((congrFun (f71 55 (by decide)) 6).trans (congrFun (f61 55 (by decide)) 6)) ((f71 60 (by decide)).trans (f61 60 (by decide))) ((f71 61 (by decide)).trans (f61 61 (by decide))) hI102
  have I91 : jI103 σ69 := jI103_fr ((congrFun (f71 55 (by decide)) 9).trans (congrFun (f61 55 (by decide)) 9)) hI103
  have I92 : jI104 σ69 := jI104_fr ((congrFun (f71 55 (by decide)) 10).trans (congrFun (f61 55 (by decide)) 10)) ((congrFun (f71 55 (by decide)) 12).trans (congrFun (f61 55 (by decide)) 12)) ((congrFun (f71 55 (by decide)) 13).trans (congrFun (f61 55 (by decide)) 13)) ((f71 62 (by decide)).trans (f61 62 (by decide))) ((f71 67 (by decide)).trans (f61 67 (by decide))) hI104
  have I93 : jI105 σ69 := jI105_fr ((congrFun (f71 55 (by decide)) 15).trans (congrFun (f61 55 (by decide)) 15)) ((f71 65 (by decide)).trans (f61 65 (by decide))) hI105
  have I94 : jI106 σ69 := jI106_fr ((congrFun (f71 55 (by decide)) 32).trans (congrFun (f61 55 (by decide)) 32)) ((f71 70 (by decide)).trans (f61 70 (by decide))) ((f71 71 (by decide)).trans (f61 71 (by decide))) ((f71 72 (by decide)).trans (f61 72 (by decide))) hI106
  have I95 : jI107 σ69 := jI107_fr ((congrFun (f71 55 (by decide)) 12).trans (congrFun (f61 55 (by decide)) 12)) ((congrFun (f71 55 (by decide)) 47).trans (congrFun (f61 55 (by decide)) 47)) ((f71 80 (by decide)).trans (f61 80 (by decide))) hI107
  have I96 : jI109 σ69 := jI109_fr ((congrFun (f71 55 (by decide)) 50).trans (congrFun (f61 55 (by decide)) 50)) hI109
  have I97 : jI110 σ69 := jI110_fr (f71 86 (by decide)) (f71 87 (by decide)) I68
  have I98 : jI111 σ69 := jI111_fr ((f71 79 (by decide)).trans (f61 79 (by decide))) hI111
  have I99 : jI119 σ69 := jI119_fr ((f71 68 (by decide)).trans (f61 68 (by decide))) hI119
  have p100 : jKept σ69 := jKept.fr ((f71 75 (by decide)).trans (f61 75 (by decide))) ((f71 76 (by decide)).trans (f61 76 (by decide))) ((f71 77 (by decide)).trans (f61 77 (by decide))) hs_jKept
  have p101 : jBook σ69 := jBook.fr ((congrFun (f71 55 (by decide)) 47).trans (congrFun (f61 55 (by decide)) 47)) ((congrFun (f71 55 (by decide)) 10).trans (congrFun (f61 55 (by decide)) 10)) ((f71 81 (by decide)).trans (f61 81 (by decide))) hs_jBook
  have p102 : jNd12 σ69 := jNd12.fr ((congrFun (f71 12 (by decide)) 0).trans (congrFun (f61 12 (by decide)) 0)) ((congrFun (f71 12 (by decide)) 1).trans (congrFun (f61 12 (by decide)) 1)) ((f71 13 (by decide)).trans (f61 13 (by decide))) hs_jNd12
  have p103 : jN67 σ69 := jN67.fr ((f71 24 (by decide)).trans (f61 24 (by decide))) hs_jN67
  have p104 : jBl σ69 := jBl.fr ((congrFun (f71 22 (by decide)) 0).trans (congrFun (f61 22 (by decide)) 0)) ((congrFun (f71 22 (by decide)) 1).trans (congrFun (f61 22 (by decide)) 1)) ((f71 23 (by decide)).trans (f61 23 (by decide))) ((congrFun (f71 26 (by decide)) 6).trans (congrFun (f61 26 (by decide)) 6)) ((congrFun (f71 26 (by decide)) 7).trans (congrFun (f61 26 (by decide)) 7)) ((f71 29 (by decide)).trans (f61 29 (by decide))) ((f71 30 (by decide)).trans (f61 30 (by decide))) hs_jBl
  have p105 : jKb σ69 := jKb.fr ((congrFun (f71 31 (by decide)) 8).trans (congrFun (f61 31 (by decide)) 8)) ((congrFun (f71 31 (by decide)) 11).trans (congrFun (f61 31 (by decide)) 11)) ((f71 32 (by decide)).trans (f61 32 (by decide))) hs_jKb
  have p106 : jTR σ69 := jTR.fr ((f71 64 (by decide)).trans (f61 64 (by decide))) ((f71 65 (by decide)).trans (f61 65 (by decide))) hs_jTR
  have p107 : jKh σ69 := jKh.fr ((congrFun (f71 31 (by decide)) 8).trans (congrFun (f61 31 (by decide)) 8)) ((f71 32 (by decide)).trans (f61 32 (by decide))) ((f71 36 (by decide)).trans (f61 36 (by decide))) ((f71 37 (by decide)).trans (f61 37 (by decide))) hs_jKh
  have p108 : jKg σ69 := jKg.fr ((congrFun (f71 31 (by decide)) 8).trans (congrFun (f61 31 (by decide)) 8)) ((congrFun (f71 31 (by decide)) 9).trans (congrFun (f61 31 (by decide)) 9)) ((congrFun (f71 31 (by decide)) 11).trans (congrFun (f61 31 (by decide)) 11)) ((congrFun (f71 31 (by decide)) 12).trans (congrFun (f61 31 (by decide)) 12)) ((f71 32 (by decide)).trans (f61 32 (by decide))) ((f71 33 (by decide)).trans (f61 33 (by decide))) hs_jKg
  have z109 : (σ69 2 0).toInt = (σ 2 0).toInt := (congrArg Int32.toInt (show σ69 2 0 = (σ 2 0) from ((congrFun (f71 2 (by decide)) 0).trans (congrFun (f61 2 (by decide)) 0))))
  have z110 : (σ69 55 6).toInt = (σ 55 6).toInt := (congrArg Int32.toInt (show σ69 55 6 = (σ 55 6) from ((congrFun (f71 55 (by decide)) 6).trans (congrFun (f61 55 (by decide)) 6))))
  have z111 : (σ69 2 2).toInt = (σ 2 2).toInt := (congrArg Int32.toInt (show σ69 2 2 = (σ 2 2) from ((congrFun (f71 2 (by decide)) 2).trans (congrFun (f61 2 (by decide)) 2))))
  have z112 : (σ69 55 5).toInt = (σ 55 5).toInt := (congrArg Int32.toInt (show σ69 55 5 = (σ 55 5) from ((congrFun (f71 55 (by decide)) 5).trans (congrFun (f61 55 (by decide)) 5))))
  have z113 : (σ69 2 3).toInt = (σ 2 3).toInt := (congrArg Int32.toInt (show σ69 2 3 = (σ 2 3) from ((congrFun (f71 2 (by decide)) 3).trans (congrFun (f61 2 (by decide)) 3))))
  have z114 : (σ69 55 4).toInt = (σ 55 4).toInt := (congrArg Int32.toInt (show σ69 55 4 = (σ 55 4) from ((congrFun (f71 55 (by decide)) 4).trans (congrFun (f61 55 (by decide)) 4))))
  have z115 : (σ69 9 0).toInt = (σ 9 0).toInt := (congrArg Int32.toInt (show σ69 9 0 = (σ 9 0) from ((congrFun (f71 9 (by decide)) 0).trans (congrFun (f61 9 (by decide)) 0))))
  have z116 : (σ69 55 15).toInt = (σ 55 15).toInt := (congrArg Int32.toInt (show σ69 55 15 = (σ 55 15) from ((congrFun (f71 55 (by decide)) 15).trans (congrFun (f61 55 (by decide)) 15))))
  have z117 : (σ69 16 0).toInt = (σ 16 0).toInt := (congrArg Int32.toInt (show σ69 16 0 = (σ 16 0) from ((congrFun (f71 16 (by decide)) 0).trans (congrFun (f61 16 (by decide)) 0))))
  have z118 : (σ69 55 10).toInt = (σ 55 10).toInt := (congrArg Int32.toInt (show σ69 55 10 = (σ 55 10) from ((congrFun (f71 55 (by decide)) 10).trans (congrFun (f61 55 (by decide)) 10))))
  have z119 : (σ69 16 1).toInt = (σ 16 1).toInt := (congrArg Int32.toInt (show σ69 16 1 = (σ 16 1) from ((congrFun (f71 16 (by decide)) 1).trans (congrFun (f61 16 (by decide)) 1))))
  have z120 : (σ69 55 12).toInt = (σ 55 12).toInt := (congrArg Int32.toInt (show σ69 55 12 = (σ 55 12) from ((congrFun (f71 55 (by decide)) 12).trans (congrFun (f61 55 (by decide)) 12))))
  have z121 : (σ69 16 2).toInt = (σ 16 2).toInt := (congrArg Int32.toInt (show σ69 16 2 = (σ 16 2) from ((congrFun (f71 16 (by decide)) 2).trans (congrFun (f61 16 (by decide)) 2))))
  have z122 : (σ69 55 13).toInt = (σ 55 13).toInt := (congrArg Int32.toInt (show σ69 55 13 = (σ 55 13) from ((congrFun (f71 55 (by decide)) 13).trans (congrFun (f61 55 (by decide)) 13))))
  have z123 : (σ69 38 0).toInt = (σ 38 0).toInt := (congrArg Int32.toInt (show σ69 38 0 = (σ 38 0) from ((congrFun (f71 38 (by decide)) 0).trans (congrFun (f61 38 (by decide)) 0))))
  have z124 : (σ69 55 32).toInt = (σ 55 32).toInt := (congrArg Int32.toInt (show σ69 55 32 = (σ 55 32) from ((congrFun (f71 55 (by decide)) 32).trans (congrFun (f61 55 (by decide)) 32))))
  have z125 : (σ69 38 1).toInt = (σ 38 1).toInt := (congrArg Int32.toInt (show σ69 38 1 = (σ 38 1) from ((congrFun (f71 38 (by decide)) 1).trans (congrFun (f61 38 (by decide)) 1))))
  have z126 : (σ69 55 55).toInt = (σ 55 55).toInt := (congrArg Int32.toInt (show σ69 55 55 = (σ 55 55) from ((congrFun (f71 55 (by decide)) 55).trans (congrFun (f61 55 (by decide)) 55))))
  have z127 : (σ69 47 0).toInt = (σ 47 0).toInt := (congrArg Int32.toInt (show σ69 47 0 = (σ 47 0) from ((congrFun (f71 47 (by decide)) 0).trans (congrFun (f61 47 (by decide)) 0))))
  have z128 : (σ69 55 47).toInt = (σ 55 47).toInt := (congrArg Int32.toInt (show σ69 55 47 = (σ 55 47) from ((congrFun (f71 55 (by decide)) 47).trans (congrFun (f61 55 (by decide)) 47))))
  have z129 : (σ69 55 30).toInt = (σ 55 30).toInt := (congrArg Int32.toInt (show σ69 55 30 = (σ 55 30) from ((congrFun (f71 55 (by decide)) 30).trans (congrFun (f61 55 (by decide)) 30))))
  have z130 : (σ69 55 31).toInt = (σ 55 31).toInt := (congrArg Int32.toInt (show σ69 55 31 = (σ 55 31) from ((congrFun (f71 55 (by decide)) 31).trans (congrFun (f61 55 (by decide)) 31))))
  have z131 : (σ69 2 1).toInt = (σ 2 1).toInt := (congrArg Int32.toInt (show σ69 2 1 = (σ 2 1) from ((congrFun (f71 2 (by decide)) 1).trans (congrFun (f61 2 (by decide)) 1))))
  have z132 : (σ69 55 9).toInt = (σ 55 9).toInt := (congrArg Int32.toInt (show σ69 55 9 = (σ 55 9) from ((congrFun (f71 55 (by decide)) 9).trans (congrFun (f61 55 (by decide)) 9))))
  have z133 : (σ69 26 6).toInt = (σ 26 6).toInt := (congrArg Int32.toInt (show σ69 26 6 = (σ 26 6) from ((congrFun (f71 26 (by decide)) 6).trans (congrFun (f61 26 (by decide)) 6))))
  rw [show τ59 88 = τ 88 from (f64 88 (by decide))] at w73
  have s135 := w72
  rw [show σ59 86 = σ 86 from (f61 86 (by decide)), show σ59 87 = σ 87 from (f61 87 (by decide))] at s135
  rw [show σ59 86 = σ 86 from (f61 86 (by decide))] at w73
  have v136 : lx67 = lx58 := by rw [elx67, elx65, elx66, elx58, elx54, elx57]
  rw [v136] at w73
  have p134 := hr5.put w63 w73 (w62.trans (hr4.rf.trans s135.symm)) rfl (fun z => by rw [(hr4.cut w62 z).1])
  have z137 : (σ69 18 0).toInt = (σ 18 0).toInt := (congrArg Int32.toInt (show σ69 18 0 = (σ 18 0) from ((congrFun (f71 18 (by decide)) 0).trans (congrFun (f61 18 (by decide)) 0))))
  have z138 : (σ69 22 0).toInt = (σ 22 0).toInt := (congrArg Int32.toInt (show σ69 22 0 = (σ 22 0) from ((congrFun (f71 22 (by decide)) 0).trans (congrFun (f61 22 (by decide)) 0))))
  exact ih x75 σ69 τ69 _ _ ls (by have h9 := tx75; omega) ⟨I76, I77, I78, I79, I80, I81, I82, I83, I84, I85, I86, I87, I88, I89, I90, I91, I92, I93, I94, I95, I96, I97, I98, I99, p100, p101, p102, p103, p104, p105, p106, p107, p108, (by omega), (by omega), (by omega), (by omega), (by omega), (by omega), (by omega), (by omega), (by omega), (by omega), (by omega), (by omega), (by omega), (by have h9 := tx75; omega), (show jNumP (σ69 3) (σ69 56) (σ69 6) (σ69 57) (σ69 7) (σ69 58) (σ69 8) (σ69 59) (σ69 55 6).toInt (σ69 55 4).toInt by rw [show σ69 3 = σ 3 from ((f71 3 (by decide)).trans (f61 3 (by decide))), show σ69 56 = σ 56 from ((f71 56 (by decide)).trans (f61 56 (by decide))), show σ69 6 = σ 6 from ((f71 6 (by decide)).trans (f61 6 (by decide))), show σ69 57 = σ 57 from ((f71 57 (by decide)).trans (f61 57 (by decide))), show σ69 7 = σ 7 from ((f71 7 (by decide)).trans (f61 7 (by decide))), show σ69 58 = σ 58 from ((f71 58 (by decide)).trans (f61 58 (by decide))), show σ69 8 = σ 8 from ((f71 8 (by decide)).trans (f61 8 (by decide))), show σ69 59 = σ 59 from ((f71 59 (by decide)).trans (f61 59 (by decide))), show (σ69 55 6).toInt = (σ 55 6).toInt from by omega, show (σ69 55 4).toInt = (σ 55 4).toInt from by omega]; exact hr0), (show jOvP (σ69 56) (σ69 57) (σ69 58) (σ69 59) (σ69 55 4).toInt by rw [show σ69 56 = σ 56 from ((f71 56 (by decide)).trans (f61 56 (by decide))), show σ69 57 = σ 57 from ((f71 57 (by decide)).trans (f61 57 (by decide))), show σ69 58 = σ 58 from ((f71 58 (by decide)).trans (f61 58 (by decide))), show σ69 59 = σ 59 from ((f71 59 (by decide)).trans (f61 59 (by decide))), show (σ69 55 4).toInt = (σ 55 4).toInt from by omega]; exact hr1), (show jTp (σ69 10) (σ69 63) (σ69 55 15).toInt by rw [show σ69 10 = σ 10 from ((f71 10 (by decide)).trans (f61 10 (by decide))), show σ69 63 = σ 63 from ((f71 63 (by decide)).trans (f61 63 (by decide)))]; exact hr2.le (by omega)), (show jSo (σ69 17) (σ69 62) (σ69 16 0).toInt by rw [show σ69 17 = σ 17 from ((f71 17 (by decide)).trans (f61 17 (by decide))), show σ69 62 = σ 62 from ((f71 62 (by decide)).trans (f61 62 (by decide))), show (σ69 16 0).toInt = (σ 16 0).toInt from by omega]; exact hr3), (show jShP (σ69 51) (σ69 52) (σ69 53) (σ69 86) (σ69 87) (σ69 55 32).toInt by rw [show σ69 51 = σ 51 from ((f71 51 (by decide)).trans (f61 51 (by decide))), show σ69 52 = σ 52 from ((f71 52 (by decide)).trans (f61 52 (by decide))), show σ69 53 = σ 53 from ((f71 53 (by decide)).trans (f61 53 (by decide))), show σ69 86 = σ 86 from ((f71 86 (by decide)).trans (f61 86 (by decide))), show σ69 87 = σ 87 from ((f71 87 (by decide)).trans (f61 87 (by decide)))]; exact (hr4.up (by omega) (by omega))), (show jEl (σ69 51) (σ69 52) (τ69 54) (τ69 88) by rw [show σ69 51 = σ 51 from ((f71 51 (by decide)).trans (f61 51 (by decide))), show σ69 52 = σ 52 from ((f71 52 (by decide)).trans (f61 52 (by decide))), show τ69 54 = τ59 54 from (f74 54 (by decide))]; exact p134), (show jByP (σ69 51) (σ69 52) (τ69 54) by rw [show σ69 51 = σ 51 from ((f71 51 (by decide)).trans (f61 51 (by decide))), show σ69 52 = σ 52 from ((f71 52 (by decide)).trans (f61 52 (by decide))), show τ69 54 = τ59 54 from (f74 54 (by decide))]; exact (hr6.put (d := (xs x48.toNatClampNeg).toInt) (i := (xs x50.toNatClampNeg).toInt) w20 w63 rfl (fun z => by
    have w := hr4.cut w62 z
    rw [jnc (rfl : (xs x48.toNatClampNeg).toInt = (xs x48.toNatClampNeg).toInt)] at w
    exact ⟨w.2.1, w.2.2.1, w.2.2.2.1, by rw [jnc (rfl : (xs x48.toNatClampNeg).toInt = (xs x48.toNatClampNeg).toInt)]⟩))), (show jBk (σ69 48) (σ69 80) (σ69 49) (σ69 81) (σ69 55 47).toInt by rw [show σ69 48 = σ 48 from ((f71 48 (by decide)).trans (f61 48 (by decide))), show σ69 49 = σ 49 from ((f71 49 (by decide)).trans (f61 49 (by decide))), show σ69 80 = σ 80 from ((f71 80 (by decide)).trans (f61 80 (by decide))), show σ69 81 = σ 81 from ((f71 81 (by decide)).trans (f61 81 (by decide))), show (σ69 55 47).toInt = (σ 55 47).toInt from by omega]; exact hr7), (show jKd (σ69 39) (σ69 70) (σ69 55 32).toInt by rw [show σ69 39 = σ 39 from ((f71 39 (by decide)).trans (f61 39 (by decide))), show σ69 70 = σ 70 from ((f71 70 (by decide)).trans (f61 70 (by decide))), show (σ69 55 32).toInt = (σ 55 32).toInt from by omega]; exact hr8), (show jTt (σ69 42) (σ69 85) (σ69 55 55).toInt by rw [show σ69 42 = σ 42 from ((f71 42 (by decide)).trans (f61 42 (by decide))), show σ69 85 = σ 85 from ((f71 85 (by decide)).trans (f61 85 (by decide))), show (σ69 55 55).toInt = (σ 55 55).toInt from by omega]; exact hr9), (fun k hk => by rw [show σ69 4 = σ 4 from ((f71 4 (by decide)).trans (f61 4 (by decide))), show σ69 5 = σ 5 from ((f71 5 (by decide)).trans (f61 5 (by decide))), show σ69 60 = σ 60 from ((f71 60 (by decide)).trans (f61 60 (by decide))), show σ69 61 = σ 61 from ((f71 61 (by decide)).trans (f61 61 (by decide)))]; exact hr10 k (by omega)), (fun nm => by rw [show σ69 19 = σ 19 from ((f71 19 (by decide)).trans (f61 19 (by decide))), show σ69 64 = σ 64 from ((f71 64 (by decide)).trans (f61 64 (by decide))), show σ69 65 = σ 65 from ((f71 65 (by decide)).trans (f61 65 (by decide))), show (σ69 18 0).toInt = (σ 18 0).toInt from by omega]; exact hr11 nm), (fun nm => by rw [show σ69 23 = σ 23 from ((f71 23 (by decide)).trans (f61 23 (by decide))), show σ69 64 = σ 64 from ((f71 64 (by decide)).trans (f61 64 (by decide))), show σ69 65 = σ 65 from ((f71 65 (by decide)).trans (f61 65 (by decide))), show (σ69 22 0).toInt = (σ 22 0).toInt from by omega]; exact hr12 nm)⟩ hP hS (lv_sub hl [0, 1, 2, 3] rfl)
set_option maxHeartbeats 4000000 in
set_option maxRecDepth 100000 in
theorem law_case_33 {p : Program} {e : Env} {s : State} {m : MethodId} {below : List Frame} {meth : Method} {c : Code} (l : Launch) {b L : Nat} {xs : Nat → Int32} {D : va_G} {cI cL : ClassId} {ad zz : Nat → Nat} (C0 : lw_At p s m meth c b L xs) (hJ : jD ad) (hA : ∀ q, jA ad q → s.heap.size ≤ q) (hK : jK D cI cL s) (hZ : jZ zz (fun q : Nat => s.heap.size ≤ q) s s.heap) {x0 : Int32} (hx0 : 0 ≤ x0.toInt) (hxL : x0.toInt + 6 ≤ (L : Int)) (hL : L ≤ 384) {σ : Nat → Nat → Int32} {τ : Nat → Nat → Int64} {H : Heap} {locs : List Loc} (hS : va_S (fun q : Nat => s.heap.size ≤ q) s.heap H locs) {ls : Array Slot} (hAll : jAll x0.toInt σ τ) (hP : jH D cI cL ad σ τ H) (hl : lv_has ls 4 [(3, .int x0), (2, .ref (ad 55)), (1, .ref (ad 0)), (0, .ref b)]) (ih : ∀ (x1 : Int32) (σ : Nat → Nat → Int32) (τ : Nat → Nat → Int64) (H : Heap) (locs : List Loc) (ls : Array Slot), x1.toInt = x0.toInt + 6 → jAll x1.toInt σ τ → jH D cI cL ad σ τ H → va_S (fun q : Nat => s.heap.size ≤ q) s.heap H locs → lv_has ls 4 [(3, .int x1), (2, .ref (ad 55)), (1, .ref (ad 0)), (0, .ref b)] → W p l e room_1 s m #[Value.ref b] below meth c H locs 90 348600 (lw_Z below #[Value.ref b] s) (F0 m 18 ls [])) : W p l e room_1 s m #[Value.ref b] below meth c H locs 90 348600 (lw_Z below #[Value.ref b] s) (F0 m 1205 ls []) := by
  obtain ⟨hx, hb, hr, hml, hown, hts0, hX, hbl, hlocks, hgv⟩ := C0
  have hts : ∀ w ∈ wsL_law, w.before #[Value.ref b] s = true := fun w h => hts0 w (wsL_law_in w h)
  have hbA : ¬ (fun q : Nat => s.heap.size ≤ q) b := Nat.not_le.mpr hbl
  have hown : s.vm.findClass RL = some m.cls := hown
  obtain ⟨hI2, hI9, hI12, hI16, hI18, hI22, hI31, hI38, hI43, hI47, hI50, hI0, hI26, hI101, hI102, hI103, hI104, hI105, hI106, hI107, hI109, hI110, hI111, hI119, hs_jKept, hs_jBook, hs_jNd12, hs_jN67, hs_jBl, hs_jKb, hs_jTR, hs_jKh, hs_jKg, ht0, ht1, ht2, ht3, ht4, ht5, ht6, ht7, ht8, ht9, ht10, ht11, ht12, ht13, hr0, hr1, hr2, hr3, hr4, hr5, hr6, hr7, hr8, hr9, hr10, hr11, hr12⟩ := hAll
  have hL9 : (L : Int) ≤ 384 := by omega
  obtain ⟨i1, i2, i3, i4, i5, w6⟩ : (0 ≤ (σ 2 0).toInt ∧ (σ 2 0).toInt ≤ 4) ∧ (0 ≤ (σ 2 1).toInt ∧ (σ 2 1).toInt ≤ 3) ∧ (0 ≤ (σ 2 2).toInt) ∧ (0 ≤ (σ 2 3).toInt) ∧ ((σ 2 2).toInt + (σ 2 3).toInt ≤ 40) ∧ (∀ k : Nat, k < 40 → 0 ≤ (σ 6 k).toInt ∧ (σ 6 k).toInt ≤ 67) := id hI2
  obtain ⟨i7, w8, w9⟩ : (0 ≤ (σ 9 0).toInt ∧ (σ 9 0).toInt ≤ 80) ∧ (∀ k : Nat, k < 80 → 0 ≤ (σ 10 k).toInt ∧ (σ 10 k).toInt ≤ 255) ∧ (∀ k : Nat, k < 8 → 0 ≤ (σ 11 k).toInt ∧ (σ 11 k).toInt ≤ 3) := id hI9
  obtain ⟨i10, i11, i12, w13⟩ : (1 ≤ (σ 16 0).toInt ∧ (σ 16 0).toInt ≤ 8) ∧ (1 ≤ (σ 16 1).toInt ∧ (σ 16 1).toInt ≤ 12) ∧ (0 ≤ (σ 16 2).toInt ∧ (σ 16 2).toInt ≤ 999) ∧ (∀ k : Nat, k < 8 → 0 ≤ (σ 17 k).toInt ∧ (σ 17 k).toInt ≤ 3) := id hI16
  obtain ⟨i14, i15, w16⟩ : (0 ≤ (σ 38 0).toInt ∧ (σ 38 0).toInt ≤ 20) ∧ (0 ≤ (σ 38 1).toInt ∧ (σ 38 1).toInt ≤ 1000) ∧ (∀ k : Nat, k < 20 → 0 ≤ (σ 39 k).toInt ∧ (σ 39 k).toInt ≤ 6) := id hI38
  obtain ⟨i17, w18, w19⟩ : (0 ≤ (σ 47 0).toInt ∧ (σ 47 0).toInt ≤ 12) ∧ (∀ k : Nat, k < 12 → 0 ≤ (σ 48 k).toInt ∧ (σ 48 k).toInt ≤ 3) ∧ (∀ k : Nat, k < 12 → 0 ≤ (σ 49 k).toInt ∧ (σ 49 k).toInt ≤ 1) := id hI47
  have w20 : ∀ k : Nat, k < 6 → 0 ≤ (σ 52 k).toInt ∧ (σ 52 k).toInt ≤ 60 := hI50
  have i21 : 1 ≤ (σ 26 6).toInt ∧ (σ 26 6).toInt ≤ 8000 := hI26
  obtain ⟨i22, i23, i24, w25, w26, w27, w28⟩ : (0 ≤ (σ 55 5).toInt) ∧ ((σ 55 5).toInt ≤ (σ 55 4).toInt) ∧ ((σ 55 4).toInt ≤ 40) ∧ (∀ k : Nat, k < 68 → (-200) ≤ (σ 56 k).toInt ∧ (σ 56 k).toInt ≤ 500) ∧ (∀ k : Nat, k < 40 → 0 ≤ (σ 57 k).toInt ∧ (σ 57 k).toInt ≤ 67) ∧ (∀ k : Nat, k < 40 → (-200) ≤ (σ 58 k).toInt ∧ (σ 58 k).toInt ≤ 500) ∧ (∀ k : Nat, k < 40 → (-200) ≤ (σ 59 k).toInt ∧ (σ 59 k).toInt ≤ 500) := id hI101
  obtain ⟨i29, w30, w31⟩ : (0 ≤ (σ 55 6).toInt ∧ (σ 55 6).toInt ≤ 4) ∧ (∀ k : Nat, k < 4 → 0 ≤ (σ 60 k).toInt ∧ (σ 60 k).toInt ≤ 50) ∧ (∀ k : Nat, k < 4 → 0 ≤ (σ 61 k).toInt ∧ (σ 61 k).toInt ≤ 20) := id hI102
  have i32 : 0 ≤ (σ 55 9).toInt ∧ (σ 55 9).toInt ≤ 3 := hI103
  obtain ⟨i33, i34, i35, w36, w37⟩ : (1 ≤ (σ 55 10).toInt ∧ (σ 55 10).toInt ≤ 8) ∧ (1 ≤ (σ 55 12).toInt ∧ (σ 55 12).toInt ≤ 12) ∧ (0 ≤ (σ 55 13).toInt ∧ (σ 55 13).toInt ≤ 999) ∧ (∀ k : Nat, k < 8 → 0 ≤ (σ 62 k).toInt ∧ (σ 62 k).toInt ≤ 3) ∧ (∀ k : Nat, k < 8 → 0 ≤ (σ 67 k).toInt ∧ (σ 67 k).toInt ≤ 3) := id hI104
  obtain ⟨i38, w39⟩ : (0 ≤ (σ 55 15).toInt ∧ (σ 55 15).toInt ≤ 80) ∧ (∀ k : Nat, k < 2 → (-1) ≤ (σ 65 k).toInt ∧ (σ 65 k).toInt ≤ 80) := id hI105
  obtain ⟨i40, w41, w42, w43⟩ : (0 ≤ (σ 55 32).toInt ∧ (σ 55 32).toInt ≤ 20) ∧ (∀ k : Nat, k < 20 → 0 ≤ (σ 70 k).toInt ∧ (σ 70 k).toInt ≤ 6) ∧ (∀ k : Nat, k < 20 → 0 ≤ (σ 71 k).toInt ∧ (σ 71 k).toInt ≤ 8) ∧ (∀ k : Nat, k < 160 → 0 ≤ (σ 72 k).toInt ∧ (σ 72 k).toInt ≤ 3) := id hI106
  obtain ⟨i44, i45, w46⟩ : (0 ≤ (σ 55 47).toInt ∧ (σ 55 47).toInt ≤ 12) ∧ ((σ 55 47).toInt ≤ (σ 55 12).toInt) ∧ (∀ k : Nat, k < 12 → 0 ≤ (σ 80 k).toInt ∧ (σ 80 k).toInt ≤ 3) := id hI107
  have hs_jOk3 : jOk3 σ := hr0.ok hr1.1
  refine lv_aload_n hx hb dL_law_1205 rfl (lv_at hl 2 rfl) ?_
  refine lv_aload_n hx hb dL_law_1206 rfl (lv_at hl 3 rfl) ?_
  refine lv_iload_n hx hb dL_law_1207 rfl (lv_at hl 0 rfl) ?_
  refine lv_iconst (v := 1) hx hb dL_law_1208 (by decide) ?_
  have g47 := jrg (rfl : x0.toInt = x0.toInt)
  refine lv_iadd hx hb dL_law_1209 ?_
  refine lv_topi (fun x48 ex48 => ?_)
  have tx48 : x48.toInt = x0.toInt + 1 := (jadd ex48 rfl jz_1 (by omega) (by omega)).trans (by omega)
  refine va_sld hx hb hX hbl hbA hS (jin tx48 (by omega) (by omega)) dL_law_1210 ?_
  have g49 := jrg (rfl : (xs x48.toNatClampNeg).toInt = (xs x48.toNatClampNeg).toInt)
  refine lv_aload_n hx hb dL_law_1211 rfl (lv_at hl 3 rfl) ?_
  refine lv_iload_n hx hb dL_law_1212 rfl (lv_at hl 0 rfl) ?_
  refine lv_iconst (v := 2) hx hb dL_law_1213 (by decide) ?_
  refine lv_iadd hx hb dL_law_1214 ?_
  refine lv_topi (fun x50 ex50 => ?_)
  have tx50 : x50.toInt = x0.toInt + 2 := (jadd ex50 rfl jz_2 (by omega) (by omega)).trans (by omega)
  refine va_sld hx hb hX hbl hbA hS (jin tx50 (by omega) (by omega)) dL_law_1215 ?_
  have g51 := jrg (rfl : (xs x50.toNatClampNeg).toInt = (xs x50.toNatClampNeg).toInt)
  refine jcallVl (As := [.int (xs x48.toNatClampNeg), .int (xs x50.toNatClampNeg)]) (rest := []) ⟨hx, hb, hml, hown, hts⟩ hK hP hA hS hZ (c_X11_element l D cI cL ad zz hJ σ τ (xs x48.toNatClampNeg) ((xs x48.toNatClampNeg).toInt) rfl (xs x50.toNatClampNeg) ((xs x50.toNatClampNeg).toInt) rfl hI50) cw_RL_152 (jc_0 cI cL ad σ τ) rfl ⟨Nat.le_of_ble_eq_true rfl, Nat.le_of_ble_eq_true rfl⟩ rfl rfl rfl hl.1 rfl (Nat.le_of_ble_eq_true rfl) dL_law_1216 ⟨Nat.le_of_ble_eq_true rfl, Nat.le_of_ble_eq_true rfl⟩ (fun lxr53 σ52 τ52 H locs h52 hP hS => ?_)
  obtain ⟨⟨rfl, rfl⟩, w54, h52⟩ := h52
  refine lv_pop2_2 hx hb dL_law_1219 rfl ?_
  refine lv_aload_n hx hb dL_law_1220 rfl (lv_at hl 1 rfl) ?_
  refine lv_aload_n hx hb dL_law_1221 rfl (lv_at hl 3 rfl) ?_
  refine lv_iload_n hx hb dL_law_1222 rfl (lv_at hl 0 rfl) ?_
  refine lv_iconst (v := 1) hx hb dL_law_1223 (by decide) ?_
  refine lv_iadd hx hb dL_law_1224 ?_
  refine jtopr ex48.symm ?_
  refine va_sld hx hb hX hbl hbA hS (jin tx48 (by omega) (by omega)) dL_law_1225 ?_
  refine lv_aload_n hx hb dL_law_1226 rfl (lv_at hl 3 rfl) ?_
  refine lv_iload_n hx hb dL_law_1227 rfl (lv_at hl 0 rfl) ?_
  refine lv_iconst (v := 2) hx hb dL_law_1228 (by decide) ?_
  refine lv_iadd hx hb dL_law_1229 ?_
  refine jtopr ex50.symm ?_
  refine va_sld hx hb hX hbl hbA hS (jin tx50 (by omega) (by omega)) dL_law_1230 ?_
  refine jcallVl (As := [.int (xs x48.toNatClampNeg), .int (xs x50.toNatClampNeg)]) (rest := []) ⟨hx, hb, hml, hown, hts⟩ hK hP hA hS hZ (c_X12_element l D cI cL ad zz hJ σ τ (xs x48.toNatClampNeg) ((xs x48.toNatClampNeg).toInt) rfl (xs x50.toNatClampNeg) ((xs x50.toNatClampNeg).toInt) rfl hI110) cw_RL_156 (jc_55 cI cL ad σ τ) rfl ⟨Nat.le_of_ble_eq_true rfl, Nat.le_of_ble_eq_true rfl⟩ rfl rfl rfl hl.1 rfl (Nat.le_of_ble_eq_true rfl) dL_law_1231 ⟨Nat.le_of_ble_eq_true rfl, Nat.le_of_ble_eq_true rfl⟩ (fun lxr56 σ55 τ55 H locs h55 hP hS => ?_)
  obtain ⟨⟨rfl, rfl⟩, w57, h55⟩ := h55
  refine lv_pop2_2 hx hb dL_law_1234 rfl ?_
  refine lv_goto (tgt := 1357) hx hb dL_law_1235 (by decide) ?_
  obtain ⟨x58, ex58⟩ : ∃ y : Int32, y = x0 + 6 := ⟨_, rfl⟩
  have tx58 : x58.toInt = x0.toInt + 6 := (jadd ex58 rfl jz_6 (by omega) (by omega)).trans (by omega)
  refine lv_iinc (v := x58) (lv' := [(3, .int x58), (2, .ref (ad 55)), (1, .ref (ad 0)), (0, .ref b)]) hx hb dL_law_1357 hl (k := 0) rfl (by rw [ex58]; rfl) (by decide) rfl (fun ls hl => ?_)
  refine lv_goto (tgt := 18) hx hb dL_law_1360 (by decide) ?_
  exact ih x58 σ τ _ _ ls (by have h9 := tx58; omega) ⟨hI2, hI9, hI12, hI16, hI18, hI22, hI31, hI38, hI43, hI47, hI50, hI0, hI26, hI101, hI102, hI103, hI104, hI105, hI106, hI107, hI109, hI110, hI111, hI119, hs_jKept, hs_jBook, hs_jNd12, hs_jN67, hs_jBl, hs_jKb, hs_jTR, hs_jKh, hs_jKg, (by omega), (by omega), (by omega), (by omega), (by omega), (by omega), (by omega), (by omega), (by omega), (by omega), (by omega), (by omega), (by omega), (by have h9 := tx58; omega), hr0, hr1, hr2, hr3, hr4, hr5, hr6, hr7, hr8, hr9, hr10, hr11, hr12⟩ hP hS (lv_sub hl [0, 1, 2, 3] rfl)
set_option maxHeartbeats 4000000 in
set_option maxRecDepth 100000 in
theorem law_case_34 {p : Program} {e : Env} {s : State} {m : MethodId} {below : List Frame} {meth : Method} {c : Code} (l : Launch) {b L : Nat} {xs : Nat → Int32} {D : va_G} {cI cL : ClassId} {ad zz : Nat → Nat} (C0 : lw_At p s m meth c b L xs) (hJ : jD ad) (hA : ∀ q, jA ad q → s.heap.size ≤ q) (hK : jK D cI cL s) (hZ : jZ zz (fun q : Nat => s.heap.size ≤ q) s s.heap) {x0 : Int32} (hx0 : 0 ≤ x0.toInt) (hxL : x0.toInt + 6 ≤ (L : Int)) (hL : L ≤ 384) {σ : Nat → Nat → Int32} {τ : Nat → Nat → Int64} {H : Heap} {locs : List Loc} (hS : va_S (fun q : Nat => s.heap.size ≤ q) s.heap H locs) {ls : Array Slot} (hAll : jAll x0.toInt σ τ) (hP : jH D cI cL ad σ τ H) (hl : lv_has ls 4 [(3, .int x0), (2, .ref (ad 55)), (1, .ref (ad 0)), (0, .ref b)]) (ih : ∀ (x1 : Int32) (σ : Nat → Nat → Int32) (τ : Nat → Nat → Int64) (H : Heap) (locs : List Loc) (ls : Array Slot), x1.toInt = x0.toInt + 6 → jAll x1.toInt σ τ → jH D cI cL ad σ τ H → va_S (fun q : Nat => s.heap.size ≤ q) s.heap H locs → lv_has ls 4 [(3, .int x1), (2, .ref (ad 55)), (1, .ref (ad 0)), (0, .ref b)] → W p l e room_1 s m #[Value.ref b] below meth c H locs 90 348600 (lw_Z below #[Value.ref b] s) (F0 m 18 ls [])) : W p l e room_1 s m #[Value.ref b] below meth c H locs 90 348600 (lw_Z below #[Value.ref b] s) (F0 m 1238 ls []) := by
  obtain ⟨hx, hb, hr, hml, hown, hts0, hX, hbl, hlocks, hgv⟩ := C0
  have hts : ∀ w ∈ wsL_law, w.before #[Value.ref b] s = true := fun w h => hts0 w (wsL_law_in w h)
  have hbA : ¬ (fun q : Nat => s.heap.size ≤ q) b := Nat.not_le.mpr hbl
  have hown : s.vm.findClass RL = some m.cls := hown
  obtain ⟨hI2, hI9, hI12, hI16, hI18, hI22, hI31, hI38, hI43, hI47, hI50, hI0, hI26, hI101, hI102, hI103, hI104, hI105, hI106, hI107, hI109, hI110, hI111, hI119, hs_jKept, hs_jBook, hs_jNd12, hs_jN67, hs_jBl, hs_jKb, hs_jTR, hs_jKh, hs_jKg, ht0, ht1, ht2, ht3, ht4, ht5, ht6, ht7, ht8, ht9, ht10, ht11, ht12, ht13, hr0, hr1, hr2, hr3, hr4, hr5, hr6, hr7, hr8, hr9, hr10, hr11, hr12⟩ := hAll
  have hL9 : (L : Int) ≤ 384 := by omega
  obtain ⟨i1, i2, i3, i4, i5, w6⟩ : (0 ≤ (σ 2 0).toInt ∧ (σ 2 0).toInt ≤ 4) ∧ (0 ≤ (σ 2 1).toInt ∧ (σ 2 1).toInt ≤ 3) ∧ (0 ≤ (σ 2 2).toInt) ∧ (0 ≤ (σ 2 3).toInt) ∧ ((σ 2 2).toInt + (σ 2 3).toInt ≤ 40) ∧ (∀ k : Nat, k < 40 → 0 ≤ (σ 6 k).toInt ∧ (σ 6 k).toInt ≤ 67) := id hI2
  obtain ⟨i7, w8, w9⟩ : (0 ≤ (σ 9 0).toInt ∧ (σ 9 0).toInt ≤ 80) ∧ (∀ k : Nat, k < 80 → 0 ≤ (σ 10 k).toInt ∧ (σ 10 k).toInt ≤ 255) ∧ (∀ k : Nat, k < 8 → 0 ≤ (σ 11 k).toInt ∧ (σ 11 k).toInt ≤ 3) := id hI9
  obtain ⟨i10, i11, i12, w13⟩ : (1 ≤ (σ 16 0).toInt ∧ (σ 16 0).toInt ≤ 8) ∧ (1 ≤ (σ 16 1).toInt ∧ (σ 16 1).toInt ≤ 12) ∧ (0 ≤ (σ 16 2).toInt ∧ (σ 16 2).toInt ≤ 999) ∧ (∀ k : Nat, k < 8 → 0 ≤ (σ 17 k).toInt ∧ (σ 17 k).toInt ≤ 3) := id hI16
  obtain ⟨i14, i15, w16⟩ : (0 ≤ (σ 38 0).toInt ∧ (σ 38 0).toInt ≤ 20) ∧ (0 ≤ (σ 38 1).toInt ∧ (σ 38 1).toInt ≤ 1000) ∧ (∀ k : Nat, k < 20 → 0 ≤ (σ 39 k).toInt ∧ (σ 39 k).toInt ≤ 6) := id hI38
  obtain ⟨i17, w18, w19⟩ : (0 ≤ (σ 47 0).toInt ∧ (σ 47 0).toInt ≤ 12) ∧ (∀ k : Nat, k < 12 → 0 ≤ (σ 48 k).toInt ∧ (σ 48 k).toInt ≤ 3) ∧ (∀ k : Nat, k < 12 → 0 ≤ (σ 49 k).toInt ∧ (σ 49 k).toInt ≤ 1) := id hI47
  have w20 : ∀ k : Nat, k < 6 → 0 ≤ (σ 52 k).toInt ∧ (σ 52 k).toInt ≤ 60 := hI50
  have i21 : 1 ≤ (σ 26 6).toInt ∧ (σ 26 6).toInt ≤ 8000 := hI26
  obtain ⟨i22, i23, i24, w25, w26, w27, w28⟩ : (0 ≤ (σ 55 5).toInt) ∧ ((σ 55 5).toInt ≤ (σ 55 4).toInt) ∧ ((σ 55 4).toInt ≤ 40) ∧ (∀ k : Nat, k < 68 → (-200) ≤ (σ 56 k).toInt ∧ (σ 56 k).toInt ≤ 500) ∧ (∀ k : Nat, k < 40 → 0 ≤ (σ 57 k).toInt ∧ (σ 57 k).toInt ≤ 67) ∧ (∀ k : Nat, k < 40 → (-200) ≤ (σ 58 k).toInt ∧ (σ 58 k).toInt ≤ 500) ∧ (∀ k : Nat, k < 40 → (-200) ≤ (σ 59 k).toInt ∧ (σ 59 k).toInt ≤ 500) := id hI101
  obtain ⟨i29, w30, w31⟩ : (0 ≤ (σ 55 6).toInt ∧ (σ 55 6).toInt ≤ 4) ∧ (∀ k : Nat, k < 4 → 0 ≤ (σ 60 k).toInt ∧ (σ 60 k).toInt ≤ 50) ∧ (∀ k : Nat, k < 4 → 0 ≤ (σ 61 k).toInt ∧ (σ 61 k).toInt ≤ 20) := id hI102
  have i32 : 0 ≤ (σ 55 9).toInt ∧ (σ 55 9).toInt ≤ 3 := hI103
  obtain ⟨i33, i34, i35, w36, w37⟩ : (1 ≤ (σ 55 10).toInt ∧ (σ 55 10).toInt ≤ 8) ∧ (1 ≤ (σ 55 12).toInt ∧ (σ 55 12).toInt ≤ 12) ∧ (0 ≤ (σ 55 13).toInt ∧ (σ 55 13).toInt ≤ 999) ∧ (∀ k : Nat, k < 8 → 0 ≤ (σ 62 k).toInt ∧ (σ 62 k).toInt ≤ 3) ∧ (∀ k : Nat, k < 8 → 0 ≤ (σ 67 k).toInt ∧ (σ 67 k).toInt ≤ 3) := id hI104
  obtain ⟨i38, w39⟩ : (0 ≤ (σ 55 15).toInt ∧ (σ 55 15).toInt ≤ 80) ∧ (∀ k : Nat, k < 2 → (-1) ≤ (σ 65 k).toInt ∧ (σ 65 k).toInt ≤ 80) := id hI105
  obtain ⟨i40, w41, w42, w43⟩ : (0 ≤ (σ 55 32).toInt ∧ (σ 55 32).toInt ≤ 20) ∧ (∀ k : Nat, k < 20 → 0 ≤ (σ 70 k).toInt ∧ (σ 70 k).toInt ≤ 6) ∧ (∀ k : Nat, k < 20 → 0 ≤ (σ 71 k).toInt ∧ (σ 71 k).toInt ≤ 8) ∧ (∀ k : Nat, k < 160 → 0 ≤ (σ 72 k).toInt ∧ (σ 72 k).toInt ≤ 3) := id hI106
  obtain ⟨i44, i45, w46⟩ : (0 ≤ (σ 55 47).toInt ∧ (σ 55 47).toInt ≤ 12) ∧ ((σ 55 47).toInt ≤ (σ 55 12).toInt) ∧ (∀ k : Nat, k < 12 → 0 ≤ (σ 80 k).toInt ∧ (σ 80 k).toInt ≤ 3) := id hI107
  have hs_jOk3 : jOk3 σ := hr0.ok hr1.1
  refine lv_aload_n hx hb dL_law_1238 rfl (lv_at hl 2 rfl) ?_
  refine lv_aload_n hx hb dL_law_1239 rfl (lv_at hl 3 rfl) ?_
  refine lv_iload_n hx hb dL_law_1240 rfl (lv_at hl 0 rfl) ?_
  refine lv_iconst (v := 1) hx hb dL_law_1241 (by decide) ?_
  have g47 := jrg (rfl : x0.toInt = x0.toInt)
  refine lv_iadd hx hb dL_law_1242 ?_
  refine lv_topi (fun x48 ex48 => ?_)
  have tx48 : x48.toInt = x0.toInt + 1 := (jadd ex48 rfl jz_1 (by omega) (by omega)).trans (by omega)
  refine va_sld hx hb hX hbl hbA hS (jin tx48 (by omega) (by omega)) dL_law_1243 ?_
  have g49 := jrg (rfl : (xs x48.toNatClampNeg).toInt = (xs x48.toNatClampNeg).toInt)
  refine lv_aload_n hx hb dL_law_1244 rfl (lv_at hl 3 rfl) ?_
  refine lv_iload_n hx hb dL_law_1245 rfl (lv_at hl 0 rfl) ?_
  refine lv_iconst (v := 2) hx hb dL_law_1246 (by decide) ?_
  refine lv_iadd hx hb dL_law_1247 ?_
  refine lv_topi (fun x50 ex50 => ?_)
  have tx50 : x50.toInt = x0.toInt + 2 := (jadd ex50 rfl jz_2 (by omega) (by omega)).trans (by omega)
  refine va_sld hx hb hX hbl hbA hS (jin tx50 (by omega) (by omega)) dL_law_1248 ?_
  have g51 := jrg (rfl : (xs x50.toNatClampNeg).toInt = (xs x50.toNatClampNeg).toInt)
  refine lv_aload_n hx hb dL_law_1249 rfl (lv_at hl 3 rfl) ?_
  refine lv_iload_n hx hb dL_law_1250 rfl (lv_at hl 0 rfl) ?_
  refine lv_iconst (v := 3) hx hb dL_law_1251 (by decide) ?_
  refine lv_iadd hx hb dL_law_1252 ?_
  refine lv_topi (fun x52 ex52 => ?_)
  have tx52 : x52.toInt = x0.toInt + 3 := (jadd ex52 rfl jz_3 (by omega) (by omega)).trans (by omega)
  refine va_sld hx hb hX hbl hbA hS (jin tx52 (by omega) (by omega)) dL_law_1253 ?_
  have g53 := jrg (rfl : (xs x52.toNatClampNeg).toInt = (xs x52.toNatClampNeg).toInt)
  refine lv_aload_n hx hb dL_law_1254 rfl (lv_at hl 3 rfl) ?_
  refine lv_iload_n hx hb dL_law_1255 rfl (lv_at hl 0 rfl) ?_
  refine lv_iconst (v := 4) hx hb dL_law_1256 (by decide) ?_
  refine lv_iadd hx hb dL_law_1257 ?_
  refine lv_topi (fun x54 ex54 => ?_)
  have tx54 : x54.toInt = x0.toInt + 4 := (jadd ex54 rfl jz_4 (by omega) (by omega)).trans (by omega)
  refine va_sld hx hb hX hbl hbA hS (jin tx54 (by omega) (by omega)) dL_law_1258 ?_
  have g55 := jrg (rfl : (xs x54.toNatClampNeg).toInt = (xs x54.toNatClampNeg).toInt)
  refine lv_aload_n hx hb dL_law_1259 rfl (lv_at hl 3 rfl) ?_
  refine lv_iload_n hx hb dL_law_1260 rfl (lv_at hl 0 rfl) ?_
  refine lv_iconst (v := 5) hx hb dL_law_1261 (by decide) ?_
  refine lv_iadd hx hb dL_law_1262 ?_
  refine lv_topi (fun x56 ex56 => ?_)
  have tx56 : x56.toInt = x0.toInt + 5 := (jadd ex56 rfl jz_5 (by omega) (by omega)).trans (by omega)
  refine va_sld hx hb hX hbl hbA hS (jin tx56 (by omega) (by omega)) dL_law_1263 ?_
  have g57 := jrg (rfl : (xs x56.toNatClampNeg).toInt = (xs x56.toNatClampNeg).toInt)
  refine jcallV (As := [.int (xs x48.toNatClampNeg), .int (xs x50.toNatClampNeg), .int (xs x52.toNatClampNeg), .int (xs x54.toNatClampNeg), .int (xs x56.toNatClampNeg)]) (rest := []) ⟨hx, hb, hml, hown, hts⟩ hK hP hA hS hZ (c_X11_shift l D cI cL ad zz hJ σ τ (xs x48.toNatClampNeg) ((xs x48.toNatClampNeg).toInt) rfl (xs x50.toNatClampNeg) ((xs x50.toNatClampNeg).toInt) rfl (xs x52.toNatClampNeg) ((xs x52.toNatClampNeg).toInt) rfl (xs x54.toNatClampNeg) ((xs x54.toNatClampNeg).toInt) rfl (xs x56.toNatClampNeg) ((xs x56.toNatClampNeg).toInt) rfl hI50) cw_RL_157 (jc_0 cI cL ad σ τ) rfl ⟨Nat.le_of_ble_eq_true rfl, Nat.le_of_ble_eq_true rfl⟩ rfl rfl rfl hl.1 rfl (Nat.le_of_ble_eq_true rfl) dL_law_1264 ⟨Nat.le_of_ble_eq_true rfl, Nat.le_of_ble_eq_true rfl⟩ (fun r59 σ58 τ58 H locs h58 hP hS => ?_)
  obtain ⟨f63, f60, w61, w62, h58⟩ := h58
  refine lv_pop hx hb dL_law_1267 rfl ?_
  refine lv_aload_n hx hb dL_law_1268 rfl (lv_at hl 1 rfl) ?_
  refine lv_aload_n hx hb dL_law_1269 rfl (lv_at hl 3 rfl) ?_
  refine lv_iload_n hx hb dL_law_1270 rfl (lv_at hl 0 rfl) ?_
  refine lv_iconst (v := 1) hx hb dL_law_1271 (by decide) ?_
  refine lv_iadd hx hb dL_law_1272 ?_
  refine jtopr ex48.symm ?_
  refine va_sld hx hb hX hbl hbA hS (jin tx48 (by omega) (by omega)) dL_law_1273 ?_
  refine lv_aload_n hx hb dL_law_1274 rfl (lv_at hl 3 rfl) ?_
  refine lv_iload_n hx hb dL_law_1275 rfl (lv_at hl 0 rfl) ?_
  refine lv_iconst (v := 2) hx hb dL_law_1276 (by decide) ?_
  refine lv_iadd hx hb dL_law_1277 ?_
  refine jtopr ex50.symm ?_
  refine va_sld hx hb hX hbl hbA hS (jin tx50 (by omega) (by omega)) dL_law_1278 ?_
  refine lv_aload_n hx hb dL_law_1279 rfl (lv_at hl 3 rfl) ?_
  refine lv_iload_n hx hb dL_law_1280 rfl (lv_at hl 0 rfl) ?_
  refine lv_iconst (v := 3) hx hb dL_law_1281 (by decide) ?_
  refine lv_iadd hx hb dL_law_1282 ?_
  refine jtopr ex52.symm ?_
  refine va_sld hx hb hX hbl hbA hS (jin tx52 (by omega) (by omega)) dL_law_1283 ?_
  refine lv_aload_n hx hb dL_law_1284 rfl (lv_at hl 3 rfl) ?_
  refine lv_iload_n hx hb dL_law_1285 rfl (lv_at hl 0 rfl) ?_
  refine lv_iconst (v := 4) hx hb dL_law_1286 (by decide) ?_
  refine lv_iadd hx hb dL_law_1287 ?_
  refine jtopr ex54.symm ?_
  refine va_sld hx hb hX hbl hbA hS (jin tx54 (by omega) (by omega)) dL_law_1288 ?_
  refine lv_aload_n hx hb dL_law_1289 rfl (lv_at hl 3 rfl) ?_
  refine lv_iload_n hx hb dL_law_1290 rfl (lv_at hl 0 rfl) ?_
  refine lv_iconst (v := 5) hx hb dL_law_1291 (by decide) ?_
  refine lv_iadd hx hb dL_law_1292 ?_
  refine jtopr ex56.symm ?_
  refine va_sld hx hb hX hbl hbA hS (jin tx56 (by omega) (by omega)) dL_law_1293 ?_
  have I64 : jI110 σ58 := jI110_fr (f60 86 (by decide)) (f60 87 (by decide)) hI110
  refine jcallV (As := [.int (xs x48.toNatClampNeg), .int (xs x50.toNatClampNeg), .int (xs x52.toNatClampNeg), .int (xs x54.toNatClampNeg), .int (xs x56.toNatClampNeg)]) (rest := []) ⟨hx, hb, hml, hown, hts⟩ hK hP hA hS hZ (c_X12_shift l D cI cL ad zz hJ σ58 τ58 (xs x48.toNatClampNeg) ((xs x48.toNatClampNeg).toInt) rfl (xs x50.toNatClampNeg) ((xs x50.toNatClampNeg).toInt) rfl (xs x52.toNatClampNeg) ((xs x52.toNatClampNeg).toInt) rfl (xs x54.toNatClampNeg) ((xs x54.toNatClampNeg).toInt) rfl (xs x56.toNatClampNeg) ((xs x56.toNatClampNeg).toInt) rfl I64) cw_RL_161 (jc_55 cI cL ad σ58 τ58) rfl ⟨Nat.le_of_ble_eq_true rfl, Nat.le_of_ble_eq_true rfl⟩ rfl rfl rfl hl.1 rfl (Nat.le_of_ble_eq_true rfl) dL_law_1294 ⟨Nat.le_of_ble_eq_true rfl, Nat.le_of_ble_eq_true rfl⟩ (fun r66 σ65 τ65 H locs h65 hP hS => ?_)
  obtain ⟨f70, f67, w68, w69, h65⟩ := h65
  refine lv_pop hx hb dL_law_1297 rfl ?_
  refine lv_goto (tgt := 1357) hx hb dL_law_1298 (by decide) ?_
  obtain ⟨x71, ex71⟩ : ∃ y : Int32, y = x0 + 6 := ⟨_, rfl⟩
  have tx71 : x71.toInt = x0.toInt + 6 := (jadd ex71 rfl jz_6 (by omega) (by omega)).trans (by omega)
  refine lv_iinc (v := x71) (lv' := [(3, .int x71), (2, .ref (ad 55)), (1, .ref (ad 0)), (0, .ref b)]) hx hb dL_law_1357 hl (k := 0) rfl (by rw [ex71]; rfl) (by decide) rfl (fun ls hl => ?_)
  refine lv_goto (tgt := 18) hx hb dL_law_1360 (by decide) ?_
  have I72 : jI2 σ65 := jI2_fr ((congrFun (f67 2 (by decide)) 0).trans (congrFun (f60 2 (by decide)) 0)) ((congrFun (f67 2 (by decide)) 1).trans (congrFun (f60 2 (by decide)) 1)) ((congrFun (f67 2 (by decide)) 2).trans (congrFun (f60 2 (by decide)) 2)) ((congrFun (f67 2 (by decide)) 3).trans (congrFun (f60 2 (by decide)) 3)) ((f67 6 (by decide)).trans (f60 6 (by decide))) hI2
  have I73 : jI9 σ65 := jI9_fr ((congrFun (f67 9 (by decide)) 0).trans (congrFun (f60 9 (by decide)) 0)) ((f67 10 (by decide)).trans (f60 10 (by decide))) ((f67 11 (by decide)).trans (f60 11 (by decide))) hI9
  have I74 : jI12 σ65 := jI12_fr ((congrFun (f67 12 (by decide)) 0).trans (congrFun (f60 12 (by decide)) 0)) ((f67 13 (by decide)).trans (f60 13 (by decide))) hI12
  have I75 : jI16 σ65 := jI16_fr ((congrFun (f67 16 (by decide)) 0).trans (congrFun (f60 16 (by decide)) 0)) ((congrFun (f67 16 (by decide)) 1).trans (congrFun (f60 16 (by decide)) 1)) ((congrFun (f67 16 (by decide)) 2).trans (congrFun (f60 16 (by decide)) 2)) ((f67 17 (by decide)).trans (f60 17 (by decide))) hI16
  have I76 : jI18 σ65 := jI18_fr ((congrFun (f67 18 (by decide)) 0).trans (congrFun (f60 18 (by decide)) 0)) ((f67 19 (by decide)).trans (f60 19 (by decide))) hI18
  have I77 : jI22 σ65 := jI22_fr ((congrFun (f67 22 (by decide)) 0).trans (congrFun (f60 22 (by decide)) 0)) ((f67 23 (by decide)).trans (f60 23 (by decide))) hI22
  have I78 : jI31 σ65 := jI31_fr ((congrFun (f67 31 (by decide)) 8).trans (congrFun (f60 31 (by decide)) 8)) ((congrFun (f67 31 (by decide)) 10).trans (congrFun (f60 31 (by decide)) 10)) ((congrFun (f67 31 (by decide)) 11).trans (congrFun (f60 31 (by decide)) 11)) ((f67 33 (by decide)).trans (f60 33 (by decide))) ((f67 35 (by decide)).trans (f60 35 (by decide))) ((f67 36 (by decide)).trans (f60 36 (by decide))) hI31
  have I79 : jI38 σ65 := jI38_fr ((congrFun (f67 38 (by decide)) 0).trans (congrFun (f60 38 (by decide)) 0)) ((congrFun (f67 38 (by decide)) 1).trans (congrFun (f60 38 (by decide)) 1)) ((f67 39 (by decide)).trans (f60 39 (by decide))) hI38
  have I80 : jI43 σ65 := jI43_fr ((congrFun (f67 43 (by decide)) 8).trans (congrFun (f60 43 (by decide)) 8)) hI43
  have I81 : jI47 σ65 := jI47_fr ((congrFun (f67 47 (by decide)) 0).trans (congrFun (f60 47 (by decide)) 0)) ((f67 48 (by decide)).trans (f60 48 (by decide))) ((f67 49 (by decide)).trans (f60 49 (by decide))) hI47
  have I82 : jI50 σ65 := jI50_fr ((f67 52 (by decide)).trans (f60 52 (by decide))) hI50
  have I83 : jI0 σ65 := jI0_fr ((f67 1 (by decide)).trans (f60 1 (by decide))) hI0
  have I84 : jI26 σ65 := jI26_fr ((congrFun (f67 26 (by decide)) 6).trans (congrFun (f60 26 (by decide)) 6)) hI26
  have I85 : jI101 σ65 := jI101_fr ((congrFun (f67 55 (by decide)) 4).trans (congrFun (f60 55 (by decide)) 4)) ((congrFun (f67 55 (by decide)) 5).trans (congrFun (f60 55 (by decide)) 5)) ((f67 56 (by decide)).trans (f60 56 (by decide))) ((f67 57 (by decide)).trans (f60 57 (by decide))) ((f67 58 (by decide)).trans (f60 58 (by decide))) ((f67 59 (by decide)).trans (f60 59 (by decide))) hI101
  have I86 : jI102 σ65 := jI102_fr ((congrFun (f67 55 (by decide)) 6).trans (congrFun (f60 55 (by decide)) 6)) ((f67 60 (by decide)).trans (f60 60 (by decide))) ((f67 61 (by decide)).trans (f60 61 (by decide))) hI102
  have I87 : jI103 σ65 := jI103_fr ((congrFun (f67 55 (by decide)) 9).trans (congrFun (f60 55 (by decide)) 9)) hI103
  have I88 : jI104 σ65 := jI104_fr ((congrFun (f67 55 (by decide)) 10).trans (congrFun (f60 55 (by decide)) 10)) ((congrFun (f67 55 (by decide)) 12).trans (congrFun (f60 55 (by decide)) 12)) ((congrFun (f67 55 (by decide)) 13).trans (congrFun (f60 55 (by decide)) 13)) ((f67 62 (by decide)).trans (f60 62 (by decide))) ((f67 67 (by decide)).trans (f60 67 (by decide))) hI104
  have I89 : jI105 σ65 := jI105_fr ((congrFun (f67 55 (by decide)) 15).trans (congrFun (f60 55 (by decide)) 15)) ((f67 65 (by decide)).trans (f60 65 (by decide))) hI105
  have I90 : jI106 σ65 := jI106_fr ((congrFun (f67 55 (by decide)) 32).trans (congrFun (f60 55 (by decide)) 32)) ((f67 70 (by decide)).trans (f60 70 (by decide))) ((f67 71 (by decide)).trans (f60 71 (by decide))) ((f67 72 (by decide)).trans (f60 72 (by decide))) hI106
  have I91 : jI107 σ65 := jI107_fr ((congrFun (f67 55 (by decide)) 12).trans (congrFun (f60 55 (by decide)) 12)) ((congrFun (f67 55 (by decide)) 47).trans (congrFun (f60 55 (by decide)) 47)) ((f67 80 (by decide)).trans (f60 80 (by decide))) hI107
  have I92 : jI109 σ65 := jI109_fr ((congrFun (f67 55 (by decide)) 50).trans (congrFun (f60 55 (by decide)) 50)) hI109
  have I93 : jI110 σ65 := jI110_fr (f67 86 (by decide)) (f67 87 (by decide)) I64
  have I94 : jI111 σ65 := jI111_fr ((f67 79 (by decide)).trans (f60 79 (by decide))) hI111
  have I95 : jI119 σ65 := jI119_fr ((f67 68 (by decide)).trans (f60 68 (by decide))) hI119
  have p96 : jKept σ65 := jKept.fr ((f67 75 (by decide)).trans (f60 75 (by decide))) ((f67 76 (by decide)).trans (f60 76 (by decide))) ((f67 77 (by decide)).trans (f60 77 (by decide))) hs_jKept
  have p97 : jBook σ65 := jBook.fr ((congrFun (f67 55 (by decide)) 47).trans (congrFun (f60 55 (by decide)) 47)) ((congrFun (f67 55 (by decide)) 10).trans (congrFun (f60 55 (by decide)) 10)) ((f67 81 (by decide)).trans (f60 81 (by decide))) hs_jBook
  have p98 : jNd12 σ65 := jNd12.fr ((congrFun (f67 12 (by decide)) 0).trans (congrFun (f60 12 (by decide)) 0)) ((congrFun (f67 12 (by decide)) 1).trans (congrFun (f60 12 (by decide)) 1)) ((f67 13 (by decide)).trans (f60 13 (by decide))) hs_jNd12
  have p99 : jN67 σ65 := jN67.fr ((f67 24 (by decide)).trans (f60 24 (by decide))) hs_jN67
  have p100 : jBl σ65 := jBl.fr ((congrFun (f67 22 (by decide)) 0).trans (congrFun (f60 22 (by decide)) 0)) ((congrFun (f67 22 (by decide)) 1).trans (congrFun (f60 22 (by decide)) 1)) ((f67 23 (by decide)).trans (f60 23 (by decide))) ((congrFun (f67 26 (by decide)) 6).trans (congrFun (f60 26 (by decide)) 6)) ((congrFun (f67 26 (by decide)) 7).trans (congrFun (f60 26 (by decide)) 7)) ((f67 29 (by decide)).trans (f60 29 (by decide))) ((f67 30 (by decide)).trans (f60 30 (by decide))) hs_jBl
  have p101 : jKb σ65 := jKb.fr ((congrFun (f67 31 (by decide)) 8).trans (congrFun (f60 31 (by decide)) 8)) ((congrFun (f67 31 (by decide)) 11).trans (congrFun (f60 31 (by decide)) 11)) ((f67 32 (by decide)).trans (f60 32 (by decide))) hs_jKb
  have p102 : jTR σ65 := jTR.fr ((f67 64 (by decide)).trans (f60 64 (by decide))) ((f67 65 (by decide)).trans (f60 65 (by decide))) hs_jTR
  have p103 : jKh σ65 := jKh.fr ((congrFun (f67 31 (by decide)) 8).trans (congrFun (f60 31 (by decide)) 8)) ((f67 32 (by decide)).trans (f60 32 (by decide))) ((f67 36 (by decide)).trans (f60 36 (by decide))) ((f67 37 (by decide)).trans (f60 37 (by decide))) hs_jKh
  have p104 : jKg σ65 := jKg.fr ((congrFun (f67 31 (by decide)) 8).trans (congrFun (f60 31 (by decide)) 8)) ((congrFun (f67 31 (by decide)) 9).trans (congrFun (f60 31 (by decide)) 9)) ((congrFun (f67 31 (by decide)) 11).trans (congrFun (f60 31 (by decide)) 11)) ((congrFun (f67 31 (by decide)) 12).trans (congrFun (f60 31 (by decide)) 12)) ((f67 32 (by decide)).trans (f60 32 (by decide))) ((f67 33 (by decide)).trans (f60 33 (by decide))) hs_jKg
  have z105 : (σ65 2 0).toInt = (σ 2 0).toInt := (congrArg Int32.toInt (show σ65 2 0 = (σ 2 0) from ((congrFun (f67 2 (by decide)) 0).trans (congrFun (f60 2 (by decide)) 0))))
  have z106 : (σ65 55 6).toInt = (σ 55 6).toInt := (congrArg Int32.toInt (show σ65 55 6 = (σ 55 6) from ((congrFun (f67 55 (by decide)) 6).trans (congrFun (f60 55 (by decide)) 6))))
  have z107 : (σ65 2 2).toInt = (σ 2 2).toInt := (congrArg Int32.toInt (show σ65 2 2 = (σ 2 2) from ((congrFun (f67 2 (by decide)) 2).trans (congrFun (f60 2 (by decide)) 2))))
  have z108 : (σ65 55 5).toInt = (σ 55 5).toInt := (congrArg Int32.toInt (show σ65 55 5 = (σ 55 5) from ((congrFun (f67 55 (by decide)) 5).trans (congrFun (f60 55 (by decide)) 5))))
  have z109 : (σ65 2 3).toInt = (σ 2 3).toInt := (congrArg Int32.toInt (show σ65 2 3 = (σ 2 3) from ((congrFun (f67 2 (by decide)) 3).trans (congrFun (f60 2 (by decide)) 3))))
  have z110 : (σ65 55 4).toInt = (σ 55 4).toInt := (congrArg Int32.toInt (show σ65 55 4 = (σ 55 4) from ((congrFun (f67 55 (by decide)) 4).trans (congrFun (f60 55 (by decide)) 4))))
  have z111 : (σ65 9 0).toInt = (σ 9 0).toInt := (congrArg Int32.toInt (show σ65 9 0 = (σ 9 0) from ((congrFun (f67 9 (by decide)) 0).trans (congrFun (f60 9 (by decide)) 0))))
  have z112 : (σ65 55 15).toInt = (σ 55 15).toInt := (congrArg Int32.toInt (show σ65 55 15 = (σ 55 15) from ((congrFun (f67 55 (by decide)) 15).trans (congrFun (f60 55 (by decide)) 15))))
  have z113 : (σ65 16 0).toInt = (σ 16 0).toInt := (congrArg Int32.toInt (show σ65 16 0 = (σ 16 0) from ((congrFun (f67 16 (by decide)) 0).trans (congrFun (f60 16 (by decide)) 0))))
  have z114 : (σ65 55 10).toInt = (σ 55 10).toInt := (congrArg Int32.toInt (show σ65 55 10 = (σ 55 10) from ((congrFun (f67 55 (by decide)) 10).trans (congrFun (f60 55 (by decide)) 10))))
  have z115 : (σ65 16 1).toInt = (σ 16 1).toInt := (congrArg Int32.toInt (show σ65 16 1 = (σ 16 1) from ((congrFun (f67 16 (by decide)) 1).trans (congrFun (f60 16 (by decide)) 1))))
  have z116 : (σ65 55 12).toInt = (σ 55 12).toInt := (congrArg Int32.toInt (show σ65 55 12 = (σ 55 12) from ((congrFun (f67 55 (by decide)) 12).trans (congrFun (f60 55 (by decide)) 12))))
  have z117 : (σ65 16 2).toInt = (σ 16 2).toInt := (congrArg Int32.toInt (show σ65 16 2 = (σ 16 2) from ((congrFun (f67 16 (by decide)) 2).trans (congrFun (f60 16 (by decide)) 2))))
  have z118 : (σ65 55 13).toInt = (σ 55 13).toInt := (congrArg Int32.toInt (show σ65 55 13 = (σ 55 13) from ((congrFun (f67 55 (by decide)) 13).trans (congrFun (f60 55 (by decide)) 13))))
  have z119 : (σ65 38 0).toInt = (σ 38 0).toInt := (congrArg Int32.toInt (show σ65 38 0 = (σ 38 0) from ((congrFun (f67 38 (by decide)) 0).trans (congrFun (f60 38 (by decide)) 0))))
  have z120 : (σ65 55 32).toInt = (σ 55 32).toInt := (congrArg Int32.toInt (show σ65 55 32 = (σ 55 32) from ((congrFun (f67 55 (by decide)) 32).trans (congrFun (f60 55 (by decide)) 32))))
  have z121 : (σ65 38 1).toInt = (σ 38 1).toInt := (congrArg Int32.toInt (show σ65 38 1 = (σ 38 1) from ((congrFun (f67 38 (by decide)) 1).trans (congrFun (f60 38 (by decide)) 1))))
  have z122 : (σ65 55 55).toInt = (σ 55 55).toInt := (congrArg Int32.toInt (show σ65 55 55 = (σ 55 55) from ((congrFun (f67 55 (by decide)) 55).trans (congrFun (f60 55 (by decide)) 55))))
  have z123 : (σ65 47 0).toInt = (σ 47 0).toInt := (congrArg Int32.toInt (show σ65 47 0 = (σ 47 0) from ((congrFun (f67 47 (by decide)) 0).trans (congrFun (f60 47 (by decide)) 0))))
  have z124 : (σ65 55 47).toInt = (σ 55 47).toInt := (congrArg Int32.toInt (show σ65 55 47 = (σ 55 47) from ((congrFun (f67 55 (by decide)) 47).trans (congrFun (f60 55 (by decide)) 47))))
  have z125 : (σ65 55 30).toInt = (σ 55 30).toInt := (congrArg Int32.toInt (show σ65 55 30 = (σ 55 30) from ((congrFun (f67 55 (by decide)) 30).trans (congrFun (f60 55 (by decide)) 30))))
  have z126 : (σ65 55 31).toInt = (σ 55 31).toInt := (congrArg Int32.toInt (show σ65 55 31 = (σ 55 31) from ((congrFun (f67 55 (by decide)) 31).trans (congrFun (f60 55 (by decide)) 31))))
  have z127 : (σ65 2 1).toInt = (σ 2 1).toInt := (congrArg Int32.toInt (show σ65 2 1 = (σ 2 1) from ((congrFun (f67 2 (by decide)) 1).trans (congrFun (f60 2 (by decide)) 1))))
  have z128 : (σ65 55 9).toInt = (σ 55 9).toInt := (congrArg Int32.toInt (show σ65 55 9 = (σ 55 9) from ((congrFun (f67 55 (by decide)) 9).trans (congrFun (f60 55 (by decide)) 9))))
  have z129 : (σ65 26 6).toInt = (σ 26 6).toInt := (congrArg Int32.toInt (show σ65 26 6 = (σ 26 6) from ((congrFun (f67 26 (by decide)) 6).trans (congrFun (f60 26 (by decide)) 6))))
  rw [show τ58 88 = τ 88 from (f63 88 (by decide))] at w69
  have s131 := w68
  rw [show σ58 86 = σ 86 from (f60 86 (by decide)), show σ58 87 = σ 87 from (f60 87 (by decide))] at s131
  have p130 := hr5.move w20 w62 w69 (w61.trans (hr4.sf.trans s131.symm)) rfl rfl rfl rfl rfl (fun z => hr4.mvok w61 z)
  have z132 : (σ65 18 0).toInt = (σ 18 0).toInt := (congrArg Int32.toInt (show σ65 18 0 = (σ 18 0) from ((congrFun (f67 18 (by decide)) 0).trans (congrFun (f60 18 (by decide)) 0))))
  have z133 : (σ65 22 0).toInt = (σ 22 0).toInt := (congrArg Int32.toInt (show σ65 22 0 = (σ 22 0) from ((congrFun (f67 22 (by decide)) 0).trans (congrFun (f60 22 (by decide)) 0))))
  exact ih x71 σ65 τ65 _ _ ls (by have h9 := tx71; omega) ⟨I72, I73, I74, I75, I76, I77, I78, I79, I80, I81, I82, I83, I84, I85, I86, I87, I88, I89, I90, I91, I92, I93, I94, I95, p96, p97, p98, p99, p100, p101, p102, p103, p104, (by omega), (by omega), (by omega), (by omega), (by omega), (by omega), (by omega), (by omega), (by omega), (by omega), (by omega), (by omega), (by omega), (by have h9 := tx71; omega), (show jNumP (σ65 3) (σ65 56) (σ65 6) (σ65 57) (σ65 7) (σ65 58) (σ65 8) (σ65 59) (σ65 55 6).toInt (σ65 55 4).toInt by rw [show σ65 3 = σ 3 from ((f67 3 (by decide)).trans (f60 3 (by decide))), show σ65 56 = σ 56 from ((f67 56 (by decide)).trans (f60 56 (by decide))), show σ65 6 = σ 6 from ((f67 6 (by decide)).trans (f60 6 (by decide))), show σ65 57 = σ 57 from ((f67 57 (by decide)).trans (f60 57 (by decide))), show σ65 7 = σ 7 from ((f67 7 (by decide)).trans (f60 7 (by decide))), show σ65 58 = σ 58 from ((f67 58 (by decide)).trans (f60 58 (by decide))), show σ65 8 = σ 8 from ((f67 8 (by decide)).trans (f60 8 (by decide))), show σ65 59 = σ 59 from ((f67 59 (by decide)).trans (f60 59 (by decide))), show (σ65 55 6).toInt = (σ 55 6).toInt from by omega, show (σ65 55 4).toInt = (σ 55 4).toInt from by omega]; exact hr0), (show jOvP (σ65 56) (σ65 57) (σ65 58) (σ65 59) (σ65 55 4).toInt by rw [show σ65 56 = σ 56 from ((f67 56 (by decide)).trans (f60 56 (by decide))), show σ65 57 = σ 57 from ((f67 57 (by decide)).trans (f60 57 (by decide))), show σ65 58 = σ 58 from ((f67 58 (by decide)).trans (f60 58 (by decide))), show σ65 59 = σ 59 from ((f67 59 (by decide)).trans (f60 59 (by decide))), show (σ65 55 4).toInt = (σ 55 4).toInt from by omega]; exact hr1), (show jTp (σ65 10) (σ65 63) (σ65 55 15).toInt by rw [show σ65 10 = σ 10 from ((f67 10 (by decide)).trans (f60 10 (by decide))), show σ65 63 = σ 63 from ((f67 63 (by decide)).trans (f60 63 (by decide)))]; exact hr2.le (by omega)), (show jSo (σ65 17) (σ65 62) (σ65 16 0).toInt by rw [show σ65 17 = σ 17 from ((f67 17 (by decide)).trans (f60 17 (by decide))), show σ65 62 = σ 62 from ((f67 62 (by decide)).trans (f60 62 (by decide))), show (σ65 16 0).toInt = (σ 16 0).toInt from by omega]; exact hr3), (show jShP (σ65 51) (σ65 52) (σ65 53) (σ65 86) (σ65 87) (σ65 55 32).toInt by rw [show σ65 51 = σ 51 from ((f67 51 (by decide)).trans (f60 51 (by decide))), show σ65 52 = σ 52 from ((f67 52 (by decide)).trans (f60 52 (by decide))), show σ65 53 = σ 53 from ((f67 53 (by decide)).trans (f60 53 (by decide))), show σ65 86 = σ 86 from ((f67 86 (by decide)).trans (f60 86 (by decide))), show σ65 87 = σ 87 from ((f67 87 (by decide)).trans (f60 87 (by decide)))]; exact (hr4.up (by omega) (by omega))), (show jEl (σ65 51) (σ65 52) (τ65 54) (τ65 88) by rw [show σ65 51 = σ 51 from ((f67 51 (by decide)).trans (f60 51 (by decide))), show σ65 52 = σ 52 from ((f67 52 (by decide)).trans (f60 52 (by decide))), show τ65 54 = τ58 54 from (f70 54 (by decide))]; exact p130), (show jByP (σ65 51) (σ65 52) (τ65 54) by rw [show σ65 51 = σ 51 from ((f67 51 (by decide)).trans (f60 51 (by decide))), show σ65 52 = σ 52 from ((f67 52 (by decide)).trans (f60 52 (by decide))), show τ65 54 = τ58 54 from (f70 54 (by decide))]; exact (hr6.move (d := (xs x48.toNatClampNeg).toInt) (i := (xs x50.toNatClampNeg).toInt) (e := (xs x52.toNatClampNeg).toInt) (j := (xs x54.toNatClampNeg).toInt) w20 w62 rfl rfl (fun z => hr4.mvok w61 z) (fun z => hr4.mvs w61 z))), (show jBk (σ65 48) (σ65 80) (σ65 49) (σ65 81) (σ65 55 47).toInt by rw [show σ65 48 = σ 48 from ((f67 48 (by decide)).trans (f60 48 (by decide))), show σ65 49 = σ 49 from ((f67 49 (by decide)).trans (f60 49 (by decide))), show σ65 80 = σ 80 from ((f67 80 (by decide)).trans (f60 80 (by decide))), show σ65 81 = σ 81 from ((f67 81 (by decide)).trans (f60 81 (by decide))), show (σ65 55 47).toInt = (σ 55 47).toInt from by omega]; exact hr7), (show jKd (σ65 39) (σ65 70) (σ65 55 32).toInt by rw [show σ65 39 = σ 39 from ((f67 39 (by decide)).trans (f60 39 (by decide))), show σ65 70 = σ 70 from ((f67 70 (by decide)).trans (f60 70 (by decide))), show (σ65 55 32).toInt = (σ 55 32).toInt from by omega]; exact hr8), (show jTt (σ65 42) (σ65 85) (σ65 55 55).toInt by rw [show σ65 42 = σ 42 from ((f67 42 (by decide)).trans (f60 42 (by decide))), show σ65 85 = σ 85 from ((f67 85 (by decide)).trans (f60 85 (by decide))), show (σ65 55 55).toInt = (σ 55 55).toInt from by omega]; exact hr9), (fun k hk => by rw [show σ65 4 = σ 4 from ((f67 4 (by decide)).trans (f60 4 (by decide))), show σ65 5 = σ 5 from ((f67 5 (by decide)).trans (f60 5 (by decide))), show σ65 60 = σ 60 from ((f67 60 (by decide)).trans (f60 60 (by decide))), show σ65 61 = σ 61 from ((f67 61 (by decide)).trans (f60 61 (by decide)))]; exact hr10 k (by omega)), (fun nm => by rw [show σ65 19 = σ 19 from ((f67 19 (by decide)).trans (f60 19 (by decide))), show σ65 64 = σ 64 from ((f67 64 (by decide)).trans (f60 64 (by decide))), show σ65 65 = σ 65 from ((f67 65 (by decide)).trans (f60 65 (by decide))), show (σ65 18 0).toInt = (σ 18 0).toInt from by omega]; exact hr11 nm), (fun nm => by rw [show σ65 23 = σ 23 from ((f67 23 (by decide)).trans (f60 23 (by decide))), show σ65 64 = σ 64 from ((f67 64 (by decide)).trans (f60 64 (by decide))), show σ65 65 = σ 65 from ((f67 65 (by decide)).trans (f60 65 (by decide))), show (σ65 22 0).toInt = (σ 22 0).toInt from by omega]; exact hr12 nm)⟩ hP hS (lv_sub hl [0, 1, 2, 3] rfl)
set_option maxHeartbeats 4000000 in
set_option maxRecDepth 100000 in
theorem law_case_35 {p : Program} {e : Env} {s : State} {m : MethodId} {below : List Frame} {meth : Method} {c : Code} (l : Launch) {b L : Nat} {xs : Nat → Int32} {D : va_G} {cI cL : ClassId} {ad zz : Nat → Nat} (C0 : lw_At p s m meth c b L xs) (hJ : jD ad) (hA : ∀ q, jA ad q → s.heap.size ≤ q) (hK : jK D cI cL s) (hZ : jZ zz (fun q : Nat => s.heap.size ≤ q) s s.heap) {x0 : Int32} (hx0 : 0 ≤ x0.toInt) (hxL : x0.toInt + 6 ≤ (L : Int)) (hL : L ≤ 384) {σ : Nat → Nat → Int32} {τ : Nat → Nat → Int64} {H : Heap} {locs : List Loc} (hS : va_S (fun q : Nat => s.heap.size ≤ q) s.heap H locs) {ls : Array Slot} (hAll : jAll x0.toInt σ τ) (hP : jH D cI cL ad σ τ H) (hl : lv_has ls 4 [(3, .int x0), (2, .ref (ad 55)), (1, .ref (ad 0)), (0, .ref b)]) (ih : ∀ (x1 : Int32) (σ : Nat → Nat → Int32) (τ : Nat → Nat → Int64) (H : Heap) (locs : List Loc) (ls : Array Slot), x1.toInt = x0.toInt + 6 → jAll x1.toInt σ τ → jH D cI cL ad σ τ H → va_S (fun q : Nat => s.heap.size ≤ q) s.heap H locs → lv_has ls 4 [(3, .int x1), (2, .ref (ad 55)), (1, .ref (ad 0)), (0, .ref b)] → W p l e room_1 s m #[Value.ref b] below meth c H locs 90 348600 (lw_Z below #[Value.ref b] s) (F0 m 18 ls [])) : W p l e room_1 s m #[Value.ref b] below meth c H locs 90 348600 (lw_Z below #[Value.ref b] s) (F0 m 1301 ls []) := by
  obtain ⟨hx, hb, hr, hml, hown, hts0, hX, hbl, hlocks, hgv⟩ := C0
  have hts : ∀ w ∈ wsL_law, w.before #[Value.ref b] s = true := fun w h => hts0 w (wsL_law_in w h)
  have hbA : ¬ (fun q : Nat => s.heap.size ≤ q) b := Nat.not_le.mpr hbl
  have hown : s.vm.findClass RL = some m.cls := hown
  obtain ⟨hI2, hI9, hI12, hI16, hI18, hI22, hI31, hI38, hI43, hI47, hI50, hI0, hI26, hI101, hI102, hI103, hI104, hI105, hI106, hI107, hI109, hI110, hI111, hI119, hs_jKept, hs_jBook, hs_jNd12, hs_jN67, hs_jBl, hs_jKb, hs_jTR, hs_jKh, hs_jKg, ht0, ht1, ht2, ht3, ht4, ht5, ht6, ht7, ht8, ht9, ht10, ht11, ht12, ht13, hr0, hr1, hr2, hr3, hr4, hr5, hr6, hr7, hr8, hr9, hr10, hr11, hr12⟩ := hAll
  have hL9 : (L : Int) ≤ 384 := by omega
  obtain ⟨i1, i2, i3, i4, i5, w6⟩ : (0 ≤ (σ 2 0).toInt ∧ (σ 2 0).toInt ≤ 4) ∧ (0 ≤ (σ 2 1).toInt ∧ (σ 2 1).toInt ≤ 3) ∧ (0 ≤ (σ 2 2).toInt) ∧ (0 ≤ (σ 2 3).toInt) ∧ ((σ 2 2).toInt + (σ 2 3).toInt ≤ 40) ∧ (∀ k : Nat, k < 40 → 0 ≤ (σ 6 k).toInt ∧ (σ 6 k).toInt ≤ 67) := id hI2
  obtain ⟨i7, w8, w9⟩ : (0 ≤ (σ 9 0).toInt ∧ (σ 9 0).toInt ≤ 80) ∧ (∀ k : Nat, k < 80 → 0 ≤ (σ 10 k).toInt ∧ (σ 10 k).toInt ≤ 255) ∧ (∀ k : Nat, k < 8 → 0 ≤ (σ 11 k).toInt ∧ (σ 11 k).toInt ≤ 3) := id hI9
  obtain ⟨i10, i11, i12, w13⟩ : (1 ≤ (σ 16 0).toInt ∧ (σ 16 0).toInt ≤ 8) ∧ (1 ≤ (σ 16 1).toInt ∧ (σ 16 1).toInt ≤ 12) ∧ (0 ≤ (σ 16 2).toInt ∧ (σ 16 2).toInt ≤ 999) ∧ (∀ k : Nat, k < 8 → 0 ≤ (σ 17 k).toInt ∧ (σ 17 k).toInt ≤ 3) := id hI16
  obtain ⟨i14, i15, w16⟩ : (0 ≤ (σ 38 0).toInt ∧ (σ 38 0).toInt ≤ 20) ∧ (0 ≤ (σ 38 1).toInt ∧ (σ 38 1).toInt ≤ 1000) ∧ (∀ k : Nat, k < 20 → 0 ≤ (σ 39 k).toInt ∧ (σ 39 k).toInt ≤ 6) := id hI38
  obtain ⟨i17, w18, w19⟩ : (0 ≤ (σ 47 0).toInt ∧ (σ 47 0).toInt ≤ 12) ∧ (∀ k : Nat, k < 12 → 0 ≤ (σ 48 k).toInt ∧ (σ 48 k).toInt ≤ 3) ∧ (∀ k : Nat, k < 12 → 0 ≤ (σ 49 k).toInt ∧ (σ 49 k).toInt ≤ 1) := id hI47
  have w20 : ∀ k : Nat, k < 6 → 0 ≤ (σ 52 k).toInt ∧ (σ 52 k).toInt ≤ 60 := hI50
  have i21 : 1 ≤ (σ 26 6).toInt ∧ (σ 26 6).toInt ≤ 8000 := hI26
  obtain ⟨i22, i23, i24, w25, w26, w27, w28⟩ : (0 ≤ (σ 55 5).toInt) ∧ ((σ 55 5).toInt ≤ (σ 55 4).toInt) ∧ ((σ 55 4).toInt ≤ 40) ∧ (∀ k : Nat, k < 68 → (-200) ≤ (σ 56 k).toInt ∧ (σ 56 k).toInt ≤ 500) ∧ (∀ k : Nat, k < 40 → 0 ≤ (σ 57 k).toInt ∧ (σ 57 k).toInt ≤ 67) ∧ (∀ k : Nat, k < 40 → (-200) ≤ (σ 58 k).toInt ∧ (σ 58 k).toInt ≤ 500) ∧ (∀ k : Nat, k < 40 → (-200) ≤ (σ 59 k).toInt ∧ (σ 59 k).toInt ≤ 500) := id hI101
  obtain ⟨i29, w30, w31⟩ : (0 ≤ (σ 55 6).toInt ∧ (σ 55 6).toInt ≤ 4) ∧ (∀ k : Nat, k < 4 → 0 ≤ (σ 60 k).toInt ∧ (σ 60 k).toInt ≤ 50) ∧ (∀ k : Nat, k < 4 → 0 ≤ (σ 61 k).toInt ∧ (σ 61 k).toInt ≤ 20) := id hI102
  have i32 : 0 ≤ (σ 55 9).toInt ∧ (σ 55 9).toInt ≤ 3 := hI103
  obtain ⟨i33, i34, i35, w36, w37⟩ : (1 ≤ (σ 55 10).toInt ∧ (σ 55 10).toInt ≤ 8) ∧ (1 ≤ (σ 55 12).toInt ∧ (σ 55 12).toInt ≤ 12) ∧ (0 ≤ (σ 55 13).toInt ∧ (σ 55 13).toInt ≤ 999) ∧ (∀ k : Nat, k < 8 → 0 ≤ (σ 62 k).toInt ∧ (σ 62 k).toInt ≤ 3) ∧ (∀ k : Nat, k < 8 → 0 ≤ (σ 67 k).toInt ∧ (σ 67 k).toInt ≤ 3) := id hI104
  obtain ⟨i38, w39⟩ : (0 ≤ (σ 55 15).toInt ∧ (σ 55 15).toInt ≤ 80) ∧ (∀ k : Nat, k < 2 → (-1) ≤ (σ 65 k).toInt ∧ (σ 65 k).toInt ≤ 80) := id hI105
  obtain ⟨i40, w41, w42, w43⟩ : (0 ≤ (σ 55 32).toInt ∧ (σ 55 32).toInt ≤ 20) ∧ (∀ k : Nat, k < 20 → 0 ≤ (σ 70 k).toInt ∧ (σ 70 k).toInt ≤ 6) ∧ (∀ k : Nat, k < 20 → 0 ≤ (σ 71 k).toInt ∧ (σ 71 k).toInt ≤ 8) ∧ (∀ k : Nat, k < 160 → 0 ≤ (σ 72 k).toInt ∧ (σ 72 k).toInt ≤ 3) := id hI106
  obtain ⟨i44, i45, w46⟩ : (0 ≤ (σ 55 47).toInt ∧ (σ 55 47).toInt ≤ 12) ∧ ((σ 55 47).toInt ≤ (σ 55 12).toInt) ∧ (∀ k : Nat, k < 12 → 0 ≤ (σ 80 k).toInt ∧ (σ 80 k).toInt ≤ 3) := id hI107
  have hs_jOk3 : jOk3 σ := hr0.ok hr1.1
  refine lv_aload_n hx hb dL_law_1301 rfl (lv_at hl 2 rfl) ?_
  refine lv_aload_n hx hb dL_law_1302 rfl (lv_at hl 3 rfl) ?_
  refine lv_iload_n hx hb dL_law_1303 rfl (lv_at hl 0 rfl) ?_
  refine lv_iconst (v := 1) hx hb dL_law_1304 (by decide) ?_
  have g47 := jrg (rfl : x0.toInt = x0.toInt)
  refine lv_iadd hx hb dL_law_1305 ?_
  refine lv_topi (fun x48 ex48 => ?_)
  have tx48 : x48.toInt = x0.toInt + 1 := (jadd ex48 rfl jz_1 (by omega) (by omega)).trans (by omega)
  refine va_sld hx hb hX hbl hbA hS (jin tx48 (by omega) (by omega)) dL_law_1306 ?_
  have g49 := jrg (rfl : (xs x48.toNatClampNeg).toInt = (xs x48.toNatClampNeg).toInt)
  refine lv_aload_n hx hb dL_law_1307 rfl (lv_at hl 3 rfl) ?_
  refine lv_iload_n hx hb dL_law_1308 rfl (lv_at hl 0 rfl) ?_
  refine lv_iconst (v := 2) hx hb dL_law_1309 (by decide) ?_
  refine lv_iadd hx hb dL_law_1310 ?_
  refine lv_topi (fun x50 ex50 => ?_)
  have tx50 : x50.toInt = x0.toInt + 2 := (jadd ex50 rfl jz_2 (by omega) (by omega)).trans (by omega)
  refine va_sld hx hb hX hbl hbA hS (jin tx50 (by omega) (by omega)) dL_law_1311 ?_
  have g51 := jrg (rfl : (xs x50.toNatClampNeg).toInt = (xs x50.toNatClampNeg).toInt)
  refine jcallV (As := [.int (xs x48.toNatClampNeg), .int (xs x50.toNatClampNeg)]) (rest := []) ⟨hx, hb, hml, hown, hts⟩ hK hP hA hS hZ (c_X11_taken l D cI cL ad zz hJ σ τ (xs x48.toNatClampNeg) ((xs x48.toNatClampNeg).toInt) rfl (xs x50.toNatClampNeg) ((xs x50.toNatClampNeg).toInt) rfl hI38) cw_RL_162 (jc_0 cI cL ad σ τ) rfl ⟨Nat.le_of_ble_eq_true rfl, Nat.le_of_ble_eq_true rfl⟩ rfl rfl rfl hl.1 rfl (Nat.le_of_ble_eq_true rfl) dL_law_1312 ⟨Nat.le_of_ble_eq_true rfl, Nat.le_of_ble_eq_true rfl⟩ (fun r53 σ52 τ52 H locs h52 hP hS => ?_)
  obtain ⟨⟨rfl, rfl⟩, w54, h52⟩ := h52
  refine lv_pop hx hb dL_law_1315 rfl ?_
  refine lv_aload_n hx hb dL_law_1316 rfl (lv_at hl 1 rfl) ?_
  refine lv_aload_n hx hb dL_law_1317 rfl (lv_at hl 3 rfl) ?_
  refine lv_iload_n hx hb dL_law_1318 rfl (lv_at hl 0 rfl) ?_
  refine lv_iconst (v := 1) hx hb dL_law_1319 (by decide) ?_
  refine lv_iadd hx hb dL_law_1320 ?_
  refine jtopr ex48.symm ?_
  refine va_sld hx hb hX hbl hbA hS (jin tx48 (by omega) (by omega)) dL_law_1321 ?_
  refine lv_aload_n hx hb dL_law_1322 rfl (lv_at hl 3 rfl) ?_
  refine lv_iload_n hx hb dL_law_1323 rfl (lv_at hl 0 rfl) ?_
  refine lv_iconst (v := 2) hx hb dL_law_1324 (by decide) ?_
  refine lv_iadd hx hb dL_law_1325 ?_
  refine jtopr ex50.symm ?_
  refine va_sld hx hb hX hbl hbA hS (jin tx50 (by omega) (by omega)) dL_law_1326 ?_
  refine jcallV (As := [.int (xs x48.toNatClampNeg), .int (xs x50.toNatClampNeg)]) (rest := []) ⟨hx, hb, hml, hown, hts⟩ hK hP hA hS hZ (c_X12_taken l D cI cL ad zz hJ σ τ (xs x48.toNatClampNeg) ((xs x48.toNatClampNeg).toInt) rfl (xs x50.toNatClampNeg) ((xs x50.toNatClampNeg).toInt) rfl hI106 hI110) cw_RL_165 (jc_55 cI cL ad σ τ) rfl ⟨Nat.le_of_ble_eq_true rfl, Nat.le_of_ble_eq_true rfl⟩ rfl rfl rfl hl.1 rfl (Nat.le_of_ble_eq_true rfl) dL_law_1327 ⟨Nat.le_of_ble_eq_true rfl, Nat.le_of_ble_eq_true rfl⟩ (fun r56 σ55 τ55 H locs h55 hP hS => ?_)
  obtain ⟨⟨rfl, rfl⟩, w57, h55⟩ := h55
  refine lv_pop hx hb dL_law_1330 rfl ?_
  refine lv_goto (tgt := 1357) hx hb dL_law_1331 (by decide) ?_
  obtain ⟨x58, ex58⟩ : ∃ y : Int32, y = x0 + 6 := ⟨_, rfl⟩
  have tx58 : x58.toInt = x0.toInt + 6 := (jadd ex58 rfl jz_6 (by omega) (by omega)).trans (by omega)
  refine lv_iinc (v := x58) (lv' := [(3, .int x58), (2, .ref (ad 55)), (1, .ref (ad 0)), (0, .ref b)]) hx hb dL_law_1357 hl (k := 0) rfl (by rw [ex58]; rfl) (by decide) rfl (fun ls hl => ?_)
  refine lv_goto (tgt := 18) hx hb dL_law_1360 (by decide) ?_
  exact ih x58 σ τ _ _ ls (by have h9 := tx58; omega) ⟨hI2, hI9, hI12, hI16, hI18, hI22, hI31, hI38, hI43, hI47, hI50, hI0, hI26, hI101, hI102, hI103, hI104, hI105, hI106, hI107, hI109, hI110, hI111, hI119, hs_jKept, hs_jBook, hs_jNd12, hs_jN67, hs_jBl, hs_jKb, hs_jTR, hs_jKh, hs_jKg, (by omega), (by omega), (by omega), (by omega), (by omega), (by omega), (by omega), (by omega), (by omega), (by omega), (by omega), (by omega), (by omega), (by have h9 := tx58; omega), hr0, hr1, hr2, hr3, hr4, hr5, hr6, hr7, hr8, hr9, hr10, hr11, hr12⟩ hP hS (lv_sub hl [0, 1, 2, 3] rfl)
set_option maxHeartbeats 4000000 in
set_option maxRecDepth 100000 in
theorem law_case_36 {p : Program} {e : Env} {s : State} {m : MethodId} {below : List Frame} {meth : Method} {c : Code} (l : Launch) {b L : Nat} {xs : Nat → Int32} {D : va_G} {cI cL : ClassId} {ad zz : Nat → Nat} (C0 : lw_At p s m meth c b L xs) (hJ : jD ad) (hA : ∀ q, jA ad q → s.heap.size ≤ q) (hK : jK D cI cL s) (hZ : jZ zz (fun q : Nat => s.heap.size ≤ q) s s.heap) {x0 : Int32} (hx0 : 0 ≤ x0.toInt) (hxL : x0.toInt + 6 ≤ (L : Int)) (hL : L ≤ 384) {σ : Nat → Nat → Int32} {τ : Nat → Nat → Int64} {H : Heap} {locs : List Loc} (hS : va_S (fun q : Nat => s.heap.size ≤ q) s.heap H locs) {ls : Array Slot} (hAll : jAll x0.toInt σ τ) (hP : jH D cI cL ad σ τ H) (hl : lv_has ls 4 [(3, .int x0), (2, .ref (ad 55)), (1, .ref (ad 0)), (0, .ref b)]) (ih : ∀ (x1 : Int32) (σ : Nat → Nat → Int32) (τ : Nat → Nat → Int64) (H : Heap) (locs : List Loc) (ls : Array Slot), x1.toInt = x0.toInt + 6 → jAll x1.toInt σ τ → jH D cI cL ad σ τ H → va_S (fun q : Nat => s.heap.size ≤ q) s.heap H locs → lv_has ls 4 [(3, .int x1), (2, .ref (ad 55)), (1, .ref (ad 0)), (0, .ref b)] → W p l e room_1 s m #[Value.ref b] below meth c H locs 90 348600 (lw_Z below #[Value.ref b] s) (F0 m 18 ls [])) : W p l e room_1 s m #[Value.ref b] below meth c H locs 90 348600 (lw_Z below #[Value.ref b] s) (F0 m 1334 ls []) := by
  obtain ⟨hx, hb, hr, hml, hown, hts0, hX, hbl, hlocks, hgv⟩ := C0
  have hts : ∀ w ∈ wsL_law, w.before #[Value.ref b] s = true := fun w h => hts0 w (wsL_law_in w h)
  have hbA : ¬ (fun q : Nat => s.heap.size ≤ q) b := Nat.not_le.mpr hbl
  have hown : s.vm.findClass RL = some m.cls := hown
  obtain ⟨hI2, hI9, hI12, hI16, hI18, hI22, hI31, hI38, hI43, hI47, hI50, hI0, hI26, hI101, hI102, hI103, hI104, hI105, hI106, hI107, hI109, hI110, hI111, hI119, hs_jKept, hs_jBook, hs_jNd12, hs_jN67, hs_jBl, hs_jKb, hs_jTR, hs_jKh, hs_jKg, ht0, ht1, ht2, ht3, ht4, ht5, ht6, ht7, ht8, ht9, ht10, ht11, ht12, ht13, hr0, hr1, hr2, hr3, hr4, hr5, hr6, hr7, hr8, hr9, hr10, hr11, hr12⟩ := hAll
  have hL9 : (L : Int) ≤ 384 := by omega
  obtain ⟨i1, i2, i3, i4, i5, w6⟩ : (0 ≤ (σ 2 0).toInt ∧ (σ 2 0).toInt ≤ 4) ∧ (0 ≤ (σ 2 1).toInt ∧ (σ 2 1).toInt ≤ 3) ∧ (0 ≤ (σ 2 2).toInt) ∧ (0 ≤ (σ 2 3).toInt) ∧ ((σ 2 2).toInt + (σ 2 3).toInt ≤ 40) ∧ (∀ k : Nat, k < 40 → 0 ≤ (σ 6 k).toInt ∧ (σ 6 k).toInt ≤ 67) := id hI2
  obtain ⟨i7, w8, w9⟩ : (0 ≤ (σ 9 0).toInt ∧ (σ 9 0).toInt ≤ 80) ∧ (∀ k : Nat, k < 80 → 0 ≤ (σ 10 k).toInt ∧ (σ 10 k).toInt ≤ 255) ∧ (∀ k : Nat, k < 8 → 0 ≤ (σ 11 k).toInt ∧ (σ 11 k).toInt ≤ 3) := id hI9
  obtain ⟨i10, i11, i12, w13⟩ : (1 ≤ (σ 16 0).toInt ∧ (σ 16 0).toInt ≤ 8) ∧ (1 ≤ (σ 16 1).toInt ∧ (σ 16 1).toInt ≤ 12) ∧ (0 ≤ (σ 16 2).toInt ∧ (σ 16 2).toInt ≤ 999) ∧ (∀ k : Nat, k < 8 → 0 ≤ (σ 17 k).toInt ∧ (σ 17 k).toInt ≤ 3) := id hI16
  obtain ⟨i14, i15, w16⟩ : (0 ≤ (σ 38 0).toInt ∧ (σ 38 0).toInt ≤ 20) ∧ (0 ≤ (σ 38 1).toInt ∧ (σ 38 1).toInt ≤ 1000) ∧ (∀ k : Nat, k < 20 → 0 ≤ (σ 39 k).toInt ∧ (σ 39 k).toInt ≤ 6) := id hI38
  obtain ⟨i17, w18, w19⟩ : (0 ≤ (σ 47 0).toInt ∧ (σ 47 0).toInt ≤ 12) ∧ (∀ k : Nat, k < 12 → 0 ≤ (σ 48 k).toInt ∧ (σ 48 k).toInt ≤ 3) ∧ (∀ k : Nat, k < 12 → 0 ≤ (σ 49 k).toInt ∧ (σ 49 k).toInt ≤ 1) := id hI47
  have w20 : ∀ k : Nat, k < 6 → 0 ≤ (σ 52 k).toInt ∧ (σ 52 k).toInt ≤ 60 := hI50
  have i21 : 1 ≤ (σ 26 6).toInt ∧ (σ 26 6).toInt ≤ 8000 := hI26
  obtain ⟨i22, i23, i24, w25, w26, w27, w28⟩ : (0 ≤ (σ 55 5).toInt) ∧ ((σ 55 5).toInt ≤ (σ 55 4).toInt) ∧ ((σ 55 4).toInt ≤ 40) ∧ (∀ k : Nat, k < 68 → (-200) ≤ (σ 56 k).toInt ∧ (σ 56 k).toInt ≤ 500) ∧ (∀ k : Nat, k < 40 → 0 ≤ (σ 57 k).toInt ∧ (σ 57 k).toInt ≤ 67) ∧ (∀ k : Nat, k < 40 → (-200) ≤ (σ 58 k).toInt ∧ (σ 58 k).toInt ≤ 500) ∧ (∀ k : Nat, k < 40 → (-200) ≤ (σ 59 k).toInt ∧ (σ 59 k).toInt ≤ 500) := id hI101
  obtain ⟨i29, w30, w31⟩ : (0 ≤ (σ 55 6).toInt ∧ (σ 55 6).toInt ≤ 4) ∧ (∀ k : Nat, k < 4 → 0 ≤ (σ 60 k).toInt ∧ (σ 60 k).toInt ≤ 50) ∧ (∀ k : Nat, k < 4 → 0 ≤ (σ 61 k).toInt ∧ (σ 61 k).toInt ≤ 20) := id hI102
  have i32 : 0 ≤ (σ 55 9).toInt ∧ (σ 55 9).toInt ≤ 3 := hI103
  obtain ⟨i33, i34, i35, w36, w37⟩ : (1 ≤ (σ 55 10).toInt ∧ (σ 55 10).toInt ≤ 8) ∧ (1 ≤ (σ 55 12).toInt ∧ (σ 55 12).toInt ≤ 12) ∧ (0 ≤ (σ 55 13).toInt ∧ (σ 55 13).toInt ≤ 999) ∧ (∀ k : Nat, k < 8 → 0 ≤ (σ 62 k).toInt ∧ (σ 62 k).toInt ≤ 3) ∧ (∀ k : Nat, k < 8 → 0 ≤ (σ 67 k).toInt ∧ (σ 67 k).toInt ≤ 3) := id hI104
  obtain ⟨i38, w39⟩ : (0 ≤ (σ 55 15).toInt ∧ (σ 55 15).toInt ≤ 80) ∧ (∀ k : Nat, k < 2 → (-1) ≤ (σ 65 k).toInt ∧ (σ 65 k).toInt ≤ 80) := id hI105
  obtain ⟨i40, w41, w42, w43⟩ : (0 ≤ (σ 55 32).toInt ∧ (σ 55 32).toInt ≤ 20) ∧ (∀ k : Nat, k < 20 → 0 ≤ (σ 70 k).toInt ∧ (σ 70 k).toInt ≤ 6) ∧ (∀ k : Nat, k < 20 → 0 ≤ (σ 71 k).toInt ∧ (σ 71 k).toInt ≤ 8) ∧ (∀ k : Nat, k < 160 → 0 ≤ (σ 72 k).toInt ∧ (σ 72 k).toInt ≤ 3) := id hI106
  obtain ⟨i44, i45, w46⟩ : (0 ≤ (σ 55 47).toInt ∧ (σ 55 47).toInt ≤ 12) ∧ ((σ 55 47).toInt ≤ (σ 55 12).toInt) ∧ (∀ k : Nat, k < 12 → 0 ≤ (σ 80 k).toInt ∧ (σ 80 k).toInt ≤ 3) := id hI107
  have hs_jOk3 : jOk3 σ := hr0.ok hr1.1
  refine lv_aload_n hx hb dL_law_1334 rfl (lv_at hl 2 rfl) ?_
  refine lv_aload_n hx hb dL_law_1335 rfl (lv_at hl 3 rfl) ?_
  refine lv_iload_n hx hb dL_law_1336 rfl (lv_at hl 0 rfl) ?_
  refine lv_iconst (v := 1) hx hb dL_law_1337 (by decide) ?_
  have g47 := jrg (rfl : x0.toInt = x0.toInt)
  refine lv_iadd hx hb dL_law_1338 ?_
  refine lv_topi (fun x48 ex48 => ?_)
  have tx48 : x48.toInt = x0.toInt + 1 := (jadd ex48 rfl jz_1 (by omega) (by omega)).trans (by omega)
  refine va_sld hx hb hX hbl hbA hS (jin tx48 (by omega) (by omega)) dL_law_1339 ?_
  have g49 := jrg (rfl : (xs x48.toNatClampNeg).toInt = (xs x48.toNatClampNeg).toInt)
  refine jcallV (As := [.int (xs x48.toNatClampNeg)]) (rest := []) ⟨hx, hb, hml, hown, hts⟩ hK hP hA hS hZ (c_X11_count l D cI cL ad zz hJ σ τ (xs x48.toNatClampNeg) ((xs x48.toNatClampNeg).toInt) rfl hI2 hI9 hI38 hI47) cw_RL_166 (jc_0 cI cL ad σ τ) rfl ⟨Nat.le_of_ble_eq_true rfl, Nat.le_of_ble_eq_true rfl⟩ rfl rfl rfl hl.1 rfl (Nat.le_of_ble_eq_true rfl) dL_law_1340 ⟨Nat.le_of_ble_eq_true rfl, Nat.le_of_ble_eq_true rfl⟩ (fun r51 σ50 τ50 H locs h50 hP hS => ?_)
  obtain ⟨⟨rfl, rfl⟩, h50⟩ := h50
  rcases h50 with h52 | h53 | h54 | h55 | h56 | h57 | h58
  · obtain ⟨q61, k59, k60⟩ := h52
    refine lv_pop hx hb dL_law_1343 rfl ?_
    refine lv_aload_n hx hb dL_law_1344 rfl (lv_at hl 1 rfl) ?_
    refine lv_aload_n hx hb dL_law_1345 rfl (lv_at hl 3 rfl) ?_
    refine lv_iload_n hx hb dL_law_1346 rfl (lv_at hl 0 rfl) ?_
    refine lv_iconst (v := 1) hx hb dL_law_1347 (by decide) ?_
    refine lv_iadd hx hb dL_law_1348 ?_
    refine jtopr ex48.symm ?_
    refine va_sld hx hb hX hbl hbA hS (jin tx48 (by omega) (by omega)) dL_law_1349 ?_
    refine jcallV (As := [.int (xs x48.toNatClampNeg)]) (rest := []) ⟨hx, hb, hml, hown, hts⟩ hK hP hA hS hZ (c_X12_count l D cI cL ad zz hJ σ τ (xs x48.toNatClampNeg) ((xs x48.toNatClampNeg).toInt) rfl hI101 hI102 hI105 hI106 hI107) cw_RL_169 (jc_55 cI cL ad σ τ) rfl ⟨Nat.le_of_ble_eq_true rfl, Nat.le_of_ble_eq_true rfl⟩ rfl rfl rfl hl.1 rfl (Nat.le_of_ble_eq_true rfl) dL_law_1350 ⟨Nat.le_of_ble_eq_true rfl, Nat.le_of_ble_eq_true rfl⟩ (fun r63 σ62 τ62 H locs h62 hP hS => ?_)
    obtain ⟨⟨rfl, rfl⟩, h62⟩ := h62
    rcases h62 with h64 | h65 | h66 | h67 | h68 | h69 | h70
    · obtain ⟨q73, k71, k72⟩ := h64
      refine lv_pop hx hb dL_law_1353 rfl ?_
      refine lv_goto (tgt := 1357) hx hb dL_law_1354 (by decide) ?_
      obtain ⟨x74, ex74⟩ : ∃ y : Int32, y = x0 + 6 := ⟨_, rfl⟩
      have tx74 : x74.toInt = x0.toInt + 6 := (jadd ex74 rfl jz_6 (by omega) (by omega)).trans (by omega)
      refine lv_iinc (v := x74) (lv' := [(3, .int x74), (2, .ref (ad 55)), (1, .ref (ad 0)), (0, .ref b)]) hx hb dL_law_1357 hl (k := 0) rfl (by rw [ex74]; rfl) (by decide) rfl (fun ls hl => ?_)
      refine lv_goto (tgt := 18) hx hb dL_law_1360 (by decide) ?_
      exact ih x74 σ τ _ _ ls (by have h9 := tx74; omega) ⟨hI2, hI9, hI12, hI16, hI18, hI22, hI31, hI38, hI43, hI47, hI50, hI0, hI26, hI101, hI102, hI103, hI104, hI105, hI106, hI107, hI109, hI110, hI111, hI119, hs_jKept, hs_jBook, hs_jNd12, hs_jN67, hs_jBl, hs_jKb, hs_jTR, hs_jKh, hs_jKg, (by omega), (by omega), (by omega), (by omega), (by omega), (by omega), (by omega), (by omega), (by omega), (by omega), (by omega), (by omega), (by omega), (by have h9 := tx74; omega), hr0, hr1, hr2, hr3, hr4, hr5, hr6, hr7, hr8, hr9, hr10, hr11, hr12⟩ hP hS (lv_sub hl [0, 1, 2, 3] rfl)
    · obtain ⟨q77, k75, k76⟩ := h65
      exact absurd (by omega : False) id
    · obtain ⟨q80, k78, k79⟩ := h66
      exact absurd (by omega : False) id
    · obtain ⟨q83, k81, k82⟩ := h67
      exact absurd (by omega : False) id
    · obtain ⟨q86, k84, k85⟩ := h68
      exact absurd (by omega : False) id
    · obtain ⟨q89, k87, k88⟩ := h69
      exact absurd (by omega : False) id
    · obtain ⟨q91, k90⟩ := h70
      exact absurd (by omega : False) id
  · obtain ⟨q94, k92, k93⟩ := h53
    refine lv_pop hx hb dL_law_1343 rfl ?_
    refine lv_aload_n hx hb dL_law_1344 rfl (lv_at hl 1 rfl) ?_
    refine lv_aload_n hx hb dL_law_1345 rfl (lv_at hl 3 rfl) ?_
    refine lv_iload_n hx hb dL_law_1346 rfl (lv_at hl 0 rfl) ?_
    refine lv_iconst (v := 1) hx hb dL_law_1347 (by decide) ?_
    refine lv_iadd hx hb dL_law_1348 ?_
    refine jtopr ex48.symm ?_
    refine va_sld hx hb hX hbl hbA hS (jin tx48 (by omega) (by omega)) dL_law_1349 ?_
    refine jcallV (As := [.int (xs x48.toNatClampNeg)]) (rest := []) ⟨hx, hb, hml, hown, hts⟩ hK hP hA hS hZ (c_X12_count l D cI cL ad zz hJ σ τ (xs x48.toNatClampNeg) ((xs x48.toNatClampNeg).toInt) rfl hI101 hI102 hI105 hI106 hI107) cw_RL_169 (jc_55 cI cL ad σ τ) rfl ⟨Nat.le_of_ble_eq_true rfl, Nat.le_of_ble_eq_true rfl⟩ rfl rfl rfl hl.1 rfl (Nat.le_of_ble_eq_true rfl) dL_law_1350 ⟨Nat.le_of_ble_eq_true rfl, Nat.le_of_ble_eq_true rfl⟩ (fun r96 σ95 τ95 H locs h95 hP hS => ?_)
    obtain ⟨⟨rfl, rfl⟩, h95⟩ := h95
    rcases h95 with h97 | h98 | h99 | h100 | h101 | h102 | h103
    · obtain ⟨q106, k104, k105⟩ := h97
      exact absurd (by omega : False) id
    · obtain ⟨q109, k107, k108⟩ := h98
      refine lv_pop hx hb dL_law_1353 rfl ?_
      refine lv_goto (tgt := 1357) hx hb dL_law_1354 (by decide) ?_
      obtain ⟨x110, ex110⟩ : ∃ y : Int32, y = x0 + 6 := ⟨_, rfl⟩
      have tx110 : x110.toInt = x0.toInt + 6 := (jadd ex110 rfl jz_6 (by omega) (by omega)).trans (by omega)
      refine lv_iinc (v := x110) (lv' := [(3, .int x110), (2, .ref (ad 55)), (1, .ref (ad 0)), (0, .ref b)]) hx hb dL_law_1357 hl (k := 0) rfl (by rw [ex110]; rfl) (by decide) rfl (fun ls hl => ?_)
      refine lv_goto (tgt := 18) hx hb dL_law_1360 (by decide) ?_
      exact ih x110 σ τ _ _ ls (by have h9 := tx110; omega) ⟨hI2, hI9, hI12, hI16, hI18, hI22, hI31, hI38, hI43, hI47, hI50, hI0, hI26, hI101, hI102, hI103, hI104, hI105, hI106, hI107, hI109, hI110, hI111, hI119, hs_jKept, hs_jBook, hs_jNd12, hs_jN67, hs_jBl, hs_jKb, hs_jTR, hs_jKh, hs_jKg, (by omega), (by omega), (by omega), (by omega), (by omega), (by omega), (by omega), (by omega), (by omega), (by omega), (by omega), (by omega), (by omega), (by have h9 := tx110; omega), hr0, hr1, hr2, hr3, hr4, hr5, hr6, hr7, hr8, hr9, hr10, hr11, hr12⟩ hP hS (lv_sub hl [0, 1, 2, 3] rfl)
    · obtain ⟨q113, k111, k112⟩ := h99
      exact absurd (by omega : False) id
    · obtain ⟨q116, k114, k115⟩ := h100
      exact absurd (by omega : False) id
    · obtain ⟨q119, k117, k118⟩ := h101
      exact absurd (by omega : False) id
    · obtain ⟨q122, k120, k121⟩ := h102
      exact absurd (by omega : False) id
    · obtain ⟨q124, k123⟩ := h103
      exact absurd (by omega : False) id
  · obtain ⟨q127, k125, k126⟩ := h54
    refine lv_pop hx hb dL_law_1343 rfl ?_
    refine lv_aload_n hx hb dL_law_1344 rfl (lv_at hl 1 rfl) ?_
    refine lv_aload_n hx hb dL_law_1345 rfl (lv_at hl 3 rfl) ?_
    refine lv_iload_n hx hb dL_law_1346 rfl (lv_at hl 0 rfl) ?_
    refine lv_iconst (v := 1) hx hb dL_law_1347 (by decide) ?_
    refine lv_iadd hx hb dL_law_1348 ?_
    refine jtopr ex48.symm ?_
    refine va_sld hx hb hX hbl hbA hS (jin tx48 (by omega) (by omega)) dL_law_1349 ?_
    refine jcallV (As := [.int (xs x48.toNatClampNeg)]) (rest := []) ⟨hx, hb, hml, hown, hts⟩ hK hP hA hS hZ (c_X12_count l D cI cL ad zz hJ σ τ (xs x48.toNatClampNeg) ((xs x48.toNatClampNeg).toInt) rfl hI101 hI102 hI105 hI106 hI107) cw_RL_169 (jc_55 cI cL ad σ τ) rfl ⟨Nat.le_of_ble_eq_true rfl, Nat.le_of_ble_eq_true rfl⟩ rfl rfl rfl hl.1 rfl (Nat.le_of_ble_eq_true rfl) dL_law_1350 ⟨Nat.le_of_ble_eq_true rfl, Nat.le_of_ble_eq_true rfl⟩ (fun r129 σ128 τ128 H locs h128 hP hS => ?_)
    obtain ⟨⟨rfl, rfl⟩, h128⟩ := h128
    rcases h128 with h130 | h131 | h132 | h133 | h134 | h135 | h136
    · obtain ⟨q139, k137, k138⟩ := h130
      exact absurd (by omega : False) id
    · obtain ⟨q142, k140, k141⟩ := h131
      exact absurd (by omega : False) id
    · obtain ⟨q145, k143, k144⟩ := h132
      refine lv_pop hx hb dL_law_1353 rfl ?_
      refine lv_goto (tgt := 1357) hx hb dL_law_1354 (by decide) ?_
      obtain ⟨x146, ex146⟩ : ∃ y : Int32, y = x0 + 6 := ⟨_, rfl⟩
      have tx146 : x146.toInt = x0.toInt + 6 := (jadd ex146 rfl jz_6 (by omega) (by omega)).trans (by omega)
      refine lv_iinc (v := x146) (lv' := [(3, .int x146), (2, .ref (ad 55)), (1, .ref (ad 0)), (0, .ref b)]) hx hb dL_law_1357 hl (k := 0) rfl (by rw [ex146]; rfl) (by decide) rfl (fun ls hl => ?_)
      refine lv_goto (tgt := 18) hx hb dL_law_1360 (by decide) ?_
      exact ih x146 σ τ _ _ ls (by have h9 := tx146; omega) ⟨hI2, hI9, hI12, hI16, hI18, hI22, hI31, hI38, hI43, hI47, hI50, hI0, hI26, hI101, hI102, hI103, hI104, hI105, hI106, hI107, hI109, hI110, hI111, hI119, hs_jKept, hs_jBook, hs_jNd12, hs_jN67, hs_jBl, hs_jKb, hs_jTR, hs_jKh, hs_jKg, (by omega), (by omega), (by omega), (by omega), (by omega), (by omega), (by omega), (by omega), (by omega), (by omega), (by omega), (by omega), (by omega), (by have h9 := tx146; omega), hr0, hr1, hr2, hr3, hr4, hr5, hr6, hr7, hr8, hr9, hr10, hr11, hr12⟩ hP hS (lv_sub hl [0, 1, 2, 3] rfl)
    · obtain ⟨q149, k147, k148⟩ := h133
      exact absurd (by omega : False) id
    · obtain ⟨q152, k150, k151⟩ := h134
      exact absurd (by omega : False) id
    · obtain ⟨q155, k153, k154⟩ := h135
      exact absurd (by omega : False) id
    · obtain ⟨q157, k156⟩ := h136
      exact absurd (by omega : False) id
  · obtain ⟨q160, k158, k159⟩ := h55
    refine lv_pop hx hb dL_law_1343 rfl ?_
    refine lv_aload_n hx hb dL_law_1344 rfl (lv_at hl 1 rfl) ?_
    refine lv_aload_n hx hb dL_law_1345 rfl (lv_at hl 3 rfl) ?_
    refine lv_iload_n hx hb dL_law_1346 rfl (lv_at hl 0 rfl) ?_
    refine lv_iconst (v := 1) hx hb dL_law_1347 (by decide) ?_
    refine lv_iadd hx hb dL_law_1348 ?_
    refine jtopr ex48.symm ?_
    refine va_sld hx hb hX hbl hbA hS (jin tx48 (by omega) (by omega)) dL_law_1349 ?_
    refine jcallV (As := [.int (xs x48.toNatClampNeg)]) (rest := []) ⟨hx, hb, hml, hown, hts⟩ hK hP hA hS hZ (c_X12_count l D cI cL ad zz hJ σ τ (xs x48.toNatClampNeg) ((xs x48.toNatClampNeg).toInt) rfl hI101 hI102 hI105 hI106 hI107) cw_RL_169 (jc_55 cI cL ad σ τ) rfl ⟨Nat.le_of_ble_eq_true rfl, Nat.le_of_ble_eq_true rfl⟩ rfl rfl rfl hl.1 rfl (Nat.le_of_ble_eq_true rfl) dL_law_1350 ⟨Nat.le_of_ble_eq_true rfl, Nat.le_of_ble_eq_true rfl⟩ (fun r162 σ161 τ161 H locs h161 hP hS => ?_)
    obtain ⟨⟨rfl, rfl⟩, h161⟩ := h161
    rcases h161 with h163 | h164 | h165 | h166 | h167 | h168 | h169
    · obtain ⟨q172, k170, k171⟩ := h163
      exact absurd (by omega : False) id
    · obtain ⟨q175, k173, k174⟩ := h164
      exact absurd (by omega : False) id
    · obtain ⟨q178, k176, k177⟩ := h165
      exact absurd (by omega : False) id
    · obtain ⟨q181, k179, k180⟩ := h166
      refine lv_pop hx hb dL_law_1353 rfl ?_
      refine lv_goto (tgt := 1357) hx hb dL_law_1354 (by decide) ?_
      obtain ⟨x182, ex182⟩ : ∃ y : Int32, y = x0 + 6 := ⟨_, rfl⟩
      have tx182 : x182.toInt = x0.toInt + 6 := (jadd ex182 rfl jz_6 (by omega) (by omega)).trans (by omega)
      refine lv_iinc (v := x182) (lv' := [(3, .int x182), (2, .ref (ad 55)), (1, .ref (ad 0)), (0, .ref b)]) hx hb dL_law_1357 hl (k := 0) rfl (by rw [ex182]; rfl) (by decide) rfl (fun ls hl => ?_)
      refine lv_goto (tgt := 18) hx hb dL_law_1360 (by decide) ?_
      exact ih x182 σ τ _ _ ls (by have h9 := tx182; omega) ⟨hI2, hI9, hI12, hI16, hI18, hI22, hI31, hI38, hI43, hI47, hI50, hI0, hI26, hI101, hI102, hI103, hI104, hI105, hI106, hI107, hI109, hI110, hI111, hI119, hs_jKept, hs_jBook, hs_jNd12, hs_jN67, hs_jBl, hs_jKb, hs_jTR, hs_jKh, hs_jKg, (by omega), (by omega), (by omega), (by omega), (by omega), (by omega), (by omega), (by omega), (by omega), (by omega), (by omega), (by omega), (by omega), (by have h9 := tx182; omega), hr0, hr1, hr2, hr3, hr4, hr5, hr6, hr7, hr8, hr9, hr10, hr11, hr12⟩ hP hS (lv_sub hl [0, 1, 2, 3] rfl)
    · obtain ⟨q185, k183, k184⟩ := h167
      exact absurd (by omega : False) id
    · obtain ⟨q188, k186, k187⟩ := h168
      exact absurd (by omega : False) id
    · obtain ⟨q190, k189⟩ := h169
      exact absurd (by omega : False) id
  · obtain ⟨q193, k191, k192⟩ := h56
    refine lv_pop hx hb dL_law_1343 rfl ?_
    refine lv_aload_n hx hb dL_law_1344 rfl (lv_at hl 1 rfl) ?_
    refine lv_aload_n hx hb dL_law_1345 rfl (lv_at hl 3 rfl) ?_
    refine lv_iload_n hx hb dL_law_1346 rfl (lv_at hl 0 rfl) ?_
    refine lv_iconst (v := 1) hx hb dL_law_1347 (by decide) ?_
    refine lv_iadd hx hb dL_law_1348 ?_
    refine jtopr ex48.symm ?_
    refine va_sld hx hb hX hbl hbA hS (jin tx48 (by omega) (by omega)) dL_law_1349 ?_
    refine jcallV (As := [.int (xs x48.toNatClampNeg)]) (rest := []) ⟨hx, hb, hml, hown, hts⟩ hK hP hA hS hZ (c_X12_count l D cI cL ad zz hJ σ τ (xs x48.toNatClampNeg) ((xs x48.toNatClampNeg).toInt) rfl hI101 hI102 hI105 hI106 hI107) cw_RL_169 (jc_55 cI cL ad σ τ) rfl ⟨Nat.le_of_ble_eq_true rfl, Nat.le_of_ble_eq_true rfl⟩ rfl rfl rfl hl.1 rfl (Nat.le_of_ble_eq_true rfl) dL_law_1350 ⟨Nat.le_of_ble_eq_true rfl, Nat.le_of_ble_eq_true rfl⟩ (fun r195 σ194 τ194 H locs h194 hP hS => ?_)
    obtain ⟨⟨rfl, rfl⟩, h194⟩ := h194
    rcases h194 with h196 | h197 | h198 | h199 | h200 | h201 | h202
    · obtain ⟨q205, k203, k204⟩ := h196
      exact absurd (by omega : False) id
    · obtain ⟨q208, k206, k207⟩ := h197
      exact absurd (by omega : False) id
    · obtain ⟨q211, k209, k210⟩ := h198
      exact absurd (by omega : False) id
    · obtain ⟨q214, k212, k213⟩ := h199
      exact absurd (by omega : False) id
    · obtain ⟨q217, k215, k216⟩ := h200
      refine lv_pop hx hb dL_law_1353 rfl ?_
      refine lv_goto (tgt := 1357) hx hb dL_law_1354 (by decide) ?_
      obtain ⟨x218, ex218⟩ : ∃ y : Int32, y = x0 + 6 := ⟨_, rfl⟩
      have tx218 : x218.toInt = x0.toInt + 6 := (jadd ex218 rfl jz_6 (by omega) (by omega)).trans (by omega)
      refine lv_iinc (v := x218) (lv' := [(3, .int x218), (2, .ref (ad 55)), (1, .ref (ad 0)), (0, .ref b)]) hx hb dL_law_1357 hl (k := 0) rfl (by rw [ex218]; rfl) (by decide) rfl (fun ls hl => ?_)
      refine lv_goto (tgt := 18) hx hb dL_law_1360 (by decide) ?_
      exact ih x218 σ τ _ _ ls (by have h9 := tx218; omega) ⟨hI2, hI9, hI12, hI16, hI18, hI22, hI31, hI38, hI43, hI47, hI50, hI0, hI26, hI101, hI102, hI103, hI104, hI105, hI106, hI107, hI109, hI110, hI111, hI119, hs_jKept, hs_jBook, hs_jNd12, hs_jN67, hs_jBl, hs_jKb, hs_jTR, hs_jKh, hs_jKg, (by omega), (by omega), (by omega), (by omega), (by omega), (by omega), (by omega), (by omega), (by omega), (by omega), (by omega), (by omega), (by omega), (by have h9 := tx218; omega), hr0, hr1, hr2, hr3, hr4, hr5, hr6, hr7, hr8, hr9, hr10, hr11, hr12⟩ hP hS (lv_sub hl [0, 1, 2, 3] rfl)
    · obtain ⟨q221, k219, k220⟩ := h201
      exact absurd (by omega : False) id
    · obtain ⟨q223, k222⟩ := h202
      exact absurd (by omega : False) id
  · obtain ⟨q226, k224, k225⟩ := h57
    refine lv_pop hx hb dL_law_1343 rfl ?_
    refine lv_aload_n hx hb dL_law_1344 rfl (lv_at hl 1 rfl) ?_
    refine lv_aload_n hx hb dL_law_1345 rfl (lv_at hl 3 rfl) ?_
    refine lv_iload_n hx hb dL_law_1346 rfl (lv_at hl 0 rfl) ?_
    refine lv_iconst (v := 1) hx hb dL_law_1347 (by decide) ?_
    refine lv_iadd hx hb dL_law_1348 ?_
    refine jtopr ex48.symm ?_
    refine va_sld hx hb hX hbl hbA hS (jin tx48 (by omega) (by omega)) dL_law_1349 ?_
    refine jcallV (As := [.int (xs x48.toNatClampNeg)]) (rest := []) ⟨hx, hb, hml, hown, hts⟩ hK hP hA hS hZ (c_X12_count l D cI cL ad zz hJ σ τ (xs x48.toNatClampNeg) ((xs x48.toNatClampNeg).toInt) rfl hI101 hI102 hI105 hI106 hI107) cw_RL_169 (jc_55 cI cL ad σ τ) rfl ⟨Nat.le_of_ble_eq_true rfl, Nat.le_of_ble_eq_true rfl⟩ rfl rfl rfl hl.1 rfl (Nat.le_of_ble_eq_true rfl) dL_law_1350 ⟨Nat.le_of_ble_eq_true rfl, Nat.le_of_ble_eq_true rfl⟩ (fun r228 σ227 τ227 H locs h227 hP hS => ?_)
    obtain ⟨⟨rfl, rfl⟩, h227⟩ := h227
    rcases h227 with h229 | h230 | h231 | h232 | h233 | h234 | h235
    · obtain ⟨q238, k236, k237⟩ := h229
      exact absurd (by omega : False) id
    · obtain ⟨q241, k239, k240⟩ := h230
      exact absurd (by omega : False) id
    · obtain ⟨q244, k242, k243⟩ := h231
      exact absurd (by omega : False) id
    · obtain ⟨q247, k245, k246⟩ := h232
      exact absurd (by omega : False) id
    · obtain ⟨q250, k248, k249⟩ := h233
      exact absurd (by omega : False) id
    · obtain ⟨q253, k251, k252⟩ := h234
      refine lv_pop hx hb dL_law_1353 rfl ?_
      refine lv_goto (tgt := 1357) hx hb dL_law_1354 (by decide) ?_
      obtain ⟨x254, ex254⟩ : ∃ y : Int32, y = x0 + 6 := ⟨_, rfl⟩
      have tx254 : x254.toInt = x0.toInt + 6 := (jadd ex254 rfl jz_6 (by omega) (by omega)).trans (by omega)
      refine lv_iinc (v := x254) (lv' := [(3, .int x254), (2, .ref (ad 55)), (1, .ref (ad 0)), (0, .ref b)]) hx hb dL_law_1357 hl (k := 0) rfl (by rw [ex254]; rfl) (by decide) rfl (fun ls hl => ?_)
      refine lv_goto (tgt := 18) hx hb dL_law_1360 (by decide) ?_
      exact ih x254 σ τ _ _ ls (by have h9 := tx254; omega) ⟨hI2, hI9, hI12, hI16, hI18, hI22, hI31, hI38, hI43, hI47, hI50, hI0, hI26, hI101, hI102, hI103, hI104, hI105, hI106, hI107, hI109, hI110, hI111, hI119, hs_jKept, hs_jBook, hs_jNd12, hs_jN67, hs_jBl, hs_jKb, hs_jTR, hs_jKh, hs_jKg, (by omega), (by omega), (by omega), (by omega), (by omega), (by omega), (by omega), (by omega), (by omega), (by omega), (by omega), (by omega), (by omega), (by have h9 := tx254; omega), hr0, hr1, hr2, hr3, hr4, hr5, hr6, hr7, hr8, hr9, hr10, hr11, hr12⟩ hP hS (lv_sub hl [0, 1, 2, 3] rfl)
    · obtain ⟨q256, k255⟩ := h235
      exact absurd (by omega : False) id
  · obtain ⟨q258, k257⟩ := h58
    have q258 := q258.symm
    subst q258
    refine lv_pop hx hb dL_law_1343 rfl ?_
    refine lv_aload_n hx hb dL_law_1344 rfl (lv_at hl 1 rfl) ?_
    refine lv_aload_n hx hb dL_law_1345 rfl (lv_at hl 3 rfl) ?_
    refine lv_iload_n hx hb dL_law_1346 rfl (lv_at hl 0 rfl) ?_
    refine lv_iconst (v := 1) hx hb dL_law_1347 (by decide) ?_
    refine lv_iadd hx hb dL_law_1348 ?_
    refine jtopr ex48.symm ?_
    refine va_sld hx hb hX hbl hbA hS (jin tx48 (by omega) (by omega)) dL_law_1349 ?_
    refine jcallV (As := [.int (xs x48.toNatClampNeg)]) (rest := []) ⟨hx, hb, hml, hown, hts⟩ hK hP hA hS hZ (c_X12_count l D cI cL ad zz hJ σ τ (xs x48.toNatClampNeg) ((xs x48.toNatClampNeg).toInt) rfl hI101 hI102 hI105 hI106 hI107) cw_RL_169 (jc_55 cI cL ad σ τ) rfl ⟨Nat.le_of_ble_eq_true rfl, Nat.le_of_ble_eq_true rfl⟩ rfl rfl rfl hl.1 rfl (Nat.le_of_ble_eq_true rfl) dL_law_1350 ⟨Nat.le_of_ble_eq_true rfl, Nat.le_of_ble_eq_true rfl⟩ (fun r260 σ259 τ259 H locs h259 hP hS => ?_)
    obtain ⟨⟨rfl, rfl⟩, h259⟩ := h259
    rcases h259 with h261 | h262 | h263 | h264 | h265 | h266 | h267
    · obtain ⟨q270, k268, k269⟩ := h261
      exact absurd (by omega : False) id
    · obtain ⟨q273, k271, k272⟩ := h262
      exact absurd (by omega : False) id
    · obtain ⟨q276, k274, k275⟩ := h263
      exact absurd (by omega : False) id
    · obtain ⟨q279, k277, k278⟩ := h264
      exact absurd (by omega : False) id
    · obtain ⟨q282, k280, k281⟩ := h265
      exact absurd (by omega : False) id
    · obtain ⟨q285, k283, k284⟩ := h266
      exact absurd (by omega : False) id
    · obtain ⟨q287, k286⟩ := h267
      have q287 := q287.symm
      subst q287
      refine lv_pop hx hb dL_law_1353 rfl ?_
      refine lv_goto (tgt := 1357) hx hb dL_law_1354 (by decide) ?_
      obtain ⟨x288, ex288⟩ : ∃ y : Int32, y = x0 + 6 := ⟨_, rfl⟩
      have tx288 : x288.toInt = x0.toInt + 6 := (jadd ex288 rfl jz_6 (by omega) (by omega)).trans (by omega)
      refine lv_iinc (v := x288) (lv' := [(3, .int x288), (2, .ref (ad 55)), (1, .ref (ad 0)), (0, .ref b)]) hx hb dL_law_1357 hl (k := 0) rfl (by rw [ex288]; rfl) (by decide) rfl (fun ls hl => ?_)
      refine lv_goto (tgt := 18) hx hb dL_law_1360 (by decide) ?_
      exact ih x288 σ τ _ _ ls (by have h9 := tx288; omega) ⟨hI2, hI9, hI12, hI16, hI18, hI22, hI31, hI38, hI43, hI47, hI50, hI0, hI26, hI101, hI102, hI103, hI104, hI105, hI106, hI107, hI109, hI110, hI111, hI119, hs_jKept, hs_jBook, hs_jNd12, hs_jN67, hs_jBl, hs_jKb, hs_jTR, hs_jKh, hs_jKg, (by omega), (by omega), (by omega), (by omega), (by omega), (by omega), (by omega), (by omega), (by omega), (by omega), (by omega), (by omega), (by omega), (by have h9 := tx288; omega), hr0, hr1, hr2, hr3, hr4, hr5, hr6, hr7, hr8, hr9, hr10, hr11, hr12⟩ hP hS (lv_sub hl [0, 1, 2, 3] rfl)
set_option maxHeartbeats 4000000 in
set_option maxRecDepth 100000 in
theorem law_case_37 {p : Program} {e : Env} {s : State} {m : MethodId} {below : List Frame} {meth : Method} {c : Code} (l : Launch) {b L : Nat} {xs : Nat → Int32} {D : va_G} {cI cL : ClassId} {ad zz : Nat → Nat} (C0 : lw_At p s m meth c b L xs) (hJ : jD ad) (hA : ∀ q, jA ad q → s.heap.size ≤ q) (hK : jK D cI cL s) (hZ : jZ zz (fun q : Nat => s.heap.size ≤ q) s s.heap) {x0 : Int32} (hx0 : 0 ≤ x0.toInt) (hxL : x0.toInt + 6 ≤ (L : Int)) (hL : L ≤ 384) {σ : Nat → Nat → Int32} {τ : Nat → Nat → Int64} {H : Heap} {locs : List Loc} (hS : va_S (fun q : Nat => s.heap.size ≤ q) s.heap H locs) {ls : Array Slot} (hAll : jAll x0.toInt σ τ) (hP : jH D cI cL ad σ τ H) (hl : lv_has ls 4 [(3, .int x0), (2, .ref (ad 55)), (1, .ref (ad 0)), (0, .ref b)]) (ih : ∀ (x1 : Int32) (σ : Nat → Nat → Int32) (τ : Nat → Nat → Int64) (H : Heap) (locs : List Loc) (ls : Array Slot), x1.toInt = x0.toInt + 6 → jAll x1.toInt σ τ → jH D cI cL ad σ τ H → va_S (fun q : Nat => s.heap.size ≤ q) s.heap H locs → lv_has ls 4 [(3, .int x1), (2, .ref (ad 55)), (1, .ref (ad 0)), (0, .ref b)] → W p l e room_1 s m #[Value.ref b] below meth c H locs 90 348600 (lw_Z below #[Value.ref b] s) (F0 m 18 ls [])) : W p l e room_1 s m #[Value.ref b] below meth c H locs 90 348600 (lw_Z below #[Value.ref b] s) (F0 m 1357 ls []) := by
  obtain ⟨hx, hb, hr, hml, hown, hts0, hX, hbl, hlocks, hgv⟩ := C0
  have hts : ∀ w ∈ wsL_law, w.before #[Value.ref b] s = true := fun w h => hts0 w (wsL_law_in w h)
  have hbA : ¬ (fun q : Nat => s.heap.size ≤ q) b := Nat.not_le.mpr hbl
  have hown : s.vm.findClass RL = some m.cls := hown
  obtain ⟨hI2, hI9, hI12, hI16, hI18, hI22, hI31, hI38, hI43, hI47, hI50, hI0, hI26, hI101, hI102, hI103, hI104, hI105, hI106, hI107, hI109, hI110, hI111, hI119, hs_jKept, hs_jBook, hs_jNd12, hs_jN67, hs_jBl, hs_jKb, hs_jTR, hs_jKh, hs_jKg, ht0, ht1, ht2, ht3, ht4, ht5, ht6, ht7, ht8, ht9, ht10, ht11, ht12, ht13, hr0, hr1, hr2, hr3, hr4, hr5, hr6, hr7, hr8, hr9, hr10, hr11, hr12⟩ := hAll
  have hL9 : (L : Int) ≤ 384 := by omega
  obtain ⟨i1, i2, i3, i4, i5, w6⟩ : (0 ≤ (σ 2 0).toInt ∧ (σ 2 0).toInt ≤ 4) ∧ (0 ≤ (σ 2 1).toInt ∧ (σ 2 1).toInt ≤ 3) ∧ (0 ≤ (σ 2 2).toInt) ∧ (0 ≤ (σ 2 3).toInt) ∧ ((σ 2 2).toInt + (σ 2 3).toInt ≤ 40) ∧ (∀ k : Nat, k < 40 → 0 ≤ (σ 6 k).toInt ∧ (σ 6 k).toInt ≤ 67) := id hI2
  obtain ⟨i7, w8, w9⟩ : (0 ≤ (σ 9 0).toInt ∧ (σ 9 0).toInt ≤ 80) ∧ (∀ k : Nat, k < 80 → 0 ≤ (σ 10 k).toInt ∧ (σ 10 k).toInt ≤ 255) ∧ (∀ k : Nat, k < 8 → 0 ≤ (σ 11 k).toInt ∧ (σ 11 k).toInt ≤ 3) := id hI9
  obtain ⟨i10, i11, i12, w13⟩ : (1 ≤ (σ 16 0).toInt ∧ (σ 16 0).toInt ≤ 8) ∧ (1 ≤ (σ 16 1).toInt ∧ (σ 16 1).toInt ≤ 12) ∧ (0 ≤ (σ 16 2).toInt ∧ (σ 16 2).toInt ≤ 999) ∧ (∀ k : Nat, k < 8 → 0 ≤ (σ 17 k).toInt ∧ (σ 17 k).toInt ≤ 3) := id hI16
  obtain ⟨i14, i15, w16⟩ : (0 ≤ (σ 38 0).toInt ∧ (σ 38 0).toInt ≤ 20) ∧ (0 ≤ (σ 38 1).toInt ∧ (σ 38 1).toInt ≤ 1000) ∧ (∀ k : Nat, k < 20 → 0 ≤ (σ 39 k).toInt ∧ (σ 39 k).toInt ≤ 6) := id hI38
  obtain ⟨i17, w18, w19⟩ : (0 ≤ (σ 47 0).toInt ∧ (σ 47 0).toInt ≤ 12) ∧ (∀ k : Nat, k < 12 → 0 ≤ (σ 48 k).toInt ∧ (σ 48 k).toInt ≤ 3) ∧ (∀ k : Nat, k < 12 → 0 ≤ (σ 49 k).toInt ∧ (σ 49 k).toInt ≤ 1) := id hI47
  have w20 : ∀ k : Nat, k < 6 → 0 ≤ (σ 52 k).toInt ∧ (σ 52 k).toInt ≤ 60 := hI50
  have i21 : 1 ≤ (σ 26 6).toInt ∧ (σ 26 6).toInt ≤ 8000 := hI26
  obtain ⟨i22, i23, i24, w25, w26, w27, w28⟩ : (0 ≤ (σ 55 5).toInt) ∧ ((σ 55 5).toInt ≤ (σ 55 4).toInt) ∧ ((σ 55 4).toInt ≤ 40) ∧ (∀ k : Nat, k < 68 → (-200) ≤ (σ 56 k).toInt ∧ (σ 56 k).toInt ≤ 500) ∧ (∀ k : Nat, k < 40 → 0 ≤ (σ 57 k).toInt ∧ (σ 57 k).toInt ≤ 67) ∧ (∀ k : Nat, k < 40 → (-200) ≤ (σ 58 k).toInt ∧ (σ 58 k).toInt ≤ 500) ∧ (∀ k : Nat, k < 40 → (-200) ≤ (σ 59 k).toInt ∧ (σ 59 k).toInt ≤ 500) := id hI101
  obtain ⟨i29, w30, w31⟩ : (0 ≤ (σ 55 6).toInt ∧ (σ 55 6).toInt ≤ 4) ∧ (∀ k : Nat, k < 4 → 0 ≤ (σ 60 k).toInt ∧ (σ 60 k).toInt ≤ 50) ∧ (∀ k : Nat, k < 4 → 0 ≤ (σ 61 k).toInt ∧ (σ 61 k).toInt ≤ 20) := id hI102
  have i32 : 0 ≤ (σ 55 9).toInt ∧ (σ 55 9).toInt ≤ 3 := hI103
  obtain ⟨i33, i34, i35, w36, w37⟩ : (1 ≤ (σ 55 10).toInt ∧ (σ 55 10).toInt ≤ 8) ∧ (1 ≤ (σ 55 12).toInt ∧ (σ 55 12).toInt ≤ 12) ∧ (0 ≤ (σ 55 13).toInt ∧ (σ 55 13).toInt ≤ 999) ∧ (∀ k : Nat, k < 8 → 0 ≤ (σ 62 k).toInt ∧ (σ 62 k).toInt ≤ 3) ∧ (∀ k : Nat, k < 8 → 0 ≤ (σ 67 k).toInt ∧ (σ 67 k).toInt ≤ 3) := id hI104
  obtain ⟨i38, w39⟩ : (0 ≤ (σ 55 15).toInt ∧ (σ 55 15).toInt ≤ 80) ∧ (∀ k : Nat, k < 2 → (-1) ≤ (σ 65 k).toInt ∧ (σ 65 k).toInt ≤ 80) := id hI105
  obtain ⟨i40, w41, w42, w43⟩ : (0 ≤ (σ 55 32).toInt ∧ (σ 55 32).toInt ≤ 20) ∧ (∀ k : Nat, k < 20 → 0 ≤ (σ 70 k).toInt ∧ (σ 70 k).toInt ≤ 6) ∧ (∀ k : Nat, k < 20 → 0 ≤ (σ 71 k).toInt ∧ (σ 71 k).toInt ≤ 8) ∧ (∀ k : Nat, k < 160 → 0 ≤ (σ 72 k).toInt ∧ (σ 72 k).toInt ≤ 3) := id hI106
  obtain ⟨i44, i45, w46⟩ : (0 ≤ (σ 55 47).toInt ∧ (σ 55 47).toInt ≤ 12) ∧ ((σ 55 47).toInt ≤ (σ 55 12).toInt) ∧ (∀ k : Nat, k < 12 → 0 ≤ (σ 80 k).toInt ∧ (σ 80 k).toInt ≤ 3) := id hI107
  have hs_jOk3 : jOk3 σ := hr0.ok hr1.1
  obtain ⟨x47, ex47⟩ : ∃ y : Int32, y = x0 + 6 := ⟨_, rfl⟩
  have tx47 : x47.toInt = x0.toInt + 6 := (jadd ex47 rfl jz_6 (by omega) (by omega)).trans (by omega)
  refine lv_iinc (v := x47) (lv' := [(3, .int x47), (2, .ref (ad 55)), (1, .ref (ad 0)), (0, .ref b)]) hx hb dL_law_1357 hl (k := 0) rfl (by rw [ex47]; rfl) (by decide) rfl (fun ls hl => ?_)
  refine lv_goto (tgt := 18) hx hb dL_law_1360 (by decide) ?_
  exact ih x47 σ τ _ _ ls (by have h9 := tx47; omega) ⟨hI2, hI9, hI12, hI16, hI18, hI22, hI31, hI38, hI43, hI47, hI50, hI0, hI26, hI101, hI102, hI103, hI104, hI105, hI106, hI107, hI109, hI110, hI111, hI119, hs_jKept, hs_jBook, hs_jNd12, hs_jN67, hs_jBl, hs_jKb, hs_jTR, hs_jKh, hs_jKg, (by omega), (by omega), (by omega), (by omega), (by omega), (by omega), (by omega), (by omega), (by omega), (by omega), (by omega), (by omega), (by omega), (by have h9 := tx47; omega), hr0, hr1, hr2, hr3, hr4, hr5, hr6, hr7, hr8, hr9, hr10, hr11, hr12⟩ hP hS (lv_sub hl [0, 1, 2, 3] rfl)
