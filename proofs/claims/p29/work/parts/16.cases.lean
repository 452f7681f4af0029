set_option maxHeartbeats 4000000 in
set_option maxRecDepth 100000 in
theorem law_case_19 {p : Program} {e : Env} {s : State} {m : MethodId} {below : List Frame} {meth : Method} {c : Code} (l : Launch) {b L : Nat} {xs : Nat → Int32} {D : va_G} {cI cL : ClassId} {ad zz : Nat → Nat} (C0 : lw_At p s m meth c b L xs) (hJ : jD ad) (hA : ∀ q, jA ad q → s.heap.size ≤ q) (hK : jK D cI cL s) (hZ : jZ zz (fun q : Nat => s.heap.size ≤ q) s s.heap) {x0 : Int32} (hx0 : 0 ≤ x0.toInt) (hxL : x0.toInt + 6 ≤ (L : Int)) (hL : L ≤ 384) {σ : Nat → Nat → Int32} {τ : Nat → Nat → Int64} {H : Heap} {locs : List Loc} (hS : va_S (fun q : Nat => s.heap.size ≤ q) s.heap H locs) {ls : Array Slot} (hAll : jAll σ τ) (hP : jH D cI cL ad σ τ H) (hl : lv_has ls 4 [(3, .int x0), (2, .ref (ad 55)), (1, .ref (ad 0)), (0, .ref b)]) (ih : ∀ (x1 : Int32) (σ : Nat → Nat → Int32) (τ : Nat → Nat → Int64) (H : Heap) (locs : List Loc) (ls : Array Slot), x1.toInt = x0.toInt + 6 → jAll σ τ → jH D cI cL ad σ τ H → va_S (fun q : Nat => s.heap.size ≤ q) s.heap H locs → lv_has ls 4 [(3, .int x1), (2, .ref (ad 55)), (1, .ref (ad 0)), (0, .ref b)] → W p l e room_1 s m #[Value.ref b] below meth c H locs 90 348600 (lw_Z below #[Value.ref b] s) (F0 m 18 ls [])) : W p l e room_1 s m #[Value.ref b] below meth c H locs 90 348600 (lw_Z below #[Value.ref b] s) (F0 m 773 ls []) := by
  obtain ⟨hx, hb, hr, hml, hown, hts0, hX, hbl, hlocks, hgv⟩ := C0
  have hts : ∀ w ∈ wsL_law, w.before #[Value.ref b] s = true := fun w h => hts0 w (wsL_law_in w h)
  have hbA : ¬ (fun q : Nat => s.heap.size ≤ q) b := Nat.not_le.mpr hbl
  have hown : s.vm.findClass RL = some m.cls := hown
  obtain ⟨hI2, hI9, hI12, hI16, hI18, hI22, hI31, hI38, hI43, hI47, hI50, hI101, hI102, hI103, hI104, hI105, hI106, hI107, hI109, hI110, hI111, hI119, hs_jKept, hs_jBook, ht0, ht1, ht2, hr0⟩ := hAll
  have hL9 : (L : Int) ≤ 384 := by omega
  obtain ⟨i1, i2, i3, i4, i5, w6⟩ : (0 ≤ (σ 2 0).toInt ∧ (σ 2 0).toInt ≤ 4) ∧ (0 ≤ (σ 2 1).toInt ∧ (σ 2 1).toInt ≤ 3) ∧ (0 ≤ (σ 2 2).toInt) ∧ (0 ≤ (σ 2 3).toInt) ∧ ((σ 2 2).toInt + (σ 2 3).toInt ≤ 40) ∧ (∀ k : Nat, k < 40 → 0 ≤ (σ 6 k).toInt ∧ (σ 6 k).toInt ≤ 67) := id hI2
  obtain ⟨i7, i8, i9, w10, w11, w12, w13⟩ : (0 ≤ (σ 55 5).toInt) ∧ ((σ 55 5).toInt ≤ (σ 55 4).toInt) ∧ ((σ 55 4).toInt ≤ 40) ∧ (∀ k : Nat, k < 68 → (-200) ≤ (σ 56 k).toInt ∧ (σ 56 k).toInt ≤ 500) ∧ (∀ k : Nat, k < 40 → 0 ≤ (σ 57 k).toInt ∧ (σ 57 k).toInt ≤ 67) ∧ (∀ k : Nat, k < 40 → (-200) ≤ (σ 58 k).toInt ∧ (σ 58 k).toInt ≤ 500) ∧ (∀ k : Nat, k < 40 → (-200) ≤ (σ 59 k).toInt ∧ (σ 59 k).toInt ≤ 500) := id hI101
  obtain ⟨i14, w15, w16⟩ : (0 ≤ (σ 55 6).toInt ∧ (σ 55 6).toInt ≤ 4) ∧ (∀ k : Nat, k < 4 → 0 ≤ (σ 60 k).toInt ∧ (σ 60 k).toInt ≤ 50) ∧ (∀ k : Nat, k < 4 → 0 ≤ (σ 61 k).toInt ∧ (σ 61 k).toInt ≤ 20) := id hI102
  refine lv_aload_n hx hb dL_law_773 rfl (lv_at hl 2 rfl) ?_
  refine lv_aload_n hx hb dL_law_774 rfl (lv_at hl 3 rfl) ?_
  refine lv_iload_n hx hb dL_law_775 rfl (lv_at hl 0 rfl) ?_
  refine lv_iconst (v := 1) hx hb dL_law_776 (by decide) ?_
  have g17 := jrg (rfl : x0.toInt = x0.toInt)
  refine lv_iadd hx hb dL_law_777 ?_
  refine lv_topi (fun x18 ex18 => ?_)
  have tx18 : x18.toInt = x0.toInt + 1 := (jadd ex18 rfl jz_1 (by omega) (by omega)).trans (by omega)
  refine va_sld hx hb hX hbl hbA hS (jin tx18 (by omega) (by omega)) dL_law_778 ?_
  have g19 := jrg (rfl : (xs x18.toNatClampNeg).toInt = (xs x18.toNatClampNeg).toInt)
  refine lv_aload_n hx hb dL_law_779 rfl (lv_at hl 3 rfl) ?_
  refine lv_iload_n hx hb dL_law_780 rfl (lv_at hl 0 rfl) ?_
  refine lv_iconst (v := 2) hx hb dL_law_781 (by decide) ?_
  refine lv_iadd hx hb dL_law_782 ?_
  refine lv_topi (fun x20 ex20 => ?_)
  have tx20 : x20.toInt = x0.toInt + 2 := (jadd ex20 rfl jz_2 (by omega) (by omega)).trans (by omega)
  refine va_sld hx hb hX hbl hbA hS (jin tx20 (by omega) (by omega)) dL_law_783 ?_
  have g21 := jrg (rfl : (xs x20.toNatClampNeg).toInt = (xs x20.toNatClampNeg).toInt)
  refine jcallV (As := [.int (xs x18.toNatClampNeg), .int (xs x20.toNatClampNeg)]) (rest := []) ⟨hx, hb, hml, hown, hts⟩ hK hP hA hS hZ (c_X11_book l D cI cL ad zz hJ σ τ (xs x18.toNatClampNeg) ((xs x18.toNatClampNeg).toInt) rfl (xs x20.toNatClampNeg) ((xs x20.toNatClampNeg).toInt) rfl hI2 hI16 hI47) cw_RL_93 (jc_0 cI cL ad σ τ) rfl ⟨Nat.le_of_ble_eq_true rfl, Nat.le_of_ble_eq_true rfl⟩ rfl rfl rfl hl.1 rfl (Nat.le_of_ble_eq_true rfl) dL_law_784 ⟨Nat.le_of_ble_eq_true rfl, Nat.le_of_ble_eq_true rfl⟩ (fun r23 σ22 τ22 H locs h22 hP hS => ?_)
  obtain ⟨rfl, f24, f25, I26, w27, h22⟩ := h22
  refine lv_pop hx hb dL_law_787 rfl ?_
  refine lv_aload_n hx hb dL_law_788 rfl (lv_at hl 1 rfl) ?_
  refine lv_aload_n hx hb dL_law_789 rfl (lv_at hl 3 rfl) ?_
  refine lv_iload_n hx hb dL_law_790 rfl (lv_at hl 0 rfl) ?_
  refine lv_iconst (v := 1) hx hb dL_law_791 (by decide) ?_
  refine lv_iadd hx hb dL_law_792 ?_
  refine jtopr ex18.symm ?_
  refine va_sld hx hb hX hbl hbA hS (jin tx18 (by omega) (by omega)) dL_law_793 ?_
  refine lv_aload_n hx hb dL_law_794 rfl (lv_at hl 3 rfl) ?_
  refine lv_iload_n hx hb dL_law_795 rfl (lv_at hl 0 rfl) ?_
  refine lv_iconst (v := 2) hx hb dL_law_796 (by decide) ?_
  refine lv_iadd hx hb dL_law_797 ?_
  refine jtopr ex20.symm ?_
  refine va_sld hx hb hX hbl hbA hS (jin tx20 (by omega) (by omega)) dL_law_798 ?_
  have I29 : jI102 σ22 := jI102_fr (congrFun (f24 55 (by decide)) 6) (f24 60 (by decide)) (f24 61 (by decide)) hI102
  have I30 : jI104 σ22 := jI104_fr (congrFun (f24 55 (by decide)) 10) (congrFun (f24 55 (by decide)) 12) (congrFun (f24 55 (by decide)) 13) (f24 62 (by decide)) (f24 67 (by decide)) hI104
  have I31 : jI107 σ22 := jI107_fr (congrFun (f24 55 (by decide)) 12) (congrFun (f24 55 (by decide)) 47) (f24 80 (by decide)) hI107
  have w32 : ∀ k : Nat, k < 4 → 0 ≤ (σ 68 k).toInt ∧ (σ 68 k).toInt ≤ 3 := hI119
  have w33 : ∀ k : Nat, k < 4 → 0 ≤ (σ22 68 k).toInt ∧ (σ22 68 k).toInt ≤ 3 := (jrr_fr (f24 68 (by decide)) w32)
  have p34 : jBook σ22 := jBook.fr (congrFun (f24 55 (by decide)) 47) (congrFun (f24 55 (by decide)) 10) (f24 81 (by decide)) hs_jBook
  have z35 : (σ22 55 47).toInt = (σ 55 47).toInt := (congrArg Int32.toInt (show σ22 55 47 = (σ 55 47) from (congrFun (f24 55 (by decide)) 47)))
  refine jcallV (As := [.int (xs x18.toNatClampNeg), .int (xs x20.toNatClampNeg)]) (rest := []) ⟨hx, hb, hml, hown, hts⟩ hK hP hA hS hZ (c_X12_book l D cI cL ad zz hJ σ22 τ (xs x18.toNatClampNeg) ((xs x18.toNatClampNeg).toInt) rfl (xs x20.toNatClampNeg) ((xs x20.toNatClampNeg).toInt) rfl I29 I30 I31 w33 p34) cw_RL_96 (jc_55 cI cL ad σ22 τ) rfl ⟨Nat.le_of_ble_eq_true rfl, Nat.le_of_ble_eq_true rfl⟩ rfl rfl rfl hl.1 rfl (Nat.le_of_ble_eq_true rfl) dL_law_799 ⟨Nat.le_of_ble_eq_true rfl, Nat.le_of_ble_eq_true rfl⟩ (fun r37 σ36 τ36 H locs h36 hP hS => ?_)
  obtain ⟨rfl, f38, f39, I40, w41, p42, w43, h36⟩ := h36
  rcases h36 with h45 | h46
  · obtain ⟨q49, k47, k48⟩ := h45
    refine lv_pop hx hb dL_law_802 rfl ?_
    refine lv_goto (tgt := 1357) hx hb dL_law_803 (by decide) ?_
    obtain ⟨x50, ex50⟩ : ∃ y : Int32, y = x0 + 6 := ⟨_, rfl⟩
    have tx50 : x50.toInt = x0.toInt + 6 := (jadd ex50 rfl jz_6 (by omega) (by omega)).trans (by omega)
    refine lv_iinc (v := x50) (lv' := [(3, .int x50), (2, .ref (ad 55)), (1, .ref (ad 0)), (0, .ref b)]) hx hb dL_law_1357 hl (k := 0) rfl (by rw [ex50]; rfl) (by decide) rfl (fun ls hl => ?_)
    refine lv_goto (tgt := 18) hx hb dL_law_1360 (by decide) ?_
    have I51 : jI2 σ36 := jI2_fr ((congrFun (f38 2 (by decide)) 0).trans (congrFun (f24 2 (by decide)) 0)) ((congrFun (f38 2 (by decide)) 1).trans (congrFun (f24 2 (by decide)) 1)) ((congrFun (f38 2 (by decide)) 2).trans (congrFun (f24 2 (by decide)) 2)) ((congrFun (f38 2 (by decide)) 3).trans (congrFun (f24 2 (by decide)) 3)) ((f38 6 (by decide)).trans (f24 6 (by decide))) hI2
    have I52 : jI9 σ36 := jI9_fr ((congrFun (f38 9 (by decide)) 0).trans (congrFun (f24 9 (by decide)) 0)) ((f38 10 (by decide)).trans (f24 10 (by decide))) ((f38 11 (by decide)).trans (f24 11 (by decide))) hI9
    have I53 : jI12 σ36 := jI12_fr ((congrFun (f38 12 (by decide)) 0).trans (congrFun (f24 12 (by decide)) 0)) ((f38 13 (by decide)).trans (f24 13 (by decide))) hI12
    have I54 : jI16 σ36 := jI16_fr ((congrFun (f38 16 (by decide)) 0).trans (congrFun (f24 16 (by decide)) 0)) ((congrFun (f38 16 (by decide)) 1).trans (congrFun (f24 16 (by decide)) 1)) ((congrFun (f38 16 (by decide)) 2).trans (congrFun (f24 16 (by decide)) 2)) ((f38 17 (by decide)).trans (f24 17 (by decide))) hI16
    have I55 : jI18 σ36 := jI18_fr ((congrFun (f38 18 (by decide)) 0).trans (congrFun (f24 18 (by decide)) 0)) ((f38 19 (by decide)).trans (f24 19 (by decide))) hI18
    have I56 : jI22 σ36 := jI22_fr ((congrFun (f38 22 (by decide)) 0).trans (congrFun (f24 22 (by decide)) 0)) ((f38 23 (by decide)).trans (f24 23 (by decide))) hI22
    have I57 : jI31 σ36 := jI31_fr ((congrFun (f38 31 (by decide)) 8).trans (congrFun (f24 31 (by decide)) 8)) ((f38 33 (by decide)).trans (f24 33 (by decide))) ((f38 36 (by decide)).trans (f24 36 (by decide))) hI31
    have I58 : jI38 σ36 := jI38_fr ((congrFun (f38 38 (by decide)) 0).trans (congrFun (f24 38 (by decide)) 0)) ((congrFun (f38 38 (by decide)) 1).trans (congrFun (f24 38 (by decide)) 1)) ((f38 39 (by decide)).trans (f24 39 (by decide))) hI38
    have I59 : jI43 σ36 := jI43_fr ((congrFun (f38 43 (by decide)) 8).trans (congrFun (f24 43 (by decide)) 8)) hI43
    have I60 : jI47 σ36 := jI47_fr (congrFun (f38 47 (by decide)) 0) (f38 48 (by decide)) (f38 49 (by decide)) I26
    have I61 : jI50 σ36 := jI50_fr ((f38 52 (by decide)).trans (f24 52 (by decide))) hI50
    have I62 : jI101 σ36 := jI101_fr ((f39 4 (by decide)).trans (congrFun (f24 55 (by decide)) 4)) ((f39 5 (by decide)).trans (congrFun (f24 55 (by decide)) 5)) ((f38 56 (by decide)).trans (f24 56 (by decide))) ((f38 57 (by decide)).trans (f24 57 (by decide))) ((f38 58 (by decide)).trans (f24 58 (by decide))) ((f38 59 (by decide)).trans (f24 59 (by decide))) hI101
    have I63 : jI102 σ36 := jI102_fr (f39 6 (by decide)) (f38 60 (by decide)) (f38 61 (by decide)) I29
    have I64 : jI103 σ36 := jI103_fr ((f39 9 (by decide)).trans (congrFun (f24 55 (by decide)) 9)) hI103
    have I65 : jI104 σ36 := jI104_fr (f39 10 (by decide)) (f39 12 (by decide)) (f39 13 (by decide)) (f38 62 (by decide)) (f38 67 (by decide)) I30
    have I66 : jI105 σ36 := jI105_fr ((f39 15 (by decide)).trans (congrFun (f24 55 (by decide)) 15)) ((f38 65 (by decide)).trans (f24 65 (by decide))) hI105
    have I67 : jI106 σ36 := jI106_fr ((f39 32 (by decide)).trans (congrFun (f24 55 (by decide)) 32)) ((f38 70 (by decide)).trans (f24 70 (by decide))) ((f38 71 (by decide)).trans (f24 71 (by decide))) ((f38 72 (by decide)).trans (f24 72 (by decide))) hI106
    have I68 : jI109 σ36 := jI109_fr ((f39 50 (by decide)).trans (congrFun (f24 55 (by decide)) 50)) hI109
    have I69 : jI110 σ36 := jI110_fr ((f38 86 (by decide)).trans (f24 86 (by decide))) ((f38 87 (by decide)).trans (f24 87 (by decide))) hI110
    have I70 : jI111 σ36 := jI111_fr ((f38 79 (by decide)).trans (f24 79 (by decide))) hI111
    have I71 : jI119 σ36 := w41
    have p72 : jKept σ36 := jKept.fr ((f38 75 (by decide)).trans (f24 75 (by decide))) ((f38 76 (by decide)).trans (f24 76 (by decide))) ((f38 77 (by decide)).trans (f24 77 (by decide))) hs_jKept
    have z73 : (σ36 2 0).toInt = (σ 2 0).toInt := (congrArg Int32.toInt (show σ36 2 0 = (σ 2 0) from ((congrFun (f38 2 (by decide)) 0).trans (congrFun (f24 2 (by decide)) 0))))
    have z74 : (σ36 55 6).toInt = (σ 55 6).toInt := (congrArg Int32.toInt (show σ36 55 6 = (σ 55 6) from ((f39 6 (by decide)).trans (congrFun (f24 55 (by decide)) 6))))
    have z75 : (σ36 2 2).toInt = (σ 2 2).toInt := (congrArg Int32.toInt (show σ36 2 2 = (σ 2 2) from ((congrFun (f38 2 (by decide)) 2).trans (congrFun (f24 2 (by decide)) 2))))
    have z76 : (σ36 55 5).toInt = (σ 55 5).toInt := (congrArg Int32.toInt (show σ36 55 5 = (σ 55 5) from ((f39 5 (by decide)).trans (congrFun (f24 55 (by decide)) 5))))
    have z77 : (σ36 2 3).toInt = (σ 2 3).toInt := (congrArg Int32.toInt (show σ36 2 3 = (σ 2 3) from ((congrFun (f38 2 (by decide)) 3).trans (congrFun (f24 2 (by decide)) 3))))
    have z78 : (σ36 55 4).toInt = (σ 55 4).toInt := (congrArg Int32.toInt (show σ36 55 4 = (σ 55 4) from ((f39 4 (by decide)).trans (congrFun (f24 55 (by decide)) 4))))
    exact ih x50 σ36 τ _ _ ls (by have h9 := tx50; omega) ⟨I51, I52, I53, I54, I55, I56, I57, I58, I59, I60, I61, I62, I63, I64, I65, I66, I67, I40, I68, I69, I70, I71, p72, p42, (by omega), (by omega), (by omega), (show jNumP (σ36 3) (σ36 56) (σ36 6) (σ36 57) (σ36 7) (σ36 58) (σ36 8) (σ36 59) (σ36 55 6).toInt (σ36 55 4).toInt by rw [show σ36 3 = σ 3 from ((f38 3 (by decide)).trans (f24 3 (by decide))), show σ36 56 = σ 56 from ((f38 56 (by decide)).trans (f24 56 (by decide))), show σ36 6 = σ 6 from ((f38 6 (by decide)).trans (f24 6 (by decide))), show σ36 57 = σ 57 from ((f38 57 (by decide)).trans (f24 57 (by decide))), show σ36 7 = σ 7 from ((f38 7 (by decide)).trans (f24 7 (by decide))), show σ36 58 = σ 58 from ((f38 58 (by decide)).trans (f24 58 (by decide))), show σ36 8 = σ 8 from ((f38 8 (by decide)).trans (f24 8 (by decide))), show σ36 59 = σ 59 from ((f38 59 (by decide)).trans (f24 59 (by decide))), show (σ36 55 6).toInt = (σ 55 6).toInt from by omega, show (σ36 55 4).toInt = (σ 55 4).toInt from by omega]; exact hr0)⟩ hP hS (lv_sub hl [0, 1, 2, 3] rfl)
  · obtain ⟨q81, k79, k80⟩ := h46
    refine lv_pop hx hb dL_law_802 rfl ?_
    refine lv_goto (tgt := 1357) hx hb dL_law_803 (by decide) ?_
    obtain ⟨x82, ex82⟩ : ∃ y : Int32, y = x0 + 6 := ⟨_, rfl⟩
    have tx82 : x82.toInt = x0.toInt + 6 := (jadd ex82 rfl jz_6 (by omega) (by omega)).trans (by omega)
    refine lv_iinc (v := x82) (lv' := [(3, .int x82), (2, .ref (ad 55)), (1, .ref (ad 0)), (0, .ref b)]) hx hb dL_law_1357 hl (k := 0) rfl (by rw [ex82]; rfl) (by decide) rfl (fun ls hl => ?_)
    refine lv_goto (tgt := 18) hx hb dL_law_1360 (by decide) ?_
    have I83 : jI2 σ36 := jI2_fr ((congrFun (f38 2 (by decide)) 0).trans (congrFun (f24 2 (by decide)) 0)) ((congrFun (f38 2 (by decide)) 1).trans (congrFun (f24 2 (by decide)) 1)) ((congrFun (f38 2 (by decide)) 2).trans (congrFun (f24 2 (by decide)) 2)) ((congrFun (f38 2 (by decide)) 3).trans (congrFun (f24 2 (by decide)) 3)) ((f38 6 (by decide)).trans (f24 6 (by decide))) hI2
    have I84 : jI9 σ36 := jI9_fr ((congrFun (f38 9 (by decide)) 0).trans (congrFun (f24 9 (by decide)) 0)) ((f38 10 (by decide)).trans (f24 10 (by decide))) ((f38 11 (by decide)).trans (f24 11 (by decide))) hI9
    have I85 : jI12 σ36 := jI12_fr ((congrFun (f38 12 (by decide)) 0).trans (congrFun (f24 12 (by decide)) 0)) ((f38 13 (by decide)).trans (f24 13 (by decide))) hI12
    have I86 : jI16 σ36 := jI16_fr ((congrFun (f38 16 (by decide)) 0).trans (congrFun (f24 16 (by decide)) 0)) ((congrFun (f38 16 (by decide)) 1).trans (congrFun (f24 16 (by decide)) 1)) ((congrFun (f38 16 (by decide)) 2).trans (congrFun (f24 16 (by decide)) 2)) ((f38 17 (by decide)).trans (f24 17 (by decide))) hI16
    have I87 : jI18 σ36 := jI18_fr ((congrFun (f38 18 (by decide)) 0).trans (congrFun (f24 18 (by decide)) 0)) ((f38 19 (by decide)).trans (f24 19 (by decide))) hI18
    have I88 : jI22 σ36 := jI22_fr ((congrFun (f38 22 (by decide)) 0).trans (congrFun (f24 22 (by decide)) 0)) ((f38 23 (by decide)).trans (f24 23 (by decide))) hI22
    have I89 : jI31 σ36 := jI31_fr ((congrFun (f38 31 (by decide)) 8).trans (congrFun (f24 31 (by decide)) 8)) ((f38 33 (by decide)).trans (f24 33 (by decide))) ((f38 36 (by decide)).trans (f24 36 (by decide))) hI31
    have I90 : jI38 σ36 := jI38_fr ((congrFun (f38 38 (by decide)) 0).trans (congrFun (f24 38 (by decide)) 0)) ((congrFun (f38 38 (by decide)) 1).trans (congrFun (f24 38 (by decide)) 1)) ((f38 39 (by decide)).trans (f24 39 (by decide))) hI38
    have I91 : jI43 σ36 := jI43_fr ((congrFun (f38 43 (by decide)) 8).trans (congrFun (f24 43 (by decide)) 8)) hI43
    have I92 : jI47 σ36 := jI47_fr (congrFun (f38 47 (by decide)) 0) (f38 48 (by decide)) (f38 49 (by decide)) I26
    have I93 : jI50 σ36 := jI50_fr ((f38 52 (by decide)).trans (f24 52 (by decide))) hI50
    have I94 : jI101 σ36 := jI101_fr ((f39 4 (by decide)).trans (congrFun (f24 55 (by decide)) 4)) ((f39 5 (by decide)).trans (congrFun (f24 55 (by decide)) 5)) ((f38 56 (by decide)).trans (f24 56 (by decide))) ((f38 57 (by decide)).trans (f24 57 (by decide))) ((f38 58 (by decide)).trans (f24 58 (by decide))) ((f38 59 (by decide)).trans (f24 59 (by decide))) hI101
    have I95 : jI102 σ36 := jI102_fr (f39 6 (by decide)) (f38 60 (by decide)) (f38 61 (by decide)) I29
    have I96 : jI103 σ36 := jI103_fr ((f39 9 (by decide)).trans (congrFun (f24 55 (by decide)) 9)) hI103
    have I97 : jI104 σ36 := jI104_fr (f39 10 (by decide)) (f39 12 (by decide)) (f39 13 (by decide)) (f38 62 (by decide)) (f38 67 (by decide)) I30
    have I98 : jI105 σ36 := jI105_fr ((f39 15 (by decide)).trans (congrFun (f24 55 (by decide)) 15)) ((f38 65 (by decide)).trans (f24 65 (by decide))) hI105
    have I99 : jI106 σ36 := jI106_fr ((f39 32 (by decide)).trans (congrFun (f24 55 (by decide)) 32)) ((f38 70 (by decide)).trans (f24 70 (by decide))) ((f38 71 (by decide)).trans (f24 71 (by decide))) ((f38 72 (by decide)).trans (f24 72 (by decide))) hI106
    have I100 : jI109 σ36 := jI109_fr ((f39 50 (by decide)).trans (congrFun (f24 55 (by decide)) 50)) hI109
    have I101 : jI110 σ36 := jI110_fr ((f38 86 (by decide)).trans (f24 86 (by decide))) ((f38 87 (by decide)).trans (f24 87 (by decide))) hI110
    have I102 : jI111 σ36 := jI111_fr ((f38 79 (by decide)).trans (f24 79 (by decide))) hI111
    have I103 : jI119 σ36 := w41
    have p104 : jKept σ36 := jKept.fr ((f38 75 (by decide)).trans (f24 75 (by decide))) ((f38 76 (by decide)).trans (f24 76 (by decide))) ((f38 77 (by decide)).trans (f24 77 (by decide))) hs_jKept
    have z105 : (σ36 2 0).toInt = (σ 2 0).toInt := (congrArg Int32.toInt (show σ36 2 0 = (σ 2 0) from ((congrFun (f38 2 (by decide)) 0).trans (congrFun (f24 2 (by decide)) 0))))
    have z106 : (σ36 55 6).toInt = (σ 55 6).toInt := (congrArg Int32.toInt (show σ36 55 6 = (σ 55 6) from ((f39 6 (by decide)).trans (congrFun (f24 55 (by decide)) 6))))
    have z107 : (σ36 2 2).toInt = (σ 2 2).toInt := (congrArg Int32.toInt (show σ36 2 2 = (σ 2 2) from ((congrFun (f38 2 (by decide)) 2).trans (congrFun (f24 2 (by decide)) 2))))
    have z108 : (σ36 55 5).toInt = (σ 55 5).toInt := (congrArg Int32.toInt (show σ36 55 5 = (σ 55 5) from ((f39 5 (by decide)).trans (congrFun (f24 55 (by decide)) 5))))
    have z109 : (σ36 2 3).toInt = (σ 2 3).toInt := (congrArg Int32.toInt (show σ36 2 3 = (σ 2 3) from ((congrFun (f38 2 (by decide)) 3).trans (congrFun (f24 2 (by decide)) 3))))
    have z110 : (σ36 55 4).toInt = (σ 55 4).toInt := (congrArg Int32.toInt (show σ36 55 4 = (σ 55 4) from ((f39 4 (by decide)).trans (congrFun (f24 55 (by decide)) 4))))
    exact ih x82 σ36 τ _ _ ls (by have h9 := tx82; omega) ⟨I83, I84, I85, I86, I87, I88, I89, I90, I91, I92, I93, I94, I95, I96, I97, I98, I99, I40, I100, I101, I102, I103, p104, p42, (by omega), (by omega), (by omega), (show jNumP (σ36 3) (σ36 56) (σ36 6) (σ36 57) (σ36 7) (σ36 58) (σ36 8) (σ36 59) (σ36 55 6).toInt (σ36 55 4).toInt by rw [show σ36 3 = σ 3 from ((f38 3 (by decide)).trans (f24 3 (by decide))), show σ36 56 = σ 56 from ((f38 56 (by decide)).trans (f24 56 (by decide))), show σ36 6 = σ 6 from ((f38 6 (by decide)).trans (f24 6 (by decide))), show σ36 57 = σ 57 from ((f38 57 (by decide)).trans (f24 57 (by decide))), show σ36 7 = σ 7 from ((f38 7 (by decide)).trans (f24 7 (by decide))), show σ36 58 = σ 58 from ((f38 58 (by decide)).trans (f24 58 (by decide))), show σ36 8 = σ 8 from ((f38 8 (by decide)).trans (f24 8 (by decide))), show σ36 59 = σ 59 from ((f38 59 (by decide)).trans (f24 59 (by decide))), show (σ36 55 6).toInt = (σ 55 6).toInt from by omega, show (σ36 55 4).toInt = (σ 55 4).toInt from by omega]; exact hr0)⟩ hP hS (lv_sub hl [0, 1, 2, 3] rfl)
set_option maxHeartbeats 4000000 in
set_option maxRecDepth 100000 in
theorem law_case_20 {p : Program} {e : Env} {s : State} {m : MethodId} {below : List Frame} {meth : Method} {c : Code} (l : Launch) {b L : Nat} {xs : Nat → Int32} {D : va_G} {cI cL : ClassId} {ad zz : Nat → Nat} (C0 : lw_At p s m meth c b L xs) (hJ : jD ad) (hA : ∀ q, jA ad q → s.heap.size ≤ q) (hK : jK D cI cL s) (hZ : jZ zz (fun q : Nat => s.heap.size ≤ q) s s.heap) {x0 : Int32} (hx0 : 0 ≤ x0.toInt) (hxL : x0.toInt + 6 ≤ (L : Int)) (hL : L ≤ 384) {σ : Nat → Nat → Int32} {τ : Nat → Nat → Int64} {H : Heap} {locs : List Loc} (hS : va_S (fun q : Nat => s.heap.size ≤ q) s.heap H locs) {ls : Array Slot} (hAll : jAll σ τ) (hP : jH D cI cL ad σ τ H) (hl : lv_has ls 4 [(3, .int x0), (2, .ref (ad 55)), (1, .ref (ad 0)), (0, .ref b)]) (ih : ∀ (x1 : Int32) (σ : Nat → Nat → Int32) (τ : Nat → Nat → Int64) (H : Heap) (locs : List Loc) (ls : Array Slot), x1.toInt = x0.toInt + 6 → jAll σ τ → jH D cI cL ad σ τ H → va_S (fun q : Nat => s.heap.size ≤ q) s.heap H locs → lv_has ls 4 [(3, .int x1), (2, .ref (ad 55)), (1, .ref (ad 0)), (0, .ref b)] → W p l e room_1 s m #[Value.ref b] below meth c H locs 90 348600 (lw_Z below #[Value.ref b] s) (F0 m 18 ls [])) : W p l e room_1 s m #[Value.ref b] below meth c H locs 90 348600 (lw_Z below #[Value.ref b] s) (F0 m 806 ls []) := by
  obtain ⟨hx, hb, hr, hml, hown, hts0, hX, hbl, hlocks, hgv⟩ := C0
  have hts : ∀ w ∈ wsL_law, w.before #[Value.ref b] s = true := fun w h => hts0 w (wsL_law_in w h)
  have hbA : ¬ (fun q : Nat => s.heap.size ≤ q) b := Nat.not_le.mpr hbl
  have hown : s.vm.findClass RL = some m.cls := hown
  obtain ⟨hI2, hI9, hI12, hI16, hI18, hI22, hI31, hI38, hI43, hI47, hI50, hI101, hI102, hI103, hI104, hI105, hI106, hI107, hI109, hI110, hI111, hI119, hs_jKept, hs_jBook, ht0, ht1, ht2, hr0⟩ := hAll
  have hL9 : (L : Int) ≤ 384 := by omega
  obtain ⟨i1, i2, i3, i4, i5, w6⟩ : (0 ≤ (σ 2 0).toInt ∧ (σ 2 0).toInt ≤ 4) ∧ (0 ≤ (σ 2 1).toInt ∧ (σ 2 1).toInt ≤ 3) ∧ (0 ≤ (σ 2 2).toInt) ∧ (0 ≤ (σ 2 3).toInt) ∧ ((σ 2 2).toInt + (σ 2 3).toInt ≤ 40) ∧ (∀ k : Nat, k < 40 → 0 ≤ (σ 6 k).toInt ∧ (σ 6 k).toInt ≤ 67) := id hI2
  obtain ⟨i7, i8, i9, w10, w11, w12, w13⟩ : (0 ≤ (σ 55 5).toInt) ∧ ((σ 55 5).toInt ≤ (σ 55 4).toInt) ∧ ((σ 55 4).toInt ≤ 40) ∧ (∀ k : Nat, k < 68 → (-200) ≤ (σ 56 k).toInt ∧ (σ 56 k).toInt ≤ 500) ∧ (∀ k : Nat, k < 40 → 0 ≤ (σ 57 k).toInt ∧ (σ 57 k).toInt ≤ 67) ∧ (∀ k : Nat, k < 40 → (-200) ≤ (σ 58 k).toInt ∧ (σ 58 k).toInt ≤ 500) ∧ (∀ k : Nat, k < 40 → (-200) ≤ (σ 59 k).toInt ∧ (σ 59 k).toInt ≤ 500) := id hI101
  obtain ⟨i14, w15, w16⟩ : (0 ≤ (σ 55 6).toInt ∧ (σ 55 6).toInt ≤ 4) ∧ (∀ k : Nat, k < 4 → 0 ≤ (σ 60 k).toInt ∧ (σ 60 k).toInt ≤ 50) ∧ (∀ k : Nat, k < 4 → 0 ≤ (σ 61 k).toInt ∧ (σ 61 k).toInt ≤ 20) := id hI102
  refine lv_aload_n hx hb dL_law_806 rfl (lv_at hl 2 rfl) ?_
  refine lv_aload_n hx hb dL_law_807 rfl (lv_at hl 3 rfl) ?_
  refine lv_iload_n hx hb dL_law_808 rfl (lv_at hl 0 rfl) ?_
  refine lv_iconst (v := 1) hx hb dL_law_809 (by decide) ?_
  have g17 := jrg (rfl : x0.toInt = x0.toInt)
  refine lv_iadd hx hb dL_law_810 ?_
  refine lv_topi (fun x18 ex18 => ?_)
  have tx18 : x18.toInt = x0.toInt + 1 := (jadd ex18 rfl jz_1 (by omega) (by omega)).trans (by omega)
  refine va_sld hx hb hX hbl hbA hS (jin tx18 (by omega) (by omega)) dL_law_811 ?_
  have g19 := jrg (rfl : (xs x18.toNatClampNeg).toInt = (xs x18.toNatClampNeg).toInt)
  refine lv_aload_n hx hb dL_law_812 rfl (lv_at hl 3 rfl) ?_
  refine lv_iload_n hx hb dL_law_813 rfl (lv_at hl 0 rfl) ?_
  refine lv_iconst (v := 2) hx hb dL_law_814 (by decide) ?_
  refine lv_iadd hx hb dL_law_815 ?_
  refine lv_topi (fun x20 ex20 => ?_)
  have tx20 : x20.toInt = x0.toInt + 2 := (jadd ex20 rfl jz_2 (by omega) (by omega)).trans (by omega)
  refine va_sld hx hb hX hbl hbA hS (jin tx20 (by omega) (by omega)) dL_law_816 ?_
  have g21 := jrg (rfl : (xs x20.toNatClampNeg).toInt = (xs x20.toNatClampNeg).toInt)
  refine jcallV (As := [.int (xs x18.toNatClampNeg), .int (xs x20.toNatClampNeg)]) (rest := []) ⟨hx, hb, hml, hown, hts⟩ hK hP hA hS hZ (c_X11_books l D cI cL ad zz hJ σ τ (xs x18.toNatClampNeg) ((xs x18.toNatClampNeg).toInt) rfl (xs x20.toNatClampNeg) ((xs x20.toNatClampNeg).toInt) rfl hI2 hI16 hI47 hI50) cw_RL_97 (jc_0 cI cL ad σ τ) rfl ⟨Nat.le_of_ble_eq_true rfl, Nat.le_of_ble_eq_true rfl⟩ rfl rfl rfl hl.1 rfl (Nat.le_of_ble_eq_true rfl) dL_law_817 ⟨Nat.le_of_ble_eq_true rfl, Nat.le_of_ble_eq_true rfl⟩ (fun r23 σ22 τ22 H locs h22 hP hS => ?_)
  obtain ⟨rfl, f24, f25, I26, w27, h22⟩ := h22
  refine lv_pop hx hb dL_law_820 rfl ?_
  refine lv_aload_n hx hb dL_law_821 rfl (lv_at hl 1 rfl) ?_
  refine lv_aload_n hx hb dL_law_822 rfl (lv_at hl 3 rfl) ?_
  refine lv_iload_n hx hb dL_law_823 rfl (lv_at hl 0 rfl) ?_
  refine lv_iconst (v := 1) hx hb dL_law_824 (by decide) ?_
  refine lv_iadd hx hb dL_law_825 ?_
  refine jtopr ex18.symm ?_
  refine va_sld hx hb hX hbl hbA hS (jin tx18 (by omega) (by omega)) dL_law_826 ?_
  refine lv_aload_n hx hb dL_law_827 rfl (lv_at hl 3 rfl) ?_
  refine lv_iload_n hx hb dL_law_828 rfl (lv_at hl 0 rfl) ?_
  refine lv_iconst (v := 2) hx hb dL_law_829 (by decide) ?_
  refine lv_iadd hx hb dL_law_830 ?_
  refine jtopr ex20.symm ?_
  refine va_sld hx hb hX hbl hbA hS (jin tx20 (by omega) (by omega)) dL_law_831 ?_
  have I29 : jI102 σ22 := jI102_fr (congrFun (f24 55 (by decide)) 6) (f24 60 (by decide)) (f24 61 (by decide)) hI102
  have I30 : jI104 σ22 := jI104_fr (congrFun (f24 55 (by decide)) 10) (congrFun (f24 55 (by decide)) 12) (congrFun (f24 55 (by decide)) 13) (f24 62 (by decide)) (f24 67 (by decide)) hI104
  have I31 : jI107 σ22 := jI107_fr (congrFun (f24 55 (by decide)) 12) (congrFun (f24 55 (by decide)) 47) (f24 80 (by decide)) hI107
  have I32 : jI110 σ22 := jI110_fr (f24 86 (by decide)) (f24 87 (by decide)) hI110
  have I33 : jI119 σ22 := jI119_fr (f24 68 (by decide)) hI119
  have p34 : jBook σ22 := jBook.fr (congrFun (f24 55 (by decide)) 47) (congrFun (f24 55 (by decide)) 10) (f24 81 (by decide)) hs_jBook
  refine jcallV (As := [.int (xs x18.toNatClampNeg), .int (xs x20.toNatClampNeg)]) (rest := []) ⟨hx, hb, hml, hown, hts⟩ hK hP hA hS hZ (c_X12_books l D cI cL ad zz hJ σ22 τ (xs x18.toNatClampNeg) ((xs x18.toNatClampNeg).toInt) rfl (xs x20.toNatClampNeg) ((xs x20.toNatClampNeg).toInt) rfl I29 I30 I31 I32 I33 p34) cw_RL_100 (jc_55 cI cL ad σ22 τ) rfl ⟨Nat.le_of_ble_eq_true rfl, Nat.le_of_ble_eq_true rfl⟩ rfl rfl rfl hl.1 rfl (Nat.le_of_ble_eq_true rfl) dL_law_832 ⟨Nat.le_of_ble_eq_true rfl, Nat.le_of_ble_eq_true rfl⟩ (fun r36 σ35 τ35 H locs h35 hP hS => ?_)
  obtain ⟨rfl, f37, f38, I39, I40, p41, w42, h35⟩ := h35
  refine lv_pop hx hb dL_law_835 rfl ?_
  refine lv_goto (tgt := 1357) hx hb dL_law_836 (by decide) ?_
  obtain ⟨x44, ex44⟩ : ∃ y : Int32, y = x0 + 6 := ⟨_, rfl⟩
  have tx44 : x44.toInt = x0.toInt + 6 := (jadd ex44 rfl jz_6 (by omega) (by omega)).trans (by omega)
  refine lv_iinc (v := x44) (lv' := [(3, .int x44), (2, .ref (ad 55)), (1, .ref (ad 0)), (0, .ref b)]) hx hb dL_law_1357 hl (k := 0) rfl (by rw [ex44]; rfl) (by decide) rfl (fun ls hl => ?_)
  refine lv_goto (tgt := 18) hx hb dL_law_1360 (by decide) ?_
  have I45 : jI2 σ35 := jI2_fr ((congrFun (f37 2 (by decide)) 0).trans (congrFun (f24 2 (by decide)) 0)) ((congrFun (f37 2 (by decide)) 1).trans (congrFun (f24 2 (by decide)) 1)) ((congrFun (f37 2 (by decide)) 2).trans (congrFun (f24 2 (by decide)) 2)) ((congrFun (f37 2 (by decide)) 3).trans (congrFun (f24 2 (by decide)) 3)) ((f37 6 (by decide)).trans (f24 6 (by decide))) hI2
  have I46 : jI9 σ35 := jI9_fr ((congrFun (f37 9 (by decide)) 0).trans (congrFun (f24 9 (by decide)) 0)) ((f37 10 (by decide)).trans (f24 10 (by decide))) ((f37 11 (by decide)).trans (f24 11 (by decide))) hI9
  have I47 : jI12 σ35 := jI12_fr ((congrFun (f37 12 (by decide)) 0).trans (congrFun (f24 12 (by decide)) 0)) ((f37 13 (by decide)).trans (f24 13 (by decide))) hI12
  have I48 : jI16 σ35 := jI16_fr ((congrFun (f37 16 (by decide)) 0).trans (congrFun (f24 16 (by decide)) 0)) ((congrFun (f37 16 (by decide)) 1).trans (congrFun (f24 16 (by decide)) 1)) ((congrFun (f37 16 (by decide)) 2).trans (congrFun (f24 16 (by decide)) 2)) ((f37 17 (by decide)).trans (f24 17 (by decide))) hI16
  have I49 : jI18 σ35 := jI18_fr ((congrFun (f37 18 (by decide)) 0).trans (congrFun (f24 18 (by decide)) 0)) ((f37 19 (by decide)).trans (f24 19 (by decide))) hI18
  have I50 : jI22 σ35 := jI22_fr ((congrFun (f37 22 (by decide)) 0).trans (congrFun (f24 22 (by decide)) 0)) ((f37 23 (by decide)).trans (f24 23 (by decide))) hI22
  have I51 : jI31 σ35 := jI31_fr ((congrFun (f37 31 (by decide)) 8).trans (congrFun (f24 31 (by decide)) 8)) ((f37 33 (by decide)).trans (f24 33 (by decide))) ((f37 36 (by decide)).trans (f24 36 (by decide))) hI31
  have I52 : jI38 σ35 := jI38_fr ((congrFun (f37 38 (by decide)) 0).trans (congrFun (f24 38 (by decide)) 0)) ((congrFun (f37 38 (by decide)) 1).trans (congrFun (f24 38 (by decide)) 1)) ((f37 39 (by decide)).trans (f24 39 (by decide))) hI38
  have I53 : jI43 σ35 := jI43_fr ((congrFun (f37 43 (by decide)) 8).trans (congrFun (f24 43 (by decide)) 8)) hI43
  have I54 : jI47 σ35 := jI47_fr (congrFun (f37 47 (by decide)) 0) (f37 48 (by decide)) (f37 49 (by decide)) I26
  have I55 : jI50 σ35 := jI50_fr ((f37 52 (by decide)).trans (f24 52 (by decide))) hI50
  have I56 : jI101 σ35 := jI101_fr ((f38 4 (by decide)).trans (congrFun (f24 55 (by decide)) 4)) ((f38 5 (by decide)).trans (congrFun (f24 55 (by decide)) 5)) ((f37 56 (by decide)).trans (f24 56 (by decide))) ((f37 57 (by decide)).trans (f24 57 (by decide))) ((f37 58 (by decide)).trans (f24 58 (by decide))) ((f37 59 (by decide)).trans (f24 59 (by decide))) hI101
  have I57 : jI102 σ35 := jI102_fr (f38 6 (by decide)) (f37 60 (by decide)) (f37 61 (by decide)) I29
  have I58 : jI103 σ35 := jI103_fr ((f38 9 (by decide)).trans (congrFun (f24 55 (by decide)) 9)) hI103
  have I59 : jI104 σ35 := jI104_fr (f38 10 (by decide)) (f38 12 (by decide)) (f38 13 (by decide)) (f37 62 (by decide)) (f37 67 (by decide)) I30
  have I60 : jI105 σ35 := jI105_fr ((f38 15 (by decide)).trans (congrFun (f24 55 (by decide)) 15)) ((f37 65 (by decide)).trans (f24 65 (by decide))) hI105
  have I61 : jI106 σ35 := jI106_fr ((f38 32 (by decide)).trans (congrFun (f24 55 (by decide)) 32)) ((f37 70 (by decide)).trans (f24 70 (by decide))) ((f37 71 (by decide)).trans (f24 71 (by decide))) ((f37 72 (by decide)).trans (f24 72 (by decide))) hI106
  have I62 : jI109 σ35 := jI109_fr ((f38 50 (by decide)).trans (congrFun (f24 55 (by decide)) 50)) hI109
  have I63 : jI110 σ35 := jI110_fr (f37 86 (by decide)) (f37 87 (by decide)) I32
  have I64 : jI111 σ35 := jI111_fr ((f37 79 (by decide)).trans (f24 79 (by decide))) hI111
  have p65 : jKept σ35 := jKept.fr ((f37 75 (by decide)).trans (f24 75 (by decide))) ((f37 76 (by decide)).trans (f24 76 (by decide))) ((f37 77 (by decide)).trans (f24 77 (by decide))) hs_jKept
  have z66 : (σ35 2 0).toInt = (σ 2 0).toInt := (congrArg Int32.toInt (show σ35 2 0 = (σ 2 0) from ((congrFun (f37 2 (by decide)) 0).trans (congrFun (f24 2 (by decide)) 0))))
  have z67 : (σ35 55 6).toInt = (σ 55 6).toInt := (congrArg Int32.toInt (show σ35 55 6 = (σ 55 6) from ((f38 6 (by decide)).trans (congrFun (f24 55 (by decide)) 6))))
  have z68 : (σ35 2 2).toInt = (σ 2 2).toInt := (congrArg Int32.toInt (show σ35 2 2 = (σ 2 2) from ((congrFun (f37 2 (by decide)) 2).trans (congrFun (f24 2 (by decide)) 2))))
  have z69 : (σ35 55 5).toInt = (σ 55 5).toInt := (congrArg Int32.toInt (show σ35 55 5 = (σ 55 5) from ((f38 5 (by decide)).trans (congrFun (f24 55 (by decide)) 5))))
  have z70 : (σ35 2 3).toInt = (σ 2 3).toInt := (congrArg Int32.toInt (show σ35 2 3 = (σ 2 3) from ((congrFun (f37 2 (by decide)) 3).trans (congrFun (f24 2 (by decide)) 3))))
  have z71 : (σ35 55 4).toInt = (σ 55 4).toInt := (congrArg Int32.toInt (show σ35 55 4 = (σ 55 4) from ((f38 4 (by decide)).trans (congrFun (f24 55 (by decide)) 4))))
  exact ih x44 σ35 τ _ _ ls (by have h9 := tx44; omega) ⟨I45, I46, I47, I48, I49, I50, I51, I52, I53, I54, I55, I56, I57, I58, I59, I60, I61, I39, I62, I63, I64, I40, p65, p41, (by omega), (by omega), (by omega), (show jNumP (σ35 3) (σ35 56) (σ35 6) (σ35 57) (σ35 7) (σ35 58) (σ35 8) (σ35 59) (σ35 55 6).toInt (σ35 55 4).toInt by rw [show σ35 3 = σ 3 from ((f37 3 (by decide)).trans (f24 3 (by decide))), show σ35 56 = σ 56 from ((f37 56 (by decide)).trans (f24 56 (by decide))), show σ35 6 = σ 6 from ((f37 6 (by decide)).trans (f24 6 (by decide))), show σ35 57 = σ 57 from ((f37 57 (by decide)).trans (f24 57 (by decide))), show σ35 7 = σ 7 from ((f37 7 (by decide)).trans (f24 7 (by decide))), show σ35 58 = σ 58 from ((f37 58 (by decide)).trans (f24 58 (by decide))), show σ35 8 = σ 8 from ((f37 8 (by decide)).trans (f24 8 (by decide))), show σ35 59 = σ 59 from ((f37 59 (by decide)).trans (f24 59 (by decide))), show (σ35 55 6).toInt = (σ 55 6).toInt from by omega, show (σ35 55 4).toInt = (σ 55 4).toInt from by omega]; exact hr0)⟩ hP hS (lv_sub hl [0, 1, 2, 3] rfl)
set_option maxHeartbeats 4000000 in
set_option maxRecDepth 100000 in
theorem law_case_21 {p : Program} {e : Env} {s : State} {m : MethodId} {below : List Frame} {meth : Method} {c : Code} (l : Launch) {b L : Nat} {xs : Nat → Int32} {D : va_G} {cI cL : ClassId} {ad zz : Nat → Nat} (C0 : lw_At p s m meth c b L xs) (hJ : jD ad) (hA : ∀ q, jA ad q → s.heap.size ≤ q) (hK : jK D cI cL s) (hZ : jZ zz (fun q : Nat => s.heap.size ≤ q) s s.heap) {x0 : Int32} (hx0 : 0 ≤ x0.toInt) (hxL : x0.toInt + 6 ≤ (L : Int)) (hL : L ≤ 384) {σ : Nat → Nat → Int32} {τ : Nat → Nat → Int64} {H : Heap} {locs : List Loc} (hS : va_S (fun q : Nat => s.heap.size ≤ q) s.heap H locs) {ls : Array Slot} (hAll : jAll σ τ) (hP : jH D cI cL ad σ τ H) (hl : lv_has ls 4 [(3, .int x0), (2, .ref (ad 55)), (1, .ref (ad 0)), (0, .ref b)]) (ih : ∀ (x1 : Int32) (σ : Nat → Nat → Int32) (τ : Nat → Nat → Int64) (H : Heap) (locs : List Loc) (ls : Array Slot), x1.toInt = x0.toInt + 6 → jAll σ τ → jH D cI cL ad σ τ H → va_S (fun q : Nat => s.heap.size ≤ q) s.heap H locs → lv_has ls 4 [(3, .int x1), (2, .ref (ad 55)), (1, .ref (ad 0)), (0, .ref b)] → W p l e room_1 s m #[Value.ref b] below meth c H locs 90 348600 (lw_Z below #[Value.ref b] s) (F0 m 18 ls [])) : W p l e room_1 s m #[Value.ref b] below meth c H locs 90 348600 (lw_Z below #[Value.ref b] s) (F0 m 839 ls []) := by
  obtain ⟨hx, hb, hr, hml, hown, hts0, hX, hbl, hlocks, hgv⟩ := C0
  have hts : ∀ w ∈ wsL_law, w.before #[Value.ref b] s = true := fun w h => hts0 w (wsL_law_in w h)
  have hbA : ¬ (fun q : Nat => s.heap.size ≤ q) b := Nat.not_le.mpr hbl
  have hown : s.vm.findClass RL = some m.cls := hown
  obtain ⟨hI2, hI9, hI12, hI16, hI18, hI22, hI31, hI38, hI43, hI47, hI50, hI101, hI102, hI103, hI104, hI105, hI106, hI107, hI109, hI110, hI111, hI119, hs_jKept, hs_jBook, ht0, ht1, ht2, hr0⟩ := hAll
  have hL9 : (L : Int) ≤ 384 := by omega
  obtain ⟨i1, i2, i3, i4, i5, w6⟩ : (0 ≤ (σ 2 0).toInt ∧ (σ 2 0).toInt ≤ 4) ∧ (0 ≤ (σ 2 1).toInt ∧ (σ 2 1).toInt ≤ 3) ∧ (0 ≤ (σ 2 2).toInt) ∧ (0 ≤ (σ 2 3).toInt) ∧ ((σ 2 2).toInt + (σ 2 3).toInt ≤ 40) ∧ (∀ k : Nat, k < 40 → 0 ≤ (σ 6 k).toInt ∧ (σ 6 k).toInt ≤ 67) := id hI2
  obtain ⟨i7, i8, i9, w10, w11, w12, w13⟩ : (0 ≤ (σ 55 5).toInt) ∧ ((σ 55 5).toInt ≤ (σ 55 4).toInt) ∧ ((σ 55 4).toInt ≤ 40) ∧ (∀ k : Nat, k < 68 → (-200) ≤ (σ 56 k).toInt ∧ (σ 56 k).toInt ≤ 500) ∧ (∀ k : Nat, k < 40 → 0 ≤ (σ 57 k).toInt ∧ (σ 57 k).toInt ≤ 67) ∧ (∀ k : Nat, k < 40 → (-200) ≤ (σ 58 k).toInt ∧ (σ 58 k).toInt ≤ 500) ∧ (∀ k : Nat, k < 40 → (-200) ≤ (σ 59 k).toInt ∧ (σ 59 k).toInt ≤ 500) := id hI101
  obtain ⟨i14, w15, w16⟩ : (0 ≤ (σ 55 6).toInt ∧ (σ 55 6).toInt ≤ 4) ∧ (∀ k : Nat, k < 4 → 0 ≤ (σ 60 k).toInt ∧ (σ 60 k).toInt ≤ 50) ∧ (∀ k : Nat, k < 4 → 0 ≤ (σ 61 k).toInt ∧ (σ 61 k).toInt ≤ 20) := id hI102
  refine lv_aload_n hx hb dL_law_839 rfl (lv_at hl 2 rfl) ?_
  refine jcallV (As := []) (rest := []) ⟨hx, hb, hml, hown, hts⟩ hK hP hA hS hZ (c_X11_close l D cI cL ad zz hJ σ τ hI47) cw_RL_101 (jc_0 cI cL ad σ τ) rfl ⟨Nat.le_of_ble_eq_true rfl, Nat.le_of_ble_eq_true rfl⟩ rfl rfl rfl hl.1 rfl (Nat.le_of_ble_eq_true rfl) dL_law_840 ⟨Nat.le_of_ble_eq_true rfl, Nat.le_of_ble_eq_true rfl⟩ (fun r18 σ17 τ17 H locs h17 hP hS => ?_)
  obtain ⟨rfl, f19, f20, I21, h17⟩ := h17
  have h23 := h17
  obtain ⟨q26, k24, k25⟩ := h23
  refine lv_pop hx hb dL_law_843 rfl ?_
  refine lv_aload_n hx hb dL_law_844 rfl (lv_at hl 1 rfl) ?_
  have I27 : jI104 σ17 := jI104_fr (congrFun (f19 55 (by decide)) 10) (congrFun (f19 55 (by decide)) 12) (congrFun (f19 55 (by decide)) 13) (f19 62 (by decide)) (f19 67 (by decide)) hI104
  have I28 : jI107 σ17 := jI107_fr (congrFun (f19 55 (by decide)) 12) (congrFun (f19 55 (by decide)) 47) (f19 80 (by decide)) hI107
  have p29 : jBook σ17 := jBook.fr (congrFun (f19 55 (by decide)) 47) (congrFun (f19 55 (by decide)) 10) (f19 81 (by decide)) hs_jBook
  have z30 : (σ17 55 47).toInt = (σ 55 47).toInt := (congrArg Int32.toInt (show σ17 55 47 = (σ 55 47) from (congrFun (f19 55 (by decide)) 47)))
  refine jcallV (As := []) (rest := []) ⟨hx, hb, hml, hown, hts⟩ hK hP hA hS hZ (c_X12_close l D cI cL ad zz hJ σ17 τ I27 I28 p29) cw_RL_104 (jc_55 cI cL ad σ17 τ) rfl ⟨Nat.le_of_ble_eq_true rfl, Nat.le_of_ble_eq_true rfl⟩ rfl rfl rfl hl.1 rfl (Nat.le_of_ble_eq_true rfl) dL_law_845 ⟨Nat.le_of_ble_eq_true rfl, Nat.le_of_ble_eq_true rfl⟩ (fun r32 σ31 τ31 H locs h31 hP hS => ?_)
  obtain ⟨rfl, f33, f34, I35, p36, h31⟩ := h31
  have h38 := h31
  obtain ⟨q41, k39, k40⟩ := h38
  refine lv_pop hx hb dL_law_848 rfl ?_
  refine lv_goto (tgt := 1357) hx hb dL_law_849 (by decide) ?_
  obtain ⟨x42, ex42⟩ : ∃ y : Int32, y = x0 + 6 := ⟨_, rfl⟩
  have tx42 : x42.toInt = x0.toInt + 6 := (jadd ex42 rfl jz_6 (by omega) (by omega)).trans (by omega)
  refine lv_iinc (v := x42) (lv' := [(3, .int x42), (2, .ref (ad 55)), (1, .ref (ad 0)), (0, .ref b)]) hx hb dL_law_1357 hl (k := 0) rfl (by rw [ex42]; rfl) (by decide) rfl (fun ls hl => ?_)
  refine lv_goto (tgt := 18) hx hb dL_law_1360 (by decide) ?_
  have I43 : jI2 σ31 := jI2_fr ((congrFun (f33 2 (by decide)) 0).trans (congrFun (f19 2 (by decide)) 0)) ((congrFun (f33 2 (by decide)) 1).trans (congrFun (f19 2 (by decide)) 1)) ((congrFun (f33 2 (by decide)) 2).trans (congrFun (f19 2 (by decide)) 2)) ((congrFun (f33 2 (by decide)) 3).trans (congrFun (f19 2 (by decide)) 3)) ((f33 6 (by decide)).trans (f19 6 (by decide))) hI2
  have I44 : jI9 σ31 := jI9_fr ((congrFun (f33 9 (by decide)) 0).trans (congrFun (f19 9 (by decide)) 0)) ((f33 10 (by decide)).trans (f19 10 (by decide))) ((f33 11 (by decide)).trans (f19 11 (by decide))) hI9
  have I45 : jI12 σ31 := jI12_fr ((congrFun (f33 12 (by decide)) 0).trans (congrFun (f19 12 (by decide)) 0)) ((f33 13 (by decide)).trans (f19 13 (by decide))) hI12
  have I46 : jI16 σ31 := jI16_fr ((congrFun (f33 16 (by decide)) 0).trans (congrFun (f19 16 (by decide)) 0)) ((congrFun (f33 16 (by decide)) 1).trans (congrFun (f19 16 (by decide)) 1)) ((congrFun (f33 16 (by decide)) 2).trans (congrFun (f19 16 (by decide)) 2)) ((f33 17 (by decide)).trans (f19 17 (by decide))) hI16
  have I47 : jI18 σ31 := jI18_fr ((congrFun (f33 18 (by decide)) 0).trans (congrFun (f19 18 (by decide)) 0)) ((f33 19 (by decide)).trans (f19 19 (by decide))) hI18
  have I48 : jI22 σ31 := jI22_fr ((congrFun (f33 22 (by decide)) 0).trans (congrFun (f19 22 (by decide)) 0)) ((f33 23 (by decide)).trans (f19 23 (by decide))) hI22
  have I49 : jI31 σ31 := jI31_fr ((congrFun (f33 31 (by decide)) 8).trans (congrFun (f19 31 (by decide)) 8)) ((f33 33 (by decide)).trans (f19 33 (by decide))) ((f33 36 (by decide)).trans (f19 36 (by decide))) hI31
  have I50 : jI38 σ31 := jI38_fr ((congrFun (f33 38 (by decide)) 0).trans (congrFun (f19 38 (by decide)) 0)) ((congrFun (f33 38 (by decide)) 1).trans (congrFun (f19 38 (by decide)) 1)) ((f33 39 (by decide)).trans (f19 39 (by decide))) hI38
  have I51 : jI43 σ31 := jI43_fr ((congrFun (f33 43 (by decide)) 8).trans (congrFun (f19 43 (by decide)) 8)) hI43
  have I52 : jI47 σ31 := jI47_fr (congrFun (f33 47 (by decide)) 0) (f33 48 (by decide)) (f33 49 (by decide)) I21
  have I53 : jI50 σ31 := jI50_fr ((f33 52 (by decide)).trans (f19 52 (by decide))) hI50
  have I54 : jI101 σ31 := jI101_fr ((f34 4 (by decide)).trans (congrFun (f19 55 (by decide)) 4)) ((f34 5 (by decide)).trans (congrFun (f19 55 (by decide)) 5)) ((f33 56 (by decide)).trans (f19 56 (by decide))) ((f33 57 (by decide)).trans (f19 57 (by decide))) ((f33 58 (by decide)).trans (f19 58 (by decide))) ((f33 59 (by decide)).trans (f19 59 (by decide))) hI101
  have I55 : jI102 σ31 := jI102_fr ((f34 6 (by decide)).trans (congrFun (f19 55 (by decide)) 6)) ((f33 60 (by decide)).trans (f19 60 (by decide))) ((f33 61 (by decide)).trans (f19 61 (by decide))) hI102
  have I56 : jI103 σ31 := jI103_fr ((f34 9 (by decide)).trans (congrFun (f19 55 (by decide)) 9)) hI103
  have I57 : jI104 σ31 := jI104_fr (f34 10 (by decide)) (f34 12 (by decide)) (f34 13 (by decide)) (f33 62 (by decide)) (f33 67 (by decide)) I27
  have I58 : jI105 σ31 := jI105_fr ((f34 15 (by decide)).trans (congrFun (f19 55 (by decide)) 15)) ((f33 65 (by decide)).trans (f19 65 (by decide))) hI105
  have I59 : jI106 σ31 := jI106_fr ((f34 32 (by decide)).trans (congrFun (f19 55 (by decide)) 32)) ((f33 70 (by decide)).trans (f19 70 (by decide))) ((f33 71 (by decide)).trans (f19 71 (by decide))) ((f33 72 (by decide)).trans (f19 72 (by decide))) hI106
  have I60 : jI109 σ31 := jI109_fr ((f34 50 (by decide)).trans (congrFun (f19 55 (by decide)) 50)) hI109
  have I61 : jI110 σ31 := jI110_fr ((f33 86 (by decide)).trans (f19 86 (by decide))) ((f33 87 (by decide)).trans (f19 87 (by decide))) hI110
  have I62 : jI111 σ31 := jI111_fr ((f33 79 (by decide)).trans (f19 79 (by decide))) hI111
  have I63 : jI119 σ31 := jI119_fr ((f33 68 (by decide)).trans (f19 68 (by decide))) hI119
  have p64 : jKept σ31 := jKept.fr ((f33 75 (by decide)).trans (f19 75 (by decide))) ((f33 76 (by decide)).trans (f19 76 (by decide))) ((f33 77 (by decide)).trans (f19 77 (by decide))) hs_jKept
  have z65 : (σ31 2 0).toInt = (σ 2 0).toInt := (congrArg Int32.toInt (show σ31 2 0 = (σ 2 0) from ((congrFun (f33 2 (by decide)) 0).trans (congrFun (f19 2 (by decide)) 0))))
  have z66 : (σ31 55 6).toInt = (σ 55 6).toInt := (congrArg Int32.toInt (show σ31 55 6 = (σ 55 6) from ((f34 6 (by decide)).trans (congrFun (f19 55 (by decide)) 6))))
  have z67 : (σ31 2 2).toInt = (σ 2 2).toInt := (congrArg Int32.toInt (show σ31 2 2 = (σ 2 2) from ((congrFun (f33 2 (by decide)) 2).trans (congrFun (f19 2 (by decide)) 2))))
  have z68 : (σ31 55 5).toInt = (σ 55 5).toInt := (congrArg Int32.toInt (show σ31 55 5 = (σ 55 5) from ((f34 5 (by decide)).trans (congrFun (f19 55 (by decide)) 5))))
  have z69 : (σ31 2 3).toInt = (σ 2 3).toInt := (congrArg Int32.toInt (show σ31 2 3 = (σ 2 3) from ((congrFun (f33 2 (by decide)) 3).trans (congrFun (f19 2 (by decide)) 3))))
  have z70 : (σ31 55 4).toInt = (σ 55 4).toInt := (congrArg Int32.toInt (show σ31 55 4 = (σ 55 4) from ((f34 4 (by decide)).trans (congrFun (f19 55 (by decide)) 4))))
  exact ih x42 σ31 τ _ _ ls (by have h9 := tx42; omega) ⟨I43, I44, I45, I46, I47, I48, I49, I50, I51, I52, I53, I54, I55, I56, I57, I58, I59, I35, I60, I61, I62, I63, p64, p36, (by omega), (by omega), (by omega), (show jNumP (σ31 3) (σ31 56) (σ31 6) (σ31 57) (σ31 7) (σ31 58) (σ31 8) (σ31 59) (σ31 55 6).toInt (σ31 55 4).toInt by rw [show σ31 3 = σ 3 from ((f33 3 (by decide)).trans (f19 3 (by decide))), show σ31 56 = σ 56 from ((f33 56 (by decide)).trans (f19 56 (by decide))), show σ31 6 = σ 6 from ((f33 6 (by decide)).trans (f19 6 (by decide))), show σ31 57 = σ 57 from ((f33 57 (by decide)).trans (f19 57 (by decide))), show σ31 7 = σ 7 from ((f33 7 (by decide)).trans (f19 7 (by decide))), show σ31 58 = σ 58 from ((f33 58 (by decide)).trans (f19 58 (by decide))), show σ31 8 = σ 8 from ((f33 8 (by decide)).trans (f19 8 (by decide))), show σ31 59 = σ 59 from ((f33 59 (by decide)).trans (f19 59 (by decide))), show (σ31 55 6).toInt = (σ 55 6).toInt from by omega, show (σ31 55 4).toInt = (σ 55 4).toInt from by omega]; exact hr0)⟩ hP hS (lv_sub hl [0, 1, 2, 3] rfl)
set_option maxHeartbeats 4000000 in
set_option maxRecDepth 100000 in
theorem law_case_22 {p : Program} {e : Env} {s : State} {m : MethodId} {below : List Frame} {meth : Method} {c : Code} (l : Launch) {b L : Nat} {xs : Nat → Int32} {D : va_G} {cI cL : ClassId} {ad zz : Nat → Nat} (C0 : lw_At p s m meth c b L xs) (hJ : jD ad) (hA : ∀ q, jA ad q → s.heap.size ≤ q) (hK : jK D cI cL s) (hZ : jZ zz (fun q : Nat => s.heap.size ≤ q) s s.heap) {x0 : Int32} (hx0 : 0 ≤ x0.toInt) (hxL : x0.toInt + 6 ≤ (L : Int)) (hL : L ≤ 384) {σ : Nat → Nat → Int32} {τ : Nat → Nat → Int64} {H : Heap} {locs : List Loc} (hS : va_S (fun q : Nat => s.heap.size ≤ q) s.heap H locs) {ls : Array Slot} (hAll : jAll σ τ) (hP : jH D cI cL ad σ τ H) (hl : lv_has ls 4 [(3, .int x0), (2, .ref (ad 55)), (1, .ref (ad 0)), (0, .ref b)]) (ih : ∀ (x1 : Int32) (σ : Nat → Nat → Int32) (τ : Nat → Nat → Int64) (H : Heap) (locs : List Loc) (ls : Array Slot), x1.toInt = x0.toInt + 6 → jAll σ τ → jH D cI cL ad σ τ H → va_S (fun q : Nat => s.heap.size ≤ q) s.heap H locs → lv_has ls 4 [(3, .int x1), (2, .ref (ad 55)), (1, .ref (ad 0)), (0, .ref b)] → W p l e room_1 s m #[Value.ref b] below meth c H locs 90 348600 (lw_Z below #[Value.ref b] s) (F0 m 18 ls [])) : W p l e room_1 s m #[Value.ref b] below meth c H locs 90 348600 (lw_Z below #[Value.ref b] s) (F0 m 852 ls []) := by
  obtain ⟨hx, hb, hr, hml, hown, hts0, hX, hbl, hlocks, hgv⟩ := C0
  have hts : ∀ w ∈ wsL_law, w.before #[Value.ref b] s = true := fun w h => hts0 w (wsL_law_in w h)
  have hbA : ¬ (fun q : Nat => s.heap.size ≤ q) b := Nat.not_le.mpr hbl
  have hown : s.vm.findClass RL = some m.cls := hown
  obtain ⟨hI2, hI9, hI12, hI16, hI18, hI22, hI31, hI38, hI43, hI47, hI50, hI101, hI102, hI103, hI104, hI105, hI106, hI107, hI109, hI110, hI111, hI119, hs_jKept, hs_jBook, ht0, ht1, ht2, hr0⟩ := hAll
  have hL9 : (L : Int) ≤ 384 := by omega
  obtain ⟨i1, i2, i3, i4, i5, w6⟩ : (0 ≤ (σ 2 0).toInt ∧ (σ 2 0).toInt ≤ 4) ∧ (0 ≤ (σ 2 1).toInt ∧ (σ 2 1).toInt ≤ 3) ∧ (0 ≤ (σ 2 2).toInt) ∧ (0 ≤ (σ 2 3).toInt) ∧ ((σ 2 2).toInt + (σ 2 3).toInt ≤ 40) ∧ (∀ k : Nat, k < 40 → 0 ≤ (σ 6 k).toInt ∧ (σ 6 k).toInt ≤ 67) := id hI2
  obtain ⟨i7, i8, i9, w10, w11, w12, w13⟩ : (0 ≤ (σ 55 5).toInt) ∧ ((σ 55 5).toInt ≤ (σ 55 4).toInt) ∧ ((σ 55 4).toInt ≤ 40) ∧ (∀ k : Nat, k < 68 → (-200) ≤ (σ 56 k).toInt ∧ (σ 56 k).toInt ≤ 500) ∧ (∀ k : Nat, k < 40 → 0 ≤ (σ 57 k).toInt ∧ (σ 57 k).toInt ≤ 67) ∧ (∀ k : Nat, k < 40 → (-200) ≤ (σ 58 k).toInt ∧ (σ 58 k).toInt ≤ 500) ∧ (∀ k : Nat, k < 40 → (-200) ≤ (σ 59 k).toInt ∧ (σ 59 k).toInt ≤ 500) := id hI101
  obtain ⟨i14, w15, w16⟩ : (0 ≤ (σ 55 6).toInt ∧ (σ 55 6).toInt ≤ 4) ∧ (∀ k : Nat, k < 4 → 0 ≤ (σ 60 k).toInt ∧ (σ 60 k).toInt ≤ 50) ∧ (∀ k : Nat, k < 4 → 0 ≤ (σ 61 k).toInt ∧ (σ 61 k).toInt ≤ 20) := id hI102
  refine lv_aload_n hx hb dL_law_852 rfl (lv_at hl 2 rfl) ?_
  refine lv_aload_n hx hb dL_law_853 rfl (lv_at hl 3 rfl) ?_
  refine lv_iload_n hx hb dL_law_854 rfl (lv_at hl 0 rfl) ?_
  refine lv_iconst (v := 1) hx hb dL_law_855 (by decide) ?_
  have g17 := jrg (rfl : x0.toInt = x0.toInt)
  refine lv_iadd hx hb dL_law_856 ?_
  refine lv_topi (fun x18 ex18 => ?_)
  have tx18 : x18.toInt = x0.toInt + 1 := (jadd ex18 rfl jz_1 (by omega) (by omega)).trans (by omega)
  refine va_sld hx hb hX hbl hbA hS (jin tx18 (by omega) (by omega)) dL_law_857 ?_
  have g19 := jrg (rfl : (xs x18.toNatClampNeg).toInt = (xs x18.toNatClampNeg).toInt)
  refine jcallV (As := [.int (xs x18.toNatClampNeg)]) (rest := []) ⟨hx, hb, hml, hown, hts⟩ hK hP hA hS hZ (c_X11_cost l D cI cL ad zz hJ σ τ (xs x18.toNatClampNeg) ((xs x18.toNatClampNeg).toInt) rfl hI2 hI16 hI22 hI31 hI47) cw_RL_105 (jc_0 cI cL ad σ τ) rfl ⟨Nat.le_of_ble_eq_true rfl, Nat.le_of_ble_eq_true rfl⟩ rfl rfl rfl hl.1 rfl (Nat.le_of_ble_eq_true rfl) dL_law_858 ⟨Nat.le_of_ble_eq_true rfl, Nat.le_of_ble_eq_true rfl⟩ (fun r21 σ20 τ20 H locs h20 hP hS => ?_)
  obtain ⟨rfl, f22, f23, I24, h20⟩ := h20
  refine lv_pop hx hb dL_law_861 rfl ?_
  refine lv_aload_n hx hb dL_law_862 rfl (lv_at hl 1 rfl) ?_
  refine lv_aload_n hx hb dL_law_863 rfl (lv_at hl 3 rfl) ?_
  refine lv_iload_n hx hb dL_law_864 rfl (lv_at hl 0 rfl) ?_
  refine lv_iconst (v := 1) hx hb dL_law_865 (by decide) ?_
  refine lv_iadd hx hb dL_law_866 ?_
  refine jtopr ex18.symm ?_
  refine va_sld hx hb hX hbl hbA hS (jin tx18 (by omega) (by omega)) dL_law_867 ?_
  have I26 : jI101 σ20 := jI101_fr (congrFun (f22 55 (by decide)) 4) (congrFun (f22 55 (by decide)) 5) (f22 56 (by decide)) (f22 57 (by decide)) (f22 58 (by decide)) (f22 59 (by decide)) hI101
  have I27 : jI102 σ20 := jI102_fr (congrFun (f22 55 (by decide)) 6) (f22 60 (by decide)) (f22 61 (by decide)) hI102
  have I28 : jI103 σ20 := jI103_fr (congrFun (f22 55 (by decide)) 9) hI103
  have I29 : jI104 σ20 := jI104_fr (congrFun (f22 55 (by decide)) 10) (congrFun (f22 55 (by decide)) 12) (congrFun (f22 55 (by decide)) 13) (f22 62 (by decide)) (f22 67 (by decide)) hI104
  have I30 : jI105 σ20 := jI105_fr (congrFun (f22 55 (by decide)) 15) (f22 65 (by decide)) hI105
  have I31 : jI106 σ20 := jI106_fr (congrFun (f22 55 (by decide)) 32) (f22 70 (by decide)) (f22 71 (by decide)) (f22 72 (by decide)) hI106
  have I32 : jI107 σ20 := jI107_fr (congrFun (f22 55 (by decide)) 12) (congrFun (f22 55 (by decide)) 47) (f22 80 (by decide)) hI107
  have I33 : jI119 σ20 := jI119_fr (f22 68 (by decide)) hI119
  have p34 : jKept σ20 := jKept.fr (f22 75 (by decide)) (f22 76 (by decide)) (f22 77 (by decide)) hs_jKept
  have p35 : jBook σ20 := jBook.fr (congrFun (f22 55 (by decide)) 47) (congrFun (f22 55 (by decide)) 10) (f22 81 (by decide)) hs_jBook
  refine jcallV (As := [.int (xs x18.toNatClampNeg)]) (rest := []) ⟨hx, hb, hml, hown, hts⟩ hK hP hA hS hZ (c_X12_cost l D cI cL ad zz hJ σ20 τ (xs x18.toNatClampNeg) ((xs x18.toNatClampNeg).toInt) rfl I26 I27 I28 I29 I30 I31 I32 I33 p34 p35) cw_RL_108 (jc_55 cI cL ad σ20 τ) rfl ⟨Nat.le_of_ble_eq_true rfl, Nat.le_of_ble_eq_true rfl⟩ rfl rfl rfl hl.1 rfl (Nat.le_of_ble_eq_true rfl) dL_law_868 ⟨Nat.le_of_ble_eq_true rfl, Nat.le_of_ble_eq_true rfl⟩ (fun r37 σ36 τ36 H locs h36 hP hS => ?_)
  obtain ⟨rfl, f38, f39, I40, p41, p42, h36⟩ := h36
  refine lv_pop hx hb dL_law_871 rfl ?_
  refine lv_goto (tgt := 1357) hx hb dL_law_872 (by decide) ?_
  obtain ⟨x44, ex44⟩ : ∃ y : Int32, y = x0 + 6 := ⟨_, rfl⟩
  have tx44 : x44.toInt = x0.toInt + 6 := (jadd ex44 rfl jz_6 (by omega) (by omega)).trans (by omega)
  refine lv_iinc (v := x44) (lv' := [(3, .int x44), (2, .ref (ad 55)), (1, .ref (ad 0)), (0, .ref b)]) hx hb dL_law_1357 hl (k := 0) rfl (by rw [ex44]; rfl) (by decide) rfl (fun ls hl => ?_)
  refine lv_goto (tgt := 18) hx hb dL_law_1360 (by decide) ?_
  have I45 : jI2 σ36 := jI2_fr ((congrFun (f38 2 (by decide)) 0).trans (congrFun (f22 2 (by decide)) 0)) ((congrFun (f38 2 (by decide)) 1).trans (congrFun (f22 2 (by decide)) 1)) ((congrFun (f38 2 (by decide)) 2).trans (congrFun (f22 2 (by decide)) 2)) ((congrFun (f38 2 (by decide)) 3).trans (congrFun (f22 2 (by decide)) 3)) ((f38 6 (by decide)).trans (f22 6 (by decide))) hI2
  have I46 : jI9 σ36 := jI9_fr ((congrFun (f38 9 (by decide)) 0).trans (congrFun (f22 9 (by decide)) 0)) ((f38 10 (by decide)).trans (f22 10 (by decide))) ((f38 11 (by decide)).trans (f22 11 (by decide))) hI9
  have I47 : jI12 σ36 := jI12_fr ((congrFun (f38 12 (by decide)) 0).trans (congrFun (f22 12 (by decide)) 0)) ((f38 13 (by decide)).trans (f22 13 (by decide))) hI12
  have I48 : jI16 σ36 := jI16_fr ((congrFun (f38 16 (by decide)) 0).trans (congrFun (f22 16 (by decide)) 0)) ((congrFun (f38 16 (by decide)) 1).trans (congrFun (f22 16 (by decide)) 1)) ((congrFun (f38 16 (by decide)) 2).trans (congrFun (f22 16 (by decide)) 2)) ((f38 17 (by decide)).trans (f22 17 (by decide))) hI16
  have I49 : jI18 σ36 := jI18_fr ((congrFun (f38 18 (by decide)) 0).trans (congrFun (f22 18 (by decide)) 0)) ((f38 19 (by decide)).trans (f22 19 (by decide))) hI18
  have I50 : jI22 σ36 := jI22_fr ((congrFun (f38 22 (by decide)) 0).trans (congrFun (f22 22 (by decide)) 0)) ((f38 23 (by decide)).trans (f22 23 (by decide))) hI22
  have I51 : jI31 σ36 := jI31_fr (congrFun (f38 31 (by decide)) 8) (f38 33 (by decide)) (f38 36 (by decide)) I24
  have I52 : jI38 σ36 := jI38_fr ((congrFun (f38 38 (by decide)) 0).trans (congrFun (f22 38 (by decide)) 0)) ((congrFun (f38 38 (by decide)) 1).trans (congrFun (f22 38 (by decide)) 1)) ((f38 39 (by decide)).trans (f22 39 (by decide))) hI38
  have I53 : jI43 σ36 := jI43_fr ((congrFun (f38 43 (by decide)) 8).trans (congrFun (f22 43 (by decide)) 8)) hI43
  have I54 : jI47 σ36 := jI47_fr ((congrFun (f38 47 (by decide)) 0).trans (congrFun (f22 47 (by decide)) 0)) ((f38 48 (by decide)).trans (f22 48 (by decide))) ((f38 49 (by decide)).trans (f22 49 (by decide))) hI47
  have I55 : jI50 σ36 := jI50_fr ((f38 52 (by decide)).trans (f22 52 (by decide))) hI50
  have I56 : jI101 σ36 := jI101_fr (f39 4 (by decide)) (f39 5 (by decide)) (f38 56 (by decide)) (f38 57 (by decide)) (f38 58 (by decide)) (f38 59 (by decide)) I26
  have I57 : jI102 σ36 := jI102_fr (f39 6 (by decide)) (f38 60 (by decide)) (f38 61 (by decide)) I27
  have I58 : jI103 σ36 := jI103_fr (f39 9 (by decide)) I28
  have I59 : jI104 σ36 := jI104_fr (f39 10 (by decide)) (f39 12 (by decide)) (f39 13 (by decide)) (f38 62 (by decide)) (f38 67 (by decide)) I29
  have I60 : jI105 σ36 := jI105_fr (f39 15 (by decide)) (f38 65 (by decide)) I30
  have I61 : jI106 σ36 := jI106_fr (f39 32 (by decide)) (f38 70 (by decide)) (f38 71 (by decide)) (f38 72 (by decide)) I31
  have I62 : jI107 σ36 := jI107_fr (f39 12 (by decide)) (f39 47 (by decide)) (f38 80 (by decide)) I32
  have I63 : jI109 σ36 := jI109_fr ((f39 50 (by decide)).trans (congrFun (f22 55 (by decide)) 50)) hI109
  have I64 : jI110 σ36 := jI110_fr ((f38 86 (by decide)).trans (f22 86 (by decide))) ((f38 87 (by decide)).trans (f22 87 (by decide))) hI110
  have I65 : jI111 σ36 := jI111_fr ((f38 79 (by decide)).trans (f22 79 (by decide))) hI111
  have z66 : (σ36 2 0).toInt = (σ 2 0).toInt := (congrArg Int32.toInt (show σ36 2 0 = (σ 2 0) from ((congrFun (f38 2 (by decide)) 0).trans (congrFun (f22 2 (by decide)) 0))))
  have z67 : (σ36 55 6).toInt = (σ 55 6).toInt := (congrArg Int32.toInt (show σ36 55 6 = (σ 55 6) from ((f39 6 (by decide)).trans (congrFun (f22 55 (by decide)) 6))))
  have z68 : (σ36 2 2).toInt = (σ 2 2).toInt := (congrArg Int32.toInt (show σ36 2 2 = (σ 2 2) from ((congrFun (f38 2 (by decide)) 2).trans (congrFun (f22 2 (by decide)) 2))))
  have z69 : (σ36 55 5).toInt = (σ 55 5).toInt := (congrArg Int32.toInt (show σ36 55 5 = (σ 55 5) from ((f39 5 (by decide)).trans (congrFun (f22 55 (by decide)) 5))))
  have z70 : (σ36 2 3).toInt = (σ 2 3).toInt := (congrArg Int32.toInt (show σ36 2 3 = (σ 2 3) from ((congrFun (f38 2 (by decide)) 3).trans (congrFun (f22 2 (by decide)) 3))))
  have z71 : (σ36 55 4).toInt = (σ 55 4).toInt := (congrArg Int32.toInt (show σ36 55 4 = (σ 55 4) from ((f39 4 (by decide)).trans (congrFun (f22 55 (by decide)) 4))))
  exact ih x44 σ36 τ _ _ ls (by have h9 := tx44; omega) ⟨I45, I46, I47, I48, I49, I50, I51, I52, I53, I54, I55, I56, I57, I58, I59, I60, I61, I62, I63, I64, I65, I40, p41, p42, (by omega), (by omega), (by omega), (show jNumP (σ36 3) (σ36 56) (σ36 6) (σ36 57) (σ36 7) (σ36 58) (σ36 8) (σ36 59) (σ36 55 6).toInt (σ36 55 4).toInt by rw [show σ36 3 = σ 3 from ((f38 3 (by decide)).trans (f22 3 (by decide))), show σ36 56 = σ 56 from ((f38 56 (by decide)).trans (f22 56 (by decide))), show σ36 6 = σ 6 from ((f38 6 (by decide)).trans (f22 6 (by decide))), show σ36 57 = σ 57 from ((f38 57 (by decide)).trans (f22 57 (by decide))), show σ36 7 = σ 7 from ((f38 7 (by decide)).trans (f22 7 (by decide))), show σ36 58 = σ 58 from ((f38 58 (by decide)).trans (f22 58 (by decide))), show σ36 8 = σ 8 from ((f38 8 (by decide)).trans (f22 8 (by decide))), show σ36 59 = σ 59 from ((f38 59 (by decide)).trans (f22 59 (by decide))), show (σ36 55 6).toInt = (σ 55 6).toInt from by omega, show (σ36 55 4).toInt = (σ 55 4).toInt from by omega]; exact hr0)⟩ hP hS (lv_sub hl [0, 1, 2, 3] rfl)
set_option maxHeartbeats 4000000 in
set_option maxRecDepth 100000 in
theorem law_case_23 {p : Program} {e : Env} {s : State} {m : MethodId} {below : List Frame} {meth : Method} {c : Code} (l : Launch) {b L : Nat} {xs : Nat → Int32} {D : va_G} {cI cL : ClassId} {ad zz : Nat → Nat} (C0 : lw_At p s m meth c b L xs) (hJ : jD ad) (hA : ∀ q, jA ad q → s.heap.size ≤ q) (hK : jK D cI cL s) (hZ : jZ zz (fun q : Nat => s.heap.size ≤ q) s s.heap) {x0 : Int32} (hx0 : 0 ≤ x0.toInt) (hxL : x0.toInt + 6 ≤ (L : Int)) (hL : L ≤ 384) {σ : Nat → Nat → Int32} {τ : Nat → Nat → Int64} {H : Heap} {locs : List Loc} (hS : va_S (fun q : Nat => s.heap.size ≤ q) s.heap H locs) {ls : Array Slot} (hAll : jAll σ τ) (hP : jH D cI cL ad σ τ H) (hl : lv_has ls 4 [(3, .int x0), (2, .ref (ad 55)), (1, .ref (ad 0)), (0, .ref b)]) (ih : ∀ (x1 : Int32) (σ : Nat → Nat → Int32) (τ : Nat → Nat → Int64) (H : Heap) (locs : List Loc) (ls : Array Slot), x1.toInt = x0.toInt + 6 → jAll σ τ → jH D cI cL ad σ τ H → va_S (fun q : Nat => s.heap.size ≤ q) s.heap H locs → lv_has ls 4 [(3, .int x1), (2, .ref (ad 55)), (1, .ref (ad 0)), (0, .ref b)] → W p l e room_1 s m #[Value.ref b] below meth c H locs 90 348600 (lw_Z below #[Value.ref b] s) (F0 m 18 ls [])) : W p l e room_1 s m #[Value.ref b] below meth c H locs 90 348600 (lw_Z below #[Value.ref b] s) (F0 m 875 ls []) := by
  obtain ⟨hx, hb, hr, hml, hown, hts0, hX, hbl, hlocks, hgv⟩ := C0
  have hts : ∀ w ∈ wsL_law, w.before #[Value.ref b] s = true := fun w h => hts0 w (wsL_law_in w h)
  have hbA : ¬ (fun q : Nat => s.heap.size ≤ q) b := Nat.not_le.mpr hbl
  have hown : s.vm.findClass RL = some m.cls := hown
  obtain ⟨hI2, hI9, hI12, hI16, hI18, hI22, hI31, hI38, hI43, hI47, hI50, hI101, hI102, hI103, hI104, hI105, hI106, hI107, hI109, hI110, hI111, hI119, hs_jKept, hs_jBook, ht0, ht1, ht2, hr0⟩ := hAll
  have hL9 : (L : Int) ≤ 384 := by omega
  obtain ⟨i1, i2, i3, i4, i5, w6⟩ : (0 ≤ (σ 2 0).toInt ∧ (σ 2 0).toInt ≤ 4) ∧ (0 ≤ (σ 2 1).toInt ∧ (σ 2 1).toInt ≤ 3) ∧ (0 ≤ (σ 2 2).toInt) ∧ (0 ≤ (σ 2 3).toInt) ∧ ((σ 2 2).toInt + (σ 2 3).toInt ≤ 40) ∧ (∀ k : Nat, k < 40 → 0 ≤ (σ 6 k).toInt ∧ (σ 6 k).toInt ≤ 67) := id hI2
  obtain ⟨i7, i8, i9, w10, w11, w12, w13⟩ : (0 ≤ (σ 55 5).toInt) ∧ ((σ 55 5).toInt ≤ (σ 55 4).toInt) ∧ ((σ 55 4).toInt ≤ 40) ∧ (∀ k : Nat, k < 68 → (-200) ≤ (σ 56 k).toInt ∧ (σ 56 k).toInt ≤ 500) ∧ (∀ k : Nat, k < 40 → 0 ≤ (σ 57 k).toInt ∧ (σ 57 k).toInt ≤ 67) ∧ (∀ k : Nat, k < 40 → (-200) ≤ (σ 58 k).toInt ∧ (σ 58 k).toInt ≤ 500) ∧ (∀ k : Nat, k < 40 → (-200) ≤ (σ 59 k).toInt ∧ (σ 59 k).toInt ≤ 500) := id hI101
  obtain ⟨i14, w15, w16⟩ : (0 ≤ (σ 55 6).toInt ∧ (σ 55 6).toInt ≤ 4) ∧ (∀ k : Nat, k < 4 → 0 ≤ (σ 60 k).toInt ∧ (σ 60 k).toInt ≤ 50) ∧ (∀ k : Nat, k < 4 → 0 ≤ (σ 61 k).toInt ∧ (σ 61 k).toInt ≤ 20) := id hI102
  refine lv_aload_n hx hb dL_law_875 rfl (lv_at hl 2 rfl) ?_
  refine lv_aload_n hx hb dL_law_876 rfl (lv_at hl 3 rfl) ?_
  refine lv_iload_n hx hb dL_law_877 rfl (lv_at hl 0 rfl) ?_
  refine lv_iconst (v := 1) hx hb dL_law_878 (by decide) ?_
  have g17 := jrg (rfl : x0.toInt = x0.toInt)
  refine lv_iadd hx hb dL_law_879 ?_
  refine lv_topi (fun x18 ex18 => ?_)
  have tx18 : x18.toInt = x0.toInt + 1 := (jadd ex18 rfl jz_1 (by omega) (by omega)).trans (by omega)
  refine va_sld hx hb hX hbl hbA hS (jin tx18 (by omega) (by omega)) dL_law_880 ?_
  have g19 := jrg (rfl : (xs x18.toNatClampNeg).toInt = (xs x18.toNatClampNeg).toInt)
  refine jcallV (As := [.int (xs x18.toNatClampNeg)]) (rest := []) ⟨hx, hb, hml, hown, hts⟩ hK hP hA hS hZ (c_X11_lost l D cI cL ad zz hJ σ τ (xs x18.toNatClampNeg) ((xs x18.toNatClampNeg).toInt) rfl hI2 hI16 hI22 hI31 hI47) cw_RL_109 (jc_0 cI cL ad σ τ) rfl ⟨Nat.le_of_ble_eq_true rfl, Nat.le_of_ble_eq_true rfl⟩ rfl rfl rfl hl.1 rfl (Nat.le_of_ble_eq_true rfl) dL_law_881 ⟨Nat.le_of_ble_eq_true rfl, Nat.le_of_ble_eq_true rfl⟩ (fun r21 σ20 τ20 H locs h20 hP hS => ?_)
  obtain ⟨rfl, f22, f23, I24, h20⟩ := h20
  refine lv_pop hx hb dL_law_884 rfl ?_
  refine lv_aload_n hx hb dL_law_885 rfl (lv_at hl 1 rfl) ?_
  refine lv_aload_n hx hb dL_law_886 rfl (lv_at hl 3 rfl) ?_
  refine lv_iload_n hx hb dL_law_887 rfl (lv_at hl 0 rfl) ?_
  refine lv_iconst (v := 1) hx hb dL_law_888 (by decide) ?_
  refine lv_iadd hx hb dL_law_889 ?_
  refine jtopr ex18.symm ?_
  refine va_sld hx hb hX hbl hbA hS (jin tx18 (by omega) (by omega)) dL_law_890 ?_
  have I26 : jI101 σ20 := jI101_fr (congrFun (f22 55 (by decide)) 4) (congrFun (f22 55 (by decide)) 5) (f22 56 (by decide)) (f22 57 (by decide)) (f22 58 (by decide)) (f22 59 (by decide)) hI101
  have I27 : jI102 σ20 := jI102_fr (congrFun (f22 55 (by decide)) 6) (f22 60 (by decide)) (f22 61 (by decide)) hI102
  have I28 : jI103 σ20 := jI103_fr (congrFun (f22 55 (by decide)) 9) hI103
  have I29 : jI104 σ20 := jI104_fr (congrFun (f22 55 (by decide)) 10) (congrFun (f22 55 (by decide)) 12) (congrFun (f22 55 (by decide)) 13) (f22 62 (by decide)) (f22 67 (by decide)) hI104
  have I30 : jI105 σ20 := jI105_fr (congrFun (f22 55 (by decide)) 15) (f22 65 (by decide)) hI105
  have I31 : jI106 σ20 := jI106_fr (congrFun (f22 55 (by decide)) 32) (f22 70 (by decide)) (f22 71 (by decide)) (f22 72 (by decide)) hI106
  have I32 : jI107 σ20 := jI107_fr (congrFun (f22 55 (by decide)) 12) (congrFun (f22 55 (by decide)) 47) (f22 80 (by decide)) hI107
  have I33 : jI119 σ20 := jI119_fr (f22 68 (by decide)) hI119
  have p34 : jKept σ20 := jKept.fr (f22 75 (by decide)) (f22 76 (by decide)) (f22 77 (by decide)) hs_jKept
  have p35 : jBook σ20 := jBook.fr (congrFun (f22 55 (by decide)) 47) (congrFun (f22 55 (by decide)) 10) (f22 81 (by decide)) hs_jBook
  refine jcallV (As := [.int (xs x18.toNatClampNeg)]) (rest := []) ⟨hx, hb, hml, hown, hts⟩ hK hP hA hS hZ (c_X12_lost l D cI cL ad zz hJ σ20 τ (xs x18.toNatClampNeg) ((xs x18.toNatClampNeg).toInt) rfl I26 I27 I28 I29 I30 I31 I32 I33 p34 p35) cw_RL_112 (jc_55 cI cL ad σ20 τ) rfl ⟨Nat.le_of_ble_eq_true rfl, Nat.le_of_ble_eq_true rfl⟩ rfl rfl rfl hl.1 rfl (Nat.le_of_ble_eq_true rfl) dL_law_891 ⟨Nat.le_of_ble_eq_true rfl, Nat.le_of_ble_eq_true rfl⟩ (fun r37 σ36 τ36 H locs h36 hP hS => ?_)
  obtain ⟨rfl, f38, f39, I40, p41, p42, h36⟩ := h36
  refine lv_pop hx hb dL_law_894 rfl ?_
  refine lv_goto (tgt := 1357) hx hb dL_law_895 (by decide) ?_
  obtain ⟨x44, ex44⟩ : ∃ y : Int32, y = x0 + 6 := ⟨_, rfl⟩
  have tx44 : x44.toInt = x0.toInt + 6 := (jadd ex44 rfl jz_6 (by omega) (by omega)).trans (by omega)
  refine lv_iinc (v := x44) (lv' := [(3, .int x44), (2, .ref (ad 55)), (1, .ref (ad 0)), (0, .ref b)]) hx hb dL_law_1357 hl (k := 0) rfl (by rw [ex44]; rfl) (by decide) rfl (fun ls hl => ?_)
  refine lv_goto (tgt := 18) hx hb dL_law_1360 (by decide) ?_
  have I45 : jI2 σ36 := jI2_fr ((congrFun (f38 2 (by decide)) 0).trans (congrFun (f22 2 (by decide)) 0)) ((congrFun (f38 2 (by decide)) 1).trans (congrFun (f22 2 (by decide)) 1)) ((congrFun (f38 2 (by decide)) 2).trans (congrFun (f22 2 (by decide)) 2)) ((congrFun (f38 2 (by decide)) 3).trans (congrFun (f22 2 (by decide)) 3)) ((f38 6 (by decide)).trans (f22 6 (by decide))) hI2
  have I46 : jI9 σ36 := jI9_fr ((congrFun (f38 9 (by decide)) 0).trans (congrFun (f22 9 (by decide)) 0)) ((f38 10 (by decide)).trans (f22 10 (by decide))) ((f38 11 (by decide)).trans (f22 11 (by decide))) hI9
  have I47 : jI12 σ36 := jI12_fr ((congrFun (f38 12 (by decide)) 0).trans (congrFun (f22 12 (by decide)) 0)) ((f38 13 (by decide)).trans (f22 13 (by decide))) hI12
  have I48 : jI16 σ36 := jI16_fr ((congrFun (f38 16 (by decide)) 0).trans (congrFun (f22 16 (by decide)) 0)) ((congrFun (f38 16 (by decide)) 1).trans (congrFun (f22 16 (by decide)) 1)) ((congrFun (f38 16 (by decide)) 2).trans (congrFun (f22 16 (by decide)) 2)) ((f38 17 (by decide)).trans (f22 17 (by decide))) hI16
  have I49 : jI18 σ36 := jI18_fr ((congrFun (f38 18 (by decide)) 0).trans (congrFun (f22 18 (by decide)) 0)) ((f38 19 (by decide)).trans (f22 19 (by decide))) hI18
  have I50 : jI22 σ36 := jI22_fr ((congrFun (f38 22 (by decide)) 0).trans (congrFun (f22 22 (by decide)) 0)) ((f38 23 (by decide)).trans (f22 23 (by decide))) hI22
  have I51 : jI31 σ36 := jI31_fr (congrFun (f38 31 (by decide)) 8) (f38 33 (by decide)) (f38 36 (by decide)) I24
  have I52 : jI38 σ36 := jI38_fr ((congrFun (f38 38 (by decide)) 0).trans (congrFun (f22 38 (by decide)) 0)) ((congrFun (f38 38 (by decide)) 1).trans (congrFun (f22 38 (by decide)) 1)) ((f38 39 (by decide)).trans (f22 39 (by decide))) hI38
  have I53 : jI43 σ36 := jI43_fr ((congrFun (f38 43 (by decide)) 8).trans (congrFun (f22 43 (by decide)) 8)) hI43
  have I54 : jI47 σ36 := jI47_fr ((congrFun (f38 47 (by decide)) 0).trans (congrFun (f22 47 (by decide)) 0)) ((f38 48 (by decide)).trans (f22 48 (by decide))) ((f38 49 (by decide)).trans (f22 49 (by decide))) hI47
  have I55 : jI50 σ36 := jI50_fr ((f38 52 (by decide)).trans (f22 52 (by decide))) hI50
  have I56 : jI101 σ36 := jI101_fr (f39 4 (by decide)) (f39 5 (by decide)) (f38 56 (by decide)) (f38 57 (by decide)) (f38 58 (by decide)) (f38 59 (by decide)) I26
  have I57 : jI102 σ36 := jI102_fr (f39 6 (by decide)) (f38 60 (by decide)) (f38 61 (by decide)) I27
  have I58 : jI103 σ36 := jI103_fr (f39 9 (by decide)) I28
  have I59 : jI104 σ36 := jI104_fr (f39 10 (by decide)) (f39 12 (by decide)) (f39 13 (by decide)) (f38 62 (by decide)) (f38 67 (by decide)) I29
  have I60 : jI105 σ36 := jI105_fr (f39 15 (by decide)) (f38 65 (by decide)) I30
  have I61 : jI106 σ36 := jI106_fr (f39 32 (by decide)) (f38 70 (by decide)) (f38 71 (by decide)) (f38 72 (by decide)) I31
  have I62 : jI107 σ36 := jI107_fr (f39 12 (by decide)) (f39 47 (by decide)) (f38 80 (by decide)) I32
  have I63 : jI109 σ36 := jI109_fr ((f39 50 (by decide)).trans (congrFun (f22 55 (by decide)) 50)) hI109
  have I64 : jI110 σ36 := jI110_fr ((f38 86 (by decide)).trans (f22 86 (by decide))) ((f38 87 (by decide)).trans (f22 87 (by decide))) hI110
  have I65 : jI111 σ36 := jI111_fr ((f38 79 (by decide)).trans (f22 79 (by decide))) hI111
  have z66 : (σ36 2 0).toInt = (σ 2 0).toInt := (congrArg Int32.toInt (show σ36 2 0 = (σ 2 0) from ((congrFun (f38 2 (by decide)) 0).trans (congrFun (f22 2 (by decide)) 0))))
  have z67 : (σ36 55 6).toInt = (σ 55 6).toInt := (congrArg Int32.toInt (show σ36 55 6 = (σ 55 6) from ((f39 6 (by decide)).trans (congrFun (f22 55 (by decide)) 6))))
  have z68 : (σ36 2 2).toInt = (σ 2 2).toInt := (congrArg Int32.toInt (show σ36 2 2 = (σ 2 2) from ((congrFun (f38 2 (by decide)) 2).trans (congrFun (f22 2 (by decide)) 2))))
  have z69 : (σ36 55 5).toInt = (σ 55 5).toInt := (congrArg Int32.toInt (show σ36 55 5 = (σ 55 5) from ((f39 5 (by decide)).trans (congrFun (f22 55 (by decide)) 5))))
  have z70 : (σ36 2 3).toInt = (σ 2 3).toInt := (congrArg Int32.toInt (show σ36 2 3 = (σ 2 3) from ((congrFun (f38 2 (by decide)) 3).trans (congrFun (f22 2 (by decide)) 3))))
  have z71 : (σ36 55 4).toInt = (σ 55 4).toInt := (congrArg Int32.toInt (show σ36 55 4 = (σ 55 4) from ((f39 4 (by decide)).trans (congrFun (f22 55 (by decide)) 4))))
  exact ih x44 σ36 τ _ _ ls (by have h9 := tx44; omega) ⟨I45, I46, I47, I48, I49, I50, I51, I52, I53, I54, I55, I56, I57, I58, I59, I60, I61, I62, I63, I64, I65, I40, p41, p42, (by omega), (by omega), (by omega), (show jNumP (σ36 3) (σ36 56) (σ36 6) (σ36 57) (σ36 7) (σ36 58) (σ36 8) (σ36 59) (σ36 55 6).toInt (σ36 55 4).toInt by rw [show σ36 3 = σ 3 from ((f38 3 (by decide)).trans (f22 3 (by decide))), show σ36 56 = σ 56 from ((f38 56 (by decide)).trans (f22 56 (by decide))), show σ36 6 = σ 6 from ((f38 6 (by decide)).trans (f22 6 (by decide))), show σ36 57 = σ 57 from ((f38 57 (by decide)).trans (f22 57 (by decide))), show σ36 7 = σ 7 from ((f38 7 (by decide)).trans (f22 7 (by decide))), show σ36 58 = σ 58 from ((f38 58 (by decide)).trans (f22 58 (by decide))), show σ36 8 = σ 8 from ((f38 8 (by decide)).trans (f22 8 (by decide))), show σ36 59 = σ 59 from ((f38 59 (by decide)).trans (f22 59 (by decide))), show (σ36 55 6).toInt = (σ 55 6).toInt from by omega, show (σ36 55 4).toInt = (σ 55 4).toInt from by omega]; exact hr0)⟩ hP hS (lv_sub hl [0, 1, 2, 3] rfl)
set_option maxHeartbeats 4000000 in
set_option maxRecDepth 100000 in
theorem law_case_24 {p : Program} {e : Env} {s : State} {m : MethodId} {below : List Frame} {meth : Method} {c : Code} (l : Launch) {b L : Nat} {xs : Nat → Int32} {D : va_G} {cI cL : ClassId} {ad zz : Nat → Nat} (C0 : lw_At p s m meth c b L xs) (hJ : jD ad) (hA : ∀ q, jA ad q → s.heap.size ≤ q) (hK : jK D cI cL s) (hZ : jZ zz (fun q : Nat => s.heap.size ≤ q) s s.heap) {x0 : Int32} (hx0 : 0 ≤ x0.toInt) (hxL : x0.toInt + 6 ≤ (L : Int)) (hL : L ≤ 384) {σ : Nat → Nat → Int32} {τ : Nat → Nat → Int64} {H : Heap} {locs : List Loc} (hS : va_S (fun q : Nat => s.heap.size ≤ q) s.heap H locs) {ls : Array Slot} (hAll : jAll σ τ) (hP : jH D cI cL ad σ τ H) (hl : lv_has ls 4 [(3, .int x0), (2, .ref (ad 55)), (1, .ref (ad 0)), (0, .ref b)]) (ih : ∀ (x1 : Int32) (σ : Nat → Nat → Int32) (τ : Nat → Nat → Int64) (H : Heap) (locs : List Loc) (ls : Array Slot), x1.toInt = x0.toInt + 6 → jAll σ τ → jH D cI cL ad σ τ H → va_S (fun q : Nat => s.heap.size ≤ q) s.heap H locs → lv_has ls 4 [(3, .int x1), (2, .ref (ad 55)), (1, .ref (ad 0)), (0, .ref b)] → W p l e room_1 s m #[Value.ref b] below meth c H locs 90 348600 (lw_Z below #[Value.ref b] s) (F0 m 18 ls [])) : W p l e room_1 s m #[Value.ref b] below meth c H locs 90 348600 (lw_Z below #[Value.ref b] s) (F0 m 898 ls []) := by
  obtain ⟨hx, hb, hr, hml, hown, hts0, hX, hbl, hlocks, hgv⟩ := C0
  have hts : ∀ w ∈ wsL_law, w.before #[Value.ref b] s = true := fun w h => hts0 w (wsL_law_in w h)
  have hbA : ¬ (fun q : Nat => s.heap.size ≤ q) b := Nat.not_le.mpr hbl
  have hown : s.vm.findClass RL = some m.cls := hown
  obtain ⟨hI2, hI9, hI12, hI16, hI18, hI22, hI31, hI38, hI43, hI47, hI50, hI101, hI102, hI103, hI104, hI105, hI106, hI107, hI109, hI110, hI111, hI119, hs_jKept, hs_jBook, ht0, ht1, ht2, hr0⟩ := hAll
  have hL9 : (L : Int) ≤ 384 := by omega
  obtain ⟨i1, i2, i3, i4, i5, w6⟩ : (0 ≤ (σ 2 0).toInt ∧ (σ 2 0).toInt ≤ 4) ∧ (0 ≤ (σ 2 1).toInt ∧ (σ 2 1).toInt ≤ 3) ∧ (0 ≤ (σ 2 2).toInt) ∧ (0 ≤ (σ 2 3).toInt) ∧ ((σ 2 2).toInt + (σ 2 3).toInt ≤ 40) ∧ (∀ k : Nat, k < 40 → 0 ≤ (σ 6 k).toInt ∧ (σ 6 k).toInt ≤ 67) := id hI2
  obtain ⟨i7, i8, i9, w10, w11, w12, w13⟩ : (0 ≤ (σ 55 5).toInt) ∧ ((σ 55 5).toInt ≤ (σ 55 4).toInt) ∧ ((σ 55 4).toInt ≤ 40) ∧ (∀ k : Nat, k < 68 → (-200) ≤ (σ 56 k).toInt ∧ (σ 56 k).toInt ≤ 500) ∧ (∀ k : Nat, k < 40 → 0 ≤ (σ 57 k).toInt ∧ (σ 57 k).toInt ≤ 67) ∧ (∀ k : Nat, k < 40 → (-200) ≤ (σ 58 k).toInt ∧ (σ 58 k).toInt ≤ 500) ∧ (∀ k : Nat, k < 40 → (-200) ≤ (σ 59 k).toInt ∧ (σ 59 k).toInt ≤ 500) := id hI101
  obtain ⟨i14, w15, w16⟩ : (0 ≤ (σ 55 6).toInt ∧ (σ 55 6).toInt ≤ 4) ∧ (∀ k : Nat, k < 4 → 0 ≤ (σ 60 k).toInt ∧ (σ 60 k).toInt ≤ 50) ∧ (∀ k : Nat, k < 4 → 0 ≤ (σ 61 k).toInt ∧ (σ 61 k).toInt ≤ 20) := id hI102
  refine lv_aload_n hx hb dL_law_898 rfl (lv_at hl 2 rfl) ?_
  refine lv_aload_n hx hb dL_law_899 rfl (lv_at hl 3 rfl) ?_
  refine lv_iload_n hx hb dL_law_900 rfl (lv_at hl 0 rfl) ?_
  refine lv_iconst (v := 1) hx hb dL_law_901 (by decide) ?_
  have g17 := jrg (rfl : x0.toInt = x0.toInt)
  refine lv_iadd hx hb dL_law_902 ?_
  refine lv_topi (fun x18 ex18 => ?_)
  have tx18 : x18.toInt = x0.toInt + 1 := (jadd ex18 rfl jz_1 (by omega) (by omega)).trans (by omega)
  refine va_sld hx hb hX hbl hbA hS (jin tx18 (by omega) (by omega)) dL_law_903 ?_
  have g19 := jrg (rfl : (xs x18.toNatClampNeg).toInt = (xs x18.toNatClampNeg).toInt)
  refine lv_aload_n hx hb dL_law_904 rfl (lv_at hl 3 rfl) ?_
  refine lv_iload_n hx hb dL_law_905 rfl (lv_at hl 0 rfl) ?_
  refine lv_iconst (v := 2) hx hb dL_law_906 (by decide) ?_
  refine lv_iadd hx hb dL_law_907 ?_
  refine lv_topi (fun x20 ex20 => ?_)
  have tx20 : x20.toInt = x0.toInt + 2 := (jadd ex20 rfl jz_2 (by omega) (by omega)).trans (by omega)
  refine va_sld hx hb hX hbl hbA hS (jin tx20 (by omega) (by omega)) dL_law_908 ?_
  have g21 := jrg (rfl : (xs x20.toNatClampNeg).toInt = (xs x20.toNatClampNeg).toInt)
  refine jcallV (As := [.int (xs x18.toNatClampNeg), .int (xs x20.toNatClampNeg)]) (rest := []) ⟨hx, hb, hml, hown, hts⟩ hK hP hA hS hZ (c_X11_game l D cI cL ad zz hJ σ τ (xs x18.toNatClampNeg) ((xs x18.toNatClampNeg).toInt) rfl (xs x20.toNatClampNeg) ((xs x20.toNatClampNeg).toInt) rfl hI2 hI16 hI18 hI22 hI31 hI38 hI43) cw_RL_113 (jc_0 cI cL ad σ τ) rfl ⟨Nat.le_of_ble_eq_true rfl, Nat.le_of_ble_eq_true rfl⟩ rfl rfl rfl hl.1 rfl (Nat.le_of_ble_eq_true rfl) dL_law_909 ⟨Nat.le_of_ble_eq_true rfl, Nat.le_of_ble_eq_true rfl⟩ (fun r23 σ22 τ22 H locs h22 hP hS => ?_)
  obtain ⟨rfl, f24, f25, f26, I27, I28, h22⟩ := h22
  refine lv_pop hx hb dL_law_912 rfl ?_
  refine lv_aload_n hx hb dL_law_913 rfl (lv_at hl 1 rfl) ?_
  refine lv_aload_n hx hb dL_law_914 rfl (lv_at hl 3 rfl) ?_
  refine lv_iload_n hx hb dL_law_915 rfl (lv_at hl 0 rfl) ?_
  refine lv_iconst (v := 1) hx hb dL_law_916 (by decide) ?_
  refine lv_iadd hx hb dL_law_917 ?_
  refine jtopr ex18.symm ?_
  refine va_sld hx hb hX hbl hbA hS (jin tx18 (by omega) (by omega)) dL_law_918 ?_
  refine lv_aload_n hx hb dL_law_919 rfl (lv_at hl 3 rfl) ?_
  refine lv_iload_n hx hb dL_law_920 rfl (lv_at hl 0 rfl) ?_
  refine lv_iconst (v := 2) hx hb dL_law_921 (by decide) ?_
  refine lv_iadd hx hb dL_law_922 ?_
  refine jtopr ex20.symm ?_
  refine va_sld hx hb hX hbl hbA hS (jin tx20 (by omega) (by omega)) dL_law_923 ?_
  have I30 : jI101 σ22 := jI101_fr (congrFun (f24 55 (by decide)) 4) (congrFun (f24 55 (by decide)) 5) (f24 56 (by decide)) (f24 57 (by decide)) (f24 58 (by decide)) (f24 59 (by decide)) hI101
  have I31 : jI102 σ22 := jI102_fr (congrFun (f24 55 (by decide)) 6) (f24 60 (by decide)) (f24 61 (by decide)) hI102
  have I32 : jI103 σ22 := jI103_fr (congrFun (f24 55 (by decide)) 9) hI103
  have I33 : jI104 σ22 := jI104_fr (congrFun (f24 55 (by decide)) 10) (congrFun (f24 55 (by decide)) 12) (congrFun (f24 55 (by decide)) 13) (f24 62 (by decide)) (f24 67 (by decide)) hI104
  have I34 : jI105 σ22 := jI105_fr (congrFun (f24 55 (by decide)) 15) (f24 65 (by decide)) hI105
  have I35 : jI106 σ22 := jI106_fr (congrFun (f24 55 (by decide)) 32) (f24 70 (by decide)) (f24 71 (by decide)) (f24 72 (by decide)) hI106
  have I36 : jI119 σ22 := jI119_fr (f24 68 (by decide)) hI119
  have I37 : jI109 σ22 := jI109_fr (congrFun (f24 55 (by decide)) 50) hI109
  have p38 : jKept σ22 := jKept.fr (f24 75 (by decide)) (f24 76 (by decide)) (f24 77 (by decide)) hs_jKept
  refine jcallV (As := [.int (xs x18.toNatClampNeg), .int (xs x20.toNatClampNeg)]) (rest := []) ⟨hx, hb, hml, hown, hts⟩ hK hP hA hS hZ (c_X12_game l D cI cL ad zz hJ σ22 τ (xs x18.toNatClampNeg) ((xs x18.toNatClampNeg).toInt) rfl (xs x20.toNatClampNeg) ((xs x20.toNatClampNeg).toInt) rfl I30 I31 I32 I33 I34 I35 I36 I37 p38) cw_RL_116 (jc_55 cI cL ad σ22 τ) rfl ⟨Nat.le_of_ble_eq_true rfl, Nat.le_of_ble_eq_true rfl⟩ rfl rfl rfl hl.1 rfl (Nat.le_of_ble_eq_true rfl) dL_law_924 ⟨Nat.le_of_ble_eq_true rfl, Nat.le_of_ble_eq_true rfl⟩ (fun r40 σ39 τ39 H locs h39 hP hS => ?_)
  obtain ⟨rfl, f41, f42, I43, I44, p45, h39⟩ := h39
  refine lv_pop hx hb dL_law_927 rfl ?_
  refine lv_goto (tgt := 1357) hx hb dL_law_928 (by decide) ?_
  obtain ⟨x47, ex47⟩ : ∃ y : Int32, y = x0 + 6 := ⟨_, rfl⟩
  have tx47 : x47.toInt = x0.toInt + 6 := (jadd ex47 rfl jz_6 (by omega) (by omega)).trans (by omega)
  refine lv_iinc (v := x47) (lv' := [(3, .int x47), (2, .ref (ad 55)), (1, .ref (ad 0)), (0, .ref b)]) hx hb dL_law_1357 hl (k := 0) rfl (by rw [ex47]; rfl) (by decide) rfl (fun ls hl => ?_)
  refine lv_goto (tgt := 18) hx hb dL_law_1360 (by decide) ?_
  have I48 : jI2 σ39 := jI2_fr ((congrFun (f41 2 (by decide)) 0).trans (congrFun (f24 2 (by decide)) 0)) ((congrFun (f41 2 (by decide)) 1).trans (congrFun (f24 2 (by decide)) 1)) ((congrFun (f41 2 (by decide)) 2).trans (congrFun (f24 2 (by decide)) 2)) ((congrFun (f41 2 (by decide)) 3).trans (congrFun (f24 2 (by decide)) 3)) ((f41 6 (by decide)).trans (f24 6 (by decide))) hI2
  have I49 : jI9 σ39 := jI9_fr ((congrFun (f41 9 (by decide)) 0).trans (congrFun (f24 9 (by decide)) 0)) ((f41 10 (by decide)).trans (f24 10 (by decide))) ((f41 11 (by decide)).trans (f24 11 (by decide))) hI9
  have I50 : jI12 σ39 := jI12_fr ((congrFun (f41 12 (by decide)) 0).trans (congrFun (f24 12 (by decide)) 0)) ((f41 13 (by decide)).trans (f24 13 (by decide))) hI12
  have I51 : jI16 σ39 := jI16_fr ((congrFun (f41 16 (by decide)) 0).trans (congrFun (f24 16 (by decide)) 0)) ((congrFun (f41 16 (by decide)) 1).trans (congrFun (f24 16 (by decide)) 1)) ((congrFun (f41 16 (by decide)) 2).trans (congrFun (f24 16 (by decide)) 2)) ((f41 17 (by decide)).trans (f24 17 (by decide))) hI16
  have I52 : jI18 σ39 := jI18_fr ((congrFun (f41 18 (by decide)) 0).trans (congrFun (f24 18 (by decide)) 0)) ((f41 19 (by decide)).trans (f24 19 (by decide))) hI18
  have I53 : jI22 σ39 := jI22_fr ((congrFun (f41 22 (by decide)) 0).trans (congrFun (f24 22 (by decide)) 0)) ((f41 23 (by decide)).trans (f24 23 (by decide))) hI22
  have I54 : jI31 σ39 := jI31_fr (congrFun (f41 31 (by decide)) 8) (f41 33 (by decide)) (f41 36 (by decide)) I27
  have I55 : jI38 σ39 := jI38_fr ((congrFun (f41 38 (by decide)) 0).trans (congrFun (f24 38 (by decide)) 0)) ((congrFun (f41 38 (by decide)) 1).trans (congrFun (f24 38 (by decide)) 1)) ((f41 39 (by decide)).trans (f24 39 (by decide))) hI38
  have I56 : jI43 σ39 := jI43_fr (congrFun (f41 43 (by decide)) 8) I28
  have I57 : jI47 σ39 := jI47_fr ((congrFun (f41 47 (by decide)) 0).trans (congrFun (f24 47 (by decide)) 0)) ((f41 48 (by decide)).trans (f24 48 (by decide))) ((f41 49 (by decide)).trans (f24 49 (by decide))) hI47
  have I58 : jI50 σ39 := jI50_fr ((f41 52 (by decide)).trans (f24 52 (by decide))) hI50
  have I59 : jI101 σ39 := jI101_fr (f42 4 (by decide)) (f42 5 (by decide)) (f41 56 (by decide)) (f41 57 (by decide)) (f41 58 (by decide)) (f41 59 (by decide)) I30
  have I60 : jI102 σ39 := jI102_fr (f42 6 (by decide)) (f41 60 (by decide)) (f41 61 (by decide)) I31
  have I61 : jI103 σ39 := jI103_fr (f42 9 (by decide)) I32
  have I62 : jI104 σ39 := jI104_fr (f42 10 (by decide)) (f42 12 (by decide)) (f42 13 (by decide)) (f41 62 (by decide)) (f41 67 (by decide)) I33
  have I63 : jI105 σ39 := jI105_fr (f42 15 (by decide)) (f41 65 (by decide)) I34
  have I64 : jI106 σ39 := jI106_fr (f42 32 (by decide)) (f41 70 (by decide)) (f41 71 (by decide)) (f41 72 (by decide)) I35
  have I65 : jI107 σ39 := jI107_fr ((f42 12 (by decide)).trans (congrFun (f24 55 (by decide)) 12)) ((f42 47 (by decide)).trans (congrFun (f24 55 (by decide)) 47)) ((f41 80 (by decide)).trans (f24 80 (by decide))) hI107
  have I66 : jI110 σ39 := jI110_fr ((f41 86 (by decide)).trans (f24 86 (by decide))) ((f41 87 (by decide)).trans (f24 87 (by decide))) hI110
  have I67 : jI111 σ39 := jI111_fr ((f41 79 (by decide)).trans (f24 79 (by decide))) hI111
  have p68 : jBook σ39 := jBook.fr ((f42 47 (by decide)).trans (congrFun (f24 55 (by decide)) 47)) ((f42 10 (by decide)).trans (congrFun (f24 55 (by decide)) 10)) ((f41 81 (by decide)).trans (f24 81 (by decide))) hs_jBook
  have z69 : (σ39 2 0).toInt = (σ 2 0).toInt := (congrArg Int32.toInt (show σ39 2 0 = (σ 2 0) from ((congrFun (f41 2 (by decide)) 0).trans (congrFun (f24 2 (by decide)) 0))))
  have z70 : (σ39 55 6).toInt = (σ 55 6).toInt := (congrArg Int32.toInt (show σ39 55 6 = (σ 55 6) from ((f42 6 (by decide)).trans (congrFun (f24 55 (by decide)) 6))))
  have z71 : (σ39 2 2).toInt = (σ 2 2).toInt := (congrArg Int32.toInt (show σ39 2 2 = (σ 2 2) from ((congrFun (f41 2 (by decide)) 2).trans (congrFun (f24 2 (by decide)) 2))))
  have z72 : (σ39 55 5).toInt = (σ 55 5).toInt := (congrArg Int32.toInt (show σ39 55 5 = (σ 55 5) from ((f42 5 (by decide)).trans (congrFun (f24 55 (by decide)) 5))))
  have z73 : (σ39 2 3).toInt = (σ 2 3).toInt := (congrArg Int32.toInt (show σ39 2 3 = (σ 2 3) from ((congrFun (f41 2 (by decide)) 3).trans (congrFun (f24 2 (by decide)) 3))))
  have z74 : (σ39 55 4).toInt = (σ 55 4).toInt := (congrArg Int32.toInt (show σ39 55 4 = (σ 55 4) from ((f42 4 (by decide)).trans (congrFun (f24 55 (by decide)) 4))))
  exact ih x47 σ39 τ _ _ ls (by have h9 := tx47; omega) ⟨I48, I49, I50, I51, I52, I53, I54, I55, I56, I57, I58, I59, I60, I61, I62, I63, I64, I65, I43, I66, I67, I44, p45, p68, (by omega), (by omega), (by omega), (show jNumP (σ39 3) (σ39 56) (σ39 6) (σ39 57) (σ39 7) (σ39 58) (σ39 8) (σ39 59) (σ39 55 6).toInt (σ39 55 4).toInt by rw [show σ39 3 = σ 3 from ((f41 3 (by decide)).trans (f24 3 (by decide))), show σ39 56 = σ 56 from ((f41 56 (by decide)).trans (f24 56 (by decide))), show σ39 6 = σ 6 from ((f41 6 (by decide)).trans (f24 6 (by decide))), show σ39 57 = σ 57 from ((f41 57 (by decide)).trans (f24 57 (by decide))), show σ39 7 = σ 7 from ((f41 7 (by decide)).trans (f24 7 (by decide))), show σ39 58 = σ 58 from ((f41 58 (by decide)).trans (f24 58 (by decide))), show σ39 8 = σ 8 from ((f41 8 (by decide)).trans (f24 8 (by decide))), show σ39 59 = σ 59 from ((f41 59 (by decide)).trans (f24 59 (by decide))), show (σ39 55 6).toInt = (σ 55 6).toInt from by omega, show (σ39 55 4).toInt = (σ 55 4).toInt from by omega]; exact hr0)⟩ hP hS (lv_sub hl [0, 1, 2, 3] rfl)
set_option maxHeartbeats 4000000 in
set_option maxRecDepth 100000 in
theorem law_case_25 {p : Program} {e : Env} {s : State} {m : MethodId} {below : List Frame} {meth : Method} {c : Code} (l : Launch) {b L : Nat} {xs : Nat → Int32} {D : va_G} {cI cL : ClassId} {ad zz : Nat → Nat} (C0 : lw_At p s m meth c b L xs) (hJ : jD ad) (hA : ∀ q, jA ad q → s.heap.size ≤ q) (hK : jK D cI cL s) (hZ : jZ zz (fun q : Nat => s.heap.size ≤ q) s s.heap) {x0 : Int32} (hx0 : 0 ≤ x0.toInt) (hxL : x0.toInt + 6 ≤ (L : Int)) (hL : L ≤ 384) {σ : Nat → Nat → Int32} {τ : Nat → Nat → Int64} {H : Heap} {locs : List Loc} (hS : va_S (fun q : Nat => s.heap.size ≤ q) s.heap H locs) {ls : Array Slot} (hAll : jAll σ τ) (hP : jH D cI cL ad σ τ H) (hl : lv_has ls 4 [(3, .int x0), (2, .ref (ad 55)), (1, .ref (ad 0)), (0, .ref b)]) (ih : ∀ (x1 : Int32) (σ : Nat → Nat → Int32) (τ : Nat → Nat → Int64) (H : Heap) (locs : List Loc) (ls : Array Slot), x1.toInt = x0.toInt + 6 → jAll σ τ → jH D cI cL ad σ τ H → va_S (fun q : Nat => s.heap.size ≤ q) s.heap H locs → lv_has ls 4 [(3, .int x1), (2, .ref (ad 55)), (1, .ref (ad 0)), (0, .ref b)] → W p l e room_1 s m #[Value.ref b] below meth c H locs 90 348600 (lw_Z below #[Value.ref b] s) (F0 m 18 ls [])) : W p l e room_1 s m #[Value.ref b] below meth c H locs 90 348600 (lw_Z below #[Value.ref b] s) (F0 m 931 ls []) := by
  obtain ⟨hx, hb, hr, hml, hown, hts0, hX, hbl, hlocks, hgv⟩ := C0
  have hts : ∀ w ∈ wsL_law, w.before #[Value.ref b] s = true := fun w h => hts0 w (wsL_law_in w h)
  have hbA : ¬ (fun q : Nat => s.heap.size ≤ q) b := Nat.not_le.mpr hbl
  have hown : s.vm.findClass RL = some m.cls := hown
  obtain ⟨hI2, hI9, hI12, hI16, hI18, hI22, hI31, hI38, hI43, hI47, hI50, hI101, hI102, hI103, hI104, hI105, hI106, hI107, hI109, hI110, hI111, hI119, hs_jKept, hs_jBook, ht0, ht1, ht2, hr0⟩ := hAll
  have hL9 : (L : Int) ≤ 384 := by omega
  obtain ⟨i1, i2, i3, i4, i5, w6⟩ : (0 ≤ (σ 2 0).toInt ∧ (σ 2 0).toInt ≤ 4) ∧ (0 ≤ (σ 2 1).toInt ∧ (σ 2 1).toInt ≤ 3) ∧ (0 ≤ (σ 2 2).toInt) ∧ (0 ≤ (σ 2 3).toInt) ∧ ((σ 2 2).toInt + (σ 2 3).toInt ≤ 40) ∧ (∀ k : Nat, k < 40 → 0 ≤ (σ 6 k).toInt ∧ (σ 6 k).toInt ≤ 67) := id hI2
  obtain ⟨i7, i8, i9, w10, w11, w12, w13⟩ : (0 ≤ (σ 55 5).toInt) ∧ ((σ 55 5).toInt ≤ (σ 55 4).toInt) ∧ ((σ 55 4).toInt ≤ 40) ∧ (∀ k : Nat, k < 68 → (-200) ≤ (σ 56 k).toInt ∧ (σ 56 k).toInt ≤ 500) ∧ (∀ k : Nat, k < 40 → 0 ≤ (σ 57 k).toInt ∧ (σ 57 k).toInt ≤ 67) ∧ (∀ k : Nat, k < 40 → (-200) ≤ (σ 58 k).toInt ∧ (σ 58 k).toInt ≤ 500) ∧ (∀ k : Nat, k < 40 → (-200) ≤ (σ 59 k).toInt ∧ (σ 59 k).toInt ≤ 500) := id hI101
  obtain ⟨i14, w15, w16⟩ : (0 ≤ (σ 55 6).toInt ∧ (σ 55 6).toInt ≤ 4) ∧ (∀ k : Nat, k < 4 → 0 ≤ (σ 60 k).toInt ∧ (σ 60 k).toInt ≤ 50) ∧ (∀ k : Nat, k < 4 → 0 ≤ (σ 61 k).toInt ∧ (σ 61 k).toInt ≤ 20) := id hI102
  refine lv_aload_n hx hb dL_law_931 rfl (lv_at hl 2 rfl) ?_
  refine lv_aload_n hx hb dL_law_932 rfl (lv_at hl 3 rfl) ?_
  refine lv_iload_n hx hb dL_law_933 rfl (lv_at hl 0 rfl) ?_
  refine lv_iconst (v := 1) hx hb dL_law_934 (by decide) ?_
  have g17 := jrg (rfl : x0.toInt = x0.toInt)
  refine lv_iadd hx hb dL_law_935 ?_
  refine lv_topi (fun x18 ex18 => ?_)
  have tx18 : x18.toInt = x0.toInt + 1 := (jadd ex18 rfl jz_1 (by omega) (by omega)).trans (by omega)
  refine va_sld hx hb hX hbl hbA hS (jin tx18 (by omega) (by omega)) dL_law_936 ?_
  have g19 := jrg (rfl : (xs x18.toNatClampNeg).toInt = (xs x18.toNatClampNeg).toInt)
  refine lv_aload_n hx hb dL_law_937 rfl (lv_at hl 3 rfl) ?_
  refine lv_iload_n hx hb dL_law_938 rfl (lv_at hl 0 rfl) ?_
  refine lv_iconst (v := 2) hx hb dL_law_939 (by decide) ?_
  refine lv_iadd hx hb dL_law_940 ?_
  refine lv_topi (fun x20 ex20 => ?_)
  have tx20 : x20.toInt = x0.toInt + 2 := (jadd ex20 rfl jz_2 (by omega) (by omega)).trans (by omega)
  refine va_sld hx hb hX hbl hbA hS (jin tx20 (by omega) (by omega)) dL_law_941 ?_
  have g21 := jrg (rfl : (xs x20.toNatClampNeg).toInt = (xs x20.toNatClampNeg).toInt)
  refine jcallV (As := [.int (xs x18.toNatClampNeg), .int (xs x20.toNatClampNeg)]) (rest := []) ⟨hx, hb, hml, hown, hts⟩ hK hP hA hS hZ (c_X11_led l D cI cL ad zz hJ σ τ (xs x18.toNatClampNeg) ((xs x18.toNatClampNeg).toInt) rfl (xs x20.toNatClampNeg) ((xs x20.toNatClampNeg).toInt) rfl hI43) cw_RL_117 (jc_0 cI cL ad σ τ) rfl ⟨Nat.le_of_ble_eq_true rfl, Nat.le_of_ble_eq_true rfl⟩ rfl rfl rfl hl.1 rfl (Nat.le_of_ble_eq_true rfl) dL_law_942 ⟨Nat.le_of_ble_eq_true rfl, Nat.le_of_ble_eq_true rfl⟩ (fun r23 σ22 τ22 H locs h22 hP hS => ?_)
  obtain ⟨⟨rfl, rfl⟩, h22⟩ := h22
  refine lv_pop hx hb dL_law_945 rfl ?_
  refine lv_aload_n hx hb dL_law_946 rfl (lv_at hl 1 rfl) ?_
  refine lv_aload_n hx hb dL_law_947 rfl (lv_at hl 3 rfl) ?_
  refine lv_iload_n hx hb dL_law_948 rfl (lv_at hl 0 rfl) ?_
  refine lv_iconst (v := 1) hx hb dL_law_949 (by decide) ?_
  refine lv_iadd hx hb dL_law_950 ?_
  refine jtopr ex18.symm ?_
  refine va_sld hx hb hX hbl hbA hS (jin tx18 (by omega) (by omega)) dL_law_951 ?_
  refine lv_aload_n hx hb dL_law_952 rfl (lv_at hl 3 rfl) ?_
  refine lv_iload_n hx hb dL_law_953 rfl (lv_at hl 0 rfl) ?_
  refine lv_iconst (v := 2) hx hb dL_law_954 (by decide) ?_
  refine lv_iadd hx hb dL_law_955 ?_
  refine jtopr ex20.symm ?_
  refine va_sld hx hb hX hbl hbA hS (jin tx20 (by omega) (by omega)) dL_law_956 ?_
  refine jcallV (As := [.int (xs x18.toNatClampNeg), .int (xs x20.toNatClampNeg)]) (rest := []) ⟨hx, hb, hml, hown, hts⟩ hK hP hA hS hZ (c_X12_led l D cI cL ad zz hJ σ τ (xs x18.toNatClampNeg) ((xs x18.toNatClampNeg).toInt) rfl (xs x20.toNatClampNeg) ((xs x20.toNatClampNeg).toInt) rfl hI109) cw_RL_120 (jc_55 cI cL ad σ τ) rfl ⟨Nat.le_of_ble_eq_true rfl, Nat.le_of_ble_eq_true rfl⟩ rfl rfl rfl hl.1 rfl (Nat.le_of_ble_eq_true rfl) dL_law_957 ⟨Nat.le_of_ble_eq_true rfl, Nat.le_of_ble_eq_true rfl⟩ (fun r25 σ24 τ24 H locs h24 hP hS => ?_)
  obtain ⟨⟨rfl, rfl⟩, h24⟩ := h24
  refine lv_pop hx hb dL_law_960 rfl ?_
  refine lv_goto (tgt := 1357) hx hb dL_law_961 (by decide) ?_
  obtain ⟨x26, ex26⟩ : ∃ y : Int32, y = x0 + 6 := ⟨_, rfl⟩
  have tx26 : x26.toInt = x0.toInt + 6 := (jadd ex26 rfl jz_6 (by omega) (by omega)).trans (by omega)
  refine lv_iinc (v := x26) (lv' := [(3, .int x26), (2, .ref (ad 55)), (1, .ref (ad 0)), (0, .ref b)]) hx hb dL_law_1357 hl (k := 0) rfl (by rw [ex26]; rfl) (by decide) rfl (fun ls hl => ?_)
  refine lv_goto (tgt := 18) hx hb dL_law_1360 (by decide) ?_
  exact ih x26 σ τ _ _ ls (by have h9 := tx26; omega) ⟨hI2, hI9, hI12, hI16, hI18, hI22, hI31, hI38, hI43, hI47, hI50, hI101, hI102, hI103, hI104, hI105, hI106, hI107, hI109, hI110, hI111, hI119, hs_jKept, hs_jBook, (by omega), (by omega), (by omega), hr0⟩ hP hS (lv_sub hl [0, 1, 2, 3] rfl)
set_option maxHeartbeats 4000000 in
set_option maxRecDepth 100000 in
theorem law_case_26 {p : Program} {e : Env} {s : State} {m : MethodId} {below : List Frame} {meth : Method} {c : Code} (l : Launch) {b L : Nat} {xs : Nat → Int32} {D : va_G} {cI cL : ClassId} {ad zz : Nat → Nat} (C0 : lw_At p s m meth c b L xs) (hJ : jD ad) (hA : ∀ q, jA ad q → s.heap.size ≤ q) (hK : jK D cI cL s) (hZ : jZ zz (fun q : Nat => s.heap.size ≤ q) s s.heap) {x0 : Int32} (hx0 : 0 ≤ x0.toInt) (hxL : x0.toInt + 6 ≤ (L : Int)) (hL : L ≤ 384) {σ : Nat → Nat → Int32} {τ : Nat → Nat → Int64} {H : Heap} {locs : List Loc} (hS : va_S (fun q : Nat => s.heap.size ≤ q) s.heap H locs) {ls : Array Slot} (hAll : jAll σ τ) (hP : jH D cI cL ad σ τ H) (hl : lv_has ls 4 [(3, .int x0), (2, .ref (ad 55)), (1, .ref (ad 0)), (0, .ref b)]) (ih : ∀ (x1 : Int32) (σ : Nat → Nat → Int32) (τ : Nat → Nat → Int64) (H : Heap) (locs : List Loc) (ls : Array Slot), x1.toInt = x0.toInt + 6 → jAll σ τ → jH D cI cL ad σ τ H → va_S (fun q : Nat => s.heap.size ≤ q) s.heap H locs → lv_has ls 4 [(3, .int x1), (2, .ref (ad 55)), (1, .ref (ad 0)), (0, .ref b)] → W p l e room_1 s m #[Value.ref b] below meth c H locs 90 348600 (lw_Z below #[Value.ref b] s) (F0 m 18 ls [])) : W p l e room_1 s m #[Value.ref b] below meth c H locs 90 348600 (lw_Z below #[Value.ref b] s) (F0 m 964 ls []) := by
  obtain ⟨hx, hb, hr, hml, hown, hts0, hX, hbl, hlocks, hgv⟩ := C0
  have hts : ∀ w ∈ wsL_law, w.before #[Value.ref b] s = true := fun w h => hts0 w (wsL_law_in w h)
  have hbA : ¬ (fun q : Nat => s.heap.size ≤ q) b := Nat.not_le.mpr hbl
  have hown : s.vm.findClass RL = some m.cls := hown
  obtain ⟨hI2, hI9, hI12, hI16, hI18, hI22, hI31, hI38, hI43, hI47, hI50, hI101, hI102, hI103, hI104, hI105, hI106, hI107, hI109, hI110, hI111, hI119, hs_jKept, hs_jBook, ht0, ht1, ht2, hr0⟩ := hAll
  have hL9 : (L : Int) ≤ 384 := by omega
  obtain ⟨i1, i2, i3, i4, i5, w6⟩ : (0 ≤ (σ 2 0).toInt ∧ (σ 2 0).toInt ≤ 4) ∧ (0 ≤ (σ 2 1).toInt ∧ (σ 2 1).toInt ≤ 3) ∧ (0 ≤ (σ 2 2).toInt) ∧ (0 ≤ (σ 2 3).toInt) ∧ ((σ 2 2).toInt + (σ 2 3).toInt ≤ 40) ∧ (∀ k : Nat, k < 40 → 0 ≤ (σ 6 k).toInt ∧ (σ 6 k).toInt ≤ 67) := id hI2
  obtain ⟨i7, i8, i9, w10, w11, w12, w13⟩ : (0 ≤ (σ 55 5).toInt) ∧ ((σ 55 5).toInt ≤ (σ 55 4).toInt) ∧ ((σ 55 4).toInt ≤ 40) ∧ (∀ k : Nat, k < 68 → (-200) ≤ (σ 56 k).toInt ∧ (σ 56 k).toInt ≤ 500) ∧ (∀ k : Nat, k < 40 → 0 ≤ (σ 57 k).toInt ∧ (σ 57 k).toInt ≤ 67) ∧ (∀ k : Nat, k < 40 → (-200) ≤ (σ 58 k).toInt ∧ (σ 58 k).toInt ≤ 500) ∧ (∀ k : Nat, k < 40 → (-200) ≤ (σ 59 k).toInt ∧ (σ 59 k).toInt ≤ 500) := id hI101
  obtain ⟨i14, w15, w16⟩ : (0 ≤ (σ 55 6).toInt ∧ (σ 55 6).toInt ≤ 4) ∧ (∀ k : Nat, k < 4 → 0 ≤ (σ 60 k).toInt ∧ (σ 60 k).toInt ≤ 50) ∧ (∀ k : Nat, k < 4 → 0 ≤ (σ 61 k).toInt ∧ (σ 61 k).toInt ≤ 20) := id hI102
  refine lv_aload_n hx hb dL_law_964 rfl (lv_at hl 2 rfl) ?_
  refine jcallV (As := []) (rest := []) ⟨hx, hb, hml, hown, hts⟩ hK hP hA hS hZ (c_X11_undo l D cI cL ad zz hJ σ τ hI2) cw_RL_121 (jc_0 cI cL ad σ τ) rfl ⟨Nat.le_of_ble_eq_true rfl, Nat.le_of_ble_eq_true rfl⟩ rfl rfl rfl hl.1 rfl (Nat.le_of_ble_eq_true rfl) dL_law_965 ⟨Nat.le_of_ble_eq_true rfl, Nat.le_of_ble_eq_true rfl⟩ (fun r18 σ17 τ17 H locs h17 hP hS => ?_)
  obtain ⟨rfl, f19, f20, I21, h17⟩ := h17
  obtain ⟨i23, i24, i25, i26, i27, w28⟩ : (0 ≤ (σ17 2 0).toInt ∧ (σ17 2 0).toInt ≤ 4) ∧ (0 ≤ (σ17 2 1).toInt ∧ (σ17 2 1).toInt ≤ 3) ∧ (0 ≤ (σ17 2 2).toInt) ∧ (0 ≤ (σ17 2 3).toInt) ∧ ((σ17 2 2).toInt + (σ17 2 3).toInt ≤ 40) ∧ (∀ k : Nat, k < 40 → 0 ≤ (σ17 6 k).toInt ∧ (σ17 6 k).toInt ≤ 67) := id I21
  have z29 : (σ17 2 0).toInt = (σ 2 0).toInt := (congrArg Int32.toInt (show σ17 2 0 = (σ 2 0) from (f20 0 (by decide))))
  have z30 : (σ17 2 1).toInt = (σ 2 1).toInt := (congrArg Int32.toInt (show σ17 2 1 = (σ 2 1) from (f20 1 (by decide))))
  rcases h17 with h31 | h32
  · obtain ⟨q37, k33, k34, k35, k36⟩ := h31
    have q37 := q37.symm
    subst q37
    refine lv_pop hx hb dL_law_968 rfl ?_
    refine lv_aload_n hx hb dL_law_969 rfl (lv_at hl 1 rfl) ?_
    have I38 : jI101 σ17 := jI101_fr (congrFun (f19 55 (by decide)) 4) (congrFun (f19 55 (by decide)) 5) (f19 56 (by decide)) (f19 57 (by decide)) (f19 58 (by decide)) (f19 59 (by decide)) hI101
    have z39 : (σ17 55 5).toInt = (σ 55 5).toInt := (congrArg Int32.toInt (show σ17 55 5 = (σ 55 5) from (congrFun (f19 55 (by decide)) 5)))
    refine jcallV (As := []) (rest := []) ⟨hx, hb, hml, hown, hts⟩ hK hP hA hS hZ (c_X12_undo l D cI cL ad zz hJ σ17 τ I38) cw_RL_124 (jc_55 cI cL ad σ17 τ) rfl ⟨Nat.le_of_ble_eq_true rfl, Nat.le_of_ble_eq_true rfl⟩ rfl rfl rfl hl.1 rfl (Nat.le_of_ble_eq_true rfl) dL_law_970 ⟨Nat.le_of_ble_eq_true rfl, Nat.le_of_ble_eq_true rfl⟩ (fun r41 σ40 τ40 H locs h40 hP hS => ?_)
    obtain ⟨rfl, f42, f43, I44, h40⟩ := h40
    obtain ⟨i46, i47, i48, w49, w50, w51, w52⟩ : (0 ≤ (σ40 55 5).toInt) ∧ ((σ40 55 5).toInt ≤ (σ40 55 4).toInt) ∧ ((σ40 55 4).toInt ≤ 40) ∧ (∀ k : Nat, k < 68 → (-200) ≤ (σ40 56 k).toInt ∧ (σ40 56 k).toInt ≤ 500) ∧ (∀ k : Nat, k < 40 → 0 ≤ (σ40 57 k).toInt ∧ (σ40 57 k).toInt ≤ 67) ∧ (∀ k : Nat, k < 40 → (-200) ≤ (σ40 58 k).toInt ∧ (σ40 58 k).toInt ≤ 500) ∧ (∀ k : Nat, k < 40 → (-200) ≤ (σ40 59 k).toInt ∧ (σ40 59 k).toInt ≤ 500) := id I44
    have z53 : (σ40 55 4).toInt = (σ 55 4).toInt := (congrArg Int32.toInt (show σ40 55 4 = (σ 55 4) from ((f43 4 (by decide)).trans (congrFun (f19 55 (by decide)) 4))))
    rcases h40 with h54 | h55
    · obtain ⟨q59, k56, k57, k58⟩ := h54
      have q59 := q59.symm
      subst q59
      refine lv_pop hx hb dL_law_973 rfl ?_
      refine lv_goto (tgt := 1357) hx hb dL_law_974 (by decide) ?_
      obtain ⟨x60, ex60⟩ : ∃ y : Int32, y = x0 + 6 := ⟨_, rfl⟩
      have tx60 : x60.toInt = x0.toInt + 6 := (jadd ex60 rfl jz_6 (by omega) (by omega)).trans (by omega)
      refine lv_iinc (v := x60) (lv' := [(3, .int x60), (2, .ref (ad 55)), (1, .ref (ad 0)), (0, .ref b)]) hx hb dL_law_1357 hl (k := 0) rfl (by rw [ex60]; rfl) (by decide) rfl (fun ls hl => ?_)
      refine lv_goto (tgt := 18) hx hb dL_law_1360 (by decide) ?_
      have I61 : jI2 σ40 := jI2_fr (congrFun (f42 2 (by decide)) 0) (congrFun (f42 2 (by decide)) 1) (congrFun (f42 2 (by decide)) 2) (congrFun (f42 2 (by decide)) 3) (f42 6 (by decide)) I21
      have I62 : jI9 σ40 := jI9_fr ((congrFun (f42 9 (by decide)) 0).trans (congrFun (f19 9 (by decide)) 0)) ((f42 10 (by decide)).trans (f19 10 (by decide))) ((f42 11 (by decide)).trans (f19 11 (by decide))) hI9
      have I63 : jI12 σ40 := jI12_fr ((congrFun (f42 12 (by decide)) 0).trans (congrFun (f19 12 (by decide)) 0)) ((f42 13 (by decide)).trans (f19 13 (by decide))) hI12
      have I64 : jI16 σ40 := jI16_fr ((congrFun (f42 16 (by decide)) 0).trans (congrFun (f19 16 (by decide)) 0)) ((congrFun (f42 16 (by decide)) 1).trans (congrFun (f19 16 (by decide)) 1)) ((congrFun (f42 16 (by decide)) 2).trans (congrFun (f19 16 (by decide)) 2)) ((f42 17 (by decide)).trans (f19 17 (by decide))) hI16
      have I65 : jI18 σ40 := jI18_fr ((congrFun (f42 18 (by decide)) 0).trans (congrFun (f19 18 (by decide)) 0)) ((f42 19 (by decide)).trans (f19 19 (by decide))) hI18
      have I66 : jI22 σ40 := jI22_fr ((congrFun (f42 22 (by decide)) 0).trans (congrFun (f19 22 (by decide)) 0)) ((f42 23 (by decide)).trans (f19 23 (by decide))) hI22
      have I67 : jI31 σ40 := jI31_fr ((congrFun (f42 31 (by decide)) 8).trans (congrFun (f19 31 (by decide)) 8)) ((f42 33 (by decide)).trans (f19 33 (by decide))) ((f42 36 (by decide)).trans (f19 36 (by decide))) hI31
      have I68 : jI38 σ40 := jI38_fr ((congrFun (f42 38 (by decide)) 0).trans (congrFun (f19 38 (by decide)) 0)) ((congrFun (f42 38 (by decide)) 1).trans (congrFun (f19 38 (by decide)) 1)) ((f42 39 (by decide)).trans (f19 39 (by decide))) hI38
      have I69 : jI43 σ40 := jI43_fr ((congrFun (f42 43 (by decide)) 8).trans (congrFun (f19 43 (by decide)) 8)) hI43
      have I70 : jI47 σ40 := jI47_fr ((congrFun (f42 47 (by decide)) 0).trans (congrFun (f19 47 (by decide)) 0)) ((f42 48 (by decide)).trans (f19 48 (by decide))) ((f42 49 (by decide)).trans (f19 49 (by decide))) hI47
      have I71 : jI50 σ40 := jI50_fr ((f42 52 (by decide)).trans (f19 52 (by decide))) hI50
      have I72 : jI102 σ40 := jI102_fr ((f43 6 (by decide)).trans (congrFun (f19 55 (by decide)) 6)) ((f42 60 (by decide)).trans (f19 60 (by decide))) ((f42 61 (by decide)).trans (f19 61 (by decide))) hI102
      have I73 : jI103 σ40 := jI103_fr ((f43 9 (by decide)).trans (congrFun (f19 55 (by decide)) 9)) hI103
      have I74 : jI104 σ40 := jI104_fr ((f43 10 (by decide)).trans (congrFun (f19 55 (by decide)) 10)) ((f43 12 (by decide)).trans (congrFun (f19 55 (by decide)) 12)) ((f43 13 (by decide)).trans (congrFun (f19 55 (by decide)) 13)) ((f42 62 (by decide)).trans (f19 62 (by decide))) ((f42 67 (by decide)).trans (f19 67 (by decide))) hI104
      have I75 : jI105 σ40 := jI105_fr ((f43 15 (by decide)).trans (congrFun (f19 55 (by decide)) 15)) ((f42 65 (by decide)).trans (f19 65 (by decide))) hI105
      have I76 : jI106 σ40 := jI106_fr ((f43 32 (by decide)).trans (congrFun (f19 55 (by decide)) 32)) ((f42 70 (by decide)).trans (f19 70 (by decide))) ((f42 71 (by decide)).trans (f19 71 (by decide))) ((f42 72 (by decide)).trans (f19 72 (by decide))) hI106
      have I77 : jI107 σ40 := jI107_fr ((f43 12 (by decide)).trans (congrFun (f19 55 (by decide)) 12)) ((f43 47 (by decide)).trans (congrFun (f19 55 (by decide)) 47)) ((f42 80 (by decide)).trans (f19 80 (by decide))) hI107
      have I78 : jI109 σ40 := jI109_fr ((f43 50 (by decide)).trans (congrFun (f19 55 (by decide)) 50)) hI109
      have I79 : jI110 σ40 := jI110_fr ((f42 86 (by decide)).trans (f19 86 (by decide))) ((f42 87 (by decide)).trans (f19 87 (by decide))) hI110
      have I80 : jI111 σ40 := jI111_fr ((f42 79 (by decide)).trans (f19 79 (by decide))) hI111
      have I81 : jI119 σ40 := jI119_fr ((f42 68 (by decide)).trans (f19 68 (by decide))) hI119
      have p82 : jKept σ40 := jKept.fr ((f42 75 (by decide)).trans (f19 75 (by decide))) ((f42 76 (by decide)).trans (f19 76 (by decide))) ((f42 77 (by decide)).trans (f19 77 (by decide))) hs_jKept
      have p83 : jBook σ40 := jBook.fr ((f43 47 (by decide)).trans (congrFun (f19 55 (by decide)) 47)) ((f43 10 (by decide)).trans (congrFun (f19 55 (by decide)) 10)) ((f42 81 (by decide)).trans (f19 81 (by decide))) hs_jBook
      have z84 : (σ40 2 0).toInt = (σ 2 0).toInt := (congrArg Int32.toInt (show σ40 2 0 = (σ 2 0) from ((congrFun (f42 2 (by decide)) 0).trans (f20 0 (by decide)))))
      have z85 : (σ40 55 6).toInt = (σ 55 6).toInt := (congrArg Int32.toInt (show σ40 55 6 = (σ 55 6) from ((f43 6 (by decide)).trans (congrFun (f19 55 (by decide)) 6))))
      have z86 : (σ40 2 2).toInt = (σ17 2 2).toInt := (congrArg Int32.toInt (show σ40 2 2 = (σ17 2 2) from (congrFun (f42 2 (by decide)) 2)))
      have z87 : (σ40 2 3).toInt = (σ17 2 3).toInt := (congrArg Int32.toInt (show σ40 2 3 = (σ17 2 3) from (congrFun (f42 2 (by decide)) 3)))
      exact ih x60 σ40 τ _ _ ls (by have h9 := tx60; omega) ⟨I61, I62, I63, I64, I65, I66, I67, I68, I69, I70, I71, I44, I72, I73, I74, I75, I76, I77, I78, I79, I80, I81, p82, p83, (by omega), (by omega), (by omega), (show jNumP (σ40 3) (σ40 56) (σ40 6) (σ40 57) (σ40 7) (σ40 58) (σ40 8) (σ40 59) (σ40 55 6).toInt (σ40 55 4).toInt by rw [show σ40 3 = σ 3 from ((f42 3 (by decide)).trans k36), show σ40 56 = σ 56 from (k58.trans (f19 56 (by decide))), show σ40 6 = σ 6 from ((f42 6 (by decide)).trans (f19 6 (by decide))), show σ40 57 = σ 57 from ((f42 57 (by decide)).trans (f19 57 (by decide))), show σ40 7 = σ 7 from ((f42 7 (by decide)).trans (f19 7 (by decide))), show σ40 58 = σ 58 from ((f42 58 (by decide)).trans (f19 58 (by decide))), show σ40 8 = σ 8 from ((f42 8 (by decide)).trans (f19 8 (by decide))), show σ40 59 = σ 59 from ((f42 59 (by decide)).trans (f19 59 (by decide))), show (σ40 55 6).toInt = (σ 55 6).toInt from by omega, show (σ40 55 4).toInt = (σ 55 4).toInt from by omega]; exact hr0)⟩ hP hS (lv_sub hl [0, 1, 2, 3] rfl)
    · obtain ⟨q93, k88, k89, k90, k91, k92⟩ := h55
      exact absurd (by omega : False) id
  · obtain ⟨q100, k94, k95, k96, k97, k98, k99⟩ := h32
    refine lv_pop hx hb dL_law_968 rfl ?_
    refine lv_aload_n hx hb dL_law_969 rfl (lv_at hl 1 rfl) ?_
    have I101 : jI101 σ17 := jI101_fr (congrFun (f19 55 (by decide)) 4) (congrFun (f19 55 (by decide)) 5) (f19 56 (by decide)) (f19 57 (by decide)) (f19 58 (by decide)) (f19 59 (by decide)) hI101
    have z102 : (σ17 55 5).toInt = (σ 55 5).toInt := (congrArg Int32.toInt (show σ17 55 5 = (σ 55 5) from (congrFun (f19 55 (by decide)) 5)))
    refine jcallV (As := []) (rest := []) ⟨hx, hb, hml, hown, hts⟩ hK hP hA hS hZ (c_X12_undo l D cI cL ad zz hJ σ17 τ I101) cw_RL_124 (jc_55 cI cL ad σ17 τ) rfl ⟨Nat.le_of_ble_eq_true rfl, Nat.le_of_ble_eq_true rfl⟩ rfl rfl rfl hl.1 rfl (Nat.le_of_ble_eq_true rfl) dL_law_970 ⟨Nat.le_of_ble_eq_true rfl, Nat.le_of_ble_eq_true rfl⟩ (fun r104 σ103 τ103 H locs h103 hP hS => ?_)
    obtain ⟨rfl, f105, f106, I107, h103⟩ := h103
    obtain ⟨i109, i110, i111, w112, w113, w114, w115⟩ : (0 ≤ (σ103 55 5).toInt) ∧ ((σ103 55 5).toInt ≤ (σ103 55 4).toInt) ∧ ((σ103 55 4).toInt ≤ 40) ∧ (∀ k : Nat, k < 68 → (-200) ≤ (σ103 56 k).toInt ∧ (σ103 56 k).toInt ≤ 500) ∧ (∀ k : Nat, k < 40 → 0 ≤ (σ103 57 k).toInt ∧ (σ103 57 k).toInt ≤ 67) ∧ (∀ k : Nat, k < 40 → (-200) ≤ (σ103 58 k).toInt ∧ (σ103 58 k).toInt ≤ 500) ∧ (∀ k : Nat, k < 40 → (-200) ≤ (σ103 59 k).toInt ∧ (σ103 59 k).toInt ≤ 500) := id I107
    have z116 : (σ103 55 4).toInt = (σ 55 4).toInt := (congrArg Int32.toInt (show σ103 55 4 = (σ 55 4) from ((f106 4 (by decide)).trans (congrFun (f19 55 (by decide)) 4))))
    rcases h103 with h117 | h118
    · obtain ⟨q122, k119, k120, k121⟩ := h117
      exact absurd (by omega : False) id
    · obtain ⟨q128, k123, k124, k125, k126, k127⟩ := h118
      refine lv_pop hx hb dL_law_973 rfl ?_
      refine lv_goto (tgt := 1357) hx hb dL_law_974 (by decide) ?_
      obtain ⟨x129, ex129⟩ : ∃ y : Int32, y = x0 + 6 := ⟨_, rfl⟩
      have tx129 : x129.toInt = x0.toInt + 6 := (jadd ex129 rfl jz_6 (by omega) (by omega)).trans (by omega)
      refine lv_iinc (v := x129) (lv' := [(3, .int x129), (2, .ref (ad 55)), (1, .ref (ad 0)), (0, .ref b)]) hx hb dL_law_1357 hl (k := 0) rfl (by rw [ex129]; rfl) (by decide) rfl (fun ls hl => ?_)
      refine lv_goto (tgt := 18) hx hb dL_law_1360 (by decide) ?_
      have I130 : jI2 σ103 := jI2_fr (congrFun (f105 2 (by decide)) 0) (congrFun (f105 2 (by decide)) 1) (congrFun (f105 2 (by decide)) 2) (congrFun (f105 2 (by decide)) 3) (f105 6 (by decide)) I21
      have I131 : jI9 σ103 := jI9_fr ((congrFun (f105 9 (by decide)) 0).trans (congrFun (f19 9 (by decide)) 0)) ((f105 10 (by decide)).trans (f19 10 (by decide))) ((f105 11 (by decide)).trans (f19 11 (by decide))) hI9
      have I132 : jI12 σ103 := jI12_fr ((congrFun (f105 12 (by decide)) 0).trans (congrFun (f19 12 (by decide)) 0)) ((f105 13 (by decide)).trans (f19 13 (by decide))) hI12
      have I133 : jI16 σ103 := jI16_fr ((congrFun (f105 16 (by decide)) 0).trans (congrFun (f19 16 (by decide)) 0)) ((congrFun (f105 16 (by decide)) 1).trans (congrFun (f19 16 (by decide)) 1)) ((congrFun (f105 16 (by decide)) 2).trans (congrFun (f19 16 (by decide)) 2)) ((f105 17 (by decide)).trans (f19 17 (by decide))) hI16
      have I134 : jI18 σ103 := jI18_fr ((congrFun (f105 18 (by decide)) 0).trans (congrFun (f19 18 (by decide)) 0)) ((f105 19 (by decide)).trans (f19 19 (by decide))) hI18
      have I135 : jI22 σ103 := jI22_fr ((congrFun (f105 22 (by decide)) 0).trans (congrFun (f19 22 (by decide)) 0)) ((f105 23 (by decide)).trans (f19 23 (by decide))) hI22
      have I136 : jI31 σ103 := jI31_fr ((congrFun (f105 31 (by decide)) 8).trans (congrFun (f19 31 (by decide)) 8)) ((f105 33 (by decide)).trans (f19 33 (by decide))) ((f105 36 (by decide)).trans (f19 36 (by decide))) hI31
      have I137 : jI38 σ103 := jI38_fr ((congrFun (f105 38 (by decide)) 0).trans (congrFun (f19 38 (by decide)) 0)) ((congrFun (f105 38 (by decide)) 1).trans (congrFun (f19 38 (by decide)) 1)) ((f105 39 (by decide)).trans (f19 39 (by decide))) hI38
      have I138 : jI43 σ103 := jI43_fr ((congrFun (f105 43 (by decide)) 8).trans (congrFun (f19 43 (by decide)) 8)) hI43
      have I139 : jI47 σ103 := jI47_fr ((congrFun (f105 47 (by decide)) 0).trans (congrFun (f19 47 (by decide)) 0)) ((f105 48 (by decide)).trans (f19 48 (by decide))) ((f105 49 (by decide)).trans (f19 49 (by decide))) hI47
      have I140 : jI50 σ103 := jI50_fr ((f105 52 (by decide)).trans (f19 52 (by decide))) hI50
      have I141 : jI102 σ103 := jI102_fr ((f106 6 (by decide)).trans (congrFun (f19 55 (by decide)) 6)) ((f105 60 (by decide)).trans (f19 60 (by decide))) ((f105 61 (by decide)).trans (f19 61 (by decide))) hI102
      have I142 : jI103 σ103 := jI103_fr ((f106 9 (by decide)).trans (congrFun (f19 55 (by decide)) 9)) hI103
      have I143 : jI104 σ103 := jI104_fr ((f106 10 (by decide)).trans (congrFun (f19 55 (by decide)) 10)) ((f106 12 (by decide)).trans (congrFun (f19 55 (by decide)) 12)) ((f106 13 (by decide)).trans (congrFun (f19 55 (by decide)) 13)) ((f105 62 (by decide)).trans (f19 62 (by decide))) ((f105 67 (by decide)).trans (f19 67 (by decide))) hI104
      have I144 : jI105 σ103 := jI105_fr ((f106 15 (by decide)).trans (congrFun (f19 55 (by decide)) 15)) ((f105 65 (by decide)).trans (f19 65 (by decide))) hI105
      have I145 : jI106 σ103 := jI106_fr ((f106 32 (by decide)).trans (congrFun (f19 55 (by decide)) 32)) ((f105 70 (by decide)).trans (f19 70 (by decide))) ((f105 71 (by decide)).trans (f19 71 (by decide))) ((f105 72 (by decide)).trans (f19 72 (by decide))) hI106
      have I146 : jI107 σ103 := jI107_fr ((f106 12 (by decide)).trans (congrFun (f19 55 (by decide)) 12)) ((f106 47 (by decide)).trans (congrFun (f19 55 (by decide)) 47)) ((f105 80 (by decide)).trans (f19 80 (by decide))) hI107
      have I147 : jI109 σ103 := jI109_fr ((f106 50 (by decide)).trans (congrFun (f19 55 (by decide)) 50)) hI109
      have I148 : jI110 σ103 := jI110_fr ((f105 86 (by decide)).trans (f19 86 (by decide))) ((f105 87 (by decide)).trans (f19 87 (by decide))) hI110
      have I149 : jI111 σ103 := jI111_fr ((f105 79 (by decide)).trans (f19 79 (by decide))) hI111
      have I150 : jI119 σ103 := jI119_fr ((f105 68 (by decide)).trans (f19 68 (by decide))) hI119
      have p151 : jKept σ103 := jKept.fr ((f105 75 (by decide)).trans (f19 75 (by decide))) ((f105 76 (by decide)).trans (f19 76 (by decide))) ((f105 77 (by decide)).trans (f19 77 (by decide))) hs_jKept
      have p152 : jBook σ103 := jBook.fr ((f106 47 (by decide)).trans (congrFun (f19 55 (by decide)) 47)) ((f106 10 (by decide)).trans (congrFun (f19 55 (by decide)) 10)) ((f105 81 (by decide)).trans (f19 81 (by decide))) hs_jBook
      have z153 : (σ103 2 0).toInt = (σ 2 0).toInt := (congrArg Int32.toInt (show σ103 2 0 = (σ 2 0) from ((congrFun (f105 2 (by decide)) 0).trans (f20 0 (by decide)))))
      have z154 : (σ103 55 6).toInt = (σ 55 6).toInt := (congrArg Int32.toInt (show σ103 55 6 = (σ 55 6) from ((f106 6 (by decide)).trans (congrFun (f19 55 (by decide)) 6))))
      have z155 : (σ103 2 2).toInt = (σ17 2 2).toInt := (congrArg Int32.toInt (show σ103 2 2 = (σ17 2 2) from (congrFun (f105 2 (by decide)) 2)))
      have z156 : (σ103 2 3).toInt = (σ17 2 3).toInt := (congrArg Int32.toInt (show σ103 2 3 = (σ17 2 3) from (congrFun (f105 2 (by decide)) 3)))
      rw [show r18.toInt = ((σ 55 5).toInt - 1) from by omega] at k99
      rw [show r104.toInt = ((σ 55 5).toInt - 1) from by omega, show σ17 56 = σ 56 from (f19 56 (by decide)), show σ17 57 = σ 57 from (f19 57 (by decide)), show σ17 58 = σ 58 from (f19 58 (by decide))] at k127
      have p157 := hr0.back (by omega) (by omega) k99 k127
      exact ih x129 σ103 τ _ _ ls (by have h9 := tx129; omega) ⟨I130, I131, I132, I133, I134, I135, I136, I137, I138, I139, I140, I107, I141, I142, I143, I144, I145, I146, I147, I148, I149, I150, p151, p152, (by omega), (by omega), (by omega), (show jNumP (σ103 3) (σ103 56) (σ103 6) (σ103 57) (σ103 7) (σ103 58) (σ103 8) (σ103 59) (σ103 55 6).toInt (σ103 55 4).toInt by rw [show σ103 3 = σ17 3 from (f105 3 (by decide)), show σ103 6 = σ 6 from ((f105 6 (by decide)).trans (f19 6 (by decide))), show σ103 57 = σ 57 from ((f105 57 (by decide)).trans (f19 57 (by decide))), show σ103 7 = σ 7 from ((f105 7 (by decide)).trans (f19 7 (by decide))), show σ103 58 = σ 58 from ((f105 58 (by decide)).trans (f19 58 (by decide))), show σ103 8 = σ 8 from ((f105 8 (by decide)).trans (f19 8 (by decide))), show σ103 59 = σ 59 from ((f105 59 (by decide)).trans (f19 59 (by decide))), show (σ103 55 6).toInt = (σ 55 6).toInt from by omega, show (σ103 55 4).toInt = (σ 55 4).toInt from by omega]; exact p157)⟩ hP hS (lv_sub hl [0, 1, 2, 3] rfl)
set_option maxHeartbeats 4000000 in
set_option maxRecDepth 100000 in
theorem law_case_27 {p : Program} {e : Env} {s : State} {m : MethodId} {below : List Frame} {meth : Method} {c : Code} (l : Launch) {b L : Nat} {xs : Nat → Int32} {D : va_G} {cI cL : ClassId} {ad zz : Nat → Nat} (C0 : lw_At p s m meth c b L xs) (hJ : jD ad) (hA : ∀ q, jA ad q → s.heap.size ≤ q) (hK : jK D cI cL s) (hZ : jZ zz (fun q : Nat => s.heap.size ≤ q) s s.heap) {x0 : Int32} (hx0 : 0 ≤ x0.toInt) (hxL : x0.toInt + 6 ≤ (L : Int)) (hL : L ≤ 384) {σ : Nat → Nat → Int32} {τ : Nat → Nat → Int64} {H : Heap} {locs : List Loc} (hS : va_S (fun q : Nat => s.heap.size ≤ q) s.heap H locs) {ls : Array Slot} (hAll : jAll σ τ) (hP : jH D cI cL ad σ τ H) (hl : lv_has ls 4 [(3, .int x0), (2, .ref (ad 55)), (1, .ref (ad 0)), (0, .ref b)]) (ih : ∀ (x1 : Int32) (σ : Nat → Nat → Int32) (τ : Nat → Nat → Int64) (H : Heap) (locs : List Loc) (ls : Array Slot), x1.toInt = x0.toInt + 6 → jAll σ τ → jH D cI cL ad σ τ H → va_S (fun q : Nat => s.heap.size ≤ q) s.heap H locs → lv_has ls 4 [(3, .int x1), (2, .ref (ad 55)), (1, .ref (ad 0)), (0, .ref b)] → W p l e room_1 s m #[Value.ref b] below meth c H locs 90 348600 (lw_Z below #[Value.ref b] s) (F0 m 18 ls [])) : W p l e room_1 s m #[Value.ref b] below meth c H locs 90 348600 (lw_Z below #[Value.ref b] s) (F0 m 977 ls []) := by
  obtain ⟨hx, hb, hr, hml, hown, hts0, hX, hbl, hlocks, hgv⟩ := C0
  have hts : ∀ w ∈ wsL_law, w.before #[Value.ref b] s = true := fun w h => hts0 w (wsL_law_in w h)
  have hbA : ¬ (fun q : Nat => s.heap.size ≤ q) b := Nat.not_le.mpr hbl
  have hown : s.vm.findClass RL = some m.cls := hown
  obtain ⟨hI2, hI9, hI12, hI16, hI18, hI22, hI31, hI38, hI43, hI47, hI50, hI101, hI102, hI103, hI104, hI105, hI106, hI107, hI109, hI110, hI111, hI119, hs_jKept, hs_jBook, ht0, ht1, ht2, hr0⟩ := hAll
  have hL9 : (L : Int) ≤ 384 := by omega
  obtain ⟨i1, i2, i3, i4, i5, w6⟩ : (0 ≤ (σ 2 0).toInt ∧ (σ 2 0).toInt ≤ 4) ∧ (0 ≤ (σ 2 1).toInt ∧ (σ 2 1).toInt ≤ 3) ∧ (0 ≤ (σ 2 2).toInt) ∧ (0 ≤ (σ 2 3).toInt) ∧ ((σ 2 2).toInt + (σ 2 3).toInt ≤ 40) ∧ (∀ k : Nat, k < 40 → 0 ≤ (σ 6 k).toInt ∧ (σ 6 k).toInt ≤ 67) := id hI2
  obtain ⟨i7, i8, i9, w10, w11, w12, w13⟩ : (0 ≤ (σ 55 5).toInt) ∧ ((σ 55 5).toInt ≤ (σ 55 4).toInt) ∧ ((σ 55 4).toInt ≤ 40) ∧ (∀ k : Nat, k < 68 → (-200) ≤ (σ 56 k).toInt ∧ (σ 56 k).toInt ≤ 500) ∧ (∀ k : Nat, k < 40 → 0 ≤ (σ 57 k).toInt ∧ (σ 57 k).toInt ≤ 67) ∧ (∀ k : Nat, k < 40 → (-200) ≤ (σ 58 k).toInt ∧ (σ 58 k).toInt ≤ 500) ∧ (∀ k : Nat, k < 40 → (-200) ≤ (σ 59 k).toInt ∧ (σ 59 k).toInt ≤ 500) := id hI101
  obtain ⟨i14, w15, w16⟩ : (0 ≤ (σ 55 6).toInt ∧ (σ 55 6).toInt ≤ 4) ∧ (∀ k : Nat, k < 4 → 0 ≤ (σ 60 k).toInt ∧ (σ 60 k).toInt ≤ 50) ∧ (∀ k : Nat, k < 4 → 0 ≤ (σ 61 k).toInt ∧ (σ 61 k).toInt ≤ 20) := id hI102
  refine lv_aload_n hx hb dL_law_977 rfl (lv_at hl 2 rfl) ?_
  refine jcallV (As := []) (rest := []) ⟨hx, hb, hml, hown, hts⟩ hK hP hA hS hZ (c_X11_redo l D cI cL ad zz hJ σ τ hI2) cw_RL_125 (jc_0 cI cL ad σ τ) rfl ⟨Nat.le_of_ble_eq_true rfl, Nat.le_of_ble_eq_true rfl⟩ rfl rfl rfl hl.1 rfl (Nat.le_of_ble_eq_true rfl) dL_law_978 ⟨Nat.le_of_ble_eq_true rfl, Nat.le_of_ble_eq_true rfl⟩ (fun r18 σ17 τ17 H locs h17 hP hS => ?_)
  obtain ⟨rfl, f19, f20, I21, h17⟩ := h17
  obtain ⟨i23, i24, i25, i26, i27, w28⟩ : (0 ≤ (σ17 2 0).toInt ∧ (σ17 2 0).toInt ≤ 4) ∧ (0 ≤ (σ17 2 1).toInt ∧ (σ17 2 1).toInt ≤ 3) ∧ (0 ≤ (σ17 2 2).toInt) ∧ (0 ≤ (σ17 2 3).toInt) ∧ ((σ17 2 2).toInt + (σ17 2 3).toInt ≤ 40) ∧ (∀ k : Nat, k < 40 → 0 ≤ (σ17 6 k).toInt ∧ (σ17 6 k).toInt ≤ 67) := id I21
  have z29 : (σ17 2 0).toInt = (σ 2 0).toInt := (congrArg Int32.toInt (show σ17 2 0 = (σ 2 0) from (f20 0 (by decide))))
  have z30 : (σ17 2 1).toInt = (σ 2 1).toInt := (congrArg Int32.toInt (show σ17 2 1 = (σ 2 1) from (f20 1 (by decide))))
  rcases h17 with h31 | h32
  · obtain ⟨q37, k33, k34, k35, k36⟩ := h31
    have q37 := q37.symm
    subst q37
    refine lv_aload_n hx hb dL_law_981 rfl (lv_at hl 1 rfl) ?_
    have I38 : jI101 σ17 := jI101_fr (congrFun (f19 55 (by decide)) 4) (congrFun (f19 55 (by decide)) 5) (f19 56 (by decide)) (f19 57 (by decide)) (f19 58 (by decide)) (f19 59 (by decide)) hI101
    have z39 : (σ17 55 5).toInt = (σ 55 5).toInt := (congrArg Int32.toInt (show σ17 55 5 = (σ 55 5) from (congrFun (f19 55 (by decide)) 5)))
    have z40 : (σ17 55 4).toInt = (σ 55 4).toInt := (congrArg Int32.toInt (show σ17 55 4 = (σ 55 4) from (congrFun (f19 55 (by decide)) 4)))
    refine jcallV (As := []) (rest := [.int (-5)]) ⟨hx, hb, hml, hown, hts⟩ hK hP hA hS hZ (c_X12_redo l D cI cL ad zz hJ σ17 τ I38) cw_RL_128 (jc_55 cI cL ad σ17 τ) rfl ⟨Nat.le_of_ble_eq_true rfl, Nat.le_of_ble_eq_true rfl⟩ rfl rfl rfl hl.1 rfl (Nat.le_of_ble_eq_true rfl) dL_law_982 ⟨Nat.le_of_ble_eq_true rfl, Nat.le_of_ble_eq_true rfl⟩ (fun r42 σ41 τ41 H locs h41 hP hS => ?_)
    obtain ⟨rfl, f43, f44, I45, h41⟩ := h41
    obtain ⟨i47, i48, i49, w50, w51, w52, w53⟩ : (0 ≤ (σ41 55 5).toInt) ∧ ((σ41 55 5).toInt ≤ (σ41 55 4).toInt) ∧ ((σ41 55 4).toInt ≤ 40) ∧ (∀ k : Nat, k < 68 → (-200) ≤ (σ41 56 k).toInt ∧ (σ41 56 k).toInt ≤ 500) ∧ (∀ k : Nat, k < 40 → 0 ≤ (σ41 57 k).toInt ∧ (σ41 57 k).toInt ≤ 67) ∧ (∀ k : Nat, k < 40 → (-200) ≤ (σ41 58 k).toInt ∧ (σ41 58 k).toInt ≤ 500) ∧ (∀ k : Nat, k < 40 → (-200) ≤ (σ41 59 k).toInt ∧ (σ41 59 k).toInt ≤ 500) := id I45
    have z54 : (σ41 55 4).toInt = (σ 55 4).toInt := (congrArg Int32.toInt (show σ41 55 4 = (σ 55 4) from ((f44 4 (by decide)).trans (congrFun (f19 55 (by decide)) 4))))
    rcases h41 with h55 | h56
    · obtain ⟨q60, k57, k58, k59⟩ := h55
      have q60 := q60.symm
      subst q60
      refine lv_icmp_eq (tgt := 1357) hx hb dL_law_985 (by decide) (fun _ => ?_) (fun c => absurd (rfl) c)
      obtain ⟨x61, ex61⟩ : ∃ y : Int32, y = x0 + 6 := ⟨_, rfl⟩
      have tx61 : x61.toInt = x0.toInt + 6 := (jadd ex61 rfl jz_6 (by omega) (by omega)).trans (by omega)
      refine lv_iinc (v := x61) (lv' := [(3, .int x61), (2, .ref (ad 55)), (1, .ref (ad 0)), (0, .ref b)]) hx hb dL_law_1357 hl (k := 0) rfl (by rw [ex61]; rfl) (by decide) rfl (fun ls hl => ?_)
      refine lv_goto (tgt := 18) hx hb dL_law_1360 (by decide) ?_
      have I62 : jI2 σ41 := jI2_fr (congrFun (f43 2 (by decide)) 0) (congrFun (f43 2 (by decide)) 1) (congrFun (f43 2 (by decide)) 2) (congrFun (f43 2 (by decide)) 3) (f43 6 (by decide)) I21
      have I63 : jI9 σ41 := jI9_fr ((congrFun (f43 9 (by decide)) 0).trans (congrFun (f19 9 (by decide)) 0)) ((f43 10 (by decide)).trans (f19 10 (by decide))) ((f43 11 (by decide)).trans (f19 11 (by decide))) hI9
      have I64 : jI12 σ41 := jI12_fr ((congrFun (f43 12 (by decide)) 0).trans (congrFun (f19 12 (by decide)) 0)) ((f43 13 (by decide)).trans (f19 13 (by decide))) hI12
      have I65 : jI16 σ41 := jI16_fr ((congrFun (f43 16 (by decide)) 0).trans (congrFun (f19 16 (by decide)) 0)) ((congrFun (f43 16 (by decide)) 1).trans (congrFun (f19 16 (by decide)) 1)) ((congrFun (f43 16 (by decide)) 2).trans (congrFun (f19 16 (by decide)) 2)) ((f43 17 (by decide)).trans (f19 17 (by decide))) hI16
      have I66 : jI18 σ41 := jI18_fr ((congrFun (f43 18 (by decide)) 0).trans (congrFun (f19 18 (by decide)) 0)) ((f43 19 (by decide)).trans (f19 19 (by decide))) hI18
      have I67 : jI22 σ41 := jI22_fr ((congrFun (f43 22 (by decide)) 0).trans (congrFun (f19 22 (by decide)) 0)) ((f43 23 (by decide)).trans (f19 23 (by decide))) hI22
      have I68 : jI31 σ41 := jI31_fr ((congrFun (f43 31 (by decide)) 8).trans (congrFun (f19 31 (by decide)) 8)) ((f43 33 (by decide)).trans (f19 33 (by decide))) ((f43 36 (by decide)).trans (f19 36 (by decide))) hI31
      have I69 : jI38 σ41 := jI38_fr ((congrFun (f43 38 (by decide)) 0).trans (congrFun (f19 38 (by decide)) 0)) ((congrFun (f43 38 (by decide)) 1).trans (congrFun (f19 38 (by decide)) 1)) ((f43 39 (by decide)).trans (f19 39 (by decide))) hI38
      have I70 : jI43 σ41 := jI43_fr ((congrFun (f43 43 (by decide)) 8).trans (congrFun (f19 43 (by decide)) 8)) hI43
      have I71 : jI47 σ41 := jI47_fr ((congrFun (f43 47 (by decide)) 0).trans (congrFun (f19 47 (by decide)) 0)) ((f43 48 (by decide)).trans (f19 48 (by decide))) ((f43 49 (by decide)).trans (f19 49 (by decide))) hI47
      have I72 : jI50 σ41 := jI50_fr ((f43 52 (by decide)).trans (f19 52 (by decide))) hI50
      have I73 : jI102 σ41 := jI102_fr ((f44 6 (by decide)).trans (congrFun (f19 55 (by decide)) 6)) ((f43 60 (by decide)).trans (f19 60 (by decide))) ((f43 61 (by decide)).trans (f19 61 (by decide))) hI102
      have I74 : jI103 σ41 := jI103_fr ((f44 9 (by decide)).trans (congrFun (f19 55 (by decide)) 9)) hI103
      have I75 : jI104 σ41 := jI104_fr ((f44 10 (by decide)).trans (congrFun (f19 55 (by decide)) 10)) ((f44 12 (by decide)).trans (congrFun (f19 55 (by decide)) 12)) ((f44 13 (by decide)).trans (congrFun (f19 55 (by decide)) 13)) ((f43 62 (by decide)).trans (f19 62 (by decide))) ((f43 67 (by decide)).trans (f19 67 (by decide))) hI104
      have I76 : jI105 σ41 := jI105_fr ((f44 15 (by decide)).trans (congrFun (f19 55 (by decide)) 15)) ((f43 65 (by decide)).trans (f19 65 (by decide))) hI105
      have I77 : jI106 σ41 := jI106_fr ((f44 32 (by decide)).trans (congrFun (f19 55 (by decide)) 32)) ((f43 70 (by decide)).trans (f19 70 (by decide))) ((f43 71 (by decide)).trans (f19 71 (by decide))) ((f43 72 (by decide)).trans (f19 72 (by decide))) hI106
      have I78 : jI107 σ41 := jI107_fr ((f44 12 (by decide)).trans (congrFun (f19 55 (by decide)) 12)) ((f44 47 (by decide)).trans (congrFun (f19 55 (by decide)) 47)) ((f43 80 (by decide)).trans (f19 80 (by decide))) hI107
      have I79 : jI109 σ41 := jI109_fr ((f44 50 (by decide)).trans (congrFun (f19 55 (by decide)) 50)) hI109
      have I80 : jI110 σ41 := jI110_fr ((f43 86 (by decide)).trans (f19 86 (by decide))) ((f43 87 (by decide)).trans (f19 87 (by decide))) hI110
      have I81 : jI111 σ41 := jI111_fr ((f43 79 (by decide)).trans (f19 79 (by decide))) hI111
      have I82 : jI119 σ41 := jI119_fr ((f43 68 (by decide)).trans (f19 68 (by decide))) hI119
      have p83 : jKept σ41 := jKept.fr ((f43 75 (by decide)).trans (f19 75 (by decide))) ((f43 76 (by decide)).trans (f19 76 (by decide))) ((f43 77 (by decide)).trans (f19 77 (by decide))) hs_jKept
      have p84 : jBook σ41 := jBook.fr ((f44 47 (by decide)).trans (congrFun (f19 55 (by decide)) 47)) ((f44 10 (by decide)).trans (congrFun (f19 55 (by decide)) 10)) ((f43 81 (by decide)).trans (f19 81 (by decide))) hs_jBook
      have z85 : (σ41 2 0).toInt = (σ 2 0).toInt := (congrArg Int32.toInt (show σ41 2 0 = (σ 2 0) from ((congrFun (f43 2 (by decide)) 0).trans (f20 0 (by decide)))))
      have z86 : (σ41 55 6).toInt = (σ 55 6).toInt := (congrArg Int32.toInt (show σ41 55 6 = (σ 55 6) from ((f44 6 (by decide)).trans (congrFun (f19 55 (by decide)) 6))))
      have z87 : (σ41 2 2).toInt = (σ17 2 2).toInt := (congrArg Int32.toInt (show σ41 2 2 = (σ17 2 2) from (congrFun (f43 2 (by decide)) 2)))
      have z88 : (σ41 2 3).toInt = (σ17 2 3).toInt := (congrArg Int32.toInt (show σ41 2 3 = (σ17 2 3) from (congrFun (f43 2 (by decide)) 3)))
      exact ih x61 σ41 τ _ _ ls (by have h9 := tx61; omega) ⟨I62, I63, I64, I65, I66, I67, I68, I69, I70, I71, I72, I45, I73, I74, I75, I76, I77, I78, I79, I80, I81, I82, p83, p84, (by omega), (by omega), (by omega), (show jNumP (σ41 3) (σ41 56) (σ41 6) (σ41 57) (σ41 7) (σ41 58) (σ41 8) (σ41 59) (σ41 55 6).toInt (σ41 55 4).toInt by rw [show σ41 3 = σ 3 from ((f43 3 (by decide)).trans k36), show σ41 56 = σ 56 from (k59.trans (f19 56 (by decide))), show σ41 6 = σ 6 from ((f43 6 (by decide)).trans (f19 6 (by decide))), show σ41 57 = σ 57 from ((f43 57 (by decide)).trans (f19 57 (by decide))), show σ41 7 = σ 7 from ((f43 7 (by decide)).trans (f19 7 (by decide))), show σ41 58 = σ 58 from ((f43 58 (by decide)).trans (f19 58 (by decide))), show σ41 8 = σ 8 from ((f43 8 (by decide)).trans (f19 8 (by decide))), show σ41 59 = σ 59 from ((f43 59 (by decide)).trans (f19 59 (by decide))), show (σ41 55 6).toInt = (σ 55 6).toInt from by omega, show (σ41 55 4).toInt = (σ 55 4).toInt from by omega]; exact hr0)⟩ hP hS (lv_sub hl [0, 1, 2, 3] rfl)
    · obtain ⟨q94, k89, k90, k91, k92, k93⟩ := h56
      exact absurd (by omega : False) id
  · obtain ⟨q101, k95, k96, k97, k98, k99, k100⟩ := h32
    refine lv_aload_n hx hb dL_law_981 rfl (lv_at hl 1 rfl) ?_
    have I102 : jI101 σ17 := jI101_fr (congrFun (f19 55 (by decide)) 4) (congrFun (f19 55 (by decide)) 5) (f19 56 (by decide)) (f19 57 (by decide)) (f19 58 (by decide)) (f19 59 (by decide)) hI101
    have z103 : (σ17 55 5).toInt = (σ 55 5).toInt := (congrArg Int32.toInt (show σ17 55 5 = (σ 55 5) from (congrFun (f19 55 (by decide)) 5)))
    have z104 : (σ17 55 4).toInt = (σ 55 4).toInt := (congrArg Int32.toInt (show σ17 55 4 = (σ 55 4) from (congrFun (f19 55 (by decide)) 4)))
    refine jcallV (As := []) (rest := [.int r18]) ⟨hx, hb, hml, hown, hts⟩ hK hP hA hS hZ (c_X12_redo l D cI cL ad zz hJ σ17 τ I102) cw_RL_128 (jc_55 cI cL ad σ17 τ) rfl ⟨Nat.le_of_ble_eq_true rfl, Nat.le_of_ble_eq_true rfl⟩ rfl rfl rfl hl.1 rfl (Nat.le_of_ble_eq_true rfl) dL_law_982 ⟨Nat.le_of_ble_eq_true rfl, Nat.le_of_ble_eq_true rfl⟩ (fun r106 σ105 τ105 H locs h105 hP hS => ?_)
    obtain ⟨rfl, f107, f108, I109, h105⟩ := h105
    obtain ⟨i111, i112, i113, w114, w115, w116, w117⟩ : (0 ≤ (σ105 55 5).toInt) ∧ ((σ105 55 5).toInt ≤ (σ105 55 4).toInt) ∧ ((σ105 55 4).toInt ≤ 40) ∧ (∀ k : Nat, k < 68 → (-200) ≤ (σ105 56 k).toInt ∧ (σ105 56 k).toInt ≤ 500) ∧ (∀ k : Nat, k < 40 → 0 ≤ (σ105 57 k).toInt ∧ (σ105 57 k).toInt ≤ 67) ∧ (∀ k : Nat, k < 40 → (-200) ≤ (σ105 58 k).toInt ∧ (σ105 58 k).toInt ≤ 500) ∧ (∀ k : Nat, k < 40 → (-200) ≤ (σ105 59 k).toInt ∧ (σ105 59 k).toInt ≤ 500) := id I109
    have z118 : (σ105 55 4).toInt = (σ 55 4).toInt := (congrArg Int32.toInt (show σ105 55 4 = (σ 55 4) from ((f108 4 (by decide)).trans (congrFun (f19 55 (by decide)) 4))))
    rcases h105 with h119 | h120
    · obtain ⟨q124, k121, k122, k123⟩ := h119
      exact absurd (by omega : False) id
    · obtain ⟨q130, k125, k126, k127, k128, k129⟩ := h120
      refine lv_icmp_eq (tgt := 1357) hx hb dL_law_985 (by decide) (fun _ => ?_) (fun c => absurd (jsame (rfl : r18.toInt = r18.toInt) (rfl : r106.toInt = r106.toInt) (by omega)) c)
      obtain ⟨x131, ex131⟩ : ∃ y : Int32, y = x0 + 6 := ⟨_, rfl⟩
      have tx131 : x131.toInt = x0.toInt + 6 := (jadd ex131 rfl jz_6 (by omega) (by omega)).trans (by omega)
      refine lv_iinc (v := x131) (lv' := [(3, .int x131), (2, .ref (ad 55)), (1, .ref (ad 0)), (0, .ref b)]) hx hb dL_law_1357 hl (k := 0) rfl (by rw [ex131]; rfl) (by decide) rfl (fun ls hl => ?_)
      refine lv_goto (tgt := 18) hx hb dL_law_1360 (by decide) ?_
      have I132 : jI2 σ105 := jI2_fr (congrFun (f107 2 (by decide)) 0) (congrFun (f107 2 (by decide)) 1) (congrFun (f107 2 (by decide)) 2) (congrFun (f107 2 (by decide)) 3) (f107 6 (by decide)) I21
      have I133 : jI9 σ105 := jI9_fr ((congrFun (f107 9 (by decide)) 0).trans (congrFun (f19 9 (by decide)) 0)) ((f107 10 (by decide)).trans (f19 10 (by decide))) ((f107 11 (by decide)).trans (f19 11 (by decide))) hI9
      have I134 : jI12 σ105 := jI12_fr ((congrFun (f107 12 (by decide)) 0).trans (congrFun (f19 12 (by decide)) 0)) ((f107 13 (by decide)).trans (f19 13 (by decide))) hI12
      have I135 : jI16 σ105 := jI16_fr ((congrFun (f107 16 (by decide)) 0).trans (congrFun (f19 16 (by decide)) 0)) ((congrFun (f107 16 (by decide)) 1).trans (congrFun (f19 16 (by decide)) 1)) ((congrFun (f107 16 (by decide)) 2).trans (congrFun (f19 16 (by decide)) 2)) ((f107 17 (by decide)).trans (f19 17 (by decide))) hI16
      have I136 : jI18 σ105 := jI18_fr ((congrFun (f107 18 (by decide)) 0).trans (congrFun (f19 18 (by decide)) 0)) ((f107 19 (by decide)).trans (f19 19 (by decide))) hI18
      have I137 : jI22 σ105 := jI22_fr ((congrFun (f107 22 (by decide)) 0).trans (congrFun (f19 22 (by decide)) 0)) ((f107 23 (by decide)).trans (f19 23 (by decide))) hI22
      have I138 : jI31 σ105 := jI31_fr ((congrFun (f107 31 (by decide)) 8).trans (congrFun (f19 31 (by decide)) 8)) ((f107 33 (by decide)).trans (f19 33 (by decide))) ((f107 36 (by decide)).trans (f19 36 (by decide))) hI31
      have I139 : jI38 σ105 := jI38_fr ((congrFun (f107 38 (by decide)) 0).trans (congrFun (f19 38 (by decide)) 0)) ((congrFun (f107 38 (by decide)) 1).trans (congrFun (f19 38 (by decide)) 1)) ((f107 39 (by decide)).trans (f19 39 (by decide))) hI38
      have I140 : jI43 σ105 := jI43_fr ((congrFun (f107 43 (by decide)) 8).trans (congrFun (f19 43 (by decide)) 8)) hI43
      have I141 : jI47 σ105 := jI47_fr ((congrFun (f107 47 (by decide)) 0).trans (congrFun (f19 47 (by decide)) 0)) ((f107 48 (by decide)).trans (f19 48 (by decide))) ((f107 49 (by decide)).trans (f19 49 (by decide))) hI47
      have I142 : jI50 σ105 := jI50_fr ((f107 52 (by decide)).trans (f19 52 (by decide))) hI50
      have I143 : jI102 σ105 := jI102_fr ((f108 6 (by decide)).trans (congrFun (f19 55 (by decide)) 6)) ((f107 60 (by decide)).trans (f19 60 (by decide))) ((f107 61 (by decide)).trans (f19 61 (by decide))) hI102
      have I144 : jI103 σ105 := jI103_fr ((f108 9 (by decide)).trans (congrFun (f19 55 (by decide)) 9)) hI103
      have I145 : jI104 σ105 := jI104_fr ((f108 10 (by decide)).trans (congrFun (f19 55 (by decide)) 10)) ((f108 12 (by decide)).trans (congrFun (f19 55 (by decide)) 12)) ((f108 13 (by decide)).trans (congrFun (f19 55 (by decide)) 13)) ((f107 62 (by decide)).trans (f19 62 (by decide))) ((f107 67 (by decide)).trans (f19 67 (by decide))) hI104
      have I146 : jI105 σ105 := jI105_fr ((f108 15 (by decide)).trans (congrFun (f19 55 (by decide)) 15)) ((f107 65 (by decide)).trans (f19 65 (by decide))) hI105
      have I147 : jI106 σ105 := jI106_fr ((f108 32 (by decide)).trans (congrFun (f19 55 (by decide)) 32)) ((f107 70 (by decide)).trans (f19 70 (by decide))) ((f107 71 (by decide)).trans (f19 71 (by decide))) ((f107 72 (by decide)).trans (f19 72 (by decide))) hI106
      have I148 : jI107 σ105 := jI107_fr ((f108 12 (by decide)).trans (congrFun (f19 55 (by decide)) 12)) ((f108 47 (by decide)).trans (congrFun (f19 55 (by decide)) 47)) ((f107 80 (by decide)).trans (f19 80 (by decide))) hI107
      have I149 : jI109 σ105 := jI109_fr ((f108 50 (by decide)).trans (congrFun (f19 55 (by decide)) 50)) hI109
      have I150 : jI110 σ105 := jI110_fr ((f107 86 (by decide)).trans (f19 86 (by decide))) ((f107 87 (by decide)).trans (f19 87 (by decide))) hI110
      have I151 : jI111 σ105 := jI111_fr ((f107 79 (by decide)).trans (f19 79 (by decide))) hI111
      have I152 : jI119 σ105 := jI119_fr ((f107 68 (by decide)).trans (f19 68 (by decide))) hI119
      have p153 : jKept σ105 := jKept.fr ((f107 75 (by decide)).trans (f19 75 (by decide))) ((f107 76 (by decide)).trans (f19 76 (by decide))) ((f107 77 (by decide)).trans (f19 77 (by decide))) hs_jKept
      have p154 : jBook σ105 := jBook.fr ((f108 47 (by decide)).trans (congrFun (f19 55 (by decide)) 47)) ((f108 10 (by decide)).trans (congrFun (f19 55 (by decide)) 10)) ((f107 81 (by decide)).trans (f19 81 (by decide))) hs_jBook
      have z155 : (σ105 2 0).toInt = (σ 2 0).toInt := (congrArg Int32.toInt (show σ105 2 0 = (σ 2 0) from ((congrFun (f107 2 (by decide)) 0).trans (f20 0 (by decide)))))
      have z156 : (σ105 55 6).toInt = (σ 55 6).toInt := (congrArg Int32.toInt (show σ105 55 6 = (σ 55 6) from ((f108 6 (by decide)).trans (congrFun (f19 55 (by decide)) 6))))
      have z157 : (σ105 2 2).toInt = (σ17 2 2).toInt := (congrArg Int32.toInt (show σ105 2 2 = (σ17 2 2) from (congrFun (f107 2 (by decide)) 2)))
      have z158 : (σ105 2 3).toInt = (σ17 2 3).toInt := (congrArg Int32.toInt (show σ105 2 3 = (σ17 2 3) from (congrFun (f107 2 (by decide)) 3)))
      rw [show (σ 2 2).toInt = (σ 55 5).toInt from by omega] at k100
      rw [show (σ17 55 5).toInt = (σ 55 5).toInt from by omega, show σ17 56 = σ 56 from (f19 56 (by decide)), show σ17 57 = σ 57 from (f19 57 (by decide)), show σ17 59 = σ 59 from (f19 59 (by decide))] at k129
      have p159 := hr0.forth (by omega) (by omega) k100 k129
      exact ih x131 σ105 τ _ _ ls (by have h9 := tx131; omega) ⟨I132, I133, I134, I135, I136, I137, I138, I139, I140, I141, I142, I109, I143, I144, I145, I146, I147, I148, I149, I150, I151, I152, p153, p154, (by omega), (by omega), (by omega), (show jNumP (σ105 3) (σ105 56) (σ105 6) (σ105 57) (σ105 7) (σ105 58) (σ105 8) (σ105 59) (σ105 55 6).toInt (σ105 55 4).toInt by rw [show σ105 3 = σ17 3 from (f107 3 (by decide)), show σ105 6 = σ 6 from ((f107 6 (by decide)).trans (f19 6 (by decide))), show σ105 57 = σ 57 from ((f107 57 (by decide)).trans (f19 57 (by decide))), show σ105 7 = σ 7 from ((f107 7 (by decide)).trans (f19 7 (by decide))), show σ105 58 = σ 58 from ((f107 58 (by decide)).trans (f19 58 (by decide))), show σ105 8 = σ 8 from ((f107 8 (by decide)).trans (f19 8 (by decide))), show σ105 59 = σ 59 from ((f107 59 (by decide)).trans (f19 59 (by decide))), show (σ105 55 6).toInt = (σ 55 6).toInt from by omega, show (σ105 55 4).toInt = (σ 55 4).toInt from by omega]; exact p159)⟩ hP hS (lv_sub hl [0, 1, 2, 3] rfl)
set_option maxHeartbeats 4000000 in
set_option maxRecDepth 100000 in
theorem law_case_28 {p : Program} {e : Env} {s : State} {m : MethodId} {below : List Frame} {meth : Method} {c : Code} (l : Launch) {b L : Nat} {xs : Nat → Int32} {D : va_G} {cI cL : ClassId} {ad zz : Nat → Nat} (C0 : lw_At p s m meth c b L xs) (hJ : jD ad) (hA : ∀ q, jA ad q → s.heap.size ≤ q) (hK : jK D cI cL s) (hZ : jZ zz (fun q : Nat => s.heap.size ≤ q) s s.heap) {x0 : Int32} (hx0 : 0 ≤ x0.toInt) (hxL : x0.toInt + 6 ≤ (L : Int)) (hL : L ≤ 384) {σ : Nat → Nat → Int32} {τ : Nat → Nat → Int64} {H : Heap} {locs : List Loc} (hS : va_S (fun q : Nat => s.heap.size ≤ q) s.heap H locs) {ls : Array Slot} (hAll : jAll σ τ) (hP : jH D cI cL ad σ τ H) (hl : lv_has ls 4 [(3, .int x0), (2, .ref (ad 55)), (1, .ref (ad 0)), (0, .ref b)]) (ih : ∀ (x1 : Int32) (σ : Nat → Nat → Int32) (τ : Nat → Nat → Int64) (H : Heap) (locs : List Loc) (ls : Array Slot), x1.toInt = x0.toInt + 6 → jAll σ τ → jH D cI cL ad σ τ H → va_S (fun q : Nat => s.heap.size ≤ q) s.heap H locs → lv_has ls 4 [(3, .int x1), (2, .ref (ad 55)), (1, .ref (ad 0)), (0, .ref b)] → W p l e room_1 s m #[Value.ref b] below meth c H locs 90 348600 (lw_Z below #[Value.ref b] s) (F0 m 18 ls [])) : W p l e room_1 s m #[Value.ref b] below meth c H locs 90 348600 (lw_Z below #[Value.ref b] s) (F0 m 990 ls []) := by
  obtain ⟨hx, hb, hr, hml, hown, hts0, hX, hbl, hlocks, hgv⟩ := C0
  have hts : ∀ w ∈ wsL_law, w.before #[Value.ref b] s = true := fun w h => hts0 w (wsL_law_in w h)
  have hbA : ¬ (fun q : Nat => s.heap.size ≤ q) b := Nat.not_le.mpr hbl
  have hown : s.vm.findClass RL = some m.cls := hown
  obtain ⟨hI2, hI9, hI12, hI16, hI18, hI22, hI31, hI38, hI43, hI47, hI50, hI101, hI102, hI103, hI104, hI105, hI106, hI107, hI109, hI110, hI111, hI119, hs_jKept, hs_jBook, ht0, ht1, ht2, hr0⟩ := hAll
  have hL9 : (L : Int) ≤ 384 := by omega
  obtain ⟨i1, i2, i3, i4, i5, w6⟩ : (0 ≤ (σ 2 0).toInt ∧ (σ 2 0).toInt ≤ 4) ∧ (0 ≤ (σ 2 1).toInt ∧ (σ 2 1).toInt ≤ 3) ∧ (0 ≤ (σ 2 2).toInt) ∧ (0 ≤ (σ 2 3).toInt) ∧ ((σ 2 2).toInt + (σ 2 3).toInt ≤ 40) ∧ (∀ k : Nat, k < 40 → 0 ≤ (σ 6 k).toInt ∧ (σ 6 k).toInt ≤ 67) := id hI2
  obtain ⟨i7, i8, i9, w10, w11, w12, w13⟩ : (0 ≤ (σ 55 5).toInt) ∧ ((σ 55 5).toInt ≤ (σ 55 4).toInt) ∧ ((σ 55 4).toInt ≤ 40) ∧ (∀ k : Nat, k < 68 → (-200) ≤ (σ 56 k).toInt ∧ (σ 56 k).toInt ≤ 500) ∧ (∀ k : Nat, k < 40 → 0 ≤ (σ 57 k).toInt ∧ (σ 57 k).toInt ≤ 67) ∧ (∀ k : Nat, k < 40 → (-200) ≤ (σ 58 k).toInt ∧ (σ 58 k).toInt ≤ 500) ∧ (∀ k : Nat, k < 40 → (-200) ≤ (σ 59 k).toInt ∧ (σ 59 k).toInt ≤ 500) := id hI101
  obtain ⟨i14, w15, w16⟩ : (0 ≤ (σ 55 6).toInt ∧ (σ 55 6).toInt ≤ 4) ∧ (∀ k : Nat, k < 4 → 0 ≤ (σ 60 k).toInt ∧ (σ 60 k).toInt ≤ 50) ∧ (∀ k : Nat, k < 4 → 0 ≤ (σ 61 k).toInt ∧ (σ 61 k).toInt ≤ 20) := id hI102
  refine lv_aload_n hx hb dL_law_990 rfl (lv_at hl 2 rfl) ?_
  refine lv_aload_n hx hb dL_law_991 rfl (lv_at hl 3 rfl) ?_
  refine lv_iload_n hx hb dL_law_992 rfl (lv_at hl 0 rfl) ?_
  refine lv_iconst (v := 1) hx hb dL_law_993 (by decide) ?_
  have g17 := jrg (rfl : x0.toInt = x0.toInt)
  refine lv_iadd hx hb dL_law_994 ?_
  refine lv_topi (fun x18 ex18 => ?_)
  have tx18 : x18.toInt = x0.toInt + 1 := (jadd ex18 rfl jz_1 (by omega) (by omega)).trans (by omega)
  refine va_sld hx hb hX hbl hbA hS (jin tx18 (by omega) (by omega)) dL_law_995 ?_
  have g19 := jrg (rfl : (xs x18.toNatClampNeg).toInt = (xs x18.toNatClampNeg).toInt)
  refine lv_aload_n hx hb dL_law_996 rfl (lv_at hl 3 rfl) ?_
  refine lv_iload_n hx hb dL_law_997 rfl (lv_at hl 0 rfl) ?_
  refine lv_iconst (v := 2) hx hb dL_law_998 (by decide) ?_
  refine lv_iadd hx hb dL_law_999 ?_
  refine lv_topi (fun x20 ex20 => ?_)
  have tx20 : x20.toInt = x0.toInt + 2 := (jadd ex20 rfl jz_2 (by omega) (by omega)).trans (by omega)
  refine va_sld hx hb hX hbl hbA hS (jin tx20 (by omega) (by omega)) dL_law_1000 ?_
  have g21 := jrg (rfl : (xs x20.toNatClampNeg).toInt = (xs x20.toNatClampNeg).toInt)
  refine lv_aload_n hx hb dL_law_1001 rfl (lv_at hl 3 rfl) ?_
  refine lv_iload_n hx hb dL_law_1002 rfl (lv_at hl 0 rfl) ?_
  refine lv_iconst (v := 3) hx hb dL_law_1003 (by decide) ?_
  refine lv_iadd hx hb dL_law_1004 ?_
  refine lv_topi (fun x22 ex22 => ?_)
  have tx22 : x22.toInt = x0.toInt + 3 := (jadd ex22 rfl jz_3 (by omega) (by omega)).trans (by omega)
  refine va_sld hx hb hX hbl hbA hS (jin tx22 (by omega) (by omega)) dL_law_1005 ?_
  have g23 := jrg (rfl : (xs x22.toNatClampNeg).toInt = (xs x22.toNatClampNeg).toInt)
  refine jcallV (As := [.int (xs x18.toNatClampNeg), .int (xs x20.toNatClampNeg), .int (xs x22.toNatClampNeg)]) (rest := []) ⟨hx, hb, hml, hown, hts⟩ hK hP hA hS hZ (c_X11_act l D cI cL ad zz hJ σ τ (xs x18.toNatClampNeg) ((xs x18.toNatClampNeg).toInt) rfl (xs x20.toNatClampNeg) ((xs x20.toNatClampNeg).toInt) rfl (xs x22.toNatClampNeg) ((xs x22.toNatClampNeg).toInt) rfl hI38) cw_RL_129 (jc_0 cI cL ad σ τ) rfl ⟨Nat.le_of_ble_eq_true rfl, Nat.le_of_ble_eq_true rfl⟩ rfl rfl rfl hl.1 rfl (Nat.le_of_ble_eq_true rfl) dL_law_1006 ⟨Nat.le_of_ble_eq_true rfl, Nat.le_of_ble_eq_true rfl⟩ (fun r25 σ24 τ24 H locs h24 hP hS => ?_)
  obtain ⟨rfl, f26, f27, I28, h24⟩ := h24
  rcases h24 with h30 | h31
  · obtain ⟨q34, k32, k33⟩ := h30
    have q34 := q34.symm
    subst q34
    refine lv_pop hx hb dL_law_1009 rfl ?_
    refine lv_aload_n hx hb dL_law_1010 rfl (lv_at hl 1 rfl) ?_
    refine lv_aload_n hx hb dL_law_1011 rfl (lv_at hl 3 rfl) ?_
    refine lv_iload_n hx hb dL_law_1012 rfl (lv_at hl 0 rfl) ?_
    refine lv_iconst (v := 1) hx hb dL_law_1013 (by decide) ?_
    refine lv_iadd hx hb dL_law_1014 ?_
    refine jtopr ex18.symm ?_
    refine va_sld hx hb hX hbl hbA hS (jin tx18 (by omega) (by omega)) dL_law_1015 ?_
    refine lv_aload_n hx hb dL_law_1016 rfl (lv_at hl 3 rfl) ?_
    refine lv_iload_n hx hb dL_law_1017 rfl (lv_at hl 0 rfl) ?_
    refine lv_iconst (v := 2) hx hb dL_law_1018 (by decide) ?_
    refine lv_iadd hx hb dL_law_1019 ?_
    refine jtopr ex20.symm ?_
    refine va_sld hx hb hX hbl hbA hS (jin tx20 (by omega) (by omega)) dL_law_1020 ?_
    refine lv_aload_n hx hb dL_law_1021 rfl (lv_at hl 3 rfl) ?_
    refine lv_iload_n hx hb dL_law_1022 rfl (lv_at hl 0 rfl) ?_
    refine lv_iconst (v := 3) hx hb dL_law_1023 (by decide) ?_
    refine lv_iadd hx hb dL_law_1024 ?_
    refine jtopr ex22.symm ?_
    refine va_sld hx hb hX hbl hbA hS (jin tx22 (by omega) (by omega)) dL_law_1025 ?_
    have I35 : jI106 σ24 := jI106_fr (congrFun (f26 55 (by decide)) 32) (f26 70 (by decide)) (f26 71 (by decide)) (f26 72 (by decide)) hI106
    have z36 : (σ24 55 32).toInt = (σ 55 32).toInt := (congrArg Int32.toInt (show σ24 55 32 = (σ 55 32) from (congrFun (f26 55 (by decide)) 32)))
    refine jcallV (As := [.int (xs x18.toNatClampNeg), .int (xs x20.toNatClampNeg), .int (xs x22.toNatClampNeg)]) (rest := []) ⟨hx, hb, hml, hown, hts⟩ hK hP hA hS hZ (c_X12_act l D cI cL ad zz hJ σ24 τ (xs x18.toNatClampNeg) ((xs x18.toNatClampNeg).toInt) rfl (xs x20.toNatClampNeg) ((xs x20.toNatClampNeg).toInt) rfl (xs x22.toNatClampNeg) ((xs x22.toNatClampNeg).toInt) rfl I35) cw_RL_132 (jc_55 cI cL ad σ24 τ) rfl ⟨Nat.le_of_ble_eq_true rfl, Nat.le_of_ble_eq_true rfl⟩ rfl rfl rfl hl.1 rfl (Nat.le_of_ble_eq_true rfl) dL_law_1026 ⟨Nat.le_of_ble_eq_true rfl, Nat.le_of_ble_eq_true rfl⟩ (fun r38 σ37 τ37 H locs h37 hP hS => ?_)
    obtain ⟨rfl, f39, f40, h37⟩ := h37
    rcases h37 with h42 | h43
    · obtain ⟨q46, k44, k45⟩ := h42
      have q46 := q46.symm
      subst q46
      refine lv_pop hx hb dL_law_1029 rfl ?_
      refine lv_goto (tgt := 1357) hx hb dL_law_1030 (by decide) ?_
      obtain ⟨x47, ex47⟩ : ∃ y : Int32, y = x0 + 6 := ⟨_, rfl⟩
      have tx47 : x47.toInt = x0.toInt + 6 := (jadd ex47 rfl jz_6 (by omega) (by omega)).trans (by omega)
      refine lv_iinc (v := x47) (lv' := [(3, .int x47), (2, .ref (ad 55)), (1, .ref (ad 0)), (0, .ref b)]) hx hb dL_law_1357 hl (k := 0) rfl (by rw [ex47]; rfl) (by decide) rfl (fun ls hl => ?_)
      refine lv_goto (tgt := 18) hx hb dL_law_1360 (by decide) ?_
      have I48 : jI2 σ37 := jI2_fr ((congrFun (f39 2 (by decide)) 0).trans (congrFun (f26 2 (by decide)) 0)) ((congrFun (f39 2 (by decide)) 1).trans (congrFun (f26 2 (by decide)) 1)) ((congrFun (f39 2 (by decide)) 2).trans (congrFun (f26 2 (by decide)) 2)) ((congrFun (f39 2 (by decide)) 3).trans (congrFun (f26 2 (by decide)) 3)) ((f39 6 (by decide)).trans (f26 6 (by decide))) hI2
      have I49 : jI9 σ37 := jI9_fr ((congrFun (f39 9 (by decide)) 0).trans (congrFun (f26 9 (by decide)) 0)) ((f39 10 (by decide)).trans (f26 10 (by decide))) ((f39 11 (by decide)).trans (f26 11 (by decide))) hI9
      have I50 : jI12 σ37 := jI12_fr ((congrFun (f39 12 (by decide)) 0).trans (congrFun (f26 12 (by decide)) 0)) ((f39 13 (by decide)).trans (f26 13 (by decide))) hI12
      have I51 : jI16 σ37 := jI16_fr ((congrFun (f39 16 (by decide)) 0).trans (congrFun (f26 16 (by decide)) 0)) ((congrFun (f39 16 (by decide)) 1).trans (congrFun (f26 16 (by decide)) 1)) ((congrFun (f39 16 (by decide)) 2).trans (congrFun (f26 16 (by decide)) 2)) ((f39 17 (by decide)).trans (f26 17 (by decide))) hI16
      have I52 : jI18 σ37 := jI18_fr ((congrFun (f39 18 (by decide)) 0).trans (congrFun (f26 18 (by decide)) 0)) ((f39 19 (by decide)).trans (f26 19 (by decide))) hI18
      have I53 : jI22 σ37 := jI22_fr ((congrFun (f39 22 (by decide)) 0).trans (congrFun (f26 22 (by decide)) 0)) ((f39 23 (by decide)).trans (f26 23 (by decide))) hI22
      have I54 : jI31 σ37 := jI31_fr ((congrFun (f39 31 (by decide)) 8).trans (congrFun (f26 31 (by decide)) 8)) ((f39 33 (by decide)).trans (f26 33 (by decide))) ((f39 36 (by decide)).trans (f26 36 (by decide))) hI31
      have I55 : jI38 σ37 := jI38_fr (congrFun (f39 38 (by decide)) 0) (congrFun (f39 38 (by decide)) 1) (f39 39 (by decide)) I28
      have I56 : jI43 σ37 := jI43_fr ((congrFun (f39 43 (by decide)) 8).trans (congrFun (f26 43 (by decide)) 8)) hI43
      have I57 : jI47 σ37 := jI47_fr ((congrFun (f39 47 (by decide)) 0).trans (congrFun (f26 47 (by decide)) 0)) ((f39 48 (by decide)).trans (f26 48 (by decide))) ((f39 49 (by decide)).trans (f26 49 (by decide))) hI47
      have I58 : jI50 σ37 := jI50_fr ((f39 52 (by decide)).trans (f26 52 (by decide))) hI50
      have I59 : jI101 σ37 := jI101_fr ((f40 4 (by decide)).trans (congrFun (f26 55 (by decide)) 4)) ((f40 5 (by decide)).trans (congrFun (f26 55 (by decide)) 5)) ((f39 56 (by decide)).trans (f26 56 (by decide))) ((f39 57 (by decide)).trans (f26 57 (by decide))) ((f39 58 (by decide)).trans (f26 58 (by decide))) ((f39 59 (by decide)).trans (f26 59 (by decide))) hI101
      have I60 : jI102 σ37 := jI102_fr ((f40 6 (by decide)).trans (congrFun (f26 55 (by decide)) 6)) ((f39 60 (by decide)).trans (f26 60 (by decide))) ((f39 61 (by decide)).trans (f26 61 (by decide))) hI102
      have I61 : jI103 σ37 := jI103_fr ((f40 9 (by decide)).trans (congrFun (f26 55 (by decide)) 9)) hI103
      have I62 : jI104 σ37 := jI104_fr ((f40 10 (by decide)).trans (congrFun (f26 55 (by decide)) 10)) ((f40 12 (by decide)).trans (congrFun (f26 55 (by decide)) 12)) ((f40 13 (by decide)).trans (congrFun (f26 55 (by decide)) 13)) ((f39 62 (by decide)).trans (f26 62 (by decide))) ((f39 67 (by decide)).trans (f26 67 (by decide))) hI104
      have I63 : jI105 σ37 := jI105_fr ((f40 15 (by decide)).trans (congrFun (f26 55 (by decide)) 15)) ((f39 65 (by decide)).trans (f26 65 (by decide))) hI105
      have I64 : jI106 σ37 := jI106_fr (f40 32 (by decide)) (f39 70 (by decide)) (f39 71 (by decide)) (f39 72 (by decide)) I35
      have I65 : jI107 σ37 := jI107_fr ((f40 12 (by decide)).trans (congrFun (f26 55 (by decide)) 12)) ((f40 47 (by decide)).trans (congrFun (f26 55 (by decide)) 47)) ((f39 80 (by decide)).trans (f26 80 (by decide))) hI107
      have I66 : jI109 σ37 := jI109_fr ((f40 50 (by decide)).trans (congrFun (f26 55 (by decide)) 50)) hI109
      have I67 : jI110 σ37 := jI110_fr ((f39 86 (by decide)).trans (f26 86 (by decide))) ((f39 87 (by decide)).trans (f26 87 (by decide))) hI110
      have I68 : jI111 σ37 := jI111_fr ((f39 79 (by decide)).trans (f26 79 (by decide))) hI111
      have I69 : jI119 σ37 := jI119_fr ((f39 68 (by decide)).trans (f26 68 (by decide))) hI119
      have p70 : jKept σ37 := jKept.fr ((f39 75 (by decide)).trans (f26 75 (by decide))) ((f39 76 (by decide)).trans (f26 76 (by decide))) ((f39 77 (by decide)).trans (f26 77 (by decide))) hs_jKept
      have p71 : jBook σ37 := jBook.fr ((f40 47 (by decide)).trans (congrFun (f26 55 (by decide)) 47)) ((f40 10 (by decide)).trans (congrFun (f26 55 (by decide)) 10)) ((f39 81 (by decide)).trans (f26 81 (by decide))) hs_jBook
      have z72 : (σ37 2 0).toInt = (σ 2 0).toInt := (congrArg Int32.toInt (show σ37 2 0 = (σ 2 0) from ((congrFun (f39 2 (by decide)) 0).trans (congrFun (f26 2 (by decide)) 0))))
      have z73 : (σ37 55 6).toInt = (σ 55 6).toInt := (congrArg Int32.toInt (show σ37 55 6 = (σ 55 6) from ((f40 6 (by decide)).trans (congrFun (f26 55 (by decide)) 6))))
      have z74 : (σ37 2 2).toInt = (σ 2 2).toInt := (congrArg Int32.toInt (show σ37 2 2 = (σ 2 2) from ((congrFun (f39 2 (by decide)) 2).trans (congrFun (f26 2 (by decide)) 2))))
      have z75 : (σ37 55 5).toInt = (σ 55 5).toInt := (congrArg Int32.toInt (show σ37 55 5 = (σ 55 5) from ((f40 5 (by decide)).trans (congrFun (f26 55 (by decide)) 5))))
      have z76 : (σ37 2 3).toInt = (σ 2 3).toInt := (congrArg Int32.toInt (show σ37 2 3 = (σ 2 3) from ((congrFun (f39 2 (by decide)) 3).trans (congrFun (f26 2 (by decide)) 3))))
      have z77 : (σ37 55 4).toInt = (σ 55 4).toInt := (congrArg Int32.toInt (show σ37 55 4 = (σ 55 4) from ((f40 4 (by decide)).trans (congrFun (f26 55 (by decide)) 4))))
      exact ih x47 σ37 τ _ _ ls (by have h9 := tx47; omega) ⟨I48, I49, I50, I51, I52, I53, I54, I55, I56, I57, I58, I59, I60, I61, I62, I63, I64, I65, I66, I67, I68, I69, p70, p71, (by omega), (by omega), (by omega), (show jNumP (σ37 3) (σ37 56) (σ37 6) (σ37 57) (σ37 7) (σ37 58) (σ37 8) (σ37 59) (σ37 55 6).toInt (σ37 55 4).toInt by rw [show σ37 3 = σ 3 from ((f39 3 (by decide)).trans (f26 3 (by decide))), show σ37 56 = σ 56 from ((f39 56 (by decide)).trans (f26 56 (by decide))), show σ37 6 = σ 6 from ((f39 6 (by decide)).trans (f26 6 (by decide))), show σ37 57 = σ 57 from ((f39 57 (by decide)).trans (f26 57 (by decide))), show σ37 7 = σ 7 from ((f39 7 (by decide)).trans (f26 7 (by decide))), show σ37 58 = σ 58 from ((f39 58 (by decide)).trans (f26 58 (by decide))), show σ37 8 = σ 8 from ((f39 8 (by decide)).trans (f26 8 (by decide))), show σ37 59 = σ 59 from ((f39 59 (by decide)).trans (f26 59 (by decide))), show (σ37 55 6).toInt = (σ 55 6).toInt from by omega, show (σ37 55 4).toInt = (σ 55 4).toInt from by omega]; exact hr0)⟩ hP hS (lv_sub hl [0, 1, 2, 3] rfl)
    · obtain ⟨q82, k78, k79, k80, k81⟩ := h43
      refine lv_pop hx hb dL_law_1029 rfl ?_
      refine lv_goto (tgt := 1357) hx hb dL_law_1030 (by decide) ?_
      obtain ⟨x83, ex83⟩ : ∃ y : Int32, y = x0 + 6 := ⟨_, rfl⟩
      have tx83 : x83.toInt = x0.toInt + 6 := (jadd ex83 rfl jz_6 (by omega) (by omega)).trans (by omega)
      refine lv_iinc (v := x83) (lv' := [(3, .int x83), (2, .ref (ad 55)), (1, .ref (ad 0)), (0, .ref b)]) hx hb dL_law_1357 hl (k := 0) rfl (by rw [ex83]; rfl) (by decide) rfl (fun ls hl => ?_)
      refine lv_goto (tgt := 18) hx hb dL_law_1360 (by decide) ?_
      have I84 : jI2 σ37 := jI2_fr ((congrFun (f39 2 (by decide)) 0).trans (congrFun (f26 2 (by decide)) 0)) ((congrFun (f39 2 (by decide)) 1).trans (congrFun (f26 2 (by decide)) 1)) ((congrFun (f39 2 (by decide)) 2).trans (congrFun (f26 2 (by decide)) 2)) ((congrFun (f39 2 (by decide)) 3).trans (congrFun (f26 2 (by decide)) 3)) ((f39 6 (by decide)).trans (f26 6 (by decide))) hI2
      have I85 : jI9 σ37 := jI9_fr ((congrFun (f39 9 (by decide)) 0).trans (congrFun (f26 9 (by decide)) 0)) ((f39 10 (by decide)).trans (f26 10 (by decide))) ((f39 11 (by decide)).trans (f26 11 (by decide))) hI9
      have I86 : jI12 σ37 := jI12_fr ((congrFun (f39 12 (by decide)) 0).trans (congrFun (f26 12 (by decide)) 0)) ((f39 13 (by decide)).trans (f26 13 (by decide))) hI12
      have I87 : jI16 σ37 := jI16_fr ((congrFun (f39 16 (by decide)) 0).trans (congrFun (f26 16 (by decide)) 0)) ((congrFun (f39 16 (by decide)) 1).trans (congrFun (f26 16 (by decide)) 1)) ((congrFun (f39 16 (by decide)) 2).trans (congrFun (f26 16 (by decide)) 2)) ((f39 17 (by decide)).trans (f26 17 (by decide))) hI16
      have I88 : jI18 σ37 := jI18_fr ((congrFun (f39 18 (by decide)) 0).trans (congrFun (f26 18 (by decide)) 0)) ((f39 19 (by decide)).trans (f26 19 (by decide))) hI18
      have I89 : jI22 σ37 := jI22_fr ((congrFun (f39 22 (by decide)) 0).trans (congrFun (f26 22 (by decide)) 0)) ((f39 23 (by decide)).trans (f26 23 (by decide))) hI22
      have I90 : jI31 σ37 := jI31_fr ((congrFun (f39 31 (by decide)) 8).trans (congrFun (f26 31 (by decide)) 8)) ((f39 33 (by decide)).trans (f26 33 (by decide))) ((f39 36 (by decide)).trans (f26 36 (by decide))) hI31
      have I91 : jI38 σ37 := jI38_fr (congrFun (f39 38 (by decide)) 0) (congrFun (f39 38 (by decide)) 1) (f39 39 (by decide)) I28
      have I92 : jI43 σ37 := jI43_fr ((congrFun (f39 43 (by decide)) 8).trans (congrFun (f26 43 (by decide)) 8)) hI43
      have I93 : jI47 σ37 := jI47_fr ((congrFun (f39 47 (by decide)) 0).trans (congrFun (f26 47 (by decide)) 0)) ((f39 48 (by decide)).trans (f26 48 (by decide))) ((f39 49 (by decide)).trans (f26 49 (by decide))) hI47
      have I94 : jI50 σ37 := jI50_fr ((f39 52 (by decide)).trans (f26 52 (by decide))) hI50
      have I95 : jI101 σ37 := jI101_fr ((f40 4 (by decide)).trans (congrFun (f26 55 (by decide)) 4)) ((f40 5 (by decide)).trans (congrFun (f26 55 (by decide)) 5)) ((f39 56 (by decide)).trans (f26 56 (by decide))) ((f39 57 (by decide)).trans (f26 57 (by decide))) ((f39 58 (by decide)).trans (f26 58 (by decide))) ((f39 59 (by decide)).trans (f26 59 (by decide))) hI101
      have I96 : jI102 σ37 := jI102_fr ((f40 6 (by decide)).trans (congrFun (f26 55 (by decide)) 6)) ((f39 60 (by decide)).trans (f26 60 (by decide))) ((f39 61 (by decide)).trans (f26 61 (by decide))) hI102
      have I97 : jI103 σ37 := jI103_fr ((f40 9 (by decide)).trans (congrFun (f26 55 (by decide)) 9)) hI103
      have I98 : jI104 σ37 := jI104_fr ((f40 10 (by decide)).trans (congrFun (f26 55 (by decide)) 10)) ((f40 12 (by decide)).trans (congrFun (f26 55 (by decide)) 12)) ((f40 13 (by decide)).trans (congrFun (f26 55 (by decide)) 13)) ((f39 62 (by decide)).trans (f26 62 (by decide))) ((f39 67 (by decide)).trans (f26 67 (by decide))) hI104
      have I99 : jI105 σ37 := jI105_fr ((f40 15 (by decide)).trans (congrFun (f26 55 (by decide)) 15)) ((f39 65 (by decide)).trans (f26 65 (by decide))) hI105
      have I100 : jI106 σ37 := jI106_fr (f40 32 (by decide)) (f39 70 (by decide)) (f39 71 (by decide)) (f39 72 (by decide)) I35
      have I101 : jI107 σ37 := jI107_fr ((f40 12 (by decide)).trans (congrFun (f26 55 (by decide)) 12)) ((f40 47 (by decide)).trans (congrFun (f26 55 (by decide)) 47)) ((f39 80 (by decide)).trans (f26 80 (by decide))) hI107
      have I102 : jI109 σ37 := jI109_fr ((f40 50 (by decide)).trans (congrFun (f26 55 (by decide)) 50)) hI109
      have I103 : jI110 σ37 := jI110_fr ((f39 86 (by decide)).trans (f26 86 (by decide))) ((f39 87 (by decide)).trans (f26 87 (by decide))) hI110
      have I104 : jI111 σ37 := jI111_fr ((f39 79 (by decide)).trans (f26 79 (by decide))) hI111
      have I105 : jI119 σ37 := jI119_fr ((f39 68 (by decide)).trans (f26 68 (by decide))) hI119
      have p106 : jKept σ37 := jKept.fr ((f39 75 (by decide)).trans (f26 75 (by decide))) ((f39 76 (by decide)).trans (f26 76 (by decide))) ((f39 77 (by decide)).trans (f26 77 (by decide))) hs_jKept
      have p107 : jBook σ37 := jBook.fr ((f40 47 (by decide)).trans (congrFun (f26 55 (by decide)) 47)) ((f40 10 (by decide)).trans (congrFun (f26 55 (by decide)) 10)) ((f39 81 (by decide)).trans (f26 81 (by decide))) hs_jBook
      have z108 : (σ37 2 0).toInt = (σ 2 0).toInt := (congrArg Int32.toInt (show σ37 2 0 = (σ 2 0) from ((congrFun (f39 2 (by decide)) 0).trans (congrFun (f26 2 (by decide)) 0))))
      have z109 : (σ37 55 6).toInt = (σ 55 6).toInt := (congrArg Int32.toInt (show σ37 55 6 = (σ 55 6) from ((f40 6 (by decide)).trans (congrFun (f26 55 (by decide)) 6))))
      have z110 : (σ37 2 2).toInt = (σ 2 2).toInt := (congrArg Int32.toInt (show σ37 2 2 = (σ 2 2) from ((congrFun (f39 2 (by decide)) 2).trans (congrFun (f26 2 (by decide)) 2))))
      have z111 : (σ37 55 5).toInt = (σ 55 5).toInt := (congrArg Int32.toInt (show σ37 55 5 = (σ 55 5) from ((f40 5 (by decide)).trans (congrFun (f26 55 (by decide)) 5))))
      have z112 : (σ37 2 3).toInt = (σ 2 3).toInt := (congrArg Int32.toInt (show σ37 2 3 = (σ 2 3) from ((congrFun (f39 2 (by decide)) 3).trans (congrFun (f26 2 (by decide)) 3))))
      have z113 : (σ37 55 4).toInt = (σ 55 4).toInt := (congrArg Int32.toInt (show σ37 55 4 = (σ 55 4) from ((f40 4 (by decide)).trans (congrFun (f26 55 (by decide)) 4))))
      exact ih x83 σ37 τ _ _ ls (by have h9 := tx83; omega) ⟨I84, I85, I86, I87, I88, I89, I90, I91, I92, I93, I94, I95, I96, I97, I98, I99, I100, I101, I102, I103, I104, I105, p106, p107, (by omega), (by omega), (by omega), (show jNumP (σ37 3) (σ37 56) (σ37 6) (σ37 57) (σ37 7) (σ37 58) (σ37 8) (σ37 59) (σ37 55 6).toInt (σ37 55 4).toInt by rw [show σ37 3 = σ 3 from ((f39 3 (by decide)).trans (f26 3 (by decide))), show σ37 56 = σ 56 from ((f39 56 (by decide)).trans (f26 56 (by decide))), show σ37 6 = σ 6 from ((f39 6 (by decide)).trans (f26 6 (by decide))), show σ37 57 = σ 57 from ((f39 57 (by decide)).trans (f26 57 (by decide))), show σ37 7 = σ 7 from ((f39 7 (by decide)).trans (f26 7 (by decide))), show σ37 58 = σ 58 from ((f39 58 (by decide)).trans (f26 58 (by decide))), show σ37 8 = σ 8 from ((f39 8 (by decide)).trans (f26 8 (by decide))), show σ37 59 = σ 59 from ((f39 59 (by decide)).trans (f26 59 (by decide))), show (σ37 55 6).toInt = (σ 55 6).toInt from by omega, show (σ37 55 4).toInt = (σ 55 4).toInt from by omega]; exact hr0)⟩ hP hS (lv_sub hl [0, 1, 2, 3] rfl)
  · obtain ⟨q118, k114, k115, k116, k117⟩ := h31
    refine lv_pop hx hb dL_law_1009 rfl ?_
    refine lv_aload_n hx hb dL_law_1010 rfl (lv_at hl 1 rfl) ?_
    refine lv_aload_n hx hb dL_law_1011 rfl (lv_at hl 3 rfl) ?_
    refine lv_iload_n hx hb dL_law_1012 rfl (lv_at hl 0 rfl) ?_
    refine lv_iconst (v := 1) hx hb dL_law_1013 (by decide) ?_
    refine lv_iadd hx hb dL_law_1014 ?_
    refine jtopr ex18.symm ?_
    refine va_sld hx hb hX hbl hbA hS (jin tx18 (by omega) (by omega)) dL_law_1015 ?_
    refine lv_aload_n hx hb dL_law_1016 rfl (lv_at hl 3 rfl) ?_
    refine lv_iload_n hx hb dL_law_1017 rfl (lv_at hl 0 rfl) ?_
    refine lv_iconst (v := 2) hx hb dL_law_1018 (by decide) ?_
    refine lv_iadd hx hb dL_law_1019 ?_
    refine jtopr ex20.symm ?_
    refine va_sld hx hb hX hbl hbA hS (jin tx20 (by omega) (by omega)) dL_law_1020 ?_
    refine lv_aload_n hx hb dL_law_1021 rfl (lv_at hl 3 rfl) ?_
    refine lv_iload_n hx hb dL_law_1022 rfl (lv_at hl 0 rfl) ?_
    refine lv_iconst (v := 3) hx hb dL_law_1023 (by decide) ?_
    refine lv_iadd hx hb dL_law_1024 ?_
    refine jtopr ex22.symm ?_
    refine va_sld hx hb hX hbl hbA hS (jin tx22 (by omega) (by omega)) dL_law_1025 ?_
    have I119 : jI106 σ24 := jI106_fr (congrFun (f26 55 (by decide)) 32) (f26 70 (by decide)) (f26 71 (by decide)) (f26 72 (by decide)) hI106
    have z120 : (σ24 55 32).toInt = (σ 55 32).toInt := (congrArg Int32.toInt (show σ24 55 32 = (σ 55 32) from (congrFun (f26 55 (by decide)) 32)))
    refine jcallV (As := [.int (xs x18.toNatClampNeg), .int (xs x20.toNatClampNeg), .int (xs x22.toNatClampNeg)]) (rest := []) ⟨hx, hb, hml, hown, hts⟩ hK hP hA hS hZ (c_X12_act l D cI cL ad zz hJ σ24 τ (xs x18.toNatClampNeg) ((xs x18.toNatClampNeg).toInt) rfl (xs x20.toNatClampNeg) ((xs x20.toNatClampNeg).toInt) rfl (xs x22.toNatClampNeg) ((xs x22.toNatClampNeg).toInt) rfl I119) cw_RL_132 (jc_55 cI cL ad σ24 τ) rfl ⟨Nat.le_of_ble_eq_true rfl, Nat.le_of_ble_eq_true rfl⟩ rfl rfl rfl hl.1 rfl (Nat.le_of_ble_eq_true rfl) dL_law_1026 ⟨Nat.le_of_ble_eq_true rfl, Nat.le_of_ble_eq_true rfl⟩ (fun r122 σ121 τ121 H locs h121 hP hS => ?_)
    obtain ⟨rfl, f123, f124, h121⟩ := h121
    rcases h121 with h126 | h127
    · obtain ⟨q130, k128, k129⟩ := h126
      have q130 := q130.symm
      subst q130
      refine lv_pop hx hb dL_law_1029 rfl ?_
      refine lv_goto (tgt := 1357) hx hb dL_law_1030 (by decide) ?_
      obtain ⟨x131, ex131⟩ : ∃ y : Int32, y = x0 + 6 := ⟨_, rfl⟩
      have tx131 : x131.toInt = x0.toInt + 6 := (jadd ex131 rfl jz_6 (by omega) (by omega)).trans (by omega)
      refine lv_iinc (v := x131) (lv' := [(3, .int x131), (2, .ref (ad 55)), (1, .ref (ad 0)), (0, .ref b)]) hx hb dL_law_1357 hl (k := 0) rfl (by rw [ex131]; rfl) (by decide) rfl (fun ls hl => ?_)
      refine lv_goto (tgt := 18) hx hb dL_law_1360 (by decide) ?_
      have I132 : jI2 σ121 := jI2_fr ((congrFun (f123 2 (by decide)) 0).trans (congrFun (f26 2 (by decide)) 0)) ((congrFun (f123 2 (by decide)) 1).trans (congrFun (f26 2 (by decide)) 1)) ((congrFun (f123 2 (by decide)) 2).trans (congrFun (f26 2 (by decide)) 2)) ((congrFun (f123 2 (by decide)) 3).trans (congrFun (f26 2 (by decide)) 3)) ((f123 6 (by decide)).trans (f26 6 (by decide))) hI2
      have I133 : jI9 σ121 := jI9_fr ((congrFun (f123 9 (by decide)) 0).trans (congrFun (f26 9 (by decide)) 0)) ((f123 10 (by decide)).trans (f26 10 (by decide))) ((f123 11 (by decide)).trans (f26 11 (by decide))) hI9
      have I134 : jI12 σ121 := jI12_fr ((congrFun (f123 12 (by decide)) 0).trans (congrFun (f26 12 (by decide)) 0)) ((f123 13 (by decide)).trans (f26 13 (by decide))) hI12
      have I135 : jI16 σ121 := jI16_fr ((congrFun (f123 16 (by decide)) 0).trans (congrFun (f26 16 (by decide)) 0)) ((congrFun (f123 16 (by decide)) 1).trans (congrFun (f26 16 (by decide)) 1)) ((congrFun (f123 16 (by decide)) 2).trans (congrFun (f26 16 (by decide)) 2)) ((f123 17 (by decide)).trans (f26 17 (by decide))) hI16
      have I136 : jI18 σ121 := jI18_fr ((congrFun (f123 18 (by decide)) 0).trans (congrFun (f26 18 (by decide)) 0)) ((f123 19 (by decide)).trans (f26 19 (by decide))) hI18
      have I137 : jI22 σ121 := jI22_fr ((congrFun (f123 22 (by decide)) 0).trans (congrFun (f26 22 (by decide)) 0)) ((f123 23 (by decide)).trans (f26 23 (by decide))) hI22
      have I138 : jI31 σ121 := jI31_fr ((congrFun (f123 31 (by decide)) 8).trans (congrFun (f26 31 (by decide)) 8)) ((f123 33 (by decide)).trans (f26 33 (by decide))) ((f123 36 (by decide)).trans (f26 36 (by decide))) hI31
      have I139 : jI38 σ121 := jI38_fr (congrFun (f123 38 (by decide)) 0) (congrFun (f123 38 (by decide)) 1) (f123 39 (by decide)) I28
      have I140 : jI43 σ121 := jI43_fr ((congrFun (f123 43 (by decide)) 8).trans (congrFun (f26 43 (by decide)) 8)) hI43
      have I141 : jI47 σ121 := jI47_fr ((congrFun (f123 47 (by decide)) 0).trans (congrFun (f26 47 (by decide)) 0)) ((f123 48 (by decide)).trans (f26 48 (by decide))) ((f123 49 (by decide)).trans (f26 49 (by decide))) hI47
      have I142 : jI50 σ121 := jI50_fr ((f123 52 (by decide)).trans (f26 52 (by decide))) hI50
      have I143 : jI101 σ121 := jI101_fr ((f124 4 (by decide)).trans (congrFun (f26 55 (by decide)) 4)) ((f124 5 (by decide)).trans (congrFun (f26 55 (by decide)) 5)) ((f123 56 (by decide)).trans (f26 56 (by decide))) ((f123 57 (by decide)).trans (f26 57 (by decide))) ((f123 58 (by decide)).trans (f26 58 (by decide))) ((f123 59 (by decide)).trans (f26 59 (by decide))) hI101
      have I144 : jI102 σ121 := jI102_fr ((f124 6 (by decide)).trans (congrFun (f26 55 (by decide)) 6)) ((f123 60 (by decide)).trans (f26 60 (by decide))) ((f123 61 (by decide)).trans (f26 61 (by decide))) hI102
      have I145 : jI103 σ121 := jI103_fr ((f124 9 (by decide)).trans (congrFun (f26 55 (by decide)) 9)) hI103
      have I146 : jI104 σ121 := jI104_fr ((f124 10 (by decide)).trans (congrFun (f26 55 (by decide)) 10)) ((f124 12 (by decide)).trans (congrFun (f26 55 (by decide)) 12)) ((f124 13 (by decide)).trans (congrFun (f26 55 (by decide)) 13)) ((f123 62 (by decide)).trans (f26 62 (by decide))) ((f123 67 (by decide)).trans (f26 67 (by decide))) hI104
      have I147 : jI105 σ121 := jI105_fr ((f124 15 (by decide)).trans (congrFun (f26 55 (by decide)) 15)) ((f123 65 (by decide)).trans (f26 65 (by decide))) hI105
      have I148 : jI106 σ121 := jI106_fr (f124 32 (by decide)) (f123 70 (by decide)) (f123 71 (by decide)) (f123 72 (by decide)) I119
      have I149 : jI107 σ121 := jI107_fr ((f124 12 (by decide)).trans (congrFun (f26 55 (by decide)) 12)) ((f124 47 (by decide)).trans (congrFun (f26 55 (by decide)) 47)) ((f123 80 (by decide)).trans (f26 80 (by decide))) hI107
      have I150 : jI109 σ121 := jI109_fr ((f124 50 (by decide)).trans (congrFun (f26 55 (by decide)) 50)) hI109
      have I151 : jI110 σ121 := jI110_fr ((f123 86 (by decide)).trans (f26 86 (by decide))) ((f123 87 (by decide)).trans (f26 87 (by decide))) hI110
      have I152 : jI111 σ121 := jI111_fr ((f123 79 (by decide)).trans (f26 79 (by decide))) hI111
      have I153 : jI119 σ121 := jI119_fr ((f123 68 (by decide)).trans (f26 68 (by decide))) hI119
      have p154 : jKept σ121 := jKept.fr ((f123 75 (by decide)).trans (f26 75 (by decide))) ((f123 76 (by decide)).trans (f26 76 (by decide))) ((f123 77 (by decide)).trans (f26 77 (by decide))) hs_jKept
      have p155 : jBook σ121 := jBook.fr ((f124 47 (by decide)).trans (congrFun (f26 55 (by decide)) 47)) ((f124 10 (by decide)).trans (congrFun (f26 55 (by decide)) 10)) ((f123 81 (by decide)).trans (f26 81 (by decide))) hs_jBook
      have z156 : (σ121 2 0).toInt = (σ 2 0).toInt := (congrArg Int32.toInt (show σ121 2 0 = (σ 2 0) from ((congrFun (f123 2 (by decide)) 0).trans (congrFun (f26 2 (by decide)) 0))))
      have z157 : (σ121 55 6).toInt = (σ 55 6).toInt := (congrArg Int32.toInt (show σ121 55 6 = (σ 55 6) from ((f124 6 (by decide)).trans (congrFun (f26 55 (by decide)) 6))))
      have z158 : (σ121 2 2).toInt = (σ 2 2).toInt := (congrArg Int32.toInt (show σ121 2 2 = (σ 2 2) from ((congrFun (f123 2 (by decide)) 2).trans (congrFun (f26 2 (by decide)) 2))))
      have z159 : (σ121 55 5).toInt = (σ 55 5).toInt := (congrArg Int32.toInt (show σ121 55 5 = (σ 55 5) from ((f124 5 (by decide)).trans (congrFun (f26 55 (by decide)) 5))))
      have z160 : (σ121 2 3).toInt = (σ 2 3).toInt := (congrArg Int32.toInt (show σ121 2 3 = (σ 2 3) from ((congrFun (f123 2 (by decide)) 3).trans (congrFun (f26 2 (by decide)) 3))))
      have z161 : (σ121 55 4).toInt = (σ 55 4).toInt := (congrArg Int32.toInt (show σ121 55 4 = (σ 55 4) from ((f124 4 (by decide)).trans (congrFun (f26 55 (by decide)) 4))))
      exact ih x131 σ121 τ _ _ ls (by have h9 := tx131; omega) ⟨I132, I133, I134, I135, I136, I137, I138, I139, I140, I141, I142, I143, I144, I145, I146, I147, I148, I149, I150, I151, I152, I153, p154, p155, (by omega), (by omega), (by omega), (show jNumP (σ121 3) (σ121 56) (σ121 6) (σ121 57) (σ121 7) (σ121 58) (σ121 8) (σ121 59) (σ121 55 6).toInt (σ121 55 4).toInt by rw [show σ121 3 = σ 3 from ((f123 3 (by decide)).trans (f26 3 (by decide))), show σ121 56 = σ 56 from ((f123 56 (by decide)).trans (f26 56 (by decide))), show σ121 6 = σ 6 from ((f123 6 (by decide)).trans (f26 6 (by decide))), show σ121 57 = σ 57 from ((f123 57 (by decide)).trans (f26 57 (by decide))), show σ121 7 = σ 7 from ((f123 7 (by decide)).trans (f26 7 (by decide))), show σ121 58 = σ 58 from ((f123 58 (by decide)).trans (f26 58 (by decide))), show σ121 8 = σ 8 from ((f123 8 (by decide)).trans (f26 8 (by decide))), show σ121 59 = σ 59 from ((f123 59 (by decide)).trans (f26 59 (by decide))), show (σ121 55 6).toInt = (σ 55 6).toInt from by omega, show (σ121 55 4).toInt = (σ 55 4).toInt from by omega]; exact hr0)⟩ hP hS (lv_sub hl [0, 1, 2, 3] rfl)
    · obtain ⟨q166, k162, k163, k164, k165⟩ := h127
      refine lv_pop hx hb dL_law_1029 rfl ?_
      refine lv_goto (tgt := 1357) hx hb dL_law_1030 (by decide) ?_
      obtain ⟨x167, ex167⟩ : ∃ y : Int32, y = x0 + 6 := ⟨_, rfl⟩
      have tx167 : x167.toInt = x0.toInt + 6 := (jadd ex167 rfl jz_6 (by omega) (by omega)).trans (by omega)
      refine lv_iinc (v := x167) (lv' := [(3, .int x167), (2, .ref (ad 55)), (1, .ref (ad 0)), (0, .ref b)]) hx hb dL_law_1357 hl (k := 0) rfl (by rw [ex167]; rfl) (by decide) rfl (fun ls hl => ?_)
      refine lv_goto (tgt := 18) hx hb dL_law_1360 (by decide) ?_
      have I168 : jI2 σ121 := jI2_fr ((congrFun (f123 2 (by decide)) 0).trans (congrFun (f26 2 (by decide)) 0)) ((congrFun (f123 2 (by decide)) 1).trans (congrFun (f26 2 (by decide)) 1)) ((congrFun (f123 2 (by decide)) 2).trans (congrFun (f26 2 (by decide)) 2)) ((congrFun (f123 2 (by decide)) 3).trans (congrFun (f26 2 (by decide)) 3)) ((f123 6 (by decide)).trans (f26 6 (by decide))) hI2
      have I169 : jI9 σ121 := jI9_fr ((congrFun (f123 9 (by decide)) 0).trans (congrFun (f26 9 (by decide)) 0)) ((f123 10 (by decide)).trans (f26 10 (by decide))) ((f123 11 (by decide)).trans (f26 11 (by decide))) hI9
      have I170 : jI12 σ121 := jI12_fr ((congrFun (f123 12 (by decide)) 0).trans (congrFun (f26 12 (by decide)) 0)) ((f123 13 (by decide)).trans (f26 13 (by decide))) hI12
      have I171 : jI16 σ121 := jI16_fr ((congrFun (f123 16 (by decide)) 0).trans (congrFun (f26 16 (by decide)) 0)) ((congrFun (f123 16 (by decide)) 1).trans (congrFun (f26 16 (by decide)) 1)) ((congrFun (f123 16 (by decide)) 2).trans (congrFun (f26 16 (by decide)) 2)) ((f123 17 (by decide)).trans (f26 17 (by decide))) hI16
      have I172 : jI18 σ121 := jI18_fr ((congrFun (f123 18 (by decide)) 0).trans (congrFun (f26 18 (by decide)) 0)) ((f123 19 (by decide)).trans (f26 19 (by decide))) hI18
      have I173 : jI22 σ121 := jI22_fr ((congrFun (f123 22 (by decide)) 0).trans (congrFun (f26 22 (by decide)) 0)) ((f123 23 (by decide)).trans (f26 23 (by decide))) hI22
      have I174 : jI31 σ121 := jI31_fr ((congrFun (f123 31 (by decide)) 8).trans (congrFun (f26 31 (by decide)) 8)) ((f123 33 (by decide)).trans (f26 33 (by decide))) ((f123 36 (by decide)).trans (f26 36 (by decide))) hI31
      have I175 : jI38 σ121 := jI38_fr (congrFun (f123 38 (by decide)) 0) (congrFun (f123 38 (by decide)) 1) (f123 39 (by decide)) I28
      have I176 : jI43 σ121 := jI43_fr ((congrFun (f123 43 (by decide)) 8).trans (congrFun (f26 43 (by decide)) 8)) hI43
      have I177 : jI47 σ121 := jI47_fr ((congrFun (f123 47 (by decide)) 0).trans (congrFun (f26 47 (by decide)) 0)) ((f123 48 (by decide)).trans (f26 48 (by decide))) ((f123 49 (by decide)).trans (f26 49 (by decide))) hI47
      have I178 : jI50 σ121 := jI50_fr ((f123 52 (by decide)).trans (f26 52 (by decide))) hI50
      have I179 : jI101 σ121 := jI101_fr ((f124 4 (by decide)).trans (congrFun (f26 55 (by decide)) 4)) ((f124 5 (by decide)).trans (congrFun (f26 55 (by decide)) 5)) ((f123 56 (by decide)).trans (f26 56 (by decide))) ((f123 57 (by decide)).trans (f26 57 (by decide))) ((f123 58 (by decide)).trans (f26 58 (by decide))) ((f123 59 (by decide)).trans (f26 59 (by decide))) hI101
      have I180 : jI102 σ121 := jI102_fr ((f124 6 (by decide)).trans (congrFun (f26 55 (by decide)) 6)) ((f123 60 (by decide)).trans (f26 60 (by decide))) ((f123 61 (by decide)).trans (f26 61 (by decide))) hI102
      have I181 : jI103 σ121 := jI103_fr ((f124 9 (by decide)).trans (congrFun (f26 55 (by decide)) 9)) hI103
      have I182 : jI104 σ121 := jI104_fr ((f124 10 (by decide)).trans (congrFun (f26 55 (by decide)) 10)) ((f124 12 (by decide)).trans (congrFun (f26 55 (by decide)) 12)) ((f124 13 (by decide)).trans (congrFun (f26 55 (by decide)) 13)) ((f123 62 (by decide)).trans (f26 62 (by decide))) ((f123 67 (by decide)).trans (f26 67 (by decide))) hI104
      have I183 : jI105 σ121 := jI105_fr ((f124 15 (by decide)).trans (congrFun (f26 55 (by decide)) 15)) ((f123 65 (by decide)).trans (f26 65 (by decide))) hI105
      have I184 : jI106 σ121 := jI106_fr (f124 32 (by decide)) (f123 70 (by decide)) (f123 71 (by decide)) (f123 72 (by decide)) I119
      have I185 : jI107 σ121 := jI107_fr ((f124 12 (by decide)).trans (congrFun (f26 55 (by decide)) 12)) ((f124 47 (by decide)).trans (congrFun (f26 55 (by decide)) 47)) ((f123 80 (by decide)).trans (f26 80 (by decide))) hI107
      have I186 : jI109 σ121 := jI109_fr ((f124 50 (by decide)).trans (congrFun (f26 55 (by decide)) 50)) hI109
      have I187 : jI110 σ121 := jI110_fr ((f123 86 (by decide)).trans (f26 86 (by decide))) ((f123 87 (by decide)).trans (f26 87 (by decide))) hI110
      have I188 : jI111 σ121 := jI111_fr ((f123 79 (by decide)).trans (f26 79 (by decide))) hI111
      have I189 : jI119 σ121 := jI119_fr ((f123 68 (by decide)).trans (f26 68 (by decide))) hI119
      have p190 : jKept σ121 := jKept.fr ((f123 75 (by decide)).trans (f26 75 (by decide))) ((f123 76 (by decide)).trans (f26 76 (by decide))) ((f123 77 (by decide)).trans (f26 77 (by decide))) hs_jKept
      have p191 : jBook σ121 := jBook.fr ((f124 47 (by decide)).trans (congrFun (f26 55 (by decide)) 47)) ((f124 10 (by decide)).trans (congrFun (f26 55 (by decide)) 10)) ((f123 81 (by decide)).trans (f26 81 (by decide))) hs_jBook
      have z192 : (σ121 2 0).toInt = (σ 2 0).toInt := (congrArg Int32.toInt (show σ121 2 0 = (σ 2 0) from ((congrFun (f123 2 (by decide)) 0).trans (congrFun (f26 2 (by decide)) 0))))
      have z193 : (σ121 55 6).toInt = (σ 55 6).toInt := (congrArg Int32.toInt (show σ121 55 6 = (σ 55 6) from ((f124 6 (by decide)).trans (congrFun (f26 55 (by decide)) 6))))
      have z194 : (σ121 2 2).toInt = (σ 2 2).toInt := (congrArg Int32.toInt (show σ121 2 2 = (σ 2 2) from ((congrFun (f123 2 (by decide)) 2).trans (congrFun (f26 2 (by decide)) 2))))
      have z195 : (σ121 55 5).toInt = (σ 55 5).toInt := (congrArg Int32.toInt (show σ121 55 5 = (σ 55 5) from ((f124 5 (by decide)).trans (congrFun (f26 55 (by decide)) 5))))
      have z196 : (σ121 2 3).toInt = (σ 2 3).toInt := (congrArg Int32.toInt (show σ121 2 3 = (σ 2 3) from ((congrFun (f123 2 (by decide)) 3).trans (congrFun (f26 2 (by decide)) 3))))
      have z197 : (σ121 55 4).toInt = (σ 55 4).toInt := (congrArg Int32.toInt (show σ121 55 4 = (σ 55 4) from ((f124 4 (by decide)).trans (congrFun (f26 55 (by decide)) 4))))
      exact ih x167 σ121 τ _ _ ls (by have h9 := tx167; omega) ⟨I168, I169, I170, I171, I172, I173, I174, I175, I176, I177, I178, I179, I180, I181, I182, I183, I184, I185, I186, I187, I188, I189, p190, p191, (by omega), (by omega), (by omega), (show jNumP (σ121 3) (σ121 56) (σ121 6) (σ121 57) (σ121 7) (σ121 58) (σ121 8) (σ121 59) (σ121 55 6).toInt (σ121 55 4).toInt by rw [show σ121 3 = σ 3 from ((f123 3 (by decide)).trans (f26 3 (by decide))), show σ121 56 = σ 56 from ((f123 56 (by decide)).trans (f26 56 (by decide))), show σ121 6 = σ 6 from ((f123 6 (by decide)).trans (f26 6 (by decide))), show σ121 57 = σ 57 from ((f123 57 (by decide)).trans (f26 57 (by decide))), show σ121 7 = σ 7 from ((f123 7 (by decide)).trans (f26 7 (by decide))), show σ121 58 = σ 58 from ((f123 58 (by decide)).trans (f26 58 (by decide))), show σ121 8 = σ 8 from ((f123 8 (by decide)).trans (f26 8 (by decide))), show σ121 59 = σ 59 from ((f123 59 (by decide)).trans (f26 59 (by decide))), show (σ121 55 6).toInt = (σ 55 6).toInt from by omega, show (σ121 55 4).toInt = (σ 55 4).toInt from by omega]; exact hr0)⟩ hP hS (lv_sub hl [0, 1, 2, 3] rfl)
set_option maxHeartbeats 4000000 in
set_option maxRecDepth 100000 in
theorem law_case_29 {p : Program} {e : Env} {s : State} {m : MethodId} {below : List Frame} {meth : Method} {c : Code} (l : Launch) {b L : Nat} {xs : Nat → Int32} {D : va_G} {cI cL : ClassId} {ad zz : Nat → Nat} (C0 : lw_At p s m meth c b L xs) (hJ : jD ad) (hA : ∀ q, jA ad q → s.heap.size ≤ q) (hK : jK D cI cL s) (hZ : jZ zz (fun q : Nat => s.heap.size ≤ q) s s.heap) {x0 : Int32} (hx0 : 0 ≤ x0.toInt) (hxL : x0.toInt + 6 ≤ (L : Int)) (hL : L ≤ 384) {σ : Nat → Nat → Int32} {τ : Nat → Nat → Int64} {H : Heap} {locs : List Loc} (hS : va_S (fun q : Nat => s.heap.size ≤ q) s.heap H locs) {ls : Array Slot} (hAll : jAll σ τ) (hP : jH D cI cL ad σ τ H) (hl : lv_has ls 4 [(3, .int x0), (2, .ref (ad 55)), (1, .ref (ad 0)), (0, .ref b)]) (ih : ∀ (x1 : Int32) (σ : Nat → Nat → Int32) (τ : Nat → Nat → Int64) (H : Heap) (locs : List Loc) (ls : Array Slot), x1.toInt = x0.toInt + 6 → jAll σ τ → jH D cI cL ad σ τ H → va_S (fun q : Nat => s.heap.size ≤ q) s.heap H locs → lv_has ls 4 [(3, .int x1), (2, .ref (ad 55)), (1, .ref (ad 0)), (0, .ref b)] → W p l e room_1 s m #[Value.ref b] below meth c H locs 90 348600 (lw_Z below #[Value.ref b] s) (F0 m 18 ls [])) : W p l e room_1 s m #[Value.ref b] below meth c H locs 90 348600 (lw_Z below #[Value.ref b] s) (F0 m 1033 ls []) := by
  obtain ⟨hx, hb, hr, hml, hown, hts0, hX, hbl, hlocks, hgv⟩ := C0
  have hts : ∀ w ∈ wsL_law, w.before #[Value.ref b] s = true := fun w h => hts0 w (wsL_law_in w h)
  have hbA : ¬ (fun q : Nat => s.heap.size ≤ q) b := Nat.not_le.mpr hbl
  have hown : s.vm.findClass RL = some m.cls := hown
  obtain ⟨hI2, hI9, hI12, hI16, hI18, hI22, hI31, hI38, hI43, hI47, hI50, hI101, hI102, hI103, hI104, hI105, hI106, hI107, hI109, hI110, hI111, hI119, hs_jKept, hs_jBook, ht0, ht1, ht2, hr0⟩ := hAll
  have hL9 : (L : Int) ≤ 384 := by omega
  obtain ⟨i1, i2, i3, i4, i5, w6⟩ : (0 ≤ (σ 2 0).toInt ∧ (σ 2 0).toInt ≤ 4) ∧ (0 ≤ (σ 2 1).toInt ∧ (σ 2 1).toInt ≤ 3) ∧ (0 ≤ (σ 2 2).toInt) ∧ (0 ≤ (σ 2 3).toInt) ∧ ((σ 2 2).toInt + (σ 2 3).toInt ≤ 40) ∧ (∀ k : Nat, k < 40 → 0 ≤ (σ 6 k).toInt ∧ (σ 6 k).toInt ≤ 67) := id hI2
  obtain ⟨i7, i8, i9, w10, w11, w12, w13⟩ : (0 ≤ (σ 55 5).toInt) ∧ ((σ 55 5).toInt ≤ (σ 55 4).toInt) ∧ ((σ 55 4).toInt ≤ 40) ∧ (∀ k : Nat, k < 68 → (-200) ≤ (σ 56 k).toInt ∧ (σ 56 k).toInt ≤ 500) ∧ (∀ k : Nat, k < 40 → 0 ≤ (σ 57 k).toInt ∧ (σ 57 k).toInt ≤ 67) ∧ (∀ k : Nat, k < 40 → (-200) ≤ (σ 58 k).toInt ∧ (σ 58 k).toInt ≤ 500) ∧ (∀ k : Nat, k < 40 → (-200) ≤ (σ 59 k).toInt ∧ (σ 59 k).toInt ≤ 500) := id hI101
  obtain ⟨i14, w15, w16⟩ : (0 ≤ (σ 55 6).toInt ∧ (σ 55 6).toInt ≤ 4) ∧ (∀ k : Nat, k < 4 → 0 ≤ (σ 60 k).toInt ∧ (σ 60 k).toInt ≤ 50) ∧ (∀ k : Nat, k < 4 → 0 ≤ (σ 61 k).toInt ∧ (σ 61 k).toInt ≤ 20) := id hI102
  refine lv_aload_n hx hb dL_law_1033 rfl (lv_at hl 2 rfl) ?_
  refine lv_aload_n hx hb dL_law_1034 rfl (lv_at hl 3 rfl) ?_
  refine lv_iload_n hx hb dL_law_1035 rfl (lv_at hl 0 rfl) ?_
  refine lv_iconst (v := 1) hx hb dL_law_1036 (by decide) ?_
  have g17 := jrg (rfl : x0.toInt = x0.toInt)
  refine lv_iadd hx hb dL_law_1037 ?_
  refine lv_topi (fun x18 ex18 => ?_)
  have tx18 : x18.toInt = x0.toInt + 1 := (jadd ex18 rfl jz_1 (by omega) (by omega)).trans (by omega)
  refine va_sld hx hb hX hbl hbA hS (jin tx18 (by omega) (by omega)) dL_law_1038 ?_
  have g19 := jrg (rfl : (xs x18.toNatClampNeg).toInt = (xs x18.toNatClampNeg).toInt)
  refine jcallV (As := [.int (xs x18.toNatClampNeg)]) (rest := []) ⟨hx, hb, hml, hown, hts⟩ hK hP hA hS hZ (c_X11_trace l D cI cL ad zz hJ σ τ (xs x18.toNatClampNeg) ((xs x18.toNatClampNeg).toInt) rfl hI38) cw_RL_133 (jc_0 cI cL ad σ τ) rfl ⟨Nat.le_of_ble_eq_true rfl, Nat.le_of_ble_eq_true rfl⟩ rfl rfl rfl hl.1 rfl (Nat.le_of_ble_eq_true rfl) dL_law_1039 ⟨Nat.le_of_ble_eq_true rfl, Nat.le_of_ble_eq_true rfl⟩ (fun r21 σ20 τ20 H locs h20 hP hS => ?_)
  obtain ⟨⟨rfl, rfl⟩, h20⟩ := h20
  rcases h20 with h22 | h23
  · obtain ⟨q27, k24, k25, k26⟩ := h22
    have q28 : r21 = (σ 42 (xs x18.toNatClampNeg).toNatClampNeg) := q27.trans rfl
    have q28 := q28.symm
    subst q28
    refine lv_pop hx hb dL_law_1042 rfl ?_
    refine lv_aload_n hx hb dL_law_1043 rfl (lv_at hl 1 rfl) ?_
    refine lv_aload_n hx hb dL_law_1044 rfl (lv_at hl 3 rfl) ?_
    refine lv_iload_n hx hb dL_law_1045 rfl (lv_at hl 0 rfl) ?_
    refine lv_iconst (v := 1) hx hb dL_law_1046 (by decide) ?_
    refine lv_iadd hx hb dL_law_1047 ?_
    refine jtopr ex18.symm ?_
    refine va_sld hx hb hX hbl hbA hS (jin tx18 (by omega) (by omega)) dL_law_1048 ?_
    refine jcallV (As := [.int (xs x18.toNatClampNeg)]) (rest := []) ⟨hx, hb, hml, hown, hts⟩ hK hP hA hS hZ (c_X12_trace l D cI cL ad zz hJ σ τ (xs x18.toNatClampNeg) ((xs x18.toNatClampNeg).toInt) rfl) cw_RL_136 (jc_55 cI cL ad σ τ) rfl ⟨Nat.le_of_ble_eq_true rfl, Nat.le_of_ble_eq_true rfl⟩ rfl rfl rfl hl.1 rfl (Nat.le_of_ble_eq_true rfl) dL_law_1049 ⟨Nat.le_of_ble_eq_true rfl, Nat.le_of_ble_eq_true rfl⟩ (fun r30 σ29 τ29 H locs h29 hP hS => ?_)
    obtain ⟨⟨rfl, rfl⟩, h29⟩ := h29
    rcases h29 with h31 | h32
    · obtain ⟨q36, k33, k34, k35⟩ := h31
      have q37 : r30 = (σ 85 (xs x18.toNatClampNeg).toNatClampNeg) := q36.trans rfl
      have q37 := q37.symm
      subst q37
      refine lv_pop hx hb dL_law_1052 rfl ?_
      refine lv_goto (tgt := 1357) hx hb dL_law_1053 (by decide) ?_
      obtain ⟨x38, ex38⟩ : ∃ y : Int32, y = x0 + 6 := ⟨_, rfl⟩
      have tx38 : x38.toInt = x0.toInt + 6 := (jadd ex38 rfl jz_6 (by omega) (by omega)).trans (by omega)
      refine lv_iinc (v := x38) (lv' := [(3, .int x38), (2, .ref (ad 55)), (1, .ref (ad 0)), (0, .ref b)]) hx hb dL_law_1357 hl (k := 0) rfl (by rw [ex38]; rfl) (by decide) rfl (fun ls hl => ?_)
      refine lv_goto (tgt := 18) hx hb dL_law_1360 (by decide) ?_
      exact ih x38 σ τ _ _ ls (by have h9 := tx38; omega) ⟨hI2, hI9, hI12, hI16, hI18, hI22, hI31, hI38, hI43, hI47, hI50, hI101, hI102, hI103, hI104, hI105, hI106, hI107, hI109, hI110, hI111, hI119, hs_jKept, hs_jBook, (by omega), (by omega), (by omega), hr0⟩ hP hS (lv_sub hl [0, 1, 2, 3] rfl)
    · obtain ⟨q40, k39⟩ := h32
      have q40 := q40.symm
      subst q40
      refine lv_pop hx hb dL_law_1052 rfl ?_
      refine lv_goto (tgt := 1357) hx hb dL_law_1053 (by decide) ?_
      obtain ⟨x41, ex41⟩ : ∃ y : Int32, y = x0 + 6 := ⟨_, rfl⟩
      have tx41 : x41.toInt = x0.toInt + 6 := (jadd ex41 rfl jz_6 (by omega) (by omega)).trans (by omega)
      refine lv_iinc (v := x41) (lv' := [(3, .int x41), (2, .ref (ad 55)), (1, .ref (ad 0)), (0, .ref b)]) hx hb dL_law_1357 hl (k := 0) rfl (by rw [ex41]; rfl) (by decide) rfl (fun ls hl => ?_)
      refine lv_goto (tgt := 18) hx hb dL_law_1360 (by decide) ?_
      exact ih x41 σ τ _ _ ls (by have h9 := tx41; omega) ⟨hI2, hI9, hI12, hI16, hI18, hI22, hI31, hI38, hI43, hI47, hI50, hI101, hI102, hI103, hI104, hI105, hI106, hI107, hI109, hI110, hI111, hI119, hs_jKept, hs_jBook, (by omega), (by omega), (by omega), hr0⟩ hP hS (lv_sub hl [0, 1, 2, 3] rfl)
  · obtain ⟨q43, k42⟩ := h23
    have q43 := q43.symm
    subst q43
    refine lv_pop hx hb dL_law_1042 rfl ?_
    refine lv_aload_n hx hb dL_law_1043 rfl (lv_at hl 1 rfl) ?_
    refine lv_aload_n hx hb dL_law_1044 rfl (lv_at hl 3 rfl) ?_
    refine lv_iload_n hx hb dL_law_1045 rfl (lv_at hl 0 rfl) ?_
    refine lv_iconst (v := 1) hx hb dL_law_1046 (by decide) ?_
    refine lv_iadd hx hb dL_law_1047 ?_
    refine jtopr ex18.symm ?_
    refine va_sld hx hb hX hbl hbA hS (jin tx18 (by omega) (by omega)) dL_law_1048 ?_
    refine jcallV (As := [.int (xs x18.toNatClampNeg)]) (rest := []) ⟨hx, hb, hml, hown, hts⟩ hK hP hA hS hZ (c_X12_trace l D cI cL ad zz hJ σ τ (xs x18.toNatClampNeg) ((xs x18.toNatClampNeg).toInt) rfl) cw_RL_136 (jc_55 cI cL ad σ τ) rfl ⟨Nat.le_of_ble_eq_true rfl, Nat.le_of_ble_eq_true rfl⟩ rfl rfl rfl hl.1 rfl (Nat.le_of_ble_eq_true rfl) dL_law_1049 ⟨Nat.le_of_ble_eq_true rfl, Nat.le_of_ble_eq_true rfl⟩ (fun r45 σ44 τ44 H locs h44 hP hS => ?_)
    obtain ⟨⟨rfl, rfl⟩, h44⟩ := h44
    rcases h44 with h46 | h47
    · obtain ⟨q51, k48, k49, k50⟩ := h46
      have q52 : r45 = (σ 85 (xs x18.toNatClampNeg).toNatClampNeg) := q51.trans rfl
      have q52 := q52.symm
      subst q52
      refine lv_pop hx hb dL_law_1052 rfl ?_
      refine lv_goto (tgt := 1357) hx hb dL_law_1053 (by decide) ?_
      obtain ⟨x53, ex53⟩ : ∃ y : Int32, y = x0 + 6 := ⟨_, rfl⟩
      have tx53 : x53.toInt = x0.toInt + 6 := (jadd ex53 rfl jz_6 (by omega) (by omega)).trans (by omega)
      refine lv_iinc (v := x53) (lv' := [(3, .int x53), (2, .ref (ad 55)), (1, .ref (ad 0)), (0, .ref b)]) hx hb dL_law_1357 hl (k := 0) rfl (by rw [ex53]; rfl) (by decide) rfl (fun ls hl => ?_)
      refine lv_goto (tgt := 18) hx hb dL_law_1360 (by decide) ?_
      exact ih x53 σ τ _ _ ls (by have h9 := tx53; omega) ⟨hI2, hI9, hI12, hI16, hI18, hI22, hI31, hI38, hI43, hI47, hI50, hI101, hI102, hI103, hI104, hI105, hI106, hI107, hI109, hI110, hI111, hI119, hs_jKept, hs_jBook, (by omega), (by omega), (by omega), hr0⟩ hP hS (lv_sub hl [0, 1, 2, 3] rfl)
    · obtain ⟨q55, k54⟩ := h47
      have q55 := q55.symm
      subst q55
      refine lv_pop hx hb dL_law_1052 rfl ?_
      refine lv_goto (tgt := 1357) hx hb dL_law_1053 (by decide) ?_
      obtain ⟨x56, ex56⟩ : ∃ y : Int32, y = x0 + 6 := ⟨_, rfl⟩
      have tx56 : x56.toInt = x0.toInt + 6 := (jadd ex56 rfl jz_6 (by omega) (by omega)).trans (by omega)
      refine lv_iinc (v := x56) (lv' := [(3, .int x56), (2, .ref (ad 55)), (1, .ref (ad 0)), (0, .ref b)]) hx hb dL_law_1357 hl (k := 0) rfl (by rw [ex56]; rfl) (by decide) rfl (fun ls hl => ?_)
      refine lv_goto (tgt := 18) hx hb dL_law_1360 (by decide) ?_
      exact ih x56 σ τ _ _ ls (by have h9 := tx56; omega) ⟨hI2, hI9, hI12, hI16, hI18, hI22, hI31, hI38, hI43, hI47, hI50, hI101, hI102, hI103, hI104, hI105, hI106, hI107, hI109, hI110, hI111, hI119, hs_jKept, hs_jBook, (by omega), (by omega), (by omega), hr0⟩ hP hS (lv_sub hl [0, 1, 2, 3] rfl)
set_option maxHeartbeats 4000000 in
set_option maxRecDepth 100000 in
theorem law_case_30 {p : Program} {e : Env} {s : State} {m : MethodId} {below : List Frame} {meth : Method} {c : Code} (l : Launch) {b L : Nat} {xs : Nat → Int32} {D : va_G} {cI cL : ClassId} {ad zz : Nat → Nat} (C0 : lw_At p s m meth c b L xs) (hJ : jD ad) (hA : ∀ q, jA ad q → s.heap.size ≤ q) (hK : jK D cI cL s) (hZ : jZ zz (fun q : Nat => s.heap.size ≤ q) s s.heap) {x0 : Int32} (hx0 : 0 ≤ x0.toInt) (hxL : x0.toInt + 6 ≤ (L : Int)) (hL : L ≤ 384) {σ : Nat → Nat → Int32} {τ : Nat → Nat → Int64} {H : Heap} {locs : List Loc} (hS : va_S (fun q : Nat => s.heap.size ≤ q) s.heap H locs) {ls : Array Slot} (hAll : jAll σ τ) (hP : jH D cI cL ad σ τ H) (hl : lv_has ls 4 [(3, .int x0), (2, .ref (ad 55)), (1, .ref (ad 0)), (0, .ref b)]) (ih : ∀ (x1 : Int32) (σ : Nat → Nat → Int32) (τ : Nat → Nat → Int64) (H : Heap) (locs : List Loc) (ls : Array Slot), x1.toInt = x0.toInt + 6 → jAll σ τ → jH D cI cL ad σ τ H → va_S (fun q : Nat => s.heap.size ≤ q) s.heap H locs → lv_has ls 4 [(3, .int x1), (2, .ref (ad 55)), (1, .ref (ad 0)), (0, .ref b)] → W p l e room_1 s m #[Value.ref b] below meth c H locs 90 348600 (lw_Z below #[Value.ref b] s) (F0 m 18 ls [])) : W p l e room_1 s m #[Value.ref b] below meth c H locs 90 348600 (lw_Z below #[Value.ref b] s) (F0 m 1056 ls []) := by
  obtain ⟨hx, hb, hr, hml, hown, hts0, hX, hbl, hlocks, hgv⟩ := C0
  have hts : ∀ w ∈ wsL_law, w.before #[Value.ref b] s = true := fun w h => hts0 w (wsL_law_in w h)
  have hbA : ¬ (fun q : Nat => s.heap.size ≤ q) b := Nat.not_le.mpr hbl
  have hown : s.vm.findClass RL = some m.cls := hown
  obtain ⟨hI2, hI9, hI12, hI16, hI18, hI22, hI31, hI38, hI43, hI47, hI50, hI101, hI102, hI103, hI104, hI105, hI106, hI107, hI109, hI110, hI111, hI119, hs_jKept, hs_jBook, ht0, ht1, ht2, hr0⟩ := hAll
  have hL9 : (L : Int) ≤ 384 := by omega
  obtain ⟨i1, i2, i3, i4, i5, w6⟩ : (0 ≤ (σ 2 0).toInt ∧ (σ 2 0).toInt ≤ 4) ∧ (0 ≤ (σ 2 1).toInt ∧ (σ 2 1).toInt ≤ 3) ∧ (0 ≤ (σ 2 2).toInt) ∧ (0 ≤ (σ 2 3).toInt) ∧ ((σ 2 2).toInt + (σ 2 3).toInt ≤ 40) ∧ (∀ k : Nat, k < 40 → 0 ≤ (σ 6 k).toInt ∧ (σ 6 k).toInt ≤ 67) := id hI2
  obtain ⟨i7, i8, i9, w10, w11, w12, w13⟩ : (0 ≤ (σ 55 5).toInt) ∧ ((σ 55 5).toInt ≤ (σ 55 4).toInt) ∧ ((σ 55 4).toInt ≤ 40) ∧ (∀ k : Nat, k < 68 → (-200) ≤ (σ 56 k).toInt ∧ (σ 56 k).toInt ≤ 500) ∧ (∀ k : Nat, k < 40 → 0 ≤ (σ 57 k).toInt ∧ (σ 57 k).toInt ≤ 67) ∧ (∀ k : Nat, k < 40 → (-200) ≤ (σ 58 k).toInt ∧ (σ 58 k).toInt ≤ 500) ∧ (∀ k : Nat, k < 40 → (-200) ≤ (σ 59 k).toInt ∧ (σ 59 k).toInt ≤ 500) := id hI101
  obtain ⟨i14, w15, w16⟩ : (0 ≤ (σ 55 6).toInt ∧ (σ 55 6).toInt ≤ 4) ∧ (∀ k : Nat, k < 4 → 0 ≤ (σ 60 k).toInt ∧ (σ 60 k).toInt ≤ 50) ∧ (∀ k : Nat, k < 4 → 0 ≤ (σ 61 k).toInt ∧ (σ 61 k).toInt ≤ 20) := id hI102
  refine lv_aload_n hx hb dL_law_1056 rfl (lv_at hl 2 rfl) ?_
  refine lv_aload_n hx hb dL_law_1057 rfl (lv_at hl 3 rfl) ?_
  refine lv_iload_n hx hb dL_law_1058 rfl (lv_at hl 0 rfl) ?_
  refine lv_iconst (v := 1) hx hb dL_law_1059 (by decide) ?_
  have g17 := jrg (rfl : x0.toInt = x0.toInt)
  refine lv_iadd hx hb dL_law_1060 ?_
  refine lv_topi (fun x18 ex18 => ?_)
  have tx18 : x18.toInt = x0.toInt + 1 := (jadd ex18 rfl jz_1 (by omega) (by omega)).trans (by omega)
  refine va_sld hx hb hX hbl hbA hS (jin tx18 (by omega) (by omega)) dL_law_1061 ?_
  have g19 := jrg (rfl : (xs x18.toNatClampNeg).toInt = (xs x18.toNatClampNeg).toInt)
  refine lv_aload_n hx hb dL_law_1062 rfl (lv_at hl 3 rfl) ?_
  refine lv_iload_n hx hb dL_law_1063 rfl (lv_at hl 0 rfl) ?_
  refine lv_iconst (v := 2) hx hb dL_law_1064 (by decide) ?_
  refine lv_iadd hx hb dL_law_1065 ?_
  refine lv_topi (fun x20 ex20 => ?_)
  have tx20 : x20.toInt = x0.toInt + 2 := (jadd ex20 rfl jz_2 (by omega) (by omega)).trans (by omega)
  refine va_sld hx hb hX hbl hbA hS (jin tx20 (by omega) (by omega)) dL_law_1066 ?_
  have g21 := jrg (rfl : (xs x20.toNatClampNeg).toInt = (xs x20.toNatClampNeg).toInt)
  refine jcallV (As := [.int (xs x18.toNatClampNeg), .int (xs x20.toNatClampNeg)]) (rest := []) ⟨hx, hb, hml, hown, hts⟩ hK hP hA hS hZ (c_X11_keep l D cI cL ad zz hJ σ τ (xs x18.toNatClampNeg) ((xs x18.toNatClampNeg).toInt) rfl (xs x20.toNatClampNeg) ((xs x20.toNatClampNeg).toInt) rfl hI38 hI50) cw_RL_137 (jc_0 cI cL ad σ τ) rfl ⟨Nat.le_of_ble_eq_true rfl, Nat.le_of_ble_eq_true rfl⟩ rfl rfl rfl hl.1 rfl (Nat.le_of_ble_eq_true rfl) dL_law_1067 ⟨Nat.le_of_ble_eq_true rfl, Nat.le_of_ble_eq_true rfl⟩ (fun r23 σ22 τ22 H locs h22 hP hS => ?_)
  obtain ⟨rfl, f24, I25, h22⟩ := h22
  rcases h22 with h27 | h28 | h29
  · obtain ⟨q33, k30, k31, k32⟩ := h27
    have q33 := q33.symm
    subst q33
    refine lv_pop hx hb dL_law_1070 rfl ?_
    refine lv_aload_n hx hb dL_law_1071 rfl (lv_at hl 1 rfl) ?_
    refine lv_aload_n hx hb dL_law_1072 rfl (lv_at hl 3 rfl) ?_
    refine lv_iload_n hx hb dL_law_1073 rfl (lv_at hl 0 rfl) ?_
    refine lv_iconst (v := 1) hx hb dL_law_1074 (by decide) ?_
    refine lv_iadd hx hb dL_law_1075 ?_
    refine jtopr ex18.symm ?_
    refine va_sld hx hb hX hbl hbA hS (jin tx18 (by omega) (by omega)) dL_law_1076 ?_
    refine lv_aload_n hx hb dL_law_1077 rfl (lv_at hl 3 rfl) ?_
    refine lv_iload_n hx hb dL_law_1078 rfl (lv_at hl 0 rfl) ?_
    refine lv_iconst (v := 2) hx hb dL_law_1079 (by decide) ?_
    refine lv_iadd hx hb dL_law_1080 ?_
    refine jtopr ex20.symm ?_
    refine va_sld hx hb hX hbl hbA hS (jin tx20 (by omega) (by omega)) dL_law_1081 ?_
    have I34 : jI106 σ22 := jI106_fr (congrFun (f24 55 (by decide)) 32) (f24 70 (by decide)) (f24 71 (by decide)) (f24 72 (by decide)) hI106
    have I35 : jI110 σ22 := jI110_fr (f24 86 (by decide)) (f24 87 (by decide)) hI110
    have z36 : (σ22 55 32).toInt = (σ 55 32).toInt := (congrArg Int32.toInt (show σ22 55 32 = (σ 55 32) from (congrFun (f24 55 (by decide)) 32)))
    refine jcallV (As := [.int (xs x18.toNatClampNeg), .int (xs x20.toNatClampNeg)]) (rest := []) ⟨hx, hb, hml, hown, hts⟩ hK hP hA hS hZ (c_X12_keep l D cI cL ad zz hJ σ22 τ (xs x18.toNatClampNeg) ((xs x18.toNatClampNeg).toInt) rfl (xs x20.toNatClampNeg) ((xs x20.toNatClampNeg).toInt) rfl I34 I35) cw_RL_140 (jc_55 cI cL ad σ22 τ) rfl ⟨Nat.le_of_ble_eq_true rfl, Nat.le_of_ble_eq_true rfl⟩ rfl rfl rfl hl.1 rfl (Nat.le_of_ble_eq_true rfl) dL_law_1082 ⟨Nat.le_of_ble_eq_true rfl, Nat.le_of_ble_eq_true rfl⟩ (fun r38 σ37 τ37 H locs h37 hP hS => ?_)
    obtain ⟨rfl, f39, I40, h37⟩ := h37
    rcases h37 with h42 | h43 | h44
    · obtain ⟨q48, k45, k46, k47⟩ := h42
      have q48 := q48.symm
      subst q48
      refine lv_pop hx hb dL_law_1085 rfl ?_
      refine lv_goto (tgt := 1357) hx hb dL_law_1086 (by decide) ?_
      obtain ⟨x49, ex49⟩ : ∃ y : Int32, y = x0 + 6 := ⟨_, rfl⟩
      have tx49 : x49.toInt = x0.toInt + 6 := (jadd ex49 rfl jz_6 (by omega) (by omega)).trans (by omega)
      refine lv_iinc (v := x49) (lv' := [(3, .int x49), (2, .ref (ad 55)), (1, .ref (ad 0)), (0, .ref b)]) hx hb dL_law_1357 hl (k := 0) rfl (by rw [ex49]; rfl) (by decide) rfl (fun ls hl => ?_)
      refine lv_goto (tgt := 18) hx hb dL_law_1360 (by decide) ?_
      have I50 : jI2 σ37 := jI2_fr ((congrFun (f39 2 (by decide)) 0).trans (congrFun (f24 2 (by decide)) 0)) ((congrFun (f39 2 (by decide)) 1).trans (congrFun (f24 2 (by decide)) 1)) ((congrFun (f39 2 (by decide)) 2).trans (congrFun (f24 2 (by decide)) 2)) ((congrFun (f39 2 (by decide)) 3).trans (congrFun (f24 2 (by decide)) 3)) ((f39 6 (by decide)).trans (f24 6 (by decide))) hI2
      have I51 : jI9 σ37 := jI9_fr ((congrFun (f39 9 (by decide)) 0).trans (congrFun (f24 9 (by decide)) 0)) ((f39 10 (by decide)).trans (f24 10 (by decide))) ((f39 11 (by decide)).trans (f24 11 (by decide))) hI9
      have I52 : jI12 σ37 := jI12_fr ((congrFun (f39 12 (by decide)) 0).trans (congrFun (f24 12 (by decide)) 0)) ((f39 13 (by decide)).trans (f24 13 (by decide))) hI12
      have I53 : jI16 σ37 := jI16_fr ((congrFun (f39 16 (by decide)) 0).trans (congrFun (f24 16 (by decide)) 0)) ((congrFun (f39 16 (by decide)) 1).trans (congrFun (f24 16 (by decide)) 1)) ((congrFun (f39 16 (by decide)) 2).trans (congrFun (f24 16 (by decide)) 2)) ((f39 17 (by decide)).trans (f24 17 (by decide))) hI16
      have I54 : jI18 σ37 := jI18_fr ((congrFun (f39 18 (by decide)) 0).trans (congrFun (f24 18 (by decide)) 0)) ((f39 19 (by decide)).trans (f24 19 (by decide))) hI18
      have I55 : jI22 σ37 := jI22_fr ((congrFun (f39 22 (by decide)) 0).trans (congrFun (f24 22 (by decide)) 0)) ((f39 23 (by decide)).trans (f24 23 (by decide))) hI22
      have I56 : jI31 σ37 := jI31_fr ((congrFun (f39 31 (by decide)) 8).trans (congrFun (f24 31 (by decide)) 8)) ((f39 33 (by decide)).trans (f24 33 (by decide))) ((f39 36 (by decide)).trans (f24 36 (by decide))) hI31
      have I57 : jI38 σ37 := jI38_fr ((congrFun (f39 38 (by decide)) 0).trans (congrFun (f24 38 (by decide)) 0)) ((congrFun (f39 38 (by decide)) 1).trans (congrFun (f24 38 (by decide)) 1)) ((f39 39 (by decide)).trans (f24 39 (by decide))) hI38
      have I58 : jI43 σ37 := jI43_fr ((congrFun (f39 43 (by decide)) 8).trans (congrFun (f24 43 (by decide)) 8)) hI43
      have I59 : jI47 σ37 := jI47_fr ((congrFun (f39 47 (by decide)) 0).trans (congrFun (f24 47 (by decide)) 0)) ((f39 48 (by decide)).trans (f24 48 (by decide))) ((f39 49 (by decide)).trans (f24 49 (by decide))) hI47
      have I60 : jI50 σ37 := jI50_fr (f39 52 (by decide)) I25
      have I61 : jI101 σ37 := jI101_fr ((congrFun (f39 55 (by decide)) 4).trans (congrFun (f24 55 (by decide)) 4)) ((congrFun (f39 55 (by decide)) 5).trans (congrFun (f24 55 (by decide)) 5)) ((f39 56 (by decide)).trans (f24 56 (by decide))) ((f39 57 (by decide)).trans (f24 57 (by decide))) ((f39 58 (by decide)).trans (f24 58 (by decide))) ((f39 59 (by decide)).trans (f24 59 (by decide))) hI101
      have I62 : jI102 σ37 := jI102_fr ((congrFun (f39 55 (by decide)) 6).trans (congrFun (f24 55 (by decide)) 6)) ((f39 60 (by decide)).trans (f24 60 (by decide))) ((f39 61 (by decide)).trans (f24 61 (by decide))) hI102
      have I63 : jI103 σ37 := jI103_fr ((congrFun (f39 55 (by decide)) 9).trans (congrFun (f24 55 (by decide)) 9)) hI103
      have I64 : jI104 σ37 := jI104_fr ((congrFun (f39 55 (by decide)) 10).trans (congrFun (f24 55 (by decide)) 10)) ((congrFun (f39 55 (by decide)) 12).trans (congrFun (f24 55 (by decide)) 12)) ((congrFun (f39 55 (by decide)) 13).trans (congrFun (f24 55 (by decide)) 13)) ((f39 62 (by decide)).trans (f24 62 (by decide))) ((f39 67 (by decide)).trans (f24 67 (by decide))) hI104
      have I65 : jI105 σ37 := jI105_fr ((congrFun (f39 55 (by decide)) 15).trans (congrFun (f24 55 (by decide)) 15)) ((f39 65 (by decide)).trans (f24 65 (by decide))) hI105
      have I66 : jI106 σ37 := jI106_fr (congrFun (f39 55 (by decide)) 32) (f39 70 (by decide)) (f39 71 (by decide)) (f39 72 (by decide)) I34
      have I67 : jI107 σ37 := jI107_fr ((congrFun (f39 55 (by decide)) 12).trans (congrFun (f24 55 (by decide)) 12)) ((congrFun (f39 55 (by decide)) 47).trans (congrFun (f24 55 (by decide)) 47)) ((f39 80 (by decide)).trans (f24 80 (by decide))) hI107
      have I68 : jI109 σ37 := jI109_fr ((congrFun (f39 55 (by decide)) 50).trans (congrFun (f24 55 (by decide)) 50)) hI109
      have I69 : jI111 σ37 := jI111_fr ((f39 79 (by decide)).trans (f24 79 (by decide))) hI111
      have I70 : jI119 σ37 := jI119_fr ((f39 68 (by decide)).trans (f24 68 (by decide))) hI119
      have p71 : jKept σ37 := jKept.fr ((f39 75 (by decide)).trans (f24 75 (by decide))) ((f39 76 (by decide)).trans (f24 76 (by decide))) ((f39 77 (by decide)).trans (f24 77 (by decide))) hs_jKept
      have p72 : jBook σ37 := jBook.fr ((congrFun (f39 55 (by decide)) 47).trans (congrFun (f24 55 (by decide)) 47)) ((congrFun (f39 55 (by decide)) 10).trans (congrFun (f24 55 (by decide)) 10)) ((f39 81 (by decide)).trans (f24 81 (by decide))) hs_jBook
      have z73 : (σ37 2 0).toInt = (σ 2 0).toInt := (congrArg Int32.toInt (show σ37 2 0 = (σ 2 0) from ((congrFun (f39 2 (by decide)) 0).trans (congrFun (f24 2 (by decide)) 0))))
      have z74 : (σ37 55 6).toInt = (σ 55 6).toInt := (congrArg Int32.toInt (show σ37 55 6 = (σ 55 6) from ((congrFun (f39 55 (by decide)) 6).trans (congrFun (f24 55 (by decide)) 6))))
      have z75 : (σ37 2 2).toInt = (σ 2 2).toInt := (congrArg Int32.toInt (show σ37 2 2 = (σ 2 2) from ((congrFun (f39 2 (by decide)) 2).trans (congrFun (f24 2 (by decide)) 2))))
      have z76 : (σ37 55 5).toInt = (σ 55 5).toInt := (congrArg Int32.toInt (show σ37 55 5 = (σ 55 5) from ((congrFun (f39 55 (by decide)) 5).trans (congrFun (f24 55 (by decide)) 5))))
      have z77 : (σ37 2 3).toInt = (σ 2 3).toInt := (congrArg Int32.toInt (show σ37 2 3 = (σ 2 3) from ((congrFun (f39 2 (by decide)) 3).trans (congrFun (f24 2 (by decide)) 3))))
      have z78 : (σ37 55 4).toInt = (σ 55 4).toInt := (congrArg Int32.toInt (show σ37 55 4 = (σ 55 4) from ((congrFun (f39 55 (by decide)) 4).trans (congrFun (f24 55 (by decide)) 4))))
      exact ih x49 σ37 τ _ _ ls (by have h9 := tx49; omega) ⟨I50, I51, I52, I53, I54, I55, I56, I57, I58, I59, I60, I61, I62, I63, I64, I65, I66, I67, I68, I40, I69, I70, p71, p72, (by omega), (by omega), (by omega), (show jNumP (σ37 3) (σ37 56) (σ37 6) (σ37 57) (σ37 7) (σ37 58) (σ37 8) (σ37 59) (σ37 55 6).toInt (σ37 55 4).toInt by rw [show σ37 3 = σ 3 from ((f39 3 (by decide)).trans (f24 3 (by decide))), show σ37 56 = σ 56 from ((f39 56 (by decide)).trans (f24 56 (by decide))), show σ37 6 = σ 6 from ((f39 6 (by decide)).trans (f24 6 (by decide))), show σ37 57 = σ 57 from ((f39 57 (by decide)).trans (f24 57 (by decide))), show σ37 7 = σ 7 from ((f39 7 (by decide)).trans (f24 7 (by decide))), show σ37 58 = σ 58 from ((f39 58 (by decide)).trans (f24 58 (by decide))), show σ37 8 = σ 8 from ((f39 8 (by decide)).trans (f24 8 (by decide))), show σ37 59 = σ 59 from ((f39 59 (by decide)).trans (f24 59 (by decide))), show (σ37 55 6).toInt = (σ 55 6).toInt from by omega, show (σ37 55 4).toInt = (σ 55 4).toInt from by omega]; exact hr0)⟩ hP hS (lv_sub hl [0, 1, 2, 3] rfl)
    · obtain ⟨q82, k79, k80, k81⟩ := h43
      exact absurd (by omega : False) id
    · obtain ⟨q85, k83, k84⟩ := h44
      exact absurd (by omega : False) id
  · obtain ⟨q89, k86, k87, k88⟩ := h28
    have q89 := q89.symm
    subst q89
    refine lv_pop hx hb dL_law_1070 rfl ?_
    refine lv_aload_n hx hb dL_law_1071 rfl (lv_at hl 1 rfl) ?_
    refine lv_aload_n hx hb dL_law_1072 rfl (lv_at hl 3 rfl) ?_
    refine lv_iload_n hx hb dL_law_1073 rfl (lv_at hl 0 rfl) ?_
    refine lv_iconst (v := 1) hx hb dL_law_1074 (by decide) ?_
    refine lv_iadd hx hb dL_law_1075 ?_
    refine jtopr ex18.symm ?_
    refine va_sld hx hb hX hbl hbA hS (jin tx18 (by omega) (by omega)) dL_law_1076 ?_
    refine lv_aload_n hx hb dL_law_1077 rfl (lv_at hl 3 rfl) ?_
    refine lv_iload_n hx hb dL_law_1078 rfl (lv_at hl 0 rfl) ?_
    refine lv_iconst (v := 2) hx hb dL_law_1079 (by decide) ?_
    refine lv_iadd hx hb dL_law_1080 ?_
    refine jtopr ex20.symm ?_
    refine va_sld hx hb hX hbl hbA hS (jin tx20 (by omega) (by omega)) dL_law_1081 ?_
    have I90 : jI106 σ22 := jI106_fr (congrFun (f24 55 (by decide)) 32) (f24 70 (by decide)) (f24 71 (by decide)) (f24 72 (by decide)) hI106
    have I91 : jI110 σ22 := jI110_fr (f24 86 (by decide)) (f24 87 (by decide)) hI110
    have z92 : (σ22 55 32).toInt = (σ 55 32).toInt := (congrArg Int32.toInt (show σ22 55 32 = (σ 55 32) from (congrFun (f24 55 (by decide)) 32)))
    refine jcallV (As := [.int (xs x18.toNatClampNeg), .int (xs x20.toNatClampNeg)]) (rest := []) ⟨hx, hb, hml, hown, hts⟩ hK hP hA hS hZ (c_X12_keep l D cI cL ad zz hJ σ22 τ (xs x18.toNatClampNeg) ((xs x18.toNatClampNeg).toInt) rfl (xs x20.toNatClampNeg) ((xs x20.toNatClampNeg).toInt) rfl I90 I91) cw_RL_140 (jc_55 cI cL ad σ22 τ) rfl ⟨Nat.le_of_ble_eq_true rfl, Nat.le_of_ble_eq_true rfl⟩ rfl rfl rfl hl.1 rfl (Nat.le_of_ble_eq_true rfl) dL_law_1082 ⟨Nat.le_of_ble_eq_true rfl, Nat.le_of_ble_eq_true rfl⟩ (fun r94 σ93 τ93 H locs h93 hP hS => ?_)
    obtain ⟨rfl, f95, I96, h93⟩ := h93
    rcases h93 with h98 | h99 | h100
    · obtain ⟨q104, k101, k102, k103⟩ := h98
      exact absurd (by omega : False) id
    · obtain ⟨q108, k105, k106, k107⟩ := h99
      have q108 := q108.symm
      subst q108
      refine lv_pop hx hb dL_law_1085 rfl ?_
      refine lv_goto (tgt := 1357) hx hb dL_law_1086 (by decide) ?_
      obtain ⟨x109, ex109⟩ : ∃ y : Int32, y = x0 + 6 := ⟨_, rfl⟩
      have tx109 : x109.toInt = x0.toInt + 6 := (jadd ex109 rfl jz_6 (by omega) (by omega)).trans (by omega)
      refine lv_iinc (v := x109) (lv' := [(3, .int x109), (2, .ref (ad 55)), (1, .ref (ad 0)), (0, .ref b)]) hx hb dL_law_1357 hl (k := 0) rfl (by rw [ex109]; rfl) (by decide) rfl (fun ls hl => ?_)
      refine lv_goto (tgt := 18) hx hb dL_law_1360 (by decide) ?_
      have I110 : jI2 σ93 := jI2_fr ((congrFun (f95 2 (by decide)) 0).trans (congrFun (f24 2 (by decide)) 0)) ((congrFun (f95 2 (by decide)) 1).trans (congrFun (f24 2 (by decide)) 1)) ((congrFun (f95 2 (by decide)) 2).trans (congrFun (f24 2 (by decide)) 2)) ((congrFun (f95 2 (by decide)) 3).trans (congrFun (f24 2 (by decide)) 3)) ((f95 6 (by decide)).trans (f24 6 (by decide))) hI2
      have I111 : jI9 σ93 := jI9_fr ((congrFun (f95 9 (by decide)) 0).trans (congrFun (f24 9 (by decide)) 0)) ((f95 10 (by decide)).trans (f24 10 (by decide))) ((f95 11 (by decide)).trans (f24 11 (by decide))) hI9
      have I112 : jI12 σ93 := jI12_fr ((congrFun (f95 12 (by decide)) 0).trans (congrFun (f24 12 (by decide)) 0)) ((f95 13 (by decide)).trans (f24 13 (by decide))) hI12
      have I113 : jI16 σ93 := jI16_fr ((congrFun (f95 16 (by decide)) 0).trans (congrFun (f24 16 (by decide)) 0)) ((congrFun (f95 16 (by decide)) 1).trans (congrFun (f24 16 (by decide)) 1)) ((congrFun (f95 16 (by decide)) 2).trans (congrFun (f24 16 (by decide)) 2)) ((f95 17 (by decide)).trans (f24 17 (by decide))) hI16
      have I114 : jI18 σ93 := jI18_fr ((congrFun (f95 18 (by decide)) 0).trans (congrFun (f24 18 (by decide)) 0)) ((f95 19 (by decide)).trans (f24 19 (by decide))) hI18
      have I115 : jI22 σ93 := jI22_fr ((congrFun (f95 22 (by decide)) 0).trans (congrFun (f24 22 (by decide)) 0)) ((f95 23 (by decide)).trans (f24 23 (by decide))) hI22
      have I116 : jI31 σ93 := jI31_fr ((congrFun (f95 31 (by decide)) 8).trans (congrFun (f24 31 (by decide)) 8)) ((f95 33 (by decide)).trans (f24 33 (by decide))) ((f95 36 (by decide)).trans (f24 36 (by decide))) hI31
      have I117 : jI38 σ93 := jI38_fr ((congrFun (f95 38 (by decide)) 0).trans (congrFun (f24 38 (by decide)) 0)) ((congrFun (f95 38 (by decide)) 1).trans (congrFun (f24 38 (by decide)) 1)) ((f95 39 (by decide)).trans (f24 39 (by decide))) hI38
      have I118 : jI43 σ93 := jI43_fr ((congrFun (f95 43 (by decide)) 8).trans (congrFun (f24 43 (by decide)) 8)) hI43
      have I119 : jI47 σ93 := jI47_fr ((congrFun (f95 47 (by decide)) 0).trans (congrFun (f24 47 (by decide)) 0)) ((f95 48 (by decide)).trans (f24 48 (by decide))) ((f95 49 (by decide)).trans (f24 49 (by decide))) hI47
      have I120 : jI50 σ93 := jI50_fr (f95 52 (by decide)) I25
      have I121 : jI101 σ93 := jI101_fr ((congrFun (f95 55 (by decide)) 4).trans (congrFun (f24 55 (by decide)) 4)) ((congrFun (f95 55 (by decide)) 5).trans (congrFun (f24 55 (by decide)) 5)) ((f95 56 (by decide)).trans (f24 56 (by decide))) ((f95 57 (by decide)).trans (f24 57 (by decide))) ((f95 58 (by decide)).trans (f24 58 (by decide))) ((f95 59 (by decide)).trans (f24 59 (by decide))) hI101
      have I122 : jI102 σ93 := jI102_fr ((congrFun (f95 55 (by decide)) 6).trans (congrFun (f24 55 (by decide)) 6)) ((f95 60 (by decide)).trans (f24 60 (by decide))) ((f95 61 (by decide)).trans (f24 61 (by decide))) hI102
      have I123 : jI103 σ93 := jI103_fr ((congrFun (f95 55 (by decide)) 9).trans (congrFun (f24 55 (by decide)) 9)) hI103
      have I124 : jI104 σ93 := jI104_fr ((congrFun (f95 55 (by decide)) 10).trans (congrFun (f24 55 (by decide)) 10)) ((congrFun (f95 55 (by decide)) 12).trans (congrFun (f24 55 (by decide)) 12)) ((congrFun (f95 55 (by decide)) 13).trans (congrFun (f24 55 (by decide)) 13)) ((f95 62 (by decide)).trans (f24 62 (by decide))) ((f95 67 (by decide)).trans (f24 67 (by decide))) hI104
      have I125 : jI105 σ93 := jI105_fr ((congrFun (f95 55 (by decide)) 15).trans (congrFun (f24 55 (by decide)) 15)) ((f95 65 (by decide)).trans (f24 65 (by decide))) hI105
      have I126 : jI106 σ93 := jI106_fr (congrFun (f95 55 (by decide)) 32) (f95 70 (by decide)) (f95 71 (by decide)) (f95 72 (by decide)) I90
      have I127 : jI107 σ93 := jI107_fr ((congrFun (f95 55 (by decide)) 12).trans (congrFun (f24 55 (by decide)) 12)) ((congrFun (f95 55 (by decide)) 47).trans (congrFun (f24 55 (by decide)) 47)) ((f95 80 (by decide)).trans (f24 80 (by decide))) hI107
      have I128 : jI109 σ93 := jI109_fr ((congrFun (f95 55 (by decide)) 50).trans (congrFun (f24 55 (by decide)) 50)) hI109
      have I129 : jI111 σ93 := jI111_fr ((f95 79 (by decide)).trans (f24 79 (by decide))) hI111
      have I130 : jI119 σ93 := jI119_fr ((f95 68 (by decide)).trans (f24 68 (by decide))) hI119
      have p131 : jKept σ93 := jKept.fr ((f95 75 (by decide)).trans (f24 75 (by decide))) ((f95 76 (by decide)).trans (f24 76 (by decide))) ((f95 77 (by decide)).trans (f24 77 (by decide))) hs_jKept
      have p132 : jBook σ93 := jBook.fr ((congrFun (f95 55 (by decide)) 47).trans (congrFun (f24 55 (by decide)) 47)) ((congrFun (f95 55 (by decide)) 10).trans (congrFun (f24 55 (by decide)) 10)) ((f95 81 (by decide)).trans (f24 81 (by decide))) hs_jBook
      have z133 : (σ93 2 0).toInt = (σ 2 0).toInt := (congrArg Int32.toInt (show σ93 2 0 = (σ 2 0) from ((congrFun (f95 2 (by decide)) 0).trans (congrFun (f24 2 (by decide)) 0))))
      have z134 : (σ93 55 6).toInt = (σ 55 6).toInt := (congrArg Int32.toInt (show σ93 55 6 = (σ 55 6) from ((congrFun (f95 55 (by decide)) 6).trans (congrFun (f24 55 (by decide)) 6))))
      have z135 : (σ93 2 2).toInt = (σ 2 2).toInt := (congrArg Int32.toInt (show σ93 2 2 = (σ 2 2) from ((congrFun (f95 2 (by decide)) 2).trans (congrFun (f24 2 (by decide)) 2))))
      have z136 : (σ93 55 5).toInt = (σ 55 5).toInt := (congrArg Int32.toInt (show σ93 55 5 = (σ 55 5) from ((congrFun (f95 55 (by decide)) 5).trans (congrFun (f24 55 (by decide)) 5))))
      have z137 : (σ93 2 3).toInt = (σ 2 3).toInt := (congrArg Int32.toInt (show σ93 2 3 = (σ 2 3) from ((congrFun (f95 2 (by decide)) 3).trans (congrFun (f24 2 (by decide)) 3))))
      have z138 : (σ93 55 4).toInt = (σ 55 4).toInt := (congrArg Int32.toInt (show σ93 55 4 = (σ 55 4) from ((congrFun (f95 55 (by decide)) 4).trans (congrFun (f24 55 (by decide)) 4))))
      exact ih x109 σ93 τ _ _ ls (by have h9 := tx109; omega) ⟨I110, I111, I112, I113, I114, I115, I116, I117, I118, I119, I120, I121, I122, I123, I124, I125, I126, I127, I128, I96, I129, I130, p131, p132, (by omega), (by omega), (by omega), (show jNumP (σ93 3) (σ93 56) (σ93 6) (σ93 57) (σ93 7) (σ93 58) (σ93 8) (σ93 59) (σ93 55 6).toInt (σ93 55 4).toInt by rw [show σ93 3 = σ 3 from ((f95 3 (by decide)).trans (f24 3 (by decide))), show σ93 56 = σ 56 from ((f95 56 (by decide)).trans (f24 56 (by decide))), show σ93 6 = σ 6 from ((f95 6 (by decide)).trans (f24 6 (by decide))), show σ93 57 = σ 57 from ((f95 57 (by decide)).trans (f24 57 (by decide))), show σ93 7 = σ 7 from ((f95 7 (by decide)).trans (f24 7 (by decide))), show σ93 58 = σ 58 from ((f95 58 (by decide)).trans (f24 58 (by decide))), show σ93 8 = σ 8 from ((f95 8 (by decide)).trans (f24 8 (by decide))), show σ93 59 = σ 59 from ((f95 59 (by decide)).trans (f24 59 (by decide))), show (σ93 55 6).toInt = (σ 55 6).toInt from by omega, show (σ93 55 4).toInt = (σ 55 4).toInt from by omega]; exact hr0)⟩ hP hS (lv_sub hl [0, 1, 2, 3] rfl)
    · obtain ⟨q141, k139, k140⟩ := h100
      have q141 := q141.symm
      subst q141
      refine lv_pop hx hb dL_law_1085 rfl ?_
      refine lv_goto (tgt := 1357) hx hb dL_law_1086 (by decide) ?_
      obtain ⟨x142, ex142⟩ : ∃ y : Int32, y = x0 + 6 := ⟨_, rfl⟩
      have tx142 : x142.toInt = x0.toInt + 6 := (jadd ex142 rfl jz_6 (by omega) (by omega)).trans (by omega)
      refine lv_iinc (v := x142) (lv' := [(3, .int x142), (2, .ref (ad 55)), (1, .ref (ad 0)), (0, .ref b)]) hx hb dL_law_1357 hl (k := 0) rfl (by rw [ex142]; rfl) (by decide) rfl (fun ls hl => ?_)
      refine lv_goto (tgt := 18) hx hb dL_law_1360 (by decide) ?_
      have I143 : jI2 σ93 := jI2_fr ((congrFun (f95 2 (by decide)) 0).trans (congrFun (f24 2 (by decide)) 0)) ((congrFun (f95 2 (by decide)) 1).trans (congrFun (f24 2 (by decide)) 1)) ((congrFun (f95 2 (by decide)) 2).trans (congrFun (f24 2 (by decide)) 2)) ((congrFun (f95 2 (by decide)) 3).trans (congrFun (f24 2 (by decide)) 3)) ((f95 6 (by decide)).trans (f24 6 (by decide))) hI2
      have I144 : jI9 σ93 := jI9_fr ((congrFun (f95 9 (by decide)) 0).trans (congrFun (f24 9 (by decide)) 0)) ((f95 10 (by decide)).trans (f24 10 (by decide))) ((f95 11 (by decide)).trans (f24 11 (by decide))) hI9
      have I145 : jI12 σ93 := jI12_fr ((congrFun (f95 12 (by decide)) 0).trans (congrFun (f24 12 (by decide)) 0)) ((f95 13 (by decide)).trans (f24 13 (by decide))) hI12
      have I146 : jI16 σ93 := jI16_fr ((congrFun (f95 16 (by decide)) 0).trans (congrFun (f24 16 (by decide)) 0)) ((congrFun (f95 16 (by decide)) 1).trans (congrFun (f24 16 (by decide)) 1)) ((congrFun (f95 16 (by decide)) 2).trans (congrFun (f24 16 (by decide)) 2)) ((f95 17 (by decide)).trans (f24 17 (by decide))) hI16
      have I147 : jI18 σ93 := jI18_fr ((congrFun (f95 18 (by decide)) 0).trans (congrFun (f24 18 (by decide)) 0)) ((f95 19 (by decide)).trans (f24 19 (by decide))) hI18
      have I148 : jI22 σ93 := jI22_fr ((congrFun (f95 22 (by decide)) 0).trans (congrFun (f24 22 (by decide)) 0)) ((f95 23 (by decide)).trans (f24 23 (by decide))) hI22
      have I149 : jI31 σ93 := jI31_fr ((congrFun (f95 31 (by decide)) 8).trans (congrFun (f24 31 (by decide)) 8)) ((f95 33 (by decide)).trans (f24 33 (by decide))) ((f95 36 (by decide)).trans (f24 36 (by decide))) hI31
      have I150 : jI38 σ93 := jI38_fr ((congrFun (f95 38 (by decide)) 0).trans (congrFun (f24 38 (by decide)) 0)) ((congrFun (f95 38 (by decide)) 1).trans (congrFun (f24 38 (by decide)) 1)) ((f95 39 (by decide)).trans (f24 39 (by decide))) hI38
      have I151 : jI43 σ93 := jI43_fr ((congrFun (f95 43 (by decide)) 8).trans (congrFun (f24 43 (by decide)) 8)) hI43
      have I152 : jI47 σ93 := jI47_fr ((congrFun (f95 47 (by decide)) 0).trans (congrFun (f24 47 (by decide)) 0)) ((f95 48 (by decide)).trans (f24 48 (by decide))) ((f95 49 (by decide)).trans (f24 49 (by decide))) hI47
      have I153 : jI50 σ93 := jI50_fr (f95 52 (by decide)) I25
      have I154 : jI101 σ93 := jI101_fr ((congrFun (f95 55 (by decide)) 4).trans (congrFun (f24 55 (by decide)) 4)) ((congrFun (f95 55 (by decide)) 5).trans (congrFun (f24 55 (by decide)) 5)) ((f95 56 (by decide)).trans (f24 56 (by decide))) ((f95 57 (by decide)).trans (f24 57 (by decide))) ((f95 58 (by decide)).trans (f24 58 (by decide))) ((f95 59 (by decide)).trans (f24 59 (by decide))) hI101
      have I155 : jI102 σ93 := jI102_fr ((congrFun (f95 55 (by decide)) 6).trans (congrFun (f24 55 (by decide)) 6)) ((f95 60 (by decide)).trans (f24 60 (by decide))) ((f95 61 (by decide)).trans (f24 61 (by decide))) hI102
      have I156 : jI103 σ93 := jI103_fr ((congrFun (f95 55 (by decide)) 9).trans (congrFun (f24 55 (by decide)) 9)) hI103
      have I157 : jI104 σ93 := jI104_fr ((congrFun (f95 55 (by decide)) 10).trans (congrFun (f24 55 (by decide)) 10)) ((congrFun (f95 55 (by decide)) 12).trans (congrFun (f24 55 (by decide)) 12)) ((congrFun (f95 55 (by decide)) 13).trans (congrFun (f24 55 (by decide)) 13)) ((f95 62 (by decide)).trans (f24 62 (by decide))) ((f95 67 (by decide)).trans (f24 67 (by decide))) hI104
      have I158 : jI105 σ93 := jI105_fr ((congrFun (f95 55 (by decide)) 15).trans (congrFun (f24 55 (by decide)) 15)) ((f95 65 (by decide)).trans (f24 65 (by decide))) hI105
      have I159 : jI106 σ93 := jI106_fr (congrFun (f95 55 (by decide)) 32) (f95 70 (by decide)) (f95 71 (by decide)) (f95 72 (by decide)) I90
      have I160 : jI107 σ93 := jI107_fr ((congrFun (f95 55 (by decide)) 12).trans (congrFun (f24 55 (by decide)) 12)) ((congrFun (f95 55 (by decide)) 47).trans (congrFun (f24 55 (by decide)) 47)) ((f95 80 (by decide)).trans (f24 80 (by decide))) hI107
      have I161 : jI109 σ93 := jI109_fr ((congrFun (f95 55 (by decide)) 50).trans (congrFun (f24 55 (by decide)) 50)) hI109
      have I162 : jI111 σ93 := jI111_fr ((f95 79 (by decide)).trans (f24 79 (by decide))) hI111
      have I163 : jI119 σ93 := jI119_fr ((f95 68 (by decide)).trans (f24 68 (by decide))) hI119
      have p164 : jKept σ93 := jKept.fr ((f95 75 (by decide)).trans (f24 75 (by decide))) ((f95 76 (by decide)).trans (f24 76 (by decide))) ((f95 77 (by decide)).trans (f24 77 (by decide))) hs_jKept
      have p165 : jBook σ93 := jBook.fr ((congrFun (f95 55 (by decide)) 47).trans (congrFun (f24 55 (by decide)) 47)) ((congrFun (f95 55 (by decide)) 10).trans (congrFun (f24 55 (by decide)) 10)) ((f95 81 (by decide)).trans (f24 81 (by decide))) hs_jBook
      have z166 : (σ93 2 0).toInt = (σ 2 0).toInt := (congrArg Int32.toInt (show σ93 2 0 = (σ 2 0) from ((congrFun (f95 2 (by decide)) 0).trans (congrFun (f24 2 (by decide)) 0))))
      have z167 : (σ93 55 6).toInt = (σ 55 6).toInt := (congrArg Int32.toInt (show σ93 55 6 = (σ 55 6) from ((congrFun (f95 55 (by decide)) 6).trans (congrFun (f24 55 (by decide)) 6))))
      have z168 : (σ93 2 2).toInt = (σ 2 2).toInt := (congrArg Int32.toInt (show σ93 2 2 = (σ 2 2) from ((congrFun (f95 2 (by decide)) 2).trans (congrFun (f24 2 (by decide)) 2))))
      have z169 : (σ93 55 5).toInt = (σ 55 5).toInt := (congrArg Int32.toInt (show σ93 55 5 = (σ 55 5) from ((congrFun (f95 55 (by decide)) 5).trans (congrFun (f24 55 (by decide)) 5))))
      have z170 : (σ93 2 3).toInt = (σ 2 3).toInt := (congrArg Int32.toInt (show σ93 2 3 = (σ 2 3) from ((congrFun (f95 2 (by decide)) 3).trans (congrFun (f24 2 (by decide)) 3))))
      have z171 : (σ93 55 4).toInt = (σ 55 4).toInt := (congrArg Int32.toInt (show σ93 55 4 = (σ 55 4) from ((congrFun (f95 55 (by decide)) 4).trans (congrFun (f24 55 (by decide)) 4))))
      exact ih x142 σ93 τ _ _ ls (by have h9 := tx142; omega) ⟨I143, I144, I145, I146, I147, I148, I149, I150, I151, I152, I153, I154, I155, I156, I157, I158, I159, I160, I161, I96, I162, I163, p164, p165, (by omega), (by omega), (by omega), (show jNumP (σ93 3) (σ93 56) (σ93 6) (σ93 57) (σ93 7) (σ93 58) (σ93 8) (σ93 59) (σ93 55 6).toInt (σ93 55 4).toInt by rw [show σ93 3 = σ 3 from ((f95 3 (by decide)).trans (f24 3 (by decide))), show σ93 56 = σ 56 from ((f95 56 (by decide)).trans (f24 56 (by decide))), show σ93 6 = σ 6 from ((f95 6 (by decide)).trans (f24 6 (by decide))), show σ93 57 = σ 57 from ((f95 57 (by decide)).trans (f24 57 (by decide))), show σ93 7 = σ 7 from ((f95 7 (by decide)).trans (f24 7 (by decide))), show σ93 58 = σ 58 from ((f95 58 (by decide)).trans (f24 58 (by decide))), show σ93 8 = σ 8 from ((f95 8 (by decide)).trans (f24 8 (by decide))), show σ93 59 = σ 59 from ((f95 59 (by decide)).trans (f24 59 (by decide))), show (σ93 55 6).toInt = (σ 55 6).toInt from by omega, show (σ93 55 4).toInt = (σ 55 4).toInt from by omega]; exact hr0)⟩ hP hS (lv_sub hl [0, 1, 2, 3] rfl)
  · obtain ⟨q174, k172, k173⟩ := h29
    have q174 := q174.symm
    subst q174
    refine lv_pop hx hb dL_law_1070 rfl ?_
    refine lv_aload_n hx hb dL_law_1071 rfl (lv_at hl 1 rfl) ?_
    refine lv_aload_n hx hb dL_law_1072 rfl (lv_at hl 3 rfl) ?_
    refine lv_iload_n hx hb dL_law_1073 rfl (lv_at hl 0 rfl) ?_
    refine lv_iconst (v := 1) hx hb dL_law_1074 (by decide) ?_
    refine lv_iadd hx hb dL_law_1075 ?_
    refine jtopr ex18.symm ?_
    refine va_sld hx hb hX hbl hbA hS (jin tx18 (by omega) (by omega)) dL_law_1076 ?_
    refine lv_aload_n hx hb dL_law_1077 rfl (lv_at hl 3 rfl) ?_
    refine lv_iload_n hx hb dL_law_1078 rfl (lv_at hl 0 rfl) ?_
    refine lv_iconst (v := 2) hx hb dL_law_1079 (by decide) ?_
    refine lv_iadd hx hb dL_law_1080 ?_
    refine jtopr ex20.symm ?_
    refine va_sld hx hb hX hbl hbA hS (jin tx20 (by omega) (by omega)) dL_law_1081 ?_
    have I175 : jI106 σ22 := jI106_fr (congrFun (f24 55 (by decide)) 32) (f24 70 (by decide)) (f24 71 (by decide)) (f24 72 (by decide)) hI106
    have I176 : jI110 σ22 := jI110_fr (f24 86 (by decide)) (f24 87 (by decide)) hI110
    have z177 : (σ22 55 32).toInt = (σ 55 32).toInt := (congrArg Int32.toInt (show σ22 55 32 = (σ 55 32) from (congrFun (f24 55 (by decide)) 32)))
    refine jcallV (As := [.int (xs x18.toNatClampNeg), .int (xs x20.toNatClampNeg)]) (rest := []) ⟨hx, hb, hml, hown, hts⟩ hK hP hA hS hZ (c_X12_keep l D cI cL ad zz hJ σ22 τ (xs x18.toNatClampNeg) ((xs x18.toNatClampNeg).toInt) rfl (xs x20.toNatClampNeg) ((xs x20.toNatClampNeg).toInt) rfl I175 I176) cw_RL_140 (jc_55 cI cL ad σ22 τ) rfl ⟨Nat.le_of_ble_eq_true rfl, Nat.le_of_ble_eq_true rfl⟩ rfl rfl rfl hl.1 rfl (Nat.le_of_ble_eq_true rfl) dL_law_1082 ⟨Nat.le_of_ble_eq_true rfl, Nat.le_of_ble_eq_true rfl⟩ (fun r179 σ178 τ178 H locs h178 hP hS => ?_)
    obtain ⟨rfl, f180, I181, h178⟩ := h178
    rcases h178 with h183 | h184 | h185
    · obtain ⟨q189, k186, k187, k188⟩ := h183
      exact absurd (by omega : False) id
    · obtain ⟨q193, k190, k191, k192⟩ := h184
      have q193 := q193.symm
      subst q193
      refine lv_pop hx hb dL_law_1085 rfl ?_
      refine lv_goto (tgt := 1357) hx hb dL_law_1086 (by decide) ?_
      obtain ⟨x194, ex194⟩ : ∃ y : Int32, y = x0 + 6 := ⟨_, rfl⟩
      have tx194 : x194.toInt = x0.toInt + 6 := (jadd ex194 rfl jz_6 (by omega) (by omega)).trans (by omega)
      refine lv_iinc (v := x194) (lv' := [(3, .int x194), (2, .ref (ad 55)), (1, .ref (ad 0)), (0, .ref b)]) hx hb dL_law_1357 hl (k := 0) rfl (by rw [ex194]; rfl) (by decide) rfl (fun ls hl => ?_)
      refine lv_goto (tgt := 18) hx hb dL_law_1360 (by decide) ?_
      have I195 : jI2 σ178 := jI2_fr ((congrFun (f180 2 (by decide)) 0).trans (congrFun (f24 2 (by decide)) 0)) ((congrFun (f180 2 (by decide)) 1).trans (congrFun (f24 2 (by decide)) 1)) ((congrFun (f180 2 (by decide)) 2).trans (congrFun (f24 2 (by decide)) 2)) ((congrFun (f180 2 (by decide)) 3).trans (congrFun (f24 2 (by decide)) 3)) ((f180 6 (by decide)).trans (f24 6 (by decide))) hI2
      have I196 : jI9 σ178 := jI9_fr ((congrFun (f180 9 (by decide)) 0).trans (congrFun (f24 9 (by decide)) 0)) ((f180 10 (by decide)).trans (f24 10 (by decide))) ((f180 11 (by decide)).trans (f24 11 (by decide))) hI9
      have I197 : jI12 σ178 := jI12_fr ((congrFun (f180 12 (by decide)) 0).trans (congrFun (f24 12 (by decide)) 0)) ((f180 13 (by decide)).trans (f24 13 (by decide))) hI12
      have I198 : jI16 σ178 := jI16_fr ((congrFun (f180 16 (by decide)) 0).trans (congrFun (f24 16 (by decide)) 0)) ((congrFun (f180 16 (by decide)) 1).trans (congrFun (f24 16 (by decide)) 1)) ((congrFun (f180 16 (by decide)) 2).trans (congrFun (f24 16 (by decide)) 2)) ((f180 17 (by decide)).trans (f24 17 (by decide))) hI16
      have I199 : jI18 σ178 := jI18_fr ((congrFun (f180 18 (by decide)) 0).trans (congrFun (f24 18 (by decide)) 0)) ((f180 19 (by decide)).trans (f24 19 (by decide))) hI18
      have I200 : jI22 σ178 := jI22_fr ((congrFun (f180 22 (by decide)) 0).trans (congrFun (f24 22 (by decide)) 0)) ((f180 23 (by decide)).trans (f24 23 (by decide))) hI22
      have I201 : jI31 σ178 := jI31_fr ((congrFun (f180 31 (by decide)) 8).trans (congrFun (f24 31 (by decide)) 8)) ((f180 33 (by decide)).trans (f24 33 (by decide))) ((f180 36 (by decide)).trans (f24 36 (by decide))) hI31
      have I202 : jI38 σ178 := jI38_fr ((congrFun (f180 38 (by decide)) 0).trans (congrFun (f24 38 (by decide)) 0)) ((congrFun (f180 38 (by decide)) 1).trans (congrFun (f24 38 (by decide)) 1)) ((f180 39 (by decide)).trans (f24 39 (by decide))) hI38
      have I203 : jI43 σ178 := jI43_fr ((congrFun (f180 43 (by decide)) 8).trans (congrFun (f24 43 (by decide)) 8)) hI43
      have I204 : jI47 σ178 := jI47_fr ((congrFun (f180 47 (by decide)) 0).trans (congrFun (f24 47 (by decide)) 0)) ((f180 48 (by decide)).trans (f24 48 (by decide))) ((f180 49 (by decide)).trans (f24 49 (by decide))) hI47
      have I205 : jI50 σ178 := jI50_fr (f180 52 (by decide)) I25
      have I206 : jI101 σ178 := jI101_fr ((congrFun (f180 55 (by decide)) 4).trans (congrFun (f24 55 (by decide)) 4)) ((congrFun (f180 55 (by decide)) 5).trans (congrFun (f24 55 (by decide)) 5)) ((f180 56 (by decide)).trans (f24 56 (by decide))) ((f180 57 (by decide)).trans (f24 57 (by decide))) ((f180 58 (by decide)).trans (f24 58 (by decide))) ((f180 59 (by decide)).trans (f24 59 (by decide))) hI101
      have I207 : jI102 σ178 := jI102_fr ((congrFun (f180 55 (by decide)) 6).trans (congrFun (f24 55 (by decide)) 6)) ((f180 60 (by decide)).trans (f24 60 (by decide))) ((f180 61 (by decide)).trans (f24 61 (by decide))) hI102
      have I208 : jI103 σ178 := jI103_fr ((congrFun (f180 55 (by decide)) 9).trans (congrFun (f24 55 (by decide)) 9)) hI103
      have I209 : jI104 σ178 := jI104_fr ((congrFun (f180 55 (by decide)) 10).trans (congrFun (f24 55 (by decide)) 10)) ((congrFun (f180 55 (by decide)) 12).trans (congrFun (f24 55 (by decide)) 12)) ((congrFun (f180 55 (by decide)) 13).trans (congrFun (f24 55 (by decide)) 13)) ((f180 62 (by decide)).trans (f24 62 (by decide))) ((f180 67 (by decide)).trans (f24 67 (by decide))) hI104
      have I210 : jI105 σ178 := jI105_fr ((congrFun (f180 55 (by decide)) 15).trans (congrFun (f24 55 (by decide)) 15)) ((f180 65 (by decide)).trans (f24 65 (by decide))) hI105
      have I211 : jI106 σ178 := jI106_fr (congrFun (f180 55 (by decide)) 32) (f180 70 (by decide)) (f180 71 (by decide)) (f180 72 (by decide)) I175
      have I212 : jI107 σ178 := jI107_fr ((congrFun (f180 55 (by decide)) 12).trans (congrFun (f24 55 (by decide)) 12)) ((congrFun (f180 55 (by decide)) 47).trans (congrFun (f24 55 (by decide)) 47)) ((f180 80 (by decide)).trans (f24 80 (by decide))) hI107
      have I213 : jI109 σ178 := jI109_fr ((congrFun (f180 55 (by decide)) 50).trans (congrFun (f24 55 (by decide)) 50)) hI109
      have I214 : jI111 σ178 := jI111_fr ((f180 79 (by decide)).trans (f24 79 (by decide))) hI111
      have I215 : jI119 σ178 := jI119_fr ((f180 68 (by decide)).trans (f24 68 (by decide))) hI119
      have p216 : jKept σ178 := jKept.fr ((f180 75 (by decide)).trans (f24 75 (by decide))) ((f180 76 (by decide)).trans (f24 76 (by decide))) ((f180 77 (by decide)).trans (f24 77 (by decide))) hs_jKept
      have p217 : jBook σ178 := jBook.fr ((congrFun (f180 55 (by decide)) 47).trans (congrFun (f24 55 (by decide)) 47)) ((congrFun (f180 55 (by decide)) 10).trans (congrFun (f24 55 (by decide)) 10)) ((f180 81 (by decide)).trans (f24 81 (by decide))) hs_jBook
      have z218 : (σ178 2 0).toInt = (σ 2 0).toInt := (congrArg Int32.toInt (show σ178 2 0 = (σ 2 0) from ((congrFun (f180 2 (by decide)) 0).trans (congrFun (f24 2 (by decide)) 0))))
      have z219 : (σ178 55 6).toInt = (σ 55 6).toInt := (congrArg Int32.toInt (show σ178 55 6 = (σ 55 6) from ((congrFun (f180 55 (by decide)) 6).trans (congrFun (f24 55 (by decide)) 6))))
      have z220 : (σ178 2 2).toInt = (σ 2 2).toInt := (congrArg Int32.toInt (show σ178 2 2 = (σ 2 2) from ((congrFun (f180 2 (by decide)) 2).trans (congrFun (f24 2 (by decide)) 2))))
      have z221 : (σ178 55 5).toInt = (σ 55 5).toInt := (congrArg Int32.toInt (show σ178 55 5 = (σ 55 5) from ((congrFun (f180 55 (by decide)) 5).trans (congrFun (f24 55 (by decide)) 5))))
      have z222 : (σ178 2 3).toInt = (σ 2 3).toInt := (congrArg Int32.toInt (show σ178 2 3 = (σ 2 3) from ((congrFun (f180 2 (by decide)) 3).trans (congrFun (f24 2 (by decide)) 3))))
      have z223 : (σ178 55 4).toInt = (σ 55 4).toInt := (congrArg Int32.toInt (show σ178 55 4 = (σ 55 4) from ((congrFun (f180 55 (by decide)) 4).trans (congrFun (f24 55 (by decide)) 4))))
      exact ih x194 σ178 τ _ _ ls (by have h9 := tx194; omega) ⟨I195, I196, I197, I198, I199, I200, I201, I202, I203, I204, I205, I206, I207, I208, I209, I210, I211, I212, I213, I181, I214, I215, p216, p217, (by omega), (by omega), (by omega), (show jNumP (σ178 3) (σ178 56) (σ178 6) (σ178 57) (σ178 7) (σ178 58) (σ178 8) (σ178 59) (σ178 55 6).toInt (σ178 55 4).toInt by rw [show σ178 3 = σ 3 from ((f180 3 (by decide)).trans (f24 3 (by decide))), show σ178 56 = σ 56 from ((f180 56 (by decide)).trans (f24 56 (by decide))), show σ178 6 = σ 6 from ((f180 6 (by decide)).trans (f24 6 (by decide))), show σ178 57 = σ 57 from ((f180 57 (by decide)).trans (f24 57 (by decide))), show σ178 7 = σ 7 from ((f180 7 (by decide)).trans (f24 7 (by decide))), show σ178 58 = σ 58 from ((f180 58 (by decide)).trans (f24 58 (by decide))), show σ178 8 = σ 8 from ((f180 8 (by decide)).trans (f24 8 (by decide))), show σ178 59 = σ 59 from ((f180 59 (by decide)).trans (f24 59 (by decide))), show (σ178 55 6).toInt = (σ 55 6).toInt from by omega, show (σ178 55 4).toInt = (σ 55 4).toInt from by omega]; exact hr0)⟩ hP hS (lv_sub hl [0, 1, 2, 3] rfl)
    · obtain ⟨q226, k224, k225⟩ := h185
      have q226 := q226.symm
      subst q226
      refine lv_pop hx hb dL_law_1085 rfl ?_
      refine lv_goto (tgt := 1357) hx hb dL_law_1086 (by decide) ?_
      obtain ⟨x227, ex227⟩ : ∃ y : Int32, y = x0 + 6 := ⟨_, rfl⟩
      have tx227 : x227.toInt = x0.toInt + 6 := (jadd ex227 rfl jz_6 (by omega) (by omega)).trans (by omega)
      refine lv_iinc (v := x227) (lv' := [(3, .int x227), (2, .ref (ad 55)), (1, .ref (ad 0)), (0, .ref b)]) hx hb dL_law_1357 hl (k := 0) rfl (by rw [ex227]; rfl) (by decide) rfl (fun ls hl => ?_)
      refine lv_goto (tgt := 18) hx hb dL_law_1360 (by decide) ?_
      have I228 : jI2 σ178 := jI2_fr ((congrFun (f180 2 (by decide)) 0).trans (congrFun (f24 2 (by decide)) 0)) ((congrFun (f180 2 (by decide)) 1).trans (congrFun (f24 2 (by decide)) 1)) ((congrFun (f180 2 (by decide)) 2).trans (congrFun (f24 2 (by decide)) 2)) ((congrFun (f180 2 (by decide)) 3).trans (congrFun (f24 2 (by decide)) 3)) ((f180 6 (by decide)).trans (f24 6 (by decide))) hI2
      have I229 : jI9 σ178 := jI9_fr ((congrFun (f180 9 (by decide)) 0).trans (congrFun (f24 9 (by decide)) 0)) ((f180 10 (by decide)).trans (f24 10 (by decide))) ((f180 11 (by decide)).trans (f24 11 (by decide))) hI9
      have I230 : jI12 σ178 := jI12_fr ((congrFun (f180 12 (by decide)) 0).trans (congrFun (f24 12 (by decide)) 0)) ((f180 13 (by decide)).trans (f24 13 (by decide))) hI12
      have I231 : jI16 σ178 := jI16_fr ((congrFun (f180 16 (by decide)) 0).trans (congrFun (f24 16 (by decide)) 0)) ((congrFun (f180 16 (by decide)) 1).trans (congrFun (f24 16 (by decide)) 1)) ((congrFun (f180 16 (by decide)) 2).trans (congrFun (f24 16 (by decide)) 2)) ((f180 17 (by decide)).trans (f24 17 (by decide))) hI16
      have I232 : jI18 σ178 := jI18_fr ((congrFun (f180 18 (by decide)) 0).trans (congrFun (f24 18 (by decide)) 0)) ((f180 19 (by decide)).trans (f24 19 (by decide))) hI18
      have I233 : jI22 σ178 := jI22_fr ((congrFun (f180 22 (by decide)) 0).trans (congrFun (f24 22 (by decide)) 0)) ((f180 23 (by decide)).trans (f24 23 (by decide))) hI22
      have I234 : jI31 σ178 := jI31_fr ((congrFun (f180 31 (by decide)) 8).trans (congrFun (f24 31 (by decide)) 8)) ((f180 33 (by decide)).trans (f24 33 (by decide))) ((f180 36 (by decide)).trans (f24 36 (by decide))) hI31
      have I235 : jI38 σ178 := jI38_fr ((congrFun (f180 38 (by decide)) 0).trans (congrFun (f24 38 (by decide)) 0)) ((congrFun (f180 38 (by decide)) 1).trans (congrFun (f24 38 (by decide)) 1)) ((f180 39 (by decide)).trans (f24 39 (by decide))) hI38
      have I236 : jI43 σ178 := jI43_fr ((congrFun (f180 43 (by decide)) 8).trans (congrFun (f24 43 (by decide)) 8)) hI43
      have I237 : jI47 σ178 := jI47_fr ((congrFun (f180 47 (by decide)) 0).trans (congrFun (f24 47 (by decide)) 0)) ((f180 48 (by decide)).trans (f24 48 (by decide))) ((f180 49 (by decide)).trans (f24 49 (by decide))) hI47
      have I238 : jI50 σ178 := jI50_fr (f180 52 (by decide)) I25
      have I239 : jI101 σ178 := jI101_fr ((congrFun (f180 55 (by decide)) 4).trans (congrFun (f24 55 (by decide)) 4)) ((congrFun (f180 55 (by decide)) 5).trans (congrFun (f24 55 (by decide)) 5)) ((f180 56 (by decide)).trans (f24 56 (by decide))) ((f180 57 (by decide)).trans (f24 57 (by decide))) ((f180 58 (by decide)).trans (f24 58 (by decide))) ((f180 59 (by decide)).trans (f24 59 (by decide))) hI101
      have I240 : jI102 σ178 := jI102_fr ((congrFun (f180 55 (by decide)) 6).trans (congrFun (f24 55 (by decide)) 6)) ((f180 60 (by decide)).trans (f24 60 (by decide))) ((f180 61 (by decide)).trans (f24 61 (by decide))) hI102
      have I241 : jI103 σ178 := jI103_fr ((congrFun (f180 55 (by decide)) 9).trans (congrFun (f24 55 (by decide)) 9)) hI103
      have I242 : jI104 σ178 := jI104_fr ((congrFun (f180 55 (by decide)) 10).trans (congrFun (f24 55 (by decide)) 10)) ((congrFun (f180 55 (by decide)) 12).trans (congrFun (f24 55 (by decide)) 12)) ((congrFun (f180 55 (by decide)) 13).trans (congrFun (f24 55 (by decide)) 13)) ((f180 62 (by decide)).trans (f24 62 (by decide))) ((f180 67 (by decide)).trans (f24 67 (by decide))) hI104
      have I243 : jI105 σ178 := jI105_fr ((congrFun (f180 55 (by decide)) 15).trans (congrFun (f24 55 (by decide)) 15)) ((f180 65 (by decide)).trans (f24 65 (by decide))) hI105
      have I244 : jI106 σ178 := jI106_fr (congrFun (f180 55 (by decide)) 32) (f180 70 (by decide)) (f180 71 (by decide)) (f180 72 (by decide)) I175
      have I245 : jI107 σ178 := jI107_fr ((congrFun (f180 55 (by decide)) 12).trans (congrFun (f24 55 (by decide)) 12)) ((congrFun (f180 55 (by decide)) 47).trans (congrFun (f24 55 (by decide)) 47)) ((f180 80 (by decide)).trans (f24 80 (by decide))) hI107
      have I246 : jI109 σ178 := jI109_fr ((congrFun (f180 55 (by decide)) 50).trans (congrFun (f24 55 (by decide)) 50)) hI109
      have I247 : jI111 σ178 := jI111_fr ((f180 79 (by decide)).trans (f24 79 (by decide))) hI111
      have I248 : jI119 σ178 := jI119_fr ((f180 68 (by decide)).trans (f24 68 (by decide))) hI119
      have p249 : jKept σ178 := jKept.fr ((f180 75 (by decide)).trans (f24 75 (by decide))) ((f180 76 (by decide)).trans (f24 76 (by decide))) ((f180 77 (by decide)).trans (f24 77 (by decide))) hs_jKept
      have p250 : jBook σ178 := jBook.fr ((congrFun (f180 55 (by decide)) 47).trans (congrFun (f24 55 (by decide)) 47)) ((congrFun (f180 55 (by decide)) 10).trans (congrFun (f24 55 (by decide)) 10)) ((f180 81 (by decide)).trans (f24 81 (by decide))) hs_jBook
      have z251 : (σ178 2 0).toInt = (σ 2 0).toInt := (congrArg Int32.toInt (show σ178 2 0 = (σ 2 0) from ((congrFun (f180 2 (by decide)) 0).trans (congrFun (f24 2 (by decide)) 0))))
      have z252 : (σ178 55 6).toInt = (σ 55 6).toInt := (congrArg Int32.toInt (show σ178 55 6 = (σ 55 6) from ((congrFun (f180 55 (by decide)) 6).trans (congrFun (f24 55 (by decide)) 6))))
      have z253 : (σ178 2 2).toInt = (σ 2 2).toInt := (congrArg Int32.toInt (show σ178 2 2 = (σ 2 2) from ((congrFun (f180 2 (by decide)) 2).trans (congrFun (f24 2 (by decide)) 2))))
      have z254 : (σ178 55 5).toInt = (σ 55 5).toInt := (congrArg Int32.toInt (show σ178 55 5 = (σ 55 5) from ((congrFun (f180 55 (by decide)) 5).trans (congrFun (f24 55 (by decide)) 5))))
      have z255 : (σ178 2 3).toInt = (σ 2 3).toInt := (congrArg Int32.toInt (show σ178 2 3 = (σ 2 3) from ((congrFun (f180 2 (by decide)) 3).trans (congrFun (f24 2 (by decide)) 3))))
      have z256 : (σ178 55 4).toInt = (σ 55 4).toInt := (congrArg Int32.toInt (show σ178 55 4 = (σ 55 4) from ((congrFun (f180 55 (by decide)) 4).trans (congrFun (f24 55 (by decide)) 4))))
      exact ih x227 σ178 τ _ _ ls (by have h9 := tx227; omega) ⟨I228, I229, I230, I231, I232, I233, I234, I235, I236, I237, I238, I239, I240, I241, I242, I243, I244, I245, I246, I181, I247, I248, p249, p250, (by omega), (by omega), (by omega), (show jNumP (σ178 3) (σ178 56) (σ178 6) (σ178 57) (σ178 7) (σ178 58) (σ178 8) (σ178 59) (σ178 55 6).toInt (σ178 55 4).toInt by rw [show σ178 3 = σ 3 from ((f180 3 (by decide)).trans (f24 3 (by decide))), show σ178 56 = σ 56 from ((f180 56 (by decide)).trans (f24 56 (by decide))), show σ178 6 = σ 6 from ((f180 6 (by decide)).trans (f24 6 (by decide))), show σ178 57 = σ 57 from ((f180 57 (by decide)).trans (f24 57 (by decide))), show σ178 7 = σ 7 from ((f180 7 (by decide)).trans (f24 7 (by decide))), show σ178 58 = σ 58 from ((f180 58 (by decide)).trans (f24 58 (by decide))), show σ178 8 = σ 8 from ((f180 8 (by decide)).trans (f24 8 (by decide))), show σ178 59 = σ 59 from ((f180 59 (by decide)).trans (f24 59 (by decide))), show (σ178 55 6).toInt = (σ 55 6).toInt from by omega, show (σ178 55 4).toInt = (σ 55 4).toInt from by omega]; exact hr0)⟩ hP hS (lv_sub hl [0, 1, 2, 3] rfl)
set_option maxHeartbeats 4000000 in
set_option maxRecDepth 100000 in
theorem law_case_31 {p : Program} {e : Env} {s : State} {m : MethodId} {below : List Frame} {meth : Method} {c : Code} (l : Launch) {b L : Nat} {xs : Nat → Int32} {D : va_G} {cI cL : ClassId} {ad zz : Nat → Nat} (C0 : lw_At p s m meth c b L xs) (hJ : jD ad) (hA : ∀ q, jA ad q → s.heap.size ≤ q) (hK : jK D cI cL s) (hZ : jZ zz (fun q : Nat => s.heap.size ≤ q) s s.heap) {x0 : Int32} (hx0 : 0 ≤ x0.toInt) (hxL : x0.toInt + 6 ≤ (L : Int)) (hL : L ≤ 384) {σ : Nat → Nat → Int32} {τ : Nat → Nat → Int64} {H : Heap} {locs : List Loc} (hS : va_S (fun q : Nat => s.heap.size ≤ q) s.heap H locs) {ls : Array Slot} (hAll : jAll σ τ) (hP : jH D cI cL ad σ τ H) (hl : lv_has ls 4 [(3, .int x0), (2, .ref (ad 55)), (1, .ref (ad 0)), (0, .ref b)]) (ih : ∀ (x1 : Int32) (σ : Nat → Nat → Int32) (τ : Nat → Nat → Int64) (H : Heap) (locs : List Loc) (ls : Array Slot), x1.toInt = x0.toInt + 6 → jAll σ τ → jH D cI cL ad σ τ H → va_S (fun q : Nat => s.heap.size ≤ q) s.heap H locs → lv_has ls 4 [(3, .int x1), (2, .ref (ad 55)), (1, .ref (ad 0)), (0, .ref b)] → W p l e room_1 s m #[Value.ref b] below meth c H locs 90 348600 (lw_Z below #[Value.ref b] s) (F0 m 18 ls [])) : W p l e room_1 s m #[Value.ref b] below meth c H locs 90 348600 (lw_Z below #[Value.ref b] s) (F0 m 1089 ls []) := by
  obtain ⟨hx, hb, hr, hml, hown, hts0, hX, hbl, hlocks, hgv⟩ := C0
  have hts : ∀ w ∈ wsL_law, w.before #[Value.ref b] s = true := fun w h => hts0 w (wsL_law_in w h)
  have hbA : ¬ (fun q : Nat => s.heap.size ≤ q) b := Nat.not_le.mpr hbl
  have hown : s.vm.findClass RL = some m.cls := hown
  obtain ⟨hI2, hI9, hI12, hI16, hI18, hI22, hI31, hI38, hI43, hI47, hI50, hI101, hI102, hI103, hI104, hI105, hI106, hI107, hI109, hI110, hI111, hI119, hs_jKept, hs_jBook, ht0, ht1, ht2, hr0⟩ := hAll
  have hL9 : (L : Int) ≤ 384 := by omega
  obtain ⟨i1, i2, i3, i4, i5, w6⟩ : (0 ≤ (σ 2 0).toInt ∧ (σ 2 0).toInt ≤ 4) ∧ (0 ≤ (σ 2 1).toInt ∧ (σ 2 1).toInt ≤ 3) ∧ (0 ≤ (σ 2 2).toInt) ∧ (0 ≤ (σ 2 3).toInt) ∧ ((σ 2 2).toInt + (σ 2 3).toInt ≤ 40) ∧ (∀ k : Nat, k < 40 → 0 ≤ (σ 6 k).toInt ∧ (σ 6 k).toInt ≤ 67) := id hI2
  obtain ⟨i7, i8, i9, w10, w11, w12, w13⟩ : (0 ≤ (σ 55 5).toInt) ∧ ((σ 55 5).toInt ≤ (σ 55 4).toInt) ∧ ((σ 55 4).toInt ≤ 40) ∧ (∀ k : Nat, k < 68 → (-200) ≤ (σ 56 k).toInt ∧ (σ 56 k).toInt ≤ 500) ∧ (∀ k : Nat, k < 40 → 0 ≤ (σ 57 k).toInt ∧ (σ 57 k).toInt ≤ 67) ∧ (∀ k : Nat, k < 40 → (-200) ≤ (σ 58 k).toInt ∧ (σ 58 k).toInt ≤ 500) ∧ (∀ k : Nat, k < 40 → (-200) ≤ (σ 59 k).toInt ∧ (σ 59 k).toInt ≤ 500) := id hI101
  obtain ⟨i14, w15, w16⟩ : (0 ≤ (σ 55 6).toInt ∧ (σ 55 6).toInt ≤ 4) ∧ (∀ k : Nat, k < 4 → 0 ≤ (σ 60 k).toInt ∧ (σ 60 k).toInt ≤ 50) ∧ (∀ k : Nat, k < 4 → 0 ≤ (σ 61 k).toInt ∧ (σ 61 k).toInt ≤ 20) := id hI102
  refine lv_aload_n hx hb dL_law_1089 rfl (lv_at hl 2 rfl) ?_
  refine lv_aload_n hx hb dL_law_1090 rfl (lv_at hl 3 rfl) ?_
  refine lv_iload_n hx hb dL_law_1091 rfl (lv_at hl 0 rfl) ?_
  refine lv_iconst (v := 1) hx hb dL_law_1092 (by decide) ?_
  have g17 := jrg (rfl : x0.toInt = x0.toInt)
  refine lv_iadd hx hb dL_law_1093 ?_
  refine lv_topi (fun x18 ex18 => ?_)
  have tx18 : x18.toInt = x0.toInt + 1 := (jadd ex18 rfl jz_1 (by omega) (by omega)).trans (by omega)
  refine va_sld hx hb hX hbl hbA hS (jin tx18 (by omega) (by omega)) dL_law_1094 ?_
  have g19 := jrg (rfl : (xs x18.toNatClampNeg).toInt = (xs x18.toNatClampNeg).toInt)
  refine lv_aload_n hx hb dL_law_1095 rfl (lv_at hl 3 rfl) ?_
  refine lv_iload_n hx hb dL_law_1096 rfl (lv_at hl 0 rfl) ?_
  refine lv_iconst (v := 2) hx hb dL_law_1097 (by decide) ?_
  refine lv_iadd hx hb dL_law_1098 ?_
  refine lv_topi (fun x20 ex20 => ?_)
  have tx20 : x20.toInt = x0.toInt + 2 := (jadd ex20 rfl jz_2 (by omega) (by omega)).trans (by omega)
  refine va_sld hx hb hX hbl hbA hS (jin tx20 (by omega) (by omega)) dL_law_1099 ?_
  have g21 := jrg (rfl : (xs x20.toNatClampNeg).toInt = (xs x20.toNatClampNeg).toInt)
  refine lv_aload_n hx hb dL_law_1100 rfl (lv_at hl 3 rfl) ?_
  refine lv_iload_n hx hb dL_law_1101 rfl (lv_at hl 0 rfl) ?_
  refine lv_iconst (v := 3) hx hb dL_law_1102 (by decide) ?_
  refine lv_iadd hx hb dL_law_1103 ?_
  refine lv_topi (fun x22 ex22 => ?_)
  have tx22 : x22.toInt = x0.toInt + 3 := (jadd ex22 rfl jz_3 (by omega) (by omega)).trans (by omega)
  refine va_sld hx hb hX hbl hbA hS (jin tx22 (by omega) (by omega)) dL_law_1104 ?_
  have g23 := jrg (rfl : (xs x22.toNatClampNeg).toInt = (xs x22.toNatClampNeg).toInt)
  refine jcallV (As := [.int (xs x18.toNatClampNeg), .int (xs x20.toNatClampNeg), .int (xs x22.toNatClampNeg)]) (rest := []) ⟨hx, hb, hml, hown, hts⟩ hK hP hA hS hZ (c_X11_row l D cI cL ad zz hJ σ τ (xs x18.toNatClampNeg) ((xs x18.toNatClampNeg).toInt) rfl (xs x20.toNatClampNeg) ((xs x20.toNatClampNeg).toInt) rfl (xs x22.toNatClampNeg) ((xs x22.toNatClampNeg).toInt) rfl hI50) cw_RL_141 (jc_0 cI cL ad σ τ) rfl ⟨Nat.le_of_ble_eq_true rfl, Nat.le_of_ble_eq_true rfl⟩ rfl rfl rfl hl.1 rfl (Nat.le_of_ble_eq_true rfl) dL_law_1105 ⟨Nat.le_of_ble_eq_true rfl, Nat.le_of_ble_eq_true rfl⟩ (fun r25 σ24 τ24 H locs h24 hP hS => ?_)
  obtain ⟨f28, f26, I27, h24⟩ := h24
  rcases h24 with h29 | h30 | h31
  · obtain ⟨q35, k32, k33, k34⟩ := h29
    have q35 := q35.symm
    subst q35
    refine lv_pop hx hb dL_law_1108 rfl ?_
    refine lv_aload_n hx hb dL_law_1109 rfl (lv_at hl 1 rfl) ?_
    refine lv_aload_n hx hb dL_law_1110 rfl (lv_at hl 3 rfl) ?_
    refine lv_iload_n hx hb dL_law_1111 rfl (lv_at hl 0 rfl) ?_
    refine lv_iconst (v := 1) hx hb dL_law_1112 (by decide) ?_
    refine lv_iadd hx hb dL_law_1113 ?_
    refine jtopr ex18.symm ?_
    refine va_sld hx hb hX hbl hbA hS (jin tx18 (by omega) (by omega)) dL_law_1114 ?_
    refine lv_aload_n hx hb dL_law_1115 rfl (lv_at hl 3 rfl) ?_
    refine lv_iload_n hx hb dL_law_1116 rfl (lv_at hl 0 rfl) ?_
    refine lv_iconst (v := 2) hx hb dL_law_1117 (by decide) ?_
    refine lv_iadd hx hb dL_law_1118 ?_
    refine jtopr ex20.symm ?_
    refine va_sld hx hb hX hbl hbA hS (jin tx20 (by omega) (by omega)) dL_law_1119 ?_
    refine lv_aload_n hx hb dL_law_1120 rfl (lv_at hl 3 rfl) ?_
    refine lv_iload_n hx hb dL_law_1121 rfl (lv_at hl 0 rfl) ?_
    refine lv_iconst (v := 3) hx hb dL_law_1122 (by decide) ?_
    refine lv_iadd hx hb dL_law_1123 ?_
    refine jtopr ex22.symm ?_
    refine va_sld hx hb hX hbl hbA hS (jin tx22 (by omega) (by omega)) dL_law_1124 ?_
    have I36 : jI110 σ24 := jI110_fr (f26 86 (by decide)) (f26 87 (by decide)) hI110
    refine jcallV (As := [.int (xs x18.toNatClampNeg), .int (xs x20.toNatClampNeg), .int (xs x22.toNatClampNeg)]) (rest := []) ⟨hx, hb, hml, hown, hts⟩ hK hP hA hS hZ (c_X12_row l D cI cL ad zz hJ σ24 τ24 (xs x18.toNatClampNeg) ((xs x18.toNatClampNeg).toInt) rfl (xs x20.toNatClampNeg) ((xs x20.toNatClampNeg).toInt) rfl (xs x22.toNatClampNeg) ((xs x22.toNatClampNeg).toInt) rfl I36) cw_RL_144 (jc_55 cI cL ad σ24 τ24) rfl ⟨Nat.le_of_ble_eq_true rfl, Nat.le_of_ble_eq_true rfl⟩ rfl rfl rfl hl.1 rfl (Nat.le_of_ble_eq_true rfl) dL_law_1125 ⟨Nat.le_of_ble_eq_true rfl, Nat.le_of_ble_eq_true rfl⟩ (fun r38 σ37 τ37 H locs h37 hP hS => ?_)
    obtain ⟨f41, f39, I40, h37⟩ := h37
    rcases h37 with h42 | h43 | h44
    · obtain ⟨q48, k45, k46, k47⟩ := h42
      have q48 := q48.symm
      subst q48
      refine lv_pop hx hb dL_law_1128 rfl ?_
      refine lv_goto (tgt := 1357) hx hb dL_law_1129 (by decide) ?_
      obtain ⟨x49, ex49⟩ : ∃ y : Int32, y = x0 + 6 := ⟨_, rfl⟩
      have tx49 : x49.toInt = x0.toInt + 6 := (jadd ex49 rfl jz_6 (by omega) (by omega)).trans (by omega)
      refine lv_iinc (v := x49) (lv' := [(3, .int x49), (2, .ref (ad 55)), (1, .ref (ad 0)), (0, .ref b)]) hx hb dL_law_1357 hl (k := 0) rfl (by rw [ex49]; rfl) (by decide) rfl (fun ls hl => ?_)
      refine lv_goto (tgt := 18) hx hb dL_law_1360 (by decide) ?_
      have I50 : jI2 σ37 := jI2_fr ((congrFun (f39 2 (by decide)) 0).trans (congrFun (f26 2 (by decide)) 0)) ((congrFun (f39 2 (by decide)) 1).trans (congrFun (f26 2 (by decide)) 1)) ((congrFun (f39 2 (by decide)) 2).trans (congrFun (f26 2 (by decide)) 2)) ((congrFun (f39 2 (by decide)) 3).trans (congrFun (f26 2 (by decide)) 3)) ((f39 6 (by decide)).trans (f26 6 (by decide))) hI2
      have I51 : jI9 σ37 := jI9_fr ((congrFun (f39 9 (by decide)) 0).trans (congrFun (f26 9 (by decide)) 0)) ((f39 10 (by decide)).trans (f26 10 (by decide))) ((f39 11 (by decide)).trans (f26 11 (by decide))) hI9
      have I52 : jI12 σ37 := jI12_fr ((congrFun (f39 12 (by decide)) 0).trans (congrFun (f26 12 (by decide)) 0)) ((f39 13 (by decide)).trans (f26 13 (by decide))) hI12
      have I53 : jI16 σ37 := jI16_fr ((congrFun (f39 16 (by decide)) 0).trans (congrFun (f26 16 (by decide)) 0)) ((congrFun (f39 16 (by decide)) 1).trans (congrFun (f26 16 (by decide)) 1)) ((congrFun (f39 16 (by decide)) 2).trans (congrFun (f26 16 (by decide)) 2)) ((f39 17 (by decide)).trans (f26 17 (by decide))) hI16
      have I54 : jI18 σ37 := jI18_fr ((congrFun (f39 18 (by decide)) 0).trans (congrFun (f26 18 (by decide)) 0)) ((f39 19 (by decide)).trans (f26 19 (by decide))) hI18
      have I55 : jI22 σ37 := jI22_fr ((congrFun (f39 22 (by decide)) 0).trans (congrFun (f26 22 (by decide)) 0)) ((f39 23 (by decide)).trans (f26 23 (by decide))) hI22
      have I56 : jI31 σ37 := jI31_fr ((congrFun (f39 31 (by decide)) 8).trans (congrFun (f26 31 (by decide)) 8)) ((f39 33 (by decide)).trans (f26 33 (by decide))) ((f39 36 (by decide)).trans (f26 36 (by decide))) hI31
      have I57 : jI38 σ37 := jI38_fr ((congrFun (f39 38 (by decide)) 0).trans (congrFun (f26 38 (by decide)) 0)) ((congrFun (f39 38 (by decide)) 1).trans (congrFun (f26 38 (by decide)) 1)) ((f39 39 (by decide)).trans (f26 39 (by decide))) hI38
      have I58 : jI43 σ37 := jI43_fr ((congrFun (f39 43 (by decide)) 8).trans (congrFun (f26 43 (by decide)) 8)) hI43
      have I59 : jI47 σ37 := jI47_fr ((congrFun (f39 47 (by decide)) 0).trans (congrFun (f26 47 (by decide)) 0)) ((f39 48 (by decide)).trans (f26 48 (by decide))) ((f39 49 (by decide)).trans (f26 49 (by decide))) hI47
      have I60 : jI50 σ37 := jI50_fr (f39 52 (by decide)) I27
      have I61 : jI101 σ37 := jI101_fr ((congrFun (f39 55 (by decide)) 4).trans (congrFun (f26 55 (by decide)) 4)) ((congrFun (f39 55 (by decide)) 5).trans (congrFun (f26 55 (by decide)) 5)) ((f39 56 (by decide)).trans (f26 56 (by decide))) ((f39 57 (by decide)).trans (f26 57 (by decide))) ((f39 58 (by decide)).trans (f26 58 (by decide))) ((f39 59 (by decide)).trans (f26 59 (by decide))) hI101
      have I62 : jI102 σ37 := jI102_fr ((congrFun (f39 55 (by decide)) 6).trans (congrFun (f26 55 (by decide)) 6)) ((f39 60 (by decide)).trans (f26 60 (by decide))) ((f39 61 (by decide)).trans (f26 61 (by decide))) hI102
      have I63 : jI103 σ37 := jI103_fr ((congrFun (f39 55 (by decide)) 9).trans (congrFun (f26 55 (by decide)) 9)) hI103
      have I64 : jI104 σ37 := jI104_fr ((congrFun (f39 55 (by decide)) 10).trans (congrFun (f26 55 (by decide)) 10)) ((congrFun (f39 55 (by decide)) 12).trans (congrFun (f26 55 (by decide)) 12)) ((congrFun (f39 55 (by decide)) 13).trans (congrFun (f26 55 (by decide)) 13)) ((f39 62 (by decide)).trans (f26 62 (by decide))) ((f39 67 (by decide)).trans (f26 67 (by decide))) hI104
      have I65 : jI105 σ37 := jI105_fr ((congrFun (f39 55 (by decide)) 15).trans (congrFun (f26 55 (by decide)) 15)) ((f39 65 (by decide)).trans (f26 65 (by decide))) hI105
      have I66 : jI106 σ37 := jI106_fr ((congrFun (f39 55 (by decide)) 32).trans (congrFun (f26 55 (by decide)) 32)) ((f39 70 (by decide)).trans (f26 70 (by decide))) ((f39 71 (by decide)).trans (f26 71 (by decide))) ((f39 72 (by decide)).trans (f26 72 (by decide))) hI106
      have I67 : jI107 σ37 := jI107_fr ((congrFun (f39 55 (by decide)) 12).trans (congrFun (f26 55 (by decide)) 12)) ((congrFun (f39 55 (by decide)) 47).trans (congrFun (f26 55 (by decide)) 47)) ((f39 80 (by decide)).trans (f26 80 (by decide))) hI107
      have I68 : jI109 σ37 := jI109_fr ((congrFun (f39 55 (by decide)) 50).trans (congrFun (f26 55 (by decide)) 50)) hI109
      have I69 : jI111 σ37 := jI111_fr ((f39 79 (by decide)).trans (f26 79 (by decide))) hI111
      have I70 : jI119 σ37 := jI119_fr ((f39 68 (by decide)).trans (f26 68 (by decide))) hI119
      have p71 : jKept σ37 := jKept.fr ((f39 75 (by decide)).trans (f26 75 (by decide))) ((f39 76 (by decide)).trans (f26 76 (by decide))) ((f39 77 (by decide)).trans (f26 77 (by decide))) hs_jKept
      have p72 : jBook σ37 := jBook.fr ((congrFun (f39 55 (by decide)) 47).trans (congrFun (f26 55 (by decide)) 47)) ((congrFun (f39 55 (by decide)) 10).trans (congrFun (f26 55 (by decide)) 10)) ((f39 81 (by decide)).trans (f26 81 (by decide))) hs_jBook
      have z73 : (σ37 2 0).toInt = (σ 2 0).toInt := (congrArg Int32.toInt (show σ37 2 0 = (σ 2 0) from ((congrFun (f39 2 (by decide)) 0).trans (congrFun (f26 2 (by decide)) 0))))
      have z74 : (σ37 55 6).toInt = (σ 55 6).toInt := (congrArg Int32.toInt (show σ37 55 6 = (σ 55 6) from ((congrFun (f39 55 (by decide)) 6).trans (congrFun (f26 55 (by decide)) 6))))
      have z75 : (σ37 2 2).toInt = (σ 2 2).toInt := (congrArg Int32.toInt (show σ37 2 2 = (σ 2 2) from ((congrFun (f39 2 (by decide)) 2).trans (congrFun (f26 2 (by decide)) 2))))
      have z76 : (σ37 55 5).toInt = (σ 55 5).toInt := (congrArg Int32.toInt (show σ37 55 5 = (σ 55 5) from ((congrFun (f39 55 (by decide)) 5).trans (congrFun (f26 55 (by decide)) 5))))
      have z77 : (σ37 2 3).toInt = (σ 2 3).toInt := (congrArg Int32.toInt (show σ37 2 3 = (σ 2 3) from ((congrFun (f39 2 (by decide)) 3).trans (congrFun (f26 2 (by decide)) 3))))
      have z78 : (σ37 55 4).toInt = (σ 55 4).toInt := (congrArg Int32.toInt (show σ37 55 4 = (σ 55 4) from ((congrFun (f39 55 (by decide)) 4).trans (congrFun (f26 55 (by decide)) 4))))
      exact ih x49 σ37 τ37 _ _ ls (by have h9 := tx49; omega) ⟨I50, I51, I52, I53, I54, I55, I56, I57, I58, I59, I60, I61, I62, I63, I64, I65, I66, I67, I68, I40, I69, I70, p71, p72, (by omega), (by omega), (by omega), (show jNumP (σ37 3) (σ37 56) (σ37 6) (σ37 57) (σ37 7) (σ37 58) (σ37 8) (σ37 59) (σ37 55 6).toInt (σ37 55 4).toInt by rw [show σ37 3 = σ 3 from ((f39 3 (by decide)).trans (f26 3 (by decide))), show σ37 56 = σ 56 from ((f39 56 (by decide)).trans (f26 56 (by decide))), show σ37 6 = σ 6 from ((f39 6 (by decide)).trans (f26 6 (by decide))), show σ37 57 = σ 57 from ((f39 57 (by decide)).trans (f26 57 (by decide))), show σ37 7 = σ 7 from ((f39 7 (by decide)).trans (f26 7 (by decide))), show σ37 58 = σ 58 from ((f39 58 (by decide)).trans (f26 58 (by decide))), show σ37 8 = σ 8 from ((f39 8 (by decide)).trans (f26 8 (by decide))), show σ37 59 = σ 59 from ((f39 59 (by decide)).trans (f26 59 (by decide))), show (σ37 55 6).toInt = (σ 55 6).toInt from by omega, show (σ37 55 4).toInt = (σ 55 4).toInt from by omega]; exact hr0)⟩ hP hS (lv_sub hl [0, 1, 2, 3] rfl)
    · obtain ⟨q84, k79, k80, k81, k82, k83⟩ := h43
      exact absurd (by omega : False) id
    · obtain ⟨q90, k85, k86, k87, k88, k89⟩ := h44
      exact absurd (by omega : False) id
  · obtain ⟨q96, k91, k92, k93, k94, k95⟩ := h30
    have q96 := q96.symm
    subst q96
    refine lv_pop hx hb dL_law_1108 rfl ?_
    refine lv_aload_n hx hb dL_law_1109 rfl (lv_at hl 1 rfl) ?_
    refine lv_aload_n hx hb dL_law_1110 rfl (lv_at hl 3 rfl) ?_
    refine lv_iload_n hx hb dL_law_1111 rfl (lv_at hl 0 rfl) ?_
    refine lv_iconst (v := 1) hx hb dL_law_1112 (by decide) ?_
    refine lv_iadd hx hb dL_law_1113 ?_
    refine jtopr ex18.symm ?_
    refine va_sld hx hb hX hbl hbA hS (jin tx18 (by omega) (by omega)) dL_law_1114 ?_
    refine lv_aload_n hx hb dL_law_1115 rfl (lv_at hl 3 rfl) ?_
    refine lv_iload_n hx hb dL_law_1116 rfl (lv_at hl 0 rfl) ?_
    refine lv_iconst (v := 2) hx hb dL_law_1117 (by decide) ?_
    refine lv_iadd hx hb dL_law_1118 ?_
    refine jtopr ex20.symm ?_
    refine va_sld hx hb hX hbl hbA hS (jin tx20 (by omega) (by omega)) dL_law_1119 ?_
    refine lv_aload_n hx hb dL_law_1120 rfl (lv_at hl 3 rfl) ?_
    refine lv_iload_n hx hb dL_law_1121 rfl (lv_at hl 0 rfl) ?_
    refine lv_iconst (v := 3) hx hb dL_law_1122 (by decide) ?_
    refine lv_iadd hx hb dL_law_1123 ?_
    refine jtopr ex22.symm ?_
    refine va_sld hx hb hX hbl hbA hS (jin tx22 (by omega) (by omega)) dL_law_1124 ?_
    have I97 : jI110 σ24 := jI110_fr (f26 86 (by decide)) (f26 87 (by decide)) hI110
    refine jcallV (As := [.int (xs x18.toNatClampNeg), .int (xs x20.toNatClampNeg), .int (xs x22.toNatClampNeg)]) (rest := []) ⟨hx, hb, hml, hown, hts⟩ hK hP hA hS hZ (c_X12_row l D cI cL ad zz hJ σ24 τ24 (xs x18.toNatClampNeg) ((xs x18.toNatClampNeg).toInt) rfl (xs x20.toNatClampNeg) ((xs x20.toNatClampNeg).toInt) rfl (xs x22.toNatClampNeg) ((xs x22.toNatClampNeg).toInt) rfl I97) cw_RL_144 (jc_55 cI cL ad σ24 τ24) rfl ⟨Nat.le_of_ble_eq_true rfl, Nat.le_of_ble_eq_true rfl⟩ rfl rfl rfl hl.1 rfl (Nat.le_of_ble_eq_true rfl) dL_law_1125 ⟨Nat.le_of_ble_eq_true rfl, Nat.le_of_ble_eq_true rfl⟩ (fun r99 σ98 τ98 H locs h98 hP hS => ?_)
    obtain ⟨f102, f100, I101, h98⟩ := h98
    rcases h98 with h103 | h104 | h105
    · obtain ⟨q109, k106, k107, k108⟩ := h103
      exact absurd (by omega : False) id
    · obtain ⟨q115, k110, k111, k112, k113, k114⟩ := h104
      have q115 := q115.symm
      subst q115
      refine lv_pop hx hb dL_law_1128 rfl ?_
      refine lv_goto (tgt := 1357) hx hb dL_law_1129 (by decide) ?_
      obtain ⟨x116, ex116⟩ : ∃ y : Int32, y = x0 + 6 := ⟨_, rfl⟩
      have tx116 : x116.toInt = x0.toInt + 6 := (jadd ex116 rfl jz_6 (by omega) (by omega)).trans (by omega)
      refine lv_iinc (v := x116) (lv' := [(3, .int x116), (2, .ref (ad 55)), (1, .ref (ad 0)), (0, .ref b)]) hx hb dL_law_1357 hl (k := 0) rfl (by rw [ex116]; rfl) (by decide) rfl (fun ls hl => ?_)
      refine lv_goto (tgt := 18) hx hb dL_law_1360 (by decide) ?_
      have I117 : jI2 σ98 := jI2_fr ((congrFun (f100 2 (by decide)) 0).trans (congrFun (f26 2 (by decide)) 0)) ((congrFun (f100 2 (by decide)) 1).trans (congrFun (f26 2 (by decide)) 1)) ((congrFun (f100 2 (by decide)) 2).trans (congrFun (f26 2 (by decide)) 2)) ((congrFun (f100 2 (by decide)) 3).trans (congrFun (f26 2 (by decide)) 3)) ((f100 6 (by decide)).trans (f26 6 (by decide))) hI2
      have I118 : jI9 σ98 := jI9_fr ((congrFun (f100 9 (by decide)) 0).trans (congrFun (f26 9 (by decide)) 0)) ((f100 10 (by decide)).trans (f26 10 (by decide))) ((f100 11 (by decide)).trans (f26 11 (by decide))) hI9
      have I119 : jI12 σ98 := jI12_fr ((congrFun (f100 12 (by decide)) 0).trans (congrFun (f26 12 (by decide)) 0)) ((f100 13 (by decide)).trans (f26 13 (by decide))) hI12
      have I120 : jI16 σ98 := jI16_fr ((congrFun (f100 16 (by decide)) 0).trans (congrFun (f26 16 (by decide)) 0)) ((congrFun (f100 16 (by decide)) 1).trans (congrFun (f26 16 (by decide)) 1)) ((congrFun (f100 16 (by decide)) 2).trans (congrFun (f26 16 (by decide)) 2)) ((f100 17 (by decide)).trans (f26 17 (by decide))) hI16
      have I121 : jI18 σ98 := jI18_fr ((congrFun (f100 18 (by decide)) 0).trans (congrFun (f26 18 (by decide)) 0)) ((f100 19 (by decide)).trans (f26 19 (by decide))) hI18
      have I122 : jI22 σ98 := jI22_fr ((congrFun (f100 22 (by decide)) 0).trans (congrFun (f26 22 (by decide)) 0)) ((f100 23 (by decide)).trans (f26 23 (by decide))) hI22
      have I123 : jI31 σ98 := jI31_fr ((congrFun (f100 31 (by decide)) 8).trans (congrFun (f26 31 (by decide)) 8)) ((f100 33 (by decide)).trans (f26 33 (by decide))) ((f100 36 (by decide)).trans (f26 36 (by decide))) hI31
      have I124 : jI38 σ98 := jI38_fr ((congrFun (f100 38 (by decide)) 0).trans (congrFun (f26 38 (by decide)) 0)) ((congrFun (f100 38 (by decide)) 1).trans (congrFun (f26 38 (by decide)) 1)) ((f100 39 (by decide)).trans (f26 39 (by decide))) hI38
      have I125 : jI43 σ98 := jI43_fr ((congrFun (f100 43 (by decide)) 8).trans (congrFun (f26 43 (by decide)) 8)) hI43
      have I126 : jI47 σ98 := jI47_fr ((congrFun (f100 47 (by decide)) 0).trans (congrFun (f26 47 (by decide)) 0)) ((f100 48 (by decide)).trans (f26 48 (by decide))) ((f100 49 (by decide)).trans (f26 49 (by decide))) hI47
      have I127 : jI50 σ98 := jI50_fr (f100 52 (by decide)) I27
      have I128 : jI101 σ98 := jI101_fr ((congrFun (f100 55 (by decide)) 4).trans (congrFun (f26 55 (by decide)) 4)) ((congrFun (f100 55 (by decide)) 5).trans (congrFun (f26 55 (by decide)) 5)) ((f100 56 (by decide)).trans (f26 56 (by decide))) ((f100 57 (by decide)).trans (f26 57 (by decide))) ((f100 58 (by decide)).trans (f26 58 (by decide))) ((f100 59 (by decide)).trans (f26 59 (by decide))) hI101
      have I129 : jI102 σ98 := jI102_fr ((congrFun (f100 55 (by decide)) 6).trans (congrFun (f26 55 (by decide)) 6)) ((f100 60 (by decide)).trans (f26 60 (by decide))) ((f100 61 (by decide)).trans (f26 61 (by decide))) hI102
      have I130 : jI103 σ98 := jI103_fr ((congrFun (f100 55 (by decide)) 9).trans (congrFun (f26 55 (by decide)) 9)) hI103
      have I131 : jI104 σ98 := jI104_fr ((congrFun (f100 55 (by decide)) 10).trans (congrFun (f26 55 (by decide)) 10)) ((congrFun (f100 55 (by decide)) 12).trans (congrFun (f26 55 (by decide)) 12)) ((congrFun (f100 55 (by decide)) 13).trans (congrFun (f26 55 (by decide)) 13)) ((f100 62 (by decide)).trans (f26 62 (by decide))) ((f100 67 (by decide)).trans (f26 67 (by decide))) hI104
      have I132 : jI105 σ98 := jI105_fr ((congrFun (f100 55 (by decide)) 15).trans (congrFun (f26 55 (by decide)) 15)) ((f100 65 (by decide)).trans (f26 65 (by decide))) hI105
      have I133 : jI106 σ98 := jI106_fr ((congrFun (f100 55 (by decide)) 32).trans (congrFun (f26 55 (by decide)) 32)) ((f100 70 (by decide)).trans (f26 70 (by decide))) ((f100 71 (by decide)).trans (f26 71 (by decide))) ((f100 72 (by decide)).trans (f26 72 (by decide))) hI106
      have I134 : jI107 σ98 := jI107_fr ((congrFun (f100 55 (by decide)) 12).trans (congrFun (f26 55 (by decide)) 12)) ((congrFun (f100 55 (by decide)) 47).trans (congrFun (f26 55 (by decide)) 47)) ((f100 80 (by decide)).trans (f26 80 (by decide))) hI107
      have I135 : jI109 σ98 := jI109_fr ((congrFun (f100 55 (by decide)) 50).trans (congrFun (f26 55 (by decide)) 50)) hI109
      have I136 : jI111 σ98 := jI111_fr ((f100 79 (by decide)).trans (f26 79 (by decide))) hI111
      have I137 : jI119 σ98 := jI119_fr ((f100 68 (by decide)).trans (f26 68 (by decide))) hI119
      have p138 : jKept σ98 := jKept.fr ((f100 75 (by decide)).trans (f26 75 (by decide))) ((f100 76 (by decide)).trans (f26 76 (by decide))) ((f100 77 (by decide)).trans (f26 77 (by decide))) hs_jKept
      have p139 : jBook σ98 := jBook.fr ((congrFun (f100 55 (by decide)) 47).trans (congrFun (f26 55 (by decide)) 47)) ((congrFun (f100 55 (by decide)) 10).trans (congrFun (f26 55 (by decide)) 10)) ((f100 81 (by decide)).trans (f26 81 (by decide))) hs_jBook
      have z140 : (σ98 2 0).toInt = (σ 2 0).toInt := (congrArg Int32.toInt (show σ98 2 0 = (σ 2 0) from ((congrFun (f100 2 (by decide)) 0).trans (congrFun (f26 2 (by decide)) 0))))
      have z141 : (σ98 55 6).toInt = (σ 55 6).toInt := (congrArg Int32.toInt (show σ98 55 6 = (σ 55 6) from ((congrFun (f100 55 (by decide)) 6).trans (congrFun (f26 55 (by decide)) 6))))
      have z142 : (σ98 2 2).toInt = (σ 2 2).toInt := (congrArg Int32.toInt (show σ98 2 2 = (σ 2 2) from ((congrFun (f100 2 (by decide)) 2).trans (congrFun (f26 2 (by decide)) 2))))
      have z143 : (σ98 55 5).toInt = (σ 55 5).toInt := (congrArg Int32.toInt (show σ98 55 5 = (σ 55 5) from ((congrFun (f100 55 (by decide)) 5).trans (congrFun (f26 55 (by decide)) 5))))
      have z144 : (σ98 2 3).toInt = (σ 2 3).toInt := (congrArg Int32.toInt (show σ98 2 3 = (σ 2 3) from ((congrFun (f100 2 (by decide)) 3).trans (congrFun (f26 2 (by decide)) 3))))
      have z145 : (σ98 55 4).toInt = (σ 55 4).toInt := (congrArg Int32.toInt (show σ98 55 4 = (σ 55 4) from ((congrFun (f100 55 (by decide)) 4).trans (congrFun (f26 55 (by decide)) 4))))
      exact ih x116 σ98 τ98 _ _ ls (by have h9 := tx116; omega) ⟨I117, I118, I119, I120, I121, I122, I123, I124, I125, I126, I127, I128, I129, I130, I131, I132, I133, I134, I135, I101, I136, I137, p138, p139, (by omega), (by omega), (by omega), (show jNumP (σ98 3) (σ98 56) (σ98 6) (σ98 57) (σ98 7) (σ98 58) (σ98 8) (σ98 59) (σ98 55 6).toInt (σ98 55 4).toInt by rw [show σ98 3 = σ 3 from ((f100 3 (by decide)).trans (f26 3 (by decide))), show σ98 56 = σ 56 from ((f100 56 (by decide)).trans (f26 56 (by decide))), show σ98 6 = σ 6 from ((f100 6 (by decide)).trans (f26 6 (by decide))), show σ98 57 = σ 57 from ((f100 57 (by decide)).trans (f26 57 (by decide))), show σ98 7 = σ 7 from ((f100 7 (by decide)).trans (f26 7 (by decide))), show σ98 58 = σ 58 from ((f100 58 (by decide)).trans (f26 58 (by decide))), show σ98 8 = σ 8 from ((f100 8 (by decide)).trans (f26 8 (by decide))), show σ98 59 = σ 59 from ((f100 59 (by decide)).trans (f26 59 (by decide))), show (σ98 55 6).toInt = (σ 55 6).toInt from by omega, show (σ98 55 4).toInt = (σ 55 4).toInt from by omega]; exact hr0)⟩ hP hS (lv_sub hl [0, 1, 2, 3] rfl)
    · obtain ⟨q151, k146, k147, k148, k149, k150⟩ := h105
      exact absurd (by omega : False) id
  · obtain ⟨q157, k152, k153, k154, k155, k156⟩ := h31
    have q157 := q157.symm
    subst q157
    refine lv_pop hx hb dL_law_1108 rfl ?_
    refine lv_aload_n hx hb dL_law_1109 rfl (lv_at hl 1 rfl) ?_
    refine lv_aload_n hx hb dL_law_1110 rfl (lv_at hl 3 rfl) ?_
    refine lv_iload_n hx hb dL_law_1111 rfl (lv_at hl 0 rfl) ?_
    refine lv_iconst (v := 1) hx hb dL_law_1112 (by decide) ?_
    refine lv_iadd hx hb dL_law_1113 ?_
    refine jtopr ex18.symm ?_
    refine va_sld hx hb hX hbl hbA hS (jin tx18 (by omega) (by omega)) dL_law_1114 ?_
    refine lv_aload_n hx hb dL_law_1115 rfl (lv_at hl 3 rfl) ?_
    refine lv_iload_n hx hb dL_law_1116 rfl (lv_at hl 0 rfl) ?_
    refine lv_iconst (v := 2) hx hb dL_law_1117 (by decide) ?_
    refine lv_iadd hx hb dL_law_1118 ?_
    refine jtopr ex20.symm ?_
    refine va_sld hx hb hX hbl hbA hS (jin tx20 (by omega) (by omega)) dL_law_1119 ?_
    refine lv_aload_n hx hb dL_law_1120 rfl (lv_at hl 3 rfl) ?_
    refine lv_iload_n hx hb dL_law_1121 rfl (lv_at hl 0 rfl) ?_
    refine lv_iconst (v := 3) hx hb dL_law_1122 (by decide) ?_
    refine lv_iadd hx hb dL_law_1123 ?_
    refine jtopr ex22.symm ?_
    refine va_sld hx hb hX hbl hbA hS (jin tx22 (by omega) (by omega)) dL_law_1124 ?_
    have I158 : jI110 σ24 := jI110_fr (f26 86 (by decide)) (f26 87 (by decide)) hI110
    refine jcallV (As := [.int (xs x18.toNatClampNeg), .int (xs x20.toNatClampNeg), .int (xs x22.toNatClampNeg)]) (rest := []) ⟨hx, hb, hml, hown, hts⟩ hK hP hA hS hZ (c_X12_row l D cI cL ad zz hJ σ24 τ24 (xs x18.toNatClampNeg) ((xs x18.toNatClampNeg).toInt) rfl (xs x20.toNatClampNeg) ((xs x20.toNatClampNeg).toInt) rfl (xs x22.toNatClampNeg) ((xs x22.toNatClampNeg).toInt) rfl I158) cw_RL_144 (jc_55 cI cL ad σ24 τ24) rfl ⟨Nat.le_of_ble_eq_true rfl, Nat.le_of_ble_eq_true rfl⟩ rfl rfl rfl hl.1 rfl (Nat.le_of_ble_eq_true rfl) dL_law_1125 ⟨Nat.le_of_ble_eq_true rfl, Nat.le_of_ble_eq_true rfl⟩ (fun r160 σ159 τ159 H locs h159 hP hS => ?_)
    obtain ⟨f163, f161, I162, h159⟩ := h159
    rcases h159 with h164 | h165 | h166
    · obtain ⟨q170, k167, k168, k169⟩ := h164
      exact absurd (by omega : False) id
    · obtain ⟨q176, k171, k172, k173, k174, k175⟩ := h165
      exact absurd (by omega : False) id
    · obtain ⟨q182, k177, k178, k179, k180, k181⟩ := h166
      have q182 := q182.symm
      subst q182
      refine lv_pop hx hb dL_law_1128 rfl ?_
      refine lv_goto (tgt := 1357) hx hb dL_law_1129 (by decide) ?_
      obtain ⟨x183, ex183⟩ : ∃ y : Int32, y = x0 + 6 := ⟨_, rfl⟩
      have tx183 : x183.toInt = x0.toInt + 6 := (jadd ex183 rfl jz_6 (by omega) (by omega)).trans (by omega)
      refine lv_iinc (v := x183) (lv' := [(3, .int x183), (2, .ref (ad 55)), (1, .ref (ad 0)), (0, .ref b)]) hx hb dL_law_1357 hl (k := 0) rfl (by rw [ex183]; rfl) (by decide) rfl (fun ls hl => ?_)
      refine lv_goto (tgt := 18) hx hb dL_law_1360 (by decide) ?_
      have I184 : jI2 σ159 := jI2_fr ((congrFun (f161 2 (by decide)) 0).trans (congrFun (f26 2 (by decide)) 0)) ((congrFun (f161 2 (by decide)) 1).trans (congrFun (f26 2 (by decide)) 1)) ((congrFun (f161 2 (by decide)) 2).trans (congrFun (f26 2 (by decide)) 2)) ((congrFun (f161 2 (by decide)) 3).trans (congrFun (f26 2 (by decide)) 3)) ((f161 6 (by decide)).trans (f26 6 (by decide))) hI2
      have I185 : jI9 σ159 := jI9_fr ((congrFun (f161 9 (by decide)) 0).trans (congrFun (f26 9 (by decide)) 0)) ((f161 10 (by decide)).trans (f26 10 (by decide))) ((f161 11 (by decide)).trans (f26 11 (by decide))) hI9
      have I186 : jI12 σ159 := jI12_fr ((congrFun (f161 12 (by decide)) 0).trans (congrFun (f26 12 (by decide)) 0)) ((f161 13 (by decide)).trans (f26 13 (by decide))) hI12
      have I187 : jI16 σ159 := jI16_fr ((congrFun (f161 16 (by decide)) 0).trans (congrFun (f26 16 (by decide)) 0)) ((congrFun (f161 16 (by decide)) 1).trans (congrFun (f26 16 (by decide)) 1)) ((congrFun (f161 16 (by decide)) 2).trans (congrFun (f26 16 (by decide)) 2)) ((f161 17 (by decide)).trans (f26 17 (by decide))) hI16
      have I188 : jI18 σ159 := jI18_fr ((congrFun (f161 18 (by decide)) 0).trans (congrFun (f26 18 (by decide)) 0)) ((f161 19 (by decide)).trans (f26 19 (by decide))) hI18
      have I189 : jI22 σ159 := jI22_fr ((congrFun (f161 22 (by decide)) 0).trans (congrFun (f26 22 (by decide)) 0)) ((f161 23 (by decide)).trans (f26 23 (by decide))) hI22
      have I190 : jI31 σ159 := jI31_fr ((congrFun (f161 31 (by decide)) 8).trans (congrFun (f26 31 (by decide)) 8)) ((f161 33 (by decide)).trans (f26 33 (by decide))) ((f161 36 (by decide)).trans (f26 36 (by decide))) hI31
      have I191 : jI38 σ159 := jI38_fr ((congrFun (f161 38 (by decide)) 0).trans (congrFun (f26 38 (by decide)) 0)) ((congrFun (f161 38 (by decide)) 1).trans (congrFun (f26 38 (by decide)) 1)) ((f161 39 (by decide)).trans (f26 39 (by decide))) hI38
      have I192 : jI43 σ159 := jI43_fr ((congrFun (f161 43 (by decide)) 8).trans (congrFun (f26 43 (by decide)) 8)) hI43
      have I193 : jI47 σ159 := jI47_fr ((congrFun (f161 47 (by decide)) 0).trans (congrFun (f26 47 (by decide)) 0)) ((f161 48 (by decide)).trans (f26 48 (by decide))) ((f161 49 (by decide)).trans (f26 49 (by decide))) hI47
      have I194 : jI50 σ159 := jI50_fr (f161 52 (by decide)) I27
      have I195 : jI101 σ159 := jI101_fr ((congrFun (f161 55 (by decide)) 4).trans (congrFun (f26 55 (by decide)) 4)) ((congrFun (f161 55 (by decide)) 5).trans (congrFun (f26 55 (by decide)) 5)) ((f161 56 (by decide)).trans (f26 56 (by decide))) ((f161 57 (by decide)).trans (f26 57 (by decide))) ((f161 58 (by decide)).trans (f26 58 (by decide))) ((f161 59 (by decide)).trans (f26 59 (by decide))) hI101
      have I196 : jI102 σ159 := jI102_fr ((congrFun (f161 55 (by decide)) 6).trans (congrFun (f26 55 (by decide)) 6)) ((f161 60 (by decide)).trans (f26 60 (by decide))) ((f161 61 (by decide)).trans (f26 61 (by decide))) hI102
      have I197 : jI103 σ159 := jI103_fr ((congrFun (f161 55 (by decide)) 9).trans (congrFun (f26 55 (by decide)) 9)) hI103
      have I198 : jI104 σ159 := jI104_fr ((congrFun (f161 55 (by decide)) 10).trans (congrFun (f26 55 (by decide)) 10)) ((congrFun (f161 55 (by decide)) 12).trans (congrFun (f26 55 (by decide)) 12)) ((congrFun (f161 55 (by decide)) 13).trans (congrFun (f26 55 (by decide)) 13)) ((f161 62 (by decide)).trans (f26 62 (by decide))) ((f161 67 (by decide)).trans (f26 67 (by decide))) hI104
      have I199 : jI105 σ159 := jI105_fr ((congrFun (f161 55 (by decide)) 15).trans (congrFun (f26 55 (by decide)) 15)) ((f161 65 (by decide)).trans (f26 65 (by decide))) hI105
      have I200 : jI106 σ159 := jI106_fr ((congrFun (f161 55 (by decide)) 32).trans (congrFun (f26 55 (by decide)) 32)) ((f161 70 (by decide)).trans (f26 70 (by decide))) ((f161 71 (by decide)).trans (f26 71 (by decide))) ((f161 72 (by decide)).trans (f26 72 (by decide))) hI106
      have I201 : jI107 σ159 := jI107_fr ((congrFun (f161 55 (by decide)) 12).trans (congrFun (f26 55 (by decide)) 12)) ((congrFun (f161 55 (by decide)) 47).trans (congrFun (f26 55 (by decide)) 47)) ((f161 80 (by decide)).trans (f26 80 (by decide))) hI107
      have I202 : jI109 σ159 := jI109_fr ((congrFun (f161 55 (by decide)) 50).trans (congrFun (f26 55 (by decide)) 50)) hI109
      have I203 : jI111 σ159 := jI111_fr ((f161 79 (by decide)).trans (f26 79 (by decide))) hI111
      have I204 : jI119 σ159 := jI119_fr ((f161 68 (by decide)).trans (f26 68 (by decide))) hI119
      have p205 : jKept σ159 := jKept.fr ((f161 75 (by decide)).trans (f26 75 (by decide))) ((f161 76 (by decide)).trans (f26 76 (by decide))) ((f161 77 (by decide)).trans (f26 77 (by decide))) hs_jKept
      have p206 : jBook σ159 := jBook.fr ((congrFun (f161 55 (by decide)) 47).trans (congrFun (f26 55 (by decide)) 47)) ((congrFun (f161 55 (by decide)) 10).trans (congrFun (f26 55 (by decide)) 10)) ((f161 81 (by decide)).trans (f26 81 (by decide))) hs_jBook
      have z207 : (σ159 2 0).toInt = (σ 2 0).toInt := (congrArg Int32.toInt (show σ159 2 0 = (σ 2 0) from ((congrFun (f161 2 (by decide)) 0).trans (congrFun (f26 2 (by decide)) 0))))
      have z208 : (σ159 55 6).toInt = (σ 55 6).toInt := (congrArg Int32.toInt (show σ159 55 6 = (σ 55 6) from ((congrFun (f161 55 (by decide)) 6).trans (congrFun (f26 55 (by decide)) 6))))
      have z209 : (σ159 2 2).toInt = (σ 2 2).toInt := (congrArg Int32.toInt (show σ159 2 2 = (σ 2 2) from ((congrFun (f161 2 (by decide)) 2).trans (congrFun (f26 2 (by decide)) 2))))
      have z210 : (σ159 55 5).toInt = (σ 55 5).toInt := (congrArg Int32.toInt (show σ159 55 5 = (σ 55 5) from ((congrFun (f161 55 (by decide)) 5).trans (congrFun (f26 55 (by decide)) 5))))
      have z211 : (σ159 2 3).toInt = (σ 2 3).toInt := (congrArg Int32.toInt (show σ159 2 3 = (σ 2 3) from ((congrFun (f161 2 (by decide)) 3).trans (congrFun (f26 2 (by decide)) 3))))
      have z212 : (σ159 55 4).toInt = (σ 55 4).toInt := (congrArg Int32.toInt (show σ159 55 4 = (σ 55 4) from ((congrFun (f161 55 (by decide)) 4).trans (congrFun (f26 55 (by decide)) 4))))
      exact ih x183 σ159 τ159 _ _ ls (by have h9 := tx183; omega) ⟨I184, I185, I186, I187, I188, I189, I190, I191, I192, I193, I194, I195, I196, I197, I198, I199, I200, I201, I202, I162, I203, I204, p205, p206, (by omega), (by omega), (by omega), (show jNumP (σ159 3) (σ159 56) (σ159 6) (σ159 57) (σ159 7) (σ159 58) (σ159 8) (σ159 59) (σ159 55 6).toInt (σ159 55 4).toInt by rw [show σ159 3 = σ 3 from ((f161 3 (by decide)).trans (f26 3 (by decide))), show σ159 56 = σ 56 from ((f161 56 (by decide)).trans (f26 56 (by decide))), show σ159 6 = σ 6 from ((f161 6 (by decide)).trans (f26 6 (by decide))), show σ159 57 = σ 57 from ((f161 57 (by decide)).trans (f26 57 (by decide))), show σ159 7 = σ 7 from ((f161 7 (by decide)).trans (f26 7 (by decide))), show σ159 58 = σ 58 from ((f161 58 (by decide)).trans (f26 58 (by decide))), show σ159 8 = σ 8 from ((f161 8 (by decide)).trans (f26 8 (by decide))), show σ159 59 = σ 59 from ((f161 59 (by decide)).trans (f26 59 (by decide))), show (σ159 55 6).toInt = (σ 55 6).toInt from by omega, show (σ159 55 4).toInt = (σ 55 4).toInt from by omega]; exact hr0)⟩ hP hS (lv_sub hl [0, 1, 2, 3] rfl)
set_option maxHeartbeats 4000000 in
set_option maxRecDepth 100000 in
theorem law_case_32 {p : Program} {e : Env} {s : State} {m : MethodId} {below : List Frame} {meth : Method} {c : Code} (l : Launch) {b L : Nat} {xs : Nat → Int32} {D : va_G} {cI cL : ClassId} {ad zz : Nat → Nat} (C0 : lw_At p s m meth c b L xs) (hJ : jD ad) (hA : ∀ q, jA ad q → s.heap.size ≤ q) (hK : jK D cI cL s) (hZ : jZ zz (fun q : Nat => s.heap.size ≤ q) s s.heap) {x0 : Int32} (hx0 : 0 ≤ x0.toInt) (hxL : x0.toInt + 6 ≤ (L : Int)) (hL : L ≤ 384) {σ : Nat → Nat → Int32} {τ : Nat → Nat → Int64} {H : Heap} {locs : List Loc} (hS : va_S (fun q : Nat => s.heap.size ≤ q) s.heap H locs) {ls : Array Slot} (hAll : jAll σ τ) (hP : jH D cI cL ad σ τ H) (hl : lv_has ls 4 [(3, .int x0), (2, .ref (ad 55)), (1, .ref (ad 0)), (0, .ref b)]) (ih : ∀ (x1 : Int32) (σ : Nat → Nat → Int32) (τ : Nat → Nat → Int64) (H : Heap) (locs : List Loc) (ls : Array Slot), x1.toInt = x0.toInt + 6 → jAll σ τ → jH D cI cL ad σ τ H → va_S (fun q : Nat => s.heap.size ≤ q) s.heap H locs → lv_has ls 4 [(3, .int x1), (2, .ref (ad 55)), (1, .ref (ad 0)), (0, .ref b)] → W p l e room_1 s m #[Value.ref b] below meth c H locs 90 348600 (lw_Z below #[Value.ref b] s) (F0 m 18 ls [])) : W p l e room_1 s m #[Value.ref b] below meth c H locs 90 348600 (lw_Z below #[Value.ref b] s) (F0 m 1132 ls []) := by
  obtain ⟨hx, hb, hr, hml, hown, hts0, hX, hbl, hlocks, hgv⟩ := C0
  have hts : ∀ w ∈ wsL_law, w.before #[Value.ref b] s = true := fun w h => hts0 w (wsL_law_in w h)
  have hbA : ¬ (fun q : Nat => s.heap.size ≤ q) b := Nat.not_le.mpr hbl
  have hown : s.vm.findClass RL = some m.cls := hown
  obtain ⟨hI2, hI9, hI12, hI16, hI18, hI22, hI31, hI38, hI43, hI47, hI50, hI101, hI102, hI103, hI104, hI105, hI106, hI107, hI109, hI110, hI111, hI119, hs_jKept, hs_jBook, ht0, ht1, ht2, hr0⟩ := hAll
  have hL9 : (L : Int) ≤ 384 := by omega
  obtain ⟨i1, i2, i3, i4, i5, w6⟩ : (0 ≤ (σ 2 0).toInt ∧ (σ 2 0).toInt ≤ 4) ∧ (0 ≤ (σ 2 1).toInt ∧ (σ 2 1).toInt ≤ 3) ∧ (0 ≤ (σ 2 2).toInt) ∧ (0 ≤ (σ 2 3).toInt) ∧ ((σ 2 2).toInt + (σ 2 3).toInt ≤ 40) ∧ (∀ k : Nat, k < 40 → 0 ≤ (σ 6 k).toInt ∧ (σ 6 k).toInt ≤ 67) := id hI2
  obtain ⟨i7, i8, i9, w10, w11, w12, w13⟩ : (0 ≤ (σ 55 5).toInt) ∧ ((σ 55 5).toInt ≤ (σ 55 4).toInt) ∧ ((σ 55 4).toInt ≤ 40) ∧ (∀ k : Nat, k < 68 → (-200) ≤ (σ 56 k).toInt ∧ (σ 56 k).toInt ≤ 500) ∧ (∀ k : Nat, k < 40 → 0 ≤ (σ 57 k).toInt ∧ (σ 57 k).toInt ≤ 67) ∧ (∀ k : Nat, k < 40 → (-200) ≤ (σ 58 k).toInt ∧ (σ 58 k).toInt ≤ 500) ∧ (∀ k : Nat, k < 40 → (-200) ≤ (σ 59 k).toInt ∧ (σ 59 k).toInt ≤ 500) := id hI101
  obtain ⟨i14, w15, w16⟩ : (0 ≤ (σ 55 6).toInt ∧ (σ 55 6).toInt ≤ 4) ∧ (∀ k : Nat, k < 4 → 0 ≤ (σ 60 k).toInt ∧ (σ 60 k).toInt ≤ 50) ∧ (∀ k : Nat, k < 4 → 0 ≤ (σ 61 k).toInt ∧ (σ 61 k).toInt ≤ 20) := id hI102
  refine lv_aload_n hx hb dL_law_1132 rfl (lv_at hl 2 rfl) ?_
  refine lv_aload_n hx hb dL_law_1133 rfl (lv_at hl 3 rfl) ?_
  refine lv_iload_n hx hb dL_law_1134 rfl (lv_at hl 0 rfl) ?_
  refine lv_iconst (v := 1) hx hb dL_law_1135 (by decide) ?_
  have g17 := jrg (rfl : x0.toInt = x0.toInt)
  refine lv_iadd hx hb dL_law_1136 ?_
  refine lv_topi (fun x18 ex18 => ?_)
  have tx18 : x18.toInt = x0.toInt + 1 := (jadd ex18 rfl jz_1 (by omega) (by omega)).trans (by omega)
  refine va_sld hx hb hX hbl hbA hS (jin tx18 (by omega) (by omega)) dL_law_1137 ?_
  have g19 := jrg (rfl : (xs x18.toNatClampNeg).toInt = (xs x18.toNatClampNeg).toInt)
  refine lv_aload_n hx hb dL_law_1138 rfl (lv_at hl 3 rfl) ?_
  refine lv_iload_n hx hb dL_law_1139 rfl (lv_at hl 0 rfl) ?_
  refine lv_iconst (v := 2) hx hb dL_law_1140 (by decide) ?_
  refine lv_iadd hx hb dL_law_1141 ?_
  refine lv_topi (fun x20 ex20 => ?_)
  have tx20 : x20.toInt = x0.toInt + 2 := (jadd ex20 rfl jz_2 (by omega) (by omega)).trans (by omega)
  refine va_sld hx hb hX hbl hbA hS (jin tx20 (by omega) (by omega)) dL_law_1142 ?_
  have g21 := jrg (rfl : (xs x20.toNatClampNeg).toInt = (xs x20.toNatClampNeg).toInt)
  refine lv_aload_n hx hb dL_law_1143 rfl (lv_at hl 3 rfl) ?_
  refine lv_iload_n hx hb dL_law_1144 rfl (lv_at hl 0 rfl) ?_
  refine lv_iconst (v := 3) hx hb dL_law_1145 (by decide) ?_
  refine lv_iadd hx hb dL_law_1146 ?_
  refine lv_topi (fun x22 ex22 => ?_)
  have tx22 : x22.toInt = x0.toInt + 3 := (jadd ex22 rfl jz_3 (by omega) (by omega)).trans (by omega)
  refine va_sld hx hb hX hbl hbA hS (jin tx22 (by omega) (by omega)) dL_law_1147 ?_
  have g23 := jrg (rfl : (xs x22.toNatClampNeg).toInt = (xs x22.toNatClampNeg).toInt)
  refine lv_i2l (v := (xs x22.toNatClampNeg).toInt64) hx hb dL_law_1148 rfl ?_
  refine lv_bipush (v := 32) hx hb dL_law_1149 (by decide) ?_
  refine lv_lshl hx hb dL_law_1151 rfl ?_
  refine lv_topl (fun lx24 elx24 => ?_)
  refine lv_aload_n hx hb dL_law_1152 rfl (lv_at hl 3 rfl) ?_
  refine lv_iload_n hx hb dL_law_1153 rfl (lv_at hl 0 rfl) ?_
  refine lv_iconst (v := 4) hx hb dL_law_1154 (by decide) ?_
  refine lv_iadd hx hb dL_law_1155 ?_
  refine lv_topi (fun x25 ex25 => ?_)
  have tx25 : x25.toInt = x0.toInt + 4 := (jadd ex25 rfl jz_4 (by omega) (by omega)).trans (by omega)
  refine va_sld hx hb hX hbl hbA hS (jin tx25 (by omega) (by omega)) dL_law_1156 ?_
  have g26 := jrg (rfl : (xs x25.toNatClampNeg).toInt = (xs x25.toNatClampNeg).toInt)
  refine lv_i2l (v := (xs x25.toNatClampNeg).toInt64) hx hb dL_law_1157 rfl ?_
  refine lv_ldc2 (v := 4294967295) hx hb hown (hts _ kw_1_6) dL_law_1158 ?_
  refine lv_land hx hb dL_law_1161 ?_
  refine lv_topl (fun lx27 elx27 => ?_)
  refine lv_lor hx hb dL_law_1162 ?_
  refine lv_topl (fun lx28 elx28 => ?_)
  refine jcallV (As := [.int (xs x18.toNatClampNeg), .int (xs x20.toNatClampNeg), .long lx28]) (rest := []) ⟨hx, hb, hml, hown, hts⟩ hK hP hA hS hZ (c_X11_put l D cI cL ad zz hJ σ τ (xs x18.toNatClampNeg) ((xs x18.toNatClampNeg).toInt) rfl (xs x20.toNatClampNeg) ((xs x20.toNatClampNeg).toInt) rfl lx28 (lx28.toInt) rfl hI50) cw_RL_147 (jc_0 cI cL ad σ τ) rfl ⟨Nat.le_of_ble_eq_true rfl, Nat.le_of_ble_eq_true rfl⟩ rfl rfl rfl hl.1 rfl (Nat.le_of_ble_eq_true rfl) dL_law_1163 ⟨Nat.le_of_ble_eq_true rfl, Nat.le_of_ble_eq_true rfl⟩ (fun r30 σ29 τ29 H locs h29 hP hS => ?_)
  obtain ⟨f34, f31, w32, w33, h29⟩ := h29
  refine lv_pop hx hb dL_law_1166 rfl ?_
  refine lv_aload_n hx hb dL_law_1167 rfl (lv_at hl 1 rfl) ?_
  refine lv_aload_n hx hb dL_law_1168 rfl (lv_at hl 3 rfl) ?_
  refine lv_iload_n hx hb dL_law_1169 rfl (lv_at hl 0 rfl) ?_
  refine lv_iconst (v := 1) hx hb dL_law_1170 (by decide) ?_
  refine lv_iadd hx hb dL_law_1171 ?_
  refine jtopr ex18.symm ?_
  refine va_sld hx hb hX hbl hbA hS (jin tx18 (by omega) (by omega)) dL_law_1172 ?_
  refine lv_aload_n hx hb dL_law_1173 rfl (lv_at hl 3 rfl) ?_
  refine lv_iload_n hx hb dL_law_1174 rfl (lv_at hl 0 rfl) ?_
  refine lv_iconst (v := 2) hx hb dL_law_1175 (by decide) ?_
  refine lv_iadd hx hb dL_law_1176 ?_
  refine jtopr ex20.symm ?_
  refine va_sld hx hb hX hbl hbA hS (jin tx20 (by omega) (by omega)) dL_law_1177 ?_
  refine lv_aload_n hx hb dL_law_1178 rfl (lv_at hl 3 rfl) ?_
  refine lv_iload_n hx hb dL_law_1179 rfl (lv_at hl 0 rfl) ?_
  refine lv_iconst (v := 3) hx hb dL_law_1180 (by decide) ?_
  refine lv_iadd hx hb dL_law_1181 ?_
  refine jtopr ex22.symm ?_
  refine va_sld hx hb hX hbl hbA hS (jin tx22 (by omega) (by omega)) dL_law_1182 ?_
  refine lv_i2l (v := (xs x22.toNatClampNeg).toInt64) hx hb dL_law_1183 rfl ?_
  refine lv_bipush (v := 32) hx hb dL_law_1184 (by decide) ?_
  refine lv_lshl hx hb dL_law_1186 rfl ?_
  refine lv_topl (fun lx35 elx35 => ?_)
  refine lv_aload_n hx hb dL_law_1187 rfl (lv_at hl 3 rfl) ?_
  refine lv_iload_n hx hb dL_law_1188 rfl (lv_at hl 0 rfl) ?_
  refine lv_iconst (v := 4) hx hb dL_law_1189 (by decide) ?_
  refine lv_iadd hx hb dL_law_1190 ?_
  refine jtopr ex25.symm ?_
  refine va_sld hx hb hX hbl hbA hS (jin tx25 (by omega) (by omega)) dL_law_1191 ?_
  refine lv_i2l (v := (xs x25.toNatClampNeg).toInt64) hx hb dL_law_1192 rfl ?_
  refine lv_ldc2 (v := 4294967295) hx hb hown (hts _ kw_1_6) dL_law_1193 ?_
  refine lv_land hx hb dL_law_1196 ?_
  refine lv_topl (fun lx36 elx36 => ?_)
  refine lv_lor hx hb dL_law_1197 ?_
  refine lv_topl (fun lx37 elx37 => ?_)
  have I38 : jI110 σ29 := jI110_fr (f31 86 (by decide)) (f31 87 (by decide)) hI110
  refine jcallV (As := [.int (xs x18.toNatClampNeg), .int (xs x20.toNatClampNeg), .long lx37]) (rest := []) ⟨hx, hb, hml, hown, hts⟩ hK hP hA hS hZ (c_X12_put l D cI cL ad zz hJ σ29 τ29 (xs x18.toNatClampNeg) ((xs x18.toNatClampNeg).toInt) rfl (xs x20.toNatClampNeg) ((xs x20.toNatClampNeg).toInt) rfl lx37 (lx37.toInt) rfl I38) cw_RL_151 (jc_55 cI cL ad σ29 τ29) rfl ⟨Nat.le_of_ble_eq_true rfl, Nat.le_of_ble_eq_true rfl⟩ rfl rfl rfl hl.1 rfl (Nat.le_of_ble_eq_true rfl) dL_law_1198 ⟨Nat.le_of_ble_eq_true rfl, Nat.le_of_ble_eq_true rfl⟩ (fun r40 σ39 τ39 H locs h39 hP hS => ?_)
  obtain ⟨f44, f41, w42, w43, h39⟩ := h39
  refine lv_pop hx hb dL_law_1201 rfl ?_
  refine lv_goto (tgt := 1357) hx hb dL_law_1202 (by decide) ?_
  obtain ⟨x45, ex45⟩ : ∃ y : Int32, y = x0 + 6 := ⟨_, rfl⟩
  have tx45 : x45.toInt = x0.toInt + 6 := (jadd ex45 rfl jz_6 (by omega) (by omega)).trans (by omega)
  refine lv_iinc (v := x45) (lv' := [(3, .int x45), (2, .ref (ad 55)), (1, .ref (ad 0)), (0, .ref b)]) hx hb dL_law_1357 hl (k := 0) rfl (by rw [ex45]; rfl) (by decide) rfl (fun ls hl => ?_)
  refine lv_goto (tgt := 18) hx hb dL_law_1360 (by decide) ?_
  have I46 : jI2 σ39 := jI2_fr ((congrFun (f41 2 (by decide)) 0).trans (congrFun (f31 2 (by decide)) 0)) ((congrFun (f41 2 (by decide)) 1).trans (congrFun (f31 2 (by decide)) 1)) ((congrFun (f41 2 (by decide)) 2).trans (congrFun (f31 2 (by decide)) 2)) ((congrFun (f41 2 (by decide)) 3).trans (congrFun (f31 2 (by decide)) 3)) ((f41 6 (by decide)).trans (f31 6 (by decide))) hI2
  have I47 : jI9 σ39 := jI9_fr ((congrFun (f41 9 (by decide)) 0).trans (congrFun (f31 9 (by decide)) 0)) ((f41 10 (by decide)).trans (f31 10 (by decide))) ((f41 11 (by decide)).trans (f31 11 (by decide))) hI9
  have I48 : jI12 σ39 := jI12_fr ((congrFun (f41 12 (by decide)) 0).trans (congrFun (f31 12 (by decide)) 0)) ((f41 13 (by decide)).trans (f31 13 (by decide))) hI12
  have I49 : jI16 σ39 := jI16_fr ((congrFun (f41 16 (by decide)) 0).trans (congrFun (f31 16 (by decide)) 0)) ((congrFun (f41 16 (by decide)) 1).trans (congrFun (f31 16 (by decide)) 1)) ((congrFun (f41 16 (by decide)) 2).trans (congrFun (f31 16 (by decide)) 2)) ((f41 17 (by decide)).trans (f31 17 (by decide))) hI16
  have I50 : jI18 σ39 := jI18_fr ((congrFun (f41 18 (by decide)) 0).trans (congrFun (f31 18 (by decide)) 0)) ((f41 19 (by decide)).trans (f31 19 (by decide))) hI18
  have I51 : jI22 σ39 := jI22_fr ((congrFun (f41 22 (by decide)) 0).trans (congrFun (f31 22 (by decide)) 0)) ((f41 23 (by decide)).trans (f31 23 (by decide))) hI22
  have I52 : jI31 σ39 := jI31_fr ((congrFun (f41 31 (by decide)) 8).trans (congrFun (f31 31 (by decide)) 8)) ((f41 33 (by decide)).trans (f31 33 (by decide))) ((f41 36 (by decide)).trans (f31 36 (by decide))) hI31
  have I53 : jI38 σ39 := jI38_fr ((congrFun (f41 38 (by decide)) 0).trans (congrFun (f31 38 (by decide)) 0)) ((congrFun (f41 38 (by decide)) 1).trans (congrFun (f31 38 (by decide)) 1)) ((f41 39 (by decide)).trans (f31 39 (by decide))) hI38
  have I54 : jI43 σ39 := jI43_fr ((congrFun (f41 43 (by decide)) 8).trans (congrFun (f31 43 (by decide)) 8)) hI43
  have I55 : jI47 σ39 := jI47_fr ((congrFun (f41 47 (by decide)) 0).trans (congrFun (f31 47 (by decide)) 0)) ((f41 48 (by decide)).trans (f31 48 (by decide))) ((f41 49 (by decide)).trans (f31 49 (by decide))) hI47
  have I56 : jI50 σ39 := jI50_fr ((f41 52 (by decide)).trans (f31 52 (by decide))) hI50
  have I57 : jI101 σ39 := jI101_fr ((congrFun (f41 55 (by decide)) 4).trans (congrFun (f31 55 (by decide)) 4)) ((congrFun (f41 55 (by decide)) 5).trans (congrFun (f31 55 (by decide)) 5)) ((f41 56 (by decide)).trans (f31 56 (by decide))) ((f41 57 (by decide)).trans (f31 57 (by decide))) ((f41 58 (by decide)).trans (f31 58 (by decide))) ((f41 59 (by decide)).trans (f31 59 (by decide))) hI101
  have I58 : jI102 σ39 := jI102_fr ((congrFun (f41 55 (by decide)) 6).trans (congrFun (f31 55 (by decide)) 6)) ((f41 60 (by decide)).trans (f31 60 (by decide))) ((f41 61 (by decide)).trans (f31 61 (by decide))) hI102
  have I59 : jI103 σ39 := jI103_fr ((congrFun (f41 55 (by decide)) 9).trans (congrFun (f31 55 (by decide)) 9)) hI103
  have I60 : jI104 σ39 := jI104_fr ((congrFun (f41 55 (by decide)) 10).trans (congrFun (f31 55 (by decide)) 10)) ((congrFun (f41 55 (by decide)) 12).trans (congrFun (f31 55 (by decide)) 12)) ((congrFun (f41 55 (by decide)) 13).trans (congrFun (f31 55 (by decide)) 13)) ((f41 62 (by decide)).trans (f31 62 (by decide))) ((f41 67 (by decide)).trans (f31 67 (by decide))) hI104
  have I61 : jI105 σ39 := jI105_fr ((congrFun (f41 55 (by decide)) 15).trans (congrFun (f31 55 (by decide)) 15)) ((f41 65 (by decide)).trans (f31 65 (by decide))) hI105
  have I62 : jI106 σ39 := jI106_fr ((congrFun (f41 55 (by decide)) 32).trans (congrFun (f31 55 (by decide)) 32)) ((f41 70 (by decide)).trans (f31 70 (by decide))) ((f41 71 (by decide)).trans (f31 71 (by decide))) ((f41 72 (by decide)).trans (f31 72 (by decide))) hI106
  have I63 : jI107 σ39 := jI107_fr ((congrFun (f41 55 (by decide)) 12).trans (congrFun (f31 55 (by decide)) 12)) ((congrFun (f41 55 (by decide)) 47).trans (congrFun (f31 55 (by decide)) 47)) ((f41 80 (by decide)).trans (f31 80 (by decide))) hI107
  have I64 : jI109 σ39 := jI109_fr ((congrFun (f41 55 (by decide)) 50).trans (congrFun (f31 55 (by decide)) 50)) hI109
  have I65 : jI110 σ39 := jI110_fr (f41 86 (by decide)) (f41 87 (by decide)) I38
  have I66 : jI111 σ39 := jI111_fr ((f41 79 (by decide)).trans (f31 79 (by decide))) hI111
  have I67 : jI119 σ39 := jI119_fr ((f41 68 (by decide)).trans (f31 68 (by decide))) hI119
  have p68 : jKept σ39 := jKept.fr ((f41 75 (by decide)).trans (f31 75 (by decide))) ((f41 76 (by decide)).trans (f31 76 (by decide))) ((f41 77 (by decide)).trans (f31 77 (by decide))) hs_jKept
  have p69 : jBook σ39 := jBook.fr ((congrFun (f41 55 (by decide)) 47).trans (congrFun (f31 55 (by decide)) 47)) ((congrFun (f41 55 (by decide)) 10).trans (congrFun (f31 55 (by decide)) 10)) ((f41 81 (by decide)).trans (f31 81 (by decide))) hs_jBook
  have z70 : (σ39 2 0).toInt = (σ 2 0).toInt := (congrArg Int32.toInt (show σ39 2 0 = (σ 2 0) from ((congrFun (f41 2 (by decide)) 0).trans (congrFun (f31 2 (by decide)) 0))))
  have z71 : (σ39 55 6).toInt = (σ 55 6).toInt := (congrArg Int32.toInt (show σ39 55 6 = (σ 55 6) from ((congrFun (f41 55 (by decide)) 6).trans (congrFun (f31 55 (by decide)) 6))))
  have z72 : (σ39 2 2).toInt = (σ 2 2).toInt := (congrArg Int32.toInt (show σ39 2 2 = (σ 2 2) from ((congrFun (f41 2 (by decide)) 2).trans (congrFun (f31 2 (by decide)) 2))))
  have z73 : (σ39 55 5).toInt = (σ 55 5).toInt := (congrArg Int32.toInt (show σ39 55 5 = (σ 55 5) from ((congrFun (f41 55 (by decide)) 5).trans (congrFun (f31 55 (by decide)) 5))))
  have z74 : (σ39 2 3).toInt = (σ 2 3).toInt := (congrArg Int32.toInt (show σ39 2 3 = (σ 2 3) from ((congrFun (f41 2 (by decide)) 3).trans (congrFun (f31 2 (by decide)) 3))))
  have z75 : (σ39 55 4).toInt = (σ 55 4).toInt := (congrArg Int32.toInt (show σ39 55 4 = (σ 55 4) from ((congrFun (f41 55 (by decide)) 4).trans (congrFun (f31 55 (by decide)) 4))))
  exact ih x45 σ39 τ39 _ _ ls (by have h9 := tx45; omega) ⟨I46, I47, I48, I49, I50, I51, I52, I53, I54, I55, I56, I57, I58, I59, I60, I61, I62, I63, I64, I65, I66, I67, p68, p69, (by omega), (by omega), (by omega), (show jNumP (σ39 3) (σ39 56) (σ39 6) (σ39 57) (σ39 7) (σ39 58) (σ39 8) (σ39 59) (σ39 55 6).toInt (σ39 55 4).toInt by rw [show σ39 3 = σ 3 from ((f41 3 (by decide)).trans (f31 3 (by decide))), show σ39 56 = σ 56 from ((f41 56 (by decide)).trans (f31 56 (by decide))), show σ39 6 = σ 6 from ((f41 6 (by decide)).trans (f31 6 (by decide))), show σ39 57 = σ 57 from ((f41 57 (by decide)).trans (f31 57 (by decide))), show σ39 7 = σ 7 from ((f41 7 (by decide)).trans (f31 7 (by decide))), show σ39 58 = σ 58 from ((f41 58 (by decide)).trans (f31 58 (by decide))), show σ39 8 = σ 8 from ((f41 8 (by decide)).trans (f31 8 (by decide))), show σ39 59 = σ 59 from ((f41 59 (by decide)).trans (f31 59 (by decide))), show (σ39 55 6).toInt = (σ 55 6).toInt from by omega, show (σ39 55 4).toInt = (σ 55 4).toInt from by omega]; exact hr0)⟩ hP hS (lv_sub hl [0, 1, 2, 3] rfl)
set_option maxHeartbeats 4000000 in
set_option maxRecDepth 100000 in
theorem law_case_33 {p : Program} {e : Env} {s : State} {m : MethodId} {below : List Frame} {meth : Method} {c : Code} (l : Launch) {b L : Nat} {xs : Nat → Int32} {D : va_G} {cI cL : ClassId} {ad zz : Nat → Nat} (C0 : lw_At p s m meth c b L xs) (hJ : jD ad) (hA : ∀ q, jA ad q → s.heap.size ≤ q) (hK : jK D cI cL s) (hZ : jZ zz (fun q : Nat => s.heap.size ≤ q) s s.heap) {x0 : Int32} (hx0 : 0 ≤ x0.toInt) (hxL : x0.toInt + 6 ≤ (L : Int)) (hL : L ≤ 384) {σ : Nat → Nat → Int32} {τ : Nat → Nat → Int64} {H : Heap} {locs : List Loc} (hS : va_S (fun q : Nat => s.heap.size ≤ q) s.heap H locs) {ls : Array Slot} (hAll : jAll σ τ) (hP : jH D cI cL ad σ τ H) (hl : lv_has ls 4 [(3, .int x0), (2, .ref (ad 55)), (1, .ref (ad 0)), (0, .ref b)]) (ih : ∀ (x1 : Int32) (σ : Nat → Nat → Int32) (τ : Nat → Nat → Int64) (H : Heap) (locs : List Loc) (ls : Array Slot), x1.toInt = x0.toInt + 6 → jAll σ τ → jH D cI cL ad σ τ H → va_S (fun q : Nat => s.heap.size ≤ q) s.heap H locs → lv_has ls 4 [(3, .int x1), (2, .ref (ad 55)), (1, .ref (ad 0)), (0, .ref b)] → W p l e room_1 s m #[Value.ref b] below meth c H locs 90 348600 (lw_Z below #[Value.ref b] s) (F0 m 18 ls [])) : W p l e room_1 s m #[Value.ref b] below meth c H locs 90 348600 (lw_Z below #[Value.ref b] s) (F0 m 1205 ls []) := by
  obtain ⟨hx, hb, hr, hml, hown, hts0, hX, hbl, hlocks, hgv⟩ := C0
  have hts : ∀ w ∈ wsL_law, w.before #[Value.ref b] s = true := fun w h => hts0 w (wsL_law_in w h)
  have hbA : ¬ (fun q : Nat => s.heap.size ≤ q) b := Nat.not_le.mpr hbl
  have hown : s.vm.findClass RL = some m.cls := hown
  obtain ⟨hI2, hI9, hI12, hI16, hI18, hI22, hI31, hI38, hI43, hI47, hI50, hI101, hI102, hI103, hI104, hI105, hI106, hI107, hI109, hI110, hI111, hI119, hs_jKept, hs_jBook, ht0, ht1, ht2, hr0⟩ := hAll
  have hL9 : (L : Int) ≤ 384 := by omega
  obtain ⟨i1, i2, i3, i4, i5, w6⟩ : (0 ≤ (σ 2 0).toInt ∧ (σ 2 0).toInt ≤ 4) ∧ (0 ≤ (σ 2 1).toInt ∧ (σ 2 1).toInt ≤ 3) ∧ (0 ≤ (σ 2 2).toInt) ∧ (0 ≤ (σ 2 3).toInt) ∧ ((σ 2 2).toInt + (σ 2 3).toInt ≤ 40) ∧ (∀ k : Nat, k < 40 → 0 ≤ (σ 6 k).toInt ∧ (σ 6 k).toInt ≤ 67) := id hI2
  obtain ⟨i7, i8, i9, w10, w11, w12, w13⟩ : (0 ≤ (σ 55 5).toInt) ∧ ((σ 55 5).toInt ≤ (σ 55 4).toInt) ∧ ((σ 55 4).toInt ≤ 40) ∧ (∀ k : Nat, k < 68 → (-200) ≤ (σ 56 k).toInt ∧ (σ 56 k).toInt ≤ 500) ∧ (∀ k : Nat, k < 40 → 0 ≤ (σ 57 k).toInt ∧ (σ 57 k).toInt ≤ 67) ∧ (∀ k : Nat, k < 40 → (-200) ≤ (σ 58 k).toInt ∧ (σ 58 k).toInt ≤ 500) ∧ (∀ k : Nat, k < 40 → (-200) ≤ (σ 59 k).toInt ∧ (σ 59 k).toInt ≤ 500) := id hI101
  obtain ⟨i14, w15, w16⟩ : (0 ≤ (σ 55 6).toInt ∧ (σ 55 6).toInt ≤ 4) ∧ (∀ k : Nat, k < 4 → 0 ≤ (σ 60 k).toInt ∧ (σ 60 k).toInt ≤ 50) ∧ (∀ k : Nat, k < 4 → 0 ≤ (σ 61 k).toInt ∧ (σ 61 k).toInt ≤ 20) := id hI102
  refine lv_aload_n hx hb dL_law_1205 rfl (lv_at hl 2 rfl) ?_
  refine lv_aload_n hx hb dL_law_1206 rfl (lv_at hl 3 rfl) ?_
  refine lv_iload_n hx hb dL_law_1207 rfl (lv_at hl 0 rfl) ?_
  refine lv_iconst (v := 1) hx hb dL_law_1208 (by decide) ?_
  have g17 := jrg (rfl : x0.toInt = x0.toInt)
  refine lv_iadd hx hb dL_law_1209 ?_
  refine lv_topi (fun x18 ex18 => ?_)
  have tx18 : x18.toInt = x0.toInt + 1 := (jadd ex18 rfl jz_1 (by omega) (by omega)).trans (by omega)
  refine va_sld hx hb hX hbl hbA hS (jin tx18 (by omega) (by omega)) dL_law_1210 ?_
  have g19 := jrg (rfl : (xs x18.toNatClampNeg).toInt = (xs x18.toNatClampNeg).toInt)
  refine lv_aload_n hx hb dL_law_1211 rfl (lv_at hl 3 rfl) ?_
  refine lv_iload_n hx hb dL_law_1212 rfl (lv_at hl 0 rfl) ?_
  refine lv_iconst (v := 2) hx hb dL_law_1213 (by decide) ?_
  refine lv_iadd hx hb dL_law_1214 ?_
  refine lv_topi (fun x20 ex20 => ?_)
  have tx20 : x20.toInt = x0.toInt + 2 := (jadd ex20 rfl jz_2 (by omega) (by omega)).trans (by omega)
  refine va_sld hx hb hX hbl hbA hS (jin tx20 (by omega) (by omega)) dL_law_1215 ?_
  have g21 := jrg (rfl : (xs x20.toNatClampNeg).toInt = (xs x20.toNatClampNeg).toInt)
  refine jcallVl (As := [.int (xs x18.toNatClampNeg), .int (xs x20.toNatClampNeg)]) (rest := []) ⟨hx, hb, hml, hown, hts⟩ hK hP hA hS hZ (c_X11_element l D cI cL ad zz hJ σ τ (xs x18.toNatClampNeg) ((xs x18.toNatClampNeg).toInt) rfl (xs x20.toNatClampNeg) ((xs x20.toNatClampNeg).toInt) rfl hI50) cw_RL_152 (jc_0 cI cL ad σ τ) rfl ⟨Nat.le_of_ble_eq_true rfl, Nat.le_of_ble_eq_true rfl⟩ rfl rfl rfl hl.1 rfl (Nat.le_of_ble_eq_true rfl) dL_law_1216 ⟨Nat.le_of_ble_eq_true rfl, Nat.le_of_ble_eq_true rfl⟩ (fun lxr23 σ22 τ22 H locs h22 hP hS => ?_)
  obtain ⟨⟨rfl, rfl⟩, w24, h22⟩ := h22
  refine lv_pop2_2 hx hb dL_law_1219 rfl ?_
  refine lv_aload_n hx hb dL_law_1220 rfl (lv_at hl 1 rfl) ?_
  refine lv_aload_n hx hb dL_law_1221 rfl (lv_at hl 3 rfl) ?_
  refine lv_iload_n hx hb dL_law_1222 rfl (lv_at hl 0 rfl) ?_
  refine lv_iconst (v := 1) hx hb dL_law_1223 (by decide) ?_
  refine lv_iadd hx hb dL_law_1224 ?_
  refine jtopr ex18.symm ?_
  refine va_sld hx hb hX hbl hbA hS (jin tx18 (by omega) (by omega)) dL_law_1225 ?_
  refine lv_aload_n hx hb dL_law_1226 rfl (lv_at hl 3 rfl) ?_
  refine lv_iload_n hx hb dL_law_1227 rfl (lv_at hl 0 rfl) ?_
  refine lv_iconst (v := 2) hx hb dL_law_1228 (by decide) ?_
  refine lv_iadd hx hb dL_law_1229 ?_
  refine jtopr ex20.symm ?_
  refine va_sld hx hb hX hbl hbA hS (jin tx20 (by omega) (by omega)) dL_law_1230 ?_
  refine jcallVl (As := [.int (xs x18.toNatClampNeg), .int (xs x20.toNatClampNeg)]) (rest := []) ⟨hx, hb, hml, hown, hts⟩ hK hP hA hS hZ (c_X12_element l D cI cL ad zz hJ σ τ (xs x18.toNatClampNeg) ((xs x18.toNatClampNeg).toInt) rfl (xs x20.toNatClampNeg) ((xs x20.toNatClampNeg).toInt) rfl hI110) cw_RL_156 (jc_55 cI cL ad σ τ) rfl ⟨Nat.le_of_ble_eq_true rfl, Nat.le_of_ble_eq_true rfl⟩ rfl rfl rfl hl.1 rfl (Nat.le_of_ble_eq_true rfl) dL_law_1231 ⟨Nat.le_of_ble_eq_true rfl, Nat.le_of_ble_eq_true rfl⟩ (fun lxr26 σ25 τ25 H locs h25 hP hS => ?_)
  obtain ⟨⟨rfl, rfl⟩, w27, h25⟩ := h25
  refine lv_pop2_2 hx hb dL_law_1234 rfl ?_
  refine lv_goto (tgt := 1357) hx hb dL_law_1235 (by decide) ?_
  obtain ⟨x28, ex28⟩ : ∃ y : Int32, y = x0 + 6 := ⟨_, rfl⟩
  have tx28 : x28.toInt = x0.toInt + 6 := (jadd ex28 rfl jz_6 (by omega) (by omega)).trans (by omega)
  refine lv_iinc (v := x28) (lv' := [(3, .int x28), (2, .ref (ad 55)), (1, .ref (ad 0)), (0, .ref b)]) hx hb dL_law_1357 hl (k := 0) rfl (by rw [ex28]; rfl) (by decide) rfl (fun ls hl => ?_)
  refine lv_goto (tgt := 18) hx hb dL_law_1360 (by decide) ?_
  exact ih x28 σ τ _ _ ls (by have h9 := tx28; omega) ⟨hI2, hI9, hI12, hI16, hI18, hI22, hI31, hI38, hI43, hI47, hI50, hI101, hI102, hI103, hI104, hI105, hI106, hI107, hI109, hI110, hI111, hI119, hs_jKept, hs_jBook, (by omega), (by omega), (by omega), hr0⟩ hP hS (lv_sub hl [0, 1, 2, 3] rfl)
set_option maxHeartbeats 4000000 in
set_option maxRecDepth 100000 in
theorem law_case_34 {p : Program} {e : Env} {s : State} {m : MethodId} {below : List Frame} {meth : Method} {c : Code} (l : Launch) {b L : Nat} {xs : Nat → Int32} {D : va_G} {cI cL : ClassId} {ad zz : Nat → Nat} (C0 : lw_At p s m meth c b L xs) (hJ : jD ad) (hA : ∀ q, jA ad q → s.heap.size ≤ q) (hK : jK D cI cL s) (hZ : jZ zz (fun q : Nat => s.heap.size ≤ q) s s.heap) {x0 : Int32} (hx0 : 0 ≤ x0.toInt) (hxL : x0.toInt + 6 ≤ (L : Int)) (hL : L ≤ 384) {σ : Nat → Nat → Int32} {τ : Nat → Nat → Int64} {H : Heap} {locs : List Loc} (hS : va_S (fun q : Nat => s.heap.size ≤ q) s.heap H locs) {ls : Array Slot} (hAll : jAll σ τ) (hP : jH D cI cL ad σ τ H) (hl : lv_has ls 4 [(3, .int x0), (2, .ref (ad 55)), (1, .ref (ad 0)), (0, .ref b)]) (ih : ∀ (x1 : Int32) (σ : Nat → Nat → Int32) (τ : Nat → Nat → Int64) (H : Heap) (locs : List Loc) (ls : Array Slot), x1.toInt = x0.toInt + 6 → jAll σ τ → jH D cI cL ad σ τ H → va_S (fun q : Nat => s.heap.size ≤ q) s.heap H locs → lv_has ls 4 [(3, .int x1), (2, .ref (ad 55)), (1, .ref (ad 0)), (0, .ref b)] → W p l e room_1 s m #[Value.ref b] below meth c H locs 90 348600 (lw_Z below #[Value.ref b] s) (F0 m 18 ls [])) : W p l e room_1 s m #[Value.ref b] below meth c H locs 90 348600 (lw_Z below #[Value.ref b] s) (F0 m 1238 ls []) := by
  obtain ⟨hx, hb, hr, hml, hown, hts0, hX, hbl, hlocks, hgv⟩ := C0
  have hts : ∀ w ∈ wsL_law, w.before #[Value.ref b] s = true := fun w h => hts0 w (wsL_law_in w h)
  have hbA : ¬ (fun q : Nat => s.heap.size ≤ q) b := Nat.not_le.mpr hbl
  have hown : s.vm.findClass RL = some m.cls := hown
  obtain ⟨hI2, hI9, hI12, hI16, hI18, hI22, hI31, hI38, hI43, hI47, hI50, hI101, hI102, hI103, hI104, hI105, hI106, hI107, hI109, hI110, hI111, hI119, hs_jKept, hs_jBook, ht0, ht1, ht2, hr0⟩ := hAll
  have hL9 : (L : Int) ≤ 384 := by omega
  obtain ⟨i1, i2, i3, i4, i5, w6⟩ : (0 ≤ (σ 2 0).toInt ∧ (σ 2 0).toInt ≤ 4) ∧ (0 ≤ (σ 2 1).toInt ∧ (σ 2 1).toInt ≤ 3) ∧ (0 ≤ (σ 2 2).toInt) ∧ (0 ≤ (σ 2 3).toInt) ∧ ((σ 2 2).toInt + (σ 2 3).toInt ≤ 40) ∧ (∀ k : Nat, k < 40 → 0 ≤ (σ 6 k).toInt ∧ (σ 6 k).toInt ≤ 67) := id hI2
  obtain ⟨i7, i8, i9, w10, w11, w12, w13⟩ : (0 ≤ (σ 55 5).toInt) ∧ ((σ 55 5).toInt ≤ (σ 55 4).toInt) ∧ ((σ 55 4).toInt ≤ 40) ∧ (∀ k : Nat, k < 68 → (-200) ≤ (σ 56 k).toInt ∧ (σ 56 k).toInt ≤ 500) ∧ (∀ k : Nat, k < 40 → 0 ≤ (σ 57 k).toInt ∧ (σ 57 k).toInt ≤ 67) ∧ (∀ k : Nat, k < 40 → (-200) ≤ (σ 58 k).toInt ∧ (σ 58 k).toInt ≤ 500) ∧ (∀ k : Nat, k < 40 → (-200) ≤ (σ 59 k).toInt ∧ (σ 59 k).toInt ≤ 500) := id hI101
  obtain ⟨i14, w15, w16⟩ : (0 ≤ (σ 55 6).toInt ∧ (σ 55 6).toInt ≤ 4) ∧ (∀ k : Nat, k < 4 → 0 ≤ (σ 60 k).toInt ∧ (σ 60 k).toInt ≤ 50) ∧ (∀ k : Nat, k < 4 → 0 ≤ (σ 61 k).toInt ∧ (σ 61 k).toInt ≤ 20) := id hI102
  refine lv_aload_n hx hb dL_law_1238 rfl (lv_at hl 2 rfl) ?_
  refine lv_aload_n hx hb dL_law_1239 rfl (lv_at hl 3 rfl) ?_
  refine lv_iload_n hx hb dL_law_1240 rfl (lv_at hl 0 rfl) ?_
  refine lv_iconst (v := 1) hx hb dL_law_1241 (by decide) ?_
  have g17 := jrg (rfl : x0.toInt = x0.toInt)
  refine lv_iadd hx hb dL_law_1242 ?_
  refine lv_topi (fun x18 ex18 => ?_)
  have tx18 : x18.toInt = x0.toInt + 1 := (jadd ex18 rfl jz_1 (by omega) (by omega)).trans (by omega)
  refine va_sld hx hb hX hbl hbA hS (jin tx18 (by omega) (by omega)) dL_law_1243 ?_
  have g19 := jrg (rfl : (xs x18.toNatClampNeg).toInt = (xs x18.toNatClampNeg).toInt)
  refine lv_aload_n hx hb dL_law_1244 rfl (lv_at hl 3 rfl) ?_
  refine lv_iload_n hx hb dL_law_1245 rfl (lv_at hl 0 rfl) ?_
  refine lv_iconst (v := 2) hx hb dL_law_1246 (by decide) ?_
  refine lv_iadd hx hb dL_law_1247 ?_
  refine lv_topi (fun x20 ex20 => ?_)
  have tx20 : x20.toInt = x0.toInt + 2 := (jadd ex20 rfl jz_2 (by omega) (by omega)).trans (by omega)
  refine va_sld hx hb hX hbl hbA hS (jin tx20 (by omega) (by omega)) dL_law_1248 ?_
  have g21 := jrg (rfl : (xs x20.toNatClampNeg).toInt = (xs x20.toNatClampNeg).toInt)
  refine lv_aload_n hx hb dL_law_1249 rfl (lv_at hl 3 rfl) ?_
  refine lv_iload_n hx hb dL_law_1250 rfl (lv_at hl 0 rfl) ?_
  refine lv_iconst (v := 3) hx hb dL_law_1251 (by decide) ?_
  refine lv_iadd hx hb dL_law_1252 ?_
  refine lv_topi (fun x22 ex22 => ?_)
  have tx22 : x22.toInt = x0.toInt + 3 := (jadd ex22 rfl jz_3 (by omega) (by omega)).trans (by omega)
  refine va_sld hx hb hX hbl hbA hS (jin tx22 (by omega) (by omega)) dL_law_1253 ?_
  have g23 := jrg (rfl : (xs x22.toNatClampNeg).toInt = (xs x22.toNatClampNeg).toInt)
  refine lv_aload_n hx hb dL_law_1254 rfl (lv_at hl 3 rfl) ?_
  refine lv_iload_n hx hb dL_law_1255 rfl (lv_at hl 0 rfl) ?_
  refine lv_iconst (v := 4) hx hb dL_law_1256 (by decide) ?_
  refine lv_iadd hx hb dL_law_1257 ?_
  refine lv_topi (fun x24 ex24 => ?_)
  have tx24 : x24.toInt = x0.toInt + 4 := (jadd ex24 rfl jz_4 (by omega) (by omega)).trans (by omega)
  refine va_sld hx hb hX hbl hbA hS (jin tx24 (by omega) (by omega)) dL_law_1258 ?_
  have g25 := jrg (rfl : (xs x24.toNatClampNeg).toInt = (xs x24.toNatClampNeg).toInt)
  refine lv_aload_n hx hb dL_law_1259 rfl (lv_at hl 3 rfl) ?_
  refine lv_iload_n hx hb dL_law_1260 rfl (lv_at hl 0 rfl) ?_
  refine lv_iconst (v := 5) hx hb dL_law_1261 (by decide) ?_
  refine lv_iadd hx hb dL_law_1262 ?_
  refine lv_topi (fun x26 ex26 => ?_)
  have tx26 : x26.toInt = x0.toInt + 5 := (jadd ex26 rfl jz_5 (by omega) (by omega)).trans (by omega)
  refine va_sld hx hb hX hbl hbA hS (jin tx26 (by omega) (by omega)) dL_law_1263 ?_
  have g27 := jrg (rfl : (xs x26.toNatClampNeg).toInt = (xs x26.toNatClampNeg).toInt)
  refine jcallV (As := [.int (xs x18.toNatClampNeg), .int (xs x20.toNatClampNeg), .int (xs x22.toNatClampNeg), .int (xs x24.toNatClampNeg), .int (xs x26.toNatClampNeg)]) (rest := []) ⟨hx, hb, hml, hown, hts⟩ hK hP hA hS hZ (c_X11_shift l D cI cL ad zz hJ σ τ (xs x18.toNatClampNeg) ((xs x18.toNatClampNeg).toInt) rfl (xs x20.toNatClampNeg) ((xs x20.toNatClampNeg).toInt) rfl (xs x22.toNatClampNeg) ((xs x22.toNatClampNeg).toInt) rfl (xs x24.toNatClampNeg) ((xs x24.toNatClampNeg).toInt) rfl (xs x26.toNatClampNeg) ((xs x26.toNatClampNeg).toInt) rfl hI50) cw_RL_157 (jc_0 cI cL ad σ τ) rfl ⟨Nat.le_of_ble_eq_true rfl, Nat.le_of_ble_eq_true rfl⟩ rfl rfl rfl hl.1 rfl (Nat.le_of_ble_eq_true rfl) dL_law_1264 ⟨Nat.le_of_ble_eq_true rfl, Nat.le_of_ble_eq_true rfl⟩ (fun r29 σ28 τ28 H locs h28 hP hS => ?_)
  obtain ⟨f33, f30, w31, w32, h28⟩ := h28
  refine lv_pop hx hb dL_law_1267 rfl ?_
  refine lv_aload_n hx hb dL_law_1268 rfl (lv_at hl 1 rfl) ?_
  refine lv_aload_n hx hb dL_law_1269 rfl (lv_at hl 3 rfl) ?_
  refine lv_iload_n hx hb dL_law_1270 rfl (lv_at hl 0 rfl) ?_
  refine lv_iconst (v := 1) hx hb dL_law_1271 (by decide) ?_
  refine lv_iadd hx hb dL_law_1272 ?_
  refine jtopr ex18.symm ?_
  refine va_sld hx hb hX hbl hbA hS (jin tx18 (by omega) (by omega)) dL_law_1273 ?_
  refine lv_aload_n hx hb dL_law_1274 rfl (lv_at hl 3 rfl) ?_
  refine lv_iload_n hx hb dL_law_1275 rfl (lv_at hl 0 rfl) ?_
  refine lv_iconst (v := 2) hx hb dL_law_1276 (by decide) ?_
  refine lv_iadd hx hb dL_law_1277 ?_
  refine jtopr ex20.symm ?_
  refine va_sld hx hb hX hbl hbA hS (jin tx20 (by omega) (by omega)) dL_law_1278 ?_
  refine lv_aload_n hx hb dL_law_1279 rfl (lv_at hl 3 rfl) ?_
  refine lv_iload_n hx hb dL_law_1280 rfl (lv_at hl 0 rfl) ?_
  refine lv_iconst (v := 3) hx hb dL_law_1281 (by decide) ?_
  refine lv_iadd hx hb dL_law_1282 ?_
  refine jtopr ex22.symm ?_
  refine va_sld hx hb hX hbl hbA hS (jin tx22 (by omega) (by omega)) dL_law_1283 ?_
  refine lv_aload_n hx hb dL_law_1284 rfl (lv_at hl 3 rfl) ?_
  refine lv_iload_n hx hb dL_law_1285 rfl (lv_at hl 0 rfl) ?_
  refine lv_iconst (v := 4) hx hb dL_law_1286 (by decide) ?_
  refine lv_iadd hx hb dL_law_1287 ?_
  refine jtopr ex24.symm ?_
  refine va_sld hx hb hX hbl hbA hS (jin tx24 (by omega) (by omega)) dL_law_1288 ?_
  refine lv_aload_n hx hb dL_law_1289 rfl (lv_at hl 3 rfl) ?_
  refine lv_iload_n hx hb dL_law_1290 rfl (lv_at hl 0 rfl) ?_
  refine lv_iconst (v := 5) hx hb dL_law_1291 (by decide) ?_
  refine lv_iadd hx hb dL_law_1292 ?_
  refine jtopr ex26.symm ?_
  refine va_sld hx hb hX hbl hbA hS (jin tx26 (by omega) (by omega)) dL_law_1293 ?_
  have I34 : jI110 σ28 := jI110_fr (f30 86 (by decide)) (f30 87 (by decide)) hI110
  refine jcallV (As := [.int (xs x18.toNatClampNeg), .int (xs x20.toNatClampNeg), .int (xs x22.toNatClampNeg), .int (xs x24.toNatClampNeg), .int (xs x26.toNatClampNeg)]) (rest := []) ⟨hx, hb, hml, hown, hts⟩ hK hP hA hS hZ (c_X12_shift l D cI cL ad zz hJ σ28 τ28 (xs x18.toNatClampNeg) ((xs x18.toNatClampNeg).toInt) rfl (xs x20.toNatClampNeg) ((xs x20.toNatClampNeg).toInt) rfl (xs x22.toNatClampNeg) ((xs x22.toNatClampNeg).toInt) rfl (xs x24.toNatClampNeg) ((xs x24.toNatClampNeg).toInt) rfl (xs x26.toNatClampNeg) ((xs x26.toNatClampNeg).toInt) rfl I34) cw_RL_161 (jc_55 cI cL ad σ28 τ28) rfl ⟨Nat.le_of_ble_eq_true rfl, Nat.le_of_ble_eq_true rfl⟩ rfl rfl rfl hl.1 rfl (Nat.le_of_ble_eq_true rfl) dL_law_1294 ⟨Nat.le_of_ble_eq_true rfl, Nat.le_of_ble_eq_true rfl⟩ (fun r36 σ35 τ35 H locs h35 hP hS => ?_)
  obtain ⟨f40, f37, w38, w39, h35⟩ := h35
  refine lv_pop hx hb dL_law_1297 rfl ?_
  refine lv_goto (tgt := 1357) hx hb dL_law_1298 (by decide) ?_
  obtain ⟨x41, ex41⟩ : ∃ y : Int32, y = x0 + 6 := ⟨_, rfl⟩
  have tx41 : x41.toInt = x0.toInt + 6 := (jadd ex41 rfl jz_6 (by omega) (by omega)).trans (by omega)
  refine lv_iinc (v := x41) (lv' := [(3, .int x41), (2, .ref (ad 55)), (1, .ref (ad 0)), (0, .ref b)]) hx hb dL_law_1357 hl (k := 0) rfl (by rw [ex41]; rfl) (by decide) rfl (fun ls hl => ?_)
  refine lv_goto (tgt := 18) hx hb dL_law_1360 (by decide) ?_
  have I42 : jI2 σ35 := jI2_fr ((congrFun (f37 2 (by decide)) 0).trans (congrFun (f30 2 (by decide)) 0)) ((congrFun (f37 2 (by decide)) 1).trans (congrFun (f30 2 (by decide)) 1)) ((congrFun (f37 2 (by decide)) 2).trans (congrFun (f30 2 (by decide)) 2)) ((congrFun (f37 2 (by decide)) 3).trans (congrFun (f30 2 (by decide)) 3)) ((f37 6 (by decide)).trans (f30 6 (by decide))) hI2
  have I43 : jI9 σ35 := jI9_fr ((congrFun (f37 9 (by decide)) 0).trans (congrFun (f30 9 (by decide)) 0)) ((f37 10 (by decide)).trans (f30 10 (by decide))) ((f37 11 (by decide)).trans (f30 11 (by decide))) hI9
  have I44 : jI12 σ35 := jI12_fr ((congrFun (f37 12 (by decide)) 0).trans (congrFun (f30 12 (by decide)) 0)) ((f37 13 (by decide)).trans (f30 13 (by decide))) hI12
  have I45 : jI16 σ35 := jI16_fr ((congrFun (f37 16 (by decide)) 0).trans (congrFun (f30 16 (by decide)) 0)) ((congrFun (f37 16 (by decide)) 1).trans (congrFun (f30 16 (by decide)) 1)) ((congrFun (f37 16 (by decide)) 2).trans (congrFun (f30 16 (by decide)) 2)) ((f37 17 (by decide)).trans (f30 17 (by decide))) hI16
  have I46 : jI18 σ35 := jI18_fr ((congrFun (f37 18 (by decide)) 0).trans (congrFun (f30 18 (by decide)) 0)) ((f37 19 (by decide)).trans (f30 19 (by decide))) hI18
  have I47 : jI22 σ35 := jI22_fr ((congrFun (f37 22 (by decide)) 0).trans (congrFun (f30 22 (by decide)) 0)) ((f37 23 (by decide)).trans (f30 23 (by decide))) hI22
  have I48 : jI31 σ35 := jI31_fr ((congrFun (f37 31 (by decide)) 8).trans (congrFun (f30 31 (by decide)) 8)) ((f37 33 (by decide)).trans (f30 33 (by decide))) ((f37 36 (by decide)).trans (f30 36 (by decide))) hI31
  have I49 : jI38 σ35 := jI38_fr ((congrFun (f37 38 (by decide)) 0).trans (congrFun (f30 38 (by decide)) 0)) ((congrFun (f37 38 (by decide)) 1).trans (congrFun (f30 38 (by decide)) 1)) ((f37 39 (by decide)).trans (f30 39 (by decide))) hI38
  have I50 : jI43 σ35 := jI43_fr ((congrFun (f37 43 (by decide)) 8).trans (congrFun (f30 43 (by decide)) 8)) hI43
  have I51 : jI47 σ35 := jI47_fr ((congrFun (f37 47 (by decide)) 0).trans (congrFun (f30 47 (by decide)) 0)) ((f37 48 (by decide)).trans (f30 48 (by decide))) ((f37 49 (by decide)).trans (f30 49 (by decide))) hI47
  have I52 : jI50 σ35 := jI50_fr ((f37 52 (by decide)).trans (f30 52 (by decide))) hI50
  have I53 : jI101 σ35 := jI101_fr ((congrFun (f37 55 (by decide)) 4).trans (congrFun (f30 55 (by decide)) 4)) ((congrFun (f37 55 (by decide)) 5).trans (congrFun (f30 55 (by decide)) 5)) ((f37 56 (by decide)).trans (f30 56 (by decide))) ((f37 57 (by decide)).trans (f30 57 (by decide))) ((f37 58 (by decide)).trans (f30 58 (by decide))) ((f37 59 (by decide)).trans (f30 59 (by decide))) hI101
  have I54 : jI102 σ35 := jI102_fr ((congrFun (f37 55 (by decide)) 6).trans (congrFun (f30 55 (by decide)) 6)) ((f37 60 (by decide)).trans (f30 60 (by decide))) ((f37 61 (by decide)).trans (f30 61 (by decide))) hI102
  have I55 : jI103 σ35 := jI103_fr ((congrFun (f37 55 (by decide)) 9).trans (congrFun (f30 55 (by decide)) 9)) hI103
  have I56 : jI104 σ35 := jI104_fr ((congrFun (f37 55 (by decide)) 10).trans (congrFun (f30 55 (by decide)) 10)) ((congrFun (f37 55 (by decide)) 12).trans (congrFun (f30 55 (by decide)) 12)) ((congrFun (f37 55 (by decide)) 13).trans (congrFun (f30 55 (by decide)) 13)) ((f37 62 (by decide)).trans (f30 62 (by decide))) ((f37 67 (by decide)).trans (f30 67 (by decide))) hI104
  have I57 : jI105 σ35 := jI105_fr ((congrFun (f37 55 (by decide)) 15).trans (congrFun (f30 55 (by decide)) 15)) ((f37 65 (by decide)).trans (f30 65 (by decide))) hI105
  have I58 : jI106 σ35 := jI106_fr ((congrFun (f37 55 (by decide)) 32).trans (congrFun (f30 55 (by decide)) 32)) ((f37 70 (by decide)).trans (f30 70 (by decide))) ((f37 71 (by decide)).trans (f30 71 (by decide))) ((f37 72 (by decide)).trans (f30 72 (by decide))) hI106
  have I59 : jI107 σ35 := jI107_fr ((congrFun (f37 55 (by decide)) 12).trans (congrFun (f30 55 (by decide)) 12)) ((congrFun (f37 55 (by decide)) 47).trans (congrFun (f30 55 (by decide)) 47)) ((f37 80 (by decide)).trans (f30 80 (by decide))) hI107
  have I60 : jI109 σ35 := jI109_fr ((congrFun (f37 55 (by decide)) 50).trans (congrFun (f30 55 (by decide)) 50)) hI109
  have I61 : jI110 σ35 := jI110_fr (f37 86 (by decide)) (f37 87 (by decide)) I34
  have I62 : jI111 σ35 := jI111_fr ((f37 79 (by decide)).trans (f30 79 (by decide))) hI111
  have I63 : jI119 σ35 := jI119_fr ((f37 68 (by decide)).trans (f30 68 (by decide))) hI119
  have p64 : jKept σ35 := jKept.fr ((f37 75 (by decide)).trans (f30 75 (by decide))) ((f37 76 (by decide)).trans (f30 76 (by decide))) ((f37 77 (by decide)).trans (f30 77 (by decide))) hs_jKept
  have p65 : jBook σ35 := jBook.fr ((congrFun (f37 55 (by decide)) 47).trans (congrFun (f30 55 (by decide)) 47)) ((congrFun (f37 55 (by decide)) 10).trans (congrFun (f30 55 (by decide)) 10)) ((f37 81 (by decide)).trans (f30 81 (by decide))) hs_jBook
  have z66 : (σ35 2 0).toInt = (σ 2 0).toInt := (congrArg Int32.toInt (show σ35 2 0 = (σ 2 0) from ((congrFun (f37 2 (by decide)) 0).trans (congrFun (f30 2 (by decide)) 0))))
  have z67 : (σ35 55 6).toInt = (σ 55 6).toInt := (congrArg Int32.toInt (show σ35 55 6 = (σ 55 6) from ((congrFun (f37 55 (by decide)) 6).trans (congrFun (f30 55 (by decide)) 6))))
  have z68 : (σ35 2 2).toInt = (σ 2 2).toInt := (congrArg Int32.toInt (show σ35 2 2 = (σ 2 2) from ((congrFun (f37 2 (by decide)) 2).trans (congrFun (f30 2 (by decide)) 2))))
  have z69 : (σ35 55 5).toInt = (σ 55 5).toInt := (congrArg Int32.toInt (show σ35 55 5 = (σ 55 5) from ((congrFun (f37 55 (by decide)) 5).trans (congrFun (f30 55 (by decide)) 5))))
  have z70 : (σ35 2 3).toInt = (σ 2 3).toInt := (congrArg Int32.toInt (show σ35 2 3 = (σ 2 3) from ((congrFun (f37 2 (by decide)) 3).trans (congrFun (f30 2 (by decide)) 3))))
  have z71 : (σ35 55 4).toInt = (σ 55 4).toInt := (congrArg Int32.toInt (show σ35 55 4 = (σ 55 4) from ((congrFun (f37 55 (by decide)) 4).trans (congrFun (f30 55 (by decide)) 4))))
  exact ih x41 σ35 τ35 _ _ ls (by have h9 := tx41; omega) ⟨I42, I43, I44, I45, I46, I47, I48, I49, I50, I51, I52, I53, I54, I55, I56, I57, I58, I59, I60, I61, I62, I63, p64, p65, (by omega), (by omega), (by omega), (show jNumP (σ35 3) (σ35 56) (σ35 6) (σ35 57) (σ35 7) (σ35 58) (σ35 8) (σ35 59) (σ35 55 6).toInt (σ35 55 4).toInt by rw [show σ35 3 = σ 3 from ((f37 3 (by decide)).trans (f30 3 (by decide))), show σ35 56 = σ 56 from ((f37 56 (by decide)).trans (f30 56 (by decide))), show σ35 6 = σ 6 from ((f37 6 (by decide)).trans (f30 6 (by decide))), show σ35 57 = σ 57 from ((f37 57 (by decide)).trans (f30 57 (by decide))), show σ35 7 = σ 7 from ((f37 7 (by decide)).trans (f30 7 (by decide))), show σ35 58 = σ 58 from ((f37 58 (by decide)).trans (f30 58 (by decide))), show σ35 8 = σ 8 from ((f37 8 (by decide)).trans (f30 8 (by decide))), show σ35 59 = σ 59 from ((f37 59 (by decide)).trans (f30 59 (by decide))), show (σ35 55 6).toInt = (σ 55 6).toInt from by omega, show (σ35 55 4).toInt = (σ 55 4).toInt from by omega]; exact hr0)⟩ hP hS (lv_sub hl [0, 1, 2, 3] rfl)
set_option maxHeartbeats 4000000 in
set_option maxRecDepth 100000 in
theorem law_case_35 {p : Program} {e : Env} {s : State} {m : MethodId} {below : List Frame} {meth : Method} {c : Code} (l : Launch) {b L : Nat} {xs : Nat → Int32} {D : va_G} {cI cL : ClassId} {ad zz : Nat → Nat} (C0 : lw_At p s m meth c b L xs) (hJ : jD ad) (hA : ∀ q, jA ad q → s.heap.size ≤ q) (hK : jK D cI cL s) (hZ : jZ zz (fun q : Nat => s.heap.size ≤ q) s s.heap) {x0 : Int32} (hx0 : 0 ≤ x0.toInt) (hxL : x0.toInt + 6 ≤ (L : Int)) (hL : L ≤ 384) {σ : Nat → Nat → Int32} {τ : Nat → Nat → Int64} {H : Heap} {locs : List Loc} (hS : va_S (fun q : Nat => s.heap.size ≤ q) s.heap H locs) {ls : Array Slot} (hAll : jAll σ τ) (hP : jH D cI cL ad σ τ H) (hl : lv_has ls 4 [(3, .int x0), (2, .ref (ad 55)), (1, .ref (ad 0)), (0, .ref b)]) (ih : ∀ (x1 : Int32) (σ : Nat → Nat → Int32) (τ : Nat → Nat → Int64) (H : Heap) (locs : List Loc) (ls : Array Slot), x1.toInt = x0.toInt + 6 → jAll σ τ → jH D cI cL ad σ τ H → va_S (fun q : Nat => s.heap.size ≤ q) s.heap H locs → lv_has ls 4 [(3, .int x1), (2, .ref (ad 55)), (1, .ref (ad 0)), (0, .ref b)] → W p l e room_1 s m #[Value.ref b] below meth c H locs 90 348600 (lw_Z below #[Value.ref b] s) (F0 m 18 ls [])) : W p l e room_1 s m #[Value.ref b] below meth c H locs 90 348600 (lw_Z below #[Value.ref b] s) (F0 m 1301 ls []) := by
  obtain ⟨hx, hb, hr, hml, hown, hts0, hX, hbl, hlocks, hgv⟩ := C0
  have hts : ∀ w ∈ wsL_law, w.before #[Value.ref b] s = true := fun w h => hts0 w (wsL_law_in w h)
  have hbA : ¬ (fun q : Nat => s.heap.size ≤ q) b := Nat.not_le.mpr hbl
  have hown : s.vm.findClass RL = some m.cls := hown
  obtain ⟨hI2, hI9, hI12, hI16, hI18, hI22, hI31, hI38, hI43, hI47, hI50, hI101, hI102, hI103, hI104, hI105, hI106, hI107, hI109, hI110, hI111, hI119, hs_jKept, hs_jBook, ht0, ht1, ht2, hr0⟩ := hAll
  have hL9 : (L : Int) ≤ 384 := by omega
  obtain ⟨i1, i2, i3, i4, i5, w6⟩ : (0 ≤ (σ 2 0).toInt ∧ (σ 2 0).toInt ≤ 4) ∧ (0 ≤ (σ 2 1).toInt ∧ (σ 2 1).toInt ≤ 3) ∧ (0 ≤ (σ 2 2).toInt) ∧ (0 ≤ (σ 2 3).toInt) ∧ ((σ 2 2).toInt + (σ 2 3).toInt ≤ 40) ∧ (∀ k : Nat, k < 40 → 0 ≤ (σ 6 k).toInt ∧ (σ 6 k).toInt ≤ 67) := id hI2
  obtain ⟨i7, i8, i9, w10, w11, w12, w13⟩ : (0 ≤ (σ 55 5).toInt) ∧ ((σ 55 5).toInt ≤ (σ 55 4).toInt) ∧ ((σ 55 4).toInt ≤ 40) ∧ (∀ k : Nat, k < 68 → (-200) ≤ (σ 56 k).toInt ∧ (σ 56 k).toInt ≤ 500) ∧ (∀ k : Nat, k < 40 → 0 ≤ (σ 57 k).toInt ∧ (σ 57 k).toInt ≤ 67) ∧ (∀ k : Nat, k < 40 → (-200) ≤ (σ 58 k).toInt ∧ (σ 58 k).toInt ≤ 500) ∧ (∀ k : Nat, k < 40 → (-200) ≤ (σ 59 k).toInt ∧ (σ 59 k).toInt ≤ 500) := id hI101
  obtain ⟨i14, w15, w16⟩ : (0 ≤ (σ 55 6).toInt ∧ (σ 55 6).toInt ≤ 4) ∧ (∀ k : Nat, k < 4 → 0 ≤ (σ 60 k).toInt ∧ (σ 60 k).toInt ≤ 50) ∧ (∀ k : Nat, k < 4 → 0 ≤ (σ 61 k).toInt ∧ (σ 61 k).toInt ≤ 20) := id hI102
  refine lv_aload_n hx hb dL_law_1301 rfl (lv_at hl 2 rfl) ?_
  refine lv_aload_n hx hb dL_law_1302 rfl (lv_at hl 3 rfl) ?_
  refine lv_iload_n hx hb dL_law_1303 rfl (lv_at hl 0 rfl) ?_
  refine lv_iconst (v := 1) hx hb dL_law_1304 (by decide) ?_
  have g17 := jrg (rfl : x0.toInt = x0.toInt)
  refine lv_iadd hx hb dL_law_1305 ?_
  refine lv_topi (fun x18 ex18 => ?_)
  have tx18 : x18.toInt = x0.toInt + 1 := (jadd ex18 rfl jz_1 (by omega) (by omega)).trans (by omega)
  refine va_sld hx hb hX hbl hbA hS (jin tx18 (by omega) (by omega)) dL_law_1306 ?_
  have g19 := jrg (rfl : (xs x18.toNatClampNeg).toInt = (xs x18.toNatClampNeg).toInt)
  refine lv_aload_n hx hb dL_law_1307 rfl (lv_at hl 3 rfl) ?_
  refine lv_iload_n hx hb dL_law_1308 rfl (lv_at hl 0 rfl) ?_
  refine lv_iconst (v := 2) hx hb dL_law_1309 (by decide) ?_
  refine lv_iadd hx hb dL_law_1310 ?_
  refine lv_topi (fun x20 ex20 => ?_)
  have tx20 : x20.toInt = x0.toInt + 2 := (jadd ex20 rfl jz_2 (by omega) (by omega)).trans (by omega)
  refine va_sld hx hb hX hbl hbA hS (jin tx20 (by omega) (by omega)) dL_law_1311 ?_
  have g21 := jrg (rfl : (xs x20.toNatClampNeg).toInt = (xs x20.toNatClampNeg).toInt)
  refine jcallV (As := [.int (xs x18.toNatClampNeg), .int (xs x20.toNatClampNeg)]) (rest := []) ⟨hx, hb, hml, hown, hts⟩ hK hP hA hS hZ (c_X11_taken l D cI cL ad zz hJ σ τ (xs x18.toNatClampNeg) ((xs x18.toNatClampNeg).toInt) rfl (xs x20.toNatClampNeg) ((xs x20.toNatClampNeg).toInt) rfl hI38) cw_RL_162 (jc_0 cI cL ad σ τ) rfl ⟨Nat.le_of_ble_eq_true rfl, Nat.le_of_ble_eq_true rfl⟩ rfl rfl rfl hl.1 rfl (Nat.le_of_ble_eq_true rfl) dL_law_1312 ⟨Nat.le_of_ble_eq_true rfl, Nat.le_of_ble_eq_true rfl⟩ (fun r23 σ22 τ22 H locs h22 hP hS => ?_)
  obtain ⟨⟨rfl, rfl⟩, w24, h22⟩ := h22
  refine lv_pop hx hb dL_law_1315 rfl ?_
  refine lv_aload_n hx hb dL_law_1316 rfl (lv_at hl 1 rfl) ?_
  refine lv_aload_n hx hb dL_law_1317 rfl (lv_at hl 3 rfl) ?_
  refine lv_iload_n hx hb dL_law_1318 rfl (lv_at hl 0 rfl) ?_
  refine lv_iconst (v := 1) hx hb dL_law_1319 (by decide) ?_
  refine lv_iadd hx hb dL_law_1320 ?_
  refine jtopr ex18.symm ?_
  refine va_sld hx hb hX hbl hbA hS (jin tx18 (by omega) (by omega)) dL_law_1321 ?_
  refine lv_aload_n hx hb dL_law_1322 rfl (lv_at hl 3 rfl) ?_
  refine lv_iload_n hx hb dL_law_1323 rfl (lv_at hl 0 rfl) ?_
  refine lv_iconst (v := 2) hx hb dL_law_1324 (by decide) ?_
  refine lv_iadd hx hb dL_law_1325 ?_
  refine jtopr ex20.symm ?_
  refine va_sld hx hb hX hbl hbA hS (jin tx20 (by omega) (by omega)) dL_law_1326 ?_
  refine jcallV (As := [.int (xs x18.toNatClampNeg), .int (xs x20.toNatClampNeg)]) (rest := []) ⟨hx, hb, hml, hown, hts⟩ hK hP hA hS hZ (c_X12_taken l D cI cL ad zz hJ σ τ (xs x18.toNatClampNeg) ((xs x18.toNatClampNeg).toInt) rfl (xs x20.toNatClampNeg) ((xs x20.toNatClampNeg).toInt) rfl hI106 hI110) cw_RL_165 (jc_55 cI cL ad σ τ) rfl ⟨Nat.le_of_ble_eq_true rfl, Nat.le_of_ble_eq_true rfl⟩ rfl rfl rfl hl.1 rfl (Nat.le_of_ble_eq_true rfl) dL_law_1327 ⟨Nat.le_of_ble_eq_true rfl, Nat.le_of_ble_eq_true rfl⟩ (fun r26 σ25 τ25 H locs h25 hP hS => ?_)
  obtain ⟨⟨rfl, rfl⟩, w27, h25⟩ := h25
  refine lv_pop hx hb dL_law_1330 rfl ?_
  refine lv_goto (tgt := 1357) hx hb dL_law_1331 (by decide) ?_
  obtain ⟨x28, ex28⟩ : ∃ y : Int32, y = x0 + 6 := ⟨_, rfl⟩
  have tx28 : x28.toInt = x0.toInt + 6 := (jadd ex28 rfl jz_6 (by omega) (by omega)).trans (by omega)
  refine lv_iinc (v := x28) (lv' := [(3, .int x28), (2, .ref (ad 55)), (1, .ref (ad 0)), (0, .ref b)]) hx hb dL_law_1357 hl (k := 0) rfl (by rw [ex28]; rfl) (by decide) rfl (fun ls hl => ?_)
  refine lv_goto (tgt := 18) hx hb dL_law_1360 (by decide) ?_
  exact ih x28 σ τ _ _ ls (by have h9 := tx28; omega) ⟨hI2, hI9, hI12, hI16, hI18, hI22, hI31, hI38, hI43, hI47, hI50, hI101, hI102, hI103, hI104, hI105, hI106, hI107, hI109, hI110, hI111, hI119, hs_jKept, hs_jBook, (by omega), (by omega), (by omega), hr0⟩ hP hS (lv_sub hl [0, 1, 2, 3] rfl)
set_option maxHeartbeats 4000000 in
set_option maxRecDepth 100000 in
theorem law_case_36 {p : Program} {e : Env} {s : State} {m : MethodId} {below : List Frame} {meth : Method} {c : Code} (l : Launch) {b L : Nat} {xs : Nat → Int32} {D : va_G} {cI cL : ClassId} {ad zz : Nat → Nat} (C0 : lw_At p s m meth c b L xs) (hJ : jD ad) (hA : ∀ q, jA ad q → s.heap.size ≤ q) (hK : jK D cI cL s) (hZ : jZ zz (fun q : Nat => s.heap.size ≤ q) s s.heap) {x0 : Int32} (hx0 : 0 ≤ x0.toInt) (hxL : x0.toInt + 6 ≤ (L : Int)) (hL : L ≤ 384) {σ : Nat → Nat → Int32} {τ : Nat → Nat → Int64} {H : Heap} {locs : List Loc} (hS : va_S (fun q : Nat => s.heap.size ≤ q) s.heap H locs) {ls : Array Slot} (hAll : jAll σ τ) (hP : jH D cI cL ad σ τ H) (hl : lv_has ls 4 [(3, .int x0), (2, .ref (ad 55)), (1, .ref (ad 0)), (0, .ref b)]) (ih : ∀ (x1 : Int32) (σ : Nat → Nat → Int32) (τ : Nat → Nat → Int64) (H : Heap) (locs : List Loc) (ls : Array Slot), x1.toInt = x0.toInt + 6 → jAll σ τ → jH D cI cL ad σ τ H → va_S (fun q : Nat => s.heap.size ≤ q) s.heap H locs → lv_has ls 4 [(3, .int x1), (2, .ref (ad 55)), (1, .ref (ad 0)), (0, .ref b)] → W p l e room_1 s m #[Value.ref b] below meth c H locs 90 348600 (lw_Z below #[Value.ref b] s) (F0 m 18 ls [])) : W p l e room_1 s m #[Value.ref b] below meth c H locs 90 348600 (lw_Z below #[Value.ref b] s) (F0 m 1334 ls []) := by
  obtain ⟨hx, hb, hr, hml, hown, hts0, hX, hbl, hlocks, hgv⟩ := C0
  have hts : ∀ w ∈ wsL_law, w.before #[Value.ref b] s = true := fun w h => hts0 w (wsL_law_in w h)
  have hbA : ¬ (fun q : Nat => s.heap.size ≤ q) b := Nat.not_le.mpr hbl
  have hown : s.vm.findClass RL = some m.cls := hown
  obtain ⟨hI2, hI9, hI12, hI16, hI18, hI22, hI31, hI38, hI43, hI47, hI50, hI101, hI102, hI103, hI104, hI105, hI106, hI107, hI109, hI110, hI111, hI119, hs_jKept, hs_jBook, ht0, ht1, ht2, hr0⟩ := hAll
  have hL9 : (L : Int) ≤ 384 := by omega
  obtain ⟨i1, i2, i3, i4, i5, w6⟩ : (0 ≤ (σ 2 0).toInt ∧ (σ 2 0).toInt ≤ 4) ∧ (0 ≤ (σ 2 1).toInt ∧ (σ 2 1).toInt ≤ 3) ∧ (0 ≤ (σ 2 2).toInt) ∧ (0 ≤ (σ 2 3).toInt) ∧ ((σ 2 2).toInt + (σ 2 3).toInt ≤ 40) ∧ (∀ k : Nat, k < 40 → 0 ≤ (σ 6 k).toInt ∧ (σ 6 k).toInt ≤ 67) := id hI2
  obtain ⟨i7, i8, i9, w10, w11, w12, w13⟩ : (0 ≤ (σ 55 5).toInt) ∧ ((σ 55 5).toInt ≤ (σ 55 4).toInt) ∧ ((σ 55 4).toInt ≤ 40) ∧ (∀ k : Nat, k < 68 → (-200) ≤ (σ 56 k).toInt ∧ (σ 56 k).toInt ≤ 500) ∧ (∀ k : Nat, k < 40 → 0 ≤ (σ 57 k).toInt ∧ (σ 57 k).toInt ≤ 67) ∧ (∀ k : Nat, k < 40 → (-200) ≤ (σ 58 k).toInt ∧ (σ 58 k).toInt ≤ 500) ∧ (∀ k : Nat, k < 40 → (-200) ≤ (σ 59 k).toInt ∧ (σ 59 k).toInt ≤ 500) := id hI101
  obtain ⟨i14, w15, w16⟩ : (0 ≤ (σ 55 6).toInt ∧ (σ 55 6).toInt ≤ 4) ∧ (∀ k : Nat, k < 4 → 0 ≤ (σ 60 k).toInt ∧ (σ 60 k).toInt ≤ 50) ∧ (∀ k : Nat, k < 4 → 0 ≤ (σ 61 k).toInt ∧ (σ 61 k).toInt ≤ 20) := id hI102
  refine lv_aload_n hx hb dL_law_1334 rfl (lv_at hl 2 rfl) ?_
  refine lv_aload_n hx hb dL_law_1335 rfl (lv_at hl 3 rfl) ?_
  refine lv_iload_n hx hb dL_law_1336 rfl (lv_at hl 0 rfl) ?_
  refine lv_iconst (v := 1) hx hb dL_law_1337 (by decide) ?_
  have g17 := jrg (rfl : x0.toInt = x0.toInt)
  refine lv_iadd hx hb dL_law_1338 ?_
  refine lv_topi (fun x18 ex18 => ?_)
  have tx18 : x18.toInt = x0.toInt + 1 := (jadd ex18 rfl jz_1 (by omega) (by omega)).trans (by omega)
  refine va_sld hx hb hX hbl hbA hS (jin tx18 (by omega) (by omega)) dL_law_1339 ?_
  have g19 := jrg (rfl : (xs x18.toNatClampNeg).toInt = (xs x18.toNatClampNeg).toInt)
  refine jcallV (As := [.int (xs x18.toNatClampNeg)]) (rest := []) ⟨hx, hb, hml, hown, hts⟩ hK hP hA hS hZ (c_X11_count l D cI cL ad zz hJ σ τ (xs x18.toNatClampNeg) ((xs x18.toNatClampNeg).toInt) rfl hI2 hI9 hI38 hI47) cw_RL_166 (jc_0 cI cL ad σ τ) rfl ⟨Nat.le_of_ble_eq_true rfl, Nat.le_of_ble_eq_true rfl⟩ rfl rfl rfl hl.1 rfl (Nat.le_of_ble_eq_true rfl) dL_law_1340 ⟨Nat.le_of_ble_eq_true rfl, Nat.le_of_ble_eq_true rfl⟩ (fun r21 σ20 τ20 H locs h20 hP hS => ?_)
  obtain ⟨⟨rfl, rfl⟩, h20⟩ := h20
  rcases h20 with h22 | h23 | h24 | h25 | h26 | h27 | h28
  · obtain ⟨q31, k29, k30⟩ := h22
    refine lv_pop hx hb dL_law_1343 rfl ?_
    refine lv_aload_n hx hb dL_law_1344 rfl (lv_at hl 1 rfl) ?_
    refine lv_aload_n hx hb dL_law_1345 rfl (lv_at hl 3 rfl) ?_
    refine lv_iload_n hx hb dL_law_1346 rfl (lv_at hl 0 rfl) ?_
    refine lv_iconst (v := 1) hx hb dL_law_1347 (by decide) ?_
    refine lv_iadd hx hb dL_law_1348 ?_
    refine jtopr ex18.symm ?_
    refine va_sld hx hb hX hbl hbA hS (jin tx18 (by omega) (by omega)) dL_law_1349 ?_
    refine jcallV (As := [.int (xs x18.toNatClampNeg)]) (rest := []) ⟨hx, hb, hml, hown, hts⟩ hK hP hA hS hZ (c_X12_count l D cI cL ad zz hJ σ τ (xs x18.toNatClampNeg) ((xs x18.toNatClampNeg).toInt) rfl hI101 hI102 hI105 hI106 hI107) cw_RL_169 (jc_55 cI cL ad σ τ) rfl ⟨Nat.le_of_ble_eq_true rfl, Nat.le_of_ble_eq_true rfl⟩ rfl rfl rfl hl.1 rfl (Nat.le_of_ble_eq_true rfl) dL_law_1350 ⟨Nat.le_of_ble_eq_true rfl, Nat.le_of_ble_eq_true rfl⟩ (fun r33 σ32 τ32 H locs h32 hP hS => ?_)
    obtain ⟨⟨rfl, rfl⟩, h32⟩ := h32
    rcases h32 with h34 | h35 | h36 | h37 | h38 | h39 | h40
    · obtain ⟨q43, k41, k42⟩ := h34
      refine lv_pop hx hb dL_law_1353 rfl ?_
      refine lv_goto (tgt := 1357) hx hb dL_law_1354 (by decide) ?_
      obtain ⟨x44, ex44⟩ : ∃ y : Int32, y = x0 + 6 := ⟨_, rfl⟩
      have tx44 : x44.toInt = x0.toInt + 6 := (jadd ex44 rfl jz_6 (by omega) (by omega)).trans (by omega)
      refine lv_iinc (v := x44) (lv' := [(3, .int x44), (2, .ref (ad 55)), (1, .ref (ad 0)), (0, .ref b)]) hx hb dL_law_1357 hl (k := 0) rfl (by rw [ex44]; rfl) (by decide) rfl (fun ls hl => ?_)
      refine lv_goto (tgt := 18) hx hb dL_law_1360 (by decide) ?_
      exact ih x44 σ τ _ _ ls (by have h9 := tx44; omega) ⟨hI2, hI9, hI12, hI16, hI18, hI22, hI31, hI38, hI43, hI47, hI50, hI101, hI102, hI103, hI104, hI105, hI106, hI107, hI109, hI110, hI111, hI119, hs_jKept, hs_jBook, (by omega), (by omega), (by omega), hr0⟩ hP hS (lv_sub hl [0, 1, 2, 3] rfl)
    · obtain ⟨q47, k45, k46⟩ := h35
      exact absurd (by omega : False) id
    · obtain ⟨q50, k48, k49⟩ := h36
      exact absurd (by omega : False) id
    · obtain ⟨q53, k51, k52⟩ := h37
      exact absurd (by omega : False) id
    · obtain ⟨q56, k54, k55⟩ := h38
      exact absurd (by omega : False) id
    · obtain ⟨q59, k57, k58⟩ := h39
      exact absurd (by omega : False) id
    · obtain ⟨q61, k60⟩ := h40
      exact absurd (by omega : False) id
  · obtain ⟨q64, k62, k63⟩ := h23
    refine lv_pop hx hb dL_law_1343 rfl ?_
    refine lv_aload_n hx hb dL_law_1344 rfl (lv_at hl 1 rfl) ?_
    refine lv_aload_n hx hb dL_law_1345 rfl (lv_at hl 3 rfl) ?_
    refine lv_iload_n hx hb dL_law_1346 rfl (lv_at hl 0 rfl) ?_
    refine lv_iconst (v := 1) hx hb dL_law_1347 (by decide) ?_
    refine lv_iadd hx hb dL_law_1348 ?_
    refine jtopr ex18.symm ?_
    refine va_sld hx hb hX hbl hbA hS (jin tx18 (by omega) (by omega)) dL_law_1349 ?_
    refine jcallV (As := [.int (xs x18.toNatClampNeg)]) (rest := []) ⟨hx, hb, hml, hown, hts⟩ hK hP hA hS hZ (c_X12_count l D cI cL ad zz hJ σ τ (xs x18.toNatClampNeg) ((xs x18.toNatClampNeg).toInt) rfl hI101 hI102 hI105 hI106 hI107) cw_RL_169 (jc_55 cI cL ad σ τ) rfl ⟨Nat.le_of_ble_eq_true rfl, Nat.le_of_ble_eq_true rfl⟩ rfl rfl rfl hl.1 rfl (Nat.le_of_ble_eq_true rfl) dL_law_1350 ⟨Nat.le_of_ble_eq_true rfl, Nat.le_of_ble_eq_true rfl⟩ (fun r66 σ65 τ65 H locs h65 hP hS => ?_)
    obtain ⟨⟨rfl, rfl⟩, h65⟩ := h65
    rcases h65 with h67 | h68 | h69 | h70 | h71 | h72 | h73
    · obtain ⟨q76, k74, k75⟩ := h67
      exact absurd (by omega : False) id
    · obtain ⟨q79, k77, k78⟩ := h68
      refine lv_pop hx hb dL_law_1353 rfl ?_
      refine lv_goto (tgt := 1357) hx hb dL_law_1354 (by decide) ?_
      obtain ⟨x80, ex80⟩ : ∃ y : Int32, y = x0 + 6 := ⟨_, rfl⟩
      have tx80 : x80.toInt = x0.toInt + 6 := (jadd ex80 rfl jz_6 (by omega) (by omega)).trans (by omega)
      refine lv_iinc (v := x80) (lv' := [(3, .int x80), (2, .ref (ad 55)), (1, .ref (ad 0)), (0, .ref b)]) hx hb dL_law_1357 hl (k := 0) rfl (by rw [ex80]; rfl) (by decide) rfl (fun ls hl => ?_)
      refine lv_goto (tgt := 18) hx hb dL_law_1360 (by decide) ?_
      exact ih x80 σ τ _ _ ls (by have h9 := tx80; omega) ⟨hI2, hI9, hI12, hI16, hI18, hI22, hI31, hI38, hI43, hI47, hI50, hI101, hI102, hI103, hI104, hI105, hI106, hI107, hI109, hI110, hI111, hI119, hs_jKept, hs_jBook, (by omega), (by omega), (by omega), hr0⟩ hP hS (lv_sub hl [0, 1, 2, 3] rfl)
    · obtain ⟨q83, k81, k82⟩ := h69
      exact absurd (by omega : False) id
    · obtain ⟨q86, k84, k85⟩ := h70
      exact absurd (by omega : False) id
    · obtain ⟨q89, k87, k88⟩ := h71
      exact absurd (by omega : False) id
    · obtain ⟨q92, k90, k91⟩ := h72
      exact absurd (by omega : False) id
    · obtain ⟨q94, k93⟩ := h73
      exact absurd (by omega : False) id
  · obtain ⟨q97, k95, k96⟩ := h24
    refine lv_pop hx hb dL_law_1343 rfl ?_
    refine lv_aload_n hx hb dL_law_1344 rfl (lv_at hl 1 rfl) ?_
    refine lv_aload_n hx hb dL_law_1345 rfl (lv_at hl 3 rfl) ?_
    refine lv_iload_n hx hb dL_law_1346 rfl (lv_at hl 0 rfl) ?_
    refine lv_iconst (v := 1) hx hb dL_law_1347 (by decide) ?_
    refine lv_iadd hx hb dL_law_1348 ?_
    refine jtopr ex18.symm ?_
    refine va_sld hx hb hX hbl hbA hS (jin tx18 (by omega) (by omega)) dL_law_1349 ?_
    refine jcallV (As := [.int (xs x18.toNatClampNeg)]) (rest := []) ⟨hx, hb, hml, hown, hts⟩ hK hP hA hS hZ (c_X12_count l D cI cL ad zz hJ σ τ (xs x18.toNatClampNeg) ((xs x18.toNatClampNeg).toInt) rfl hI101 hI102 hI105 hI106 hI107) cw_RL_169 (jc_55 cI cL ad σ τ) rfl ⟨Nat.le_of_ble_eq_true rfl, Nat.le_of_ble_eq_true rfl⟩ rfl rfl rfl hl.1 rfl (Nat.le_of_ble_eq_true rfl) dL_law_1350 ⟨Nat.le_of_ble_eq_true rfl, Nat.le_of_ble_eq_true rfl⟩ (fun r99 σ98 τ98 H locs h98 hP hS => ?_)
    obtain ⟨⟨rfl, rfl⟩, h98⟩ := h98
    rcases h98 with h100 | h101 | h102 | h103 | h104 | h105 | h106
    · obtain ⟨q109, k107, k108⟩ := h100
      exact absurd (by omega : False) id
    · obtain ⟨q112, k110, k111⟩ := h101
      exact absurd (by omega : False) id
    · obtain ⟨q115, k113, k114⟩ := h102
      refine lv_pop hx hb dL_law_1353 rfl ?_
      refine lv_goto (tgt := 1357) hx hb dL_law_1354 (by decide) ?_
      obtain ⟨x116, ex116⟩ : ∃ y : Int32, y = x0 + 6 := ⟨_, rfl⟩
      have tx116 : x116.toInt = x0.toInt + 6 := (jadd ex116 rfl jz_6 (by omega) (by omega)).trans (by omega)
      refine lv_iinc (v := x116) (lv' := [(3, .int x116), (2, .ref (ad 55)), (1, .ref (ad 0)), (0, .ref b)]) hx hb dL_law_1357 hl (k := 0) rfl (by rw [ex116]; rfl) (by decide) rfl (fun ls hl => ?_)
      refine lv_goto (tgt := 18) hx hb dL_law_1360 (by decide) ?_
      exact ih x116 σ τ _ _ ls (by have h9 := tx116; omega) ⟨hI2, hI9, hI12, hI16, hI18, hI22, hI31, hI38, hI43, hI47, hI50, hI101, hI102, hI103, hI104, hI105, hI106, hI107, hI109, hI110, hI111, hI119, hs_jKept, hs_jBook, (by omega), (by omega), (by omega), hr0⟩ hP hS (lv_sub hl [0, 1, 2, 3] rfl)
    · obtain ⟨q119, k117, k118⟩ := h103
      exact absurd (by omega : False) id
    · obtain ⟨q122, k120, k121⟩ := h104
      exact absurd (by omega : False) id
    · obtain ⟨q125, k123, k124⟩ := h105
      exact absurd (by omega : False) id
    · obtain ⟨q127, k126⟩ := h106
      exact absurd (by omega : False) id
  · obtain ⟨q130, k128, k129⟩ := h25
    refine lv_pop hx hb dL_law_1343 rfl ?_
    refine lv_aload_n hx hb dL_law_1344 rfl (lv_at hl 1 rfl) ?_
    refine lv_aload_n hx hb dL_law_1345 rfl (lv_at hl 3 rfl) ?_
    refine lv_iload_n hx hb dL_law_1346 rfl (lv_at hl 0 rfl) ?_
    refine lv_iconst (v := 1) hx hb dL_law_1347 (by decide) ?_
    refine lv_iadd hx hb dL_law_1348 ?_
    refine jtopr ex18.symm ?_
    refine va_sld hx hb hX hbl hbA hS (jin tx18 (by omega) (by omega)) dL_law_1349 ?_
    refine jcallV (As := [.int (xs x18.toNatClampNeg)]) (rest := []) ⟨hx, hb, hml, hown, hts⟩ hK hP hA hS hZ (c_X12_count l D cI cL ad zz hJ σ τ (xs x18.toNatClampNeg) ((xs x18.toNatClampNeg).toInt) rfl hI101 hI102 hI105 hI106 hI107) cw_RL_169 (jc_55 cI cL ad σ τ) rfl ⟨Nat.le_of_ble_eq_true rfl, Nat.le_of_ble_eq_true rfl⟩ rfl rfl rfl hl.1 rfl (Nat.le_of_ble_eq_true rfl) dL_law_1350 ⟨Nat.le_of_ble_eq_true rfl, Nat.le_of_ble_eq_true rfl⟩ (fun r132 σ131 τ131 H locs h131 hP hS => ?_)
    obtain ⟨⟨rfl, rfl⟩, h131⟩ := h131
    rcases h131 with h133 | h134 | h135 | h136 | h137 | h138 | h139
    · obtain ⟨q142, k140, k141⟩ := h133
      exact absurd (by omega : False) id
    · obtain ⟨q145, k143, k144⟩ := h134
      exact absurd (by omega : False) id
    · obtain ⟨q148, k146, k147⟩ := h135
      exact absurd (by omega : False) id
    · obtain ⟨q151, k149, k150⟩ := h136
      refine lv_pop hx hb dL_law_1353 rfl ?_
      refine lv_goto (tgt := 1357) hx hb dL_law_1354 (by decide) ?_
      obtain ⟨x152, ex152⟩ : ∃ y : Int32, y = x0 + 6 := ⟨_, rfl⟩
      have tx152 : x152.toInt = x0.toInt + 6 := (jadd ex152 rfl jz_6 (by omega) (by omega)).trans (by omega)
      refine lv_iinc (v := x152) (lv' := [(3, .int x152), (2, .ref (ad 55)), (1, .ref (ad 0)), (0, .ref b)]) hx hb dL_law_1357 hl (k := 0) rfl (by rw [ex152]; rfl) (by decide) rfl (fun ls hl => ?_)
      refine lv_goto (tgt := 18) hx hb dL_law_1360 (by decide) ?_
      exact ih x152 σ τ _ _ ls (by have h9 := tx152; omega) ⟨hI2, hI9, hI12, hI16, hI18, hI22, hI31, hI38, hI43, hI47, hI50, hI101, hI102, hI103, hI104, hI105, hI106, hI107, hI109, hI110, hI111, hI119, hs_jKept, hs_jBook, (by omega), (by omega), (by omega), hr0⟩ hP hS (lv_sub hl [0, 1, 2, 3] rfl)
    · obtain ⟨q155, k153, k154⟩ := h137
      exact absurd (by omega : False) id
    · obtain ⟨q158, k156, k157⟩ := h138
      exact absurd (by omega : False) id
    · obtain ⟨q160, k159⟩ := h139
      exact absurd (by omega : False) id
  · obtain ⟨q163, k161, k162⟩ := h26
    refine lv_pop hx hb dL_law_1343 rfl ?_
    refine lv_aload_n hx hb dL_law_1344 rfl (lv_at hl 1 rfl) ?_
    refine lv_aload_n hx hb dL_law_1345 rfl (lv_at hl 3 rfl) ?_
    refine lv_iload_n hx hb dL_law_1346 rfl (lv_at hl 0 rfl) ?_
    refine lv_iconst (v := 1) hx hb dL_law_1347 (by decide) ?_
    refine lv_iadd hx hb dL_law_1348 ?_
    refine jtopr ex18.symm ?_
    refine va_sld hx hb hX hbl hbA hS (jin tx18 (by omega) (by omega)) dL_law_1349 ?_
    refine jcallV (As := [.int (xs x18.toNatClampNeg)]) (rest := []) ⟨hx, hb, hml, hown, hts⟩ hK hP hA hS hZ (c_X12_count l D cI cL ad zz hJ σ τ (xs x18.toNatClampNeg) ((xs x18.toNatClampNeg).toInt) rfl hI101 hI102 hI105 hI106 hI107) cw_RL_169 (jc_55 cI cL ad σ τ) rfl ⟨Nat.le_of_ble_eq_true rfl, Nat.le_of_ble_eq_true rfl⟩ rfl rfl rfl hl.1 rfl (Nat.le_of_ble_eq_true rfl) dL_law_1350 ⟨Nat.le_of_ble_eq_true rfl, Nat.le_of_ble_eq_true rfl⟩ (fun r165 σ164 τ164 H locs h164 hP hS => ?_)
    obtain ⟨⟨rfl, rfl⟩, h164⟩ := h164
    rcases h164 with h166 | h167 | h168 | h169 | h170 | h171 | h172
    · obtain ⟨q175, k173, k174⟩ := h166
      exact absurd (by omega : False) id
    · obtain ⟨q178, k176, k177⟩ := h167
      exact absurd (by omega : False) id
    · obtain ⟨q181, k179, k180⟩ := h168
      exact absurd (by omega : False) id
    · obtain ⟨q184, k182, k183⟩ := h169
      exact absurd (by omega : False) id
    · obtain ⟨q187, k185, k186⟩ := h170
      refine lv_pop hx hb dL_law_1353 rfl ?_
      refine lv_goto (tgt := 1357) hx hb dL_law_1354 (by decide) ?_
      obtain ⟨x188, ex188⟩ : ∃ y : Int32, y = x0 + 6 := ⟨_, rfl⟩
      have tx188 : x188.toInt = x0.toInt + 6 := (jadd ex188 rfl jz_6 (by omega) (by omega)).trans (by omega)
      refine lv_iinc (v := x188) (lv' := [(3, .int x188), (2, .ref (ad 55)), (1, .ref (ad 0)), (0, .ref b)]) hx hb dL_law_1357 hl (k := 0) rfl (by rw [ex188]; rfl) (by decide) rfl (fun ls hl => ?_)
      refine lv_goto (tgt := 18) hx hb dL_law_1360 (by decide) ?_
      exact ih x188 σ τ _ _ ls (by have h9 := tx188; omega) ⟨hI2, hI9, hI12, hI16, hI18, hI22, hI31, hI38, hI43, hI47, hI50, hI101, hI102, hI103, hI104, hI105, hI106, hI107, hI109, hI110, hI111, hI119, hs_jKept, hs_jBook, (by omega), (by omega), (by omega), hr0⟩ hP hS (lv_sub hl [0, 1, 2, 3] rfl)
    · obtain ⟨q191, k189, k190⟩ := h171
      exact absurd (by omega : False) id
    · obtain ⟨q193, k192⟩ := h172
      exact absurd (by omega : False) id
  · obtain ⟨q196, k194, k195⟩ := h27
    refine lv_pop hx hb dL_law_1343 rfl ?_
    refine lv_aload_n hx hb dL_law_1344 rfl (lv_at hl 1 rfl) ?_
    refine lv_aload_n hx hb dL_law_1345 rfl (lv_at hl 3 rfl) ?_
    refine lv_iload_n hx hb dL_law_1346 rfl (lv_at hl 0 rfl) ?_
    refine lv_iconst (v := 1) hx hb dL_law_1347 (by decide) ?_
    refine lv_iadd hx hb dL_law_1348 ?_
    refine jtopr ex18.symm ?_
    refine va_sld hx hb hX hbl hbA hS (jin tx18 (by omega) (by omega)) dL_law_1349 ?_
    refine jcallV (As := [.int (xs x18.toNatClampNeg)]) (rest := []) ⟨hx, hb, hml, hown, hts⟩ hK hP hA hS hZ (c_X12_count l D cI cL ad zz hJ σ τ (xs x18.toNatClampNeg) ((xs x18.toNatClampNeg).toInt) rfl hI101 hI102 hI105 hI106 hI107) cw_RL_169 (jc_55 cI cL ad σ τ) rfl ⟨Nat.le_of_ble_eq_true rfl, Nat.le_of_ble_eq_true rfl⟩ rfl rfl rfl hl.1 rfl (Nat.le_of_ble_eq_true rfl) dL_law_1350 ⟨Nat.le_of_ble_eq_true rfl, Nat.le_of_ble_eq_true rfl⟩ (fun r198 σ197 τ197 H locs h197 hP hS => ?_)
    obtain ⟨⟨rfl, rfl⟩, h197⟩ := h197
    rcases h197 with h199 | h200 | h201 | h202 | h203 | h204 | h205
    · obtain ⟨q208, k206, k207⟩ := h199
      exact absurd (by omega : False) id
    · obtain ⟨q211, k209, k210⟩ := h200
      exact absurd (by omega : False) id
    · obtain ⟨q214, k212, k213⟩ := h201
      exact absurd (by omega : False) id
    · obtain ⟨q217, k215, k216⟩ := h202
      exact absurd (by omega : False) id
    · obtain ⟨q220, k218, k219⟩ := h203
      exact absurd (by omega : False) id
    · obtain ⟨q223, k221, k222⟩ := h204
      refine lv_pop hx hb dL_law_1353 rfl ?_
      refine lv_goto (tgt := 1357) hx hb dL_law_1354 (by decide) ?_
      obtain ⟨x224, ex224⟩ : ∃ y : Int32, y = x0 + 6 := ⟨_, rfl⟩
      have tx224 : x224.toInt = x0.toInt + 6 := (jadd ex224 rfl jz_6 (by omega) (by omega)).trans (by omega)
      refine lv_iinc (v := x224) (lv' := [(3, .int x224), (2, .ref (ad 55)), (1, .ref (ad 0)), (0, .ref b)]) hx hb dL_law_1357 hl (k := 0) rfl (by rw [ex224]; rfl) (by decide) rfl (fun ls hl => ?_)
      refine lv_goto (tgt := 18) hx hb dL_law_1360 (by decide) ?_
      exact ih x224 σ τ _ _ ls (by have h9 := tx224; omega) ⟨hI2, hI9, hI12, hI16, hI18, hI22, hI31, hI38, hI43, hI47, hI50, hI101, hI102, hI103, hI104, hI105, hI106, hI107, hI109, hI110, hI111, hI119, hs_jKept, hs_jBook, (by omega), (by omega), (by omega), hr0⟩ hP hS (lv_sub hl [0, 1, 2, 3] rfl)
    · obtain ⟨q226, k225⟩ := h205
      exact absurd (by omega : False) id
  · obtain ⟨q228, k227⟩ := h28
    have q228 := q228.symm
    subst q228
    refine lv_pop hx hb dL_law_1343 rfl ?_
    refine lv_aload_n hx hb dL_law_1344 rfl (lv_at hl 1 rfl) ?_
    refine lv_aload_n hx hb dL_law_1345 rfl (lv_at hl 3 rfl) ?_
    refine lv_iload_n hx hb dL_law_1346 rfl (lv_at hl 0 rfl) ?_
    refine lv_iconst (v := 1) hx hb dL_law_1347 (by decide) ?_
    refine lv_iadd hx hb dL_law_1348 ?_
    refine jtopr ex18.symm ?_
    refine va_sld hx hb hX hbl hbA hS (jin tx18 (by omega) (by omega)) dL_law_1349 ?_
    refine jcallV (As := [.int (xs x18.toNatClampNeg)]) (rest := []) ⟨hx, hb, hml, hown, hts⟩ hK hP hA hS hZ (c_X12_count l D cI cL ad zz hJ σ τ (xs x18.toNatClampNeg) ((xs x18.toNatClampNeg).toInt) rfl hI101 hI102 hI105 hI106 hI107) cw_RL_169 (jc_55 cI cL ad σ τ) rfl ⟨Nat.le_of_ble_eq_true rfl, Nat.le_of_ble_eq_true rfl⟩ rfl rfl rfl hl.1 rfl (Nat.le_of_ble_eq_true rfl) dL_law_1350 ⟨Nat.le_of_ble_eq_true rfl, Nat.le_of_ble_eq_true rfl⟩ (fun r230 σ229 τ229 H locs h229 hP hS => ?_)
    obtain ⟨⟨rfl, rfl⟩, h229⟩ := h229
    rcases h229 with h231 | h232 | h233 | h234 | h235 | h236 | h237
    · obtain ⟨q240, k238, k239⟩ := h231
      exact absurd (by omega : False) id
    · obtain ⟨q243, k241, k242⟩ := h232
      exact absurd (by omega : False) id
    · obtain ⟨q246, k244, k245⟩ := h233
      exact absurd (by omega : False) id
    · obtain ⟨q249, k247, k248⟩ := h234
      exact absurd (by omega : False) id
    · obtain ⟨q252, k250, k251⟩ := h235
      exact absurd (by omega : False) id
    · obtain ⟨q255, k253, k254⟩ := h236
      exact absurd (by omega : False) id
    · obtain ⟨q257, k256⟩ := h237
      have q257 := q257.symm
      subst q257
      refine lv_pop hx hb dL_law_1353 rfl ?_
      refine lv_goto (tgt := 1357) hx hb dL_law_1354 (by decide) ?_
      obtain ⟨x258, ex258⟩ : ∃ y : Int32, y = x0 + 6 := ⟨_, rfl⟩
      have tx258 : x258.toInt = x0.toInt + 6 := (jadd ex258 rfl jz_6 (by omega) (by omega)).trans (by omega)
      refine lv_iinc (v := x258) (lv' := [(3, .int x258), (2, .ref (ad 55)), (1, .ref (ad 0)), (0, .ref b)]) hx hb dL_law_1357 hl (k := 0) rfl (by rw [ex258]; rfl) (by decide) rfl (fun ls hl => ?_)
      refine lv_goto (tgt := 18) hx hb dL_law_1360 (by decide) ?_
      exact ih x258 σ τ _ _ ls (by have h9 := tx258; omega) ⟨hI2, hI9, hI12, hI16, hI18, hI22, hI31, hI38, hI43, hI47, hI50, hI101, hI102, hI103, hI104, hI105, hI106, hI107, hI109, hI110, hI111, hI119, hs_jKept, hs_jBook, (by omega), (by omega), (by omega), hr0⟩ hP hS (lv_sub hl [0, 1, 2, 3] rfl)
set_option maxHeartbeats 4000000 in
set_option maxRecDepth 100000 in
theorem law_case_37 {p : Program} {e : Env} {s : State} {m : MethodId} {below : List Frame} {meth : Method} {c : Code} (l : Launch) {b L : Nat} {xs : Nat → Int32} {D : va_G} {cI cL : ClassId} {ad zz : Nat → Nat} (C0 : lw_At p s m meth c b L xs) (hJ : jD ad) (hA : ∀ q, jA ad q → s.heap.size ≤ q) (hK : jK D cI cL s) (hZ : jZ zz (fun q : Nat => s.heap.size ≤ q) s s.heap) {x0 : Int32} (hx0 : 0 ≤ x0.toInt) (hxL : x0.toInt + 6 ≤ (L : Int)) (hL : L ≤ 384) {σ : Nat → Nat → Int32} {τ : Nat → Nat → Int64} {H : Heap} {locs : List Loc} (hS : va_S (fun q : Nat => s.heap.size ≤ q) s.heap H locs) {ls : Array Slot} (hAll : jAll σ τ) (hP : jH D cI cL ad σ τ H) (hl : lv_has ls 4 [(3, .int x0), (2, .ref (ad 55)), (1, .ref (ad 0)), (0, .ref b)]) (ih : ∀ (x1 : Int32) (σ : Nat → Nat → Int32) (τ : Nat → Nat → Int64) (H : Heap) (locs : List Loc) (ls : Array Slot), x1.toInt = x0.toInt + 6 → jAll σ τ → jH D cI cL ad σ τ H → va_S (fun q : Nat => s.heap.size ≤ q) s.heap H locs → lv_has ls 4 [(3, .int x1), (2, .ref (ad 55)), (1, .ref (ad 0)), (0, .ref b)] → W p l e room_1 s m #[Value.ref b] below meth c H locs 90 348600 (lw_Z below #[Value.ref b] s) (F0 m 18 ls [])) : W p l e room_1 s m #[Value.ref b] below meth c H locs 90 348600 (lw_Z below #[Value.ref b] s) (F0 m 1357 ls []) := by
  obtain ⟨hx, hb, hr, hml, hown, hts0, hX, hbl, hlocks, hgv⟩ := C0
  have hts : ∀ w ∈ wsL_law, w.before #[Value.ref b] s = true := fun w h => hts0 w (wsL_law_in w h)
  have hbA : ¬ (fun q : Nat => s.heap.size ≤ q) b := Nat.not_le.mpr hbl
  have hown : s.vm.findClass RL = some m.cls := hown
  obtain ⟨hI2, hI9, hI12, hI16, hI18, hI22, hI31, hI38, hI43, hI47, hI50, hI101, hI102, hI103, hI104, hI105, hI106, hI107, hI109, hI110, hI111, hI119, hs_jKept, hs_jBook, ht0, ht1, ht2, hr0⟩ := hAll
  have hL9 : (L : Int) ≤ 384 := by omega
  obtain ⟨i1, i2, i3, i4, i5, w6⟩ : (0 ≤ (σ 2 0).toInt ∧ (σ 2 0).toInt ≤ 4) ∧ (0 ≤ (σ 2 1).toInt ∧ (σ 2 1).toInt ≤ 3) ∧ (0 ≤ (σ 2 2).toInt) ∧ (0 ≤ (σ 2 3).toInt) ∧ ((σ 2 2).toInt + (σ 2 3).toInt ≤ 40) ∧ (∀ k : Nat, k < 40 → 0 ≤ (σ 6 k).toInt ∧ (σ 6 k).toInt ≤ 67) := id hI2
  obtain ⟨i7, i8, i9, w10, w11, w12, w13⟩ : (0 ≤ (σ 55 5).toInt) ∧ ((σ 55 5).toInt ≤ (σ 55 4).toInt) ∧ ((σ 55 4).toInt ≤ 40) ∧ (∀ k : Nat, k < 68 → (-200) ≤ (σ 56 k).toInt ∧ (σ 56 k).toInt ≤ 500) ∧ (∀ k : Nat, k < 40 → 0 ≤ (σ 57 k).toInt ∧ (σ 57 k).toInt ≤ 67) ∧ (∀ k : Nat, k < 40 → (-200) ≤ (σ 58 k).toInt ∧ (σ 58 k).toInt ≤ 500) ∧ (∀ k : Nat, k < 40 → (-200) ≤ (σ 59 k).toInt ∧ (σ 59 k).toInt ≤ 500) := id hI101
  obtain ⟨i14, w15, w16⟩ : (0 ≤ (σ 55 6).toInt ∧ (σ 55 6).toInt ≤ 4) ∧ (∀ k : Nat, k < 4 → 0 ≤ (σ 60 k).toInt ∧ (σ 60 k).toInt ≤ 50) ∧ (∀ k : Nat, k < 4 → 0 ≤ (σ 61 k).toInt ∧ (σ 61 k).toInt ≤ 20) := id hI102
  obtain ⟨x17, ex17⟩ : ∃ y : Int32, y = x0 + 6 := ⟨_, rfl⟩
  have tx17 : x17.toInt = x0.toInt + 6 := (jadd ex17 rfl jz_6 (by omega) (by omega)).trans (by omega)
  refine lv_iinc (v := x17) (lv' := [(3, .int x17), (2, .ref (ad 55)), (1, .ref (ad 0)), (0, .ref b)]) hx hb dL_law_1357 hl (k := 0) rfl (by rw [ex17]; rfl) (by decide) rfl (fun ls hl => ?_)
  refine lv_goto (tgt := 18) hx hb dL_law_1360 (by decide) ?_
  exact ih x17 σ τ _ _ ls (by have h9 := tx17; omega) ⟨hI2, hI9, hI12, hI16, hI18, hI22, hI31, hI38, hI43, hI47, hI50, hI101, hI102, hI103, hI104, hI105, hI106, hI107, hI109, hI110, hI111, hI119, hs_jKept, hs_jBook, (by omega), (by omega), (by omega), hr0⟩ hP hS (lv_sub hl [0, 1, 2, 3] rfl)
