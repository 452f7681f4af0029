set_option maxHeartbeats 4000000 in
set_option maxRecDepth 100000 in
theorem law_case_19 {p : Program} {e : Env} {s : State} {m : MethodId} {below : List Frame} {meth : Method} {c : Code} (l : Launch) {b L : Nat} {xs : Nat → Int32} {D : va_G} {cI cL : ClassId} {ad zz : Nat → Nat} (C0 : lw_At p s m meth c b L xs) (hJ : jD ad) (hA : ∀ q, jA ad q → s.heap.size ≤ q) (hK : jK D cI cL s) (hZ : jZ zz (fun q : Nat => s.heap.size ≤ q) s s.heap) {x0 : Int32} (hx0 : 0 ≤ x0.toInt) (hxL : x0.toInt + 6 ≤ (L : Int)) (hL : L ≤ 384) {σ : Nat → Nat → Int32} {τ : Nat → Nat → Int64} {H : Heap} {locs : List Loc} (hS : va_S (fun q : Nat => s.heap.size ≤ q) s.heap H locs) {ls : Array Slot} (hAll : jAll σ τ) (hP : jH D cI cL ad σ τ H) (hl : lv_has ls 4 [(3, .int x0), (2, .ref (ad 55)), (1, .ref (ad 0)), (0, .ref b)]) (ih : ∀ (x1 : Int32) (σ : Nat → Nat → Int32) (τ : Nat → Nat → Int64) (H : Heap) (locs : List Loc) (ls : Array Slot), x1.toInt = x0.toInt + 6 → jAll σ τ → jH D cI cL ad σ τ H → va_S (fun q : Nat => s.heap.size ≤ q) s.heap H locs → lv_has ls 4 [(3, .int x1), (2, .ref (ad 55)), (1, .ref (ad 0)), (0, .ref b)] → W p l e room_1 s m #[Value.ref b] below meth c H locs 90 348600 (lw_Z below #[Value.ref b] s) (F0 m 18 ls [])) : W p l e room_1 s m #[Value.ref b] below meth c H locs 90 348600 (lw_Z below #[Value.ref b] s) (F0 m 773 ls []) := by
  obtain ⟨hx, hb, hr, hml, hown, hts0, hX, hbl, hlocks, hgv⟩ := C0
  have hts : ∀ w ∈ wsL_law, w.before #[Value.ref b] s = true := fun w h => hts0 w (wsL_law_in w h)
  have hbA : ¬ (fun q : Nat => s.heap.size ≤ q) b := Nat.not_le.mpr hbl
  have hown : s.vm.findClass RL = some m.cls := hown
  obtain ⟨hI2, hI9, hI12, hI16, hI18, hI22, hI31, hI38, hI43, hI47, hI50, hI101, hI102, hI103, hI104, hI105, hI106, hI107, hI109, hI110, hI111, hI119, hs_jKept, hs_jBook, ht0, ht1, ht2, hr0⟩ := hAll
  have hL9 : (L : Int) ≤ 384 := by omega
  obtain ⟨i1, i2, i3, i4, i5, w6⟩ : (0 ≤ (σ 2 0).toInt ∧ (σ 2 0).toInt ≤ 4) ∧ (0 ≤ (σ 2 1).toInt ∧ (σ 2 1).toInt ≤ 3) ∧ (0 ≤ (σ 2 2).toInt) ∧ (0 ≤ (σ 2 3).toInt) ∧ ((σ 2 2).toInt + (σ 2 3).toInt ≤ 40) ∧ (∀ k : Nat, k < 40 → 0 ≤ (σ 6 k).toInt ∧ (σ 6 k).toInt ≤ 67) := id hI2
  obtain ⟨i7, i8, i9, w10, w11, w12, w13⟩ : (0 ≤ (σ 55 5).toInt) ∧ ((σ 55 5).toInt ≤ (σ 55 4).toInt) ∧ ((σ 55 4).toInt ≤ 40) ∧ (∀ k : Nat, k < 68 → (-200) ≤ (σ 56 k).toInt ∧ (σ 56 k).toInt ≤ 500) ∧ (∀ k : Nat, k < 40 → 0 ≤ (σ 57 k).toInt ∧ (σ 57 k).toInt ≤ 67) ∧ (∀ k : Nat, k < 40 → (-200) ≤ (σ 58 k).toInt ∧ (σ 58 k).toInt ≤ 500) ∧ (∀ k : Nat, k < 40 → (-200) ≤ (σ 59 k).toInt ∧ (σ 59 k).toInt ≤ 500) := id hI101
  obtain ⟨i14, w15, w16⟩ : (0 ≤ (σ 55 6).toInt ∧ (σ 55 6).toInt ≤ 4) ∧ (∀ k : Nat, k < 4 → 0 ≤ (σ 60 k).toInt ∧ (σ 60 k).toInt ≤ 50) ∧ (∀ k : Nat, k < 4 → 0 ≤ (σ 61 k).toInt ∧ (σ 61 k).toInt ≤ 20) := id hI102
  refine lv_aload_n hx hb dL_law_773 rfl (lv_at hl 2 rfl) ?_
  refine lv_aload_n hx hb dL_law_774 rfl (lv_at hl 3 rfl) ?_
  refine lv_iload_n hx hb dL_law_775 rfl (lv_at hl 0 rfl) ?_
  refine lv_iconst (v := 1) hx hb dL_law_776 (by decide) ?_
  have g17 := jrg (rfl : x0.toInt = x0.toInt)
  refine lv_iadd hx hb dL_law_777 ?_
  refine lv_topi (fun x18 ex18 => ?_)
  have tx18 : x18.toInt = x0.toInt + 1 := (jadd ex18 rfl jz_1 (by omega) (by omega)).trans (by omega)
  refine va_sld hx hb hX hbl hbA hS (jin tx18 (by omega) (by omega)) dL_law_778 ?_
  have g19 := jrg (rfl : (xs x18.toNatClampNeg).toInt = (xs x18.toNatClampNeg).toInt)
  refine lv_aload_n hx hb dL_law_779 rfl (lv_at hl 3 rfl) ?_
  refine lv_iload_n hx hb dL_law_780 rfl (lv_at hl 0 rfl) ?_
  refine lv_iconst (v := 2) hx hb dL_law_781 (by decide) ?_
  refine lv_iadd hx hb dL_law_782 ?_
  refine lv_topi (fun x20 ex20 => ?_)
  have tx20 : x20.toInt = x0.toInt + 2 := (jadd ex20 rfl jz_2 (by omega) (by omega)).trans (by omega)
  refine va_sld hx hb hX hbl hbA hS (jin tx20 (by omega) (by omega)) dL_law_783 ?_
  have g21 := jrg (rfl : (xs x20.toNatClampNeg).toInt = (xs x20.toNatClampNeg).toInt)
  refine jcallV (As := [.int (xs x18.toNatClampNeg), .int (xs x20.toNatClampNeg)]) (rest := []) ⟨hx, hb, hml, hown, hts⟩ hK hP hA hS hZ (c_X11_book l D cI cL ad zz hJ σ τ (xs x18.toNatClampNeg) ((xs x18.toNatClampNeg).toInt) rfl (xs x20.toNatClampNeg) ((xs x20.toNatClampNeg).toInt) rfl hI2 hI16 hI47) cw_RL_93 (jc_0 cI cL ad σ τ) rfl ⟨Nat.le_of_ble_eq_true rfl, Nat.le_of_ble_eq_true rfl⟩ rfl rfl rfl hl.1 rfl (Nat.le_of_ble_eq_true rfl) dL_law_784 ⟨Nat.le_of_ble_eq_true rfl, Nat.le_of_ble_eq_true rfl⟩ (fun r23 σ22 τ22 H locs h22 hP hS => ?_)
  obtain ⟨rfl, f24, f25, I26, h22⟩ := h22
  refine lv_pop hx hb dL_law_787 rfl ?_
  refine lv_aload_n hx hb dL_law_788 rfl (lv_at hl 1 rfl) ?_
  refine lv_aload_n hx hb dL_law_789 rfl (lv_at hl 3 rfl) ?_
  refine lv_iload_n hx hb dL_law_790 rfl (lv_at hl 0 rfl) ?_
  refine lv_iconst (v := 1) hx hb dL_law_791 (by decide) ?_
  refine lv_iadd hx hb dL_law_792 ?_
  refine jtopr ex18.symm ?_
  refine va_sld hx hb hX hbl hbA hS (jin tx18 (by omega) (by omega)) dL_law_793 ?_
  refine lv_aload_n hx hb dL_law_794 rfl (lv_at hl 3 rfl) ?_
  refine lv_iload_n hx hb dL_law_795 rfl (lv_at hl 0 rfl) ?_
  refine lv_iconst (v := 2) hx hb dL_law_796 (by decide) ?_
  refine lv_iadd hx hb dL_law_797 ?_
  refine jtopr ex20.symm ?_
  refine va_sld hx hb hX hbl hbA hS (jin tx20 (by omega) (by omega)) dL_law_798 ?_
  have I27 : jI102 σ22 := jI102_fr (congrFun (f24 55 (by decide)) 6) (f24 60 (by decide)) (f24 61 (by decide)) hI102
  have I28 : jI104 σ22 := jI104_fr (congrFun (f24 55 (by decide)) 10) (congrFun (f24 55 (by decide)) 12) (congrFun (f24 55 (by decide)) 13) (f24 62 (by decide)) (f24 67 (by decide)) hI104
  have I29 : jI107 σ22 := jI107_fr (congrFun (f24 55 (by decide)) 12) (congrFun (f24 55 (by decide)) 47) (f24 80 (by decide)) hI107
  have w30 : ∀ k : Nat, k < 4 → 0 ≤ (σ 68 k).toInt ∧ (σ 68 k).toInt ≤ 3 := hI119
  have w31 : ∀ k : Nat, k < 4 → 0 ≤ (σ22 68 k).toInt ∧ (σ22 68 k).toInt ≤ 3 := (jrr_fr (f24 68 (by decide)) w30)
  have p32 : jBook σ22 := jBook.fr (congrFun (f24 55 (by decide)) 47) (congrFun (f24 55 (by decide)) 10) (f24 81 (by decide)) hs_jBook
  have z33 : (σ22 55 47).toInt = (σ 55 47).toInt := (congrArg Int32.toInt (show σ22 55 47 = (σ 55 47) from (congrFun (f24 55 (by decide)) 47)))
  refine jcallV (As := [.int (xs x18.toNatClampNeg), .int (xs x20.toNatClampNeg)]) (rest := []) ⟨hx, hb, hml, hown, hts⟩ hK hP hA hS hZ (c_X12_book l D cI cL ad zz hJ σ22 τ (xs x18.toNatClampNeg) ((xs x18.toNatClampNeg).toInt) rfl (xs x20.toNatClampNeg) ((xs x20.toNatClampNeg).toInt) rfl I27 I28 I29 w31 p32) cw_RL_96 (jc_55 cI cL ad σ22 τ) rfl ⟨Nat.le_of_ble_eq_true rfl, Nat.le_of_ble_eq_true rfl⟩ rfl rfl rfl hl.1 rfl (Nat.le_of_ble_eq_true rfl) dL_law_799 ⟨Nat.le_of_ble_eq_true rfl, Nat.le_of_ble_eq_true rfl⟩ (fun r35 σ34 τ34 H locs h34 hP hS => ?_)
  obtain ⟨rfl, f36, f37, I38, w39, p40, h34⟩ := h34
  rcases h34 with h41 | h42
  · obtain ⟨q45, k43, k44⟩ := h41
    refine lv_pop hx hb dL_law_802 rfl ?_
    refine lv_goto (tgt := 1357) hx hb dL_law_803 (by decide) ?_
    obtain ⟨x46, ex46⟩ : ∃ y : Int32, y = x0 + 6 := ⟨_, rfl⟩
    have tx46 : x46.toInt = x0.toInt + 6 := (jadd ex46 rfl jz_6 (by omega) (by omega)).trans (by omega)
    refine lv_iinc (v := x46) (lv' := [(3, .int x46), (2, .ref (ad 55)), (1, .ref (ad 0)), (0, .ref b)]) hx hb dL_law_1357 hl (k := 0) rfl (by rw [ex46]; rfl) (by decide) rfl (fun ls hl => ?_)
    refine lv_goto (tgt := 18) hx hb dL_law_1360 (by decide) ?_
    have I47 : jI2 σ34 := jI2_fr ((congrFun (f36 2 (by decide)) 0).trans (congrFun (f24 2 (by decide)) 0)) ((congrFun (f36 2 (by decide)) 1).trans (congrFun (f24 2 (by decide)) 1)) ((congrFun (f36 2 (by decide)) 2).trans (congrFun (f24 2 (by decide)) 2)) ((congrFun (f36 2 (by decide)) 3).trans (congrFun (f24 2 (by decide)) 3)) ((f36 6 (by decide)).trans (f24 6 (by decide))) hI2
    have I48 : jI9 σ34 := jI9_fr ((congrFun (f36 9 (by decide)) 0).trans (congrFun (f24 9 (by decide)) 0)) ((f36 10 (by decide)).trans (f24 10 (by decide))) ((f36 11 (by decide)).trans (f24 11 (by decide))) hI9
    have I49 : jI12 σ34 := jI12_fr ((congrFun (f36 12 (by decide)) 0).trans (congrFun (f24 12 (by decide)) 0)) ((f36 13 (by decide)).trans (f24 13 (by decide))) hI12
    have I50 : jI16 σ34 := jI16_fr ((congrFun (f36 16 (by decide)) 0).trans (congrFun (f24 16 (by decide)) 0)) ((congrFun (f36 16 (by decide)) 1).trans (congrFun (f24 16 (by decide)) 1)) ((congrFun (f36 16 (by decide)) 2).trans (congrFun (f24 16 (by decide)) 2)) ((f36 17 (by decide)).trans (f24 17 (by decide))) hI16
    have I51 : jI18 σ34 := jI18_fr ((congrFun (f36 18 (by decide)) 0).trans (congrFun (f24 18 (by decide)) 0)) ((f36 19 (by decide)).trans (f24 19 (by decide))) hI18
    have I52 : jI22 σ34 := jI22_fr ((congrFun (f36 22 (by decide)) 0).trans (congrFun (f24 22 (by decide)) 0)) ((f36 23 (by decide)).trans (f24 23 (by decide))) hI22
    have I53 : jI31 σ34 := jI31_fr ((congrFun (f36 31 (by decide)) 8).trans (congrFun (f24 31 (by decide)) 8)) ((f36 33 (by decide)).trans (f24 33 (by decide))) ((f36 36 (by decide)).trans (f24 36 (by decide))) hI31
    have I54 : jI38 σ34 := jI38_fr ((congrFun (f36 38 (by decide)) 0).trans (congrFun (f24 38 (by decide)) 0)) ((congrFun (f36 38 (by decide)) 1).trans (congrFun (f24 38 (by decide)) 1)) ((f36 39 (by decide)).trans (f24 39 (by decide))) hI38
    have I55 : jI43 σ34 := jI43_fr ((congrFun (f36 43 (by decide)) 8).trans (congrFun (f24 43 (by decide)) 8)) hI43
    have I56 : jI47 σ34 := jI47_fr (congrFun (f36 47 (by decide)) 0) (f36 49 (by decide)) I26
    have I57 : jI50 σ34 := jI50_fr ((f36 52 (by decide)).trans (f24 52 (by decide))) hI50
    have I58 : jI101 σ34 := jI101_fr ((f37 4 (by decide)).trans (congrFun (f24 55 (by decide)) 4)) ((f37 5 (by decide)).trans (congrFun (f24 55 (by decide)) 5)) ((f36 56 (by decide)).trans (f24 56 (by decide))) ((f36 57 (by decide)).trans (f24 57 (by decide))) ((f36 58 (by decide)).trans (f24 58 (by decide))) ((f36 59 (by decide)).trans (f24 59 (by decide))) hI101
    have I59 : jI102 σ34 := jI102_fr (f37 6 (by decide)) (f36 60 (by decide)) (f36 61 (by decide)) I27
    have I60 : jI103 σ34 := jI103_fr ((f37 9 (by decide)).trans (congrFun (f24 55 (by decide)) 9)) hI103
    have I61 : jI104 σ34 := jI104_fr (f37 10 (by decide)) (f37 12 (by decide)) (f37 13 (by decide)) (f36 62 (by decide)) (f36 67 (by decide)) I28
    have I62 : jI105 σ34 := jI105_fr ((f37 15 (by decide)).trans (congrFun (f24 55 (by decide)) 15)) ((f36 65 (by decide)).trans (f24 65 (by decide))) hI105
    have I63 : jI106 σ34 := jI106_fr ((f37 32 (by decide)).trans (congrFun (f24 55 (by decide)) 32)) ((f36 70 (by decide)).trans (f24 70 (by decide))) ((f36 71 (by decide)).trans (f24 71 (by decide))) ((f36 72 (by decide)).trans (f24 72 (by decide))) hI106
    have I64 : jI109 σ34 := jI109_fr ((f37 50 (by decide)).trans (congrFun (f24 55 (by decide)) 50)) hI109
    have I65 : jI110 σ34 := jI110_fr ((f36 86 (by decide)).trans (f24 86 (by decide))) ((f36 87 (by decide)).trans (f24 87 (by decide))) hI110
    have I66 : jI111 σ34 := jI111_fr ((f36 79 (by decide)).trans (f24 79 (by decide))) hI111
    have I67 : jI119 σ34 := w39
    have p68 : jKept σ34 := jKept.fr ((f36 75 (by decide)).trans (f24 75 (by decide))) ((f36 76 (by decide)).trans (f24 76 (by decide))) ((f36 77 (by decide)).trans (f24 77 (by decide))) hs_jKept
    have z69 : (σ34 2 0).toInt = (σ 2 0).toInt := (congrArg Int32.toInt (show σ34 2 0 = (σ 2 0) from ((congrFun (f36 2 (by decide)) 0).trans (congrFun (f24 2 (by decide)) 0))))
    have z70 : (σ34 55 6).toInt = (σ 55 6).toInt := (congrArg Int32.toInt (show σ34 55 6 = (σ 55 6) from ((f37 6 (by decide)).trans (congrFun (f24 55 (by decide)) 6))))
    have z71 : (σ34 2 2).toInt = (σ 2 2).toInt := (congrArg Int32.toInt (show σ34 2 2 = (σ 2 2) from ((congrFun (f36 2 (by decide)) 2).trans (congrFun (f24 2 (by decide)) 2))))
    have z72 : (σ34 55 5).toInt = (σ 55 5).toInt := (congrArg Int32.toInt (show σ34 55 5 = (σ 55 5) from ((f37 5 (by decide)).trans (congrFun (f24 55 (by decide)) 5))))
    have z73 : (σ34 2 3).toInt = (σ 2 3).toInt := (congrArg Int32.toInt (show σ34 2 3 = (σ 2 3) from ((congrFun (f36 2 (by decide)) 3).trans (congrFun (f24 2 (by decide)) 3))))
    have z74 : (σ34 55 4).toInt = (σ 55 4).toInt := (congrArg Int32.toInt (show σ34 55 4 = (σ 55 4) from ((f37 4 (by decide)).trans (congrFun (f24 55 (by decide)) 4))))
    exact ih x46 σ34 τ _ _ ls (by have h9 := tx46; omega) ⟨I47, I48, I49, I50, I51, I52, I53, I54, I55, I56, I57, I58, I59, I60, I61, I62, I63, I38, I64, I65, I66, I67, p68, p40, (by omega), (by omega), (by omega), (show jNumP (σ34 3) (σ34 56) (σ34 6) (σ34 57) (σ34 7) (σ34 58) (σ34 8) (σ34 59) (σ34 55 6).toInt (σ34 55 4).toInt by rw [show σ34 3 = σ 3 from ((f36 3 (by decide)).trans (f24 3 (by decide))), show σ34 56 = σ 56 from ((f36 56 (by decide)).trans (f24 56 (by decide))), show σ34 6 = σ 6 from ((f36 6 (by decide)).trans (f24 6 (by decide))), show σ34 57 = σ 57 from ((f36 57 (by decide)).trans (f24 57 (by decide))), show σ34 7 = σ 7 from ((f36 7 (by decide)).trans (f24 7 (by decide))), show σ34 58 = σ 58 from ((f36 58 (by decide)).trans (f24 58 (by decide))), show σ34 8 = σ 8 from ((f36 8 (by decide)).trans (f24 8 (by decide))), show σ34 59 = σ 59 from ((f36 59 (by decide)).trans (f24 59 (by decide))), show (σ34 55 6).toInt = (σ 55 6).toInt from by omega, show (σ34 55 4).toInt = (σ 55 4).toInt from by omega]; exact hr0)⟩ hP hS (lv_sub hl [0, 1, 2, 3] rfl)
  · obtain ⟨q77, k75, k76⟩ := h42
    refine lv_pop hx hb dL_law_802 rfl ?_
    refine lv_goto (tgt := 1357) hx hb dL_law_803 (by decide) ?_
    obtain ⟨x78, ex78⟩ : ∃ y : Int32, y = x0 + 6 := ⟨_, rfl⟩
    have tx78 : x78.toInt = x0.toInt + 6 := (jadd ex78 rfl jz_6 (by omega) (by omega)).trans (by omega)
    refine lv_iinc (v := x78) (lv' := [(3, .int x78), (2, .ref (ad 55)), (1, .ref (ad 0)), (0, .ref b)]) hx hb dL_law_1357 hl (k := 0) rfl (by rw [ex78]; rfl) (by decide) rfl (fun ls hl => ?_)
    refine lv_goto (tgt := 18) hx hb dL_law_1360 (by decide) ?_
    have I79 : jI2 σ34 := jI2_fr ((congrFun (f36 2 (by decide)) 0).trans (congrFun (f24 2 (by decide)) 0)) ((congrFun (f36 2 (by decide)) 1).trans (congrFun (f24 2 (by decide)) 1)) ((congrFun (f36 2 (by decide)) 2).trans (congrFun (f24 2 (by decide)) 2)) ((congrFun (f36 2 (by decide)) 3).trans (congrFun (f24 2 (by decide)) 3)) ((f36 6 (by decide)).trans (f24 6 (by decide))) hI2
    have I80 : jI9 σ34 := jI9_fr ((congrFun (f36 9 (by decide)) 0).trans (congrFun (f24 9 (by decide)) 0)) ((f36 10 (by decide)).trans (f24 10 (by decide))) ((f36 11 (by decide)).trans (f24 11 (by decide))) hI9
    have I81 : jI12 σ34 := jI12_fr ((congrFun (f36 12 (by decide)) 0).trans (congrFun (f24 12 (by decide)) 0)) ((f36 13 (by decide)).trans (f24 13 (by decide))) hI12
    have I82 : jI16 σ34 := jI16_fr ((congrFun (f36 16 (by decide)) 0).trans (congrFun (f24 16 (by decide)) 0)) ((congrFun (f36 16 (by decide)) 1).trans (congrFun (f24 16 (by decide)) 1)) ((congrFun (f36 16 (by decide)) 2).trans (congrFun (f24 16 (by decide)) 2)) ((f36 17 (by decide)).trans (f24 17 (by decide))) hI16
    have I83 : jI18 σ34 := jI18_fr ((congrFun (f36 18 (by decide)) 0).trans (congrFun (f24 18 (by decide)) 0)) ((f36 19 (by decide)).trans (f24 19 (by decide))) hI18
    have I84 : jI22 σ34 := jI22_fr ((congrFun (f36 22 (by decide)) 0).trans (congrFun (f24 22 (by decide)) 0)) ((f36 23 (by decide)).trans (f24 23 (by decide))) hI22
    have I85 : jI31 σ34 := jI31_fr ((congrFun (f36 31 (by decide)) 8).trans (congrFun (f24 31 (by decide)) 8)) ((f36 33 (by decide)).trans (f24 33 (by decide))) ((f36 36 (by decide)).trans (f24 36 (by decide))) hI31
    have I86 : jI38 σ34 := jI38_fr ((congrFun (f36 38 (by decide)) 0).trans (congrFun (f24 38 (by decide)) 0)) ((congrFun (f36 38 (by decide)) 1).trans (congrFun (f24 38 (by decide)) 1)) ((f36 39 (by decide)).trans (f24 39 (by decide))) hI38
    have I87 : jI43 σ34 := jI43_fr ((congrFun (f36 43 (by decide)) 8).trans (congrFun (f24 43 (by decide)) 8)) hI43
    have I88 : jI47 σ34 := jI47_fr (congrFun (f36 47 (by decide)) 0) (f36 49 (by decide)) I26
    have I89 : jI50 σ34 := jI50_fr ((f36 52 (by decide)).trans (f24 52 (by decide))) hI50
    have I90 : jI101 σ34 := jI101_fr ((f37 4 (by decide)).trans (congrFun (f24 55 (by decide)) 4)) ((f37 5 (by decide)).trans (congrFun (f24 55 (by decide)) 5)) ((f36 56 (by decide)).trans (f24 56 (by decide))) ((f36 57 (by decide)).trans (f24 57 (by decide))) ((f36 58 (by decide)).trans (f24 58 (by decide))) ((f36 59 (by decide)).trans (f24 59 (by decide))) hI101
    have I91 : jI102 σ34 := jI102_fr (f37 6 (by decide)) (f36 60 (by decide)) (f36 61 (by decide)) I27
    have I92 : jI103 σ34 := jI103_fr ((f37 9 (by decide)).trans (congrFun (f24 55 (by decide)) 9)) hI103
    have I93 : jI104 σ34 := jI104_fr (f37 10 (by decide)) (f37 12 (by decide)) (f37 13 (by decide)) (f36 62 (by decide)) (f36 67 (by decide)) I28
    have I94 : jI105 σ34 := jI105_fr ((f37 15 (by decide)).trans (congrFun (f24 55 (by decide)) 15)) ((f36 65 (by decide)).trans (f24 65 (by decide))) hI105
    have I95 : jI106 σ34 := jI106_fr ((f37 32 (by decide)).trans (congrFun (f24 55 (by decide)) 32)) ((f36 70 (by decide)).trans (f24 70 (by decide))) ((f36 71 (by decide)).trans (f24 71 (by decide))) ((f36 72 (by decide)).trans (f24 72 (by decide))) hI106
    have I96 : jI109 σ34 := jI109_fr ((f37 50 (by decide)).trans (congrFun (f24 55 (by decide)) 50)) hI109
    have I97 : jI110 σ34 := jI110_fr ((f36 86 (by decide)).trans (f24 86 (by decide))) ((f36 87 (by decide)).trans (f24 87 (by decide))) hI110
    have I98 : jI111 σ34 := jI111_fr ((f36 79 (by decide)).trans (f24 79 (by decide))) hI111
    have I99 : jI119 σ34 := w39
    have p100 : jKept σ34 := jKept.fr ((f36 75 (by decide)).trans (f24 75 (by decide))) ((f36 76 (by decide)).trans (f24 76 (by decide))) ((f36 77 (by decide)).trans (f24 77 (by decide))) hs_jKept
    have z101 : (σ34 2 0).toInt = (σ 2 0).toInt := (congrArg Int32.toInt (show σ34 2 0 = (σ 2 0) from ((congrFun (f36 2 (by decide)) 0).trans (congrFun (f24 2 (by decide)) 0))))
    have z102 : (σ34 55 6).toInt = (σ 55 6).toInt := (congrArg Int32.toInt (show σ34 55 6 = (σ 55 6) from ((f37 6 (by decide)).trans (congrFun (f24 55 (by decide)) 6))))
    have z103 : (σ34 2 2).toInt = (σ 2 2).toInt := (congrArg Int32.toInt (show σ34 2 2 = (σ 2 2) from ((congrFun (f36 2 (by decide)) 2).trans (congrFun (f24 2 (by decide)) 2))))
    have z104 : (σ34 55 5).toInt = (σ 55 5).toInt := (congrArg Int32.toInt (show σ34 55 5 = (σ 55 5) from ((f37 5 (by decide)).trans (congrFun (f24 55 (by decide)) 5))))
    have z105 : (σ34 2 3).toInt = (σ 2 3).toInt := (congrArg Int32.toInt (show σ34 2 3 = (σ 2 3) from ((congrFun (f36 2 (by decide)) 3).trans (congrFun (f24 2 (by decide)) 3))))
    have z106 : (σ34 55 4).toInt = (σ 55 4).toInt := (congrArg Int32.toInt (show σ34 55 4 = (σ 55 4) from ((f37 4 (by decide)).trans (congrFun (f24 55 (by decide)) 4))))
    exact ih x78 σ34 τ _ _ ls (by have h9 := tx78; omega) ⟨I79, I80, I81, I82, I83, I84, I85, I86, I87, I88, I89, I90, I91, I92, I93, I94, I95, I38, I96, I97, I98, I99, p100, p40, (by omega), (by omega), (by omega), (show jNumP (σ34 3) (σ34 56) (σ34 6) (σ34 57) (σ34 7) (σ34 58) (σ34 8) (σ34 59) (σ34 55 6).toInt (σ34 55 4).toInt by rw [show σ34 3 = σ 3 from ((f36 3 (by decide)).trans (f24 3 (by decide))), show σ34 56 = σ 56 from ((f36 56 (by decide)).trans (f24 56 (by decide))), show σ34 6 = σ 6 from ((f36 6 (by decide)).trans (f24 6 (by decide))), show σ34 57 = σ 57 from ((f36 57 (by decide)).trans (f24 57 (by decide))), show σ34 7 = σ 7 from ((f36 7 (by decide)).trans (f24 7 (by decide))), show σ34 58 = σ 58 from ((f36 58 (by decide)).trans (f24 58 (by decide))), show σ34 8 = σ 8 from ((f36 8 (by decide)).trans (f24 8 (by decide))), show σ34 59 = σ 59 from ((f36 59 (by decide)).trans (f24 59 (by decide))), show (σ34 55 6).toInt = (σ 55 6).toInt from by omega, show (σ34 55 4).toInt = (σ 55 4).toInt from by omega]; exact hr0)⟩ hP hS (lv_sub hl [0, 1, 2, 3] rfl)
set_option maxHeartbeats 4000000 in
set_option maxRecDepth 100000 in
theorem law_case_20 {p : Program} {e : Env} {s : State} {m : MethodId} {below : List Frame} {meth : Method} {c : Code} (l : Launch) {b L : Nat} {xs : Nat → Int32} {D : va_G} {cI cL : ClassId} {ad zz : Nat → Nat} (C0 : lw_At p s m meth c b L xs) (hJ : jD ad) (hA : ∀ q, jA ad q → s.heap.size ≤ q) (hK : jK D cI cL s) (hZ : jZ zz (fun q : Nat => s.heap.size ≤ q) s s.heap) {x0 : Int32} (hx0 : 0 ≤ x0.toInt) (hxL : x0.toInt + 6 ≤ (L : Int)) (hL : L ≤ 384) {σ : Nat → Nat → Int32} {τ : Nat → Nat → Int64} {H : Heap} {locs : List Loc} (hS : va_S (fun q : Nat => s.heap.size ≤ q) s.heap H locs) {ls : Array Slot} (hAll : jAll σ τ) (hP : jH D cI cL ad σ τ H) (hl : lv_has ls 4 [(3, .int x0), (2, .ref (ad 55)), (1, .ref (ad 0)), (0, .ref b)]) (ih : ∀ (x1 : Int32) (σ : Nat → Nat → Int32) (τ : Nat → Nat → Int64) (H : Heap) (locs : List Loc) (ls : Array Slot), x1.toInt = x0.toInt + 6 → jAll σ τ → jH D cI cL ad σ τ H → va_S (fun q : Nat => s.heap.size ≤ q) s.heap H locs → lv_has ls 4 [(3, .int x1), (2, .ref (ad 55)), (1, .ref (ad 0)), (0, .ref b)] → W p l e room_1 s m #[Value.ref b] below meth c H locs 90 348600 (lw_Z below #[Value.ref b] s) (F0 m 18 ls [])) : W p l e room_1 s m #[Value.ref b] below meth c H locs 90 348600 (lw_Z below #[Value.ref b] s) (F0 m 806 ls []) := by
  obtain ⟨hx, hb, hr, hml, hown, hts0, hX, hbl, hlocks, hgv⟩ := C0
  have hts : ∀ w ∈ wsL_law, w.before #[Value.ref b] s = true := fun w h => hts0 w (wsL_law_in w h)
  have hbA : ¬ (fun q : Nat => s.heap.size ≤ q) b := Nat.not_le.mpr hbl
  have hown : s.vm.findClass RL = some m.cls := hown
  obtain ⟨hI2, hI9, hI12, hI16, hI18, hI22, hI31, hI38, hI43, hI47, hI50, hI101, hI102, hI103, hI104, hI105, hI106, hI107, hI109, hI110, hI111, hI119, hs_jKept, hs_jBook, ht0, ht1, ht2, hr0⟩ := hAll
  have hL9 : (L : Int) ≤ 384 := by omega
  obtain ⟨i1, i2, i3, i4, i5, w6⟩ : (0 ≤ (σ 2 0).toInt ∧ (σ 2 0).toInt ≤ 4) ∧ (0 ≤ (σ 2 1).toInt ∧ (σ 2 1).toInt ≤ 3) ∧ (0 ≤ (σ 2 2).toInt) ∧ (0 ≤ (σ 2 3).toInt) ∧ ((σ 2 2).toInt + (σ 2 3).toInt ≤ 40) ∧ (∀ k : Nat, k < 40 → 0 ≤ (σ 6 k).toInt ∧ (σ 6 k).toInt ≤ 67) := id hI2
  obtain ⟨i7, i8, i9, w10, w11, w12, w13⟩ : (0 ≤ (σ 55 5).toInt) ∧ ((σ 55 5).toInt ≤ (σ 55 4).toInt) ∧ ((σ 55 4).toInt ≤ 40) ∧ (∀ k : Nat, k < 68 → (-200) ≤ (σ 56 k).toInt ∧ (σ 56 k).toInt ≤ 500) ∧ (∀ k : Nat, k < 40 → 0 ≤ (σ 57 k).toInt ∧ (σ 57 k).toInt ≤ 67) ∧ (∀ k : Nat, k < 40 → (-200) ≤ (σ 58 k).toInt ∧ (σ 58 k).toInt ≤ 500) ∧ (∀ k : Nat, k < 40 → (-200) ≤ (σ 59 k).toInt ∧ (σ 59 k).toInt ≤ 500) := id hI101
  obtain ⟨i14, w15, w16⟩ : (0 ≤ (σ 55 6).toInt ∧ (σ 55 6).toInt ≤ 4) ∧ (∀ k : Nat, k < 4 → 0 ≤ (σ 60 k).toInt ∧ (σ 60 k).toInt ≤ 50) ∧ (∀ k : Nat, k < 4 → 0 ≤ (σ 61 k).toInt ∧ (σ 61 k).toInt ≤ 20) := id hI102
  refine lv_aload_n hx hb dL_law_806 rfl (lv_at hl 2 rfl) ?_
  refine lv_aload_n hx hb dL_law_807 rfl (lv_at hl 3 rfl) ?_
  refine lv_iload_n hx hb dL_law_808 rfl (lv_at hl 0 rfl) ?_
  refine lv_iconst (v := 1) hx hb dL_law_809 (by decide) ?_
  have g17 := jrg (rfl : x0.toInt = x0.toInt)
  refine lv_iadd hx hb dL_law_810 ?_
  refine lv_topi (fun x18 ex18 => ?_)
  have tx18 : x18.toInt = x0.toInt + 1 := (jadd ex18 rfl jz_1 (by omega) (by omega)).trans (by omega)
  refine va_sld hx hb hX hbl hbA hS (jin tx18 (by omega) (by omega)) dL_law_811 ?_
  have g19 := jrg (rfl : (xs x18.toNatClampNeg).toInt = (xs x18.toNatClampNeg).toInt)
  refine lv_aload_n hx hb dL_law_812 rfl (lv_at hl 3 rfl) ?_
  refine lv_iload_n hx hb dL_law_813 rfl (lv_at hl 0 rfl) ?_
  refine lv_iconst (v := 2) hx hb dL_law_814 (by decide) ?_
  refine lv_iadd hx hb dL_law_815 ?_
  refine lv_topi (fun x20 ex20 => ?_)
  have tx20 : x20.toInt = x0.toInt + 2 := (jadd ex20 rfl jz_2 (by omega) (by omega)).trans (by omega)
  refine va_sld hx hb hX hbl hbA hS (jin tx20 (by omega) (by omega)) dL_law_816 ?_
  have g21 := jrg (rfl : (xs x20.toNatClampNeg).toInt = (xs x20.toNatClampNeg).toInt)
  refine jcallV (As := [.int (xs x18.toNatClampNeg), .int (xs x20.toNatClampNeg)]) (rest := []) ⟨hx, hb, hml, hown, hts⟩ hK hP hA hS hZ (c_X11_books l D cI cL ad zz hJ σ τ (xs x18.toNatClampNeg) ((xs x18.toNatClampNeg).toInt) rfl (xs x20.toNatClampNeg) ((xs x20.toNatClampNeg).toInt) rfl hI2 hI16 hI47 hI50) cw_RL_97 (jc_0 cI cL ad σ τ) rfl ⟨Nat.le_of_ble_eq_true rfl, Nat.le_of_ble_eq_true rfl⟩ rfl rfl rfl hl.1 rfl (Nat.le_of_ble_eq_true rfl) dL_law_817 ⟨Nat.le_of_ble_eq_true rfl, Nat.le_of_ble_eq_true rfl⟩ (fun r23 σ22 τ22 H locs h22 hP hS => ?_)
  obtain ⟨rfl, f24, f25, I26, h22⟩ := h22
  refine lv_pop hx hb dL_law_820 rfl ?_
  refine lv_aload_n hx hb dL_law_821 rfl (lv_at hl 1 rfl) ?_
  refine lv_aload_n hx hb dL_law_822 rfl (lv_at hl 3 rfl) ?_
  refine lv_iload_n hx hb dL_law_823 rfl (lv_at hl 0 rfl) ?_
  refine lv_iconst (v := 1) hx hb dL_law_824 (by decide) ?_
  refine lv_iadd hx hb dL_law_825 ?_
  refine jtopr ex18.symm ?_
  refine va_sld hx hb hX hbl hbA hS (jin tx18 (by omega) (by omega)) dL_law_826 ?_
  refine lv_aload_n hx hb dL_law_827 rfl (lv_at hl 3 rfl) ?_
  refine lv_iload_n hx hb dL_law_828 rfl (lv_at hl 0 rfl) ?_
  refine lv_iconst (v := 2) hx hb dL_law_829 (by decide) ?_
  refine lv_iadd hx hb dL_law_830 ?_
  refine jtopr ex20.symm ?_
  refine va_sld hx hb hX hbl hbA hS (jin tx20 (by omega) (by omega)) dL_law_831 ?_
  have I27 : jI102 σ22 := jI102_fr (congrFun (f24 55 (by decide)) 6) (f24 60 (by decide)) (f24 61 (by decide)) hI102
  have I28 : jI104 σ22 := jI104_fr (congrFun (f24 55 (by decide)) 10) (congrFun (f24 55 (by decide)) 12) (congrFun (f24 55 (by decide)) 13) (f24 62 (by decide)) (f24 67 (by decide)) hI104
  have I29 : jI107 σ22 := jI107_fr (congrFun (f24 55 (by decide)) 12) (congrFun (f24 55 (by decide)) 47) (f24 80 (by decide)) hI107
  have I30 : jI110 σ22 := jI110_fr (f24 86 (by decide)) (f24 87 (by decide)) hI110
  have I31 : jI119 σ22 := jI119_fr (f24 68 (by decide)) hI119
  have p32 : jBook σ22 := jBook.fr (congrFun (f24 55 (by decide)) 47) (congrFun (f24 55 (by decide)) 10) (f24 81 (by decide)) hs_jBook
  refine jcallV (As := [.int (xs x18.toNatClampNeg), .int (xs x20.toNatClampNeg)]) (rest := []) ⟨hx, hb, hml, hown, hts⟩ hK hP hA hS hZ (c_X12_books l D cI cL ad zz hJ σ22 τ (xs x18.toNatClampNeg) ((xs x18.toNatClampNeg).toInt) rfl (xs x20.toNatClampNeg) ((xs x20.toNatClampNeg).toInt) rfl I27 I28 I29 I30 I31 p32) cw_RL_100 (jc_55 cI cL ad σ22 τ) rfl ⟨Nat.le_of_ble_eq_true rfl, Nat.le_of_ble_eq_true rfl⟩ rfl rfl rfl hl.1 rfl (Nat.le_of_ble_eq_true rfl) dL_law_832 ⟨Nat.le_of_ble_eq_true rfl, Nat.le_of_ble_eq_true rfl⟩ (fun r34 σ33 τ33 H locs h33 hP hS => ?_)
  obtain ⟨rfl, f35, f36, I37, I38, p39, h33⟩ := h33
  refine lv_pop hx hb dL_law_835 rfl ?_
  refine lv_goto (tgt := 1357) hx hb dL_law_836 (by decide) ?_
  obtain ⟨x40, ex40⟩ : ∃ y : Int32, y = x0 + 6 := ⟨_, rfl⟩
  have tx40 : x40.toInt = x0.toInt + 6 := (jadd ex40 rfl jz_6 (by omega) (by omega)).trans (by omega)
  refine lv_iinc (v := x40) (lv' := [(3, .int x40), (2, .ref (ad 55)), (1, .ref (ad 0)), (0, .ref b)]) hx hb dL_law_1357 hl (k := 0) rfl (by rw [ex40]; rfl) (by decide) rfl (fun ls hl => ?_)
  refine lv_goto (tgt := 18) hx hb dL_law_1360 (by decide) ?_
  have I41 : jI2 σ33 := jI2_fr ((congrFun (f35 2 (by decide)) 0).trans (congrFun (f24 2 (by decide)) 0)) ((congrFun (f35 2 (by decide)) 1).trans (congrFun (f24 2 (by decide)) 1)) ((congrFun (f35 2 (by decide)) 2).trans (congrFun (f24 2 (by decide)) 2)) ((congrFun (f35 2 (by decide)) 3).trans (congrFun (f24 2 (by decide)) 3)) ((f35 6 (by decide)).trans (f24 6 (by decide))) hI2
  have I42 : jI9 σ33 := jI9_fr ((congrFun (f35 9 (by decide)) 0).trans (congrFun (f24 9 (by decide)) 0)) ((f35 10 (by decide)).trans (f24 10 (by decide))) ((f35 11 (by decide)).trans (f24 11 (by decide))) hI9
  have I43 : jI12 σ33 := jI12_fr ((congrFun (f35 12 (by decide)) 0).trans (congrFun (f24 12 (by decide)) 0)) ((f35 13 (by decide)).trans (f24 13 (by decide))) hI12
  have I44 : jI16 σ33 := jI16_fr ((congrFun (f35 16 (by decide)) 0).trans (congrFun (f24 16 (by decide)) 0)) ((congrFun (f35 16 (by decide)) 1).trans (congrFun (f24 16 (by decide)) 1)) ((congrFun (f35 16 (by decide)) 2).trans (congrFun (f24 16 (by decide)) 2)) ((f35 17 (by decide)).trans (f24 17 (by decide))) hI16
  have I45 : jI18 σ33 := jI18_fr ((congrFun (f35 18 (by decide)) 0).trans (congrFun (f24 18 (by decide)) 0)) ((f35 19 (by decide)).trans (f24 19 (by decide))) hI18
  have I46 : jI22 σ33 := jI22_fr ((congrFun (f35 22 (by decide)) 0).trans (congrFun (f24 22 (by decide)) 0)) ((f35 23 (by decide)).trans (f24 23 (by decide))) hI22
  have I47 : jI31 σ33 := jI31_fr ((congrFun (f35 31 (by decide)) 8).trans (congrFun (f24 31 (by decide)) 8)) ((f35 33 (by decide)).trans (f24 33 (by decide))) ((f35 36 (by decide)).trans (f24 36 (by decide))) hI31
  have I48 : jI38 σ33 := jI38_fr ((congrFun (f35 38 (by decide)) 0).trans (congrFun (f24 38 (by decide)) 0)) ((congrFun (f35 38 (by decide)) 1).trans (congrFun (f24 38 (by decide)) 1)) ((f35 39 (by decide)).trans (f24 39 (by decide))) hI38
  have I49 : jI43 σ33 := jI43_fr ((congrFun (f35 43 (by decide)) 8).trans (congrFun (f24 43 (by decide)) 8)) hI43
  have I50 : jI47 σ33 := jI47_fr (congrFun (f35 47 (by decide)) 0) (f35 49 (by decide)) I26
  have I51 : jI50 σ33 := jI50_fr ((f35 52 (by decide)).trans (f24 52 (by decide))) hI50
  have I52 : jI101 σ33 := jI101_fr ((f36 4 (by decide)).trans (congrFun (f24 55 (by decide)) 4)) ((f36 5 (by decide)).trans (congrFun (f24 55 (by decide)) 5)) ((f35 56 (by decide)).trans (f24 56 (by decide))) ((f35 57 (by decide)).trans (f24 57 (by decide))) ((f35 58 (by decide)).trans (f24 58 (by decide))) ((f35 59 (by decide)).trans (f24 59 (by decide))) hI101
  have I53 : jI102 σ33 := jI102_fr (f36 6 (by decide)) (f35 60 (by decide)) (f35 61 (by decide)) I27
  have I54 : jI103 σ33 := jI103_fr ((f36 9 (by decide)).trans (congrFun (f24 55 (by decide)) 9)) hI103
  have I55 : jI104 σ33 := jI104_fr (f36 10 (by decide)) (f36 12 (by decide)) (f36 13 (by decide)) (f35 62 (by decide)) (f35 67 (by decide)) I28
  have I56 : jI105 σ33 := jI105_fr ((f36 15 (by decide)).trans (congrFun (f24 55 (by decide)) 15)) ((f35 65 (by decide)).trans (f24 65 (by decide))) hI105
  have I57 : jI106 σ33 := jI106_fr ((f36 32 (by decide)).trans (congrFun (f24 55 (by decide)) 32)) ((f35 70 (by decide)).trans (f24 70 (by decide))) ((f35 71 (by decide)).trans (f24 71 (by decide))) ((f35 72 (by decide)).trans (f24 72 (by decide))) hI106
  have I58 : jI109 σ33 := jI109_fr ((f36 50 (by decide)).trans (congrFun (f24 55 (by decide)) 50)) hI109
  have I59 : jI110 σ33 := jI110_fr (f35 86 (by decide)) (f35 87 (by decide)) I30
  have I60 : jI111 σ33 := jI111_fr ((f35 79 (by decide)).trans (f24 79 (by decide))) hI111
  have p61 : jKept σ33 := jKept.fr ((f35 75 (by decide)).trans (f24 75 (by decide))) ((f35 76 (by decide)).trans (f24 76 (by decide))) ((f35 77 (by decide)).trans (f24 77 (by decide))) hs_jKept
  have z62 : (σ33 2 0).toInt = (σ 2 0).toInt := (congrArg Int32.toInt (show σ33 2 0 = (σ 2 0) from ((congrFun (f35 2 (by decide)) 0).trans (congrFun (f24 2 (by decide)) 0))))
  have z63 : (σ33 55 6).toInt = (σ 55 6).toInt := (congrArg Int32.toInt (show σ33 55 6 = (σ 55 6) from ((f36 6 (by decide)).trans (congrFun (f24 55 (by decide)) 6))))
  have z64 : (σ33 2 2).toInt = (σ 2 2).toInt := (congrArg Int32.toInt (show σ33 2 2 = (σ 2 2) from ((congrFun (f35 2 (by decide)) 2).trans (congrFun (f24 2 (by decide)) 2))))
  have z65 : (σ33 55 5).toInt = (σ 55 5).toInt := (congrArg Int32.toInt (show σ33 55 5 = (σ 55 5) from ((f36 5 (by decide)).trans (congrFun (f24 55 (by decide)) 5))))
  have z66 : (σ33 2 3).toInt = (σ 2 3).toInt := (congrArg Int32.toInt (show σ33 2 3 = (σ 2 3) from ((congrFun (f35 2 (by decide)) 3).trans (congrFun (f24 2 (by decide)) 3))))
  have z67 : (σ33 55 4).toInt = (σ 55 4).toInt := (congrArg Int32.toInt (show σ33 55 4 = (σ 55 4) from ((f36 4 (by decide)).trans (congrFun (f24 55 (by decide)) 4))))
  exact ih x40 σ33 τ _ _ ls (by have h9 := tx40; omega) ⟨I41, I42, I43, I44, I45, I46, I47, I48, I49, I50, I51, I52, I53, I54, I55, I56, I57, I37, I58, I59, I60, I38, p61, p39, (by omega), (by omega), (by omega), (show jNumP (σ33 3) (σ33 56) (σ33 6) (σ33 57) (σ33 7) (σ33 58) (σ33 8) (σ33 59) (σ33 55 6).toInt (σ33 55 4).toInt by rw [show σ33 3 = σ 3 from ((f35 3 (by decide)).trans (f24 3 (by decide))), show σ33 56 = σ 56 from ((f35 56 (by decide)).trans (f24 56 (by decide))), show σ33 6 = σ 6 from ((f35 6 (by decide)).trans (f24 6 (by decide))), show σ33 57 = σ 57 from ((f35 57 (by decide)).trans (f24 57 (by decide))), show σ33 7 = σ 7 from ((f35 7 (by decide)).trans (f24 7 (by decide))), show σ33 58 = σ 58 from ((f35 58 (by decide)).trans (f24 58 (by decide))), show σ33 8 = σ 8 from ((f35 8 (by decide)).trans (f24 8 (by decide))), show σ33 59 = σ 59 from ((f35 59 (by decide)).trans (f24 59 (by decide))), show (σ33 55 6).toInt = (σ 55 6).toInt from by omega, show (σ33 55 4).toInt = (σ 55 4).toInt from by omega]; exact hr0)⟩ hP hS (lv_sub hl [0, 1, 2, 3] rfl)
set_option maxHeartbeats 4000000 in
set_option maxRecDepth 100000 in
theorem law_case_21 {p : Program} {e : Env} {s : State} {m : MethodId} {below : List Frame} {meth : Method} {c : Code} (l : Launch) {b L : Nat} {xs : Nat → Int32} {D : va_G} {cI cL : ClassId} {ad zz : Nat → Nat} (C0 : lw_At p s m meth c b L xs) (hJ : jD ad) (hA : ∀ q, jA ad q → s.heap.size ≤ q) (hK : jK D cI cL s) (hZ : jZ zz (fun q : Nat => s.heap.size ≤ q) s s.heap) {x0 : Int32} (hx0 : 0 ≤ x0.toInt) (hxL : x0.toInt + 6 ≤ (L : Int)) (hL : L ≤ 384) {σ : Nat → Nat → Int32} {τ : Nat → Nat → Int64} {H : Heap} {locs : List Loc} (hS : va_S (fun q : Nat => s.heap.size ≤ q) s.heap H locs) {ls : Array Slot} (hAll : jAll σ τ) (hP : jH D cI cL ad σ τ H) (hl : lv_has ls 4 [(3, .int x0), (2, .ref (ad 55)), (1, .ref (ad 0)), (0, .ref b)]) (ih : ∀ (x1 : Int32) (σ : Nat → Nat → Int32) (τ : Nat → Nat → Int64) (H : Heap) (locs : List Loc) (ls : Array Slot), x1.toInt = x0.toInt + 6 → jAll σ τ → jH D cI cL ad σ τ H → va_S (fun q : Nat => s.heap.size ≤ q) s.heap H locs → lv_has ls 4 [(3, .int x1), (2, .ref (ad 55)), (1, .ref (ad 0)), (0, .ref b)] → W p l e room_1 s m #[Value.ref b] below meth c H locs 90 348600 (lw_Z below #[Value.ref b] s) (F0 m 18 ls [])) : W p l e room_1 s m #[Value.ref b] below meth c H locs 90 348600 (lw_Z below #[Value.ref b] s) (F0 m 839 ls []) := by
  obtain ⟨hx, hb, hr, hml, hown, hts0, hX, hbl, hlocks, hgv⟩ := C0
  have hts : ∀ w ∈ wsL_law, w.before #[Value.ref b] s = true := fun w h => hts0 w (wsL_law_in w h)
  have hbA : ¬ (fun q : Nat => s.heap.size ≤ q) b := Nat.not_le.mpr hbl
  have hown : s.vm.findClass RL = some m.cls := hown
  obtain ⟨hI2, hI9, hI12, hI16, hI18, hI22, hI31, hI38, hI43, hI47, hI50, hI101, hI102, hI103, hI104, hI105, hI106, hI107, hI109, hI110, hI111, hI119, hs_jKept, hs_jBook, ht0, ht1, ht2, hr0⟩ := hAll
  have hL9 : (L : Int) ≤ 384 := by omega
  obtain ⟨i1, i2, i3, i4, i5, w6⟩ : (0 ≤ (σ 2 0).toInt ∧ (σ 2 0).toInt ≤ 4) ∧ (0 ≤ (σ 2 1).toInt ∧ (σ 2 1).toInt ≤ 3) ∧ (0 ≤ (σ 2 2).toInt) ∧ (0 ≤ (σ 2 3).toInt) ∧ ((σ 2 2).toInt + (σ 2 3).toInt ≤ 40) ∧ (∀ k : Nat, k < 40 → 0 ≤ (σ 6 k).toInt ∧ (σ 6 k).toInt ≤ 67) := id hI2
  obtain ⟨i7, i8, i9, w10, w11, w12, w13⟩ : (0 ≤ (σ 55 5).toInt) ∧ ((σ 55 5).toInt ≤ (σ 55 4).toInt) ∧ ((σ 55 4).toInt ≤ 40) ∧ (∀ k : Nat, k < 68 → (-200) ≤ (σ 56 k).toInt ∧ (σ 56 k).toInt ≤ 500) ∧ (∀ k : Nat, k < 40 → 0 ≤ (σ 57 k).toInt ∧ (σ 57 k).toInt ≤ 67) ∧ (∀ k : Nat, k < 40 → (-200) ≤ (σ 58 k).toInt ∧ (σ 58 k).toInt ≤ 500) ∧ (∀ k : Nat, k < 40 → (-200) ≤ (σ 59 k).toInt ∧ (σ 59 k).toInt ≤ 500) := id hI101
  obtain ⟨i14, w15, w16⟩ : (0 ≤ (σ 55 6).toInt ∧ (σ 55 6).toInt ≤ 4) ∧ (∀ k : Nat, k < 4 → 0 ≤ (σ 60 k).toInt ∧ (σ 60 k).toInt ≤ 50) ∧ (∀ k : Nat, k < 4 → 0 ≤ (σ 61 k).toInt ∧ (σ 61 k).toInt ≤ 20) := id hI102
  refine lv_aload_n hx hb dL_law_839 rfl (lv_at hl 2 rfl) ?_
  refine jcallV (As := []) (rest := []) ⟨hx, hb, hml, hown, hts⟩ hK hP hA hS hZ (c_X11_close l D cI cL ad zz hJ σ τ hI47) cw_RL_101 (jc_0 cI cL ad σ τ) rfl ⟨Nat.le_of_ble_eq_true rfl, Nat.le_of_ble_eq_true rfl⟩ rfl rfl rfl hl.1 rfl (Nat.le_of_ble_eq_true rfl) dL_law_840 ⟨Nat.le_of_ble_eq_true rfl, Nat.le_of_ble_eq_true rfl⟩ (fun r18 σ17 τ17 H locs h17 hP hS => ?_)
  obtain ⟨rfl, f19, f20, I21, h17⟩ := h17
  refine lv_pop hx hb dL_law_843 rfl ?_
  refine lv_aload_n hx hb dL_law_844 rfl (lv_at hl 1 rfl) ?_
  have I22 : jI104 σ17 := jI104_fr (congrFun (f19 55 (by decide)) 10) (congrFun (f19 55 (by decide)) 12) (congrFun (f19 55 (by decide)) 13) (f19 62 (by decide)) (f19 67 (by decide)) hI104
  have I23 : jI107 σ17 := jI107_fr (congrFun (f19 55 (by decide)) 12) (congrFun (f19 55 (by decide)) 47) (f19 80 (by decide)) hI107
  have p24 : jBook σ17 := jBook.fr (congrFun (f19 55 (by decide)) 47) (congrFun (f19 55 (by decide)) 10) (f19 81 (by decide)) hs_jBook
  refine jcallV (As := []) (rest := []) ⟨hx, hb, hml, hown, hts⟩ hK hP hA hS hZ (c_X12_close l D cI cL ad zz hJ σ17 τ I22 I23 p24) cw_RL_104 (jc_55 cI cL ad σ17 τ) rfl ⟨Nat.le_of_ble_eq_true rfl, Nat.le_of_ble_eq_true rfl⟩ rfl rfl rfl hl.1 rfl (Nat.le_of_ble_eq_true rfl) dL_law_845 ⟨Nat.le_of_ble_eq_true rfl, Nat.le_of_ble_eq_true rfl⟩ (fun r26 σ25 τ25 H locs h25 hP hS => ?_)
  obtain ⟨rfl, f27, f28, I29, p30, h25⟩ := h25
  refine lv_pop hx hb dL_law_848 rfl ?_
  refine lv_goto (tgt := 1357) hx hb dL_law_849 (by decide) ?_
  obtain ⟨x31, ex31⟩ : ∃ y : Int32, y = x0 + 6 := ⟨_, rfl⟩
  have tx31 : x31.toInt = x0.toInt + 6 := (jadd ex31 rfl jz_6 (by omega) (by omega)).trans (by omega)
  refine lv_iinc (v := x31) (lv' := [(3, .int x31), (2, .ref (ad 55)), (1, .ref (ad 0)), (0, .ref b)]) hx hb dL_law_1357 hl (k := 0) rfl (by rw [ex31]; rfl) (by decide) rfl (fun ls hl => ?_)
  refine lv_goto (tgt := 18) hx hb dL_law_1360 (by decide) ?_
  have I32 : jI2 σ25 := jI2_fr ((congrFun (f27 2 (by decide)) 0).trans (congrFun (f19 2 (by decide)) 0)) ((congrFun (f27 2 (by decide)) 1).trans (congrFun (f19 2 (by decide)) 1)) ((congrFun (f27 2 (by decide)) 2).trans (congrFun (f19 2 (by decide)) 2)) ((congrFun (f27 2 (by decide)) 3).trans (congrFun (f19 2 (by decide)) 3)) ((f27 6 (by decide)).trans (f19 6 (by decide))) hI2
  have I33 : jI9 σ25 := jI9_fr ((congrFun (f27 9 (by decide)) 0).trans (congrFun (f19 9 (by decide)) 0)) ((f27 10 (by decide)).trans (f19 10 (by decide))) ((f27 11 (by decide)).trans (f19 11 (by decide))) hI9
  have I34 : jI12 σ25 := jI12_fr ((congrFun (f27 12 (by decide)) 0).trans (congrFun (f19 12 (by decide)) 0)) ((f27 13 (by decide)).trans (f19 13 (by decide))) hI12
  have I35 : jI16 σ25 := jI16_fr ((congrFun (f27 16 (by decide)) 0).trans (congrFun (f19 16 (by decide)) 0)) ((congrFun (f27 16 (by decide)) 1).trans (congrFun (f19 16 (by decide)) 1)) ((congrFun (f27 16 (by decide)) 2).trans (congrFun (f19 16 (by decide)) 2)) ((f27 17 (by decide)).trans (f19 17 (by decide))) hI16
  have I36 : jI18 σ25 := jI18_fr ((congrFun (f27 18 (by decide)) 0).trans (congrFun (f19 18 (by decide)) 0)) ((f27 19 (by decide)).trans (f19 19 (by decide))) hI18
  have I37 : jI22 σ25 := jI22_fr ((congrFun (f27 22 (by decide)) 0).trans (congrFun (f19 22 (by decide)) 0)) ((f27 23 (by decide)).trans (f19 23 (by decide))) hI22
  have I38 : jI31 σ25 := jI31_fr ((congrFun (f27 31 (by decide)) 8).trans (congrFun (f19 31 (by decide)) 8)) ((f27 33 (by decide)).trans (f19 33 (by decide))) ((f27 36 (by decide)).trans (f19 36 (by decide))) hI31
  have I39 : jI38 σ25 := jI38_fr ((congrFun (f27 38 (by decide)) 0).trans (congrFun (f19 38 (by decide)) 0)) ((congrFun (f27 38 (by decide)) 1).trans (congrFun (f19 38 (by decide)) 1)) ((f27 39 (by decide)).trans (f19 39 (by decide))) hI38
  have I40 : jI43 σ25 := jI43_fr ((congrFun (f27 43 (by decide)) 8).trans (congrFun (f19 43 (by decide)) 8)) hI43
  have I41 : jI47 σ25 := jI47_fr (congrFun (f27 47 (by decide)) 0) (f27 49 (by decide)) I21
  have I42 : jI50 σ25 := jI50_fr ((f27 52 (by decide)).trans (f19 52 (by decide))) hI50
  have I43 : jI101 σ25 := jI101_fr ((f28 4 (by decide)).trans (congrFun (f19 55 (by decide)) 4)) ((f28 5 (by decide)).trans (congrFun (f19 55 (by decide)) 5)) ((f27 56 (by decide)).trans (f19 56 (by decide))) ((f27 57 (by decide)).trans (f19 57 (by decide))) ((f27 58 (by decide)).trans (f19 58 (by decide))) ((f27 59 (by decide)).trans (f19 59 (by decide))) hI101
  have I44 : jI102 σ25 := jI102_fr ((f28 6 (by decide)).trans (congrFun (f19 55 (by decide)) 6)) ((f27 60 (by decide)).trans (f19 60 (by decide))) ((f27 61 (by decide)).trans (f19 61 (by decide))) hI102
  have I45 : jI103 σ25 := jI103_fr ((f28 9 (by decide)).trans (congrFun (f19 55 (by decide)) 9)) hI103
  have I46 : jI104 σ25 := jI104_fr (f28 10 (by decide)) (f28 12 (by decide)) (f28 13 (by decide)) (f27 62 (by decide)) (f27 67 (by decide)) I22
  have I47 : jI105 σ25 := jI105_fr ((f28 15 (by decide)).trans (congrFun (f19 55 (by decide)) 15)) ((f27 65 (by decide)).trans (f19 65 (by decide))) hI105
  have I48 : jI106 σ25 := jI106_fr ((f28 32 (by decide)).trans (congrFun (f19 55 (by decide)) 32)) ((f27 70 (by decide)).trans (f19 70 (by decide))) ((f27 71 (by decide)).trans (f19 71 (by decide))) ((f27 72 (by decide)).trans (f19 72 (by decide))) hI106
  have I49 : jI109 σ25 := jI109_fr ((f28 50 (by decide)).trans (congrFun (f19 55 (by decide)) 50)) hI109
  have I50 : jI110 σ25 := jI110_fr ((f27 86 (by decide)).trans (f19 86 (by decide))) ((f27 87 (by decide)).trans (f19 87 (by decide))) hI110
  have I51 : jI111 σ25 := jI111_fr ((f27 79 (by decide)).trans (f19 79 (by decide))) hI111
  have I52 : jI119 σ25 := jI119_fr ((f27 68 (by decide)).trans (f19 68 (by decide))) hI119
  have p53 : jKept σ25 := jKept.fr ((f27 75 (by decide)).trans (f19 75 (by decide))) ((f27 76 (by decide)).trans (f19 76 (by decide))) ((f27 77 (by decide)).trans (f19 77 (by decide))) hs_jKept
  have z54 : (σ25 2 0).toInt = (σ 2 0).toInt := (congrArg Int32.toInt (show σ25 2 0 = (σ 2 0) from ((congrFun (f27 2 (by decide)) 0).trans (congrFun (f19 2 (by decide)) 0))))
  have z55 : (σ25 55 6).toInt = (σ 55 6).toInt := (congrArg Int32.toInt (show σ25 55 6 = (σ 55 6) from ((f28 6 (by decide)).trans (congrFun (f19 55 (by decide)) 6))))
  have z56 : (σ25 2 2).toInt = (σ 2 2).toInt := (congrArg Int32.toInt (show σ25 2 2 = (σ 2 2) from ((congrFun (f27 2 (by decide)) 2).trans (congrFun (f19 2 (by decide)) 2))))
  have z57 : (σ25 55 5).toInt = (σ 55 5).toInt := (congrArg Int32.toInt (show σ25 55 5 = (σ 55 5) from ((f28 5 (by decide)).trans (congrFun (f19 55 (by decide)) 5))))
  have z58 : (σ25 2 3).toInt = (σ 2 3).toInt := (congrArg Int32.toInt (show σ25 2 3 = (σ 2 3) from ((congrFun (f27 2 (by decide)) 3).trans (congrFun (f19 2 (by decide)) 3))))
  have z59 : (σ25 55 4).toInt = (σ 55 4).toInt := (congrArg Int32.toInt (show σ25 55 4 = (σ 55 4) from ((f28 4 (by decide)).trans (congrFun (f19 55 (by decide)) 4))))
  exact ih x31 σ25 τ _ _ ls (by have h9 := tx31; omega) ⟨I32, I33, I34, I35, I36, I37, I38, I39, I40, I41, I42, I43, I44, I45, I46, I47, I48, I29, I49, I50, I51, I52, p53, p30, (by omega), (by omega), (by omega), (show jNumP (σ25 3) (σ25 56) (σ25 6) (σ25 57) (σ25 7) (σ25 58) (σ25 8) (σ25 59) (σ25 55 6).toInt (σ25 55 4).toInt by rw [show σ25 3 = σ 3 from ((f27 3 (by decide)).trans (f19 3 (by decide))), show σ25 56 = σ 56 from ((f27 56 (by decide)).trans (f19 56 (by decide))), show σ25 6 = σ 6 from ((f27 6 (by decide)).trans (f19 6 (by decide))), show σ25 57 = σ 57 from ((f27 57 (by decide)).trans (f19 57 (by decide))), show σ25 7 = σ 7 from ((f27 7 (by decide)).trans (f19 7 (by decide))), show σ25 58 = σ 58 from ((f27 58 (by decide)).trans (f19 58 (by decide))), show σ25 8 = σ 8 from ((f27 8 (by decide)).trans (f19 8 (by decide))), show σ25 59 = σ 59 from ((f27 59 (by decide)).trans (f19 59 (by decide))), show (σ25 55 6).toInt = (σ 55 6).toInt from by omega, show (σ25 55 4).toInt = (σ 55 4).toInt from by omega]; exact hr0)⟩ hP hS (lv_sub hl [0, 1, 2, 3] rfl)
set_option maxHeartbeats 4000000 in
set_option maxRecDepth 100000 in
theorem law_case_22 {p : Program} {e : Env} {s : State} {m : MethodId} {below : List Frame} {meth : Method} {c : Code} (l : Launch) {b L : Nat} {xs : Nat → Int32} {D : va_G} {cI cL : ClassId} {ad zz : Nat → Nat} (C0 : lw_At p s m meth c b L xs) (hJ : jD ad) (hA : ∀ q, jA ad q → s.heap.size ≤ q) (hK : jK D cI cL s) (hZ : jZ zz (fun q : Nat => s.heap.size ≤ q) s s.heap) {x0 : Int32} (hx0 : 0 ≤ x0.toInt) (hxL : x0.toInt + 6 ≤ (L : Int)) (hL : L ≤ 384) {σ : Nat → Nat → Int32} {τ : Nat → Nat → Int64} {H : Heap} {locs : List Loc} (hS : va_S (fun q : Nat => s.heap.size ≤ q) s.heap H locs) {ls : Array Slot} (hAll : jAll σ τ) (hP : jH D cI cL ad σ τ H) (hl : lv_has ls 4 [(3, .int x0), (2, .ref (ad 55)), (1, .ref (ad 0)), (0, .ref b)]) (ih : ∀ (x1 : Int32) (σ : Nat → Nat → Int32) (τ : Nat → Nat → Int64) (H : Heap) (locs : List Loc) (ls : Array Slot), x1.toInt = x0.toInt + 6 → jAll σ τ → jH D cI cL ad σ τ H → va_S (fun q : Nat => s.heap.size ≤ q) s.heap H locs → lv_has ls 4 [(3, .int x1), (2, .ref (ad 55)), (1, .ref (ad 0)), (0, .ref b)] → W p l e room_1 s m #[Value.ref b] below meth c H locs 90 348600 (lw_Z below #[Value.ref b] s) (F0 m 18 ls [])) : W p l e room_1 s m #[Value.ref b] below meth c H locs 90 348600 (lw_Z below #[Value.ref b] s) (F0 m 852 ls []) := by
  obtain ⟨hx, hb, hr, hml, hown, hts0, hX, hbl, hlocks, hgv⟩ := C0
  have hts : ∀ w ∈ wsL_law, w.before #[Value.ref b] s = true := fun w h => hts0 w (wsL_law_in w h)
  have hbA : ¬ (fun q : Nat => s.heap.size ≤ q) b := Nat.not_le.mpr hbl
  have hown : s.vm.findClass RL = some m.cls := hown
  obtain ⟨hI2, hI9, hI12, hI16, hI18, hI22, hI31, hI38, hI43, hI47, hI50, hI101, hI102, hI103, hI104, hI105, hI106, hI107, hI109, hI110, hI111, hI119, hs_jKept, hs_jBook, ht0, ht1, ht2, hr0⟩ := hAll
  have hL9 : (L : Int) ≤ 384 := by omega
  obtain ⟨i1, i2, i3, i4, i5, w6⟩ : (0 ≤ (σ 2 0).toInt ∧ (σ 2 0).toInt ≤ 4) ∧ (0 ≤ (σ 2 1).toInt ∧ (σ 2 1).toInt ≤ 3) ∧ (0 ≤ (σ 2 2).toInt) ∧ (0 ≤ (σ 2 3).toInt) ∧ ((σ 2 2).toInt + (σ 2 3).toInt ≤ 40) ∧ (∀ k : Nat, k < 40 → 0 ≤ (σ 6 k).toInt ∧ (σ 6 k).toInt ≤ 67) := id hI2
  obtain ⟨i7, i8, i9, w10, w11, w12, w13⟩ : (0 ≤ (σ 55 5).toInt) ∧ ((σ 55 5).toInt ≤ (σ 55 4).toInt) ∧ ((σ 55 4).toInt ≤ 40) ∧ (∀ k : Nat, k < 68 → (-200) ≤ (σ 56 k).toInt ∧ (σ 56 k).toInt ≤ 500) ∧ (∀ k : Nat, k < 40 → 0 ≤ (σ 57 k).toInt ∧ (σ 57 k).toInt ≤ 67) ∧ (∀ k : Nat, k < 40 → (-200) ≤ (σ 58 k).toInt ∧ (σ 58 k).toInt ≤ 500) ∧ (∀ k : Nat, k < 40 → (-200) ≤ (σ 59 k).toInt ∧ (σ 59 k).toInt ≤ 500) := id hI101
  obtain ⟨i14, w15, w16⟩ : (0 ≤ (σ 55 6).toInt ∧ (σ 55 6).toInt ≤ 4) ∧ (∀ k : Nat, k < 4 → 0 ≤ (σ 60 k).toInt ∧ (σ 60 k).toInt ≤ 50) ∧ (∀ k : Nat, k < 4 → 0 ≤ (σ 61 k).toInt ∧ (σ 61 k).toInt ≤ 20) := id hI102
  refine lv_aload_n hx hb dL_law_852 rfl (lv_at hl 2 rfl) ?_
  refine lv_aload_n hx hb dL_law_853 rfl (lv_at hl 3 rfl) ?_
  refine lv_iload_n hx hb dL_law_854 rfl (lv_at hl 0 rfl) ?_
  refine lv_iconst (v := 1) hx hb dL_law_855 (by decide) ?_
  have g17 := jrg (rfl : x0.toInt = x0.toInt)
  refine lv_iadd hx hb dL_law_856 ?_
  refine lv_topi (fun x18 ex18 => ?_)
  have tx18 : x18.toInt = x0.toInt + 1 := (jadd ex18 rfl jz_1 (by omega) (by omega)).trans (by omega)
  refine va_sld hx hb hX hbl hbA hS (jin tx18 (by omega) (by omega)) dL_law_857 ?_
  have g19 := jrg (rfl : (xs x18.toNatClampNeg).toInt = (xs x18.toNatClampNeg).toInt)
  refine jcallV (As := [.int (xs x18.toNatClampNeg)]) (rest := []) ⟨hx, hb, hml, hown, hts⟩ hK hP hA hS hZ (c_X11_cost l D cI cL ad zz hJ σ τ (xs x18.toNatClampNeg) ((xs x18.toNatClampNeg).toInt) rfl hI2 hI16 hI22 hI31 hI47) cw_RL_105 (jc_0 cI cL ad σ τ) rfl ⟨Nat.le_of_ble_eq_true rfl, Nat.le_of_ble_eq_true rfl⟩ rfl rfl rfl hl.1 rfl (Nat.le_of_ble_eq_true rfl) dL_law_858 ⟨Nat.le_of_ble_eq_true rfl, Nat.le_of_ble_eq_true rfl⟩ (fun r21 σ20 τ20 H locs h20 hP hS => ?_)
  obtain ⟨rfl, f22, f23, I24, h20⟩ := h20
  refine lv_pop hx hb dL_law_861 rfl ?_
  refine lv_aload_n hx hb dL_law_862 rfl (lv_at hl 1 rfl) ?_
  refine lv_aload_n hx hb dL_law_863 rfl (lv_at hl 3 rfl) ?_
  refine lv_iload_n hx hb dL_law_864 rfl (lv_at hl 0 rfl) ?_
  refine lv_iconst (v := 1) hx hb dL_law_865 (by decide) ?_
  refine lv_iadd hx hb dL_law_866 ?_
  refine jtopr ex18.symm ?_
  refine va_sld hx hb hX hbl hbA hS (jin tx18 (by omega) (by omega)) dL_law_867 ?_
  have I25 : jI101 σ20 := jI101_fr (congrFun (f22 55 (by decide)) 4) (congrFun (f22 55 (by decide)) 5) (f22 56 (by decide)) (f22 57 (by decide)) (f22 58 (by decide)) (f22 59 (by decide)) hI101
  have I26 : jI102 σ20 := jI102_fr (congrFun (f22 55 (by decide)) 6) (f22 60 (by decide)) (f22 61 (by decide)) hI102
  have I27 : jI103 σ20 := jI103_fr (congrFun (f22 55 (by decide)) 9) hI103
  have I28 : jI104 σ20 := jI104_fr (congrFun (f22 55 (by decide)) 10) (congrFun (f22 55 (by decide)) 12) (congrFun (f22 55 (by decide)) 13) (f22 62 (by decide)) (f22 67 (by decide)) hI104
  have I29 : jI105 σ20 := jI105_fr (congrFun (f22 55 (by decide)) 15) (f22 65 (by decide)) hI105
  have I30 : jI106 σ20 := jI106_fr (congrFun (f22 55 (by decide)) 32) (f22 70 (by decide)) (f22 71 (by decide)) (f22 72 (by decide)) hI106
  have I31 : jI107 σ20 := jI107_fr (congrFun (f22 55 (by decide)) 12) (congrFun (f22 55 (by decide)) 47) (f22 80 (by decide)) hI107
  have I32 : jI119 σ20 := jI119_fr (f22 68 (by decide)) hI119
  have p33 : jKept σ20 := jKept.fr (f22 75 (by decide)) (f22 76 (by decide)) (f22 77 (by decide)) hs_jKept
  have p34 : jBook σ20 := jBook.fr (congrFun (f22 55 (by decide)) 47) (congrFun (f22 55 (by decide)) 10) (f22 81 (by decide)) hs_jBook
  refine jcallV (As := [.int (xs x18.toNatClampNeg)]) (rest := []) ⟨hx, hb, hml, hown, hts⟩ hK hP hA hS hZ (c_X12_cost l D cI cL ad zz hJ σ20 τ (xs x18.toNatClampNeg) ((xs x18.toNatClampNeg).toInt) rfl I25 I26 I27 I28 I29 I30 I31 I32 p33 p34) cw_RL_108 (jc_55 cI cL ad σ20 τ) rfl ⟨Nat.le_of_ble_eq_true rfl, Nat.le_of_ble_eq_true rfl⟩ rfl rfl rfl hl.1 rfl (Nat.le_of_ble_eq_true rfl) dL_law_868 ⟨Nat.le_of_ble_eq_true rfl, Nat.le_of_ble_eq_true rfl⟩ (fun r36 σ35 τ35 H locs h35 hP hS => ?_)
  obtain ⟨rfl, f37, f38, I39, p40, p41, h35⟩ := h35
  refine lv_pop hx hb dL_law_871 rfl ?_
  refine lv_goto (tgt := 1357) hx hb dL_law_872 (by decide) ?_
  obtain ⟨x42, ex42⟩ : ∃ y : Int32, y = x0 + 6 := ⟨_, rfl⟩
  have tx42 : x42.toInt = x0.toInt + 6 := (jadd ex42 rfl jz_6 (by omega) (by omega)).trans (by omega)
  refine lv_iinc (v := x42) (lv' := [(3, .int x42), (2, .ref (ad 55)), (1, .ref (ad 0)), (0, .ref b)]) hx hb dL_law_1357 hl (k := 0) rfl (by rw [ex42]; rfl) (by decide) rfl (fun ls hl => ?_)
  refine lv_goto (tgt := 18) hx hb dL_law_1360 (by decide) ?_
  have I43 : jI2 σ35 := jI2_fr ((congrFun (f37 2 (by decide)) 0).trans (congrFun (f22 2 (by decide)) 0)) ((congrFun (f37 2 (by decide)) 1).trans (congrFun (f22 2 (by decide)) 1)) ((congrFun (f37 2 (by decide)) 2).trans (congrFun (f22 2 (by decide)) 2)) ((congrFun (f37 2 (by decide)) 3).trans (congrFun (f22 2 (by decide)) 3)) ((f37 6 (by decide)).trans (f22 6 (by decide))) hI2
  have I44 : jI9 σ35 := jI9_fr ((congrFun (f37 9 (by decide)) 0).trans (congrFun (f22 9 (by decide)) 0)) ((f37 10 (by decide)).trans (f22 10 (by decide))) ((f37 11 (by decide)).trans (f22 11 (by decide))) hI9
  have I45 : jI12 σ35 := jI12_fr ((congrFun (f37 12 (by decide)) 0).trans (congrFun (f22 12 (by decide)) 0)) ((f37 13 (by decide)).trans (f22 13 (by decide))) hI12
  have I46 : jI16 σ35 := jI16_fr ((congrFun (f37 16 (by decide)) 0).trans (congrFun (f22 16 (by decide)) 0)) ((congrFun (f37 16 (by decide)) 1).trans (congrFun (f22 16 (by decide)) 1)) ((congrFun (f37 16 (by decide)) 2).trans (congrFun (f22 16 (by decide)) 2)) ((f37 17 (by decide)).trans (f22 17 (by decide))) hI16
  have I47 : jI18 σ35 := jI18_fr ((congrFun (f37 18 (by decide)) 0).trans (congrFun (f22 18 (by decide)) 0)) ((f37 19 (by decide)).trans (f22 19 (by decide))) hI18
  have I48 : jI22 σ35 := jI22_fr ((congrFun (f37 22 (by decide)) 0).trans (congrFun (f22 22 (by decide)) 0)) ((f37 23 (by decide)).trans (f22 23 (by decide))) hI22
  have I49 : jI31 σ35 := jI31_fr (congrFun (f37 31 (by decide)) 8) (f37 33 (by decide)) (f37 36 (by decide)) I24
  have I50 : jI38 σ35 := jI38_fr ((congrFun (f37 38 (by decide)) 0).trans (congrFun (f22 38 (by decide)) 0)) ((congrFun (f37 38 (by decide)) 1).trans (congrFun (f22 38 (by decide)) 1)) ((f37 39 (by decide)).trans (f22 39 (by decide))) hI38
  have I51 : jI43 σ35 := jI43_fr ((congrFun (f37 43 (by decide)) 8).trans (congrFun (f22 43 (by decide)) 8)) hI43
  have I52 : jI47 σ35 := jI47_fr ((congrFun (f37 47 (by decide)) 0).trans (congrFun (f22 47 (by decide)) 0)) ((f37 49 (by decide)).trans (f22 49 (by decide))) hI47
  have I53 : jI50 σ35 := jI50_fr ((f37 52 (by decide)).trans (f22 52 (by decide))) hI50
  have I54 : jI101 σ35 := jI101_fr (f38 4 (by decide)) (f38 5 (by decide)) (f37 56 (by decide)) (f37 57 (by decide)) (f37 58 (by decide)) (f37 59 (by decide)) I25
  have I55 : jI102 σ35 := jI102_fr (f38 6 (by decide)) (f37 60 (by decide)) (f37 61 (by decide)) I26
  have I56 : jI103 σ35 := jI103_fr (f38 9 (by decide)) I27
  have I57 : jI104 σ35 := jI104_fr (f38 10 (by decide)) (f38 12 (by decide)) (f38 13 (by decide)) (f37 62 (by decide)) (f37 67 (by decide)) I28
  have I58 : jI105 σ35 := jI105_fr (f38 15 (by decide)) (f37 65 (by decide)) I29
  have I59 : jI106 σ35 := jI106_fr (f38 32 (by decide)) (f37 70 (by decide)) (f37 71 (by decide)) (f37 72 (by decide)) I30
  have I60 : jI107 σ35 := jI107_fr (f38 12 (by decide)) (f38 47 (by decide)) (f37 80 (by decide)) I31
  have I61 : jI109 σ35 := jI109_fr ((f38 50 (by decide)).trans (congrFun (f22 55 (by decide)) 50)) hI109
  have I62 : jI110 σ35 := jI110_fr ((f37 86 (by decide)).trans (f22 86 (by decide))) ((f37 87 (by decide)).trans (f22 87 (by decide))) hI110
  have I63 : jI111 σ35 := jI111_fr ((f37 79 (by decide)).trans (f22 79 (by decide))) hI111
  have z64 : (σ35 2 0).toInt = (σ 2 0).toInt := (congrArg Int32.toInt (show σ35 2 0 = (σ 2 0) from ((congrFun (f37 2 (by decide)) 0).trans (congrFun (f22 2 (by decide)) 0))))
  have z65 : (σ35 55 6).toInt = (σ 55 6).toInt := (congrArg Int32.toInt (show σ35 55 6 = (σ 55 6) from ((f38 6 (by decide)).trans (congrFun (f22 55 (by decide)) 6))))
  have z66 : (σ35 2 2).toInt = (σ 2 2).toInt := (congrArg Int32.toInt (show σ35 2 2 = (σ 2 2) from ((congrFun (f37 2 (by decide)) 2).trans (congrFun (f22 2 (by decide)) 2))))
  have z67 : (σ35 55 5).toInt = (σ 55 5).toInt := (congrArg Int32.toInt (show σ35 55 5 = (σ 55 5) from ((f38 5 (by decide)).trans (congrFun (f22 55 (by decide)) 5))))
  have z68 : (σ35 2 3).toInt = (σ 2 3).toInt := (congrArg Int32.toInt (show σ35 2 3 = (σ 2 3) from ((congrFun (f37 2 (by decide)) 3).trans (congrFun (f22 2 (by decide)) 3))))
  have z69 : (σ35 55 4).toInt = (σ 55 4).toInt := (congrArg Int32.toInt (show σ35 55 4 = (σ 55 4) from ((f38 4 (by decide)).trans (congrFun (f22 55 (by decide)) 4))))
  exact ih x42 σ35 τ _ _ ls (by have h9 := tx42; omega) ⟨I43, I44, I45, I46, I47, I48, I49, I50, I51, I52, I53, I54, I55, I56, I57, I58, I59, I60, I61, I62, I63, I39, p40, p41, (by omega), (by omega), (by omega), (show jNumP (σ35 3) (σ35 56) (σ35 6) (σ35 57) (σ35 7) (σ35 58) (σ35 8) (σ35 59) (σ35 55 6).toInt (σ35 55 4).toInt by rw [show σ35 3 = σ 3 from ((f37 3 (by decide)).trans (f22 3 (by decide))), show σ35 56 = σ 56 from ((f37 56 (by decide)).trans (f22 56 (by decide))), show σ35 6 = σ 6 from ((f37 6 (by decide)).trans (f22 6 (by decide))), show σ35 57 = σ 57 from ((f37 57 (by decide)).trans (f22 57 (by decide))), show σ35 7 = σ 7 from ((f37 7 (by decide)).trans (f22 7 (by decide))), show σ35 58 = σ 58 from ((f37 58 (by decide)).trans (f22 58 (by decide))), show σ35 8 = σ 8 from ((f37 8 (by decide)).trans (f22 8 (by decide))), show σ35 59 = σ 59 from ((f37 59 (by decide)).trans (f22 59 (by decide))), show (σ35 55 6).toInt = (σ 55 6).toInt from by omega, show (σ35 55 4).toInt = (σ 55 4).toInt from by omega]; exact hr0)⟩ hP hS (lv_sub hl [0, 1, 2, 3] rfl)
set_option maxHeartbeats 4000000 in
set_option maxRecDepth 100000 in
theorem law_case_23 {p : Program} {e : Env} {s : State} {m : MethodId} {below : List Frame} {meth : Method} {c : Code} (l : Launch) {b L : Nat} {xs : Nat → Int32} {D : va_G} {cI cL : ClassId} {ad zz : Nat → Nat} (C0 : lw_At p s m meth c b L xs) (hJ : jD ad) (hA : ∀ q, jA ad q → s.heap.size ≤ q) (hK : jK D cI cL s) (hZ : jZ zz (fun q : Nat => s.heap.size ≤ q) s s.heap) {x0 : Int32} (hx0 : 0 ≤ x0.toInt) (hxL : x0.toInt + 6 ≤ (L : Int)) (hL : L ≤ 384) {σ : Nat → Nat → Int32} {τ : Nat → Nat → Int64} {H : Heap} {locs : List Loc} (hS : va_S (fun q : Nat => s.heap.size ≤ q) s.heap H locs) {ls : Array Slot} (hAll : jAll σ τ) (hP : jH D cI cL ad σ τ H) (hl : lv_has ls 4 [(3, .int x0), (2, .ref (ad 55)), (1, .ref (ad 0)), (0, .ref b)]) (ih : ∀ (x1 : Int32) (σ : Nat → Nat → Int32) (τ : Nat → Nat → Int64) (H : Heap) (locs : List Loc) (ls : Array Slot), x1.toInt = x0.toInt + 6 → jAll σ τ → jH D cI cL ad σ τ H → va_S (fun q : Nat => s.heap.size ≤ q) s.heap H locs → lv_has ls 4 [(3, .int x1), (2, .ref (ad 55)), (1, .ref (ad 0)), (0, .ref b)] → W p l e room_1 s m #[Value.ref b] below meth c H locs 90 348600 (lw_Z below #[Value.ref b] s) (F0 m 18 ls [])) : W p l e room_1 s m #[Value.ref b] below meth c H locs 90 348600 (lw_Z below #[Value.ref b] s) (F0 m 875 ls []) := by
  obtain ⟨hx, hb, hr, hml, hown, hts0, hX, hbl, hlocks, hgv⟩ := C0
  have hts : ∀ w ∈ wsL_law, w.before #[Value.ref b] s = true := fun w h => hts0 w (wsL_law_in w h)
  have hbA : ¬ (fun q : Nat => s.heap.size ≤ q) b := Nat.not_le.mpr hbl
  have hown : s.vm.findClass RL = some m.cls := hown
  obtain ⟨hI2, hI9, hI12, hI16, hI18, hI22, hI31, hI38, hI43, hI47, hI50, hI101, hI102, hI103, hI104, hI105, hI106, hI107, hI109, hI110, hI111, hI119, hs_jKept, hs_jBook, ht0, ht1, ht2, hr0⟩ := hAll
  have hL9 : (L : Int) ≤ 384 := by omega
  obtain ⟨i1, i2, i3, i4, i5, w6⟩ : (0 ≤ (σ 2 0).toInt ∧ (σ 2 0).toInt ≤ 4) ∧ (0 ≤ (σ 2 1).toInt ∧ (σ 2 1).toInt ≤ 3) ∧ (0 ≤ (σ 2 2).toInt) ∧ (0 ≤ (σ 2 3).toInt) ∧ ((σ 2 2).toInt + (σ 2 3).toInt ≤ 40) ∧ (∀ k : Nat, k < 40 → 0 ≤ (σ 6 k).toInt ∧ (σ 6 k).toInt ≤ 67) := id hI2
  obtain ⟨i7, i8, i9, w10, w11, w12, w13⟩ : (0 ≤ (σ 55 5).toInt) ∧ ((σ 55 5).toInt ≤ (σ 55 4).toInt) ∧ ((σ 55 4).toInt ≤ 40) ∧ (∀ k : Nat, k < 68 → (-200) ≤ (σ 56 k).toInt ∧ (σ 56 k).toInt ≤ 500) ∧ (∀ k : Nat, k < 40 → 0 ≤ (σ 57 k).toInt ∧ (σ 57 k).toInt ≤ 67) ∧ (∀ k : Nat, k < 40 → (-200) ≤ (σ 58 k).toInt ∧ (σ 58 k).toInt ≤ 500) ∧ (∀ k : Nat, k < 40 → (-200) ≤ (σ 59 k).toInt ∧ (σ 59 k).toInt ≤ 500) := id hI101
  obtain ⟨i14, w15, w16⟩ : (0 ≤ (σ 55 6).toInt ∧ (σ 55 6).toInt ≤ 4) ∧ (∀ k : Nat, k < 4 → 0 ≤ (σ 60 k).toInt ∧ (σ 60 k).toInt ≤ 50) ∧ (∀ k : Nat, k < 4 → 0 ≤ (σ 61 k).toInt ∧ (σ 61 k).toInt ≤ 20) := id hI102
  refine lv_aload_n hx hb dL_law_875 rfl (lv_at hl 2 rfl) ?_
  refine lv_aload_n hx hb dL_law_876 rfl (lv_at hl 3 rfl) ?_
  refine lv_iload_n hx hb dL_law_877 rfl (lv_at hl 0 rfl) ?_
  refine lv_iconst (v := 1) hx hb dL_law_878 (by decide) ?_
  have g17 := jrg (rfl : x0.toInt = x0.toInt)
  refine lv_iadd hx hb dL_law_879 ?_
  refine lv_topi (fun x18 ex18 => ?_)
  have tx18 : x18.toInt = x0.toInt + 1 := (jadd ex18 rfl jz_1 (by omega) (by omega)).trans (by omega)
  refine va_sld hx hb hX hbl hbA hS (jin tx18 (by omega) (by omega)) dL_law_880 ?_
  have g19 := jrg (rfl : (xs x18.toNatClampNeg).toInt = (xs x18.toNatClampNeg).toInt)
  refine jcallV (As := [.int (xs x18.toNatClampNeg)]) (rest := []) ⟨hx, hb, hml, hown, hts⟩ hK hP hA hS hZ (c_X11_lost l D cI cL ad zz hJ σ τ (xs x18.toNatClampNeg) ((xs x18.toNatClampNeg).toInt) rfl hI2 hI16 hI22 hI31 hI47) cw_RL_109 (jc_0 cI cL ad σ τ) rfl ⟨Nat.le_of_ble_eq_true rfl, Nat.le_of_ble_eq_true rfl⟩ rfl rfl rfl hl.1 rfl (Nat.le_of_ble_eq_true rfl) dL_law_881 ⟨Nat.le_of_ble_eq_true rfl, Nat.le_of_ble_eq_true rfl⟩ (fun r21 σ20 τ20 H locs h20 hP hS => ?_)
  obtain ⟨rfl, f22, f23, I24, h20⟩ := h20
  refine lv_pop hx hb dL_law_884 rfl ?_
  refine lv_aload_n hx hb dL_law_885 rfl (lv_at hl 1 rfl) ?_
  refine lv_aload_n hx hb dL_law_886 rfl (lv_at hl 3 rfl) ?_
  refine lv_iload_n hx hb dL_law_887 rfl (lv_at hl 0 rfl) ?_
  refine lv_iconst (v := 1) hx hb dL_law_888 (by decide) ?_
  refine lv_iadd hx hb dL_law_889 ?_
  refine jtopr ex18.symm ?_
  refine va_sld hx hb hX hbl hbA hS (jin tx18 (by omega) (by omega)) dL_law_890 ?_
  have I25 : jI101 σ20 := jI101_fr (congrFun (f22 55 (by decide)) 4) (congrFun (f22 55 (by decide)) 5) (f22 56 (by decide)) (f22 57 (by decide)) (f22 58 (by decide)) (f22 59 (by decide)) hI101
  have I26 : jI102 σ20 := jI102_fr (congrFun (f22 55 (by decide)) 6) (f22 60 (by decide)) (f22 61 (by decide)) hI102
  have I27 : jI103 σ20 := jI103_fr (congrFun (f22 55 (by decide)) 9) hI103
  have I28 : jI104 σ20 := jI104_fr (congrFun (f22 55 (by decide)) 10) (congrFun (f22 55 (by decide)) 12) (congrFun (f22 55 (by decide)) 13) (f22 62 (by decide)) (f22 67 (by decide)) hI104
  have I29 : jI105 σ20 := jI105_fr (congrFun (f22 55 (by decide)) 15) (f22 65 (by decide)) hI105
  have I30 : jI106 σ20 := jI106_fr (congrFun (f22 55 (by decide)) 32) (f22 70 (by decide)) (f22 71 (by decide)) (f22 72 (by decide)) hI106
  have I31 : jI107 σ20 := jI107_fr (congrFun (f22 55 (by decide)) 12) (congrFun (f22 55 (by decide)) 47) (f22 80 (by decide)) hI107
  have I32 : jI119 σ20 := jI119_fr (f22 68 (by decide)) hI119
  have p33 : jKept σ20 := jKept.fr (f22 75 (by decide)) (f22 76 (by decide)) (f22 77 (by decide)) hs_jKept
  have p34 : jBook σ20 := jBook.fr (congrFun (f22 55 (by decide)) 47) (congrFun (f22 55 (by decide)) 10) (f22 81 (by decide)) hs_jBook
  refine jcallV (As := [.int (xs x18.toNatClampNeg)]) (rest := []) ⟨hx, hb, hml, hown, hts⟩ hK hP hA hS hZ (c_X12_lost l D cI cL ad zz hJ σ20 τ (xs x18.toNatClampNeg) ((xs x18.toNatClampNeg).toInt) rfl I25 I26 I27 I28 I29 I30 I31 I32 p33 p34) cw_RL_112 (jc_55 cI cL ad σ20 τ) rfl ⟨Nat.le_of_ble_eq_true rfl, Nat.le_of_ble_eq_true rfl⟩ rfl rfl rfl hl.1 rfl (Nat.le_of_ble_eq_true rfl) dL_law_891 ⟨Nat.le_of_ble_eq_true rfl, Nat.le_of_ble_eq_true rfl⟩ (fun r36 σ35 τ35 H locs h35 hP hS => ?_)
  obtain ⟨rfl, f37, f38, I39, p40, p41, h35⟩ := h35
  refine lv_pop hx hb dL_law_894 rfl ?_
  refine lv_goto (tgt := 1357) hx hb dL_law_895 (by decide) ?_
  obtain ⟨x42, ex42⟩ : ∃ y : Int32, y = x0 + 6 := ⟨_, rfl⟩
  have tx42 : x42.toInt = x0.toInt + 6 := (jadd ex42 rfl jz_6 (by omega) (by omega)).trans (by omega)
  refine lv_iinc (v := x42) (lv' := [(3, .int x42), (2, .ref (ad 55)), (1, .ref (ad 0)), (0, .ref b)]) hx hb dL_law_1357 hl (k := 0) rfl (by rw [ex42]; rfl) (by decide) rfl (fun ls hl => ?_)
  refine lv_goto (tgt := 18) hx hb dL_law_1360 (by decide) ?_
  have I43 : jI2 σ35 := jI2_fr ((congrFun (f37 2 (by decide)) 0).trans (congrFun (f22 2 (by decide)) 0)) ((congrFun (f37 2 (by decide)) 1).trans (congrFun (f22 2 (by decide)) 1)) ((congrFun (f37 2 (by decide)) 2).trans (congrFun (f22 2 (by decide)) 2)) ((congrFun (f37 2 (by decide)) 3).trans (congrFun (f22 2 (by decide)) 3)) ((f37 6 (by decide)).trans (f22 6 (by decide))) hI2
  have I44 : jI9 σ35 := jI9_fr ((congrFun (f37 9 (by decide)) 0).trans (congrFun (f22 9 (by decide)) 0)) ((f37 10 (by decide)).trans (f22 10 (by decide))) ((f37 11 (by decide)).trans (f22 11 (by decide))) hI9
  have I45 : jI12 σ35 := jI12_fr ((congrFun (f37 12 (by decide)) 0).trans (congrFun (f22 12 (by decide)) 0)) ((f37 13 (by decide)).trans (f22 13 (by decide))) hI12
  have I46 : jI16 σ35 := jI16_fr ((congrFun (f37 16 (by decide)) 0).trans (congrFun (f22 16 (by decide)) 0)) ((congrFun (f37 16 (by decide)) 1).trans (congrFun (f22 16 (by decide)) 1)) ((congrFun (f37 16 (by decide)) 2).trans (congrFun (f22 16 (by decide)) 2)) ((f37 17 (by decide)).trans (f22 17 (by decide))) hI16
  have I47 : jI18 σ35 := jI18_fr ((congrFun (f37 18 (by decide)) 0).trans (congrFun (f22 18 (by decide)) 0)) ((f37 19 (by decide)).trans (f22 19 (by decide))) hI18
  have I48 : jI22 σ35 := jI22_fr ((congrFun (f37 22 (by decide)) 0).trans (congrFun (f22 22 (by decide)) 0)) ((f37 23 (by decide)).trans (f22 23 (by decide))) hI22
  have I49 : jI31 σ35 := jI31_fr (congrFun (f37 31 (by decide)) 8) (f37 33 (by decide)) (f37 36 (by decide)) I24
  have I50 : jI38 σ35 := jI38_fr ((congrFun (f37 38 (by decide)) 0).trans (congrFun (f22 38 (by decide)) 0)) ((congrFun (f37 38 (by decide)) 1).trans (congrFun (f22 38 (by decide)) 1)) ((f37 39 (by decide)).trans (f22 39 (by decide))) hI38
  have I51 : jI43 σ35 := jI43_fr ((congrFun (f37 43 (by decide)) 8).trans (congrFun (f22 43 (by decide)) 8)) hI43
  have I52 : jI47 σ35 := jI47_fr ((congrFun (f37 47 (by decide)) 0).trans (congrFun (f22 47 (by decide)) 0)) ((f37 49 (by decide)).trans (f22 49 (by decide))) hI47
  have I53 : jI50 σ35 := jI50_fr ((f37 52 (by decide)).trans (f22 52 (by decide))) hI50
  have I54 : jI101 σ35 := jI101_fr (f38 4 (by decide)) (f38 5 (by decide)) (f37 56 (by decide)) (f37 57 (by decide)) (f37 58 (by decide)) (f37 59 (by decide)) I25
  have I55 : jI102 σ35 := jI102_fr (f38 6 (by decide)) (f37 60 (by decide)) (f37 61 (by decide)) I26
  have I56 : jI103 σ35 := jI103_fr (f38 9 (by decide)) I27
  have I57 : jI104 σ35 := jI104_fr (f38 10 (by decide)) (f38 12 (by decide)) (f38 13 (by decide)) (f37 62 (by decide)) (f37 67 (by decide)) I28
  have I58 : jI105 σ35 := jI105_fr (f38 15 (by decide)) (f37 65 (by decide)) I29
  have I59 : jI106 σ35 := jI106_fr (f38 32 (by decide)) (f37 70 (by decide)) (f37 71 (by decide)) (f37 72 (by decide)) I30
  have I60 : jI107 σ35 := jI107_fr (f38 12 (by decide)) (f38 47 (by decide)) (f37 80 (by decide)) I31
  have I61 : jI109 σ35 := jI109_fr ((f38 50 (by decide)).trans (congrFun (f22 55 (by decide)) 50)) hI109
  have I62 : jI110 σ35 := jI110_fr ((f37 86 (by decide)).trans (f22 86 (by decide))) ((f37 87 (by decide)).trans (f22 87 (by decide))) hI110
  have I63 : jI111 σ35 := jI111_fr ((f37 79 (by decide)).trans (f22 79 (by decide))) hI111
  have z64 : (σ35 2 0).toInt = (σ 2 0).toInt := (congrArg Int32.toInt (show σ35 2 0 = (σ 2 0) from ((congrFun (f37 2 (by decide)) 0).trans (congrFun (f22 2 (by decide)) 0))))
  have z65 : (σ35 55 6).toInt = (σ 55 6).toInt := (congrArg Int32.toInt (show σ35 55 6 = (σ 55 6) from ((f38 6 (by decide)).trans (congrFun (f22 55 (by decide)) 6))))
  have z66 : (σ35 2 2).toInt = (σ 2 2).toInt := (congrArg Int32.toInt (show σ35 2 2 = (σ 2 2) from ((congrFun (f37 2 (by decide)) 2).trans (congrFun (f22 2 (by decide)) 2))))
  have z67 : (σ35 55 5).toInt = (σ 55 5).toInt := (congrArg Int32.toInt (show σ35 55 5 = (σ 55 5) from ((f38 5 (by decide)).trans (congrFun (f22 55 (by decide)) 5))))
  have z68 : (σ35 2 3).toInt = (σ 2 3).toInt := (congrArg Int32.toInt (show σ35 2 3 = (σ 2 3) from ((congrFun (f37 2 (by decide)) 3).trans (congrFun (f22 2 (by decide)) 3))))
  have z69 : (σ35 55 4).toInt = (σ 55 4).toInt := (congrArg Int32.toInt (show σ35 55 4 = (σ 55 4) from ((f38 4 (by decide)).trans (congrFun (f22 55 (by decide)) 4))))
  exact ih x42 σ35 τ _ _ ls (by have h9 := tx42; omega) ⟨I43, I44, I45, I46, I47, I48, I49, I50, I51, I52, I53, I54, I55, I56, I57, I58, I59, I60, I61, I62, I63, I39, p40, p41, (by omega), (by omega), (by omega), (show jNumP (σ35 3) (σ35 56) (σ35 6) (σ35 57) (σ35 7) (σ35 58) (σ35 8) (σ35 59) (σ35 55 6).toInt (σ35 55 4).toInt by rw [show σ35 3 = σ 3 from ((f37 3 (by decide)).trans (f22 3 (by decide))), show σ35 56 = σ 56 from ((f37 56 (by decide)).trans (f22 56 (by decide))), show σ35 6 = σ 6 from ((f37 6 (by decide)).trans (f22 6 (by decide))), show σ35 57 = σ 57 from ((f37 57 (by decide)).trans (f22 57 (by decide))), show σ35 7 = σ 7 from ((f37 7 (by decide)).trans (f22 7 (by decide))), show σ35 58 = σ 58 from ((f37 58 (by decide)).trans (f22 58 (by decide))), show σ35 8 = σ 8 from ((f37 8 (by decide)).trans (f22 8 (by decide))), show σ35 59 = σ 59 from ((f37 59 (by decide)).trans (f22 59 (by decide))), show (σ35 55 6).toInt = (σ 55 6).toInt from by omega, show (σ35 55 4).toInt = (σ 55 4).toInt from by omega]; exact hr0)⟩ hP hS (lv_sub hl [0, 1, 2, 3] rfl)
set_option maxHeartbeats 4000000 in
set_option maxRecDepth 100000 in
theorem law_case_24 {p : Program} {e : Env} {s : State} {m : MethodId} {below : List Frame} {meth : Method} {c : Code} (l : Launch) {b L : Nat} {xs : Nat → Int32} {D : va_G} {cI cL : ClassId} {ad zz : Nat → Nat} (C0 : lw_At p s m meth c b L xs) (hJ : jD ad) (hA : ∀ q, jA ad q → s.heap.size ≤ q) (hK : jK D cI cL s) (hZ : jZ zz (fun q : Nat => s.heap.size ≤ q) s s.heap) {x0 : Int32} (hx0 : 0 ≤ x0.toInt) (hxL : x0.toInt + 6 ≤ (L : Int)) (hL : L ≤ 384) {σ : Nat → Nat → Int32} {τ : Nat → Nat → Int64} {H : Heap} {locs : List Loc} (hS : va_S (fun q : Nat => s.heap.size ≤ q) s.heap H locs) {ls : Array Slot} (hAll : jAll σ τ) (hP : jH D cI cL ad σ τ H) (hl : lv_has ls 4 [(3, .int x0), (2, .ref (ad 55)), (1, .ref (ad 0)), (0, .ref b)]) (ih : ∀ (x1 : Int32) (σ : Nat → Nat → Int32) (τ : Nat → Nat → Int64) (H : Heap) (locs : List Loc) (ls : Array Slot), x1.toInt = x0.toInt + 6 → jAll σ τ → jH D cI cL ad σ τ H → va_S (fun q : Nat => s.heap.size ≤ q) s.heap H locs → lv_has ls 4 [(3, .int x1), (2, .ref (ad 55)), (1, .ref (ad 0)), (0, .ref b)] → W p l e room_1 s m #[Value.ref b] below meth c H locs 90 348600 (lw_Z below #[Value.ref b] s) (F0 m 18 ls [])) : W p l e room_1 s m #[Value.ref b] below meth c H locs 90 348600 (lw_Z below #[Value.ref b] s) (F0 m 898 ls []) := by
  obtain ⟨hx, hb, hr, hml, hown, hts0, hX, hbl, hlocks, hgv⟩ := C0
  have hts : ∀ w ∈ wsL_law, w.before #[Value.ref b] s = true := fun w h => hts0 w (wsL_law_in w h)
  have hbA : ¬ (fun q : Nat => s.heap.size ≤ q) b := Nat.not_le.mpr hbl
  have hown : s.vm.findClass RL = some m.cls := hown
  obtain ⟨hI2, hI9, hI12, hI16, hI18, hI22, hI31, hI38, hI43, hI47, hI50, hI101, hI102, hI103, hI104, hI105, hI106, hI107, hI109, hI110, hI111, hI119, hs_jKept, hs_jBook, ht0, ht1, ht2, hr0⟩ := hAll
  have hL9 : (L : Int) ≤ 384 := by omega
  obtain ⟨i1, i2, i3, i4, i5, w6⟩ : (0 ≤ (σ 2 0).toInt ∧ (σ 2 0).toInt ≤ 4) ∧ (0 ≤ (σ 2 1).toInt ∧ (σ 2 1).toInt ≤ 3) ∧ (0 ≤ (σ 2 2).toInt) ∧ (0 ≤ (σ 2 3).toInt) ∧ ((σ 2 2).toInt + (σ 2 3).toInt ≤ 40) ∧ (∀ k : Nat, k < 40 → 0 ≤ (σ 6 k).toInt ∧ (σ 6 k).toInt ≤ 67) := id hI2
  obtain ⟨i7, i8, i9, w10, w11, w12, w13⟩ : (0 ≤ (σ 55 5).toInt) ∧ ((σ 55 5).toInt ≤ (σ 55 4).toInt) ∧ ((σ 55 4).toInt ≤ 40) ∧ (∀ k : Nat, k < 68 → (-200) ≤ (σ 56 k).toInt ∧ (σ 56 k).toInt ≤ 500) ∧ (∀ k : Nat, k < 40 → 0 ≤ (σ 57 k).toInt ∧ (σ 57 k).toInt ≤ 67) ∧ (∀ k : Nat, k < 40 → (-200) ≤ (σ 58 k).toInt ∧ (σ 58 k).toInt ≤ 500) ∧ (∀ k : Nat, k < 40 → (-200) ≤ (σ 59 k).toInt ∧ (σ 59 k).toInt ≤ 500) := id hI101
  obtain ⟨i14, w15, w16⟩ : (0 ≤ (σ 55 6).toInt ∧ (σ 55 6).toInt ≤ 4) ∧ (∀ k : Nat, k < 4 → 0 ≤ (σ 60 k).toInt ∧ (σ 60 k).toInt ≤ 50) ∧ (∀ k : Nat, k < 4 → 0 ≤ (σ 61 k).toInt ∧ (σ 61 k).toInt ≤ 20) := id hI102
  refine lv_aload_n hx hb dL_law_898 rfl (lv_at hl 2 rfl) ?_
  refine lv_aload_n hx hb dL_law_899 rfl (lv_at hl 3 rfl) ?_
  refine lv_iload_n hx hb dL_law_900 rfl (lv_at hl 0 rfl) ?_
  refine lv_iconst (v := 1) hx hb dL_law_901 (by decide) ?_
  have g17 := jrg (rfl : x0.toInt = x0.toInt)
  refine lv_iadd hx hb dL_law_902 ?_
  refine lv_topi (fun x18 ex18 => ?_)
  have tx18 : x18.toInt = x0.toInt + 1 := (jadd ex18 rfl jz_1 (by omega) (by omega)).trans (by omega)
  refine va_sld hx hb hX hbl hbA hS (jin tx18 (by omega) (by omega)) dL_law_903 ?_
  have g19 := jrg (rfl : (xs x18.toNatClampNeg).toInt = (xs x18.toNatClampNeg).toInt)
  refine lv_aload_n hx hb dL_law_904 rfl (lv_at hl 3 rfl) ?_
  refine lv_iload_n hx hb dL_law_905 rfl (lv_at hl 0 rfl) ?_
  refine lv_iconst (v := 2) hx hb dL_law_906 (by decide) ?_
  refine lv_iadd hx hb dL_law_907 ?_
  refine lv_topi (fun x20 ex20 => ?_)
  have tx20 : x20.toInt = x0.toInt + 2 := (jadd ex20 rfl jz_2 (by omega) (by omega)).trans (by omega)
  refine va_sld hx hb hX hbl hbA hS (jin tx20 (by omega) (by omega)) dL_law_908 ?_
  have g21 := jrg (rfl : (xs x20.toNatClampNeg).toInt = (xs x20.toNatClampNeg).toInt)
  refine jcallV (As := [.int (xs x18.toNatClampNeg), .int (xs x20.toNatClampNeg)]) (rest := []) ⟨hx, hb, hml, hown, hts⟩ hK hP hA hS hZ (c_X11_game l D cI cL ad zz hJ σ τ (xs x18.toNatClampNeg) ((xs x18.toNatClampNeg).toInt) rfl (xs x20.toNatClampNeg) ((xs x20.toNatClampNeg).toInt) rfl hI2 hI16 hI18 hI22 hI31 hI38 hI43) cw_RL_113 (jc_0 cI cL ad σ τ) rfl ⟨Nat.le_of_ble_eq_true rfl, Nat.le_of_ble_eq_true rfl⟩ rfl rfl rfl hl.1 rfl (Nat.le_of_ble_eq_true rfl) dL_law_909 ⟨Nat.le_of_ble_eq_true rfl, Nat.le_of_ble_eq_true rfl⟩ (fun r23 σ22 τ22 H locs h22 hP hS => ?_)
  obtain ⟨rfl, f24, f25, f26, I27, I28, h22⟩ := h22
  refine lv_pop hx hb dL_law_912 rfl ?_
  refine lv_aload_n hx hb dL_law_913 rfl (lv_at hl 1 rfl) ?_
  refine lv_aload_n hx hb dL_law_914 rfl (lv_at hl 3 rfl) ?_
  refine lv_iload_n hx hb dL_law_915 rfl (lv_at hl 0 rfl) ?_
  refine lv_iconst (v := 1) hx hb dL_law_916 (by decide) ?_
  refine lv_iadd hx hb dL_law_917 ?_
  refine jtopr ex18.symm ?_
  refine va_sld hx hb hX hbl hbA hS (jin tx18 (by omega) (by omega)) dL_law_918 ?_
  refine lv_aload_n hx hb dL_law_919 rfl (lv_at hl 3 rfl) ?_
  refine lv_iload_n hx hb dL_law_920 rfl (lv_at hl 0 rfl) ?_
  refine lv_iconst (v := 2) hx hb dL_law_921 (by decide) ?_
  refine lv_iadd hx hb dL_law_922 ?_
  refine jtopr ex20.symm ?_
  refine va_sld hx hb hX hbl hbA hS (jin tx20 (by omega) (by omega)) dL_law_923 ?_
  have I29 : jI101 σ22 := jI101_fr (congrFun (f24 55 (by decide)) 4) (congrFun (f24 55 (by decide)) 5) (f24 56 (by decide)) (f24 57 (by decide)) (f24 58 (by decide)) (f24 59 (by decide)) hI101
  have I30 : jI102 σ22 := jI102_fr (congrFun (f24 55 (by decide)) 6) (f24 60 (by decide)) (f24 61 (by decide)) hI102
  have I31 : jI103 σ22 := jI103_fr (congrFun (f24 55 (by decide)) 9) hI103
  have I32 : jI104 σ22 := jI104_fr (congrFun (f24 55 (by decide)) 10) (congrFun (f24 55 (by decide)) 12) (congrFun (f24 55 (by decide)) 13) (f24 62 (by decide)) (f24 67 (by decide)) hI104
  have I33 : jI105 σ22 := jI105_fr (congrFun (f24 55 (by decide)) 15) (f24 65 (by decide)) hI105
  have I34 : jI106 σ22 := jI106_fr (congrFun (f24 55 (by decide)) 32) (f24 70 (by decide)) (f24 71 (by decide)) (f24 72 (by decide)) hI106
  have I35 : jI119 σ22 := jI119_fr (f24 68 (by decide)) hI119
  have I36 : jI109 σ22 := jI109_fr (congrFun (f24 55 (by decide)) 50) hI109
  have p37 : jKept σ22 := jKept.fr (f24 75 (by decide)) (f24 76 (by decide)) (f24 77 (by decide)) hs_jKept
  refine jcallV (As := [.int (xs x18.toNatClampNeg), .int (xs x20.toNatClampNeg)]) (rest := []) ⟨hx, hb, hml, hown, hts⟩ hK hP hA hS hZ (c_X12_game l D cI cL ad zz hJ σ22 τ (xs x18.toNatClampNeg) ((xs x18.toNatClampNeg).toInt) rfl (xs x20.toNatClampNeg) ((xs x20.toNatClampNeg).toInt) rfl I29 I30 I31 I32 I33 I34 I35 I36 p37) cw_RL_116 (jc_55 cI cL ad σ22 τ) rfl ⟨Nat.le_of_ble_eq_true rfl, Nat.le_of_ble_eq_true rfl⟩ rfl rfl rfl hl.1 rfl (Nat.le_of_ble_eq_true rfl) dL_law_924 ⟨Nat.le_of_ble_eq_true rfl, Nat.le_of_ble_eq_true rfl⟩ (fun r39 σ38 τ38 H locs h38 hP hS => ?_)
  obtain ⟨rfl, f40, f41, I42, I43, p44, h38⟩ := h38
  refine lv_pop hx hb dL_law_927 rfl ?_
  refine lv_goto (tgt := 1357) hx hb dL_law_928 (by decide) ?_
  obtain ⟨x45, ex45⟩ : ∃ y : Int32, y = x0 + 6 := ⟨_, rfl⟩
  have tx45 : x45.toInt = x0.toInt + 6 := (jadd ex45 rfl jz_6 (by omega) (by omega)).trans (by omega)
  refine lv_iinc (v := x45) (lv' := [(3, .int x45), (2, .ref (ad 55)), (1, .ref (ad 0)), (0, .ref b)]) hx hb dL_law_1357 hl (k := 0) rfl (by rw [ex45]; rfl) (by decide) rfl (fun ls hl => ?_)
  refine lv_goto (tgt := 18) hx hb dL_law_1360 (by decide) ?_
  have I46 : jI2 σ38 := jI2_fr ((congrFun (f40 2 (by decide)) 0).trans (congrFun (f24 2 (by decide)) 0)) ((congrFun (f40 2 (by decide)) 1).trans (congrFun (f24 2 (by decide)) 1)) ((congrFun (f40 2 (by decide)) 2).trans (congrFun (f24 2 (by decide)) 2)) ((congrFun (f40 2 (by decide)) 3).trans (congrFun (f24 2 (by decide)) 3)) ((f40 6 (by decide)).trans (f24 6 (by decide))) hI2
  have I47 : jI9 σ38 := jI9_fr ((congrFun (f40 9 (by decide)) 0).trans (congrFun (f24 9 (by decide)) 0)) ((f40 10 (by decide)).trans (f24 10 (by decide))) ((f40 11 (by decide)).trans (f24 11 (by decide))) hI9
  have I48 : jI12 σ38 := jI12_fr ((congrFun (f40 12 (by decide)) 0).trans (congrFun (f24 12 (by decide)) 0)) ((f40 13 (by decide)).trans (f24 13 (by decide))) hI12
  have I49 : jI16 σ38 := jI16_fr ((congrFun (f40 16 (by decide)) 0).trans (congrFun (f24 16 (by decide)) 0)) ((congrFun (f40 16 (by decide)) 1).trans (congrFun (f24 16 (by decide)) 1)) ((congrFun (f40 16 (by decide)) 2).trans (congrFun (f24 16 (by decide)) 2)) ((f40 17 (by decide)).trans (f24 17 (by decide))) hI16
  have I50 : jI18 σ38 := jI18_fr ((congrFun (f40 18 (by decide)) 0).trans (congrFun (f24 18 (by decide)) 0)) ((f40 19 (by decide)).trans (f24 19 (by decide))) hI18
  have I51 : jI22 σ38 := jI22_fr ((congrFun (f40 22 (by decide)) 0).trans (congrFun (f24 22 (by decide)) 0)) ((f40 23 (by decide)).trans (f24 23 (by decide))) hI22
  have I52 : jI31 σ38 := jI31_fr (congrFun (f40 31 (by decide)) 8) (f40 33 (by decide)) (f40 36 (by decide)) I27
  have I53 : jI38 σ38 := jI38_fr ((congrFun (f40 38 (by decide)) 0).trans (congrFun (f24 38 (by decide)) 0)) ((congrFun (f40 38 (by decide)) 1).trans (congrFun (f24 38 (by decide)) 1)) ((f40 39 (by decide)).trans (f24 39 (by decide))) hI38
  have I54 : jI43 σ38 := jI43_fr (congrFun (f40 43 (by decide)) 8) I28
  have I55 : jI47 σ38 := jI47_fr ((congrFun (f40 47 (by decide)) 0).trans (congrFun (f24 47 (by decide)) 0)) ((f40 49 (by decide)).trans (f24 49 (by decide))) hI47
  have I56 : jI50 σ38 := jI50_fr ((f40 52 (by decide)).trans (f24 52 (by decide))) hI50
  have I57 : jI101 σ38 := jI101_fr (f41 4 (by decide)) (f41 5 (by decide)) (f40 56 (by decide)) (f40 57 (by decide)) (f40 58 (by decide)) (f40 59 (by decide)) I29
  have I58 : jI102 σ38 := jI102_fr (f41 6 (by decide)) (f40 60 (by decide)) (f40 61 (by decide)) I30
  have I59 : jI103 σ38 := jI103_fr (f41 9 (by decide)) I31
  have I60 : jI104 σ38 := jI104_fr (f41 10 (by decide)) (f41 12 (by decide)) (f41 13 (by decide)) (f40 62 (by decide)) (f40 67 (by decide)) I32
  have I61 : jI105 σ38 := jI105_fr (f41 15 (by decide)) (f40 65 (by decide)) I33
  have I62 : jI106 σ38 := jI106_fr (f41 32 (by decide)) (f40 70 (by decide)) (f40 71 (by decide)) (f40 72 (by decide)) I34
  have I63 : jI107 σ38 := jI107_fr ((f41 12 (by decide)).trans (congrFun (f24 55 (by decide)) 12)) ((f41 47 (by decide)).trans (congrFun (f24 55 (by decide)) 47)) ((f40 80 (by decide)).trans (f24 80 (by decide))) hI107
  have I64 : jI110 σ38 := jI110_fr ((f40 86 (by decide)).trans (f24 86 (by decide))) ((f40 87 (by decide)).trans (f24 87 (by decide))) hI110
  have I65 : jI111 σ38 := jI111_fr ((f40 79 (by decide)).trans (f24 79 (by decide))) hI111
  have p66 : jBook σ38 := jBook.fr ((f41 47 (by decide)).trans (congrFun (f24 55 (by decide)) 47)) ((f41 10 (by decide)).trans (congrFun (f24 55 (by decide)) 10)) ((f40 81 (by decide)).trans (f24 81 (by decide))) hs_jBook
  have z67 : (σ38 2 0).toInt = (σ 2 0).toInt := (congrArg Int32.toInt (show σ38 2 0 = (σ 2 0) from ((congrFun (f40 2 (by decide)) 0).trans (congrFun (f24 2 (by decide)) 0))))
  have z68 : (σ38 55 6).toInt = (σ 55 6).toInt := (congrArg Int32.toInt (show σ38 55 6 = (σ 55 6) from ((f41 6 (by decide)).trans (congrFun (f24 55 (by decide)) 6))))
  have z69 : (σ38 2 2).toInt = (σ 2 2).toInt := (congrArg Int32.toInt (show σ38 2 2 = (σ 2 2) from ((congrFun (f40 2 (by decide)) 2).trans (congrFun (f24 2 (by decide)) 2))))
  have z70 : (σ38 55 5).toInt = (σ 55 5).toInt := (congrArg Int32.toInt (show σ38 55 5 = (σ 55 5) from ((f41 5 (by decide)).trans (congrFun (f24 55 (by decide)) 5))))
  have z71 : (σ38 2 3).toInt = (σ 2 3).toInt := (congrArg Int32.toInt (show σ38 2 3 = (σ 2 3) from ((congrFun (f40 2 (by decide)) 3).trans (congrFun (f24 2 (by decide)) 3))))
  have z72 : (σ38 55 4).toInt = (σ 55 4).toInt := (congrArg Int32.toInt (show σ38 55 4 = (σ 55 4) from ((f41 4 (by decide)).trans (congrFun (f24 55 (by decide)) 4))))
  exact ih x45 σ38 τ _ _ ls (by have h9 := tx45; omega) ⟨I46, I47, I48, I49, I50, I51, I52, I53, I54, I55, I56, I57, I58, I59, I60, I61, I62, I63, I42, I64, I65, I43, p44, p66, (by omega), (by omega), (by omega), (show jNumP (σ38 3) (σ38 56) (σ38 6) (σ38 57) (σ38 7) (σ38 58) (σ38 8) (σ38 59) (σ38 55 6).toInt (σ38 55 4).toInt by rw [show σ38 3 = σ 3 from ((f40 3 (by decide)).trans (f24 3 (by decide))), show σ38 56 = σ 56 from ((f40 56 (by decide)).trans (f24 56 (by decide))), show σ38 6 = σ 6 from ((f40 6 (by decide)).trans (f24 6 (by decide))), show σ38 57 = σ 57 from ((f40 57 (by decide)).trans (f24 57 (by decide))), show σ38 7 = σ 7 from ((f40 7 (by decide)).trans (f24 7 (by decide))), show σ38 58 = σ 58 from ((f40 58 (by decide)).trans (f24 58 (by decide))), show σ38 8 = σ 8 from ((f40 8 (by decide)).trans (f24 8 (by decide))), show σ38 59 = σ 59 from ((f40 59 (by decide)).trans (f24 59 (by decide))), show (σ38 55 6).toInt = (σ 55 6).toInt from by omega, show (σ38 55 4).toInt = (σ 55 4).toInt from by omega]; exact hr0)⟩ hP hS (lv_sub hl [0, 1, 2, 3] rfl)
set_option maxHeartbeats 4000000 in
set_option maxRecDepth 100000 in
theorem law_case_25 {p : Program} {e : Env} {s : State} {m : MethodId} {below : List Frame} {meth : Method} {c : Code} (l : Launch) {b L : Nat} {xs : Nat → Int32} {D : va_G} {cI cL : ClassId} {ad zz : Nat → Nat} (C0 : lw_At p s m meth c b L xs) (hJ : jD ad) (hA : ∀ q, jA ad q → s.heap.size ≤ q) (hK : jK D cI cL s) (hZ : jZ zz (fun q : Nat => s.heap.size ≤ q) s s.heap) {x0 : Int32} (hx0 : 0 ≤ x0.toInt) (hxL : x0.toInt + 6 ≤ (L : Int)) (hL : L ≤ 384) {σ : Nat → Nat → Int32} {τ : Nat → Nat → Int64} {H : Heap} {locs : List Loc} (hS : va_S (fun q : Nat => s.heap.size ≤ q) s.heap H locs) {ls : Array Slot} (hAll : jAll σ τ) (hP : jH D cI cL ad σ τ H) (hl : lv_has ls 4 [(3, .int x0), (2, .ref (ad 55)), (1, .ref (ad 0)), (0, .ref b)]) (ih : ∀ (x1 : Int32) (σ : Nat → Nat → Int32) (τ : Nat → Nat → Int64) (H : Heap) (locs : List Loc) (ls : Array Slot), x1.toInt = x0.toInt + 6 → jAll σ τ → jH D cI cL ad σ τ H → va_S (fun q : Nat => s.heap.size ≤ q) s.heap H locs → lv_has ls 4 [(3, .int x1), (2, .ref (ad 55)), (1, .ref (ad 0)), (0, .ref b)] → W p l e room_1 s m #[Value.ref b] below meth c H locs 90 348600 (lw_Z below #[Value.ref b] s) (F0 m 18 ls [])) : W p l e room_1 s m #[Value.ref b] below meth c H locs 90 348600 (lw_Z below #[Value.ref b] s) (F0 m 931 ls []) := by
  obtain ⟨hx, hb, hr, hml, hown, hts0, hX, hbl, hlocks, hgv⟩ := C0
  have hts : ∀ w ∈ wsL_law, w.before #[Value.ref b] s = true := fun w h => hts0 w (wsL_law_in w h)
  have hbA : ¬ (fun q : Nat => s.heap.size ≤ q) b := Nat.not_le.mpr hbl
  have hown : s.vm.findClass RL = some m.cls := hown
  obtain ⟨hI2, hI9, hI12, hI16, hI18, hI22, hI31, hI38, hI43, hI47, hI50, hI101, hI102, hI103, hI104, hI105, hI106, hI107, hI109, hI110, hI111, hI119, hs_jKept, hs_jBook, ht0, ht1, ht2, hr0⟩ := hAll
  have hL9 : (L : Int) ≤ 384 := by omega
  obtain ⟨i1, i2, i3, i4, i5, w6⟩ : (0 ≤ (σ 2 0).toInt ∧ (σ 2 0).toInt ≤ 4) ∧ (0 ≤ (σ 2 1).toInt ∧ (σ 2 1).toInt ≤ 3) ∧ (0 ≤ (σ 2 2).toInt) ∧ (0 ≤ (σ 2 3).toInt) ∧ ((σ 2 2).toInt + (σ 2 3).toInt ≤ 40) ∧ (∀ k : Nat, k < 40 → 0 ≤ (σ 6 k).toInt ∧ (σ 6 k).toInt ≤ 67) := id hI2
  obtain ⟨i7, i8, i9, w10, w11, w12, w13⟩ : (0 ≤ (σ 55 5).toInt) ∧ ((σ 55 5).toInt ≤ (σ 55 4).toInt) ∧ ((σ 55 4).toInt ≤ 40) ∧ (∀ k : Nat, k < 68 → (-200) ≤ (σ 56 k).toInt ∧ (σ 56 k).toInt ≤ 500) ∧ (∀ k : Nat, k < 40 → 0 ≤ (σ 57 k).toInt ∧ (σ 57 k).toInt ≤ 67) ∧ (∀ k : Nat, k < 40 → (-200) ≤ (σ 58 k).toInt ∧ (σ 58 k).toInt ≤ 500) ∧ (∀ k : Nat, k < 40 → (-200) ≤ (σ 59 k).toInt ∧ (σ 59 k).toInt ≤ 500) := id hI101
  obtain ⟨i14, w15, w16⟩ : (0 ≤ (σ 55 6).toInt ∧ (σ 55 6).toInt ≤ 4) ∧ (∀ k : Nat, k < 4 → 0 ≤ (σ 60 k).toInt ∧ (σ 60 k).toInt ≤ 50) ∧ (∀ k : Nat, k < 4 → 0 ≤ (σ 61 k).toInt ∧ (σ 61 k).toInt ≤ 20) := id hI102
  refine lv_aload_n hx hb dL_law_931 rfl (lv_at hl 2 rfl) ?_
  refine lv_aload_n hx hb dL_law_932 rfl (lv_at hl 3 rfl) ?_
  refine lv_iload_n hx hb dL_law_933 rfl (lv_at hl 0 rfl) ?_
  refine lv_iconst (v := 1) hx hb dL_law_934 (by decide) ?_
  have g17 := jrg (rfl : x0.toInt = x0.toInt)
  refine lv_iadd hx hb dL_law_935 ?_
  refine lv_topi (fun x18 ex18 => ?_)
  have tx18 : x18.toInt = x0.toInt + 1 := (jadd ex18 rfl jz_1 (by omega) (by omega)).trans (by omega)
  refine va_sld hx hb hX hbl hbA hS (jin tx18 (by omega) (by omega)) dL_law_936 ?_
  have g19 := jrg (rfl : (xs x18.toNatClampNeg).toInt = (xs x18.toNatClampNeg).toInt)
  refine lv_aload_n hx hb dL_law_937 rfl (lv_at hl 3 rfl) ?_
  refine lv_iload_n hx hb dL_law_938 rfl (lv_at hl 0 rfl) ?_
  refine lv_iconst (v := 2) hx hb dL_law_939 (by decide) ?_
  refine lv_iadd hx hb dL_law_940 ?_
  refine lv_topi (fun x20 ex20 => ?_)
  have tx20 : x20.toInt = x0.toInt + 2 := (jadd ex20 rfl jz_2 (by omega) (by omega)).trans (by omega)
  refine va_sld hx hb hX hbl hbA hS (jin tx20 (by omega) (by omega)) dL_law_941 ?_
  have g21 := jrg (rfl : (xs x20.toNatClampNeg).toInt = (xs x20.toNatClampNeg).toInt)
  refine jcallV (As := [.int (xs x18.toNatClampNeg), .int (xs x20.toNatClampNeg)]) (rest := []) ⟨hx, hb, hml, hown, hts⟩ hK hP hA hS hZ (c_X11_led l D cI cL ad zz hJ σ τ (xs x18.toNatClampNeg) ((xs x18.toNatClampNeg).toInt) rfl (xs x20.toNatClampNeg) ((xs x20.toNatClampNeg).toInt) rfl hI43) cw_RL_117 (jc_0 cI cL ad σ τ) rfl ⟨Nat.le_of_ble_eq_true rfl, Nat.le_of_ble_eq_true rfl⟩ rfl rfl rfl hl.1 rfl (Nat.le_of_ble_eq_true rfl) dL_law_942 ⟨Nat.le_of_ble_eq_true rfl, Nat.le_of_ble_eq_true rfl⟩ (fun r23 σ22 τ22 H locs h22 hP hS => ?_)
  obtain ⟨⟨rfl, rfl⟩, h22⟩ := h22
  refine lv_pop hx hb dL_law_945 rfl ?_
  refine lv_aload_n hx hb dL_law_946 rfl (lv_at hl 1 rfl) ?_
  refine lv_aload_n hx hb dL_law_947 rfl (lv_at hl 3 rfl) ?_
  refine lv_iload_n hx hb dL_law_948 rfl (lv_at hl 0 rfl) ?_
  refine lv_iconst (v := 1) hx hb dL_law_949 (by decide) ?_
  refine lv_iadd hx hb dL_law_950 ?_
  refine jtopr ex18.symm ?_
  refine va_sld hx hb hX hbl hbA hS (jin tx18 (by omega) (by omega)) dL_law_951 ?_
  refine lv_aload_n hx hb dL_law_952 rfl (lv_at hl 3 rfl) ?_
  refine lv_iload_n hx hb dL_law_953 rfl (lv_at hl 0 rfl) ?_
  refine lv_iconst (v := 2) hx hb dL_law_954 (by decide) ?_
  refine lv_iadd hx hb dL_law_955 ?_
  refine jtopr ex20.symm ?_
  refine va_sld hx hb hX hbl hbA hS (jin tx20 (by omega) (by omega)) dL_law_956 ?_
  refine jcallV (As := [.int (xs x18.toNatClampNeg), .int (xs x20.toNatClampNeg)]) (rest := []) ⟨hx, hb, hml, hown, hts⟩ hK hP hA hS hZ (c_X12_led l D cI cL ad zz hJ σ τ (xs x18.toNatClampNeg) ((xs x18.toNatClampNeg).toInt) rfl (xs x20.toNatClampNeg) ((xs x20.toNatClampNeg).toInt) rfl hI109) cw_RL_120 (jc_55 cI cL ad σ τ) rfl ⟨Nat.le_of_ble_eq_true rfl, Nat.le_of_ble_eq_true rfl⟩ rfl rfl rfl hl.1 rfl (Nat.le_of_ble_eq_true rfl) dL_law_957 ⟨Nat.le_of_ble_eq_true rfl, Nat.le_of_ble_eq_true rfl⟩ (fun r25 σ24 τ24 H locs h24 hP hS => ?_)
  obtain ⟨⟨rfl, rfl⟩, h24⟩ := h24
  refine lv_pop hx hb dL_law_960 rfl ?_
  refine lv_goto (tgt := 1357) hx hb dL_law_961 (by decide) ?_
  obtain ⟨x26, ex26⟩ : ∃ y : Int32, y = x0 + 6 := ⟨_, rfl⟩
  have tx26 : x26.toInt = x0.toInt + 6 := (jadd ex26 rfl jz_6 (by omega) (by omega)).trans (by omega)
  refine lv_iinc (v := x26) (lv' := [(3, .int x26), (2, .ref (ad 55)), (1, .ref (ad 0)), (0, .ref b)]) hx hb dL_law_1357 hl (k := 0) rfl (by rw [ex26]; rfl) (by decide) rfl (fun ls hl => ?_)
  refine lv_goto (tgt := 18) hx hb dL_law_1360 (by decide) ?_
  exact ih x26 σ τ _ _ ls (by have h9 := tx26; omega) ⟨hI2, hI9, hI12, hI16, hI18, hI22, hI31, hI38, hI43, hI47, hI50, hI101, hI102, hI103, hI104, hI105, hI106, hI107, hI109, hI110, hI111, hI119, hs_jKept, hs_jBook, (by omega), (by omega), (by omega), hr0⟩ hP hS (lv_sub hl [0, 1, 2, 3] rfl)
set_option maxHeartbeats 4000000 in
set_option maxRecDepth 100000 in
theorem law_case_26 {p : Program} {e : Env} {s : State} {m : MethodId} {below : List Frame} {meth : Method} {c : Code} (l : Launch) {b L : Nat} {xs : Nat → Int32} {D : va_G} {cI cL : ClassId} {ad zz : Nat → Nat} (C0 : lw_At p s m meth c b L xs) (hJ : jD ad) (hA : ∀ q, jA ad q → s.heap.size ≤ q) (hK : jK D cI cL s) (hZ : jZ zz (fun q : Nat => s.heap.size ≤ q) s s.heap) {x0 : Int32} (hx0 : 0 ≤ x0.toInt) (hxL : x0.toInt + 6 ≤ (L : Int)) (hL : L ≤ 384) {σ : Nat → Nat → Int32} {τ : Nat → Nat → Int64} {H : Heap} {locs : List Loc} (hS : va_S (fun q : Nat => s.heap.size ≤ q) s.heap H locs) {ls : Array Slot} (hAll : jAll σ τ) (hP : jH D cI cL ad σ τ H) (hl : lv_has ls 4 [(3, .int x0), (2, .ref (ad 55)), (1, .ref (ad 0)), (0, .ref b)]) (ih : ∀ (x1 : Int32) (σ : Nat → Nat → Int32) (τ : Nat → Nat → Int64) (H : Heap) (locs : List Loc) (ls : Array Slot), x1.toInt = x0.toInt + 6 → jAll σ τ → jH D cI cL ad σ τ H → va_S (fun q : Nat => s.heap.size ≤ q) s.heap H locs → lv_has ls 4 [(3, .int x1), (2, .ref (ad 55)), (1, .ref (ad 0)), (0, .ref b)] → W p l e room_1 s m #[Value.ref b] below meth c H locs 90 348600 (lw_Z below #[Value.ref b] s) (F0 m 18 ls [])) : W p l e room_1 s m #[Value.ref b] below meth c H locs 90 348600 (lw_Z below #[Value.ref b] s) (F0 m 964 ls []) := by
  obtain ⟨hx, hb, hr, hml, hown, hts0, hX, hbl, hlocks, hgv⟩ := C0
  have hts : ∀ w ∈ wsL_law, w.before #[Value.ref b] s = true := fun w h => hts0 w (wsL_law_in w h)
  have hbA : ¬ (fun q : Nat => s.heap.size ≤ q) b := Nat.not_le.mpr hbl
  have hown : s.vm.findClass RL = some m.cls := hown
  obtain ⟨hI2, hI9, hI12, hI16, hI18, hI22, hI31, hI38, hI43, hI47, hI50, hI101, hI102, hI103, hI104, hI105, hI106, hI107, hI109, hI110, hI111, hI119, hs_jKept, hs_jBook, ht0, ht1, ht2, hr0⟩ := hAll
  have hL9 : (L : Int) ≤ 384 := by omega
  obtain ⟨i1, i2, i3, i4, i5, w6⟩ : (0 ≤ (σ 2 0).toInt ∧ (σ 2 0).toInt ≤ 4) ∧ (0 ≤ (σ 2 1).toInt ∧ (σ 2 1).toInt ≤ 3) ∧ (0 ≤ (σ 2 2).toInt) ∧ (0 ≤ (σ 2 3).toInt) ∧ ((σ 2 2).toInt + (σ 2 3).toInt ≤ 40) ∧ (∀ k : Nat, k < 40 → 0 ≤ (σ 6 k).toInt ∧ (σ 6 k).toInt ≤ 67) := id hI2
  obtain ⟨i7, i8, i9, w10, w11, w12, w13⟩ : (0 ≤ (σ 55 5).toInt) ∧ ((σ 55 5).toInt ≤ (σ 55 4).toInt) ∧ ((σ 55 4).toInt ≤ 40) ∧ (∀ k : Nat, k < 68 → (-200) ≤ (σ 56 k).toInt ∧ (σ 56 k).toInt ≤ 500) ∧ (∀ k : Nat, k < 40 → 0 ≤ (σ 57 k).toInt ∧ (σ 57 k).toInt ≤ 67) ∧ (∀ k : Nat, k < 40 → (-200) ≤ (σ 58 k).toInt ∧ (σ 58 k).toInt ≤ 500) ∧ (∀ k : Nat, k < 40 → (-200) ≤ (σ 59 k).toInt ∧ (σ 59 k).toInt ≤ 500) := id hI101
  obtain ⟨i14, w15, w16⟩ : (0 ≤ (σ 55 6).toInt ∧ (σ 55 6).toInt ≤ 4) ∧ (∀ k : Nat, k < 4 → 0 ≤ (σ 60 k).toInt ∧ (σ 60 k).toInt ≤ 50) ∧ (∀ k : Nat, k < 4 → 0 ≤ (σ 61 k).toInt ∧ (σ 61 k).toInt ≤ 20) := id hI102
  refine lv_aload_n hx hb dL_law_964 rfl (lv_at hl 2 rfl) ?_
  refine jcallV (As := []) (rest := []) ⟨hx, hb, hml, hown, hts⟩ hK hP hA hS hZ (c_X11_undo l D cI cL ad zz hJ σ τ hI2) cw_RL_121 (jc_0 cI cL ad σ τ) rfl ⟨Nat.le_of_ble_eq_true rfl, Nat.le_of_ble_eq_true rfl⟩ rfl rfl rfl hl.1 rfl (Nat.le_of_ble_eq_true rfl) dL_law_965 ⟨Nat.le_of_ble_eq_true rfl, Nat.le_of_ble_eq_true rfl⟩ (fun r18 σ17 τ17 H locs h17 hP hS => ?_)
  obtain ⟨rfl, f19, f20, I21, h17⟩ := h17
  obtain ⟨i22, i23, i24, i25, i26, w27⟩ : (0 ≤ (σ17 2 0).toInt ∧ (σ17 2 0).toInt ≤ 4) ∧ (0 ≤ (σ17 2 1).toInt ∧ (σ17 2 1).toInt ≤ 3) ∧ (0 ≤ (σ17 2 2).toInt) ∧ (0 ≤ (σ17 2 3).toInt) ∧ ((σ17 2 2).toInt + (σ17 2 3).toInt ≤ 40) ∧ (∀ k : Nat, k < 40 → 0 ≤ (σ17 6 k).toInt ∧ (σ17 6 k).toInt ≤ 67) := id I21
  have z28 : (σ17 2 0).toInt = (σ 2 0).toInt := (congrArg Int32.toInt (show σ17 2 0 = (σ 2 0) from (f20 0 (by decide))))
  have z29 : (σ17 2 1).toInt = (σ 2 1).toInt := (congrArg Int32.toInt (show σ17 2 1 = (σ 2 1) from (f20 1 (by decide))))
  rcases h17 with h30 | h31
  · obtain ⟨q36, k32, k33, k34, k35⟩ := h30
    have q36 := q36.symm
    subst q36
    refine lv_pop hx hb dL_law_968 rfl ?_
    refine lv_aload_n hx hb dL_law_969 rfl (lv_at hl 1 rfl) ?_
    have I37 : jI101 σ17 := jI101_fr (congrFun (f19 55 (by decide)) 4) (congrFun (f19 55 (by decide)) 5) (f19 56 (by decide)) (f19 57 (by decide)) (f19 58 (by decide)) (f19 59 (by decide)) hI101
    have z38 : (σ17 55 5).toInt = (σ 55 5).toInt := (congrArg Int32.toInt (show σ17 55 5 = (σ 55 5) from (congrFun (f19 55 (by decide)) 5)))
    refine jcallV (As := []) (rest := []) ⟨hx, hb, hml, hown, hts⟩ hK hP hA hS hZ (c_X12_undo l D cI cL ad zz hJ σ17 τ I37) cw_RL_124 (jc_55 cI cL ad σ17 τ) rfl ⟨Nat.le_of_ble_eq_true rfl, Nat.le_of_ble_eq_true rfl⟩ rfl rfl rfl hl.1 rfl (Nat.le_of_ble_eq_true rfl) dL_law_970 ⟨Nat.le_of_ble_eq_true rfl, Nat.le_of_ble_eq_true rfl⟩ (fun r40 σ39 τ39 H locs h39 hP hS => ?_)
    obtain ⟨rfl, f41, f42, I43, h39⟩ := h39
    obtain ⟨i44, i45, i46, w47, w48, w49, w50⟩ : (0 ≤ (σ39 55 5).toInt) ∧ ((σ39 55 5).toInt ≤ (σ39 55 4).toInt) ∧ ((σ39 55 4).toInt ≤ 40) ∧ (∀ k : Nat, k < 68 → (-200) ≤ (σ39 56 k).toInt ∧ (σ39 56 k).toInt ≤ 500) ∧ (∀ k : Nat, k < 40 → 0 ≤ (σ39 57 k).toInt ∧ (σ39 57 k).toInt ≤ 67) ∧ (∀ k : Nat, k < 40 → (-200) ≤ (σ39 58 k).toInt ∧ (σ39 58 k).toInt ≤ 500) ∧ (∀ k : Nat, k < 40 → (-200) ≤ (σ39 59 k).toInt ∧ (σ39 59 k).toInt ≤ 500) := id I43
    have z51 : (σ39 55 4).toInt = (σ 55 4).toInt := (congrArg Int32.toInt (show σ39 55 4 = (σ 55 4) from ((f42 4 (by decide)).trans (congrFun (f19 55 (by decide)) 4))))
    rcases h39 with h52 | h53
    · obtain ⟨q57, k54, k55, k56⟩ := h52
      have q57 := q57.symm
      subst q57
      refine lv_pop hx hb dL_law_973 rfl ?_
      refine lv_goto (tgt := 1357) hx hb dL_law_974 (by decide) ?_
      obtain ⟨x58, ex58⟩ : ∃ y : Int32, y = x0 + 6 := ⟨_, rfl⟩
      have tx58 : x58.toInt = x0.toInt + 6 := (jadd ex58 rfl jz_6 (by omega) (by omega)).trans (by omega)
      refine lv_iinc (v := x58) (lv' := [(3, .int x58), (2, .ref (ad 55)), (1, .ref (ad 0)), (0, .ref b)]) hx hb dL_law_1357 hl (k := 0) rfl (by rw [ex58]; rfl) (by decide) rfl (fun ls hl => ?_)
      refine lv_goto (tgt := 18) hx hb dL_law_1360 (by decide) ?_
      have I59 : jI2 σ39 := jI2_fr (congrFun (f41 2 (by decide)) 0) (congrFun (f41 2 (by decide)) 1) (congrFun (f41 2 (by decide)) 2) (congrFun (f41 2 (by decide)) 3) (f41 6 (by decide)) I21
      have I60 : jI9 σ39 := jI9_fr ((congrFun (f41 9 (by decide)) 0).trans (congrFun (f19 9 (by decide)) 0)) ((f41 10 (by decide)).trans (f19 10 (by decide))) ((f41 11 (by decide)).trans (f19 11 (by decide))) hI9
      have I61 : jI12 σ39 := jI12_fr ((congrFun (f41 12 (by decide)) 0).trans (congrFun (f19 12 (by decide)) 0)) ((f41 13 (by decide)).trans (f19 13 (by decide))) hI12
      have I62 : jI16 σ39 := jI16_fr ((congrFun (f41 16 (by decide)) 0).trans (congrFun (f19 16 (by decide)) 0)) ((congrFun (f41 16 (by decide)) 1).trans (congrFun (f19 16 (by decide)) 1)) ((congrFun (f41 16 (by decide)) 2).trans (congrFun (f19 16 (by decide)) 2)) ((f41 17 (by decide)).trans (f19 17 (by decide))) hI16
      have I63 : jI18 σ39 := jI18_fr ((congrFun (f41 18 (by decide)) 0).trans (congrFun (f19 18 (by decide)) 0)) ((f41 19 (by decide)).trans (f19 19 (by decide))) hI18
      have I64 : jI22 σ39 := jI22_fr ((congrFun (f41 22 (by decide)) 0).trans (congrFun (f19 22 (by decide)) 0)) ((f41 23 (by decide)).trans (f19 23 (by decide))) hI22
      have I65 : jI31 σ39 := jI31_fr ((congrFun (f41 31 (by decide)) 8).trans (congrFun (f19 31 (by decide)) 8)) ((f41 33 (by decide)).trans (f19 33 (by decide))) ((f41 36 (by decide)).trans (f19 36 (by decide))) hI31
      have I66 : jI38 σ39 := jI38_fr ((congrFun (f41 38 (by decide)) 0).trans (congrFun (f19 38 (by decide)) 0)) ((congrFun (f41 38 (by decide)) 1).trans (congrFun (f19 38 (by decide)) 1)) ((f41 39 (by decide)).trans (f19 39 (by decide))) hI38
      have I67 : jI43 σ39 := jI43_fr ((congrFun (f41 43 (by decide)) 8).trans (congrFun (f19 43 (by decide)) 8)) hI43
      have I68 : jI47 σ39 := jI47_fr ((congrFun (f41 47 (by decide)) 0).trans (congrFun (f19 47 (by decide)) 0)) ((f41 49 (by decide)).trans (f19 49 (by decide))) hI47
      have I69 : jI50 σ39 := jI50_fr ((f41 52 (by decide)).trans (f19 52 (by decide))) hI50
      have I70 : jI102 σ39 := jI102_fr ((f42 6 (by decide)).trans (congrFun (f19 55 (by decide)) 6)) ((f41 60 (by decide)).trans (f19 60 (by decide))) ((f41 61 (by decide)).trans (f19 61 (by decide))) hI102
      have I71 : jI103 σ39 := jI103_fr ((f42 9 (by decide)).trans (congrFun (f19 55 (by decide)) 9)) hI103
      have I72 : jI104 σ39 := jI104_fr ((f42 10 (by decide)).trans (congrFun (f19 55 (by decide)) 10)) ((f42 12 (by decide)).trans (congrFun (f19 55 (by decide)) 12)) ((f42 13 (by decide)).trans (congrFun (f19 55 (by decide)) 13)) ((f41 62 (by decide)).trans (f19 62 (by decide))) ((f41 67 (by decide)).trans (f19 67 (by decide))) hI104
      have I73 : jI105 σ39 := jI105_fr ((f42 15 (by decide)).trans (congrFun (f19 55 (by decide)) 15)) ((f41 65 (by decide)).trans (f19 65 (by decide))) hI105
      have I74 : jI106 σ39 := jI106_fr ((f42 32 (by decide)).trans (congrFun (f19 55 (by decide)) 32)) ((f41 70 (by decide)).trans (f19 70 (by decide))) ((f41 71 (by decide)).trans (f19 71 (by decide))) ((f41 72 (by decide)).trans (f19 72 (by decide))) hI106
      have I75 : jI107 σ39 := jI107_fr ((f42 12 (by decide)).trans (congrFun (f19 55 (by decide)) 12)) ((f42 47 (by decide)).trans (congrFun (f19 55 (by decide)) 47)) ((f41 80 (by decide)).trans (f19 80 (by decide))) hI107
      have I76 : jI109 σ39 := jI109_fr ((f42 50 (by decide)).trans (congrFun (f19 55 (by decide)) 50)) hI109
      have I77 : jI110 σ39 := jI110_fr ((f41 86 (by decide)).trans (f19 86 (by decide))) ((f41 87 (by decide)).trans (f19 87 (by decide))) hI110
      have I78 : jI111 σ39 := jI111_fr ((f41 79 (by decide)).trans (f19 79 (by decide))) hI111
      have I79 : jI119 σ39 := jI119_fr ((f41 68 (by decide)).trans (f19 68 (by decide))) hI119
      have p80 : jKept σ39 := jKept.fr ((f41 75 (by decide)).trans (f19 75 (by decide))) ((f41 76 (by decide)).trans (f19 76 (by decide))) ((f41 77 (by decide)).trans (f19 77 (by decide))) hs_jKept
      have p81 : jBook σ39 := jBook.fr ((f42 47 (by decide)).trans (congrFun (f19 55 (by decide)) 47)) ((f42 10 (by decide)).trans (congrFun (f19 55 (by decide)) 10)) ((f41 81 (by decide)).trans (f19 81 (by decide))) hs_jBook
      have z82 : (σ39 2 0).toInt = (σ 2 0).toInt := (congrArg Int32.toInt (show σ39 2 0 = (σ 2 0) from ((congrFun (f41 2 (by decide)) 0).trans (f20 0 (by decide)))))
      have z83 : (σ39 55 6).toInt = (σ 55 6).toInt := (congrArg Int32.toInt (show σ39 55 6 = (σ 55 6) from ((f42 6 (by decide)).trans (congrFun (f19 55 (by decide)) 6))))
      have z84 : (σ39 2 2).toInt = (σ17 2 2).toInt := (congrArg Int32.toInt (show σ39 2 2 = (σ17 2 2) from (congrFun (f41 2 (by decide)) 2)))
      have z85 : (σ39 2 3).toInt = (σ17 2 3).toInt := (congrArg Int32.toInt (show σ39 2 3 = (σ17 2 3) from (congrFun (f41 2 (by decide)) 3)))
      exact ih x58 σ39 τ _ _ ls (by have h9 := tx58; omega) ⟨I59, I60, I61, I62, I63, I64, I65, I66, I67, I68, I69, I43, I70, I71, I72, I73, I74, I75, I76, I77, I78, I79, p80, p81, (by omega), (by omega), (by omega), (show jNumP (σ39 3) (σ39 56) (σ39 6) (σ39 57) (σ39 7) (σ39 58) (σ39 8) (σ39 59) (σ39 55 6).toInt (σ39 55 4).toInt by rw [show σ39 3 = σ 3 from ((f41 3 (by decide)).trans k35), show σ39 56 = σ 56 from (k56.trans (f19 56 (by decide))), show σ39 6 = σ 6 from ((f41 6 (by decide)).trans (f19 6 (by decide))), show σ39 57 = σ 57 from ((f41 57 (by decide)).trans (f19 57 (by decide))), show σ39 7 = σ 7 from ((f41 7 (by decide)).trans (f19 7 (by decide))), show σ39 58 = σ 58 from ((f41 58 (by decide)).trans (f19 58 (by decide))), show σ39 8 = σ 8 from ((f41 8 (by decide)).trans (f19 8 (by decide))), show σ39 59 = σ 59 from ((f41 59 (by decide)).trans (f19 59 (by decide))), show (σ39 55 6).toInt = (σ 55 6).toInt from by omega, show (σ39 55 4).toInt = (σ 55 4).toInt from by omega]; exact hr0)⟩ hP hS (lv_sub hl [0, 1, 2, 3] rfl)
    · obtain ⟨q91, k86, k87, k88, k89, k90⟩ := h53
      exact absurd (by omega : False) id
  · obtain ⟨q98, k92, k93, k94, k95, k96, k97⟩ := h31
    refine lv_pop hx hb dL_law_968 rfl ?_
    refine lv_aload_n hx hb dL_law_969 rfl (lv_at hl 1 rfl) ?_
    have I99 : jI101 σ17 := jI101_fr (congrFun (f19 55 (by decide)) 4) (congrFun (f19 55 (by decide)) 5) (f19 56 (by decide)) (f19 57 (by decide)) (f19 58 (by decide)) (f19 59 (by decide)) hI101
    have z100 : (σ17 55 5).toInt = (σ 55 5).toInt := (congrArg Int32.toInt (show σ17 55 5 = (σ 55 5) from (congrFun (f19 55 (by decide)) 5)))
    refine jcallV (As := []) (rest := []) ⟨hx, hb, hml, hown, hts⟩ hK hP hA hS hZ (c_X12_undo l D cI cL ad zz hJ σ17 τ I99) cw_RL_124 (jc_55 cI cL ad σ17 τ) rfl ⟨Nat.le_of_ble_eq_true rfl, Nat.le_of_ble_eq_true rfl⟩ rfl rfl rfl hl.1 rfl (Nat.le_of_ble_eq_true rfl) dL_law_970 ⟨Nat.le_of_ble_eq_true rfl, Nat.le_of_ble_eq_true rfl⟩ (fun r102 σ101 τ101 H locs h101 hP hS => ?_)
    obtain ⟨rfl, f103, f104, I105, h101⟩ := h101
    obtain ⟨i106, i107, i108, w109, w110, w111, w112⟩ : (0 ≤ (σ101 55 5).toInt) ∧ ((σ101 55 5).toInt ≤ (σ101 55 4).toInt) ∧ ((σ101 55 4).toInt ≤ 40) ∧ (∀ k : Nat, k < 68 → (-200) ≤ (σ101 56 k).toInt ∧ (σ101 56 k).toInt ≤ 500) ∧ (∀ k : Nat, k < 40 → 0 ≤ (σ101 57 k).toInt ∧ (σ101 57 k).toInt ≤ 67) ∧ (∀ k : Nat, k < 40 → (-200) ≤ (σ101 58 k).toInt ∧ (σ101 58 k).toInt ≤ 500) ∧ (∀ k : Nat, k < 40 → (-200) ≤ (σ101 59 k).toInt ∧ (σ101 59 k).toInt ≤ 500) := id I105
    have z113 : (σ101 55 4).toInt = (σ 55 4).toInt := (congrArg Int32.toInt (show σ101 55 4 = (σ 55 4) from ((f104 4 (by decide)).trans (congrFun (f19 55 (by decide)) 4))))
    rcases h101 with h114 | h115
    · obtain ⟨q119, k116, k117, k118⟩ := h114
      exact absurd (by omega : False) id
    · obtain ⟨q125, k120, k121, k122, k123, k124⟩ := h115
      refine lv_pop hx hb dL_law_973 rfl ?_
      refine lv_goto (tgt := 1357) hx hb dL_law_974 (by decide) ?_
      obtain ⟨x126, ex126⟩ : ∃ y : Int32, y = x0 + 6 := ⟨_, rfl⟩
      have tx126 : x126.toInt = x0.toInt + 6 := (jadd ex126 rfl jz_6 (by omega) (by omega)).trans (by omega)
      refine lv_iinc (v := x126) (lv' := [(3, .int x126), (2, .ref (ad 55)), (1, .ref (ad 0)), (0, .ref b)]) hx hb dL_law_1357 hl (k := 0) rfl (by rw [ex126]; rfl) (by decide) rfl (fun ls hl => ?_)
      refine lv_goto (tgt := 18) hx hb dL_law_1360 (by decide) ?_
      have I127 : jI2 σ101 := jI2_fr (congrFun (f103 2 (by decide)) 0) (congrFun (f103 2 (by decide)) 1) (congrFun (f103 2 (by decide)) 2) (congrFun (f103 2 (by decide)) 3) (f103 6 (by decide)) I21
      have I128 : jI9 σ101 := jI9_fr ((congrFun (f103 9 (by decide)) 0).trans (congrFun (f19 9 (by decide)) 0)) ((f103 10 (by decide)).trans (f19 10 (by decide))) ((f103 11 (by decide)).trans (f19 11 (by decide))) hI9
      have I129 : jI12 σ101 := jI12_fr ((congrFun (f103 12 (by decide)) 0).trans (congrFun (f19 12 (by decide)) 0)) ((f103 13 (by decide)).trans (f19 13 (by decide))) hI12
      have I130 : jI16 σ101 := jI16_fr ((congrFun (f103 16 (by decide)) 0).trans (congrFun (f19 16 (by decide)) 0)) ((congrFun (f103 16 (by decide)) 1).trans (congrFun (f19 16 (by decide)) 1)) ((congrFun (f103 16 (by decide)) 2).trans (congrFun (f19 16 (by decide)) 2)) ((f103 17 (by decide)).trans (f19 17 (by decide))) hI16
      have I131 : jI18 σ101 := jI18_fr ((congrFun (f103 18 (by decide)) 0).trans (congrFun (f19 18 (by decide)) 0)) ((f103 19 (by decide)).trans (f19 19 (by decide))) hI18
      have I132 : jI22 σ101 := jI22_fr ((congrFun (f103 22 (by decide)) 0).trans (congrFun (f19 22 (by decide)) 0)) ((f103 23 (by decide)).trans (f19 23 (by decide))) hI22
      have I133 : jI31 σ101 := jI31_fr ((congrFun (f103 31 (by decide)) 8).trans (congrFun (f19 31 (by decide)) 8)) ((f103 33 (by decide)).trans (f19 33 (by decide))) ((f103 36 (by decide)).trans (f19 36 (by decide))) hI31
      have I134 : jI38 σ101 := jI38_fr ((congrFun (f103 38 (by decide)) 0).trans (congrFun (f19 38 (by decide)) 0)) ((congrFun (f103 38 (by decide)) 1).trans (congrFun (f19 38 (by decide)) 1)) ((f103 39 (by decide)).trans (f19 39 (by decide))) hI38
      have I135 : jI43 σ101 := jI43_fr ((congrFun (f103 43 (by decide)) 8).trans (congrFun (f19 43 (by decide)) 8)) hI43
      have I136 : jI47 σ101 := jI47_fr ((congrFun (f103 47 (by decide)) 0).trans (congrFun (f19 47 (by decide)) 0)) ((f103 49 (by decide)).trans (f19 49 (by decide))) hI47
      have I137 : jI50 σ101 := jI50_fr ((f103 52 (by decide)).trans (f19 52 (by decide))) hI50
      have I138 : jI102 σ101 := jI102_fr ((f104 6 (by decide)).trans (congrFun (f19 55 (by decide)) 6)) ((f103 60 (by decide)).trans (f19 60 (by decide))) ((f103 61 (by decide)).trans (f19 61 (by decide))) hI102
      have I139 : jI103 σ101 := jI103_fr ((f104 9 (by decide)).trans (congrFun (f19 55 (by decide)) 9)) hI103
      have I140 : jI104 σ101 := jI104_fr ((f104 10 (by decide)).trans (congrFun (f19 55 (by decide)) 10)) ((f104 12 (by decide)).trans (congrFun (f19 55 (by decide)) 12)) ((f104 13 (by decide)).trans (congrFun (f19 55 (by decide)) 13)) ((f103 62 (by decide)).trans (f19 62 (by decide))) ((f103 67 (by decide)).trans (f19 67 (by decide))) hI104
      have I141 : jI105 σ101 := jI105_fr ((f104 15 (by decide)).trans (congrFun (f19 55 (by decide)) 15)) ((f103 65 (by decide)).trans (f19 65 (by decide))) hI105
      have I142 : jI106 σ101 := jI106_fr ((f104 32 (by decide)).trans (congrFun (f19 55 (by decide)) 32)) ((f103 70 (by decide)).trans (f19 70 (by decide))) ((f103 71 (by decide)).trans (f19 71 (by decide))) ((f103 72 (by decide)).trans (f19 72 (by decide))) hI106
      have I143 : jI107 σ101 := jI107_fr ((f104 12 (by decide)).trans (congrFun (f19 55 (by decide)) 12)) ((f104 47 (by decide)).trans (congrFun (f19 55 (by decide)) 47)) ((f103 80 (by decide)).trans (f19 80 (by decide))) hI107
      have I144 : jI109 σ101 := jI109_fr ((f104 50 (by decide)).trans (congrFun (f19 55 (by decide)) 50)) hI109
      have I145 : jI110 σ101 := jI110_fr ((f103 86 (by decide)).trans (f19 86 (by decide))) ((f103 87 (by decide)).trans (f19 87 (by decide))) hI110
      have I146 : jI111 σ101 := jI111_fr ((f103 79 (by decide)).trans (f19 79 (by decide))) hI111
      have I147 : jI119 σ101 := jI119_fr ((f103 68 (by decide)).trans (f19 68 (by decide))) hI119
      have p148 : jKept σ101 := jKept.fr ((f103 75 (by decide)).trans (f19 75 (by decide))) ((f103 76 (by decide)).trans (f19 76 (by decide))) ((f103 77 (by decide)).trans (f19 77 (by decide))) hs_jKept
      have p149 : jBook σ101 := jBook.fr ((f104 47 (by decide)).trans (congrFun (f19 55 (by decide)) 47)) ((f104 10 (by decide)).trans (congrFun (f19 55 (by decide)) 10)) ((f103 81 (by decide)).trans (f19 81 (by decide))) hs_jBook
      have z150 : (σ101 2 0).toInt = (σ 2 0).toInt := (congrArg Int32.toInt (show σ101 2 0 = (σ 2 0) from ((congrFun (f103 2 (by decide)) 0).trans (f20 0 (by decide)))))
      have z151 : (σ101 55 6).toInt = (σ 55 6).toInt := (congrArg Int32.toInt (show σ101 55 6 = (σ 55 6) from ((f104 6 (by decide)).trans (congrFun (f19 55 (by decide)) 6))))
      have z152 : (σ101 2 2).toInt = (σ17 2 2).toInt := (congrArg Int32.toInt (show σ101 2 2 = (σ17 2 2) from (congrFun (f103 2 (by decide)) 2)))
      have z153 : (σ101 2 3).toInt = (σ17 2 3).toInt := (congrArg Int32.toInt (show σ101 2 3 = (σ17 2 3) from (congrFun (f103 2 (by decide)) 3)))
      rw [show r18.toInt = ((σ 55 5).toInt - 1) from by omega] at k97
      rw [show r102.toInt = ((σ 55 5).toInt - 1) from by omega, show σ17 56 = σ 56 from (f19 56 (by decide)), show σ17 57 = σ 57 from (f19 57 (by decide)), show σ17 58 = σ 58 from (f19 58 (by decide))] at k124
      have p154 := hr0.back (by omega) (by omega) k97 k124
      exact ih x126 σ101 τ _ _ ls (by have h9 := tx126; omega) ⟨I127, I128, I129, I130, I131, I132, I133, I134, I135, I136, I137, I105, I138, I139, I140, I141, I142, I143, I144, I145, I146, I147, p148, p149, (by omega), (by omega), (by omega), (show jNumP (σ101 3) (σ101 56) (σ101 6) (σ101 57) (σ101 7) (σ101 58) (σ101 8) (σ101 59) (σ101 55 6).toInt (σ101 55 4).toInt by rw [show σ101 3 = σ17 3 from (f103 3 (by decide)), show σ101 6 = σ 6 from ((f103 6 (by decide)).trans (f19 6 (by decide))), show σ101 57 = σ 57 from ((f103 57 (by decide)).trans (f19 57 (by decide))), show σ101 7 = σ 7 from ((f103 7 (by decide)).trans (f19 7 (by decide))), show σ101 58 = σ 58 from ((f103 58 (by decide)).trans (f19 58 (by decide))), show σ101 8 = σ 8 from ((f103 8 (by decide)).trans (f19 8 (by decide))), show σ101 59 = σ 59 from ((f103 59 (by decide)).trans (f19 59 (by decide))), show (σ101 55 6).toInt = (σ 55 6).toInt from by omega, show (σ101 55 4).toInt = (σ 55 4).toInt from by omega]; exact p154)⟩ hP hS (lv_sub hl [0, 1, 2, 3] rfl)
set_option maxHeartbeats 4000000 in
set_option maxRecDepth 100000 in
theorem law_case_27 {p : Program} {e : Env} {s : State} {m : MethodId} {below : List Frame} {meth : Method} {c : Code} (l : Launch) {b L : Nat} {xs : Nat → Int32} {D : va_G} {cI cL : ClassId} {ad zz : Nat → Nat} (C0 : lw_At p s m meth c b L xs) (hJ : jD ad) (hA : ∀ q, jA ad q → s.heap.size ≤ q) (hK : jK D cI cL s) (hZ : jZ zz (fun q : Nat => s.heap.size ≤ q) s s.heap) {x0 : Int32} (hx0 : 0 ≤ x0.toInt) (hxL : x0.toInt + 6 ≤ (L : Int)) (hL : L ≤ 384) {σ : Nat → Nat → Int32} {τ : Nat → Nat → Int64} {H : Heap} {locs : List Loc} (hS : va_S (fun q : Nat => s.heap.size ≤ q) s.heap H locs) {ls : Array Slot} (hAll : jAll σ τ) (hP : jH D cI cL ad σ τ H) (hl : lv_has ls 4 [(3, .int x0), (2, .ref (ad 55)), (1, .ref (ad 0)), (0, .ref b)]) (ih : ∀ (x1 : Int32) (σ : Nat → Nat → Int32) (τ : Nat → Nat → Int64) (H : Heap) (locs : List Loc) (ls : Array Slot), x1.toInt = x0.toInt + 6 → jAll σ τ → jH D cI cL ad σ τ H → va_S (fun q : Nat => s.heap.size ≤ q) s.heap H locs → lv_has ls 4 [(3, .int x1), (2, .ref (ad 55)), (1, .ref (ad 0)), (0, .ref b)] → W p l e room_1 s m #[Value.ref b] below meth c H locs 90 348600 (lw_Z below #[Value.ref b] s) (F0 m 18 ls [])) : W p l e room_1 s m #[Value.ref b] below meth c H locs 90 348600 (lw_Z below #[Value.ref b] s) (F0 m 977 ls []) := by
  obtain ⟨hx, hb, hr, hml, hown, hts0, hX, hbl, hlocks, hgv⟩ := C0
  have hts : ∀ w ∈ wsL_law, w.before #[Value.ref b] s = true := fun w h => hts0 w (wsL_law_in w h)
  have hbA : ¬ (fun q : Nat => s.heap.size ≤ q) b := Nat.not_le.mpr hbl
  have hown : s.vm.findClass RL = some m.cls := hown
  obtain ⟨hI2, hI9, hI12, hI16, hI18, hI22, hI31, hI38, hI43, hI47, hI50, hI101, hI102, hI103, hI104, hI105, hI106, hI107, hI109, hI110, hI111, hI119, hs_jKept, hs_jBook, ht0, ht1, ht2, hr0⟩ := hAll
  have hL9 : (L : Int) ≤ 384 := by omega
  obtain ⟨i1, i2, i3, i4, i5, w6⟩ : (0 ≤ (σ 2 0).toInt ∧ (σ 2 0).toInt ≤ 4) ∧ (0 ≤ (σ 2 1).toInt ∧ (σ 2 1).toInt ≤ 3) ∧ (0 ≤ (σ 2 2).toInt) ∧ (0 ≤ (σ 2 3).toInt) ∧ ((σ 2 2).toInt + (σ 2 3).toInt ≤ 40) ∧ (∀ k : Nat, k < 40 → 0 ≤ (σ 6 k).toInt ∧ (σ 6 k).toInt ≤ 67) := id hI2
  obtain ⟨i7, i8, i9, w10, w11, w12, w13⟩ : (0 ≤ (σ 55 5).toInt) ∧ ((σ 55 5).toInt ≤ (σ 55 4).toInt) ∧ ((σ 55 4).toInt ≤ 40) ∧ (∀ k : Nat, k < 68 → (-200) ≤ (σ 56 k).toInt ∧ (σ 56 k).toInt ≤ 500) ∧ (∀ k : Nat, k < 40 → 0 ≤ (σ 57 k).toInt ∧ (σ 57 k).toInt ≤ 67) ∧ (∀ k : Nat, k < 40 → (-200) ≤ (σ 58 k).toInt ∧ (σ 58 k).toInt ≤ 500) ∧ (∀ k : Nat, k < 40 → (-200) ≤ (σ 59 k).toInt ∧ (σ 59 k).toInt ≤ 500) := id hI101
  obtain ⟨i14, w15, w16⟩ : (0 ≤ (σ 55 6).toInt ∧ (σ 55 6).toInt ≤ 4) ∧ (∀ k : Nat, k < 4 → 0 ≤ (σ 60 k).toInt ∧ (σ 60 k).toInt ≤ 50) ∧ (∀ k : Nat, k < 4 → 0 ≤ (σ 61 k).toInt ∧ (σ 61 k).toInt ≤ 20) := id hI102
  refine lv_aload_n hx hb dL_law_977 rfl (lv_at hl 2 rfl) ?_
  refine jcallV (As := []) (rest := []) ⟨hx, hb, hml, hown, hts⟩ hK hP hA hS hZ (c_X11_redo l D cI cL ad zz hJ σ τ hI2) cw_RL_125 (jc_0 cI cL ad σ τ) rfl ⟨Nat.le_of_ble_eq_true rfl, Nat.le_of_ble_eq_true rfl⟩ rfl rfl rfl hl.1 rfl (Nat.le_of_ble_eq_true rfl) dL_law_978 ⟨Nat.le_of_ble_eq_true rfl, Nat.le_of_ble_eq_true rfl⟩ (fun r18 σ17 τ17 H locs h17 hP hS => ?_)
  obtain ⟨rfl, f19, f20, I21, h17⟩ := h17
  obtain ⟨i22, i23, i24, i25, i26, w27⟩ : (0 ≤ (σ17 2 0).toInt ∧ (σ17 2 0).toInt ≤ 4) ∧ (0 ≤ (σ17 2 1).toInt ∧ (σ17 2 1).toInt ≤ 3) ∧ (0 ≤ (σ17 2 2).toInt) ∧ (0 ≤ (σ17 2 3).toInt) ∧ ((σ17 2 2).toInt + (σ17 2 3).toInt ≤ 40) ∧ (∀ k : Nat, k < 40 → 0 ≤ (σ17 6 k).toInt ∧ (σ17 6 k).toInt ≤ 67) := id I21
  have z28 : (σ17 2 0).toInt = (σ 2 0).toInt := (congrArg Int32.toInt (show σ17 2 0 = (σ 2 0) from (f20 0 (by decide))))
  have z29 : (σ17 2 1).toInt = (σ 2 1).toInt := (congrArg Int32.toInt (show σ17 2 1 = (σ 2 1) from (f20 1 (by decide))))
  rcases h17 with h30 | h31
  · obtain ⟨q36, k32, k33, k34, k35⟩ := h30
    have q36 := q36.symm
    subst q36
    refine lv_pop hx hb dL_law_981 rfl ?_
    refine lv_aload_n hx hb dL_law_982 rfl (lv_at hl 1 rfl) ?_
    have I37 : jI101 σ17 := jI101_fr (congrFun (f19 55 (by decide)) 4) (congrFun (f19 55 (by decide)) 5) (f19 56 (by decide)) (f19 57 (by decide)) (f19 58 (by decide)) (f19 59 (by decide)) hI101
    have z38 : (σ17 55 5).toInt = (σ 55 5).toInt := (congrArg Int32.toInt (show σ17 55 5 = (σ 55 5) from (congrFun (f19 55 (by decide)) 5)))
    have z39 : (σ17 55 4).toInt = (σ 55 4).toInt := (congrArg Int32.toInt (show σ17 55 4 = (σ 55 4) from (congrFun (f19 55 (by decide)) 4)))
    refine jcallV (As := []) (rest := []) ⟨hx, hb, hml, hown, hts⟩ hK hP hA hS hZ (c_X12_redo l D cI cL ad zz hJ σ17 τ I37) cw_RL_128 (jc_55 cI cL ad σ17 τ) rfl ⟨Nat.le_of_ble_eq_true rfl, Nat.le_of_ble_eq_true rfl⟩ rfl rfl rfl hl.1 rfl (Nat.le_of_ble_eq_true rfl) dL_law_983 ⟨Nat.le_of_ble_eq_true rfl, Nat.le_of_ble_eq_true rfl⟩ (fun r41 σ40 τ40 H locs h40 hP hS => ?_)
    obtain ⟨rfl, f42, f43, I44, h40⟩ := h40
    obtain ⟨i45, i46, i47, w48, w49, w50, w51⟩ : (0 ≤ (σ40 55 5).toInt) ∧ ((σ40 55 5).toInt ≤ (σ40 55 4).toInt) ∧ ((σ40 55 4).toInt ≤ 40) ∧ (∀ k : Nat, k < 68 → (-200) ≤ (σ40 56 k).toInt ∧ (σ40 56 k).toInt ≤ 500) ∧ (∀ k : Nat, k < 40 → 0 ≤ (σ40 57 k).toInt ∧ (σ40 57 k).toInt ≤ 67) ∧ (∀ k : Nat, k < 40 → (-200) ≤ (σ40 58 k).toInt ∧ (σ40 58 k).toInt ≤ 500) ∧ (∀ k : Nat, k < 40 → (-200) ≤ (σ40 59 k).toInt ∧ (σ40 59 k).toInt ≤ 500) := id I44
    have z52 : (σ40 55 4).toInt = (σ 55 4).toInt := (congrArg Int32.toInt (show σ40 55 4 = (σ 55 4) from ((f43 4 (by decide)).trans (congrFun (f19 55 (by decide)) 4))))
    rcases h40 with h53 | h54
    · obtain ⟨q58, k55, k56, k57⟩ := h53
      have q58 := q58.symm
      subst q58
      refine lv_pop hx hb dL_law_986 rfl ?_
      refine lv_goto (tgt := 1357) hx hb dL_law_987 (by decide) ?_
      obtain ⟨x59, ex59⟩ : ∃ y : Int32, y = x0 + 6 := ⟨_, rfl⟩
      have tx59 : x59.toInt = x0.toInt + 6 := (jadd ex59 rfl jz_6 (by omega) (by omega)).trans (by omega)
      refine lv_iinc (v := x59) (lv' := [(3, .int x59), (2, .ref (ad 55)), (1, .ref (ad 0)), (0, .ref b)]) hx hb dL_law_1357 hl (k := 0) rfl (by rw [ex59]; rfl) (by decide) rfl (fun ls hl => ?_)
      refine lv_goto (tgt := 18) hx hb dL_law_1360 (by decide) ?_
      have I60 : jI2 σ40 := jI2_fr (congrFun (f42 2 (by decide)) 0) (congrFun (f42 2 (by decide)) 1) (congrFun (f42 2 (by decide)) 2) (congrFun (f42 2 (by decide)) 3) (f42 6 (by decide)) I21
      have I61 : jI9 σ40 := jI9_fr ((congrFun (f42 9 (by decide)) 0).trans (congrFun (f19 9 (by decide)) 0)) ((f42 10 (by decide)).trans (f19 10 (by decide))) ((f42 11 (by decide)).trans (f19 11 (by decide))) hI9
      have I62 : jI12 σ40 := jI12_fr ((congrFun (f42 12 (by decide)) 0).trans (congrFun (f19 12 (by decide)) 0)) ((f42 13 (by decide)).trans (f19 13 (by decide))) hI12
      have I63 : jI16 σ40 := jI16_fr ((congrFun (f42 16 (by decide)) 0).trans (congrFun (f19 16 (by decide)) 0)) ((congrFun (f42 16 (by decide)) 1).trans (congrFun (f19 16 (by decide)) 1)) ((congrFun (f42 16 (by decide)) 2).trans (congrFun (f19 16 (by decide)) 2)) ((f42 17 (by decide)).trans (f19 17 (by decide))) hI16
      have I64 : jI18 σ40 := jI18_fr ((congrFun (f42 18 (by decide)) 0).trans (congrFun (f19 18 (by decide)) 0)) ((f42 19 (by decide)).trans (f19 19 (by decide))) hI18
      have I65 : jI22 σ40 := jI22_fr ((congrFun (f42 22 (by decide)) 0).trans (congrFun (f19 22 (by decide)) 0)) ((f42 23 (by decide)).trans (f19 23 (by decide))) hI22
      have I66 : jI31 σ40 := jI31_fr ((congrFun (f42 31 (by decide)) 8).trans (congrFun (f19 31 (by decide)) 8)) ((f42 33 (by decide)).trans (f19 33 (by decide))) ((f42 36 (by decide)).trans (f19 36 (by decide))) hI31
      have I67 : jI38 σ40 := jI38_fr ((congrFun (f42 38 (by decide)) 0).trans (congrFun (f19 38 (by decide)) 0)) ((congrFun (f42 38 (by decide)) 1).trans (congrFun (f19 38 (by decide)) 1)) ((f42 39 (by decide)).trans (f19 39 (by decide))) hI38
      have I68 : jI43 σ40 := jI43_fr ((congrFun (f42 43 (by decide)) 8).trans (congrFun (f19 43 (by decide)) 8)) hI43
      have I69 : jI47 σ40 := jI47_fr ((congrFun (f42 47 (by decide)) 0).trans (congrFun (f19 47 (by decide)) 0)) ((f42 49 (by decide)).trans (f19 49 (by decide))) hI47
      have I70 : jI50 σ40 := jI50_fr ((f42 52 (by decide)).trans (f19 52 (by decide))) hI50
      have I71 : jI102 σ40 := jI102_fr ((f43 6 (by decide)).trans (congrFun (f19 55 (by decide)) 6)) ((f42 60 (by decide)).trans (f19 60 (by decide))) ((f42 61 (by decide)).trans (f19 61 (by decide))) hI102
      have I72 : jI103 σ40 := jI103_fr ((f43 9 (by decide)).trans (congrFun (f19 55 (by decide)) 9)) hI103
      have I73 : jI104 σ40 := jI104_fr ((f43 10 (by decide)).trans (congrFun (f19 55 (by decide)) 10)) ((f43 12 (by decide)).trans (congrFun (f19 55 (by decide)) 12)) ((f43 13 (by decide)).trans (congrFun (f19 55 (by decide)) 13)) ((f42 62 (by decide)).trans (f19 62 (by decide))) ((f42 67 (by decide)).trans (f19 67 (by decide))) hI104
      have I74 : jI105 σ40 := jI105_fr ((f43 15 (by decide)).trans (congrFun (f19 55 (by decide)) 15)) ((f42 65 (by decide)).trans (f19 65 (by decide))) hI105
      have I75 : jI106 σ40 := jI106_fr ((f43 32 (by decide)).trans (congrFun (f19 55 (by decide)) 32)) ((f42 70 (by decide)).trans (f19 70 (by decide))) ((f42 71 (by decide)).trans (f19 71 (by decide))) ((f42 72 (by decide)).trans (f19 72 (by decide))) hI106
      have I76 : jI107 σ40 := jI107_fr ((f43 12 (by decide)).trans (congrFun (f19 55 (by decide)) 12)) ((f43 47 (by decide)).trans (congrFun (f19 55 (by decide)) 47)) ((f42 80 (by decide)).trans (f19 80 (by decide))) hI107
      have I77 : jI109 σ40 := jI109_fr ((f43 50 (by decide)).trans (congrFun (f19 55 (by decide)) 50)) hI109
      have I78 : jI110 σ40 := jI110_fr ((f42 86 (by decide)).trans (f19 86 (by decide))) ((f42 87 (by decide)).trans (f19 87 (by decide))) hI110
      have I79 : jI111 σ40 := jI111_fr ((f42 79 (by decide)).trans (f19 79 (by decide))) hI111
      have I80 : jI119 σ40 := jI119_fr ((f42 68 (by decide)).trans (f19 68 (by decide))) hI119
      have p81 : jKept σ40 := jKept.fr ((f42 75 (by decide)).trans (f19 75 (by decide))) ((f42 76 (by decide)).trans (f19 76 (by decide))) ((f42 77 (by decide)).trans (f19 77 (by decide))) hs_jKept
      have p82 : jBook σ40 := jBook.fr ((f43 47 (by decide)).trans (congrFun (f19 55 (by decide)) 47)) ((f43 10 (by decide)).trans (congrFun (f19 55 (by decide)) 10)) ((f42 81 (by decide)).trans (f19 81 (by decide))) hs_jBook
      have z83 : (σ40 2 0).toInt = (σ 2 0).toInt := (congrArg Int32.toInt (show σ40 2 0 = (σ 2 0) from ((congrFun (f42 2 (by decide)) 0).trans (f20 0 (by decide)))))
      have z84 : (σ40 55 6).toInt = (σ 55 6).toInt := (congrArg Int32.toInt (show σ40 55 6 = (σ 55 6) from ((f43 6 (by decide)).trans (congrFun (f19 55 (by decide)) 6))))
      have z85 : (σ40 2 2).toInt = (σ17 2 2).toInt := (congrArg Int32.toInt (show σ40 2 2 = (σ17 2 2) from (congrFun (f42 2 (by decide)) 2)))
      have z86 : (σ40 2 3).toInt = (σ17 2 3).toInt := (congrArg Int32.toInt (show σ40 2 3 = (σ17 2 3) from (congrFun (f42 2 (by decide)) 3)))
      exact ih x59 σ40 τ _ _ ls (by have h9 := tx59; omega) ⟨I60, I61, I62, I63, I64, I65, I66, I67, I68, I69, I70, I44, I71, I72, I73, I74, I75, I76, I77, I78, I79, I80, p81, p82, (by omega), (by omega), (by omega), (show jNumP (σ40 3) (σ40 56) (σ40 6) (σ40 57) (σ40 7) (σ40 58) (σ40 8) (σ40 59) (σ40 55 6).toInt (σ40 55 4).toInt by rw [show σ40 3 = σ 3 from ((f42 3 (by decide)).trans k35), show σ40 56 = σ 56 from (k57.trans (f19 56 (by decide))), show σ40 6 = σ 6 from ((f42 6 (by decide)).trans (f19 6 (by decide))), show σ40 57 = σ 57 from ((f42 57 (by decide)).trans (f19 57 (by decide))), show σ40 7 = σ 7 from ((f42 7 (by decide)).trans (f19 7 (by decide))), show σ40 58 = σ 58 from ((f42 58 (by decide)).trans (f19 58 (by decide))), show σ40 8 = σ 8 from ((f42 8 (by decide)).trans (f19 8 (by decide))), show σ40 59 = σ 59 from ((f42 59 (by decide)).trans (f19 59 (by decide))), show (σ40 55 6).toInt = (σ 55 6).toInt from by omega, show (σ40 55 4).toInt = (σ 55 4).toInt from by omega]; exact hr0)⟩ hP hS (lv_sub hl [0, 1, 2, 3] rfl)
    · obtain ⟨q92, k87, k88, k89, k90, k91⟩ := h54
      exact absurd (by omega : False) id
  · obtain ⟨q99, k93, k94, k95, k96, k97, k98⟩ := h31
    refine lv_pop hx hb dL_law_981 rfl ?_
    refine lv_aload_n hx hb dL_law_982 rfl (lv_at hl 1 rfl) ?_
    have I100 : jI101 σ17 := jI101_fr (congrFun (f19 55 (by decide)) 4) (congrFun (f19 55 (by decide)) 5) (f19 56 (by decide)) (f19 57 (by decide)) (f19 58 (by decide)) (f19 59 (by decide)) hI101
    have z101 : (σ17 55 5).toInt = (σ 55 5).toInt := (congrArg Int32.toInt (show σ17 55 5 = (σ 55 5) from (congrFun (f19 55 (by decide)) 5)))
    have z102 : (σ17 55 4).toInt = (σ 55 4).toInt := (congrArg Int32.toInt (show σ17 55 4 = (σ 55 4) from (congrFun (f19 55 (by decide)) 4)))
    refine jcallV (As := []) (rest := []) ⟨hx, hb, hml, hown, hts⟩ hK hP hA hS hZ (c_X12_redo l D cI cL ad zz hJ σ17 τ I100) cw_RL_128 (jc_55 cI cL ad σ17 τ) rfl ⟨Nat.le_of_ble_eq_true rfl, Nat.le_of_ble_eq_true rfl⟩ rfl rfl rfl hl.1 rfl (Nat.le_of_ble_eq_true rfl) dL_law_983 ⟨Nat.le_of_ble_eq_true rfl, Nat.le_of_ble_eq_true rfl⟩ (fun r104 σ103 τ103 H locs h103 hP hS => ?_)
    obtain ⟨rfl, f105, f106, I107, h103⟩ := h103
    obtain ⟨i108, i109, i110, w111, w112, w113, w114⟩ : (0 ≤ (σ103 55 5).toInt) ∧ ((σ103 55 5).toInt ≤ (σ103 55 4).toInt) ∧ ((σ103 55 4).toInt ≤ 40) ∧ (∀ k : Nat, k < 68 → (-200) ≤ (σ103 56 k).toInt ∧ (σ103 56 k).toInt ≤ 500) ∧ (∀ k : Nat, k < 40 → 0 ≤ (σ103 57 k).toInt ∧ (σ103 57 k).toInt ≤ 67) ∧ (∀ k : Nat, k < 40 → (-200) ≤ (σ103 58 k).toInt ∧ (σ103 58 k).toInt ≤ 500) ∧ (∀ k : Nat, k < 40 → (-200) ≤ (σ103 59 k).toInt ∧ (σ103 59 k).toInt ≤ 500) := id I107
    have z115 : (σ103 55 4).toInt = (σ 55 4).toInt := (congrArg Int32.toInt (show σ103 55 4 = (σ 55 4) from ((f106 4 (by decide)).trans (congrFun (f19 55 (by decide)) 4))))
    rcases h103 with h116 | h117
    · obtain ⟨q121, k118, k119, k120⟩ := h116
      exact absurd (by omega : False) id
    · obtain ⟨q127, k122, k123, k124, k125, k126⟩ := h117
      refine lv_pop hx hb dL_law_986 rfl ?_
      refine lv_goto (tgt := 1357) hx hb dL_law_987 (by decide) ?_
      obtain ⟨x128, ex128⟩ : ∃ y : Int32, y = x0 + 6 := ⟨_, rfl⟩
      have tx128 : x128.toInt = x0.toInt + 6 := (jadd ex128 rfl jz_6 (by omega) (by omega)).trans (by omega)
      refine lv_iinc (v := x128) (lv' := [(3, .int x128), (2, .ref (ad 55)), (1, .ref (ad 0)), (0, .ref b)]) hx hb dL_law_1357 hl (k := 0) rfl (by rw [ex128]; rfl) (by decide) rfl (fun ls hl => ?_)
      refine lv_goto (tgt := 18) hx hb dL_law_1360 (by decide) ?_
      have I129 : jI2 σ103 := jI2_fr (congrFun (f105 2 (by decide)) 0) (congrFun (f105 2 (by decide)) 1) (congrFun (f105 2 (by decide)) 2) (congrFun (f105 2 (by decide)) 3) (f105 6 (by decide)) I21
      have I130 : jI9 σ103 := jI9_fr ((congrFun (f105 9 (by decide)) 0).trans (congrFun (f19 9 (by decide)) 0)) ((f105 10 (by decide)).trans (f19 10 (by decide))) ((f105 11 (by decide)).trans (f19 11 (by decide))) hI9
      have I131 : jI12 σ103 := jI12_fr ((congrFun (f105 12 (by decide)) 0).trans (congrFun (f19 12 (by decide)) 0)) ((f105 13 (by decide)).trans (f19 13 (by decide))) hI12
      have I132 : jI16 σ103 := jI16_fr ((congrFun (f105 16 (by decide)) 0).trans (congrFun (f19 16 (by decide)) 0)) ((congrFun (f105 16 (by decide)) 1).trans (congrFun (f19 16 (by decide)) 1)) ((congrFun (f105 16 (by decide)) 2).trans (congrFun (f19 16 (by decide)) 2)) ((f105 17 (by decide)).trans (f19 17 (by decide))) hI16
      have I133 : jI18 σ103 := jI18_fr ((congrFun (f105 18 (by decide)) 0).trans (congrFun (f19 18 (by decide)) 0)) ((f105 19 (by decide)).trans (f19 19 (by decide))) hI18
      have I134 : jI22 σ103 := jI22_fr ((congrFun (f105 22 (by decide)) 0).trans (congrFun (f19 22 (by decide)) 0)) ((f105 23 (by decide)).trans (f19 23 (by decide))) hI22
      have I135 : jI31 σ103 := jI31_fr ((congrFun (f105 31 (by decide)) 8).trans (congrFun (f19 31 (by decide)) 8)) ((f105 33 (by decide)).trans (f19 33 (by decide))) ((f105 36 (by decide)).trans (f19 36 (by decide))) hI31
      have I136 : jI38 σ103 := jI38_fr ((congrFun (f105 38 (by decide)) 0).trans (congrFun (f19 38 (by decide)) 0)) ((congrFun (f105 38 (by decide)) 1).trans (congrFun (f19 38 (by decide)) 1)) ((f105 39 (by decide)).trans (f19 39 (by decide))) hI38
      have I137 : jI43 σ103 := jI43_fr ((congrFun (f105 43 (by decide)) 8).trans (congrFun (f19 43 (by decide)) 8)) hI43
      have I138 : jI47 σ103 := jI47_fr ((congrFun (f105 47 (by decide)) 0).trans (congrFun (f19 47 (by decide)) 0)) ((f105 49 (by decide)).trans (f19 49 (by decide))) hI47
      have I139 : jI50 σ103 := jI50_fr ((f105 52 (by decide)).trans (f19 52 (by decide))) hI50
      have I140 : jI102 σ103 := jI102_fr ((f106 6 (by decide)).trans (congrFun (f19 55 (by decide)) 6)) ((f105 60 (by decide)).trans (f19 60 (by decide))) ((f105 61 (by decide)).trans (f19 61 (by decide))) hI102
      have I141 : jI103 σ103 := jI103_fr ((f106 9 (by decide)).trans (congrFun (f19 55 (by decide)) 9)) hI103
      have I142 : jI104 σ103 := jI104_fr ((f106 10 (by decide)).trans (congrFun (f19 55 (by decide)) 10)) ((f106 12 (by decide)).trans (congrFun (f19 55 (by decide)) 12)) ((f106 13 (by decide)).trans (congrFun (f19 55 (by decide)) 13)) ((f105 62 (by decide)).trans (f19 62 (by decide))) ((f105 67 (by decide)).trans (f19 67 (by decide))) hI104
      have I143 : jI105 σ103 := jI105_fr ((f106 15 (by decide)).trans (congrFun (f19 55 (by decide)) 15)) ((f105 65 (by decide)).trans (f19 65 (by decide))) hI105
      have I144 : jI106 σ103 := jI106_fr ((f106 32 (by decide)).trans (congrFun (f19 55 (by decide)) 32)) ((f105 70 (by decide)).trans (f19 70 (by decide))) ((f105 71 (by decide)).trans (f19 71 (by decide))) ((f105 72 (by decide)).trans (f19 72 (by decide))) hI106
      have I145 : jI107 σ103 := jI107_fr ((f106 12 (by decide)).trans (congrFun (f19 55 (by decide)) 12)) ((f106 47 (by decide)).trans (congrFun (f19 55 (by decide)) 47)) ((f105 80 (by decide)).trans (f19 80 (by decide))) hI107
      have I146 : jI109 σ103 := jI109_fr ((f106 50 (by decide)).trans (congrFun (f19 55 (by decide)) 50)) hI109
      have I147 : jI110 σ103 := jI110_fr ((f105 86 (by decide)).trans (f19 86 (by decide))) ((f105 87 (by decide)).trans (f19 87 (by decide))) hI110
      have I148 : jI111 σ103 := jI111_fr ((f105 79 (by decide)).trans (f19 79 (by decide))) hI111
      have I149 : jI119 σ103 := jI119_fr ((f105 68 (by decide)).trans (f19 68 (by decide))) hI119
      have p150 : jKept σ103 := jKept.fr ((f105 75 (by decide)).trans (f19 75 (by decide))) ((f105 76 (by decide)).trans (f19 76 (by decide))) ((f105 77 (by decide)).trans (f19 77 (by decide))) hs_jKept
      have p151 : jBook σ103 := jBook.fr ((f106 47 (by decide)).trans (congrFun (f19 55 (by decide)) 47)) ((f106 10 (by decide)).trans (congrFun (f19 55 (by decide)) 10)) ((f105 81 (by decide)).trans (f19 81 (by decide))) hs_jBook
      have z152 : (σ103 2 0).toInt = (σ 2 0).toInt := (congrArg Int32.toInt (show σ103 2 0 = (σ 2 0) from ((congrFun (f105 2 (by decide)) 0).trans (f20 0 (by decide)))))
      have z153 : (σ103 55 6).toInt = (σ 55 6).toInt := (congrArg Int32.toInt (show σ103 55 6 = (σ 55 6) from ((f106 6 (by decide)).trans (congrFun (f19 55 (by decide)) 6))))
      have z154 : (σ103 2 2).toInt = (σ17 2 2).toInt := (congrArg Int32.toInt (show σ103 2 2 = (σ17 2 2) from (congrFun (f105 2 (by decide)) 2)))
      have z155 : (σ103 2 3).toInt = (σ17 2 3).toInt := (congrArg Int32.toInt (show σ103 2 3 = (σ17 2 3) from (congrFun (f105 2 (by decide)) 3)))
      rw [show (σ 2 2).toInt = (σ 55 5).toInt from by omega] at k98
      rw [show (σ17 55 5).toInt = (σ 55 5).toInt from by omega, show σ17 56 = σ 56 from (f19 56 (by decide)), show σ17 57 = σ 57 from (f19 57 (by decide)), show σ17 59 = σ 59 from (f19 59 (by decide))] at k126
      have p156 := hr0.forth (by omega) (by omega) k98 k126
      exact ih x128 σ103 τ _ _ ls (by have h9 := tx128; omega) ⟨I129, I130, I131, I132, I133, I134, I135, I136, I137, I138, I139, I107, I140, I141, I142, I143, I144, I145, I146, I147, I148, I149, p150, p151, (by omega), (by omega), (by omega), (show jNumP (σ103 3) (σ103 56) (σ103 6) (σ103 57) (σ103 7) (σ103 58) (σ103 8) (σ103 59) (σ103 55 6).toInt (σ103 55 4).toInt by rw [show σ103 3 = σ17 3 from (f105 3 (by decide)), show σ103 6 = σ 6 from ((f105 6 (by decide)).trans (f19 6 (by decide))), show σ103 57 = σ 57 from ((f105 57 (by decide)).trans (f19 57 (by decide))), show σ103 7 = σ 7 from ((f105 7 (by decide)).trans (f19 7 (by decide))), show σ103 58 = σ 58 from ((f105 58 (by decide)).trans (f19 58 (by decide))), show σ103 8 = σ 8 from ((f105 8 (by decide)).trans (f19 8 (by decide))), show σ103 59 = σ 59 from ((f105 59 (by decide)).trans (f19 59 (by decide))), show (σ103 55 6).toInt = (σ 55 6).toInt from by omega, show (σ103 55 4).toInt = (σ 55 4).toInt from by omega]; exact p156)⟩ hP hS (lv_sub hl [0, 1, 2, 3] rfl)
set_option maxHeartbeats 4000000 in
set_option maxRecDepth 100000 in
theorem law_case_28 {p : Program} {e : Env} {s : State} {m : MethodId} {below : List Frame} {meth : Method} {c : Code} (l : Launch) {b L : Nat} {xs : Nat → Int32} {D : va_G} {cI cL : ClassId} {ad zz : Nat → Nat} (C0 : lw_At p s m meth c b L xs) (hJ : jD ad) (hA : ∀ q, jA ad q → s.heap.size ≤ q) (hK : jK D cI cL s) (hZ : jZ zz (fun q : Nat => s.heap.size ≤ q) s s.heap) {x0 : Int32} (hx0 : 0 ≤ x0.toInt) (hxL : x0.toInt + 6 ≤ (L : Int)) (hL : L ≤ 384) {σ : Nat → Nat → Int32} {τ : Nat → Nat → Int64} {H : Heap} {locs : List Loc} (hS : va_S (fun q : Nat => s.heap.size ≤ q) s.heap H locs) {ls : Array Slot} (hAll : jAll σ τ) (hP : jH D cI cL ad σ τ H) (hl : lv_has ls 4 [(3, .int x0), (2, .ref (ad 55)), (1, .ref (ad 0)), (0, .ref b)]) (ih : ∀ (x1 : Int32) (σ : Nat → Nat → Int32) (τ : Nat → Nat → Int64) (H : Heap) (locs : List Loc) (ls : Array Slot), x1.toInt = x0.toInt + 6 → jAll σ τ → jH D cI cL ad σ τ H → va_S (fun q : Nat => s.heap.size ≤ q) s.heap H locs → lv_has ls 4 [(3, .int x1), (2, .ref (ad 55)), (1, .ref (ad 0)), (0, .ref b)] → W p l e room_1 s m #[Value.ref b] below meth c H locs 90 348600 (lw_Z below #[Value.ref b] s) (F0 m 18 ls [])) : W p l e room_1 s m #[Value.ref b] below meth c H locs 90 348600 (lw_Z below #[Value.ref b] s) (F0 m 990 ls []) := by
  obtain ⟨hx, hb, hr, hml, hown, hts0, hX, hbl, hlocks, hgv⟩ := C0
  have hts : ∀ w ∈ wsL_law, w.before #[Value.ref b] s = true := fun w h => hts0 w (wsL_law_in w h)
  have hbA : ¬ (fun q : Nat => s.heap.size ≤ q) b := Nat.not_le.mpr hbl
  have hown : s.vm.findClass RL = some m.cls := hown
  obtain ⟨hI2, hI9, hI12, hI16, hI18, hI22, hI31, hI38, hI43, hI47, hI50, hI101, hI102, hI103, hI104, hI105, hI106, hI107, hI109, hI110, hI111, hI119, hs_jKept, hs_jBook, ht0, ht1, ht2, hr0⟩ := hAll
  have hL9 : (L : Int) ≤ 384 := by omega
  obtain ⟨i1, i2, i3, i4, i5, w6⟩ : (0 ≤ (σ 2 0).toInt ∧ (σ 2 0).toInt ≤ 4) ∧ (0 ≤ (σ 2 1).toInt ∧ (σ 2 1).toInt ≤ 3) ∧ (0 ≤ (σ 2 2).toInt) ∧ (0 ≤ (σ 2 3).toInt) ∧ ((σ 2 2).toInt + (σ 2 3).toInt ≤ 40) ∧ (∀ k : Nat, k < 40 → 0 ≤ (σ 6 k).toInt ∧ (σ 6 k).toInt ≤ 67) := id hI2
  obtain ⟨i7, i8, i9, w10, w11, w12, w13⟩ : (0 ≤ (σ 55 5).toInt) ∧ ((σ 55 5).toInt ≤ (σ 55 4).toInt) ∧ ((σ 55 4).toInt ≤ 40) ∧ (∀ k : Nat, k < 68 → (-200) ≤ (σ 56 k).toInt ∧ (σ 56 k).toInt ≤ 500) ∧ (∀ k : Nat, k < 40 → 0 ≤ (σ 57 k).toInt ∧ (σ 57 k).toInt ≤ 67) ∧ (∀ k : Nat, k < 40 → (-200) ≤ (σ 58 k).toInt ∧ (σ 58 k).toInt ≤ 500) ∧ (∀ k : Nat, k < 40 → (-200) ≤ (σ 59 k).toInt ∧ (σ 59 k).toInt ≤ 500) := id hI101
  obtain ⟨i14, w15, w16⟩ : (0 ≤ (σ 55 6).toInt ∧ (σ 55 6).toInt ≤ 4) ∧ (∀ k : Nat, k < 4 → 0 ≤ (σ 60 k).toInt ∧ (σ 60 k).toInt ≤ 50) ∧ (∀ k : Nat, k < 4 → 0 ≤ (σ 61 k).toInt ∧ (σ 61 k).toInt ≤ 20) := id hI102
  refine lv_aload_n hx hb dL_law_990 rfl (lv_at hl 2 rfl) ?_
  refine lv_aload_n hx hb dL_law_991 rfl (lv_at hl 3 rfl) ?_
  refine lv_iload_n hx hb dL_law_992 rfl (lv_at hl 0 rfl) ?_
  refine lv_iconst (v := 1) hx hb dL_law_993 (by decide) ?_
  have g17 := jrg (rfl : x0.toInt = x0.toInt)
  refine lv_iadd hx hb dL_law_994 ?_
  refine lv_topi (fun x18 ex18 => ?_)
  have tx18 : x18.toInt = x0.toInt + 1 := (jadd ex18 rfl jz_1 (by omega) (by omega)).trans (by omega)
  refine va_sld hx hb hX hbl hbA hS (jin tx18 (by omega) (by omega)) dL_law_995 ?_
  have g19 := jrg (rfl : (xs x18.toNatClampNeg).toInt = (xs x18.toNatClampNeg).toInt)
  refine lv_aload_n hx hb dL_law_996 rfl (lv_at hl 3 rfl) ?_
  refine lv_iload_n hx hb dL_law_997 rfl (lv_at hl 0 rfl) ?_
  refine lv_iconst (v := 2) hx hb dL_law_998 (by decide) ?_
  refine lv_iadd hx hb dL_law_999 ?_
  refine lv_topi (fun x20 ex20 => ?_)
  have tx20 : x20.toInt = x0.toInt + 2 := (jadd ex20 rfl jz_2 (by omega) (by omega)).trans (by omega)
  refine va_sld hx hb hX hbl hbA hS (jin tx20 (by omega) (by omega)) dL_law_1000 ?_
  have g21 := jrg (rfl : (xs x20.toNatClampNeg).toInt = (xs x20.toNatClampNeg).toInt)
  refine lv_aload_n hx hb dL_law_1001 rfl (lv_at hl 3 rfl) ?_
  refine lv_iload_n hx hb dL_law_1002 rfl (lv_at hl 0 rfl) ?_
  refine lv_iconst (v := 3) hx hb dL_law_1003 (by decide) ?_
  refine lv_iadd hx hb dL_law_1004 ?_
  refine lv_topi (fun x22 ex22 => ?_)
  have tx22 : x22.toInt = x0.toInt + 3 := (jadd ex22 rfl jz_3 (by omega) (by omega)).trans (by omega)
  refine va_sld hx hb hX hbl hbA hS (jin tx22 (by omega) (by omega)) dL_law_1005 ?_
  have g23 := jrg (rfl : (xs x22.toNatClampNeg).toInt = (xs x22.toNatClampNeg).toInt)
  refine jcallV (As := [.int (xs x18.toNatClampNeg), .int (xs x20.toNatClampNeg), .int (xs x22.toNatClampNeg)]) (rest := []) ⟨hx, hb, hml, hown, hts⟩ hK hP hA hS hZ (c_X11_act l D cI cL ad zz hJ σ τ (xs x18.toNatClampNeg) ((xs x18.toNatClampNeg).toInt) rfl (xs x20.toNatClampNeg) ((xs x20.toNatClampNeg).toInt) rfl (xs x22.toNatClampNeg) ((xs x22.toNatClampNeg).toInt) rfl hI38) cw_RL_129 (jc_0 cI cL ad σ τ) rfl ⟨Nat.le_of_ble_eq_true rfl, Nat.le_of_ble_eq_true rfl⟩ rfl rfl rfl hl.1 rfl (Nat.le_of_ble_eq_true rfl) dL_law_1006 ⟨Nat.le_of_ble_eq_true rfl, Nat.le_of_ble_eq_true rfl⟩ (fun r25 σ24 τ24 H locs h24 hP hS => ?_)
  obtain ⟨rfl, f26, f27, I28, h24⟩ := h24
  rcases h24 with h29 | h30
  · obtain ⟨q33, k31, k32⟩ := h29
    have q33 := q33.symm
    subst q33
    refine lv_pop hx hb dL_law_1009 rfl ?_
    refine lv_aload_n hx hb dL_law_1010 rfl (lv_at hl 1 rfl) ?_
    refine lv_aload_n hx hb dL_law_1011 rfl (lv_at hl 3 rfl) ?_
    refine lv_iload_n hx hb dL_law_1012 rfl (lv_at hl 0 rfl) ?_
    refine lv_iconst (v := 1) hx hb dL_law_1013 (by decide) ?_
    refine lv_iadd hx hb dL_law_1014 ?_
    refine jtopr ex18.symm ?_
    refine va_sld hx hb hX hbl hbA hS (jin tx18 (by omega) (by omega)) dL_law_1015 ?_
    refine lv_aload_n hx hb dL_law_1016 rfl (lv_at hl 3 rfl) ?_
    refine lv_iload_n hx hb dL_law_1017 rfl (lv_at hl 0 rfl) ?_
    refine lv_iconst (v := 2) hx hb dL_law_1018 (by decide) ?_
    refine lv_iadd hx hb dL_law_1019 ?_
    refine jtopr ex20.symm ?_
    refine va_sld hx hb hX hbl hbA hS (jin tx20 (by omega) (by omega)) dL_law_1020 ?_
    refine lv_aload_n hx hb dL_law_1021 rfl (lv_at hl 3 rfl) ?_
    refine lv_iload_n hx hb dL_law_1022 rfl (lv_at hl 0 rfl) ?_
    refine lv_iconst (v := 3) hx hb dL_law_1023 (by decide) ?_
    refine lv_iadd hx hb dL_law_1024 ?_
    refine jtopr ex22.symm ?_
    refine va_sld hx hb hX hbl hbA hS (jin tx22 (by omega) (by omega)) dL_law_1025 ?_
    have I34 : jI106 σ24 := jI106_fr (congrFun (f26 55 (by decide)) 32) (f26 70 (by decide)) (f26 71 (by decide)) (f26 72 (by decide)) hI106
    have z35 : (σ24 55 32).toInt = (σ 55 32).toInt := (congrArg Int32.toInt (show σ24 55 32 = (σ 55 32) from (congrFun (f26 55 (by decide)) 32)))
    refine jcallV (As := [.int (xs x18.toNatClampNeg), .int (xs x20.toNatClampNeg), .int (xs x22.toNatClampNeg)]) (rest := []) ⟨hx, hb, hml, hown, hts⟩ hK hP hA hS hZ (c_X12_act l D cI cL ad zz hJ σ24 τ (xs x18.toNatClampNeg) ((xs x18.toNatClampNeg).toInt) rfl (xs x20.toNatClampNeg) ((xs x20.toNatClampNeg).toInt) rfl (xs x22.toNatClampNeg) ((xs x22.toNatClampNeg).toInt) rfl I34) cw_RL_132 (jc_55 cI cL ad σ24 τ) rfl ⟨Nat.le_of_ble_eq_true rfl, Nat.le_of_ble_eq_true rfl⟩ rfl rfl rfl hl.1 rfl (Nat.le_of_ble_eq_true rfl) dL_law_1026 ⟨Nat.le_of_ble_eq_true rfl, Nat.le_of_ble_eq_true rfl⟩ (fun r37 σ36 τ36 H locs h36 hP hS => ?_)
    obtain ⟨rfl, f38, f39, h36⟩ := h36
    rcases h36 with h40 | h41
    · obtain ⟨q44, k42, k43⟩ := h40
      have q44 := q44.symm
      subst q44
      refine lv_pop hx hb dL_law_1029 rfl ?_
      refine lv_goto (tgt := 1357) hx hb dL_law_1030 (by decide) ?_
      obtain ⟨x45, ex45⟩ : ∃ y : Int32, y = x0 + 6 := ⟨_, rfl⟩
      have tx45 : x45.toInt = x0.toInt + 6 := (jadd ex45 rfl jz_6 (by omega) (by omega)).trans (by omega)
      refine lv_iinc (v := x45) (lv' := [(3, .int x45), (2, .ref (ad 55)), (1, .ref (ad 0)), (0, .ref b)]) hx hb dL_law_1357 hl (k := 0) rfl (by rw [ex45]; rfl) (by decide) rfl (fun ls hl => ?_)
      refine lv_goto (tgt := 18) hx hb dL_law_1360 (by decide) ?_
      have I46 : jI2 σ36 := jI2_fr ((congrFun (f38 2 (by decide)) 0).trans (congrFun (f26 2 (by decide)) 0)) ((congrFun (f38 2 (by decide)) 1).trans (congrFun (f26 2 (by decide)) 1)) ((congrFun (f38 2 (by decide)) 2).trans (congrFun (f26 2 (by decide)) 2)) ((congrFun (f38 2 (by decide)) 3).trans (congrFun (f26 2 (by decide)) 3)) ((f38 6 (by decide)).trans (f26 6 (by decide))) hI2
      have I47 : jI9 σ36 := jI9_fr ((congrFun (f38 9 (by decide)) 0).trans (congrFun (f26 9 (by decide)) 0)) ((f38 10 (by decide)).trans (f26 10 (by decide))) ((f38 11 (by decide)).trans (f26 11 (by decide))) hI9
      have I48 : jI12 σ36 := jI12_fr ((congrFun (f38 12 (by decide)) 0).trans (congrFun (f26 12 (by decide)) 0)) ((f38 13 (by decide)).trans (f26 13 (by decide))) hI12
      have I49 : jI16 σ36 := jI16_fr ((congrFun (f38 16 (by decide)) 0).trans (congrFun (f26 16 (by decide)) 0)) ((congrFun (f38 16 (by decide)) 1).trans (congrFun (f26 16 (by decide)) 1)) ((congrFun (f38 16 (by decide)) 2).trans (congrFun (f26 16 (by decide)) 2)) ((f38 17 (by decide)).trans (f26 17 (by decide))) hI16
      have I50 : jI18 σ36 := jI18_fr ((congrFun (f38 18 (by decide)) 0).trans (congrFun (f26 18 (by decide)) 0)) ((f38 19 (by decide)).trans (f26 19 (by decide))) hI18
      have I51 : jI22 σ36 := jI22_fr ((congrFun (f38 22 (by decide)) 0).trans (congrFun (f26 22 (by decide)) 0)) ((f38 23 (by decide)).trans (f26 23 (by decide))) hI22
      have I52 : jI31 σ36 := jI31_fr ((congrFun (f38 31 (by decide)) 8).trans (congrFun (f26 31 (by decide)) 8)) ((f38 33 (by decide)).trans (f26 33 (by decide))) ((f38 36 (by decide)).trans (f26 36 (by decide))) hI31
      have I53 : jI38 σ36 := jI38_fr (congrFun (f38 38 (by decide)) 0) (congrFun (f38 38 (by decide)) 1) (f38 39 (by decide)) I28
      have I54 : jI43 σ36 := jI43_fr ((congrFun (f38 43 (by decide)) 8).trans (congrFun (f26 43 (by decide)) 8)) hI43
      have I55 : jI47 σ36 := jI47_fr ((congrFun (f38 47 (by decide)) 0).trans (congrFun (f26 47 (by decide)) 0)) ((f38 49 (by decide)).trans (f26 49 (by decide))) hI47
      have I56 : jI50 σ36 := jI50_fr ((f38 52 (by decide)).trans (f26 52 (by decide))) hI50
      have I57 : jI101 σ36 := jI101_fr ((f39 4 (by decide)).trans (congrFun (f26 55 (by decide)) 4)) ((f39 5 (by decide)).trans (congrFun (f26 55 (by decide)) 5)) ((f38 56 (by decide)).trans (f26 56 (by decide))) ((f38 57 (by decide)).trans (f26 57 (by decide))) ((f38 58 (by decide)).trans (f26 58 (by decide))) ((f38 59 (by decide)).trans (f26 59 (by decide))) hI101
      have I58 : jI102 σ36 := jI102_fr ((f39 6 (by decide)).trans (congrFun (f26 55 (by decide)) 6)) ((f38 60 (by decide)).trans (f26 60 (by decide))) ((f38 61 (by decide)).trans (f26 61 (by decide))) hI102
      have I59 : jI103 σ36 := jI103_fr ((f39 9 (by decide)).trans (congrFun (f26 55 (by decide)) 9)) hI103
      have I60 : jI104 σ36 := jI104_fr ((f39 10 (by decide)).trans (congrFun (f26 55 (by decide)) 10)) ((f39 12 (by decide)).trans (congrFun (f26 55 (by decide)) 12)) ((f39 13 (by decide)).trans (congrFun (f26 55 (by decide)) 13)) ((f38 62 (by decide)).trans (f26 62 (by decide))) ((f38 67 (by decide)).trans (f26 67 (by decide))) hI104
      have I61 : jI105 σ36 := jI105_fr ((f39 15 (by decide)).trans (congrFun (f26 55 (by decide)) 15)) ((f38 65 (by decide)).trans (f26 65 (by decide))) hI105
      have I62 : jI106 σ36 := jI106_fr (f39 32 (by decide)) (f38 70 (by decide)) (f38 71 (by decide)) (f38 72 (by decide)) I34
      have I63 : jI107 σ36 := jI107_fr ((f39 12 (by decide)).trans (congrFun (f26 55 (by decide)) 12)) ((f39 47 (by decide)).trans (congrFun (f26 55 (by decide)) 47)) ((f38 80 (by decide)).trans (f26 80 (by decide))) hI107
      have I64 : jI109 σ36 := jI109_fr ((f39 50 (by decide)).trans (congrFun (f26 55 (by decide)) 50)) hI109
      have I65 : jI110 σ36 := jI110_fr ((f38 86 (by decide)).trans (f26 86 (by decide))) ((f38 87 (by decide)).trans (f26 87 (by decide))) hI110
      have I66 : jI111 σ36 := jI111_fr ((f38 79 (by decide)).trans (f26 79 (by decide))) hI111
      have I67 : jI119 σ36 := jI119_fr ((f38 68 (by decide)).trans (f26 68 (by decide))) hI119
      have p68 : jKept σ36 := jKept.fr ((f38 75 (by decide)).trans (f26 75 (by decide))) ((f38 76 (by decide)).trans (f26 76 (by decide))) ((f38 77 (by decide)).trans (f26 77 (by decide))) hs_jKept
      have p69 : jBook σ36 := jBook.fr ((f39 47 (by decide)).trans (congrFun (f26 55 (by decide)) 47)) ((f39 10 (by decide)).trans (congrFun (f26 55 (by decide)) 10)) ((f38 81 (by decide)).trans (f26 81 (by decide))) hs_jBook
      have z70 : (σ36 2 0).toInt = (σ 2 0).toInt := (congrArg Int32.toInt (show σ36 2 0 = (σ 2 0) from ((congrFun (f38 2 (by decide)) 0).trans (congrFun (f26 2 (by decide)) 0))))
      have z71 : (σ36 55 6).toInt = (σ 55 6).toInt := (congrArg Int32.toInt (show σ36 55 6 = (σ 55 6) from ((f39 6 (by decide)).trans (congrFun (f26 55 (by decide)) 6))))
      have z72 : (σ36 2 2).toInt = (σ 2 2).toInt := (congrArg Int32.toInt (show σ36 2 2 = (σ 2 2) from ((congrFun (f38 2 (by decide)) 2).trans (congrFun (f26 2 (by decide)) 2))))
      have z73 : (σ36 55 5).toInt = (σ 55 5).toInt := (congrArg Int32.toInt (show σ36 55 5 = (σ 55 5) from ((f39 5 (by decide)).trans (congrFun (f26 55 (by decide)) 5))))
      have z74 : (σ36 2 3).toInt = (σ 2 3).toInt := (congrArg Int32.toInt (show σ36 2 3 = (σ 2 3) from ((congrFun (f38 2 (by decide)) 3).trans (congrFun (f26 2 (by decide)) 3))))
      have z75 : (σ36 55 4).toInt = (σ 55 4).toInt := (congrArg Int32.toInt (show σ36 55 4 = (σ 55 4) from ((f39 4 (by decide)).trans (congrFun (f26 55 (by decide)) 4))))
      exact ih x45 σ36 τ _ _ ls (by have h9 := tx45; omega) ⟨I46, I47, I48, I49, I50, I51, I52, I53, I54, I55, I56, I57, I58, I59, I60, I61, I62, I63, I64, I65, I66, I67, p68, p69, (by omega), (by omega), (by omega), (show jNumP (σ36 3) (σ36 56) (σ36 6) (σ36 57) (σ36 7) (σ36 58) (σ36 8) (σ36 59) (σ36 55 6).toInt (σ36 55 4).toInt by rw [show σ36 3 = σ 3 from ((f38 3 (by decide)).trans (f26 3 (by decide))), show σ36 56 = σ 56 from ((f38 56 (by decide)).trans (f26 56 (by decide))), show σ36 6 = σ 6 from ((f38 6 (by decide)).trans (f26 6 (by decide))), show σ36 57 = σ 57 from ((f38 57 (by decide)).trans (f26 57 (by decide))), show σ36 7 = σ 7 from ((f38 7 (by decide)).trans (f26 7 (by decide))), show σ36 58 = σ 58 from ((f38 58 (by decide)).trans (f26 58 (by decide))), show σ36 8 = σ 8 from ((f38 8 (by decide)).trans (f26 8 (by decide))), show σ36 59 = σ 59 from ((f38 59 (by decide)).trans (f26 59 (by decide))), show (σ36 55 6).toInt = (σ 55 6).toInt from by omega, show (σ36 55 4).toInt = (σ 55 4).toInt from by omega]; exact hr0)⟩ hP hS (lv_sub hl [0, 1, 2, 3] rfl)
    · obtain ⟨q80, k76, k77, k78, k79⟩ := h41
      refine lv_pop hx hb dL_law_1029 rfl ?_
      refine lv_goto (tgt := 1357) hx hb dL_law_1030 (by decide) ?_
      obtain ⟨x81, ex81⟩ : ∃ y : Int32, y = x0 + 6 := ⟨_, rfl⟩
      have tx81 : x81.toInt = x0.toInt + 6 := (jadd ex81 rfl jz_6 (by omega) (by omega)).trans (by omega)
      refine lv_iinc (v := x81) (lv' := [(3, .int x81), (2, .ref (ad 55)), (1, .ref (ad 0)), (0, .ref b)]) hx hb dL_law_1357 hl (k := 0) rfl (by rw [ex81]; rfl) (by decide) rfl (fun ls hl => ?_)
      refine lv_goto (tgt := 18) hx hb dL_law_1360 (by decide) ?_
      have I82 : jI2 σ36 := jI2_fr ((congrFun (f38 2 (by decide)) 0).trans (congrFun (f26 2 (by decide)) 0)) ((congrFun (f38 2 (by decide)) 1).trans (congrFun (f26 2 (by decide)) 1)) ((congrFun (f38 2 (by decide)) 2).trans (congrFun (f26 2 (by decide)) 2)) ((congrFun (f38 2 (by decide)) 3).trans (congrFun (f26 2 (by decide)) 3)) ((f38 6 (by decide)).trans (f26 6 (by decide))) hI2
      have I83 : jI9 σ36 := jI9_fr ((congrFun (f38 9 (by decide)) 0).trans (congrFun (f26 9 (by decide)) 0)) ((f38 10 (by decide)).trans (f26 10 (by decide))) ((f38 11 (by decide)).trans (f26 11 (by decide))) hI9
      have I84 : jI12 σ36 := jI12_fr ((congrFun (f38 12 (by decide)) 0).trans (congrFun (f26 12 (by decide)) 0)) ((f38 13 (by decide)).trans (f26 13 (by decide))) hI12
      have I85 : jI16 σ36 := jI16_fr ((congrFun (f38 16 (by decide)) 0).trans (congrFun (f26 16 (by decide)) 0)) ((congrFun (f38 16 (by decide)) 1).trans (congrFun (f26 16 (by decide)) 1)) ((congrFun (f38 16 (by decide)) 2).trans (congrFun (f26 16 (by decide)) 2)) ((f38 17 (by decide)).trans (f26 17 (by decide))) hI16
      have I86 : jI18 σ36 := jI18_fr ((congrFun (f38 18 (by decide)) 0).trans (congrFun (f26 18 (by decide)) 0)) ((f38 19 (by decide)).trans (f26 19 (by decide))) hI18
      have I87 : jI22 σ36 := jI22_fr ((congrFun (f38 22 (by decide)) 0).trans (congrFun (f26 22 (by decide)) 0)) ((f38 23 (by decide)).trans (f26 23 (by decide))) hI22
      have I88 : jI31 σ36 := jI31_fr ((congrFun (f38 31 (by decide)) 8).trans (congrFun (f26 31 (by decide)) 8)) ((f38 33 (by decide)).trans (f26 33 (by decide))) ((f38 36 (by decide)).trans (f26 36 (by decide))) hI31
      have I89 : jI38 σ36 := jI38_fr (congrFun (f38 38 (by decide)) 0) (congrFun (f38 38 (by decide)) 1) (f38 39 (by decide)) I28
      have I90 : jI43 σ36 := jI43_fr ((congrFun (f38 43 (by decide)) 8).trans (congrFun (f26 43 (by decide)) 8)) hI43
      have I91 : jI47 σ36 := jI47_fr ((congrFun (f38 47 (by decide)) 0).trans (congrFun (f26 47 (by decide)) 0)) ((f38 49 (by decide)).trans (f26 49 (by decide))) hI47
      have I92 : jI50 σ36 := jI50_fr ((f38 52 (by decide)).trans (f26 52 (by decide))) hI50
      have I93 : jI101 σ36 := jI101_fr ((f39 4 (by decide)).trans (congrFun (f26 55 (by decide)) 4)) ((f39 5 (by decide)).trans (congrFun (f26 55 (by decide)) 5)) ((f38 56 (by decide)).trans (f26 56 (by decide))) ((f38 57 (by decide)).trans (f26 57 (by decide))) ((f38 58 (by decide)).trans (f26 58 (by decide))) ((f38 59 (by decide)).trans (f26 59 (by decide))) hI101
      have I94 : jI102 σ36 := jI102_fr ((f39 6 (by decide)).trans (congrFun (f26 55 (by decide)) 6)) ((f38 60 (by decide)).trans (f26 60 (by decide))) ((f38 61 (by decide)).trans (f26 61 (by decide))) hI102
      have I95 : jI103 σ36 := jI103_fr ((f39 9 (by decide)).trans (congrFun (f26 55 (by decide)) 9)) hI103
      have I96 : jI104 σ36 := jI104_fr ((f39 10 (by decide)).trans (congrFun (f26 55 (by decide)) 10)) ((f39 12 (by decide)).trans (congrFun (f26 55 (by decide)) 12)) ((f39 13 (by decide)).trans (congrFun (f26 55 (by decide)) 13)) ((f38 62 (by decide)).trans (f26 62 (by decide))) ((f38 67 (by decide)).trans (f26 67 (by decide))) hI104
      have I97 : jI105 σ36 := jI105_fr ((f39 15 (by decide)).trans (congrFun (f26 55 (by decide)) 15)) ((f38 65 (by decide)).trans (f26 65 (by decide))) hI105
      have I98 : jI106 σ36 := jI106_fr (f39 32 (by decide)) (f38 70 (by decide)) (f38 71 (by decide)) (f38 72 (by decide)) I34
      have I99 : jI107 σ36 := jI107_fr ((f39 12 (by decide)).trans (congrFun (f26 55 (by decide)) 12)) ((f39 47 (by decide)).trans (congrFun (f26 55 (by decide)) 47)) ((f38 80 (by decide)).trans (f26 80 (by decide))) hI107
      have I100 : jI109 σ36 := jI109_fr ((f39 50 (by decide)).trans (congrFun (f26 55 (by decide)) 50)) hI109
      have I101 : jI110 σ36 := jI110_fr ((f38 86 (by decide)).trans (f26 86 (by decide))) ((f38 87 (by decide)).trans (f26 87 (by decide))) hI110
      have I102 : jI111 σ36 := jI111_fr ((f38 79 (by decide)).trans (f26 79 (by decide))) hI111
      have I103 : jI119 σ36 := jI119_fr ((f38 68 (by decide)).trans (f26 68 (by decide))) hI119
      have p104 : jKept σ36 := jKept.fr ((f38 75 (by decide)).trans (f26 75 (by decide))) ((f38 76 (by decide)).trans (f26 76 (by decide))) ((f38 77 (by decide)).trans (f26 77 (by decide))) hs_jKept
      have p105 : jBook σ36 := jBook.fr ((f39 47 (by decide)).trans (congrFun (f26 55 (by decide)) 47)) ((f39 10 (by decide)).trans (congrFun (f26 55 (by decide)) 10)) ((f38 81 (by decide)).trans (f26 81 (by decide))) hs_jBook
      have z106 : (σ36 2 0).toInt = (σ 2 0).toInt := (congrArg Int32.toInt (show σ36 2 0 = (σ 2 0) from ((congrFun (f38 2 (by decide)) 0).trans (congrFun (f26 2 (by decide)) 0))))
      have z107 : (σ36 55 6).toInt = (σ 55 6).toInt := (congrArg Int32.toInt (show σ36 55 6 = (σ 55 6) from ((f39 6 (by decide)).trans (congrFun (f26 55 (by decide)) 6))))
      have z108 : (σ36 2 2).toInt = (σ 2 2).toInt := (congrArg Int32.toInt (show σ36 2 2 = (σ 2 2) from ((congrFun (f38 2 (by decide)) 2).trans (congrFun (f26 2 (by decide)) 2))))
      have z109 : (σ36 55 5).toInt = (σ 55 5).toInt := (congrArg Int32.toInt (show σ36 55 5 = (σ 55 5) from ((f39 5 (by decide)).trans (congrFun (f26 55 (by decide)) 5))))
      have z110 : (σ36 2 3).toInt = (σ 2 3).toInt := (congrArg Int32.toInt (show σ36 2 3 = (σ 2 3) from ((congrFun (f38 2 (by decide)) 3).trans (congrFun (f26 2 (by decide)) 3))))
      have z111 : (σ36 55 4).toInt = (σ 55 4).toInt := (congrArg Int32.toInt (show σ36 55 4 = (σ 55 4) from ((f39 4 (by decide)).trans (congrFun (f26 55 (by decide)) 4))))
      exact ih x81 σ36 τ _ _ ls (by have h9 := tx81; omega) ⟨I82, I83, I84, I85, I86, I87, I88, I89, I90, I91, I92, I93, I94, I95, I96, I97, I98, I99, I100, I101, I102, I103, p104, p105, (by omega), (by omega), (by omega), (show jNumP (σ36 3) (σ36 56) (σ36 6) (σ36 57) (σ36 7) (σ36 58) (σ36 8) (σ36 59) (σ36 55 6).toInt (σ36 55 4).toInt by rw [show σ36 3 = σ 3 from ((f38 3 (by decide)).trans (f26 3 (by decide))), show σ36 56 = σ 56 from ((f38 56 (by decide)).trans (f26 56 (by decide))), show σ36 6 = σ 6 from ((f38 6 (by decide)).trans (f26 6 (by decide))), show σ36 57 = σ 57 from ((f38 57 (by decide)).trans (f26 57 (by decide))), show σ36 7 = σ 7 from ((f38 7 (by decide)).trans (f26 7 (by decide))), show σ36 58 = σ 58 from ((f38 58 (by decide)).trans (f26 58 (by decide))), show σ36 8 = σ 8 from ((f38 8 (by decide)).trans (f26 8 (by decide))), show σ36 59 = σ 59 from ((f38 59 (by decide)).trans (f26 59 (by decide))), show (σ36 55 6).toInt = (σ 55 6).toInt from by omega, show (σ36 55 4).toInt = (σ 55 4).toInt from by omega]; exact hr0)⟩ hP hS (lv_sub hl [0, 1, 2, 3] rfl)
  · obtain ⟨q116, k112, k113, k114, k115⟩ := h30
    refine lv_pop hx hb dL_law_1009 rfl ?_
    refine lv_aload_n hx hb dL_law_1010 rfl (lv_at hl 1 rfl) ?_
    refine lv_aload_n hx hb dL_law_1011 rfl (lv_at hl 3 rfl) ?_
    refine lv_iload_n hx hb dL_law_1012 rfl (lv_at hl 0 rfl) ?_
    refine lv_iconst (v := 1) hx hb dL_law_1013 (by decide) ?_
    refine lv_iadd hx hb dL_law_1014 ?_
    refine jtopr ex18.symm ?_
    refine va_sld hx hb hX hbl hbA hS (jin tx18 (by omega) (by omega)) dL_law_1015 ?_
    refine lv_aload_n hx hb dL_law_1016 rfl (lv_at hl 3 rfl) ?_
    refine lv_iload_n hx hb dL_law_1017 rfl (lv_at hl 0 rfl) ?_
    refine lv_iconst (v := 2) hx hb dL_law_1018 (by decide) ?_
    refine lv_iadd hx hb dL_law_1019 ?_
    refine jtopr ex20.symm ?_
    refine va_sld hx hb hX hbl hbA hS (jin tx20 (by omega) (by omega)) dL_law_1020 ?_
    refine lv_aload_n hx hb dL_law_1021 rfl (lv_at hl 3 rfl) ?_
    refine lv_iload_n hx hb dL_law_1022 rfl (lv_at hl 0 rfl) ?_
    refine lv_iconst (v := 3) hx hb dL_law_1023 (by decide) ?_
    refine lv_iadd hx hb dL_law_1024 ?_
    refine jtopr ex22.symm ?_
    refine va_sld hx hb hX hbl hbA hS (jin tx22 (by omega) (by omega)) dL_law_1025 ?_
    have I117 : jI106 σ24 := jI106_fr (congrFun (f26 55 (by decide)) 32) (f26 70 (by decide)) (f26 71 (by decide)) (f26 72 (by decide)) hI106
    have z118 : (σ24 55 32).toInt = (σ 55 32).toInt := (congrArg Int32.toInt (show σ24 55 32 = (σ 55 32) from (congrFun (f26 55 (by decide)) 32)))
    refine jcallV (As := [.int (xs x18.toNatClampNeg), .int (xs x20.toNatClampNeg), .int (xs x22.toNatClampNeg)]) (rest := []) ⟨hx, hb, hml, hown, hts⟩ hK hP hA hS hZ (c_X12_act l D cI cL ad zz hJ σ24 τ (xs x18.toNatClampNeg) ((xs x18.toNatClampNeg).toInt) rfl (xs x20.toNatClampNeg) ((xs x20.toNatClampNeg).toInt) rfl (xs x22.toNatClampNeg) ((xs x22.toNatClampNeg).toInt) rfl I117) cw_RL_132 (jc_55 cI cL ad σ24 τ) rfl ⟨Nat.le_of_ble_eq_true rfl, Nat.le_of_ble_eq_true rfl⟩ rfl rfl rfl hl.1 rfl (Nat.le_of_ble_eq_true rfl) dL_law_1026 ⟨Nat.le_of_ble_eq_true rfl, Nat.le_of_ble_eq_true rfl⟩ (fun r120 σ119 τ119 H locs h119 hP hS => ?_)
    obtain ⟨rfl, f121, f122, h119⟩ := h119
    rcases h119 with h123 | h124
    · obtain ⟨q127, k125, k126⟩ := h123
      have q127 := q127.symm
      subst q127
      refine lv_pop hx hb dL_law_1029 rfl ?_
      refine lv_goto (tgt := 1357) hx hb dL_law_1030 (by decide) ?_
      obtain ⟨x128, ex128⟩ : ∃ y : Int32, y = x0 + 6 := ⟨_, rfl⟩
      have tx128 : x128.toInt = x0.toInt + 6 := (jadd ex128 rfl jz_6 (by omega) (by omega)).trans (by omega)
      refine lv_iinc (v := x128) (lv' := [(3, .int x128), (2, .ref (ad 55)), (1, .ref (ad 0)), (0, .ref b)]) hx hb dL_law_1357 hl (k := 0) rfl (by rw [ex128]; rfl) (by decide) rfl (fun ls hl => ?_)
      refine lv_goto (tgt := 18) hx hb dL_law_1360 (by decide) ?_
      have I129 : jI2 σ119 := jI2_fr ((congrFun (f121 2 (by decide)) 0).trans (congrFun (f26 2 (by decide)) 0)) ((congrFun (f121 2 (by decide)) 1).trans (congrFun (f26 2 (by decide)) 1)) ((congrFun (f121 2 (by decide)) 2).trans (congrFun (f26 2 (by decide)) 2)) ((congrFun (f121 2 (by decide)) 3).trans (congrFun (f26 2 (by decide)) 3)) ((f121 6 (by decide)).trans (f26 6 (by decide))) hI2
      have I130 : jI9 σ119 := jI9_fr ((congrFun (f121 9 (by decide)) 0).trans (congrFun (f26 9 (by decide)) 0)) ((f121 10 (by decide)).trans (f26 10 (by decide))) ((f121 11 (by decide)).trans (f26 11 (by decide))) hI9
      have I131 : jI12 σ119 := jI12_fr ((congrFun (f121 12 (by decide)) 0).trans (congrFun (f26 12 (by decide)) 0)) ((f121 13 (by decide)).trans (f26 13 (by decide))) hI12
      have I132 : jI16 σ119 := jI16_fr ((congrFun (f121 16 (by decide)) 0).trans (congrFun (f26 16 (by decide)) 0)) ((congrFun (f121 16 (by decide)) 1).trans (congrFun (f26 16 (by decide)) 1)) ((congrFun (f121 16 (by decide)) 2).trans (congrFun (f26 16 (by decide)) 2)) ((f121 17 (by decide)).trans (f26 17 (by decide))) hI16
      have I133 : jI18 σ119 := jI18_fr ((congrFun (f121 18 (by decide)) 0).trans (congrFun (f26 18 (by decide)) 0)) ((f121 19 (by decide)).trans (f26 19 (by decide))) hI18
      have I134 : jI22 σ119 := jI22_fr ((congrFun (f121 22 (by decide)) 0).trans (congrFun (f26 22 (by decide)) 0)) ((f121 23 (by decide)).trans (f26 23 (by decide))) hI22
      have I135 : jI31 σ119 := jI31_fr ((congrFun (f121 31 (by decide)) 8).trans (congrFun (f26 31 (by decide)) 8)) ((f121 33 (by decide)).trans (f26 33 (by decide))) ((f121 36 (by decide)).trans (f26 36 (by decide))) hI31
      have I136 : jI38 σ119 := jI38_fr (congrFun (f121 38 (by decide)) 0) (congrFun (f121 38 (by decide)) 1) (f121 39 (by decide)) I28
      have I137 : jI43 σ119 := jI43_fr ((congrFun (f121 43 (by decide)) 8).trans (congrFun (f26 43 (by decide)) 8)) hI43
      have I138 : jI47 σ119 := jI47_fr ((congrFun (f121 47 (by decide)) 0).trans (congrFun (f26 47 (by decide)) 0)) ((f121 49 (by decide)).trans (f26 49 (by decide))) hI47
      have I139 : jI50 σ119 := jI50_fr ((f121 52 (by decide)).trans (f26 52 (by decide))) hI50
      have I140 : jI101 σ119 := jI101_fr ((f122 4 (by decide)).trans (congrFun (f26 55 (by decide)) 4)) ((f122 5 (by decide)).trans (congrFun (f26 55 (by decide)) 5)) ((f121 56 (by decide)).trans (f26 56 (by decide))) ((f121 57 (by decide)).trans (f26 57 (by decide))) ((f121 58 (by decide)).trans (f26 58 (by decide))) ((f121 59 (by decide)).trans (f26 59 (by decide))) hI101
      have I141 : jI102 σ119 := jI102_fr ((f122 6 (by decide)).trans (congrFun (f26 55 (by decide)) 6)) ((f121 60 (by decide)).trans (f26 60 (by decide))) ((f121 61 (by decide)).trans (f26 61 (by decide))) hI102
      have I142 : jI103 σ119 := jI103_fr ((f122 9 (by decide)).trans (congrFun (f26 55 (by decide)) 9)) hI103
      have I143 : jI104 σ119 := jI104_fr ((f122 10 (by decide)).trans (congrFun (f26 55 (by decide)) 10)) ((f122 12 (by decide)).trans (congrFun (f26 55 (by decide)) 12)) ((f122 13 (by decide)).trans (congrFun (f26 55 (by decide)) 13)) ((f121 62 (by decide)).trans (f26 62 (by decide))) ((f121 67 (by decide)).trans (f26 67 (by decide))) hI104
      have I144 : jI105 σ119 := jI105_fr ((f122 15 (by decide)).trans (congrFun (f26 55 (by decide)) 15)) ((f121 65 (by decide)).trans (f26 65 (by decide))) hI105
      have I145 : jI106 σ119 := jI106_fr (f122 32 (by decide)) (f121 70 (by decide)) (f121 71 (by decide)) (f121 72 (by decide)) I117
      have I146 : jI107 σ119 := jI107_fr ((f122 12 (by decide)).trans (congrFun (f26 55 (by decide)) 12)) ((f122 47 (by decide)).trans (congrFun (f26 55 (by decide)) 47)) ((f121 80 (by decide)).trans (f26 80 (by decide))) hI107
      have I147 : jI109 σ119 := jI109_fr ((f122 50 (by decide)).trans (congrFun (f26 55 (by decide)) 50)) hI109
      have I148 : jI110 σ119 := jI110_fr ((f121 86 (by decide)).trans (f26 86 (by decide))) ((f121 87 (by decide)).trans (f26 87 (by decide))) hI110
      have I149 : jI111 σ119 := jI111_fr ((f121 79 (by decide)).trans (f26 79 (by decide))) hI111
      have I150 : jI119 σ119 := jI119_fr ((f121 68 (by decide)).trans (f26 68 (by decide))) hI119
      have p151 : jKept σ119 := jKept.fr ((f121 75 (by decide)).trans (f26 75 (by decide))) ((f121 76 (by decide)).trans (f26 76 (by decide))) ((f121 77 (by decide)).trans (f26 77 (by decide))) hs_jKept
      have p152 : jBook σ119 := jBook.fr ((f122 47 (by decide)).trans (congrFun (f26 55 (by decide)) 47)) ((f122 10 (by decide)).trans (congrFun (f26 55 (by decide)) 10)) ((f121 81 (by decide)).trans (f26 81 (by decide))) hs_jBook
      have z153 : (σ119 2 0).toInt = (σ 2 0).toInt := (congrArg Int32.toInt (show σ119 2 0 = (σ 2 0) from ((congrFun (f121 2 (by decide)) 0).trans (congrFun (f26 2 (by decide)) 0))))
      have z154 : (σ119 55 6).toInt = (σ 55 6).toInt := (congrArg Int32.toInt (show σ119 55 6 = (σ 55 6) from ((f122 6 (by decide)).trans (congrFun (f26 55 (by decide)) 6))))
      have z155 : (σ119 2 2).toInt = (σ 2 2).toInt := (congrArg Int32.toInt (show σ119 2 2 = (σ 2 2) from ((congrFun (f121 2 (by decide)) 2).trans (congrFun (f26 2 (by decide)) 2))))
      have z156 : (σ119 55 5).toInt = (σ 55 5).toInt := (congrArg Int32.toInt (show σ119 55 5 = (σ 55 5) from ((f122 5 (by decide)).trans (congrFun (f26 55 (by decide)) 5))))
      have z157 : (σ119 2 3).toInt = (σ 2 3).toInt := (congrArg Int32.toInt (show σ119 2 3 = (σ 2 3) from ((congrFun (f121 2 (by decide)) 3).trans (congrFun (f26 2 (by decide)) 3))))
      have z158 : (σ119 55 4).toInt = (σ 55 4).toInt := (congrArg Int32.toInt (show σ119 55 4 = (σ 55 4) from ((f122 4 (by decide)).trans (congrFun (f26 55 (by decide)) 4))))
      exact ih x128 σ119 τ _ _ ls (by have h9 := tx128; omega) ⟨I129, I130, I131, I132, I133, I134, I135, I136, I137, I138, I139, I140, I141, I142, I143, I144, I145, I146, I147, I148, I149, I150, p151, p152, (by omega), (by omega), (by omega), (show jNumP (σ119 3) (σ119 56) (σ119 6) (σ119 57) (σ119 7) (σ119 58) (σ119 8) (σ119 59) (σ119 55 6).toInt (σ119 55 4).toInt by rw [show σ119 3 = σ 3 from ((f121 3 (by decide)).trans (f26 3 (by decide))), show σ119 56 = σ 56 from ((f121 56 (by decide)).trans (f26 56 (by decide))), show σ119 6 = σ 6 from ((f121 6 (by decide)).trans (f26 6 (by decide))), show σ119 57 = σ 57 from ((f121 57 (by decide)).trans (f26 57 (by decide))), show σ119 7 = σ 7 from ((f121 7 (by decide)).trans (f26 7 (by decide))), show σ119 58 = σ 58 from ((f121 58 (by decide)).trans (f26 58 (by decide))), show σ119 8 = σ 8 from ((f121 8 (by decide)).trans (f26 8 (by decide))), show σ119 59 = σ 59 from ((f121 59 (by decide)).trans (f26 59 (by decide))), show (σ119 55 6).toInt = (σ 55 6).toInt from by omega, show (σ119 55 4).toInt = (σ 55 4).toInt from by omega]; exact hr0)⟩ hP hS (lv_sub hl [0, 1, 2, 3] rfl)
    · obtain ⟨q163, k159, k160, k161, k162⟩ := h124
      refine lv_pop hx hb dL_law_1029 rfl ?_
      refine lv_goto (tgt := 1357) hx hb dL_law_1030 (by decide) ?_
      obtain ⟨x164, ex164⟩ : ∃ y : Int32, y = x0 + 6 := ⟨_, rfl⟩
      have tx164 : x164.toInt = x0.toInt + 6 := (jadd ex164 rfl jz_6 (by omega) (by omega)).trans (by omega)
      refine lv_iinc (v := x164) (lv' := [(3, .int x164), (2, .ref (ad 55)), (1, .ref (ad 0)), (0, .ref b)]) hx hb dL_law_1357 hl (k := 0) rfl (by rw [ex164]; rfl) (by decide) rfl (fun ls hl => ?_)
      refine lv_goto (tgt := 18) hx hb dL_law_1360 (by decide) ?_
      have I165 : jI2 σ119 := jI2_fr ((congrFun (f121 2 (by decide)) 0).trans (congrFun (f26 2 (by decide)) 0)) ((congrFun (f121 2 (by decide)) 1).trans (congrFun (f26 2 (by decide)) 1)) ((congrFun (f121 2 (by decide)) 2).trans (congrFun (f26 2 (by decide)) 2)) ((congrFun (f121 2 (by decide)) 3).trans (congrFun (f26 2 (by decide)) 3)) ((f121 6 (by decide)).trans (f26 6 (by decide))) hI2
      have I166 : jI9 σ119 := jI9_fr ((congrFun (f121 9 (by decide)) 0).trans (congrFun (f26 9 (by decide)) 0)) ((f121 10 (by decide)).trans (f26 10 (by decide))) ((f121 11 (by decide)).trans (f26 11 (by decide))) hI9
      have I167 : jI12 σ119 := jI12_fr ((congrFun (f121 12 (by decide)) 0).trans (congrFun (f26 12 (by decide)) 0)) ((f121 13 (by decide)).trans (f26 13 (by decide))) hI12
      have I168 : jI16 σ119 := jI16_fr ((congrFun (f121 16 (by decide)) 0).trans (congrFun (f26 16 (by decide)) 0)) ((congrFun (f121 16 (by decide)) 1).trans (congrFun (f26 16 (by decide)) 1)) ((congrFun (f121 16 (by decide)) 2).trans (congrFun (f26 16 (by decide)) 2)) ((f121 17 (by decide)).trans (f26 17 (by decide))) hI16
      have I169 : jI18 σ119 := jI18_fr ((congrFun (f121 18 (by decide)) 0).trans (congrFun (f26 18 (by decide)) 0)) ((f121 19 (by decide)).trans (f26 19 (by decide))) hI18
      have I170 : jI22 σ119 := jI22_fr ((congrFun (f121 22 (by decide)) 0).trans (congrFun (f26 22 (by decide)) 0)) ((f121 23 (by decide)).trans (f26 23 (by decide))) hI22
      have I171 : jI31 σ119 := jI31_fr ((congrFun (f121 31 (by decide)) 8).trans (congrFun (f26 31 (by decide)) 8)) ((f121 33 (by decide)).trans (f26 33 (by decide))) ((f121 36 (by decide)).trans (f26 36 (by decide))) hI31
      have I172 : jI38 σ119 := jI38_fr (congrFun (f121 38 (by decide)) 0) (congrFun (f121 38 (by decide)) 1) (f121 39 (by decide)) I28
      have I173 : jI43 σ119 := jI43_fr ((congrFun (f121 43 (by decide)) 8).trans (congrFun (f26 43 (by decide)) 8)) hI43
      have I174 : jI47 σ119 := jI47_fr ((congrFun (f121 47 (by decide)) 0).trans (congrFun (f26 47 (by decide)) 0)) ((f121 49 (by decide)).trans (f26 49 (by decide))) hI47
      have I175 : jI50 σ119 := jI50_fr ((f121 52 (by decide)).trans (f26 52 (by decide))) hI50
      have I176 : jI101 σ119 := jI101_fr ((f122 4 (by decide)).trans (congrFun (f26 55 (by decide)) 4)) ((f122 5 (by decide)).trans (congrFun (f26 55 (by decide)) 5)) ((f121 56 (by decide)).trans (f26 56 (by decide))) ((f121 57 (by decide)).trans (f26 57 (by decide))) ((f121 58 (by decide)).trans (f26 58 (by decide))) ((f121 59 (by decide)).trans (f26 59 (by decide))) hI101
      have I177 : jI102 σ119 := jI102_fr ((f122 6 (by decide)).trans (congrFun (f26 55 (by decide)) 6)) ((f121 60 (by decide)).trans (f26 60 (by decide))) ((f121 61 (by decide)).trans (f26 61 (by decide))) hI102
      have I178 : jI103 σ119 := jI103_fr ((f122 9 (by decide)).trans (congrFun (f26 55 (by decide)) 9)) hI103
      have I179 : jI104 σ119 := jI104_fr ((f122 10 (by decide)).trans (congrFun (f26 55 (by decide)) 10)) ((f122 12 (by decide)).trans (congrFun (f26 55 (by decide)) 12)) ((f122 13 (by decide)).trans (congrFun (f26 55 (by decide)) 13)) ((f121 62 (by decide)).trans (f26 62 (by decide))) ((f121 67 (by decide)).trans (f26 67 (by decide))) hI104
      have I180 : jI105 σ119 := jI105_fr ((f122 15 (by decide)).trans (congrFun (f26 55 (by decide)) 15)) ((f121 65 (by decide)).trans (f26 65 (by decide))) hI105
      have I181 : jI106 σ119 := jI106_fr (f122 32 (by decide)) (f121 70 (by decide)) (f121 71 (by decide)) (f121 72 (by decide)) I117
      have I182 : jI107 σ119 := jI107_fr ((f122 12 (by decide)).trans (congrFun (f26 55 (by decide)) 12)) ((f122 47 (by decide)).trans (congrFun (f26 55 (by decide)) 47)) ((f121 80 (by decide)).trans (f26 80 (by decide))) hI107
      have I183 : jI109 σ119 := jI109_fr ((f122 50 (by decide)).trans (congrFun (f26 55 (by decide)) 50)) hI109
      have I184 : jI110 σ119 := jI110_fr ((f121 86 (by decide)).trans (f26 86 (by decide))) ((f121 87 (by decide)).trans (f26 87 (by decide))) hI110
      have I185 : jI111 σ119 := jI111_fr ((f121 79 (by decide)).trans (f26 79 (by decide))) hI111
      have I186 : jI119 σ119 := jI119_fr ((f121 68 (by decide)).trans (f26 68 (by decide))) hI119
      have p187 : jKept σ119 := jKept.fr ((f121 75 (by decide)).trans (f26 75 (by decide))) ((f121 76 (by decide)).trans (f26 76 (by decide))) ((f121 77 (by decide)).trans (f26 77 (by decide))) hs_jKept
      have p188 : jBook σ119 := jBook.fr ((f122 47 (by decide)).trans (congrFun (f26 55 (by decide)) 47)) ((f122 10 (by decide)).trans (congrFun (f26 55 (by decide)) 10)) ((f121 81 (by decide)).trans (f26 81 (by decide))) hs_jBook
      have z189 : (σ119 2 0).toInt = (σ 2 0).toInt := (congrArg Int32.toInt (show σ119 2 0 = (σ 2 0) from ((congrFun (f121 2 (by decide)) 0).trans (congrFun (f26 2 (by decide)) 0))))
      have z190 : (σ119 55 6).toInt = (σ 55 6).toInt := (congrArg Int32.toInt (show σ119 55 6 = (σ 55 6) from ((f122 6 (by decide)).trans (congrFun (f26 55 (by decide)) 6))))
      have z191 : (σ119 2 2).toInt = (σ 2 2).toInt := (congrArg Int32.toInt (show σ119 2 2 = (σ 2 2) from ((congrFun (f121 2 (by decide)) 2).trans (congrFun (f26 2 (by decide)) 2))))
      have z192 : (σ119 55 5).toInt = (σ 55 5).toInt := (congrArg Int32.toInt (show σ119 55 5 = (σ 55 5) from ((f122 5 (by decide)).trans (congrFun (f26 55 (by decide)) 5))))
      have z193 : (σ119 2 3).toInt = (σ 2 3).toInt := (congrArg Int32.toInt (show σ119 2 3 = (σ 2 3) from ((congrFun (f121 2 (by decide)) 3).trans (congrFun (f26 2 (by decide)) 3))))
      have z194 : (σ119 55 4).toInt = (σ 55 4).toInt := (congrArg Int32.toInt (show σ119 55 4 = (σ 55 4) from ((f122 4 (by decide)).trans (congrFun (f26 55 (by decide)) 4))))
      exact ih x164 σ119 τ _ _ ls (by have h9 := tx164; omega) ⟨I165, I166, I167, I168, I169, I170, I171, I172, I173, I174, I175, I176, I177, I178, I179, I180, I181, I182, I183, I184, I185, I186, p187, p188, (by omega), (by omega), (by omega), (show jNumP (σ119 3) (σ119 56) (σ119 6) (σ119 57) (σ119 7) (σ119 58) (σ119 8) (σ119 59) (σ119 55 6).toInt (σ119 55 4).toInt by rw [show σ119 3 = σ 3 from ((f121 3 (by decide)).trans (f26 3 (by decide))), show σ119 56 = σ 56 from ((f121 56 (by decide)).trans (f26 56 (by decide))), show σ119 6 = σ 6 from ((f121 6 (by decide)).trans (f26 6 (by decide))), show σ119 57 = σ 57 from ((f121 57 (by decide)).trans (f26 57 (by decide))), show σ119 7 = σ 7 from ((f121 7 (by decide)).trans (f26 7 (by decide))), show σ119 58 = σ 58 from ((f121 58 (by decide)).trans (f26 58 (by decide))), show σ119 8 = σ 8 from ((f121 8 (by decide)).trans (f26 8 (by decide))), show σ119 59 = σ 59 from ((f121 59 (by decide)).trans (f26 59 (by decide))), show (σ119 55 6).toInt = (σ 55 6).toInt from by omega, show (σ119 55 4).toInt = (σ 55 4).toInt from by omega]; exact hr0)⟩ hP hS (lv_sub hl [0, 1, 2, 3] rfl)
set_option maxHeartbeats 4000000 in
set_option maxRecDepth 100000 in
theorem law_case_29 {p : Program} {e : Env} {s : State} {m : MethodId} {below : List Frame} {meth : Method} {c : Code} (l : Launch) {b L : Nat} {xs : Nat → Int32} {D : va_G} {cI cL : ClassId} {ad zz : Nat → Nat} (C0 : lw_At p s m meth c b L xs) (hJ : jD ad) (hA : ∀ q, jA ad q → s.heap.size ≤ q) (hK : jK D cI cL s) (hZ : jZ zz (fun q : Nat => s.heap.size ≤ q) s s.heap) {x0 : Int32} (hx0 : 0 ≤ x0.toInt) (hxL : x0.toInt + 6 ≤ (L : Int)) (hL : L ≤ 384) {σ : Nat → Nat → Int32} {τ : Nat → Nat → Int64} {H : Heap} {locs : List Loc} (hS : va_S (fun q : Nat => s.heap.size ≤ q) s.heap H locs) {ls : Array Slot} (hAll : jAll σ τ) (hP : jH D cI cL ad σ τ H) (hl : lv_has ls 4 [(3, .int x0), (2, .ref (ad 55)), (1, .ref (ad 0)), (0, .ref b)]) (ih : ∀ (x1 : Int32) (σ : Nat → Nat → Int32) (τ : Nat → Nat → Int64) (H : Heap) (locs : List Loc) (ls : Array Slot), x1.toInt = x0.toInt + 6 → jAll σ τ → jH D cI cL ad σ τ H → va_S (fun q : Nat => s.heap.size ≤ q) s.heap H locs → lv_has ls 4 [(3, .int x1), (2, .ref (ad 55)), (1, .ref (ad 0)), (0, .ref b)] → W p l e room_1 s m #[Value.ref b] below meth c H locs 90 348600 (lw_Z below #[Value.ref b] s) (F0 m 18 ls [])) : W p l e room_1 s m #[Value.ref b] below meth c H locs 90 348600 (lw_Z below #[Value.ref b] s) (F0 m 1033 ls []) := by
  obtain ⟨hx, hb, hr, hml, hown, hts0, hX, hbl, hlocks, hgv⟩ := C0
  have hts : ∀ w ∈ wsL_law, w.before #[Value.ref b] s = true := fun w h => hts0 w (wsL_law_in w h)
  have hbA : ¬ (fun q : Nat => s.heap.size ≤ q) b := Nat.not_le.mpr hbl
  have hown : s.vm.findClass RL = some m.cls := hown
  obtain ⟨hI2, hI9, hI12, hI16, hI18, hI22, hI31, hI38, hI43, hI47, hI50, hI101, hI102, hI103, hI104, hI105, hI106, hI107, hI109, hI110, hI111, hI119, hs_jKept, hs_jBook, ht0, ht1, ht2, hr0⟩ := hAll
  have hL9 : (L : Int) ≤ 384 := by omega
  obtain ⟨i1, i2, i3, i4, i5, w6⟩ : (0 ≤ (σ 2 0).toInt ∧ (σ 2 0).toInt ≤ 4) ∧ (0 ≤ (σ 2 1).toInt ∧ (σ 2 1).toInt ≤ 3) ∧ (0 ≤ (σ 2 2).toInt) ∧ (0 ≤ (σ 2 3).toInt) ∧ ((σ 2 2).toInt + (σ 2 3).toInt ≤ 40) ∧ (∀ k : Nat, k < 40 → 0 ≤ (σ 6 k).toInt ∧ (σ 6 k).toInt ≤ 67) := id hI2
  obtain ⟨i7, i8, i9, w10, w11, w12, w13⟩ : (0 ≤ (σ 55 5).toInt) ∧ ((σ 55 5).toInt ≤ (σ 55 4).toInt) ∧ ((σ 55 4).toInt ≤ 40) ∧ (∀ k : Nat, k < 68 → (-200) ≤ (σ 56 k).toInt ∧ (σ 56 k).toInt ≤ 500) ∧ (∀ k : Nat, k < 40 → 0 ≤ (σ 57 k).toInt ∧ (σ 57 k).toInt ≤ 67) ∧ (∀ k : Nat, k < 40 → (-200) ≤ (σ 58 k).toInt ∧ (σ 58 k).toInt ≤ 500) ∧ (∀ k : Nat, k < 40 → (-200) ≤ (σ 59 k).toInt ∧ (σ 59 k).toInt ≤ 500) := id hI101
  obtain ⟨i14, w15, w16⟩ : (0 ≤ (σ 55 6).toInt ∧ (σ 55 6).toInt ≤ 4) ∧ (∀ k : Nat, k < 4 → 0 ≤ (σ 60 k).toInt ∧ (σ 60 k).toInt ≤ 50) ∧ (∀ k : Nat, k < 4 → 0 ≤ (σ 61 k).toInt ∧ (σ 61 k).toInt ≤ 20) := id hI102
  refine lv_aload_n hx hb dL_law_1033 rfl (lv_at hl 2 rfl) ?_
  refine lv_aload_n hx hb dL_law_1034 rfl (lv_at hl 3 rfl) ?_
  refine lv_iload_n hx hb dL_law_1035 rfl (lv_at hl 0 rfl) ?_
  refine lv_iconst (v := 1) hx hb dL_law_1036 (by decide) ?_
  have g17 := jrg (rfl : x0.toInt = x0.toInt)
  refine lv_iadd hx hb dL_law_1037 ?_
  refine lv_topi (fun x18 ex18 => ?_)
  have tx18 : x18.toInt = x0.toInt + 1 := (jadd ex18 rfl jz_1 (by omega) (by omega)).trans (by omega)
  refine va_sld hx hb hX hbl hbA hS (jin tx18 (by omega) (by omega)) dL_law_1038 ?_
  have g19 := jrg (rfl : (xs x18.toNatClampNeg).toInt = (xs x18.toNatClampNeg).toInt)
  refine jcallV (As := [.int (xs x18.toNatClampNeg)]) (rest := []) ⟨hx, hb, hml, hown, hts⟩ hK hP hA hS hZ (c_X11_trace l D cI cL ad zz hJ σ τ (xs x18.toNatClampNeg) ((xs x18.toNatClampNeg).toInt) rfl hI38) cw_RL_133 (jc_0 cI cL ad σ τ) rfl ⟨Nat.le_of_ble_eq_true rfl, Nat.le_of_ble_eq_true rfl⟩ rfl rfl rfl hl.1 rfl (Nat.le_of_ble_eq_true rfl) dL_law_1039 ⟨Nat.le_of_ble_eq_true rfl, Nat.le_of_ble_eq_true rfl⟩ (fun r21 σ20 τ20 H locs h20 hP hS => ?_)
  obtain ⟨⟨rfl, rfl⟩, h20⟩ := h20
  rcases h20 with h22 | h23
  · obtain ⟨q27, k24, k25, k26⟩ := h22
    have q28 : r21 = (σ 42 (xs x18.toNatClampNeg).toNatClampNeg) := q27.trans rfl
    have q28 := q28.symm
    subst q28
    refine lv_pop hx hb dL_law_1042 rfl ?_
    refine lv_aload_n hx hb dL_law_1043 rfl (lv_at hl 1 rfl) ?_
    refine lv_aload_n hx hb dL_law_1044 rfl (lv_at hl 3 rfl) ?_
    refine lv_iload_n hx hb dL_law_1045 rfl (lv_at hl 0 rfl) ?_
    refine lv_iconst (v := 1) hx hb dL_law_1046 (by decide) ?_
    refine lv_iadd hx hb dL_law_1047 ?_
    refine jtopr ex18.symm ?_
    refine va_sld hx hb hX hbl hbA hS (jin tx18 (by omega) (by omega)) dL_law_1048 ?_
    refine jcallV (As := [.int (xs x18.toNatClampNeg)]) (rest := []) ⟨hx, hb, hml, hown, hts⟩ hK hP hA hS hZ (c_X12_trace l D cI cL ad zz hJ σ τ (xs x18.toNatClampNeg) ((xs x18.toNatClampNeg).toInt) rfl) cw_RL_136 (jc_55 cI cL ad σ τ) rfl ⟨Nat.le_of_ble_eq_true rfl, Nat.le_of_ble_eq_true rfl⟩ rfl rfl rfl hl.1 rfl (Nat.le_of_ble_eq_true rfl) dL_law_1049 ⟨Nat.le_of_ble_eq_true rfl, Nat.le_of_ble_eq_true rfl⟩ (fun r30 σ29 τ29 H locs h29 hP hS => ?_)
    obtain ⟨⟨rfl, rfl⟩, h29⟩ := h29
    rcases h29 with h31 | h32
    · obtain ⟨q36, k33, k34, k35⟩ := h31
      have q37 : r30 = (σ 85 (xs x18.toNatClampNeg).toNatClampNeg) := q36.trans rfl
      have q37 := q37.symm
      subst q37
      refine lv_pop hx hb dL_law_1052 rfl ?_
      refine lv_goto (tgt := 1357) hx hb dL_law_1053 (by decide) ?_
      obtain ⟨x38, ex38⟩ : ∃ y : Int32, y = x0 + 6 := ⟨_, rfl⟩
      have tx38 : x38.toInt = x0.toInt + 6 := (jadd ex38 rfl jz_6 (by omega) (by omega)).trans (by omega)
      refine lv_iinc (v := x38) (lv' := [(3, .int x38), (2, .ref (ad 55)), (1, .ref (ad 0)), (0, .ref b)]) hx hb dL_law_1357 hl (k := 0) rfl (by rw [ex38]; rfl) (by decide) rfl (fun ls hl => ?_)
      refine lv_goto (tgt := 18) hx hb dL_law_1360 (by decide) ?_
      exact ih x38 σ τ _ _ ls (by have h9 := tx38; omega) ⟨hI2, hI9, hI12, hI16, hI18, hI22, hI31, hI38, hI43, hI47, hI50, hI101, hI102, hI103, hI104, hI105, hI106, hI107, hI109, hI110, hI111, hI119, hs_jKept, hs_jBook, (by omega), (by omega), (by omega), hr0⟩ hP hS (lv_sub hl [0, 1, 2, 3] rfl)
    · obtain ⟨q40, k39⟩ := h32
      have q40 := q40.symm
      subst q40
      refine lv_pop hx hb dL_law_1052 rfl ?_
      refine lv_goto (tgt := 1357) hx hb dL_law_1053 (by decide) ?_
      obtain ⟨x41, ex41⟩ : ∃ y : Int32, y = x0 + 6 := ⟨_, rfl⟩
      have tx41 : x41.toInt = x0.toInt + 6 := (jadd ex41 rfl jz_6 (by omega) (by omega)).trans (by omega)
      refine lv_iinc (v := x41) (lv' := [(3, .int x41), (2, .ref (ad 55)), (1, .ref (ad 0)), (0, .ref b)]) hx hb dL_law_1357 hl (k := 0) rfl (by rw [ex41]; rfl) (by decide) rfl (fun ls hl => ?_)
      refine lv_goto (tgt := 18) hx hb dL_law_1360 (by decide) ?_
      exact ih x41 σ τ _ _ ls (by have h9 := tx41; omega) ⟨hI2, hI9, hI12, hI16, hI18, hI22, hI31, hI38, hI43, hI47, hI50, hI101, hI102, hI103, hI104, hI105, hI106, hI107, hI109, hI110, hI111, hI119, hs_jKept, hs_jBook, (by omega), (by omega), (by omega), hr0⟩ hP hS (lv_sub hl [0, 1, 2, 3] rfl)
  · obtain ⟨q43, k42⟩ := h23
    have q43 := q43.symm
    subst q43
    refine lv_pop hx hb dL_law_1042 rfl ?_
    refine lv_aload_n hx hb dL_law_1043 rfl (lv_at hl 1 rfl) ?_
    refine lv_aload_n hx hb dL_law_1044 rfl (lv_at hl 3 rfl) ?_
    refine lv_iload_n hx hb dL_law_1045 rfl (lv_at hl 0 rfl) ?_
    refine lv_iconst (v := 1) hx hb dL_law_1046 (by decide) ?_
    refine lv_iadd hx hb dL_law_1047 ?_
    refine jtopr ex18.symm ?_
    refine va_sld hx hb hX hbl hbA hS (jin tx18 (by omega) (by omega)) dL_law_1048 ?_
    refine jcallV (As := [.int (xs x18.toNatClampNeg)]) (rest := []) ⟨hx, hb, hml, hown, hts⟩ hK hP hA hS hZ (c_X12_trace l D cI cL ad zz hJ σ τ (xs x18.toNatClampNeg) ((xs x18.toNatClampNeg).toInt) rfl) cw_RL_136 (jc_55 cI cL ad σ τ) rfl ⟨Nat.le_of_ble_eq_true rfl, Nat.le_of_ble_eq_true rfl⟩ rfl rfl rfl hl.1 rfl (Nat.le_of_ble_eq_true rfl) dL_law_1049 ⟨Nat.le_of_ble_eq_true rfl, Nat.le_of_ble_eq_true rfl⟩ (fun r45 σ44 τ44 H locs h44 hP hS => ?_)
    obtain ⟨⟨rfl, rfl⟩, h44⟩ := h44
    rcases h44 with h46 | h47
    · obtain ⟨q51, k48, k49, k50⟩ := h46
      have q52 : r45 = (σ 85 (xs x18.toNatClampNeg).toNatClampNeg) := q51.trans rfl
      have q52 := q52.symm
      subst q52
      refine lv_pop hx hb dL_law_1052 rfl ?_
      refine lv_goto (tgt := 1357) hx hb dL_law_1053 (by decide) ?_
      obtain ⟨x53, ex53⟩ : ∃ y : Int32, y = x0 + 6 := ⟨_, rfl⟩
      have tx53 : x53.toInt = x0.toInt + 6 := (jadd ex53 rfl jz_6 (by omega) (by omega)).trans (by omega)
      refine lv_iinc (v := x53) (lv' := [(3, .int x53), (2, .ref (ad 55)), (1, .ref (ad 0)), (0, .ref b)]) hx hb dL_law_1357 hl (k := 0) rfl (by rw [ex53]; rfl) (by decide) rfl (fun ls hl => ?_)
      refine lv_goto (tgt := 18) hx hb dL_law_1360 (by decide) ?_
      exact ih x53 σ τ _ _ ls (by have h9 := tx53; omega) ⟨hI2, hI9, hI12, hI16, hI18, hI22, hI31, hI38, hI43, hI47, hI50, hI101, hI102, hI103, hI104, hI105, hI106, hI107, hI109, hI110, hI111, hI119, hs_jKept, hs_jBook, (by omega), (by omega), (by omega), hr0⟩ hP hS (lv_sub hl [0, 1, 2, 3] rfl)
    · obtain ⟨q55, k54⟩ := h47
      have q55 := q55.symm
      subst q55
      refine lv_pop hx hb dL_law_1052 rfl ?_
      refine lv_goto (tgt := 1357) hx hb dL_law_1053 (by decide) ?_
      obtain ⟨x56, ex56⟩ : ∃ y : Int32, y = x0 + 6 := ⟨_, rfl⟩
      have tx56 : x56.toInt = x0.toInt + 6 := (jadd ex56 rfl jz_6 (by omega) (by omega)).trans (by omega)
      refine lv_iinc (v := x56) (lv' := [(3, .int x56), (2, .ref (ad 55)), (1, .ref (ad 0)), (0, .ref b)]) hx hb dL_law_1357 hl (k := 0) rfl (by rw [ex56]; rfl) (by decide) rfl (fun ls hl => ?_)
      refine lv_goto (tgt := 18) hx hb dL_law_1360 (by decide) ?_
      exact ih x56 σ τ _ _ ls (by have h9 := tx56; omega) ⟨hI2, hI9, hI12, hI16, hI18, hI22, hI31, hI38, hI43, hI47, hI50, hI101, hI102, hI103, hI104, hI105, hI106, hI107, hI109, hI110, hI111, hI119, hs_jKept, hs_jBook, (by omega), (by omega), (by omega), hr0⟩ hP hS (lv_sub hl [0, 1, 2, 3] rfl)
set_option maxHeartbeats 4000000 in
set_option maxRecDepth 100000 in
theorem law_case_30 {p : Program} {e : Env} {s : State} {m : MethodId} {below : List Frame} {meth : Method} {c : Code} (l : Launch) {b L : Nat} {xs : Nat → Int32} {D : va_G} {cI cL : ClassId} {ad zz : Nat → Nat} (C0 : lw_At p s m meth c b L xs) (hJ : jD ad) (hA : ∀ q, jA ad q → s.heap.size ≤ q) (hK : jK D cI cL s) (hZ : jZ zz (fun q : Nat => s.heap.size ≤ q) s s.heap) {x0 : Int32} (hx0 : 0 ≤ x0.toInt) (hxL : x0.toInt + 6 ≤ (L : Int)) (hL : L ≤ 384) {σ : Nat → Nat → Int32} {τ : Nat → Nat → Int64} {H : Heap} {locs : List Loc} (hS : va_S (fun q : Nat => s.heap.size ≤ q) s.heap H locs) {ls : Array Slot} (hAll : jAll σ τ) (hP : jH D cI cL ad σ τ H) (hl : lv_has ls 4 [(3, .int x0), (2, .ref (ad 55)), (1, .ref (ad 0)), (0, .ref b)]) (ih : ∀ (x1 : Int32) (σ : Nat → Nat → Int32) (τ : Nat → Nat → Int64) (H : Heap) (locs : List Loc) (ls : Array Slot), x1.toInt = x0.toInt + 6 → jAll σ τ → jH D cI cL ad σ τ H → va_S (fun q : Nat => s.heap.size ≤ q) s.heap H locs → lv_has ls 4 [(3, .int x1), (2, .ref (ad 55)), (1, .ref (ad 0)), (0, .ref b)] → W p l e room_1 s m #[Value.ref b] below meth c H locs 90 348600 (lw_Z below #[Value.ref b] s) (F0 m 18 ls [])) : W p l e room_1 s m #[Value.ref b] below meth c H locs 90 348600 (lw_Z below #[Value.ref b] s) (F0 m 1056 ls []) := by
  obtain ⟨hx, hb, hr, hml, hown, hts0, hX, hbl, hlocks, hgv⟩ := C0
  have hts : ∀ w ∈ wsL_law, w.before #[Value.ref b] s = true := fun w h => hts0 w (wsL_law_in w h)
  have hbA : ¬ (fun q : Nat => s.heap.size ≤ q) b := Nat.not_le.mpr hbl
  have hown : s.vm.findClass RL = some m.cls := hown
  obtain ⟨hI2, hI9, hI12, hI16, hI18, hI22, hI31, hI38, hI43, hI47, hI50, hI101, hI102, hI103, hI104, hI105, hI106, hI107, hI109, hI110, hI111, hI119, hs_jKept, hs_jBook, ht0, ht1, ht2, hr0⟩ := hAll
  have hL9 : (L : Int) ≤ 384 := by omega
  obtain ⟨i1, i2, i3, i4, i5, w6⟩ : (0 ≤ (σ 2 0).toInt ∧ (σ 2 0).toInt ≤ 4) ∧ (0 ≤ (σ 2 1).toInt ∧ (σ 2 1).toInt ≤ 3) ∧ (0 ≤ (σ 2 2).toInt) ∧ (0 ≤ (σ 2 3).toInt) ∧ ((σ 2 2).toInt + (σ 2 3).toInt ≤ 40) ∧ (∀ k : Nat, k < 40 → 0 ≤ (σ 6 k).toInt ∧ (σ 6 k).toInt ≤ 67) := id hI2
  obtain ⟨i7, i8, i9, w10, w11, w12, w13⟩ : (0 ≤ (σ 55 5).toInt) ∧ ((σ 55 5).toInt ≤ (σ 55 4).toInt) ∧ ((σ 55 4).toInt ≤ 40) ∧ (∀ k : Nat, k < 68 → (-200) ≤ (σ 56 k).toInt ∧ (σ 56 k).toInt ≤ 500) ∧ (∀ k : Nat, k < 40 → 0 ≤ (σ 57 k).toInt ∧ (σ 57 k).toInt ≤ 67) ∧ (∀ k : Nat, k < 40 → (-200) ≤ (σ 58 k).toInt ∧ (σ 58 k).toInt ≤ 500) ∧ (∀ k : Nat, k < 40 → (-200) ≤ (σ 59 k).toInt ∧ (σ 59 k).toInt ≤ 500) := id hI101
  obtain ⟨i14, w15, w16⟩ : (0 ≤ (σ 55 6).toInt ∧ (σ 55 6).toInt ≤ 4) ∧ (∀ k : Nat, k < 4 → 0 ≤ (σ 60 k).toInt ∧ (σ 60 k).toInt ≤ 50) ∧ (∀ k : Nat, k < 4 → 0 ≤ (σ 61 k).toInt ∧ (σ 61 k).toInt ≤ 20) := id hI102
  refine lv_aload_n hx hb dL_law_1056 rfl (lv_at hl 2 rfl) ?_
  refine lv_aload_n hx hb dL_law_1057 rfl (lv_at hl 3 rfl) ?_
  refine lv_iload_n hx hb dL_law_1058 rfl (lv_at hl 0 rfl) ?_
  refine lv_iconst (v := 1) hx hb dL_law_1059 (by decide) ?_
  have g17 := jrg (rfl : x0.toInt = x0.toInt)
  refine lv_iadd hx hb dL_law_1060 ?_
  refine lv_topi (fun x18 ex18 => ?_)
  have tx18 : x18.toInt = x0.toInt + 1 := (jadd ex18 rfl jz_1 (by omega) (by omega)).trans (by omega)
  refine va_sld hx hb hX hbl hbA hS (jin tx18 (by omega) (by omega)) dL_law_1061 ?_
  have g19 := jrg (rfl : (xs x18.toNatClampNeg).toInt = (xs x18.toNatClampNeg).toInt)
  refine lv_aload_n hx hb dL_law_1062 rfl (lv_at hl 3 rfl) ?_
  refine lv_iload_n hx hb dL_law_1063 rfl (lv_at hl 0 rfl) ?_
  refine lv_iconst (v := 2) hx hb dL_law_1064 (by decide) ?_
  refine lv_iadd hx hb dL_law_1065 ?_
  refine lv_topi (fun x20 ex20 => ?_)
  have tx20 : x20.toInt = x0.toInt + 2 := (jadd ex20 rfl jz_2 (by omega) (by omega)).trans (by omega)
  refine va_sld hx hb hX hbl hbA hS (jin tx20 (by omega) (by omega)) dL_law_1066 ?_
  have g21 := jrg (rfl : (xs x20.toNatClampNeg).toInt = (xs x20.toNatClampNeg).toInt)
  refine jcallV (As := [.int (xs x18.toNatClampNeg), .int (xs x20.toNatClampNeg)]) (rest := []) ⟨hx, hb, hml, hown, hts⟩ hK hP hA hS hZ (c_X11_keep l D cI cL ad zz hJ σ τ (xs x18.toNatClampNeg) ((xs x18.toNatClampNeg).toInt) rfl (xs x20.toNatClampNeg) ((xs x20.toNatClampNeg).toInt) rfl hI38 hI50) cw_RL_137 (jc_0 cI cL ad σ τ) rfl ⟨Nat.le_of_ble_eq_true rfl, Nat.le_of_ble_eq_true rfl⟩ rfl rfl rfl hl.1 rfl (Nat.le_of_ble_eq_true rfl) dL_law_1067 ⟨Nat.le_of_ble_eq_true rfl, Nat.le_of_ble_eq_true rfl⟩ (fun r23 σ22 τ22 H locs h22 hP hS => ?_)
  obtain ⟨rfl, f24, I25, h22⟩ := h22
  rcases h22 with h26 | h27 | h28
  · obtain ⟨q32, k29, k30, k31⟩ := h26
    have q32 := q32.symm
    subst q32
    refine lv_pop hx hb dL_law_1070 rfl ?_
    refine lv_aload_n hx hb dL_law_1071 rfl (lv_at hl 1 rfl) ?_
    refine lv_aload_n hx hb dL_law_1072 rfl (lv_at hl 3 rfl) ?_
    refine lv_iload_n hx hb dL_law_1073 rfl (lv_at hl 0 rfl) ?_
    refine lv_iconst (v := 1) hx hb dL_law_1074 (by decide) ?_
    refine lv_iadd hx hb dL_law_1075 ?_
    refine jtopr ex18.symm ?_
    refine va_sld hx hb hX hbl hbA hS (jin tx18 (by omega) (by omega)) dL_law_1076 ?_
    refine lv_aload_n hx hb dL_law_1077 rfl (lv_at hl 3 rfl) ?_
    refine lv_iload_n hx hb dL_law_1078 rfl (lv_at hl 0 rfl) ?_
    refine lv_iconst (v := 2) hx hb dL_law_1079 (by decide) ?_
    refine lv_iadd hx hb dL_law_1080 ?_
    refine jtopr ex20.symm ?_
    refine va_sld hx hb hX hbl hbA hS (jin tx20 (by omega) (by omega)) dL_law_1081 ?_
    have I33 : jI106 σ22 := jI106_fr (congrFun (f24 55 (by decide)) 32) (f24 70 (by decide)) (f24 71 (by decide)) (f24 72 (by decide)) hI106
    have I34 : jI110 σ22 := jI110_fr (f24 86 (by decide)) (f24 87 (by decide)) hI110
    have z35 : (σ22 55 32).toInt = (σ 55 32).toInt := (congrArg Int32.toInt (show σ22 55 32 = (σ 55 32) from (congrFun (f24 55 (by decide)) 32)))
    refine jcallV (As := [.int (xs x18.toNatClampNeg), .int (xs x20.toNatClampNeg)]) (rest := []) ⟨hx, hb, hml, hown, hts⟩ hK hP hA hS hZ (c_X12_keep l D cI cL ad zz hJ σ22 τ (xs x18.toNatClampNeg) ((xs x18.toNatClampNeg).toInt) rfl (xs x20.toNatClampNeg) ((xs x20.toNatClampNeg).toInt) rfl I33 I34) cw_RL_140 (jc_55 cI cL ad σ22 τ) rfl ⟨Nat.le_of_ble_eq_true rfl, Nat.le_of_ble_eq_true rfl⟩ rfl rfl rfl hl.1 rfl (Nat.le_of_ble_eq_true rfl) dL_law_1082 ⟨Nat.le_of_ble_eq_true rfl, Nat.le_of_ble_eq_true rfl⟩ (fun r37 σ36 τ36 H locs h36 hP hS => ?_)
    obtain ⟨rfl, f38, I39, h36⟩ := h36
    rcases h36 with h40 | h41 | h42
    · obtain ⟨q46, k43, k44, k45⟩ := h40
      have q46 := q46.symm
      subst q46
      refine lv_pop hx hb dL_law_1085 rfl ?_
      refine lv_goto (tgt := 1357) hx hb dL_law_1086 (by decide) ?_
      obtain ⟨x47, ex47⟩ : ∃ y : Int32, y = x0 + 6 := ⟨_, rfl⟩
      have tx47 : x47.toInt = x0.toInt + 6 := (jadd ex47 rfl jz_6 (by omega) (by omega)).trans (by omega)
      refine lv_iinc (v := x47) (lv' := [(3, .int x47), (2, .ref (ad 55)), (1, .ref (ad 0)), (0, .ref b)]) hx hb dL_law_1357 hl (k := 0) rfl (by rw [ex47]; rfl) (by decide) rfl (fun ls hl => ?_)
      refine lv_goto (tgt := 18) hx hb dL_law_1360 (by decide) ?_
      have I48 : jI2 σ36 := jI2_fr ((congrFun (f38 2 (by decide)) 0).trans (congrFun (f24 2 (by decide)) 0)) ((congrFun (f38 2 (by decide)) 1).trans (congrFun (f24 2 (by decide)) 1)) ((congrFun (f38 2 (by decide)) 2).trans (congrFun (f24 2 (by decide)) 2)) ((congrFun (f38 2 (by decide)) 3).trans (congrFun (f24 2 (by decide)) 3)) ((f38 6 (by decide)).trans (f24 6 (by decide))) hI2
      have I49 : jI9 σ36 := jI9_fr ((congrFun (f38 9 (by decide)) 0).trans (congrFun (f24 9 (by decide)) 0)) ((f38 10 (by decide)).trans (f24 10 (by decide))) ((f38 11 (by decide)).trans (f24 11 (by decide))) hI9
      have I50 : jI12 σ36 := jI12_fr ((congrFun (f38 12 (by decide)) 0).trans (congrFun (f24 12 (by decide)) 0)) ((f38 13 (by decide)).trans (f24 13 (by decide))) hI12
      have I51 : jI16 σ36 := jI16_fr ((congrFun (f38 16 (by decide)) 0).trans (congrFun (f24 16 (by decide)) 0)) ((congrFun (f38 16 (by decide)) 1).trans (congrFun (f24 16 (by decide)) 1)) ((congrFun (f38 16 (by decide)) 2).trans (congrFun (f24 16 (by decide)) 2)) ((f38 17 (by decide)).trans (f24 17 (by decide))) hI16
      have I52 : jI18 σ36 := jI18_fr ((congrFun (f38 18 (by decide)) 0).trans (congrFun (f24 18 (by decide)) 0)) ((f38 19 (by decide)).trans (f24 19 (by decide))) hI18
      have I53 : jI22 σ36 := jI22_fr ((congrFun (f38 22 (by decide)) 0).trans (congrFun (f24 22 (by decide)) 0)) ((f38 23 (by decide)).trans (f24 23 (by decide))) hI22
      have I54 : jI31 σ36 := jI31_fr ((congrFun (f38 31 (by decide)) 8).trans (congrFun (f24 31 (by decide)) 8)) ((f38 33 (by decide)).trans (f24 33 (by decide))) ((f38 36 (by decide)).trans (f24 36 (by decide))) hI31
      have I55 : jI38 σ36 := jI38_fr ((congrFun (f38 38 (by decide)) 0).trans (congrFun (f24 38 (by decide)) 0)) ((congrFun (f38 38 (by decide)) 1).trans (congrFun (f24 38 (by decide)) 1)) ((f38 39 (by decide)).trans (f24 39 (by decide))) hI38
      have I56 : jI43 σ36 := jI43_fr ((congrFun (f38 43 (by decide)) 8).trans (congrFun (f24 43 (by decide)) 8)) hI43
      have I57 : jI47 σ36 := jI47_fr ((congrFun (f38 47 (by decide)) 0).trans (congrFun (f24 47 (by decide)) 0)) ((f38 49 (by decide)).trans (f24 49 (by decide))) hI47
      have I58 : jI50 σ36 := jI50_fr (f38 52 (by decide)) I25
      have I59 : jI101 σ36 := jI101_fr ((congrFun (f38 55 (by decide)) 4).trans (congrFun (f24 55 (by decide)) 4)) ((congrFun (f38 55 (by decide)) 5).trans (congrFun (f24 55 (by decide)) 5)) ((f38 56 (by decide)).trans (f24 56 (by decide))) ((f38 57 (by decide)).trans (f24 57 (by decide))) ((f38 58 (by decide)).trans (f24 58 (by decide))) ((f38 59 (by decide)).trans (f24 59 (by decide))) hI101
      have I60 : jI102 σ36 := jI102_fr ((congrFun (f38 55 (by decide)) 6).trans (congrFun (f24 55 (by decide)) 6)) ((f38 60 (by decide)).trans (f24 60 (by decide))) ((f38 61 (by decide)).trans (f24 61 (by decide))) hI102
      have I61 : jI103 σ36 := jI103_fr ((congrFun (f38 55 (by decide)) 9).trans (congrFun (f24 55 (by decide)) 9)) hI103
      have I62 : jI104 σ36 := jI104_fr ((congrFun (f38 55 (by decide)) 10).trans (congrFun (f24 55 (by decide)) 10)) ((congrFun (f38 55 (by decide)) 12).trans (congrFun (f24 55 (by decide)) 12)) ((congrFun (f38 55 (by decide)) 13).trans (congrFun (f24 55 (by decide)) 13)) ((f38 62 (by decide)).trans (f24 62 (by decide))) ((f38 67 (by decide)).trans (f24 67 (by decide))) hI104
      have I63 : jI105 σ36 := jI105_fr ((congrFun (f38 55 (by decide)) 15).trans (congrFun (f24 55 (by decide)) 15)) ((f38 65 (by decide)).trans (f24 65 (by decide))) hI105
      have I64 : jI106 σ36 := jI106_fr (congrFun (f38 55 (by decide)) 32) (f38 70 (by decide)) (f38 71 (by decide)) (f38 72 (by decide)) I33
      have I65 : jI107 σ36 := jI107_fr ((congrFun (f38 55 (by decide)) 12).trans (congrFun (f24 55 (by decide)) 12)) ((congrFun (f38 55 (by decide)) 47).trans (congrFun (f24 55 (by decide)) 47)) ((f38 80 (by decide)).trans (f24 80 (by decide))) hI107
      have I66 : jI109 σ36 := jI109_fr ((congrFun (f38 55 (by decide)) 50).trans (congrFun (f24 55 (by decide)) 50)) hI109
      have I67 : jI111 σ36 := jI111_fr ((f38 79 (by decide)).trans (f24 79 (by decide))) hI111
      have I68 : jI119 σ36 := jI119_fr ((f38 68 (by decide)).trans (f24 68 (by decide))) hI119
      have p69 : jKept σ36 := jKept.fr ((f38 75 (by decide)).trans (f24 75 (by decide))) ((f38 76 (by decide)).trans (f24 76 (by decide))) ((f38 77 (by decide)).trans (f24 77 (by decide))) hs_jKept
      have p70 : jBook σ36 := jBook.fr ((congrFun (f38 55 (by decide)) 47).trans (congrFun (f24 55 (by decide)) 47)) ((congrFun (f38 55 (by decide)) 10).trans (congrFun (f24 55 (by decide)) 10)) ((f38 81 (by decide)).trans (f24 81 (by decide))) hs_jBook
      have z71 : (σ36 2 0).toInt = (σ 2 0).toInt := (congrArg Int32.toInt (show σ36 2 0 = (σ 2 0) from ((congrFun (f38 2 (by decide)) 0).trans (congrFun (f24 2 (by decide)) 0))))
      have z72 : (σ36 55 6).toInt = (σ 55 6).toInt := (congrArg Int32.toInt (show σ36 55 6 = (σ 55 6) from ((congrFun (f38 55 (by decide)) 6).trans (congrFun (f24 55 (by decide)) 6))))
      have z73 : (σ36 2 2).toInt = (σ 2 2).toInt := (congrArg Int32.toInt (show σ36 2 2 = (σ 2 2) from ((congrFun (f38 2 (by decide)) 2).trans (congrFun (f24 2 (by decide)) 2))))
      have z74 : (σ36 55 5).toInt = (σ 55 5).toInt := (congrArg Int32.toInt (show σ36 55 5 = (σ 55 5) from ((congrFun (f38 55 (by decide)) 5).trans (congrFun (f24 55 (by decide)) 5))))
      have z75 : (σ36 2 3).toInt = (σ 2 3).toInt := (congrArg Int32.toInt (show σ36 2 3 = (σ 2 3) from ((congrFun (f38 2 (by decide)) 3).trans (congrFun (f24 2 (by decide)) 3))))
      have z76 : (σ36 55 4).toInt = (σ 55 4).toInt := (congrArg Int32.toInt (show σ36 55 4 = (σ 55 4) from ((congrFun (f38 55 (by decide)) 4).trans (congrFun (f24 55 (by decide)) 4))))
      exact ih x47 σ36 τ _ _ ls (by have h9 := tx47; omega) ⟨I48, I49, I50, I51, I52, I53, I54, I55, I56, I57, I58, I59, I60, I61, I62, I63, I64, I65, I66, I39, I67, I68, p69, p70, (by omega), (by omega), (by omega), (show jNumP (σ36 3) (σ36 56) (σ36 6) (σ36 57) (σ36 7) (σ36 58) (σ36 8) (σ36 59) (σ36 55 6).toInt (σ36 55 4).toInt by rw [show σ36 3 = σ 3 from ((f38 3 (by decide)).trans (f24 3 (by decide))), show σ36 56 = σ 56 from ((f38 56 (by decide)).trans (f24 56 (by decide))), show σ36 6 = σ 6 from ((f38 6 (by decide)).trans (f24 6 (by decide))), show σ36 57 = σ 57 from ((f38 57 (by decide)).trans (f24 57 (by decide))), show σ36 7 = σ 7 from ((f38 7 (by decide)).trans (f24 7 (by decide))), show σ36 58 = σ 58 from ((f38 58 (by decide)).trans (f24 58 (by decide))), show σ36 8 = σ 8 from ((f38 8 (by decide)).trans (f24 8 (by decide))), show σ36 59 = σ 59 from ((f38 59 (by decide)).trans (f24 59 (by decide))), show (σ36 55 6).toInt = (σ 55 6).toInt from by omega, show (σ36 55 4).toInt = (σ 55 4).toInt from by omega]; exact hr0)⟩ hP hS (lv_sub hl [0, 1, 2, 3] rfl)
    · obtain ⟨q80, k77, k78, k79⟩ := h41
      exact absurd (by omega : False) id
    · obtain ⟨q83, k81, k82⟩ := h42
      exact absurd (by omega : False) id
  · obtain ⟨q87, k84, k85, k86⟩ := h27
    have q87 := q87.symm
    subst q87
    refine lv_pop hx hb dL_law_1070 rfl ?_
    refine lv_aload_n hx hb dL_law_1071 rfl (lv_at hl 1 rfl) ?_
    refine lv_aload_n hx hb dL_law_1072 rfl (lv_at hl 3 rfl) ?_
    refine lv_iload_n hx hb dL_law_1073 rfl (lv_at hl 0 rfl) ?_
    refine lv_iconst (v := 1) hx hb dL_law_1074 (by decide) ?_
    refine lv_iadd hx hb dL_law_1075 ?_
    refine jtopr ex18.symm ?_
    refine va_sld hx hb hX hbl hbA hS (jin tx18 (by omega) (by omega)) dL_law_1076 ?_
    refine lv_aload_n hx hb dL_law_1077 rfl (lv_at hl 3 rfl) ?_
    refine lv_iload_n hx hb dL_law_1078 rfl (lv_at hl 0 rfl) ?_
    refine lv_iconst (v := 2) hx hb dL_law_1079 (by decide) ?_
    refine lv_iadd hx hb dL_law_1080 ?_
    refine jtopr ex20.symm ?_
    refine va_sld hx hb hX hbl hbA hS (jin tx20 (by omega) (by omega)) dL_law_1081 ?_
    have I88 : jI106 σ22 := jI106_fr (congrFun (f24 55 (by decide)) 32) (f24 70 (by decide)) (f24 71 (by decide)) (f24 72 (by decide)) hI106
    have I89 : jI110 σ22 := jI110_fr (f24 86 (by decide)) (f24 87 (by decide)) hI110
    have z90 : (σ22 55 32).toInt = (σ 55 32).toInt := (congrArg Int32.toInt (show σ22 55 32 = (σ 55 32) from (congrFun (f24 55 (by decide)) 32)))
    refine jcallV (As := [.int (xs x18.toNatClampNeg), .int (xs x20.toNatClampNeg)]) (rest := []) ⟨hx, hb, hml, hown, hts⟩ hK hP hA hS hZ (c_X12_keep l D cI cL ad zz hJ σ22 τ (xs x18.toNatClampNeg) ((xs x18.toNatClampNeg).toInt) rfl (xs x20.toNatClampNeg) ((xs x20.toNatClampNeg).toInt) rfl I88 I89) cw_RL_140 (jc_55 cI cL ad σ22 τ) rfl ⟨Nat.le_of_ble_eq_true rfl, Nat.le_of_ble_eq_true rfl⟩ rfl rfl rfl hl.1 rfl (Nat.le_of_ble_eq_true rfl) dL_law_1082 ⟨Nat.le_of_ble_eq_true rfl, Nat.le_of_ble_eq_true rfl⟩ (fun r92 σ91 τ91 H locs h91 hP hS => ?_)
    obtain ⟨rfl, f93, I94, h91⟩ := h91
    rcases h91 with h95 | h96 | h97
    · obtain ⟨q101, k98, k99, k100⟩ := h95
      exact absurd (by omega : False) id
    · obtain ⟨q105, k102, k103, k104⟩ := h96
      have q105 := q105.symm
      subst q105
      refine lv_pop hx hb dL_law_1085 rfl ?_
      refine lv_goto (tgt := 1357) hx hb dL_law_1086 (by decide) ?_
      obtain ⟨x106, ex106⟩ : ∃ y : Int32, y = x0 + 6 := ⟨_, rfl⟩
      have tx106 : x106.toInt = x0.toInt + 6 := (jadd ex106 rfl jz_6 (by omega) (by omega)).trans (by omega)
      refine lv_iinc (v := x106) (lv' := [(3, .int x106), (2, .ref (ad 55)), (1, .ref (ad 0)), (0, .ref b)]) hx hb dL_law_1357 hl (k := 0) rfl (by rw [ex106]; rfl) (by decide) rfl (fun ls hl => ?_)
      refine lv_goto (tgt := 18) hx hb dL_law_1360 (by decide) ?_
      have I107 : jI2 σ91 := jI2_fr ((congrFun (f93 2 (by decide)) 0).trans (congrFun (f24 2 (by decide)) 0)) ((congrFun (f93 2 (by decide)) 1).trans (congrFun (f24 2 (by decide)) 1)) ((congrFun (f93 2 (by decide)) 2).trans (congrFun (f24 2 (by decide)) 2)) ((congrFun (f93 2 (by decide)) 3).trans (congrFun (f24 2 (by decide)) 3)) ((f93 6 (by decide)).trans (f24 6 (by decide))) hI2
      have I108 : jI9 σ91 := jI9_fr ((congrFun (f93 9 (by decide)) 0).trans (congrFun (f24 9 (by decide)) 0)) ((f93 10 (by decide)).trans (f24 10 (by decide))) ((f93 11 (by decide)).trans (f24 11 (by decide))) hI9
      have I109 : jI12 σ91 := jI12_fr ((congrFun (f93 12 (by decide)) 0).trans (congrFun (f24 12 (by decide)) 0)) ((f93 13 (by decide)).trans (f24 13 (by decide))) hI12
      have I110 : jI16 σ91 := jI16_fr ((congrFun (f93 16 (by decide)) 0).trans (congrFun (f24 16 (by decide)) 0)) ((congrFun (f93 16 (by decide)) 1).trans (congrFun (f24 16 (by decide)) 1)) ((congrFun (f93 16 (by decide)) 2).trans (congrFun (f24 16 (by decide)) 2)) ((f93 17 (by decide)).trans (f24 17 (by decide))) hI16
      have I111 : jI18 σ91 := jI18_fr ((congrFun (f93 18 (by decide)) 0).trans (congrFun (f24 18 (by decide)) 0)) ((f93 19 (by decide)).trans (f24 19 (by decide))) hI18
      have I112 : jI22 σ91 := jI22_fr ((congrFun (f93 22 (by decide)) 0).trans (congrFun (f24 22 (by decide)) 0)) ((f93 23 (by decide)).trans (f24 23 (by decide))) hI22
      have I113 : jI31 σ91 := jI31_fr ((congrFun (f93 31 (by decide)) 8).trans (congrFun (f24 31 (by decide)) 8)) ((f93 33 (by decide)).trans (f24 33 (by decide))) ((f93 36 (by decide)).trans (f24 36 (by decide))) hI31
      have I114 : jI38 σ91 := jI38_fr ((congrFun (f93 38 (by decide)) 0).trans (congrFun (f24 38 (by decide)) 0)) ((congrFun (f93 38 (by decide)) 1).trans (congrFun (f24 38 (by decide)) 1)) ((f93 39 (by decide)).trans (f24 39 (by decide))) hI38
      have I115 : jI43 σ91 := jI43_fr ((congrFun (f93 43 (by decide)) 8).trans (congrFun (f24 43 (by decide)) 8)) hI43
      have I116 : jI47 σ91 := jI47_fr ((congrFun (f93 47 (by decide)) 0).trans (congrFun (f24 47 (by decide)) 0)) ((f93 49 (by decide)).trans (f24 49 (by decide))) hI47
      have I117 : jI50 σ91 := jI50_fr (f93 52 (by decide)) I25
      have I118 : jI101 σ91 := jI101_fr ((congrFun (f93 55 (by decide)) 4).trans (congrFun (f24 55 (by decide)) 4)) ((congrFun (f93 55 (by decide)) 5).trans (congrFun (f24 55 (by decide)) 5)) ((f93 56 (by decide)).trans (f24 56 (by decide))) ((f93 57 (by decide)).trans (f24 57 (by decide))) ((f93 58 (by decide)).trans (f24 58 (by decide))) ((f93 59 (by decide)).trans (f24 59 (by decide))) hI101
      have I119 : jI102 σ91 := jI102_fr ((congrFun (f93 55 (by decide)) 6).trans (congrFun (f24 55 (by decide)) 6)) ((f93 60 (by decide)).trans (f24 60 (by decide))) ((f93 61 (by decide)).trans (f24 61 (by decide))) hI102
      have I120 : jI103 σ91 := jI103_fr ((congrFun (f93 55 (by decide)) 9).trans (congrFun (f24 55 (by decide)) 9)) hI103
      have I121 : jI104 σ91 := jI104_fr ((congrFun (f93 55 (by decide)) 10).trans (congrFun (f24 55 (by decide)) 10)) ((congrFun (f93 55 (by decide)) 12).trans (congrFun (f24 55 (by decide)) 12)) ((congrFun (f93 55 (by decide)) 13).trans (congrFun (f24 55 (by decide)) 13)) ((f93 62 (by decide)).trans (f24 62 (by decide))) ((f93 67 (by decide)).trans (f24 67 (by decide))) hI104
      have I122 : jI105 σ91 := jI105_fr ((congrFun (f93 55 (by decide)) 15).trans (congrFun (f24 55 (by decide)) 15)) ((f93 65 (by decide)).trans (f24 65 (by decide))) hI105
      have I123 : jI106 σ91 := jI106_fr (congrFun (f93 55 (by decide)) 32) (f93 70 (by decide)) (f93 71 (by decide)) (f93 72 (by decide)) I88
      have I124 : jI107 σ91 := jI107_fr ((congrFun (f93 55 (by decide)) 12).trans (congrFun (f24 55 (by decide)) 12)) ((congrFun (f93 55 (by decide)) 47).trans (congrFun (f24 55 (by decide)) 47)) ((f93 80 (by decide)).trans (f24 80 (by decide))) hI107
      have I125 : jI109 σ91 := jI109_fr ((congrFun (f93 55 (by decide)) 50).trans (congrFun (f24 55 (by decide)) 50)) hI109
      have I126 : jI111 σ91 := jI111_fr ((f93 79 (by decide)).trans (f24 79 (by decide))) hI111
      have I127 : jI119 σ91 := jI119_fr ((f93 68 (by decide)).trans (f24 68 (by decide))) hI119
      have p128 : jKept σ91 := jKept.fr ((f93 75 (by decide)).trans (f24 75 (by decide))) ((f93 76 (by decide)).trans (f24 76 (by decide))) ((f93 77 (by decide)).trans (f24 77 (by decide))) hs_jKept
      have p129 : jBook σ91 := jBook.fr ((congrFun (f93 55 (by decide)) 47).trans (congrFun (f24 55 (by decide)) 47)) ((congrFun (f93 55 (by decide)) 10).trans (congrFun (f24 55 (by decide)) 10)) ((f93 81 (by decide)).trans (f24 81 (by decide))) hs_jBook
      have z130 : (σ91 2 0).toInt = (σ 2 0).toInt := (congrArg Int32.toInt (show σ91 2 0 = (σ 2 0) from ((congrFun (f93 2 (by decide)) 0).trans (congrFun (f24 2 (by decide)) 0))))
      have z131 : (σ91 55 6).toInt = (σ 55 6).toInt := (congrArg Int32.toInt (show σ91 55 6 = (σ 55 6) from ((congrFun (f93 55 (by decide)) 6).trans (congrFun (f24 55 (by decide)) 6))))
      have z132 : (σ91 2 2).toInt = (σ 2 2).toInt := (congrArg Int32.toInt (show σ91 2 2 = (σ 2 2) from ((congrFun (f93 2 (by decide)) 2).trans (congrFun (f24 2 (by decide)) 2))))
      have z133 : (σ91 55 5).toInt = (σ 55 5).toInt := (congrArg Int32.toInt (show σ91 55 5 = (σ 55 5) from ((congrFun (f93 55 (by decide)) 5).trans (congrFun (f24 55 (by decide)) 5))))
      have z134 : (σ91 2 3).toInt = (σ 2 3).toInt := (congrArg Int32.toInt (show σ91 2 3 = (σ 2 3) from ((congrFun (f93 2 (by decide)) 3).trans (congrFun (f24 2 (by decide)) 3))))
      have z135 : (σ91 55 4).toInt = (σ 55 4).toInt := (congrArg Int32.toInt (show σ91 55 4 = (σ 55 4) from ((congrFun (f93 55 (by decide)) 4).trans (congrFun (f24 55 (by decide)) 4))))
      exact ih x106 σ91 τ _ _ ls (by have h9 := tx106; omega) ⟨I107, I108, I109, I110, I111, I112, I113, I114, I115, I116, I117, I118, I119, I120, I121, I122, I123, I124, I125, I94, I126, I127, p128, p129, (by omega), (by omega), (by omega), (show jNumP (σ91 3) (σ91 56) (σ91 6) (σ91 57) (σ91 7) (σ91 58) (σ91 8) (σ91 59) (σ91 55 6).toInt (σ91 55 4).toInt by rw [show σ91 3 = σ 3 from ((f93 3 (by decide)).trans (f24 3 (by decide))), show σ91 56 = σ 56 from ((f93 56 (by decide)).trans (f24 56 (by decide))), show σ91 6 = σ 6 from ((f93 6 (by decide)).trans (f24 6 (by decide))), show σ91 57 = σ 57 from ((f93 57 (by decide)).trans (f24 57 (by decide))), show σ91 7 = σ 7 from ((f93 7 (by decide)).trans (f24 7 (by decide))), show σ91 58 = σ 58 from ((f93 58 (by decide)).trans (f24 58 (by decide))), show σ91 8 = σ 8 from ((f93 8 (by decide)).trans (f24 8 (by decide))), show σ91 59 = σ 59 from ((f93 59 (by decide)).trans (f24 59 (by decide))), show (σ91 55 6).toInt = (σ 55 6).toInt from by omega, show (σ91 55 4).toInt = (σ 55 4).toInt from by omega]; exact hr0)⟩ hP hS (lv_sub hl [0, 1, 2, 3] rfl)
    · obtain ⟨q138, k136, k137⟩ := h97
      have q138 := q138.symm
      subst q138
      refine lv_pop hx hb dL_law_1085 rfl ?_
      refine lv_goto (tgt := 1357) hx hb dL_law_1086 (by decide) ?_
      obtain ⟨x139, ex139⟩ : ∃ y : Int32, y = x0 + 6 := ⟨_, rfl⟩
      have tx139 : x139.toInt = x0.toInt + 6 := (jadd ex139 rfl jz_6 (by omega) (by omega)).trans (by omega)
      refine lv_iinc (v := x139) (lv' := [(3, .int x139), (2, .ref (ad 55)), (1, .ref (ad 0)), (0, .ref b)]) hx hb dL_law_1357 hl (k := 0) rfl (by rw [ex139]; rfl) (by decide) rfl (fun ls hl => ?_)
      refine lv_goto (tgt := 18) hx hb dL_law_1360 (by decide) ?_
      have I140 : jI2 σ91 := jI2_fr ((congrFun (f93 2 (by decide)) 0).trans (congrFun (f24 2 (by decide)) 0)) ((congrFun (f93 2 (by decide)) 1).trans (congrFun (f24 2 (by decide)) 1)) ((congrFun (f93 2 (by decide)) 2).trans (congrFun (f24 2 (by decide)) 2)) ((congrFun (f93 2 (by decide)) 3).trans (congrFun (f24 2 (by decide)) 3)) ((f93 6 (by decide)).trans (f24 6 (by decide))) hI2
      have I141 : jI9 σ91 := jI9_fr ((congrFun (f93 9 (by decide)) 0).trans (congrFun (f24 9 (by decide)) 0)) ((f93 10 (by decide)).trans (f24 10 (by decide))) ((f93 11 (by decide)).trans (f24 11 (by decide))) hI9
      have I142 : jI12 σ91 := jI12_fr ((congrFun (f93 12 (by decide)) 0).trans (congrFun (f24 12 (by decide)) 0)) ((f93 13 (by decide)).trans (f24 13 (by decide))) hI12
      have I143 : jI16 σ91 := jI16_fr ((congrFun (f93 16 (by decide)) 0).trans (congrFun (f24 16 (by decide)) 0)) ((congrFun (f93 16 (by decide)) 1).trans (congrFun (f24 16 (by decide)) 1)) ((congrFun (f93 16 (by decide)) 2).trans (congrFun (f24 16 (by decide)) 2)) ((f93 17 (by decide)).trans (f24 17 (by decide))) hI16
      have I144 : jI18 σ91 := jI18_fr ((congrFun (f93 18 (by decide)) 0).trans (congrFun (f24 18 (by decide)) 0)) ((f93 19 (by decide)).trans (f24 19 (by decide))) hI18
      have I145 : jI22 σ91 := jI22_fr ((congrFun (f93 22 (by decide)) 0).trans (congrFun (f24 22 (by decide)) 0)) ((f93 23 (by decide)).trans (f24 23 (by decide))) hI22
      have I146 : jI31 σ91 := jI31_fr ((congrFun (f93 31 (by decide)) 8).trans (congrFun (f24 31 (by decide)) 8)) ((f93 33 (by decide)).trans (f24 33 (by decide))) ((f93 36 (by decide)).trans (f24 36 (by decide))) hI31
      have I147 : jI38 σ91 := jI38_fr ((congrFun (f93 38 (by decide)) 0).trans (congrFun (f24 38 (by decide)) 0)) ((congrFun (f93 38 (by decide)) 1).trans (congrFun (f24 38 (by decide)) 1)) ((f93 39 (by decide)).trans (f24 39 (by decide))) hI38
      have I148 : jI43 σ91 := jI43_fr ((congrFun (f93 43 (by decide)) 8).trans (congrFun (f24 43 (by decide)) 8)) hI43
      have I149 : jI47 σ91 := jI47_fr ((congrFun (f93 47 (by decide)) 0).trans (congrFun (f24 47 (by decide)) 0)) ((f93 49 (by decide)).trans (f24 49 (by decide))) hI47
      have I150 : jI50 σ91 := jI50_fr (f93 52 (by decide)) I25
      have I151 : jI101 σ91 := jI101_fr ((congrFun (f93 55 (by decide)) 4).trans (congrFun (f24 55 (by decide)) 4)) ((congrFun (f93 55 (by decide)) 5).trans (congrFun (f24 55 (by decide)) 5)) ((f93 56 (by decide)).trans (f24 56 (by decide))) ((f93 57 (by decide)).trans (f24 57 (by decide))) ((f93 58 (by decide)).trans (f24 58 (by decide))) ((f93 59 (by decide)).trans (f24 59 (by decide))) hI101
      have I152 : jI102 σ91 := jI102_fr ((congrFun (f93 55 (by decide)) 6).trans (congrFun (f24 55 (by decide)) 6)) ((f93 60 (by decide)).trans (f24 60 (by decide))) ((f93 61 (by decide)).trans (f24 61 (by decide))) hI102
      have I153 : jI103 σ91 := jI103_fr ((congrFun (f93 55 (by decide)) 9).trans (congrFun (f24 55 (by decide)) 9)) hI103
      have I154 : jI104 σ91 := jI104_fr ((congrFun (f93 55 (by decide)) 10).trans (congrFun (f24 55 (by decide)) 10)) ((congrFun (f93 55 (by decide)) 12).trans (congrFun (f24 55 (by decide)) 12)) ((congrFun (f93 55 (by decide)) 13).trans (congrFun (f24 55 (by decide)) 13)) ((f93 62 (by decide)).trans (f24 62 (by decide))) ((f93 67 (by decide)).trans (f24 67 (by decide))) hI104
      have I155 : jI105 σ91 := jI105_fr ((congrFun (f93 55 (by decide)) 15).trans (congrFun (f24 55 (by decide)) 15)) ((f93 65 (by decide)).trans (f24 65 (by decide))) hI105
      have I156 : jI106 σ91 := jI106_fr (congrFun (f93 55 (by decide)) 32) (f93 70 (by decide)) (f93 71 (by decide)) (f93 72 (by decide)) I88
      have I157 : jI107 σ91 := jI107_fr ((congrFun (f93 55 (by decide)) 12).trans (congrFun (f24 55 (by decide)) 12)) ((congrFun (f93 55 (by decide)) 47).trans (congrFun (f24 55 (by decide)) 47)) ((f93 80 (by decide)).trans (f24 80 (by decide))) hI107
      have I158 : jI109 σ91 := jI109_fr ((congrFun (f93 55 (by decide)) 50).trans (congrFun (f24 55 (by decide)) 50)) hI109
      have I159 : jI111 σ91 := jI111_fr ((f93 79 (by decide)).trans (f24 79 (by decide))) hI111
      have I160 : jI119 σ91 := jI119_fr ((f93 68 (by decide)).trans (f24 68 (by decide))) hI119
      have p161 : jKept σ91 := jKept.fr ((f93 75 (by decide)).trans (f24 75 (by decide))) ((f93 76 (by decide)).trans (f24 76 (by decide))) ((f93 77 (by decide)).trans (f24 77 (by decide))) hs_jKept
      have p162 : jBook σ91 := jBook.fr ((congrFun (f93 55 (by decide)) 47).trans (congrFun (f24 55 (by decide)) 47)) ((congrFun (f93 55 (by decide)) 10).trans (congrFun (f24 55 (by decide)) 10)) ((f93 81 (by decide)).trans (f24 81 (by decide))) hs_jBook
      have z163 : (σ91 2 0).toInt = (σ 2 0).toInt := (congrArg Int32.toInt (show σ91 2 0 = (σ 2 0) from ((congrFun (f93 2 (by decide)) 0).trans (congrFun (f24 2 (by decide)) 0))))
      have z164 : (σ91 55 6).toInt = (σ 55 6).toInt := (congrArg Int32.toInt (show σ91 55 6 = (σ 55 6) from ((congrFun (f93 55 (by decide)) 6).trans (congrFun (f24 55 (by decide)) 6))))
      have z165 : (σ91 2 2).toInt = (σ 2 2).toInt := (congrArg Int32.toInt (show σ91 2 2 = (σ 2 2) from ((congrFun (f93 2 (by decide)) 2).trans (congrFun (f24 2 (by decide)) 2))))
      have z166 : (σ91 55 5).toInt = (σ 55 5).toInt := (congrArg Int32.toInt (show σ91 55 5 = (σ 55 5) from ((congrFun (f93 55 (by decide)) 5).trans (congrFun (f24 55 (by decide)) 5))))
      have z167 : (σ91 2 3).toInt = (σ 2 3).toInt := (congrArg Int32.toInt (show σ91 2 3 = (σ 2 3) from ((congrFun (f93 2 (by decide)) 3).trans (congrFun (f24 2 (by decide)) 3))))
      have z168 : (σ91 55 4).toInt = (σ 55 4).toInt := (congrArg Int32.toInt (show σ91 55 4 = (σ 55 4) from ((congrFun (f93 55 (by decide)) 4).trans (congrFun (f24 55 (by decide)) 4))))
      exact ih x139 σ91 τ _ _ ls (by have h9 := tx139; omega) ⟨I140, I141, I142, I143, I144, I145, I146, I147, I148, I149, I150, I151, I152, I153, I154, I155, I156, I157, I158, I94, I159, I160, p161, p162, (by omega), (by omega), (by omega), (show jNumP (σ91 3) (σ91 56) (σ91 6) (σ91 57) (σ91 7) (σ91 58) (σ91 8) (σ91 59) (σ91 55 6).toInt (σ91 55 4).toInt by rw [show σ91 3 = σ 3 from ((f93 3 (by decide)).trans (f24 3 (by decide))), show σ91 56 = σ 56 from ((f93 56 (by decide)).trans (f24 56 (by decide))), show σ91 6 = σ 6 from ((f93 6 (by decide)).trans (f24 6 (by decide))), show σ91 57 = σ 57 from ((f93 57 (by decide)).trans (f24 57 (by decide))), show σ91 7 = σ 7 from ((f93 7 (by decide)).trans (f24 7 (by decide))), show σ91 58 = σ 58 from ((f93 58 (by decide)).trans (f24 58 (by decide))), show σ91 8 = σ 8 from ((f93 8 (by decide)).trans (f24 8 (by decide))), show σ91 59 = σ 59 from ((f93 59 (by decide)).trans (f24 59 (by decide))), show (σ91 55 6).toInt = (σ 55 6).toInt from by omega, show (σ91 55 4).toInt = (σ 55 4).toInt from by omega]; exact hr0)⟩ hP hS (lv_sub hl [0, 1, 2, 3] rfl)
  · obtain ⟨q171, k169, k170⟩ := h28
    have q171 := q171.symm
    subst q171
    refine lv_pop hx hb dL_law_1070 rfl ?_
    refine lv_aload_n hx hb dL_law_1071 rfl (lv_at hl 1 rfl) ?_
    refine lv_aload_n hx hb dL_law_1072 rfl (lv_at hl 3 rfl) ?_
    refine lv_iload_n hx hb dL_law_1073 rfl (lv_at hl 0 rfl) ?_
    refine lv_iconst (v := 1) hx hb dL_law_1074 (by decide) ?_
    refine lv_iadd hx hb dL_law_1075 ?_
    refine jtopr ex18.symm ?_
    refine va_sld hx hb hX hbl hbA hS (jin tx18 (by omega) (by omega)) dL_law_1076 ?_
    refine lv_aload_n hx hb dL_law_1077 rfl (lv_at hl 3 rfl) ?_
    refine lv_iload_n hx hb dL_law_1078 rfl (lv_at hl 0 rfl) ?_
    refine lv_iconst (v := 2) hx hb dL_law_1079 (by decide) ?_
    refine lv_iadd hx hb dL_law_1080 ?_
    refine jtopr ex20.symm ?_
    refine va_sld hx hb hX hbl hbA hS (jin tx20 (by omega) (by omega)) dL_law_1081 ?_
    have I172 : jI106 σ22 := jI106_fr (congrFun (f24 55 (by decide)) 32) (f24 70 (by decide)) (f24 71 (by decide)) (f24 72 (by decide)) hI106
    have I173 : jI110 σ22 := jI110_fr (f24 86 (by decide)) (f24 87 (by decide)) hI110
    have z174 : (σ22 55 32).toInt = (σ 55 32).toInt := (congrArg Int32.toInt (show σ22 55 32 = (σ 55 32) from (congrFun (f24 55 (by decide)) 32)))
    refine jcallV (As := [.int (xs x18.toNatClampNeg), .int (xs x20.toNatClampNeg)]) (rest := []) ⟨hx, hb, hml, hown, hts⟩ hK hP hA hS hZ (c_X12_keep l D cI cL ad zz hJ σ22 τ (xs x18.toNatClampNeg) ((xs x18.toNatClampNeg).toInt) rfl (xs x20.toNatClampNeg) ((xs x20.toNatClampNeg).toInt) rfl I172 I173) cw_RL_140 (jc_55 cI cL ad σ22 τ) rfl ⟨Nat.le_of_ble_eq_true rfl, Nat.le_of_ble_eq_true rfl⟩ rfl rfl rfl hl.1 rfl (Nat.le_of_ble_eq_true rfl) dL_law_1082 ⟨Nat.le_of_ble_eq_true rfl, Nat.le_of_ble_eq_true rfl⟩ (fun r176 σ175 τ175 H locs h175 hP hS => ?_)
    obtain ⟨rfl, f177, I178, h175⟩ := h175
    rcases h175 with h179 | h180 | h181
    · obtain ⟨q185, k182, k183, k184⟩ := h179
      exact absurd (by omega : False) id
    · obtain ⟨q189, k186, k187, k188⟩ := h180
      have q189 := q189.symm
      subst q189
      refine lv_pop hx hb dL_law_1085 rfl ?_
      refine lv_goto (tgt := 1357) hx hb dL_law_1086 (by decide) ?_
      obtain ⟨x190, ex190⟩ : ∃ y : Int32, y = x0 + 6 := ⟨_, rfl⟩
      have tx190 : x190.toInt = x0.toInt + 6 := (jadd ex190 rfl jz_6 (by omega) (by omega)).trans (by omega)
      refine lv_iinc (v := x190) (lv' := [(3, .int x190), (2, .ref (ad 55)), (1, .ref (ad 0)), (0, .ref b)]) hx hb dL_law_1357 hl (k := 0) rfl (by rw [ex190]; rfl) (by decide) rfl (fun ls hl => ?_)
      refine lv_goto (tgt := 18) hx hb dL_law_1360 (by decide) ?_
      have I191 : jI2 σ175 := jI2_fr ((congrFun (f177 2 (by decide)) 0).trans (congrFun (f24 2 (by decide)) 0)) ((congrFun (f177 2 (by decide)) 1).trans (congrFun (f24 2 (by decide)) 1)) ((congrFun (f177 2 (by decide)) 2).trans (congrFun (f24 2 (by decide)) 2)) ((congrFun (f177 2 (by decide)) 3).trans (congrFun (f24 2 (by decide)) 3)) ((f177 6 (by decide)).trans (f24 6 (by decide))) hI2
      have I192 : jI9 σ175 := jI9_fr ((congrFun (f177 9 (by decide)) 0).trans (congrFun (f24 9 (by decide)) 0)) ((f177 10 (by decide)).trans (f24 10 (by decide))) ((f177 11 (by decide)).trans (f24 11 (by decide))) hI9
      have I193 : jI12 σ175 := jI12_fr ((congrFun (f177 12 (by decide)) 0).trans (congrFun (f24 12 (by decide)) 0)) ((f177 13 (by decide)).trans (f24 13 (by decide))) hI12
      have I194 : jI16 σ175 := jI16_fr ((congrFun (f177 16 (by decide)) 0).trans (congrFun (f24 16 (by decide)) 0)) ((congrFun (f177 16 (by decide)) 1).trans (congrFun (f24 16 (by decide)) 1)) ((congrFun (f177 16 (by decide)) 2).trans (congrFun (f24 16 (by decide)) 2)) ((f177 17 (by decide)).trans (f24 17 (by decide))) hI16
      have I195 : jI18 σ175 := jI18_fr ((congrFun (f177 18 (by decide)) 0).trans (congrFun (f24 18 (by decide)) 0)) ((f177 19 (by decide)).trans (f24 19 (by decide))) hI18
      have I196 : jI22 σ175 := jI22_fr ((congrFun (f177 22 (by decide)) 0).trans (congrFun (f24 22 (by decide)) 0)) ((f177 23 (by decide)).trans (f24 23 (by decide))) hI22
      have I197 : jI31 σ175 := jI31_fr ((congrFun (f177 31 (by decide)) 8).trans (congrFun (f24 31 (by decide)) 8)) ((f177 33 (by decide)).trans (f24 33 (by decide))) ((f177 36 (by decide)).trans (f24 36 (by decide))) hI31
      have I198 : jI38 σ175 := jI38_fr ((congrFun (f177 38 (by decide)) 0).trans (congrFun (f24 38 (by decide)) 0)) ((congrFun (f177 38 (by decide)) 1).trans (congrFun (f24 38 (by decide)) 1)) ((f177 39 (by decide)).trans (f24 39 (by decide))) hI38
      have I199 : jI43 σ175 := jI43_fr ((congrFun (f177 43 (by decide)) 8).trans (congrFun (f24 43 (by decide)) 8)) hI43
      have I200 : jI47 σ175 := jI47_fr ((congrFun (f177 47 (by decide)) 0).trans (congrFun (f24 47 (by decide)) 0)) ((f177 49 (by decide)).trans (f24 49 (by decide))) hI47
      have I201 : jI50 σ175 := jI50_fr (f177 52 (by decide)) I25
      have I202 : jI101 σ175 := jI101_fr ((congrFun (f177 55 (by decide)) 4).trans (congrFun (f24 55 (by decide)) 4)) ((congrFun (f177 55 (by decide)) 5).trans (congrFun (f24 55 (by decide)) 5)) ((f177 56 (by decide)).trans (f24 56 (by decide))) ((f177 57 (by decide)).trans (f24 57 (by decide))) ((f177 58 (by decide)).trans (f24 58 (by decide))) ((f177 59 (by decide)).trans (f24 59 (by decide))) hI101
      have I203 : jI102 σ175 := jI102_fr ((congrFun (f177 55 (by decide)) 6).trans (congrFun (f24 55 (by decide)) 6)) ((f177 60 (by decide)).trans (f24 60 (by decide))) ((f177 61 (by decide)).trans (f24 61 (by decide))) hI102
      have I204 : jI103 σ175 := jI103_fr ((congrFun (f177 55 (by decide)) 9).trans (congrFun (f24 55 (by decide)) 9)) hI103
      have I205 : jI104 σ175 := jI104_fr ((congrFun (f177 55 (by decide)) 10).trans (congrFun (f24 55 (by decide)) 10)) ((congrFun (f177 55 (by decide)) 12).trans (congrFun (f24 55 (by decide)) 12)) ((congrFun (f177 55 (by decide)) 13).trans (congrFun (f24 55 (by decide)) 13)) ((f177 62 (by decide)).trans (f24 62 (by decide))) ((f177 67 (by decide)).trans (f24 67 (by decide))) hI104
      have I206 : jI105 σ175 := jI105_fr ((congrFun (f177 55 (by decide)) 15).trans (congrFun (f24 55 (by decide)) 15)) ((f177 65 (by decide)).trans (f24 65 (by decide))) hI105
      have I207 : jI106 σ175 := jI106_fr (congrFun (f177 55 (by decide)) 32) (f177 70 (by decide)) (f177 71 (by decide)) (f177 72 (by decide)) I172
      have I208 : jI107 σ175 := jI107_fr ((congrFun (f177 55 (by decide)) 12).trans (congrFun (f24 55 (by decide)) 12)) ((congrFun (f177 55 (by decide)) 47).trans (congrFun (f24 55 (by decide)) 47)) ((f177 80 (by decide)).trans (f24 80 (by decide))) hI107
      have I209 : jI109 σ175 := jI109_fr ((congrFun (f177 55 (by decide)) 50).trans (congrFun (f24 55 (by decide)) 50)) hI109
      have I210 : jI111 σ175 := jI111_fr ((f177 79 (by decide)).trans (f24 79 (by decide))) hI111
      have I211 : jI119 σ175 := jI119_fr ((f177 68 (by decide)).trans (f24 68 (by decide))) hI119
      have p212 : jKept σ175 := jKept.fr ((f177 75 (by decide)).trans (f24 75 (by decide))) ((f177 76 (by decide)).trans (f24 76 (by decide))) ((f177 77 (by decide)).trans (f24 77 (by decide))) hs_jKept
      have p213 : jBook σ175 := jBook.fr ((congrFun (f177 55 (by decide)) 47).trans (congrFun (f24 55 (by decide)) 47)) ((congrFun (f177 55 (by decide)) 10).trans (congrFun (f24 55 (by decide)) 10)) ((f177 81 (by decide)).trans (f24 81 (by decide))) hs_jBook
      have z214 : (σ175 2 0).toInt = (σ 2 0).toInt := (congrArg Int32.toInt (show σ175 2 0 = (σ 2 0) from ((congrFun (f177 2 (by decide)) 0).trans (congrFun (f24 2 (by decide)) 0))))
      have z215 : (σ175 55 6).toInt = (σ 55 6).toInt := (congrArg Int32.toInt (show σ175 55 6 = (σ 55 6) from ((congrFun (f177 55 (by decide)) 6).trans (congrFun (f24 55 (by decide)) 6))))
      have z216 : (σ175 2 2).toInt = (σ 2 2).toInt := (congrArg Int32.toInt (show σ175 2 2 = (σ 2 2) from ((congrFun (f177 2 (by decide)) 2).trans (congrFun (f24 2 (by decide)) 2))))
      have z217 : (σ175 55 5).toInt = (σ 55 5).toInt := (congrArg Int32.toInt (show σ175 55 5 = (σ 55 5) from ((congrFun (f177 55 (by decide)) 5).trans (congrFun (f24 55 (by decide)) 5))))
      have z218 : (σ175 2 3).toInt = (σ 2 3).toInt := (congrArg Int32.toInt (show σ175 2 3 = (σ 2 3) from ((congrFun (f177 2 (by decide)) 3).trans (congrFun (f24 2 (by decide)) 3))))
      have z219 : (σ175 55 4).toInt = (σ 55 4).toInt := (congrArg Int32.toInt (show σ175 55 4 = (σ 55 4) from ((congrFun (f177 55 (by decide)) 4).trans (congrFun (f24 55 (by decide)) 4))))
      exact ih x190 σ175 τ _ _ ls (by have h9 := tx190; omega) ⟨I191, I192, I193, I194, I195, I196, I197, I198, I199, I200, I201, I202, I203, I204, I205, I206, I207, I208, I209, I178, I210, I211, p212, p213, (by omega), (by omega), (by omega), (show jNumP (σ175 3) (σ175 56) (σ175 6) (σ175 57) (σ175 7) (σ175 58) (σ175 8) (σ175 59) (σ175 55 6).toInt (σ175 55 4).toInt by rw [show σ175 3 = σ 3 from ((f177 3 (by decide)).trans (f24 3 (by decide))), show σ175 56 = σ 56 from ((f177 56 (by decide)).trans (f24 56 (by decide))), show σ175 6 = σ 6 from ((f177 6 (by decide)).trans (f24 6 (by decide))), show σ175 57 = σ 57 from ((f177 57 (by decide)).trans (f24 57 (by decide))), show σ175 7 = σ 7 from ((f177 7 (by decide)).trans (f24 7 (by decide))), show σ175 58 = σ 58 from ((f177 58 (by decide)).trans (f24 58 (by decide))), show σ175 8 = σ 8 from ((f177 8 (by decide)).trans (f24 8 (by decide))), show σ175 59 = σ 59 from ((f177 59 (by decide)).trans (f24 59 (by decide))), show (σ175 55 6).toInt = (σ 55 6).toInt from by omega, show (σ175 55 4).toInt = (σ 55 4).toInt from by omega]; exact hr0)⟩ hP hS (lv_sub hl [0, 1, 2, 3] rfl)
    · obtain ⟨q222, k220, k221⟩ := h181
      have q222 := q222.symm
      subst q222
      refine lv_pop hx hb dL_law_1085 rfl ?_
      refine lv_goto (tgt := 1357) hx hb dL_law_1086 (by decide) ?_
      obtain ⟨x223, ex223⟩ : ∃ y : Int32, y = x0 + 6 := ⟨_, rfl⟩
      have tx223 : x223.toInt = x0.toInt + 6 := (jadd ex223 rfl jz_6 (by omega) (by omega)).trans (by omega)
      refine lv_iinc (v := x223) (lv' := [(3, .int x223), (2, .ref (ad 55)), (1, .ref (ad 0)), (0, .ref b)]) hx hb dL_law_1357 hl (k := 0) rfl (by rw [ex223]; rfl) (by decide) rfl (fun ls hl => ?_)
      refine lv_goto (tgt := 18) hx hb dL_law_1360 (by decide) ?_
      have I224 : jI2 σ175 := jI2_fr ((congrFun (f177 2 (by decide)) 0).trans (congrFun (f24 2 (by decide)) 0)) ((congrFun (f177 2 (by decide)) 1).trans (congrFun (f24 2 (by decide)) 1)) ((congrFun (f177 2 (by decide)) 2).trans (congrFun (f24 2 (by decide)) 2)) ((congrFun (f177 2 (by decide)) 3).trans (congrFun (f24 2 (by decide)) 3)) ((f177 6 (by decide)).trans (f24 6 (by decide))) hI2
      have I225 : jI9 σ175 := jI9_fr ((congrFun (f177 9 (by decide)) 0).trans (congrFun (f24 9 (by decide)) 0)) ((f177 10 (by decide)).trans (f24 10 (by decide))) ((f177 11 (by decide)).trans (f24 11 (by decide))) hI9
      have I226 : jI12 σ175 := jI12_fr ((congrFun (f177 12 (by decide)) 0).trans (congrFun (f24 12 (by decide)) 0)) ((f177 13 (by decide)).trans (f24 13 (by decide))) hI12
      have I227 : jI16 σ175 := jI16_fr ((congrFun (f177 16 (by decide)) 0).trans (congrFun (f24 16 (by decide)) 0)) ((congrFun (f177 16 (by decide)) 1).trans (congrFun (f24 16 (by decide)) 1)) ((congrFun (f177 16 (by decide)) 2).trans (congrFun (f24 16 (by decide)) 2)) ((f177 17 (by decide)).trans (f24 17 (by decide))) hI16
      have I228 : jI18 σ175 := jI18_fr ((congrFun (f177 18 (by decide)) 0).trans (congrFun (f24 18 (by decide)) 0)) ((f177 19 (by decide)).trans (f24 19 (by decide))) hI18
      have I229 : jI22 σ175 := jI22_fr ((congrFun (f177 22 (by decide)) 0).trans (congrFun (f24 22 (by decide)) 0)) ((f177 23 (by decide)).trans (f24 23 (by decide))) hI22
      have I230 : jI31 σ175 := jI31_fr ((congrFun (f177 31 (by decide)) 8).trans (congrFun (f24 31 (by decide)) 8)) ((f177 33 (by decide)).trans (f24 33 (by decide))) ((f177 36 (by decide)).trans (f24 36 (by decide))) hI31
      have I231 : jI38 σ175 := jI38_fr ((congrFun (f177 38 (by decide)) 0).trans (congrFun (f24 38 (by decide)) 0)) ((congrFun (f177 38 (by decide)) 1).trans (congrFun (f24 38 (by decide)) 1)) ((f177 39 (by decide)).trans (f24 39 (by decide))) hI38
      have I232 : jI43 σ175 := jI43_fr ((congrFun (f177 43 (by decide)) 8).trans (congrFun (f24 43 (by decide)) 8)) hI43
      have I233 : jI47 σ175 := jI47_fr ((congrFun (f177 47 (by decide)) 0).trans (congrFun (f24 47 (by decide)) 0)) ((f177 49 (by decide)).trans (f24 49 (by decide))) hI47
      have I234 : jI50 σ175 := jI50_fr (f177 52 (by decide)) I25
      have I235 : jI101 σ175 := jI101_fr ((congrFun (f177 55 (by decide)) 4).trans (congrFun (f24 55 (by decide)) 4)) ((congrFun (f177 55 (by decide)) 5).trans (congrFun (f24 55 (by decide)) 5)) ((f177 56 (by decide)).trans (f24 56 (by decide))) ((f177 57 (by decide)).trans (f24 57 (by decide))) ((f177 58 (by decide)).trans (f24 58 (by decide))) ((f177 59 (by decide)).trans (f24 59 (by decide))) hI101
      have I236 : jI102 σ175 := jI102_fr ((congrFun (f177 55 (by decide)) 6).trans (congrFun (f24 55 (by decide)) 6)) ((f177 60 (by decide)).trans (f24 60 (by decide))) ((f177 61 (by decide)).trans (f24 61 (by decide))) hI102
      have I237 : jI103 σ175 := jI103_fr ((congrFun (f177 55 (by decide)) 9).trans (congrFun (f24 55 (by decide)) 9)) hI103
      have I238 : jI104 σ175 := jI104_fr ((congrFun (f177 55 (by decide)) 10).trans (congrFun (f24 55 (by decide)) 10)) ((congrFun (f177 55 (by decide)) 12).trans (congrFun (f24 55 (by decide)) 12)) ((congrFun (f177 55 (by decide)) 13).trans (congrFun (f24 55 (by decide)) 13)) ((f177 62 (by decide)).trans (f24 62 (by decide))) ((f177 67 (by decide)).trans (f24 67 (by decide))) hI104
      have I239 : jI105 σ175 := jI105_fr ((congrFun (f177 55 (by decide)) 15).trans (congrFun (f24 55 (by decide)) 15)) ((f177 65 (by decide)).trans (f24 65 (by decide))) hI105
      have I240 : jI106 σ175 := jI106_fr (congrFun (f177 55 (by decide)) 32) (f177 70 (by decide)) (f177 71 (by decide)) (f177 72 (by decide)) I172
      have I241 : jI107 σ175 := jI107_fr ((congrFun (f177 55 (by decide)) 12).trans (congrFun (f24 55 (by decide)) 12)) ((congrFun (f177 55 (by decide)) 47).trans (congrFun (f24 55 (by decide)) 47)) ((f177 80 (by decide)).trans (f24 80 (by decide))) hI107
      have I242 : jI109 σ175 := jI109_fr ((congrFun (f177 55 (by decide)) 50).trans (congrFun (f24 55 (by decide)) 50)) hI109
      have I243 : jI111 σ175 := jI111_fr ((f177 79 (by decide)).trans (f24 79 (by decide))) hI111
      have I244 : jI119 σ175 := jI119_fr ((f177 68 (by decide)).trans (f24 68 (by decide))) hI119
      have p245 : jKept σ175 := jKept.fr ((f177 75 (by decide)).trans (f24 75 (by decide))) ((f177 76 (by decide)).trans (f24 76 (by decide))) ((f177 77 (by decide)).trans (f24 77 (by decide))) hs_jKept
      have p246 : jBook σ175 := jBook.fr ((congrFun (f177 55 (by decide)) 47).trans (congrFun (f24 55 (by decide)) 47)) ((congrFun (f177 55 (by decide)) 10).trans (congrFun (f24 55 (by decide)) 10)) ((f177 81 (by decide)).trans (f24 81 (by decide))) hs_jBook
      have z247 : (σ175 2 0).toInt = (σ 2 0).toInt := (congrArg Int32.toInt (show σ175 2 0 = (σ 2 0) from ((congrFun (f177 2 (by decide)) 0).trans (congrFun (f24 2 (by decide)) 0))))
      have z248 : (σ175 55 6).toInt = (σ 55 6).toInt := (congrArg Int32.toInt (show σ175 55 6 = (σ 55 6) from ((congrFun (f177 55 (by decide)) 6).trans (congrFun (f24 55 (by decide)) 6))))
      have z249 : (σ175 2 2).toInt = (σ 2 2).toInt := (congrArg Int32.toInt (show σ175 2 2 = (σ 2 2) from ((congrFun (f177 2 (by decide)) 2).trans (congrFun (f24 2 (by decide)) 2))))
      have z250 : (σ175 55 5).toInt = (σ 55 5).toInt := (congrArg Int32.toInt (show σ175 55 5 = (σ 55 5) from ((congrFun (f177 55 (by decide)) 5).trans (congrFun (f24 55 (by decide)) 5))))
      have z251 : (σ175 2 3).toInt = (σ 2 3).toInt := (congrArg Int32.toInt (show σ175 2 3 = (σ 2 3) from ((congrFun (f177 2 (by decide)) 3).trans (congrFun (f24 2 (by decide)) 3))))
      have z252 : (σ175 55 4).toInt = (σ 55 4).toInt := (congrArg Int32.toInt (show σ175 55 4 = (σ 55 4) from ((congrFun (f177 55 (by decide)) 4).trans (congrFun (f24 55 (by decide)) 4))))
      exact ih x223 σ175 τ _ _ ls (by have h9 := tx223; omega) ⟨I224, I225, I226, I227, I228, I229, I230, I231, I232, I233, I234, I235, I236, I237, I238, I239, I240, I241, I242, I178, I243, I244, p245, p246, (by omega), (by omega), (by omega), (show jNumP (σ175 3) (σ175 56) (σ175 6) (σ175 57) (σ175 7) (σ175 58) (σ175 8) (σ175 59) (σ175 55 6).toInt (σ175 55 4).toInt by rw [show σ175 3 = σ 3 from ((f177 3 (by decide)).trans (f24 3 (by decide))), show σ175 56 = σ 56 from ((f177 56 (by decide)).trans (f24 56 (by decide))), show σ175 6 = σ 6 from ((f177 6 (by decide)).trans (f24 6 (by decide))), show σ175 57 = σ 57 from ((f177 57 (by decide)).trans (f24 57 (by decide))), show σ175 7 = σ 7 from ((f177 7 (by decide)).trans (f24 7 (by decide))), show σ175 58 = σ 58 from ((f177 58 (by decide)).trans (f24 58 (by decide))), show σ175 8 = σ 8 from ((f177 8 (by decide)).trans (f24 8 (by decide))), show σ175 59 = σ 59 from ((f177 59 (by decide)).trans (f24 59 (by decide))), show (σ175 55 6).toInt = (σ 55 6).toInt from by omega, show (σ175 55 4).toInt = (σ 55 4).toInt from by omega]; exact hr0)⟩ hP hS (lv_sub hl [0, 1, 2, 3] rfl)
set_option maxHeartbeats 4000000 in
set_option maxRecDepth 100000 in
theorem law_case_31 {p : Program} {e : Env} {s : State} {m : MethodId} {below : List Frame} {meth : Method} {c : Code} (l : Launch) {b L : Nat} {xs : Nat → Int32} {D : va_G} {cI cL : ClassId} {ad zz : Nat → Nat} (C0 : lw_At p s m meth c b L xs) (hJ : jD ad) (hA : ∀ q, jA ad q → s.heap.size ≤ q) (hK : jK D cI cL s) (hZ : jZ zz (fun q : Nat => s.heap.size ≤ q) s s.heap) {x0 : Int32} (hx0 : 0 ≤ x0.toInt) (hxL : x0.toInt + 6 ≤ (L : Int)) (hL : L ≤ 384) {σ : Nat → Nat → Int32} {τ : Nat → Nat → Int64} {H : Heap} {locs : List Loc} (hS : va_S (fun q : Nat => s.heap.size ≤ q) s.heap H locs) {ls : Array Slot} (hAll : jAll σ τ) (hP : jH D cI cL ad σ τ H) (hl : lv_has ls 4 [(3, .int x0), (2, .ref (ad 55)), (1, .ref (ad 0)), (0, .ref b)]) (ih : ∀ (x1 : Int32) (σ : Nat → Nat → Int32) (τ : Nat → Nat → Int64) (H : Heap) (locs : List Loc) (ls : Array Slot), x1.toInt = x0.toInt + 6 → jAll σ τ → jH D cI cL ad σ τ H → va_S (fun q : Nat => s.heap.size ≤ q) s.heap H locs → lv_has ls 4 [(3, .int x1), (2, .ref (ad 55)), (1, .ref (ad 0)), (0, .ref b)] → W p l e room_1 s m #[Value.ref b] below meth c H locs 90 348600 (lw_Z below #[Value.ref b] s) (F0 m 18 ls [])) : W p l e room_1 s m #[Value.ref b] below meth c H locs 90 348600 (lw_Z below #[Value.ref b] s) (F0 m 1089 ls []) := by
  obtain ⟨hx, hb, hr, hml, hown, hts0, hX, hbl, hlocks, hgv⟩ := C0
  have hts : ∀ w ∈ wsL_law, w.before #[Value.ref b] s = true := fun w h => hts0 w (wsL_law_in w h)
  have hbA : ¬ (fun q : Nat => s.heap.size ≤ q) b := Nat.not_le.mpr hbl
  have hown : s.vm.findClass RL = some m.cls := hown
  obtain ⟨hI2, hI9, hI12, hI16, hI18, hI22, hI31, hI38, hI43, hI47, hI50, hI101, hI102, hI103, hI104, hI105, hI106, hI107, hI109, hI110, hI111, hI119, hs_jKept, hs_jBook, ht0, ht1, ht2, hr0⟩ := hAll
  have hL9 : (L : Int) ≤ 384 := by omega
  obtain ⟨i1, i2, i3, i4, i5, w6⟩ : (0 ≤ (σ 2 0).toInt ∧ (σ 2 0).toInt ≤ 4) ∧ (0 ≤ (σ 2 1).toInt ∧ (σ 2 1).toInt ≤ 3) ∧ (0 ≤ (σ 2 2).toInt) ∧ (0 ≤ (σ 2 3).toInt) ∧ ((σ 2 2).toInt + (σ 2 3).toInt ≤ 40) ∧ (∀ k : Nat, k < 40 → 0 ≤ (σ 6 k).toInt ∧ (σ 6 k).toInt ≤ 67) := id hI2
  obtain ⟨i7, i8, i9, w10, w11, w12, w13⟩ : (0 ≤ (σ 55 5).toInt) ∧ ((σ 55 5).toInt ≤ (σ 55 4).toInt) ∧ ((σ 55 4).toInt ≤ 40) ∧ (∀ k : Nat, k < 68 → (-200) ≤ (σ 56 k).toInt ∧ (σ 56 k).toInt ≤ 500) ∧ (∀ k : Nat, k < 40 → 0 ≤ (σ 57 k).toInt ∧ (σ 57 k).toInt ≤ 67) ∧ (∀ k : Nat, k < 40 → (-200) ≤ (σ 58 k).toInt ∧ (σ 58 k).toInt ≤ 500) ∧ (∀ k : Nat, k < 40 → (-200) ≤ (σ 59 k).toInt ∧ (σ 59 k).toInt ≤ 500) := id hI101
  obtain ⟨i14, w15, w16⟩ : (0 ≤ (σ 55 6).toInt ∧ (σ 55 6).toInt ≤ 4) ∧ (∀ k : Nat, k < 4 → 0 ≤ (σ 60 k).toInt ∧ (σ 60 k).toInt ≤ 50) ∧ (∀ k : Nat, k < 4 → 0 ≤ (σ 61 k).toInt ∧ (σ 61 k).toInt ≤ 20) := id hI102
  refine lv_aload_n hx hb dL_law_1089 rfl (lv_at hl 2 rfl) ?_
  refine lv_aload_n hx hb dL_law_1090 rfl (lv_at hl 3 rfl) ?_
  refine lv_iload_n hx hb dL_law_1091 rfl (lv_at hl 0 rfl) ?_
  refine lv_iconst (v := 1) hx hb dL_law_1092 (by decide) ?_
  have g17 := jrg (rfl : x0.toInt = x0.toInt)
  refine lv_iadd hx hb dL_law_1093 ?_
  refine lv_topi (fun x18 ex18 => ?_)
  have tx18 : x18.toInt = x0.toInt + 1 := (jadd ex18 rfl jz_1 (by omega) (by omega)).trans (by omega)
  refine va_sld hx hb hX hbl hbA hS (jin tx18 (by omega) (by omega)) dL_law_1094 ?_
  have g19 := jrg (rfl : (xs x18.toNatClampNeg).toInt = (xs x18.toNatClampNeg).toInt)
  refine lv_aload_n hx hb dL_law_1095 rfl (lv_at hl 3 rfl) ?_
  refine lv_iload_n hx hb dL_law_1096 rfl (lv_at hl 0 rfl) ?_
  refine lv_iconst (v := 2) hx hb dL_law_1097 (by decide) ?_
  refine lv_iadd hx hb dL_law_1098 ?_
  refine lv_topi (fun x20 ex20 => ?_)
  have tx20 : x20.toInt = x0.toInt + 2 := (jadd ex20 rfl jz_2 (by omega) (by omega)).trans (by omega)
  refine va_sld hx hb hX hbl hbA hS (jin tx20 (by omega) (by omega)) dL_law_1099 ?_
  have g21 := jrg (rfl : (xs x20.toNatClampNeg).toInt = (xs x20.toNatClampNeg).toInt)
  refine lv_aload_n hx hb dL_law_1100 rfl (lv_at hl 3 rfl) ?_
  refine lv_iload_n hx hb dL_law_1101 rfl (lv_at hl 0 rfl) ?_
  refine lv_iconst (v := 3) hx hb dL_law_1102 (by decide) ?_
  refine lv_iadd hx hb dL_law_1103 ?_
  refine lv_topi (fun x22 ex22 => ?_)
  have tx22 : x22.toInt = x0.toInt + 3 := (jadd ex22 rfl jz_3 (by omega) (by omega)).trans (by omega)
  refine va_sld hx hb hX hbl hbA hS (jin tx22 (by omega) (by omega)) dL_law_1104 ?_
  have g23 := jrg (rfl : (xs x22.toNatClampNeg).toInt = (xs x22.toNatClampNeg).toInt)
  refine jcallV (As := [.int (xs x18.toNatClampNeg), .int (xs x20.toNatClampNeg), .int (xs x22.toNatClampNeg)]) (rest := []) ⟨hx, hb, hml, hown, hts⟩ hK hP hA hS hZ (c_X11_row l D cI cL ad zz hJ σ τ (xs x18.toNatClampNeg) ((xs x18.toNatClampNeg).toInt) rfl (xs x20.toNatClampNeg) ((xs x20.toNatClampNeg).toInt) rfl (xs x22.toNatClampNeg) ((xs x22.toNatClampNeg).toInt) rfl hI50) cw_RL_141 (jc_0 cI cL ad σ τ) rfl ⟨Nat.le_of_ble_eq_true rfl, Nat.le_of_ble_eq_true rfl⟩ rfl rfl rfl hl.1 rfl (Nat.le_of_ble_eq_true rfl) dL_law_1105 ⟨Nat.le_of_ble_eq_true rfl, Nat.le_of_ble_eq_true rfl⟩ (fun r25 σ24 τ24 H locs h24 hP hS => ?_)
  obtain ⟨f26, I27, h24⟩ := h24
  rcases h24 with h28 | h29 | h30
  · obtain ⟨q33, k31, k32⟩ := h28
    have q33 := q33.symm
    subst q33
    refine lv_pop hx hb dL_law_1108 rfl ?_
    refine lv_aload_n hx hb dL_law_1109 rfl (lv_at hl 1 rfl) ?_
    refine lv_aload_n hx hb dL_law_1110 rfl (lv_at hl 3 rfl) ?_
    refine lv_iload_n hx hb dL_law_1111 rfl (lv_at hl 0 rfl) ?_
    refine lv_iconst (v := 1) hx hb dL_law_1112 (by decide) ?_
    refine lv_iadd hx hb dL_law_1113 ?_
    refine jtopr ex18.symm ?_
    refine va_sld hx hb hX hbl hbA hS (jin tx18 (by omega) (by omega)) dL_law_1114 ?_
    refine lv_aload_n hx hb dL_law_1115 rfl (lv_at hl 3 rfl) ?_
    refine lv_iload_n hx hb dL_law_1116 rfl (lv_at hl 0 rfl) ?_
    refine lv_iconst (v := 2) hx hb dL_law_1117 (by decide) ?_
    refine lv_iadd hx hb dL_law_1118 ?_
    refine jtopr ex20.symm ?_
    refine va_sld hx hb hX hbl hbA hS (jin tx20 (by omega) (by omega)) dL_law_1119 ?_
    refine lv_aload_n hx hb dL_law_1120 rfl (lv_at hl 3 rfl) ?_
    refine lv_iload_n hx hb dL_law_1121 rfl (lv_at hl 0 rfl) ?_
    refine lv_iconst (v := 3) hx hb dL_law_1122 (by decide) ?_
    refine lv_iadd hx hb dL_law_1123 ?_
    refine jtopr ex22.symm ?_
    refine va_sld hx hb hX hbl hbA hS (jin tx22 (by omega) (by omega)) dL_law_1124 ?_
    have I34 : jI110 σ24 := jI110_fr (f26 86 (by decide)) (f26 87 (by decide)) hI110
    refine jcallV (As := [.int (xs x18.toNatClampNeg), .int (xs x20.toNatClampNeg), .int (xs x22.toNatClampNeg)]) (rest := []) ⟨hx, hb, hml, hown, hts⟩ hK hP hA hS hZ (c_X12_row l D cI cL ad zz hJ σ24 τ24 (xs x18.toNatClampNeg) ((xs x18.toNatClampNeg).toInt) rfl (xs x20.toNatClampNeg) ((xs x20.toNatClampNeg).toInt) rfl (xs x22.toNatClampNeg) ((xs x22.toNatClampNeg).toInt) rfl I34) cw_RL_144 (jc_55 cI cL ad σ24 τ24) rfl ⟨Nat.le_of_ble_eq_true rfl, Nat.le_of_ble_eq_true rfl⟩ rfl rfl rfl hl.1 rfl (Nat.le_of_ble_eq_true rfl) dL_law_1125 ⟨Nat.le_of_ble_eq_true rfl, Nat.le_of_ble_eq_true rfl⟩ (fun r36 σ35 τ35 H locs h35 hP hS => ?_)
    obtain ⟨f37, I38, h35⟩ := h35
    rcases h35 with h39 | h40 | h41
    · obtain ⟨q44, k42, k43⟩ := h39
      have q44 := q44.symm
      subst q44
      refine lv_pop hx hb dL_law_1128 rfl ?_
      refine lv_goto (tgt := 1357) hx hb dL_law_1129 (by decide) ?_
      obtain ⟨x45, ex45⟩ : ∃ y : Int32, y = x0 + 6 := ⟨_, rfl⟩
      have tx45 : x45.toInt = x0.toInt + 6 := (jadd ex45 rfl jz_6 (by omega) (by omega)).trans (by omega)
      refine lv_iinc (v := x45) (lv' := [(3, .int x45), (2, .ref (ad 55)), (1, .ref (ad 0)), (0, .ref b)]) hx hb dL_law_1357 hl (k := 0) rfl (by rw [ex45]; rfl) (by decide) rfl (fun ls hl => ?_)
      refine lv_goto (tgt := 18) hx hb dL_law_1360 (by decide) ?_
      have I46 : jI2 σ35 := jI2_fr ((congrFun (f37 2 (by decide)) 0).trans (congrFun (f26 2 (by decide)) 0)) ((congrFun (f37 2 (by decide)) 1).trans (congrFun (f26 2 (by decide)) 1)) ((congrFun (f37 2 (by decide)) 2).trans (congrFun (f26 2 (by decide)) 2)) ((congrFun (f37 2 (by decide)) 3).trans (congrFun (f26 2 (by decide)) 3)) ((f37 6 (by decide)).trans (f26 6 (by decide))) hI2
      have I47 : jI9 σ35 := jI9_fr ((congrFun (f37 9 (by decide)) 0).trans (congrFun (f26 9 (by decide)) 0)) ((f37 10 (by decide)).trans (f26 10 (by decide))) ((f37 11 (by decide)).trans (f26 11 (by decide))) hI9
      have I48 : jI12 σ35 := jI12_fr ((congrFun (f37 12 (by decide)) 0).trans (congrFun (f26 12 (by decide)) 0)) ((f37 13 (by decide)).trans (f26 13 (by decide))) hI12
      have I49 : jI16 σ35 := jI16_fr ((congrFun (f37 16 (by decide)) 0).trans (congrFun (f26 16 (by decide)) 0)) ((congrFun (f37 16 (by decide)) 1).trans (congrFun (f26 16 (by decide)) 1)) ((congrFun (f37 16 (by decide)) 2).trans (congrFun (f26 16 (by decide)) 2)) ((f37 17 (by decide)).trans (f26 17 (by decide))) hI16
      have I50 : jI18 σ35 := jI18_fr ((congrFun (f37 18 (by decide)) 0).trans (congrFun (f26 18 (by decide)) 0)) ((f37 19 (by decide)).trans (f26 19 (by decide))) hI18
      have I51 : jI22 σ35 := jI22_fr ((congrFun (f37 22 (by decide)) 0).trans (congrFun (f26 22 (by decide)) 0)) ((f37 23 (by decide)).trans (f26 23 (by decide))) hI22
      have I52 : jI31 σ35 := jI31_fr ((congrFun (f37 31 (by decide)) 8).trans (congrFun (f26 31 (by decide)) 8)) ((f37 33 (by decide)).trans (f26 33 (by decide))) ((f37 36 (by decide)).trans (f26 36 (by decide))) hI31
      have I53 : jI38 σ35 := jI38_fr ((congrFun (f37 38 (by decide)) 0).trans (congrFun (f26 38 (by decide)) 0)) ((congrFun (f37 38 (by decide)) 1).trans (congrFun (f26 38 (by decide)) 1)) ((f37 39 (by decide)).trans (f26 39 (by decide))) hI38
      have I54 : jI43 σ35 := jI43_fr ((congrFun (f37 43 (by decide)) 8).trans (congrFun (f26 43 (by decide)) 8)) hI43
      have I55 : jI47 σ35 := jI47_fr ((congrFun (f37 47 (by decide)) 0).trans (congrFun (f26 47 (by decide)) 0)) ((f37 49 (by decide)).trans (f26 49 (by decide))) hI47
      have I56 : jI50 σ35 := jI50_fr (f37 52 (by decide)) I27
      have I57 : jI101 σ35 := jI101_fr ((congrFun (f37 55 (by decide)) 4).trans (congrFun (f26 55 (by decide)) 4)) ((congrFun (f37 55 (by decide)) 5).trans (congrFun (f26 55 (by decide)) 5)) ((f37 56 (by decide)).trans (f26 56 (by decide))) ((f37 57 (by decide)).trans (f26 57 (by decide))) ((f37 58 (by decide)).trans (f26 58 (by decide))) ((f37 59 (by decide)).trans (f26 59 (by decide))) hI101
      have I58 : jI102 σ35 := jI102_fr ((congrFun (f37 55 (by decide)) 6).trans (congrFun (f26 55 (by decide)) 6)) ((f37 60 (by decide)).trans (f26 60 (by decide))) ((f37 61 (by decide)).trans (f26 61 (by decide))) hI102
      have I59 : jI103 σ35 := jI103_fr ((congrFun (f37 55 (by decide)) 9).trans (congrFun (f26 55 (by decide)) 9)) hI103
      have I60 : jI104 σ35 := jI104_fr ((congrFun (f37 55 (by decide)) 10).trans (congrFun (f26 55 (by decide)) 10)) ((congrFun (f37 55 (by decide)) 12).trans (congrFun (f26 55 (by decide)) 12)) ((congrFun (f37 55 (by decide)) 13).trans (congrFun (f26 55 (by decide)) 13)) ((f37 62 (by decide)).trans (f26 62 (by decide))) ((f37 67 (by decide)).trans (f26 67 (by decide))) hI104
      have I61 : jI105 σ35 := jI105_fr ((congrFun (f37 55 (by decide)) 15).trans (congrFun (f26 55 (by decide)) 15)) ((f37 65 (by decide)).trans (f26 65 (by decide))) hI105
      have I62 : jI106 σ35 := jI106_fr ((congrFun (f37 55 (by decide)) 32).trans (congrFun (f26 55 (by decide)) 32)) ((f37 70 (by decide)).trans (f26 70 (by decide))) ((f37 71 (by decide)).trans (f26 71 (by decide))) ((f37 72 (by decide)).trans (f26 72 (by decide))) hI106
      have I63 : jI107 σ35 := jI107_fr ((congrFun (f37 55 (by decide)) 12).trans (congrFun (f26 55 (by decide)) 12)) ((congrFun (f37 55 (by decide)) 47).trans (congrFun (f26 55 (by decide)) 47)) ((f37 80 (by decide)).trans (f26 80 (by decide))) hI107
      have I64 : jI109 σ35 := jI109_fr ((congrFun (f37 55 (by decide)) 50).trans (congrFun (f26 55 (by decide)) 50)) hI109
      have I65 : jI111 σ35 := jI111_fr ((f37 79 (by decide)).trans (f26 79 (by decide))) hI111
      have I66 : jI119 σ35 := jI119_fr ((f37 68 (by decide)).trans (f26 68 (by decide))) hI119
      have p67 : jKept σ35 := jKept.fr ((f37 75 (by decide)).trans (f26 75 (by decide))) ((f37 76 (by decide)).trans (f26 76 (by decide))) ((f37 77 (by decide)).trans (f26 77 (by decide))) hs_jKept
      have p68 : jBook σ35 := jBook.fr ((congrFun (f37 55 (by decide)) 47).trans (congrFun (f26 55 (by decide)) 47)) ((congrFun (f37 55 (by decide)) 10).trans (congrFun (f26 55 (by decide)) 10)) ((f37 81 (by decide)).trans (f26 81 (by decide))) hs_jBook
      have z69 : (σ35 2 0).toInt = (σ 2 0).toInt := (congrArg Int32.toInt (show σ35 2 0 = (σ 2 0) from ((congrFun (f37 2 (by decide)) 0).trans (congrFun (f26 2 (by decide)) 0))))
      have z70 : (σ35 55 6).toInt = (σ 55 6).toInt := (congrArg Int32.toInt (show σ35 55 6 = (σ 55 6) from ((congrFun (f37 55 (by decide)) 6).trans (congrFun (f26 55 (by decide)) 6))))
      have z71 : (σ35 2 2).toInt = (σ 2 2).toInt := (congrArg Int32.toInt (show σ35 2 2 = (σ 2 2) from ((congrFun (f37 2 (by decide)) 2).trans (congrFun (f26 2 (by decide)) 2))))
      have z72 : (σ35 55 5).toInt = (σ 55 5).toInt := (congrArg Int32.toInt (show σ35 55 5 = (σ 55 5) from ((congrFun (f37 55 (by decide)) 5).trans (congrFun (f26 55 (by decide)) 5))))
      have z73 : (σ35 2 3).toInt = (σ 2 3).toInt := (congrArg Int32.toInt (show σ35 2 3 = (σ 2 3) from ((congrFun (f37 2 (by decide)) 3).trans (congrFun (f26 2 (by decide)) 3))))
      have z74 : (σ35 55 4).toInt = (σ 55 4).toInt := (congrArg Int32.toInt (show σ35 55 4 = (σ 55 4) from ((congrFun (f37 55 (by decide)) 4).trans (congrFun (f26 55 (by decide)) 4))))
      exact ih x45 σ35 τ35 _ _ ls (by have h9 := tx45; omega) ⟨I46, I47, I48, I49, I50, I51, I52, I53, I54, I55, I56, I57, I58, I59, I60, I61, I62, I63, I64, I38, I65, I66, p67, p68, (by omega), (by omega), (by omega), (show jNumP (σ35 3) (σ35 56) (σ35 6) (σ35 57) (σ35 7) (σ35 58) (σ35 8) (σ35 59) (σ35 55 6).toInt (σ35 55 4).toInt by rw [show σ35 3 = σ 3 from ((f37 3 (by decide)).trans (f26 3 (by decide))), show σ35 56 = σ 56 from ((f37 56 (by decide)).trans (f26 56 (by decide))), show σ35 6 = σ 6 from ((f37 6 (by decide)).trans (f26 6 (by decide))), show σ35 57 = σ 57 from ((f37 57 (by decide)).trans (f26 57 (by decide))), show σ35 7 = σ 7 from ((f37 7 (by decide)).trans (f26 7 (by decide))), show σ35 58 = σ 58 from ((f37 58 (by decide)).trans (f26 58 (by decide))), show σ35 8 = σ 8 from ((f37 8 (by decide)).trans (f26 8 (by decide))), show σ35 59 = σ 59 from ((f37 59 (by decide)).trans (f26 59 (by decide))), show (σ35 55 6).toInt = (σ 55 6).toInt from by omega, show (σ35 55 4).toInt = (σ 55 4).toInt from by omega]; exact hr0)⟩ hP hS (lv_sub hl [0, 1, 2, 3] rfl)
    · obtain ⟨q79, k75, k76, k77, k78⟩ := h40
      exact absurd (by omega : False) id
    · obtain ⟨q84, k80, k81, k82, k83⟩ := h41
      exact absurd (by omega : False) id
  · obtain ⟨q89, k85, k86, k87, k88⟩ := h29
    have q89 := q89.symm
    subst q89
    refine lv_pop hx hb dL_law_1108 rfl ?_
    refine lv_aload_n hx hb dL_law_1109 rfl (lv_at hl 1 rfl) ?_
    refine lv_aload_n hx hb dL_law_1110 rfl (lv_at hl 3 rfl) ?_
    refine lv_iload_n hx hb dL_law_1111 rfl (lv_at hl 0 rfl) ?_
    refine lv_iconst (v := 1) hx hb dL_law_1112 (by decide) ?_
    refine lv_iadd hx hb dL_law_1113 ?_
    refine jtopr ex18.symm ?_
    refine va_sld hx hb hX hbl hbA hS (jin tx18 (by omega) (by omega)) dL_law_1114 ?_
    refine lv_aload_n hx hb dL_law_1115 rfl (lv_at hl 3 rfl) ?_
    refine lv_iload_n hx hb dL_law_1116 rfl (lv_at hl 0 rfl) ?_
    refine lv_iconst (v := 2) hx hb dL_law_1117 (by decide) ?_
    refine lv_iadd hx hb dL_law_1118 ?_
    refine jtopr ex20.symm ?_
    refine va_sld hx hb hX hbl hbA hS (jin tx20 (by omega) (by omega)) dL_law_1119 ?_
    refine lv_aload_n hx hb dL_law_1120 rfl (lv_at hl 3 rfl) ?_
    refine lv_iload_n hx hb dL_law_1121 rfl (lv_at hl 0 rfl) ?_
    refine lv_iconst (v := 3) hx hb dL_law_1122 (by decide) ?_
    refine lv_iadd hx hb dL_law_1123 ?_
    refine jtopr ex22.symm ?_
    refine va_sld hx hb hX hbl hbA hS (jin tx22 (by omega) (by omega)) dL_law_1124 ?_
    have I90 : jI110 σ24 := jI110_fr (f26 86 (by decide)) (f26 87 (by decide)) hI110
    refine jcallV (As := [.int (xs x18.toNatClampNeg), .int (xs x20.toNatClampNeg), .int (xs x22.toNatClampNeg)]) (rest := []) ⟨hx, hb, hml, hown, hts⟩ hK hP hA hS hZ (c_X12_row l D cI cL ad zz hJ σ24 τ24 (xs x18.toNatClampNeg) ((xs x18.toNatClampNeg).toInt) rfl (xs x20.toNatClampNeg) ((xs x20.toNatClampNeg).toInt) rfl (xs x22.toNatClampNeg) ((xs x22.toNatClampNeg).toInt) rfl I90) cw_RL_144 (jc_55 cI cL ad σ24 τ24) rfl ⟨Nat.le_of_ble_eq_true rfl, Nat.le_of_ble_eq_true rfl⟩ rfl rfl rfl hl.1 rfl (Nat.le_of_ble_eq_true rfl) dL_law_1125 ⟨Nat.le_of_ble_eq_true rfl, Nat.le_of_ble_eq_true rfl⟩ (fun r92 σ91 τ91 H locs h91 hP hS => ?_)
    obtain ⟨f93, I94, h91⟩ := h91
    rcases h91 with h95 | h96 | h97
    · obtain ⟨q100, k98, k99⟩ := h95
      exact absurd (by omega : False) id
    · obtain ⟨q105, k101, k102, k103, k104⟩ := h96
      have q105 := q105.symm
      subst q105
      refine lv_pop hx hb dL_law_1128 rfl ?_
      refine lv_goto (tgt := 1357) hx hb dL_law_1129 (by decide) ?_
      obtain ⟨x106, ex106⟩ : ∃ y : Int32, y = x0 + 6 := ⟨_, rfl⟩
      have tx106 : x106.toInt = x0.toInt + 6 := (jadd ex106 rfl jz_6 (by omega) (by omega)).trans (by omega)
      refine lv_iinc (v := x106) (lv' := [(3, .int x106), (2, .ref (ad 55)), (1, .ref (ad 0)), (0, .ref b)]) hx hb dL_law_1357 hl (k := 0) rfl (by rw [ex106]; rfl) (by decide) rfl (fun ls hl => ?_)
      refine lv_goto (tgt := 18) hx hb dL_law_1360 (by decide) ?_
      have I107 : jI2 σ91 := jI2_fr ((congrFun (f93 2 (by decide)) 0).trans (congrFun (f26 2 (by decide)) 0)) ((congrFun (f93 2 (by decide)) 1).trans (congrFun (f26 2 (by decide)) 1)) ((congrFun (f93 2 (by decide)) 2).trans (congrFun (f26 2 (by decide)) 2)) ((congrFun (f93 2 (by decide)) 3).trans (congrFun (f26 2 (by decide)) 3)) ((f93 6 (by decide)).trans (f26 6 (by decide))) hI2
      have I108 : jI9 σ91 := jI9_fr ((congrFun (f93 9 (by decide)) 0).trans (congrFun (f26 9 (by decide)) 0)) ((f93 10 (by decide)).trans (f26 10 (by decide))) ((f93 11 (by decide)).trans (f26 11 (by decide))) hI9
      have I109 : jI12 σ91 := jI12_fr ((congrFun (f93 12 (by decide)) 0).trans (congrFun (f26 12 (by decide)) 0)) ((f93 13 (by decide)).trans (f26 13 (by decide))) hI12
      have I110 : jI16 σ91 := jI16_fr ((congrFun (f93 16 (by decide)) 0).trans (congrFun (f26 16 (by decide)) 0)) ((congrFun (f93 16 (by decide)) 1).trans (congrFun (f26 16 (by decide)) 1)) ((congrFun (f93 16 (by decide)) 2).trans (congrFun (f26 16 (by decide)) 2)) ((f93 17 (by decide)).trans (f26 17 (by decide))) hI16
      have I111 : jI18 σ91 := jI18_fr ((congrFun (f93 18 (by decide)) 0).trans (congrFun (f26 18 (by decide)) 0)) ((f93 19 (by decide)).trans (f26 19 (by decide))) hI18
      have I112 : jI22 σ91 := jI22_fr ((congrFun (f93 22 (by decide)) 0).trans (congrFun (f26 22 (by decide)) 0)) ((f93 23 (by decide)).trans (f26 23 (by decide))) hI22
      have I113 : jI31 σ91 := jI31_fr ((congrFun (f93 31 (by decide)) 8).trans (congrFun (f26 31 (by decide)) 8)) ((f93 33 (by decide)).trans (f26 33 (by decide))) ((f93 36 (by decide)).trans (f26 36 (by decide))) hI31
      have I114 : jI38 σ91 := jI38_fr ((congrFun (f93 38 (by decide)) 0).trans (congrFun (f26 38 (by decide)) 0)) ((congrFun (f93 38 (by decide)) 1).trans (congrFun (f26 38 (by decide)) 1)) ((f93 39 (by decide)).trans (f26 39 (by decide))) hI38
      have I115 : jI43 σ91 := jI43_fr ((congrFun (f93 43 (by decide)) 8).trans (congrFun (f26 43 (by decide)) 8)) hI43
      have I116 : jI47 σ91 := jI47_fr ((congrFun (f93 47 (by decide)) 0).trans (congrFun (f26 47 (by decide)) 0)) ((f93 49 (by decide)).trans (f26 49 (by decide))) hI47
      have I117 : jI50 σ91 := jI50_fr (f93 52 (by decide)) I27
      have I118 : jI101 σ91 := jI101_fr ((congrFun (f93 55 (by decide)) 4).trans (congrFun (f26 55 (by decide)) 4)) ((congrFun (f93 55 (by decide)) 5).trans (congrFun (f26 55 (by decide)) 5)) ((f93 56 (by decide)).trans (f26 56 (by decide))) ((f93 57 (by decide)).trans (f26 57 (by decide))) ((f93 58 (by decide)).trans (f26 58 (by decide))) ((f93 59 (by decide)).trans (f26 59 (by decide))) hI101
      have I119 : jI102 σ91 := jI102_fr ((congrFun (f93 55 (by decide)) 6).trans (congrFun (f26 55 (by decide)) 6)) ((f93 60 (by decide)).trans (f26 60 (by decide))) ((f93 61 (by decide)).trans (f26 61 (by decide))) hI102
      have I120 : jI103 σ91 := jI103_fr ((congrFun (f93 55 (by decide)) 9).trans (congrFun (f26 55 (by decide)) 9)) hI103
      have I121 : jI104 σ91 := jI104_fr ((congrFun (f93 55 (by decide)) 10).trans (congrFun (f26 55 (by decide)) 10)) ((congrFun (f93 55 (by decide)) 12).trans (congrFun (f26 55 (by decide)) 12)) ((congrFun (f93 55 (by decide)) 13).trans (congrFun (f26 55 (by decide)) 13)) ((f93 62 (by decide)).trans (f26 62 (by decide))) ((f93 67 (by decide)).trans (f26 67 (by decide))) hI104
      have I122 : jI105 σ91 := jI105_fr ((congrFun (f93 55 (by decide)) 15).trans (congrFun (f26 55 (by decide)) 15)) ((f93 65 (by decide)).trans (f26 65 (by decide))) hI105
      have I123 : jI106 σ91 := jI106_fr ((congrFun (f93 55 (by decide)) 32).trans (congrFun (f26 55 (by decide)) 32)) ((f93 70 (by decide)).trans (f26 70 (by decide))) ((f93 71 (by decide)).trans (f26 71 (by decide))) ((f93 72 (by decide)).trans (f26 72 (by decide))) hI106
      have I124 : jI107 σ91 := jI107_fr ((congrFun (f93 55 (by decide)) 12).trans (congrFun (f26 55 (by decide)) 12)) ((congrFun (f93 55 (by decide)) 47).trans (congrFun (f26 55 (by decide)) 47)) ((f93 80 (by decide)).trans (f26 80 (by decide))) hI107
      have I125 : jI109 σ91 := jI109_fr ((congrFun (f93 55 (by decide)) 50).trans (congrFun (f26 55 (by decide)) 50)) hI109
      have I126 : jI111 σ91 := jI111_fr ((f93 79 (by decide)).trans (f26 79 (by decide))) hI111
      have I127 : jI119 σ91 := jI119_fr ((f93 68 (by decide)).trans (f26 68 (by decide))) hI119
      have p128 : jKept σ91 := jKept.fr ((f93 75 (by decide)).trans (f26 75 (by decide))) ((f93 76 (by decide)).trans (f26 76 (by decide))) ((f93 77 (by decide)).trans (f26 77 (by decide))) hs_jKept
      have p129 : jBook σ91 := jBook.fr ((congrFun (f93 55 (by decide)) 47).trans (congrFun (f26 55 (by decide)) 47)) ((congrFun (f93 55 (by decide)) 10).trans (congrFun (f26 55 (by decide)) 10)) ((f93 81 (by decide)).trans (f26 81 (by decide))) hs_jBook
      have z130 : (σ91 2 0).toInt = (σ 2 0).toInt := (congrArg Int32.toInt (show σ91 2 0 = (σ 2 0) from ((congrFun (f93 2 (by decide)) 0).trans (congrFun (f26 2 (by decide)) 0))))
      have z131 : (σ91 55 6).toInt = (σ 55 6).toInt := (congrArg Int32.toInt (show σ91 55 6 = (σ 55 6) from ((congrFun (f93 55 (by decide)) 6).trans (congrFun (f26 55 (by decide)) 6))))
      have z132 : (σ91 2 2).toInt = (σ 2 2).toInt := (congrArg Int32.toInt (show σ91 2 2 = (σ 2 2) from ((congrFun (f93 2 (by decide)) 2).trans (congrFun (f26 2 (by decide)) 2))))
      have z133 : (σ91 55 5).toInt = (σ 55 5).toInt := (congrArg Int32.toInt (show σ91 55 5 = (σ 55 5) from ((congrFun (f93 55 (by decide)) 5).trans (congrFun (f26 55 (by decide)) 5))))
      have z134 : (σ91 2 3).toInt = (σ 2 3).toInt := (congrArg Int32.toInt (show σ91 2 3 = (σ 2 3) from ((congrFun (f93 2 (by decide)) 3).trans (congrFun (f26 2 (by decide)) 3))))
      have z135 : (σ91 55 4).toInt = (σ 55 4).toInt := (congrArg Int32.toInt (show σ91 55 4 = (σ 55 4) from ((congrFun (f93 55 (by decide)) 4).trans (congrFun (f26 55 (by decide)) 4))))
      exact ih x106 σ91 τ91 _ _ ls (by have h9 := tx106; omega) ⟨I107, I108, I109, I110, I111, I112, I113, I114, I115, I116, I117, I118, I119, I120, I121, I122, I123, I124, I125, I94, I126, I127, p128, p129, (by omega), (by omega), (by omega), (show jNumP (σ91 3) (σ91 56) (σ91 6) (σ91 57) (σ91 7) (σ91 58) (σ91 8) (σ91 59) (σ91 55 6).toInt (σ91 55 4).toInt by rw [show σ91 3 = σ 3 from ((f93 3 (by decide)).trans (f26 3 (by decide))), show σ91 56 = σ 56 from ((f93 56 (by decide)).trans (f26 56 (by decide))), show σ91 6 = σ 6 from ((f93 6 (by decide)).trans (f26 6 (by decide))), show σ91 57 = σ 57 from ((f93 57 (by decide)).trans (f26 57 (by decide))), show σ91 7 = σ 7 from ((f93 7 (by decide)).trans (f26 7 (by decide))), show σ91 58 = σ 58 from ((f93 58 (by decide)).trans (f26 58 (by decide))), show σ91 8 = σ 8 from ((f93 8 (by decide)).trans (f26 8 (by decide))), show σ91 59 = σ 59 from ((f93 59 (by decide)).trans (f26 59 (by decide))), show (σ91 55 6).toInt = (σ 55 6).toInt from by omega, show (σ91 55 4).toInt = (σ 55 4).toInt from by omega]; exact hr0)⟩ hP hS (lv_sub hl [0, 1, 2, 3] rfl)
    · obtain ⟨q140, k136, k137, k138, k139⟩ := h97
      exact absurd (by omega : False) id
  · obtain ⟨q145, k141, k142, k143, k144⟩ := h30
    have q145 := q145.symm
    subst q145
    refine lv_pop hx hb dL_law_1108 rfl ?_
    refine lv_aload_n hx hb dL_law_1109 rfl (lv_at hl 1 rfl) ?_
    refine lv_aload_n hx hb dL_law_1110 rfl (lv_at hl 3 rfl) ?_
    refine lv_iload_n hx hb dL_law_1111 rfl (lv_at hl 0 rfl) ?_
    refine lv_iconst (v := 1) hx hb dL_law_1112 (by decide) ?_
    refine lv_iadd hx hb dL_law_1113 ?_
    refine jtopr ex18.symm ?_
    refine va_sld hx hb hX hbl hbA hS (jin tx18 (by omega) (by omega)) dL_law_1114 ?_
    refine lv_aload_n hx hb dL_law_1115 rfl (lv_at hl 3 rfl) ?_
    refine lv_iload_n hx hb dL_law_1116 rfl (lv_at hl 0 rfl) ?_
    refine lv_iconst (v := 2) hx hb dL_law_1117 (by decide) ?_
    refine lv_iadd hx hb dL_law_1118 ?_
    refine jtopr ex20.symm ?_
    refine va_sld hx hb hX hbl hbA hS (jin tx20 (by omega) (by omega)) dL_law_1119 ?_
    refine lv_aload_n hx hb dL_law_1120 rfl (lv_at hl 3 rfl) ?_
    refine lv_iload_n hx hb dL_law_1121 rfl (lv_at hl 0 rfl) ?_
    refine lv_iconst (v := 3) hx hb dL_law_1122 (by decide) ?_
    refine lv_iadd hx hb dL_law_1123 ?_
    refine jtopr ex22.symm ?_
    refine va_sld hx hb hX hbl hbA hS (jin tx22 (by omega) (by omega)) dL_law_1124 ?_
    have I146 : jI110 σ24 := jI110_fr (f26 86 (by decide)) (f26 87 (by decide)) hI110
    refine jcallV (As := [.int (xs x18.toNatClampNeg), .int (xs x20.toNatClampNeg), .int (xs x22.toNatClampNeg)]) (rest := []) ⟨hx, hb, hml, hown, hts⟩ hK hP hA hS hZ (c_X12_row l D cI cL ad zz hJ σ24 τ24 (xs x18.toNatClampNeg) ((xs x18.toNatClampNeg).toInt) rfl (xs x20.toNatClampNeg) ((xs x20.toNatClampNeg).toInt) rfl (xs x22.toNatClampNeg) ((xs x22.toNatClampNeg).toInt) rfl I146) cw_RL_144 (jc_55 cI cL ad σ24 τ24) rfl ⟨Nat.le_of_ble_eq_true rfl, Nat.le_of_ble_eq_true rfl⟩ rfl rfl rfl hl.1 rfl (Nat.le_of_ble_eq_true rfl) dL_law_1125 ⟨Nat.le_of_ble_eq_true rfl, Nat.le_of_ble_eq_true rfl⟩ (fun r148 σ147 τ147 H locs h147 hP hS => ?_)
    obtain ⟨f149, I150, h147⟩ := h147
    rcases h147 with h151 | h152 | h153
    · obtain ⟨q156, k154, k155⟩ := h151
      exact absurd (by omega : False) id
    · obtain ⟨q161, k157, k158, k159, k160⟩ := h152
      exact absurd (by omega : False) id
    · obtain ⟨q166, k162, k163, k164, k165⟩ := h153
      have q166 := q166.symm
      subst q166
      refine lv_pop hx hb dL_law_1128 rfl ?_
      refine lv_goto (tgt := 1357) hx hb dL_law_1129 (by decide) ?_
      obtain ⟨x167, ex167⟩ : ∃ y : Int32, y = x0 + 6 := ⟨_, rfl⟩
      have tx167 : x167.toInt = x0.toInt + 6 := (jadd ex167 rfl jz_6 (by omega) (by omega)).trans (by omega)
      refine lv_iinc (v := x167) (lv' := [(3, .int x167), (2, .ref (ad 55)), (1, .ref (ad 0)), (0, .ref b)]) hx hb dL_law_1357 hl (k := 0) rfl (by rw [ex167]; rfl) (by decide) rfl (fun ls hl => ?_)
      refine lv_goto (tgt := 18) hx hb dL_law_1360 (by decide) ?_
      have I168 : jI2 σ147 := jI2_fr ((congrFun (f149 2 (by decide)) 0).trans (congrFun (f26 2 (by decide)) 0)) ((congrFun (f149 2 (by decide)) 1).trans (congrFun (f26 2 (by decide)) 1)) ((congrFun (f149 2 (by decide)) 2).trans (congrFun (f26 2 (by decide)) 2)) ((congrFun (f149 2 (by decide)) 3).trans (congrFun (f26 2 (by decide)) 3)) ((f149 6 (by decide)).trans (f26 6 (by decide))) hI2
      have I169 : jI9 σ147 := jI9_fr ((congrFun (f149 9 (by decide)) 0).trans (congrFun (f26 9 (by decide)) 0)) ((f149 10 (by decide)).trans (f26 10 (by decide))) ((f149 11 (by decide)).trans (f26 11 (by decide))) hI9
      have I170 : jI12 σ147 := jI12_fr ((congrFun (f149 12 (by decide)) 0).trans (congrFun (f26 12 (by decide)) 0)) ((f149 13 (by decide)).trans (f26 13 (by decide))) hI12
      have I171 : jI16 σ147 := jI16_fr ((congrFun (f149 16 (by decide)) 0).trans (congrFun (f26 16 (by decide)) 0)) ((congrFun (f149 16 (by decide)) 1).trans (congrFun (f26 16 (by decide)) 1)) ((congrFun (f149 16 (by decide)) 2).trans (congrFun (f26 16 (by decide)) 2)) ((f149 17 (by decide)).trans (f26 17 (by decide))) hI16
      have I172 : jI18 σ147 := jI18_fr ((congrFun (f149 18 (by decide)) 0).trans (congrFun (f26 18 (by decide)) 0)) ((f149 19 (by decide)).trans (f26 19 (by decide))) hI18
      have I173 : jI22 σ147 := jI22_fr ((congrFun (f149 22 (by decide)) 0).trans (congrFun (f26 22 (by decide)) 0)) ((f149 23 (by decide)).trans (f26 23 (by decide))) hI22
      have I174 : jI31 σ147 := jI31_fr ((congrFun (f149 31 (by decide)) 8).trans (congrFun (f26 31 (by decide)) 8)) ((f149 33 (by decide)).trans (f26 33 (by decide))) ((f149 36 (by decide)).trans (f26 36 (by decide))) hI31
      have I175 : jI38 σ147 := jI38_fr ((congrFun (f149 38 (by decide)) 0).trans (congrFun (f26 38 (by decide)) 0)) ((congrFun (f149 38 (by decide)) 1).trans (congrFun (f26 38 (by decide)) 1)) ((f149 39 (by decide)).trans (f26 39 (by decide))) hI38
      have I176 : jI43 σ147 := jI43_fr ((congrFun (f149 43 (by decide)) 8).trans (congrFun (f26 43 (by decide)) 8)) hI43
      have I177 : jI47 σ147 := jI47_fr ((congrFun (f149 47 (by decide)) 0).trans (congrFun (f26 47 (by decide)) 0)) ((f149 49 (by decide)).trans (f26 49 (by decide))) hI47
      have I178 : jI50 σ147 := jI50_fr (f149 52 (by decide)) I27
      have I179 : jI101 σ147 := jI101_fr ((congrFun (f149 55 (by decide)) 4).trans (congrFun (f26 55 (by decide)) 4)) ((congrFun (f149 55 (by decide)) 5).trans (congrFun (f26 55 (by decide)) 5)) ((f149 56 (by decide)).trans (f26 56 (by decide))) ((f149 57 (by decide)).trans (f26 57 (by decide))) ((f149 58 (by decide)).trans (f26 58 (by decide))) ((f149 59 (by decide)).trans (f26 59 (by decide))) hI101
      have I180 : jI102 σ147 := jI102_fr ((congrFun (f149 55 (by decide)) 6).trans (congrFun (f26 55 (by decide)) 6)) ((f149 60 (by decide)).trans (f26 60 (by decide))) ((f149 61 (by decide)).trans (f26 61 (by decide))) hI102
      have I181 : jI103 σ147 := jI103_fr ((congrFun (f149 55 (by decide)) 9).trans (congrFun (f26 55 (by decide)) 9)) hI103
      have I182 : jI104 σ147 := jI104_fr ((congrFun (f149 55 (by decide)) 10).trans (congrFun (f26 55 (by decide)) 10)) ((congrFun (f149 55 (by decide)) 12).trans (congrFun (f26 55 (by decide)) 12)) ((congrFun (f149 55 (by decide)) 13).trans (congrFun (f26 55 (by decide)) 13)) ((f149 62 (by decide)).trans (f26 62 (by decide))) ((f149 67 (by decide)).trans (f26 67 (by decide))) hI104
      have I183 : jI105 σ147 := jI105_fr ((congrFun (f149 55 (by decide)) 15).trans (congrFun (f26 55 (by decide)) 15)) ((f149 65 (by decide)).trans (f26 65 (by decide))) hI105
      have I184 : jI106 σ147 := jI106_fr ((congrFun (f149 55 (by decide)) 32).trans (congrFun (f26 55 (by decide)) 32)) ((f149 70 (by decide)).trans (f26 70 (by decide))) ((f149 71 (by decide)).trans (f26 71 (by decide))) ((f149 72 (by decide)).trans (f26 72 (by decide))) hI106
      have I185 : jI107 σ147 := jI107_fr ((congrFun (f149 55 (by decide)) 12).trans (congrFun (f26 55 (by decide)) 12)) ((congrFun (f149 55 (by decide)) 47).trans (congrFun (f26 55 (by decide)) 47)) ((f149 80 (by decide)).trans (f26 80 (by decide))) hI107
      have I186 : jI109 σ147 := jI109_fr ((congrFun (f149 55 (by decide)) 50).trans (congrFun (f26 55 (by decide)) 50)) hI109
      have I187 : jI111 σ147 := jI111_fr ((f149 79 (by decide)).trans (f26 79 (by decide))) hI111
      have I188 : jI119 σ147 := jI119_fr ((f149 68 (by decide)).trans (f26 68 (by decide))) hI119
      have p189 : jKept σ147 := jKept.fr ((f149 75 (by decide)).trans (f26 75 (by decide))) ((f149 76 (by decide)).trans (f26 76 (by decide))) ((f149 77 (by decide)).trans (f26 77 (by decide))) hs_jKept
      have p190 : jBook σ147 := jBook.fr ((congrFun (f149 55 (by decide)) 47).trans (congrFun (f26 55 (by decide)) 47)) ((congrFun (f149 55 (by decide)) 10).trans (congrFun (f26 55 (by decide)) 10)) ((f149 81 (by decide)).trans (f26 81 (by decide))) hs_jBook
      have z191 : (σ147 2 0).toInt = (σ 2 0).toInt := (congrArg Int32.toInt (show σ147 2 0 = (σ 2 0) from ((congrFun (f149 2 (by decide)) 0).trans (congrFun (f26 2 (by decide)) 0))))
      have z192 : (σ147 55 6).toInt = (σ 55 6).toInt := (congrArg Int32.toInt (show σ147 55 6 = (σ 55 6) from ((congrFun (f149 55 (by decide)) 6).trans (congrFun (f26 55 (by decide)) 6))))
      have z193 : (σ147 2 2).toInt = (σ 2 2).toInt := (congrArg Int32.toInt (show σ147 2 2 = (σ 2 2) from ((congrFun (f149 2 (by decide)) 2).trans (congrFun (f26 2 (by decide)) 2))))
      have z194 : (σ147 55 5).toInt = (σ 55 5).toInt := (congrArg Int32.toInt (show σ147 55 5 = (σ 55 5) from ((congrFun (f149 55 (by decide)) 5).trans (congrFun (f26 55 (by decide)) 5))))
      have z195 : (σ147 2 3).toInt = (σ 2 3).toInt := (congrArg Int32.toInt (show σ147 2 3 = (σ 2 3) from ((congrFun (f149 2 (by decide)) 3).trans (congrFun (f26 2 (by decide)) 3))))
      have z196 : (σ147 55 4).toInt = (σ 55 4).toInt := (congrArg Int32.toInt (show σ147 55 4 = (σ 55 4) from ((congrFun (f149 55 (by decide)) 4).trans (congrFun (f26 55 (by decide)) 4))))
      exact ih x167 σ147 τ147 _ _ ls (by have h9 := tx167; omega) ⟨I168, I169, I170, I171, I172, I173, I174, I175, I176, I177, I178, I179, I180, I181, I182, I183, I184, I185, I186, I150, I187, I188, p189, p190, (by omega), (by omega), (by omega), (show jNumP (σ147 3) (σ147 56) (σ147 6) (σ147 57) (σ147 7) (σ147 58) (σ147 8) (σ147 59) (σ147 55 6).toInt (σ147 55 4).toInt by rw [show σ147 3 = σ 3 from ((f149 3 (by decide)).trans (f26 3 (by decide))), show σ147 56 = σ 56 from ((f149 56 (by decide)).trans (f26 56 (by decide))), show σ147 6 = σ 6 from ((f149 6 (by decide)).trans (f26 6 (by decide))), show σ147 57 = σ 57 from ((f149 57 (by decide)).trans (f26 57 (by decide))), show σ147 7 = σ 7 from ((f149 7 (by decide)).trans (f26 7 (by decide))), show σ147 58 = σ 58 from ((f149 58 (by decide)).trans (f26 58 (by decide))), show σ147 8 = σ 8 from ((f149 8 (by decide)).trans (f26 8 (by decide))), show σ147 59 = σ 59 from ((f149 59 (by decide)).trans (f26 59 (by decide))), show (σ147 55 6).toInt = (σ 55 6).toInt from by omega, show (σ147 55 4).toInt = (σ 55 4).toInt from by omega]; exact hr0)⟩ hP hS (lv_sub hl [0, 1, 2, 3] rfl)
set_option maxHeartbeats 4000000 in
set_option maxRecDepth 100000 in
theorem law_case_32 {p : Program} {e : Env} {s : State} {m : MethodId} {below : List Frame} {meth : Method} {c : Code} (l : Launch) {b L : Nat} {xs : Nat → Int32} {D : va_G} {cI cL : ClassId} {ad zz : Nat → Nat} (C0 : lw_At p s m meth c b L xs) (hJ : jD ad) (hA : ∀ q, jA ad q → s.heap.size ≤ q) (hK : jK D cI cL s) (hZ : jZ zz (fun q : Nat => s.heap.size ≤ q) s s.heap) {x0 : Int32} (hx0 : 0 ≤ x0.toInt) (hxL : x0.toInt + 6 ≤ (L : Int)) (hL : L ≤ 384) {σ : Nat → Nat → Int32} {τ : Nat → Nat → Int64} {H : Heap} {locs : List Loc} (hS : va_S (fun q : Nat => s.heap.size ≤ q) s.heap H locs) {ls : Array Slot} (hAll : jAll σ τ) (hP : jH D cI cL ad σ τ H) (hl : lv_has ls 4 [(3, .int x0), (2, .ref (ad 55)), (1, .ref (ad 0)), (0, .ref b)]) (ih : ∀ (x1 : Int32) (σ : Nat → Nat → Int32) (τ : Nat → Nat → Int64) (H : Heap) (locs : List Loc) (ls : Array Slot), x1.toInt = x0.toInt + 6 → jAll σ τ → jH D cI cL ad σ τ H → va_S (fun q : Nat => s.heap.size ≤ q) s.heap H locs → lv_has ls 4 [(3, .int x1), (2, .ref (ad 55)), (1, .ref (ad 0)), (0, .ref b)] → W p l e room_1 s m #[Value.ref b] below meth c H locs 90 348600 (lw_Z below #[Value.ref b] s) (F0 m 18 ls [])) : W p l e room_1 s m #[Value.ref b] below meth c H locs 90 348600 (lw_Z below #[Value.ref b] s) (F0 m 1132 ls []) := by
  obtain ⟨hx, hb, hr, hml, hown, hts0, hX, hbl, hlocks, hgv⟩ := C0
  have hts : ∀ w ∈ wsL_law, w.before #[Value.ref b] s = true := fun w h => hts0 w (wsL_law_in w h)
  have hbA : ¬ (fun q : Nat => s.heap.size ≤ q) b := Nat.not_le.mpr hbl
  have hown : s.vm.findClass RL = some m.cls := hown
  obtain ⟨hI2, hI9, hI12, hI16, hI18, hI22, hI31, hI38, hI43, hI47, hI50, hI101, hI102, hI103, hI104, hI105, hI106, hI107, hI109, hI110, hI111, hI119, hs_jKept, hs_jBook, ht0, ht1, ht2, hr0⟩ := hAll
  have hL9 : (L : Int) ≤ 384 := by omega
  obtain ⟨i1, i2, i3, i4, i5, w6⟩ : (0 ≤ (σ 2 0).toInt ∧ (σ 2 0).toInt ≤ 4) ∧ (0 ≤ (σ 2 1).toInt ∧ (σ 2 1).toInt ≤ 3) ∧ (0 ≤ (σ 2 2).toInt) ∧ (0 ≤ (σ 2 3).toInt) ∧ ((σ 2 2).toInt + (σ 2 3).toInt ≤ 40) ∧ (∀ k : Nat, k < 40 → 0 ≤ (σ 6 k).toInt ∧ (σ 6 k).toInt ≤ 67) := id hI2
  obtain ⟨i7, i8, i9, w10, w11, w12, w13⟩ : (0 ≤ (σ 55 5).toInt) ∧ ((σ 55 5).toInt ≤ (σ 55 4).toInt) ∧ ((σ 55 4).toInt ≤ 40) ∧ (∀ k : Nat, k < 68 → (-200) ≤ (σ 56 k).toInt ∧ (σ 56 k).toInt ≤ 500) ∧ (∀ k : Nat, k < 40 → 0 ≤ (σ 57 k).toInt ∧ (σ 57 k).toInt ≤ 67) ∧ (∀ k : Nat, k < 40 → (-200) ≤ (σ 58 k).toInt ∧ (σ 58 k).toInt ≤ 500) ∧ (∀ k : Nat, k < 40 → (-200) ≤ (σ 59 k).toInt ∧ (σ 59 k).toInt ≤ 500) := id hI101
  obtain ⟨i14, w15, w16⟩ : (0 ≤ (σ 55 6).toInt ∧ (σ 55 6).toInt ≤ 4) ∧ (∀ k : Nat, k < 4 → 0 ≤ (σ 60 k).toInt ∧ (σ 60 k).toInt ≤ 50) ∧ (∀ k : Nat, k < 4 → 0 ≤ (σ 61 k).toInt ∧ (σ 61 k).toInt ≤ 20) := id hI102
  refine lv_aload_n hx hb dL_law_1132 rfl (lv_at hl 2 rfl) ?_
  refine lv_aload_n hx hb dL_law_1133 rfl (lv_at hl 3 rfl) ?_
  refine lv_iload_n hx hb dL_law_1134 rfl (lv_at hl 0 rfl) ?_
  refine lv_iconst (v := 1) hx hb dL_law_1135 (by decide) ?_
  have g17 := jrg (rfl : x0.toInt = x0.toInt)
  refine lv_iadd hx hb dL_law_1136 ?_
  refine lv_topi (fun x18 ex18 => ?_)
  have tx18 : x18.toInt = x0.toInt + 1 := (jadd ex18 rfl jz_1 (by omega) (by omega)).trans (by omega)
  refine va_sld hx hb hX hbl hbA hS (jin tx18 (by omega) (by omega)) dL_law_1137 ?_
  have g19 := jrg (rfl : (xs x18.toNatClampNeg).toInt = (xs x18.toNatClampNeg).toInt)
  refine lv_aload_n hx hb dL_law_1138 rfl (lv_at hl 3 rfl) ?_
  refine lv_iload_n hx hb dL_law_1139 rfl (lv_at hl 0 rfl) ?_
  refine lv_iconst (v := 2) hx hb dL_law_1140 (by decide) ?_
  refine lv_iadd hx hb dL_law_1141 ?_
  refine lv_topi (fun x20 ex20 => ?_)
  have tx20 : x20.toInt = x0.toInt + 2 := (jadd ex20 rfl jz_2 (by omega) (by omega)).trans (by omega)
  refine va_sld hx hb hX hbl hbA hS (jin tx20 (by omega) (by omega)) dL_law_1142 ?_
  have g21 := jrg (rfl : (xs x20.toNatClampNeg).toInt = (xs x20.toNatClampNeg).toInt)
  refine lv_aload_n hx hb dL_law_1143 rfl (lv_at hl 3 rfl) ?_
  refine lv_iload_n hx hb dL_law_1144 rfl (lv_at hl 0 rfl) ?_
  refine lv_iconst (v := 3) hx hb dL_law_1145 (by decide) ?_
  refine lv_iadd hx hb dL_law_1146 ?_
  refine lv_topi (fun x22 ex22 => ?_)
  have tx22 : x22.toInt = x0.toInt + 3 := (jadd ex22 rfl jz_3 (by omega) (by omega)).trans (by omega)
  refine va_sld hx hb hX hbl hbA hS (jin tx22 (by omega) (by omega)) dL_law_1147 ?_
  have g23 := jrg (rfl : (xs x22.toNatClampNeg).toInt = (xs x22.toNatClampNeg).toInt)
  refine lv_i2l (v := (xs x22.toNatClampNeg).toInt64) hx hb dL_law_1148 rfl ?_
  refine lv_bipush (v := 32) hx hb dL_law_1149 (by decide) ?_
  refine lv_lshl hx hb dL_law_1151 rfl ?_
  refine lv_topl (fun lx24 elx24 => ?_)
  refine lv_aload_n hx hb dL_law_1152 rfl (lv_at hl 3 rfl) ?_
  refine lv_iload_n hx hb dL_law_1153 rfl (lv_at hl 0 rfl) ?_
  refine lv_iconst (v := 4) hx hb dL_law_1154 (by decide) ?_
  refine lv_iadd hx hb dL_law_1155 ?_
  refine lv_topi (fun x25 ex25 => ?_)
  have tx25 : x25.toInt = x0.toInt + 4 := (jadd ex25 rfl jz_4 (by omega) (by omega)).trans (by omega)
  refine va_sld hx hb hX hbl hbA hS (jin tx25 (by omega) (by omega)) dL_law_1156 ?_
  have g26 := jrg (rfl : (xs x25.toNatClampNeg).toInt = (xs x25.toNatClampNeg).toInt)
  refine lv_i2l (v := (xs x25.toNatClampNeg).toInt64) hx hb dL_law_1157 rfl ?_
  refine lv_ldc2 (v := 4294967295) hx hb hown (hts _ kw_1_6) dL_law_1158 ?_
  refine lv_land hx hb dL_law_1161 ?_
  refine lv_topl (fun lx27 elx27 => ?_)
  refine lv_lor hx hb dL_law_1162 ?_
  refine lv_topl (fun lx28 elx28 => ?_)
  refine jcallV (As := [.int (xs x18.toNatClampNeg), .int (xs x20.toNatClampNeg), .long lx28]) (rest := []) ⟨hx, hb, hml, hown, hts⟩ hK hP hA hS hZ (c_X11_put l D cI cL ad zz hJ σ τ (xs x18.toNatClampNeg) ((xs x18.toNatClampNeg).toInt) rfl (xs x20.toNatClampNeg) ((xs x20.toNatClampNeg).toInt) rfl lx28 (lx28.toInt) rfl hI50) cw_RL_147 (jc_0 cI cL ad σ τ) rfl ⟨Nat.le_of_ble_eq_true rfl, Nat.le_of_ble_eq_true rfl⟩ rfl rfl rfl hl.1 rfl (Nat.le_of_ble_eq_true rfl) dL_law_1163 ⟨Nat.le_of_ble_eq_true rfl, Nat.le_of_ble_eq_true rfl⟩ (fun r30 σ29 τ29 H locs h29 hP hS => ?_)
  obtain ⟨f31, w32, h29⟩ := h29
  refine lv_pop hx hb dL_law_1166 rfl ?_
  refine lv_aload_n hx hb dL_law_1167 rfl (lv_at hl 1 rfl) ?_
  refine lv_aload_n hx hb dL_law_1168 rfl (lv_at hl 3 rfl) ?_
  refine lv_iload_n hx hb dL_law_1169 rfl (lv_at hl 0 rfl) ?_
  refine lv_iconst (v := 1) hx hb dL_law_1170 (by decide) ?_
  refine lv_iadd hx hb dL_law_1171 ?_
  refine jtopr ex18.symm ?_
  refine va_sld hx hb hX hbl hbA hS (jin tx18 (by omega) (by omega)) dL_law_1172 ?_
  refine lv_aload_n hx hb dL_law_1173 rfl (lv_at hl 3 rfl) ?_
  refine lv_iload_n hx hb dL_law_1174 rfl (lv_at hl 0 rfl) ?_
  refine lv_iconst (v := 2) hx hb dL_law_1175 (by decide) ?_
  refine lv_iadd hx hb dL_law_1176 ?_
  refine jtopr ex20.symm ?_
  refine va_sld hx hb hX hbl hbA hS (jin tx20 (by omega) (by omega)) dL_law_1177 ?_
  refine lv_aload_n hx hb dL_law_1178 rfl (lv_at hl 3 rfl) ?_
  refine lv_iload_n hx hb dL_law_1179 rfl (lv_at hl 0 rfl) ?_
  refine lv_iconst (v := 3) hx hb dL_law_1180 (by decide) ?_
  refine lv_iadd hx hb dL_law_1181 ?_
  refine jtopr ex22.symm ?_
  refine va_sld hx hb hX hbl hbA hS (jin tx22 (by omega) (by omega)) dL_law_1182 ?_
  refine lv_i2l (v := (xs x22.toNatClampNeg).toInt64) hx hb dL_law_1183 rfl ?_
  refine lv_bipush (v := 32) hx hb dL_law_1184 (by decide) ?_
  refine lv_lshl hx hb dL_law_1186 rfl ?_
  refine lv_topl (fun lx33 elx33 => ?_)
  refine lv_aload_n hx hb dL_law_1187 rfl (lv_at hl 3 rfl) ?_
  refine lv_iload_n hx hb dL_law_1188 rfl (lv_at hl 0 rfl) ?_
  refine lv_iconst (v := 4) hx hb dL_law_1189 (by decide) ?_
  refine lv_iadd hx hb dL_law_1190 ?_
  refine jtopr ex25.symm ?_
  refine va_sld hx hb hX hbl hbA hS (jin tx25 (by omega) (by omega)) dL_law_1191 ?_
  refine lv_i2l (v := (xs x25.toNatClampNeg).toInt64) hx hb dL_law_1192 rfl ?_
  refine lv_ldc2 (v := 4294967295) hx hb hown (hts _ kw_1_6) dL_law_1193 ?_
  refine lv_land hx hb dL_law_1196 ?_
  refine lv_topl (fun lx34 elx34 => ?_)
  refine lv_lor hx hb dL_law_1197 ?_
  refine lv_topl (fun lx35 elx35 => ?_)
  have I36 : jI110 σ29 := jI110_fr (f31 86 (by decide)) (f31 87 (by decide)) hI110
  refine jcallV (As := [.int (xs x18.toNatClampNeg), .int (xs x20.toNatClampNeg), .long lx35]) (rest := []) ⟨hx, hb, hml, hown, hts⟩ hK hP hA hS hZ (c_X12_put l D cI cL ad zz hJ σ29 τ29 (xs x18.toNatClampNeg) ((xs x18.toNatClampNeg).toInt) rfl (xs x20.toNatClampNeg) ((xs x20.toNatClampNeg).toInt) rfl lx35 (lx35.toInt) rfl I36) cw_RL_151 (jc_55 cI cL ad σ29 τ29) rfl ⟨Nat.le_of_ble_eq_true rfl, Nat.le_of_ble_eq_true rfl⟩ rfl rfl rfl hl.1 rfl (Nat.le_of_ble_eq_true rfl) dL_law_1198 ⟨Nat.le_of_ble_eq_true rfl, Nat.le_of_ble_eq_true rfl⟩ (fun r38 σ37 τ37 H locs h37 hP hS => ?_)
  obtain ⟨f39, w40, h37⟩ := h37
  refine lv_pop hx hb dL_law_1201 rfl ?_
  refine lv_goto (tgt := 1357) hx hb dL_law_1202 (by decide) ?_
  obtain ⟨x41, ex41⟩ : ∃ y : Int32, y = x0 + 6 := ⟨_, rfl⟩
  have tx41 : x41.toInt = x0.toInt + 6 := (jadd ex41 rfl jz_6 (by omega) (by omega)).trans (by omega)
  refine lv_iinc (v := x41) (lv' := [(3, .int x41), (2, .ref (ad 55)), (1, .ref (ad 0)), (0, .ref b)]) hx hb dL_law_1357 hl (k := 0) rfl (by rw [ex41]; rfl) (by decide) rfl (fun ls hl => ?_)
  refine lv_goto (tgt := 18) hx hb dL_law_1360 (by decide) ?_
  have I42 : jI2 σ37 := jI2_fr ((congrFun (f39 2 (by decide)) 0).trans (congrFun (f31 2 (by decide)) 0)) ((congrFun (f39 2 (by decide)) 1).trans (congrFun (f31 2 (by decide)) 1)) ((congrFun (f39 2 (by decide)) 2).trans (congrFun (f31 2 (by decide)) 2)) ((congrFun (f39 2 (by decide)) 3).trans (congrFun (f31 2 (by decide)) 3)) ((f39 6 (by decide)).trans (f31 6 (by decide))) hI2
  have I43 : jI9 σ37 := jI9_fr ((congrFun (f39 9 (by decide)) 0).trans (congrFun (f31 9 (by decide)) 0)) ((f39 10 (by decide)).trans (f31 10 (by decide))) ((f39 11 (by decide)).trans (f31 11 (by decide))) hI9
  have I44 : jI12 σ37 := jI12_fr ((congrFun (f39 12 (by decide)) 0).trans (congrFun (f31 12 (by decide)) 0)) ((f39 13 (by decide)).trans (f31 13 (by decide))) hI12
  have I45 : jI16 σ37 := jI16_fr ((congrFun (f39 16 (by decide)) 0).trans (congrFun (f31 16 (by decide)) 0)) ((congrFun (f39 16 (by decide)) 1).trans (congrFun (f31 16 (by decide)) 1)) ((congrFun (f39 16 (by decide)) 2).trans (congrFun (f31 16 (by decide)) 2)) ((f39 17 (by decide)).trans (f31 17 (by decide))) hI16
  have I46 : jI18 σ37 := jI18_fr ((congrFun (f39 18 (by decide)) 0).trans (congrFun (f31 18 (by decide)) 0)) ((f39 19 (by decide)).trans (f31 19 (by decide))) hI18
  have I47 : jI22 σ37 := jI22_fr ((congrFun (f39 22 (by decide)) 0).trans (congrFun (f31 22 (by decide)) 0)) ((f39 23 (by decide)).trans (f31 23 (by decide))) hI22
  have I48 : jI31 σ37 := jI31_fr ((congrFun (f39 31 (by decide)) 8).trans (congrFun (f31 31 (by decide)) 8)) ((f39 33 (by decide)).trans (f31 33 (by decide))) ((f39 36 (by decide)).trans (f31 36 (by decide))) hI31
  have I49 : jI38 σ37 := jI38_fr ((congrFun (f39 38 (by decide)) 0).trans (congrFun (f31 38 (by decide)) 0)) ((congrFun (f39 38 (by decide)) 1).trans (congrFun (f31 38 (by decide)) 1)) ((f39 39 (by decide)).trans (f31 39 (by decide))) hI38
  have I50 : jI43 σ37 := jI43_fr ((congrFun (f39 43 (by decide)) 8).trans (congrFun (f31 43 (by decide)) 8)) hI43
  have I51 : jI47 σ37 := jI47_fr ((congrFun (f39 47 (by decide)) 0).trans (congrFun (f31 47 (by decide)) 0)) ((f39 49 (by decide)).trans (f31 49 (by decide))) hI47
  have I52 : jI50 σ37 := jI50_fr ((f39 52 (by decide)).trans (f31 52 (by decide))) hI50
  have I53 : jI101 σ37 := jI101_fr ((congrFun (f39 55 (by decide)) 4).trans (congrFun (f31 55 (by decide)) 4)) ((congrFun (f39 55 (by decide)) 5).trans (congrFun (f31 55 (by decide)) 5)) ((f39 56 (by decide)).trans (f31 56 (by decide))) ((f39 57 (by decide)).trans (f31 57 (by decide))) ((f39 58 (by decide)).trans (f31 58 (by decide))) ((f39 59 (by decide)).trans (f31 59 (by decide))) hI101
  have I54 : jI102 σ37 := jI102_fr ((congrFun (f39 55 (by decide)) 6).trans (congrFun (f31 55 (by decide)) 6)) ((f39 60 (by decide)).trans (f31 60 (by decide))) ((f39 61 (by decide)).trans (f31 61 (by decide))) hI102
  have I55 : jI103 σ37 := jI103_fr ((congrFun (f39 55 (by decide)) 9).trans (congrFun (f31 55 (by decide)) 9)) hI103
  have I56 : jI104 σ37 := jI104_fr ((congrFun (f39 55 (by decide)) 10).trans (congrFun (f31 55 (by decide)) 10)) ((congrFun (f39 55 (by decide)) 12).trans (congrFun (f31 55 (by decide)) 12)) ((congrFun (f39 55 (by decide)) 13).trans (congrFun (f31 55 (by decide)) 13)) ((f39 62 (by decide)).trans (f31 62 (by decide))) ((f39 67 (by decide)).trans (f31 67 (by decide))) hI104
  have I57 : jI105 σ37 := jI105_fr ((congrFun (f39 55 (by decide)) 15).trans (congrFun (f31 55 (by decide)) 15)) ((f39 65 (by decide)).trans (f31 65 (by decide))) hI105
  have I58 : jI106 σ37 := jI106_fr ((congrFun (f39 55 (by decide)) 32).trans (congrFun (f31 55 (by decide)) 32)) ((f39 70 (by decide)).trans (f31 70 (by decide))) ((f39 71 (by decide)).trans (f31 71 (by decide))) ((f39 72 (by decide)).trans (f31 72 (by decide))) hI106
  have I59 : jI107 σ37 := jI107_fr ((congrFun (f39 55 (by decide)) 12).trans (congrFun (f31 55 (by decide)) 12)) ((congrFun (f39 55 (by decide)) 47).trans (congrFun (f31 55 (by decide)) 47)) ((f39 80 (by decide)).trans (f31 80 (by decide))) hI107
  have I60 : jI109 σ37 := jI109_fr ((congrFun (f39 55 (by decide)) 50).trans (congrFun (f31 55 (by decide)) 50)) hI109
  have I61 : jI110 σ37 := jI110_fr (f39 86 (by decide)) (f39 87 (by decide)) I36
  have I62 : jI111 σ37 := jI111_fr ((f39 79 (by decide)).trans (f31 79 (by decide))) hI111
  have I63 : jI119 σ37 := jI119_fr ((f39 68 (by decide)).trans (f31 68 (by decide))) hI119
  have p64 : jKept σ37 := jKept.fr ((f39 75 (by decide)).trans (f31 75 (by decide))) ((f39 76 (by decide)).trans (f31 76 (by decide))) ((f39 77 (by decide)).trans (f31 77 (by decide))) hs_jKept
  have p65 : jBook σ37 := jBook.fr ((congrFun (f39 55 (by decide)) 47).trans (congrFun (f31 55 (by decide)) 47)) ((congrFun (f39 55 (by decide)) 10).trans (congrFun (f31 55 (by decide)) 10)) ((f39 81 (by decide)).trans (f31 81 (by decide))) hs_jBook
  have z66 : (σ37 2 0).toInt = (σ 2 0).toInt := (congrArg Int32.toInt (show σ37 2 0 = (σ 2 0) from ((congrFun (f39 2 (by decide)) 0).trans (congrFun (f31 2 (by decide)) 0))))
  have z67 : (σ37 55 6).toInt = (σ 55 6).toInt := (congrArg Int32.toInt (show σ37 55 6 = (σ 55 6) from ((congrFun (f39 55 (by decide)) 6).trans (congrFun (f31 55 (by decide)) 6))))
  have z68 : (σ37 2 2).toInt = (σ 2 2).toInt := (congrArg Int32.toInt (show σ37 2 2 = (σ 2 2) from ((congrFun (f39 2 (by decide)) 2).trans (congrFun (f31 2 (by decide)) 2))))
  have z69 : (σ37 55 5).toInt = (σ 55 5).toInt := (congrArg Int32.toInt (show σ37 55 5 = (σ 55 5) from ((congrFun (f39 55 (by decide)) 5).trans (congrFun (f31 55 (by decide)) 5))))
  have z70 : (σ37 2 3).toInt = (σ 2 3).toInt := (congrArg Int32.toInt (show σ37 2 3 = (σ 2 3) from ((congrFun (f39 2 (by decide)) 3).trans (congrFun (f31 2 (by decide)) 3))))
  have z71 : (σ37 55 4).toInt = (σ 55 4).toInt := (congrArg Int32.toInt (show σ37 55 4 = (σ 55 4) from ((congrFun (f39 55 (by decide)) 4).trans (congrFun (f31 55 (by decide)) 4))))
  exact ih x41 σ37 τ37 _ _ ls (by have h9 := tx41; omega) ⟨I42, I43, I44, I45, I46, I47, I48, I49, I50, I51, I52, I53, I54, I55, I56, I57, I58, I59, I60, I61, I62, I63, p64, p65, (by omega), (by omega), (by omega), (show jNumP (σ37 3) (σ37 56) (σ37 6) (σ37 57) (σ37 7) (σ37 58) (σ37 8) (σ37 59) (σ37 55 6).toInt (σ37 55 4).toInt by rw [show σ37 3 = σ 3 from ((f39 3 (by decide)).trans (f31 3 (by decide))), show σ37 56 = σ 56 from ((f39 56 (by decide)).trans (f31 56 (by decide))), show σ37 6 = σ 6 from ((f39 6 (by decide)).trans (f31 6 (by decide))), show σ37 57 = σ 57 from ((f39 57 (by decide)).trans (f31 57 (by decide))), show σ37 7 = σ 7 from ((f39 7 (by decide)).trans (f31 7 (by decide))), show σ37 58 = σ 58 from ((f39 58 (by decide)).trans (f31 58 (by decide))), show σ37 8 = σ 8 from ((f39 8 (by decide)).trans (f31 8 (by decide))), show σ37 59 = σ 59 from ((f39 59 (by decide)).trans (f31 59 (by decide))), show (σ37 55 6).toInt = (σ 55 6).toInt from by omega, show (σ37 55 4).toInt = (σ 55 4).toInt from by omega]; exact hr0)⟩ hP hS (lv_sub hl [0, 1, 2, 3] rfl)
set_option maxHeartbeats 4000000 in
set_option maxRecDepth 100000 in
theorem law_case_33 {p : Program} {e : Env} {s : State} {m : MethodId} {below : List Frame} {meth : Method} {c : Code} (l : Launch) {b L : Nat} {xs : Nat → Int32} {D : va_G} {cI cL : ClassId} {ad zz : Nat → Nat} (C0 : lw_At p s m meth c b L xs) (hJ : jD ad) (hA : ∀ q, jA ad q → s.heap.size ≤ q) (hK : jK D cI cL s) (hZ : jZ zz (fun q : Nat => s.heap.size ≤ q) s s.heap) {x0 : Int32} (hx0 : 0 ≤ x0.toInt) (hxL : x0.toInt + 6 ≤ (L : Int)) (hL : L ≤ 384) {σ : Nat → Nat → Int32} {τ : Nat → Nat → Int64} {H : Heap} {locs : List Loc} (hS : va_S (fun q : Nat => s.heap.size ≤ q) s.heap H locs) {ls : Array Slot} (hAll : jAll σ τ) (hP : jH D cI cL ad σ τ H) (hl : lv_has ls 4 [(3, .int x0), (2, .ref (ad 55)), (1, .ref (ad 0)), (0, .ref b)]) (ih : ∀ (x1 : Int32) (σ : Nat → Nat → Int32) (τ : Nat → Nat → Int64) (H : Heap) (locs : List Loc) (ls : Array Slot), x1.toInt = x0.toInt + 6 → jAll σ τ → jH D cI cL ad σ τ H → va_S (fun q : Nat => s.heap.size ≤ q) s.heap H locs → lv_has ls 4 [(3, .int x1), (2, .ref (ad 55)), (1, .ref (ad 0)), (0, .ref b)] → W p l e room_1 s m #[Value.ref b] below meth c H locs 90 348600 (lw_Z below #[Value.ref b] s) (F0 m 18 ls [])) : W p l e room_1 s m #[Value.ref b] below meth c H locs 90 348600 (lw_Z below #[Value.ref b] s) (F0 m 1205 ls []) := by
  obtain ⟨hx, hb, hr, hml, hown, hts0, hX, hbl, hlocks, hgv⟩ := C0
  have hts : ∀ w ∈ wsL_law, w.before #[Value.ref b] s = true := fun w h => hts0 w (wsL_law_in w h)
  have hbA : ¬ (fun q : Nat => s.heap.size ≤ q) b := Nat.not_le.mpr hbl
  have hown : s.vm.findClass RL = some m.cls := hown
  obtain ⟨hI2, hI9, hI12, hI16, hI18, hI22, hI31, hI38, hI43, hI47, hI50, hI101, hI102, hI103, hI104, hI105, hI106, hI107, hI109, hI110, hI111, hI119, hs_jKept, hs_jBook, ht0, ht1, ht2, hr0⟩ := hAll
  have hL9 : (L : Int) ≤ 384 := by omega
  obtain ⟨i1, i2, i3, i4, i5, w6⟩ : (0 ≤ (σ 2 0).toInt ∧ (σ 2 0).toInt ≤ 4) ∧ (0 ≤ (σ 2 1).toInt ∧ (σ 2 1).toInt ≤ 3) ∧ (0 ≤ (σ 2 2).toInt) ∧ (0 ≤ (σ 2 3).toInt) ∧ ((σ 2 2).toInt + (σ 2 3).toInt ≤ 40) ∧ (∀ k : Nat, k < 40 → 0 ≤ (σ 6 k).toInt ∧ (σ 6 k).toInt ≤ 67) := id hI2
  obtain ⟨i7, i8, i9, w10, w11, w12, w13⟩ : (0 ≤ (σ 55 5).toInt) ∧ ((σ 55 5).toInt ≤ (σ 55 4).toInt) ∧ ((σ 55 4).toInt ≤ 40) ∧ (∀ k : Nat, k < 68 → (-200) ≤ (σ 56 k).toInt ∧ (σ 56 k).toInt ≤ 500) ∧ (∀ k : Nat, k < 40 → 0 ≤ (σ 57 k).toInt ∧ (σ 57 k).toInt ≤ 67) ∧ (∀ k : Nat, k < 40 → (-200) ≤ (σ 58 k).toInt ∧ (σ 58 k).toInt ≤ 500) ∧ (∀ k : Nat, k < 40 → (-200) ≤ (σ 59 k).toInt ∧ (σ 59 k).toInt ≤ 500) := id hI101
  obtain ⟨i14, w15, w16⟩ : (0 ≤ (σ 55 6).toInt ∧ (σ 55 6).toInt ≤ 4) ∧ (∀ k : Nat, k < 4 → 0 ≤ (σ 60 k).toInt ∧ (σ 60 k).toInt ≤ 50) ∧ (∀ k : Nat, k < 4 → 0 ≤ (σ 61 k).toInt ∧ (σ 61 k).toInt ≤ 20) := id hI102
  refine lv_aload_n hx hb dL_law_1205 rfl (lv_at hl 2 rfl) ?_
  refine lv_aload_n hx hb dL_law_1206 rfl (lv_at hl 3 rfl) ?_
  refine lv_iload_n hx hb dL_law_1207 rfl (lv_at hl 0 rfl) ?_
  refine lv_iconst (v := 1) hx hb dL_law_1208 (by decide) ?_
  have g17 := jrg (rfl : x0.toInt = x0.toInt)
  refine lv_iadd hx hb dL_law_1209 ?_
  refine lv_topi (fun x18 ex18 => ?_)
  have tx18 : x18.toInt = x0.toInt + 1 := (jadd ex18 rfl jz_1 (by omega) (by omega)).trans (by omega)
  refine va_sld hx hb hX hbl hbA hS (jin tx18 (by omega) (by omega)) dL_law_1210 ?_
  have g19 := jrg (rfl : (xs x18.toNatClampNeg).toInt = (xs x18.toNatClampNeg).toInt)
  refine lv_aload_n hx hb dL_law_1211 rfl (lv_at hl 3 rfl) ?_
  refine lv_iload_n hx hb dL_law_1212 rfl (lv_at hl 0 rfl) ?_
  refine lv_iconst (v := 2) hx hb dL_law_1213 (by decide) ?_
  refine lv_iadd hx hb dL_law_1214 ?_
  refine lv_topi (fun x20 ex20 => ?_)
  have tx20 : x20.toInt = x0.toInt + 2 := (jadd ex20 rfl jz_2 (by omega) (by omega)).trans (by omega)
  refine va_sld hx hb hX hbl hbA hS (jin tx20 (by omega) (by omega)) dL_law_1215 ?_
  have g21 := jrg (rfl : (xs x20.toNatClampNeg).toInt = (xs x20.toNatClampNeg).toInt)
  refine jcallVl (As := [.int (xs x18.toNatClampNeg), .int (xs x20.toNatClampNeg)]) (rest := []) ⟨hx, hb, hml, hown, hts⟩ hK hP hA hS hZ (c_X11_element l D cI cL ad zz hJ σ τ (xs x18.toNatClampNeg) ((xs x18.toNatClampNeg).toInt) rfl (xs x20.toNatClampNeg) ((xs x20.toNatClampNeg).toInt) rfl hI50) cw_RL_152 (jc_0 cI cL ad σ τ) rfl ⟨Nat.le_of_ble_eq_true rfl, Nat.le_of_ble_eq_true rfl⟩ rfl rfl rfl hl.1 rfl (Nat.le_of_ble_eq_true rfl) dL_law_1216 ⟨Nat.le_of_ble_eq_true rfl, Nat.le_of_ble_eq_true rfl⟩ (fun lxr23 σ22 τ22 H locs h22 hP hS => ?_)
  obtain ⟨⟨rfl, rfl⟩, h22⟩ := h22
  refine lv_pop2_2 hx hb dL_law_1219 rfl ?_
  refine lv_aload_n hx hb dL_law_1220 rfl (lv_at hl 1 rfl) ?_
  refine lv_aload_n hx hb dL_law_1221 rfl (lv_at hl 3 rfl) ?_
  refine lv_iload_n hx hb dL_law_1222 rfl (lv_at hl 0 rfl) ?_
  refine lv_iconst (v := 1) hx hb dL_law_1223 (by decide) ?_
  refine lv_iadd hx hb dL_law_1224 ?_
  refine jtopr ex18.symm ?_
  refine va_sld hx hb hX hbl hbA hS (jin tx18 (by omega) (by omega)) dL_law_1225 ?_
  refine lv_aload_n hx hb dL_law_1226 rfl (lv_at hl 3 rfl) ?_
  refine lv_iload_n hx hb dL_law_1227 rfl (lv_at hl 0 rfl) ?_
  refine lv_iconst (v := 2) hx hb dL_law_1228 (by decide) ?_
  refine lv_iadd hx hb dL_law_1229 ?_
  refine jtopr ex20.symm ?_
  refine va_sld hx hb hX hbl hbA hS (jin tx20 (by omega) (by omega)) dL_law_1230 ?_
  refine jcallVl (As := [.int (xs x18.toNatClampNeg), .int (xs x20.toNatClampNeg)]) (rest := []) ⟨hx, hb, hml, hown, hts⟩ hK hP hA hS hZ (c_X12_element l D cI cL ad zz hJ σ τ (xs x18.toNatClampNeg) ((xs x18.toNatClampNeg).toInt) rfl (xs x20.toNatClampNeg) ((xs x20.toNatClampNeg).toInt) rfl hI110) cw_RL_156 (jc_55 cI cL ad σ τ) rfl ⟨Nat.le_of_ble_eq_true rfl, Nat.le_of_ble_eq_true rfl⟩ rfl rfl rfl hl.1 rfl (Nat.le_of_ble_eq_true rfl) dL_law_1231 ⟨Nat.le_of_ble_eq_true rfl, Nat.le_of_ble_eq_true rfl⟩ (fun lxr25 σ24 τ24 H locs h24 hP hS => ?_)
  obtain ⟨⟨rfl, rfl⟩, h24⟩ := h24
  refine lv_pop2_2 hx hb dL_law_1234 rfl ?_
  refine lv_goto (tgt := 1357) hx hb dL_law_1235 (by decide) ?_
  obtain ⟨x26, ex26⟩ : ∃ y : Int32, y = x0 + 6 := ⟨_, rfl⟩
  have tx26 : x26.toInt = x0.toInt + 6 := (jadd ex26 rfl jz_6 (by omega) (by omega)).trans (by omega)
  refine lv_iinc (v := x26) (lv' := [(3, .int x26), (2, .ref (ad 55)), (1, .ref (ad 0)), (0, .ref b)]) hx hb dL_law_1357 hl (k := 0) rfl (by rw [ex26]; rfl) (by decide) rfl (fun ls hl => ?_)
  refine lv_goto (tgt := 18) hx hb dL_law_1360 (by decide) ?_
  exact ih x26 σ τ _ _ ls (by have h9 := tx26; omega) ⟨hI2, hI9, hI12, hI16, hI18, hI22, hI31, hI38, hI43, hI47, hI50, hI101, hI102, hI103, hI104, hI105, hI106, hI107, hI109, hI110, hI111, hI119, hs_jKept, hs_jBook, (by omega), (by omega), (by omega), hr0⟩ hP hS (lv_sub hl [0, 1, 2, 3] rfl)
set_option maxHeartbeats 4000000 in
set_option maxRecDepth 100000 in
theorem law_case_34 {p : Program} {e : Env} {s : State} {m : MethodId} {below : List Frame} {meth : Method} {c : Code} (l : Launch) {b L : Nat} {xs : Nat → Int32} {D : va_G} {cI cL : ClassId} {ad zz : Nat → Nat} (C0 : lw_At p s m meth c b L xs) (hJ : jD ad) (hA : ∀ q, jA ad q → s.heap.size ≤ q) (hK : jK D cI cL s) (hZ : jZ zz (fun q : Nat => s.heap.size ≤ q) s s.heap) {x0 : Int32} (hx0 : 0 ≤ x0.toInt) (hxL : x0.toInt + 6 ≤ (L : Int)) (hL : L ≤ 384) {σ : Nat → Nat → Int32} {τ : Nat → Nat → Int64} {H : Heap} {locs : List Loc} (hS : va_S (fun q : Nat => s.heap.size ≤ q) s.heap H locs) {ls : Array Slot} (hAll : jAll σ τ) (hP : jH D cI cL ad σ τ H) (hl : lv_has ls 4 [(3, .int x0), (2, .ref (ad 55)), (1, .ref (ad 0)), (0, .ref b)]) (ih : ∀ (x1 : Int32) (σ : Nat → Nat → Int32) (τ : Nat → Nat → Int64) (H : Heap) (locs : List Loc) (ls : Array Slot), x1.toInt = x0.toInt + 6 → jAll σ τ → jH D cI cL ad σ τ H → va_S (fun q : Nat => s.heap.size ≤ q) s.heap H locs → lv_has ls 4 [(3, .int x1), (2, .ref (ad 55)), (1, .ref (ad 0)), (0, .ref b)] → W p l e room_1 s m #[Value.ref b] below meth c H locs 90 348600 (lw_Z below #[Value.ref b] s) (F0 m 18 ls [])) : W p l e room_1 s m #[Value.ref b] below meth c H locs 90 348600 (lw_Z below #[Value.ref b] s) (F0 m 1238 ls []) := by
  obtain ⟨hx, hb, hr, hml, hown, hts0, hX, hbl, hlocks, hgv⟩ := C0
  have hts : ∀ w ∈ wsL_law, w.before #[Value.ref b] s = true := fun w h => hts0 w (wsL_law_in w h)
  have hbA : ¬ (fun q : Nat => s.heap.size ≤ q) b := Nat.not_le.mpr hbl
  have hown : s.vm.findClass RL = some m.cls := hown
  obtain ⟨hI2, hI9, hI12, hI16, hI18, hI22, hI31, hI38, hI43, hI47, hI50, hI101, hI102, hI103, hI104, hI105, hI106, hI107, hI109, hI110, hI111, hI119, hs_jKept, hs_jBook, ht0, ht1, ht2, hr0⟩ := hAll
  have hL9 : (L : Int) ≤ 384 := by omega
  obtain ⟨i1, i2, i3, i4, i5, w6⟩ : (0 ≤ (σ 2 0).toInt ∧ (σ 2 0).toInt ≤ 4) ∧ (0 ≤ (σ 2 1).toInt ∧ (σ 2 1).toInt ≤ 3) ∧ (0 ≤ (σ 2 2).toInt) ∧ (0 ≤ (σ 2 3).toInt) ∧ ((σ 2 2).toInt + (σ 2 3).toInt ≤ 40) ∧ (∀ k : Nat, k < 40 → 0 ≤ (σ 6 k).toInt ∧ (σ 6 k).toInt ≤ 67) := id hI2
  obtain ⟨i7, i8, i9, w10, w11, w12, w13⟩ : (0 ≤ (σ 55 5).toInt) ∧ ((σ 55 5).toInt ≤ (σ 55 4).toInt) ∧ ((σ 55 4).toInt ≤ 40) ∧ (∀ k : Nat, k < 68 → (-200) ≤ (σ 56 k).toInt ∧ (σ 56 k).toInt ≤ 500) ∧ (∀ k : Nat, k < 40 → 0 ≤ (σ 57 k).toInt ∧ (σ 57 k).toInt ≤ 67) ∧ (∀ k : Nat, k < 40 → (-200) ≤ (σ 58 k).toInt ∧ (σ 58 k).toInt ≤ 500) ∧ (∀ k : Nat, k < 40 → (-200) ≤ (σ 59 k).toInt ∧ (σ 59 k).toInt ≤ 500) := id hI101
  obtain ⟨i14, w15, w16⟩ : (0 ≤ (σ 55 6).toInt ∧ (σ 55 6).toInt ≤ 4) ∧ (∀ k : Nat, k < 4 → 0 ≤ (σ 60 k).toInt ∧ (σ 60 k).toInt ≤ 50) ∧ (∀ k : Nat, k < 4 → 0 ≤ (σ 61 k).toInt ∧ (σ 61 k).toInt ≤ 20) := id hI102
  refine lv_aload_n hx hb dL_law_1238 rfl (lv_at hl 2 rfl) ?_
  refine lv_aload_n hx hb dL_law_1239 rfl (lv_at hl 3 rfl) ?_
  refine lv_iload_n hx hb dL_law_1240 rfl (lv_at hl 0 rfl) ?_
  refine lv_iconst (v := 1) hx hb dL_law_1241 (by decide) ?_
  have g17 := jrg (rfl : x0.toInt = x0.toInt)
  refine lv_iadd hx hb dL_law_1242 ?_
  refine lv_topi (fun x18 ex18 => ?_)
  have tx18 : x18.toInt = x0.toInt + 1 := (jadd ex18 rfl jz_1 (by omega) (by omega)).trans (by omega)
  refine va_sld hx hb hX hbl hbA hS (jin tx18 (by omega) (by omega)) dL_law_1243 ?_
  have g19 := jrg (rfl : (xs x18.toNatClampNeg).toInt = (xs x18.toNatClampNeg).toInt)
  refine lv_aload_n hx hb dL_law_1244 rfl (lv_at hl 3 rfl) ?_
  refine lv_iload_n hx hb dL_law_1245 rfl (lv_at hl 0 rfl) ?_
  refine lv_iconst (v := 2) hx hb dL_law_1246 (by decide) ?_
  refine lv_iadd hx hb dL_law_1247 ?_
  refine lv_topi (fun x20 ex20 => ?_)
  have tx20 : x20.toInt = x0.toInt + 2 := (jadd ex20 rfl jz_2 (by omega) (by omega)).trans (by omega)
  refine va_sld hx hb hX hbl hbA hS (jin tx20 (by omega) (by omega)) dL_law_1248 ?_
  have g21 := jrg (rfl : (xs x20.toNatClampNeg).toInt = (xs x20.toNatClampNeg).toInt)
  refine lv_aload_n hx hb dL_law_1249 rfl (lv_at hl 3 rfl) ?_
  refine lv_iload_n hx hb dL_law_1250 rfl (lv_at hl 0 rfl) ?_
  refine lv_iconst (v := 3) hx hb dL_law_1251 (by decide) ?_
  refine lv_iadd hx hb dL_law_1252 ?_
  refine lv_topi (fun x22 ex22 => ?_)
  have tx22 : x22.toInt = x0.toInt + 3 := (jadd ex22 rfl jz_3 (by omega) (by omega)).trans (by omega)
  refine va_sld hx hb hX hbl hbA hS (jin tx22 (by omega) (by omega)) dL_law_1253 ?_
  have g23 := jrg (rfl : (xs x22.toNatClampNeg).toInt = (xs x22.toNatClampNeg).toInt)
  refine lv_aload_n hx hb dL_law_1254 rfl (lv_at hl 3 rfl) ?_
  refine lv_iload_n hx hb dL_law_1255 rfl (lv_at hl 0 rfl) ?_
  refine lv_iconst (v := 4) hx hb dL_law_1256 (by decide) ?_
  refine lv_iadd hx hb dL_law_1257 ?_
  refine lv_topi (fun x24 ex24 => ?_)
  have tx24 : x24.toInt = x0.toInt + 4 := (jadd ex24 rfl jz_4 (by omega) (by omega)).trans (by omega)
  refine va_sld hx hb hX hbl hbA hS (jin tx24 (by omega) (by omega)) dL_law_1258 ?_
  have g25 := jrg (rfl : (xs x24.toNatClampNeg).toInt = (xs x24.toNatClampNeg).toInt)
  refine lv_aload_n hx hb dL_law_1259 rfl (lv_at hl 3 rfl) ?_
  refine lv_iload_n hx hb dL_law_1260 rfl (lv_at hl 0 rfl) ?_
  refine lv_iconst (v := 5) hx hb dL_law_1261 (by decide) ?_
  refine lv_iadd hx hb dL_law_1262 ?_
  refine lv_topi (fun x26 ex26 => ?_)
  have tx26 : x26.toInt = x0.toInt + 5 := (jadd ex26 rfl jz_5 (by omega) (by omega)).trans (by omega)
  refine va_sld hx hb hX hbl hbA hS (jin tx26 (by omega) (by omega)) dL_law_1263 ?_
  have g27 := jrg (rfl : (xs x26.toNatClampNeg).toInt = (xs x26.toNatClampNeg).toInt)
  refine jcallV (As := [.int (xs x18.toNatClampNeg), .int (xs x20.toNatClampNeg), .int (xs x22.toNatClampNeg), .int (xs x24.toNatClampNeg), .int (xs x26.toNatClampNeg)]) (rest := []) ⟨hx, hb, hml, hown, hts⟩ hK hP hA hS hZ (c_X11_shift l D cI cL ad zz hJ σ τ (xs x18.toNatClampNeg) ((xs x18.toNatClampNeg).toInt) rfl (xs x20.toNatClampNeg) ((xs x20.toNatClampNeg).toInt) rfl (xs x22.toNatClampNeg) ((xs x22.toNatClampNeg).toInt) rfl (xs x24.toNatClampNeg) ((xs x24.toNatClampNeg).toInt) rfl (xs x26.toNatClampNeg) ((xs x26.toNatClampNeg).toInt) rfl hI50) cw_RL_157 (jc_0 cI cL ad σ τ) rfl ⟨Nat.le_of_ble_eq_true rfl, Nat.le_of_ble_eq_true rfl⟩ rfl rfl rfl hl.1 rfl (Nat.le_of_ble_eq_true rfl) dL_law_1264 ⟨Nat.le_of_ble_eq_true rfl, Nat.le_of_ble_eq_true rfl⟩ (fun r29 σ28 τ28 H locs h28 hP hS => ?_)
  obtain ⟨f30, w31, h28⟩ := h28
  refine lv_pop hx hb dL_law_1267 rfl ?_
  refine lv_aload_n hx hb dL_law_1268 rfl (lv_at hl 1 rfl) ?_
  refine lv_aload_n hx hb dL_law_1269 rfl (lv_at hl 3 rfl) ?_
  refine lv_iload_n hx hb dL_law_1270 rfl (lv_at hl 0 rfl) ?_
  refine lv_iconst (v := 1) hx hb dL_law_1271 (by decide) ?_
  refine lv_iadd hx hb dL_law_1272 ?_
  refine jtopr ex18.symm ?_
  refine va_sld hx hb hX hbl hbA hS (jin tx18 (by omega) (by omega)) dL_law_1273 ?_
  refine lv_aload_n hx hb dL_law_1274 rfl (lv_at hl 3 rfl) ?_
  refine lv_iload_n hx hb dL_law_1275 rfl (lv_at hl 0 rfl) ?_
  refine lv_iconst (v := 2) hx hb dL_law_1276 (by decide) ?_
  refine lv_iadd hx hb dL_law_1277 ?_
  refine jtopr ex20.symm ?_
  refine va_sld hx hb hX hbl hbA hS (jin tx20 (by omega) (by omega)) dL_law_1278 ?_
  refine lv_aload_n hx hb dL_law_1279 rfl (lv_at hl 3 rfl) ?_
  refine lv_iload_n hx hb dL_law_1280 rfl (lv_at hl 0 rfl) ?_
  refine lv_iconst (v := 3) hx hb dL_law_1281 (by decide) ?_
  refine lv_iadd hx hb dL_law_1282 ?_
  refine jtopr ex22.symm ?_
  refine va_sld hx hb hX hbl hbA hS (jin tx22 (by omega) (by omega)) dL_law_1283 ?_
  refine lv_aload_n hx hb dL_law_1284 rfl (lv_at hl 3 rfl) ?_
  refine lv_iload_n hx hb dL_law_1285 rfl (lv_at hl 0 rfl) ?_
  refine lv_iconst (v := 4) hx hb dL_law_1286 (by decide) ?_
  refine lv_iadd hx hb dL_law_1287 ?_
  refine jtopr ex24.symm ?_
  refine va_sld hx hb hX hbl hbA hS (jin tx24 (by omega) (by omega)) dL_law_1288 ?_
  refine lv_aload_n hx hb dL_law_1289 rfl (lv_at hl 3 rfl) ?_
  refine lv_iload_n hx hb dL_law_1290 rfl (lv_at hl 0 rfl) ?_
  refine lv_iconst (v := 5) hx hb dL_law_1291 (by decide) ?_
  refine lv_iadd hx hb dL_law_1292 ?_
  refine jtopr ex26.symm ?_
  refine va_sld hx hb hX hbl hbA hS (jin tx26 (by omega) (by omega)) dL_law_1293 ?_
  have I32 : jI110 σ28 := jI110_fr (f30 86 (by decide)) (f30 87 (by decide)) hI110
  refine jcallV (As := [.int (xs x18.toNatClampNeg), .int (xs x20.toNatClampNeg), .int (xs x22.toNatClampNeg), .int (xs x24.toNatClampNeg), .int (xs x26.toNatClampNeg)]) (rest := []) ⟨hx, hb, hml, hown, hts⟩ hK hP hA hS hZ (c_X12_shift l D cI cL ad zz hJ σ28 τ28 (xs x18.toNatClampNeg) ((xs x18.toNatClampNeg).toInt) rfl (xs x20.toNatClampNeg) ((xs x20.toNatClampNeg).toInt) rfl (xs x22.toNatClampNeg) ((xs x22.toNatClampNeg).toInt) rfl (xs x24.toNatClampNeg) ((xs x24.toNatClampNeg).toInt) rfl (xs x26.toNatClampNeg) ((xs x26.toNatClampNeg).toInt) rfl I32) cw_RL_161 (jc_55 cI cL ad σ28 τ28) rfl ⟨Nat.le_of_ble_eq_true rfl, Nat.le_of_ble_eq_true rfl⟩ rfl rfl rfl hl.1 rfl (Nat.le_of_ble_eq_true rfl) dL_law_1294 ⟨Nat.le_of_ble_eq_true rfl, Nat.le_of_ble_eq_true rfl⟩ (fun r34 σ33 τ33 H locs h33 hP hS => ?_)
  obtain ⟨f35, w36, h33⟩ := h33
  refine lv_pop hx hb dL_law_1297 rfl ?_
  refine lv_goto (tgt := 1357) hx hb dL_law_1298 (by decide) ?_
  obtain ⟨x37, ex37⟩ : ∃ y : Int32, y = x0 + 6 := ⟨_, rfl⟩
  have tx37 : x37.toInt = x0.toInt + 6 := (jadd ex37 rfl jz_6 (by omega) (by omega)).trans (by omega)
  refine lv_iinc (v := x37) (lv' := [(3, .int x37), (2, .ref (ad 55)), (1, .ref (ad 0)), (0, .ref b)]) hx hb dL_law_1357 hl (k := 0) rfl (by rw [ex37]; rfl) (by decide) rfl (fun ls hl => ?_)
  refine lv_goto (tgt := 18) hx hb dL_law_1360 (by decide) ?_
  have I38 : jI2 σ33 := jI2_fr ((congrFun (f35 2 (by decide)) 0).trans (congrFun (f30 2 (by decide)) 0)) ((congrFun (f35 2 (by decide)) 1).trans (congrFun (f30 2 (by decide)) 1)) ((congrFun (f35 2 (by decide)) 2).trans (congrFun (f30 2 (by decide)) 2)) ((congrFun (f35 2 (by decide)) 3).trans (congrFun (f30 2 (by decide)) 3)) ((f35 6 (by decide)).trans (f30 6 (by decide))) hI2
  have I39 : jI9 σ33 := jI9_fr ((congrFun (f35 9 (by decide)) 0).trans (congrFun (f30 9 (by decide)) 0)) ((f35 10 (by decide)).trans (f30 10 (by decide))) ((f35 11 (by decide)).trans (f30 11 (by decide))) hI9
  have I40 : jI12 σ33 := jI12_fr ((congrFun (f35 12 (by decide)) 0).trans (congrFun (f30 12 (by decide)) 0)) ((f35 13 (by decide)).trans (f30 13 (by decide))) hI12
  have I41 : jI16 σ33 := jI16_fr ((congrFun (f35 16 (by decide)) 0).trans (congrFun (f30 16 (by decide)) 0)) ((congrFun (f35 16 (by decide)) 1).trans (congrFun (f30 16 (by decide)) 1)) ((congrFun (f35 16 (by decide)) 2).trans (congrFun (f30 16 (by decide)) 2)) ((f35 17 (by decide)).trans (f30 17 (by decide))) hI16
  have I42 : jI18 σ33 := jI18_fr ((congrFun (f35 18 (by decide)) 0).trans (congrFun (f30 18 (by decide)) 0)) ((f35 19 (by decide)).trans (f30 19 (by decide))) hI18
  have I43 : jI22 σ33 := jI22_fr ((congrFun (f35 22 (by decide)) 0).trans (congrFun (f30 22 (by decide)) 0)) ((f35 23 (by decide)).trans (f30 23 (by decide))) hI22
  have I44 : jI31 σ33 := jI31_fr ((congrFun (f35 31 (by decide)) 8).trans (congrFun (f30 31 (by decide)) 8)) ((f35 33 (by decide)).trans (f30 33 (by decide))) ((f35 36 (by decide)).trans (f30 36 (by decide))) hI31
  have I45 : jI38 σ33 := jI38_fr ((congrFun (f35 38 (by decide)) 0).trans (congrFun (f30 38 (by decide)) 0)) ((congrFun (f35 38 (by decide)) 1).trans (congrFun (f30 38 (by decide)) 1)) ((f35 39 (by decide)).trans (f30 39 (by decide))) hI38
  have I46 : jI43 σ33 := jI43_fr ((congrFun (f35 43 (by decide)) 8).trans (congrFun (f30 43 (by decide)) 8)) hI43
  have I47 : jI47 σ33 := jI47_fr ((congrFun (f35 47 (by decide)) 0).trans (congrFun (f30 47 (by decide)) 0)) ((f35 49 (by decide)).trans (f30 49 (by decide))) hI47
  have I48 : jI50 σ33 := jI50_fr ((f35 52 (by decide)).trans (f30 52 (by decide))) hI50
  have I49 : jI101 σ33 := jI101_fr ((congrFun (f35 55 (by decide)) 4).trans (congrFun (f30 55 (by decide)) 4)) ((congrFun (f35 55 (by decide)) 5).trans (congrFun (f30 55 (by decide)) 5)) ((f35 56 (by decide)).trans (f30 56 (by decide))) ((f35 57 (by decide)).trans (f30 57 (by decide))) ((f35 58 (by decide)).trans (f30 58 (by decide))) ((f35 59 (by decide)).trans (f30 59 (by decide))) hI101
  have I50 : jI102 σ33 := jI102_fr ((congrFun (f35 55 (by decide)) 6).trans (congrFun (f30 55 (by decide)) 6)) ((f35 60 (by decide)).trans (f30 60 (by decide))) ((f35 61 (by decide)).trans (f30 61 (by decide))) hI102
  have I51 : jI103 σ33 := jI103_fr ((congrFun (f35 55 (by decide)) 9).trans (congrFun (f30 55 (by decide)) 9)) hI103
  have I52 : jI104 σ33 := jI104_fr ((congrFun (f35 55 (by decide)) 10).trans (congrFun (f30 55 (by decide)) 10)) ((congrFun (f35 55 (by decide)) 12).trans (congrFun (f30 55 (by decide)) 12)) ((congrFun (f35 55 (by decide)) 13).trans (congrFun (f30 55 (by decide)) 13)) ((f35 62 (by decide)).trans (f30 62 (by decide))) ((f35 67 (by decide)).trans (f30 67 (by decide))) hI104
  have I53 : jI105 σ33 := jI105_fr ((congrFun (f35 55 (by decide)) 15).trans (congrFun (f30 55 (by decide)) 15)) ((f35 65 (by decide)).trans (f30 65 (by decide))) hI105
  have I54 : jI106 σ33 := jI106_fr ((congrFun (f35 55 (by decide)) 32).trans (congrFun (f30 55 (by decide)) 32)) ((f35 70 (by decide)).trans (f30 70 (by decide))) ((f35 71 (by decide)).trans (f30 71 (by decide))) ((f35 72 (by decide)).trans (f30 72 (by decide))) hI106
  have I55 : jI107 σ33 := jI107_fr ((congrFun (f35 55 (by decide)) 12).trans (congrFun (f30 55 (by decide)) 12)) ((congrFun (f35 55 (by decide)) 47).trans (congrFun (f30 55 (by decide)) 47)) ((f35 80 (by decide)).trans (f30 80 (by decide))) hI107
  have I56 : jI109 σ33 := jI109_fr ((congrFun (f35 55 (by decide)) 50).trans (congrFun (f30 55 (by decide)) 50)) hI109
  have I57 : jI110 σ33 := jI110_fr (f35 86 (by decide)) (f35 87 (by decide)) I32
  have I58 : jI111 σ33 := jI111_fr ((f35 79 (by decide)).trans (f30 79 (by decide))) hI111
  have I59 : jI119 σ33 := jI119_fr ((f35 68 (by decide)).trans (f30 68 (by decide))) hI119
  have p60 : jKept σ33 := jKept.fr ((f35 75 (by decide)).trans (f30 75 (by decide))) ((f35 76 (by decide)).trans (f30 76 (by decide))) ((f35 77 (by decide)).trans (f30 77 (by decide))) hs_jKept
  have p61 : jBook σ33 := jBook.fr ((congrFun (f35 55 (by decide)) 47).trans (congrFun (f30 55 (by decide)) 47)) ((congrFun (f35 55 (by decide)) 10).trans (congrFun (f30 55 (by decide)) 10)) ((f35 81 (by decide)).trans (f30 81 (by decide))) hs_jBook
  have z62 : (σ33 2 0).toInt = (σ 2 0).toInt := (congrArg Int32.toInt (show σ33 2 0 = (σ 2 0) from ((congrFun (f35 2 (by decide)) 0).trans (congrFun (f30 2 (by decide)) 0))))
  have z63 : (σ33 55 6).toInt = (σ 55 6).toInt := (congrArg Int32.toInt (show σ33 55 6 = (σ 55 6) from ((congrFun (f35 55 (by decide)) 6).trans (congrFun (f30 55 (by decide)) 6))))
  have z64 : (σ33 2 2).toInt = (σ 2 2).toInt := (congrArg Int32.toInt (show σ33 2 2 = (σ 2 2) from ((congrFun (f35 2 (by decide)) 2).trans (congrFun (f30 2 (by decide)) 2))))
  have z65 : (σ33 55 5).toInt = (σ 55 5).toInt := (congrArg Int32.toInt (show σ33 55 5 = (σ 55 5) from ((congrFun (f35 55 (by decide)) 5).trans (congrFun (f30 55 (by decide)) 5))))
  have z66 : (σ33 2 3).toInt = (σ 2 3).toInt := (congrArg Int32.toInt (show σ33 2 3 = (σ 2 3) from ((congrFun (f35 2 (by decide)) 3).trans (congrFun (f30 2 (by decide)) 3))))
  have z67 : (σ33 55 4).toInt = (σ 55 4).toInt := (congrArg Int32.toInt (show σ33 55 4 = (σ 55 4) from ((congrFun (f35 55 (by decide)) 4).trans (congrFun (f30 55 (by decide)) 4))))
  exact ih x37 σ33 τ33 _ _ ls (by have h9 := tx37; omega) ⟨I38, I39, I40, I41, I42, I43, I44, I45, I46, I47, I48, I49, I50, I51, I52, I53, I54, I55, I56, I57, I58, I59, p60, p61, (by omega), (by omega), (by omega), (show jNumP (σ33 3) (σ33 56) (σ33 6) (σ33 57) (σ33 7) (σ33 58) (σ33 8) (σ33 59) (σ33 55 6).toInt (σ33 55 4).toInt by rw [show σ33 3 = σ 3 from ((f35 3 (by decide)).trans (f30 3 (by decide))), show σ33 56 = σ 56 from ((f35 56 (by decide)).trans (f30 56 (by decide))), show σ33 6 = σ 6 from ((f35 6 (by decide)).trans (f30 6 (by decide))), show σ33 57 = σ 57 from ((f35 57 (by decide)).trans (f30 57 (by decide))), show σ33 7 = σ 7 from ((f35 7 (by decide)).trans (f30 7 (by decide))), show σ33 58 = σ 58 from ((f35 58 (by decide)).trans (f30 58 (by decide))), show σ33 8 = σ 8 from ((f35 8 (by decide)).trans (f30 8 (by decide))), show σ33 59 = σ 59 from ((f35 59 (by decide)).trans (f30 59 (by decide))), show (σ33 55 6).toInt = (σ 55 6).toInt from by omega, show (σ33 55 4).toInt = (σ 55 4).toInt from by omega]; exact hr0)⟩ hP hS (lv_sub hl [0, 1, 2, 3] rfl)
set_option maxHeartbeats 4000000 in
set_option maxRecDepth 100000 in
theorem law_case_35 {p : Program} {e : Env} {s : State} {m : MethodId} {below : List Frame} {meth : Method} {c : Code} (l : Launch) {b L : Nat} {xs : Nat → Int32} {D : va_G} {cI cL : ClassId} {ad zz : Nat → Nat} (C0 : lw_At p s m meth c b L xs) (hJ : jD ad) (hA : ∀ q, jA ad q → s.heap.size ≤ q) (hK : jK D cI cL s) (hZ : jZ zz (fun q : Nat => s.heap.size ≤ q) s s.heap) {x0 : Int32} (hx0 : 0 ≤ x0.toInt) (hxL : x0.toInt + 6 ≤ (L : Int)) (hL : L ≤ 384) {σ : Nat → Nat → Int32} {τ : Nat → Nat → Int64} {H : Heap} {locs : List Loc} (hS : va_S (fun q : Nat => s.heap.size ≤ q) s.heap H locs) {ls : Array Slot} (hAll : jAll σ τ) (hP : jH D cI cL ad σ τ H) (hl : lv_has ls 4 [(3, .int x0), (2, .ref (ad 55)), (1, .ref (ad 0)), (0, .ref b)]) (ih : ∀ (x1 : Int32) (σ : Nat → Nat → Int32) (τ : Nat → Nat → Int64) (H : Heap) (locs : List Loc) (ls : Array Slot), x1.toInt = x0.toInt + 6 → jAll σ τ → jH D cI cL ad σ τ H → va_S (fun q : Nat => s.heap.size ≤ q) s.heap H locs → lv_has ls 4 [(3, .int x1), (2, .ref (ad 55)), (1, .ref (ad 0)), (0, .ref b)] → W p l e room_1 s m #[Value.ref b] below meth c H locs 90 348600 (lw_Z below #[Value.ref b] s) (F0 m 18 ls [])) : W p l e room_1 s m #[Value.ref b] below meth c H locs 90 348600 (lw_Z below #[Value.ref b] s) (F0 m 1301 ls []) := by
  obtain ⟨hx, hb, hr, hml, hown, hts0, hX, hbl, hlocks, hgv⟩ := C0
  have hts : ∀ w ∈ wsL_law, w.before #[Value.ref b] s = true := fun w h => hts0 w (wsL_law_in w h)
  have hbA : ¬ (fun q : Nat => s.heap.size ≤ q) b := Nat.not_le.mpr hbl
  have hown : s.vm.findClass RL = some m.cls := hown
  obtain ⟨hI2, hI9, hI12, hI16, hI18, hI22, hI31, hI38, hI43, hI47, hI50, hI101, hI102, hI103, hI104, hI105, hI106, hI107, hI109, hI110, hI111, hI119, hs_jKept, hs_jBook, ht0, ht1, ht2, hr0⟩ := hAll
  have hL9 : (L : Int) ≤ 384 := by omega
  obtain ⟨i1, i2, i3, i4, i5, w6⟩ : (0 ≤ (σ 2 0).toInt ∧ (σ 2 0).toInt ≤ 4) ∧ (0 ≤ (σ 2 1).toInt ∧ (σ 2 1).toInt ≤ 3) ∧ (0 ≤ (σ 2 2).toInt) ∧ (0 ≤ (σ 2 3).toInt) ∧ ((σ 2 2).toInt + (σ 2 3).toInt ≤ 40) ∧ (∀ k : Nat, k < 40 → 0 ≤ (σ 6 k).toInt ∧ (σ 6 k).toInt ≤ 67) := id hI2
  obtain ⟨i7, i8, i9, w10, w11, w12, w13⟩ : (0 ≤ (σ 55 5).toInt) ∧ ((σ 55 5).toInt ≤ (σ 55 4).toInt) ∧ ((σ 55 4).toInt ≤ 40) ∧ (∀ k : Nat, k < 68 → (-200) ≤ (σ 56 k).toInt ∧ (σ 56 k).toInt ≤ 500) ∧ (∀ k : Nat, k < 40 → 0 ≤ (σ 57 k).toInt ∧ (σ 57 k).toInt ≤ 67) ∧ (∀ k : Nat, k < 40 → (-200) ≤ (σ 58 k).toInt ∧ (σ 58 k).toInt ≤ 500) ∧ (∀ k : Nat, k < 40 → (-200) ≤ (σ 59 k).toInt ∧ (σ 59 k).toInt ≤ 500) := id hI101
  obtain ⟨i14, w15, w16⟩ : (0 ≤ (σ 55 6).toInt ∧ (σ 55 6).toInt ≤ 4) ∧ (∀ k : Nat, k < 4 → 0 ≤ (σ 60 k).toInt ∧ (σ 60 k).toInt ≤ 50) ∧ (∀ k : Nat, k < 4 → 0 ≤ (σ 61 k).toInt ∧ (σ 61 k).toInt ≤ 20) := id hI102
  refine lv_aload_n hx hb dL_law_1301 rfl (lv_at hl 2 rfl) ?_
  refine lv_aload_n hx hb dL_law_1302 rfl (lv_at hl 3 rfl) ?_
  refine lv_iload_n hx hb dL_law_1303 rfl (lv_at hl 0 rfl) ?_
  refine lv_iconst (v := 1) hx hb dL_law_1304 (by decide) ?_
  have g17 := jrg (rfl : x0.toInt = x0.toInt)
  refine lv_iadd hx hb dL_law_1305 ?_
  refine lv_topi (fun x18 ex18 => ?_)
  have tx18 : x18.toInt = x0.toInt + 1 := (jadd ex18 rfl jz_1 (by omega) (by omega)).trans (by omega)
  refine va_sld hx hb hX hbl hbA hS (jin tx18 (by omega) (by omega)) dL_law_1306 ?_
  have g19 := jrg (rfl : (xs x18.toNatClampNeg).toInt = (xs x18.toNatClampNeg).toInt)
  refine lv_aload_n hx hb dL_law_1307 rfl (lv_at hl 3 rfl) ?_
  refine lv_iload_n hx hb dL_law_1308 rfl (lv_at hl 0 rfl) ?_
  refine lv_iconst (v := 2) hx hb dL_law_1309 (by decide) ?_
  refine lv_iadd hx hb dL_law_1310 ?_
  refine lv_topi (fun x20 ex20 => ?_)
  have tx20 : x20.toInt = x0.toInt + 2 := (jadd ex20 rfl jz_2 (by omega) (by omega)).trans (by omega)
  refine va_sld hx hb hX hbl hbA hS (jin tx20 (by omega) (by omega)) dL_law_1311 ?_
  have g21 := jrg (rfl : (xs x20.toNatClampNeg).toInt = (xs x20.toNatClampNeg).toInt)
  refine jcallV (As := [.int (xs x18.toNatClampNeg), .int (xs x20.toNatClampNeg)]) (rest := []) ⟨hx, hb, hml, hown, hts⟩ hK hP hA hS hZ (c_X11_taken l D cI cL ad zz hJ σ τ (xs x18.toNatClampNeg) ((xs x18.toNatClampNeg).toInt) rfl (xs x20.toNatClampNeg) ((xs x20.toNatClampNeg).toInt) rfl hI38) cw_RL_162 (jc_0 cI cL ad σ τ) rfl ⟨Nat.le_of_ble_eq_true rfl, Nat.le_of_ble_eq_true rfl⟩ rfl rfl rfl hl.1 rfl (Nat.le_of_ble_eq_true rfl) dL_law_1312 ⟨Nat.le_of_ble_eq_true rfl, Nat.le_of_ble_eq_true rfl⟩ (fun r23 σ22 τ22 H locs h22 hP hS => ?_)
  obtain ⟨⟨rfl, rfl⟩, h22⟩ := h22
  refine lv_pop hx hb dL_law_1315 rfl ?_
  refine lv_aload_n hx hb dL_law_1316 rfl (lv_at hl 1 rfl) ?_
  refine lv_aload_n hx hb dL_law_1317 rfl (lv_at hl 3 rfl) ?_
  refine lv_iload_n hx hb dL_law_1318 rfl (lv_at hl 0 rfl) ?_
  refine lv_iconst (v := 1) hx hb dL_law_1319 (by decide) ?_
  refine lv_iadd hx hb dL_law_1320 ?_
  refine jtopr ex18.symm ?_
  refine va_sld hx hb hX hbl hbA hS (jin tx18 (by omega) (by omega)) dL_law_1321 ?_
  refine lv_aload_n hx hb dL_law_1322 rfl (lv_at hl 3 rfl) ?_
  refine lv_iload_n hx hb dL_law_1323 rfl (lv_at hl 0 rfl) ?_
  refine lv_iconst (v := 2) hx hb dL_law_1324 (by decide) ?_
  refine lv_iadd hx hb dL_law_1325 ?_
  refine jtopr ex20.symm ?_
  refine va_sld hx hb hX hbl hbA hS (jin tx20 (by omega) (by omega)) dL_law_1326 ?_
  refine jcallV (As := [.int (xs x18.toNatClampNeg), .int (xs x20.toNatClampNeg)]) (rest := []) ⟨hx, hb, hml, hown, hts⟩ hK hP hA hS hZ (c_X12_taken l D cI cL ad zz hJ σ τ (xs x18.toNatClampNeg) ((xs x18.toNatClampNeg).toInt) rfl (xs x20.toNatClampNeg) ((xs x20.toNatClampNeg).toInt) rfl hI106 hI110) cw_RL_165 (jc_55 cI cL ad σ τ) rfl ⟨Nat.le_of_ble_eq_true rfl, Nat.le_of_ble_eq_true rfl⟩ rfl rfl rfl hl.1 rfl (Nat.le_of_ble_eq_true rfl) dL_law_1327 ⟨Nat.le_of_ble_eq_true rfl, Nat.le_of_ble_eq_true rfl⟩ (fun r25 σ24 τ24 H locs h24 hP hS => ?_)
  obtain ⟨⟨rfl, rfl⟩, h24⟩ := h24
  refine lv_pop hx hb dL_law_1330 rfl ?_
  refine lv_goto (tgt := 1357) hx hb dL_law_1331 (by decide) ?_
  obtain ⟨x26, ex26⟩ : ∃ y : Int32, y = x0 + 6 := ⟨_, rfl⟩
  have tx26 : x26.toInt = x0.toInt + 6 := (jadd ex26 rfl jz_6 (by omega) (by omega)).trans (by omega)
  refine lv_iinc (v := x26) (lv' := [(3, .int x26), (2, .ref (ad 55)), (1, .ref (ad 0)), (0, .ref b)]) hx hb dL_law_1357 hl (k := 0) rfl (by rw [ex26]; rfl) (by decide) rfl (fun ls hl => ?_)
  refine lv_goto (tgt := 18) hx hb dL_law_1360 (by decide) ?_
  exact ih x26 σ τ _ _ ls (by have h9 := tx26; omega) ⟨hI2, hI9, hI12, hI16, hI18, hI22, hI31, hI38, hI43, hI47, hI50, hI101, hI102, hI103, hI104, hI105, hI106, hI107, hI109, hI110, hI111, hI119, hs_jKept, hs_jBook, (by omega), (by omega), (by omega), hr0⟩ hP hS (lv_sub hl [0, 1, 2, 3] rfl)
set_option maxHeartbeats 4000000 in
set_option maxRecDepth 100000 in
theorem law_case_36 {p : Program} {e : Env} {s : State} {m : MethodId} {below : List Frame} {meth : Method} {c : Code} (l : Launch) {b L : Nat} {xs : Nat → Int32} {D : va_G} {cI cL : ClassId} {ad zz : Nat → Nat} (C0 : lw_At p s m meth c b L xs) (hJ : jD ad) (hA : ∀ q, jA ad q → s.heap.size ≤ q) (hK : jK D cI cL s) (hZ : jZ zz (fun q : Nat => s.heap.size ≤ q) s s.heap) {x0 : Int32} (hx0 : 0 ≤ x0.toInt) (hxL : x0.toInt + 6 ≤ (L : Int)) (hL : L ≤ 384) {σ : Nat → Nat → Int32} {τ : Nat → Nat → Int64} {H : Heap} {locs : List Loc} (hS : va_S (fun q : Nat => s.heap.size ≤ q) s.heap H locs) {ls : Array Slot} (hAll : jAll σ τ) (hP : jH D cI cL ad σ τ H) (hl : lv_has ls 4 [(3, .int x0), (2, .ref (ad 55)), (1, .ref (ad 0)), (0, .ref b)]) (ih : ∀ (x1 : Int32) (σ : Nat → Nat → Int32) (τ : Nat → Nat → Int64) (H : Heap) (locs : List Loc) (ls : Array Slot), x1.toInt = x0.toInt + 6 → jAll σ τ → jH D cI cL ad σ τ H → va_S (fun q : Nat => s.heap.size ≤ q) s.heap H locs → lv_has ls 4 [(3, .int x1), (2, .ref (ad 55)), (1, .ref (ad 0)), (0, .ref b)] → W p l e room_1 s m #[Value.ref b] below meth c H locs 90 348600 (lw_Z below #[Value.ref b] s) (F0 m 18 ls [])) : W p l e room_1 s m #[Value.ref b] below meth c H locs 90 348600 (lw_Z below #[Value.ref b] s) (F0 m 1334 ls []) := by
  obtain ⟨hx, hb, hr, hml, hown, hts0, hX, hbl, hlocks, hgv⟩ := C0
  have hts : ∀ w ∈ wsL_law, w.before #[Value.ref b] s = true := fun w h => hts0 w (wsL_law_in w h)
  have hbA : ¬ (fun q : Nat => s.heap.size ≤ q) b := Nat.not_le.mpr hbl
  have hown : s.vm.findClass RL = some m.cls := hown
  obtain ⟨hI2, hI9, hI12, hI16, hI18, hI22, hI31, hI38, hI43, hI47, hI50, hI101, hI102, hI103, hI104, hI105, hI106, hI107, hI109, hI110, hI111, hI119, hs_jKept, hs_jBook, ht0, ht1, ht2, hr0⟩ := hAll
  have hL9 : (L : Int) ≤ 384 := by omega
  obtain ⟨i1, i2, i3, i4, i5, w6⟩ : (0 ≤ (σ 2 0).toInt ∧ (σ 2 0).toInt ≤ 4) ∧ (0 ≤ (σ 2 1).toInt ∧ (σ 2 1).toInt ≤ 3) ∧ (0 ≤ (σ 2 2).toInt) ∧ (0 ≤ (σ 2 3).toInt) ∧ ((σ 2 2).toInt + (σ 2 3).toInt ≤ 40) ∧ (∀ k : Nat, k < 40 → 0 ≤ (σ 6 k).toInt ∧ (σ 6 k).toInt ≤ 67) := id hI2
  obtain ⟨i7, i8, i9, w10, w11, w12, w13⟩ : (0 ≤ (σ 55 5).toInt) ∧ ((σ 55 5).toInt ≤ (σ 55 4).toInt) ∧ ((σ 55 4).toInt ≤ 40) ∧ (∀ k : Nat, k < 68 → (-200) ≤ (σ 56 k).toInt ∧ (σ 56 k).toInt ≤ 500) ∧ (∀ k : Nat, k < 40 → 0 ≤ (σ 57 k).toInt ∧ (σ 57 k).toInt ≤ 67) ∧ (∀ k : Nat, k < 40 → (-200) ≤ (σ 58 k).toInt ∧ (σ 58 k).toInt ≤ 500) ∧ (∀ k : Nat, k < 40 → (-200) ≤ (σ 59 k).toInt ∧ (σ 59 k).toInt ≤ 500) := id hI101
  obtain ⟨i14, w15, w16⟩ : (0 ≤ (σ 55 6).toInt ∧ (σ 55 6).toInt ≤ 4) ∧ (∀ k : Nat, k < 4 → 0 ≤ (σ 60 k).toInt ∧ (σ 60 k).toInt ≤ 50) ∧ (∀ k : Nat, k < 4 → 0 ≤ (σ 61 k).toInt ∧ (σ 61 k).toInt ≤ 20) := id hI102
  refine lv_aload_n hx hb dL_law_1334 rfl (lv_at hl 2 rfl) ?_
  refine lv_aload_n hx hb dL_law_1335 rfl (lv_at hl 3 rfl) ?_
  refine lv_iload_n hx hb dL_law_1336 rfl (lv_at hl 0 rfl) ?_
  refine lv_iconst (v := 1) hx hb dL_law_1337 (by decide) ?_
  have g17 := jrg (rfl : x0.toInt = x0.toInt)
  refine lv_iadd hx hb dL_law_1338 ?_
  refine lv_topi (fun x18 ex18 => ?_)
  have tx18 : x18.toInt = x0.toInt + 1 := (jadd ex18 rfl jz_1 (by omega) (by omega)).trans (by omega)
  refine va_sld hx hb hX hbl hbA hS (jin tx18 (by omega) (by omega)) dL_law_1339 ?_
  have g19 := jrg (rfl : (xs x18.toNatClampNeg).toInt = (xs x18.toNatClampNeg).toInt)
  refine jcallV (As := [.int (xs x18.toNatClampNeg)]) (rest := []) ⟨hx, hb, hml, hown, hts⟩ hK hP hA hS hZ (c_X11_count l D cI cL ad zz hJ σ τ (xs x18.toNatClampNeg) ((xs x18.toNatClampNeg).toInt) rfl hI2 hI9 hI38 hI47) cw_RL_166 (jc_0 cI cL ad σ τ) rfl ⟨Nat.le_of_ble_eq_true rfl, Nat.le_of_ble_eq_true rfl⟩ rfl rfl rfl hl.1 rfl (Nat.le_of_ble_eq_true rfl) dL_law_1340 ⟨Nat.le_of_ble_eq_true rfl, Nat.le_of_ble_eq_true rfl⟩ (fun r21 σ20 τ20 H locs h20 hP hS => ?_)
  obtain ⟨⟨rfl, rfl⟩, h20⟩ := h20
  refine lv_pop hx hb dL_law_1343 rfl ?_
  refine lv_aload_n hx hb dL_law_1344 rfl (lv_at hl 1 rfl) ?_
  refine lv_aload_n hx hb dL_law_1345 rfl (lv_at hl 3 rfl) ?_
  refine lv_iload_n hx hb dL_law_1346 rfl (lv_at hl 0 rfl) ?_
  refine lv_iconst (v := 1) hx hb dL_law_1347 (by decide) ?_
  refine lv_iadd hx hb dL_law_1348 ?_
  refine jtopr ex18.symm ?_
  refine va_sld hx hb hX hbl hbA hS (jin tx18 (by omega) (by omega)) dL_law_1349 ?_
  refine jcallV (As := [.int (xs x18.toNatClampNeg)]) (rest := []) ⟨hx, hb, hml, hown, hts⟩ hK hP hA hS hZ (c_X12_count l D cI cL ad zz hJ σ τ (xs x18.toNatClampNeg) ((xs x18.toNatClampNeg).toInt) rfl hI101 hI102 hI105 hI106 hI107) cw_RL_169 (jc_55 cI cL ad σ τ) rfl ⟨Nat.le_of_ble_eq_true rfl, Nat.le_of_ble_eq_true rfl⟩ rfl rfl rfl hl.1 rfl (Nat.le_of_ble_eq_true rfl) dL_law_1350 ⟨Nat.le_of_ble_eq_true rfl, Nat.le_of_ble_eq_true rfl⟩ (fun r23 σ22 τ22 H locs h22 hP hS => ?_)
  obtain ⟨⟨rfl, rfl⟩, h22⟩ := h22
  refine lv_pop hx hb dL_law_1353 rfl ?_
  refine lv_goto (tgt := 1357) hx hb dL_law_1354 (by decide) ?_
  obtain ⟨x24, ex24⟩ : ∃ y : Int32, y = x0 + 6 := ⟨_, rfl⟩
  have tx24 : x24.toInt = x0.toInt + 6 := (jadd ex24 rfl jz_6 (by omega) (by omega)).trans (by omega)
  refine lv_iinc (v := x24) (lv' := [(3, .int x24), (2, .ref (ad 55)), (1, .ref (ad 0)), (0, .ref b)]) hx hb dL_law_1357 hl (k := 0) rfl (by rw [ex24]; rfl) (by decide) rfl (fun ls hl => ?_)
  refine lv_goto (tgt := 18) hx hb dL_law_1360 (by decide) ?_
  exact ih x24 σ τ _ _ ls (by have h9 := tx24; omega) ⟨hI2, hI9, hI12, hI16, hI18, hI22, hI31, hI38, hI43, hI47, hI50, hI101, hI102, hI103, hI104, hI105, hI106, hI107, hI109, hI110, hI111, hI119, hs_jKept, hs_jBook, (by omega), (by omega), (by omega), hr0⟩ hP hS (lv_sub hl [0, 1, 2, 3] rfl)
set_option maxHeartbeats 4000000 in
set_option maxRecDepth 100000 in
theorem law_case_37 {p : Program} {e : Env} {s : State} {m : MethodId} {below : List Frame} {meth : Method} {c : Code} (l : Launch) {b L : Nat} {xs : Nat → Int32} {D : va_G} {cI cL : ClassId} {ad zz : Nat → Nat} (C0 : lw_At p s m meth c b L xs) (hJ : jD ad) (hA : ∀ q, jA ad q → s.heap.size ≤ q) (hK : jK D cI cL s) (hZ : jZ zz (fun q : Nat => s.heap.size ≤ q) s s.heap) {x0 : Int32} (hx0 : 0 ≤ x0.toInt) (hxL : x0.toInt + 6 ≤ (L : Int)) (hL : L ≤ 384) {σ : Nat → Nat → Int32} {τ : Nat → Nat → Int64} {H : Heap} {locs : List Loc} (hS : va_S (fun q : Nat => s.heap.size ≤ q) s.heap H locs) {ls : Array Slot} (hAll : jAll σ τ) (hP : jH D cI cL ad σ τ H) (hl : lv_has ls 4 [(3, .int x0), (2, .ref (ad 55)), (1, .ref (ad 0)), (0, .ref b)]) (ih : ∀ (x1 : Int32) (σ : Nat → Nat → Int32) (τ : Nat → Nat → Int64) (H : Heap) (locs : List Loc) (ls : Array Slot), x1.toInt = x0.toInt + 6 → jAll σ τ → jH D cI cL ad σ τ H → va_S (fun q : Nat => s.heap.size ≤ q) s.heap H locs → lv_has ls 4 [(3, .int x1), (2, .ref (ad 55)), (1, .ref (ad 0)), (0, .ref b)] → W p l e room_1 s m #[Value.ref b] below meth c H locs 90 348600 (lw_Z below #[Value.ref b] s) (F0 m 18 ls [])) : W p l e room_1 s m #[Value.ref b] below meth c H locs 90 348600 (lw_Z below #[Value.ref b] s) (F0 m 1357 ls []) := by
  obtain ⟨hx, hb, hr, hml, hown, hts0, hX, hbl, hlocks, hgv⟩ := C0
  have hts : ∀ w ∈ wsL_law, w.before #[Value.ref b] s = true := fun w h => hts0 w (wsL_law_in w h)
  have hbA : ¬ (fun q : Nat => s.heap.size ≤ q) b := Nat.not_le.mpr hbl
  have hown : s.vm.findClass RL = some m.cls := hown
  obtain ⟨hI2, hI9, hI12, hI16, hI18, hI22, hI31, hI38, hI43, hI47, hI50, hI101, hI102, hI103, hI104, hI105, hI106, hI107, hI109, hI110, hI111, hI119, hs_jKept, hs_jBook, ht0, ht1, ht2, hr0⟩ := hAll
  have hL9 : (L : Int) ≤ 384 := by omega
  obtain ⟨i1, i2, i3, i4, i5, w6⟩ : (0 ≤ (σ 2 0).toInt ∧ (σ 2 0).toInt ≤ 4) ∧ (0 ≤ (σ 2 1).toInt ∧ (σ 2 1).toInt ≤ 3) ∧ (0 ≤ (σ 2 2).toInt) ∧ (0 ≤ (σ 2 3).toInt) ∧ ((σ 2 2).toInt + (σ 2 3).toInt ≤ 40) ∧ (∀ k : Nat, k < 40 → 0 ≤ (σ 6 k).toInt ∧ (σ 6 k).toInt ≤ 67) := id hI2
  obtain ⟨i7, i8, i9, w10, w11, w12, w13⟩ : (0 ≤ (σ 55 5).toInt) ∧ ((σ 55 5).toInt ≤ (σ 55 4).toInt) ∧ ((σ 55 4).toInt ≤ 40) ∧ (∀ k : Nat, k < 68 → (-200) ≤ (σ 56 k).toInt ∧ (σ 56 k).toInt ≤ 500) ∧ (∀ k : Nat, k < 40 → 0 ≤ (σ 57 k).toInt ∧ (σ 57 k).toInt ≤ 67) ∧ (∀ k : Nat, k < 40 → (-200) ≤ (σ 58 k).toInt ∧ (σ 58 k).toInt ≤ 500) ∧ (∀ k : Nat, k < 40 → (-200) ≤ (σ 59 k).toInt ∧ (σ 59 k).toInt ≤ 500) := id hI101
  obtain ⟨i14, w15, w16⟩ : (0 ≤ (σ 55 6).toInt ∧ (σ 55 6).toInt ≤ 4) ∧ (∀ k : Nat, k < 4 → 0 ≤ (σ 60 k).toInt ∧ (σ 60 k).toInt ≤ 50) ∧ (∀ k : Nat, k < 4 → 0 ≤ (σ 61 k).toInt ∧ (σ 61 k).toInt ≤ 20) := id hI102
  obtain ⟨x17, ex17⟩ : ∃ y : Int32, y = x0 + 6 := ⟨_, rfl⟩
  have tx17 : x17.toInt = x0.toInt + 6 := (jadd ex17 rfl jz_6 (by omega) (by omega)).trans (by omega)
  refine lv_iinc (v := x17) (lv' := [(3, .int x17), (2, .ref (ad 55)), (1, .ref (ad 0)), (0, .ref b)]) hx hb dL_law_1357 hl (k := 0) rfl (by rw [ex17]; rfl) (by decide) rfl (fun ls hl => ?_)
  refine lv_goto (tgt := 18) hx hb dL_law_1360 (by decide) ?_
  exact ih x17 σ τ _ _ ls (by have h9 := tx17; omega) ⟨hI2, hI9, hI12, hI16, hI18, hI22, hI31, hI38, hI43, hI47, hI50, hI101, hI102, hI103, hI104, hI105, hI106, hI107, hI109, hI110, hI111, hI119, hs_jKept, hs_jBook, (by omega), (by omega), (by omega), hr0⟩ hP hS (lv_sub hl [0, 1, 2, 3] rfl)
