set_option maxHeartbeats 4000000 in
set_option maxRecDepth 100000 in
theorem law_case_19 {p : Program} {e : Env} {s : State} {m : MethodId} {below : List Frame} {meth : Method} {c : Code} (l : Launch) {b L : Nat} {xs : Nat → Int32} {D : va_G} {cI cL : ClassId} {ad zz : Nat → Nat} (C0 : lw_At p s m meth c b L xs) (hJ : jD ad) (hA : ∀ q, jA ad q → s.heap.size ≤ q) (hK : jK D cI cL s) (hZ : jZ zz (fun q : Nat => s.heap.size ≤ q) s s.heap) {x0 : Int32} (hx0 : 0 ≤ x0.toInt) (hxL : x0.toInt + 6 ≤ (L : Int)) (hL : L ≤ 384) {σ : Nat → Nat → Int32} {τ : Nat → Nat → Int64} {H : Heap} {locs : List Loc} (hS : va_S (fun q : Nat => s.heap.size ≤ q) s.heap H locs) {ls : Array Slot} (hAll : jAll σ τ) (hP : jH D cI cL ad σ τ H) (hl : lv_has ls 4 [(3, .int x0), (2, .ref (ad 55)), (1, .ref (ad 0)), (0, .ref b)]) (ih : ∀ (x1 : Int32) (σ : Nat → Nat → Int32) (τ : Nat → Nat → Int64) (H : Heap) (locs : List Loc) (ls : Array Slot), x1.toInt = x0.toInt + 6 → jAll σ τ → jH D cI cL ad σ τ H → va_S (fun q : Nat => s.heap.size ≤ q) s.heap H locs → lv_has ls 4 [(3, .int x1), (2, .ref (ad 55)), (1, .ref (ad 0)), (0, .ref b)] → W p l e room_1 s m #[Value.ref b] below meth c H locs 90 348600 (lw_Z below #[Value.ref b] s) (F0 m 18 ls [])) : W p l e room_1 s m #[Value.ref b] below meth c H locs 90 348600 (lw_Z below #[Value.ref b] s) (F0 m 773 ls []) := by
  obtain ⟨hx, hb, hr, hml, hown, hts0, hX, hbl, hlocks, hgv⟩ := C0
  have hts : ∀ w ∈ wsL_law, w.before #[Value.ref b] s = true := fun w h => hts0 w (wsL_law_in w h)
  have hbA : ¬ (fun q : Nat => s.heap.size ≤ q) b := Nat.not_le.mpr hbl
  have hown : s.vm.findClass RL = some m.cls := hown
  obtain ⟨hI2, hI9, hI12, hI16, hI18, hI22, hI31, hI38, hI43, hI47, hI50, hI101, hI102, hI103, hI104, hI105, hI106, hI107, hI109, hI110, hI111, hI119, hs_jKept, hs_jBook, ht0, hr0, hr1⟩ := hAll
  have hL9 : (L : Int) ≤ 384 := by omega
  obtain ⟨i1, i2, w3⟩ : (0 ≤ (σ 38 0).toInt ∧ (σ 38 0).toInt ≤ 20) ∧ (0 ≤ (σ 38 1).toInt ∧ (σ 38 1).toInt ≤ 1000) ∧ (∀ k : Nat, k < 20 → 0 ≤ (σ 39 k).toInt ∧ (σ 39 k).toInt ≤ 6) := id hI38
  have w4 : ∀ k : Nat, k < 6 → 0 ≤ (σ 52 k).toInt ∧ (σ 52 k).toInt ≤ 60 := hI50
  obtain ⟨i5, w6, w7, w8⟩ : (0 ≤ (σ 55 32).toInt ∧ (σ 55 32).toInt ≤ 20) ∧ (∀ k : Nat, k < 20 → 0 ≤ (σ 70 k).toInt ∧ (σ 70 k).toInt ≤ 6) ∧ (∀ k : Nat, k < 20 → 0 ≤ (σ 71 k).toInt ∧ (σ 71 k).toInt ≤ 8) ∧ (∀ k : Nat, k < 160 → 0 ≤ (σ 72 k).toInt ∧ (σ 72 k).toInt ≤ 3) := id hI106
  refine lv_aload_n hx hb dL_law_773 rfl (lv_at hl 2 rfl) ?_
  refine lv_aload_n hx hb dL_law_774 rfl (lv_at hl 3 rfl) ?_
  refine lv_iload_n hx hb dL_law_775 rfl (lv_at hl 0 rfl) ?_
  refine lv_iconst (v := 1) hx hb dL_law_776 (by decide) ?_
  have g9 := jrg (rfl : x0.toInt = x0.toInt)
  refine lv_iadd hx hb dL_law_777 ?_
  refine lv_topi (fun x10 ex10 => ?_)
  have tx10 : x10.toInt = x0.toInt + 1 := (jadd ex10 rfl jz_1 (by omega) (by omega)).trans (by omega)
  refine va_sld hx hb hX hbl hbA hS (jin tx10 (by omega) (by omega)) dL_law_778 ?_
  have g11 := jrg (rfl : (xs x10.toNatClampNeg).toInt = (xs x10.toNatClampNeg).toInt)
  refine lv_aload_n hx hb dL_law_779 rfl (lv_at hl 3 rfl) ?_
  refine lv_iload_n hx hb dL_law_780 rfl (lv_at hl 0 rfl) ?_
  refine lv_iconst (v := 2) hx hb dL_law_781 (by decide) ?_
  refine lv_iadd hx hb dL_law_782 ?_
  refine lv_topi (fun x12 ex12 => ?_)
  have tx12 : x12.toInt = x0.toInt + 2 := (jadd ex12 rfl jz_2 (by omega) (by omega)).trans (by omega)
  refine va_sld hx hb hX hbl hbA hS (jin tx12 (by omega) (by omega)) dL_law_783 ?_
  have g13 := jrg (rfl : (xs x12.toNatClampNeg).toInt = (xs x12.toNatClampNeg).toInt)
  refine jcallV (As := [.int (xs x10.toNatClampNeg), .int (xs x12.toNatClampNeg)]) (rest := []) ⟨hx, hb, hml, hown, hts⟩ hK hP hA hS hZ (c_X11_book l D cI cL ad zz hJ σ τ (xs x10.toNatClampNeg) ((xs x10.toNatClampNeg).toInt) rfl (xs x12.toNatClampNeg) ((xs x12.toNatClampNeg).toInt) rfl hI2 hI16 hI47) cw_RL_93 (jc_0 cI cL ad σ τ) rfl ⟨Nat.le_of_ble_eq_true rfl, Nat.le_of_ble_eq_true rfl⟩ rfl rfl rfl hl.1 rfl (Nat.le_of_ble_eq_true rfl) dL_law_784 ⟨Nat.le_of_ble_eq_true rfl, Nat.le_of_ble_eq_true rfl⟩ (fun r15 σ14 τ14 H locs h14 hP hS => ?_)
  obtain ⟨rfl, f16, f17, I18, w19, h14⟩ := h14
  refine lv_pop hx hb dL_law_787 rfl ?_
  refine lv_aload_n hx hb dL_law_788 rfl (lv_at hl 1 rfl) ?_
  refine lv_aload_n hx hb dL_law_789 rfl (lv_at hl 3 rfl) ?_
  refine lv_iload_n hx hb dL_law_790 rfl (lv_at hl 0 rfl) ?_
  refine lv_iconst (v := 1) hx hb dL_law_791 (by decide) ?_
  refine lv_iadd hx hb dL_law_792 ?_
  refine jtopr ex10.symm ?_
  refine va_sld hx hb hX hbl hbA hS (jin tx10 (by omega) (by omega)) dL_law_793 ?_
  refine lv_aload_n hx hb dL_law_794 rfl (lv_at hl 3 rfl) ?_
  refine lv_iload_n hx hb dL_law_795 rfl (lv_at hl 0 rfl) ?_
  refine lv_iconst (v := 2) hx hb dL_law_796 (by decide) ?_
  refine lv_iadd hx hb dL_law_797 ?_
  refine jtopr ex12.symm ?_
  refine va_sld hx hb hX hbl hbA hS (jin tx12 (by omega) (by omega)) dL_law_798 ?_
  have I21 : jI102 σ14 := jI102_fr (congrFun (f16 55 (by decide)) 6) (f16 60 (by decide)) (f16 61 (by decide)) hI102
  have I22 : jI104 σ14 := jI104_fr (congrFun (f16 55 (by decide)) 10) (congrFun (f16 55 (by decide)) 12) (congrFun (f16 55 (by decide)) 13) (f16 62 (by decide)) (f16 67 (by decide)) hI104
  have I23 : jI107 σ14 := jI107_fr (congrFun (f16 55 (by decide)) 12) (congrFun (f16 55 (by decide)) 47) (f16 80 (by decide)) hI107
  have w24 : ∀ k : Nat, k < 4 → 0 ≤ (σ 68 k).toInt ∧ (σ 68 k).toInt ≤ 3 := hI119
  have w25 : ∀ k : Nat, k < 4 → 0 ≤ (σ14 68 k).toInt ∧ (σ14 68 k).toInt ≤ 3 := (jrr_fr (f16 68 (by decide)) w24)
  have p26 : jBook σ14 := jBook.fr (congrFun (f16 55 (by decide)) 47) (congrFun (f16 55 (by decide)) 10) (f16 81 (by decide)) hs_jBook
  have z27 : (σ14 55 47).toInt = (σ 55 47).toInt := (congrArg Int32.toInt (show σ14 55 47 = (σ 55 47) from (congrFun (f16 55 (by decide)) 47)))
  refine jcallV (As := [.int (xs x10.toNatClampNeg), .int (xs x12.toNatClampNeg)]) (rest := []) ⟨hx, hb, hml, hown, hts⟩ hK hP hA hS hZ (c_X12_book l D cI cL ad zz hJ σ14 τ (xs x10.toNatClampNeg) ((xs x10.toNatClampNeg).toInt) rfl (xs x12.toNatClampNeg) ((xs x12.toNatClampNeg).toInt) rfl I21 I22 I23 w25 p26) cw_RL_96 (jc_55 cI cL ad σ14 τ) rfl ⟨Nat.le_of_ble_eq_true rfl, Nat.le_of_ble_eq_true rfl⟩ rfl rfl rfl hl.1 rfl (Nat.le_of_ble_eq_true rfl) dL_law_799 ⟨Nat.le_of_ble_eq_true rfl, Nat.le_of_ble_eq_true rfl⟩ (fun r29 σ28 τ28 H locs h28 hP hS => ?_)
  obtain ⟨rfl, f30, f31, I32, w33, p34, w35, h28⟩ := h28
  rcases h28 with h37 | h38
  · obtain ⟨q41, k39, k40⟩ := h37
    refine lv_pop hx hb dL_law_802 rfl ?_
    refine lv_goto (tgt := 1358) hx hb dL_law_803 (by decide) ?_
    obtain ⟨x42, ex42⟩ : ∃ y : Int32, y = x0 + 6 := ⟨_, rfl⟩
    have tx42 : x42.toInt = x0.toInt + 6 := (jadd ex42 rfl jz_6 (by omega) (by omega)).trans (by omega)
    refine lv_iinc (v := x42) (lv' := [(3, .int x42), (2, .ref (ad 55)), (1, .ref (ad 0)), (0, .ref b)]) hx hb dL_law_1358 hl (k := 0) rfl (by rw [ex42]; rfl) (by decide) rfl (fun ls hl => ?_)
    refine lv_goto (tgt := 18) hx hb dL_law_1361 (by decide) ?_
    have I43 : jI2 σ28 := jI2_fr ((congrFun (f30 2 (by decide)) 0).trans (congrFun (f16 2 (by decide)) 0)) ((congrFun (f30 2 (by decide)) 1).trans (congrFun (f16 2 (by decide)) 1)) ((congrFun (f30 2 (by decide)) 2).trans (congrFun (f16 2 (by decide)) 2)) ((congrFun (f30 2 (by decide)) 3).trans (congrFun (f16 2 (by decide)) 3)) ((f30 6 (by decide)).trans (f16 6 (by decide))) hI2
    have I44 : jI9 σ28 := jI9_fr ((congrFun (f30 9 (by decide)) 0).trans (congrFun (f16 9 (by decide)) 0)) ((f30 10 (by decide)).trans (f16 10 (by decide))) ((f30 11 (by decide)).trans (f16 11 (by decide))) hI9
    have I45 : jI12 σ28 := jI12_fr ((congrFun (f30 12 (by decide)) 0).trans (congrFun (f16 12 (by decide)) 0)) ((f30 13 (by decide)).trans (f16 13 (by decide))) hI12
    have I46 : jI16 σ28 := jI16_fr ((congrFun (f30 16 (by decide)) 0).trans (congrFun (f16 16 (by decide)) 0)) ((congrFun (f30 16 (by decide)) 1).trans (congrFun (f16 16 (by decide)) 1)) ((congrFun (f30 16 (by decide)) 2).trans (congrFun (f16 16 (by decide)) 2)) ((f30 17 (by decide)).trans (f16 17 (by decide))) hI16
    have I47 : jI18 σ28 := jI18_fr ((congrFun (f30 18 (by decide)) 0).trans (congrFun (f16 18 (by decide)) 0)) ((f30 19 (by decide)).trans (f16 19 (by decide))) hI18
    have I48 : jI22 σ28 := jI22_fr ((congrFun (f30 22 (by decide)) 0).trans (congrFun (f16 22 (by decide)) 0)) ((f30 23 (by decide)).trans (f16 23 (by decide))) hI22
    have I49 : jI31 σ28 := jI31_fr ((congrFun (f30 31 (by decide)) 8).trans (congrFun (f16 31 (by decide)) 8)) ((f30 33 (by decide)).trans (f16 33 (by decide))) ((f30 36 (by decide)).trans (f16 36 (by decide))) hI31
    have I50 : jI38 σ28 := jI38_fr ((congrFun (f30 38 (by decide)) 0).trans (congrFun (f16 38 (by decide)) 0)) ((congrFun (f30 38 (by decide)) 1).trans (congrFun (f16 38 (by decide)) 1)) ((f30 39 (by decide)).trans (f16 39 (by decide))) hI38
    have I51 : jI43 σ28 := jI43_fr ((congrFun (f30 43 (by decide)) 8).trans (congrFun (f16 43 (by decide)) 8)) hI43
    have I52 : jI47 σ28 := jI47_fr (congrFun (f30 47 (by decide)) 0) (f30 48 (by decide)) (f30 49 (by decide)) I18
    have I53 : jI50 σ28 := jI50_fr ((f30 52 (by decide)).trans (f16 52 (by decide))) hI50
    have I54 : jI101 σ28 := jI101_fr ((f31 4 (by decide)).trans (congrFun (f16 55 (by decide)) 4)) ((f31 5 (by decide)).trans (congrFun (f16 55 (by decide)) 5)) ((f30 56 (by decide)).trans (f16 56 (by decide))) ((f30 57 (by decide)).trans (f16 57 (by decide))) ((f30 58 (by decide)).trans (f16 58 (by decide))) ((f30 59 (by decide)).trans (f16 59 (by decide))) hI101
    have I55 : jI102 σ28 := jI102_fr (f31 6 (by decide)) (f30 60 (by decide)) (f30 61 (by decide)) I21
    have I56 : jI103 σ28 := jI103_fr ((f31 9 (by decide)).trans (congrFun (f16 55 (by decide)) 9)) hI103
    have I57 : jI104 σ28 := jI104_fr (f31 10 (by decide)) (f31 12 (by decide)) (f31 13 (by decide)) (f30 62 (by decide)) (f30 67 (by decide)) I22
    have I58 : jI105 σ28 := jI105_fr ((f31 15 (by decide)).trans (congrFun (f16 55 (by decide)) 15)) ((f30 65 (by decide)).trans (f16 65 (by decide))) hI105
    have I59 : jI106 σ28 := jI106_fr ((f31 32 (by decide)).trans (congrFun (f16 55 (by decide)) 32)) ((f30 70 (by decide)).trans (f16 70 (by decide))) ((f30 71 (by decide)).trans (f16 71 (by decide))) ((f30 72 (by decide)).trans (f16 72 (by decide))) hI106
    have I60 : jI109 σ28 := jI109_fr ((f31 50 (by decide)).trans (congrFun (f16 55 (by decide)) 50)) hI109
    have I61 : jI110 σ28 := jI110_fr ((f30 86 (by decide)).trans (f16 86 (by decide))) ((f30 87 (by decide)).trans (f16 87 (by decide))) hI110
    have I62 : jI111 σ28 := jI111_fr ((f30 79 (by decide)).trans (f16 79 (by decide))) hI111
    have I63 : jI119 σ28 := w33
    have p64 : jKept σ28 := jKept.fr ((f30 75 (by decide)).trans (f16 75 (by decide))) ((f30 76 (by decide)).trans (f16 76 (by decide))) ((f30 77 (by decide)).trans (f16 77 (by decide))) hs_jKept
    have z65 : (σ28 38 0).toInt = (σ 38 0).toInt := (congrArg Int32.toInt (show σ28 38 0 = (σ 38 0) from ((congrFun (f30 38 (by decide)) 0).trans (congrFun (f16 38 (by decide)) 0))))
    have z66 : (σ28 55 32).toInt = (σ 55 32).toInt := (congrArg Int32.toInt (show σ28 55 32 = (σ 55 32) from ((f31 32 (by decide)).trans (congrFun (f16 55 (by decide)) 32))))
    exact ih x42 σ28 τ _ _ ls (by have h9 := tx42; omega) ⟨I43, I44, I45, I46, I47, I48, I49, I50, I51, I52, I53, I54, I55, I56, I57, I58, I59, I32, I60, I61, I62, I63, p64, p34, (by omega), (show jShP (σ28 51) (σ28 52) (σ28 53) (σ28 86) (σ28 87) (σ28 55 32).toInt by rw [show σ28 51 = σ 51 from ((f30 51 (by decide)).trans (f16 51 (by decide))), show σ28 52 = σ 52 from ((f30 52 (by decide)).trans (f16 52 (by decide))), show σ28 53 = σ 53 from ((f30 53 (by decide)).trans (f16 53 (by decide))), show σ28 86 = σ 86 from ((f30 86 (by decide)).trans (f16 86 (by decide))), show σ28 87 = σ 87 from ((f30 87 (by decide)).trans (f16 87 (by decide)))]; exact (hr0.up (by omega) (by omega))), (show jEl (σ28 51) (σ28 52) (τ 54) (τ 88) by rw [show σ28 51 = σ 51 from ((f30 51 (by decide)).trans (f16 51 (by decide))), show σ28 52 = σ 52 from ((f30 52 (by decide)).trans (f16 52 (by decide)))]; exact hr1)⟩ hP hS (lv_sub hl [0, 1, 2, 3] rfl)
  · obtain ⟨q70, k68, k69⟩ := h38
    refine lv_pop hx hb dL_law_802 rfl ?_
    refine lv_goto (tgt := 1358) hx hb dL_law_803 (by decide) ?_
    obtain ⟨x71, ex71⟩ : ∃ y : Int32, y = x0 + 6 := ⟨_, rfl⟩
    have tx71 : x71.toInt = x0.toInt + 6 := (jadd ex71 rfl jz_6 (by omega) (by omega)).trans (by omega)
    refine lv_iinc (v := x71) (lv' := [(3, .int x71), (2, .ref (ad 55)), (1, .ref (ad 0)), (0, .ref b)]) hx hb dL_law_1358 hl (k := 0) rfl (by rw [ex71]; rfl) (by decide) rfl (fun ls hl => ?_)
    refine lv_goto (tgt := 18) hx hb dL_law_1361 (by decide) ?_
    have I72 : jI2 σ28 := jI2_fr ((congrFun (f30 2 (by decide)) 0).trans (congrFun (f16 2 (by decide)) 0)) ((congrFun (f30 2 (by decide)) 1).trans (congrFun (f16 2 (by decide)) 1)) ((congrFun (f30 2 (by decide)) 2).trans (congrFun (f16 2 (by decide)) 2)) ((congrFun (f30 2 (by decide)) 3).trans (congrFun (f16 2 (by decide)) 3)) ((f30 6 (by decide)).trans (f16 6 (by decide))) hI2
    have I73 : jI9 σ28 := jI9_fr ((congrFun (f30 9 (by decide)) 0).trans (congrFun (f16 9 (by decide)) 0)) ((f30 10 (by decide)).trans (f16 10 (by decide))) ((f30 11 (by decide)).trans (f16 11 (by decide))) hI9
    have I74 : jI12 σ28 := jI12_fr ((congrFun (f30 12 (by decide)) 0).trans (congrFun (f16 12 (by decide)) 0)) ((f30 13 (by decide)).trans (f16 13 (by decide))) hI12
    have I75 : jI16 σ28 := jI16_fr ((congrFun (f30 16 (by decide)) 0).trans (congrFun (f16 16 (by decide)) 0)) ((congrFun (f30 16 (by decide)) 1).trans (congrFun (f16 16 (by decide)) 1)) ((congrFun (f30 16 (by decide)) 2).trans (congrFun (f16 16 (by decide)) 2)) ((f30 17 (by decide)).trans (f16 17 (by decide))) hI16
    have I76 : jI18 σ28 := jI18_fr ((congrFun (f30 18 (by decide)) 0).trans (congrFun (f16 18 (by decide)) 0)) ((f30 19 (by decide)).trans (f16 19 (by decide))) hI18
    have I77 : jI22 σ28 := jI22_fr ((congrFun (f30 22 (by decide)) 0).trans (congrFun (f16 22 (by decide)) 0)) ((f30 23 (by decide)).trans (f16 23 (by decide))) hI22
    have I78 : jI31 σ28 := jI31_fr ((congrFun (f30 31 (by decide)) 8).trans (congrFun (f16 31 (by decide)) 8)) ((f30 33 (by decide)).trans (f16 33 (by decide))) ((f30 36 (by decide)).trans (f16 36 (by decide))) hI31
    have I79 : jI38 σ28 := jI38_fr ((congrFun (f30 38 (by decide)) 0).trans (congrFun (f16 38 (by decide)) 0)) ((congrFun (f30 38 (by decide)) 1).trans (congrFun (f16 38 (by decide)) 1)) ((f30 39 (by decide)).trans (f16 39 (by decide))) hI38
    have I80 : jI43 σ28 := jI43_fr ((congrFun (f30 43 (by decide)) 8).trans (congrFun (f16 43 (by decide)) 8)) hI43
    have I81 : jI47 σ28 := jI47_fr (congrFun (f30 47 (by decide)) 0) (f30 48 (by decide)) (f30 49 (by decide)) I18
    have I82 : jI50 σ28 := jI50_fr ((f30 52 (by decide)).trans (f16 52 (by decide))) hI50
    have I83 : jI101 σ28 := jI101_fr ((f31 4 (by decide)).trans (congrFun (f16 55 (by decide)) 4)) ((f31 5 (by decide)).trans (congrFun (f16 55 (by decide)) 5)) ((f30 56 (by decide)).trans (f16 56 (by decide))) ((f30 57 (by decide)).trans (f16 57 (by decide))) ((f30 58 (by decide)).trans (f16 58 (by decide))) ((f30 59 (by decide)).trans (f16 59 (by decide))) hI101
    have I84 : jI102 σ28 := jI102_fr (f31 6 (by decide)) (f30 60 (by decide)) (f30 61 (by decide)) I21
    have I85 : jI103 σ28 := jI103_fr ((f31 9 (by decide)).trans (congrFun (f16 55 (by decide)) 9)) hI103
    have I86 : jI104 σ28 := jI104_fr (f31 10 (by decide)) (f31 12 (by decide)) (f31 13 (by decide)) (f30 62 (by decide)) (f30 67 (by decide)) I22
    have I87 : jI105 σ28 := jI105_fr ((f31 15 (by decide)).trans (congrFun (f16 55 (by decide)) 15)) ((f30 65 (by decide)).trans (f16 65 (by decide))) hI105
    have I88 : jI106 σ28 := jI106_fr ((f31 32 (by decide)).trans (congrFun (f16 55 (by decide)) 32)) ((f30 70 (by decide)).trans (f16 70 (by decide))) ((f30 71 (by decide)).trans (f16 71 (by decide))) ((f30 72 (by decide)).trans (f16 72 (by decide))) hI106
    have I89 : jI109 σ28 := jI109_fr ((f31 50 (by decide)).trans (congrFun (f16 55 (by decide)) 50)) hI109
    have I90 : jI110 σ28 := jI110_fr ((f30 86 (by decide)).trans (f16 86 (by decide))) ((f30 87 (by decide)).trans (f16 87 (by decide))) hI110
    have I91 : jI111 σ28 := jI111_fr ((f30 79 (by decide)).trans (f16 79 (by decide))) hI111
    have I92 : jI119 σ28 := w33
    have p93 : jKept σ28 := jKept.fr ((f30 75 (by decide)).trans (f16 75 (by decide))) ((f30 76 (by decide)).trans (f16 76 (by decide))) ((f30 77 (by decide)).trans (f16 77 (by decide))) hs_jKept
    have z94 : (σ28 38 0).toInt = (σ 38 0).toInt := (congrArg Int32.toInt (show σ28 38 0 = (σ 38 0) from ((congrFun (f30 38 (by decide)) 0).trans (congrFun (f16 38 (by decide)) 0))))
    have z95 : (σ28 55 32).toInt = (σ 55 32).toInt := (congrArg Int32.toInt (show σ28 55 32 = (σ 55 32) from ((f31 32 (by decide)).trans (congrFun (f16 55 (by decide)) 32))))
    exact ih x71 σ28 τ _ _ ls (by have h9 := tx71; omega) ⟨I72, I73, I74, I75, I76, I77, I78, I79, I80, I81, I82, I83, I84, I85, I86, I87, I88, I32, I89, I90, I91, I92, p93, p34, (by omega), (show jShP (σ28 51) (σ28 52) (σ28 53) (σ28 86) (σ28 87) (σ28 55 32).toInt by rw [show σ28 51 = σ 51 from ((f30 51 (by decide)).trans (f16 51 (by decide))), show σ28 52 = σ 52 from ((f30 52 (by decide)).trans (f16 52 (by decide))), show σ28 53 = σ 53 from ((f30 53 (by decide)).trans (f16 53 (by decide))), show σ28 86 = σ 86 from ((f30 86 (by decide)).trans (f16 86 (by decide))), show σ28 87 = σ 87 from ((f30 87 (by decide)).trans (f16 87 (by decide)))]; exact (hr0.up (by omega) (by omega))), (show jEl (σ28 51) (σ28 52) (τ 54) (τ 88) by rw [show σ28 51 = σ 51 from ((f30 51 (by decide)).trans (f16 51 (by decide))), show σ28 52 = σ 52 from ((f30 52 (by decide)).trans (f16 52 (by decide)))]; exact hr1)⟩ hP hS (lv_sub hl [0, 1, 2, 3] rfl)
set_option maxHeartbeats 4000000 in
set_option maxRecDepth 100000 in
theorem law_case_20 {p : Program} {e : Env} {s : State} {m : MethodId} {below : List Frame} {meth : Method} {c : Code} (l : Launch) {b L : Nat} {xs : Nat → Int32} {D : va_G} {cI cL : ClassId} {ad zz : Nat → Nat} (C0 : lw_At p s m meth c b L xs) (hJ : jD ad) (hA : ∀ q, jA ad q → s.heap.size ≤ q) (hK : jK D cI cL s) (hZ : jZ zz (fun q : Nat => s.heap.size ≤ q) s s.heap) {x0 : Int32} (hx0 : 0 ≤ x0.toInt) (hxL : x0.toInt + 6 ≤ (L : Int)) (hL : L ≤ 384) {σ : Nat → Nat → Int32} {τ : Nat → Nat → Int64} {H : Heap} {locs : List Loc} (hS : va_S (fun q : Nat => s.heap.size ≤ q) s.heap H locs) {ls : Array Slot} (hAll : jAll σ τ) (hP : jH D cI cL ad σ τ H) (hl : lv_has ls 4 [(3, .int x0), (2, .ref (ad 55)), (1, .ref (ad 0)), (0, .ref b)]) (ih : ∀ (x1 : Int32) (σ : Nat → Nat → Int32) (τ : Nat → Nat → Int64) (H : Heap) (locs : List Loc) (ls : Array Slot), x1.toInt = x0.toInt + 6 → jAll σ τ → jH D cI cL ad σ τ H → va_S (fun q : Nat => s.heap.size ≤ q) s.heap H locs → lv_has ls 4 [(3, .int x1), (2, .ref (ad 55)), (1, .ref (ad 0)), (0, .ref b)] → W p l e room_1 s m #[Value.ref b] below meth c H locs 90 348600 (lw_Z below #[Value.ref b] s) (F0 m 18 ls [])) : W p l e room_1 s m #[Value.ref b] below meth c H locs 90 348600 (lw_Z below #[Value.ref b] s) (F0 m 806 ls []) := by
  obtain ⟨hx, hb, hr, hml, hown, hts0, hX, hbl, hlocks, hgv⟩ := C0
  have hts : ∀ w ∈ wsL_law, w.before #[Value.ref b] s = true := fun w h => hts0 w (wsL_law_in w h)
  have hbA : ¬ (fun q : Nat => s.heap.size ≤ q) b := Nat.not_le.mpr hbl
  have hown : s.vm.findClass RL = some m.cls := hown
  obtain ⟨hI2, hI9, hI12, hI16, hI18, hI22, hI31, hI38, hI43, hI47, hI50, hI101, hI102, hI103, hI104, hI105, hI106, hI107, hI109, hI110, hI111, hI119, hs_jKept, hs_jBook, ht0, hr0, hr1⟩ := hAll
  have hL9 : (L : Int) ≤ 384 := by omega
  obtain ⟨i1, i2, w3⟩ : (0 ≤ (σ 38 0).toInt ∧ (σ 38 0).toInt ≤ 20) ∧ (0 ≤ (σ 38 1).toInt ∧ (σ 38 1).toInt ≤ 1000) ∧ (∀ k : Nat, k < 20 → 0 ≤ (σ 39 k).toInt ∧ (σ 39 k).toInt ≤ 6) := id hI38
  have w4 : ∀ k : Nat, k < 6 → 0 ≤ (σ 52 k).toInt ∧ (σ 52 k).toInt ≤ 60 := hI50
  obtain ⟨i5, w6, w7, w8⟩ : (0 ≤ (σ 55 32).toInt ∧ (σ 55 32).toInt ≤ 20) ∧ (∀ k : Nat, k < 20 → 0 ≤ (σ 70 k).toInt ∧ (σ 70 k).toInt ≤ 6) ∧ (∀ k : Nat, k < 20 → 0 ≤ (σ 71 k).toInt ∧ (σ 71 k).toInt ≤ 8) ∧ (∀ k : Nat, k < 160 → 0 ≤ (σ 72 k).toInt ∧ (σ 72 k).toInt ≤ 3) := id hI106
  refine lv_aload_n hx hb dL_law_806 rfl (lv_at hl 2 rfl) ?_
  refine lv_aload_n hx hb dL_law_807 rfl (lv_at hl 3 rfl) ?_
  refine lv_iload_n hx hb dL_law_808 rfl (lv_at hl 0 rfl) ?_
  refine lv_iconst (v := 1) hx hb dL_law_809 (by decide) ?_
  have g9 := jrg (rfl : x0.toInt = x0.toInt)
  refine lv_iadd hx hb dL_law_810 ?_
  refine lv_topi (fun x10 ex10 => ?_)
  have tx10 : x10.toInt = x0.toInt + 1 := (jadd ex10 rfl jz_1 (by omega) (by omega)).trans (by omega)
  refine va_sld hx hb hX hbl hbA hS (jin tx10 (by omega) (by omega)) dL_law_811 ?_
  have g11 := jrg (rfl : (xs x10.toNatClampNeg).toInt = (xs x10.toNatClampNeg).toInt)
  refine lv_aload_n hx hb dL_law_812 rfl (lv_at hl 3 rfl) ?_
  refine lv_iload_n hx hb dL_law_813 rfl (lv_at hl 0 rfl) ?_
  refine lv_iconst (v := 2) hx hb dL_law_814 (by decide) ?_
  refine lv_iadd hx hb dL_law_815 ?_
  refine lv_topi (fun x12 ex12 => ?_)
  have tx12 : x12.toInt = x0.toInt + 2 := (jadd ex12 rfl jz_2 (by omega) (by omega)).trans (by omega)
  refine va_sld hx hb hX hbl hbA hS (jin tx12 (by omega) (by omega)) dL_law_816 ?_
  have g13 := jrg (rfl : (xs x12.toNatClampNeg).toInt = (xs x12.toNatClampNeg).toInt)
  refine jcallV (As := [.int (xs x10.toNatClampNeg), .int (xs x12.toNatClampNeg)]) (rest := []) ⟨hx, hb, hml, hown, hts⟩ hK hP hA hS hZ (c_X11_books l D cI cL ad zz hJ σ τ (xs x10.toNatClampNeg) ((xs x10.toNatClampNeg).toInt) rfl (xs x12.toNatClampNeg) ((xs x12.toNatClampNeg).toInt) rfl hI2 hI16 hI47 hI50) cw_RL_97 (jc_0 cI cL ad σ τ) rfl ⟨Nat.le_of_ble_eq_true rfl, Nat.le_of_ble_eq_true rfl⟩ rfl rfl rfl hl.1 rfl (Nat.le_of_ble_eq_true rfl) dL_law_817 ⟨Nat.le_of_ble_eq_true rfl, Nat.le_of_ble_eq_true rfl⟩ (fun r15 σ14 τ14 H locs h14 hP hS => ?_)
  obtain ⟨rfl, f16, f17, I18, w19, h14⟩ := h14
  refine lv_pop hx hb dL_law_820 rfl ?_
  refine lv_aload_n hx hb dL_law_821 rfl (lv_at hl 1 rfl) ?_
  refine lv_aload_n hx hb dL_law_822 rfl (lv_at hl 3 rfl) ?_
  refine lv_iload_n hx hb dL_law_823 rfl (lv_at hl 0 rfl) ?_
  refine lv_iconst (v := 1) hx hb dL_law_824 (by decide) ?_
  refine lv_iadd hx hb dL_law_825 ?_
  refine jtopr ex10.symm ?_
  refine va_sld hx hb hX hbl hbA hS (jin tx10 (by omega) (by omega)) dL_law_826 ?_
  refine lv_aload_n hx hb dL_law_827 rfl (lv_at hl 3 rfl) ?_
  refine lv_iload_n hx hb dL_law_828 rfl (lv_at hl 0 rfl) ?_
  refine lv_iconst (v := 2) hx hb dL_law_829 (by decide) ?_
  refine lv_iadd hx hb dL_law_830 ?_
  refine jtopr ex12.symm ?_
  refine va_sld hx hb hX hbl hbA hS (jin tx12 (by omega) (by omega)) dL_law_831 ?_
  have I21 : jI102 σ14 := jI102_fr (congrFun (f16 55 (by decide)) 6) (f16 60 (by decide)) (f16 61 (by decide)) hI102
  have I22 : jI104 σ14 := jI104_fr (congrFun (f16 55 (by decide)) 10) (congrFun (f16 55 (by decide)) 12) (congrFun (f16 55 (by decide)) 13) (f16 62 (by decide)) (f16 67 (by decide)) hI104
  have I23 : jI107 σ14 := jI107_fr (congrFun (f16 55 (by decide)) 12) (congrFun (f16 55 (by decide)) 47) (f16 80 (by decide)) hI107
  have I24 : jI110 σ14 := jI110_fr (f16 86 (by decide)) (f16 87 (by decide)) hI110
  have I25 : jI119 σ14 := jI119_fr (f16 68 (by decide)) hI119
  have p26 : jBook σ14 := jBook.fr (congrFun (f16 55 (by decide)) 47) (congrFun (f16 55 (by decide)) 10) (f16 81 (by decide)) hs_jBook
  refine jcallV (As := [.int (xs x10.toNatClampNeg), .int (xs x12.toNatClampNeg)]) (rest := []) ⟨hx, hb, hml, hown, hts⟩ hK hP hA hS hZ (c_X12_books l D cI cL ad zz hJ σ14 τ (xs x10.toNatClampNeg) ((xs x10.toNatClampNeg).toInt) rfl (xs x12.toNatClampNeg) ((xs x12.toNatClampNeg).toInt) rfl I21 I22 I23 I24 I25 p26) cw_RL_100 (jc_55 cI cL ad σ14 τ) rfl ⟨Nat.le_of_ble_eq_true rfl, Nat.le_of_ble_eq_true rfl⟩ rfl rfl rfl hl.1 rfl (Nat.le_of_ble_eq_true rfl) dL_law_832 ⟨Nat.le_of_ble_eq_true rfl, Nat.le_of_ble_eq_true rfl⟩ (fun r28 σ27 τ27 H locs h27 hP hS => ?_)
  obtain ⟨rfl, f29, f30, I31, I32, p33, w34, h27⟩ := h27
  refine lv_pop hx hb dL_law_835 rfl ?_
  refine lv_goto (tgt := 1358) hx hb dL_law_836 (by decide) ?_
  obtain ⟨x36, ex36⟩ : ∃ y : Int32, y = x0 + 6 := ⟨_, rfl⟩
  have tx36 : x36.toInt = x0.toInt + 6 := (jadd ex36 rfl jz_6 (by omega) (by omega)).trans (by omega)
  refine lv_iinc (v := x36) (lv' := [(3, .int x36), (2, .ref (ad 55)), (1, .ref (ad 0)), (0, .ref b)]) hx hb dL_law_1358 hl (k := 0) rfl (by rw [ex36]; rfl) (by decide) rfl (fun ls hl => ?_)
  refine lv_goto (tgt := 18) hx hb dL_law_1361 (by decide) ?_
  have I37 : jI2 σ27 := jI2_fr ((congrFun (f29 2 (by decide)) 0).trans (congrFun (f16 2 (by decide)) 0)) ((congrFun (f29 2 (by decide)) 1).trans (congrFun (f16 2 (by decide)) 1)) ((congrFun (f29 2 (by decide)) 2).trans (congrFun (f16 2 (by decide)) 2)) ((congrFun (f29 2 (by decide)) 3).trans (congrFun (f16 2 (by decide)) 3)) ((f29 6 (by decide)).trans (f16 6 (by decide))) hI2
  have I38 : jI9 σ27 := jI9_fr ((congrFun (f29 9 (by decide)) 0).trans (congrFun (f16 9 (by decide)) 0)) ((f29 10 (by decide)).trans (f16 10 (by decide))) ((f29 11 (by decide)).trans (f16 11 (by decide))) hI9
  have I39 : jI12 σ27 := jI12_fr ((congrFun (f29 12 (by decide)) 0).trans (congrFun (f16 12 (by decide)) 0)) ((f29 13 (by decide)).trans (f16 13 (by decide))) hI12
  have I40 : jI16 σ27 := jI16_fr ((congrFun (f29 16 (by decide)) 0).trans (congrFun (f16 16 (by decide)) 0)) ((congrFun (f29 16 (by decide)) 1).trans (congrFun (f16 16 (by decide)) 1)) ((congrFun (f29 16 (by decide)) 2).trans (congrFun (f16 16 (by decide)) 2)) ((f29 17 (by decide)).trans (f16 17 (by decide))) hI16
  have I41 : jI18 σ27 := jI18_fr ((congrFun (f29 18 (by decide)) 0).trans (congrFun (f16 18 (by decide)) 0)) ((f29 19 (by decide)).trans (f16 19 (by decide))) hI18
  have I42 : jI22 σ27 := jI22_fr ((congrFun (f29 22 (by decide)) 0).trans (congrFun (f16 22 (by decide)) 0)) ((f29 23 (by decide)).trans (f16 23 (by decide))) hI22
  have I43 : jI31 σ27 := jI31_fr ((congrFun (f29 31 (by decide)) 8).trans (congrFun (f16 31 (by decide)) 8)) ((f29 33 (by decide)).trans (f16 33 (by decide))) ((f29 36 (by decide)).trans (f16 36 (by decide))) hI31
  have I44 : jI38 σ27 := jI38_fr ((congrFun (f29 38 (by decide)) 0).trans (congrFun (f16 38 (by decide)) 0)) ((congrFun (f29 38 (by decide)) 1).trans (congrFun (f16 38 (by decide)) 1)) ((f29 39 (by decide)).trans (f16 39 (by decide))) hI38
  have I45 : jI43 σ27 := jI43_fr ((congrFun (f29 43 (by decide)) 8).trans (congrFun (f16 43 (by decide)) 8)) hI43
  have I46 : jI47 σ27 := jI47_fr (congrFun (f29 47 (by decide)) 0) (f29 48 (by decide)) (f29 49 (by decide)) I18
  have I47 : jI50 σ27 := jI50_fr ((f29 52 (by decide)).trans (f16 52 (by decide))) hI50
  have I48 : jI101 σ27 := jI101_fr ((f30 4 (by decide)).trans (congrFun (f16 55 (by decide)) 4)) ((f30 5 (by decide)).trans (congrFun (f16 55 (by decide)) 5)) ((f29 56 (by decide)).trans (f16 56 (by decide))) ((f29 57 (by decide)).trans (f16 57 (by decide))) ((f29 58 (by decide)).trans (f16 58 (by decide))) ((f29 59 (by decide)).trans (f16 59 (by decide))) hI101
  have I49 : jI102 σ27 := jI102_fr (f30 6 (by decide)) (f29 60 (by decide)) (f29 61 (by decide)) I21
  have I50 : jI103 σ27 := jI103_fr ((f30 9 (by decide)).trans (congrFun (f16 55 (by decide)) 9)) hI103
  have I51 : jI104 σ27 := jI104_fr (f30 10 (by decide)) (f30 12 (by decide)) (f30 13 (by decide)) (f29 62 (by decide)) (f29 67 (by decide)) I22
  have I52 : jI105 σ27 := jI105_fr ((f30 15 (by decide)).trans (congrFun (f16 55 (by decide)) 15)) ((f29 65 (by decide)).trans (f16 65 (by decide))) hI105
  have I53 : jI106 σ27 := jI106_fr ((f30 32 (by decide)).trans (congrFun (f16 55 (by decide)) 32)) ((f29 70 (by decide)).trans (f16 70 (by decide))) ((f29 71 (by decide)).trans (f16 71 (by decide))) ((f29 72 (by decide)).trans (f16 72 (by decide))) hI106
  have I54 : jI109 σ27 := jI109_fr ((f30 50 (by decide)).trans (congrFun (f16 55 (by decide)) 50)) hI109
  have I55 : jI110 σ27 := jI110_fr (f29 86 (by decide)) (f29 87 (by decide)) I24
  have I56 : jI111 σ27 := jI111_fr ((f29 79 (by decide)).trans (f16 79 (by decide))) hI111
  have p57 : jKept σ27 := jKept.fr ((f29 75 (by decide)).trans (f16 75 (by decide))) ((f29 76 (by decide)).trans (f16 76 (by decide))) ((f29 77 (by decide)).trans (f16 77 (by decide))) hs_jKept
  have z58 : (σ27 38 0).toInt = (σ 38 0).toInt := (congrArg Int32.toInt (show σ27 38 0 = (σ 38 0) from ((congrFun (f29 38 (by decide)) 0).trans (congrFun (f16 38 (by decide)) 0))))
  have z59 : (σ27 55 32).toInt = (σ 55 32).toInt := (congrArg Int32.toInt (show σ27 55 32 = (σ 55 32) from ((f30 32 (by decide)).trans (congrFun (f16 55 (by decide)) 32))))
  exact ih x36 σ27 τ _ _ ls (by have h9 := tx36; omega) ⟨I37, I38, I39, I40, I41, I42, I43, I44, I45, I46, I47, I48, I49, I50, I51, I52, I53, I31, I54, I55, I56, I32, p57, p33, (by omega), (show jShP (σ27 51) (σ27 52) (σ27 53) (σ27 86) (σ27 87) (σ27 55 32).toInt by rw [show σ27 51 = σ 51 from ((f29 51 (by decide)).trans (f16 51 (by decide))), show σ27 52 = σ 52 from ((f29 52 (by decide)).trans (f16 52 (by decide))), show σ27 53 = σ 53 from ((f29 53 (by decide)).trans (f16 53 (by decide))), show σ27 86 = σ 86 from ((f29 86 (by decide)).trans (f16 86 (by decide))), show σ27 87 = σ 87 from ((f29 87 (by decide)).trans (f16 87 (by decide)))]; exact (hr0.up (by omega) (by omega))), (show jEl (σ27 51) (σ27 52) (τ 54) (τ 88) by rw [show σ27 51 = σ 51 from ((f29 51 (by decide)).trans (f16 51 (by decide))), show σ27 52 = σ 52 from ((f29 52 (by decide)).trans (f16 52 (by decide)))]; exact hr1)⟩ hP hS (lv_sub hl [0, 1, 2, 3] rfl)
set_option maxHeartbeats 4000000 in
set_option maxRecDepth 100000 in
theorem law_case_21 {p : Program} {e : Env} {s : State} {m : MethodId} {below : List Frame} {meth : Method} {c : Code} (l : Launch) {b L : Nat} {xs : Nat → Int32} {D : va_G} {cI cL : ClassId} {ad zz : Nat → Nat} (C0 : lw_At p s m meth c b L xs) (hJ : jD ad) (hA : ∀ q, jA ad q → s.heap.size ≤ q) (hK : jK D cI cL s) (hZ : jZ zz (fun q : Nat => s.heap.size ≤ q) s s.heap) {x0 : Int32} (hx0 : 0 ≤ x0.toInt) (hxL : x0.toInt + 6 ≤ (L : Int)) (hL : L ≤ 384) {σ : Nat → Nat → Int32} {τ : Nat → Nat → Int64} {H : Heap} {locs : List Loc} (hS : va_S (fun q : Nat => s.heap.size ≤ q) s.heap H locs) {ls : Array Slot} (hAll : jAll σ τ) (hP : jH D cI cL ad σ τ H) (hl : lv_has ls 4 [(3, .int x0), (2, .ref (ad 55)), (1, .ref (ad 0)), (0, .ref b)]) (ih : ∀ (x1 : Int32) (σ : Nat → Nat → Int32) (τ : Nat → Nat → Int64) (H : Heap) (locs : List Loc) (ls : Array Slot), x1.toInt = x0.toInt + 6 → jAll σ τ → jH D cI cL ad σ τ H → va_S (fun q : Nat => s.heap.size ≤ q) s.heap H locs → lv_has ls 4 [(3, .int x1), (2, .ref (ad 55)), (1, .ref (ad 0)), (0, .ref b)] → W p l e room_1 s m #[Value.ref b] below meth c H locs 90 348600 (lw_Z below #[Value.ref b] s) (F0 m 18 ls [])) : W p l e room_1 s m #[Value.ref b] below meth c H locs 90 348600 (lw_Z below #[Value.ref b] s) (F0 m 839 ls []) := by
  obtain ⟨hx, hb, hr, hml, hown, hts0, hX, hbl, hlocks, hgv⟩ := C0
  have hts : ∀ w ∈ wsL_law, w.before #[Value.ref b] s = true := fun w h => hts0 w (wsL_law_in w h)
  have hbA : ¬ (fun q : Nat => s.heap.size ≤ q) b := Nat.not_le.mpr hbl
  have hown : s.vm.findClass RL = some m.cls := hown
  obtain ⟨hI2, hI9, hI12, hI16, hI18, hI22, hI31, hI38, hI43, hI47, hI50, hI101, hI102, hI103, hI104, hI105, hI106, hI107, hI109, hI110, hI111, hI119, hs_jKept, hs_jBook, ht0, hr0, hr1⟩ := hAll
  have hL9 : (L : Int) ≤ 384 := by omega
  obtain ⟨i1, i2, w3⟩ : (0 ≤ (σ 38 0).toInt ∧ (σ 38 0).toInt ≤ 20) ∧ (0 ≤ (σ 38 1).toInt ∧ (σ 38 1).toInt ≤ 1000) ∧ (∀ k : Nat, k < 20 → 0 ≤ (σ 39 k).toInt ∧ (σ 39 k).toInt ≤ 6) := id hI38
  have w4 : ∀ k : Nat, k < 6 → 0 ≤ (σ 52 k).toInt ∧ (σ 52 k).toInt ≤ 60 := hI50
  obtain ⟨i5, w6, w7, w8⟩ : (0 ≤ (σ 55 32).toInt ∧ (σ 55 32).toInt ≤ 20) ∧ (∀ k : Nat, k < 20 → 0 ≤ (σ 70 k).toInt ∧ (σ 70 k).toInt ≤ 6) ∧ (∀ k : Nat, k < 20 → 0 ≤ (σ 71 k).toInt ∧ (σ 71 k).toInt ≤ 8) ∧ (∀ k : Nat, k < 160 → 0 ≤ (σ 72 k).toInt ∧ (σ 72 k).toInt ≤ 3) := id hI106
  refine lv_aload_n hx hb dL_law_839 rfl (lv_at hl 2 rfl) ?_
  refine jcallV (As := []) (rest := []) ⟨hx, hb, hml, hown, hts⟩ hK hP hA hS hZ (c_X11_close l D cI cL ad zz hJ σ τ hI47) cw_RL_101 (jc_0 cI cL ad σ τ) rfl ⟨Nat.le_of_ble_eq_true rfl, Nat.le_of_ble_eq_true rfl⟩ rfl rfl rfl hl.1 rfl (Nat.le_of_ble_eq_true rfl) dL_law_840 ⟨Nat.le_of_ble_eq_true rfl, Nat.le_of_ble_eq_true rfl⟩ (fun r10 σ9 τ9 H locs h9 hP hS => ?_)
  obtain ⟨rfl, f11, f12, I13, h9⟩ := h9
  have h15 := h9
  obtain ⟨q18, k16, k17⟩ := h15
  refine lv_pop hx hb dL_law_843 rfl ?_
  refine lv_aload_n hx hb dL_law_844 rfl (lv_at hl 1 rfl) ?_
  have I19 : jI104 σ9 := jI104_fr (congrFun (f11 55 (by decide)) 10) (congrFun (f11 55 (by decide)) 12) (congrFun (f11 55 (by decide)) 13) (f11 62 (by decide)) (f11 67 (by decide)) hI104
  have I20 : jI107 σ9 := jI107_fr (congrFun (f11 55 (by decide)) 12) (congrFun (f11 55 (by decide)) 47) (f11 80 (by decide)) hI107
  have p21 : jBook σ9 := jBook.fr (congrFun (f11 55 (by decide)) 47) (congrFun (f11 55 (by decide)) 10) (f11 81 (by decide)) hs_jBook
  have z22 : (σ9 55 47).toInt = (σ 55 47).toInt := (congrArg Int32.toInt (show σ9 55 47 = (σ 55 47) from (congrFun (f11 55 (by decide)) 47)))
  refine jcallV (As := []) (rest := []) ⟨hx, hb, hml, hown, hts⟩ hK hP hA hS hZ (c_X12_close l D cI cL ad zz hJ σ9 τ I19 I20 p21) cw_RL_104 (jc_55 cI cL ad σ9 τ) rfl ⟨Nat.le_of_ble_eq_true rfl, Nat.le_of_ble_eq_true rfl⟩ rfl rfl rfl hl.1 rfl (Nat.le_of_ble_eq_true rfl) dL_law_845 ⟨Nat.le_of_ble_eq_true rfl, Nat.le_of_ble_eq_true rfl⟩ (fun r24 σ23 τ23 H locs h23 hP hS => ?_)
  obtain ⟨rfl, f25, f26, I27, p28, h23⟩ := h23
  have h30 := h23
  obtain ⟨q33, k31, k32⟩ := h30
  refine lv_pop hx hb dL_law_848 rfl ?_
  refine lv_goto (tgt := 1358) hx hb dL_law_849 (by decide) ?_
  obtain ⟨x34, ex34⟩ : ∃ y : Int32, y = x0 + 6 := ⟨_, rfl⟩
  have tx34 : x34.toInt = x0.toInt + 6 := (jadd ex34 rfl jz_6 (by omega) (by omega)).trans (by omega)
  refine lv_iinc (v := x34) (lv' := [(3, .int x34), (2, .ref (ad 55)), (1, .ref (ad 0)), (0, .ref b)]) hx hb dL_law_1358 hl (k := 0) rfl (by rw [ex34]; rfl) (by decide) rfl (fun ls hl => ?_)
  refine lv_goto (tgt := 18) hx hb dL_law_1361 (by decide) ?_
  have I35 : jI2 σ23 := jI2_fr ((congrFun (f25 2 (by decide)) 0).trans (congrFun (f11 2 (by decide)) 0)) ((congrFun (f25 2 (by decide)) 1).trans (congrFun (f11 2 (by decide)) 1)) ((congrFun (f25 2 (by decide)) 2).trans (congrFun (f11 2 (by decide)) 2)) ((congrFun (f25 2 (by decide)) 3).trans (congrFun (f11 2 (by decide)) 3)) ((f25 6 (by decide)).trans (f11 6 (by decide))) hI2
  have I36 : jI9 σ23 := jI9_fr ((congrFun (f25 9 (by decide)) 0).trans (congrFun (f11 9 (by decide)) 0)) ((f25 10 (by decide)).trans (f11 10 (by decide))) ((f25 11 (by decide)).trans (f11 11 (by decide))) hI9
  have I37 : jI12 σ23 := jI12_fr ((congrFun (f25 12 (by decide)) 0).trans (congrFun (f11 12 (by decide)) 0)) ((f25 13 (by decide)).trans (f11 13 (by decide))) hI12
  have I38 : jI16 σ23 := jI16_fr ((congrFun (f25 16 (by decide)) 0).trans (congrFun (f11 16 (by decide)) 0)) ((congrFun (f25 16 (by decide)) 1).trans (congrFun (f11 16 (by decide)) 1)) ((congrFun (f25 16 (by decide)) 2).trans (congrFun (f11 16 (by decide)) 2)) ((f25 17 (by decide)).trans (f11 17 (by decide))) hI16
  have I39 : jI18 σ23 := jI18_fr ((congrFun (f25 18 (by decide)) 0).trans (congrFun (f11 18 (by decide)) 0)) ((f25 19 (by decide)).trans (f11 19 (by decide))) hI18
  have I40 : jI22 σ23 := jI22_fr ((congrFun (f25 22 (by decide)) 0).trans (congrFun (f11 22 (by decide)) 0)) ((f25 23 (by decide)).trans (f11 23 (by decide))) hI22
  have I41 : jI31 σ23 := jI31_fr ((congrFun (f25 31 (by decide)) 8).trans (congrFun (f11 31 (by decide)) 8)) ((f25 33 (by decide)).trans (f11 33 (by decide))) ((f25 36 (by decide)).trans (f11 36 (by decide))) hI31
  have I42 : jI38 σ23 := jI38_fr ((congrFun (f25 38 (by decide)) 0).trans (congrFun (f11 38 (by decide)) 0)) ((congrFun (f25 38 (by decide)) 1).trans (congrFun (f11 38 (by decide)) 1)) ((f25 39 (by decide)).trans (f11 39 (by decide))) hI38
  have I43 : jI43 σ23 := jI43_fr ((congrFun (f25 43 (by decide)) 8).trans (congrFun (f11 43 (by decide)) 8)) hI43
  have I44 : jI47 σ23 := jI47_fr (congrFun (f25 47 (by decide)) 0) (f25 48 (by decide)) (f25 49 (by decide)) I13
  have I45 : jI50 σ23 := jI50_fr ((f25 52 (by decide)).trans (f11 52 (by decide))) hI50
  have I46 : jI101 σ23 := jI101_fr ((f26 4 (by decide)).trans (congrFun (f11 55 (by decide)) 4)) ((f26 5 (by decide)).trans (congrFun (f11 55 (by decide)) 5)) ((f25 56 (by decide)).trans (f11 56 (by decide))) ((f25 57 (by decide)).trans (f11 57 (by decide))) ((f25 58 (by decide)).trans (f11 58 (by decide))) ((f25 59 (by decide)).trans (f11 59 (by decide))) hI101
  have I47 : jI102 σ23 := jI102_fr ((f26 6 (by decide)).trans (congrFun (f11 55 (by decide)) 6)) ((f25 60 (by decide)).trans (f11 60 (by decide))) ((f25 61 (by decide)).trans (f11 61 (by decide))) hI102
  have I48 : jI103 σ23 := jI103_fr ((f26 9 (by decide)).trans (congrFun (f11 55 (by decide)) 9)) hI103
  have I49 : jI104 σ23 := jI104_fr (f26 10 (by decide)) (f26 12 (by decide)) (f26 13 (by decide)) (f25 62 (by decide)) (f25 67 (by decide)) I19
  have I50 : jI105 σ23 := jI105_fr ((f26 15 (by decide)).trans (congrFun (f11 55 (by decide)) 15)) ((f25 65 (by decide)).trans (f11 65 (by decide))) hI105
  have I51 : jI106 σ23 := jI106_fr ((f26 32 (by decide)).trans (congrFun (f11 55 (by decide)) 32)) ((f25 70 (by decide)).trans (f11 70 (by decide))) ((f25 71 (by decide)).trans (f11 71 (by decide))) ((f25 72 (by decide)).trans (f11 72 (by decide))) hI106
  have I52 : jI109 σ23 := jI109_fr ((f26 50 (by decide)).trans (congrFun (f11 55 (by decide)) 50)) hI109
  have I53 : jI110 σ23 := jI110_fr ((f25 86 (by decide)).trans (f11 86 (by decide))) ((f25 87 (by decide)).trans (f11 87 (by decide))) hI110
  have I54 : jI111 σ23 := jI111_fr ((f25 79 (by decide)).trans (f11 79 (by decide))) hI111
  have I55 : jI119 σ23 := jI119_fr ((f25 68 (by decide)).trans (f11 68 (by decide))) hI119
  have p56 : jKept σ23 := jKept.fr ((f25 75 (by decide)).trans (f11 75 (by decide))) ((f25 76 (by decide)).trans (f11 76 (by decide))) ((f25 77 (by decide)).trans (f11 77 (by decide))) hs_jKept
  have z57 : (σ23 38 0).toInt = (σ 38 0).toInt := (congrArg Int32.toInt (show σ23 38 0 = (σ 38 0) from ((congrFun (f25 38 (by decide)) 0).trans (congrFun (f11 38 (by decide)) 0))))
  have z58 : (σ23 55 32).toInt = (σ 55 32).toInt := (congrArg Int32.toInt (show σ23 55 32 = (σ 55 32) from ((f26 32 (by decide)).trans (congrFun (f11 55 (by decide)) 32))))
  exact ih x34 σ23 τ _ _ ls (by have h9 := tx34; omega) ⟨I35, I36, I37, I38, I39, I40, I41, I42, I43, I44, I45, I46, I47, I48, I49, I50, I51, I27, I52, I53, I54, I55, p56, p28, (by omega), (show jShP (σ23 51) (σ23 52) (σ23 53) (σ23 86) (σ23 87) (σ23 55 32).toInt by rw [show σ23 51 = σ 51 from ((f25 51 (by decide)).trans (f11 51 (by decide))), show σ23 52 = σ 52 from ((f25 52 (by decide)).trans (f11 52 (by decide))), show σ23 53 = σ 53 from ((f25 53 (by decide)).trans (f11 53 (by decide))), show σ23 86 = σ 86 from ((f25 86 (by decide)).trans (f11 86 (by decide))), show σ23 87 = σ 87 from ((f25 87 (by decide)).trans (f11 87 (by decide)))]; exact (hr0.up (by omega) (by omega))), (show jEl (σ23 51) (σ23 52) (τ 54) (τ 88) by rw [show σ23 51 = σ 51 from ((f25 51 (by decide)).trans (f11 51 (by decide))), show σ23 52 = σ 52 from ((f25 52 (by decide)).trans (f11 52 (by decide)))]; exact hr1)⟩ hP hS (lv_sub hl [0, 1, 2, 3] rfl)
set_option maxHeartbeats 4000000 in
set_option maxRecDepth 100000 in
theorem law_case_22 {p : Program} {e : Env} {s : State} {m : MethodId} {below : List Frame} {meth : Method} {c : Code} (l : Launch) {b L : Nat} {xs : Nat → Int32} {D : va_G} {cI cL : ClassId} {ad zz : Nat → Nat} (C0 : lw_At p s m meth c b L xs) (hJ : jD ad) (hA : ∀ q, jA ad q → s.heap.size ≤ q) (hK : jK D cI cL s) (hZ : jZ zz (fun q : Nat => s.heap.size ≤ q) s s.heap) {x0 : Int32} (hx0 : 0 ≤ x0.toInt) (hxL : x0.toInt + 6 ≤ (L : Int)) (hL : L ≤ 384) {σ : Nat → Nat → Int32} {τ : Nat → Nat → Int64} {H : Heap} {locs : List Loc} (hS : va_S (fun q : Nat => s.heap.size ≤ q) s.heap H locs) {ls : Array Slot} (hAll : jAll σ τ) (hP : jH D cI cL ad σ τ H) (hl : lv_has ls 4 [(3, .int x0), (2, .ref (ad 55)), (1, .ref (ad 0)), (0, .ref b)]) (ih : ∀ (x1 : Int32) (σ : Nat → Nat → Int32) (τ : Nat → Nat → Int64) (H : Heap) (locs : List Loc) (ls : Array Slot), x1.toInt = x0.toInt + 6 → jAll σ τ → jH D cI cL ad σ τ H → va_S (fun q : Nat => s.heap.size ≤ q) s.heap H locs → lv_has ls 4 [(3, .int x1), (2, .ref (ad 55)), (1, .ref (ad 0)), (0, .ref b)] → W p l e room_1 s m #[Value.ref b] below meth c H locs 90 348600 (lw_Z below #[Value.ref b] s) (F0 m 18 ls [])) : W p l e room_1 s m #[Value.ref b] below meth c H locs 90 348600 (lw_Z below #[Value.ref b] s) (F0 m 852 ls []) := by
  obtain ⟨hx, hb, hr, hml, hown, hts0, hX, hbl, hlocks, hgv⟩ := C0
  have hts : ∀ w ∈ wsL_law, w.before #[Value.ref b] s = true := fun w h => hts0 w (wsL_law_in w h)
  have hbA : ¬ (fun q : Nat => s.heap.size ≤ q) b := Nat.not_le.mpr hbl
  have hown : s.vm.findClass RL = some m.cls := hown
  obtain ⟨hI2, hI9, hI12, hI16, hI18, hI22, hI31, hI38, hI43, hI47, hI50, hI101, hI102, hI103, hI104, hI105, hI106, hI107, hI109, hI110, hI111, hI119, hs_jKept, hs_jBook, ht0, hr0, hr1⟩ := hAll
  have hL9 : (L : Int) ≤ 384 := by omega
  obtain ⟨i1, i2, w3⟩ : (0 ≤ (σ 38 0).toInt ∧ (σ 38 0).toInt ≤ 20) ∧ (0 ≤ (σ 38 1).toInt ∧ (σ 38 1).toInt ≤ 1000) ∧ (∀ k : Nat, k < 20 → 0 ≤ (σ 39 k).toInt ∧ (σ 39 k).toInt ≤ 6) := id hI38
  have w4 : ∀ k : Nat, k < 6 → 0 ≤ (σ 52 k).toInt ∧ (σ 52 k).toInt ≤ 60 := hI50
  obtain ⟨i5, w6, w7, w8⟩ : (0 ≤ (σ 55 32).toInt ∧ (σ 55 32).toInt ≤ 20) ∧ (∀ k : Nat, k < 20 → 0 ≤ (σ 70 k).toInt ∧ (σ 70 k).toInt ≤ 6) ∧ (∀ k : Nat, k < 20 → 0 ≤ (σ 71 k).toInt ∧ (σ 71 k).toInt ≤ 8) ∧ (∀ k : Nat, k < 160 → 0 ≤ (σ 72 k).toInt ∧ (σ 72 k).toInt ≤ 3) := id hI106
  refine lv_aload_n hx hb dL_law_852 rfl (lv_at hl 2 rfl) ?_
  refine lv_aload_n hx hb dL_law_853 rfl (lv_at hl 3 rfl) ?_
  refine lv_iload_n hx hb dL_law_854 rfl (lv_at hl 0 rfl) ?_
  refine lv_iconst (v := 1) hx hb dL_law_855 (by decide) ?_
  have g9 := jrg (rfl : x0.toInt = x0.toInt)
  refine lv_iadd hx hb dL_law_856 ?_
  refine lv_topi (fun x10 ex10 => ?_)
  have tx10 : x10.toInt = x0.toInt + 1 := (jadd ex10 rfl jz_1 (by omega) (by omega)).trans (by omega)
  refine va_sld hx hb hX hbl hbA hS (jin tx10 (by omega) (by omega)) dL_law_857 ?_
  have g11 := jrg (rfl : (xs x10.toNatClampNeg).toInt = (xs x10.toNatClampNeg).toInt)
  refine jcallV (As := [.int (xs x10.toNatClampNeg)]) (rest := []) ⟨hx, hb, hml, hown, hts⟩ hK hP hA hS hZ (c_X11_cost l D cI cL ad zz hJ σ τ (xs x10.toNatClampNeg) ((xs x10.toNatClampNeg).toInt) rfl hI2 hI16 hI22 hI31 hI47) cw_RL_105 (jc_0 cI cL ad σ τ) rfl ⟨Nat.le_of_ble_eq_true rfl, Nat.le_of_ble_eq_true rfl⟩ rfl rfl rfl hl.1 rfl (Nat.le_of_ble_eq_true rfl) dL_law_858 ⟨Nat.le_of_ble_eq_true rfl, Nat.le_of_ble_eq_true rfl⟩ (fun r13 σ12 τ12 H locs h12 hP hS => ?_)
  obtain ⟨rfl, f14, f15, I16, h12⟩ := h12
  refine lv_pop hx hb dL_law_861 rfl ?_
  refine lv_aload_n hx hb dL_law_862 rfl (lv_at hl 1 rfl) ?_
  refine lv_aload_n hx hb dL_law_863 rfl (lv_at hl 3 rfl) ?_
  refine lv_iload_n hx hb dL_law_864 rfl (lv_at hl 0 rfl) ?_
  refine lv_iconst (v := 1) hx hb dL_law_865 (by decide) ?_
  refine lv_iadd hx hb dL_law_866 ?_
  refine jtopr ex10.symm ?_
  refine va_sld hx hb hX hbl hbA hS (jin tx10 (by omega) (by omega)) dL_law_867 ?_
  have I18 : jI101 σ12 := jI101_fr (congrFun (f14 55 (by decide)) 4) (congrFun (f14 55 (by decide)) 5) (f14 56 (by decide)) (f14 57 (by decide)) (f14 58 (by decide)) (f14 59 (by decide)) hI101
  have I19 : jI102 σ12 := jI102_fr (congrFun (f14 55 (by decide)) 6) (f14 60 (by decide)) (f14 61 (by decide)) hI102
  have I20 : jI103 σ12 := jI103_fr (congrFun (f14 55 (by decide)) 9) hI103
  have I21 : jI104 σ12 := jI104_fr (congrFun (f14 55 (by decide)) 10) (congrFun (f14 55 (by decide)) 12) (congrFun (f14 55 (by decide)) 13) (f14 62 (by decide)) (f14 67 (by decide)) hI104
  have I22 : jI105 σ12 := jI105_fr (congrFun (f14 55 (by decide)) 15) (f14 65 (by decide)) hI105
  have I23 : jI106 σ12 := jI106_fr (congrFun (f14 55 (by decide)) 32) (f14 70 (by decide)) (f14 71 (by decide)) (f14 72 (by decide)) hI106
  have I24 : jI107 σ12 := jI107_fr (congrFun (f14 55 (by decide)) 12) (congrFun (f14 55 (by decide)) 47) (f14 80 (by decide)) hI107
  have I25 : jI119 σ12 := jI119_fr (f14 68 (by decide)) hI119
  have p26 : jKept σ12 := jKept.fr (f14 75 (by decide)) (f14 76 (by decide)) (f14 77 (by decide)) hs_jKept
  have p27 : jBook σ12 := jBook.fr (congrFun (f14 55 (by decide)) 47) (congrFun (f14 55 (by decide)) 10) (f14 81 (by decide)) hs_jBook
  refine jcallV (As := [.int (xs x10.toNatClampNeg)]) (rest := []) ⟨hx, hb, hml, hown, hts⟩ hK hP hA hS hZ (c_X12_cost l D cI cL ad zz hJ σ12 τ (xs x10.toNatClampNeg) ((xs x10.toNatClampNeg).toInt) rfl I18 I19 I20 I21 I22 I23 I24 I25 p26 p27) cw_RL_108 (jc_55 cI cL ad σ12 τ) rfl ⟨Nat.le_of_ble_eq_true rfl, Nat.le_of_ble_eq_true rfl⟩ rfl rfl rfl hl.1 rfl (Nat.le_of_ble_eq_true rfl) dL_law_868 ⟨Nat.le_of_ble_eq_true rfl, Nat.le_of_ble_eq_true rfl⟩ (fun r29 σ28 τ28 H locs h28 hP hS => ?_)
  obtain ⟨rfl, f30, f31, I32, p33, p34, h28⟩ := h28
  refine lv_pop hx hb dL_law_871 rfl ?_
  refine lv_goto (tgt := 1358) hx hb dL_law_872 (by decide) ?_
  obtain ⟨x36, ex36⟩ : ∃ y : Int32, y = x0 + 6 := ⟨_, rfl⟩
  have tx36 : x36.toInt = x0.toInt + 6 := (jadd ex36 rfl jz_6 (by omega) (by omega)).trans (by omega)
  refine lv_iinc (v := x36) (lv' := [(3, .int x36), (2, .ref (ad 55)), (1, .ref (ad 0)), (0, .ref b)]) hx hb dL_law_1358 hl (k := 0) rfl (by rw [ex36]; rfl) (by decide) rfl (fun ls hl => ?_)
  refine lv_goto (tgt := 18) hx hb dL_law_1361 (by decide) ?_
  have I37 : jI2 σ28 := jI2_fr ((congrFun (f30 2 (by decide)) 0).trans (congrFun (f14 2 (by decide)) 0)) ((congrFun (f30 2 (by decide)) 1).trans (congrFun (f14 2 (by decide)) 1)) ((congrFun (f30 2 (by decide)) 2).trans (congrFun (f14 2 (by decide)) 2)) ((congrFun (f30 2 (by decide)) 3).trans (congrFun (f14 2 (by decide)) 3)) ((f30 6 (by decide)).trans (f14 6 (by decide))) hI2
  have I38 : jI9 σ28 := jI9_fr ((congrFun (f30 9 (by decide)) 0).trans (congrFun (f14 9 (by decide)) 0)) ((f30 10 (by decide)).trans (f14 10 (by decide))) ((f30 11 (by decide)).trans (f14 11 (by decide))) hI9
  have I39 : jI12 σ28 := jI12_fr ((congrFun (f30 12 (by decide)) 0).trans (congrFun (f14 12 (by decide)) 0)) ((f30 13 (by decide)).trans (f14 13 (by decide))) hI12
  have I40 : jI16 σ28 := jI16_fr ((congrFun (f30 16 (by decide)) 0).trans (congrFun (f14 16 (by decide)) 0)) ((congrFun (f30 16 (by decide)) 1).trans (congrFun (f14 16 (by decide)) 1)) ((congrFun (f30 16 (by decide)) 2).trans (congrFun (f14 16 (by decide)) 2)) ((f30 17 (by decide)).trans (f14 17 (by decide))) hI16
  have I41 : jI18 σ28 := jI18_fr ((congrFun (f30 18 (by decide)) 0).trans (congrFun (f14 18 (by decide)) 0)) ((f30 19 (by decide)).trans (f14 19 (by decide))) hI18
  have I42 : jI22 σ28 := jI22_fr ((congrFun (f30 22 (by decide)) 0).trans (congrFun (f14 22 (by decide)) 0)) ((f30 23 (by decide)).trans (f14 23 (by decide))) hI22
  have I43 : jI31 σ28 := jI31_fr (congrFun (f30 31 (by decide)) 8) (f30 33 (by decide)) (f30 36 (by decide)) I16
  have I44 : jI38 σ28 := jI38_fr ((congrFun (f30 38 (by decide)) 0).trans (congrFun (f14 38 (by decide)) 0)) ((congrFun (f30 38 (by decide)) 1).trans (congrFun (f14 38 (by decide)) 1)) ((f30 39 (by decide)).trans (f14 39 (by decide))) hI38
  have I45 : jI43 σ28 := jI43_fr ((congrFun (f30 43 (by decide)) 8).trans (congrFun (f14 43 (by decide)) 8)) hI43
  have I46 : jI47 σ28 := jI47_fr ((congrFun (f30 47 (by decide)) 0).trans (congrFun (f14 47 (by decide)) 0)) ((f30 48 (by decide)).trans (f14 48 (by decide))) ((f30 49 (by decide)).trans (f14 49 (by decide))) hI47
  have I47 : jI50 σ28 := jI50_fr ((f30 52 (by decide)).trans (f14 52 (by decide))) hI50
  have I48 : jI101 σ28 := jI101_fr (f31 4 (by decide)) (f31 5 (by decide)) (f30 56 (by decide)) (f30 57 (by decide)) (f30 58 (by decide)) (f30 59 (by decide)) I18
  have I49 : jI102 σ28 := jI102_fr (f31 6 (by decide)) (f30 60 (by decide)) (f30 61 (by decide)) I19
  have I50 : jI103 σ28 := jI103_fr (f31 9 (by decide)) I20
  have I51 : jI104 σ28 := jI104_fr (f31 10 (by decide)) (f31 12 (by decide)) (f31 13 (by decide)) (f30 62 (by decide)) (f30 67 (by decide)) I21
  have I52 : jI105 σ28 := jI105_fr (f31 15 (by decide)) (f30 65 (by decide)) I22
  have I53 : jI106 σ28 := jI106_fr (f31 32 (by decide)) (f30 70 (by decide)) (f30 71 (by decide)) (f30 72 (by decide)) I23
  have I54 : jI107 σ28 := jI107_fr (f31 12 (by decide)) (f31 47 (by decide)) (f30 80 (by decide)) I24
  have I55 : jI109 σ28 := jI109_fr ((f31 50 (by decide)).trans (congrFun (f14 55 (by decide)) 50)) hI109
  have I56 : jI110 σ28 := jI110_fr ((f30 86 (by decide)).trans (f14 86 (by decide))) ((f30 87 (by decide)).trans (f14 87 (by decide))) hI110
  have I57 : jI111 σ28 := jI111_fr ((f30 79 (by decide)).trans (f14 79 (by decide))) hI111
  have z58 : (σ28 38 0).toInt = (σ 38 0).toInt := (congrArg Int32.toInt (show σ28 38 0 = (σ 38 0) from ((congrFun (f30 38 (by decide)) 0).trans (congrFun (f14 38 (by decide)) 0))))
  have z59 : (σ28 55 32).toInt = (σ 55 32).toInt := (congrArg Int32.toInt (show σ28 55 32 = (σ 55 32) from ((f31 32 (by decide)).trans (congrFun (f14 55 (by decide)) 32))))
  exact ih x36 σ28 τ _ _ ls (by have h9 := tx36; omega) ⟨I37, I38, I39, I40, I41, I42, I43, I44, I45, I46, I47, I48, I49, I50, I51, I52, I53, I54, I55, I56, I57, I32, p33, p34, (by omega), (show jShP (σ28 51) (σ28 52) (σ28 53) (σ28 86) (σ28 87) (σ28 55 32).toInt by rw [show σ28 51 = σ 51 from ((f30 51 (by decide)).trans (f14 51 (by decide))), show σ28 52 = σ 52 from ((f30 52 (by decide)).trans (f14 52 (by decide))), show σ28 53 = σ 53 from ((f30 53 (by decide)).trans (f14 53 (by decide))), show σ28 86 = σ 86 from ((f30 86 (by decide)).trans (f14 86 (by decide))), show σ28 87 = σ 87 from ((f30 87 (by decide)).trans (f14 87 (by decide)))]; exact (hr0.up (by omega) (by omega))), (show jEl (σ28 51) (σ28 52) (τ 54) (τ 88) by rw [show σ28 51 = σ 51 from ((f30 51 (by decide)).trans (f14 51 (by decide))), show σ28 52 = σ 52 from ((f30 52 (by decide)).trans (f14 52 (by decide)))]; exact hr1)⟩ hP hS (lv_sub hl [0, 1, 2, 3] rfl)
set_option maxHeartbeats 4000000 in
set_option maxRecDepth 100000 in
theorem law_case_23 {p : Program} {e : Env} {s : State} {m : MethodId} {below : List Frame} {meth : Method} {c : Code} (l : Launch) {b L : Nat} {xs : Nat → Int32} {D : va_G} {cI cL : ClassId} {ad zz : Nat → Nat} (C0 : lw_At p s m meth c b L xs) (hJ : jD ad) (hA : ∀ q, jA ad q → s.heap.size ≤ q) (hK : jK D cI cL s) (hZ : jZ zz (fun q : Nat => s.heap.size ≤ q) s s.heap) {x0 : Int32} (hx0 : 0 ≤ x0.toInt) (hxL : x0.toInt + 6 ≤ (L : Int)) (hL : L ≤ 384) {σ : Nat → Nat → Int32} {τ : Nat → Nat → Int64} {H : Heap} {locs : List Loc} (hS : va_S (fun q : Nat => s.heap.size ≤ q) s.heap H locs) {ls : Array Slot} (hAll : jAll σ τ) (hP : jH D cI cL ad σ τ H) (hl : lv_has ls 4 [(3, .int x0), (2, .ref (ad 55)), (1, .ref (ad 0)), (0, .ref b)]) (ih : ∀ (x1 : Int32) (σ : Nat → Nat → Int32) (τ : Nat → Nat → Int64) (H : Heap) (locs : List Loc) (ls : Array Slot), x1.toInt = x0.toInt + 6 → jAll σ τ → jH D cI cL ad σ τ H → va_S (fun q : Nat => s.heap.size ≤ q) s.heap H locs → lv_has ls 4 [(3, .int x1), (2, .ref (ad 55)), (1, .ref (ad 0)), (0, .ref b)] → W p l e room_1 s m #[Value.ref b] below meth c H locs 90 348600 (lw_Z below #[Value.ref b] s) (F0 m 18 ls [])) : W p l e room_1 s m #[Value.ref b] below meth c H locs 90 348600 (lw_Z below #[Value.ref b] s) (F0 m 875 ls []) := by
  obtain ⟨hx, hb, hr, hml, hown, hts0, hX, hbl, hlocks, hgv⟩ := C0
  have hts : ∀ w ∈ wsL_law, w.before #[Value.ref b] s = true := fun w h => hts0 w (wsL_law_in w h)
  have hbA : ¬ (fun q : Nat => s.heap.size ≤ q) b := Nat.not_le.mpr hbl
  have hown : s.vm.findClass RL = some m.cls := hown
  obtain ⟨hI2, hI9, hI12, hI16, hI18, hI22, hI31, hI38, hI43, hI47, hI50, hI101, hI102, hI103, hI104, hI105, hI106, hI107, hI109, hI110, hI111, hI119, hs_jKept, hs_jBook, ht0, hr0, hr1⟩ := hAll
  have hL9 : (L : Int) ≤ 384 := by omega
  obtain ⟨i1, i2, w3⟩ : (0 ≤ (σ 38 0).toInt ∧ (σ 38 0).toInt ≤ 20) ∧ (0 ≤ (σ 38 1).toInt ∧ (σ 38 1).toInt ≤ 1000) ∧ (∀ k : Nat, k < 20 → 0 ≤ (σ 39 k).toInt ∧ (σ 39 k).toInt ≤ 6) := id hI38
  have w4 : ∀ k : Nat, k < 6 → 0 ≤ (σ 52 k).toInt ∧ (σ 52 k).toInt ≤ 60 := hI50
  obtain ⟨i5, w6, w7, w8⟩ : (0 ≤ (σ 55 32).toInt ∧ (σ 55 32).toInt ≤ 20) ∧ (∀ k : Nat, k < 20 → 0 ≤ (σ 70 k).toInt ∧ (σ 70 k).toInt ≤ 6) ∧ (∀ k : Nat, k < 20 → 0 ≤ (σ 71 k).toInt ∧ (σ 71 k).toInt ≤ 8) ∧ (∀ k : Nat, k < 160 → 0 ≤ (σ 72 k).toInt ∧ (σ 72 k).toInt ≤ 3) := id hI106
  refine lv_aload_n hx hb dL_law_875 rfl (lv_at hl 2 rfl) ?_
  refine lv_aload_n hx hb dL_law_876 rfl (lv_at hl 3 rfl) ?_
  refine lv_iload_n hx hb dL_law_877 rfl (lv_at hl 0 rfl) ?_
  refine lv_iconst (v := 1) hx hb dL_law_878 (by decide) ?_
  have g9 := jrg (rfl : x0.toInt = x0.toInt)
  refine lv_iadd hx hb dL_law_879 ?_
  refine lv_topi (fun x10 ex10 => ?_)
  have tx10 : x10.toInt = x0.toInt + 1 := (jadd ex10 rfl jz_1 (by omega) (by omega)).trans (by omega)
  refine va_sld hx hb hX hbl hbA hS (jin tx10 (by omega) (by omega)) dL_law_880 ?_
  have g11 := jrg (rfl : (xs x10.toNatClampNeg).toInt = (xs x10.toNatClampNeg).toInt)
  refine jcallV (As := [.int (xs x10.toNatClampNeg)]) (rest := []) ⟨hx, hb, hml, hown, hts⟩ hK hP hA hS hZ (c_X11_lost l D cI cL ad zz hJ σ τ (xs x10.toNatClampNeg) ((xs x10.toNatClampNeg).toInt) rfl hI2 hI16 hI22 hI31 hI47) cw_RL_109 (jc_0 cI cL ad σ τ) rfl ⟨Nat.le_of_ble_eq_true rfl, Nat.le_of_ble_eq_true rfl⟩ rfl rfl rfl hl.1 rfl (Nat.le_of_ble_eq_true rfl) dL_law_881 ⟨Nat.le_of_ble_eq_true rfl, Nat.le_of_ble_eq_true rfl⟩ (fun r13 σ12 τ12 H locs h12 hP hS => ?_)
  obtain ⟨rfl, f14, f15, I16, h12⟩ := h12
  refine lv_pop hx hb dL_law_884 rfl ?_
  refine lv_aload_n hx hb dL_law_885 rfl (lv_at hl 1 rfl) ?_
  refine lv_aload_n hx hb dL_law_886 rfl (lv_at hl 3 rfl) ?_
  refine lv_iload_n hx hb dL_law_887 rfl (lv_at hl 0 rfl) ?_
  refine lv_iconst (v := 1) hx hb dL_law_888 (by decide) ?_
  refine lv_iadd hx hb dL_law_889 ?_
  refine jtopr ex10.symm ?_
  refine va_sld hx hb hX hbl hbA hS (jin tx10 (by omega) (by omega)) dL_law_890 ?_
  have I18 : jI101 σ12 := jI101_fr (congrFun (f14 55 (by decide)) 4) (congrFun (f14 55 (by decide)) 5) (f14 56 (by decide)) (f14 57 (by decide)) (f14 58 (by decide)) (f14 59 (by decide)) hI101
  have I19 : jI102 σ12 := jI102_fr (congrFun (f14 55 (by decide)) 6) (f14 60 (by decide)) (f14 61 (by decide)) hI102
  have I20 : jI103 σ12 := jI103_fr (congrFun (f14 55 (by decide)) 9) hI103
  have I21 : jI104 σ12 := jI104_fr (congrFun (f14 55 (by decide)) 10) (congrFun (f14 55 (by decide)) 12) (congrFun (f14 55 (by decide)) 13) (f14 62 (by decide)) (f14 67 (by decide)) hI104
  have I22 : jI105 σ12 := jI105_fr (congrFun (f14 55 (by decide)) 15) (f14 65 (by decide)) hI105
  have I23 : jI106 σ12 := jI106_fr (congrFun (f14 55 (by decide)) 32) (f14 70 (by decide)) (f14 71 (by decide)) (f14 72 (by decide)) hI106
  have I24 : jI107 σ12 := jI107_fr (congrFun (f14 55 (by decide)) 12) (congrFun (f14 55 (by decide)) 47) (f14 80 (by decide)) hI107
  have I25 : jI119 σ12 := jI119_fr (f14 68 (by decide)) hI119
  have p26 : jKept σ12 := jKept.fr (f14 75 (by decide)) (f14 76 (by decide)) (f14 77 (by decide)) hs_jKept
  have p27 : jBook σ12 := jBook.fr (congrFun (f14 55 (by decide)) 47) (congrFun (f14 55 (by decide)) 10) (f14 81 (by decide)) hs_jBook
  refine jcallV (As := [.int (xs x10.toNatClampNeg)]) (rest := []) ⟨hx, hb, hml, hown, hts⟩ hK hP hA hS hZ (c_X12_lost l D cI cL ad zz hJ σ12 τ (xs x10.toNatClampNeg) ((xs x10.toNatClampNeg).toInt) rfl I18 I19 I20 I21 I22 I23 I24 I25 p26 p27) cw_RL_112 (jc_55 cI cL ad σ12 τ) rfl ⟨Nat.le_of_ble_eq_true rfl, Nat.le_of_ble_eq_true rfl⟩ rfl rfl rfl hl.1 rfl (Nat.le_of_ble_eq_true rfl) dL_law_891 ⟨Nat.le_of_ble_eq_true rfl, Nat.le_of_ble_eq_true rfl⟩ (fun r29 σ28 τ28 H locs h28 hP hS => ?_)
  obtain ⟨rfl, f30, f31, I32, p33, p34, h28⟩ := h28
  refine lv_pop hx hb dL_law_894 rfl ?_
  refine lv_goto (tgt := 1358) hx hb dL_law_895 (by decide) ?_
  obtain ⟨x36, ex36⟩ : ∃ y : Int32, y = x0 + 6 := ⟨_, rfl⟩
  have tx36 : x36.toInt = x0.toInt + 6 := (jadd ex36 rfl jz_6 (by omega) (by omega)).trans (by omega)
  refine lv_iinc (v := x36) (lv' := [(3, .int x36), (2, .ref (ad 55)), (1, .ref (ad 0)), (0, .ref b)]) hx hb dL_law_1358 hl (k := 0) rfl (by rw [ex36]; rfl) (by decide) rfl (fun ls hl => ?_)
  refine lv_goto (tgt := 18) hx hb dL_law_1361 (by decide) ?_
  have I37 : jI2 σ28 := jI2_fr ((congrFun (f30 2 (by decide)) 0).trans (congrFun (f14 2 (by decide)) 0)) ((congrFun (f30 2 (by decide)) 1).trans (congrFun (f14 2 (by decide)) 1)) ((congrFun (f30 2 (by decide)) 2).trans (congrFun (f14 2 (by decide)) 2)) ((congrFun (f30 2 (by decide)) 3).trans (congrFun (f14 2 (by decide)) 3)) ((f30 6 (by decide)).trans (f14 6 (by decide))) hI2
  have I38 : jI9 σ28 := jI9_fr ((congrFun (f30 9 (by decide)) 0).trans (congrFun (f14 9 (by decide)) 0)) ((f30 10 (by decide)).trans (f14 10 (by decide))) ((f30 11 (by decide)).trans (f14 11 (by decide))) hI9
  have I39 : jI12 σ28 := jI12_fr ((congrFun (f30 12 (by decide)) 0).trans (congrFun (f14 12 (by decide)) 0)) ((f30 13 (by decide)).trans (f14 13 (by decide))) hI12
  have I40 : jI16 σ28 := jI16_fr ((congrFun (f30 16 (by decide)) 0).trans (congrFun (f14 16 (by decide)) 0)) ((congrFun (f30 16 (by decide)) 1).trans (congrFun (f14 16 (by decide)) 1)) ((congrFun (f30 16 (by decide)) 2).trans (congrFun (f14 16 (by decide)) 2)) ((f30 17 (by decide)).trans (f14 17 (by decide))) hI16
  have I41 : jI18 σ28 := jI18_fr ((congrFun (f30 18 (by decide)) 0).trans (congrFun (f14 18 (by decide)) 0)) ((f30 19 (by decide)).trans (f14 19 (by decide))) hI18
  have I42 : jI22 σ28 := jI22_fr ((congrFun (f30 22 (by decide)) 0).trans (congrFun (f14 22 (by decide)) 0)) ((f30 23 (by decide)).trans (f14 23 (by decide))) hI22
  have I43 : jI31 σ28 := jI31_fr (congrFun (f30 31 (by decide)) 8) (f30 33 (by decide)) (f30 36 (by decide)) I16
  have I44 : jI38 σ28 := jI38_fr ((congrFun (f30 38 (by decide)) 0).trans (congrFun (f14 38 (by decide)) 0)) ((congrFun (f30 38 (by decide)) 1).trans (congrFun (f14 38 (by decide)) 1)) ((f30 39 (by decide)).trans (f14 39 (by decide))) hI38
  have I45 : jI43 σ28 := jI43_fr ((congrFun (f30 43 (by decide)) 8).trans (congrFun (f14 43 (by decide)) 8)) hI43
  have I46 : jI47 σ28 := jI47_fr ((congrFun (f30 47 (by decide)) 0).trans (congrFun (f14 47 (by decide)) 0)) ((f30 48 (by decide)).trans (f14 48 (by decide))) ((f30 49 (by decide)).trans (f14 49 (by decide))) hI47
  have I47 : jI50 σ28 := jI50_fr ((f30 52 (by decide)).trans (f14 52 (by decide))) hI50
  have I48 : jI101 σ28 := jI101_fr (f31 4 (by decide)) (f31 5 (by decide)) (f30 56 (by decide)) (f30 57 (by decide)) (f30 58 (by decide)) (f30 59 (by decide)) I18
  have I49 : jI102 σ28 := jI102_fr (f31 6 (by decide)) (f30 60 (by decide)) (f30 61 (by decide)) I19
  have I50 : jI103 σ28 := jI103_fr (f31 9 (by decide)) I20
  have I51 : jI104 σ28 := jI104_fr (f31 10 (by decide)) (f31 12 (by decide)) (f31 13 (by decide)) (f30 62 (by decide)) (f30 67 (by decide)) I21
  have I52 : jI105 σ28 := jI105_fr (f31 15 (by decide)) (f30 65 (by decide)) I22
  have I53 : jI106 σ28 := jI106_fr (f31 32 (by decide)) (f30 70 (by decide)) (f30 71 (by decide)) (f30 72 (by decide)) I23
  have I54 : jI107 σ28 := jI107_fr (f31 12 (by decide)) (f31 47 (by decide)) (f30 80 (by decide)) I24
  have I55 : jI109 σ28 := jI109_fr ((f31 50 (by decide)).trans (congrFun (f14 55 (by decide)) 50)) hI109
  have I56 : jI110 σ28 := jI110_fr ((f30 86 (by decide)).trans (f14 86 (by decide))) ((f30 87 (by decide)).trans (f14 87 (by decide))) hI110
  have I57 : jI111 σ28 := jI111_fr ((f30 79 (by decide)).trans (f14 79 (by decide))) hI111
  have z58 : (σ28 38 0).toInt = (σ 38 0).toInt := (congrArg Int32.toInt (show σ28 38 0 = (σ 38 0) from ((congrFun (f30 38 (by decide)) 0).trans (congrFun (f14 38 (by decide)) 0))))
  have z59 : (σ28 55 32).toInt = (σ 55 32).toInt := (congrArg Int32.toInt (show σ28 55 32 = (σ 55 32) from ((f31 32 (by decide)).trans (congrFun (f14 55 (by decide)) 32))))
  exact ih x36 σ28 τ _ _ ls (by have h9 := tx36; omega) ⟨I37, I38, I39, I40, I41, I42, I43, I44, I45, I46, I47, I48, I49, I50, I51, I52, I53, I54, I55, I56, I57, I32, p33, p34, (by omega), (show jShP (σ28 51) (σ28 52) (σ28 53) (σ28 86) (σ28 87) (σ28 55 32).toInt by rw [show σ28 51 = σ 51 from ((f30 51 (by decide)).trans (f14 51 (by decide))), show σ28 52 = σ 52 from ((f30 52 (by decide)).trans (f14 52 (by decide))), show σ28 53 = σ 53 from ((f30 53 (by decide)).trans (f14 53 (by decide))), show σ28 86 = σ 86 from ((f30 86 (by decide)).trans (f14 86 (by decide))), show σ28 87 = σ 87 from ((f30 87 (by decide)).trans (f14 87 (by decide)))]; exact (hr0.up (by omega) (by omega))), (show jEl (σ28 51) (σ28 52) (τ 54) (τ 88) by rw [show σ28 51 = σ 51 from ((f30 51 (by decide)).trans (f14 51 (by decide))), show σ28 52 = σ 52 from ((f30 52 (by decide)).trans (f14 52 (by decide)))]; exact hr1)⟩ hP hS (lv_sub hl [0, 1, 2, 3] rfl)
set_option maxHeartbeats 4000000 in
set_option maxRecDepth 100000 in
theorem law_case_24 {p : Program} {e : Env} {s : State} {m : MethodId} {below : List Frame} {meth : Method} {c : Code} (l : Launch) {b L : Nat} {xs : Nat → Int32} {D : va_G} {cI cL : ClassId} {ad zz : Nat → Nat} (C0 : lw_At p s m meth c b L xs) (hJ : jD ad) (hA : ∀ q, jA ad q → s.heap.size ≤ q) (hK : jK D cI cL s) (hZ : jZ zz (fun q : Nat => s.heap.size ≤ q) s s.heap) {x0 : Int32} (hx0 : 0 ≤ x0.toInt) (hxL : x0.toInt + 6 ≤ (L : Int)) (hL : L ≤ 384) {σ : Nat → Nat → Int32} {τ : Nat → Nat → Int64} {H : Heap} {locs : List Loc} (hS : va_S (fun q : Nat => s.heap.size ≤ q) s.heap H locs) {ls : Array Slot} (hAll : jAll σ τ) (hP : jH D cI cL ad σ τ H) (hl : lv_has ls 4 [(3, .int x0), (2, .ref (ad 55)), (1, .ref (ad 0)), (0, .ref b)]) (ih : ∀ (x1 : Int32) (σ : Nat → Nat → Int32) (τ : Nat → Nat → Int64) (H : Heap) (locs : List Loc) (ls : Array Slot), x1.toInt = x0.toInt + 6 → jAll σ τ → jH D cI cL ad σ τ H → va_S (fun q : Nat => s.heap.size ≤ q) s.heap H locs → lv_has ls 4 [(3, .int x1), (2, .ref (ad 55)), (1, .ref (ad 0)), (0, .ref b)] → W p l e room_1 s m #[Value.ref b] below meth c H locs 90 348600 (lw_Z below #[Value.ref b] s) (F0 m 18 ls [])) : W p l e room_1 s m #[Value.ref b] below meth c H locs 90 348600 (lw_Z below #[Value.ref b] s) (F0 m 898 ls []) := by
  obtain ⟨hx, hb, hr, hml, hown, hts0, hX, hbl, hlocks, hgv⟩ := C0
  have hts : ∀ w ∈ wsL_law, w.before #[Value.ref b] s = true := fun w h => hts0 w (wsL_law_in w h)
  have hbA : ¬ (fun q : Nat => s.heap.size ≤ q) b := Nat.not_le.mpr hbl
  have hown : s.vm.findClass RL = some m.cls := hown
  obtain ⟨hI2, hI9, hI12, hI16, hI18, hI22, hI31, hI38, hI43, hI47, hI50, hI101, hI102, hI103, hI104, hI105, hI106, hI107, hI109, hI110, hI111, hI119, hs_jKept, hs_jBook, ht0, hr0, hr1⟩ := hAll
  have hL9 : (L : Int) ≤ 384 := by omega
  obtain ⟨i1, i2, w3⟩ : (0 ≤ (σ 38 0).toInt ∧ (σ 38 0).toInt ≤ 20) ∧ (0 ≤ (σ 38 1).toInt ∧ (σ 38 1).toInt ≤ 1000) ∧ (∀ k : Nat, k < 20 → 0 ≤ (σ 39 k).toInt ∧ (σ 39 k).toInt ≤ 6) := id hI38
  have w4 : ∀ k : Nat, k < 6 → 0 ≤ (σ 52 k).toInt ∧ (σ 52 k).toInt ≤ 60 := hI50
  obtain ⟨i5, w6, w7, w8⟩ : (0 ≤ (σ 55 32).toInt ∧ (σ 55 32).toInt ≤ 20) ∧ (∀ k : Nat, k < 20 → 0 ≤ (σ 70 k).toInt ∧ (σ 70 k).toInt ≤ 6) ∧ (∀ k : Nat, k < 20 → 0 ≤ (σ 71 k).toInt ∧ (σ 71 k).toInt ≤ 8) ∧ (∀ k : Nat, k < 160 → 0 ≤ (σ 72 k).toInt ∧ (σ 72 k).toInt ≤ 3) := id hI106
  refine lv_aload_n hx hb dL_law_898 rfl (lv_at hl 2 rfl) ?_
  refine lv_aload_n hx hb dL_law_899 rfl (lv_at hl 3 rfl) ?_
  refine lv_iload_n hx hb dL_law_900 rfl (lv_at hl 0 rfl) ?_
  refine lv_iconst (v := 1) hx hb dL_law_901 (by decide) ?_
  have g9 := jrg (rfl : x0.toInt = x0.toInt)
  refine lv_iadd hx hb dL_law_902 ?_
  refine lv_topi (fun x10 ex10 => ?_)
  have tx10 : x10.toInt = x0.toInt + 1 := (jadd ex10 rfl jz_1 (by omega) (by omega)).trans (by omega)
  refine va_sld hx hb hX hbl hbA hS (jin tx10 (by omega) (by omega)) dL_law_903 ?_
  have g11 := jrg (rfl : (xs x10.toNatClampNeg).toInt = (xs x10.toNatClampNeg).toInt)
  refine lv_aload_n hx hb dL_law_904 rfl (lv_at hl 3 rfl) ?_
  refine lv_iload_n hx hb dL_law_905 rfl (lv_at hl 0 rfl) ?_
  refine lv_iconst (v := 2) hx hb dL_law_906 (by decide) ?_
  refine lv_iadd hx hb dL_law_907 ?_
  refine lv_topi (fun x12 ex12 => ?_)
  have tx12 : x12.toInt = x0.toInt + 2 := (jadd ex12 rfl jz_2 (by omega) (by omega)).trans (by omega)
  refine va_sld hx hb hX hbl hbA hS (jin tx12 (by omega) (by omega)) dL_law_908 ?_
  have g13 := jrg (rfl : (xs x12.toNatClampNeg).toInt = (xs x12.toNatClampNeg).toInt)
  refine jcallV (As := [.int (xs x10.toNatClampNeg), .int (xs x12.toNatClampNeg)]) (rest := []) ⟨hx, hb, hml, hown, hts⟩ hK hP hA hS hZ (c_X11_game l D cI cL ad zz hJ σ τ (xs x10.toNatClampNeg) ((xs x10.toNatClampNeg).toInt) rfl (xs x12.toNatClampNeg) ((xs x12.toNatClampNeg).toInt) rfl hI2 hI16 hI18 hI22 hI31 hI38 hI43) cw_RL_113 (jc_0 cI cL ad σ τ) rfl ⟨Nat.le_of_ble_eq_true rfl, Nat.le_of_ble_eq_true rfl⟩ rfl rfl rfl hl.1 rfl (Nat.le_of_ble_eq_true rfl) dL_law_909 ⟨Nat.le_of_ble_eq_true rfl, Nat.le_of_ble_eq_true rfl⟩ (fun r15 σ14 τ14 H locs h14 hP hS => ?_)
  obtain ⟨rfl, f16, f17, f18, I19, I20, h14⟩ := h14
  refine lv_pop hx hb dL_law_912 rfl ?_
  refine lv_aload_n hx hb dL_law_913 rfl (lv_at hl 1 rfl) ?_
  refine lv_aload_n hx hb dL_law_914 rfl (lv_at hl 3 rfl) ?_
  refine lv_iload_n hx hb dL_law_915 rfl (lv_at hl 0 rfl) ?_
  refine lv_iconst (v := 1) hx hb dL_law_916 (by decide) ?_
  refine lv_iadd hx hb dL_law_917 ?_
  refine jtopr ex10.symm ?_
  refine va_sld hx hb hX hbl hbA hS (jin tx10 (by omega) (by omega)) dL_law_918 ?_
  refine lv_aload_n hx hb dL_law_919 rfl (lv_at hl 3 rfl) ?_
  refine lv_iload_n hx hb dL_law_920 rfl (lv_at hl 0 rfl) ?_
  refine lv_iconst (v := 2) hx hb dL_law_921 (by decide) ?_
  refine lv_iadd hx hb dL_law_922 ?_
  refine jtopr ex12.symm ?_
  refine va_sld hx hb hX hbl hbA hS (jin tx12 (by omega) (by omega)) dL_law_923 ?_
  have I22 : jI101 σ14 := jI101_fr (congrFun (f16 55 (by decide)) 4) (congrFun (f16 55 (by decide)) 5) (f16 56 (by decide)) (f16 57 (by decide)) (f16 58 (by decide)) (f16 59 (by decide)) hI101
  have I23 : jI102 σ14 := jI102_fr (congrFun (f16 55 (by decide)) 6) (f16 60 (by decide)) (f16 61 (by decide)) hI102
  have I24 : jI103 σ14 := jI103_fr (congrFun (f16 55 (by decide)) 9) hI103
  have I25 : jI104 σ14 := jI104_fr (congrFun (f16 55 (by decide)) 10) (congrFun (f16 55 (by decide)) 12) (congrFun (f16 55 (by decide)) 13) (f16 62 (by decide)) (f16 67 (by decide)) hI104
  have I26 : jI105 σ14 := jI105_fr (congrFun (f16 55 (by decide)) 15) (f16 65 (by decide)) hI105
  have I27 : jI106 σ14 := jI106_fr (congrFun (f16 55 (by decide)) 32) (f16 70 (by decide)) (f16 71 (by decide)) (f16 72 (by decide)) hI106
  have I28 : jI119 σ14 := jI119_fr (f16 68 (by decide)) hI119
  have I29 : jI109 σ14 := jI109_fr (congrFun (f16 55 (by decide)) 50) hI109
  have p30 : jKept σ14 := jKept.fr (f16 75 (by decide)) (f16 76 (by decide)) (f16 77 (by decide)) hs_jKept
  refine jcallV (As := [.int (xs x10.toNatClampNeg), .int (xs x12.toNatClampNeg)]) (rest := []) ⟨hx, hb, hml, hown, hts⟩ hK hP hA hS hZ (c_X12_game l D cI cL ad zz hJ σ14 τ (xs x10.toNatClampNeg) ((xs x10.toNatClampNeg).toInt) rfl (xs x12.toNatClampNeg) ((xs x12.toNatClampNeg).toInt) rfl I22 I23 I24 I25 I26 I27 I28 I29 p30) cw_RL_116 (jc_55 cI cL ad σ14 τ) rfl ⟨Nat.le_of_ble_eq_true rfl, Nat.le_of_ble_eq_true rfl⟩ rfl rfl rfl hl.1 rfl (Nat.le_of_ble_eq_true rfl) dL_law_924 ⟨Nat.le_of_ble_eq_true rfl, Nat.le_of_ble_eq_true rfl⟩ (fun r32 σ31 τ31 H locs h31 hP hS => ?_)
  obtain ⟨rfl, f33, f34, I35, I36, p37, h31⟩ := h31
  refine lv_pop hx hb dL_law_927 rfl ?_
  refine lv_goto (tgt := 1358) hx hb dL_law_928 (by decide) ?_
  obtain ⟨x39, ex39⟩ : ∃ y : Int32, y = x0 + 6 := ⟨_, rfl⟩
  have tx39 : x39.toInt = x0.toInt + 6 := (jadd ex39 rfl jz_6 (by omega) (by omega)).trans (by omega)
  refine lv_iinc (v := x39) (lv' := [(3, .int x39), (2, .ref (ad 55)), (1, .ref (ad 0)), (0, .ref b)]) hx hb dL_law_1358 hl (k := 0) rfl (by rw [ex39]; rfl) (by decide) rfl (fun ls hl => ?_)
  refine lv_goto (tgt := 18) hx hb dL_law_1361 (by decide) ?_
  have I40 : jI2 σ31 := jI2_fr ((congrFun (f33 2 (by decide)) 0).trans (congrFun (f16 2 (by decide)) 0)) ((congrFun (f33 2 (by decide)) 1).trans (congrFun (f16 2 (by decide)) 1)) ((congrFun (f33 2 (by decide)) 2).trans (congrFun (f16 2 (by decide)) 2)) ((congrFun (f33 2 (by decide)) 3).trans (congrFun (f16 2 (by decide)) 3)) ((f33 6 (by decide)).trans (f16 6 (by decide))) hI2
  have I41 : jI9 σ31 := jI9_fr ((congrFun (f33 9 (by decide)) 0).trans (congrFun (f16 9 (by decide)) 0)) ((f33 10 (by decide)).trans (f16 10 (by decide))) ((f33 11 (by decide)).trans (f16 11 (by decide))) hI9
  have I42 : jI12 σ31 := jI12_fr ((congrFun (f33 12 (by decide)) 0).trans (congrFun (f16 12 (by decide)) 0)) ((f33 13 (by decide)).trans (f16 13 (by decide))) hI12
  have I43 : jI16 σ31 := jI16_fr ((congrFun (f33 16 (by decide)) 0).trans (congrFun (f16 16 (by decide)) 0)) ((congrFun (f33 16 (by decide)) 1).trans (congrFun (f16 16 (by decide)) 1)) ((congrFun (f33 16 (by decide)) 2).trans (congrFun (f16 16 (by decide)) 2)) ((f33 17 (by decide)).trans (f16 17 (by decide))) hI16
  have I44 : jI18 σ31 := jI18_fr ((congrFun (f33 18 (by decide)) 0).trans (congrFun (f16 18 (by decide)) 0)) ((f33 19 (by decide)).trans (f16 19 (by decide))) hI18
  have I45 : jI22 σ31 := jI22_fr ((congrFun (f33 22 (by decide)) 0).trans (congrFun (f16 22 (by decide)) 0)) ((f33 23 (by decide)).trans (f16 23 (by decide))) hI22
  have I46 : jI31 σ31 := jI31_fr (congrFun (f33 31 (by decide)) 8) (f33 33 (by decide)) (f33 36 (by decide)) I19
  have I47 : jI38 σ31 := jI38_fr ((congrFun (f33 38 (by decide)) 0).trans (congrFun (f16 38 (by decide)) 0)) ((congrFun (f33 38 (by decide)) 1).trans (congrFun (f16 38 (by decide)) 1)) ((f33 39 (by decide)).trans (f16 39 (by decide))) hI38
  have I48 : jI43 σ31 := jI43_fr (congrFun (f33 43 (by decide)) 8) I20
  have I49 : jI47 σ31 := jI47_fr ((congrFun (f33 47 (by decide)) 0).trans (congrFun (f16 47 (by decide)) 0)) ((f33 48 (by decide)).trans (f16 48 (by decide))) ((f33 49 (by decide)).trans (f16 49 (by decide))) hI47
  have I50 : jI50 σ31 := jI50_fr ((f33 52 (by decide)).trans (f16 52 (by decide))) hI50
  have I51 : jI101 σ31 := jI101_fr (f34 4 (by decide)) (f34 5 (by decide)) (f33 56 (by decide)) (f33 57 (by decide)) (f33 58 (by decide)) (f33 59 (by decide)) I22
  have I52 : jI102 σ31 := jI102_fr (f34 6 (by decide)) (f33 60 (by decide)) (f33 61 (by decide)) I23
  have I53 : jI103 σ31 := jI103_fr (f34 9 (by decide)) I24
  have I54 : jI104 σ31 := jI104_fr (f34 10 (by decide)) (f34 12 (by decide)) (f34 13 (by decide)) (f33 62 (by decide)) (f33 67 (by decide)) I25
  have I55 : jI105 σ31 := jI105_fr (f34 15 (by decide)) (f33 65 (by decide)) I26
  have I56 : jI106 σ31 := jI106_fr (f34 32 (by decide)) (f33 70 (by decide)) (f33 71 (by decide)) (f33 72 (by decide)) I27
  have I57 : jI107 σ31 := jI107_fr ((f34 12 (by decide)).trans (congrFun (f16 55 (by decide)) 12)) ((f34 47 (by decide)).trans (congrFun (f16 55 (by decide)) 47)) ((f33 80 (by decide)).trans (f16 80 (by decide))) hI107
  have I58 : jI110 σ31 := jI110_fr ((f33 86 (by decide)).trans (f16 86 (by decide))) ((f33 87 (by decide)).trans (f16 87 (by decide))) hI110
  have I59 : jI111 σ31 := jI111_fr ((f33 79 (by decide)).trans (f16 79 (by decide))) hI111
  have p60 : jBook σ31 := jBook.fr ((f34 47 (by decide)).trans (congrFun (f16 55 (by decide)) 47)) ((f34 10 (by decide)).trans (congrFun (f16 55 (by decide)) 10)) ((f33 81 (by decide)).trans (f16 81 (by decide))) hs_jBook
  have z61 : (σ31 38 0).toInt = (σ 38 0).toInt := (congrArg Int32.toInt (show σ31 38 0 = (σ 38 0) from ((congrFun (f33 38 (by decide)) 0).trans (congrFun (f16 38 (by decide)) 0))))
  have z62 : (σ31 55 32).toInt = (σ 55 32).toInt := (congrArg Int32.toInt (show σ31 55 32 = (σ 55 32) from ((f34 32 (by decide)).trans (congrFun (f16 55 (by decide)) 32))))
  exact ih x39 σ31 τ _ _ ls (by have h9 := tx39; omega) ⟨I40, I41, I42, I43, I44, I45, I46, I47, I48, I49, I50, I51, I52, I53, I54, I55, I56, I57, I35, I58, I59, I36, p37, p60, (by omega), (show jShP (σ31 51) (σ31 52) (σ31 53) (σ31 86) (σ31 87) (σ31 55 32).toInt by rw [show σ31 51 = σ 51 from ((f33 51 (by decide)).trans (f16 51 (by decide))), show σ31 52 = σ 52 from ((f33 52 (by decide)).trans (f16 52 (by decide))), show σ31 53 = σ 53 from ((f33 53 (by decide)).trans (f16 53 (by decide))), show σ31 86 = σ 86 from ((f33 86 (by decide)).trans (f16 86 (by decide))), show σ31 87 = σ 87 from ((f33 87 (by decide)).trans (f16 87 (by decide)))]; exact (hr0.up (by omega) (by omega))), (show jEl (σ31 51) (σ31 52) (τ 54) (τ 88) by rw [show σ31 51 = σ 51 from ((f33 51 (by decide)).trans (f16 51 (by decide))), show σ31 52 = σ 52 from ((f33 52 (by decide)).trans (f16 52 (by decide)))]; exact hr1)⟩ hP hS (lv_sub hl [0, 1, 2, 3] rfl)
set_option maxHeartbeats 4000000 in
set_option maxRecDepth 100000 in
theorem law_case_25 {p : Program} {e : Env} {s : State} {m : MethodId} {below : List Frame} {meth : Method} {c : Code} (l : Launch) {b L : Nat} {xs : Nat → Int32} {D : va_G} {cI cL : ClassId} {ad zz : Nat → Nat} (C0 : lw_At p s m meth c b L xs) (hJ : jD ad) (hA : ∀ q, jA ad q → s.heap.size ≤ q) (hK : jK D cI cL s) (hZ : jZ zz (fun q : Nat => s.heap.size ≤ q) s s.heap) {x0 : Int32} (hx0 : 0 ≤ x0.toInt) (hxL : x0.toInt + 6 ≤ (L : Int)) (hL : L ≤ 384) {σ : Nat → Nat → Int32} {τ : Nat → Nat → Int64} {H : Heap} {locs : List Loc} (hS : va_S (fun q : Nat => s.heap.size ≤ q) s.heap H locs) {ls : Array Slot} (hAll : jAll σ τ) (hP : jH D cI cL ad σ τ H) (hl : lv_has ls 4 [(3, .int x0), (2, .ref (ad 55)), (1, .ref (ad 0)), (0, .ref b)]) (ih : ∀ (x1 : Int32) (σ : Nat → Nat → Int32) (τ : Nat → Nat → Int64) (H : Heap) (locs : List Loc) (ls : Array Slot), x1.toInt = x0.toInt + 6 → jAll σ τ → jH D cI cL ad σ τ H → va_S (fun q : Nat => s.heap.size ≤ q) s.heap H locs → lv_has ls 4 [(3, .int x1), (2, .ref (ad 55)), (1, .ref (ad 0)), (0, .ref b)] → W p l e room_1 s m #[Value.ref b] below meth c H locs 90 348600 (lw_Z below #[Value.ref b] s) (F0 m 18 ls [])) : W p l e room_1 s m #[Value.ref b] below meth c H locs 90 348600 (lw_Z below #[Value.ref b] s) (F0 m 931 ls []) := by
  obtain ⟨hx, hb, hr, hml, hown, hts0, hX, hbl, hlocks, hgv⟩ := C0
  have hts : ∀ w ∈ wsL_law, w.before #[Value.ref b] s = true := fun w h => hts0 w (wsL_law_in w h)
  have hbA : ¬ (fun q : Nat => s.heap.size ≤ q) b := Nat.not_le.mpr hbl
  have hown : s.vm.findClass RL = some m.cls := hown
  obtain ⟨hI2, hI9, hI12, hI16, hI18, hI22, hI31, hI38, hI43, hI47, hI50, hI101, hI102, hI103, hI104, hI105, hI106, hI107, hI109, hI110, hI111, hI119, hs_jKept, hs_jBook, ht0, hr0, hr1⟩ := hAll
  have hL9 : (L : Int) ≤ 384 := by omega
  obtain ⟨i1, i2, w3⟩ : (0 ≤ (σ 38 0).toInt ∧ (σ 38 0).toInt ≤ 20) ∧ (0 ≤ (σ 38 1).toInt ∧ (σ 38 1).toInt ≤ 1000) ∧ (∀ k : Nat, k < 20 → 0 ≤ (σ 39 k).toInt ∧ (σ 39 k).toInt ≤ 6) := id hI38
  have w4 : ∀ k : Nat, k < 6 → 0 ≤ (σ 52 k).toInt ∧ (σ 52 k).toInt ≤ 60 := hI50
  obtain ⟨i5, w6, w7, w8⟩ : (0 ≤ (σ 55 32).toInt ∧ (σ 55 32).toInt ≤ 20) ∧ (∀ k : Nat, k < 20 → 0 ≤ (σ 70 k).toInt ∧ (σ 70 k).toInt ≤ 6) ∧ (∀ k : Nat, k < 20 → 0 ≤ (σ 71 k).toInt ∧ (σ 71 k).toInt ≤ 8) ∧ (∀ k : Nat, k < 160 → 0 ≤ (σ 72 k).toInt ∧ (σ 72 k).toInt ≤ 3) := id hI106
  refine lv_aload_n hx hb dL_law_931 rfl (lv_at hl 2 rfl) ?_
  refine lv_aload_n hx hb dL_law_932 rfl (lv_at hl 3 rfl) ?_
  refine lv_iload_n hx hb dL_law_933 rfl (lv_at hl 0 rfl) ?_
  refine lv_iconst (v := 1) hx hb dL_law_934 (by decide) ?_
  have g9 := jrg (rfl : x0.toInt = x0.toInt)
  refine lv_iadd hx hb dL_law_935 ?_
  refine lv_topi (fun x10 ex10 => ?_)
  have tx10 : x10.toInt = x0.toInt + 1 := (jadd ex10 rfl jz_1 (by omega) (by omega)).trans (by omega)
  refine va_sld hx hb hX hbl hbA hS (jin tx10 (by omega) (by omega)) dL_law_936 ?_
  have g11 := jrg (rfl : (xs x10.toNatClampNeg).toInt = (xs x10.toNatClampNeg).toInt)
  refine lv_aload_n hx hb dL_law_937 rfl (lv_at hl 3 rfl) ?_
  refine lv_iload_n hx hb dL_law_938 rfl (lv_at hl 0 rfl) ?_
  refine lv_iconst (v := 2) hx hb dL_law_939 (by decide) ?_
  refine lv_iadd hx hb dL_law_940 ?_
  refine lv_topi (fun x12 ex12 => ?_)
  have tx12 : x12.toInt = x0.toInt + 2 := (jadd ex12 rfl jz_2 (by omega) (by omega)).trans (by omega)
  refine va_sld hx hb hX hbl hbA hS (jin tx12 (by omega) (by omega)) dL_law_941 ?_
  have g13 := jrg (rfl : (xs x12.toNatClampNeg).toInt = (xs x12.toNatClampNeg).toInt)
  refine jcallV (As := [.int (xs x10.toNatClampNeg), .int (xs x12.toNatClampNeg)]) (rest := []) ⟨hx, hb, hml, hown, hts⟩ hK hP hA hS hZ (c_X11_led l D cI cL ad zz hJ σ τ (xs x10.toNatClampNeg) ((xs x10.toNatClampNeg).toInt) rfl (xs x12.toNatClampNeg) ((xs x12.toNatClampNeg).toInt) rfl hI43) cw_RL_117 (jc_0 cI cL ad σ τ) rfl ⟨Nat.le_of_ble_eq_true rfl, Nat.le_of_ble_eq_true rfl⟩ rfl rfl rfl hl.1 rfl (Nat.le_of_ble_eq_true rfl) dL_law_942 ⟨Nat.le_of_ble_eq_true rfl, Nat.le_of_ble_eq_true rfl⟩ (fun r15 σ14 τ14 H locs h14 hP hS => ?_)
  obtain ⟨⟨rfl, rfl⟩, h14⟩ := h14
  refine lv_pop hx hb dL_law_945 rfl ?_
  refine lv_aload_n hx hb dL_law_946 rfl (lv_at hl 1 rfl) ?_
  refine lv_aload_n hx hb dL_law_947 rfl (lv_at hl 3 rfl) ?_
  refine lv_iload_n hx hb dL_law_948 rfl (lv_at hl 0 rfl) ?_
  refine lv_iconst (v := 1) hx hb dL_law_949 (by decide) ?_
  refine lv_iadd hx hb dL_law_950 ?_
  refine jtopr ex10.symm ?_
  refine va_sld hx hb hX hbl hbA hS (jin tx10 (by omega) (by omega)) dL_law_951 ?_
  refine lv_aload_n hx hb dL_law_952 rfl (lv_at hl 3 rfl) ?_
  refine lv_iload_n hx hb dL_law_953 rfl (lv_at hl 0 rfl) ?_
  refine lv_iconst (v := 2) hx hb dL_law_954 (by decide) ?_
  refine lv_iadd hx hb dL_law_955 ?_
  refine jtopr ex12.symm ?_
  refine va_sld hx hb hX hbl hbA hS (jin tx12 (by omega) (by omega)) dL_law_956 ?_
  refine jcallV (As := [.int (xs x10.toNatClampNeg), .int (xs x12.toNatClampNeg)]) (rest := []) ⟨hx, hb, hml, hown, hts⟩ hK hP hA hS hZ (c_X12_led l D cI cL ad zz hJ σ τ (xs x10.toNatClampNeg) ((xs x10.toNatClampNeg).toInt) rfl (xs x12.toNatClampNeg) ((xs x12.toNatClampNeg).toInt) rfl hI109) cw_RL_120 (jc_55 cI cL ad σ τ) rfl ⟨Nat.le_of_ble_eq_true rfl, Nat.le_of_ble_eq_true rfl⟩ rfl rfl rfl hl.1 rfl (Nat.le_of_ble_eq_true rfl) dL_law_957 ⟨Nat.le_of_ble_eq_true rfl, Nat.le_of_ble_eq_true rfl⟩ (fun r17 σ16 τ16 H locs h16 hP hS => ?_)
  obtain ⟨⟨rfl, rfl⟩, h16⟩ := h16
  refine lv_pop hx hb dL_law_960 rfl ?_
  refine lv_goto (tgt := 1358) hx hb dL_law_961 (by decide) ?_
  obtain ⟨x18, ex18⟩ : ∃ y : Int32, y = x0 + 6 := ⟨_, rfl⟩
  have tx18 : x18.toInt = x0.toInt + 6 := (jadd ex18 rfl jz_6 (by omega) (by omega)).trans (by omega)
  refine lv_iinc (v := x18) (lv' := [(3, .int x18), (2, .ref (ad 55)), (1, .ref (ad 0)), (0, .ref b)]) hx hb dL_law_1358 hl (k := 0) rfl (by rw [ex18]; rfl) (by decide) rfl (fun ls hl => ?_)
  refine lv_goto (tgt := 18) hx hb dL_law_1361 (by decide) ?_
  exact ih x18 σ τ _ _ ls (by have h9 := tx18; omega) ⟨hI2, hI9, hI12, hI16, hI18, hI22, hI31, hI38, hI43, hI47, hI50, hI101, hI102, hI103, hI104, hI105, hI106, hI107, hI109, hI110, hI111, hI119, hs_jKept, hs_jBook, (by omega), hr0, hr1⟩ hP hS (lv_sub hl [0, 1, 2, 3] rfl)
set_option maxHeartbeats 4000000 in
set_option maxRecDepth 100000 in
theorem law_case_26 {p : Program} {e : Env} {s : State} {m : MethodId} {below : List Frame} {meth : Method} {c : Code} (l : Launch) {b L : Nat} {xs : Nat → Int32} {D : va_G} {cI cL : ClassId} {ad zz : Nat → Nat} (C0 : lw_At p s m meth c b L xs) (hJ : jD ad) (hA : ∀ q, jA ad q → s.heap.size ≤ q) (hK : jK D cI cL s) (hZ : jZ zz (fun q : Nat => s.heap.size ≤ q) s s.heap) {x0 : Int32} (hx0 : 0 ≤ x0.toInt) (hxL : x0.toInt + 6 ≤ (L : Int)) (hL : L ≤ 384) {σ : Nat → Nat → Int32} {τ : Nat → Nat → Int64} {H : Heap} {locs : List Loc} (hS : va_S (fun q : Nat => s.heap.size ≤ q) s.heap H locs) {ls : Array Slot} (hAll : jAll σ τ) (hP : jH D cI cL ad σ τ H) (hl : lv_has ls 4 [(3, .int x0), (2, .ref (ad 55)), (1, .ref (ad 0)), (0, .ref b)]) (ih : ∀ (x1 : Int32) (σ : Nat → Nat → Int32) (τ : Nat → Nat → Int64) (H : Heap) (locs : List Loc) (ls : Array Slot), x1.toInt = x0.toInt + 6 → jAll σ τ → jH D cI cL ad σ τ H → va_S (fun q : Nat => s.heap.size ≤ q) s.heap H locs → lv_has ls 4 [(3, .int x1), (2, .ref (ad 55)), (1, .ref (ad 0)), (0, .ref b)] → W p l e room_1 s m #[Value.ref b] below meth c H locs 90 348600 (lw_Z below #[Value.ref b] s) (F0 m 18 ls [])) : W p l e room_1 s m #[Value.ref b] below meth c H locs 90 348600 (lw_Z below #[Value.ref b] s) (F0 m 964 ls []) := by
  obtain ⟨hx, hb, hr, hml, hown, hts0, hX, hbl, hlocks, hgv⟩ := C0
  have hts : ∀ w ∈ wsL_law, w.before #[Value.ref b] s = true := fun w h => hts0 w (wsL_law_in w h)
  have hbA : ¬ (fun q : Nat => s.heap.size ≤ q) b := Nat.not_le.mpr hbl
  have hown : s.vm.findClass RL = some m.cls := hown
  obtain ⟨hI2, hI9, hI12, hI16, hI18, hI22, hI31, hI38, hI43, hI47, hI50, hI101, hI102, hI103, hI104, hI105, hI106, hI107, hI109, hI110, hI111, hI119, hs_jKept, hs_jBook, ht0, hr0, hr1⟩ := hAll
  have hL9 : (L : Int) ≤ 384 := by omega
  obtain ⟨i1, i2, w3⟩ : (0 ≤ (σ 38 0).toInt ∧ (σ 38 0).toInt ≤ 20) ∧ (0 ≤ (σ 38 1).toInt ∧ (σ 38 1).toInt ≤ 1000) ∧ (∀ k : Nat, k < 20 → 0 ≤ (σ 39 k).toInt ∧ (σ 39 k).toInt ≤ 6) := id hI38
  have w4 : ∀ k : Nat, k < 6 → 0 ≤ (σ 52 k).toInt ∧ (σ 52 k).toInt ≤ 60 := hI50
  obtain ⟨i5, w6, w7, w8⟩ : (0 ≤ (σ 55 32).toInt ∧ (σ 55 32).toInt ≤ 20) ∧ (∀ k : Nat, k < 20 → 0 ≤ (σ 70 k).toInt ∧ (σ 70 k).toInt ≤ 6) ∧ (∀ k : Nat, k < 20 → 0 ≤ (σ 71 k).toInt ∧ (σ 71 k).toInt ≤ 8) ∧ (∀ k : Nat, k < 160 → 0 ≤ (σ 72 k).toInt ∧ (σ 72 k).toInt ≤ 3) := id hI106
  refine lv_aload_n hx hb dL_law_964 rfl (lv_at hl 2 rfl) ?_
  refine jcallV (As := []) (rest := []) ⟨hx, hb, hml, hown, hts⟩ hK hP hA hS hZ (c_X11_undo l D cI cL ad zz hJ σ τ hI2) cw_RL_121 (jc_0 cI cL ad σ τ) rfl ⟨Nat.le_of_ble_eq_true rfl, Nat.le_of_ble_eq_true rfl⟩ rfl rfl rfl hl.1 rfl (Nat.le_of_ble_eq_true rfl) dL_law_965 ⟨Nat.le_of_ble_eq_true rfl, Nat.le_of_ble_eq_true rfl⟩ (fun r10 σ9 τ9 H locs h9 hP hS => ?_)
  obtain ⟨rfl, f11, f12, I13, h9⟩ := h9
  rcases h9 with h15 | h16
  · obtain ⟨q21, k17, k18, k19, k20⟩ := h15
    have q21 := q21.symm
    subst q21
    refine lv_pop hx hb dL_law_968 rfl ?_
    refine lv_aload_n hx hb dL_law_969 rfl (lv_at hl 1 rfl) ?_
    have I22 : jI101 σ9 := jI101_fr (congrFun (f11 55 (by decide)) 4) (congrFun (f11 55 (by decide)) 5) (f11 56 (by decide)) (f11 57 (by decide)) (f11 58 (by decide)) (f11 59 (by decide)) hI101
    have z23 : (σ9 55 5).toInt = (σ 55 5).toInt := (congrArg Int32.toInt (show σ9 55 5 = (σ 55 5) from (congrFun (f11 55 (by decide)) 5)))
    refine jcallV (As := []) (rest := []) ⟨hx, hb, hml, hown, hts⟩ hK hP hA hS hZ (c_X12_undo l D cI cL ad zz hJ σ9 τ I22) cw_RL_124 (jc_55 cI cL ad σ9 τ) rfl ⟨Nat.le_of_ble_eq_true rfl, Nat.le_of_ble_eq_true rfl⟩ rfl rfl rfl hl.1 rfl (Nat.le_of_ble_eq_true rfl) dL_law_970 ⟨Nat.le_of_ble_eq_true rfl, Nat.le_of_ble_eq_true rfl⟩ (fun r25 σ24 τ24 H locs h24 hP hS => ?_)
    obtain ⟨rfl, f26, f27, I28, h24⟩ := h24
    rcases h24 with h30 | h31
    · obtain ⟨q35, k32, k33, k34⟩ := h30
      have q35 := q35.symm
      subst q35
      refine lv_pop hx hb dL_law_973 rfl ?_
      refine lv_goto (tgt := 1358) hx hb dL_law_974 (by decide) ?_
      obtain ⟨x36, ex36⟩ : ∃ y : Int32, y = x0 + 6 := ⟨_, rfl⟩
      have tx36 : x36.toInt = x0.toInt + 6 := (jadd ex36 rfl jz_6 (by omega) (by omega)).trans (by omega)
      refine lv_iinc (v := x36) (lv' := [(3, .int x36), (2, .ref (ad 55)), (1, .ref (ad 0)), (0, .ref b)]) hx hb dL_law_1358 hl (k := 0) rfl (by rw [ex36]; rfl) (by decide) rfl (fun ls hl => ?_)
      refine lv_goto (tgt := 18) hx hb dL_law_1361 (by decide) ?_
      have I37 : jI2 σ24 := jI2_fr (congrFun (f26 2 (by decide)) 0) (congrFun (f26 2 (by decide)) 1) (congrFun (f26 2 (by decide)) 2) (congrFun (f26 2 (by decide)) 3) (f26 6 (by decide)) I13
      have I38 : jI9 σ24 := jI9_fr ((congrFun (f26 9 (by decide)) 0).trans (congrFun (f11 9 (by decide)) 0)) ((f26 10 (by decide)).trans (f11 10 (by decide))) ((f26 11 (by decide)).trans (f11 11 (by decide))) hI9
      have I39 : jI12 σ24 := jI12_fr ((congrFun (f26 12 (by decide)) 0).trans (congrFun (f11 12 (by decide)) 0)) ((f26 13 (by decide)).trans (f11 13 (by decide))) hI12
      have I40 : jI16 σ24 := jI16_fr ((congrFun (f26 16 (by decide)) 0).trans (congrFun (f11 16 (by decide)) 0)) ((congrFun (f26 16 (by decide)) 1).trans (congrFun (f11 16 (by decide)) 1)) ((congrFun (f26 16 (by decide)) 2).trans (congrFun (f11 16 (by decide)) 2)) ((f26 17 (by decide)).trans (f11 17 (by decide))) hI16
      have I41 : jI18 σ24 := jI18_fr ((congrFun (f26 18 (by decide)) 0).trans (congrFun (f11 18 (by decide)) 0)) ((f26 19 (by decide)).trans (f11 19 (by decide))) hI18
      have I42 : jI22 σ24 := jI22_fr ((congrFun (f26 22 (by decide)) 0).trans (congrFun (f11 22 (by decide)) 0)) ((f26 23 (by decide)).trans (f11 23 (by decide))) hI22
      have I43 : jI31 σ24 := jI31_fr ((congrFun (f26 31 (by decide)) 8).trans (congrFun (f11 31 (by decide)) 8)) ((f26 33 (by decide)).trans (f11 33 (by decide))) ((f26 36 (by decide)).trans (f11 36 (by decide))) hI31
      have I44 : jI38 σ24 := jI38_fr ((congrFun (f26 38 (by decide)) 0).trans (congrFun (f11 38 (by decide)) 0)) ((congrFun (f26 38 (by decide)) 1).trans (congrFun (f11 38 (by decide)) 1)) ((f26 39 (by decide)).trans (f11 39 (by decide))) hI38
      have I45 : jI43 σ24 := jI43_fr ((congrFun (f26 43 (by decide)) 8).trans (congrFun (f11 43 (by decide)) 8)) hI43
      have I46 : jI47 σ24 := jI47_fr ((congrFun (f26 47 (by decide)) 0).trans (congrFun (f11 47 (by decide)) 0)) ((f26 48 (by decide)).trans (f11 48 (by decide))) ((f26 49 (by decide)).trans (f11 49 (by decide))) hI47
      have I47 : jI50 σ24 := jI50_fr ((f26 52 (by decide)).trans (f11 52 (by decide))) hI50
      have I48 : jI102 σ24 := jI102_fr ((f27 6 (by decide)).trans (congrFun (f11 55 (by decide)) 6)) ((f26 60 (by decide)).trans (f11 60 (by decide))) ((f26 61 (by decide)).trans (f11 61 (by decide))) hI102
      have I49 : jI103 σ24 := jI103_fr ((f27 9 (by decide)).trans (congrFun (f11 55 (by decide)) 9)) hI103
      have I50 : jI104 σ24 := jI104_fr ((f27 10 (by decide)).trans (congrFun (f11 55 (by decide)) 10)) ((f27 12 (by decide)).trans (congrFun (f11 55 (by decide)) 12)) ((f27 13 (by decide)).trans (congrFun (f11 55 (by decide)) 13)) ((f26 62 (by decide)).trans (f11 62 (by decide))) ((f26 67 (by decide)).trans (f11 67 (by decide))) hI104
      have I51 : jI105 σ24 := jI105_fr ((f27 15 (by decide)).trans (congrFun (f11 55 (by decide)) 15)) ((f26 65 (by decide)).trans (f11 65 (by decide))) hI105
      have I52 : jI106 σ24 := jI106_fr ((f27 32 (by decide)).trans (congrFun (f11 55 (by decide)) 32)) ((f26 70 (by decide)).trans (f11 70 (by decide))) ((f26 71 (by decide)).trans (f11 71 (by decide))) ((f26 72 (by decide)).trans (f11 72 (by decide))) hI106
      have I53 : jI107 σ24 := jI107_fr ((f27 12 (by decide)).trans (congrFun (f11 55 (by decide)) 12)) ((f27 47 (by decide)).trans (congrFun (f11 55 (by decide)) 47)) ((f26 80 (by decide)).trans (f11 80 (by decide))) hI107
      have I54 : jI109 σ24 := jI109_fr ((f27 50 (by decide)).trans (congrFun (f11 55 (by decide)) 50)) hI109
      have I55 : jI110 σ24 := jI110_fr ((f26 86 (by decide)).trans (f11 86 (by decide))) ((f26 87 (by decide)).trans (f11 87 (by decide))) hI110
      have I56 : jI111 σ24 := jI111_fr ((f26 79 (by decide)).trans (f11 79 (by decide))) hI111
      have I57 : jI119 σ24 := jI119_fr ((f26 68 (by decide)).trans (f11 68 (by decide))) hI119
      have p58 : jKept σ24 := jKept.fr ((f26 75 (by decide)).trans (f11 75 (by decide))) ((f26 76 (by decide)).trans (f11 76 (by decide))) ((f26 77 (by decide)).trans (f11 77 (by decide))) hs_jKept
      have p59 : jBook σ24 := jBook.fr ((f27 47 (by decide)).trans (congrFun (f11 55 (by decide)) 47)) ((f27 10 (by decide)).trans (congrFun (f11 55 (by decide)) 10)) ((f26 81 (by decide)).trans (f11 81 (by decide))) hs_jBook
      have z60 : (σ24 38 0).toInt = (σ 38 0).toInt := (congrArg Int32.toInt (show σ24 38 0 = (σ 38 0) from ((congrFun (f26 38 (by decide)) 0).trans (congrFun (f11 38 (by decide)) 0))))
      have z61 : (σ24 55 32).toInt = (σ 55 32).toInt := (congrArg Int32.toInt (show σ24 55 32 = (σ 55 32) from ((f27 32 (by decide)).trans (congrFun (f11 55 (by decide)) 32))))
      exact ih x36 σ24 τ _ _ ls (by have h9 := tx36; omega) ⟨I37, I38, I39, I40, I41, I42, I43, I44, I45, I46, I47, I28, I48, I49, I50, I51, I52, I53, I54, I55, I56, I57, p58, p59, (by omega), (show jShP (σ24 51) (σ24 52) (σ24 53) (σ24 86) (σ24 87) (σ24 55 32).toInt by rw [show σ24 51 = σ 51 from ((f26 51 (by decide)).trans (f11 51 (by decide))), show σ24 52 = σ 52 from ((f26 52 (by decide)).trans (f11 52 (by decide))), show σ24 53 = σ 53 from ((f26 53 (by decide)).trans (f11 53 (by decide))), show σ24 86 = σ 86 from ((f26 86 (by decide)).trans (f11 86 (by decide))), show σ24 87 = σ 87 from ((f26 87 (by decide)).trans (f11 87 (by decide)))]; exact (hr0.up (by omega) (by omega))), (show jEl (σ24 51) (σ24 52) (τ 54) (τ 88) by rw [show σ24 51 = σ 51 from ((f26 51 (by decide)).trans (f11 51 (by decide))), show σ24 52 = σ 52 from ((f26 52 (by decide)).trans (f11 52 (by decide)))]; exact hr1)⟩ hP hS (lv_sub hl [0, 1, 2, 3] rfl)
    · obtain ⟨q68, k63, k64, k65, k66, k67⟩ := h31
      refine lv_pop hx hb dL_law_973 rfl ?_
      refine lv_goto (tgt := 1358) hx hb dL_law_974 (by decide) ?_
      obtain ⟨x69, ex69⟩ : ∃ y : Int32, y = x0 + 6 := ⟨_, rfl⟩
      have tx69 : x69.toInt = x0.toInt + 6 := (jadd ex69 rfl jz_6 (by omega) (by omega)).trans (by omega)
      refine lv_iinc (v := x69) (lv' := [(3, .int x69), (2, .ref (ad 55)), (1, .ref (ad 0)), (0, .ref b)]) hx hb dL_law_1358 hl (k := 0) rfl (by rw [ex69]; rfl) (by decide) rfl (fun ls hl => ?_)
      refine lv_goto (tgt := 18) hx hb dL_law_1361 (by decide) ?_
      have I70 : jI2 σ24 := jI2_fr (congrFun (f26 2 (by decide)) 0) (congrFun (f26 2 (by decide)) 1) (congrFun (f26 2 (by decide)) 2) (congrFun (f26 2 (by decide)) 3) (f26 6 (by decide)) I13
      have I71 : jI9 σ24 := jI9_fr ((congrFun (f26 9 (by decide)) 0).trans (congrFun (f11 9 (by decide)) 0)) ((f26 10 (by decide)).trans (f11 10 (by decide))) ((f26 11 (by decide)).trans (f11 11 (by decide))) hI9
      have I72 : jI12 σ24 := jI12_fr ((congrFun (f26 12 (by decide)) 0).trans (congrFun (f11 12 (by decide)) 0)) ((f26 13 (by decide)).trans (f11 13 (by decide))) hI12
      have I73 : jI16 σ24 := jI16_fr ((congrFun (f26 16 (by decide)) 0).trans (congrFun (f11 16 (by decide)) 0)) ((congrFun (f26 16 (by decide)) 1).trans (congrFun (f11 16 (by decide)) 1)) ((congrFun (f26 16 (by decide)) 2).trans (congrFun (f11 16 (by decide)) 2)) ((f26 17 (by decide)).trans (f11 17 (by decide))) hI16
      have I74 : jI18 σ24 := jI18_fr ((congrFun (f26 18 (by decide)) 0).trans (congrFun (f11 18 (by decide)) 0)) ((f26 19 (by decide)).trans (f11 19 (by decide))) hI18
      have I75 : jI22 σ24 := jI22_fr ((congrFun (f26 22 (by decide)) 0).trans (congrFun (f11 22 (by decide)) 0)) ((f26 23 (by decide)).trans (f11 23 (by decide))) hI22
      have I76 : jI31 σ24 := jI31_fr ((congrFun (f26 31 (by decide)) 8).trans (congrFun (f11 31 (by decide)) 8)) ((f26 33 (by decide)).trans (f11 33 (by decide))) ((f26 36 (by decide)).trans (f11 36 (by decide))) hI31
      have I77 : jI38 σ24 := jI38_fr ((congrFun (f26 38 (by decide)) 0).trans (congrFun (f11 38 (by decide)) 0)) ((congrFun (f26 38 (by decide)) 1).trans (congrFun (f11 38 (by decide)) 1)) ((f26 39 (by decide)).trans (f11 39 (by decide))) hI38
      have I78 : jI43 σ24 := jI43_fr ((congrFun (f26 43 (by decide)) 8).trans (congrFun (f11 43 (by decide)) 8)) hI43
      have I79 : jI47 σ24 := jI47_fr ((congrFun (f26 47 (by decide)) 0).trans (congrFun (f11 47 (by decide)) 0)) ((f26 48 (by decide)).trans (f11 48 (by decide))) ((f26 49 (by decide)).trans (f11 49 (by decide))) hI47
      have I80 : jI50 σ24 := jI50_fr ((f26 52 (by decide)).trans (f11 52 (by decide))) hI50
      have I81 : jI102 σ24 := jI102_fr ((f27 6 (by decide)).trans (congrFun (f11 55 (by decide)) 6)) ((f26 60 (by decide)).trans (f11 60 (by decide))) ((f26 61 (by decide)).trans (f11 61 (by decide))) hI102
      have I82 : jI103 σ24 := jI103_fr ((f27 9 (by decide)).trans (congrFun (f11 55 (by decide)) 9)) hI103
      have I83 : jI104 σ24 := jI104_fr ((f27 10 (by decide)).trans (congrFun (f11 55 (by decide)) 10)) ((f27 12 (by decide)).trans (congrFun (f11 55 (by decide)) 12)) ((f27 13 (by decide)).trans (congrFun (f11 55 (by decide)) 13)) ((f26 62 (by decide)).trans (f11 62 (by decide))) ((f26 67 (by decide)).trans (f11 67 (by decide))) hI104
      have I84 : jI105 σ24 := jI105_fr ((f27 15 (by decide)).trans (congrFun (f11 55 (by decide)) 15)) ((f26 65 (by decide)).trans (f11 65 (by decide))) hI105
      have I85 : jI106 σ24 := jI106_fr ((f27 32 (by decide)).trans (congrFun (f11 55 (by decide)) 32)) ((f26 70 (by decide)).trans (f11 70 (by decide))) ((f26 71 (by decide)).trans (f11 71 (by decide))) ((f26 72 (by decide)).trans (f11 72 (by decide))) hI106
      have I86 : jI107 σ24 := jI107_fr ((f27 12 (by decide)).trans (congrFun (f11 55 (by decide)) 12)) ((f27 47 (by decide)).trans (congrFun (f11 55 (by decide)) 47)) ((f26 80 (by decide)).trans (f11 80 (by decide))) hI107
      have I87 : jI109 σ24 := jI109_fr ((f27 50 (by decide)).trans (congrFun (f11 55 (by decide)) 50)) hI109
      have I88 : jI110 σ24 := jI110_fr ((f26 86 (by decide)).trans (f11 86 (by decide))) ((f26 87 (by decide)).trans (f11 87 (by decide))) hI110
      have I89 : jI111 σ24 := jI111_fr ((f26 79 (by decide)).trans (f11 79 (by decide))) hI111
      have I90 : jI119 σ24 := jI119_fr ((f26 68 (by decide)).trans (f11 68 (by decide))) hI119
      have p91 : jKept σ24 := jKept.fr ((f26 75 (by decide)).trans (f11 75 (by decide))) ((f26 76 (by decide)).trans (f11 76 (by decide))) ((f26 77 (by decide)).trans (f11 77 (by decide))) hs_jKept
      have p92 : jBook σ24 := jBook.fr ((f27 47 (by decide)).trans (congrFun (f11 55 (by decide)) 47)) ((f27 10 (by decide)).trans (congrFun (f11 55 (by decide)) 10)) ((f26 81 (by decide)).trans (f11 81 (by decide))) hs_jBook
      have z93 : (σ24 38 0).toInt = (σ 38 0).toInt := (congrArg Int32.toInt (show σ24 38 0 = (σ 38 0) from ((congrFun (f26 38 (by decide)) 0).trans (congrFun (f11 38 (by decide)) 0))))
      have z94 : (σ24 55 32).toInt = (σ 55 32).toInt := (congrArg Int32.toInt (show σ24 55 32 = (σ 55 32) from ((f27 32 (by decide)).trans (congrFun (f11 55 (by decide)) 32))))
      exact ih x69 σ24 τ _ _ ls (by have h9 := tx69; omega) ⟨I70, I71, I72, I73, I74, I75, I76, I77, I78, I79, I80, I28, I81, I82, I83, I84, I85, I86, I87, I88, I89, I90, p91, p92, (by omega), (show jShP (σ24 51) (σ24 52) (σ24 53) (σ24 86) (σ24 87) (σ24 55 32).toInt by rw [show σ24 51 = σ 51 from ((f26 51 (by decide)).trans (f11 51 (by decide))), show σ24 52 = σ 52 from ((f26 52 (by decide)).trans (f11 52 (by decide))), show σ24 53 = σ 53 from ((f26 53 (by decide)).trans (f11 53 (by decide))), show σ24 86 = σ 86 from ((f26 86 (by decide)).trans (f11 86 (by decide))), show σ24 87 = σ 87 from ((f26 87 (by decide)).trans (f11 87 (by decide)))]; exact (hr0.up (by omega) (by omega))), (show jEl (σ24 51) (σ24 52) (τ 54) (τ 88) by rw [show σ24 51 = σ 51 from ((f26 51 (by decide)).trans (f11 51 (by decide))), show σ24 52 = σ 52 from ((f26 52 (by decide)).trans (f11 52 (by decide)))]; exact hr1)⟩ hP hS (lv_sub hl [0, 1, 2, 3] rfl)
  · obtain ⟨q102, k96, k97, k98, k99, k100, k101⟩ := h16
    refine lv_pop hx hb dL_law_968 rfl ?_
    refine lv_aload_n hx hb dL_law_969 rfl (lv_at hl 1 rfl) ?_
    have I103 : jI101 σ9 := jI101_fr (congrFun (f11 55 (by decide)) 4) (congrFun (f11 55 (by decide)) 5) (f11 56 (by decide)) (f11 57 (by decide)) (f11 58 (by decide)) (f11 59 (by decide)) hI101
    have z104 : (σ9 55 5).toInt = (σ 55 5).toInt := (congrArg Int32.toInt (show σ9 55 5 = (σ 55 5) from (congrFun (f11 55 (by decide)) 5)))
    refine jcallV (As := []) (rest := []) ⟨hx, hb, hml, hown, hts⟩ hK hP hA hS hZ (c_X12_undo l D cI cL ad zz hJ σ9 τ I103) cw_RL_124 (jc_55 cI cL ad σ9 τ) rfl ⟨Nat.le_of_ble_eq_true rfl, Nat.le_of_ble_eq_true rfl⟩ rfl rfl rfl hl.1 rfl (Nat.le_of_ble_eq_true rfl) dL_law_970 ⟨Nat.le_of_ble_eq_true rfl, Nat.le_of_ble_eq_true rfl⟩ (fun r106 σ105 τ105 H locs h105 hP hS => ?_)
    obtain ⟨rfl, f107, f108, I109, h105⟩ := h105
    rcases h105 with h111 | h112
    · obtain ⟨q116, k113, k114, k115⟩ := h111
      have q116 := q116.symm
      subst q116
      refine lv_pop hx hb dL_law_973 rfl ?_
      refine lv_goto (tgt := 1358) hx hb dL_law_974 (by decide) ?_
      obtain ⟨x117, ex117⟩ : ∃ y : Int32, y = x0 + 6 := ⟨_, rfl⟩
      have tx117 : x117.toInt = x0.toInt + 6 := (jadd ex117 rfl jz_6 (by omega) (by omega)).trans (by omega)
      refine lv_iinc (v := x117) (lv' := [(3, .int x117), (2, .ref (ad 55)), (1, .ref (ad 0)), (0, .ref b)]) hx hb dL_law_1358 hl (k := 0) rfl (by rw [ex117]; rfl) (by decide) rfl (fun ls hl => ?_)
      refine lv_goto (tgt := 18) hx hb dL_law_1361 (by decide) ?_
      have I118 : jI2 σ105 := jI2_fr (congrFun (f107 2 (by decide)) 0) (congrFun (f107 2 (by decide)) 1) (congrFun (f107 2 (by decide)) 2) (congrFun (f107 2 (by decide)) 3) (f107 6 (by decide)) I13
      have I119 : jI9 σ105 := jI9_fr ((congrFun (f107 9 (by decide)) 0).trans (congrFun (f11 9 (by decide)) 0)) ((f107 10 (by decide)).trans (f11 10 (by decide))) ((f107 11 (by decide)).trans (f11 11 (by decide))) hI9
      have I120 : jI12 σ105 := jI12_fr ((congrFun (f107 12 (by decide)) 0).trans (congrFun (f11 12 (by decide)) 0)) ((f107 13 (by decide)).trans (f11 13 (by decide))) hI12
      have I121 : jI16 σ105 := jI16_fr ((congrFun (f107 16 (by decide)) 0).trans (congrFun (f11 16 (by decide)) 0)) ((congrFun (f107 16 (by decide)) 1).trans (congrFun (f11 16 (by decide)) 1)) ((congrFun (f107 16 (by decide)) 2).trans (congrFun (f11 16 (by decide)) 2)) ((f107 17 (by decide)).trans (f11 17 (by decide))) hI16
      have I122 : jI18 σ105 := jI18_fr ((congrFun (f107 18 (by decide)) 0).trans (congrFun (f11 18 (by decide)) 0)) ((f107 19 (by decide)).trans (f11 19 (by decide))) hI18
      have I123 : jI22 σ105 := jI22_fr ((congrFun (f107 22 (by decide)) 0).trans (congrFun (f11 22 (by decide)) 0)) ((f107 23 (by decide)).trans (f11 23 (by decide))) hI22
      have I124 : jI31 σ105 := jI31_fr ((congrFun (f107 31 (by decide)) 8).trans (congrFun (f11 31 (by decide)) 8)) ((f107 33 (by decide)).trans (f11 33 (by decide))) ((f107 36 (by decide)).trans (f11 36 (by decide))) hI31
      have I125 : jI38 σ105 := jI38_fr ((congrFun (f107 38 (by decide)) 0).trans (congrFun (f11 38 (by decide)) 0)) ((congrFun (f107 38 (by decide)) 1).trans (congrFun (f11 38 (by decide)) 1)) ((f107 39 (by decide)).trans (f11 39 (by decide))) hI38
      have I126 : jI43 σ105 := jI43_fr ((congrFun (f107 43 (by decide)) 8).trans (congrFun (f11 43 (by decide)) 8)) hI43
      have I127 : jI47 σ105 := jI47_fr ((congrFun (f107 47 (by decide)) 0).trans (congrFun (f11 47 (by decide)) 0)) ((f107 48 (by decide)).trans (f11 48 (by decide))) ((f107 49 (by decide)).trans (f11 49 (by decide))) hI47
      have I128 : jI50 σ105 := jI50_fr ((f107 52 (by decide)).trans (f11 52 (by decide))) hI50
      have I129 : jI102 σ105 := jI102_fr ((f108 6 (by decide)).trans (congrFun (f11 55 (by decide)) 6)) ((f107 60 (by decide)).trans (f11 60 (by decide))) ((f107 61 (by decide)).trans (f11 61 (by decide))) hI102
      have I130 : jI103 σ105 := jI103_fr ((f108 9 (by decide)).trans (congrFun (f11 55 (by decide)) 9)) hI103
      have I131 : jI104 σ105 := jI104_fr ((f108 10 (by decide)).trans (congrFun (f11 55 (by decide)) 10)) ((f108 12 (by decide)).trans (congrFun (f11 55 (by decide)) 12)) ((f108 13 (by decide)).trans (congrFun (f11 55 (by decide)) 13)) ((f107 62 (by decide)).trans (f11 62 (by decide))) ((f107 67 (by decide)).trans (f11 67 (by decide))) hI104
      have I132 : jI105 σ105 := jI105_fr ((f108 15 (by decide)).trans (congrFun (f11 55 (by decide)) 15)) ((f107 65 (by decide)).trans (f11 65 (by decide))) hI105
      have I133 : jI106 σ105 := jI106_fr ((f108 32 (by decide)).trans (congrFun (f11 55 (by decide)) 32)) ((f107 70 (by decide)).trans (f11 70 (by decide))) ((f107 71 (by decide)).trans (f11 71 (by decide))) ((f107 72 (by decide)).trans (f11 72 (by decide))) hI106
      have I134 : jI107 σ105 := jI107_fr ((f108 12 (by decide)).trans (congrFun (f11 55 (by decide)) 12)) ((f108 47 (by decide)).trans (congrFun (f11 55 (by decide)) 47)) ((f107 80 (by decide)).trans (f11 80 (by decide))) hI107
      have I135 : jI109 σ105 := jI109_fr ((f108 50 (by decide)).trans (congrFun (f11 55 (by decide)) 50)) hI109
      have I136 : jI110 σ105 := jI110_fr ((f107 86 (by decide)).trans (f11 86 (by decide))) ((f107 87 (by decide)).trans (f11 87 (by decide))) hI110
      have I137 : jI111 σ105 := jI111_fr ((f107 79 (by decide)).trans (f11 79 (by decide))) hI111
      have I138 : jI119 σ105 := jI119_fr ((f107 68 (by decide)).trans (f11 68 (by decide))) hI119
      have p139 : jKept σ105 := jKept.fr ((f107 75 (by decide)).trans (f11 75 (by decide))) ((f107 76 (by decide)).trans (f11 76 (by decide))) ((f107 77 (by decide)).trans (f11 77 (by decide))) hs_jKept
      have p140 : jBook σ105 := jBook.fr ((f108 47 (by decide)).trans (congrFun (f11 55 (by decide)) 47)) ((f108 10 (by decide)).trans (congrFun (f11 55 (by decide)) 10)) ((f107 81 (by decide)).trans (f11 81 (by decide))) hs_jBook
      have z141 : (σ105 38 0).toInt = (σ 38 0).toInt := (congrArg Int32.toInt (show σ105 38 0 = (σ 38 0) from ((congrFun (f107 38 (by decide)) 0).trans (congrFun (f11 38 (by decide)) 0))))
      have z142 : (σ105 55 32).toInt = (σ 55 32).toInt := (congrArg Int32.toInt (show σ105 55 32 = (σ 55 32) from ((f108 32 (by decide)).trans (congrFun (f11 55 (by decide)) 32))))
      exact ih x117 σ105 τ _ _ ls (by have h9 := tx117; omega) ⟨I118, I119, I120, I121, I122, I123, I124, I125, I126, I127, I128, I109, I129, I130, I131, I132, I133, I134, I135, I136, I137, I138, p139, p140, (by omega), (show jShP (σ105 51) (σ105 52) (σ105 53) (σ105 86) (σ105 87) (σ105 55 32).toInt by rw [show σ105 51 = σ 51 from ((f107 51 (by decide)).trans (f11 51 (by decide))), show σ105 52 = σ 52 from ((f107 52 (by decide)).trans (f11 52 (by decide))), show σ105 53 = σ 53 from ((f107 53 (by decide)).trans (f11 53 (by decide))), show σ105 86 = σ 86 from ((f107 86 (by decide)).trans (f11 86 (by decide))), show σ105 87 = σ 87 from ((f107 87 (by decide)).trans (f11 87 (by decide)))]; exact (hr0.up (by omega) (by omega))), (show jEl (σ105 51) (σ105 52) (τ 54) (τ 88) by rw [show σ105 51 = σ 51 from ((f107 51 (by decide)).trans (f11 51 (by decide))), show σ105 52 = σ 52 from ((f107 52 (by decide)).trans (f11 52 (by decide)))]; exact hr1)⟩ hP hS (lv_sub hl [0, 1, 2, 3] rfl)
    · obtain ⟨q149, k144, k145, k146, k147, k148⟩ := h112
      refine lv_pop hx hb dL_law_973 rfl ?_
      refine lv_goto (tgt := 1358) hx hb dL_law_974 (by decide) ?_
      obtain ⟨x150, ex150⟩ : ∃ y : Int32, y = x0 + 6 := ⟨_, rfl⟩
      have tx150 : x150.toInt = x0.toInt + 6 := (jadd ex150 rfl jz_6 (by omega) (by omega)).trans (by omega)
      refine lv_iinc (v := x150) (lv' := [(3, .int x150), (2, .ref (ad 55)), (1, .ref (ad 0)), (0, .ref b)]) hx hb dL_law_1358 hl (k := 0) rfl (by rw [ex150]; rfl) (by decide) rfl (fun ls hl => ?_)
      refine lv_goto (tgt := 18) hx hb dL_law_1361 (by decide) ?_
      have I151 : jI2 σ105 := jI2_fr (congrFun (f107 2 (by decide)) 0) (congrFun (f107 2 (by decide)) 1) (congrFun (f107 2 (by decide)) 2) (congrFun (f107 2 (by decide)) 3) (f107 6 (by decide)) I13
      have I152 : jI9 σ105 := jI9_fr ((congrFun (f107 9 (by decide)) 0).trans (congrFun (f11 9 (by decide)) 0)) ((f107 10 (by decide)).trans (f11 10 (by decide))) ((f107 11 (by decide)).trans (f11 11 (by decide))) hI9
      have I153 : jI12 σ105 := jI12_fr ((congrFun (f107 12 (by decide)) 0).trans (congrFun (f11 12 (by decide)) 0)) ((f107 13 (by decide)).trans (f11 13 (by decide))) hI12
      have I154 : jI16 σ105 := jI16_fr ((congrFun (f107 16 (by decide)) 0).trans (congrFun (f11 16 (by decide)) 0)) ((congrFun (f107 16 (by decide)) 1).trans (congrFun (f11 16 (by decide)) 1)) ((congrFun (f107 16 (by decide)) 2).trans (congrFun (f11 16 (by decide)) 2)) ((f107 17 (by decide)).trans (f11 17 (by decide))) hI16
      have I155 : jI18 σ105 := jI18_fr ((congrFun (f107 18 (by decide)) 0).trans (congrFun (f11 18 (by decide)) 0)) ((f107 19 (by decide)).trans (f11 19 (by decide))) hI18
      have I156 : jI22 σ105 := jI22_fr ((congrFun (f107 22 (by decide)) 0).trans (congrFun (f11 22 (by decide)) 0)) ((f107 23 (by decide)).trans (f11 23 (by decide))) hI22
      have I157 : jI31 σ105 := jI31_fr ((congrFun (f107 31 (by decide)) 8).trans (congrFun (f11 31 (by decide)) 8)) ((f107 33 (by decide)).trans (f11 33 (by decide))) ((f107 36 (by decide)).trans (f11 36 (by decide))) hI31
      have I158 : jI38 σ105 := jI38_fr ((congrFun (f107 38 (by decide)) 0).trans (congrFun (f11 38 (by decide)) 0)) ((congrFun (f107 38 (by decide)) 1).trans (congrFun (f11 38 (by decide)) 1)) ((f107 39 (by decide)).trans (f11 39 (by decide))) hI38
      have I159 : jI43 σ105 := jI43_fr ((congrFun (f107 43 (by decide)) 8).trans (congrFun (f11 43 (by decide)) 8)) hI43
      have I160 : jI47 σ105 := jI47_fr ((congrFun (f107 47 (by decide)) 0).trans (congrFun (f11 47 (by decide)) 0)) ((f107 48 (by decide)).trans (f11 48 (by decide))) ((f107 49 (by decide)).trans (f11 49 (by decide))) hI47
      have I161 : jI50 σ105 := jI50_fr ((f107 52 (by decide)).trans (f11 52 (by decide))) hI50
      have I162 : jI102 σ105 := jI102_fr ((f108 6 (by decide)).trans (congrFun (f11 55 (by decide)) 6)) ((f107 60 (by decide)).trans (f11 60 (by decide))) ((f107 61 (by decide)).trans (f11 61 (by decide))) hI102
      have I163 : jI103 σ105 := jI103_fr ((f108 9 (by decide)).trans (congrFun (f11 55 (by decide)) 9)) hI103
      have I164 : jI104 σ105 := jI104_fr ((f108 10 (by decide)).trans (congrFun (f11 55 (by decide)) 10)) ((f108 12 (by decide)).trans (congrFun (f11 55 (by decide)) 12)) ((f108 13 (by decide)).trans (congrFun (f11 55 (by decide)) 13)) ((f107 62 (by decide)).trans (f11 62 (by decide))) ((f107 67 (by decide)).trans (f11 67 (by decide))) hI104
      have I165 : jI105 σ105 := jI105_fr ((f108 15 (by decide)).trans (congrFun (f11 55 (by decide)) 15)) ((f107 65 (by decide)).trans (f11 65 (by decide))) hI105
      have I166 : jI106 σ105 := jI106_fr ((f108 32 (by decide)).trans (congrFun (f11 55 (by decide)) 32)) ((f107 70 (by decide)).trans (f11 70 (by decide))) ((f107 71 (by decide)).trans (f11 71 (by decide))) ((f107 72 (by decide)).trans (f11 72 (by decide))) hI106
      have I167 : jI107 σ105 := jI107_fr ((f108 12 (by decide)).trans (congrFun (f11 55 (by decide)) 12)) ((f108 47 (by decide)).trans (congrFun (f11 55 (by decide)) 47)) ((f107 80 (by decide)).trans (f11 80 (by decide))) hI107
      have I168 : jI109 σ105 := jI109_fr ((f108 50 (by decide)).trans (congrFun (f11 55 (by decide)) 50)) hI109
      have I169 : jI110 σ105 := jI110_fr ((f107 86 (by decide)).trans (f11 86 (by decide))) ((f107 87 (by decide)).trans (f11 87 (by decide))) hI110
      have I170 : jI111 σ105 := jI111_fr ((f107 79 (by decide)).trans (f11 79 (by decide))) hI111
      have I171 : jI119 σ105 := jI119_fr ((f107 68 (by decide)).trans (f11 68 (by decide))) hI119
      have p172 : jKept σ105 := jKept.fr ((f107 75 (by decide)).trans (f11 75 (by decide))) ((f107 76 (by decide)).trans (f11 76 (by decide))) ((f107 77 (by decide)).trans (f11 77 (by decide))) hs_jKept
      have p173 : jBook σ105 := jBook.fr ((f108 47 (by decide)).trans (congrFun (f11 55 (by decide)) 47)) ((f108 10 (by decide)).trans (congrFun (f11 55 (by decide)) 10)) ((f107 81 (by decide)).trans (f11 81 (by decide))) hs_jBook
      have z174 : (σ105 38 0).toInt = (σ 38 0).toInt := (congrArg Int32.toInt (show σ105 38 0 = (σ 38 0) from ((congrFun (f107 38 (by decide)) 0).trans (congrFun (f11 38 (by decide)) 0))))
      have z175 : (σ105 55 32).toInt = (σ 55 32).toInt := (congrArg Int32.toInt (show σ105 55 32 = (σ 55 32) from ((f108 32 (by decide)).trans (congrFun (f11 55 (by decide)) 32))))
      exact ih x150 σ105 τ _ _ ls (by have h9 := tx150; omega) ⟨I151, I152, I153, I154, I155, I156, I157, I158, I159, I160, I161, I109, I162, I163, I164, I165, I166, I167, I168, I169, I170, I171, p172, p173, (by omega), (show jShP (σ105 51) (σ105 52) (σ105 53) (σ105 86) (σ105 87) (σ105 55 32).toInt by rw [show σ105 51 = σ 51 from ((f107 51 (by decide)).trans (f11 51 (by decide))), show σ105 52 = σ 52 from ((f107 52 (by decide)).trans (f11 52 (by decide))), show σ105 53 = σ 53 from ((f107 53 (by decide)).trans (f11 53 (by decide))), show σ105 86 = σ 86 from ((f107 86 (by decide)).trans (f11 86 (by decide))), show σ105 87 = σ 87 from ((f107 87 (by decide)).trans (f11 87 (by decide)))]; exact (hr0.up (by omega) (by omega))), (show jEl (σ105 51) (σ105 52) (τ 54) (τ 88) by rw [show σ105 51 = σ 51 from ((f107 51 (by decide)).trans (f11 51 (by decide))), show σ105 52 = σ 52 from ((f107 52 (by decide)).trans (f11 52 (by decide)))]; exact hr1)⟩ hP hS (lv_sub hl [0, 1, 2, 3] rfl)
set_option maxHeartbeats 4000000 in
set_option maxRecDepth 100000 in
theorem law_case_27 {p : Program} {e : Env} {s : State} {m : MethodId} {below : List Frame} {meth : Method} {c : Code} (l : Launch) {b L : Nat} {xs : Nat → Int32} {D : va_G} {cI cL : ClassId} {ad zz : Nat → Nat} (C0 : lw_At p s m meth c b L xs) (hJ : jD ad) (hA : ∀ q, jA ad q → s.heap.size ≤ q) (hK : jK D cI cL s) (hZ : jZ zz (fun q : Nat => s.heap.size ≤ q) s s.heap) {x0 : Int32} (hx0 : 0 ≤ x0.toInt) (hxL : x0.toInt + 6 ≤ (L : Int)) (hL : L ≤ 384) {σ : Nat → Nat → Int32} {τ : Nat → Nat → Int64} {H : Heap} {locs : List Loc} (hS : va_S (fun q : Nat => s.heap.size ≤ q) s.heap H locs) {ls : Array Slot} (hAll : jAll σ τ) (hP : jH D cI cL ad σ τ H) (hl : lv_has ls 4 [(3, .int x0), (2, .ref (ad 55)), (1, .ref (ad 0)), (0, .ref b)]) (ih : ∀ (x1 : Int32) (σ : Nat → Nat → Int32) (τ : Nat → Nat → Int64) (H : Heap) (locs : List Loc) (ls : Array Slot), x1.toInt = x0.toInt + 6 → jAll σ τ → jH D cI cL ad σ τ H → va_S (fun q : Nat => s.heap.size ≤ q) s.heap H locs → lv_has ls 4 [(3, .int x1), (2, .ref (ad 55)), (1, .ref (ad 0)), (0, .ref b)] → W p l e room_1 s m #[Value.ref b] below meth c H locs 90 348600 (lw_Z below #[Value.ref b] s) (F0 m 18 ls [])) : W p l e room_1 s m #[Value.ref b] below meth c H locs 90 348600 (lw_Z below #[Value.ref b] s) (F0 m 977 ls []) := by
  obtain ⟨hx, hb, hr, hml, hown, hts0, hX, hbl, hlocks, hgv⟩ := C0
  have hts : ∀ w ∈ wsL_law, w.before #[Value.ref b] s = true := fun w h => hts0 w (wsL_law_in w h)
  have hbA : ¬ (fun q : Nat => s.heap.size ≤ q) b := Nat.not_le.mpr hbl
  have hown : s.vm.findClass RL = some m.cls := hown
  obtain ⟨hI2, hI9, hI12, hI16, hI18, hI22, hI31, hI38, hI43, hI47, hI50, hI101, hI102, hI103, hI104, hI105, hI106, hI107, hI109, hI110, hI111, hI119, hs_jKept, hs_jBook, ht0, hr0, hr1⟩ := hAll
  have hL9 : (L : Int) ≤ 384 := by omega
  obtain ⟨i1, i2, w3⟩ : (0 ≤ (σ 38 0).toInt ∧ (σ 38 0).toInt ≤ 20) ∧ (0 ≤ (σ 38 1).toInt ∧ (σ 38 1).toInt ≤ 1000) ∧ (∀ k : Nat, k < 20 → 0 ≤ (σ 39 k).toInt ∧ (σ 39 k).toInt ≤ 6) := id hI38
  have w4 : ∀ k : Nat, k < 6 → 0 ≤ (σ 52 k).toInt ∧ (σ 52 k).toInt ≤ 60 := hI50
  obtain ⟨i5, w6, w7, w8⟩ : (0 ≤ (σ 55 32).toInt ∧ (σ 55 32).toInt ≤ 20) ∧ (∀ k : Nat, k < 20 → 0 ≤ (σ 70 k).toInt ∧ (σ 70 k).toInt ≤ 6) ∧ (∀ k : Nat, k < 20 → 0 ≤ (σ 71 k).toInt ∧ (σ 71 k).toInt ≤ 8) ∧ (∀ k : Nat, k < 160 → 0 ≤ (σ 72 k).toInt ∧ (σ 72 k).toInt ≤ 3) := id hI106
  refine lv_aload_n hx hb dL_law_977 rfl (lv_at hl 2 rfl) ?_
  refine jcallV (As := []) (rest := []) ⟨hx, hb, hml, hown, hts⟩ hK hP hA hS hZ (c_X11_redo l D cI cL ad zz hJ σ τ hI2) cw_RL_125 (jc_0 cI cL ad σ τ) rfl ⟨Nat.le_of_ble_eq_true rfl, Nat.le_of_ble_eq_true rfl⟩ rfl rfl rfl hl.1 rfl (Nat.le_of_ble_eq_true rfl) dL_law_978 ⟨Nat.le_of_ble_eq_true rfl, Nat.le_of_ble_eq_true rfl⟩ (fun r10 σ9 τ9 H locs h9 hP hS => ?_)
  obtain ⟨rfl, f11, f12, I13, h9⟩ := h9
  rcases h9 with h15 | h16
  · obtain ⟨q21, k17, k18, k19, k20⟩ := h15
    have q21 := q21.symm
    subst q21
    refine lv_pop hx hb dL_law_981 rfl ?_
    refine lv_aload_n hx hb dL_law_982 rfl (lv_at hl 1 rfl) ?_
    have I22 : jI101 σ9 := jI101_fr (congrFun (f11 55 (by decide)) 4) (congrFun (f11 55 (by decide)) 5) (f11 56 (by decide)) (f11 57 (by decide)) (f11 58 (by decide)) (f11 59 (by decide)) hI101
    have z23 : (σ9 55 5).toInt = (σ 55 5).toInt := (congrArg Int32.toInt (show σ9 55 5 = (σ 55 5) from (congrFun (f11 55 (by decide)) 5)))
    have z24 : (σ9 55 4).toInt = (σ 55 4).toInt := (congrArg Int32.toInt (show σ9 55 4 = (σ 55 4) from (congrFun (f11 55 (by decide)) 4)))
    refine jcallV (As := []) (rest := []) ⟨hx, hb, hml, hown, hts⟩ hK hP hA hS hZ (c_X12_redo l D cI cL ad zz hJ σ9 τ I22) cw_RL_128 (jc_55 cI cL ad σ9 τ) rfl ⟨Nat.le_of_ble_eq_true rfl, Nat.le_of_ble_eq_true rfl⟩ rfl rfl rfl hl.1 rfl (Nat.le_of_ble_eq_true rfl) dL_law_983 ⟨Nat.le_of_ble_eq_true rfl, Nat.le_of_ble_eq_true rfl⟩ (fun r26 σ25 τ25 H locs h25 hP hS => ?_)
    obtain ⟨rfl, f27, f28, I29, h25⟩ := h25
    rcases h25 with h31 | h32
    · obtain ⟨q36, k33, k34, k35⟩ := h31
      have q36 := q36.symm
      subst q36
      refine lv_pop hx hb dL_law_986 rfl ?_
      refine lv_goto (tgt := 1358) hx hb dL_law_987 (by decide) ?_
      obtain ⟨x37, ex37⟩ : ∃ y : Int32, y = x0 + 6 := ⟨_, rfl⟩
      have tx37 : x37.toInt = x0.toInt + 6 := (jadd ex37 rfl jz_6 (by omega) (by omega)).trans (by omega)
      refine lv_iinc (v := x37) (lv' := [(3, .int x37), (2, .ref (ad 55)), (1, .ref (ad 0)), (0, .ref b)]) hx hb dL_law_1358 hl (k := 0) rfl (by rw [ex37]; rfl) (by decide) rfl (fun ls hl => ?_)
      refine lv_goto (tgt := 18) hx hb dL_law_1361 (by decide) ?_
      have I38 : jI2 σ25 := jI2_fr (congrFun (f27 2 (by decide)) 0) (congrFun (f27 2 (by decide)) 1) (congrFun (f27 2 (by decide)) 2) (congrFun (f27 2 (by decide)) 3) (f27 6 (by decide)) I13
      have I39 : jI9 σ25 := jI9_fr ((congrFun (f27 9 (by decide)) 0).trans (congrFun (f11 9 (by decide)) 0)) ((f27 10 (by decide)).trans (f11 10 (by decide))) ((f27 11 (by decide)).trans (f11 11 (by decide))) hI9
      have I40 : jI12 σ25 := jI12_fr ((congrFun (f27 12 (by decide)) 0).trans (congrFun (f11 12 (by decide)) 0)) ((f27 13 (by decide)).trans (f11 13 (by decide))) hI12
      have I41 : jI16 σ25 := jI16_fr ((congrFun (f27 16 (by decide)) 0).trans (congrFun (f11 16 (by decide)) 0)) ((congrFun (f27 16 (by decide)) 1).trans (congrFun (f11 16 (by decide)) 1)) ((congrFun (f27 16 (by decide)) 2).trans (congrFun (f11 16 (by decide)) 2)) ((f27 17 (by decide)).trans (f11 17 (by decide))) hI16
      have I42 : jI18 σ25 := jI18_fr ((congrFun (f27 18 (by decide)) 0).trans (congrFun (f11 18 (by decide)) 0)) ((f27 19 (by decide)).trans (f11 19 (by decide))) hI18
      have I43 : jI22 σ25 := jI22_fr ((congrFun (f27 22 (by decide)) 0).trans (congrFun (f11 22 (by decide)) 0)) ((f27 23 (by decide)).trans (f11 23 (by decide))) hI22
      have I44 : jI31 σ25 := jI31_fr ((congrFun (f27 31 (by decide)) 8).trans (congrFun (f11 31 (by decide)) 8)) ((f27 33 (by decide)).trans (f11 33 (by decide))) ((f27 36 (by decide)).trans (f11 36 (by decide))) hI31
      have I45 : jI38 σ25 := jI38_fr ((congrFun (f27 38 (by decide)) 0).trans (congrFun (f11 38 (by decide)) 0)) ((congrFun (f27 38 (by decide)) 1).trans (congrFun (f11 38 (by decide)) 1)) ((f27 39 (by decide)).trans (f11 39 (by decide))) hI38
      have I46 : jI43 σ25 := jI43_fr ((congrFun (f27 43 (by decide)) 8).trans (congrFun (f11 43 (by decide)) 8)) hI43
      have I47 : jI47 σ25 := jI47_fr ((congrFun (f27 47 (by decide)) 0).trans (congrFun (f11 47 (by decide)) 0)) ((f27 48 (by decide)).trans (f11 48 (by decide))) ((f27 49 (by decide)).trans (f11 49 (by decide))) hI47
      have I48 : jI50 σ25 := jI50_fr ((f27 52 (by decide)).trans (f11 52 (by decide))) hI50
      have I49 : jI102 σ25 := jI102_fr ((f28 6 (by decide)).trans (congrFun (f11 55 (by decide)) 6)) ((f27 60 (by decide)).trans (f11 60 (by decide))) ((f27 61 (by decide)).trans (f11 61 (by decide))) hI102
      have I50 : jI103 σ25 := jI103_fr ((f28 9 (by decide)).trans (congrFun (f11 55 (by decide)) 9)) hI103
      have I51 : jI104 σ25 := jI104_fr ((f28 10 (by decide)).trans (congrFun (f11 55 (by decide)) 10)) ((f28 12 (by decide)).trans (congrFun (f11 55 (by decide)) 12)) ((f28 13 (by decide)).trans (congrFun (f11 55 (by decide)) 13)) ((f27 62 (by decide)).trans (f11 62 (by decide))) ((f27 67 (by decide)).trans (f11 67 (by decide))) hI104
      have I52 : jI105 σ25 := jI105_fr ((f28 15 (by decide)).trans (congrFun (f11 55 (by decide)) 15)) ((f27 65 (by decide)).trans (f11 65 (by decide))) hI105
      have I53 : jI106 σ25 := jI106_fr ((f28 32 (by decide)).trans (congrFun (f11 55 (by decide)) 32)) ((f27 70 (by decide)).trans (f11 70 (by decide))) ((f27 71 (by decide)).trans (f11 71 (by decide))) ((f27 72 (by decide)).trans (f11 72 (by decide))) hI106
      have I54 : jI107 σ25 := jI107_fr ((f28 12 (by decide)).trans (congrFun (f11 55 (by decide)) 12)) ((f28 47 (by decide)).trans (congrFun (f11 55 (by decide)) 47)) ((f27 80 (by decide)).trans (f11 80 (by decide))) hI107
      have I55 : jI109 σ25 := jI109_fr ((f28 50 (by decide)).trans (congrFun (f11 55 (by decide)) 50)) hI109
      have I56 : jI110 σ25 := jI110_fr ((f27 86 (by decide)).trans (f11 86 (by decide))) ((f27 87 (by decide)).trans (f11 87 (by decide))) hI110
      have I57 : jI111 σ25 := jI111_fr ((f27 79 (by decide)).trans (f11 79 (by decide))) hI111
      have I58 : jI119 σ25 := jI119_fr ((f27 68 (by decide)).trans (f11 68 (by decide))) hI119
      have p59 : jKept σ25 := jKept.fr ((f27 75 (by decide)).trans (f11 75 (by decide))) ((f27 76 (by decide)).trans (f11 76 (by decide))) ((f27 77 (by decide)).trans (f11 77 (by decide))) hs_jKept
      have p60 : jBook σ25 := jBook.fr ((f28 47 (by decide)).trans (congrFun (f11 55 (by decide)) 47)) ((f28 10 (by decide)).trans (congrFun (f11 55 (by decide)) 10)) ((f27 81 (by decide)).trans (f11 81 (by decide))) hs_jBook
      have z61 : (σ25 38 0).toInt = (σ 38 0).toInt := (congrArg Int32.toInt (show σ25 38 0 = (σ 38 0) from ((congrFun (f27 38 (by decide)) 0).trans (congrFun (f11 38 (by decide)) 0))))
      have z62 : (σ25 55 32).toInt = (σ 55 32).toInt := (congrArg Int32.toInt (show σ25 55 32 = (σ 55 32) from ((f28 32 (by decide)).trans (congrFun (f11 55 (by decide)) 32))))
      exact ih x37 σ25 τ _ _ ls (by have h9 := tx37; omega) ⟨I38, I39, I40, I41, I42, I43, I44, I45, I46, I47, I48, I29, I49, I50, I51, I52, I53, I54, I55, I56, I57, I58, p59, p60, (by omega), (show jShP (σ25 51) (σ25 52) (σ25 53) (σ25 86) (σ25 87) (σ25 55 32).toInt by rw [show σ25 51 = σ 51 from ((f27 51 (by decide)).trans (f11 51 (by decide))), show σ25 52 = σ 52 from ((f27 52 (by decide)).trans (f11 52 (by decide))), show σ25 53 = σ 53 from ((f27 53 (by decide)).trans (f11 53 (by decide))), show σ25 86 = σ 86 from ((f27 86 (by decide)).trans (f11 86 (by decide))), show σ25 87 = σ 87 from ((f27 87 (by decide)).trans (f11 87 (by decide)))]; exact (hr0.up (by omega) (by omega))), (show jEl (σ25 51) (σ25 52) (τ 54) (τ 88) by rw [show σ25 51 = σ 51 from ((f27 51 (by decide)).trans (f11 51 (by decide))), show σ25 52 = σ 52 from ((f27 52 (by decide)).trans (f11 52 (by decide)))]; exact hr1)⟩ hP hS (lv_sub hl [0, 1, 2, 3] rfl)
    · obtain ⟨q69, k64, k65, k66, k67, k68⟩ := h32
      refine lv_pop hx hb dL_law_986 rfl ?_
      refine lv_goto (tgt := 1358) hx hb dL_law_987 (by decide) ?_
      obtain ⟨x70, ex70⟩ : ∃ y : Int32, y = x0 + 6 := ⟨_, rfl⟩
      have tx70 : x70.toInt = x0.toInt + 6 := (jadd ex70 rfl jz_6 (by omega) (by omega)).trans (by omega)
      refine lv_iinc (v := x70) (lv' := [(3, .int x70), (2, .ref (ad 55)), (1, .ref (ad 0)), (0, .ref b)]) hx hb dL_law_1358 hl (k := 0) rfl (by rw [ex70]; rfl) (by decide) rfl (fun ls hl => ?_)
      refine lv_goto (tgt := 18) hx hb dL_law_1361 (by decide) ?_
      have I71 : jI2 σ25 := jI2_fr (congrFun (f27 2 (by decide)) 0) (congrFun (f27 2 (by decide)) 1) (congrFun (f27 2 (by decide)) 2) (congrFun (f27 2 (by decide)) 3) (f27 6 (by decide)) I13
      have I72 : jI9 σ25 := jI9_fr ((congrFun (f27 9 (by decide)) 0).trans (congrFun (f11 9 (by decide)) 0)) ((f27 10 (by decide)).trans (f11 10 (by decide))) ((f27 11 (by decide)).trans (f11 11 (by decide))) hI9
      have I73 : jI12 σ25 := jI12_fr ((congrFun (f27 12 (by decide)) 0).trans (congrFun (f11 12 (by decide)) 0)) ((f27 13 (by decide)).trans (f11 13 (by decide))) hI12
      have I74 : jI16 σ25 := jI16_fr ((congrFun (f27 16 (by decide)) 0).trans (congrFun (f11 16 (by decide)) 0)) ((congrFun (f27 16 (by decide)) 1).trans (congrFun (f11 16 (by decide)) 1)) ((congrFun (f27 16 (by decide)) 2).trans (congrFun (f11 16 (by decide)) 2)) ((f27 17 (by decide)).trans (f11 17 (by decide))) hI16
      have I75 : jI18 σ25 := jI18_fr ((congrFun (f27 18 (by decide)) 0).trans (congrFun (f11 18 (by decide)) 0)) ((f27 19 (by decide)).trans (f11 19 (by decide))) hI18
      have I76 : jI22 σ25 := jI22_fr ((congrFun (f27 22 (by decide)) 0).trans (congrFun (f11 22 (by decide)) 0)) ((f27 23 (by decide)).trans (f11 23 (by decide))) hI22
      have I77 : jI31 σ25 := jI31_fr ((congrFun (f27 31 (by decide)) 8).trans (congrFun (f11 31 (by decide)) 8)) ((f27 33 (by decide)).trans (f11 33 (by decide))) ((f27 36 (by decide)).trans (f11 36 (by decide))) hI31
      have I78 : jI38 σ25 := jI38_fr ((congrFun (f27 38 (by decide)) 0).trans (congrFun (f11 38 (by decide)) 0)) ((congrFun (f27 38 (by decide)) 1).trans (congrFun (f11 38 (by decide)) 1)) ((f27 39 (by decide)).trans (f11 39 (by decide))) hI38
      have I79 : jI43 σ25 := jI43_fr ((congrFun (f27 43 (by decide)) 8).trans (congrFun (f11 43 (by decide)) 8)) hI43
      have I80 : jI47 σ25 := jI47_fr ((congrFun (f27 47 (by decide)) 0).trans (congrFun (f11 47 (by decide)) 0)) ((f27 48 (by decide)).trans (f11 48 (by decide))) ((f27 49 (by decide)).trans (f11 49 (by decide))) hI47
      have I81 : jI50 σ25 := jI50_fr ((f27 52 (by decide)).trans (f11 52 (by decide))) hI50
      have I82 : jI102 σ25 := jI102_fr ((f28 6 (by decide)).trans (congrFun (f11 55 (by decide)) 6)) ((f27 60 (by decide)).trans (f11 60 (by decide))) ((f27 61 (by decide)).trans (f11 61 (by decide))) hI102
      have I83 : jI103 σ25 := jI103_fr ((f28 9 (by decide)).trans (congrFun (f11 55 (by decide)) 9)) hI103
      have I84 : jI104 σ25 := jI104_fr ((f28 10 (by decide)).trans (congrFun (f11 55 (by decide)) 10)) ((f28 12 (by decide)).trans (congrFun (f11 55 (by decide)) 12)) ((f28 13 (by decide)).trans (congrFun (f11 55 (by decide)) 13)) ((f27 62 (by decide)).trans (f11 62 (by decide))) ((f27 67 (by decide)).trans (f11 67 (by decide))) hI104
      have I85 : jI105 σ25 := jI105_fr ((f28 15 (by decide)).trans (congrFun (f11 55 (by decide)) 15)) ((f27 65 (by decide)).trans (f11 65 (by decide))) hI105
      have I86 : jI106 σ25 := jI106_fr ((f28 32 (by decide)).trans (congrFun (f11 55 (by decide)) 32)) ((f27 70 (by decide)).trans (f11 70 (by decide))) ((f27 71 (by decide)).trans (f11 71 (by decide))) ((f27 72 (by decide)).trans (f11 72 (by decide))) hI106
      have I87 : jI107 σ25 := jI107_fr ((f28 12 (by decide)).trans (congrFun (f11 55 (by decide)) 12)) ((f28 47 (by decide)).trans (congrFun (f11 55 (by decide)) 47)) ((f27 80 (by decide)).trans (f11 80 (by decide))) hI107
      have I88 : jI109 σ25 := jI109_fr ((f28 50 (by decide)).trans (congrFun (f11 55 (by decide)) 50)) hI109
      have I89 : jI110 σ25 := jI110_fr ((f27 86 (by decide)).trans (f11 86 (by decide))) ((f27 87 (by decide)).trans (f11 87 (by decide))) hI110
      have I90 : jI111 σ25 := jI111_fr ((f27 79 (by decide)).trans (f11 79 (by decide))) hI111
      have I91 : jI119 σ25 := jI119_fr ((f27 68 (by decide)).trans (f11 68 (by decide))) hI119
      have p92 : jKept σ25 := jKept.fr ((f27 75 (by decide)).trans (f11 75 (by decide))) ((f27 76 (by decide)).trans (f11 76 (by decide))) ((f27 77 (by decide)).trans (f11 77 (by decide))) hs_jKept
      have p93 : jBook σ25 := jBook.fr ((f28 47 (by decide)).trans (congrFun (f11 55 (by decide)) 47)) ((f28 10 (by decide)).trans (congrFun (f11 55 (by decide)) 10)) ((f27 81 (by decide)).trans (f11 81 (by decide))) hs_jBook
      have z94 : (σ25 38 0).toInt = (σ 38 0).toInt := (congrArg Int32.toInt (show σ25 38 0 = (σ 38 0) from ((congrFun (f27 38 (by decide)) 0).trans (congrFun (f11 38 (by decide)) 0))))
      have z95 : (σ25 55 32).toInt = (σ 55 32).toInt := (congrArg Int32.toInt (show σ25 55 32 = (σ 55 32) from ((f28 32 (by decide)).trans (congrFun (f11 55 (by decide)) 32))))
      exact ih x70 σ25 τ _ _ ls (by have h9 := tx70; omega) ⟨I71, I72, I73, I74, I75, I76, I77, I78, I79, I80, I81, I29, I82, I83, I84, I85, I86, I87, I88, I89, I90, I91, p92, p93, (by omega), (show jShP (σ25 51) (σ25 52) (σ25 53) (σ25 86) (σ25 87) (σ25 55 32).toInt by rw [show σ25 51 = σ 51 from ((f27 51 (by decide)).trans (f11 51 (by decide))), show σ25 52 = σ 52 from ((f27 52 (by decide)).trans (f11 52 (by decide))), show σ25 53 = σ 53 from ((f27 53 (by decide)).trans (f11 53 (by decide))), show σ25 86 = σ 86 from ((f27 86 (by decide)).trans (f11 86 (by decide))), show σ25 87 = σ 87 from ((f27 87 (by decide)).trans (f11 87 (by decide)))]; exact (hr0.up (by omega) (by omega))), (show jEl (σ25 51) (σ25 52) (τ 54) (τ 88) by rw [show σ25 51 = σ 51 from ((f27 51 (by decide)).trans (f11 51 (by decide))), show σ25 52 = σ 52 from ((f27 52 (by decide)).trans (f11 52 (by decide)))]; exact hr1)⟩ hP hS (lv_sub hl [0, 1, 2, 3] rfl)
  · obtain ⟨q103, k97, k98, k99, k100, k101, k102⟩ := h16
    refine lv_pop hx hb dL_law_981 rfl ?_
    refine lv_aload_n hx hb dL_law_982 rfl (lv_at hl 1 rfl) ?_
    have I104 : jI101 σ9 := jI101_fr (congrFun (f11 55 (by decide)) 4) (congrFun (f11 55 (by decide)) 5) (f11 56 (by decide)) (f11 57 (by decide)) (f11 58 (by decide)) (f11 59 (by decide)) hI101
    have z105 : (σ9 55 5).toInt = (σ 55 5).toInt := (congrArg Int32.toInt (show σ9 55 5 = (σ 55 5) from (congrFun (f11 55 (by decide)) 5)))
    have z106 : (σ9 55 4).toInt = (σ 55 4).toInt := (congrArg Int32.toInt (show σ9 55 4 = (σ 55 4) from (congrFun (f11 55 (by decide)) 4)))
    refine jcallV (As := []) (rest := []) ⟨hx, hb, hml, hown, hts⟩ hK hP hA hS hZ (c_X12_redo l D cI cL ad zz hJ σ9 τ I104) cw_RL_128 (jc_55 cI cL ad σ9 τ) rfl ⟨Nat.le_of_ble_eq_true rfl, Nat.le_of_ble_eq_true rfl⟩ rfl rfl rfl hl.1 rfl (Nat.le_of_ble_eq_true rfl) dL_law_983 ⟨Nat.le_of_ble_eq_true rfl, Nat.le_of_ble_eq_true rfl⟩ (fun r108 σ107 τ107 H locs h107 hP hS => ?_)
    obtain ⟨rfl, f109, f110, I111, h107⟩ := h107
    rcases h107 with h113 | h114
    · obtain ⟨q118, k115, k116, k117⟩ := h113
      have q118 := q118.symm
      subst q118
      refine lv_pop hx hb dL_law_986 rfl ?_
      refine lv_goto (tgt := 1358) hx hb dL_law_987 (by decide) ?_
      obtain ⟨x119, ex119⟩ : ∃ y : Int32, y = x0 + 6 := ⟨_, rfl⟩
      have tx119 : x119.toInt = x0.toInt + 6 := (jadd ex119 rfl jz_6 (by omega) (by omega)).trans (by omega)
      refine lv_iinc (v := x119) (lv' := [(3, .int x119), (2, .ref (ad 55)), (1, .ref (ad 0)), (0, .ref b)]) hx hb dL_law_1358 hl (k := 0) rfl (by rw [ex119]; rfl) (by decide) rfl (fun ls hl => ?_)
      refine lv_goto (tgt := 18) hx hb dL_law_1361 (by decide) ?_
      have I120 : jI2 σ107 := jI2_fr (congrFun (f109 2 (by decide)) 0) (congrFun (f109 2 (by decide)) 1) (congrFun (f109 2 (by decide)) 2) (congrFun (f109 2 (by decide)) 3) (f109 6 (by decide)) I13
      have I121 : jI9 σ107 := jI9_fr ((congrFun (f109 9 (by decide)) 0).trans (congrFun (f11 9 (by decide)) 0)) ((f109 10 (by decide)).trans (f11 10 (by decide))) ((f109 11 (by decide)).trans (f11 11 (by decide))) hI9
      have I122 : jI12 σ107 := jI12_fr ((congrFun (f109 12 (by decide)) 0).trans (congrFun (f11 12 (by decide)) 0)) ((f109 13 (by decide)).trans (f11 13 (by decide))) hI12
      have I123 : jI16 σ107 := jI16_fr ((congrFun (f109 16 (by decide)) 0).trans (congrFun (f11 16 (by decide)) 0)) ((congrFun (f109 16 (by decide)) 1).trans (congrFun (f11 16 (by decide)) 1)) ((congrFun (f109 16 (by decide)) 2).trans (congrFun (f11 16 (by decide)) 2)) ((f109 17 (by decide)).trans (f11 17 (by decide))) hI16
      have I124 : jI18 σ107 := jI18_fr ((congrFun (f109 18 (by decide)) 0).trans (congrFun (f11 18 (by decide)) 0)) ((f109 19 (by decide)).trans (f11 19 (by decide))) hI18
      have I125 : jI22 σ107 := jI22_fr ((congrFun (f109 22 (by decide)) 0).trans (congrFun (f11 22 (by decide)) 0)) ((f109 23 (by decide)).trans (f11 23 (by decide))) hI22
      have I126 : jI31 σ107 := jI31_fr ((congrFun (f109 31 (by decide)) 8).trans (congrFun (f11 31 (by decide)) 8)) ((f109 33 (by decide)).trans (f11 33 (by decide))) ((f109 36 (by decide)).trans (f11 36 (by decide))) hI31
      have I127 : jI38 σ107 := jI38_fr ((congrFun (f109 38 (by decide)) 0).trans (congrFun (f11 38 (by decide)) 0)) ((congrFun (f109 38 (by decide)) 1).trans (congrFun (f11 38 (by decide)) 1)) ((f109 39 (by decide)).trans (f11 39 (by decide))) hI38
      have I128 : jI43 σ107 := jI43_fr ((congrFun (f109 43 (by decide)) 8).trans (congrFun (f11 43 (by decide)) 8)) hI43
      have I129 : jI47 σ107 := jI47_fr ((congrFun (f109 47 (by decide)) 0).trans (congrFun (f11 47 (by decide)) 0)) ((f109 48 (by decide)).trans (f11 48 (by decide))) ((f109 49 (by decide)).trans (f11 49 (by decide))) hI47
      have I130 : jI50 σ107 := jI50_fr ((f109 52 (by decide)).trans (f11 52 (by decide))) hI50
      have I131 : jI102 σ107 := jI102_fr ((f110 6 (by decide)).trans (congrFun (f11 55 (by decide)) 6)) ((f109 60 (by decide)).trans (f11 60 (by decide))) ((f109 61 (by decide)).trans (f11 61 (by decide))) hI102
      have I132 : jI103 σ107 := jI103_fr ((f110 9 (by decide)).trans (congrFun (f11 55 (by decide)) 9)) hI103
      have I133 : jI104 σ107 := jI104_fr ((f110 10 (by decide)).trans (congrFun (f11 55 (by decide)) 10)) ((f110 12 (by decide)).trans (congrFun (f11 55 (by decide)) 12)) ((f110 13 (by decide)).trans (congrFun (f11 55 (by decide)) 13)) ((f109 62 (by decide)).trans (f11 62 (by decide))) ((f109 67 (by decide)).trans (f11 67 (by decide))) hI104
      have I134 : jI105 σ107 := jI105_fr ((f110 15 (by decide)).trans (congrFun (f11 55 (by decide)) 15)) ((f109 65 (by decide)).trans (f11 65 (by decide))) hI105
      have I135 : jI106 σ107 := jI106_fr ((f110 32 (by decide)).trans (congrFun (f11 55 (by decide)) 32)) ((f109 70 (by decide)).trans (f11 70 (by decide))) ((f109 71 (by decide)).trans (f11 71 (by decide))) ((f109 72 (by decide)).trans (f11 72 (by decide))) hI106
      have I136 : jI107 σ107 := jI107_fr ((f110 12 (by decide)).trans (congrFun (f11 55 (by decide)) 12)) ((f110 47 (by decide)).trans (congrFun (f11 55 (by decide)) 47)) ((f109 80 (by decide)).trans (f11 80 (by decide))) hI107
      have I137 : jI109 σ107 := jI109_fr ((f110 50 (by decide)).trans (congrFun (f11 55 (by decide)) 50)) hI109
      have I138 : jI110 σ107 := jI110_fr ((f109 86 (by decide)).trans (f11 86 (by decide))) ((f109 87 (by decide)).trans (f11 87 (by decide))) hI110
      have I139 : jI111 σ107 := jI111_fr ((f109 79 (by decide)).trans (f11 79 (by decide))) hI111
      have I140 : jI119 σ107 := jI119_fr ((f109 68 (by decide)).trans (f11 68 (by decide))) hI119
      have p141 : jKept σ107 := jKept.fr ((f109 75 (by decide)).trans (f11 75 (by decide))) ((f109 76 (by decide)).trans (f11 76 (by decide))) ((f109 77 (by decide)).trans (f11 77 (by decide))) hs_jKept
      have p142 : jBook σ107 := jBook.fr ((f110 47 (by decide)).trans (congrFun (f11 55 (by decide)) 47)) ((f110 10 (by decide)).trans (congrFun (f11 55 (by decide)) 10)) ((f109 81 (by decide)).trans (f11 81 (by decide))) hs_jBook
      have z143 : (σ107 38 0).toInt = (σ 38 0).toInt := (congrArg Int32.toInt (show σ107 38 0 = (σ 38 0) from ((congrFun (f109 38 (by decide)) 0).trans (congrFun (f11 38 (by decide)) 0))))
      have z144 : (σ107 55 32).toInt = (σ 55 32).toInt := (congrArg Int32.toInt (show σ107 55 32 = (σ 55 32) from ((f110 32 (by decide)).trans (congrFun (f11 55 (by decide)) 32))))
      exact ih x119 σ107 τ _ _ ls (by have h9 := tx119; omega) ⟨I120, I121, I122, I123, I124, I125, I126, I127, I128, I129, I130, I111, I131, I132, I133, I134, I135, I136, I137, I138, I139, I140, p141, p142, (by omega), (show jShP (σ107 51) (σ107 52) (σ107 53) (σ107 86) (σ107 87) (σ107 55 32).toInt by rw [show σ107 51 = σ 51 from ((f109 51 (by decide)).trans (f11 51 (by decide))), show σ107 52 = σ 52 from ((f109 52 (by decide)).trans (f11 52 (by decide))), show σ107 53 = σ 53 from ((f109 53 (by decide)).trans (f11 53 (by decide))), show σ107 86 = σ 86 from ((f109 86 (by decide)).trans (f11 86 (by decide))), show σ107 87 = σ 87 from ((f109 87 (by decide)).trans (f11 87 (by decide)))]; exact (hr0.up (by omega) (by omega))), (show jEl (σ107 51) (σ107 52) (τ 54) (τ 88) by rw [show σ107 51 = σ 51 from ((f109 51 (by decide)).trans (f11 51 (by decide))), show σ107 52 = σ 52 from ((f109 52 (by decide)).trans (f11 52 (by decide)))]; exact hr1)⟩ hP hS (lv_sub hl [0, 1, 2, 3] rfl)
    · obtain ⟨q151, k146, k147, k148, k149, k150⟩ := h114
      refine lv_pop hx hb dL_law_986 rfl ?_
      refine lv_goto (tgt := 1358) hx hb dL_law_987 (by decide) ?_
      obtain ⟨x152, ex152⟩ : ∃ y : Int32, y = x0 + 6 := ⟨_, rfl⟩
      have tx152 : x152.toInt = x0.toInt + 6 := (jadd ex152 rfl jz_6 (by omega) (by omega)).trans (by omega)
      refine lv_iinc (v := x152) (lv' := [(3, .int x152), (2, .ref (ad 55)), (1, .ref (ad 0)), (0, .ref b)]) hx hb dL_law_1358 hl (k := 0) rfl (by rw [ex152]; rfl) (by decide) rfl (fun ls hl => ?_)
      refine lv_goto (tgt := 18) hx hb dL_law_1361 (by decide) ?_
      have I153 : jI2 σ107 := jI2_fr (congrFun (f109 2 (by decide)) 0) (congrFun (f109 2 (by decide)) 1) (congrFun (f109 2 (by decide)) 2) (congrFun (f109 2 (by decide)) 3) (f109 6 (by decide)) I13
      have I154 : jI9 σ107 := jI9_fr ((congrFun (f109 9 (by decide)) 0).trans (congrFun (f11 9 (by decide)) 0)) ((f109 10 (by decide)).trans (f11 10 (by decide))) ((f109 11 (by decide)).trans (f11 11 (by decide))) hI9
      have I155 : jI12 σ107 := jI12_fr ((congrFun (f109 12 (by decide)) 0).trans (congrFun (f11 12 (by decide)) 0)) ((f109 13 (by decide)).trans (f11 13 (by decide))) hI12
      have I156 : jI16 σ107 := jI16_fr ((congrFun (f109 16 (by decide)) 0).trans (congrFun (f11 16 (by decide)) 0)) ((congrFun (f109 16 (by decide)) 1).trans (congrFun (f11 16 (by decide)) 1)) ((congrFun (f109 16 (by decide)) 2).trans (congrFun (f11 16 (by decide)) 2)) ((f109 17 (by decide)).trans (f11 17 (by decide))) hI16
      have I157 : jI18 σ107 := jI18_fr ((congrFun (f109 18 (by decide)) 0).trans (congrFun (f11 18 (by decide)) 0)) ((f109 19 (by decide)).trans (f11 19 (by decide))) hI18
      have I158 : jI22 σ107 := jI22_fr ((congrFun (f109 22 (by decide)) 0).trans (congrFun (f11 22 (by decide)) 0)) ((f109 23 (by decide)).trans (f11 23 (by decide))) hI22
      have I159 : jI31 σ107 := jI31_fr ((congrFun (f109 31 (by decide)) 8).trans (congrFun (f11 31 (by decide)) 8)) ((f109 33 (by decide)).trans (f11 33 (by decide))) ((f109 36 (by decide)).trans (f11 36 (by decide))) hI31
      have I160 : jI38 σ107 := jI38_fr ((congrFun (f109 38 (by decide)) 0).trans (congrFun (f11 38 (by decide)) 0)) ((congrFun (f109 38 (by decide)) 1).trans (congrFun (f11 38 (by decide)) 1)) ((f109 39 (by decide)).trans (f11 39 (by decide))) hI38
      have I161 : jI43 σ107 := jI43_fr ((congrFun (f109 43 (by decide)) 8).trans (congrFun (f11 43 (by decide)) 8)) hI43
      have I162 : jI47 σ107 := jI47_fr ((congrFun (f109 47 (by decide)) 0).trans (congrFun (f11 47 (by decide)) 0)) ((f109 48 (by decide)).trans (f11 48 (by decide))) ((f109 49 (by decide)).trans (f11 49 (by decide))) hI47
      have I163 : jI50 σ107 := jI50_fr ((f109 52 (by decide)).trans (f11 52 (by decide))) hI50
      have I164 : jI102 σ107 := jI102_fr ((f110 6 (by decide)).trans (congrFun (f11 55 (by decide)) 6)) ((f109 60 (by decide)).trans (f11 60 (by decide))) ((f109 61 (by decide)).trans (f11 61 (by decide))) hI102
      have I165 : jI103 σ107 := jI103_fr ((f110 9 (by decide)).trans (congrFun (f11 55 (by decide)) 9)) hI103
      have I166 : jI104 σ107 := jI104_fr ((f110 10 (by decide)).trans (congrFun (f11 55 (by decide)) 10)) ((f110 12 (by decide)).trans (congrFun (f11 55 (by decide)) 12)) ((f110 13 (by decide)).trans (congrFun (f11 55 (by decide)) 13)) ((f109 62 (by decide)).trans (f11 62 (by decide))) ((f109 67 (by decide)).trans (f11 67 (by decide))) hI104
      have I167 : jI105 σ107 := jI105_fr ((f110 15 (by decide)).trans (congrFun (f11 55 (by decide)) 15)) ((f109 65 (by decide)).trans (f11 65 (by decide))) hI105
      have I168 : jI106 σ107 := jI106_fr ((f110 32 (by decide)).trans (congrFun (f11 55 (by decide)) 32)) ((f109 70 (by decide)).trans (f11 70 (by decide))) ((f109 71 (by decide)).trans (f11 71 (by decide))) ((f109 72 (by decide)).trans (f11 72 (by decide))) hI106
      have I169 : jI107 σ107 := jI107_fr ((f110 12 (by decide)).trans (congrFun (f11 55 (by decide)) 12)) ((f110 47 (by decide)).trans (congrFun (f11 55 (by decide)) 47)) ((f109 80 (by decide)).trans (f11 80 (by decide))) hI107
      have I170 : jI109 σ107 := jI109_fr ((f110 50 (by decide)).trans (congrFun (f11 55 (by decide)) 50)) hI109
      have I171 : jI110 σ107 := jI110_fr ((f109 86 (by decide)).trans (f11 86 (by decide))) ((f109 87 (by decide)).trans (f11 87 (by decide))) hI110
      have I172 : jI111 σ107 := jI111_fr ((f109 79 (by decide)).trans (f11 79 (by decide))) hI111
      have I173 : jI119 σ107 := jI119_fr ((f109 68 (by decide)).trans (f11 68 (by decide))) hI119
      have p174 : jKept σ107 := jKept.fr ((f109 75 (by decide)).trans (f11 75 (by decide))) ((f109 76 (by decide)).trans (f11 76 (by decide))) ((f109 77 (by decide)).trans (f11 77 (by decide))) hs_jKept
      have p175 : jBook σ107 := jBook.fr ((f110 47 (by decide)).trans (congrFun (f11 55 (by decide)) 47)) ((f110 10 (by decide)).trans (congrFun (f11 55 (by decide)) 10)) ((f109 81 (by decide)).trans (f11 81 (by decide))) hs_jBook
      have z176 : (σ107 38 0).toInt = (σ 38 0).toInt := (congrArg Int32.toInt (show σ107 38 0 = (σ 38 0) from ((congrFun (f109 38 (by decide)) 0).trans (congrFun (f11 38 (by decide)) 0))))
      have z177 : (σ107 55 32).toInt = (σ 55 32).toInt := (congrArg Int32.toInt (show σ107 55 32 = (σ 55 32) from ((f110 32 (by decide)).trans (congrFun (f11 55 (by decide)) 32))))
      exact ih x152 σ107 τ _ _ ls (by have h9 := tx152; omega) ⟨I153, I154, I155, I156, I157, I158, I159, I160, I161, I162, I163, I111, I164, I165, I166, I167, I168, I169, I170, I171, I172, I173, p174, p175, (by omega), (show jShP (σ107 51) (σ107 52) (σ107 53) (σ107 86) (σ107 87) (σ107 55 32).toInt by rw [show σ107 51 = σ 51 from ((f109 51 (by decide)).trans (f11 51 (by decide))), show σ107 52 = σ 52 from ((f109 52 (by decide)).trans (f11 52 (by decide))), show σ107 53 = σ 53 from ((f109 53 (by decide)).trans (f11 53 (by decide))), show σ107 86 = σ 86 from ((f109 86 (by decide)).trans (f11 86 (by decide))), show σ107 87 = σ 87 from ((f109 87 (by decide)).trans (f11 87 (by decide)))]; exact (hr0.up (by omega) (by omega))), (show jEl (σ107 51) (σ107 52) (τ 54) (τ 88) by rw [show σ107 51 = σ 51 from ((f109 51 (by decide)).trans (f11 51 (by decide))), show σ107 52 = σ 52 from ((f109 52 (by decide)).trans (f11 52 (by decide)))]; exact hr1)⟩ hP hS (lv_sub hl [0, 1, 2, 3] rfl)
set_option maxHeartbeats 4000000 in
set_option maxRecDepth 100000 in
theorem law_case_28 {p : Program} {e : Env} {s : State} {m : MethodId} {below : List Frame} {meth : Method} {c : Code} (l : Launch) {b L : Nat} {xs : Nat → Int32} {D : va_G} {cI cL : ClassId} {ad zz : Nat → Nat} (C0 : lw_At p s m meth c b L xs) (hJ : jD ad) (hA : ∀ q, jA ad q → s.heap.size ≤ q) (hK : jK D cI cL s) (hZ : jZ zz (fun q : Nat => s.heap.size ≤ q) s s.heap) {x0 : Int32} (hx0 : 0 ≤ x0.toInt) (hxL : x0.toInt + 6 ≤ (L : Int)) (hL : L ≤ 384) {σ : Nat → Nat → Int32} {τ : Nat → Nat → Int64} {H : Heap} {locs : List Loc} (hS : va_S (fun q : Nat => s.heap.size ≤ q) s.heap H locs) {ls : Array Slot} (hAll : jAll σ τ) (hP : jH D cI cL ad σ τ H) (hl : lv_has ls 4 [(3, .int x0), (2, .ref (ad 55)), (1, .ref (ad 0)), (0, .ref b)]) (ih : ∀ (x1 : Int32) (σ : Nat → Nat → Int32) (τ : Nat → Nat → Int64) (H : Heap) (locs : List Loc) (ls : Array Slot), x1.toInt = x0.toInt + 6 → jAll σ τ → jH D cI cL ad σ τ H → va_S (fun q : Nat => s.heap.size ≤ q) s.heap H locs → lv_has ls 4 [(3, .int x1), (2, .ref (ad 55)), (1, .ref (ad 0)), (0, .ref b)] → W p l e room_1 s m #[Value.ref b] below meth c H locs 90 348600 (lw_Z below #[Value.ref b] s) (F0 m 18 ls [])) : W p l e room_1 s m #[Value.ref b] below meth c H locs 90 348600 (lw_Z below #[Value.ref b] s) (F0 m 990 ls []) := by
  obtain ⟨hx, hb, hr, hml, hown, hts0, hX, hbl, hlocks, hgv⟩ := C0
  have hts : ∀ w ∈ wsL_law, w.before #[Value.ref b] s = true := fun w h => hts0 w (wsL_law_in w h)
  have hbA : ¬ (fun q : Nat => s.heap.size ≤ q) b := Nat.not_le.mpr hbl
  have hown : s.vm.findClass RL = some m.cls := hown
  obtain ⟨hI2, hI9, hI12, hI16, hI18, hI22, hI31, hI38, hI43, hI47, hI50, hI101, hI102, hI103, hI104, hI105, hI106, hI107, hI109, hI110, hI111, hI119, hs_jKept, hs_jBook, ht0, hr0, hr1⟩ := hAll
  have hL9 : (L : Int) ≤ 384 := by omega
  obtain ⟨i1, i2, w3⟩ : (0 ≤ (σ 38 0).toInt ∧ (σ 38 0).toInt ≤ 20) ∧ (0 ≤ (σ 38 1).toInt ∧ (σ 38 1).toInt ≤ 1000) ∧ (∀ k : Nat, k < 20 → 0 ≤ (σ 39 k).toInt ∧ (σ 39 k).toInt ≤ 6) := id hI38
  have w4 : ∀ k : Nat, k < 6 → 0 ≤ (σ 52 k).toInt ∧ (σ 52 k).toInt ≤ 60 := hI50
  obtain ⟨i5, w6, w7, w8⟩ : (0 ≤ (σ 55 32).toInt ∧ (σ 55 32).toInt ≤ 20) ∧ (∀ k : Nat, k < 20 → 0 ≤ (σ 70 k).toInt ∧ (σ 70 k).toInt ≤ 6) ∧ (∀ k : Nat, k < 20 → 0 ≤ (σ 71 k).toInt ∧ (σ 71 k).toInt ≤ 8) ∧ (∀ k : Nat, k < 160 → 0 ≤ (σ 72 k).toInt ∧ (σ 72 k).toInt ≤ 3) := id hI106
  refine lv_aload_n hx hb dL_law_990 rfl (lv_at hl 2 rfl) ?_
  refine lv_aload_n hx hb dL_law_991 rfl (lv_at hl 3 rfl) ?_
  refine lv_iload_n hx hb dL_law_992 rfl (lv_at hl 0 rfl) ?_
  refine lv_iconst (v := 1) hx hb dL_law_993 (by decide) ?_
  have g9 := jrg (rfl : x0.toInt = x0.toInt)
  refine lv_iadd hx hb dL_law_994 ?_
  refine lv_topi (fun x10 ex10 => ?_)
  have tx10 : x10.toInt = x0.toInt + 1 := (jadd ex10 rfl jz_1 (by omega) (by omega)).trans (by omega)
  refine va_sld hx hb hX hbl hbA hS (jin tx10 (by omega) (by omega)) dL_law_995 ?_
  have g11 := jrg (rfl : (xs x10.toNatClampNeg).toInt = (xs x10.toNatClampNeg).toInt)
  refine lv_aload_n hx hb dL_law_996 rfl (lv_at hl 3 rfl) ?_
  refine lv_iload_n hx hb dL_law_997 rfl (lv_at hl 0 rfl) ?_
  refine lv_iconst (v := 2) hx hb dL_law_998 (by decide) ?_
  refine lv_iadd hx hb dL_law_999 ?_
  refine lv_topi (fun x12 ex12 => ?_)
  have tx12 : x12.toInt = x0.toInt + 2 := (jadd ex12 rfl jz_2 (by omega) (by omega)).trans (by omega)
  refine va_sld hx hb hX hbl hbA hS (jin tx12 (by omega) (by omega)) dL_law_1000 ?_
  have g13 := jrg (rfl : (xs x12.toNatClampNeg).toInt = (xs x12.toNatClampNeg).toInt)
  refine lv_aload_n hx hb dL_law_1001 rfl (lv_at hl 3 rfl) ?_
  refine lv_iload_n hx hb dL_law_1002 rfl (lv_at hl 0 rfl) ?_
  refine lv_iconst (v := 3) hx hb dL_law_1003 (by decide) ?_
  refine lv_iadd hx hb dL_law_1004 ?_
  refine lv_topi (fun x14 ex14 => ?_)
  have tx14 : x14.toInt = x0.toInt + 3 := (jadd ex14 rfl jz_3 (by omega) (by omega)).trans (by omega)
  refine va_sld hx hb hX hbl hbA hS (jin tx14 (by omega) (by omega)) dL_law_1005 ?_
  have g15 := jrg (rfl : (xs x14.toNatClampNeg).toInt = (xs x14.toNatClampNeg).toInt)
  refine jcallV (As := [.int (xs x10.toNatClampNeg), .int (xs x12.toNatClampNeg), .int (xs x14.toNatClampNeg)]) (rest := []) ⟨hx, hb, hml, hown, hts⟩ hK hP hA hS hZ (c_X11_act l D cI cL ad zz hJ σ τ (xs x10.toNatClampNeg) ((xs x10.toNatClampNeg).toInt) rfl (xs x12.toNatClampNeg) ((xs x12.toNatClampNeg).toInt) rfl (xs x14.toNatClampNeg) ((xs x14.toNatClampNeg).toInt) rfl hI38) cw_RL_129 (jc_0 cI cL ad σ τ) rfl ⟨Nat.le_of_ble_eq_true rfl, Nat.le_of_ble_eq_true rfl⟩ rfl rfl rfl hl.1 rfl (Nat.le_of_ble_eq_true rfl) dL_law_1006 ⟨Nat.le_of_ble_eq_true rfl, Nat.le_of_ble_eq_true rfl⟩ (fun r17 σ16 τ16 H locs h16 hP hS => ?_)
  obtain ⟨rfl, f18, f19, I20, h16⟩ := h16
  obtain ⟨i22, i23, w24⟩ : (0 ≤ (σ16 38 0).toInt ∧ (σ16 38 0).toInt ≤ 20) ∧ (0 ≤ (σ16 38 1).toInt ∧ (σ16 38 1).toInt ≤ 1000) ∧ (∀ k : Nat, k < 20 → 0 ≤ (σ16 39 k).toInt ∧ (σ16 39 k).toInt ≤ 6) := id I20
  have z25 : (σ16 38 0).toInt = (σ 38 0).toInt := (congrArg Int32.toInt (show σ16 38 0 = (σ 38 0) from (f19 0 (by decide))))
  rcases h16 with h26 | h27
  · obtain ⟨q30, k28, k29⟩ := h26
    have q30 := q30.symm
    subst q30
    refine lv_pop hx hb dL_law_1009 rfl ?_
    refine lv_aload_n hx hb dL_law_1010 rfl (lv_at hl 1 rfl) ?_
    refine lv_aload_n hx hb dL_law_1011 rfl (lv_at hl 3 rfl) ?_
    refine lv_iload_n hx hb dL_law_1012 rfl (lv_at hl 0 rfl) ?_
    refine lv_iconst (v := 1) hx hb dL_law_1013 (by decide) ?_
    refine lv_iadd hx hb dL_law_1014 ?_
    refine jtopr ex10.symm ?_
    refine va_sld hx hb hX hbl hbA hS (jin tx10 (by omega) (by omega)) dL_law_1015 ?_
    refine lv_aload_n hx hb dL_law_1016 rfl (lv_at hl 3 rfl) ?_
    refine lv_iload_n hx hb dL_law_1017 rfl (lv_at hl 0 rfl) ?_
    refine lv_iconst (v := 2) hx hb dL_law_1018 (by decide) ?_
    refine lv_iadd hx hb dL_law_1019 ?_
    refine jtopr ex12.symm ?_
    refine va_sld hx hb hX hbl hbA hS (jin tx12 (by omega) (by omega)) dL_law_1020 ?_
    refine lv_aload_n hx hb dL_law_1021 rfl (lv_at hl 3 rfl) ?_
    refine lv_iload_n hx hb dL_law_1022 rfl (lv_at hl 0 rfl) ?_
    refine lv_iconst (v := 3) hx hb dL_law_1023 (by decide) ?_
    refine lv_iadd hx hb dL_law_1024 ?_
    refine jtopr ex14.symm ?_
    refine va_sld hx hb hX hbl hbA hS (jin tx14 (by omega) (by omega)) dL_law_1025 ?_
    have I31 : jI106 σ16 := jI106_fr (congrFun (f18 55 (by decide)) 32) (f18 70 (by decide)) (f18 71 (by decide)) (f18 72 (by decide)) hI106
    have z32 : (σ16 55 32).toInt = (σ 55 32).toInt := (congrArg Int32.toInt (show σ16 55 32 = (σ 55 32) from (congrFun (f18 55 (by decide)) 32)))
    refine jcallV (As := [.int (xs x10.toNatClampNeg), .int (xs x12.toNatClampNeg), .int (xs x14.toNatClampNeg)]) (rest := []) ⟨hx, hb, hml, hown, hts⟩ hK hP hA hS hZ (c_X12_act l D cI cL ad zz hJ σ16 τ (xs x10.toNatClampNeg) ((xs x10.toNatClampNeg).toInt) rfl (xs x12.toNatClampNeg) ((xs x12.toNatClampNeg).toInt) rfl (xs x14.toNatClampNeg) ((xs x14.toNatClampNeg).toInt) rfl I31) cw_RL_132 (jc_55 cI cL ad σ16 τ) rfl ⟨Nat.le_of_ble_eq_true rfl, Nat.le_of_ble_eq_true rfl⟩ rfl rfl rfl hl.1 rfl (Nat.le_of_ble_eq_true rfl) dL_law_1026 ⟨Nat.le_of_ble_eq_true rfl, Nat.le_of_ble_eq_true rfl⟩ (fun r34 σ33 τ33 H locs h33 hP hS => ?_)
    obtain ⟨rfl, f35, f36, h33⟩ := h33
    rcases h33 with h38 | h39
    · obtain ⟨q42, k40, k41⟩ := h38
      have q42 := q42.symm
      subst q42
      refine lv_pop hx hb dL_law_1029 rfl ?_
      refine lv_goto (tgt := 1358) hx hb dL_law_1030 (by decide) ?_
      obtain ⟨x43, ex43⟩ : ∃ y : Int32, y = x0 + 6 := ⟨_, rfl⟩
      have tx43 : x43.toInt = x0.toInt + 6 := (jadd ex43 rfl jz_6 (by omega) (by omega)).trans (by omega)
      refine lv_iinc (v := x43) (lv' := [(3, .int x43), (2, .ref (ad 55)), (1, .ref (ad 0)), (0, .ref b)]) hx hb dL_law_1358 hl (k := 0) rfl (by rw [ex43]; rfl) (by decide) rfl (fun ls hl => ?_)
      refine lv_goto (tgt := 18) hx hb dL_law_1361 (by decide) ?_
      have I44 : jI2 σ33 := jI2_fr ((congrFun (f35 2 (by decide)) 0).trans (congrFun (f18 2 (by decide)) 0)) ((congrFun (f35 2 (by decide)) 1).trans (congrFun (f18 2 (by decide)) 1)) ((congrFun (f35 2 (by decide)) 2).trans (congrFun (f18 2 (by decide)) 2)) ((congrFun (f35 2 (by decide)) 3).trans (congrFun (f18 2 (by decide)) 3)) ((f35 6 (by decide)).trans (f18 6 (by decide))) hI2
      have I45 : jI9 σ33 := jI9_fr ((congrFun (f35 9 (by decide)) 0).trans (congrFun (f18 9 (by decide)) 0)) ((f35 10 (by decide)).trans (f18 10 (by decide))) ((f35 11 (by decide)).trans (f18 11 (by decide))) hI9
      have I46 : jI12 σ33 := jI12_fr ((congrFun (f35 12 (by decide)) 0).trans (congrFun (f18 12 (by decide)) 0)) ((f35 13 (by decide)).trans (f18 13 (by decide))) hI12
      have I47 : jI16 σ33 := jI16_fr ((congrFun (f35 16 (by decide)) 0).trans (congrFun (f18 16 (by decide)) 0)) ((congrFun (f35 16 (by decide)) 1).trans (congrFun (f18 16 (by decide)) 1)) ((congrFun (f35 16 (by decide)) 2).trans (congrFun (f18 16 (by decide)) 2)) ((f35 17 (by decide)).trans (f18 17 (by decide))) hI16
      have I48 : jI18 σ33 := jI18_fr ((congrFun (f35 18 (by decide)) 0).trans (congrFun (f18 18 (by decide)) 0)) ((f35 19 (by decide)).trans (f18 19 (by decide))) hI18
      have I49 : jI22 σ33 := jI22_fr ((congrFun (f35 22 (by decide)) 0).trans (congrFun (f18 22 (by decide)) 0)) ((f35 23 (by decide)).trans (f18 23 (by decide))) hI22
      have I50 : jI31 σ33 := jI31_fr ((congrFun (f35 31 (by decide)) 8).trans (congrFun (f18 31 (by decide)) 8)) ((f35 33 (by decide)).trans (f18 33 (by decide))) ((f35 36 (by decide)).trans (f18 36 (by decide))) hI31
      have I51 : jI38 σ33 := jI38_fr (congrFun (f35 38 (by decide)) 0) (congrFun (f35 38 (by decide)) 1) (f35 39 (by decide)) I20
      have I52 : jI43 σ33 := jI43_fr ((congrFun (f35 43 (by decide)) 8).trans (congrFun (f18 43 (by decide)) 8)) hI43
      have I53 : jI47 σ33 := jI47_fr ((congrFun (f35 47 (by decide)) 0).trans (congrFun (f18 47 (by decide)) 0)) ((f35 48 (by decide)).trans (f18 48 (by decide))) ((f35 49 (by decide)).trans (f18 49 (by decide))) hI47
      have I54 : jI50 σ33 := jI50_fr ((f35 52 (by decide)).trans (f18 52 (by decide))) hI50
      have I55 : jI101 σ33 := jI101_fr ((f36 4 (by decide)).trans (congrFun (f18 55 (by decide)) 4)) ((f36 5 (by decide)).trans (congrFun (f18 55 (by decide)) 5)) ((f35 56 (by decide)).trans (f18 56 (by decide))) ((f35 57 (by decide)).trans (f18 57 (by decide))) ((f35 58 (by decide)).trans (f18 58 (by decide))) ((f35 59 (by decide)).trans (f18 59 (by decide))) hI101
      have I56 : jI102 σ33 := jI102_fr ((f36 6 (by decide)).trans (congrFun (f18 55 (by decide)) 6)) ((f35 60 (by decide)).trans (f18 60 (by decide))) ((f35 61 (by decide)).trans (f18 61 (by decide))) hI102
      have I57 : jI103 σ33 := jI103_fr ((f36 9 (by decide)).trans (congrFun (f18 55 (by decide)) 9)) hI103
      have I58 : jI104 σ33 := jI104_fr ((f36 10 (by decide)).trans (congrFun (f18 55 (by decide)) 10)) ((f36 12 (by decide)).trans (congrFun (f18 55 (by decide)) 12)) ((f36 13 (by decide)).trans (congrFun (f18 55 (by decide)) 13)) ((f35 62 (by decide)).trans (f18 62 (by decide))) ((f35 67 (by decide)).trans (f18 67 (by decide))) hI104
      have I59 : jI105 σ33 := jI105_fr ((f36 15 (by decide)).trans (congrFun (f18 55 (by decide)) 15)) ((f35 65 (by decide)).trans (f18 65 (by decide))) hI105
      have I60 : jI106 σ33 := jI106_fr (f36 32 (by decide)) (f35 70 (by decide)) (f35 71 (by decide)) (f35 72 (by decide)) I31
      have I61 : jI107 σ33 := jI107_fr ((f36 12 (by decide)).trans (congrFun (f18 55 (by decide)) 12)) ((f36 47 (by decide)).trans (congrFun (f18 55 (by decide)) 47)) ((f35 80 (by decide)).trans (f18 80 (by decide))) hI107
      have I62 : jI109 σ33 := jI109_fr ((f36 50 (by decide)).trans (congrFun (f18 55 (by decide)) 50)) hI109
      have I63 : jI110 σ33 := jI110_fr ((f35 86 (by decide)).trans (f18 86 (by decide))) ((f35 87 (by decide)).trans (f18 87 (by decide))) hI110
      have I64 : jI111 σ33 := jI111_fr ((f35 79 (by decide)).trans (f18 79 (by decide))) hI111
      have I65 : jI119 σ33 := jI119_fr ((f35 68 (by decide)).trans (f18 68 (by decide))) hI119
      have p66 : jKept σ33 := jKept.fr ((f35 75 (by decide)).trans (f18 75 (by decide))) ((f35 76 (by decide)).trans (f18 76 (by decide))) ((f35 77 (by decide)).trans (f18 77 (by decide))) hs_jKept
      have p67 : jBook σ33 := jBook.fr ((f36 47 (by decide)).trans (congrFun (f18 55 (by decide)) 47)) ((f36 10 (by decide)).trans (congrFun (f18 55 (by decide)) 10)) ((f35 81 (by decide)).trans (f18 81 (by decide))) hs_jBook
      have z68 : (σ33 38 0).toInt = (σ 38 0).toInt := (congrArg Int32.toInt (show σ33 38 0 = (σ 38 0) from ((congrFun (f35 38 (by decide)) 0).trans (f19 0 (by decide)))))
      have z69 : (σ33 55 32).toInt = (σ 55 32).toInt := (congrArg Int32.toInt (show σ33 55 32 = (σ 55 32) from ((f36 32 (by decide)).trans (congrFun (f18 55 (by decide)) 32))))
      exact ih x43 σ33 τ _ _ ls (by have h9 := tx43; omega) ⟨I44, I45, I46, I47, I48, I49, I50, I51, I52, I53, I54, I55, I56, I57, I58, I59, I60, I61, I62, I63, I64, I65, p66, p67, (by omega), (show jShP (σ33 51) (σ33 52) (σ33 53) (σ33 86) (σ33 87) (σ33 55 32).toInt by rw [show σ33 51 = σ 51 from ((f35 51 (by decide)).trans (f18 51 (by decide))), show σ33 52 = σ 52 from ((f35 52 (by decide)).trans (f18 52 (by decide))), show σ33 53 = σ 53 from ((f35 53 (by decide)).trans (f18 53 (by decide))), show σ33 86 = σ 86 from ((f35 86 (by decide)).trans (f18 86 (by decide))), show σ33 87 = σ 87 from ((f35 87 (by decide)).trans (f18 87 (by decide)))]; exact (hr0.up (by omega) (by omega))), (show jEl (σ33 51) (σ33 52) (τ 54) (τ 88) by rw [show σ33 51 = σ 51 from ((f35 51 (by decide)).trans (f18 51 (by decide))), show σ33 52 = σ 52 from ((f35 52 (by decide)).trans (f18 52 (by decide)))]; exact hr1)⟩ hP hS (lv_sub hl [0, 1, 2, 3] rfl)
    · obtain ⟨q75, k71, k72, k73, k74⟩ := h39
      exact absurd (by omega : False) id
  · obtain ⟨q80, k76, k77, k78, k79⟩ := h27
    refine lv_pop hx hb dL_law_1009 rfl ?_
    refine lv_aload_n hx hb dL_law_1010 rfl (lv_at hl 1 rfl) ?_
    refine lv_aload_n hx hb dL_law_1011 rfl (lv_at hl 3 rfl) ?_
    refine lv_iload_n hx hb dL_law_1012 rfl (lv_at hl 0 rfl) ?_
    refine lv_iconst (v := 1) hx hb dL_law_1013 (by decide) ?_
    refine lv_iadd hx hb dL_law_1014 ?_
    refine jtopr ex10.symm ?_
    refine va_sld hx hb hX hbl hbA hS (jin tx10 (by omega) (by omega)) dL_law_1015 ?_
    refine lv_aload_n hx hb dL_law_1016 rfl (lv_at hl 3 rfl) ?_
    refine lv_iload_n hx hb dL_law_1017 rfl (lv_at hl 0 rfl) ?_
    refine lv_iconst (v := 2) hx hb dL_law_1018 (by decide) ?_
    refine lv_iadd hx hb dL_law_1019 ?_
    refine jtopr ex12.symm ?_
    refine va_sld hx hb hX hbl hbA hS (jin tx12 (by omega) (by omega)) dL_law_1020 ?_
    refine lv_aload_n hx hb dL_law_1021 rfl (lv_at hl 3 rfl) ?_
    refine lv_iload_n hx hb dL_law_1022 rfl (lv_at hl 0 rfl) ?_
    refine lv_iconst (v := 3) hx hb dL_law_1023 (by decide) ?_
    refine lv_iadd hx hb dL_law_1024 ?_
    refine jtopr ex14.symm ?_
    refine va_sld hx hb hX hbl hbA hS (jin tx14 (by omega) (by omega)) dL_law_1025 ?_
    have I81 : jI106 σ16 := jI106_fr (congrFun (f18 55 (by decide)) 32) (f18 70 (by decide)) (f18 71 (by decide)) (f18 72 (by decide)) hI106
    have z82 : (σ16 55 32).toInt = (σ 55 32).toInt := (congrArg Int32.toInt (show σ16 55 32 = (σ 55 32) from (congrFun (f18 55 (by decide)) 32)))
    refine jcallV (As := [.int (xs x10.toNatClampNeg), .int (xs x12.toNatClampNeg), .int (xs x14.toNatClampNeg)]) (rest := []) ⟨hx, hb, hml, hown, hts⟩ hK hP hA hS hZ (c_X12_act l D cI cL ad zz hJ σ16 τ (xs x10.toNatClampNeg) ((xs x10.toNatClampNeg).toInt) rfl (xs x12.toNatClampNeg) ((xs x12.toNatClampNeg).toInt) rfl (xs x14.toNatClampNeg) ((xs x14.toNatClampNeg).toInt) rfl I81) cw_RL_132 (jc_55 cI cL ad σ16 τ) rfl ⟨Nat.le_of_ble_eq_true rfl, Nat.le_of_ble_eq_true rfl⟩ rfl rfl rfl hl.1 rfl (Nat.le_of_ble_eq_true rfl) dL_law_1026 ⟨Nat.le_of_ble_eq_true rfl, Nat.le_of_ble_eq_true rfl⟩ (fun r84 σ83 τ83 H locs h83 hP hS => ?_)
    obtain ⟨rfl, f85, f86, h83⟩ := h83
    rcases h83 with h88 | h89
    · obtain ⟨q92, k90, k91⟩ := h88
      exact absurd (by omega : False) id
    · obtain ⟨q97, k93, k94, k95, k96⟩ := h89
      refine lv_pop hx hb dL_law_1029 rfl ?_
      refine lv_goto (tgt := 1358) hx hb dL_law_1030 (by decide) ?_
      obtain ⟨x98, ex98⟩ : ∃ y : Int32, y = x0 + 6 := ⟨_, rfl⟩
      have tx98 : x98.toInt = x0.toInt + 6 := (jadd ex98 rfl jz_6 (by omega) (by omega)).trans (by omega)
      refine lv_iinc (v := x98) (lv' := [(3, .int x98), (2, .ref (ad 55)), (1, .ref (ad 0)), (0, .ref b)]) hx hb dL_law_1358 hl (k := 0) rfl (by rw [ex98]; rfl) (by decide) rfl (fun ls hl => ?_)
      refine lv_goto (tgt := 18) hx hb dL_law_1361 (by decide) ?_
      have I99 : jI2 σ83 := jI2_fr ((congrFun (f85 2 (by decide)) 0).trans (congrFun (f18 2 (by decide)) 0)) ((congrFun (f85 2 (by decide)) 1).trans (congrFun (f18 2 (by decide)) 1)) ((congrFun (f85 2 (by decide)) 2).trans (congrFun (f18 2 (by decide)) 2)) ((congrFun (f85 2 (by decide)) 3).trans (congrFun (f18 2 (by decide)) 3)) ((f85 6 (by decide)).trans (f18 6 (by decide))) hI2
      have I100 : jI9 σ83 := jI9_fr ((congrFun (f85 9 (by decide)) 0).trans (congrFun (f18 9 (by decide)) 0)) ((f85 10 (by decide)).trans (f18 10 (by decide))) ((f85 11 (by decide)).trans (f18 11 (by decide))) hI9
      have I101 : jI12 σ83 := jI12_fr ((congrFun (f85 12 (by decide)) 0).trans (congrFun (f18 12 (by decide)) 0)) ((f85 13 (by decide)).trans (f18 13 (by decide))) hI12
      have I102 : jI16 σ83 := jI16_fr ((congrFun (f85 16 (by decide)) 0).trans (congrFun (f18 16 (by decide)) 0)) ((congrFun (f85 16 (by decide)) 1).trans (congrFun (f18 16 (by decide)) 1)) ((congrFun (f85 16 (by decide)) 2).trans (congrFun (f18 16 (by decide)) 2)) ((f85 17 (by decide)).trans (f18 17 (by decide))) hI16
      have I103 : jI18 σ83 := jI18_fr ((congrFun (f85 18 (by decide)) 0).trans (congrFun (f18 18 (by decide)) 0)) ((f85 19 (by decide)).trans (f18 19 (by decide))) hI18
      have I104 : jI22 σ83 := jI22_fr ((congrFun (f85 22 (by decide)) 0).trans (congrFun (f18 22 (by decide)) 0)) ((f85 23 (by decide)).trans (f18 23 (by decide))) hI22
      have I105 : jI31 σ83 := jI31_fr ((congrFun (f85 31 (by decide)) 8).trans (congrFun (f18 31 (by decide)) 8)) ((f85 33 (by decide)).trans (f18 33 (by decide))) ((f85 36 (by decide)).trans (f18 36 (by decide))) hI31
      have I106 : jI38 σ83 := jI38_fr (congrFun (f85 38 (by decide)) 0) (congrFun (f85 38 (by decide)) 1) (f85 39 (by decide)) I20
      have I107 : jI43 σ83 := jI43_fr ((congrFun (f85 43 (by decide)) 8).trans (congrFun (f18 43 (by decide)) 8)) hI43
      have I108 : jI47 σ83 := jI47_fr ((congrFun (f85 47 (by decide)) 0).trans (congrFun (f18 47 (by decide)) 0)) ((f85 48 (by decide)).trans (f18 48 (by decide))) ((f85 49 (by decide)).trans (f18 49 (by decide))) hI47
      have I109 : jI50 σ83 := jI50_fr ((f85 52 (by decide)).trans (f18 52 (by decide))) hI50
      have I110 : jI101 σ83 := jI101_fr ((f86 4 (by decide)).trans (congrFun (f18 55 (by decide)) 4)) ((f86 5 (by decide)).trans (congrFun (f18 55 (by decide)) 5)) ((f85 56 (by decide)).trans (f18 56 (by decide))) ((f85 57 (by decide)).trans (f18 57 (by decide))) ((f85 58 (by decide)).trans (f18 58 (by decide))) ((f85 59 (by decide)).trans (f18 59 (by decide))) hI101
      have I111 : jI102 σ83 := jI102_fr ((f86 6 (by decide)).trans (congrFun (f18 55 (by decide)) 6)) ((f85 60 (by decide)).trans (f18 60 (by decide))) ((f85 61 (by decide)).trans (f18 61 (by decide))) hI102
      have I112 : jI103 σ83 := jI103_fr ((f86 9 (by decide)).trans (congrFun (f18 55 (by decide)) 9)) hI103
      have I113 : jI104 σ83 := jI104_fr ((f86 10 (by decide)).trans (congrFun (f18 55 (by decide)) 10)) ((f86 12 (by decide)).trans (congrFun (f18 55 (by decide)) 12)) ((f86 13 (by decide)).trans (congrFun (f18 55 (by decide)) 13)) ((f85 62 (by decide)).trans (f18 62 (by decide))) ((f85 67 (by decide)).trans (f18 67 (by decide))) hI104
      have I114 : jI105 σ83 := jI105_fr ((f86 15 (by decide)).trans (congrFun (f18 55 (by decide)) 15)) ((f85 65 (by decide)).trans (f18 65 (by decide))) hI105
      have I115 : jI106 σ83 := jI106_fr (f86 32 (by decide)) (f85 70 (by decide)) (f85 71 (by decide)) (f85 72 (by decide)) I81
      have I116 : jI107 σ83 := jI107_fr ((f86 12 (by decide)).trans (congrFun (f18 55 (by decide)) 12)) ((f86 47 (by decide)).trans (congrFun (f18 55 (by decide)) 47)) ((f85 80 (by decide)).trans (f18 80 (by decide))) hI107
      have I117 : jI109 σ83 := jI109_fr ((f86 50 (by decide)).trans (congrFun (f18 55 (by decide)) 50)) hI109
      have I118 : jI110 σ83 := jI110_fr ((f85 86 (by decide)).trans (f18 86 (by decide))) ((f85 87 (by decide)).trans (f18 87 (by decide))) hI110
      have I119 : jI111 σ83 := jI111_fr ((f85 79 (by decide)).trans (f18 79 (by decide))) hI111
      have I120 : jI119 σ83 := jI119_fr ((f85 68 (by decide)).trans (f18 68 (by decide))) hI119
      have p121 : jKept σ83 := jKept.fr ((f85 75 (by decide)).trans (f18 75 (by decide))) ((f85 76 (by decide)).trans (f18 76 (by decide))) ((f85 77 (by decide)).trans (f18 77 (by decide))) hs_jKept
      have p122 : jBook σ83 := jBook.fr ((f86 47 (by decide)).trans (congrFun (f18 55 (by decide)) 47)) ((f86 10 (by decide)).trans (congrFun (f18 55 (by decide)) 10)) ((f85 81 (by decide)).trans (f18 81 (by decide))) hs_jBook
      have z123 : (σ83 38 0).toInt = (σ 38 0).toInt := (congrArg Int32.toInt (show σ83 38 0 = (σ 38 0) from ((congrFun (f85 38 (by decide)) 0).trans (f19 0 (by decide)))))
      have z124 : (σ83 55 32).toInt = (σ 55 32).toInt := (congrArg Int32.toInt (show σ83 55 32 = (σ 55 32) from ((f86 32 (by decide)).trans (congrFun (f18 55 (by decide)) 32))))
      exact ih x98 σ83 τ _ _ ls (by have h9 := tx98; omega) ⟨I99, I100, I101, I102, I103, I104, I105, I106, I107, I108, I109, I110, I111, I112, I113, I114, I115, I116, I117, I118, I119, I120, p121, p122, (by omega), (show jShP (σ83 51) (σ83 52) (σ83 53) (σ83 86) (σ83 87) (σ83 55 32).toInt by rw [show σ83 51 = σ 51 from ((f85 51 (by decide)).trans (f18 51 (by decide))), show σ83 52 = σ 52 from ((f85 52 (by decide)).trans (f18 52 (by decide))), show σ83 53 = σ 53 from ((f85 53 (by decide)).trans (f18 53 (by decide))), show σ83 86 = σ 86 from ((f85 86 (by decide)).trans (f18 86 (by decide))), show σ83 87 = σ 87 from ((f85 87 (by decide)).trans (f18 87 (by decide)))]; exact (hr0.up (by omega) (by omega))), (show jEl (σ83 51) (σ83 52) (τ 54) (τ 88) by rw [show σ83 51 = σ 51 from ((f85 51 (by decide)).trans (f18 51 (by decide))), show σ83 52 = σ 52 from ((f85 52 (by decide)).trans (f18 52 (by decide)))]; exact hr1)⟩ hP hS (lv_sub hl [0, 1, 2, 3] rfl)
set_option maxHeartbeats 4000000 in
set_option maxRecDepth 100000 in
theorem law_case_29 {p : Program} {e : Env} {s : State} {m : MethodId} {below : List Frame} {meth : Method} {c : Code} (l : Launch) {b L : Nat} {xs : Nat → Int32} {D : va_G} {cI cL : ClassId} {ad zz : Nat → Nat} (C0 : lw_At p s m meth c b L xs) (hJ : jD ad) (hA : ∀ q, jA ad q → s.heap.size ≤ q) (hK : jK D cI cL s) (hZ : jZ zz (fun q : Nat => s.heap.size ≤ q) s s.heap) {x0 : Int32} (hx0 : 0 ≤ x0.toInt) (hxL : x0.toInt + 6 ≤ (L : Int)) (hL : L ≤ 384) {σ : Nat → Nat → Int32} {τ : Nat → Nat → Int64} {H : Heap} {locs : List Loc} (hS : va_S (fun q : Nat => s.heap.size ≤ q) s.heap H locs) {ls : Array Slot} (hAll : jAll σ τ) (hP : jH D cI cL ad σ τ H) (hl : lv_has ls 4 [(3, .int x0), (2, .ref (ad 55)), (1, .ref (ad 0)), (0, .ref b)]) (ih : ∀ (x1 : Int32) (σ : Nat → Nat → Int32) (τ : Nat → Nat → Int64) (H : Heap) (locs : List Loc) (ls : Array Slot), x1.toInt = x0.toInt + 6 → jAll σ τ → jH D cI cL ad σ τ H → va_S (fun q : Nat => s.heap.size ≤ q) s.heap H locs → lv_has ls 4 [(3, .int x1), (2, .ref (ad 55)), (1, .ref (ad 0)), (0, .ref b)] → W p l e room_1 s m #[Value.ref b] below meth c H locs 90 348600 (lw_Z below #[Value.ref b] s) (F0 m 18 ls [])) : W p l e room_1 s m #[Value.ref b] below meth c H locs 90 348600 (lw_Z below #[Value.ref b] s) (F0 m 1033 ls []) := by
  obtain ⟨hx, hb, hr, hml, hown, hts0, hX, hbl, hlocks, hgv⟩ := C0
  have hts : ∀ w ∈ wsL_law, w.before #[Value.ref b] s = true := fun w h => hts0 w (wsL_law_in w h)
  have hbA : ¬ (fun q : Nat => s.heap.size ≤ q) b := Nat.not_le.mpr hbl
  have hown : s.vm.findClass RL = some m.cls := hown
  obtain ⟨hI2, hI9, hI12, hI16, hI18, hI22, hI31, hI38, hI43, hI47, hI50, hI101, hI102, hI103, hI104, hI105, hI106, hI107, hI109, hI110, hI111, hI119, hs_jKept, hs_jBook, ht0, hr0, hr1⟩ := hAll
  have hL9 : (L : Int) ≤ 384 := by omega
  obtain ⟨i1, i2, w3⟩ : (0 ≤ (σ 38 0).toInt ∧ (σ 38 0).toInt ≤ 20) ∧ (0 ≤ (σ 38 1).toInt ∧ (σ 38 1).toInt ≤ 1000) ∧ (∀ k : Nat, k < 20 → 0 ≤ (σ 39 k).toInt ∧ (σ 39 k).toInt ≤ 6) := id hI38
  have w4 : ∀ k : Nat, k < 6 → 0 ≤ (σ 52 k).toInt ∧ (σ 52 k).toInt ≤ 60 := hI50
  obtain ⟨i5, w6, w7, w8⟩ : (0 ≤ (σ 55 32).toInt ∧ (σ 55 32).toInt ≤ 20) ∧ (∀ k : Nat, k < 20 → 0 ≤ (σ 70 k).toInt ∧ (σ 70 k).toInt ≤ 6) ∧ (∀ k : Nat, k < 20 → 0 ≤ (σ 71 k).toInt ∧ (σ 71 k).toInt ≤ 8) ∧ (∀ k : Nat, k < 160 → 0 ≤ (σ 72 k).toInt ∧ (σ 72 k).toInt ≤ 3) := id hI106
  refine lv_aload_n hx hb dL_law_1033 rfl (lv_at hl 2 rfl) ?_
  refine lv_aload_n hx hb dL_law_1034 rfl (lv_at hl 3 rfl) ?_
  refine lv_iload_n hx hb dL_law_1035 rfl (lv_at hl 0 rfl) ?_
  refine lv_iconst (v := 1) hx hb dL_law_1036 (by decide) ?_
  have g9 := jrg (rfl : x0.toInt = x0.toInt)
  refine lv_iadd hx hb dL_law_1037 ?_
  refine lv_topi (fun x10 ex10 => ?_)
  have tx10 : x10.toInt = x0.toInt + 1 := (jadd ex10 rfl jz_1 (by omega) (by omega)).trans (by omega)
  refine va_sld hx hb hX hbl hbA hS (jin tx10 (by omega) (by omega)) dL_law_1038 ?_
  have g11 := jrg (rfl : (xs x10.toNatClampNeg).toInt = (xs x10.toNatClampNeg).toInt)
  refine jcallV (As := [.int (xs x10.toNatClampNeg)]) (rest := []) ⟨hx, hb, hml, hown, hts⟩ hK hP hA hS hZ (c_X11_trace l D cI cL ad zz hJ σ τ (xs x10.toNatClampNeg) ((xs x10.toNatClampNeg).toInt) rfl hI38) cw_RL_133 (jc_0 cI cL ad σ τ) rfl ⟨Nat.le_of_ble_eq_true rfl, Nat.le_of_ble_eq_true rfl⟩ rfl rfl rfl hl.1 rfl (Nat.le_of_ble_eq_true rfl) dL_law_1039 ⟨Nat.le_of_ble_eq_true rfl, Nat.le_of_ble_eq_true rfl⟩ (fun r13 σ12 τ12 H locs h12 hP hS => ?_)
  obtain ⟨⟨rfl, rfl⟩, h12⟩ := h12
  rcases h12 with h14 | h15
  · obtain ⟨q19, k16, k17, k18⟩ := h14
    have q20 : r13 = (σ 42 (xs x10.toNatClampNeg).toNatClampNeg) := q19.trans rfl
    have q20 := q20.symm
    subst q20
    refine lv_pop hx hb dL_law_1042 rfl ?_
    refine lv_aload_n hx hb dL_law_1043 rfl (lv_at hl 1 rfl) ?_
    refine lv_aload_n hx hb dL_law_1044 rfl (lv_at hl 3 rfl) ?_
    refine lv_iload_n hx hb dL_law_1045 rfl (lv_at hl 0 rfl) ?_
    refine lv_iconst (v := 1) hx hb dL_law_1046 (by decide) ?_
    refine lv_iadd hx hb dL_law_1047 ?_
    refine jtopr ex10.symm ?_
    refine va_sld hx hb hX hbl hbA hS (jin tx10 (by omega) (by omega)) dL_law_1048 ?_
    refine jcallV (As := [.int (xs x10.toNatClampNeg)]) (rest := []) ⟨hx, hb, hml, hown, hts⟩ hK hP hA hS hZ (c_X12_trace l D cI cL ad zz hJ σ τ (xs x10.toNatClampNeg) ((xs x10.toNatClampNeg).toInt) rfl) cw_RL_136 (jc_55 cI cL ad σ τ) rfl ⟨Nat.le_of_ble_eq_true rfl, Nat.le_of_ble_eq_true rfl⟩ rfl rfl rfl hl.1 rfl (Nat.le_of_ble_eq_true rfl) dL_law_1049 ⟨Nat.le_of_ble_eq_true rfl, Nat.le_of_ble_eq_true rfl⟩ (fun r22 σ21 τ21 H locs h21 hP hS => ?_)
    obtain ⟨⟨rfl, rfl⟩, h21⟩ := h21
    rcases h21 with h23 | h24
    · obtain ⟨q28, k25, k26, k27⟩ := h23
      have q29 : r22 = (σ 85 (xs x10.toNatClampNeg).toNatClampNeg) := q28.trans rfl
      have q29 := q29.symm
      subst q29
      refine lv_pop hx hb dL_law_1052 rfl ?_
      refine lv_goto (tgt := 1358) hx hb dL_law_1053 (by decide) ?_
      obtain ⟨x30, ex30⟩ : ∃ y : Int32, y = x0 + 6 := ⟨_, rfl⟩
      have tx30 : x30.toInt = x0.toInt + 6 := (jadd ex30 rfl jz_6 (by omega) (by omega)).trans (by omega)
      refine lv_iinc (v := x30) (lv' := [(3, .int x30), (2, .ref (ad 55)), (1, .ref (ad 0)), (0, .ref b)]) hx hb dL_law_1358 hl (k := 0) rfl (by rw [ex30]; rfl) (by decide) rfl (fun ls hl => ?_)
      refine lv_goto (tgt := 18) hx hb dL_law_1361 (by decide) ?_
      exact ih x30 σ τ _ _ ls (by have h9 := tx30; omega) ⟨hI2, hI9, hI12, hI16, hI18, hI22, hI31, hI38, hI43, hI47, hI50, hI101, hI102, hI103, hI104, hI105, hI106, hI107, hI109, hI110, hI111, hI119, hs_jKept, hs_jBook, (by omega), hr0, hr1⟩ hP hS (lv_sub hl [0, 1, 2, 3] rfl)
    · obtain ⟨q32, k31⟩ := h24
      have q32 := q32.symm
      subst q32
      refine lv_pop hx hb dL_law_1052 rfl ?_
      refine lv_goto (tgt := 1358) hx hb dL_law_1053 (by decide) ?_
      obtain ⟨x33, ex33⟩ : ∃ y : Int32, y = x0 + 6 := ⟨_, rfl⟩
      have tx33 : x33.toInt = x0.toInt + 6 := (jadd ex33 rfl jz_6 (by omega) (by omega)).trans (by omega)
      refine lv_iinc (v := x33) (lv' := [(3, .int x33), (2, .ref (ad 55)), (1, .ref (ad 0)), (0, .ref b)]) hx hb dL_law_1358 hl (k := 0) rfl (by rw [ex33]; rfl) (by decide) rfl (fun ls hl => ?_)
      refine lv_goto (tgt := 18) hx hb dL_law_1361 (by decide) ?_
      exact ih x33 σ τ _ _ ls (by have h9 := tx33; omega) ⟨hI2, hI9, hI12, hI16, hI18, hI22, hI31, hI38, hI43, hI47, hI50, hI101, hI102, hI103, hI104, hI105, hI106, hI107, hI109, hI110, hI111, hI119, hs_jKept, hs_jBook, (by omega), hr0, hr1⟩ hP hS (lv_sub hl [0, 1, 2, 3] rfl)
  · obtain ⟨q35, k34⟩ := h15
    have q35 := q35.symm
    subst q35
    refine lv_pop hx hb dL_law_1042 rfl ?_
    refine lv_aload_n hx hb dL_law_1043 rfl (lv_at hl 1 rfl) ?_
    refine lv_aload_n hx hb dL_law_1044 rfl (lv_at hl 3 rfl) ?_
    refine lv_iload_n hx hb dL_law_1045 rfl (lv_at hl 0 rfl) ?_
    refine lv_iconst (v := 1) hx hb dL_law_1046 (by decide) ?_
    refine lv_iadd hx hb dL_law_1047 ?_
    refine jtopr ex10.symm ?_
    refine va_sld hx hb hX hbl hbA hS (jin tx10 (by omega) (by omega)) dL_law_1048 ?_
    refine jcallV (As := [.int (xs x10.toNatClampNeg)]) (rest := []) ⟨hx, hb, hml, hown, hts⟩ hK hP hA hS hZ (c_X12_trace l D cI cL ad zz hJ σ τ (xs x10.toNatClampNeg) ((xs x10.toNatClampNeg).toInt) rfl) cw_RL_136 (jc_55 cI cL ad σ τ) rfl ⟨Nat.le_of_ble_eq_true rfl, Nat.le_of_ble_eq_true rfl⟩ rfl rfl rfl hl.1 rfl (Nat.le_of_ble_eq_true rfl) dL_law_1049 ⟨Nat.le_of_ble_eq_true rfl, Nat.le_of_ble_eq_true rfl⟩ (fun r37 σ36 τ36 H locs h36 hP hS => ?_)
    obtain ⟨⟨rfl, rfl⟩, h36⟩ := h36
    rcases h36 with h38 | h39
    · obtain ⟨q43, k40, k41, k42⟩ := h38
      have q44 : r37 = (σ 85 (xs x10.toNatClampNeg).toNatClampNeg) := q43.trans rfl
      have q44 := q44.symm
      subst q44
      refine lv_pop hx hb dL_law_1052 rfl ?_
      refine lv_goto (tgt := 1358) hx hb dL_law_1053 (by decide) ?_
      obtain ⟨x45, ex45⟩ : ∃ y : Int32, y = x0 + 6 := ⟨_, rfl⟩
      have tx45 : x45.toInt = x0.toInt + 6 := (jadd ex45 rfl jz_6 (by omega) (by omega)).trans (by omega)
      refine lv_iinc (v := x45) (lv' := [(3, .int x45), (2, .ref (ad 55)), (1, .ref (ad 0)), (0, .ref b)]) hx hb dL_law_1358 hl (k := 0) rfl (by rw [ex45]; rfl) (by decide) rfl (fun ls hl => ?_)
      refine lv_goto (tgt := 18) hx hb dL_law_1361 (by decide) ?_
      exact ih x45 σ τ _ _ ls (by have h9 := tx45; omega) ⟨hI2, hI9, hI12, hI16, hI18, hI22, hI31, hI38, hI43, hI47, hI50, hI101, hI102, hI103, hI104, hI105, hI106, hI107, hI109, hI110, hI111, hI119, hs_jKept, hs_jBook, (by omega), hr0, hr1⟩ hP hS (lv_sub hl [0, 1, 2, 3] rfl)
    · obtain ⟨q47, k46⟩ := h39
      have q47 := q47.symm
      subst q47
      refine lv_pop hx hb dL_law_1052 rfl ?_
      refine lv_goto (tgt := 1358) hx hb dL_law_1053 (by decide) ?_
      obtain ⟨x48, ex48⟩ : ∃ y : Int32, y = x0 + 6 := ⟨_, rfl⟩
      have tx48 : x48.toInt = x0.toInt + 6 := (jadd ex48 rfl jz_6 (by omega) (by omega)).trans (by omega)
      refine lv_iinc (v := x48) (lv' := [(3, .int x48), (2, .ref (ad 55)), (1, .ref (ad 0)), (0, .ref b)]) hx hb dL_law_1358 hl (k := 0) rfl (by rw [ex48]; rfl) (by decide) rfl (fun ls hl => ?_)
      refine lv_goto (tgt := 18) hx hb dL_law_1361 (by decide) ?_
      exact ih x48 σ τ _ _ ls (by have h9 := tx48; omega) ⟨hI2, hI9, hI12, hI16, hI18, hI22, hI31, hI38, hI43, hI47, hI50, hI101, hI102, hI103, hI104, hI105, hI106, hI107, hI109, hI110, hI111, hI119, hs_jKept, hs_jBook, (by omega), hr0, hr1⟩ hP hS (lv_sub hl [0, 1, 2, 3] rfl)
set_option maxHeartbeats 4000000 in
set_option maxRecDepth 100000 in
theorem law_case_30 {p : Program} {e : Env} {s : State} {m : MethodId} {below : List Frame} {meth : Method} {c : Code} (l : Launch) {b L : Nat} {xs : Nat → Int32} {D : va_G} {cI cL : ClassId} {ad zz : Nat → Nat} (C0 : lw_At p s m meth c b L xs) (hJ : jD ad) (hA : ∀ q, jA ad q → s.heap.size ≤ q) (hK : jK D cI cL s) (hZ : jZ zz (fun q : Nat => s.heap.size ≤ q) s s.heap) {x0 : Int32} (hx0 : 0 ≤ x0.toInt) (hxL : x0.toInt + 6 ≤ (L : Int)) (hL : L ≤ 384) {σ : Nat → Nat → Int32} {τ : Nat → Nat → Int64} {H : Heap} {locs : List Loc} (hS : va_S (fun q : Nat => s.heap.size ≤ q) s.heap H locs) {ls : Array Slot} (hAll : jAll σ τ) (hP : jH D cI cL ad σ τ H) (hl : lv_has ls 4 [(3, .int x0), (2, .ref (ad 55)), (1, .ref (ad 0)), (0, .ref b)]) (ih : ∀ (x1 : Int32) (σ : Nat → Nat → Int32) (τ : Nat → Nat → Int64) (H : Heap) (locs : List Loc) (ls : Array Slot), x1.toInt = x0.toInt + 6 → jAll σ τ → jH D cI cL ad σ τ H → va_S (fun q : Nat => s.heap.size ≤ q) s.heap H locs → lv_has ls 4 [(3, .int x1), (2, .ref (ad 55)), (1, .ref (ad 0)), (0, .ref b)] → W p l e room_1 s m #[Value.ref b] below meth c H locs 90 348600 (lw_Z below #[Value.ref b] s) (F0 m 18 ls [])) : W p l e room_1 s m #[Value.ref b] below meth c H locs 90 348600 (lw_Z below #[Value.ref b] s) (F0 m 1056 ls []) := by
  obtain ⟨hx, hb, hr, hml, hown, hts0, hX, hbl, hlocks, hgv⟩ := C0
  have hts : ∀ w ∈ wsL_law, w.before #[Value.ref b] s = true := fun w h => hts0 w (wsL_law_in w h)
  have hbA : ¬ (fun q : Nat => s.heap.size ≤ q) b := Nat.not_le.mpr hbl
  have hown : s.vm.findClass RL = some m.cls := hown
  obtain ⟨hI2, hI9, hI12, hI16, hI18, hI22, hI31, hI38, hI43, hI47, hI50, hI101, hI102, hI103, hI104, hI105, hI106, hI107, hI109, hI110, hI111, hI119, hs_jKept, hs_jBook, ht0, hr0, hr1⟩ := hAll
  have hL9 : (L : Int) ≤ 384 := by omega
  obtain ⟨i1, i2, w3⟩ : (0 ≤ (σ 38 0).toInt ∧ (σ 38 0).toInt ≤ 20) ∧ (0 ≤ (σ 38 1).toInt ∧ (σ 38 1).toInt ≤ 1000) ∧ (∀ k : Nat, k < 20 → 0 ≤ (σ 39 k).toInt ∧ (σ 39 k).toInt ≤ 6) := id hI38
  have w4 : ∀ k : Nat, k < 6 → 0 ≤ (σ 52 k).toInt ∧ (σ 52 k).toInt ≤ 60 := hI50
  obtain ⟨i5, w6, w7, w8⟩ : (0 ≤ (σ 55 32).toInt ∧ (σ 55 32).toInt ≤ 20) ∧ (∀ k : Nat, k < 20 → 0 ≤ (σ 70 k).toInt ∧ (σ 70 k).toInt ≤ 6) ∧ (∀ k : Nat, k < 20 → 0 ≤ (σ 71 k).toInt ∧ (σ 71 k).toInt ≤ 8) ∧ (∀ k : Nat, k < 160 → 0 ≤ (σ 72 k).toInt ∧ (σ 72 k).toInt ≤ 3) := id hI106
  refine lv_aload_n hx hb dL_law_1056 rfl (lv_at hl 2 rfl) ?_
  refine lv_aload_n hx hb dL_law_1057 rfl (lv_at hl 3 rfl) ?_
  refine lv_iload_n hx hb dL_law_1058 rfl (lv_at hl 0 rfl) ?_
  refine lv_iconst (v := 1) hx hb dL_law_1059 (by decide) ?_
  have g9 := jrg (rfl : x0.toInt = x0.toInt)
  refine lv_iadd hx hb dL_law_1060 ?_
  refine lv_topi (fun x10 ex10 => ?_)
  have tx10 : x10.toInt = x0.toInt + 1 := (jadd ex10 rfl jz_1 (by omega) (by omega)).trans (by omega)
  refine va_sld hx hb hX hbl hbA hS (jin tx10 (by omega) (by omega)) dL_law_1061 ?_
  have g11 := jrg (rfl : (xs x10.toNatClampNeg).toInt = (xs x10.toNatClampNeg).toInt)
  refine lv_aload_n hx hb dL_law_1062 rfl (lv_at hl 3 rfl) ?_
  refine lv_iload_n hx hb dL_law_1063 rfl (lv_at hl 0 rfl) ?_
  refine lv_iconst (v := 2) hx hb dL_law_1064 (by decide) ?_
  refine lv_iadd hx hb dL_law_1065 ?_
  refine lv_topi (fun x12 ex12 => ?_)
  have tx12 : x12.toInt = x0.toInt + 2 := (jadd ex12 rfl jz_2 (by omega) (by omega)).trans (by omega)
  refine va_sld hx hb hX hbl hbA hS (jin tx12 (by omega) (by omega)) dL_law_1066 ?_
  have g13 := jrg (rfl : (xs x12.toNatClampNeg).toInt = (xs x12.toNatClampNeg).toInt)
  refine jcallV (As := [.int (xs x10.toNatClampNeg), .int (xs x12.toNatClampNeg)]) (rest := []) ⟨hx, hb, hml, hown, hts⟩ hK hP hA hS hZ (c_X11_keep l D cI cL ad zz hJ σ τ (xs x10.toNatClampNeg) ((xs x10.toNatClampNeg).toInt) rfl (xs x12.toNatClampNeg) ((xs x12.toNatClampNeg).toInt) rfl hI38 hI50) cw_RL_137 (jc_0 cI cL ad σ τ) rfl ⟨Nat.le_of_ble_eq_true rfl, Nat.le_of_ble_eq_true rfl⟩ rfl rfl rfl hl.1 rfl (Nat.le_of_ble_eq_true rfl) dL_law_1067 ⟨Nat.le_of_ble_eq_true rfl, Nat.le_of_ble_eq_true rfl⟩ (fun r15 σ14 τ14 H locs h14 hP hS => ?_)
  obtain ⟨rfl, f16, I17, h14⟩ := h14
  have w19 : ∀ k : Nat, k < 6 → 0 ≤ (σ14 52 k).toInt ∧ (σ14 52 k).toInt ≤ 60 := I17
  rcases h14 with h20 | h21 | h22
  · obtain ⟨q26, k23, k24, k25⟩ := h20
    have q26 := q26.symm
    subst q26
    refine lv_pop hx hb dL_law_1070 rfl ?_
    refine lv_aload_n hx hb dL_law_1071 rfl (lv_at hl 1 rfl) ?_
    refine lv_aload_n hx hb dL_law_1072 rfl (lv_at hl 3 rfl) ?_
    refine lv_iload_n hx hb dL_law_1073 rfl (lv_at hl 0 rfl) ?_
    refine lv_iconst (v := 1) hx hb dL_law_1074 (by decide) ?_
    refine lv_iadd hx hb dL_law_1075 ?_
    refine jtopr ex10.symm ?_
    refine va_sld hx hb hX hbl hbA hS (jin tx10 (by omega) (by omega)) dL_law_1076 ?_
    refine lv_aload_n hx hb dL_law_1077 rfl (lv_at hl 3 rfl) ?_
    refine lv_iload_n hx hb dL_law_1078 rfl (lv_at hl 0 rfl) ?_
    refine lv_iconst (v := 2) hx hb dL_law_1079 (by decide) ?_
    refine lv_iadd hx hb dL_law_1080 ?_
    refine jtopr ex12.symm ?_
    refine va_sld hx hb hX hbl hbA hS (jin tx12 (by omega) (by omega)) dL_law_1081 ?_
    have I27 : jI106 σ14 := jI106_fr (congrFun (f16 55 (by decide)) 32) (f16 70 (by decide)) (f16 71 (by decide)) (f16 72 (by decide)) hI106
    have I28 : jI110 σ14 := jI110_fr (f16 86 (by decide)) (f16 87 (by decide)) hI110
    have z29 : (σ14 55 32).toInt = (σ 55 32).toInt := (congrArg Int32.toInt (show σ14 55 32 = (σ 55 32) from (congrFun (f16 55 (by decide)) 32)))
    refine jcallV (As := [.int (xs x10.toNatClampNeg), .int (xs x12.toNatClampNeg)]) (rest := []) ⟨hx, hb, hml, hown, hts⟩ hK hP hA hS hZ (c_X12_keep l D cI cL ad zz hJ σ14 τ (xs x10.toNatClampNeg) ((xs x10.toNatClampNeg).toInt) rfl (xs x12.toNatClampNeg) ((xs x12.toNatClampNeg).toInt) rfl I27 I28) cw_RL_140 (jc_55 cI cL ad σ14 τ) rfl ⟨Nat.le_of_ble_eq_true rfl, Nat.le_of_ble_eq_true rfl⟩ rfl rfl rfl hl.1 rfl (Nat.le_of_ble_eq_true rfl) dL_law_1082 ⟨Nat.le_of_ble_eq_true rfl, Nat.le_of_ble_eq_true rfl⟩ (fun r31 σ30 τ30 H locs h30 hP hS => ?_)
    obtain ⟨rfl, f32, I33, h30⟩ := h30
    rcases h30 with h35 | h36 | h37
    · obtain ⟨q41, k38, k39, k40⟩ := h35
      have q41 := q41.symm
      subst q41
      refine lv_pop hx hb dL_law_1085 rfl ?_
      refine lv_goto (tgt := 1358) hx hb dL_law_1086 (by decide) ?_
      obtain ⟨x42, ex42⟩ : ∃ y : Int32, y = x0 + 6 := ⟨_, rfl⟩
      have tx42 : x42.toInt = x0.toInt + 6 := (jadd ex42 rfl jz_6 (by omega) (by omega)).trans (by omega)
      refine lv_iinc (v := x42) (lv' := [(3, .int x42), (2, .ref (ad 55)), (1, .ref (ad 0)), (0, .ref b)]) hx hb dL_law_1358 hl (k := 0) rfl (by rw [ex42]; rfl) (by decide) rfl (fun ls hl => ?_)
      refine lv_goto (tgt := 18) hx hb dL_law_1361 (by decide) ?_
      have I43 : jI2 σ30 := jI2_fr ((congrFun (f32 2 (by decide)) 0).trans (congrFun (f16 2 (by decide)) 0)) ((congrFun (f32 2 (by decide)) 1).trans (congrFun (f16 2 (by decide)) 1)) ((congrFun (f32 2 (by decide)) 2).trans (congrFun (f16 2 (by decide)) 2)) ((congrFun (f32 2 (by decide)) 3).trans (congrFun (f16 2 (by decide)) 3)) ((f32 6 (by decide)).trans (f16 6 (by decide))) hI2
      have I44 : jI9 σ30 := jI9_fr ((congrFun (f32 9 (by decide)) 0).trans (congrFun (f16 9 (by decide)) 0)) ((f32 10 (by decide)).trans (f16 10 (by decide))) ((f32 11 (by decide)).trans (f16 11 (by decide))) hI9
      have I45 : jI12 σ30 := jI12_fr ((congrFun (f32 12 (by decide)) 0).trans (congrFun (f16 12 (by decide)) 0)) ((f32 13 (by decide)).trans (f16 13 (by decide))) hI12
      have I46 : jI16 σ30 := jI16_fr ((congrFun (f32 16 (by decide)) 0).trans (congrFun (f16 16 (by decide)) 0)) ((congrFun (f32 16 (by decide)) 1).trans (congrFun (f16 16 (by decide)) 1)) ((congrFun (f32 16 (by decide)) 2).trans (congrFun (f16 16 (by decide)) 2)) ((f32 17 (by decide)).trans (f16 17 (by decide))) hI16
      have I47 : jI18 σ30 := jI18_fr ((congrFun (f32 18 (by decide)) 0).trans (congrFun (f16 18 (by decide)) 0)) ((f32 19 (by decide)).trans (f16 19 (by decide))) hI18
      have I48 : jI22 σ30 := jI22_fr ((congrFun (f32 22 (by decide)) 0).trans (congrFun (f16 22 (by decide)) 0)) ((f32 23 (by decide)).trans (f16 23 (by decide))) hI22
      have I49 : jI31 σ30 := jI31_fr ((congrFun (f32 31 (by decide)) 8).trans (congrFun (f16 31 (by decide)) 8)) ((f32 33 (by decide)).trans (f16 33 (by decide))) ((f32 36 (by decide)).trans (f16 36 (by decide))) hI31
      have I50 : jI38 σ30 := jI38_fr ((congrFun (f32 38 (by decide)) 0).trans (congrFun (f16 38 (by decide)) 0)) ((congrFun (f32 38 (by decide)) 1).trans (congrFun (f16 38 (by decide)) 1)) ((f32 39 (by decide)).trans (f16 39 (by decide))) hI38
      have I51 : jI43 σ30 := jI43_fr ((congrFun (f32 43 (by decide)) 8).trans (congrFun (f16 43 (by decide)) 8)) hI43
      have I52 : jI47 σ30 := jI47_fr ((congrFun (f32 47 (by decide)) 0).trans (congrFun (f16 47 (by decide)) 0)) ((f32 48 (by decide)).trans (f16 48 (by decide))) ((f32 49 (by decide)).trans (f16 49 (by decide))) hI47
      have I53 : jI50 σ30 := jI50_fr (f32 52 (by decide)) I17
      have I54 : jI101 σ30 := jI101_fr ((congrFun (f32 55 (by decide)) 4).trans (congrFun (f16 55 (by decide)) 4)) ((congrFun (f32 55 (by decide)) 5).trans (congrFun (f16 55 (by decide)) 5)) ((f32 56 (by decide)).trans (f16 56 (by decide))) ((f32 57 (by decide)).trans (f16 57 (by decide))) ((f32 58 (by decide)).trans (f16 58 (by decide))) ((f32 59 (by decide)).trans (f16 59 (by decide))) hI101
      have I55 : jI102 σ30 := jI102_fr ((congrFun (f32 55 (by decide)) 6).trans (congrFun (f16 55 (by decide)) 6)) ((f32 60 (by decide)).trans (f16 60 (by decide))) ((f32 61 (by decide)).trans (f16 61 (by decide))) hI102
      have I56 : jI103 σ30 := jI103_fr ((congrFun (f32 55 (by decide)) 9).trans (congrFun (f16 55 (by decide)) 9)) hI103
      have I57 : jI104 σ30 := jI104_fr ((congrFun (f32 55 (by decide)) 10).trans (congrFun (f16 55 (by decide)) 10)) ((congrFun (f32 55 (by decide)) 12).trans (congrFun (f16 55 (by decide)) 12)) ((congrFun (f32 55 (by decide)) 13).trans (congrFun (f16 55 (by decide)) 13)) ((f32 62 (by decide)).trans (f16 62 (by decide))) ((f32 67 (by decide)).trans (f16 67 (by decide))) hI104
      have I58 : jI105 σ30 := jI105_fr ((congrFun (f32 55 (by decide)) 15).trans (congrFun (f16 55 (by decide)) 15)) ((f32 65 (by decide)).trans (f16 65 (by decide))) hI105
      have I59 : jI106 σ30 := jI106_fr (congrFun (f32 55 (by decide)) 32) (f32 70 (by decide)) (f32 71 (by decide)) (f32 72 (by decide)) I27
      have I60 : jI107 σ30 := jI107_fr ((congrFun (f32 55 (by decide)) 12).trans (congrFun (f16 55 (by decide)) 12)) ((congrFun (f32 55 (by decide)) 47).trans (congrFun (f16 55 (by decide)) 47)) ((f32 80 (by decide)).trans (f16 80 (by decide))) hI107
      have I61 : jI109 σ30 := jI109_fr ((congrFun (f32 55 (by decide)) 50).trans (congrFun (f16 55 (by decide)) 50)) hI109
      have I62 : jI111 σ30 := jI111_fr ((f32 79 (by decide)).trans (f16 79 (by decide))) hI111
      have I63 : jI119 σ30 := jI119_fr ((f32 68 (by decide)).trans (f16 68 (by decide))) hI119
      have p64 : jKept σ30 := jKept.fr ((f32 75 (by decide)).trans (f16 75 (by decide))) ((f32 76 (by decide)).trans (f16 76 (by decide))) ((f32 77 (by decide)).trans (f16 77 (by decide))) hs_jKept
      have p65 : jBook σ30 := jBook.fr ((congrFun (f32 55 (by decide)) 47).trans (congrFun (f16 55 (by decide)) 47)) ((congrFun (f32 55 (by decide)) 10).trans (congrFun (f16 55 (by decide)) 10)) ((f32 81 (by decide)).trans (f16 81 (by decide))) hs_jBook
      have z66 : (σ30 38 0).toInt = (σ 38 0).toInt := (congrArg Int32.toInt (show σ30 38 0 = (σ 38 0) from ((congrFun (f32 38 (by decide)) 0).trans (congrFun (f16 38 (by decide)) 0))))
      have z67 : (σ30 55 32).toInt = (σ 55 32).toInt := (congrArg Int32.toInt (show σ30 55 32 = (σ 55 32) from ((congrFun (f32 55 (by decide)) 32).trans (congrFun (f16 55 (by decide)) 32))))
      rw [show σ14 86 = σ 86 from (f16 86 (by decide)), show σ14 87 = σ 87 from (f16 87 (by decide))] at k40
      have p68 := hr0.set k25.1 k25.2.2 k25.2.1 k40.1 k40.2 (Or.inl ⟨rfl, Int32.toInt_inj.mp (show (xs x12.toNatClampNeg).toInt = (-1 : Int32).toInt by rw [show (-1 : Int32).toInt = -1 by decide]; omega)⟩)
      have p69 := hr1.keep k25.1 k25.2.2 (by decide)
      exact ih x42 σ30 τ _ _ ls (by have h9 := tx42; omega) ⟨I43, I44, I45, I46, I47, I48, I49, I50, I51, I52, I53, I54, I55, I56, I57, I58, I59, I60, I61, I33, I62, I63, p64, p65, (by omega), (show jShP (σ30 51) (σ30 52) (σ30 53) (σ30 86) (σ30 87) (σ30 55 32).toInt by rw [show σ30 51 = σ14 51 from (f32 51 (by decide)), show σ30 52 = σ14 52 from (f32 52 (by decide)), show σ30 53 = σ14 53 from (f32 53 (by decide))]; exact (p68.up (by omega) (by omega))), (show jEl (σ30 51) (σ30 52) (τ 54) (τ 88) by rw [show σ30 51 = σ14 51 from (f32 51 (by decide)), show σ30 52 = σ14 52 from (f32 52 (by decide))]; exact p69)⟩ hP hS (lv_sub hl [0, 1, 2, 3] rfl)
    · obtain ⟨q73, k70, k71, k72⟩ := h36
      exact absurd (by omega : False) id
    · obtain ⟨q76, k74, k75⟩ := h37
      exact absurd (by omega : False) id
  · obtain ⟨q80, k77, k78, k79⟩ := h21
    have q80 := q80.symm
    subst q80
    refine lv_pop hx hb dL_law_1070 rfl ?_
    refine lv_aload_n hx hb dL_law_1071 rfl (lv_at hl 1 rfl) ?_
    refine lv_aload_n hx hb dL_law_1072 rfl (lv_at hl 3 rfl) ?_
    refine lv_iload_n hx hb dL_law_1073 rfl (lv_at hl 0 rfl) ?_
    refine lv_iconst (v := 1) hx hb dL_law_1074 (by decide) ?_
    refine lv_iadd hx hb dL_law_1075 ?_
    refine jtopr ex10.symm ?_
    refine va_sld hx hb hX hbl hbA hS (jin tx10 (by omega) (by omega)) dL_law_1076 ?_
    refine lv_aload_n hx hb dL_law_1077 rfl (lv_at hl 3 rfl) ?_
    refine lv_iload_n hx hb dL_law_1078 rfl (lv_at hl 0 rfl) ?_
    refine lv_iconst (v := 2) hx hb dL_law_1079 (by decide) ?_
    refine lv_iadd hx hb dL_law_1080 ?_
    refine jtopr ex12.symm ?_
    refine va_sld hx hb hX hbl hbA hS (jin tx12 (by omega) (by omega)) dL_law_1081 ?_
    have I81 : jI106 σ14 := jI106_fr (congrFun (f16 55 (by decide)) 32) (f16 70 (by decide)) (f16 71 (by decide)) (f16 72 (by decide)) hI106
    have I82 : jI110 σ14 := jI110_fr (f16 86 (by decide)) (f16 87 (by decide)) hI110
    have z83 : (σ14 55 32).toInt = (σ 55 32).toInt := (congrArg Int32.toInt (show σ14 55 32 = (σ 55 32) from (congrFun (f16 55 (by decide)) 32)))
    refine jcallV (As := [.int (xs x10.toNatClampNeg), .int (xs x12.toNatClampNeg)]) (rest := []) ⟨hx, hb, hml, hown, hts⟩ hK hP hA hS hZ (c_X12_keep l D cI cL ad zz hJ σ14 τ (xs x10.toNatClampNeg) ((xs x10.toNatClampNeg).toInt) rfl (xs x12.toNatClampNeg) ((xs x12.toNatClampNeg).toInt) rfl I81 I82) cw_RL_140 (jc_55 cI cL ad σ14 τ) rfl ⟨Nat.le_of_ble_eq_true rfl, Nat.le_of_ble_eq_true rfl⟩ rfl rfl rfl hl.1 rfl (Nat.le_of_ble_eq_true rfl) dL_law_1082 ⟨Nat.le_of_ble_eq_true rfl, Nat.le_of_ble_eq_true rfl⟩ (fun r85 σ84 τ84 H locs h84 hP hS => ?_)
    obtain ⟨rfl, f86, I87, h84⟩ := h84
    rcases h84 with h89 | h90 | h91
    · obtain ⟨q95, k92, k93, k94⟩ := h89
      exact absurd (by omega : False) id
    · obtain ⟨q99, k96, k97, k98⟩ := h90
      have q99 := q99.symm
      subst q99
      refine lv_pop hx hb dL_law_1085 rfl ?_
      refine lv_goto (tgt := 1358) hx hb dL_law_1086 (by decide) ?_
      obtain ⟨x100, ex100⟩ : ∃ y : Int32, y = x0 + 6 := ⟨_, rfl⟩
      have tx100 : x100.toInt = x0.toInt + 6 := (jadd ex100 rfl jz_6 (by omega) (by omega)).trans (by omega)
      refine lv_iinc (v := x100) (lv' := [(3, .int x100), (2, .ref (ad 55)), (1, .ref (ad 0)), (0, .ref b)]) hx hb dL_law_1358 hl (k := 0) rfl (by rw [ex100]; rfl) (by decide) rfl (fun ls hl => ?_)
      refine lv_goto (tgt := 18) hx hb dL_law_1361 (by decide) ?_
      have I101 : jI2 σ84 := jI2_fr ((congrFun (f86 2 (by decide)) 0).trans (congrFun (f16 2 (by decide)) 0)) ((congrFun (f86 2 (by decide)) 1).trans (congrFun (f16 2 (by decide)) 1)) ((congrFun (f86 2 (by decide)) 2).trans (congrFun (f16 2 (by decide)) 2)) ((congrFun (f86 2 (by decide)) 3).trans (congrFun (f16 2 (by decide)) 3)) ((f86 6 (by decide)).trans (f16 6 (by decide))) hI2
      have I102 : jI9 σ84 := jI9_fr ((congrFun (f86 9 (by decide)) 0).trans (congrFun (f16 9 (by decide)) 0)) ((f86 10 (by decide)).trans (f16 10 (by decide))) ((f86 11 (by decide)).trans (f16 11 (by decide))) hI9
      have I103 : jI12 σ84 := jI12_fr ((congrFun (f86 12 (by decide)) 0).trans (congrFun (f16 12 (by decide)) 0)) ((f86 13 (by decide)).trans (f16 13 (by decide))) hI12
      have I104 : jI16 σ84 := jI16_fr ((congrFun (f86 16 (by decide)) 0).trans (congrFun (f16 16 (by decide)) 0)) ((congrFun (f86 16 (by decide)) 1).trans (congrFun (f16 16 (by decide)) 1)) ((congrFun (f86 16 (by decide)) 2).trans (congrFun (f16 16 (by decide)) 2)) ((f86 17 (by decide)).trans (f16 17 (by decide))) hI16
      have I105 : jI18 σ84 := jI18_fr ((congrFun (f86 18 (by decide)) 0).trans (congrFun (f16 18 (by decide)) 0)) ((f86 19 (by decide)).trans (f16 19 (by decide))) hI18
      have I106 : jI22 σ84 := jI22_fr ((congrFun (f86 22 (by decide)) 0).trans (congrFun (f16 22 (by decide)) 0)) ((f86 23 (by decide)).trans (f16 23 (by decide))) hI22
      have I107 : jI31 σ84 := jI31_fr ((congrFun (f86 31 (by decide)) 8).trans (congrFun (f16 31 (by decide)) 8)) ((f86 33 (by decide)).trans (f16 33 (by decide))) ((f86 36 (by decide)).trans (f16 36 (by decide))) hI31
      have I108 : jI38 σ84 := jI38_fr ((congrFun (f86 38 (by decide)) 0).trans (congrFun (f16 38 (by decide)) 0)) ((congrFun (f86 38 (by decide)) 1).trans (congrFun (f16 38 (by decide)) 1)) ((f86 39 (by decide)).trans (f16 39 (by decide))) hI38
      have I109 : jI43 σ84 := jI43_fr ((congrFun (f86 43 (by decide)) 8).trans (congrFun (f16 43 (by decide)) 8)) hI43
      have I110 : jI47 σ84 := jI47_fr ((congrFun (f86 47 (by decide)) 0).trans (congrFun (f16 47 (by decide)) 0)) ((f86 48 (by decide)).trans (f16 48 (by decide))) ((f86 49 (by decide)).trans (f16 49 (by decide))) hI47
      have I111 : jI50 σ84 := jI50_fr (f86 52 (by decide)) I17
      have I112 : jI101 σ84 := jI101_fr ((congrFun (f86 55 (by decide)) 4).trans (congrFun (f16 55 (by decide)) 4)) ((congrFun (f86 55 (by decide)) 5).trans (congrFun (f16 55 (by decide)) 5)) ((f86 56 (by decide)).trans (f16 56 (by decide))) ((f86 57 (by decide)).trans (f16 57 (by decide))) ((f86 58 (by decide)).trans (f16 58 (by decide))) ((f86 59 (by decide)).trans (f16 59 (by decide))) hI101
      have I113 : jI102 σ84 := jI102_fr ((congrFun (f86 55 (by decide)) 6).trans (congrFun (f16 55 (by decide)) 6)) ((f86 60 (by decide)).trans (f16 60 (by decide))) ((f86 61 (by decide)).trans (f16 61 (by decide))) hI102
      have I114 : jI103 σ84 := jI103_fr ((congrFun (f86 55 (by decide)) 9).trans (congrFun (f16 55 (by decide)) 9)) hI103
      have I115 : jI104 σ84 := jI104_fr ((congrFun (f86 55 (by decide)) 10).trans (congrFun (f16 55 (by decide)) 10)) ((congrFun (f86 55 (by decide)) 12).trans (congrFun (f16 55 (by decide)) 12)) ((congrFun (f86 55 (by decide)) 13).trans (congrFun (f16 55 (by decide)) 13)) ((f86 62 (by decide)).trans (f16 62 (by decide))) ((f86 67 (by decide)).trans (f16 67 (by decide))) hI104
      have I116 : jI105 σ84 := jI105_fr ((congrFun (f86 55 (by decide)) 15).trans (congrFun (f16 55 (by decide)) 15)) ((f86 65 (by decide)).trans (f16 65 (by decide))) hI105
      have I117 : jI106 σ84 := jI106_fr (congrFun (f86 55 (by decide)) 32) (f86 70 (by decide)) (f86 71 (by decide)) (f86 72 (by decide)) I81
      have I118 : jI107 σ84 := jI107_fr ((congrFun (f86 55 (by decide)) 12).trans (congrFun (f16 55 (by decide)) 12)) ((congrFun (f86 55 (by decide)) 47).trans (congrFun (f16 55 (by decide)) 47)) ((f86 80 (by decide)).trans (f16 80 (by decide))) hI107
      have I119 : jI109 σ84 := jI109_fr ((congrFun (f86 55 (by decide)) 50).trans (congrFun (f16 55 (by decide)) 50)) hI109
      have I120 : jI111 σ84 := jI111_fr ((f86 79 (by decide)).trans (f16 79 (by decide))) hI111
      have I121 : jI119 σ84 := jI119_fr ((f86 68 (by decide)).trans (f16 68 (by decide))) hI119
      have p122 : jKept σ84 := jKept.fr ((f86 75 (by decide)).trans (f16 75 (by decide))) ((f86 76 (by decide)).trans (f16 76 (by decide))) ((f86 77 (by decide)).trans (f16 77 (by decide))) hs_jKept
      have p123 : jBook σ84 := jBook.fr ((congrFun (f86 55 (by decide)) 47).trans (congrFun (f16 55 (by decide)) 47)) ((congrFun (f86 55 (by decide)) 10).trans (congrFun (f16 55 (by decide)) 10)) ((f86 81 (by decide)).trans (f16 81 (by decide))) hs_jBook
      have z124 : (σ84 38 0).toInt = (σ 38 0).toInt := (congrArg Int32.toInt (show σ84 38 0 = (σ 38 0) from ((congrFun (f86 38 (by decide)) 0).trans (congrFun (f16 38 (by decide)) 0))))
      have z125 : (σ84 55 32).toInt = (σ 55 32).toInt := (congrArg Int32.toInt (show σ84 55 32 = (σ 55 32) from ((congrFun (f86 55 (by decide)) 32).trans (congrFun (f16 55 (by decide)) 32))))
      rw [show σ14 86 = σ 86 from (f16 86 (by decide)), show σ14 87 = σ 87 from (f16 87 (by decide))] at k98
      have p126 := hr0.set k79.1 k79.2.2 k79.2.1 k98.1 k98.2 (Or.inr (Or.inl ⟨rfl, rfl, by omega, by omega⟩))
      have p127 := hr1.keep k79.1 k79.2.2 (by decide)
      exact ih x100 σ84 τ _ _ ls (by have h9 := tx100; omega) ⟨I101, I102, I103, I104, I105, I106, I107, I108, I109, I110, I111, I112, I113, I114, I115, I116, I117, I118, I119, I87, I120, I121, p122, p123, (by omega), (show jShP (σ84 51) (σ84 52) (σ84 53) (σ84 86) (σ84 87) (σ84 55 32).toInt by rw [show σ84 51 = σ14 51 from (f86 51 (by decide)), show σ84 52 = σ14 52 from (f86 52 (by decide)), show σ84 53 = σ14 53 from (f86 53 (by decide))]; exact (p126.up (by omega) (by omega))), (show jEl (σ84 51) (σ84 52) (τ 54) (τ 88) by rw [show σ84 51 = σ14 51 from (f86 51 (by decide)), show σ84 52 = σ14 52 from (f86 52 (by decide))]; exact p127)⟩ hP hS (lv_sub hl [0, 1, 2, 3] rfl)
    · obtain ⟨q130, k128, k129⟩ := h91
      exact absurd (by omega : False) id
  · obtain ⟨q133, k131, k132⟩ := h22
    have q133 := q133.symm
    subst q133
    refine lv_pop hx hb dL_law_1070 rfl ?_
    refine lv_aload_n hx hb dL_law_1071 rfl (lv_at hl 1 rfl) ?_
    refine lv_aload_n hx hb dL_law_1072 rfl (lv_at hl 3 rfl) ?_
    refine lv_iload_n hx hb dL_law_1073 rfl (lv_at hl 0 rfl) ?_
    refine lv_iconst (v := 1) hx hb dL_law_1074 (by decide) ?_
    refine lv_iadd hx hb dL_law_1075 ?_
    refine jtopr ex10.symm ?_
    refine va_sld hx hb hX hbl hbA hS (jin tx10 (by omega) (by omega)) dL_law_1076 ?_
    refine lv_aload_n hx hb dL_law_1077 rfl (lv_at hl 3 rfl) ?_
    refine lv_iload_n hx hb dL_law_1078 rfl (lv_at hl 0 rfl) ?_
    refine lv_iconst (v := 2) hx hb dL_law_1079 (by decide) ?_
    refine lv_iadd hx hb dL_law_1080 ?_
    refine jtopr ex12.symm ?_
    refine va_sld hx hb hX hbl hbA hS (jin tx12 (by omega) (by omega)) dL_law_1081 ?_
    have I134 : jI106 σ14 := jI106_fr (congrFun (f16 55 (by decide)) 32) (f16 70 (by decide)) (f16 71 (by decide)) (f16 72 (by decide)) hI106
    have I135 : jI110 σ14 := jI110_fr (f16 86 (by decide)) (f16 87 (by decide)) hI110
    have z136 : (σ14 55 32).toInt = (σ 55 32).toInt := (congrArg Int32.toInt (show σ14 55 32 = (σ 55 32) from (congrFun (f16 55 (by decide)) 32)))
    refine jcallV (As := [.int (xs x10.toNatClampNeg), .int (xs x12.toNatClampNeg)]) (rest := []) ⟨hx, hb, hml, hown, hts⟩ hK hP hA hS hZ (c_X12_keep l D cI cL ad zz hJ σ14 τ (xs x10.toNatClampNeg) ((xs x10.toNatClampNeg).toInt) rfl (xs x12.toNatClampNeg) ((xs x12.toNatClampNeg).toInt) rfl I134 I135) cw_RL_140 (jc_55 cI cL ad σ14 τ) rfl ⟨Nat.le_of_ble_eq_true rfl, Nat.le_of_ble_eq_true rfl⟩ rfl rfl rfl hl.1 rfl (Nat.le_of_ble_eq_true rfl) dL_law_1082 ⟨Nat.le_of_ble_eq_true rfl, Nat.le_of_ble_eq_true rfl⟩ (fun r138 σ137 τ137 H locs h137 hP hS => ?_)
    obtain ⟨rfl, f139, I140, h137⟩ := h137
    rcases h137 with h142 | h143 | h144
    · obtain ⟨q148, k145, k146, k147⟩ := h142
      exact absurd (by omega : False) id
    · obtain ⟨q152, k149, k150, k151⟩ := h143
      exact absurd (by omega : False) id
    · obtain ⟨q155, k153, k154⟩ := h144
      have q155 := q155.symm
      subst q155
      refine lv_pop hx hb dL_law_1085 rfl ?_
      refine lv_goto (tgt := 1358) hx hb dL_law_1086 (by decide) ?_
      obtain ⟨x156, ex156⟩ : ∃ y : Int32, y = x0 + 6 := ⟨_, rfl⟩
      have tx156 : x156.toInt = x0.toInt + 6 := (jadd ex156 rfl jz_6 (by omega) (by omega)).trans (by omega)
      refine lv_iinc (v := x156) (lv' := [(3, .int x156), (2, .ref (ad 55)), (1, .ref (ad 0)), (0, .ref b)]) hx hb dL_law_1358 hl (k := 0) rfl (by rw [ex156]; rfl) (by decide) rfl (fun ls hl => ?_)
      refine lv_goto (tgt := 18) hx hb dL_law_1361 (by decide) ?_
      have I157 : jI2 σ137 := jI2_fr ((congrFun (f139 2 (by decide)) 0).trans (congrFun (f16 2 (by decide)) 0)) ((congrFun (f139 2 (by decide)) 1).trans (congrFun (f16 2 (by decide)) 1)) ((congrFun (f139 2 (by decide)) 2).trans (congrFun (f16 2 (by decide)) 2)) ((congrFun (f139 2 (by decide)) 3).trans (congrFun (f16 2 (by decide)) 3)) ((f139 6 (by decide)).trans (f16 6 (by decide))) hI2
      have I158 : jI9 σ137 := jI9_fr ((congrFun (f139 9 (by decide)) 0).trans (congrFun (f16 9 (by decide)) 0)) ((f139 10 (by decide)).trans (f16 10 (by decide))) ((f139 11 (by decide)).trans (f16 11 (by decide))) hI9
      have I159 : jI12 σ137 := jI12_fr ((congrFun (f139 12 (by decide)) 0).trans (congrFun (f16 12 (by decide)) 0)) ((f139 13 (by decide)).trans (f16 13 (by decide))) hI12
      have I160 : jI16 σ137 := jI16_fr ((congrFun (f139 16 (by decide)) 0).trans (congrFun (f16 16 (by decide)) 0)) ((congrFun (f139 16 (by decide)) 1).trans (congrFun (f16 16 (by decide)) 1)) ((congrFun (f139 16 (by decide)) 2).trans (congrFun (f16 16 (by decide)) 2)) ((f139 17 (by decide)).trans (f16 17 (by decide))) hI16
      have I161 : jI18 σ137 := jI18_fr ((congrFun (f139 18 (by decide)) 0).trans (congrFun (f16 18 (by decide)) 0)) ((f139 19 (by decide)).trans (f16 19 (by decide))) hI18
      have I162 : jI22 σ137 := jI22_fr ((congrFun (f139 22 (by decide)) 0).trans (congrFun (f16 22 (by decide)) 0)) ((f139 23 (by decide)).trans (f16 23 (by decide))) hI22
      have I163 : jI31 σ137 := jI31_fr ((congrFun (f139 31 (by decide)) 8).trans (congrFun (f16 31 (by decide)) 8)) ((f139 33 (by decide)).trans (f16 33 (by decide))) ((f139 36 (by decide)).trans (f16 36 (by decide))) hI31
      have I164 : jI38 σ137 := jI38_fr ((congrFun (f139 38 (by decide)) 0).trans (congrFun (f16 38 (by decide)) 0)) ((congrFun (f139 38 (by decide)) 1).trans (congrFun (f16 38 (by decide)) 1)) ((f139 39 (by decide)).trans (f16 39 (by decide))) hI38
      have I165 : jI43 σ137 := jI43_fr ((congrFun (f139 43 (by decide)) 8).trans (congrFun (f16 43 (by decide)) 8)) hI43
      have I166 : jI47 σ137 := jI47_fr ((congrFun (f139 47 (by decide)) 0).trans (congrFun (f16 47 (by decide)) 0)) ((f139 48 (by decide)).trans (f16 48 (by decide))) ((f139 49 (by decide)).trans (f16 49 (by decide))) hI47
      have I167 : jI50 σ137 := jI50_fr (f139 52 (by decide)) I17
      have I168 : jI101 σ137 := jI101_fr ((congrFun (f139 55 (by decide)) 4).trans (congrFun (f16 55 (by decide)) 4)) ((congrFun (f139 55 (by decide)) 5).trans (congrFun (f16 55 (by decide)) 5)) ((f139 56 (by decide)).trans (f16 56 (by decide))) ((f139 57 (by decide)).trans (f16 57 (by decide))) ((f139 58 (by decide)).trans (f16 58 (by decide))) ((f139 59 (by decide)).trans (f16 59 (by decide))) hI101
      have I169 : jI102 σ137 := jI102_fr ((congrFun (f139 55 (by decide)) 6).trans (congrFun (f16 55 (by decide)) 6)) ((f139 60 (by decide)).trans (f16 60 (by decide))) ((f139 61 (by decide)).trans (f16 61 (by decide))) hI102
      have I170 : jI103 σ137 := jI103_fr ((congrFun (f139 55 (by decide)) 9).trans (congrFun (f16 55 (by decide)) 9)) hI103
      have I171 : jI104 σ137 := jI104_fr ((congrFun (f139 55 (by decide)) 10).trans (congrFun (f16 55 (by decide)) 10)) ((congrFun (f139 55 (by decide)) 12).trans (congrFun (f16 55 (by decide)) 12)) ((congrFun (f139 55 (by decide)) 13).trans (congrFun (f16 55 (by decide)) 13)) ((f139 62 (by decide)).trans (f16 62 (by decide))) ((f139 67 (by decide)).trans (f16 67 (by decide))) hI104
      have I172 : jI105 σ137 := jI105_fr ((congrFun (f139 55 (by decide)) 15).trans (congrFun (f16 55 (by decide)) 15)) ((f139 65 (by decide)).trans (f16 65 (by decide))) hI105
      have I173 : jI106 σ137 := jI106_fr (congrFun (f139 55 (by decide)) 32) (f139 70 (by decide)) (f139 71 (by decide)) (f139 72 (by decide)) I134
      have I174 : jI107 σ137 := jI107_fr ((congrFun (f139 55 (by decide)) 12).trans (congrFun (f16 55 (by decide)) 12)) ((congrFun (f139 55 (by decide)) 47).trans (congrFun (f16 55 (by decide)) 47)) ((f139 80 (by decide)).trans (f16 80 (by decide))) hI107
      have I175 : jI109 σ137 := jI109_fr ((congrFun (f139 55 (by decide)) 50).trans (congrFun (f16 55 (by decide)) 50)) hI109
      have I176 : jI111 σ137 := jI111_fr ((f139 79 (by decide)).trans (f16 79 (by decide))) hI111
      have I177 : jI119 σ137 := jI119_fr ((f139 68 (by decide)).trans (f16 68 (by decide))) hI119
      have p178 : jKept σ137 := jKept.fr ((f139 75 (by decide)).trans (f16 75 (by decide))) ((f139 76 (by decide)).trans (f16 76 (by decide))) ((f139 77 (by decide)).trans (f16 77 (by decide))) hs_jKept
      have p179 : jBook σ137 := jBook.fr ((congrFun (f139 55 (by decide)) 47).trans (congrFun (f16 55 (by decide)) 47)) ((congrFun (f139 55 (by decide)) 10).trans (congrFun (f16 55 (by decide)) 10)) ((f139 81 (by decide)).trans (f16 81 (by decide))) hs_jBook
      have z180 : (σ137 38 0).toInt = (σ 38 0).toInt := (congrArg Int32.toInt (show σ137 38 0 = (σ 38 0) from ((congrFun (f139 38 (by decide)) 0).trans (congrFun (f16 38 (by decide)) 0))))
      have z181 : (σ137 55 32).toInt = (σ 55 32).toInt := (congrArg Int32.toInt (show σ137 55 32 = (σ 55 32) from ((congrFun (f139 55 (by decide)) 32).trans (congrFun (f16 55 (by decide)) 32))))
      exact ih x156 σ137 τ _ _ ls (by have h9 := tx156; omega) ⟨I157, I158, I159, I160, I161, I162, I163, I164, I165, I166, I167, I168, I169, I170, I171, I172, I173, I174, I175, I140, I176, I177, p178, p179, (by omega), (show jShP (σ137 51) (σ137 52) (σ137 53) (σ137 86) (σ137 87) (σ137 55 32).toInt by rw [show σ137 51 = σ 51 from ((f139 51 (by decide)).trans k132.1), show σ137 52 = σ 52 from ((f139 52 (by decide)).trans k132.2.1), show σ137 53 = σ 53 from ((f139 53 (by decide)).trans k132.2.2), show σ137 86 = σ 86 from (k154.1.trans (f16 86 (by decide))), show σ137 87 = σ 87 from (k154.2.trans (f16 87 (by decide)))]; exact (hr0.up (by omega) (by omega))), (show jEl (σ137 51) (σ137 52) (τ 54) (τ 88) by rw [show σ137 51 = σ 51 from ((f139 51 (by decide)).trans k132.1), show σ137 52 = σ 52 from ((f139 52 (by decide)).trans k132.2.1)]; exact hr1)⟩ hP hS (lv_sub hl [0, 1, 2, 3] rfl)
set_option maxHeartbeats 4000000 in
set_option maxRecDepth 100000 in
theorem law_case_31 {p : Program} {e : Env} {s : State} {m : MethodId} {below : List Frame} {meth : Method} {c : Code} (l : Launch) {b L : Nat} {xs : Nat → Int32} {D : va_G} {cI cL : ClassId} {ad zz : Nat → Nat} (C0 : lw_At p s m meth c b L xs) (hJ : jD ad) (hA : ∀ q, jA ad q → s.heap.size ≤ q) (hK : jK D cI cL s) (hZ : jZ zz (fun q : Nat => s.heap.size ≤ q) s s.heap) {x0 : Int32} (hx0 : 0 ≤ x0.toInt) (hxL : x0.toInt + 6 ≤ (L : Int)) (hL : L ≤ 384) {σ : Nat → Nat → Int32} {τ : Nat → Nat → Int64} {H : Heap} {locs : List Loc} (hS : va_S (fun q : Nat => s.heap.size ≤ q) s.heap H locs) {ls : Array Slot} (hAll : jAll σ τ) (hP : jH D cI cL ad σ τ H) (hl : lv_has ls 4 [(3, .int x0), (2, .ref (ad 55)), (1, .ref (ad 0)), (0, .ref b)]) (ih : ∀ (x1 : Int32) (σ : Nat → Nat → Int32) (τ : Nat → Nat → Int64) (H : Heap) (locs : List Loc) (ls : Array Slot), x1.toInt = x0.toInt + 6 → jAll σ τ → jH D cI cL ad σ τ H → va_S (fun q : Nat => s.heap.size ≤ q) s.heap H locs → lv_has ls 4 [(3, .int x1), (2, .ref (ad 55)), (1, .ref (ad 0)), (0, .ref b)] → W p l e room_1 s m #[Value.ref b] below meth c H locs 90 348600 (lw_Z below #[Value.ref b] s) (F0 m 18 ls [])) : W p l e room_1 s m #[Value.ref b] below meth c H locs 90 348600 (lw_Z below #[Value.ref b] s) (F0 m 1089 ls []) := by
  obtain ⟨hx, hb, hr, hml, hown, hts0, hX, hbl, hlocks, hgv⟩ := C0
  have hts : ∀ w ∈ wsL_law, w.before #[Value.ref b] s = true := fun w h => hts0 w (wsL_law_in w h)
  have hbA : ¬ (fun q : Nat => s.heap.size ≤ q) b := Nat.not_le.mpr hbl
  have hown : s.vm.findClass RL = some m.cls := hown
  obtain ⟨hI2, hI9, hI12, hI16, hI18, hI22, hI31, hI38, hI43, hI47, hI50, hI101, hI102, hI103, hI104, hI105, hI106, hI107, hI109, hI110, hI111, hI119, hs_jKept, hs_jBook, ht0, hr0, hr1⟩ := hAll
  have hL9 : (L : Int) ≤ 384 := by omega
  obtain ⟨i1, i2, w3⟩ : (0 ≤ (σ 38 0).toInt ∧ (σ 38 0).toInt ≤ 20) ∧ (0 ≤ (σ 38 1).toInt ∧ (σ 38 1).toInt ≤ 1000) ∧ (∀ k : Nat, k < 20 → 0 ≤ (σ 39 k).toInt ∧ (σ 39 k).toInt ≤ 6) := id hI38
  have w4 : ∀ k : Nat, k < 6 → 0 ≤ (σ 52 k).toInt ∧ (σ 52 k).toInt ≤ 60 := hI50
  obtain ⟨i5, w6, w7, w8⟩ : (0 ≤ (σ 55 32).toInt ∧ (σ 55 32).toInt ≤ 20) ∧ (∀ k : Nat, k < 20 → 0 ≤ (σ 70 k).toInt ∧ (σ 70 k).toInt ≤ 6) ∧ (∀ k : Nat, k < 20 → 0 ≤ (σ 71 k).toInt ∧ (σ 71 k).toInt ≤ 8) ∧ (∀ k : Nat, k < 160 → 0 ≤ (σ 72 k).toInt ∧ (σ 72 k).toInt ≤ 3) := id hI106
  refine lv_aload_n hx hb dL_law_1089 rfl (lv_at hl 2 rfl) ?_
  refine lv_aload_n hx hb dL_law_1090 rfl (lv_at hl 3 rfl) ?_
  refine lv_iload_n hx hb dL_law_1091 rfl (lv_at hl 0 rfl) ?_
  refine lv_iconst (v := 1) hx hb dL_law_1092 (by decide) ?_
  have g9 := jrg (rfl : x0.toInt = x0.toInt)
  refine lv_iadd hx hb dL_law_1093 ?_
  refine lv_topi (fun x10 ex10 => ?_)
  have tx10 : x10.toInt = x0.toInt + 1 := (jadd ex10 rfl jz_1 (by omega) (by omega)).trans (by omega)
  refine va_sld hx hb hX hbl hbA hS (jin tx10 (by omega) (by omega)) dL_law_1094 ?_
  have g11 := jrg (rfl : (xs x10.toNatClampNeg).toInt = (xs x10.toNatClampNeg).toInt)
  refine lv_aload_n hx hb dL_law_1095 rfl (lv_at hl 3 rfl) ?_
  refine lv_iload_n hx hb dL_law_1096 rfl (lv_at hl 0 rfl) ?_
  refine lv_iconst (v := 2) hx hb dL_law_1097 (by decide) ?_
  refine lv_iadd hx hb dL_law_1098 ?_
  refine lv_topi (fun x12 ex12 => ?_)
  have tx12 : x12.toInt = x0.toInt + 2 := (jadd ex12 rfl jz_2 (by omega) (by omega)).trans (by omega)
  refine va_sld hx hb hX hbl hbA hS (jin tx12 (by omega) (by omega)) dL_law_1099 ?_
  have g13 := jrg (rfl : (xs x12.toNatClampNeg).toInt = (xs x12.toNatClampNeg).toInt)
  refine lv_aload_n hx hb dL_law_1100 rfl (lv_at hl 3 rfl) ?_
  refine lv_iload_n hx hb dL_law_1101 rfl (lv_at hl 0 rfl) ?_
  refine lv_iconst (v := 3) hx hb dL_law_1102 (by decide) ?_
  refine lv_iadd hx hb dL_law_1103 ?_
  refine lv_topi (fun x14 ex14 => ?_)
  have tx14 : x14.toInt = x0.toInt + 3 := (jadd ex14 rfl jz_3 (by omega) (by omega)).trans (by omega)
  refine va_sld hx hb hX hbl hbA hS (jin tx14 (by omega) (by omega)) dL_law_1104 ?_
  have g15 := jrg (rfl : (xs x14.toNatClampNeg).toInt = (xs x14.toNatClampNeg).toInt)
  refine jcallV (As := [.int (xs x10.toNatClampNeg), .int (xs x12.toNatClampNeg), .int (xs x14.toNatClampNeg)]) (rest := []) ⟨hx, hb, hml, hown, hts⟩ hK hP hA hS hZ (c_X11_row l D cI cL ad zz hJ σ τ (xs x10.toNatClampNeg) ((xs x10.toNatClampNeg).toInt) rfl (xs x12.toNatClampNeg) ((xs x12.toNatClampNeg).toInt) rfl (xs x14.toNatClampNeg) ((xs x14.toNatClampNeg).toInt) rfl hI50) cw_RL_141 (jc_0 cI cL ad σ τ) rfl ⟨Nat.le_of_ble_eq_true rfl, Nat.le_of_ble_eq_true rfl⟩ rfl rfl rfl hl.1 rfl (Nat.le_of_ble_eq_true rfl) dL_law_1105 ⟨Nat.le_of_ble_eq_true rfl, Nat.le_of_ble_eq_true rfl⟩ (fun r17 σ16 τ16 H locs h16 hP hS => ?_)
  obtain ⟨f20, f18, I19, h16⟩ := h16
  have w21 : ∀ k : Nat, k < 6 → 0 ≤ (σ16 52 k).toInt ∧ (σ16 52 k).toInt ≤ 60 := I19
  rcases h16 with h22 | h23 | h24
  · obtain ⟨q28, k25, k26, k27⟩ := h22
    have q28 := q28.symm
    subst q28
    refine lv_pop hx hb dL_law_1108 rfl ?_
    refine lv_aload_n hx hb dL_law_1109 rfl (lv_at hl 1 rfl) ?_
    refine lv_aload_n hx hb dL_law_1110 rfl (lv_at hl 3 rfl) ?_
    refine lv_iload_n hx hb dL_law_1111 rfl (lv_at hl 0 rfl) ?_
    refine lv_iconst (v := 1) hx hb dL_law_1112 (by decide) ?_
    refine lv_iadd hx hb dL_law_1113 ?_
    refine jtopr ex10.symm ?_
    refine va_sld hx hb hX hbl hbA hS (jin tx10 (by omega) (by omega)) dL_law_1114 ?_
    refine lv_aload_n hx hb dL_law_1115 rfl (lv_at hl 3 rfl) ?_
    refine lv_iload_n hx hb dL_law_1116 rfl (lv_at hl 0 rfl) ?_
    refine lv_iconst (v := 2) hx hb dL_law_1117 (by decide) ?_
    refine lv_iadd hx hb dL_law_1118 ?_
    refine jtopr ex12.symm ?_
    refine va_sld hx hb hX hbl hbA hS (jin tx12 (by omega) (by omega)) dL_law_1119 ?_
    refine lv_aload_n hx hb dL_law_1120 rfl (lv_at hl 3 rfl) ?_
    refine lv_iload_n hx hb dL_law_1121 rfl (lv_at hl 0 rfl) ?_
    refine lv_iconst (v := 3) hx hb dL_law_1122 (by decide) ?_
    refine lv_iadd hx hb dL_law_1123 ?_
    refine jtopr ex14.symm ?_
    refine va_sld hx hb hX hbl hbA hS (jin tx14 (by omega) (by omega)) dL_law_1124 ?_
    have I29 : jI110 σ16 := jI110_fr (f18 86 (by decide)) (f18 87 (by decide)) hI110
    refine jcallV (As := [.int (xs x10.toNatClampNeg), .int (xs x12.toNatClampNeg), .int (xs x14.toNatClampNeg)]) (rest := []) ⟨hx, hb, hml, hown, hts⟩ hK hP hA hS hZ (c_X12_row l D cI cL ad zz hJ σ16 τ16 (xs x10.toNatClampNeg) ((xs x10.toNatClampNeg).toInt) rfl (xs x12.toNatClampNeg) ((xs x12.toNatClampNeg).toInt) rfl (xs x14.toNatClampNeg) ((xs x14.toNatClampNeg).toInt) rfl I29) cw_RL_144 (jc_55 cI cL ad σ16 τ16) rfl ⟨Nat.le_of_ble_eq_true rfl, Nat.le_of_ble_eq_true rfl⟩ rfl rfl rfl hl.1 rfl (Nat.le_of_ble_eq_true rfl) dL_law_1125 ⟨Nat.le_of_ble_eq_true rfl, Nat.le_of_ble_eq_true rfl⟩ (fun r31 σ30 τ30 H locs h30 hP hS => ?_)
    obtain ⟨f34, f32, I33, h30⟩ := h30
    rcases h30 with h35 | h36 | h37
    · obtain ⟨q41, k38, k39, k40⟩ := h35
      have q41 := q41.symm
      subst q41
      refine lv_pop hx hb dL_law_1128 rfl ?_
      refine lv_goto (tgt := 1358) hx hb dL_law_1129 (by decide) ?_
      obtain ⟨x42, ex42⟩ : ∃ y : Int32, y = x0 + 6 := ⟨_, rfl⟩
      have tx42 : x42.toInt = x0.toInt + 6 := (jadd ex42 rfl jz_6 (by omega) (by omega)).trans (by omega)
      refine lv_iinc (v := x42) (lv' := [(3, .int x42), (2, .ref (ad 55)), (1, .ref (ad 0)), (0, .ref b)]) hx hb dL_law_1358 hl (k := 0) rfl (by rw [ex42]; rfl) (by decide) rfl (fun ls hl => ?_)
      refine lv_goto (tgt := 18) hx hb dL_law_1361 (by decide) ?_
      have I43 : jI2 σ30 := jI2_fr ((congrFun (f32 2 (by decide)) 0).trans (congrFun (f18 2 (by decide)) 0)) ((congrFun (f32 2 (by decide)) 1).trans (congrFun (f18 2 (by decide)) 1)) ((congrFun (f32 2 (by decide)) 2).trans (congrFun (f18 2 (by decide)) 2)) ((congrFun (f32 2 (by decide)) 3).trans (congrFun (f18 2 (by decide)) 3)) ((f32 6 (by decide)).trans (f18 6 (by decide))) hI2
      have I44 : jI9 σ30 := jI9_fr ((congrFun (f32 9 (by decide)) 0).trans (congrFun (f18 9 (by decide)) 0)) ((f32 10 (by decide)).trans (f18 10 (by decide))) ((f32 11 (by decide)).trans (f18 11 (by decide))) hI9
      have I45 : jI12 σ30 := jI12_fr ((congrFun (f32 12 (by decide)) 0).trans (congrFun (f18 12 (by decide)) 0)) ((f32 13 (by decide)).trans (f18 13 (by decide))) hI12
      have I46 : jI16 σ30 := jI16_fr ((congrFun (f32 16 (by decide)) 0).trans (congrFun (f18 16 (by decide)) 0)) ((congrFun (f32 16 (by decide)) 1).trans (congrFun (f18 16 (by decide)) 1)) ((congrFun (f32 16 (by decide)) 2).trans (congrFun (f18 16 (by decide)) 2)) ((f32 17 (by decide)).trans (f18 17 (by decide))) hI16
      have I47 : jI18 σ30 := jI18_fr ((congrFun (f32 18 (by decide)) 0).trans (congrFun (f18 18 (by decide)) 0)) ((f32 19 (by decide)).trans (f18 19 (by decide))) hI18
      have I48 : jI22 σ30 := jI22_fr ((congrFun (f32 22 (by decide)) 0).trans (congrFun (f18 22 (by decide)) 0)) ((f32 23 (by decide)).trans (f18 23 (by decide))) hI22
      have I49 : jI31 σ30 := jI31_fr ((congrFun (f32 31 (by decide)) 8).trans (congrFun (f18 31 (by decide)) 8)) ((f32 33 (by decide)).trans (f18 33 (by decide))) ((f32 36 (by decide)).trans (f18 36 (by decide))) hI31
      have I50 : jI38 σ30 := jI38_fr ((congrFun (f32 38 (by decide)) 0).trans (congrFun (f18 38 (by decide)) 0)) ((congrFun (f32 38 (by decide)) 1).trans (congrFun (f18 38 (by decide)) 1)) ((f32 39 (by decide)).trans (f18 39 (by decide))) hI38
      have I51 : jI43 σ30 := jI43_fr ((congrFun (f32 43 (by decide)) 8).trans (congrFun (f18 43 (by decide)) 8)) hI43
      have I52 : jI47 σ30 := jI47_fr ((congrFun (f32 47 (by decide)) 0).trans (congrFun (f18 47 (by decide)) 0)) ((f32 48 (by decide)).trans (f18 48 (by decide))) ((f32 49 (by decide)).trans (f18 49 (by decide))) hI47
      have I53 : jI50 σ30 := jI50_fr (f32 52 (by decide)) I19
      have I54 : jI101 σ30 := jI101_fr ((congrFun (f32 55 (by decide)) 4).trans (congrFun (f18 55 (by decide)) 4)) ((congrFun (f32 55 (by decide)) 5).trans (congrFun (f18 55 (by decide)) 5)) ((f32 56 (by decide)).trans (f18 56 (by decide))) ((f32 57 (by decide)).trans (f18 57 (by decide))) ((f32 58 (by decide)).trans (f18 58 (by decide))) ((f32 59 (by decide)).trans (f18 59 (by decide))) hI101
      have I55 : jI102 σ30 := jI102_fr ((congrFun (f32 55 (by decide)) 6).trans (congrFun (f18 55 (by decide)) 6)) ((f32 60 (by decide)).trans (f18 60 (by decide))) ((f32 61 (by decide)).trans (f18 61 (by decide))) hI102
      have I56 : jI103 σ30 := jI103_fr ((congrFun (f32 55 (by decide)) 9).trans (congrFun (f18 55 (by decide)) 9)) hI103
      have I57 : jI104 σ30 := jI104_fr ((congrFun (f32 55 (by decide)) 10).trans (congrFun (f18 55 (by decide)) 10)) ((congrFun (f32 55 (by decide)) 12).trans (congrFun (f18 55 (by decide)) 12)) ((congrFun (f32 55 (by decide)) 13).trans (congrFun (f18 55 (by decide)) 13)) ((f32 62 (by decide)).trans (f18 62 (by decide))) ((f32 67 (by decide)).trans (f18 67 (by decide))) hI104
      have I58 : jI105 σ30 := jI105_fr ((congrFun (f32 55 (by decide)) 15).trans (congrFun (f18 55 (by decide)) 15)) ((f32 65 (by decide)).trans (f18 65 (by decide))) hI105
      have I59 : jI106 σ30 := jI106_fr ((congrFun (f32 55 (by decide)) 32).trans (congrFun (f18 55 (by decide)) 32)) ((f32 70 (by decide)).trans (f18 70 (by decide))) ((f32 71 (by decide)).trans (f18 71 (by decide))) ((f32 72 (by decide)).trans (f18 72 (by decide))) hI106
      have I60 : jI107 σ30 := jI107_fr ((congrFun (f32 55 (by decide)) 12).trans (congrFun (f18 55 (by decide)) 12)) ((congrFun (f32 55 (by decide)) 47).trans (congrFun (f18 55 (by decide)) 47)) ((f32 80 (by decide)).trans (f18 80 (by decide))) hI107
      have I61 : jI109 σ30 := jI109_fr ((congrFun (f32 55 (by decide)) 50).trans (congrFun (f18 55 (by decide)) 50)) hI109
      have I62 : jI111 σ30 := jI111_fr ((f32 79 (by decide)).trans (f18 79 (by decide))) hI111
      have I63 : jI119 σ30 := jI119_fr ((f32 68 (by decide)).trans (f18 68 (by decide))) hI119
      have p64 : jKept σ30 := jKept.fr ((f32 75 (by decide)).trans (f18 75 (by decide))) ((f32 76 (by decide)).trans (f18 76 (by decide))) ((f32 77 (by decide)).trans (f18 77 (by decide))) hs_jKept
      have p65 : jBook σ30 := jBook.fr ((congrFun (f32 55 (by decide)) 47).trans (congrFun (f18 55 (by decide)) 47)) ((congrFun (f32 55 (by decide)) 10).trans (congrFun (f18 55 (by decide)) 10)) ((f32 81 (by decide)).trans (f18 81 (by decide))) hs_jBook
      have z66 : (σ30 38 0).toInt = (σ 38 0).toInt := (congrArg Int32.toInt (show σ30 38 0 = (σ 38 0) from ((congrFun (f32 38 (by decide)) 0).trans (congrFun (f18 38 (by decide)) 0))))
      have z67 : (σ30 55 32).toInt = (σ 55 32).toInt := (congrArg Int32.toInt (show σ30 55 32 = (σ 55 32) from ((congrFun (f32 55 (by decide)) 32).trans (congrFun (f18 55 (by decide)) 32))))
      exact ih x42 σ30 τ30 _ _ ls (by have h9 := tx42; omega) ⟨I43, I44, I45, I46, I47, I48, I49, I50, I51, I52, I53, I54, I55, I56, I57, I58, I59, I60, I61, I33, I62, I63, p64, p65, (by omega), (show jShP (σ30 51) (σ30 52) (σ30 53) (σ30 86) (σ30 87) (σ30 55 32).toInt by rw [show σ30 51 = σ 51 from ((f32 51 (by decide)).trans k26.1), show σ30 52 = σ 52 from ((f32 52 (by decide)).trans k26.2.1), show σ30 53 = σ 53 from ((f32 53 (by decide)).trans k26.2.2), show σ30 86 = σ 86 from (k39.1.trans (f18 86 (by decide))), show σ30 87 = σ 87 from (k39.2.trans (f18 87 (by decide)))]; exact (hr0.up (by omega) (by omega))), (show jEl (σ30 51) (σ30 52) (τ30 54) (τ30 88) by rw [show σ30 51 = σ 51 from ((f32 51 (by decide)).trans k26.1), show σ30 52 = σ 52 from ((f32 52 (by decide)).trans k26.2.1), show τ30 54 = τ 54 from ((f34 54 (by decide)).trans k27), show τ30 88 = τ 88 from (k40.trans (f20 88 (by decide)))]; exact hr1)⟩ hP hS (lv_sub hl [0, 1, 2, 3] rfl)
    · obtain ⟨q74, k69, k70, k71, k72, k73⟩ := h36
      exact absurd (by omega : False) id
    · obtain ⟨q80, k75, k76, k77, k78, k79⟩ := h37
      exact absurd (by omega : False) id
  · obtain ⟨q86, k81, k82, k83, k84, k85⟩ := h23
    have q86 := q86.symm
    subst q86
    refine lv_pop hx hb dL_law_1108 rfl ?_
    refine lv_aload_n hx hb dL_law_1109 rfl (lv_at hl 1 rfl) ?_
    refine lv_aload_n hx hb dL_law_1110 rfl (lv_at hl 3 rfl) ?_
    refine lv_iload_n hx hb dL_law_1111 rfl (lv_at hl 0 rfl) ?_
    refine lv_iconst (v := 1) hx hb dL_law_1112 (by decide) ?_
    refine lv_iadd hx hb dL_law_1113 ?_
    refine jtopr ex10.symm ?_
    refine va_sld hx hb hX hbl hbA hS (jin tx10 (by omega) (by omega)) dL_law_1114 ?_
    refine lv_aload_n hx hb dL_law_1115 rfl (lv_at hl 3 rfl) ?_
    refine lv_iload_n hx hb dL_law_1116 rfl (lv_at hl 0 rfl) ?_
    refine lv_iconst (v := 2) hx hb dL_law_1117 (by decide) ?_
    refine lv_iadd hx hb dL_law_1118 ?_
    refine jtopr ex12.symm ?_
    refine va_sld hx hb hX hbl hbA hS (jin tx12 (by omega) (by omega)) dL_law_1119 ?_
    refine lv_aload_n hx hb dL_law_1120 rfl (lv_at hl 3 rfl) ?_
    refine lv_iload_n hx hb dL_law_1121 rfl (lv_at hl 0 rfl) ?_
    refine lv_iconst (v := 3) hx hb dL_law_1122 (by decide) ?_
    refine lv_iadd hx hb dL_law_1123 ?_
    refine jtopr ex14.symm ?_
    refine va_sld hx hb hX hbl hbA hS (jin tx14 (by omega) (by omega)) dL_law_1124 ?_
    have I87 : jI110 σ16 := jI110_fr (f18 86 (by decide)) (f18 87 (by decide)) hI110
    refine jcallV (As := [.int (xs x10.toNatClampNeg), .int (xs x12.toNatClampNeg), .int (xs x14.toNatClampNeg)]) (rest := []) ⟨hx, hb, hml, hown, hts⟩ hK hP hA hS hZ (c_X12_row l D cI cL ad zz hJ σ16 τ16 (xs x10.toNatClampNeg) ((xs x10.toNatClampNeg).toInt) rfl (xs x12.toNatClampNeg) ((xs x12.toNatClampNeg).toInt) rfl (xs x14.toNatClampNeg) ((xs x14.toNatClampNeg).toInt) rfl I87) cw_RL_144 (jc_55 cI cL ad σ16 τ16) rfl ⟨Nat.le_of_ble_eq_true rfl, Nat.le_of_ble_eq_true rfl⟩ rfl rfl rfl hl.1 rfl (Nat.le_of_ble_eq_true rfl) dL_law_1125 ⟨Nat.le_of_ble_eq_true rfl, Nat.le_of_ble_eq_true rfl⟩ (fun r89 σ88 τ88 H locs h88 hP hS => ?_)
    obtain ⟨f92, f90, I91, h88⟩ := h88
    rcases h88 with h93 | h94 | h95
    · obtain ⟨q99, k96, k97, k98⟩ := h93
      exact absurd (by omega : False) id
    · obtain ⟨q105, k100, k101, k102, k103, k104⟩ := h94
      have q105 := q105.symm
      subst q105
      refine lv_pop hx hb dL_law_1128 rfl ?_
      refine lv_goto (tgt := 1358) hx hb dL_law_1129 (by decide) ?_
      obtain ⟨x106, ex106⟩ : ∃ y : Int32, y = x0 + 6 := ⟨_, rfl⟩
      have tx106 : x106.toInt = x0.toInt + 6 := (jadd ex106 rfl jz_6 (by omega) (by omega)).trans (by omega)
      refine lv_iinc (v := x106) (lv' := [(3, .int x106), (2, .ref (ad 55)), (1, .ref (ad 0)), (0, .ref b)]) hx hb dL_law_1358 hl (k := 0) rfl (by rw [ex106]; rfl) (by decide) rfl (fun ls hl => ?_)
      refine lv_goto (tgt := 18) hx hb dL_law_1361 (by decide) ?_
      have I107 : jI2 σ88 := jI2_fr ((congrFun (f90 2 (by decide)) 0).trans (congrFun (f18 2 (by decide)) 0)) ((congrFun (f90 2 (by decide)) 1).trans (congrFun (f18 2 (by decide)) 1)) ((congrFun (f90 2 (by decide)) 2).trans (congrFun (f18 2 (by decide)) 2)) ((congrFun (f90 2 (by decide)) 3).trans (congrFun (f18 2 (by decide)) 3)) ((f90 6 (by decide)).trans (f18 6 (by decide))) hI2
      have I108 : jI9 σ88 := jI9_fr ((congrFun (f90 9 (by decide)) 0).trans (congrFun (f18 9 (by decide)) 0)) ((f90 10 (by decide)).trans (f18 10 (by decide))) ((f90 11 (by decide)).trans (f18 11 (by decide))) hI9
      have I109 : jI12 σ88 := jI12_fr ((congrFun (f90 12 (by decide)) 0).trans (congrFun (f18 12 (by decide)) 0)) ((f90 13 (by decide)).trans (f18 13 (by decide))) hI12
      have I110 : jI16 σ88 := jI16_fr ((congrFun (f90 16 (by decide)) 0).trans (congrFun (f18 16 (by decide)) 0)) ((congrFun (f90 16 (by decide)) 1).trans (congrFun (f18 16 (by decide)) 1)) ((congrFun (f90 16 (by decide)) 2).trans (congrFun (f18 16 (by decide)) 2)) ((f90 17 (by decide)).trans (f18 17 (by decide))) hI16
      have I111 : jI18 σ88 := jI18_fr ((congrFun (f90 18 (by decide)) 0).trans (congrFun (f18 18 (by decide)) 0)) ((f90 19 (by decide)).trans (f18 19 (by decide))) hI18
      have I112 : jI22 σ88 := jI22_fr ((congrFun (f90 22 (by decide)) 0).trans (congrFun (f18 22 (by decide)) 0)) ((f90 23 (by decide)).trans (f18 23 (by decide))) hI22
      have I113 : jI31 σ88 := jI31_fr ((congrFun (f90 31 (by decide)) 8).trans (congrFun (f18 31 (by decide)) 8)) ((f90 33 (by decide)).trans (f18 33 (by decide))) ((f90 36 (by decide)).trans (f18 36 (by decide))) hI31
      have I114 : jI38 σ88 := jI38_fr ((congrFun (f90 38 (by decide)) 0).trans (congrFun (f18 38 (by decide)) 0)) ((congrFun (f90 38 (by decide)) 1).trans (congrFun (f18 38 (by decide)) 1)) ((f90 39 (by decide)).trans (f18 39 (by decide))) hI38
      have I115 : jI43 σ88 := jI43_fr ((congrFun (f90 43 (by decide)) 8).trans (congrFun (f18 43 (by decide)) 8)) hI43
      have I116 : jI47 σ88 := jI47_fr ((congrFun (f90 47 (by decide)) 0).trans (congrFun (f18 47 (by decide)) 0)) ((f90 48 (by decide)).trans (f18 48 (by decide))) ((f90 49 (by decide)).trans (f18 49 (by decide))) hI47
      have I117 : jI50 σ88 := jI50_fr (f90 52 (by decide)) I19
      have I118 : jI101 σ88 := jI101_fr ((congrFun (f90 55 (by decide)) 4).trans (congrFun (f18 55 (by decide)) 4)) ((congrFun (f90 55 (by decide)) 5).trans (congrFun (f18 55 (by decide)) 5)) ((f90 56 (by decide)).trans (f18 56 (by decide))) ((f90 57 (by decide)).trans (f18 57 (by decide))) ((f90 58 (by decide)).trans (f18 58 (by decide))) ((f90 59 (by decide)).trans (f18 59 (by decide))) hI101
      have I119 : jI102 σ88 := jI102_fr ((congrFun (f90 55 (by decide)) 6).trans (congrFun (f18 55 (by decide)) 6)) ((f90 60 (by decide)).trans (f18 60 (by decide))) ((f90 61 (by decide)).trans (f18 61 (by decide))) hI102
      have I120 : jI103 σ88 := jI103_fr ((congrFun (f90 55 (by decide)) 9).trans (congrFun (f18 55 (by decide)) 9)) hI103
      have I121 : jI104 σ88 := jI104_fr ((congrFun (f90 55 (by decide)) 10).trans (congrFun (f18 55 (by decide)) 10)) ((congrFun (f90 55 (by decide)) 12).trans (congrFun (f18 55 (by decide)) 12)) ((congrFun (f90 55 (by decide)) 13).trans (congrFun (f18 55 (by decide)) 13)) ((f90 62 (by decide)).trans (f18 62 (by decide))) ((f90 67 (by decide)).trans (f18 67 (by decide))) hI104
      have I122 : jI105 σ88 := jI105_fr ((congrFun (f90 55 (by decide)) 15).trans (congrFun (f18 55 (by decide)) 15)) ((f90 65 (by decide)).trans (f18 65 (by decide))) hI105
      have I123 : jI106 σ88 := jI106_fr ((congrFun (f90 55 (by decide)) 32).trans (congrFun (f18 55 (by decide)) 32)) ((f90 70 (by decide)).trans (f18 70 (by decide))) ((f90 71 (by decide)).trans (f18 71 (by decide))) ((f90 72 (by decide)).trans (f18 72 (by decide))) hI106
      have I124 : jI107 σ88 := jI107_fr ((congrFun (f90 55 (by decide)) 12).trans (congrFun (f18 55 (by decide)) 12)) ((congrFun (f90 55 (by decide)) 47).trans (congrFun (f18 55 (by decide)) 47)) ((f90 80 (by decide)).trans (f18 80 (by decide))) hI107
      have I125 : jI109 σ88 := jI109_fr ((congrFun (f90 55 (by decide)) 50).trans (congrFun (f18 55 (by decide)) 50)) hI109
      have I126 : jI111 σ88 := jI111_fr ((f90 79 (by decide)).trans (f18 79 (by decide))) hI111
      have I127 : jI119 σ88 := jI119_fr ((f90 68 (by decide)).trans (f18 68 (by decide))) hI119
      have p128 : jKept σ88 := jKept.fr ((f90 75 (by decide)).trans (f18 75 (by decide))) ((f90 76 (by decide)).trans (f18 76 (by decide))) ((f90 77 (by decide)).trans (f18 77 (by decide))) hs_jKept
      have p129 : jBook σ88 := jBook.fr ((congrFun (f90 55 (by decide)) 47).trans (congrFun (f18 55 (by decide)) 47)) ((congrFun (f90 55 (by decide)) 10).trans (congrFun (f18 55 (by decide)) 10)) ((f90 81 (by decide)).trans (f18 81 (by decide))) hs_jBook
      have z130 : (σ88 38 0).toInt = (σ 38 0).toInt := (congrArg Int32.toInt (show σ88 38 0 = (σ 38 0) from ((congrFun (f90 38 (by decide)) 0).trans (congrFun (f18 38 (by decide)) 0))))
      have z131 : (σ88 55 32).toInt = (σ 55 32).toInt := (congrArg Int32.toInt (show σ88 55 32 = (σ 55 32) from ((congrFun (f90 55 (by decide)) 32).trans (congrFun (f18 55 (by decide)) 32))))
      exact ih x106 σ88 τ88 _ _ ls (by have h9 := tx106; omega) ⟨I107, I108, I109, I110, I111, I112, I113, I114, I115, I116, I117, I118, I119, I120, I121, I122, I123, I124, I125, I91, I126, I127, p128, p129, (by omega), (show jShP (σ88 51) (σ88 52) (σ88 53) (σ88 86) (σ88 87) (σ88 55 32).toInt by rw [show σ88 51 = σ 51 from ((f90 51 (by decide)).trans k84.1), show σ88 52 = σ 52 from ((f90 52 (by decide)).trans k84.2.1), show σ88 53 = σ 53 from ((f90 53 (by decide)).trans k84.2.2), show σ88 86 = σ 86 from (k103.1.trans (f18 86 (by decide))), show σ88 87 = σ 87 from (k103.2.trans (f18 87 (by decide)))]; exact (hr0.up (by omega) (by omega))), (show jEl (σ88 51) (σ88 52) (τ88 54) (τ88 88) by rw [show σ88 51 = σ 51 from ((f90 51 (by decide)).trans k84.1), show σ88 52 = σ 52 from ((f90 52 (by decide)).trans k84.2.1), show τ88 54 = τ 54 from ((f92 54 (by decide)).trans k85), show τ88 88 = τ 88 from (k104.trans (f20 88 (by decide)))]; exact hr1)⟩ hP hS (lv_sub hl [0, 1, 2, 3] rfl)
    · obtain ⟨q138, k133, k134, k135, k136, k137⟩ := h95
      exact absurd (by omega : False) id
  · obtain ⟨q144, k139, k140, k141, k142, k143⟩ := h24
    have q144 := q144.symm
    subst q144
    refine lv_pop hx hb dL_law_1108 rfl ?_
    refine lv_aload_n hx hb dL_law_1109 rfl (lv_at hl 1 rfl) ?_
    refine lv_aload_n hx hb dL_law_1110 rfl (lv_at hl 3 rfl) ?_
    refine lv_iload_n hx hb dL_law_1111 rfl (lv_at hl 0 rfl) ?_
    refine lv_iconst (v := 1) hx hb dL_law_1112 (by decide) ?_
    refine lv_iadd hx hb dL_law_1113 ?_
    refine jtopr ex10.symm ?_
    refine va_sld hx hb hX hbl hbA hS (jin tx10 (by omega) (by omega)) dL_law_1114 ?_
    refine lv_aload_n hx hb dL_law_1115 rfl (lv_at hl 3 rfl) ?_
    refine lv_iload_n hx hb dL_law_1116 rfl (lv_at hl 0 rfl) ?_
    refine lv_iconst (v := 2) hx hb dL_law_1117 (by decide) ?_
    refine lv_iadd hx hb dL_law_1118 ?_
    refine jtopr ex12.symm ?_
    refine va_sld hx hb hX hbl hbA hS (jin tx12 (by omega) (by omega)) dL_law_1119 ?_
    refine lv_aload_n hx hb dL_law_1120 rfl (lv_at hl 3 rfl) ?_
    refine lv_iload_n hx hb dL_law_1121 rfl (lv_at hl 0 rfl) ?_
    refine lv_iconst (v := 3) hx hb dL_law_1122 (by decide) ?_
    refine lv_iadd hx hb dL_law_1123 ?_
    refine jtopr ex14.symm ?_
    refine va_sld hx hb hX hbl hbA hS (jin tx14 (by omega) (by omega)) dL_law_1124 ?_
    have I145 : jI110 σ16 := jI110_fr (f18 86 (by decide)) (f18 87 (by decide)) hI110
    refine jcallV (As := [.int (xs x10.toNatClampNeg), .int (xs x12.toNatClampNeg), .int (xs x14.toNatClampNeg)]) (rest := []) ⟨hx, hb, hml, hown, hts⟩ hK hP hA hS hZ (c_X12_row l D cI cL ad zz hJ σ16 τ16 (xs x10.toNatClampNeg) ((xs x10.toNatClampNeg).toInt) rfl (xs x12.toNatClampNeg) ((xs x12.toNatClampNeg).toInt) rfl (xs x14.toNatClampNeg) ((xs x14.toNatClampNeg).toInt) rfl I145) cw_RL_144 (jc_55 cI cL ad σ16 τ16) rfl ⟨Nat.le_of_ble_eq_true rfl, Nat.le_of_ble_eq_true rfl⟩ rfl rfl rfl hl.1 rfl (Nat.le_of_ble_eq_true rfl) dL_law_1125 ⟨Nat.le_of_ble_eq_true rfl, Nat.le_of_ble_eq_true rfl⟩ (fun r147 σ146 τ146 H locs h146 hP hS => ?_)
    obtain ⟨f150, f148, I149, h146⟩ := h146
    rcases h146 with h151 | h152 | h153
    · obtain ⟨q157, k154, k155, k156⟩ := h151
      exact absurd (by omega : False) id
    · obtain ⟨q163, k158, k159, k160, k161, k162⟩ := h152
      exact absurd (by omega : False) id
    · obtain ⟨q169, k164, k165, k166, k167, k168⟩ := h153
      have q169 := q169.symm
      subst q169
      refine lv_pop hx hb dL_law_1128 rfl ?_
      refine lv_goto (tgt := 1358) hx hb dL_law_1129 (by decide) ?_
      obtain ⟨x170, ex170⟩ : ∃ y : Int32, y = x0 + 6 := ⟨_, rfl⟩
      have tx170 : x170.toInt = x0.toInt + 6 := (jadd ex170 rfl jz_6 (by omega) (by omega)).trans (by omega)
      refine lv_iinc (v := x170) (lv' := [(3, .int x170), (2, .ref (ad 55)), (1, .ref (ad 0)), (0, .ref b)]) hx hb dL_law_1358 hl (k := 0) rfl (by rw [ex170]; rfl) (by decide) rfl (fun ls hl => ?_)
      refine lv_goto (tgt := 18) hx hb dL_law_1361 (by decide) ?_
      have I171 : jI2 σ146 := jI2_fr ((congrFun (f148 2 (by decide)) 0).trans (congrFun (f18 2 (by decide)) 0)) ((congrFun (f148 2 (by decide)) 1).trans (congrFun (f18 2 (by decide)) 1)) ((congrFun (f148 2 (by decide)) 2).trans (congrFun (f18 2 (by decide)) 2)) ((congrFun (f148 2 (by decide)) 3).trans (congrFun (f18 2 (by decide)) 3)) ((f148 6 (by decide)).trans (f18 6 (by decide))) hI2
      have I172 : jI9 σ146 := jI9_fr ((congrFun (f148 9 (by decide)) 0).trans (congrFun (f18 9 (by decide)) 0)) ((f148 10 (by decide)).trans (f18 10 (by decide))) ((f148 11 (by decide)).trans (f18 11 (by decide))) hI9
      have I173 : jI12 σ146 := jI12_fr ((congrFun (f148 12 (by decide)) 0).trans (congrFun (f18 12 (by decide)) 0)) ((f148 13 (by decide)).trans (f18 13 (by decide))) hI12
      have I174 : jI16 σ146 := jI16_fr ((congrFun (f148 16 (by decide)) 0).trans (congrFun (f18 16 (by decide)) 0)) ((congrFun (f148 16 (by decide)) 1).trans (congrFun (f18 16 (by decide)) 1)) ((congrFun (f148 16 (by decide)) 2).trans (congrFun (f18 16 (by decide)) 2)) ((f148 17 (by decide)).trans (f18 17 (by decide))) hI16
      have I175 : jI18 σ146 := jI18_fr ((congrFun (f148 18 (by decide)) 0).trans (congrFun (f18 18 (by decide)) 0)) ((f148 19 (by decide)).trans (f18 19 (by decide))) hI18
      have I176 : jI22 σ146 := jI22_fr ((congrFun (f148 22 (by decide)) 0).trans (congrFun (f18 22 (by decide)) 0)) ((f148 23 (by decide)).trans (f18 23 (by decide))) hI22
      have I177 : jI31 σ146 := jI31_fr ((congrFun (f148 31 (by decide)) 8).trans (congrFun (f18 31 (by decide)) 8)) ((f148 33 (by decide)).trans (f18 33 (by decide))) ((f148 36 (by decide)).trans (f18 36 (by decide))) hI31
      have I178 : jI38 σ146 := jI38_fr ((congrFun (f148 38 (by decide)) 0).trans (congrFun (f18 38 (by decide)) 0)) ((congrFun (f148 38 (by decide)) 1).trans (congrFun (f18 38 (by decide)) 1)) ((f148 39 (by decide)).trans (f18 39 (by decide))) hI38
      have I179 : jI43 σ146 := jI43_fr ((congrFun (f148 43 (by decide)) 8).trans (congrFun (f18 43 (by decide)) 8)) hI43
      have I180 : jI47 σ146 := jI47_fr ((congrFun (f148 47 (by decide)) 0).trans (congrFun (f18 47 (by decide)) 0)) ((f148 48 (by decide)).trans (f18 48 (by decide))) ((f148 49 (by decide)).trans (f18 49 (by decide))) hI47
      have I181 : jI50 σ146 := jI50_fr (f148 52 (by decide)) I19
      have I182 : jI101 σ146 := jI101_fr ((congrFun (f148 55 (by decide)) 4).trans (congrFun (f18 55 (by decide)) 4)) ((congrFun (f148 55 (by decide)) 5).trans (congrFun (f18 55 (by decide)) 5)) ((f148 56 (by decide)).trans (f18 56 (by decide))) ((f148 57 (by decide)).trans (f18 57 (by decide))) ((f148 58 (by decide)).trans (f18 58 (by decide))) ((f148 59 (by decide)).trans (f18 59 (by decide))) hI101
      have I183 : jI102 σ146 := jI102_fr ((congrFun (f148 55 (by decide)) 6).trans (congrFun (f18 55 (by decide)) 6)) ((f148 60 (by decide)).trans (f18 60 (by decide))) ((f148 61 (by decide)).trans (f18 61 (by decide))) hI102
      have I184 : jI103 σ146 := jI103_fr ((congrFun (f148 55 (by decide)) 9).trans (congrFun (f18 55 (by decide)) 9)) hI103
      have I185 : jI104 σ146 := jI104_fr ((congrFun (f148 55 (by decide)) 10).trans (congrFun (f18 55 (by decide)) 10)) ((congrFun (f148 55 (by decide)) 12).trans (congrFun (f18 55 (by decide)) 12)) ((congrFun (f148 55 (by decide)) 13).trans (congrFun (f18 55 (by decide)) 13)) ((f148 62 (by decide)).trans (f18 62 (by decide))) ((f148 67 (by decide)).trans (f18 67 (by decide))) hI104
      have I186 : jI105 σ146 := jI105_fr ((congrFun (f148 55 (by decide)) 15).trans (congrFun (f18 55 (by decide)) 15)) ((f148 65 (by decide)).trans (f18 65 (by decide))) hI105
      have I187 : jI106 σ146 := jI106_fr ((congrFun (f148 55 (by decide)) 32).trans (congrFun (f18 55 (by decide)) 32)) ((f148 70 (by decide)).trans (f18 70 (by decide))) ((f148 71 (by decide)).trans (f18 71 (by decide))) ((f148 72 (by decide)).trans (f18 72 (by decide))) hI106
      have I188 : jI107 σ146 := jI107_fr ((congrFun (f148 55 (by decide)) 12).trans (congrFun (f18 55 (by decide)) 12)) ((congrFun (f148 55 (by decide)) 47).trans (congrFun (f18 55 (by decide)) 47)) ((f148 80 (by decide)).trans (f18 80 (by decide))) hI107
      have I189 : jI109 σ146 := jI109_fr ((congrFun (f148 55 (by decide)) 50).trans (congrFun (f18 55 (by decide)) 50)) hI109
      have I190 : jI111 σ146 := jI111_fr ((f148 79 (by decide)).trans (f18 79 (by decide))) hI111
      have I191 : jI119 σ146 := jI119_fr ((f148 68 (by decide)).trans (f18 68 (by decide))) hI119
      have p192 : jKept σ146 := jKept.fr ((f148 75 (by decide)).trans (f18 75 (by decide))) ((f148 76 (by decide)).trans (f18 76 (by decide))) ((f148 77 (by decide)).trans (f18 77 (by decide))) hs_jKept
      have p193 : jBook σ146 := jBook.fr ((congrFun (f148 55 (by decide)) 47).trans (congrFun (f18 55 (by decide)) 47)) ((congrFun (f148 55 (by decide)) 10).trans (congrFun (f18 55 (by decide)) 10)) ((f148 81 (by decide)).trans (f18 81 (by decide))) hs_jBook
      have z194 : (σ146 38 0).toInt = (σ 38 0).toInt := (congrArg Int32.toInt (show σ146 38 0 = (σ 38 0) from ((congrFun (f148 38 (by decide)) 0).trans (congrFun (f18 38 (by decide)) 0))))
      have z195 : (σ146 55 32).toInt = (σ 55 32).toInt := (congrArg Int32.toInt (show σ146 55 32 = (σ 55 32) from ((congrFun (f148 55 (by decide)) 32).trans (congrFun (f18 55 (by decide)) 32))))
      rw [show σ16 86 = σ 86 from (f18 86 (by decide)), show σ16 87 = σ 87 from (f18 87 (by decide))] at k167
      obtain ⟨⟨z197, k198, k199⟩, k200⟩ := k167
      have p196 := hr0.set k142.1 k142.2.1 k142.2.2 k199 k200 (Or.inr (Or.inr ⟨by omega, by omega, k198, rfl, rfl⟩))
      rw [show τ16 88 = τ 88 from (f20 88 (by decide))] at k168
      have p201 := hr1.row w4 k142.1 k142.2.1 k143 k168 (by omega) (by omega) (by omega) (by omega) (by omega) (by omega)
      exact ih x170 σ146 τ146 _ _ ls (by have h9 := tx170; omega) ⟨I171, I172, I173, I174, I175, I176, I177, I178, I179, I180, I181, I182, I183, I184, I185, I186, I187, I188, I189, I149, I190, I191, p192, p193, (by omega), (show jShP (σ146 51) (σ146 52) (σ146 53) (σ146 86) (σ146 87) (σ146 55 32).toInt by rw [show σ146 51 = σ16 51 from (f148 51 (by decide)), show σ146 52 = σ16 52 from (f148 52 (by decide)), show σ146 53 = σ16 53 from (f148 53 (by decide))]; exact (p196.up (by omega) (by omega))), (show jEl (σ146 51) (σ146 52) (τ146 54) (τ146 88) by rw [show σ146 51 = σ16 51 from (f148 51 (by decide)), show σ146 52 = σ16 52 from (f148 52 (by decide)), show τ146 54 = τ16 54 from (f150 54 (by decide))]; exact p201)⟩ hP hS (lv_sub hl [0, 1, 2, 3] rfl)
set_option maxHeartbeats 4000000 in
set_option maxRecDepth 100000 in
theorem law_case_32 {p : Program} {e : Env} {s : State} {m : MethodId} {below : List Frame} {meth : Method} {c : Code} (l : Launch) {b L : Nat} {xs : Nat → Int32} {D : va_G} {cI cL : ClassId} {ad zz : Nat → Nat} (C0 : lw_At p s m meth c b L xs) (hJ : jD ad) (hA : ∀ q, jA ad q → s.heap.size ≤ q) (hK : jK D cI cL s) (hZ : jZ zz (fun q : Nat => s.heap.size ≤ q) s s.heap) {x0 : Int32} (hx0 : 0 ≤ x0.toInt) (hxL : x0.toInt + 6 ≤ (L : Int)) (hL : L ≤ 384) {σ : Nat → Nat → Int32} {τ : Nat → Nat → Int64} {H : Heap} {locs : List Loc} (hS : va_S (fun q : Nat => s.heap.size ≤ q) s.heap H locs) {ls : Array Slot} (hAll : jAll σ τ) (hP : jH D cI cL ad σ τ H) (hl : lv_has ls 4 [(3, .int x0), (2, .ref (ad 55)), (1, .ref (ad 0)), (0, .ref b)]) (ih : ∀ (x1 : Int32) (σ : Nat → Nat → Int32) (τ : Nat → Nat → Int64) (H : Heap) (locs : List Loc) (ls : Array Slot), x1.toInt = x0.toInt + 6 → jAll σ τ → jH D cI cL ad σ τ H → va_S (fun q : Nat => s.heap.size ≤ q) s.heap H locs → lv_has ls 4 [(3, .int x1), (2, .ref (ad 55)), (1, .ref (ad 0)), (0, .ref b)] → W p l e room_1 s m #[Value.ref b] below meth c H locs 90 348600 (lw_Z below #[Value.ref b] s) (F0 m 18 ls [])) : W p l e room_1 s m #[Value.ref b] below meth c H locs 90 348600 (lw_Z below #[Value.ref b] s) (F0 m 1132 ls []) := by
  obtain ⟨hx, hb, hr, hml, hown, hts0, hX, hbl, hlocks, hgv⟩ := C0
  have hts : ∀ w ∈ wsL_law, w.before #[Value.ref b] s = true := fun w h => hts0 w (wsL_law_in w h)
  have hbA : ¬ (fun q : Nat => s.heap.size ≤ q) b := Nat.not_le.mpr hbl
  have hown : s.vm.findClass RL = some m.cls := hown
  obtain ⟨hI2, hI9, hI12, hI16, hI18, hI22, hI31, hI38, hI43, hI47, hI50, hI101, hI102, hI103, hI104, hI105, hI106, hI107, hI109, hI110, hI111, hI119, hs_jKept, hs_jBook, ht0, hr0, hr1⟩ := hAll
  have hL9 : (L : Int) ≤ 384 := by omega
  obtain ⟨i1, i2, w3⟩ : (0 ≤ (σ 38 0).toInt ∧ (σ 38 0).toInt ≤ 20) ∧ (0 ≤ (σ 38 1).toInt ∧ (σ 38 1).toInt ≤ 1000) ∧ (∀ k : Nat, k < 20 → 0 ≤ (σ 39 k).toInt ∧ (σ 39 k).toInt ≤ 6) := id hI38
  have w4 : ∀ k : Nat, k < 6 → 0 ≤ (σ 52 k).toInt ∧ (σ 52 k).toInt ≤ 60 := hI50
  obtain ⟨i5, w6, w7, w8⟩ : (0 ≤ (σ 55 32).toInt ∧ (σ 55 32).toInt ≤ 20) ∧ (∀ k : Nat, k < 20 → 0 ≤ (σ 70 k).toInt ∧ (σ 70 k).toInt ≤ 6) ∧ (∀ k : Nat, k < 20 → 0 ≤ (σ 71 k).toInt ∧ (σ 71 k).toInt ≤ 8) ∧ (∀ k : Nat, k < 160 → 0 ≤ (σ 72 k).toInt ∧ (σ 72 k).toInt ≤ 3) := id hI106
  refine lv_aload_n hx hb dL_law_1132 rfl (lv_at hl 2 rfl) ?_
  refine lv_aload_n hx hb dL_law_1133 rfl (lv_at hl 3 rfl) ?_
  refine lv_iload_n hx hb dL_law_1134 rfl (lv_at hl 0 rfl) ?_
  refine lv_iconst (v := 1) hx hb dL_law_1135 (by decide) ?_
  have g9 := jrg (rfl : x0.toInt = x0.toInt)
  refine lv_iadd hx hb dL_law_1136 ?_
  refine lv_topi (fun x10 ex10 => ?_)
  have tx10 : x10.toInt = x0.toInt + 1 := (jadd ex10 rfl jz_1 (by omega) (by omega)).trans (by omega)
  refine va_sld hx hb hX hbl hbA hS (jin tx10 (by omega) (by omega)) dL_law_1137 ?_
  have g11 := jrg (rfl : (xs x10.toNatClampNeg).toInt = (xs x10.toNatClampNeg).toInt)
  refine lv_aload_n hx hb dL_law_1138 rfl (lv_at hl 3 rfl) ?_
  refine lv_iload_n hx hb dL_law_1139 rfl (lv_at hl 0 rfl) ?_
  refine lv_iconst (v := 2) hx hb dL_law_1140 (by decide) ?_
  refine lv_iadd hx hb dL_law_1141 ?_
  refine lv_topi (fun x12 ex12 => ?_)
  have tx12 : x12.toInt = x0.toInt + 2 := (jadd ex12 rfl jz_2 (by omega) (by omega)).trans (by omega)
  refine va_sld hx hb hX hbl hbA hS (jin tx12 (by omega) (by omega)) dL_law_1142 ?_
  have g13 := jrg (rfl : (xs x12.toNatClampNeg).toInt = (xs x12.toNatClampNeg).toInt)
  refine lv_aload_n hx hb dL_law_1143 rfl (lv_at hl 3 rfl) ?_
  refine lv_iload_n hx hb dL_law_1144 rfl (lv_at hl 0 rfl) ?_
  refine lv_iconst (v := 3) hx hb dL_law_1145 (by decide) ?_
  refine lv_iadd hx hb dL_law_1146 ?_
  refine lv_topi (fun x14 ex14 => ?_)
  have tx14 : x14.toInt = x0.toInt + 3 := (jadd ex14 rfl jz_3 (by omega) (by omega)).trans (by omega)
  refine va_sld hx hb hX hbl hbA hS (jin tx14 (by omega) (by omega)) dL_law_1147 ?_
  have g15 := jrg (rfl : (xs x14.toNatClampNeg).toInt = (xs x14.toNatClampNeg).toInt)
  refine lv_i2l (v := (xs x14.toNatClampNeg).toInt64) hx hb dL_law_1148 rfl ?_
  refine lv_bipush (v := 32) hx hb dL_law_1149 (by decide) ?_
  refine lv_lshl hx hb dL_law_1151 rfl ?_
  refine lv_topl (fun lx16 elx16 => ?_)
  refine lv_aload_n hx hb dL_law_1152 rfl (lv_at hl 3 rfl) ?_
  refine lv_iload_n hx hb dL_law_1153 rfl (lv_at hl 0 rfl) ?_
  refine lv_iconst (v := 4) hx hb dL_law_1154 (by decide) ?_
  refine lv_iadd hx hb dL_law_1155 ?_
  refine lv_topi (fun x17 ex17 => ?_)
  have tx17 : x17.toInt = x0.toInt + 4 := (jadd ex17 rfl jz_4 (by omega) (by omega)).trans (by omega)
  refine va_sld hx hb hX hbl hbA hS (jin tx17 (by omega) (by omega)) dL_law_1156 ?_
  have g18 := jrg (rfl : (xs x17.toNatClampNeg).toInt = (xs x17.toNatClampNeg).toInt)
  refine lv_i2l (v := (xs x17.toNatClampNeg).toInt64) hx hb dL_law_1157 rfl ?_
  refine lv_ldc2 (v := 4294967295) hx hb hown (hts _ kw_1_6) dL_law_1158 ?_
  refine lv_land hx hb dL_law_1161 ?_
  refine lv_topl (fun lx19 elx19 => ?_)
  refine lv_lor hx hb dL_law_1162 ?_
  refine lv_topl (fun lx20 elx20 => ?_)
  refine jcallV (As := [.int (xs x10.toNatClampNeg), .int (xs x12.toNatClampNeg), .long lx20]) (rest := []) ⟨hx, hb, hml, hown, hts⟩ hK hP hA hS hZ (c_X11_put l D cI cL ad zz hJ σ τ (xs x10.toNatClampNeg) ((xs x10.toNatClampNeg).toInt) rfl (xs x12.toNatClampNeg) ((xs x12.toNatClampNeg).toInt) rfl lx20 (lx20.toInt) rfl hI50) cw_RL_147 (jc_0 cI cL ad σ τ) rfl ⟨Nat.le_of_ble_eq_true rfl, Nat.le_of_ble_eq_true rfl⟩ rfl rfl rfl hl.1 rfl (Nat.le_of_ble_eq_true rfl) dL_law_1163 ⟨Nat.le_of_ble_eq_true rfl, Nat.le_of_ble_eq_true rfl⟩ (fun r22 σ21 τ21 H locs h21 hP hS => ?_)
  obtain ⟨f26, f23, w24, w25, h21⟩ := h21
  refine lv_pop hx hb dL_law_1166 rfl ?_
  refine lv_aload_n hx hb dL_law_1167 rfl (lv_at hl 1 rfl) ?_
  refine lv_aload_n hx hb dL_law_1168 rfl (lv_at hl 3 rfl) ?_
  refine lv_iload_n hx hb dL_law_1169 rfl (lv_at hl 0 rfl) ?_
  refine lv_iconst (v := 1) hx hb dL_law_1170 (by decide) ?_
  refine lv_iadd hx hb dL_law_1171 ?_
  refine jtopr ex10.symm ?_
  refine va_sld hx hb hX hbl hbA hS (jin tx10 (by omega) (by omega)) dL_law_1172 ?_
  refine lv_aload_n hx hb dL_law_1173 rfl (lv_at hl 3 rfl) ?_
  refine lv_iload_n hx hb dL_law_1174 rfl (lv_at hl 0 rfl) ?_
  refine lv_iconst (v := 2) hx hb dL_law_1175 (by decide) ?_
  refine lv_iadd hx hb dL_law_1176 ?_
  refine jtopr ex12.symm ?_
  refine va_sld hx hb hX hbl hbA hS (jin tx12 (by omega) (by omega)) dL_law_1177 ?_
  refine lv_aload_n hx hb dL_law_1178 rfl (lv_at hl 3 rfl) ?_
  refine lv_iload_n hx hb dL_law_1179 rfl (lv_at hl 0 rfl) ?_
  refine lv_iconst (v := 3) hx hb dL_law_1180 (by decide) ?_
  refine lv_iadd hx hb dL_law_1181 ?_
  refine jtopr ex14.symm ?_
  refine va_sld hx hb hX hbl hbA hS (jin tx14 (by omega) (by omega)) dL_law_1182 ?_
  refine lv_i2l (v := (xs x14.toNatClampNeg).toInt64) hx hb dL_law_1183 rfl ?_
  refine lv_bipush (v := 32) hx hb dL_law_1184 (by decide) ?_
  refine lv_lshl hx hb dL_law_1186 rfl ?_
  refine lv_topl (fun lx27 elx27 => ?_)
  refine lv_aload_n hx hb dL_law_1187 rfl (lv_at hl 3 rfl) ?_
  refine lv_iload_n hx hb dL_law_1188 rfl (lv_at hl 0 rfl) ?_
  refine lv_iconst (v := 4) hx hb dL_law_1189 (by decide) ?_
  refine lv_iadd hx hb dL_law_1190 ?_
  refine jtopr ex17.symm ?_
  refine va_sld hx hb hX hbl hbA hS (jin tx17 (by omega) (by omega)) dL_law_1191 ?_
  refine lv_i2l (v := (xs x17.toNatClampNeg).toInt64) hx hb dL_law_1192 rfl ?_
  refine lv_ldc2 (v := 4294967295) hx hb hown (hts _ kw_1_6) dL_law_1193 ?_
  refine lv_land hx hb dL_law_1196 ?_
  refine lv_topl (fun lx28 elx28 => ?_)
  refine lv_lor hx hb dL_law_1197 ?_
  refine lv_topl (fun lx29 elx29 => ?_)
  have I30 : jI110 σ21 := jI110_fr (f23 86 (by decide)) (f23 87 (by decide)) hI110
  refine jcallV (As := [.int (xs x10.toNatClampNeg), .int (xs x12.toNatClampNeg), .long lx29]) (rest := []) ⟨hx, hb, hml, hown, hts⟩ hK hP hA hS hZ (c_X12_put l D cI cL ad zz hJ σ21 τ21 (xs x10.toNatClampNeg) ((xs x10.toNatClampNeg).toInt) rfl (xs x12.toNatClampNeg) ((xs x12.toNatClampNeg).toInt) rfl lx29 (lx29.toInt) rfl I30) cw_RL_151 (jc_55 cI cL ad σ21 τ21) rfl ⟨Nat.le_of_ble_eq_true rfl, Nat.le_of_ble_eq_true rfl⟩ rfl rfl rfl hl.1 rfl (Nat.le_of_ble_eq_true rfl) dL_law_1198 ⟨Nat.le_of_ble_eq_true rfl, Nat.le_of_ble_eq_true rfl⟩ (fun r32 σ31 τ31 H locs h31 hP hS => ?_)
  obtain ⟨f36, f33, w34, w35, h31⟩ := h31
  refine lv_pop hx hb dL_law_1201 rfl ?_
  refine lv_goto (tgt := 1358) hx hb dL_law_1202 (by decide) ?_
  obtain ⟨x37, ex37⟩ : ∃ y : Int32, y = x0 + 6 := ⟨_, rfl⟩
  have tx37 : x37.toInt = x0.toInt + 6 := (jadd ex37 rfl jz_6 (by omega) (by omega)).trans (by omega)
  refine lv_iinc (v := x37) (lv' := [(3, .int x37), (2, .ref (ad 55)), (1, .ref (ad 0)), (0, .ref b)]) hx hb dL_law_1358 hl (k := 0) rfl (by rw [ex37]; rfl) (by decide) rfl (fun ls hl => ?_)
  refine lv_goto (tgt := 18) hx hb dL_law_1361 (by decide) ?_
  have I38 : jI2 σ31 := jI2_fr ((congrFun (f33 2 (by decide)) 0).trans (congrFun (f23 2 (by decide)) 0)) ((congrFun (f33 2 (by decide)) 1).trans (congrFun (f23 2 (by decide)) 1)) ((congrFun (f33 2 (by decide)) 2).trans (congrFun (f23 2 (by decide)) 2)) ((congrFun (f33 2 (by decide)) 3).trans (congrFun (f23 2 (by decide)) 3)) ((f33 6 (by decide)).trans (f23 6 (by decide))) hI2
  have I39 : jI9 σ31 := jI9_fr ((congrFun (f33 9 (by decide)) 0).trans (congrFun (f23 9 (by decide)) 0)) ((f33 10 (by decide)).trans (f23 10 (by decide))) ((f33 11 (by decide)).trans (f23 11 (by decide))) hI9
  have I40 : jI12 σ31 := jI12_fr ((congrFun (f33 12 (by decide)) 0).trans (congrFun (f23 12 (by decide)) 0)) ((f33 13 (by decide)).trans (f23 13 (by decide))) hI12
  have I41 : jI16 σ31 := jI16_fr ((congrFun (f33 16 (by decide)) 0).trans (congrFun (f23 16 (by decide)) 0)) ((congrFun (f33 16 (by decide)) 1).trans (congrFun (f23 16 (by decide)) 1)) ((congrFun (f33 16 (by decide)) 2).trans (congrFun (f23 16 (by decide)) 2)) ((f33 17 (by decide)).trans (f23 17 (by decide))) hI16
  have I42 : jI18 σ31 := jI18_fr ((congrFun (f33 18 (by decide)) 0).trans (congrFun (f23 18 (by decide)) 0)) ((f33 19 (by decide)).trans (f23 19 (by decide))) hI18
  have I43 : jI22 σ31 := jI22_fr ((congrFun (f33 22 (by decide)) 0).trans (congrFun (f23 22 (by decide)) 0)) ((f33 23 (by decide)).trans (f23 23 (by decide))) hI22
  have I44 : jI31 σ31 := jI31_fr ((congrFun (f33 31 (by decide)) 8).trans (congrFun (f23 31 (by decide)) 8)) ((f33 33 (by decide)).trans (f23 33 (by decide))) ((f33 36 (by decide)).trans (f23 36 (by decide))) hI31
  have I45 : jI38 σ31 := jI38_fr ((congrFun (f33 38 (by decide)) 0).trans (congrFun (f23 38 (by decide)) 0)) ((congrFun (f33 38 (by decide)) 1).trans (congrFun (f23 38 (by decide)) 1)) ((f33 39 (by decide)).trans (f23 39 (by decide))) hI38
  have I46 : jI43 σ31 := jI43_fr ((congrFun (f33 43 (by decide)) 8).trans (congrFun (f23 43 (by decide)) 8)) hI43
  have I47 : jI47 σ31 := jI47_fr ((congrFun (f33 47 (by decide)) 0).trans (congrFun (f23 47 (by decide)) 0)) ((f33 48 (by decide)).trans (f23 48 (by decide))) ((f33 49 (by decide)).trans (f23 49 (by decide))) hI47
  have I48 : jI50 σ31 := jI50_fr ((f33 52 (by decide)).trans (f23 52 (by decide))) hI50
  have I49 : jI101 σ31 := jI101_fr ((congrFun (f33 55 (by decide)) 4).trans (congrFun (f23 55 (by decide)) 4)) ((congrFun (f33 55 (by decide)) 5).trans (congrFun (f23 55 (by decide)) 5)) ((f33 56 (by decide)).trans (f23 56 (by decide))) ((f33 57 (by decide)).trans (f23 57 (by decide))) ((f33 58 (by decide)).trans (f23 58 (by decide))) ((f33 59 (by decide)).trans (f23 59 (by decide))) hI101
  have I50 : jI102 σ31 := jI102_fr ((congrFun (f33 55 (by decide)) 6).trans (congrFun (f23 55 (by decide)) 6)) ((f33 60 (by decide)).trans (f23 60 (by decide))) ((f33 61 (by decide)).trans (f23 61 (by decide))) hI102
  have I51 : jI103 σ31 := jI103_fr ((congrFun (f33 55 (by decide)) 9).trans (congrFun (f23 55 (by decide)) 9)) hI103
  have I52 : jI104 σ31 := jI104_fr ((congrFun (f33 55 (by decide)) 10).trans (congrFun (f23 55 (by decide)) 10)) ((congrFun (f33 55 (by decide)) 12).trans (congrFun (f23 55 (by decide)) 12)) ((congrFun (f33 55 (by decide)) 13).trans (congrFun (f23 55 (by decide)) 13)) ((f33 62 (by decide)).trans (f23 62 (by decide))) ((f33 67 (by decide)).trans (f23 67 (by decide))) hI104
  have I53 : jI105 σ31 := jI105_fr ((congrFun (f33 55 (by decide)) 15).trans (congrFun (f23 55 (by decide)) 15)) ((f33 65 (by decide)).trans (f23 65 (by decide))) hI105
  have I54 : jI106 σ31 := jI106_fr ((congrFun (f33 55 (by decide)) 32).trans (congrFun (f23 55 (by decide)) 32)) ((f33 70 (by decide)).trans (f23 70 (by decide))) ((f33 71 (by decide)).trans (f23 71 (by decide))) ((f33 72 (by decide)).trans (f23 72 (by decide))) hI106
  have I55 : jI107 σ31 := jI107_fr ((congrFun (f33 55 (by decide)) 12).trans (congrFun (f23 55 (by decide)) 12)) ((congrFun (f33 55 (by decide)) 47).trans (congrFun (f23 55 (by decide)) 47)) ((f33 80 (by decide)).trans (f23 80 (by decide))) hI107
  have I56 : jI109 σ31 := jI109_fr ((congrFun (f33 55 (by decide)) 50).trans (congrFun (f23 55 (by decide)) 50)) hI109
  have I57 : jI110 σ31 := jI110_fr (f33 86 (by decide)) (f33 87 (by decide)) I30
  have I58 : jI111 σ31 := jI111_fr ((f33 79 (by decide)).trans (f23 79 (by decide))) hI111
  have I59 : jI119 σ31 := jI119_fr ((f33 68 (by decide)).trans (f23 68 (by decide))) hI119
  have p60 : jKept σ31 := jKept.fr ((f33 75 (by decide)).trans (f23 75 (by decide))) ((f33 76 (by decide)).trans (f23 76 (by decide))) ((f33 77 (by decide)).trans (f23 77 (by decide))) hs_jKept
  have p61 : jBook σ31 := jBook.fr ((congrFun (f33 55 (by decide)) 47).trans (congrFun (f23 55 (by decide)) 47)) ((congrFun (f33 55 (by decide)) 10).trans (congrFun (f23 55 (by decide)) 10)) ((f33 81 (by decide)).trans (f23 81 (by decide))) hs_jBook
  have z62 : (σ31 38 0).toInt = (σ 38 0).toInt := (congrArg Int32.toInt (show σ31 38 0 = (σ 38 0) from ((congrFun (f33 38 (by decide)) 0).trans (congrFun (f23 38 (by decide)) 0))))
  have z63 : (σ31 55 32).toInt = (σ 55 32).toInt := (congrArg Int32.toInt (show σ31 55 32 = (σ 55 32) from ((congrFun (f33 55 (by decide)) 32).trans (congrFun (f23 55 (by decide)) 32))))
  rw [show τ21 88 = τ 88 from (f26 88 (by decide))] at w35
  have s65 := w34
  rw [show σ21 86 = σ 86 from (f23 86 (by decide)), show σ21 87 = σ 87 from (f23 87 (by decide))] at s65
  rw [show σ21 86 = σ 86 from (f23 86 (by decide))] at w35
  have v66 : lx29 = lx20 := by rw [elx29, elx27, elx28, elx20, elx16, elx19]
  rw [v66] at w35
  have p64 := hr1.put w25 w35 (w24.trans (hr0.rf.trans s65.symm)) rfl (fun z => by rw [(hr0.cut w24 z).1])
  exact ih x37 σ31 τ31 _ _ ls (by have h9 := tx37; omega) ⟨I38, I39, I40, I41, I42, I43, I44, I45, I46, I47, I48, I49, I50, I51, I52, I53, I54, I55, I56, I57, I58, I59, p60, p61, (by omega), (show jShP (σ31 51) (σ31 52) (σ31 53) (σ31 86) (σ31 87) (σ31 55 32).toInt by rw [show σ31 51 = σ 51 from ((f33 51 (by decide)).trans (f23 51 (by decide))), show σ31 52 = σ 52 from ((f33 52 (by decide)).trans (f23 52 (by decide))), show σ31 53 = σ 53 from ((f33 53 (by decide)).trans (f23 53 (by decide))), show σ31 86 = σ 86 from ((f33 86 (by decide)).trans (f23 86 (by decide))), show σ31 87 = σ 87 from ((f33 87 (by decide)).trans (f23 87 (by decide)))]; exact (hr0.up (by omega) (by omega))), (show jEl (σ31 51) (σ31 52) (τ31 54) (τ31 88) by rw [show σ31 51 = σ 51 from ((f33 51 (by decide)).trans (f23 51 (by decide))), show σ31 52 = σ 52 from ((f33 52 (by decide)).trans (f23 52 (by decide))), show τ31 54 = τ21 54 from (f36 54 (by decide))]; exact p64)⟩ hP hS (lv_sub hl [0, 1, 2, 3] rfl)
set_option maxHeartbeats 4000000 in
set_option maxRecDepth 100000 in
theorem law_case_33 {p : Program} {e : Env} {s : State} {m : MethodId} {below : List Frame} {meth : Method} {c : Code} (l : Launch) {b L : Nat} {xs : Nat → Int32} {D : va_G} {cI cL : ClassId} {ad zz : Nat → Nat} (C0 : lw_At p s m meth c b L xs) (hJ : jD ad) (hA : ∀ q, jA ad q → s.heap.size ≤ q) (hK : jK D cI cL s) (hZ : jZ zz (fun q : Nat => s.heap.size ≤ q) s s.heap) {x0 : Int32} (hx0 : 0 ≤ x0.toInt) (hxL : x0.toInt + 6 ≤ (L : Int)) (hL : L ≤ 384) {σ : Nat → Nat → Int32} {τ : Nat → Nat → Int64} {H : Heap} {locs : List Loc} (hS : va_S (fun q : Nat => s.heap.size ≤ q) s.heap H locs) {ls : Array Slot} (hAll : jAll σ τ) (hP : jH D cI cL ad σ τ H) (hl : lv_has ls 4 [(3, .int x0), (2, .ref (ad 55)), (1, .ref (ad 0)), (0, .ref b)]) (ih : ∀ (x1 : Int32) (σ : Nat → Nat → Int32) (τ : Nat → Nat → Int64) (H : Heap) (locs : List Loc) (ls : Array Slot), x1.toInt = x0.toInt + 6 → jAll σ τ → jH D cI cL ad σ τ H → va_S (fun q : Nat => s.heap.size ≤ q) s.heap H locs → lv_has ls 4 [(3, .int x1), (2, .ref (ad 55)), (1, .ref (ad 0)), (0, .ref b)] → W p l e room_1 s m #[Value.ref b] below meth c H locs 90 348600 (lw_Z below #[Value.ref b] s) (F0 m 18 ls [])) : W p l e room_1 s m #[Value.ref b] below meth c H locs 90 348600 (lw_Z below #[Value.ref b] s) (F0 m 1205 ls []) := by
  obtain ⟨hx, hb, hr, hml, hown, hts0, hX, hbl, hlocks, hgv⟩ := C0
  have hts : ∀ w ∈ wsL_law, w.before #[Value.ref b] s = true := fun w h => hts0 w (wsL_law_in w h)
  have hbA : ¬ (fun q : Nat => s.heap.size ≤ q) b := Nat.not_le.mpr hbl
  have hown : s.vm.findClass RL = some m.cls := hown
  obtain ⟨hI2, hI9, hI12, hI16, hI18, hI22, hI31, hI38, hI43, hI47, hI50, hI101, hI102, hI103, hI104, hI105, hI106, hI107, hI109, hI110, hI111, hI119, hs_jKept, hs_jBook, ht0, hr0, hr1⟩ := hAll
  have hL9 : (L : Int) ≤ 384 := by omega
  obtain ⟨i1, i2, w3⟩ : (0 ≤ (σ 38 0).toInt ∧ (σ 38 0).toInt ≤ 20) ∧ (0 ≤ (σ 38 1).toInt ∧ (σ 38 1).toInt ≤ 1000) ∧ (∀ k : Nat, k < 20 → 0 ≤ (σ 39 k).toInt ∧ (σ 39 k).toInt ≤ 6) := id hI38
  have w4 : ∀ k : Nat, k < 6 → 0 ≤ (σ 52 k).toInt ∧ (σ 52 k).toInt ≤ 60 := hI50
  obtain ⟨i5, w6, w7, w8⟩ : (0 ≤ (σ 55 32).toInt ∧ (σ 55 32).toInt ≤ 20) ∧ (∀ k : Nat, k < 20 → 0 ≤ (σ 70 k).toInt ∧ (σ 70 k).toInt ≤ 6) ∧ (∀ k : Nat, k < 20 → 0 ≤ (σ 71 k).toInt ∧ (σ 71 k).toInt ≤ 8) ∧ (∀ k : Nat, k < 160 → 0 ≤ (σ 72 k).toInt ∧ (σ 72 k).toInt ≤ 3) := id hI106
  refine lv_aload_n hx hb dL_law_1205 rfl (lv_at hl 2 rfl) ?_
  refine lv_aload_n hx hb dL_law_1206 rfl (lv_at hl 3 rfl) ?_
  refine lv_iload_n hx hb dL_law_1207 rfl (lv_at hl 0 rfl) ?_
  refine lv_iconst (v := 1) hx hb dL_law_1208 (by decide) ?_
  have g9 := jrg (rfl : x0.toInt = x0.toInt)
  refine lv_iadd hx hb dL_law_1209 ?_
  refine lv_topi (fun x10 ex10 => ?_)
  have tx10 : x10.toInt = x0.toInt + 1 := (jadd ex10 rfl jz_1 (by omega) (by omega)).trans (by omega)
  refine va_sld hx hb hX hbl hbA hS (jin tx10 (by omega) (by omega)) dL_law_1210 ?_
  have g11 := jrg (rfl : (xs x10.toNatClampNeg).toInt = (xs x10.toNatClampNeg).toInt)
  refine lv_aload_n hx hb dL_law_1211 rfl (lv_at hl 3 rfl) ?_
  refine lv_iload_n hx hb dL_law_1212 rfl (lv_at hl 0 rfl) ?_
  refine lv_iconst (v := 2) hx hb dL_law_1213 (by decide) ?_
  refine lv_iadd hx hb dL_law_1214 ?_
  refine lv_topi (fun x12 ex12 => ?_)
  have tx12 : x12.toInt = x0.toInt + 2 := (jadd ex12 rfl jz_2 (by omega) (by omega)).trans (by omega)
  refine va_sld hx hb hX hbl hbA hS (jin tx12 (by omega) (by omega)) dL_law_1215 ?_
  have g13 := jrg (rfl : (xs x12.toNatClampNeg).toInt = (xs x12.toNatClampNeg).toInt)
  refine jcallVl (As := [.int (xs x10.toNatClampNeg), .int (xs x12.toNatClampNeg)]) (rest := []) ⟨hx, hb, hml, hown, hts⟩ hK hP hA hS hZ (c_X11_element l D cI cL ad zz hJ σ τ (xs x10.toNatClampNeg) ((xs x10.toNatClampNeg).toInt) rfl (xs x12.toNatClampNeg) ((xs x12.toNatClampNeg).toInt) rfl hI50) cw_RL_152 (jc_0 cI cL ad σ τ) rfl ⟨Nat.le_of_ble_eq_true rfl, Nat.le_of_ble_eq_true rfl⟩ rfl rfl rfl hl.1 rfl (Nat.le_of_ble_eq_true rfl) dL_law_1216 ⟨Nat.le_of_ble_eq_true rfl, Nat.le_of_ble_eq_true rfl⟩ (fun lxr15 σ14 τ14 H locs h14 hP hS => ?_)
  obtain ⟨⟨rfl, rfl⟩, w16, h14⟩ := h14
  refine lv_aload_n hx hb dL_law_1219 rfl (lv_at hl 1 rfl) ?_
  refine lv_aload_n hx hb dL_law_1220 rfl (lv_at hl 3 rfl) ?_
  refine lv_iload_n hx hb dL_law_1221 rfl (lv_at hl 0 rfl) ?_
  refine lv_iconst (v := 1) hx hb dL_law_1222 (by decide) ?_
  refine lv_iadd hx hb dL_law_1223 ?_
  refine jtopr ex10.symm ?_
  refine va_sld hx hb hX hbl hbA hS (jin tx10 (by omega) (by omega)) dL_law_1224 ?_
  refine lv_aload_n hx hb dL_law_1225 rfl (lv_at hl 3 rfl) ?_
  refine lv_iload_n hx hb dL_law_1226 rfl (lv_at hl 0 rfl) ?_
  refine lv_iconst (v := 2) hx hb dL_law_1227 (by decide) ?_
  refine lv_iadd hx hb dL_law_1228 ?_
  refine jtopr ex12.symm ?_
  refine va_sld hx hb hX hbl hbA hS (jin tx12 (by omega) (by omega)) dL_law_1229 ?_
  refine jcallVl (As := [.int (xs x10.toNatClampNeg), .int (xs x12.toNatClampNeg)]) (rest := [.long lxr15]) ⟨hx, hb, hml, hown, hts⟩ hK hP hA hS hZ (c_X12_element l D cI cL ad zz hJ σ τ (xs x10.toNatClampNeg) ((xs x10.toNatClampNeg).toInt) rfl (xs x12.toNatClampNeg) ((xs x12.toNatClampNeg).toInt) rfl hI110) cw_RL_156 (jc_55 cI cL ad σ τ) rfl ⟨Nat.le_of_ble_eq_true rfl, Nat.le_of_ble_eq_true rfl⟩ rfl rfl rfl hl.1 rfl (Nat.le_of_ble_eq_true rfl) dL_law_1230 ⟨Nat.le_of_ble_eq_true rfl, Nat.le_of_ble_eq_true rfl⟩ (fun lxr18 σ17 τ17 H locs h17 hP hS => ?_)
  obtain ⟨⟨rfl, rfl⟩, w19, h17⟩ := h17
  refine W.lcmp hx hb dL_law_1233 ?_
  refine lv_if_eq (tgt := 1358) hx hb dL_law_1234 (by decide) (fun _ => ?_) (fun c => absurd (jcmpz (hr1.get w16 w19 hr0.rf rfl rfl (fun z => (hr0.cut rfl z).2) (rfl : (0 : Int) = 0))) c)
  obtain ⟨x20, ex20⟩ : ∃ y : Int32, y = x0 + 6 := ⟨_, rfl⟩
  have tx20 : x20.toInt = x0.toInt + 6 := (jadd ex20 rfl jz_6 (by omega) (by omega)).trans (by omega)
  refine lv_iinc (v := x20) (lv' := [(3, .int x20), (2, .ref (ad 55)), (1, .ref (ad 0)), (0, .ref b)]) hx hb dL_law_1358 hl (k := 0) rfl (by rw [ex20]; rfl) (by decide) rfl (fun ls hl => ?_)
  refine lv_goto (tgt := 18) hx hb dL_law_1361 (by decide) ?_
  exact ih x20 σ τ _ _ ls (by have h9 := tx20; omega) ⟨hI2, hI9, hI12, hI16, hI18, hI22, hI31, hI38, hI43, hI47, hI50, hI101, hI102, hI103, hI104, hI105, hI106, hI107, hI109, hI110, hI111, hI119, hs_jKept, hs_jBook, (by omega), hr0, hr1⟩ hP hS (lv_sub hl [0, 1, 2, 3] rfl)
set_option maxHeartbeats 4000000 in
set_option maxRecDepth 100000 in
theorem law_case_34 {p : Program} {e : Env} {s : State} {m : MethodId} {below : List Frame} {meth : Method} {c : Code} (l : Launch) {b L : Nat} {xs : Nat → Int32} {D : va_G} {cI cL : ClassId} {ad zz : Nat → Nat} (C0 : lw_At p s m meth c b L xs) (hJ : jD ad) (hA : ∀ q, jA ad q → s.heap.size ≤ q) (hK : jK D cI cL s) (hZ : jZ zz (fun q : Nat => s.heap.size ≤ q) s s.heap) {x0 : Int32} (hx0 : 0 ≤ x0.toInt) (hxL : x0.toInt + 6 ≤ (L : Int)) (hL : L ≤ 384) {σ : Nat → Nat → Int32} {τ : Nat → Nat → Int64} {H : Heap} {locs : List Loc} (hS : va_S (fun q : Nat => s.heap.size ≤ q) s.heap H locs) {ls : Array Slot} (hAll : jAll σ τ) (hP : jH D cI cL ad σ τ H) (hl : lv_has ls 4 [(3, .int x0), (2, .ref (ad 55)), (1, .ref (ad 0)), (0, .ref b)]) (ih : ∀ (x1 : Int32) (σ : Nat → Nat → Int32) (τ : Nat → Nat → Int64) (H : Heap) (locs : List Loc) (ls : Array Slot), x1.toInt = x0.toInt + 6 → jAll σ τ → jH D cI cL ad σ τ H → va_S (fun q : Nat => s.heap.size ≤ q) s.heap H locs → lv_has ls 4 [(3, .int x1), (2, .ref (ad 55)), (1, .ref (ad 0)), (0, .ref b)] → W p l e room_1 s m #[Value.ref b] below meth c H locs 90 348600 (lw_Z below #[Value.ref b] s) (F0 m 18 ls [])) : W p l e room_1 s m #[Value.ref b] below meth c H locs 90 348600 (lw_Z below #[Value.ref b] s) (F0 m 1239 ls []) := by
  obtain ⟨hx, hb, hr, hml, hown, hts0, hX, hbl, hlocks, hgv⟩ := C0
  have hts : ∀ w ∈ wsL_law, w.before #[Value.ref b] s = true := fun w h => hts0 w (wsL_law_in w h)
  have hbA : ¬ (fun q : Nat => s.heap.size ≤ q) b := Nat.not_le.mpr hbl
  have hown : s.vm.findClass RL = some m.cls := hown
  obtain ⟨hI2, hI9, hI12, hI16, hI18, hI22, hI31, hI38, hI43, hI47, hI50, hI101, hI102, hI103, hI104, hI105, hI106, hI107, hI109, hI110, hI111, hI119, hs_jKept, hs_jBook, ht0, hr0, hr1⟩ := hAll
  have hL9 : (L : Int) ≤ 384 := by omega
  obtain ⟨i1, i2, w3⟩ : (0 ≤ (σ 38 0).toInt ∧ (σ 38 0).toInt ≤ 20) ∧ (0 ≤ (σ 38 1).toInt ∧ (σ 38 1).toInt ≤ 1000) ∧ (∀ k : Nat, k < 20 → 0 ≤ (σ 39 k).toInt ∧ (σ 39 k).toInt ≤ 6) := id hI38
  have w4 : ∀ k : Nat, k < 6 → 0 ≤ (σ 52 k).toInt ∧ (σ 52 k).toInt ≤ 60 := hI50
  obtain ⟨i5, w6, w7, w8⟩ : (0 ≤ (σ 55 32).toInt ∧ (σ 55 32).toInt ≤ 20) ∧ (∀ k : Nat, k < 20 → 0 ≤ (σ 70 k).toInt ∧ (σ 70 k).toInt ≤ 6) ∧ (∀ k : Nat, k < 20 → 0 ≤ (σ 71 k).toInt ∧ (σ 71 k).toInt ≤ 8) ∧ (∀ k : Nat, k < 160 → 0 ≤ (σ 72 k).toInt ∧ (σ 72 k).toInt ≤ 3) := id hI106
  refine lv_aload_n hx hb dL_law_1239 rfl (lv_at hl 2 rfl) ?_
  refine lv_aload_n hx hb dL_law_1240 rfl (lv_at hl 3 rfl) ?_
  refine lv_iload_n hx hb dL_law_1241 rfl (lv_at hl 0 rfl) ?_
  refine lv_iconst (v := 1) hx hb dL_law_1242 (by decide) ?_
  have g9 := jrg (rfl : x0.toInt = x0.toInt)
  refine lv_iadd hx hb dL_law_1243 ?_
  refine lv_topi (fun x10 ex10 => ?_)
  have tx10 : x10.toInt = x0.toInt + 1 := (jadd ex10 rfl jz_1 (by omega) (by omega)).trans (by omega)
  refine va_sld hx hb hX hbl hbA hS (jin tx10 (by omega) (by omega)) dL_law_1244 ?_
  have g11 := jrg (rfl : (xs x10.toNatClampNeg).toInt = (xs x10.toNatClampNeg).toInt)
  refine lv_aload_n hx hb dL_law_1245 rfl (lv_at hl 3 rfl) ?_
  refine lv_iload_n hx hb dL_law_1246 rfl (lv_at hl 0 rfl) ?_
  refine lv_iconst (v := 2) hx hb dL_law_1247 (by decide) ?_
  refine lv_iadd hx hb dL_law_1248 ?_
  refine lv_topi (fun x12 ex12 => ?_)
  have tx12 : x12.toInt = x0.toInt + 2 := (jadd ex12 rfl jz_2 (by omega) (by omega)).trans (by omega)
  refine va_sld hx hb hX hbl hbA hS (jin tx12 (by omega) (by omega)) dL_law_1249 ?_
  have g13 := jrg (rfl : (xs x12.toNatClampNeg).toInt = (xs x12.toNatClampNeg).toInt)
  refine lv_aload_n hx hb dL_law_1250 rfl (lv_at hl 3 rfl) ?_
  refine lv_iload_n hx hb dL_law_1251 rfl (lv_at hl 0 rfl) ?_
  refine lv_iconst (v := 3) hx hb dL_law_1252 (by decide) ?_
  refine lv_iadd hx hb dL_law_1253 ?_
  refine lv_topi (fun x14 ex14 => ?_)
  have tx14 : x14.toInt = x0.toInt + 3 := (jadd ex14 rfl jz_3 (by omega) (by omega)).trans (by omega)
  refine va_sld hx hb hX hbl hbA hS (jin tx14 (by omega) (by omega)) dL_law_1254 ?_
  have g15 := jrg (rfl : (xs x14.toNatClampNeg).toInt = (xs x14.toNatClampNeg).toInt)
  refine lv_aload_n hx hb dL_law_1255 rfl (lv_at hl 3 rfl) ?_
  refine lv_iload_n hx hb dL_law_1256 rfl (lv_at hl 0 rfl) ?_
  refine lv_iconst (v := 4) hx hb dL_law_1257 (by decide) ?_
  refine lv_iadd hx hb dL_law_1258 ?_
  refine lv_topi (fun x16 ex16 => ?_)
  have tx16 : x16.toInt = x0.toInt + 4 := (jadd ex16 rfl jz_4 (by omega) (by omega)).trans (by omega)
  refine va_sld hx hb hX hbl hbA hS (jin tx16 (by omega) (by omega)) dL_law_1259 ?_
  have g17 := jrg (rfl : (xs x16.toNatClampNeg).toInt = (xs x16.toNatClampNeg).toInt)
  refine lv_aload_n hx hb dL_law_1260 rfl (lv_at hl 3 rfl) ?_
  refine lv_iload_n hx hb dL_law_1261 rfl (lv_at hl 0 rfl) ?_
  refine lv_iconst (v := 5) hx hb dL_law_1262 (by decide) ?_
  refine lv_iadd hx hb dL_law_1263 ?_
  refine lv_topi (fun x18 ex18 => ?_)
  have tx18 : x18.toInt = x0.toInt + 5 := (jadd ex18 rfl jz_5 (by omega) (by omega)).trans (by omega)
  refine va_sld hx hb hX hbl hbA hS (jin tx18 (by omega) (by omega)) dL_law_1264 ?_
  have g19 := jrg (rfl : (xs x18.toNatClampNeg).toInt = (xs x18.toNatClampNeg).toInt)
  refine jcallV (As := [.int (xs x10.toNatClampNeg), .int (xs x12.toNatClampNeg), .int (xs x14.toNatClampNeg), .int (xs x16.toNatClampNeg), .int (xs x18.toNatClampNeg)]) (rest := []) ⟨hx, hb, hml, hown, hts⟩ hK hP hA hS hZ (c_X11_shift l D cI cL ad zz hJ σ τ (xs x10.toNatClampNeg) ((xs x10.toNatClampNeg).toInt) rfl (xs x12.toNatClampNeg) ((xs x12.toNatClampNeg).toInt) rfl (xs x14.toNatClampNeg) ((xs x14.toNatClampNeg).toInt) rfl (xs x16.toNatClampNeg) ((xs x16.toNatClampNeg).toInt) rfl (xs x18.toNatClampNeg) ((xs x18.toNatClampNeg).toInt) rfl hI50) cw_RL_157 (jc_0 cI cL ad σ τ) rfl ⟨Nat.le_of_ble_eq_true rfl, Nat.le_of_ble_eq_true rfl⟩ rfl rfl rfl hl.1 rfl (Nat.le_of_ble_eq_true rfl) dL_law_1265 ⟨Nat.le_of_ble_eq_true rfl, Nat.le_of_ble_eq_true rfl⟩ (fun r21 σ20 τ20 H locs h20 hP hS => ?_)
  obtain ⟨f25, f22, w23, w24, h20⟩ := h20
  refine lv_pop hx hb dL_law_1268 rfl ?_
  refine lv_aload_n hx hb dL_law_1269 rfl (lv_at hl 1 rfl) ?_
  refine lv_aload_n hx hb dL_law_1270 rfl (lv_at hl 3 rfl) ?_
  refine lv_iload_n hx hb dL_law_1271 rfl (lv_at hl 0 rfl) ?_
  refine lv_iconst (v := 1) hx hb dL_law_1272 (by decide) ?_
  refine lv_iadd hx hb dL_law_1273 ?_
  refine jtopr ex10.symm ?_
  refine va_sld hx hb hX hbl hbA hS (jin tx10 (by omega) (by omega)) dL_law_1274 ?_
  refine lv_aload_n hx hb dL_law_1275 rfl (lv_at hl 3 rfl) ?_
  refine lv_iload_n hx hb dL_law_1276 rfl (lv_at hl 0 rfl) ?_
  refine lv_iconst (v := 2) hx hb dL_law_1277 (by decide) ?_
  refine lv_iadd hx hb dL_law_1278 ?_
  refine jtopr ex12.symm ?_
  refine va_sld hx hb hX hbl hbA hS (jin tx12 (by omega) (by omega)) dL_law_1279 ?_
  refine lv_aload_n hx hb dL_law_1280 rfl (lv_at hl 3 rfl) ?_
  refine lv_iload_n hx hb dL_law_1281 rfl (lv_at hl 0 rfl) ?_
  refine lv_iconst (v := 3) hx hb dL_law_1282 (by decide) ?_
  refine lv_iadd hx hb dL_law_1283 ?_
  refine jtopr ex14.symm ?_
  refine va_sld hx hb hX hbl hbA hS (jin tx14 (by omega) (by omega)) dL_law_1284 ?_
  refine lv_aload_n hx hb dL_law_1285 rfl (lv_at hl 3 rfl) ?_
  refine lv_iload_n hx hb dL_law_1286 rfl (lv_at hl 0 rfl) ?_
  refine lv_iconst (v := 4) hx hb dL_law_1287 (by decide) ?_
  refine lv_iadd hx hb dL_law_1288 ?_
  refine jtopr ex16.symm ?_
  refine va_sld hx hb hX hbl hbA hS (jin tx16 (by omega) (by omega)) dL_law_1289 ?_
  refine lv_aload_n hx hb dL_law_1290 rfl (lv_at hl 3 rfl) ?_
  refine lv_iload_n hx hb dL_law_1291 rfl (lv_at hl 0 rfl) ?_
  refine lv_iconst (v := 5) hx hb dL_law_1292 (by decide) ?_
  refine lv_iadd hx hb dL_law_1293 ?_
  refine jtopr ex18.symm ?_
  refine va_sld hx hb hX hbl hbA hS (jin tx18 (by omega) (by omega)) dL_law_1294 ?_
  have I26 : jI110 σ20 := jI110_fr (f22 86 (by decide)) (f22 87 (by decide)) hI110
  refine jcallV (As := [.int (xs x10.toNatClampNeg), .int (xs x12.toNatClampNeg), .int (xs x14.toNatClampNeg), .int (xs x16.toNatClampNeg), .int (xs x18.toNatClampNeg)]) (rest := []) ⟨hx, hb, hml, hown, hts⟩ hK hP hA hS hZ (c_X12_shift l D cI cL ad zz hJ σ20 τ20 (xs x10.toNatClampNeg) ((xs x10.toNatClampNeg).toInt) rfl (xs x12.toNatClampNeg) ((xs x12.toNatClampNeg).toInt) rfl (xs x14.toNatClampNeg) ((xs x14.toNatClampNeg).toInt) rfl (xs x16.toNatClampNeg) ((xs x16.toNatClampNeg).toInt) rfl (xs x18.toNatClampNeg) ((xs x18.toNatClampNeg).toInt) rfl I26) cw_RL_161 (jc_55 cI cL ad σ20 τ20) rfl ⟨Nat.le_of_ble_eq_true rfl, Nat.le_of_ble_eq_true rfl⟩ rfl rfl rfl hl.1 rfl (Nat.le_of_ble_eq_true rfl) dL_law_1295 ⟨Nat.le_of_ble_eq_true rfl, Nat.le_of_ble_eq_true rfl⟩ (fun r28 σ27 τ27 H locs h27 hP hS => ?_)
  obtain ⟨f32, f29, w30, w31, h27⟩ := h27
  refine lv_pop hx hb dL_law_1298 rfl ?_
  refine lv_goto (tgt := 1358) hx hb dL_law_1299 (by decide) ?_
  obtain ⟨x33, ex33⟩ : ∃ y : Int32, y = x0 + 6 := ⟨_, rfl⟩
  have tx33 : x33.toInt = x0.toInt + 6 := (jadd ex33 rfl jz_6 (by omega) (by omega)).trans (by omega)
  refine lv_iinc (v := x33) (lv' := [(3, .int x33), (2, .ref (ad 55)), (1, .ref (ad 0)), (0, .ref b)]) hx hb dL_law_1358 hl (k := 0) rfl (by rw [ex33]; rfl) (by decide) rfl (fun ls hl => ?_)
  refine lv_goto (tgt := 18) hx hb dL_law_1361 (by decide) ?_
  have I34 : jI2 σ27 := jI2_fr ((congrFun (f29 2 (by decide)) 0).trans (congrFun (f22 2 (by decide)) 0)) ((congrFun (f29 2 (by decide)) 1).trans (congrFun (f22 2 (by decide)) 1)) ((congrFun (f29 2 (by decide)) 2).trans (congrFun (f22 2 (by decide)) 2)) ((congrFun (f29 2 (by decide)) 3).trans (congrFun (f22 2 (by decide)) 3)) ((f29 6 (by decide)).trans (f22 6 (by decide))) hI2
  have I35 : jI9 σ27 := jI9_fr ((congrFun (f29 9 (by decide)) 0).trans (congrFun (f22 9 (by decide)) 0)) ((f29 10 (by decide)).trans (f22 10 (by decide))) ((f29 11 (by decide)).trans (f22 11 (by decide))) hI9
  have I36 : jI12 σ27 := jI12_fr ((congrFun (f29 12 (by decide)) 0).trans (congrFun (f22 12 (by decide)) 0)) ((f29 13 (by decide)).trans (f22 13 (by decide))) hI12
  have I37 : jI16 σ27 := jI16_fr ((congrFun (f29 16 (by decide)) 0).trans (congrFun (f22 16 (by decide)) 0)) ((congrFun (f29 16 (by decide)) 1).trans (congrFun (f22 16 (by decide)) 1)) ((congrFun (f29 16 (by decide)) 2).trans (congrFun (f22 16 (by decide)) 2)) ((f29 17 (by decide)).trans (f22 17 (by decide))) hI16
  have I38 : jI18 σ27 := jI18_fr ((congrFun (f29 18 (by decide)) 0).trans (congrFun (f22 18 (by decide)) 0)) ((f29 19 (by decide)).trans (f22 19 (by decide))) hI18
  have I39 : jI22 σ27 := jI22_fr ((congrFun (f29 22 (by decide)) 0).trans (congrFun (f22 22 (by decide)) 0)) ((f29 23 (by decide)).trans (f22 23 (by decide))) hI22
  have I40 : jI31 σ27 := jI31_fr ((congrFun (f29 31 (by decide)) 8).trans (congrFun (f22 31 (by decide)) 8)) ((f29 33 (by decide)).trans (f22 33 (by decide))) ((f29 36 (by decide)).trans (f22 36 (by decide))) hI31
  have I41 : jI38 σ27 := jI38_fr ((congrFun (f29 38 (by decide)) 0).trans (congrFun (f22 38 (by decide)) 0)) ((congrFun (f29 38 (by decide)) 1).trans (congrFun (f22 38 (by decide)) 1)) ((f29 39 (by decide)).trans (f22 39 (by decide))) hI38
  have I42 : jI43 σ27 := jI43_fr ((congrFun (f29 43 (by decide)) 8).trans (congrFun (f22 43 (by decide)) 8)) hI43
  have I43 : jI47 σ27 := jI47_fr ((congrFun (f29 47 (by decide)) 0).trans (congrFun (f22 47 (by decide)) 0)) ((f29 48 (by decide)).trans (f22 48 (by decide))) ((f29 49 (by decide)).trans (f22 49 (by decide))) hI47
  have I44 : jI50 σ27 := jI50_fr ((f29 52 (by decide)).trans (f22 52 (by decide))) hI50
  have I45 : jI101 σ27 := jI101_fr ((congrFun (f29 55 (by decide)) 4).trans (congrFun (f22 55 (by decide)) 4)) ((congrFun (f29 55 (by decide)) 5).trans (congrFun (f22 55 (by decide)) 5)) ((f29 56 (by decide)).trans (f22 56 (by decide))) ((f29 57 (by decide)).trans (f22 57 (by decide))) ((f29 58 (by decide)).trans (f22 58 (by decide))) ((f29 59 (by decide)).trans (f22 59 (by decide))) hI101
  have I46 : jI102 σ27 := jI102_fr ((congrFun (f29 55 (by decide)) 6).trans (congrFun (f22 55 (by decide)) 6)) ((f29 60 (by decide)).trans (f22 60 (by decide))) ((f29 61 (by decide)).trans (f22 61 (by decide))) hI102
  have I47 : jI103 σ27 := jI103_fr ((congrFun (f29 55 (by decide)) 9).trans (congrFun (f22 55 (by decide)) 9)) hI103
  have I48 : jI104 σ27 := jI104_fr ((congrFun (f29 55 (by decide)) 10).trans (congrFun (f22 55 (by decide)) 10)) ((congrFun (f29 55 (by decide)) 12).trans (congrFun (f22 55 (by decide)) 12)) ((congrFun (f29 55 (by decide)) 13).trans (congrFun (f22 55 (by decide)) 13)) ((f29 62 (by decide)).trans (f22 62 (by decide))) ((f29 67 (by decide)).trans (f22 67 (by decide))) hI104
  have I49 : jI105 σ27 := jI105_fr ((congrFun (f29 55 (by decide)) 15).trans (congrFun (f22 55 (by decide)) 15)) ((f29 65 (by decide)).trans (f22 65 (by decide))) hI105
  have I50 : jI106 σ27 := jI106_fr ((congrFun (f29 55 (by decide)) 32).trans (congrFun (f22 55 (by decide)) 32)) ((f29 70 (by decide)).trans (f22 70 (by decide))) ((f29 71 (by decide)).trans (f22 71 (by decide))) ((f29 72 (by decide)).trans (f22 72 (by decide))) hI106
  have I51 : jI107 σ27 := jI107_fr ((congrFun (f29 55 (by decide)) 12).trans (congrFun (f22 55 (by decide)) 12)) ((congrFun (f29 55 (by decide)) 47).trans (congrFun (f22 55 (by decide)) 47)) ((f29 80 (by decide)).trans (f22 80 (by decide))) hI107
  have I52 : jI109 σ27 := jI109_fr ((congrFun (f29 55 (by decide)) 50).trans (congrFun (f22 55 (by decide)) 50)) hI109
  have I53 : jI110 σ27 := jI110_fr (f29 86 (by decide)) (f29 87 (by decide)) I26
  have I54 : jI111 σ27 := jI111_fr ((f29 79 (by decide)).trans (f22 79 (by decide))) hI111
  have I55 : jI119 σ27 := jI119_fr ((f29 68 (by decide)).trans (f22 68 (by decide))) hI119
  have p56 : jKept σ27 := jKept.fr ((f29 75 (by decide)).trans (f22 75 (by decide))) ((f29 76 (by decide)).trans (f22 76 (by decide))) ((f29 77 (by decide)).trans (f22 77 (by decide))) hs_jKept
  have p57 : jBook σ27 := jBook.fr ((congrFun (f29 55 (by decide)) 47).trans (congrFun (f22 55 (by decide)) 47)) ((congrFun (f29 55 (by decide)) 10).trans (congrFun (f22 55 (by decide)) 10)) ((f29 81 (by decide)).trans (f22 81 (by decide))) hs_jBook
  have z58 : (σ27 38 0).toInt = (σ 38 0).toInt := (congrArg Int32.toInt (show σ27 38 0 = (σ 38 0) from ((congrFun (f29 38 (by decide)) 0).trans (congrFun (f22 38 (by decide)) 0))))
  have z59 : (σ27 55 32).toInt = (σ 55 32).toInt := (congrArg Int32.toInt (show σ27 55 32 = (σ 55 32) from ((congrFun (f29 55 (by decide)) 32).trans (congrFun (f22 55 (by decide)) 32))))
  rw [show τ20 88 = τ 88 from (f25 88 (by decide))] at w31
  have s61 := w30
  rw [show σ20 86 = σ 86 from (f22 86 (by decide)), show σ20 87 = σ 87 from (f22 87 (by decide))] at s61
  have p60 := hr1.move w4 w24 w31 (w23.trans (hr0.sf.trans s61.symm)) rfl rfl rfl rfl rfl (fun z => hr0.mvok w23 z)
  exact ih x33 σ27 τ27 _ _ ls (by have h9 := tx33; omega) ⟨I34, I35, I36, I37, I38, I39, I40, I41, I42, I43, I44, I45, I46, I47, I48, I49, I50, I51, I52, I53, I54, I55, p56, p57, (by omega), (show jShP (σ27 51) (σ27 52) (σ27 53) (σ27 86) (σ27 87) (σ27 55 32).toInt by rw [show σ27 51 = σ 51 from ((f29 51 (by decide)).trans (f22 51 (by decide))), show σ27 52 = σ 52 from ((f29 52 (by decide)).trans (f22 52 (by decide))), show σ27 53 = σ 53 from ((f29 53 (by decide)).trans (f22 53 (by decide))), show σ27 86 = σ 86 from ((f29 86 (by decide)).trans (f22 86 (by decide))), show σ27 87 = σ 87 from ((f29 87 (by decide)).trans (f22 87 (by decide)))]; exact (hr0.up (by omega) (by omega))), (show jEl (σ27 51) (σ27 52) (τ27 54) (τ27 88) by rw [show σ27 51 = σ 51 from ((f29 51 (by decide)).trans (f22 51 (by decide))), show σ27 52 = σ 52 from ((f29 52 (by decide)).trans (f22 52 (by decide))), show τ27 54 = τ20 54 from (f32 54 (by decide))]; exact p60)⟩ hP hS (lv_sub hl [0, 1, 2, 3] rfl)
set_option maxHeartbeats 4000000 in
set_option maxRecDepth 100000 in
theorem law_case_35 {p : Program} {e : Env} {s : State} {m : MethodId} {below : List Frame} {meth : Method} {c : Code} (l : Launch) {b L : Nat} {xs : Nat → Int32} {D : va_G} {cI cL : ClassId} {ad zz : Nat → Nat} (C0 : lw_At p s m meth c b L xs) (hJ : jD ad) (hA : ∀ q, jA ad q → s.heap.size ≤ q) (hK : jK D cI cL s) (hZ : jZ zz (fun q : Nat => s.heap.size ≤ q) s s.heap) {x0 : Int32} (hx0 : 0 ≤ x0.toInt) (hxL : x0.toInt + 6 ≤ (L : Int)) (hL : L ≤ 384) {σ : Nat → Nat → Int32} {τ : Nat → Nat → Int64} {H : Heap} {locs : List Loc} (hS : va_S (fun q : Nat => s.heap.size ≤ q) s.heap H locs) {ls : Array Slot} (hAll : jAll σ τ) (hP : jH D cI cL ad σ τ H) (hl : lv_has ls 4 [(3, .int x0), (2, .ref (ad 55)), (1, .ref (ad 0)), (0, .ref b)]) (ih : ∀ (x1 : Int32) (σ : Nat → Nat → Int32) (τ : Nat → Nat → Int64) (H : Heap) (locs : List Loc) (ls : Array Slot), x1.toInt = x0.toInt + 6 → jAll σ τ → jH D cI cL ad σ τ H → va_S (fun q : Nat => s.heap.size ≤ q) s.heap H locs → lv_has ls 4 [(3, .int x1), (2, .ref (ad 55)), (1, .ref (ad 0)), (0, .ref b)] → W p l e room_1 s m #[Value.ref b] below meth c H locs 90 348600 (lw_Z below #[Value.ref b] s) (F0 m 18 ls [])) : W p l e room_1 s m #[Value.ref b] below meth c H locs 90 348600 (lw_Z below #[Value.ref b] s) (F0 m 1302 ls []) := by
  obtain ⟨hx, hb, hr, hml, hown, hts0, hX, hbl, hlocks, hgv⟩ := C0
  have hts : ∀ w ∈ wsL_law, w.before #[Value.ref b] s = true := fun w h => hts0 w (wsL_law_in w h)
  have hbA : ¬ (fun q : Nat => s.heap.size ≤ q) b := Nat.not_le.mpr hbl
  have hown : s.vm.findClass RL = some m.cls := hown
  obtain ⟨hI2, hI9, hI12, hI16, hI18, hI22, hI31, hI38, hI43, hI47, hI50, hI101, hI102, hI103, hI104, hI105, hI106, hI107, hI109, hI110, hI111, hI119, hs_jKept, hs_jBook, ht0, hr0, hr1⟩ := hAll
  have hL9 : (L : Int) ≤ 384 := by omega
  obtain ⟨i1, i2, w3⟩ : (0 ≤ (σ 38 0).toInt ∧ (σ 38 0).toInt ≤ 20) ∧ (0 ≤ (σ 38 1).toInt ∧ (σ 38 1).toInt ≤ 1000) ∧ (∀ k : Nat, k < 20 → 0 ≤ (σ 39 k).toInt ∧ (σ 39 k).toInt ≤ 6) := id hI38
  have w4 : ∀ k : Nat, k < 6 → 0 ≤ (σ 52 k).toInt ∧ (σ 52 k).toInt ≤ 60 := hI50
  obtain ⟨i5, w6, w7, w8⟩ : (0 ≤ (σ 55 32).toInt ∧ (σ 55 32).toInt ≤ 20) ∧ (∀ k : Nat, k < 20 → 0 ≤ (σ 70 k).toInt ∧ (σ 70 k).toInt ≤ 6) ∧ (∀ k : Nat, k < 20 → 0 ≤ (σ 71 k).toInt ∧ (σ 71 k).toInt ≤ 8) ∧ (∀ k : Nat, k < 160 → 0 ≤ (σ 72 k).toInt ∧ (σ 72 k).toInt ≤ 3) := id hI106
  refine lv_aload_n hx hb dL_law_1302 rfl (lv_at hl 2 rfl) ?_
  refine lv_aload_n hx hb dL_law_1303 rfl (lv_at hl 3 rfl) ?_
  refine lv_iload_n hx hb dL_law_1304 rfl (lv_at hl 0 rfl) ?_
  refine lv_iconst (v := 1) hx hb dL_law_1305 (by decide) ?_
  have g9 := jrg (rfl : x0.toInt = x0.toInt)
  refine lv_iadd hx hb dL_law_1306 ?_
  refine lv_topi (fun x10 ex10 => ?_)
  have tx10 : x10.toInt = x0.toInt + 1 := (jadd ex10 rfl jz_1 (by omega) (by omega)).trans (by omega)
  refine va_sld hx hb hX hbl hbA hS (jin tx10 (by omega) (by omega)) dL_law_1307 ?_
  have g11 := jrg (rfl : (xs x10.toNatClampNeg).toInt = (xs x10.toNatClampNeg).toInt)
  refine lv_aload_n hx hb dL_law_1308 rfl (lv_at hl 3 rfl) ?_
  refine lv_iload_n hx hb dL_law_1309 rfl (lv_at hl 0 rfl) ?_
  refine lv_iconst (v := 2) hx hb dL_law_1310 (by decide) ?_
  refine lv_iadd hx hb dL_law_1311 ?_
  refine lv_topi (fun x12 ex12 => ?_)
  have tx12 : x12.toInt = x0.toInt + 2 := (jadd ex12 rfl jz_2 (by omega) (by omega)).trans (by omega)
  refine va_sld hx hb hX hbl hbA hS (jin tx12 (by omega) (by omega)) dL_law_1312 ?_
  have g13 := jrg (rfl : (xs x12.toNatClampNeg).toInt = (xs x12.toNatClampNeg).toInt)
  refine jcallV (As := [.int (xs x10.toNatClampNeg), .int (xs x12.toNatClampNeg)]) (rest := []) ⟨hx, hb, hml, hown, hts⟩ hK hP hA hS hZ (c_X11_taken l D cI cL ad zz hJ σ τ (xs x10.toNatClampNeg) ((xs x10.toNatClampNeg).toInt) rfl (xs x12.toNatClampNeg) ((xs x12.toNatClampNeg).toInt) rfl hI38) cw_RL_162 (jc_0 cI cL ad σ τ) rfl ⟨Nat.le_of_ble_eq_true rfl, Nat.le_of_ble_eq_true rfl⟩ rfl rfl rfl hl.1 rfl (Nat.le_of_ble_eq_true rfl) dL_law_1313 ⟨Nat.le_of_ble_eq_true rfl, Nat.le_of_ble_eq_true rfl⟩ (fun r15 σ14 τ14 H locs h14 hP hS => ?_)
  obtain ⟨⟨rfl, rfl⟩, w16, h14⟩ := h14
  refine lv_pop hx hb dL_law_1316 rfl ?_
  refine lv_aload_n hx hb dL_law_1317 rfl (lv_at hl 1 rfl) ?_
  refine lv_aload_n hx hb dL_law_1318 rfl (lv_at hl 3 rfl) ?_
  refine lv_iload_n hx hb dL_law_1319 rfl (lv_at hl 0 rfl) ?_
  refine lv_iconst (v := 1) hx hb dL_law_1320 (by decide) ?_
  refine lv_iadd hx hb dL_law_1321 ?_
  refine jtopr ex10.symm ?_
  refine va_sld hx hb hX hbl hbA hS (jin tx10 (by omega) (by omega)) dL_law_1322 ?_
  refine lv_aload_n hx hb dL_law_1323 rfl (lv_at hl 3 rfl) ?_
  refine lv_iload_n hx hb dL_law_1324 rfl (lv_at hl 0 rfl) ?_
  refine lv_iconst (v := 2) hx hb dL_law_1325 (by decide) ?_
  refine lv_iadd hx hb dL_law_1326 ?_
  refine jtopr ex12.symm ?_
  refine va_sld hx hb hX hbl hbA hS (jin tx12 (by omega) (by omega)) dL_law_1327 ?_
  refine jcallV (As := [.int (xs x10.toNatClampNeg), .int (xs x12.toNatClampNeg)]) (rest := []) ⟨hx, hb, hml, hown, hts⟩ hK hP hA hS hZ (c_X12_taken l D cI cL ad zz hJ σ τ (xs x10.toNatClampNeg) ((xs x10.toNatClampNeg).toInt) rfl (xs x12.toNatClampNeg) ((xs x12.toNatClampNeg).toInt) rfl hI106 hI110) cw_RL_165 (jc_55 cI cL ad σ τ) rfl ⟨Nat.le_of_ble_eq_true rfl, Nat.le_of_ble_eq_true rfl⟩ rfl rfl rfl hl.1 rfl (Nat.le_of_ble_eq_true rfl) dL_law_1328 ⟨Nat.le_of_ble_eq_true rfl, Nat.le_of_ble_eq_true rfl⟩ (fun r18 σ17 τ17 H locs h17 hP hS => ?_)
  obtain ⟨⟨rfl, rfl⟩, w19, h17⟩ := h17
  refine lv_pop hx hb dL_law_1331 rfl ?_
  refine lv_goto (tgt := 1358) hx hb dL_law_1332 (by decide) ?_
  obtain ⟨x20, ex20⟩ : ∃ y : Int32, y = x0 + 6 := ⟨_, rfl⟩
  have tx20 : x20.toInt = x0.toInt + 6 := (jadd ex20 rfl jz_6 (by omega) (by omega)).trans (by omega)
  refine lv_iinc (v := x20) (lv' := [(3, .int x20), (2, .ref (ad 55)), (1, .ref (ad 0)), (0, .ref b)]) hx hb dL_law_1358 hl (k := 0) rfl (by rw [ex20]; rfl) (by decide) rfl (fun ls hl => ?_)
  refine lv_goto (tgt := 18) hx hb dL_law_1361 (by decide) ?_
  exact ih x20 σ τ _ _ ls (by have h9 := tx20; omega) ⟨hI2, hI9, hI12, hI16, hI18, hI22, hI31, hI38, hI43, hI47, hI50, hI101, hI102, hI103, hI104, hI105, hI106, hI107, hI109, hI110, hI111, hI119, hs_jKept, hs_jBook, (by omega), hr0, hr1⟩ hP hS (lv_sub hl [0, 1, 2, 3] rfl)
set_option maxHeartbeats 4000000 in
set_option maxRecDepth 100000 in
theorem law_case_36 {p : Program} {e : Env} {s : State} {m : MethodId} {below : List Frame} {meth : Method} {c : Code} (l : Launch) {b L : Nat} {xs : Nat → Int32} {D : va_G} {cI cL : ClassId} {ad zz : Nat → Nat} (C0 : lw_At p s m meth c b L xs) (hJ : jD ad) (hA : ∀ q, jA ad q → s.heap.size ≤ q) (hK : jK D cI cL s) (hZ : jZ zz (fun q : Nat => s.heap.size ≤ q) s s.heap) {x0 : Int32} (hx0 : 0 ≤ x0.toInt) (hxL : x0.toInt + 6 ≤ (L : Int)) (hL : L ≤ 384) {σ : Nat → Nat → Int32} {τ : Nat → Nat → Int64} {H : Heap} {locs : List Loc} (hS : va_S (fun q : Nat => s.heap.size ≤ q) s.heap H locs) {ls : Array Slot} (hAll : jAll σ τ) (hP : jH D cI cL ad σ τ H) (hl : lv_has ls 4 [(3, .int x0), (2, .ref (ad 55)), (1, .ref (ad 0)), (0, .ref b)]) (ih : ∀ (x1 : Int32) (σ : Nat → Nat → Int32) (τ : Nat → Nat → Int64) (H : Heap) (locs : List Loc) (ls : Array Slot), x1.toInt = x0.toInt + 6 → jAll σ τ → jH D cI cL ad σ τ H → va_S (fun q : Nat => s.heap.size ≤ q) s.heap H locs → lv_has ls 4 [(3, .int x1), (2, .ref (ad 55)), (1, .ref (ad 0)), (0, .ref b)] → W p l e room_1 s m #[Value.ref b] below meth c H locs 90 348600 (lw_Z below #[Value.ref b] s) (F0 m 18 ls [])) : W p l e room_1 s m #[Value.ref b] below meth c H locs 90 348600 (lw_Z below #[Value.ref b] s) (F0 m 1335 ls []) := by
  obtain ⟨hx, hb, hr, hml, hown, hts0, hX, hbl, hlocks, hgv⟩ := C0
  have hts : ∀ w ∈ wsL_law, w.before #[Value.ref b] s = true := fun w h => hts0 w (wsL_law_in w h)
  have hbA : ¬ (fun q : Nat => s.heap.size ≤ q) b := Nat.not_le.mpr hbl
  have hown : s.vm.findClass RL = some m.cls := hown
  obtain ⟨hI2, hI9, hI12, hI16, hI18, hI22, hI31, hI38, hI43, hI47, hI50, hI101, hI102, hI103, hI104, hI105, hI106, hI107, hI109, hI110, hI111, hI119, hs_jKept, hs_jBook, ht0, hr0, hr1⟩ := hAll
  have hL9 : (L : Int) ≤ 384 := by omega
  obtain ⟨i1, i2, w3⟩ : (0 ≤ (σ 38 0).toInt ∧ (σ 38 0).toInt ≤ 20) ∧ (0 ≤ (σ 38 1).toInt ∧ (σ 38 1).toInt ≤ 1000) ∧ (∀ k : Nat, k < 20 → 0 ≤ (σ 39 k).toInt ∧ (σ 39 k).toInt ≤ 6) := id hI38
  have w4 : ∀ k : Nat, k < 6 → 0 ≤ (σ 52 k).toInt ∧ (σ 52 k).toInt ≤ 60 := hI50
  obtain ⟨i5, w6, w7, w8⟩ : (0 ≤ (σ 55 32).toInt ∧ (σ 55 32).toInt ≤ 20) ∧ (∀ k : Nat, k < 20 → 0 ≤ (σ 70 k).toInt ∧ (σ 70 k).toInt ≤ 6) ∧ (∀ k : Nat, k < 20 → 0 ≤ (σ 71 k).toInt ∧ (σ 71 k).toInt ≤ 8) ∧ (∀ k : Nat, k < 160 → 0 ≤ (σ 72 k).toInt ∧ (σ 72 k).toInt ≤ 3) := id hI106
  refine lv_aload_n hx hb dL_law_1335 rfl (lv_at hl 2 rfl) ?_
  refine lv_aload_n hx hb dL_law_1336 rfl (lv_at hl 3 rfl) ?_
  refine lv_iload_n hx hb dL_law_1337 rfl (lv_at hl 0 rfl) ?_
  refine lv_iconst (v := 1) hx hb dL_law_1338 (by decide) ?_
  have g9 := jrg (rfl : x0.toInt = x0.toInt)
  refine lv_iadd hx hb dL_law_1339 ?_
  refine lv_topi (fun x10 ex10 => ?_)
  have tx10 : x10.toInt = x0.toInt + 1 := (jadd ex10 rfl jz_1 (by omega) (by omega)).trans (by omega)
  refine va_sld hx hb hX hbl hbA hS (jin tx10 (by omega) (by omega)) dL_law_1340 ?_
  have g11 := jrg (rfl : (xs x10.toNatClampNeg).toInt = (xs x10.toNatClampNeg).toInt)
  refine jcallV (As := [.int (xs x10.toNatClampNeg)]) (rest := []) ⟨hx, hb, hml, hown, hts⟩ hK hP hA hS hZ (c_X11_count l D cI cL ad zz hJ σ τ (xs x10.toNatClampNeg) ((xs x10.toNatClampNeg).toInt) rfl hI2 hI9 hI38 hI47) cw_RL_166 (jc_0 cI cL ad σ τ) rfl ⟨Nat.le_of_ble_eq_true rfl, Nat.le_of_ble_eq_true rfl⟩ rfl rfl rfl hl.1 rfl (Nat.le_of_ble_eq_true rfl) dL_law_1341 ⟨Nat.le_of_ble_eq_true rfl, Nat.le_of_ble_eq_true rfl⟩ (fun r13 σ12 τ12 H locs h12 hP hS => ?_)
  obtain ⟨⟨rfl, rfl⟩, h12⟩ := h12
  rcases h12 with h14 | h15 | h16 | h17 | h18 | h19 | h20
  · obtain ⟨q23, k21, k22⟩ := h14
    refine lv_pop hx hb dL_law_1344 rfl ?_
    refine lv_aload_n hx hb dL_law_1345 rfl (lv_at hl 1 rfl) ?_
    refine lv_aload_n hx hb dL_law_1346 rfl (lv_at hl 3 rfl) ?_
    refine lv_iload_n hx hb dL_law_1347 rfl (lv_at hl 0 rfl) ?_
    refine lv_iconst (v := 1) hx hb dL_law_1348 (by decide) ?_
    refine lv_iadd hx hb dL_law_1349 ?_
    refine jtopr ex10.symm ?_
    refine va_sld hx hb hX hbl hbA hS (jin tx10 (by omega) (by omega)) dL_law_1350 ?_
    refine jcallV (As := [.int (xs x10.toNatClampNeg)]) (rest := []) ⟨hx, hb, hml, hown, hts⟩ hK hP hA hS hZ (c_X12_count l D cI cL ad zz hJ σ τ (xs x10.toNatClampNeg) ((xs x10.toNatClampNeg).toInt) rfl hI101 hI102 hI105 hI106 hI107) cw_RL_169 (jc_55 cI cL ad σ τ) rfl ⟨Nat.le_of_ble_eq_true rfl, Nat.le_of_ble_eq_true rfl⟩ rfl rfl rfl hl.1 rfl (Nat.le_of_ble_eq_true rfl) dL_law_1351 ⟨Nat.le_of_ble_eq_true rfl, Nat.le_of_ble_eq_true rfl⟩ (fun r25 σ24 τ24 H locs h24 hP hS => ?_)
    obtain ⟨⟨rfl, rfl⟩, h24⟩ := h24
    rcases h24 with h26 | h27 | h28 | h29 | h30 | h31 | h32
    · obtain ⟨q35, k33, k34⟩ := h26
      refine lv_pop hx hb dL_law_1354 rfl ?_
      refine lv_goto (tgt := 1358) hx hb dL_law_1355 (by decide) ?_
      obtain ⟨x36, ex36⟩ : ∃ y : Int32, y = x0 + 6 := ⟨_, rfl⟩
      have tx36 : x36.toInt = x0.toInt + 6 := (jadd ex36 rfl jz_6 (by omega) (by omega)).trans (by omega)
      refine lv_iinc (v := x36) (lv' := [(3, .int x36), (2, .ref (ad 55)), (1, .ref (ad 0)), (0, .ref b)]) hx hb dL_law_1358 hl (k := 0) rfl (by rw [ex36]; rfl) (by decide) rfl (fun ls hl => ?_)
      refine lv_goto (tgt := 18) hx hb dL_law_1361 (by decide) ?_
      exact ih x36 σ τ _ _ ls (by have h9 := tx36; omega) ⟨hI2, hI9, hI12, hI16, hI18, hI22, hI31, hI38, hI43, hI47, hI50, hI101, hI102, hI103, hI104, hI105, hI106, hI107, hI109, hI110, hI111, hI119, hs_jKept, hs_jBook, (by omega), hr0, hr1⟩ hP hS (lv_sub hl [0, 1, 2, 3] rfl)
    · obtain ⟨q39, k37, k38⟩ := h27
      exact absurd (by omega : False) id
    · obtain ⟨q42, k40, k41⟩ := h28
      exact absurd (by omega : False) id
    · obtain ⟨q45, k43, k44⟩ := h29
      exact absurd (by omega : False) id
    · obtain ⟨q48, k46, k47⟩ := h30
      exact absurd (by omega : False) id
    · obtain ⟨q51, k49, k50⟩ := h31
      exact absurd (by omega : False) id
    · obtain ⟨q53, k52⟩ := h32
      exact absurd (by omega : False) id
  · obtain ⟨q56, k54, k55⟩ := h15
    refine lv_pop hx hb dL_law_1344 rfl ?_
    refine lv_aload_n hx hb dL_law_1345 rfl (lv_at hl 1 rfl) ?_
    refine lv_aload_n hx hb dL_law_1346 rfl (lv_at hl 3 rfl) ?_
    refine lv_iload_n hx hb dL_law_1347 rfl (lv_at hl 0 rfl) ?_
    refine lv_iconst (v := 1) hx hb dL_law_1348 (by decide) ?_
    refine lv_iadd hx hb dL_law_1349 ?_
    refine jtopr ex10.symm ?_
    refine va_sld hx hb hX hbl hbA hS (jin tx10 (by omega) (by omega)) dL_law_1350 ?_
    refine jcallV (As := [.int (xs x10.toNatClampNeg)]) (rest := []) ⟨hx, hb, hml, hown, hts⟩ hK hP hA hS hZ (c_X12_count l D cI cL ad zz hJ σ τ (xs x10.toNatClampNeg) ((xs x10.toNatClampNeg).toInt) rfl hI101 hI102 hI105 hI106 hI107) cw_RL_169 (jc_55 cI cL ad σ τ) rfl ⟨Nat.le_of_ble_eq_true rfl, Nat.le_of_ble_eq_true rfl⟩ rfl rfl rfl hl.1 rfl (Nat.le_of_ble_eq_true rfl) dL_law_1351 ⟨Nat.le_of_ble_eq_true rfl, Nat.le_of_ble_eq_true rfl⟩ (fun r58 σ57 τ57 H locs h57 hP hS => ?_)
    obtain ⟨⟨rfl, rfl⟩, h57⟩ := h57
    rcases h57 with h59 | h60 | h61 | h62 | h63 | h64 | h65
    · obtain ⟨q68, k66, k67⟩ := h59
      exact absurd (by omega : False) id
    · obtain ⟨q71, k69, k70⟩ := h60
      refine lv_pop hx hb dL_law_1354 rfl ?_
      refine lv_goto (tgt := 1358) hx hb dL_law_1355 (by decide) ?_
      obtain ⟨x72, ex72⟩ : ∃ y : Int32, y = x0 + 6 := ⟨_, rfl⟩
      have tx72 : x72.toInt = x0.toInt + 6 := (jadd ex72 rfl jz_6 (by omega) (by omega)).trans (by omega)
      refine lv_iinc (v := x72) (lv' := [(3, .int x72), (2, .ref (ad 55)), (1, .ref (ad 0)), (0, .ref b)]) hx hb dL_law_1358 hl (k := 0) rfl (by rw [ex72]; rfl) (by decide) rfl (fun ls hl => ?_)
      refine lv_goto (tgt := 18) hx hb dL_law_1361 (by decide) ?_
      exact ih x72 σ τ _ _ ls (by have h9 := tx72; omega) ⟨hI2, hI9, hI12, hI16, hI18, hI22, hI31, hI38, hI43, hI47, hI50, hI101, hI102, hI103, hI104, hI105, hI106, hI107, hI109, hI110, hI111, hI119, hs_jKept, hs_jBook, (by omega), hr0, hr1⟩ hP hS (lv_sub hl [0, 1, 2, 3] rfl)
    · obtain ⟨q75, k73, k74⟩ := h61
      exact absurd (by omega : False) id
    · obtain ⟨q78, k76, k77⟩ := h62
      exact absurd (by omega : False) id
    · obtain ⟨q81, k79, k80⟩ := h63
      exact absurd (by omega : False) id
    · obtain ⟨q84, k82, k83⟩ := h64
      exact absurd (by omega : False) id
    · obtain ⟨q86, k85⟩ := h65
      exact absurd (by omega : False) id
  · obtain ⟨q89, k87, k88⟩ := h16
    refine lv_pop hx hb dL_law_1344 rfl ?_
    refine lv_aload_n hx hb dL_law_1345 rfl (lv_at hl 1 rfl) ?_
    refine lv_aload_n hx hb dL_law_1346 rfl (lv_at hl 3 rfl) ?_
    refine lv_iload_n hx hb dL_law_1347 rfl (lv_at hl 0 rfl) ?_
    refine lv_iconst (v := 1) hx hb dL_law_1348 (by decide) ?_
    refine lv_iadd hx hb dL_law_1349 ?_
    refine jtopr ex10.symm ?_
    refine va_sld hx hb hX hbl hbA hS (jin tx10 (by omega) (by omega)) dL_law_1350 ?_
    refine jcallV (As := [.int (xs x10.toNatClampNeg)]) (rest := []) ⟨hx, hb, hml, hown, hts⟩ hK hP hA hS hZ (c_X12_count l D cI cL ad zz hJ σ τ (xs x10.toNatClampNeg) ((xs x10.toNatClampNeg).toInt) rfl hI101 hI102 hI105 hI106 hI107) cw_RL_169 (jc_55 cI cL ad σ τ) rfl ⟨Nat.le_of_ble_eq_true rfl, Nat.le_of_ble_eq_true rfl⟩ rfl rfl rfl hl.1 rfl (Nat.le_of_ble_eq_true rfl) dL_law_1351 ⟨Nat.le_of_ble_eq_true rfl, Nat.le_of_ble_eq_true rfl⟩ (fun r91 σ90 τ90 H locs h90 hP hS => ?_)
    obtain ⟨⟨rfl, rfl⟩, h90⟩ := h90
    rcases h90 with h92 | h93 | h94 | h95 | h96 | h97 | h98
    · obtain ⟨q101, k99, k100⟩ := h92
      exact absurd (by omega : False) id
    · obtain ⟨q104, k102, k103⟩ := h93
      exact absurd (by omega : False) id
    · obtain ⟨q107, k105, k106⟩ := h94
      refine lv_pop hx hb dL_law_1354 rfl ?_
      refine lv_goto (tgt := 1358) hx hb dL_law_1355 (by decide) ?_
      obtain ⟨x108, ex108⟩ : ∃ y : Int32, y = x0 + 6 := ⟨_, rfl⟩
      have tx108 : x108.toInt = x0.toInt + 6 := (jadd ex108 rfl jz_6 (by omega) (by omega)).trans (by omega)
      refine lv_iinc (v := x108) (lv' := [(3, .int x108), (2, .ref (ad 55)), (1, .ref (ad 0)), (0, .ref b)]) hx hb dL_law_1358 hl (k := 0) rfl (by rw [ex108]; rfl) (by decide) rfl (fun ls hl => ?_)
      refine lv_goto (tgt := 18) hx hb dL_law_1361 (by decide) ?_
      exact ih x108 σ τ _ _ ls (by have h9 := tx108; omega) ⟨hI2, hI9, hI12, hI16, hI18, hI22, hI31, hI38, hI43, hI47, hI50, hI101, hI102, hI103, hI104, hI105, hI106, hI107, hI109, hI110, hI111, hI119, hs_jKept, hs_jBook, (by omega), hr0, hr1⟩ hP hS (lv_sub hl [0, 1, 2, 3] rfl)
    · obtain ⟨q111, k109, k110⟩ := h95
      exact absurd (by omega : False) id
    · obtain ⟨q114, k112, k113⟩ := h96
      exact absurd (by omega : False) id
    · obtain ⟨q117, k115, k116⟩ := h97
      exact absurd (by omega : False) id
    · obtain ⟨q119, k118⟩ := h98
      exact absurd (by omega : False) id
  · obtain ⟨q122, k120, k121⟩ := h17
    refine lv_pop hx hb dL_law_1344 rfl ?_
    refine lv_aload_n hx hb dL_law_1345 rfl (lv_at hl 1 rfl) ?_
    refine lv_aload_n hx hb dL_law_1346 rfl (lv_at hl 3 rfl) ?_
    refine lv_iload_n hx hb dL_law_1347 rfl (lv_at hl 0 rfl) ?_
    refine lv_iconst (v := 1) hx hb dL_law_1348 (by decide) ?_
    refine lv_iadd hx hb dL_law_1349 ?_
    refine jtopr ex10.symm ?_
    refine va_sld hx hb hX hbl hbA hS (jin tx10 (by omega) (by omega)) dL_law_1350 ?_
    refine jcallV (As := [.int (xs x10.toNatClampNeg)]) (rest := []) ⟨hx, hb, hml, hown, hts⟩ hK hP hA hS hZ (c_X12_count l D cI cL ad zz hJ σ τ (xs x10.toNatClampNeg) ((xs x10.toNatClampNeg).toInt) rfl hI101 hI102 hI105 hI106 hI107) cw_RL_169 (jc_55 cI cL ad σ τ) rfl ⟨Nat.le_of_ble_eq_true rfl, Nat.le_of_ble_eq_true rfl⟩ rfl rfl rfl hl.1 rfl (Nat.le_of_ble_eq_true rfl) dL_law_1351 ⟨Nat.le_of_ble_eq_true rfl, Nat.le_of_ble_eq_true rfl⟩ (fun r124 σ123 τ123 H locs h123 hP hS => ?_)
    obtain ⟨⟨rfl, rfl⟩, h123⟩ := h123
    rcases h123 with h125 | h126 | h127 | h128 | h129 | h130 | h131
    · obtain ⟨q134, k132, k133⟩ := h125
      exact absurd (by omega : False) id
    · obtain ⟨q137, k135, k136⟩ := h126
      exact absurd (by omega : False) id
    · obtain ⟨q140, k138, k139⟩ := h127
      exact absurd (by omega : False) id
    · obtain ⟨q143, k141, k142⟩ := h128
      refine lv_pop hx hb dL_law_1354 rfl ?_
      refine lv_goto (tgt := 1358) hx hb dL_law_1355 (by decide) ?_
      obtain ⟨x144, ex144⟩ : ∃ y : Int32, y = x0 + 6 := ⟨_, rfl⟩
      have tx144 : x144.toInt = x0.toInt + 6 := (jadd ex144 rfl jz_6 (by omega) (by omega)).trans (by omega)
      refine lv_iinc (v := x144) (lv' := [(3, .int x144), (2, .ref (ad 55)), (1, .ref (ad 0)), (0, .ref b)]) hx hb dL_law_1358 hl (k := 0) rfl (by rw [ex144]; rfl) (by decide) rfl (fun ls hl => ?_)
      refine lv_goto (tgt := 18) hx hb dL_law_1361 (by decide) ?_
      exact ih x144 σ τ _ _ ls (by have h9 := tx144; omega) ⟨hI2, hI9, hI12, hI16, hI18, hI22, hI31, hI38, hI43, hI47, hI50, hI101, hI102, hI103, hI104, hI105, hI106, hI107, hI109, hI110, hI111, hI119, hs_jKept, hs_jBook, (by omega), hr0, hr1⟩ hP hS (lv_sub hl [0, 1, 2, 3] rfl)
    · obtain ⟨q147, k145, k146⟩ := h129
      exact absurd (by omega : False) id
    · obtain ⟨q150, k148, k149⟩ := h130
      exact absurd (by omega : False) id
    · obtain ⟨q152, k151⟩ := h131
      exact absurd (by omega : False) id
  · obtain ⟨q155, k153, k154⟩ := h18
    refine lv_pop hx hb dL_law_1344 rfl ?_
    refine lv_aload_n hx hb dL_law_1345 rfl (lv_at hl 1 rfl) ?_
    refine lv_aload_n hx hb dL_law_1346 rfl (lv_at hl 3 rfl) ?_
    refine lv_iload_n hx hb dL_law_1347 rfl (lv_at hl 0 rfl) ?_
    refine lv_iconst (v := 1) hx hb dL_law_1348 (by decide) ?_
    refine lv_iadd hx hb dL_law_1349 ?_
    refine jtopr ex10.symm ?_
    refine va_sld hx hb hX hbl hbA hS (jin tx10 (by omega) (by omega)) dL_law_1350 ?_
    refine jcallV (As := [.int (xs x10.toNatClampNeg)]) (rest := []) ⟨hx, hb, hml, hown, hts⟩ hK hP hA hS hZ (c_X12_count l D cI cL ad zz hJ σ τ (xs x10.toNatClampNeg) ((xs x10.toNatClampNeg).toInt) rfl hI101 hI102 hI105 hI106 hI107) cw_RL_169 (jc_55 cI cL ad σ τ) rfl ⟨Nat.le_of_ble_eq_true rfl, Nat.le_of_ble_eq_true rfl⟩ rfl rfl rfl hl.1 rfl (Nat.le_of_ble_eq_true rfl) dL_law_1351 ⟨Nat.le_of_ble_eq_true rfl, Nat.le_of_ble_eq_true rfl⟩ (fun r157 σ156 τ156 H locs h156 hP hS => ?_)
    obtain ⟨⟨rfl, rfl⟩, h156⟩ := h156
    rcases h156 with h158 | h159 | h160 | h161 | h162 | h163 | h164
    · obtain ⟨q167, k165, k166⟩ := h158
      exact absurd (by omega : False) id
    · obtain ⟨q170, k168, k169⟩ := h159
      exact absurd (by omega : False) id
    · obtain ⟨q173, k171, k172⟩ := h160
      exact absurd (by omega : False) id
    · obtain ⟨q176, k174, k175⟩ := h161
      exact absurd (by omega : False) id
    · obtain ⟨q179, k177, k178⟩ := h162
      refine lv_pop hx hb dL_law_1354 rfl ?_
      refine lv_goto (tgt := 1358) hx hb dL_law_1355 (by decide) ?_
      obtain ⟨x180, ex180⟩ : ∃ y : Int32, y = x0 + 6 := ⟨_, rfl⟩
      have tx180 : x180.toInt = x0.toInt + 6 := (jadd ex180 rfl jz_6 (by omega) (by omega)).trans (by omega)
      refine lv_iinc (v := x180) (lv' := [(3, .int x180), (2, .ref (ad 55)), (1, .ref (ad 0)), (0, .ref b)]) hx hb dL_law_1358 hl (k := 0) rfl (by rw [ex180]; rfl) (by decide) rfl (fun ls hl => ?_)
      refine lv_goto (tgt := 18) hx hb dL_law_1361 (by decide) ?_
      exact ih x180 σ τ _ _ ls (by have h9 := tx180; omega) ⟨hI2, hI9, hI12, hI16, hI18, hI22, hI31, hI38, hI43, hI47, hI50, hI101, hI102, hI103, hI104, hI105, hI106, hI107, hI109, hI110, hI111, hI119, hs_jKept, hs_jBook, (by omega), hr0, hr1⟩ hP hS (lv_sub hl [0, 1, 2, 3] rfl)
    · obtain ⟨q183, k181, k182⟩ := h163
      exact absurd (by omega : False) id
    · obtain ⟨q185, k184⟩ := h164
      exact absurd (by omega : False) id
  · obtain ⟨q188, k186, k187⟩ := h19
    refine lv_pop hx hb dL_law_1344 rfl ?_
    refine lv_aload_n hx hb dL_law_1345 rfl (lv_at hl 1 rfl) ?_
    refine lv_aload_n hx hb dL_law_1346 rfl (lv_at hl 3 rfl) ?_
    refine lv_iload_n hx hb dL_law_1347 rfl (lv_at hl 0 rfl) ?_
    refine lv_iconst (v := 1) hx hb dL_law_1348 (by decide) ?_
    refine lv_iadd hx hb dL_law_1349 ?_
    refine jtopr ex10.symm ?_
    refine va_sld hx hb hX hbl hbA hS (jin tx10 (by omega) (by omega)) dL_law_1350 ?_
    refine jcallV (As := [.int (xs x10.toNatClampNeg)]) (rest := []) ⟨hx, hb, hml, hown, hts⟩ hK hP hA hS hZ (c_X12_count l D cI cL ad zz hJ σ τ (xs x10.toNatClampNeg) ((xs x10.toNatClampNeg).toInt) rfl hI101 hI102 hI105 hI106 hI107) cw_RL_169 (jc_55 cI cL ad σ τ) rfl ⟨Nat.le_of_ble_eq_true rfl, Nat.le_of_ble_eq_true rfl⟩ rfl rfl rfl hl.1 rfl (Nat.le_of_ble_eq_true rfl) dL_law_1351 ⟨Nat.le_of_ble_eq_true rfl, Nat.le_of_ble_eq_true rfl⟩ (fun r190 σ189 τ189 H locs h189 hP hS => ?_)
    obtain ⟨⟨rfl, rfl⟩, h189⟩ := h189
    rcases h189 with h191 | h192 | h193 | h194 | h195 | h196 | h197
    · obtain ⟨q200, k198, k199⟩ := h191
      exact absurd (by omega : False) id
    · obtain ⟨q203, k201, k202⟩ := h192
      exact absurd (by omega : False) id
    · obtain ⟨q206, k204, k205⟩ := h193
      exact absurd (by omega : False) id
    · obtain ⟨q209, k207, k208⟩ := h194
      exact absurd (by omega : False) id
    · obtain ⟨q212, k210, k211⟩ := h195
      exact absurd (by omega : False) id
    · obtain ⟨q215, k213, k214⟩ := h196
      refine lv_pop hx hb dL_law_1354 rfl ?_
      refine lv_goto (tgt := 1358) hx hb dL_law_1355 (by decide) ?_
      obtain ⟨x216, ex216⟩ : ∃ y : Int32, y = x0 + 6 := ⟨_, rfl⟩
      have tx216 : x216.toInt = x0.toInt + 6 := (jadd ex216 rfl jz_6 (by omega) (by omega)).trans (by omega)
      refine lv_iinc (v := x216) (lv' := [(3, .int x216), (2, .ref (ad 55)), (1, .ref (ad 0)), (0, .ref b)]) hx hb dL_law_1358 hl (k := 0) rfl (by rw [ex216]; rfl) (by decide) rfl (fun ls hl => ?_)
      refine lv_goto (tgt := 18) hx hb dL_law_1361 (by decide) ?_
      exact ih x216 σ τ _ _ ls (by have h9 := tx216; omega) ⟨hI2, hI9, hI12, hI16, hI18, hI22, hI31, hI38, hI43, hI47, hI50, hI101, hI102, hI103, hI104, hI105, hI106, hI107, hI109, hI110, hI111, hI119, hs_jKept, hs_jBook, (by omega), hr0, hr1⟩ hP hS (lv_sub hl [0, 1, 2, 3] rfl)
    · obtain ⟨q218, k217⟩ := h197
      exact absurd (by omega : False) id
  · obtain ⟨q220, k219⟩ := h20
    have q220 := q220.symm
    subst q220
    refine lv_pop hx hb dL_law_1344 rfl ?_
    refine lv_aload_n hx hb dL_law_1345 rfl (lv_at hl 1 rfl) ?_
    refine lv_aload_n hx hb dL_law_1346 rfl (lv_at hl 3 rfl) ?_
    refine lv_iload_n hx hb dL_law_1347 rfl (lv_at hl 0 rfl) ?_
    refine lv_iconst (v := 1) hx hb dL_law_1348 (by decide) ?_
    refine lv_iadd hx hb dL_law_1349 ?_
    refine jtopr ex10.symm ?_
    refine va_sld hx hb hX hbl hbA hS (jin tx10 (by omega) (by omega)) dL_law_1350 ?_
    refine jcallV (As := [.int (xs x10.toNatClampNeg)]) (rest := []) ⟨hx, hb, hml, hown, hts⟩ hK hP hA hS hZ (c_X12_count l D cI cL ad zz hJ σ τ (xs x10.toNatClampNeg) ((xs x10.toNatClampNeg).toInt) rfl hI101 hI102 hI105 hI106 hI107) cw_RL_169 (jc_55 cI cL ad σ τ) rfl ⟨Nat.le_of_ble_eq_true rfl, Nat.le_of_ble_eq_true rfl⟩ rfl rfl rfl hl.1 rfl (Nat.le_of_ble_eq_true rfl) dL_law_1351 ⟨Nat.le_of_ble_eq_true rfl, Nat.le_of_ble_eq_true rfl⟩ (fun r222 σ221 τ221 H locs h221 hP hS => ?_)
    obtain ⟨⟨rfl, rfl⟩, h221⟩ := h221
    rcases h221 with h223 | h224 | h225 | h226 | h227 | h228 | h229
    · obtain ⟨q232, k230, k231⟩ := h223
      exact absurd (by omega : False) id
    · obtain ⟨q235, k233, k234⟩ := h224
      exact absurd (by omega : False) id
    · obtain ⟨q238, k236, k237⟩ := h225
      exact absurd (by omega : False) id
    · obtain ⟨q241, k239, k240⟩ := h226
      exact absurd (by omega : False) id
    · obtain ⟨q244, k242, k243⟩ := h227
      exact absurd (by omega : False) id
    · obtain ⟨q247, k245, k246⟩ := h228
      exact absurd (by omega : False) id
    · obtain ⟨q249, k248⟩ := h229
      have q249 := q249.symm
      subst q249
      refine lv_pop hx hb dL_law_1354 rfl ?_
      refine lv_goto (tgt := 1358) hx hb dL_law_1355 (by decide) ?_
      obtain ⟨x250, ex250⟩ : ∃ y : Int32, y = x0 + 6 := ⟨_, rfl⟩
      have tx250 : x250.toInt = x0.toInt + 6 := (jadd ex250 rfl jz_6 (by omega) (by omega)).trans (by omega)
      refine lv_iinc (v := x250) (lv' := [(3, .int x250), (2, .ref (ad 55)), (1, .ref (ad 0)), (0, .ref b)]) hx hb dL_law_1358 hl (k := 0) rfl (by rw [ex250]; rfl) (by decide) rfl (fun ls hl => ?_)
      refine lv_goto (tgt := 18) hx hb dL_law_1361 (by decide) ?_
      exact ih x250 σ τ _ _ ls (by have h9 := tx250; omega) ⟨hI2, hI9, hI12, hI16, hI18, hI22, hI31, hI38, hI43, hI47, hI50, hI101, hI102, hI103, hI104, hI105, hI106, hI107, hI109, hI110, hI111, hI119, hs_jKept, hs_jBook, (by omega), hr0, hr1⟩ hP hS (lv_sub hl [0, 1, 2, 3] rfl)
set_option maxHeartbeats 4000000 in
set_option maxRecDepth 100000 in
theorem law_case_37 {p : Program} {e : Env} {s : State} {m : MethodId} {below : List Frame} {meth : Method} {c : Code} (l : Launch) {b L : Nat} {xs : Nat → Int32} {D : va_G} {cI cL : ClassId} {ad zz : Nat → Nat} (C0 : lw_At p s m meth c b L xs) (hJ : jD ad) (hA : ∀ q, jA ad q → s.heap.size ≤ q) (hK : jK D cI cL s) (hZ : jZ zz (fun q : Nat => s.heap.size ≤ q) s s.heap) {x0 : Int32} (hx0 : 0 ≤ x0.toInt) (hxL : x0.toInt + 6 ≤ (L : Int)) (hL : L ≤ 384) {σ : Nat → Nat → Int32} {τ : Nat → Nat → Int64} {H : Heap} {locs : List Loc} (hS : va_S (fun q : Nat => s.heap.size ≤ q) s.heap H locs) {ls : Array Slot} (hAll : jAll σ τ) (hP : jH D cI cL ad σ τ H) (hl : lv_has ls 4 [(3, .int x0), (2, .ref (ad 55)), (1, .ref (ad 0)), (0, .ref b)]) (ih : ∀ (x1 : Int32) (σ : Nat → Nat → Int32) (τ : Nat → Nat → Int64) (H : Heap) (locs : List Loc) (ls : Array Slot), x1.toInt = x0.toInt + 6 → jAll σ τ → jH D cI cL ad σ τ H → va_S (fun q : Nat => s.heap.size ≤ q) s.heap H locs → lv_has ls 4 [(3, .int x1), (2, .ref (ad 55)), (1, .ref (ad 0)), (0, .ref b)] → W p l e room_1 s m #[Value.ref b] below meth c H locs 90 348600 (lw_Z below #[Value.ref b] s) (F0 m 18 ls [])) : W p l e room_1 s m #[Value.ref b] below meth c H locs 90 348600 (lw_Z below #[Value.ref b] s) (F0 m 1358 ls []) := by
  obtain ⟨hx, hb, hr, hml, hown, hts0, hX, hbl, hlocks, hgv⟩ := C0
  have hts : ∀ w ∈ wsL_law, w.before #[Value.ref b] s = true := fun w h => hts0 w (wsL_law_in w h)
  have hbA : ¬ (fun q : Nat => s.heap.size ≤ q) b := Nat.not_le.mpr hbl
  have hown : s.vm.findClass RL = some m.cls := hown
  obtain ⟨hI2, hI9, hI12, hI16, hI18, hI22, hI31, hI38, hI43, hI47, hI50, hI101, hI102, hI103, hI104, hI105, hI106, hI107, hI109, hI110, hI111, hI119, hs_jKept, hs_jBook, ht0, hr0, hr1⟩ := hAll
  have hL9 : (L : Int) ≤ 384 := by omega
  obtain ⟨i1, i2, w3⟩ : (0 ≤ (σ 38 0).toInt ∧ (σ 38 0).toInt ≤ 20) ∧ (0 ≤ (σ 38 1).toInt ∧ (σ 38 1).toInt ≤ 1000) ∧ (∀ k : Nat, k < 20 → 0 ≤ (σ 39 k).toInt ∧ (σ 39 k).toInt ≤ 6) := id hI38
  have w4 : ∀ k : Nat, k < 6 → 0 ≤ (σ 52 k).toInt ∧ (σ 52 k).toInt ≤ 60 := hI50
  obtain ⟨i5, w6, w7, w8⟩ : (0 ≤ (σ 55 32).toInt ∧ (σ 55 32).toInt ≤ 20) ∧ (∀ k : Nat, k < 20 → 0 ≤ (σ 70 k).toInt ∧ (σ 70 k).toInt ≤ 6) ∧ (∀ k : Nat, k < 20 → 0 ≤ (σ 71 k).toInt ∧ (σ 71 k).toInt ≤ 8) ∧ (∀ k : Nat, k < 160 → 0 ≤ (σ 72 k).toInt ∧ (σ 72 k).toInt ≤ 3) := id hI106
  obtain ⟨x9, ex9⟩ : ∃ y : Int32, y = x0 + 6 := ⟨_, rfl⟩
  have tx9 : x9.toInt = x0.toInt + 6 := (jadd ex9 rfl jz_6 (by omega) (by omega)).trans (by omega)
  refine lv_iinc (v := x9) (lv' := [(3, .int x9), (2, .ref (ad 55)), (1, .ref (ad 0)), (0, .ref b)]) hx hb dL_law_1358 hl (k := 0) rfl (by rw [ex9]; rfl) (by decide) rfl (fun ls hl => ?_)
  refine lv_goto (tgt := 18) hx hb dL_law_1361 (by decide) ?_
  exact ih x9 σ τ _ _ ls (by have h9 := tx9; omega) ⟨hI2, hI9, hI12, hI16, hI18, hI22, hI31, hI38, hI43, hI47, hI50, hI101, hI102, hI103, hI104, hI105, hI106, hI107, hI109, hI110, hI111, hI119, hs_jKept, hs_jBook, (by omega), hr0, hr1⟩ hP hS (lv_sub hl [0, 1, 2, 3] rfl)
