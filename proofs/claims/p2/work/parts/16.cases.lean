set_option maxHeartbeats 4000000 in
set_option maxRecDepth 100000 in
theorem law_case_19 {p : Program} {e : Env} {s : State} {m : MethodId} {below : List Frame} {meth : Method} {c : Code} (l : Launch) {b L : Nat} {xs : Nat → Int32} {D : va_G} {cI cL : ClassId} {ad zz : Nat → Nat} (C0 : lw_At p s m meth c b L xs) (hJ : jD ad) (hA : ∀ q, jA ad q → s.heap.size ≤ q) (hK : jK D cI cL s) (hZ : jZ zz (fun q : Nat => s.heap.size ≤ q) s s.heap) {x0 : Int32} (hx0 : 0 ≤ x0.toInt) (hxL : x0.toInt + 6 ≤ (L : Int)) (hL : L ≤ 384) {σ : Nat → Nat → Int32} {τ : Nat → Nat → Int64} {H : Heap} {locs : List Loc} (hS : va_S (fun q : Nat => s.heap.size ≤ q) s.heap H locs) {ls : Array Slot} (hAll : jAll σ τ) (hP : jH D cI cL ad σ τ H) (hl : lv_has ls 4 [(3, .int x0), (2, .ref (ad 55)), (1, .ref (ad 0)), (0, .ref b)]) (ih : ∀ (x1 : Int32) (σ : Nat → Nat → Int32) (τ : Nat → Nat → Int64) (H : Heap) (locs : List Loc) (ls : Array Slot), x1.toInt = x0.toInt + 6 → jAll σ τ → jH D cI cL ad σ τ H → va_S (fun q : Nat => s.heap.size ≤ q) s.heap H locs → lv_has ls 4 [(3, .int x1), (2, .ref (ad 55)), (1, .ref (ad 0)), (0, .ref b)] → W p l e room_1 s m #[Value.ref b] below meth c H locs 90 348600 (lw_Z below #[Value.ref b] s) (F0 m 18 ls [])) : W p l e room_1 s m #[Value.ref b] below meth c H locs 90 348600 (lw_Z below #[Value.ref b] s) (F0 m 773 ls []) := by
  obtain ⟨hx, hb, hr, hml, hown, hts0, hX, hbl, hlocks, hgv⟩ := C0
  have hts : ∀ w ∈ wsL_law, w.before #[Value.ref b] s = true := fun w h => hts0 w (wsL_law_in w h)
  have hbA : ¬ (fun q : Nat => s.heap.size ≤ q) b := Nat.not_le.mpr hbl
  have hown : s.vm.findClass RL = some m.cls := hown
  obtain ⟨hI2, hI9, hI12, hI16, hI18, hI22, hI31, hI38, hI43, hI47, hI50, hI101, hI102, hI103, hI104, hI105, hI106, hI107, hI109, hI110, hI111, hI119, hs_jKept, hs_jBook, ht0⟩ := hAll
  have hL9 : (L : Int) ≤ 384 := by omega
  refine lv_aload_n hx hb dL_law_773 rfl (lv_at hl 2 rfl) ?_
  refine lv_aload_n hx hb dL_law_774 rfl (lv_at hl 3 rfl) ?_
  refine lv_iload_n hx hb dL_law_775 rfl (lv_at hl 0 rfl) ?_
  refine lv_iconst (v := 1) hx hb dL_law_776 (by decide) ?_
  have g1 := jrg (rfl : x0.toInt = x0.toInt)
  refine lv_iadd hx hb dL_law_777 ?_
  refine lv_topi (fun x2 ex2 => ?_)
  have tx2 : x2.toInt = x0.toInt + 1 := (jadd ex2 rfl jz_1 (by omega) (by omega)).trans (by omega)
  refine va_sld hx hb hX hbl hbA hS (jin tx2 (by omega) (by omega)) dL_law_778 ?_
  have g3 := jrg (rfl : (xs x2.toNatClampNeg).toInt = (xs x2.toNatClampNeg).toInt)
  refine lv_aload_n hx hb dL_law_779 rfl (lv_at hl 3 rfl) ?_
  refine lv_iload_n hx hb dL_law_780 rfl (lv_at hl 0 rfl) ?_
  refine lv_iconst (v := 2) hx hb dL_law_781 (by decide) ?_
  refine lv_iadd hx hb dL_law_782 ?_
  refine lv_topi (fun x4 ex4 => ?_)
  have tx4 : x4.toInt = x0.toInt + 2 := (jadd ex4 rfl jz_2 (by omega) (by omega)).trans (by omega)
  refine va_sld hx hb hX hbl hbA hS (jin tx4 (by omega) (by omega)) dL_law_783 ?_
  have g5 := jrg (rfl : (xs x4.toNatClampNeg).toInt = (xs x4.toNatClampNeg).toInt)
  refine jcallV (As := [.int (xs x2.toNatClampNeg), .int (xs x4.toNatClampNeg)]) (rest := []) ⟨hx, hb, hml, hown, hts⟩ hK hP hA hS hZ (c_X11_book l D cI cL ad zz hJ σ τ (xs x2.toNatClampNeg) ((xs x2.toNatClampNeg).toInt) rfl (xs x4.toNatClampNeg) ((xs x4.toNatClampNeg).toInt) rfl hI2 hI16 hI47) cw_RL_93 (jc_0 cI cL ad σ τ) rfl ⟨Nat.le_of_ble_eq_true rfl, Nat.le_of_ble_eq_true rfl⟩ rfl rfl rfl hl.1 rfl (Nat.le_of_ble_eq_true rfl) dL_law_784 ⟨Nat.le_of_ble_eq_true rfl, Nat.le_of_ble_eq_true rfl⟩ (fun r7 σ6 τ6 H locs h6 hP hS => ?_)
  obtain ⟨rfl, f8, f9, I10, h6⟩ := h6
  refine lv_pop hx hb dL_law_787 rfl ?_
  refine lv_aload_n hx hb dL_law_788 rfl (lv_at hl 1 rfl) ?_
  refine lv_aload_n hx hb dL_law_789 rfl (lv_at hl 3 rfl) ?_
  refine lv_iload_n hx hb dL_law_790 rfl (lv_at hl 0 rfl) ?_
  refine lv_iconst (v := 1) hx hb dL_law_791 (by decide) ?_
  refine lv_iadd hx hb dL_law_792 ?_
  refine jtopr ex2.symm ?_
  refine va_sld hx hb hX hbl hbA hS (jin tx2 (by omega) (by omega)) dL_law_793 ?_
  refine lv_aload_n hx hb dL_law_794 rfl (lv_at hl 3 rfl) ?_
  refine lv_iload_n hx hb dL_law_795 rfl (lv_at hl 0 rfl) ?_
  refine lv_iconst (v := 2) hx hb dL_law_796 (by decide) ?_
  refine lv_iadd hx hb dL_law_797 ?_
  refine jtopr ex4.symm ?_
  refine va_sld hx hb hX hbl hbA hS (jin tx4 (by omega) (by omega)) dL_law_798 ?_
  have I11 : jI102 σ6 := jI102_fr (congrFun (f8 55 (by decide)) 6) (f8 60 (by decide)) (f8 61 (by decide)) hI102
  have I12 : jI104 σ6 := jI104_fr (congrFun (f8 55 (by decide)) 10) (congrFun (f8 55 (by decide)) 12) (congrFun (f8 55 (by decide)) 13) (f8 62 (by decide)) (f8 67 (by decide)) hI104
  have I13 : jI107 σ6 := jI107_fr (congrFun (f8 55 (by decide)) 12) (congrFun (f8 55 (by decide)) 47) (f8 80 (by decide)) hI107
  have w14 : ∀ k : Nat, k < 4 → 0 ≤ (σ 68 k).toInt ∧ (σ 68 k).toInt ≤ 3 := hI119
  have w15 : ∀ k : Nat, k < 4 → 0 ≤ (σ6 68 k).toInt ∧ (σ6 68 k).toInt ≤ 3 := (jrr_fr (f8 68 (by decide)) w14)
  have p16 : jBook σ6 := jBook.fr (congrFun (f8 55 (by decide)) 47) (congrFun (f8 55 (by decide)) 10) (f8 81 (by decide)) hs_jBook
  have z17 : (σ6 55 47).toInt = (σ 55 47).toInt := (congrArg Int32.toInt (show σ6 55 47 = (σ 55 47) from (congrFun (f8 55 (by decide)) 47)))
  refine jcallV (As := [.int (xs x2.toNatClampNeg), .int (xs x4.toNatClampNeg)]) (rest := []) ⟨hx, hb, hml, hown, hts⟩ hK hP hA hS hZ (c_X12_book l D cI cL ad zz hJ σ6 τ (xs x2.toNatClampNeg) ((xs x2.toNatClampNeg).toInt) rfl (xs x4.toNatClampNeg) ((xs x4.toNatClampNeg).toInt) rfl I11 I12 I13 w15 p16) cw_RL_96 (jc_55 cI cL ad σ6 τ) rfl ⟨Nat.le_of_ble_eq_true rfl, Nat.le_of_ble_eq_true rfl⟩ rfl rfl rfl hl.1 rfl (Nat.le_of_ble_eq_true rfl) dL_law_799 ⟨Nat.le_of_ble_eq_true rfl, Nat.le_of_ble_eq_true rfl⟩ (fun r19 σ18 τ18 H locs h18 hP hS => ?_)
  obtain ⟨rfl, f20, f21, I22, w23, p24, h18⟩ := h18
  rcases h18 with h25 | h26
  · obtain ⟨q29, k27, k28⟩ := h25
    refine lv_pop hx hb dL_law_802 rfl ?_
    refine lv_goto (tgt := 1357) hx hb dL_law_803 (by decide) ?_
    obtain ⟨x30, ex30⟩ : ∃ y : Int32, y = x0 + 6 := ⟨_, rfl⟩
    have tx30 : x30.toInt = x0.toInt + 6 := (jadd ex30 rfl jz_6 (by omega) (by omega)).trans (by omega)
    refine lv_iinc (v := x30) (lv' := [(3, .int x30), (2, .ref (ad 55)), (1, .ref (ad 0)), (0, .ref b)]) hx hb dL_law_1357 hl (k := 0) rfl (by rw [ex30]; rfl) (by decide) rfl (fun ls hl => ?_)
    refine lv_goto (tgt := 18) hx hb dL_law_1360 (by decide) ?_
    have I31 : jI2 σ18 := jI2_fr ((congrFun (f20 2 (by decide)) 0).trans (congrFun (f8 2 (by decide)) 0)) ((congrFun (f20 2 (by decide)) 1).trans (congrFun (f8 2 (by decide)) 1)) ((congrFun (f20 2 (by decide)) 2).trans (congrFun (f8 2 (by decide)) 2)) ((congrFun (f20 2 (by decide)) 3).trans (congrFun (f8 2 (by decide)) 3)) ((f20 6 (by decide)).trans (f8 6 (by decide))) hI2
    have I32 : jI9 σ18 := jI9_fr ((congrFun (f20 9 (by decide)) 0).trans (congrFun (f8 9 (by decide)) 0)) ((f20 10 (by decide)).trans (f8 10 (by decide))) ((f20 11 (by decide)).trans (f8 11 (by decide))) hI9
    have I33 : jI12 σ18 := jI12_fr ((congrFun (f20 12 (by decide)) 0).trans (congrFun (f8 12 (by decide)) 0)) ((f20 13 (by decide)).trans (f8 13 (by decide))) hI12
    have I34 : jI16 σ18 := jI16_fr ((congrFun (f20 16 (by decide)) 0).trans (congrFun (f8 16 (by decide)) 0)) ((congrFun (f20 16 (by decide)) 1).trans (congrFun (f8 16 (by decide)) 1)) ((congrFun (f20 16 (by decide)) 2).trans (congrFun (f8 16 (by decide)) 2)) ((f20 17 (by decide)).trans (f8 17 (by decide))) hI16
    have I35 : jI18 σ18 := jI18_fr ((congrFun (f20 18 (by decide)) 0).trans (congrFun (f8 18 (by decide)) 0)) ((f20 19 (by decide)).trans (f8 19 (by decide))) hI18
    have I36 : jI22 σ18 := jI22_fr ((congrFun (f20 22 (by decide)) 0).trans (congrFun (f8 22 (by decide)) 0)) ((f20 23 (by decide)).trans (f8 23 (by decide))) hI22
    have I37 : jI31 σ18 := jI31_fr ((congrFun (f20 31 (by decide)) 8).trans (congrFun (f8 31 (by decide)) 8)) ((f20 33 (by decide)).trans (f8 33 (by decide))) ((f20 36 (by decide)).trans (f8 36 (by decide))) hI31
    have I38 : jI38 σ18 := jI38_fr ((congrFun (f20 38 (by decide)) 0).trans (congrFun (f8 38 (by decide)) 0)) ((congrFun (f20 38 (by decide)) 1).trans (congrFun (f8 38 (by decide)) 1)) ((f20 39 (by decide)).trans (f8 39 (by decide))) hI38
    have I39 : jI43 σ18 := jI43_fr ((congrFun (f20 43 (by decide)) 8).trans (congrFun (f8 43 (by decide)) 8)) hI43
    have I40 : jI47 σ18 := jI47_fr (congrFun (f20 47 (by decide)) 0) (f20 49 (by decide)) I10
    have I41 : jI50 σ18 := jI50_fr ((f20 52 (by decide)).trans (f8 52 (by decide))) hI50
    have I42 : jI101 σ18 := jI101_fr ((f21 4 (by decide)).trans (congrFun (f8 55 (by decide)) 4)) ((f21 5 (by decide)).trans (congrFun (f8 55 (by decide)) 5)) ((f20 56 (by decide)).trans (f8 56 (by decide))) ((f20 57 (by decide)).trans (f8 57 (by decide))) ((f20 58 (by decide)).trans (f8 58 (by decide))) ((f20 59 (by decide)).trans (f8 59 (by decide))) hI101
    have I43 : jI102 σ18 := jI102_fr (f21 6 (by decide)) (f20 60 (by decide)) (f20 61 (by decide)) I11
    have I44 : jI103 σ18 := jI103_fr ((f21 9 (by decide)).trans (congrFun (f8 55 (by decide)) 9)) hI103
    have I45 : jI104 σ18 := jI104_fr (f21 10 (by decide)) (f21 12 (by decide)) (f21 13 (by decide)) (f20 62 (by decide)) (f20 67 (by decide)) I12
    have I46 : jI105 σ18 := jI105_fr ((f21 15 (by decide)).trans (congrFun (f8 55 (by decide)) 15)) ((f20 65 (by decide)).trans (f8 65 (by decide))) hI105
    have I47 : jI106 σ18 := jI106_fr ((f21 32 (by decide)).trans (congrFun (f8 55 (by decide)) 32)) ((f20 70 (by decide)).trans (f8 70 (by decide))) ((f20 71 (by decide)).trans (f8 71 (by decide))) ((f20 72 (by decide)).trans (f8 72 (by decide))) hI106
    have I48 : jI109 σ18 := jI109_fr ((f21 50 (by decide)).trans (congrFun (f8 55 (by decide)) 50)) hI109
    have I49 : jI110 σ18 := jI110_fr ((f20 86 (by decide)).trans (f8 86 (by decide))) ((f20 87 (by decide)).trans (f8 87 (by decide))) hI110
    have I50 : jI111 σ18 := jI111_fr ((f20 79 (by decide)).trans (f8 79 (by decide))) hI111
    have I51 : jI119 σ18 := w23
    have p52 : jKept σ18 := jKept.fr ((f20 75 (by decide)).trans (f8 75 (by decide))) ((f20 76 (by decide)).trans (f8 76 (by decide))) ((f20 77 (by decide)).trans (f8 77 (by decide))) hs_jKept
    have z53 : (σ18 2 0).toInt = (σ 2 0).toInt := (congrArg Int32.toInt (show σ18 2 0 = (σ 2 0) from ((congrFun (f20 2 (by decide)) 0).trans (congrFun (f8 2 (by decide)) 0))))
    have z54 : (σ18 55 6).toInt = (σ 55 6).toInt := (congrArg Int32.toInt (show σ18 55 6 = (σ 55 6) from ((f21 6 (by decide)).trans (congrFun (f8 55 (by decide)) 6))))
    exact ih x30 σ18 τ _ _ ls (by have h9 := tx30; omega) ⟨I31, I32, I33, I34, I35, I36, I37, I38, I39, I40, I41, I42, I43, I44, I45, I46, I47, I22, I48, I49, I50, I51, p52, p24, (by omega)⟩ hP hS (lv_sub hl [0, 1, 2, 3] rfl)
  · obtain ⟨q57, k55, k56⟩ := h26
    refine lv_pop hx hb dL_law_802 rfl ?_
    refine lv_goto (tgt := 1357) hx hb dL_law_803 (by decide) ?_
    obtain ⟨x58, ex58⟩ : ∃ y : Int32, y = x0 + 6 := ⟨_, rfl⟩
    have tx58 : x58.toInt = x0.toInt + 6 := (jadd ex58 rfl jz_6 (by omega) (by omega)).trans (by omega)
    refine lv_iinc (v := x58) (lv' := [(3, .int x58), (2, .ref (ad 55)), (1, .ref (ad 0)), (0, .ref b)]) hx hb dL_law_1357 hl (k := 0) rfl (by rw [ex58]; rfl) (by decide) rfl (fun ls hl => ?_)
    refine lv_goto (tgt := 18) hx hb dL_law_1360 (by decide) ?_
    have I59 : jI2 σ18 := jI2_fr ((congrFun (f20 2 (by decide)) 0).trans (congrFun (f8 2 (by decide)) 0)) ((congrFun (f20 2 (by decide)) 1).trans (congrFun (f8 2 (by decide)) 1)) ((congrFun (f20 2 (by decide)) 2).trans (congrFun (f8 2 (by decide)) 2)) ((congrFun (f20 2 (by decide)) 3).trans (congrFun (f8 2 (by decide)) 3)) ((f20 6 (by decide)).trans (f8 6 (by decide))) hI2
    have I60 : jI9 σ18 := jI9_fr ((congrFun (f20 9 (by decide)) 0).trans (congrFun (f8 9 (by decide)) 0)) ((f20 10 (by decide)).trans (f8 10 (by decide))) ((f20 11 (by decide)).trans (f8 11 (by decide))) hI9
    have I61 : jI12 σ18 := jI12_fr ((congrFun (f20 12 (by decide)) 0).trans (congrFun (f8 12 (by decide)) 0)) ((f20 13 (by decide)).trans (f8 13 (by decide))) hI12
    have I62 : jI16 σ18 := jI16_fr ((congrFun (f20 16 (by decide)) 0).trans (congrFun (f8 16 (by decide)) 0)) ((congrFun (f20 16 (by decide)) 1).trans (congrFun (f8 16 (by decide)) 1)) ((congrFun (f20 16 (by decide)) 2).trans (congrFun (f8 16 (by decide)) 2)) ((f20 17 (by decide)).trans (f8 17 (by decide))) hI16
    have I63 : jI18 σ18 := jI18_fr ((congrFun (f20 18 (by decide)) 0).trans (congrFun (f8 18 (by decide)) 0)) ((f20 19 (by decide)).trans (f8 19 (by decide))) hI18
    have I64 : jI22 σ18 := jI22_fr ((congrFun (f20 22 (by decide)) 0).trans (congrFun (f8 22 (by decide)) 0)) ((f20 23 (by decide)).trans (f8 23 (by decide))) hI22
    have I65 : jI31 σ18 := jI31_fr ((congrFun (f20 31 (by decide)) 8).trans (congrFun (f8 31 (by decide)) 8)) ((f20 33 (by decide)).trans (f8 33 (by decide))) ((f20 36 (by decide)).trans (f8 36 (by decide))) hI31
    have I66 : jI38 σ18 := jI38_fr ((congrFun (f20 38 (by decide)) 0).trans (congrFun (f8 38 (by decide)) 0)) ((congrFun (f20 38 (by decide)) 1).trans (congrFun (f8 38 (by decide)) 1)) ((f20 39 (by decide)).trans (f8 39 (by decide))) hI38
    have I67 : jI43 σ18 := jI43_fr ((congrFun (f20 43 (by decide)) 8).trans (congrFun (f8 43 (by decide)) 8)) hI43
    have I68 : jI47 σ18 := jI47_fr (congrFun (f20 47 (by decide)) 0) (f20 49 (by decide)) I10
    have I69 : jI50 σ18 := jI50_fr ((f20 52 (by decide)).trans (f8 52 (by decide))) hI50
    have I70 : jI101 σ18 := jI101_fr ((f21 4 (by decide)).trans (congrFun (f8 55 (by decide)) 4)) ((f21 5 (by decide)).trans (congrFun (f8 55 (by decide)) 5)) ((f20 56 (by decide)).trans (f8 56 (by decide))) ((f20 57 (by decide)).trans (f8 57 (by decide))) ((f20 58 (by decide)).trans (f8 58 (by decide))) ((f20 59 (by decide)).trans (f8 59 (by decide))) hI101
    have I71 : jI102 σ18 := jI102_fr (f21 6 (by decide)) (f20 60 (by decide)) (f20 61 (by decide)) I11
    have I72 : jI103 σ18 := jI103_fr ((f21 9 (by decide)).trans (congrFun (f8 55 (by decide)) 9)) hI103
    have I73 : jI104 σ18 := jI104_fr (f21 10 (by decide)) (f21 12 (by decide)) (f21 13 (by decide)) (f20 62 (by decide)) (f20 67 (by decide)) I12
    have I74 : jI105 σ18 := jI105_fr ((f21 15 (by decide)).trans (congrFun (f8 55 (by decide)) 15)) ((f20 65 (by decide)).trans (f8 65 (by decide))) hI105
    have I75 : jI106 σ18 := jI106_fr ((f21 32 (by decide)).trans (congrFun (f8 55 (by decide)) 32)) ((f20 70 (by decide)).trans (f8 70 (by decide))) ((f20 71 (by decide)).trans (f8 71 (by decide))) ((f20 72 (by decide)).trans (f8 72 (by decide))) hI106
    have I76 : jI109 σ18 := jI109_fr ((f21 50 (by decide)).trans (congrFun (f8 55 (by decide)) 50)) hI109
    have I77 : jI110 σ18 := jI110_fr ((f20 86 (by decide)).trans (f8 86 (by decide))) ((f20 87 (by decide)).trans (f8 87 (by decide))) hI110
    have I78 : jI111 σ18 := jI111_fr ((f20 79 (by decide)).trans (f8 79 (by decide))) hI111
    have I79 : jI119 σ18 := w23
    have p80 : jKept σ18 := jKept.fr ((f20 75 (by decide)).trans (f8 75 (by decide))) ((f20 76 (by decide)).trans (f8 76 (by decide))) ((f20 77 (by decide)).trans (f8 77 (by decide))) hs_jKept
    have z81 : (σ18 2 0).toInt = (σ 2 0).toInt := (congrArg Int32.toInt (show σ18 2 0 = (σ 2 0) from ((congrFun (f20 2 (by decide)) 0).trans (congrFun (f8 2 (by decide)) 0))))
    have z82 : (σ18 55 6).toInt = (σ 55 6).toInt := (congrArg Int32.toInt (show σ18 55 6 = (σ 55 6) from ((f21 6 (by decide)).trans (congrFun (f8 55 (by decide)) 6))))
    exact ih x58 σ18 τ _ _ ls (by have h9 := tx58; omega) ⟨I59, I60, I61, I62, I63, I64, I65, I66, I67, I68, I69, I70, I71, I72, I73, I74, I75, I22, I76, I77, I78, I79, p80, p24, (by omega)⟩ hP hS (lv_sub hl [0, 1, 2, 3] rfl)
set_option maxHeartbeats 4000000 in
set_option maxRecDepth 100000 in
theorem law_case_20 {p : Program} {e : Env} {s : State} {m : MethodId} {below : List Frame} {meth : Method} {c : Code} (l : Launch) {b L : Nat} {xs : Nat → Int32} {D : va_G} {cI cL : ClassId} {ad zz : Nat → Nat} (C0 : lw_At p s m meth c b L xs) (hJ : jD ad) (hA : ∀ q, jA ad q → s.heap.size ≤ q) (hK : jK D cI cL s) (hZ : jZ zz (fun q : Nat => s.heap.size ≤ q) s s.heap) {x0 : Int32} (hx0 : 0 ≤ x0.toInt) (hxL : x0.toInt + 6 ≤ (L : Int)) (hL : L ≤ 384) {σ : Nat → Nat → Int32} {τ : Nat → Nat → Int64} {H : Heap} {locs : List Loc} (hS : va_S (fun q : Nat => s.heap.size ≤ q) s.heap H locs) {ls : Array Slot} (hAll : jAll σ τ) (hP : jH D cI cL ad σ τ H) (hl : lv_has ls 4 [(3, .int x0), (2, .ref (ad 55)), (1, .ref (ad 0)), (0, .ref b)]) (ih : ∀ (x1 : Int32) (σ : Nat → Nat → Int32) (τ : Nat → Nat → Int64) (H : Heap) (locs : List Loc) (ls : Array Slot), x1.toInt = x0.toInt + 6 → jAll σ τ → jH D cI cL ad σ τ H → va_S (fun q : Nat => s.heap.size ≤ q) s.heap H locs → lv_has ls 4 [(3, .int x1), (2, .ref (ad 55)), (1, .ref (ad 0)), (0, .ref b)] → W p l e room_1 s m #[Value.ref b] below meth c H locs 90 348600 (lw_Z below #[Value.ref b] s) (F0 m 18 ls [])) : W p l e room_1 s m #[Value.ref b] below meth c H locs 90 348600 (lw_Z below #[Value.ref b] s) (F0 m 806 ls []) := by
  obtain ⟨hx, hb, hr, hml, hown, hts0, hX, hbl, hlocks, hgv⟩ := C0
  have hts : ∀ w ∈ wsL_law, w.before #[Value.ref b] s = true := fun w h => hts0 w (wsL_law_in w h)
  have hbA : ¬ (fun q : Nat => s.heap.size ≤ q) b := Nat.not_le.mpr hbl
  have hown : s.vm.findClass RL = some m.cls := hown
  obtain ⟨hI2, hI9, hI12, hI16, hI18, hI22, hI31, hI38, hI43, hI47, hI50, hI101, hI102, hI103, hI104, hI105, hI106, hI107, hI109, hI110, hI111, hI119, hs_jKept, hs_jBook, ht0⟩ := hAll
  have hL9 : (L : Int) ≤ 384 := by omega
  refine lv_aload_n hx hb dL_law_806 rfl (lv_at hl 2 rfl) ?_
  refine lv_aload_n hx hb dL_law_807 rfl (lv_at hl 3 rfl) ?_
  refine lv_iload_n hx hb dL_law_808 rfl (lv_at hl 0 rfl) ?_
  refine lv_iconst (v := 1) hx hb dL_law_809 (by decide) ?_
  have g1 := jrg (rfl : x0.toInt = x0.toInt)
  refine lv_iadd hx hb dL_law_810 ?_
  refine lv_topi (fun x2 ex2 => ?_)
  have tx2 : x2.toInt = x0.toInt + 1 := (jadd ex2 rfl jz_1 (by omega) (by omega)).trans (by omega)
  refine va_sld hx hb hX hbl hbA hS (jin tx2 (by omega) (by omega)) dL_law_811 ?_
  have g3 := jrg (rfl : (xs x2.toNatClampNeg).toInt = (xs x2.toNatClampNeg).toInt)
  refine lv_aload_n hx hb dL_law_812 rfl (lv_at hl 3 rfl) ?_
  refine lv_iload_n hx hb dL_law_813 rfl (lv_at hl 0 rfl) ?_
  refine lv_iconst (v := 2) hx hb dL_law_814 (by decide) ?_
  refine lv_iadd hx hb dL_law_815 ?_
  refine lv_topi (fun x4 ex4 => ?_)
  have tx4 : x4.toInt = x0.toInt + 2 := (jadd ex4 rfl jz_2 (by omega) (by omega)).trans (by omega)
  refine va_sld hx hb hX hbl hbA hS (jin tx4 (by omega) (by omega)) dL_law_816 ?_
  have g5 := jrg (rfl : (xs x4.toNatClampNeg).toInt = (xs x4.toNatClampNeg).toInt)
  refine jcallV (As := [.int (xs x2.toNatClampNeg), .int (xs x4.toNatClampNeg)]) (rest := []) ⟨hx, hb, hml, hown, hts⟩ hK hP hA hS hZ (c_X11_books l D cI cL ad zz hJ σ τ (xs x2.toNatClampNeg) ((xs x2.toNatClampNeg).toInt) rfl (xs x4.toNatClampNeg) ((xs x4.toNatClampNeg).toInt) rfl hI2 hI16 hI47 hI50) cw_RL_97 (jc_0 cI cL ad σ τ) rfl ⟨Nat.le_of_ble_eq_true rfl, Nat.le_of_ble_eq_true rfl⟩ rfl rfl rfl hl.1 rfl (Nat.le_of_ble_eq_true rfl) dL_law_817 ⟨Nat.le_of_ble_eq_true rfl, Nat.le_of_ble_eq_true rfl⟩ (fun r7 σ6 τ6 H locs h6 hP hS => ?_)
  obtain ⟨rfl, f8, f9, I10, h6⟩ := h6
  refine lv_pop hx hb dL_law_820 rfl ?_
  refine lv_aload_n hx hb dL_law_821 rfl (lv_at hl 1 rfl) ?_
  refine lv_aload_n hx hb dL_law_822 rfl (lv_at hl 3 rfl) ?_
  refine lv_iload_n hx hb dL_law_823 rfl (lv_at hl 0 rfl) ?_
  refine lv_iconst (v := 1) hx hb dL_law_824 (by decide) ?_
  refine lv_iadd hx hb dL_law_825 ?_
  refine jtopr ex2.symm ?_
  refine va_sld hx hb hX hbl hbA hS (jin tx2 (by omega) (by omega)) dL_law_826 ?_
  refine lv_aload_n hx hb dL_law_827 rfl (lv_at hl 3 rfl) ?_
  refine lv_iload_n hx hb dL_law_828 rfl (lv_at hl 0 rfl) ?_
  refine lv_iconst (v := 2) hx hb dL_law_829 (by decide) ?_
  refine lv_iadd hx hb dL_law_830 ?_
  refine jtopr ex4.symm ?_
  refine va_sld hx hb hX hbl hbA hS (jin tx4 (by omega) (by omega)) dL_law_831 ?_
  have I11 : jI102 σ6 := jI102_fr (congrFun (f8 55 (by decide)) 6) (f8 60 (by decide)) (f8 61 (by decide)) hI102
  have I12 : jI104 σ6 := jI104_fr (congrFun (f8 55 (by decide)) 10) (congrFun (f8 55 (by decide)) 12) (congrFun (f8 55 (by decide)) 13) (f8 62 (by decide)) (f8 67 (by decide)) hI104
  have I13 : jI107 σ6 := jI107_fr (congrFun (f8 55 (by decide)) 12) (congrFun (f8 55 (by decide)) 47) (f8 80 (by decide)) hI107
  have I14 : jI110 σ6 := jI110_fr (f8 86 (by decide)) (f8 87 (by decide)) hI110
  have I15 : jI119 σ6 := jI119_fr (f8 68 (by decide)) hI119
  have p16 : jBook σ6 := jBook.fr (congrFun (f8 55 (by decide)) 47) (congrFun (f8 55 (by decide)) 10) (f8 81 (by decide)) hs_jBook
  refine jcallV (As := [.int (xs x2.toNatClampNeg), .int (xs x4.toNatClampNeg)]) (rest := []) ⟨hx, hb, hml, hown, hts⟩ hK hP hA hS hZ (c_X12_books l D cI cL ad zz hJ σ6 τ (xs x2.toNatClampNeg) ((xs x2.toNatClampNeg).toInt) rfl (xs x4.toNatClampNeg) ((xs x4.toNatClampNeg).toInt) rfl I11 I12 I13 I14 I15 p16) cw_RL_100 (jc_55 cI cL ad σ6 τ) rfl ⟨Nat.le_of_ble_eq_true rfl, Nat.le_of_ble_eq_true rfl⟩ rfl rfl rfl hl.1 rfl (Nat.le_of_ble_eq_true rfl) dL_law_832 ⟨Nat.le_of_ble_eq_true rfl, Nat.le_of_ble_eq_true rfl⟩ (fun r18 σ17 τ17 H locs h17 hP hS => ?_)
  obtain ⟨rfl, f19, f20, I21, I22, p23, h17⟩ := h17
  refine lv_pop hx hb dL_law_835 rfl ?_
  refine lv_goto (tgt := 1357) hx hb dL_law_836 (by decide) ?_
  obtain ⟨x24, ex24⟩ : ∃ y : Int32, y = x0 + 6 := ⟨_, rfl⟩
  have tx24 : x24.toInt = x0.toInt + 6 := (jadd ex24 rfl jz_6 (by omega) (by omega)).trans (by omega)
  refine lv_iinc (v := x24) (lv' := [(3, .int x24), (2, .ref (ad 55)), (1, .ref (ad 0)), (0, .ref b)]) hx hb dL_law_1357 hl (k := 0) rfl (by rw [ex24]; rfl) (by decide) rfl (fun ls hl => ?_)
  refine lv_goto (tgt := 18) hx hb dL_law_1360 (by decide) ?_
  have I25 : jI2 σ17 := jI2_fr ((congrFun (f19 2 (by decide)) 0).trans (congrFun (f8 2 (by decide)) 0)) ((congrFun (f19 2 (by decide)) 1).trans (congrFun (f8 2 (by decide)) 1)) ((congrFun (f19 2 (by decide)) 2).trans (congrFun (f8 2 (by decide)) 2)) ((congrFun (f19 2 (by decide)) 3).trans (congrFun (f8 2 (by decide)) 3)) ((f19 6 (by decide)).trans (f8 6 (by decide))) hI2
  have I26 : jI9 σ17 := jI9_fr ((congrFun (f19 9 (by decide)) 0).trans (congrFun (f8 9 (by decide)) 0)) ((f19 10 (by decide)).trans (f8 10 (by decide))) ((f19 11 (by decide)).trans (f8 11 (by decide))) hI9
  have I27 : jI12 σ17 := jI12_fr ((congrFun (f19 12 (by decide)) 0).trans (congrFun (f8 12 (by decide)) 0)) ((f19 13 (by decide)).trans (f8 13 (by decide))) hI12
  have I28 : jI16 σ17 := jI16_fr ((congrFun (f19 16 (by decide)) 0).trans (congrFun (f8 16 (by decide)) 0)) ((congrFun (f19 16 (by decide)) 1).trans (congrFun (f8 16 (by decide)) 1)) ((congrFun (f19 16 (by decide)) 2).trans (congrFun (f8 16 (by decide)) 2)) ((f19 17 (by decide)).trans (f8 17 (by decide))) hI16
  have I29 : jI18 σ17 := jI18_fr ((congrFun (f19 18 (by decide)) 0).trans (congrFun (f8 18 (by decide)) 0)) ((f19 19 (by decide)).trans (f8 19 (by decide))) hI18
  have I30 : jI22 σ17 := jI22_fr ((congrFun (f19 22 (by decide)) 0).trans (congrFun (f8 22 (by decide)) 0)) ((f19 23 (by decide)).trans (f8 23 (by decide))) hI22
  have I31 : jI31 σ17 := jI31_fr ((congrFun (f19 31 (by decide)) 8).trans (congrFun (f8 31 (by decide)) 8)) ((f19 33 (by decide)).trans (f8 33 (by decide))) ((f19 36 (by decide)).trans (f8 36 (by decide))) hI31
  have I32 : jI38 σ17 := jI38_fr ((congrFun (f19 38 (by decide)) 0).trans (congrFun (f8 38 (by decide)) 0)) ((congrFun (f19 38 (by decide)) 1).trans (congrFun (f8 38 (by decide)) 1)) ((f19 39 (by decide)).trans (f8 39 (by decide))) hI38
  have I33 : jI43 σ17 := jI43_fr ((congrFun (f19 43 (by decide)) 8).trans (congrFun (f8 43 (by decide)) 8)) hI43
  have I34 : jI47 σ17 := jI47_fr (congrFun (f19 47 (by decide)) 0) (f19 49 (by decide)) I10
  have I35 : jI50 σ17 := jI50_fr ((f19 52 (by decide)).trans (f8 52 (by decide))) hI50
  have I36 : jI101 σ17 := jI101_fr ((f20 4 (by decide)).trans (congrFun (f8 55 (by decide)) 4)) ((f20 5 (by decide)).trans (congrFun (f8 55 (by decide)) 5)) ((f19 56 (by decide)).trans (f8 56 (by decide))) ((f19 57 (by decide)).trans (f8 57 (by decide))) ((f19 58 (by decide)).trans (f8 58 (by decide))) ((f19 59 (by decide)).trans (f8 59 (by decide))) hI101
  have I37 : jI102 σ17 := jI102_fr (f20 6 (by decide)) (f19 60 (by decide)) (f19 61 (by decide)) I11
  have I38 : jI103 σ17 := jI103_fr ((f20 9 (by decide)).trans (congrFun (f8 55 (by decide)) 9)) hI103
  have I39 : jI104 σ17 := jI104_fr (f20 10 (by decide)) (f20 12 (by decide)) (f20 13 (by decide)) (f19 62 (by decide)) (f19 67 (by decide)) I12
  have I40 : jI105 σ17 := jI105_fr ((f20 15 (by decide)).trans (congrFun (f8 55 (by decide)) 15)) ((f19 65 (by decide)).trans (f8 65 (by decide))) hI105
  have I41 : jI106 σ17 := jI106_fr ((f20 32 (by decide)).trans (congrFun (f8 55 (by decide)) 32)) ((f19 70 (by decide)).trans (f8 70 (by decide))) ((f19 71 (by decide)).trans (f8 71 (by decide))) ((f19 72 (by decide)).trans (f8 72 (by decide))) hI106
  have I42 : jI109 σ17 := jI109_fr ((f20 50 (by decide)).trans (congrFun (f8 55 (by decide)) 50)) hI109
  have I43 : jI110 σ17 := jI110_fr (f19 86 (by decide)) (f19 87 (by decide)) I14
  have I44 : jI111 σ17 := jI111_fr ((f19 79 (by decide)).trans (f8 79 (by decide))) hI111
  have p45 : jKept σ17 := jKept.fr ((f19 75 (by decide)).trans (f8 75 (by decide))) ((f19 76 (by decide)).trans (f8 76 (by decide))) ((f19 77 (by decide)).trans (f8 77 (by decide))) hs_jKept
  have z46 : (σ17 2 0).toInt = (σ 2 0).toInt := (congrArg Int32.toInt (show σ17 2 0 = (σ 2 0) from ((congrFun (f19 2 (by decide)) 0).trans (congrFun (f8 2 (by decide)) 0))))
  have z47 : (σ17 55 6).toInt = (σ 55 6).toInt := (congrArg Int32.toInt (show σ17 55 6 = (σ 55 6) from ((f20 6 (by decide)).trans (congrFun (f8 55 (by decide)) 6))))
  exact ih x24 σ17 τ _ _ ls (by have h9 := tx24; omega) ⟨I25, I26, I27, I28, I29, I30, I31, I32, I33, I34, I35, I36, I37, I38, I39, I40, I41, I21, I42, I43, I44, I22, p45, p23, (by omega)⟩ hP hS (lv_sub hl [0, 1, 2, 3] rfl)
set_option maxHeartbeats 4000000 in
set_option maxRecDepth 100000 in
theorem law_case_21 {p : Program} {e : Env} {s : State} {m : MethodId} {below : List Frame} {meth : Method} {c : Code} (l : Launch) {b L : Nat} {xs : Nat → Int32} {D : va_G} {cI cL : ClassId} {ad zz : Nat → Nat} (C0 : lw_At p s m meth c b L xs) (hJ : jD ad) (hA : ∀ q, jA ad q → s.heap.size ≤ q) (hK : jK D cI cL s) (hZ : jZ zz (fun q : Nat => s.heap.size ≤ q) s s.heap) {x0 : Int32} (hx0 : 0 ≤ x0.toInt) (hxL : x0.toInt + 6 ≤ (L : Int)) (hL : L ≤ 384) {σ : Nat → Nat → Int32} {τ : Nat → Nat → Int64} {H : Heap} {locs : List Loc} (hS : va_S (fun q : Nat => s.heap.size ≤ q) s.heap H locs) {ls : Array Slot} (hAll : jAll σ τ) (hP : jH D cI cL ad σ τ H) (hl : lv_has ls 4 [(3, .int x0), (2, .ref (ad 55)), (1, .ref (ad 0)), (0, .ref b)]) (ih : ∀ (x1 : Int32) (σ : Nat → Nat → Int32) (τ : Nat → Nat → Int64) (H : Heap) (locs : List Loc) (ls : Array Slot), x1.toInt = x0.toInt + 6 → jAll σ τ → jH D cI cL ad σ τ H → va_S (fun q : Nat => s.heap.size ≤ q) s.heap H locs → lv_has ls 4 [(3, .int x1), (2, .ref (ad 55)), (1, .ref (ad 0)), (0, .ref b)] → W p l e room_1 s m #[Value.ref b] below meth c H locs 90 348600 (lw_Z below #[Value.ref b] s) (F0 m 18 ls [])) : W p l e room_1 s m #[Value.ref b] below meth c H locs 90 348600 (lw_Z below #[Value.ref b] s) (F0 m 839 ls []) := by
  obtain ⟨hx, hb, hr, hml, hown, hts0, hX, hbl, hlocks, hgv⟩ := C0
  have hts : ∀ w ∈ wsL_law, w.before #[Value.ref b] s = true := fun w h => hts0 w (wsL_law_in w h)
  have hbA : ¬ (fun q : Nat => s.heap.size ≤ q) b := Nat.not_le.mpr hbl
  have hown : s.vm.findClass RL = some m.cls := hown
  obtain ⟨hI2, hI9, hI12, hI16, hI18, hI22, hI31, hI38, hI43, hI47, hI50, hI101, hI102, hI103, hI104, hI105, hI106, hI107, hI109, hI110, hI111, hI119, hs_jKept, hs_jBook, ht0⟩ := hAll
  have hL9 : (L : Int) ≤ 384 := by omega
  refine lv_aload_n hx hb dL_law_839 rfl (lv_at hl 2 rfl) ?_
  refine jcallV (As := []) (rest := []) ⟨hx, hb, hml, hown, hts⟩ hK hP hA hS hZ (c_X11_close l D cI cL ad zz hJ σ τ hI47) cw_RL_101 (jc_0 cI cL ad σ τ) rfl ⟨Nat.le_of_ble_eq_true rfl, Nat.le_of_ble_eq_true rfl⟩ rfl rfl rfl hl.1 rfl (Nat.le_of_ble_eq_true rfl) dL_law_840 ⟨Nat.le_of_ble_eq_true rfl, Nat.le_of_ble_eq_true rfl⟩ (fun r2 σ1 τ1 H locs h1 hP hS => ?_)
  obtain ⟨rfl, f3, f4, I5, h1⟩ := h1
  refine lv_pop hx hb dL_law_843 rfl ?_
  refine lv_aload_n hx hb dL_law_844 rfl (lv_at hl 1 rfl) ?_
  have I6 : jI104 σ1 := jI104_fr (congrFun (f3 55 (by decide)) 10) (congrFun (f3 55 (by decide)) 12) (congrFun (f3 55 (by decide)) 13) (f3 62 (by decide)) (f3 67 (by decide)) hI104
  have I7 : jI107 σ1 := jI107_fr (congrFun (f3 55 (by decide)) 12) (congrFun (f3 55 (by decide)) 47) (f3 80 (by decide)) hI107
  have p8 : jBook σ1 := jBook.fr (congrFun (f3 55 (by decide)) 47) (congrFun (f3 55 (by decide)) 10) (f3 81 (by decide)) hs_jBook
  refine jcallV (As := []) (rest := []) ⟨hx, hb, hml, hown, hts⟩ hK hP hA hS hZ (c_X12_close l D cI cL ad zz hJ σ1 τ I6 I7 p8) cw_RL_104 (jc_55 cI cL ad σ1 τ) rfl ⟨Nat.le_of_ble_eq_true rfl, Nat.le_of_ble_eq_true rfl⟩ rfl rfl rfl hl.1 rfl (Nat.le_of_ble_eq_true rfl) dL_law_845 ⟨Nat.le_of_ble_eq_true rfl, Nat.le_of_ble_eq_true rfl⟩ (fun r10 σ9 τ9 H locs h9 hP hS => ?_)
  obtain ⟨rfl, f11, f12, I13, p14, h9⟩ := h9
  refine lv_pop hx hb dL_law_848 rfl ?_
  refine lv_goto (tgt := 1357) hx hb dL_law_849 (by decide) ?_
  obtain ⟨x15, ex15⟩ : ∃ y : Int32, y = x0 + 6 := ⟨_, rfl⟩
  have tx15 : x15.toInt = x0.toInt + 6 := (jadd ex15 rfl jz_6 (by omega) (by omega)).trans (by omega)
  refine lv_iinc (v := x15) (lv' := [(3, .int x15), (2, .ref (ad 55)), (1, .ref (ad 0)), (0, .ref b)]) hx hb dL_law_1357 hl (k := 0) rfl (by rw [ex15]; rfl) (by decide) rfl (fun ls hl => ?_)
  refine lv_goto (tgt := 18) hx hb dL_law_1360 (by decide) ?_
  have I16 : jI2 σ9 := jI2_fr ((congrFun (f11 2 (by decide)) 0).trans (congrFun (f3 2 (by decide)) 0)) ((congrFun (f11 2 (by decide)) 1).trans (congrFun (f3 2 (by decide)) 1)) ((congrFun (f11 2 (by decide)) 2).trans (congrFun (f3 2 (by decide)) 2)) ((congrFun (f11 2 (by decide)) 3).trans (congrFun (f3 2 (by decide)) 3)) ((f11 6 (by decide)).trans (f3 6 (by decide))) hI2
  have I17 : jI9 σ9 := jI9_fr ((congrFun (f11 9 (by decide)) 0).trans (congrFun (f3 9 (by decide)) 0)) ((f11 10 (by decide)).trans (f3 10 (by decide))) ((f11 11 (by decide)).trans (f3 11 (by decide))) hI9
  have I18 : jI12 σ9 := jI12_fr ((congrFun (f11 12 (by decide)) 0).trans (congrFun (f3 12 (by decide)) 0)) ((f11 13 (by decide)).trans (f3 13 (by decide))) hI12
  have I19 : jI16 σ9 := jI16_fr ((congrFun (f11 16 (by decide)) 0).trans (congrFun (f3 16 (by decide)) 0)) ((congrFun (f11 16 (by decide)) 1).trans (congrFun (f3 16 (by decide)) 1)) ((congrFun (f11 16 (by decide)) 2).trans (congrFun (f3 16 (by decide)) 2)) ((f11 17 (by decide)).trans (f3 17 (by decide))) hI16
  have I20 : jI18 σ9 := jI18_fr ((congrFun (f11 18 (by decide)) 0).trans (congrFun (f3 18 (by decide)) 0)) ((f11 19 (by decide)).trans (f3 19 (by decide))) hI18
  have I21 : jI22 σ9 := jI22_fr ((congrFun (f11 22 (by decide)) 0).trans (congrFun (f3 22 (by decide)) 0)) ((f11 23 (by decide)).trans (f3 23 (by decide))) hI22
  have I22 : jI31 σ9 := jI31_fr ((congrFun (f11 31 (by decide)) 8).trans (congrFun (f3 31 (by decide)) 8)) ((f11 33 (by decide)).trans (f3 33 (by decide))) ((f11 36 (by decide)).trans (f3 36 (by decide))) hI31
  have I23 : jI38 σ9 := jI38_fr ((congrFun (f11 38 (by decide)) 0).trans (congrFun (f3 38 (by decide)) 0)) ((congrFun (f11 38 (by decide)) 1).trans (congrFun (f3 38 (by decide)) 1)) ((f11 39 (by decide)).trans (f3 39 (by decide))) hI38
  have I24 : jI43 σ9 := jI43_fr ((congrFun (f11 43 (by decide)) 8).trans (congrFun (f3 43 (by decide)) 8)) hI43
  have I25 : jI47 σ9 := jI47_fr (congrFun (f11 47 (by decide)) 0) (f11 49 (by decide)) I5
  have I26 : jI50 σ9 := jI50_fr ((f11 52 (by decide)).trans (f3 52 (by decide))) hI50
  have I27 : jI101 σ9 := jI101_fr ((f12 4 (by decide)).trans (congrFun (f3 55 (by decide)) 4)) ((f12 5 (by decide)).trans (congrFun (f3 55 (by decide)) 5)) ((f11 56 (by decide)).trans (f3 56 (by decide))) ((f11 57 (by decide)).trans (f3 57 (by decide))) ((f11 58 (by decide)).trans (f3 58 (by decide))) ((f11 59 (by decide)).trans (f3 59 (by decide))) hI101
  have I28 : jI102 σ9 := jI102_fr ((f12 6 (by decide)).trans (congrFun (f3 55 (by decide)) 6)) ((f11 60 (by decide)).trans (f3 60 (by decide))) ((f11 61 (by decide)).trans (f3 61 (by decide))) hI102
  have I29 : jI103 σ9 := jI103_fr ((f12 9 (by decide)).trans (congrFun (f3 55 (by decide)) 9)) hI103
  have I30 : jI104 σ9 := jI104_fr (f12 10 (by decide)) (f12 12 (by decide)) (f12 13 (by decide)) (f11 62 (by decide)) (f11 67 (by decide)) I6
  have I31 : jI105 σ9 := jI105_fr ((f12 15 (by decide)).trans (congrFun (f3 55 (by decide)) 15)) ((f11 65 (by decide)).trans (f3 65 (by decide))) hI105
  have I32 : jI106 σ9 := jI106_fr ((f12 32 (by decide)).trans (congrFun (f3 55 (by decide)) 32)) ((f11 70 (by decide)).trans (f3 70 (by decide))) ((f11 71 (by decide)).trans (f3 71 (by decide))) ((f11 72 (by decide)).trans (f3 72 (by decide))) hI106
  have I33 : jI109 σ9 := jI109_fr ((f12 50 (by decide)).trans (congrFun (f3 55 (by decide)) 50)) hI109
  have I34 : jI110 σ9 := jI110_fr ((f11 86 (by decide)).trans (f3 86 (by decide))) ((f11 87 (by decide)).trans (f3 87 (by decide))) hI110
  have I35 : jI111 σ9 := jI111_fr ((f11 79 (by decide)).trans (f3 79 (by decide))) hI111
  have I36 : jI119 σ9 := jI119_fr ((f11 68 (by decide)).trans (f3 68 (by decide))) hI119
  have p37 : jKept σ9 := jKept.fr ((f11 75 (by decide)).trans (f3 75 (by decide))) ((f11 76 (by decide)).trans (f3 76 (by decide))) ((f11 77 (by decide)).trans (f3 77 (by decide))) hs_jKept
  have z38 : (σ9 2 0).toInt = (σ 2 0).toInt := (congrArg Int32.toInt (show σ9 2 0 = (σ 2 0) from ((congrFun (f11 2 (by decide)) 0).trans (congrFun (f3 2 (by decide)) 0))))
  have z39 : (σ9 55 6).toInt = (σ 55 6).toInt := (congrArg Int32.toInt (show σ9 55 6 = (σ 55 6) from ((f12 6 (by decide)).trans (congrFun (f3 55 (by decide)) 6))))
  exact ih x15 σ9 τ _ _ ls (by have h9 := tx15; omega) ⟨I16, I17, I18, I19, I20, I21, I22, I23, I24, I25, I26, I27, I28, I29, I30, I31, I32, I13, I33, I34, I35, I36, p37, p14, (by omega)⟩ hP hS (lv_sub hl [0, 1, 2, 3] rfl)
set_option maxHeartbeats 4000000 in
set_option maxRecDepth 100000 in
theorem law_case_22 {p : Program} {e : Env} {s : State} {m : MethodId} {below : List Frame} {meth : Method} {c : Code} (l : Launch) {b L : Nat} {xs : Nat → Int32} {D : va_G} {cI cL : ClassId} {ad zz : Nat → Nat} (C0 : lw_At p s m meth c b L xs) (hJ : jD ad) (hA : ∀ q, jA ad q → s.heap.size ≤ q) (hK : jK D cI cL s) (hZ : jZ zz (fun q : Nat => s.heap.size ≤ q) s s.heap) {x0 : Int32} (hx0 : 0 ≤ x0.toInt) (hxL : x0.toInt + 6 ≤ (L : Int)) (hL : L ≤ 384) {σ : Nat → Nat → Int32} {τ : Nat → Nat → Int64} {H : Heap} {locs : List Loc} (hS : va_S (fun q : Nat => s.heap.size ≤ q) s.heap H locs) {ls : Array Slot} (hAll : jAll σ τ) (hP : jH D cI cL ad σ τ H) (hl : lv_has ls 4 [(3, .int x0), (2, .ref (ad 55)), (1, .ref (ad 0)), (0, .ref b)]) (ih : ∀ (x1 : Int32) (σ : Nat → Nat → Int32) (τ : Nat → Nat → Int64) (H : Heap) (locs : List Loc) (ls : Array Slot), x1.toInt = x0.toInt + 6 → jAll σ τ → jH D cI cL ad σ τ H → va_S (fun q : Nat => s.heap.size ≤ q) s.heap H locs → lv_has ls 4 [(3, .int x1), (2, .ref (ad 55)), (1, .ref (ad 0)), (0, .ref b)] → W p l e room_1 s m #[Value.ref b] below meth c H locs 90 348600 (lw_Z below #[Value.ref b] s) (F0 m 18 ls [])) : W p l e room_1 s m #[Value.ref b] below meth c H locs 90 348600 (lw_Z below #[Value.ref b] s) (F0 m 852 ls []) := by
  obtain ⟨hx, hb, hr, hml, hown, hts0, hX, hbl, hlocks, hgv⟩ := C0
  have hts : ∀ w ∈ wsL_law, w.before #[Value.ref b] s = true := fun w h => hts0 w (wsL_law_in w h)
  have hbA : ¬ (fun q : Nat => s.heap.size ≤ q) b := Nat.not_le.mpr hbl
  have hown : s.vm.findClass RL = some m.cls := hown
  obtain ⟨hI2, hI9, hI12, hI16, hI18, hI22, hI31, hI38, hI43, hI47, hI50, hI101, hI102, hI103, hI104, hI105, hI106, hI107, hI109, hI110, hI111, hI119, hs_jKept, hs_jBook, ht0⟩ := hAll
  have hL9 : (L : Int) ≤ 384 := by omega
  refine lv_aload_n hx hb dL_law_852 rfl (lv_at hl 2 rfl) ?_
  refine lv_aload_n hx hb dL_law_853 rfl (lv_at hl 3 rfl) ?_
  refine lv_iload_n hx hb dL_law_854 rfl (lv_at hl 0 rfl) ?_
  refine lv_iconst (v := 1) hx hb dL_law_855 (by decide) ?_
  have g1 := jrg (rfl : x0.toInt = x0.toInt)
  refine lv_iadd hx hb dL_law_856 ?_
  refine lv_topi (fun x2 ex2 => ?_)
  have tx2 : x2.toInt = x0.toInt + 1 := (jadd ex2 rfl jz_1 (by omega) (by omega)).trans (by omega)
  refine va_sld hx hb hX hbl hbA hS (jin tx2 (by omega) (by omega)) dL_law_857 ?_
  have g3 := jrg (rfl : (xs x2.toNatClampNeg).toInt = (xs x2.toNatClampNeg).toInt)
  refine jcallV (As := [.int (xs x2.toNatClampNeg)]) (rest := []) ⟨hx, hb, hml, hown, hts⟩ hK hP hA hS hZ (c_X11_cost l D cI cL ad zz hJ σ τ (xs x2.toNatClampNeg) ((xs x2.toNatClampNeg).toInt) rfl hI2 hI16 hI22 hI31 hI47) cw_RL_105 (jc_0 cI cL ad σ τ) rfl ⟨Nat.le_of_ble_eq_true rfl, Nat.le_of_ble_eq_true rfl⟩ rfl rfl rfl hl.1 rfl (Nat.le_of_ble_eq_true rfl) dL_law_858 ⟨Nat.le_of_ble_eq_true rfl, Nat.le_of_ble_eq_true rfl⟩ (fun r5 σ4 τ4 H locs h4 hP hS => ?_)
  obtain ⟨rfl, f6, f7, I8, h4⟩ := h4
  refine lv_pop hx hb dL_law_861 rfl ?_
  refine lv_aload_n hx hb dL_law_862 rfl (lv_at hl 1 rfl) ?_
  refine lv_aload_n hx hb dL_law_863 rfl (lv_at hl 3 rfl) ?_
  refine lv_iload_n hx hb dL_law_864 rfl (lv_at hl 0 rfl) ?_
  refine lv_iconst (v := 1) hx hb dL_law_865 (by decide) ?_
  refine lv_iadd hx hb dL_law_866 ?_
  refine jtopr ex2.symm ?_
  refine va_sld hx hb hX hbl hbA hS (jin tx2 (by omega) (by omega)) dL_law_867 ?_
  have I9 : jI101 σ4 := jI101_fr (congrFun (f6 55 (by decide)) 4) (congrFun (f6 55 (by decide)) 5) (f6 56 (by decide)) (f6 57 (by decide)) (f6 58 (by decide)) (f6 59 (by decide)) hI101
  have I10 : jI102 σ4 := jI102_fr (congrFun (f6 55 (by decide)) 6) (f6 60 (by decide)) (f6 61 (by decide)) hI102
  have I11 : jI103 σ4 := jI103_fr (congrFun (f6 55 (by decide)) 9) hI103
  have I12 : jI104 σ4 := jI104_fr (congrFun (f6 55 (by decide)) 10) (congrFun (f6 55 (by decide)) 12) (congrFun (f6 55 (by decide)) 13) (f6 62 (by decide)) (f6 67 (by decide)) hI104
  have I13 : jI105 σ4 := jI105_fr (congrFun (f6 55 (by decide)) 15) (f6 65 (by decide)) hI105
  have I14 : jI106 σ4 := jI106_fr (congrFun (f6 55 (by decide)) 32) (f6 70 (by decide)) (f6 71 (by decide)) (f6 72 (by decide)) hI106
  have I15 : jI107 σ4 := jI107_fr (congrFun (f6 55 (by decide)) 12) (congrFun (f6 55 (by decide)) 47) (f6 80 (by decide)) hI107
  have I16 : jI119 σ4 := jI119_fr (f6 68 (by decide)) hI119
  have p17 : jKept σ4 := jKept.fr (f6 75 (by decide)) (f6 76 (by decide)) (f6 77 (by decide)) hs_jKept
  have p18 : jBook σ4 := jBook.fr (congrFun (f6 55 (by decide)) 47) (congrFun (f6 55 (by decide)) 10) (f6 81 (by decide)) hs_jBook
  refine jcallV (As := [.int (xs x2.toNatClampNeg)]) (rest := []) ⟨hx, hb, hml, hown, hts⟩ hK hP hA hS hZ (c_X12_cost l D cI cL ad zz hJ σ4 τ (xs x2.toNatClampNeg) ((xs x2.toNatClampNeg).toInt) rfl I9 I10 I11 I12 I13 I14 I15 I16 p17 p18) cw_RL_108 (jc_55 cI cL ad σ4 τ) rfl ⟨Nat.le_of_ble_eq_true rfl, Nat.le_of_ble_eq_true rfl⟩ rfl rfl rfl hl.1 rfl (Nat.le_of_ble_eq_true rfl) dL_law_868 ⟨Nat.le_of_ble_eq_true rfl, Nat.le_of_ble_eq_true rfl⟩ (fun r20 σ19 τ19 H locs h19 hP hS => ?_)
  obtain ⟨rfl, f21, f22, I23, p24, p25, h19⟩ := h19
  refine lv_pop hx hb dL_law_871 rfl ?_
  refine lv_goto (tgt := 1357) hx hb dL_law_872 (by decide) ?_
  obtain ⟨x26, ex26⟩ : ∃ y : Int32, y = x0 + 6 := ⟨_, rfl⟩
  have tx26 : x26.toInt = x0.toInt + 6 := (jadd ex26 rfl jz_6 (by omega) (by omega)).trans (by omega)
  refine lv_iinc (v := x26) (lv' := [(3, .int x26), (2, .ref (ad 55)), (1, .ref (ad 0)), (0, .ref b)]) hx hb dL_law_1357 hl (k := 0) rfl (by rw [ex26]; rfl) (by decide) rfl (fun ls hl => ?_)
  refine lv_goto (tgt := 18) hx hb dL_law_1360 (by decide) ?_
  have I27 : jI2 σ19 := jI2_fr ((congrFun (f21 2 (by decide)) 0).trans (congrFun (f6 2 (by decide)) 0)) ((congrFun (f21 2 (by decide)) 1).trans (congrFun (f6 2 (by decide)) 1)) ((congrFun (f21 2 (by decide)) 2).trans (congrFun (f6 2 (by decide)) 2)) ((congrFun (f21 2 (by decide)) 3).trans (congrFun (f6 2 (by decide)) 3)) ((f21 6 (by decide)).trans (f6 6 (by decide))) hI2
  have I28 : jI9 σ19 := jI9_fr ((congrFun (f21 9 (by decide)) 0).trans (congrFun (f6 9 (by decide)) 0)) ((f21 10 (by decide)).trans (f6 10 (by decide))) ((f21 11 (by decide)).trans (f6 11 (by decide))) hI9
  have I29 : jI12 σ19 := jI12_fr ((congrFun (f21 12 (by decide)) 0).trans (congrFun (f6 12 (by decide)) 0)) ((f21 13 (by decide)).trans (f6 13 (by decide))) hI12
  have I30 : jI16 σ19 := jI16_fr ((congrFun (f21 16 (by decide)) 0).trans (congrFun (f6 16 (by decide)) 0)) ((congrFun (f21 16 (by decide)) 1).trans (congrFun (f6 16 (by decide)) 1)) ((congrFun (f21 16 (by decide)) 2).trans (congrFun (f6 16 (by decide)) 2)) ((f21 17 (by decide)).trans (f6 17 (by decide))) hI16
  have I31 : jI18 σ19 := jI18_fr ((congrFun (f21 18 (by decide)) 0).trans (congrFun (f6 18 (by decide)) 0)) ((f21 19 (by decide)).trans (f6 19 (by decide))) hI18
  have I32 : jI22 σ19 := jI22_fr ((congrFun (f21 22 (by decide)) 0).trans (congrFun (f6 22 (by decide)) 0)) ((f21 23 (by decide)).trans (f6 23 (by decide))) hI22
  have I33 : jI31 σ19 := jI31_fr (congrFun (f21 31 (by decide)) 8) (f21 33 (by decide)) (f21 36 (by decide)) I8
  have I34 : jI38 σ19 := jI38_fr ((congrFun (f21 38 (by decide)) 0).trans (congrFun (f6 38 (by decide)) 0)) ((congrFun (f21 38 (by decide)) 1).trans (congrFun (f6 38 (by decide)) 1)) ((f21 39 (by decide)).trans (f6 39 (by decide))) hI38
  have I35 : jI43 σ19 := jI43_fr ((congrFun (f21 43 (by decide)) 8).trans (congrFun (f6 43 (by decide)) 8)) hI43
  have I36 : jI47 σ19 := jI47_fr ((congrFun (f21 47 (by decide)) 0).trans (congrFun (f6 47 (by decide)) 0)) ((f21 49 (by decide)).trans (f6 49 (by decide))) hI47
  have I37 : jI50 σ19 := jI50_fr ((f21 52 (by decide)).trans (f6 52 (by decide))) hI50
  have I38 : jI101 σ19 := jI101_fr (f22 4 (by decide)) (f22 5 (by decide)) (f21 56 (by decide)) (f21 57 (by decide)) (f21 58 (by decide)) (f21 59 (by decide)) I9
  have I39 : jI102 σ19 := jI102_fr (f22 6 (by decide)) (f21 60 (by decide)) (f21 61 (by decide)) I10
  have I40 : jI103 σ19 := jI103_fr (f22 9 (by decide)) I11
  have I41 : jI104 σ19 := jI104_fr (f22 10 (by decide)) (f22 12 (by decide)) (f22 13 (by decide)) (f21 62 (by decide)) (f21 67 (by decide)) I12
  have I42 : jI105 σ19 := jI105_fr (f22 15 (by decide)) (f21 65 (by decide)) I13
  have I43 : jI106 σ19 := jI106_fr (f22 32 (by decide)) (f21 70 (by decide)) (f21 71 (by decide)) (f21 72 (by decide)) I14
  have I44 : jI107 σ19 := jI107_fr (f22 12 (by decide)) (f22 47 (by decide)) (f21 80 (by decide)) I15
  have I45 : jI109 σ19 := jI109_fr ((f22 50 (by decide)).trans (congrFun (f6 55 (by decide)) 50)) hI109
  have I46 : jI110 σ19 := jI110_fr ((f21 86 (by decide)).trans (f6 86 (by decide))) ((f21 87 (by decide)).trans (f6 87 (by decide))) hI110
  have I47 : jI111 σ19 := jI111_fr ((f21 79 (by decide)).trans (f6 79 (by decide))) hI111
  have z48 : (σ19 2 0).toInt = (σ 2 0).toInt := (congrArg Int32.toInt (show σ19 2 0 = (σ 2 0) from ((congrFun (f21 2 (by decide)) 0).trans (congrFun (f6 2 (by decide)) 0))))
  have z49 : (σ19 55 6).toInt = (σ 55 6).toInt := (congrArg Int32.toInt (show σ19 55 6 = (σ 55 6) from ((f22 6 (by decide)).trans (congrFun (f6 55 (by decide)) 6))))
  exact ih x26 σ19 τ _ _ ls (by have h9 := tx26; omega) ⟨I27, I28, I29, I30, I31, I32, I33, I34, I35, I36, I37, I38, I39, I40, I41, I42, I43, I44, I45, I46, I47, I23, p24, p25, (by omega)⟩ hP hS (lv_sub hl [0, 1, 2, 3] rfl)
set_option maxHeartbeats 4000000 in
set_option maxRecDepth 100000 in
theorem law_case_23 {p : Program} {e : Env} {s : State} {m : MethodId} {below : List Frame} {meth : Method} {c : Code} (l : Launch) {b L : Nat} {xs : Nat → Int32} {D : va_G} {cI cL : ClassId} {ad zz : Nat → Nat} (C0 : lw_At p s m meth c b L xs) (hJ : jD ad) (hA : ∀ q, jA ad q → s.heap.size ≤ q) (hK : jK D cI cL s) (hZ : jZ zz (fun q : Nat => s.heap.size ≤ q) s s.heap) {x0 : Int32} (hx0 : 0 ≤ x0.toInt) (hxL : x0.toInt + 6 ≤ (L : Int)) (hL : L ≤ 384) {σ : Nat → Nat → Int32} {τ : Nat → Nat → Int64} {H : Heap} {locs : List Loc} (hS : va_S (fun q : Nat => s.heap.size ≤ q) s.heap H locs) {ls : Array Slot} (hAll : jAll σ τ) (hP : jH D cI cL ad σ τ H) (hl : lv_has ls 4 [(3, .int x0), (2, .ref (ad 55)), (1, .ref (ad 0)), (0, .ref b)]) (ih : ∀ (x1 : Int32) (σ : Nat → Nat → Int32) (τ : Nat → Nat → Int64) (H : Heap) (locs : List Loc) (ls : Array Slot), x1.toInt = x0.toInt + 6 → jAll σ τ → jH D cI cL ad σ τ H → va_S (fun q : Nat => s.heap.size ≤ q) s.heap H locs → lv_has ls 4 [(3, .int x1), (2, .ref (ad 55)), (1, .ref (ad 0)), (0, .ref b)] → W p l e room_1 s m #[Value.ref b] below meth c H locs 90 348600 (lw_Z below #[Value.ref b] s) (F0 m 18 ls [])) : W p l e room_1 s m #[Value.ref b] below meth c H locs 90 348600 (lw_Z below #[Value.ref b] s) (F0 m 875 ls []) := by
  obtain ⟨hx, hb, hr, hml, hown, hts0, hX, hbl, hlocks, hgv⟩ := C0
  have hts : ∀ w ∈ wsL_law, w.before #[Value.ref b] s = true := fun w h => hts0 w (wsL_law_in w h)
  have hbA : ¬ (fun q : Nat => s.heap.size ≤ q) b := Nat.not_le.mpr hbl
  have hown : s.vm.findClass RL = some m.cls := hown
  obtain ⟨hI2, hI9, hI12, hI16, hI18, hI22, hI31, hI38, hI43, hI47, hI50, hI101, hI102, hI103, hI104, hI105, hI106, hI107, hI109, hI110, hI111, hI119, hs_jKept, hs_jBook, ht0⟩ := hAll
  have hL9 : (L : Int) ≤ 384 := by omega
  refine lv_aload_n hx hb dL_law_875 rfl (lv_at hl 2 rfl) ?_
  refine lv_aload_n hx hb dL_law_876 rfl (lv_at hl 3 rfl) ?_
  refine lv_iload_n hx hb dL_law_877 rfl (lv_at hl 0 rfl) ?_
  refine lv_iconst (v := 1) hx hb dL_law_878 (by decide) ?_
  have g1 := jrg (rfl : x0.toInt = x0.toInt)
  refine lv_iadd hx hb dL_law_879 ?_
  refine lv_topi (fun x2 ex2 => ?_)
  have tx2 : x2.toInt = x0.toInt + 1 := (jadd ex2 rfl jz_1 (by omega) (by omega)).trans (by omega)
  refine va_sld hx hb hX hbl hbA hS (jin tx2 (by omega) (by omega)) dL_law_880 ?_
  have g3 := jrg (rfl : (xs x2.toNatClampNeg).toInt = (xs x2.toNatClampNeg).toInt)
  refine jcallV (As := [.int (xs x2.toNatClampNeg)]) (rest := []) ⟨hx, hb, hml, hown, hts⟩ hK hP hA hS hZ (c_X11_lost l D cI cL ad zz hJ σ τ (xs x2.toNatClampNeg) ((xs x2.toNatClampNeg).toInt) rfl hI2 hI16 hI22 hI31 hI47) cw_RL_109 (jc_0 cI cL ad σ τ) rfl ⟨Nat.le_of_ble_eq_true rfl, Nat.le_of_ble_eq_true rfl⟩ rfl rfl rfl hl.1 rfl (Nat.le_of_ble_eq_true rfl) dL_law_881 ⟨Nat.le_of_ble_eq_true rfl, Nat.le_of_ble_eq_true rfl⟩ (fun r5 σ4 τ4 H locs h4 hP hS => ?_)
  obtain ⟨rfl, f6, f7, I8, h4⟩ := h4
  refine lv_pop hx hb dL_law_884 rfl ?_
  refine lv_aload_n hx hb dL_law_885 rfl (lv_at hl 1 rfl) ?_
  refine lv_aload_n hx hb dL_law_886 rfl (lv_at hl 3 rfl) ?_
  refine lv_iload_n hx hb dL_law_887 rfl (lv_at hl 0 rfl) ?_
  refine lv_iconst (v := 1) hx hb dL_law_888 (by decide) ?_
  refine lv_iadd hx hb dL_law_889 ?_
  refine jtopr ex2.symm ?_
  refine va_sld hx hb hX hbl hbA hS (jin tx2 (by omega) (by omega)) dL_law_890 ?_
  have I9 : jI101 σ4 := jI101_fr (congrFun (f6 55 (by decide)) 4) (congrFun (f6 55 (by decide)) 5) (f6 56 (by decide)) (f6 57 (by decide)) (f6 58 (by decide)) (f6 59 (by decide)) hI101
  have I10 : jI102 σ4 := jI102_fr (congrFun (f6 55 (by decide)) 6) (f6 60 (by decide)) (f6 61 (by decide)) hI102
  have I11 : jI103 σ4 := jI103_fr (congrFun (f6 55 (by decide)) 9) hI103
  have I12 : jI104 σ4 := jI104_fr (congrFun (f6 55 (by decide)) 10) (congrFun (f6 55 (by decide)) 12) (congrFun (f6 55 (by decide)) 13) (f6 62 (by decide)) (f6 67 (by decide)) hI104
  have I13 : jI105 σ4 := jI105_fr (congrFun (f6 55 (by decide)) 15) (f6 65 (by decide)) hI105
  have I14 : jI106 σ4 := jI106_fr (congrFun (f6 55 (by decide)) 32) (f6 70 (by decide)) (f6 71 (by decide)) (f6 72 (by decide)) hI106
  have I15 : jI107 σ4 := jI107_fr (congrFun (f6 55 (by decide)) 12) (congrFun (f6 55 (by decide)) 47) (f6 80 (by decide)) hI107
  have I16 : jI119 σ4 := jI119_fr (f6 68 (by decide)) hI119
  have p17 : jKept σ4 := jKept.fr (f6 75 (by decide)) (f6 76 (by decide)) (f6 77 (by decide)) hs_jKept
  have p18 : jBook σ4 := jBook.fr (congrFun (f6 55 (by decide)) 47) (congrFun (f6 55 (by decide)) 10) (f6 81 (by decide)) hs_jBook
  refine jcallV (As := [.int (xs x2.toNatClampNeg)]) (rest := []) ⟨hx, hb, hml, hown, hts⟩ hK hP hA hS hZ (c_X12_lost l D cI cL ad zz hJ σ4 τ (xs x2.toNatClampNeg) ((xs x2.toNatClampNeg).toInt) rfl I9 I10 I11 I12 I13 I14 I15 I16 p17 p18) cw_RL_112 (jc_55 cI cL ad σ4 τ) rfl ⟨Nat.le_of_ble_eq_true rfl, Nat.le_of_ble_eq_true rfl⟩ rfl rfl rfl hl.1 rfl (Nat.le_of_ble_eq_true rfl) dL_law_891 ⟨Nat.le_of_ble_eq_true rfl, Nat.le_of_ble_eq_true rfl⟩ (fun r20 σ19 τ19 H locs h19 hP hS => ?_)
  obtain ⟨rfl, f21, f22, I23, p24, p25, h19⟩ := h19
  refine lv_pop hx hb dL_law_894 rfl ?_
  refine lv_goto (tgt := 1357) hx hb dL_law_895 (by decide) ?_
  obtain ⟨x26, ex26⟩ : ∃ y : Int32, y = x0 + 6 := ⟨_, rfl⟩
  have tx26 : x26.toInt = x0.toInt + 6 := (jadd ex26 rfl jz_6 (by omega) (by omega)).trans (by omega)
  refine lv_iinc (v := x26) (lv' := [(3, .int x26), (2, .ref (ad 55)), (1, .ref (ad 0)), (0, .ref b)]) hx hb dL_law_1357 hl (k := 0) rfl (by rw [ex26]; rfl) (by decide) rfl (fun ls hl => ?_)
  refine lv_goto (tgt := 18) hx hb dL_law_1360 (by decide) ?_
  have I27 : jI2 σ19 := jI2_fr ((congrFun (f21 2 (by decide)) 0).trans (congrFun (f6 2 (by decide)) 0)) ((congrFun (f21 2 (by decide)) 1).trans (congrFun (f6 2 (by decide)) 1)) ((congrFun (f21 2 (by decide)) 2).trans (congrFun (f6 2 (by decide)) 2)) ((congrFun (f21 2 (by decide)) 3).trans (congrFun (f6 2 (by decide)) 3)) ((f21 6 (by decide)).trans (f6 6 (by decide))) hI2
  have I28 : jI9 σ19 := jI9_fr ((congrFun (f21 9 (by decide)) 0).trans (congrFun (f6 9 (by decide)) 0)) ((f21 10 (by decide)).trans (f6 10 (by decide))) ((f21 11 (by decide)).trans (f6 11 (by decide))) hI9
  have I29 : jI12 σ19 := jI12_fr ((congrFun (f21 12 (by decide)) 0).trans (congrFun (f6 12 (by decide)) 0)) ((f21 13 (by decide)).trans (f6 13 (by decide))) hI12
  have I30 : jI16 σ19 := jI16_fr ((congrFun (f21 16 (by decide)) 0).trans (congrFun (f6 16 (by decide)) 0)) ((congrFun (f21 16 (by decide)) 1).trans (congrFun (f6 16 (by decide)) 1)) ((congrFun (f21 16 (by decide)) 2).trans (congrFun (f6 16 (by decide)) 2)) ((f21 17 (by decide)).trans (f6 17 (by decide))) hI16
  have I31 : jI18 σ19 := jI18_fr ((congrFun (f21 18 (by decide)) 0).trans (congrFun (f6 18 (by decide)) 0)) ((f21 19 (by decide)).trans (f6 19 (by decide))) hI18
  have I32 : jI22 σ19 := jI22_fr ((congrFun (f21 22 (by decide)) 0).trans (congrFun (f6 22 (by decide)) 0)) ((f21 23 (by decide)).trans (f6 23 (by decide))) hI22
  have I33 : jI31 σ19 := jI31_fr (congrFun (f21 31 (by decide)) 8) (f21 33 (by decide)) (f21 36 (by decide)) I8
  have I34 : jI38 σ19 := jI38_fr ((congrFun (f21 38 (by decide)) 0).trans (congrFun (f6 38 (by decide)) 0)) ((congrFun (f21 38 (by decide)) 1).trans (congrFun (f6 38 (by decide)) 1)) ((f21 39 (by decide)).trans (f6 39 (by decide))) hI38
  have I35 : jI43 σ19 := jI43_fr ((congrFun (f21 43 (by decide)) 8).trans (congrFun (f6 43 (by decide)) 8)) hI43
  have I36 : jI47 σ19 := jI47_fr ((congrFun (f21 47 (by decide)) 0).trans (congrFun (f6 47 (by decide)) 0)) ((f21 49 (by decide)).trans (f6 49 (by decide))) hI47
  have I37 : jI50 σ19 := jI50_fr ((f21 52 (by decide)).trans (f6 52 (by decide))) hI50
  have I38 : jI101 σ19 := jI101_fr (f22 4 (by decide)) (f22 5 (by decide)) (f21 56 (by decide)) (f21 57 (by decide)) (f21 58 (by decide)) (f21 59 (by decide)) I9
  have I39 : jI102 σ19 := jI102_fr (f22 6 (by decide)) (f21 60 (by decide)) (f21 61 (by decide)) I10
  have I40 : jI103 σ19 := jI103_fr (f22 9 (by decide)) I11
  have I41 : jI104 σ19 := jI104_fr (f22 10 (by decide)) (f22 12 (by decide)) (f22 13 (by decide)) (f21 62 (by decide)) (f21 67 (by decide)) I12
  have I42 : jI105 σ19 := jI105_fr (f22 15 (by decide)) (f21 65 (by decide)) I13
  have I43 : jI106 σ19 := jI106_fr (f22 32 (by decide)) (f21 70 (by decide)) (f21 71 (by decide)) (f21 72 (by decide)) I14
  have I44 : jI107 σ19 := jI107_fr (f22 12 (by decide)) (f22 47 (by decide)) (f21 80 (by decide)) I15
  have I45 : jI109 σ19 := jI109_fr ((f22 50 (by decide)).trans (congrFun (f6 55 (by decide)) 50)) hI109
  have I46 : jI110 σ19 := jI110_fr ((f21 86 (by decide)).trans (f6 86 (by decide))) ((f21 87 (by decide)).trans (f6 87 (by decide))) hI110
  have I47 : jI111 σ19 := jI111_fr ((f21 79 (by decide)).trans (f6 79 (by decide))) hI111
  have z48 : (σ19 2 0).toInt = (σ 2 0).toInt := (congrArg Int32.toInt (show σ19 2 0 = (σ 2 0) from ((congrFun (f21 2 (by decide)) 0).trans (congrFun (f6 2 (by decide)) 0))))
  have z49 : (σ19 55 6).toInt = (σ 55 6).toInt := (congrArg Int32.toInt (show σ19 55 6 = (σ 55 6) from ((f22 6 (by decide)).trans (congrFun (f6 55 (by decide)) 6))))
  exact ih x26 σ19 τ _ _ ls (by have h9 := tx26; omega) ⟨I27, I28, I29, I30, I31, I32, I33, I34, I35, I36, I37, I38, I39, I40, I41, I42, I43, I44, I45, I46, I47, I23, p24, p25, (by omega)⟩ hP hS (lv_sub hl [0, 1, 2, 3] rfl)
set_option maxHeartbeats 4000000 in
set_option maxRecDepth 100000 in
theorem law_case_24 {p : Program} {e : Env} {s : State} {m : MethodId} {below : List Frame} {meth : Method} {c : Code} (l : Launch) {b L : Nat} {xs : Nat → Int32} {D : va_G} {cI cL : ClassId} {ad zz : Nat → Nat} (C0 : lw_At p s m meth c b L xs) (hJ : jD ad) (hA : ∀ q, jA ad q → s.heap.size ≤ q) (hK : jK D cI cL s) (hZ : jZ zz (fun q : Nat => s.heap.size ≤ q) s s.heap) {x0 : Int32} (hx0 : 0 ≤ x0.toInt) (hxL : x0.toInt + 6 ≤ (L : Int)) (hL : L ≤ 384) {σ : Nat → Nat → Int32} {τ : Nat → Nat → Int64} {H : Heap} {locs : List Loc} (hS : va_S (fun q : Nat => s.heap.size ≤ q) s.heap H locs) {ls : Array Slot} (hAll : jAll σ τ) (hP : jH D cI cL ad σ τ H) (hl : lv_has ls 4 [(3, .int x0), (2, .ref (ad 55)), (1, .ref (ad 0)), (0, .ref b)]) (ih : ∀ (x1 : Int32) (σ : Nat → Nat → Int32) (τ : Nat → Nat → Int64) (H : Heap) (locs : List Loc) (ls : Array Slot), x1.toInt = x0.toInt + 6 → jAll σ τ → jH D cI cL ad σ τ H → va_S (fun q : Nat => s.heap.size ≤ q) s.heap H locs → lv_has ls 4 [(3, .int x1), (2, .ref (ad 55)), (1, .ref (ad 0)), (0, .ref b)] → W p l e room_1 s m #[Value.ref b] below meth c H locs 90 348600 (lw_Z below #[Value.ref b] s) (F0 m 18 ls [])) : W p l e room_1 s m #[Value.ref b] below meth c H locs 90 348600 (lw_Z below #[Value.ref b] s) (F0 m 898 ls []) := by
  obtain ⟨hx, hb, hr, hml, hown, hts0, hX, hbl, hlocks, hgv⟩ := C0
  have hts : ∀ w ∈ wsL_law, w.before #[Value.ref b] s = true := fun w h => hts0 w (wsL_law_in w h)
  have hbA : ¬ (fun q : Nat => s.heap.size ≤ q) b := Nat.not_le.mpr hbl
  have hown : s.vm.findClass RL = some m.cls := hown
  obtain ⟨hI2, hI9, hI12, hI16, hI18, hI22, hI31, hI38, hI43, hI47, hI50, hI101, hI102, hI103, hI104, hI105, hI106, hI107, hI109, hI110, hI111, hI119, hs_jKept, hs_jBook, ht0⟩ := hAll
  have hL9 : (L : Int) ≤ 384 := by omega
  refine lv_aload_n hx hb dL_law_898 rfl (lv_at hl 2 rfl) ?_
  refine lv_aload_n hx hb dL_law_899 rfl (lv_at hl 3 rfl) ?_
  refine lv_iload_n hx hb dL_law_900 rfl (lv_at hl 0 rfl) ?_
  refine lv_iconst (v := 1) hx hb dL_law_901 (by decide) ?_
  have g1 := jrg (rfl : x0.toInt = x0.toInt)
  refine lv_iadd hx hb dL_law_902 ?_
  refine lv_topi (fun x2 ex2 => ?_)
  have tx2 : x2.toInt = x0.toInt + 1 := (jadd ex2 rfl jz_1 (by omega) (by omega)).trans (by omega)
  refine va_sld hx hb hX hbl hbA hS (jin tx2 (by omega) (by omega)) dL_law_903 ?_
  have g3 := jrg (rfl : (xs x2.toNatClampNeg).toInt = (xs x2.toNatClampNeg).toInt)
  refine lv_aload_n hx hb dL_law_904 rfl (lv_at hl 3 rfl) ?_
  refine lv_iload_n hx hb dL_law_905 rfl (lv_at hl 0 rfl) ?_
  refine lv_iconst (v := 2) hx hb dL_law_906 (by decide) ?_
  refine lv_iadd hx hb dL_law_907 ?_
  refine lv_topi (fun x4 ex4 => ?_)
  have tx4 : x4.toInt = x0.toInt + 2 := (jadd ex4 rfl jz_2 (by omega) (by omega)).trans (by omega)
  refine va_sld hx hb hX hbl hbA hS (jin tx4 (by omega) (by omega)) dL_law_908 ?_
  have g5 := jrg (rfl : (xs x4.toNatClampNeg).toInt = (xs x4.toNatClampNeg).toInt)
  refine jcallV (As := [.int (xs x2.toNatClampNeg), .int (xs x4.toNatClampNeg)]) (rest := []) ⟨hx, hb, hml, hown, hts⟩ hK hP hA hS hZ (c_X11_game l D cI cL ad zz hJ σ τ (xs x2.toNatClampNeg) ((xs x2.toNatClampNeg).toInt) rfl (xs x4.toNatClampNeg) ((xs x4.toNatClampNeg).toInt) rfl hI2 hI16 hI18 hI22 hI31 hI38 hI43) cw_RL_113 (jc_0 cI cL ad σ τ) rfl ⟨Nat.le_of_ble_eq_true rfl, Nat.le_of_ble_eq_true rfl⟩ rfl rfl rfl hl.1 rfl (Nat.le_of_ble_eq_true rfl) dL_law_909 ⟨Nat.le_of_ble_eq_true rfl, Nat.le_of_ble_eq_true rfl⟩ (fun r7 σ6 τ6 H locs h6 hP hS => ?_)
  obtain ⟨rfl, f8, f9, f10, I11, I12, h6⟩ := h6
  refine lv_pop hx hb dL_law_912 rfl ?_
  refine lv_aload_n hx hb dL_law_913 rfl (lv_at hl 1 rfl) ?_
  refine lv_aload_n hx hb dL_law_914 rfl (lv_at hl 3 rfl) ?_
  refine lv_iload_n hx hb dL_law_915 rfl (lv_at hl 0 rfl) ?_
  refine lv_iconst (v := 1) hx hb dL_law_916 (by decide) ?_
  refine lv_iadd hx hb dL_law_917 ?_
  refine jtopr ex2.symm ?_
  refine va_sld hx hb hX hbl hbA hS (jin tx2 (by omega) (by omega)) dL_law_918 ?_
  refine lv_aload_n hx hb dL_law_919 rfl (lv_at hl 3 rfl) ?_
  refine lv_iload_n hx hb dL_law_920 rfl (lv_at hl 0 rfl) ?_
  refine lv_iconst (v := 2) hx hb dL_law_921 (by decide) ?_
  refine lv_iadd hx hb dL_law_922 ?_
  refine jtopr ex4.symm ?_
  refine va_sld hx hb hX hbl hbA hS (jin tx4 (by omega) (by omega)) dL_law_923 ?_
  have I13 : jI101 σ6 := jI101_fr (congrFun (f8 55 (by decide)) 4) (congrFun (f8 55 (by decide)) 5) (f8 56 (by decide)) (f8 57 (by decide)) (f8 58 (by decide)) (f8 59 (by decide)) hI101
  have I14 : jI102 σ6 := jI102_fr (congrFun (f8 55 (by decide)) 6) (f8 60 (by decide)) (f8 61 (by decide)) hI102
  have I15 : jI103 σ6 := jI103_fr (congrFun (f8 55 (by decide)) 9) hI103
  have I16 : jI104 σ6 := jI104_fr (congrFun (f8 55 (by decide)) 10) (congrFun (f8 55 (by decide)) 12) (congrFun (f8 55 (by decide)) 13) (f8 62 (by decide)) (f8 67 (by decide)) hI104
  have I17 : jI105 σ6 := jI105_fr (congrFun (f8 55 (by decide)) 15) (f8 65 (by decide)) hI105
  have I18 : jI106 σ6 := jI106_fr (congrFun (f8 55 (by decide)) 32) (f8 70 (by decide)) (f8 71 (by decide)) (f8 72 (by decide)) hI106
  have I19 : jI119 σ6 := jI119_fr (f8 68 (by decide)) hI119
  have I20 : jI109 σ6 := jI109_fr (congrFun (f8 55 (by decide)) 50) hI109
  have p21 : jKept σ6 := jKept.fr (f8 75 (by decide)) (f8 76 (by decide)) (f8 77 (by decide)) hs_jKept
  refine jcallV (As := [.int (xs x2.toNatClampNeg), .int (xs x4.toNatClampNeg)]) (rest := []) ⟨hx, hb, hml, hown, hts⟩ hK hP hA hS hZ (c_X12_game l D cI cL ad zz hJ σ6 τ (xs x2.toNatClampNeg) ((xs x2.toNatClampNeg).toInt) rfl (xs x4.toNatClampNeg) ((xs x4.toNatClampNeg).toInt) rfl I13 I14 I15 I16 I17 I18 I19 I20 p21) cw_RL_116 (jc_55 cI cL ad σ6 τ) rfl ⟨Nat.le_of_ble_eq_true rfl, Nat.le_of_ble_eq_true rfl⟩ rfl rfl rfl hl.1 rfl (Nat.le_of_ble_eq_true rfl) dL_law_924 ⟨Nat.le_of_ble_eq_true rfl, Nat.le_of_ble_eq_true rfl⟩ (fun r23 σ22 τ22 H locs h22 hP hS => ?_)
  obtain ⟨rfl, f24, f25, I26, I27, p28, h22⟩ := h22
  refine lv_pop hx hb dL_law_927 rfl ?_
  refine lv_goto (tgt := 1357) hx hb dL_law_928 (by decide) ?_
  obtain ⟨x29, ex29⟩ : ∃ y : Int32, y = x0 + 6 := ⟨_, rfl⟩
  have tx29 : x29.toInt = x0.toInt + 6 := (jadd ex29 rfl jz_6 (by omega) (by omega)).trans (by omega)
  refine lv_iinc (v := x29) (lv' := [(3, .int x29), (2, .ref (ad 55)), (1, .ref (ad 0)), (0, .ref b)]) hx hb dL_law_1357 hl (k := 0) rfl (by rw [ex29]; rfl) (by decide) rfl (fun ls hl => ?_)
  refine lv_goto (tgt := 18) hx hb dL_law_1360 (by decide) ?_
  have I30 : jI2 σ22 := jI2_fr ((congrFun (f24 2 (by decide)) 0).trans (congrFun (f8 2 (by decide)) 0)) ((congrFun (f24 2 (by decide)) 1).trans (congrFun (f8 2 (by decide)) 1)) ((congrFun (f24 2 (by decide)) 2).trans (congrFun (f8 2 (by decide)) 2)) ((congrFun (f24 2 (by decide)) 3).trans (congrFun (f8 2 (by decide)) 3)) ((f24 6 (by decide)).trans (f8 6 (by decide))) hI2
  have I31 : jI9 σ22 := jI9_fr ((congrFun (f24 9 (by decide)) 0).trans (congrFun (f8 9 (by decide)) 0)) ((f24 10 (by decide)).trans (f8 10 (by decide))) ((f24 11 (by decide)).trans (f8 11 (by decide))) hI9
  have I32 : jI12 σ22 := jI12_fr ((congrFun (f24 12 (by decide)) 0).trans (congrFun (f8 12 (by decide)) 0)) ((f24 13 (by decide)).trans (f8 13 (by decide))) hI12
  have I33 : jI16 σ22 := jI16_fr ((congrFun (f24 16 (by decide)) 0).trans (congrFun (f8 16 (by decide)) 0)) ((congrFun (f24 16 (by decide)) 1).trans (congrFun (f8 16 (by decide)) 1)) ((congrFun (f24 16 (by decide)) 2).trans (congrFun (f8 16 (by decide)) 2)) ((f24 17 (by decide)).trans (f8 17 (by decide))) hI16
  have I34 : jI18 σ22 := jI18_fr ((congrFun (f24 18 (by decide)) 0).trans (congrFun (f8 18 (by decide)) 0)) ((f24 19 (by decide)).trans (f8 19 (by decide))) hI18
  have I35 : jI22 σ22 := jI22_fr ((congrFun (f24 22 (by decide)) 0).trans (congrFun (f8 22 (by decide)) 0)) ((f24 23 (by decide)).trans (f8 23 (by decide))) hI22
  have I36 : jI31 σ22 := jI31_fr (congrFun (f24 31 (by decide)) 8) (f24 33 (by decide)) (f24 36 (by decide)) I11
  have I37 : jI38 σ22 := jI38_fr ((congrFun (f24 38 (by decide)) 0).trans (congrFun (f8 38 (by decide)) 0)) ((congrFun (f24 38 (by decide)) 1).trans (congrFun (f8 38 (by decide)) 1)) ((f24 39 (by decide)).trans (f8 39 (by decide))) hI38
  have I38 : jI43 σ22 := jI43_fr (congrFun (f24 43 (by decide)) 8) I12
  have I39 : jI47 σ22 := jI47_fr ((congrFun (f24 47 (by decide)) 0).trans (congrFun (f8 47 (by decide)) 0)) ((f24 49 (by decide)).trans (f8 49 (by decide))) hI47
  have I40 : jI50 σ22 := jI50_fr ((f24 52 (by decide)).trans (f8 52 (by decide))) hI50
  have I41 : jI101 σ22 := jI101_fr (f25 4 (by decide)) (f25 5 (by decide)) (f24 56 (by decide)) (f24 57 (by decide)) (f24 58 (by decide)) (f24 59 (by decide)) I13
  have I42 : jI102 σ22 := jI102_fr (f25 6 (by decide)) (f24 60 (by decide)) (f24 61 (by decide)) I14
  have I43 : jI103 σ22 := jI103_fr (f25 9 (by decide)) I15
  have I44 : jI104 σ22 := jI104_fr (f25 10 (by decide)) (f25 12 (by decide)) (f25 13 (by decide)) (f24 62 (by decide)) (f24 67 (by decide)) I16
  have I45 : jI105 σ22 := jI105_fr (f25 15 (by decide)) (f24 65 (by decide)) I17
  have I46 : jI106 σ22 := jI106_fr (f25 32 (by decide)) (f24 70 (by decide)) (f24 71 (by decide)) (f24 72 (by decide)) I18
  have I47 : jI107 σ22 := jI107_fr ((f25 12 (by decide)).trans (congrFun (f8 55 (by decide)) 12)) ((f25 47 (by decide)).trans (congrFun (f8 55 (by decide)) 47)) ((f24 80 (by decide)).trans (f8 80 (by decide))) hI107
  have I48 : jI110 σ22 := jI110_fr ((f24 86 (by decide)).trans (f8 86 (by decide))) ((f24 87 (by decide)).trans (f8 87 (by decide))) hI110
  have I49 : jI111 σ22 := jI111_fr ((f24 79 (by decide)).trans (f8 79 (by decide))) hI111
  have p50 : jBook σ22 := jBook.fr ((f25 47 (by decide)).trans (congrFun (f8 55 (by decide)) 47)) ((f25 10 (by decide)).trans (congrFun (f8 55 (by decide)) 10)) ((f24 81 (by decide)).trans (f8 81 (by decide))) hs_jBook
  have z51 : (σ22 2 0).toInt = (σ 2 0).toInt := (congrArg Int32.toInt (show σ22 2 0 = (σ 2 0) from ((congrFun (f24 2 (by decide)) 0).trans (congrFun (f8 2 (by decide)) 0))))
  have z52 : (σ22 55 6).toInt = (σ 55 6).toInt := (congrArg Int32.toInt (show σ22 55 6 = (σ 55 6) from ((f25 6 (by decide)).trans (congrFun (f8 55 (by decide)) 6))))
  exact ih x29 σ22 τ _ _ ls (by have h9 := tx29; omega) ⟨I30, I31, I32, I33, I34, I35, I36, I37, I38, I39, I40, I41, I42, I43, I44, I45, I46, I47, I26, I48, I49, I27, p28, p50, (by omega)⟩ hP hS (lv_sub hl [0, 1, 2, 3] rfl)
set_option maxHeartbeats 4000000 in
set_option maxRecDepth 100000 in
theorem law_case_25 {p : Program} {e : Env} {s : State} {m : MethodId} {below : List Frame} {meth : Method} {c : Code} (l : Launch) {b L : Nat} {xs : Nat → Int32} {D : va_G} {cI cL : ClassId} {ad zz : Nat → Nat} (C0 : lw_At p s m meth c b L xs) (hJ : jD ad) (hA : ∀ q, jA ad q → s.heap.size ≤ q) (hK : jK D cI cL s) (hZ : jZ zz (fun q : Nat => s.heap.size ≤ q) s s.heap) {x0 : Int32} (hx0 : 0 ≤ x0.toInt) (hxL : x0.toInt + 6 ≤ (L : Int)) (hL : L ≤ 384) {σ : Nat → Nat → Int32} {τ : Nat → Nat → Int64} {H : Heap} {locs : List Loc} (hS : va_S (fun q : Nat => s.heap.size ≤ q) s.heap H locs) {ls : Array Slot} (hAll : jAll σ τ) (hP : jH D cI cL ad σ τ H) (hl : lv_has ls 4 [(3, .int x0), (2, .ref (ad 55)), (1, .ref (ad 0)), (0, .ref b)]) (ih : ∀ (x1 : Int32) (σ : Nat → Nat → Int32) (τ : Nat → Nat → Int64) (H : Heap) (locs : List Loc) (ls : Array Slot), x1.toInt = x0.toInt + 6 → jAll σ τ → jH D cI cL ad σ τ H → va_S (fun q : Nat => s.heap.size ≤ q) s.heap H locs → lv_has ls 4 [(3, .int x1), (2, .ref (ad 55)), (1, .ref (ad 0)), (0, .ref b)] → W p l e room_1 s m #[Value.ref b] below meth c H locs 90 348600 (lw_Z below #[Value.ref b] s) (F0 m 18 ls [])) : W p l e room_1 s m #[Value.ref b] below meth c H locs 90 348600 (lw_Z below #[Value.ref b] s) (F0 m 931 ls []) := by
  obtain ⟨hx, hb, hr, hml, hown, hts0, hX, hbl, hlocks, hgv⟩ := C0
  have hts : ∀ w ∈ wsL_law, w.before #[Value.ref b] s = true := fun w h => hts0 w (wsL_law_in w h)
  have hbA : ¬ (fun q : Nat => s.heap.size ≤ q) b := Nat.not_le.mpr hbl
  have hown : s.vm.findClass RL = some m.cls := hown
  obtain ⟨hI2, hI9, hI12, hI16, hI18, hI22, hI31, hI38, hI43, hI47, hI50, hI101, hI102, hI103, hI104, hI105, hI106, hI107, hI109, hI110, hI111, hI119, hs_jKept, hs_jBook, ht0⟩ := hAll
  have hL9 : (L : Int) ≤ 384 := by omega
  refine lv_aload_n hx hb dL_law_931 rfl (lv_at hl 2 rfl) ?_
  refine lv_aload_n hx hb dL_law_932 rfl (lv_at hl 3 rfl) ?_
  refine lv_iload_n hx hb dL_law_933 rfl (lv_at hl 0 rfl) ?_
  refine lv_iconst (v := 1) hx hb dL_law_934 (by decide) ?_
  have g1 := jrg (rfl : x0.toInt = x0.toInt)
  refine lv_iadd hx hb dL_law_935 ?_
  refine lv_topi (fun x2 ex2 => ?_)
  have tx2 : x2.toInt = x0.toInt + 1 := (jadd ex2 rfl jz_1 (by omega) (by omega)).trans (by omega)
  refine va_sld hx hb hX hbl hbA hS (jin tx2 (by omega) (by omega)) dL_law_936 ?_
  have g3 := jrg (rfl : (xs x2.toNatClampNeg).toInt = (xs x2.toNatClampNeg).toInt)
  refine lv_aload_n hx hb dL_law_937 rfl (lv_at hl 3 rfl) ?_
  refine lv_iload_n hx hb dL_law_938 rfl (lv_at hl 0 rfl) ?_
  refine lv_iconst (v := 2) hx hb dL_law_939 (by decide) ?_
  refine lv_iadd hx hb dL_law_940 ?_
  refine lv_topi (fun x4 ex4 => ?_)
  have tx4 : x4.toInt = x0.toInt + 2 := (jadd ex4 rfl jz_2 (by omega) (by omega)).trans (by omega)
  refine va_sld hx hb hX hbl hbA hS (jin tx4 (by omega) (by omega)) dL_law_941 ?_
  have g5 := jrg (rfl : (xs x4.toNatClampNeg).toInt = (xs x4.toNatClampNeg).toInt)
  refine jcallV (As := [.int (xs x2.toNatClampNeg), .int (xs x4.toNatClampNeg)]) (rest := []) ⟨hx, hb, hml, hown, hts⟩ hK hP hA hS hZ (c_X11_led l D cI cL ad zz hJ σ τ (xs x2.toNatClampNeg) ((xs x2.toNatClampNeg).toInt) rfl (xs x4.toNatClampNeg) ((xs x4.toNatClampNeg).toInt) rfl hI43) cw_RL_117 (jc_0 cI cL ad σ τ) rfl ⟨Nat.le_of_ble_eq_true rfl, Nat.le_of_ble_eq_true rfl⟩ rfl rfl rfl hl.1 rfl (Nat.le_of_ble_eq_true rfl) dL_law_942 ⟨Nat.le_of_ble_eq_true rfl, Nat.le_of_ble_eq_true rfl⟩ (fun r7 σ6 τ6 H locs h6 hP hS => ?_)
  obtain ⟨⟨rfl, rfl⟩, h6⟩ := h6
  refine lv_pop hx hb dL_law_945 rfl ?_
  refine lv_aload_n hx hb dL_law_946 rfl (lv_at hl 1 rfl) ?_
  refine lv_aload_n hx hb dL_law_947 rfl (lv_at hl 3 rfl) ?_
  refine lv_iload_n hx hb dL_law_948 rfl (lv_at hl 0 rfl) ?_
  refine lv_iconst (v := 1) hx hb dL_law_949 (by decide) ?_
  refine lv_iadd hx hb dL_law_950 ?_
  refine jtopr ex2.symm ?_
  refine va_sld hx hb hX hbl hbA hS (jin tx2 (by omega) (by omega)) dL_law_951 ?_
  refine lv_aload_n hx hb dL_law_952 rfl (lv_at hl 3 rfl) ?_
  refine lv_iload_n hx hb dL_law_953 rfl (lv_at hl 0 rfl) ?_
  refine lv_iconst (v := 2) hx hb dL_law_954 (by decide) ?_
  refine lv_iadd hx hb dL_law_955 ?_
  refine jtopr ex4.symm ?_
  refine va_sld hx hb hX hbl hbA hS (jin tx4 (by omega) (by omega)) dL_law_956 ?_
  refine jcallV (As := [.int (xs x2.toNatClampNeg), .int (xs x4.toNatClampNeg)]) (rest := []) ⟨hx, hb, hml, hown, hts⟩ hK hP hA hS hZ (c_X12_led l D cI cL ad zz hJ σ τ (xs x2.toNatClampNeg) ((xs x2.toNatClampNeg).toInt) rfl (xs x4.toNatClampNeg) ((xs x4.toNatClampNeg).toInt) rfl hI109) cw_RL_120 (jc_55 cI cL ad σ τ) rfl ⟨Nat.le_of_ble_eq_true rfl, Nat.le_of_ble_eq_true rfl⟩ rfl rfl rfl hl.1 rfl (Nat.le_of_ble_eq_true rfl) dL_law_957 ⟨Nat.le_of_ble_eq_true rfl, Nat.le_of_ble_eq_true rfl⟩ (fun r9 σ8 τ8 H locs h8 hP hS => ?_)
  obtain ⟨⟨rfl, rfl⟩, h8⟩ := h8
  refine lv_pop hx hb dL_law_960 rfl ?_
  refine lv_goto (tgt := 1357) hx hb dL_law_961 (by decide) ?_
  obtain ⟨x10, ex10⟩ : ∃ y : Int32, y = x0 + 6 := ⟨_, rfl⟩
  have tx10 : x10.toInt = x0.toInt + 6 := (jadd ex10 rfl jz_6 (by omega) (by omega)).trans (by omega)
  refine lv_iinc (v := x10) (lv' := [(3, .int x10), (2, .ref (ad 55)), (1, .ref (ad 0)), (0, .ref b)]) hx hb dL_law_1357 hl (k := 0) rfl (by rw [ex10]; rfl) (by decide) rfl (fun ls hl => ?_)
  refine lv_goto (tgt := 18) hx hb dL_law_1360 (by decide) ?_
  exact ih x10 σ τ _ _ ls (by have h9 := tx10; omega) ⟨hI2, hI9, hI12, hI16, hI18, hI22, hI31, hI38, hI43, hI47, hI50, hI101, hI102, hI103, hI104, hI105, hI106, hI107, hI109, hI110, hI111, hI119, hs_jKept, hs_jBook, (by omega)⟩ hP hS (lv_sub hl [0, 1, 2, 3] rfl)
set_option maxHeartbeats 4000000 in
set_option maxRecDepth 100000 in
theorem law_case_26 {p : Program} {e : Env} {s : State} {m : MethodId} {below : List Frame} {meth : Method} {c : Code} (l : Launch) {b L : Nat} {xs : Nat → Int32} {D : va_G} {cI cL : ClassId} {ad zz : Nat → Nat} (C0 : lw_At p s m meth c b L xs) (hJ : jD ad) (hA : ∀ q, jA ad q → s.heap.size ≤ q) (hK : jK D cI cL s) (hZ : jZ zz (fun q : Nat => s.heap.size ≤ q) s s.heap) {x0 : Int32} (hx0 : 0 ≤ x0.toInt) (hxL : x0.toInt + 6 ≤ (L : Int)) (hL : L ≤ 384) {σ : Nat → Nat → Int32} {τ : Nat → Nat → Int64} {H : Heap} {locs : List Loc} (hS : va_S (fun q : Nat => s.heap.size ≤ q) s.heap H locs) {ls : Array Slot} (hAll : jAll σ τ) (hP : jH D cI cL ad σ τ H) (hl : lv_has ls 4 [(3, .int x0), (2, .ref (ad 55)), (1, .ref (ad 0)), (0, .ref b)]) (ih : ∀ (x1 : Int32) (σ : Nat → Nat → Int32) (τ : Nat → Nat → Int64) (H : Heap) (locs : List Loc) (ls : Array Slot), x1.toInt = x0.toInt + 6 → jAll σ τ → jH D cI cL ad σ τ H → va_S (fun q : Nat => s.heap.size ≤ q) s.heap H locs → lv_has ls 4 [(3, .int x1), (2, .ref (ad 55)), (1, .ref (ad 0)), (0, .ref b)] → W p l e room_1 s m #[Value.ref b] below meth c H locs 90 348600 (lw_Z below #[Value.ref b] s) (F0 m 18 ls [])) : W p l e room_1 s m #[Value.ref b] below meth c H locs 90 348600 (lw_Z below #[Value.ref b] s) (F0 m 964 ls []) := by
  obtain ⟨hx, hb, hr, hml, hown, hts0, hX, hbl, hlocks, hgv⟩ := C0
  have hts : ∀ w ∈ wsL_law, w.before #[Value.ref b] s = true := fun w h => hts0 w (wsL_law_in w h)
  have hbA : ¬ (fun q : Nat => s.heap.size ≤ q) b := Nat.not_le.mpr hbl
  have hown : s.vm.findClass RL = some m.cls := hown
  obtain ⟨hI2, hI9, hI12, hI16, hI18, hI22, hI31, hI38, hI43, hI47, hI50, hI101, hI102, hI103, hI104, hI105, hI106, hI107, hI109, hI110, hI111, hI119, hs_jKept, hs_jBook, ht0⟩ := hAll
  have hL9 : (L : Int) ≤ 384 := by omega
  refine lv_aload_n hx hb dL_law_964 rfl (lv_at hl 2 rfl) ?_
  refine jcallV (As := []) (rest := []) ⟨hx, hb, hml, hown, hts⟩ hK hP hA hS hZ (c_X11_undo l D cI cL ad zz hJ σ τ hI2) cw_RL_121 (jc_0 cI cL ad σ τ) rfl ⟨Nat.le_of_ble_eq_true rfl, Nat.le_of_ble_eq_true rfl⟩ rfl rfl rfl hl.1 rfl (Nat.le_of_ble_eq_true rfl) dL_law_965 ⟨Nat.le_of_ble_eq_true rfl, Nat.le_of_ble_eq_true rfl⟩ (fun r2 σ1 τ1 H locs h1 hP hS => ?_)
  obtain ⟨rfl, f3, f4, I5, h1⟩ := h1
  rcases h1 with h6 | h7
  · obtain ⟨q12, k8, k9, k10, k11⟩ := h6
    have q12 := q12.symm
    subst q12
    refine lv_pop hx hb dL_law_968 rfl ?_
    refine lv_aload_n hx hb dL_law_969 rfl (lv_at hl 1 rfl) ?_
    have I13 : jI101 σ1 := jI101_fr (congrFun (f3 55 (by decide)) 4) (congrFun (f3 55 (by decide)) 5) (f3 56 (by decide)) (f3 57 (by decide)) (f3 58 (by decide)) (f3 59 (by decide)) hI101
    have z14 : (σ1 55 5).toInt = (σ 55 5).toInt := (congrArg Int32.toInt (show σ1 55 5 = (σ 55 5) from (congrFun (f3 55 (by decide)) 5)))
    refine jcallV (As := []) (rest := []) ⟨hx, hb, hml, hown, hts⟩ hK hP hA hS hZ (c_X12_undo l D cI cL ad zz hJ σ1 τ I13) cw_RL_124 (jc_55 cI cL ad σ1 τ) rfl ⟨Nat.le_of_ble_eq_true rfl, Nat.le_of_ble_eq_true rfl⟩ rfl rfl rfl hl.1 rfl (Nat.le_of_ble_eq_true rfl) dL_law_970 ⟨Nat.le_of_ble_eq_true rfl, Nat.le_of_ble_eq_true rfl⟩ (fun r16 σ15 τ15 H locs h15 hP hS => ?_)
    obtain ⟨rfl, f17, f18, I19, h15⟩ := h15
    rcases h15 with h20 | h21
    · obtain ⟨q25, k22, k23, k24⟩ := h20
      have q25 := q25.symm
      subst q25
      refine lv_pop hx hb dL_law_973 rfl ?_
      refine lv_goto (tgt := 1357) hx hb dL_law_974 (by decide) ?_
      obtain ⟨x26, ex26⟩ : ∃ y : Int32, y = x0 + 6 := ⟨_, rfl⟩
      have tx26 : x26.toInt = x0.toInt + 6 := (jadd ex26 rfl jz_6 (by omega) (by omega)).trans (by omega)
      refine lv_iinc (v := x26) (lv' := [(3, .int x26), (2, .ref (ad 55)), (1, .ref (ad 0)), (0, .ref b)]) hx hb dL_law_1357 hl (k := 0) rfl (by rw [ex26]; rfl) (by decide) rfl (fun ls hl => ?_)
      refine lv_goto (tgt := 18) hx hb dL_law_1360 (by decide) ?_
      have I27 : jI2 σ15 := jI2_fr (congrFun (f17 2 (by decide)) 0) (congrFun (f17 2 (by decide)) 1) (congrFun (f17 2 (by decide)) 2) (congrFun (f17 2 (by decide)) 3) (f17 6 (by decide)) I5
      have I28 : jI9 σ15 := jI9_fr ((congrFun (f17 9 (by decide)) 0).trans (congrFun (f3 9 (by decide)) 0)) ((f17 10 (by decide)).trans (f3 10 (by decide))) ((f17 11 (by decide)).trans (f3 11 (by decide))) hI9
      have I29 : jI12 σ15 := jI12_fr ((congrFun (f17 12 (by decide)) 0).trans (congrFun (f3 12 (by decide)) 0)) ((f17 13 (by decide)).trans (f3 13 (by decide))) hI12
      have I30 : jI16 σ15 := jI16_fr ((congrFun (f17 16 (by decide)) 0).trans (congrFun (f3 16 (by decide)) 0)) ((congrFun (f17 16 (by decide)) 1).trans (congrFun (f3 16 (by decide)) 1)) ((congrFun (f17 16 (by decide)) 2).trans (congrFun (f3 16 (by decide)) 2)) ((f17 17 (by decide)).trans (f3 17 (by decide))) hI16
      have I31 : jI18 σ15 := jI18_fr ((congrFun (f17 18 (by decide)) 0).trans (congrFun (f3 18 (by decide)) 0)) ((f17 19 (by decide)).trans (f3 19 (by decide))) hI18
      have I32 : jI22 σ15 := jI22_fr ((congrFun (f17 22 (by decide)) 0).trans (congrFun (f3 22 (by decide)) 0)) ((f17 23 (by decide)).trans (f3 23 (by decide))) hI22
      have I33 : jI31 σ15 := jI31_fr ((congrFun (f17 31 (by decide)) 8).trans (congrFun (f3 31 (by decide)) 8)) ((f17 33 (by decide)).trans (f3 33 (by decide))) ((f17 36 (by decide)).trans (f3 36 (by decide))) hI31
      have I34 : jI38 σ15 := jI38_fr ((congrFun (f17 38 (by decide)) 0).trans (congrFun (f3 38 (by decide)) 0)) ((congrFun (f17 38 (by decide)) 1).trans (congrFun (f3 38 (by decide)) 1)) ((f17 39 (by decide)).trans (f3 39 (by decide))) hI38
      have I35 : jI43 σ15 := jI43_fr ((congrFun (f17 43 (by decide)) 8).trans (congrFun (f3 43 (by decide)) 8)) hI43
      have I36 : jI47 σ15 := jI47_fr ((congrFun (f17 47 (by decide)) 0).trans (congrFun (f3 47 (by decide)) 0)) ((f17 49 (by decide)).trans (f3 49 (by decide))) hI47
      have I37 : jI50 σ15 := jI50_fr ((f17 52 (by decide)).trans (f3 52 (by decide))) hI50
      have I38 : jI102 σ15 := jI102_fr ((f18 6 (by decide)).trans (congrFun (f3 55 (by decide)) 6)) ((f17 60 (by decide)).trans (f3 60 (by decide))) ((f17 61 (by decide)).trans (f3 61 (by decide))) hI102
      have I39 : jI103 σ15 := jI103_fr ((f18 9 (by decide)).trans (congrFun (f3 55 (by decide)) 9)) hI103
      have I40 : jI104 σ15 := jI104_fr ((f18 10 (by decide)).trans (congrFun (f3 55 (by decide)) 10)) ((f18 12 (by decide)).trans (congrFun (f3 55 (by decide)) 12)) ((f18 13 (by decide)).trans (congrFun (f3 55 (by decide)) 13)) ((f17 62 (by decide)).trans (f3 62 (by decide))) ((f17 67 (by decide)).trans (f3 67 (by decide))) hI104
      have I41 : jI105 σ15 := jI105_fr ((f18 15 (by decide)).trans (congrFun (f3 55 (by decide)) 15)) ((f17 65 (by decide)).trans (f3 65 (by decide))) hI105
      have I42 : jI106 σ15 := jI106_fr ((f18 32 (by decide)).trans (congrFun (f3 55 (by decide)) 32)) ((f17 70 (by decide)).trans (f3 70 (by decide))) ((f17 71 (by decide)).trans (f3 71 (by decide))) ((f17 72 (by decide)).trans (f3 72 (by decide))) hI106
      have I43 : jI107 σ15 := jI107_fr ((f18 12 (by decide)).trans (congrFun (f3 55 (by decide)) 12)) ((f18 47 (by decide)).trans (congrFun (f3 55 (by decide)) 47)) ((f17 80 (by decide)).trans (f3 80 (by decide))) hI107
      have I44 : jI109 σ15 := jI109_fr ((f18 50 (by decide)).trans (congrFun (f3 55 (by decide)) 50)) hI109
      have I45 : jI110 σ15 := jI110_fr ((f17 86 (by decide)).trans (f3 86 (by decide))) ((f17 87 (by decide)).trans (f3 87 (by decide))) hI110
      have I46 : jI111 σ15 := jI111_fr ((f17 79 (by decide)).trans (f3 79 (by decide))) hI111
      have I47 : jI119 σ15 := jI119_fr ((f17 68 (by decide)).trans (f3 68 (by decide))) hI119
      have p48 : jKept σ15 := jKept.fr ((f17 75 (by decide)).trans (f3 75 (by decide))) ((f17 76 (by decide)).trans (f3 76 (by decide))) ((f17 77 (by decide)).trans (f3 77 (by decide))) hs_jKept
      have p49 : jBook σ15 := jBook.fr ((f18 47 (by decide)).trans (congrFun (f3 55 (by decide)) 47)) ((f18 10 (by decide)).trans (congrFun (f3 55 (by decide)) 10)) ((f17 81 (by decide)).trans (f3 81 (by decide))) hs_jBook
      have z50 : (σ15 2 0).toInt = (σ 2 0).toInt := (congrArg Int32.toInt (show σ15 2 0 = (σ 2 0) from ((congrFun (f17 2 (by decide)) 0).trans (f4 0 (by decide)))))
      have z51 : (σ15 55 6).toInt = (σ 55 6).toInt := (congrArg Int32.toInt (show σ15 55 6 = (σ 55 6) from ((f18 6 (by decide)).trans (congrFun (f3 55 (by decide)) 6))))
      exact ih x26 σ15 τ _ _ ls (by have h9 := tx26; omega) ⟨I27, I28, I29, I30, I31, I32, I33, I34, I35, I36, I37, I19, I38, I39, I40, I41, I42, I43, I44, I45, I46, I47, p48, p49, (by omega)⟩ hP hS (lv_sub hl [0, 1, 2, 3] rfl)
    · obtain ⟨q57, k52, k53, k54, k55, k56⟩ := h21
      refine lv_pop hx hb dL_law_973 rfl ?_
      refine lv_goto (tgt := 1357) hx hb dL_law_974 (by decide) ?_
      obtain ⟨x58, ex58⟩ : ∃ y : Int32, y = x0 + 6 := ⟨_, rfl⟩
      have tx58 : x58.toInt = x0.toInt + 6 := (jadd ex58 rfl jz_6 (by omega) (by omega)).trans (by omega)
      refine lv_iinc (v := x58) (lv' := [(3, .int x58), (2, .ref (ad 55)), (1, .ref (ad 0)), (0, .ref b)]) hx hb dL_law_1357 hl (k := 0) rfl (by rw [ex58]; rfl) (by decide) rfl (fun ls hl => ?_)
      refine lv_goto (tgt := 18) hx hb dL_law_1360 (by decide) ?_
      have I59 : jI2 σ15 := jI2_fr (congrFun (f17 2 (by decide)) 0) (congrFun (f17 2 (by decide)) 1) (congrFun (f17 2 (by decide)) 2) (congrFun (f17 2 (by decide)) 3) (f17 6 (by decide)) I5
      have I60 : jI9 σ15 := jI9_fr ((congrFun (f17 9 (by decide)) 0).trans (congrFun (f3 9 (by decide)) 0)) ((f17 10 (by decide)).trans (f3 10 (by decide))) ((f17 11 (by decide)).trans (f3 11 (by decide))) hI9
      have I61 : jI12 σ15 := jI12_fr ((congrFun (f17 12 (by decide)) 0).trans (congrFun (f3 12 (by decide)) 0)) ((f17 13 (by decide)).trans (f3 13 (by decide))) hI12
      have I62 : jI16 σ15 := jI16_fr ((congrFun (f17 16 (by decide)) 0).trans (congrFun (f3 16 (by decide)) 0)) ((congrFun (f17 16 (by decide)) 1).trans (congrFun (f3 16 (by decide)) 1)) ((congrFun (f17 16 (by decide)) 2).trans (congrFun (f3 16 (by decide)) 2)) ((f17 17 (by decide)).trans (f3 17 (by decide))) hI16
      have I63 : jI18 σ15 := jI18_fr ((congrFun (f17 18 (by decide)) 0).trans (congrFun (f3 18 (by decide)) 0)) ((f17 19 (by decide)).trans (f3 19 (by decide))) hI18
      have I64 : jI22 σ15 := jI22_fr ((congrFun (f17 22 (by decide)) 0).trans (congrFun (f3 22 (by decide)) 0)) ((f17 23 (by decide)).trans (f3 23 (by decide))) hI22
      have I65 : jI31 σ15 := jI31_fr ((congrFun (f17 31 (by decide)) 8).trans (congrFun (f3 31 (by decide)) 8)) ((f17 33 (by decide)).trans (f3 33 (by decide))) ((f17 36 (by decide)).trans (f3 36 (by decide))) hI31
      have I66 : jI38 σ15 := jI38_fr ((congrFun (f17 38 (by decide)) 0).trans (congrFun (f3 38 (by decide)) 0)) ((congrFun (f17 38 (by decide)) 1).trans (congrFun (f3 38 (by decide)) 1)) ((f17 39 (by decide)).trans (f3 39 (by decide))) hI38
      have I67 : jI43 σ15 := jI43_fr ((congrFun (f17 43 (by decide)) 8).trans (congrFun (f3 43 (by decide)) 8)) hI43
      have I68 : jI47 σ15 := jI47_fr ((congrFun (f17 47 (by decide)) 0).trans (congrFun (f3 47 (by decide)) 0)) ((f17 49 (by decide)).trans (f3 49 (by decide))) hI47
      have I69 : jI50 σ15 := jI50_fr ((f17 52 (by decide)).trans (f3 52 (by decide))) hI50
      have I70 : jI102 σ15 := jI102_fr ((f18 6 (by decide)).trans (congrFun (f3 55 (by decide)) 6)) ((f17 60 (by decide)).trans (f3 60 (by decide))) ((f17 61 (by decide)).trans (f3 61 (by decide))) hI102
      have I71 : jI103 σ15 := jI103_fr ((f18 9 (by decide)).trans (congrFun (f3 55 (by decide)) 9)) hI103
      have I72 : jI104 σ15 := jI104_fr ((f18 10 (by decide)).trans (congrFun (f3 55 (by decide)) 10)) ((f18 12 (by decide)).trans (congrFun (f3 55 (by decide)) 12)) ((f18 13 (by decide)).trans (congrFun (f3 55 (by decide)) 13)) ((f17 62 (by decide)).trans (f3 62 (by decide))) ((f17 67 (by decide)).trans (f3 67 (by decide))) hI104
      have I73 : jI105 σ15 := jI105_fr ((f18 15 (by decide)).trans (congrFun (f3 55 (by decide)) 15)) ((f17 65 (by decide)).trans (f3 65 (by decide))) hI105
      have I74 : jI106 σ15 := jI106_fr ((f18 32 (by decide)).trans (congrFun (f3 55 (by decide)) 32)) ((f17 70 (by decide)).trans (f3 70 (by decide))) ((f17 71 (by decide)).trans (f3 71 (by decide))) ((f17 72 (by decide)).trans (f3 72 (by decide))) hI106
      have I75 : jI107 σ15 := jI107_fr ((f18 12 (by decide)).trans (congrFun (f3 55 (by decide)) 12)) ((f18 47 (by decide)).trans (congrFun (f3 55 (by decide)) 47)) ((f17 80 (by decide)).trans (f3 80 (by decide))) hI107
      have I76 : jI109 σ15 := jI109_fr ((f18 50 (by decide)).trans (congrFun (f3 55 (by decide)) 50)) hI109
      have I77 : jI110 σ15 := jI110_fr ((f17 86 (by decide)).trans (f3 86 (by decide))) ((f17 87 (by decide)).trans (f3 87 (by decide))) hI110
      have I78 : jI111 σ15 := jI111_fr ((f17 79 (by decide)).trans (f3 79 (by decide))) hI111
      have I79 : jI119 σ15 := jI119_fr ((f17 68 (by decide)).trans (f3 68 (by decide))) hI119
      have p80 : jKept σ15 := jKept.fr ((f17 75 (by decide)).trans (f3 75 (by decide))) ((f17 76 (by decide)).trans (f3 76 (by decide))) ((f17 77 (by decide)).trans (f3 77 (by decide))) hs_jKept
      have p81 : jBook σ15 := jBook.fr ((f18 47 (by decide)).trans (congrFun (f3 55 (by decide)) 47)) ((f18 10 (by decide)).trans (congrFun (f3 55 (by decide)) 10)) ((f17 81 (by decide)).trans (f3 81 (by decide))) hs_jBook
      have z82 : (σ15 2 0).toInt = (σ 2 0).toInt := (congrArg Int32.toInt (show σ15 2 0 = (σ 2 0) from ((congrFun (f17 2 (by decide)) 0).trans (f4 0 (by decide)))))
      have z83 : (σ15 55 6).toInt = (σ 55 6).toInt := (congrArg Int32.toInt (show σ15 55 6 = (σ 55 6) from ((f18 6 (by decide)).trans (congrFun (f3 55 (by decide)) 6))))
      exact ih x58 σ15 τ _ _ ls (by have h9 := tx58; omega) ⟨I59, I60, I61, I62, I63, I64, I65, I66, I67, I68, I69, I19, I70, I71, I72, I73, I74, I75, I76, I77, I78, I79, p80, p81, (by omega)⟩ hP hS (lv_sub hl [0, 1, 2, 3] rfl)
  · obtain ⟨q90, k84, k85, k86, k87, k88, k89⟩ := h7
    refine lv_pop hx hb dL_law_968 rfl ?_
    refine lv_aload_n hx hb dL_law_969 rfl (lv_at hl 1 rfl) ?_
    have I91 : jI101 σ1 := jI101_fr (congrFun (f3 55 (by decide)) 4) (congrFun (f3 55 (by decide)) 5) (f3 56 (by decide)) (f3 57 (by decide)) (f3 58 (by decide)) (f3 59 (by decide)) hI101
    have z92 : (σ1 55 5).toInt = (σ 55 5).toInt := (congrArg Int32.toInt (show σ1 55 5 = (σ 55 5) from (congrFun (f3 55 (by decide)) 5)))
    refine jcallV (As := []) (rest := []) ⟨hx, hb, hml, hown, hts⟩ hK hP hA hS hZ (c_X12_undo l D cI cL ad zz hJ σ1 τ I91) cw_RL_124 (jc_55 cI cL ad σ1 τ) rfl ⟨Nat.le_of_ble_eq_true rfl, Nat.le_of_ble_eq_true rfl⟩ rfl rfl rfl hl.1 rfl (Nat.le_of_ble_eq_true rfl) dL_law_970 ⟨Nat.le_of_ble_eq_true rfl, Nat.le_of_ble_eq_true rfl⟩ (fun r94 σ93 τ93 H locs h93 hP hS => ?_)
    obtain ⟨rfl, f95, f96, I97, h93⟩ := h93
    rcases h93 with h98 | h99
    · obtain ⟨q103, k100, k101, k102⟩ := h98
      have q103 := q103.symm
      subst q103
      refine lv_pop hx hb dL_law_973 rfl ?_
      refine lv_goto (tgt := 1357) hx hb dL_law_974 (by decide) ?_
      obtain ⟨x104, ex104⟩ : ∃ y : Int32, y = x0 + 6 := ⟨_, rfl⟩
      have tx104 : x104.toInt = x0.toInt + 6 := (jadd ex104 rfl jz_6 (by omega) (by omega)).trans (by omega)
      refine lv_iinc (v := x104) (lv' := [(3, .int x104), (2, .ref (ad 55)), (1, .ref (ad 0)), (0, .ref b)]) hx hb dL_law_1357 hl (k := 0) rfl (by rw [ex104]; rfl) (by decide) rfl (fun ls hl => ?_)
      refine lv_goto (tgt := 18) hx hb dL_law_1360 (by decide) ?_
      have I105 : jI2 σ93 := jI2_fr (congrFun (f95 2 (by decide)) 0) (congrFun (f95 2 (by decide)) 1) (congrFun (f95 2 (by decide)) 2) (congrFun (f95 2 (by decide)) 3) (f95 6 (by decide)) I5
      have I106 : jI9 σ93 := jI9_fr ((congrFun (f95 9 (by decide)) 0).trans (congrFun (f3 9 (by decide)) 0)) ((f95 10 (by decide)).trans (f3 10 (by decide))) ((f95 11 (by decide)).trans (f3 11 (by decide))) hI9
      have I107 : jI12 σ93 := jI12_fr ((congrFun (f95 12 (by decide)) 0).trans (congrFun (f3 12 (by decide)) 0)) ((f95 13 (by decide)).trans (f3 13 (by decide))) hI12
      have I108 : jI16 σ93 := jI16_fr ((congrFun (f95 16 (by decide)) 0).trans (congrFun (f3 16 (by decide)) 0)) ((congrFun (f95 16 (by decide)) 1).trans (congrFun (f3 16 (by decide)) 1)) ((congrFun (f95 16 (by decide)) 2).trans (congrFun (f3 16 (by decide)) 2)) ((f95 17 (by decide)).trans (f3 17 (by decide))) hI16
      have I109 : jI18 σ93 := jI18_fr ((congrFun (f95 18 (by decide)) 0).trans (congrFun (f3 18 (by decide)) 0)) ((f95 19 (by decide)).trans (f3 19 (by decide))) hI18
      have I110 : jI22 σ93 := jI22_fr ((congrFun (f95 22 (by decide)) 0).trans (congrFun (f3 22 (by decide)) 0)) ((f95 23 (by decide)).trans (f3 23 (by decide))) hI22
      have I111 : jI31 σ93 := jI31_fr ((congrFun (f95 31 (by decide)) 8).trans (congrFun (f3 31 (by decide)) 8)) ((f95 33 (by decide)).trans (f3 33 (by decide))) ((f95 36 (by decide)).trans (f3 36 (by decide))) hI31
      have I112 : jI38 σ93 := jI38_fr ((congrFun (f95 38 (by decide)) 0).trans (congrFun (f3 38 (by decide)) 0)) ((congrFun (f95 38 (by decide)) 1).trans (congrFun (f3 38 (by decide)) 1)) ((f95 39 (by decide)).trans (f3 39 (by decide))) hI38
      have I113 : jI43 σ93 := jI43_fr ((congrFun (f95 43 (by decide)) 8).trans (congrFun (f3 43 (by decide)) 8)) hI43
      have I114 : jI47 σ93 := jI47_fr ((congrFun (f95 47 (by decide)) 0).trans (congrFun (f3 47 (by decide)) 0)) ((f95 49 (by decide)).trans (f3 49 (by decide))) hI47
      have I115 : jI50 σ93 := jI50_fr ((f95 52 (by decide)).trans (f3 52 (by decide))) hI50
      have I116 : jI102 σ93 := jI102_fr ((f96 6 (by decide)).trans (congrFun (f3 55 (by decide)) 6)) ((f95 60 (by decide)).trans (f3 60 (by decide))) ((f95 61 (by decide)).trans (f3 61 (by decide))) hI102
      have I117 : jI103 σ93 := jI103_fr ((f96 9 (by decide)).trans (congrFun (f3 55 (by decide)) 9)) hI103
      have I118 : jI104 σ93 := jI104_fr ((f96 10 (by decide)).trans (congrFun (f3 55 (by decide)) 10)) ((f96 12 (by decide)).trans (congrFun (f3 55 (by decide)) 12)) ((f96 13 (by decide)).trans (congrFun (f3 55 (by decide)) 13)) ((f95 62 (by decide)).trans (f3 62 (by decide))) ((f95 67 (by decide)).trans (f3 67 (by decide))) hI104
      have I119 : jI105 σ93 := jI105_fr ((f96 15 (by decide)).trans (congrFun (f3 55 (by decide)) 15)) ((f95 65 (by decide)).trans (f3 65 (by decide))) hI105
      have I120 : jI106 σ93 := jI106_fr ((f96 32 (by decide)).trans (congrFun (f3 55 (by decide)) 32)) ((f95 70 (by decide)).trans (f3 70 (by decide))) ((f95 71 (by decide)).trans (f3 71 (by decide))) ((f95 72 (by decide)).trans (f3 72 (by decide))) hI106
      have I121 : jI107 σ93 := jI107_fr ((f96 12 (by decide)).trans (congrFun (f3 55 (by decide)) 12)) ((f96 47 (by decide)).trans (congrFun (f3 55 (by decide)) 47)) ((f95 80 (by decide)).trans (f3 80 (by decide))) hI107
      have I122 : jI109 σ93 := jI109_fr ((f96 50 (by decide)).trans (congrFun (f3 55 (by decide)) 50)) hI109
      have I123 : jI110 σ93 := jI110_fr ((f95 86 (by decide)).trans (f3 86 (by decide))) ((f95 87 (by decide)).trans (f3 87 (by decide))) hI110
      have I124 : jI111 σ93 := jI111_fr ((f95 79 (by decide)).trans (f3 79 (by decide))) hI111
      have I125 : jI119 σ93 := jI119_fr ((f95 68 (by decide)).trans (f3 68 (by decide))) hI119
      have p126 : jKept σ93 := jKept.fr ((f95 75 (by decide)).trans (f3 75 (by decide))) ((f95 76 (by decide)).trans (f3 76 (by decide))) ((f95 77 (by decide)).trans (f3 77 (by decide))) hs_jKept
      have p127 : jBook σ93 := jBook.fr ((f96 47 (by decide)).trans (congrFun (f3 55 (by decide)) 47)) ((f96 10 (by decide)).trans (congrFun (f3 55 (by decide)) 10)) ((f95 81 (by decide)).trans (f3 81 (by decide))) hs_jBook
      have z128 : (σ93 2 0).toInt = (σ 2 0).toInt := (congrArg Int32.toInt (show σ93 2 0 = (σ 2 0) from ((congrFun (f95 2 (by decide)) 0).trans (f4 0 (by decide)))))
      have z129 : (σ93 55 6).toInt = (σ 55 6).toInt := (congrArg Int32.toInt (show σ93 55 6 = (σ 55 6) from ((f96 6 (by decide)).trans (congrFun (f3 55 (by decide)) 6))))
      exact ih x104 σ93 τ _ _ ls (by have h9 := tx104; omega) ⟨I105, I106, I107, I108, I109, I110, I111, I112, I113, I114, I115, I97, I116, I117, I118, I119, I120, I121, I122, I123, I124, I125, p126, p127, (by omega)⟩ hP hS (lv_sub hl [0, 1, 2, 3] rfl)
    · obtain ⟨q135, k130, k131, k132, k133, k134⟩ := h99
      refine lv_pop hx hb dL_law_973 rfl ?_
      refine lv_goto (tgt := 1357) hx hb dL_law_974 (by decide) ?_
      obtain ⟨x136, ex136⟩ : ∃ y : Int32, y = x0 + 6 := ⟨_, rfl⟩
      have tx136 : x136.toInt = x0.toInt + 6 := (jadd ex136 rfl jz_6 (by omega) (by omega)).trans (by omega)
      refine lv_iinc (v := x136) (lv' := [(3, .int x136), (2, .ref (ad 55)), (1, .ref (ad 0)), (0, .ref b)]) hx hb dL_law_1357 hl (k := 0) rfl (by rw [ex136]; rfl) (by decide) rfl (fun ls hl => ?_)
      refine lv_goto (tgt := 18) hx hb dL_law_1360 (by decide) ?_
      have I137 : jI2 σ93 := jI2_fr (congrFun (f95 2 (by decide)) 0) (congrFun (f95 2 (by decide)) 1) (congrFun (f95 2 (by decide)) 2) (congrFun (f95 2 (by decide)) 3) (f95 6 (by decide)) I5
      have I138 : jI9 σ93 := jI9_fr ((congrFun (f95 9 (by decide)) 0).trans (congrFun (f3 9 (by decide)) 0)) ((f95 10 (by decide)).trans (f3 10 (by decide))) ((f95 11 (by decide)).trans (f3 11 (by decide))) hI9
      have I139 : jI12 σ93 := jI12_fr ((congrFun (f95 12 (by decide)) 0).trans (congrFun (f3 12 (by decide)) 0)) ((f95 13 (by decide)).trans (f3 13 (by decide))) hI12
      have I140 : jI16 σ93 := jI16_fr ((congrFun (f95 16 (by decide)) 0).trans (congrFun (f3 16 (by decide)) 0)) ((congrFun (f95 16 (by decide)) 1).trans (congrFun (f3 16 (by decide)) 1)) ((congrFun (f95 16 (by decide)) 2).trans (congrFun (f3 16 (by decide)) 2)) ((f95 17 (by decide)).trans (f3 17 (by decide))) hI16
      have I141 : jI18 σ93 := jI18_fr ((congrFun (f95 18 (by decide)) 0).trans (congrFun (f3 18 (by decide)) 0)) ((f95 19 (by decide)).trans (f3 19 (by decide))) hI18
      have I142 : jI22 σ93 := jI22_fr ((congrFun (f95 22 (by decide)) 0).trans (congrFun (f3 22 (by decide)) 0)) ((f95 23 (by decide)).trans (f3 23 (by decide))) hI22
      have I143 : jI31 σ93 := jI31_fr ((congrFun (f95 31 (by decide)) 8).trans (congrFun (f3 31 (by decide)) 8)) ((f95 33 (by decide)).trans (f3 33 (by decide))) ((f95 36 (by decide)).trans (f3 36 (by decide))) hI31
      have I144 : jI38 σ93 := jI38_fr ((congrFun (f95 38 (by decide)) 0).trans (congrFun (f3 38 (by decide)) 0)) ((congrFun (f95 38 (by decide)) 1).trans (congrFun (f3 38 (by decide)) 1)) ((f95 39 (by decide)).trans (f3 39 (by decide))) hI38
      have I145 : jI43 σ93 := jI43_fr ((congrFun (f95 43 (by decide)) 8).trans (congrFun (f3 43 (by decide)) 8)) hI43
      have I146 : jI47 σ93 := jI47_fr ((congrFun (f95 47 (by decide)) 0).trans (congrFun (f3 47 (by decide)) 0)) ((f95 49 (by decide)).trans (f3 49 (by decide))) hI47
      have I147 : jI50 σ93 := jI50_fr ((f95 52 (by decide)).trans (f3 52 (by decide))) hI50
      have I148 : jI102 σ93 := jI102_fr ((f96 6 (by decide)).trans (congrFun (f3 55 (by decide)) 6)) ((f95 60 (by decide)).trans (f3 60 (by decide))) ((f95 61 (by decide)).trans (f3 61 (by decide))) hI102
      have I149 : jI103 σ93 := jI103_fr ((f96 9 (by decide)).trans (congrFun (f3 55 (by decide)) 9)) hI103
      have I150 : jI104 σ93 := jI104_fr ((f96 10 (by decide)).trans (congrFun (f3 55 (by decide)) 10)) ((f96 12 (by decide)).trans (congrFun (f3 55 (by decide)) 12)) ((f96 13 (by decide)).trans (congrFun (f3 55 (by decide)) 13)) ((f95 62 (by decide)).trans (f3 62 (by decide))) ((f95 67 (by decide)).trans (f3 67 (by decide))) hI104
      have I151 : jI105 σ93 := jI105_fr ((f96 15 (by decide)).trans (congrFun (f3 55 (by decide)) 15)) ((f95 65 (by decide)).trans (f3 65 (by decide))) hI105
      have I152 : jI106 σ93 := jI106_fr ((f96 32 (by decide)).trans (congrFun (f3 55 (by decide)) 32)) ((f95 70 (by decide)).trans (f3 70 (by decide))) ((f95 71 (by decide)).trans (f3 71 (by decide))) ((f95 72 (by decide)).trans (f3 72 (by decide))) hI106
      have I153 : jI107 σ93 := jI107_fr ((f96 12 (by decide)).trans (congrFun (f3 55 (by decide)) 12)) ((f96 47 (by decide)).trans (congrFun (f3 55 (by decide)) 47)) ((f95 80 (by decide)).trans (f3 80 (by decide))) hI107
      have I154 : jI109 σ93 := jI109_fr ((f96 50 (by decide)).trans (congrFun (f3 55 (by decide)) 50)) hI109
      have I155 : jI110 σ93 := jI110_fr ((f95 86 (by decide)).trans (f3 86 (by decide))) ((f95 87 (by decide)).trans (f3 87 (by decide))) hI110
      have I156 : jI111 σ93 := jI111_fr ((f95 79 (by decide)).trans (f3 79 (by decide))) hI111
      have I157 : jI119 σ93 := jI119_fr ((f95 68 (by decide)).trans (f3 68 (by decide))) hI119
      have p158 : jKept σ93 := jKept.fr ((f95 75 (by decide)).trans (f3 75 (by decide))) ((f95 76 (by decide)).trans (f3 76 (by decide))) ((f95 77 (by decide)).trans (f3 77 (by decide))) hs_jKept
      have p159 : jBook σ93 := jBook.fr ((f96 47 (by decide)).trans (congrFun (f3 55 (by decide)) 47)) ((f96 10 (by decide)).trans (congrFun (f3 55 (by decide)) 10)) ((f95 81 (by decide)).trans (f3 81 (by decide))) hs_jBook
      have z160 : (σ93 2 0).toInt = (σ 2 0).toInt := (congrArg Int32.toInt (show σ93 2 0 = (σ 2 0) from ((congrFun (f95 2 (by decide)) 0).trans (f4 0 (by decide)))))
      have z161 : (σ93 55 6).toInt = (σ 55 6).toInt := (congrArg Int32.toInt (show σ93 55 6 = (σ 55 6) from ((f96 6 (by decide)).trans (congrFun (f3 55 (by decide)) 6))))
      exact ih x136 σ93 τ _ _ ls (by have h9 := tx136; omega) ⟨I137, I138, I139, I140, I141, I142, I143, I144, I145, I146, I147, I97, I148, I149, I150, I151, I152, I153, I154, I155, I156, I157, p158, p159, (by omega)⟩ hP hS (lv_sub hl [0, 1, 2, 3] rfl)
set_option maxHeartbeats 4000000 in
set_option maxRecDepth 100000 in
theorem law_case_27 {p : Program} {e : Env} {s : State} {m : MethodId} {below : List Frame} {meth : Method} {c : Code} (l : Launch) {b L : Nat} {xs : Nat → Int32} {D : va_G} {cI cL : ClassId} {ad zz : Nat → Nat} (C0 : lw_At p s m meth c b L xs) (hJ : jD ad) (hA : ∀ q, jA ad q → s.heap.size ≤ q) (hK : jK D cI cL s) (hZ : jZ zz (fun q : Nat => s.heap.size ≤ q) s s.heap) {x0 : Int32} (hx0 : 0 ≤ x0.toInt) (hxL : x0.toInt + 6 ≤ (L : Int)) (hL : L ≤ 384) {σ : Nat → Nat → Int32} {τ : Nat → Nat → Int64} {H : Heap} {locs : List Loc} (hS : va_S (fun q : Nat => s.heap.size ≤ q) s.heap H locs) {ls : Array Slot} (hAll : jAll σ τ) (hP : jH D cI cL ad σ τ H) (hl : lv_has ls 4 [(3, .int x0), (2, .ref (ad 55)), (1, .ref (ad 0)), (0, .ref b)]) (ih : ∀ (x1 : Int32) (σ : Nat → Nat → Int32) (τ : Nat → Nat → Int64) (H : Heap) (locs : List Loc) (ls : Array Slot), x1.toInt = x0.toInt + 6 → jAll σ τ → jH D cI cL ad σ τ H → va_S (fun q : Nat => s.heap.size ≤ q) s.heap H locs → lv_has ls 4 [(3, .int x1), (2, .ref (ad 55)), (1, .ref (ad 0)), (0, .ref b)] → W p l e room_1 s m #[Value.ref b] below meth c H locs 90 348600 (lw_Z below #[Value.ref b] s) (F0 m 18 ls [])) : W p l e room_1 s m #[Value.ref b] below meth c H locs 90 348600 (lw_Z below #[Value.ref b] s) (F0 m 977 ls []) := by
  obtain ⟨hx, hb, hr, hml, hown, hts0, hX, hbl, hlocks, hgv⟩ := C0
  have hts : ∀ w ∈ wsL_law, w.before #[Value.ref b] s = true := fun w h => hts0 w (wsL_law_in w h)
  have hbA : ¬ (fun q : Nat => s.heap.size ≤ q) b := Nat.not_le.mpr hbl
  have hown : s.vm.findClass RL = some m.cls := hown
  obtain ⟨hI2, hI9, hI12, hI16, hI18, hI22, hI31, hI38, hI43, hI47, hI50, hI101, hI102, hI103, hI104, hI105, hI106, hI107, hI109, hI110, hI111, hI119, hs_jKept, hs_jBook, ht0⟩ := hAll
  have hL9 : (L : Int) ≤ 384 := by omega
  refine lv_aload_n hx hb dL_law_977 rfl (lv_at hl 2 rfl) ?_
  refine jcallV (As := []) (rest := []) ⟨hx, hb, hml, hown, hts⟩ hK hP hA hS hZ (c_X11_redo l D cI cL ad zz hJ σ τ hI2) cw_RL_125 (jc_0 cI cL ad σ τ) rfl ⟨Nat.le_of_ble_eq_true rfl, Nat.le_of_ble_eq_true rfl⟩ rfl rfl rfl hl.1 rfl (Nat.le_of_ble_eq_true rfl) dL_law_978 ⟨Nat.le_of_ble_eq_true rfl, Nat.le_of_ble_eq_true rfl⟩ (fun r2 σ1 τ1 H locs h1 hP hS => ?_)
  obtain ⟨rfl, f3, f4, I5, h1⟩ := h1
  rcases h1 with h6 | h7
  · obtain ⟨q12, k8, k9, k10, k11⟩ := h6
    have q12 := q12.symm
    subst q12
    refine lv_pop hx hb dL_law_981 rfl ?_
    refine lv_aload_n hx hb dL_law_982 rfl (lv_at hl 1 rfl) ?_
    have I13 : jI101 σ1 := jI101_fr (congrFun (f3 55 (by decide)) 4) (congrFun (f3 55 (by decide)) 5) (f3 56 (by decide)) (f3 57 (by decide)) (f3 58 (by decide)) (f3 59 (by decide)) hI101
    have z14 : (σ1 55 5).toInt = (σ 55 5).toInt := (congrArg Int32.toInt (show σ1 55 5 = (σ 55 5) from (congrFun (f3 55 (by decide)) 5)))
    have z15 : (σ1 55 4).toInt = (σ 55 4).toInt := (congrArg Int32.toInt (show σ1 55 4 = (σ 55 4) from (congrFun (f3 55 (by decide)) 4)))
    refine jcallV (As := []) (rest := []) ⟨hx, hb, hml, hown, hts⟩ hK hP hA hS hZ (c_X12_redo l D cI cL ad zz hJ σ1 τ I13) cw_RL_128 (jc_55 cI cL ad σ1 τ) rfl ⟨Nat.le_of_ble_eq_true rfl, Nat.le_of_ble_eq_true rfl⟩ rfl rfl rfl hl.1 rfl (Nat.le_of_ble_eq_true rfl) dL_law_983 ⟨Nat.le_of_ble_eq_true rfl, Nat.le_of_ble_eq_true rfl⟩ (fun r17 σ16 τ16 H locs h16 hP hS => ?_)
    obtain ⟨rfl, f18, f19, I20, h16⟩ := h16
    rcases h16 with h21 | h22
    · obtain ⟨q26, k23, k24, k25⟩ := h21
      have q26 := q26.symm
      subst q26
      refine lv_pop hx hb dL_law_986 rfl ?_
      refine lv_goto (tgt := 1357) hx hb dL_law_987 (by decide) ?_
      obtain ⟨x27, ex27⟩ : ∃ y : Int32, y = x0 + 6 := ⟨_, rfl⟩
      have tx27 : x27.toInt = x0.toInt + 6 := (jadd ex27 rfl jz_6 (by omega) (by omega)).trans (by omega)
      refine lv_iinc (v := x27) (lv' := [(3, .int x27), (2, .ref (ad 55)), (1, .ref (ad 0)), (0, .ref b)]) hx hb dL_law_1357 hl (k := 0) rfl (by rw [ex27]; rfl) (by decide) rfl (fun ls hl => ?_)
      refine lv_goto (tgt := 18) hx hb dL_law_1360 (by decide) ?_
      have I28 : jI2 σ16 := jI2_fr (congrFun (f18 2 (by decide)) 0) (congrFun (f18 2 (by decide)) 1) (congrFun (f18 2 (by decide)) 2) (congrFun (f18 2 (by decide)) 3) (f18 6 (by decide)) I5
      have I29 : jI9 σ16 := jI9_fr ((congrFun (f18 9 (by decide)) 0).trans (congrFun (f3 9 (by decide)) 0)) ((f18 10 (by decide)).trans (f3 10 (by decide))) ((f18 11 (by decide)).trans (f3 11 (by decide))) hI9
      have I30 : jI12 σ16 := jI12_fr ((congrFun (f18 12 (by decide)) 0).trans (congrFun (f3 12 (by decide)) 0)) ((f18 13 (by decide)).trans (f3 13 (by decide))) hI12
      have I31 : jI16 σ16 := jI16_fr ((congrFun (f18 16 (by decide)) 0).trans (congrFun (f3 16 (by decide)) 0)) ((congrFun (f18 16 (by decide)) 1).trans (congrFun (f3 16 (by decide)) 1)) ((congrFun (f18 16 (by decide)) 2).trans (congrFun (f3 16 (by decide)) 2)) ((f18 17 (by decide)).trans (f3 17 (by decide))) hI16
      have I32 : jI18 σ16 := jI18_fr ((congrFun (f18 18 (by decide)) 0).trans (congrFun (f3 18 (by decide)) 0)) ((f18 19 (by decide)).trans (f3 19 (by decide))) hI18
      have I33 : jI22 σ16 := jI22_fr ((congrFun (f18 22 (by decide)) 0).trans (congrFun (f3 22 (by decide)) 0)) ((f18 23 (by decide)).trans (f3 23 (by decide))) hI22
      have I34 : jI31 σ16 := jI31_fr ((congrFun (f18 31 (by decide)) 8).trans (congrFun (f3 31 (by decide)) 8)) ((f18 33 (by decide)).trans (f3 33 (by decide))) ((f18 36 (by decide)).trans (f3 36 (by decide))) hI31
      have I35 : jI38 σ16 := jI38_fr ((congrFun (f18 38 (by decide)) 0).trans (congrFun (f3 38 (by decide)) 0)) ((congrFun (f18 38 (by decide)) 1).trans (congrFun (f3 38 (by decide)) 1)) ((f18 39 (by decide)).trans (f3 39 (by decide))) hI38
      have I36 : jI43 σ16 := jI43_fr ((congrFun (f18 43 (by decide)) 8).trans (congrFun (f3 43 (by decide)) 8)) hI43
      have I37 : jI47 σ16 := jI47_fr ((congrFun (f18 47 (by decide)) 0).trans (congrFun (f3 47 (by decide)) 0)) ((f18 49 (by decide)).trans (f3 49 (by decide))) hI47
      have I38 : jI50 σ16 := jI50_fr ((f18 52 (by decide)).trans (f3 52 (by decide))) hI50
      have I39 : jI102 σ16 := jI102_fr ((f19 6 (by decide)).trans (congrFun (f3 55 (by decide)) 6)) ((f18 60 (by decide)).trans (f3 60 (by decide))) ((f18 61 (by decide)).trans (f3 61 (by decide))) hI102
      have I40 : jI103 σ16 := jI103_fr ((f19 9 (by decide)).trans (congrFun (f3 55 (by decide)) 9)) hI103
      have I41 : jI104 σ16 := jI104_fr ((f19 10 (by decide)).trans (congrFun (f3 55 (by decide)) 10)) ((f19 12 (by decide)).trans (congrFun (f3 55 (by decide)) 12)) ((f19 13 (by decide)).trans (congrFun (f3 55 (by decide)) 13)) ((f18 62 (by decide)).trans (f3 62 (by decide))) ((f18 67 (by decide)).trans (f3 67 (by decide))) hI104
      have I42 : jI105 σ16 := jI105_fr ((f19 15 (by decide)).trans (congrFun (f3 55 (by decide)) 15)) ((f18 65 (by decide)).trans (f3 65 (by decide))) hI105
      have I43 : jI106 σ16 := jI106_fr ((f19 32 (by decide)).trans (congrFun (f3 55 (by decide)) 32)) ((f18 70 (by decide)).trans (f3 70 (by decide))) ((f18 71 (by decide)).trans (f3 71 (by decide))) ((f18 72 (by decide)).trans (f3 72 (by decide))) hI106
      have I44 : jI107 σ16 := jI107_fr ((f19 12 (by decide)).trans (congrFun (f3 55 (by decide)) 12)) ((f19 47 (by decide)).trans (congrFun (f3 55 (by decide)) 47)) ((f18 80 (by decide)).trans (f3 80 (by decide))) hI107
      have I45 : jI109 σ16 := jI109_fr ((f19 50 (by decide)).trans (congrFun (f3 55 (by decide)) 50)) hI109
      have I46 : jI110 σ16 := jI110_fr ((f18 86 (by decide)).trans (f3 86 (by decide))) ((f18 87 (by decide)).trans (f3 87 (by decide))) hI110
      have I47 : jI111 σ16 := jI111_fr ((f18 79 (by decide)).trans (f3 79 (by decide))) hI111
      have I48 : jI119 σ16 := jI119_fr ((f18 68 (by decide)).trans (f3 68 (by decide))) hI119
      have p49 : jKept σ16 := jKept.fr ((f18 75 (by decide)).trans (f3 75 (by decide))) ((f18 76 (by decide)).trans (f3 76 (by decide))) ((f18 77 (by decide)).trans (f3 77 (by decide))) hs_jKept
      have p50 : jBook σ16 := jBook.fr ((f19 47 (by decide)).trans (congrFun (f3 55 (by decide)) 47)) ((f19 10 (by decide)).trans (congrFun (f3 55 (by decide)) 10)) ((f18 81 (by decide)).trans (f3 81 (by decide))) hs_jBook
      have z51 : (σ16 2 0).toInt = (σ 2 0).toInt := (congrArg Int32.toInt (show σ16 2 0 = (σ 2 0) from ((congrFun (f18 2 (by decide)) 0).trans (f4 0 (by decide)))))
      have z52 : (σ16 55 6).toInt = (σ 55 6).toInt := (congrArg Int32.toInt (show σ16 55 6 = (σ 55 6) from ((f19 6 (by decide)).trans (congrFun (f3 55 (by decide)) 6))))
      exact ih x27 σ16 τ _ _ ls (by have h9 := tx27; omega) ⟨I28, I29, I30, I31, I32, I33, I34, I35, I36, I37, I38, I20, I39, I40, I41, I42, I43, I44, I45, I46, I47, I48, p49, p50, (by omega)⟩ hP hS (lv_sub hl [0, 1, 2, 3] rfl)
    · obtain ⟨q58, k53, k54, k55, k56, k57⟩ := h22
      refine lv_pop hx hb dL_law_986 rfl ?_
      refine lv_goto (tgt := 1357) hx hb dL_law_987 (by decide) ?_
      obtain ⟨x59, ex59⟩ : ∃ y : Int32, y = x0 + 6 := ⟨_, rfl⟩
      have tx59 : x59.toInt = x0.toInt + 6 := (jadd ex59 rfl jz_6 (by omega) (by omega)).trans (by omega)
      refine lv_iinc (v := x59) (lv' := [(3, .int x59), (2, .ref (ad 55)), (1, .ref (ad 0)), (0, .ref b)]) hx hb dL_law_1357 hl (k := 0) rfl (by rw [ex59]; rfl) (by decide) rfl (fun ls hl => ?_)
      refine lv_goto (tgt := 18) hx hb dL_law_1360 (by decide) ?_
      have I60 : jI2 σ16 := jI2_fr (congrFun (f18 2 (by decide)) 0) (congrFun (f18 2 (by decide)) 1) (congrFun (f18 2 (by decide)) 2) (congrFun (f18 2 (by decide)) 3) (f18 6 (by decide)) I5
      have I61 : jI9 σ16 := jI9_fr ((congrFun (f18 9 (by decide)) 0).trans (congrFun (f3 9 (by decide)) 0)) ((f18 10 (by decide)).trans (f3 10 (by decide))) ((f18 11 (by decide)).trans (f3 11 (by decide))) hI9
      have I62 : jI12 σ16 := jI12_fr ((congrFun (f18 12 (by decide)) 0).trans (congrFun (f3 12 (by decide)) 0)) ((f18 13 (by decide)).trans (f3 13 (by decide))) hI12
      have I63 : jI16 σ16 := jI16_fr ((congrFun (f18 16 (by decide)) 0).trans (congrFun (f3 16 (by decide)) 0)) ((congrFun (f18 16 (by decide)) 1).trans (congrFun (f3 16 (by decide)) 1)) ((congrFun (f18 16 (by decide)) 2).trans (congrFun (f3 16 (by decide)) 2)) ((f18 17 (by decide)).trans (f3 17 (by decide))) hI16
      have I64 : jI18 σ16 := jI18_fr ((congrFun (f18 18 (by decide)) 0).trans (congrFun (f3 18 (by decide)) 0)) ((f18 19 (by decide)).trans (f3 19 (by decide))) hI18
      have I65 : jI22 σ16 := jI22_fr ((congrFun (f18 22 (by decide)) 0).trans (congrFun (f3 22 (by decide)) 0)) ((f18 23 (by decide)).trans (f3 23 (by decide))) hI22
      have I66 : jI31 σ16 := jI31_fr ((congrFun (f18 31 (by decide)) 8).trans (congrFun (f3 31 (by decide)) 8)) ((f18 33 (by decide)).trans (f3 33 (by decide))) ((f18 36 (by decide)).trans (f3 36 (by decide))) hI31
      have I67 : jI38 σ16 := jI38_fr ((congrFun (f18 38 (by decide)) 0).trans (congrFun (f3 38 (by decide)) 0)) ((congrFun (f18 38 (by decide)) 1).trans (congrFun (f3 38 (by decide)) 1)) ((f18 39 (by decide)).trans (f3 39 (by decide))) hI38
      have I68 : jI43 σ16 := jI43_fr ((congrFun (f18 43 (by decide)) 8).trans (congrFun (f3 43 (by decide)) 8)) hI43
      have I69 : jI47 σ16 := jI47_fr ((congrFun (f18 47 (by decide)) 0).trans (congrFun (f3 47 (by decide)) 0)) ((f18 49 (by decide)).trans (f3 49 (by decide))) hI47
      have I70 : jI50 σ16 := jI50_fr ((f18 52 (by decide)).trans (f3 52 (by decide))) hI50
      have I71 : jI102 σ16 := jI102_fr ((f19 6 (by decide)).trans (congrFun (f3 55 (by decide)) 6)) ((f18 60 (by decide)).trans (f3 60 (by decide))) ((f18 61 (by decide)).trans (f3 61 (by decide))) hI102
      have I72 : jI103 σ16 := jI103_fr ((f19 9 (by decide)).trans (congrFun (f3 55 (by decide)) 9)) hI103
      have I73 : jI104 σ16 := jI104_fr ((f19 10 (by decide)).trans (congrFun (f3 55 (by decide)) 10)) ((f19 12 (by decide)).trans (congrFun (f3 55 (by decide)) 12)) ((f19 13 (by decide)).trans (congrFun (f3 55 (by decide)) 13)) ((f18 62 (by decide)).trans (f3 62 (by decide))) ((f18 67 (by decide)).trans (f3 67 (by decide))) hI104
      have I74 : jI105 σ16 := jI105_fr ((f19 15 (by decide)).trans (congrFun (f3 55 (by decide)) 15)) ((f18 65 (by decide)).trans (f3 65 (by decide))) hI105
      have I75 : jI106 σ16 := jI106_fr ((f19 32 (by decide)).trans (congrFun (f3 55 (by decide)) 32)) ((f18 70 (by decide)).trans (f3 70 (by decide))) ((f18 71 (by decide)).trans (f3 71 (by decide))) ((f18 72 (by decide)).trans (f3 72 (by decide))) hI106
      have I76 : jI107 σ16 := jI107_fr ((f19 12 (by decide)).trans (congrFun (f3 55 (by decide)) 12)) ((f19 47 (by decide)).trans (congrFun (f3 55 (by decide)) 47)) ((f18 80 (by decide)).trans (f3 80 (by decide))) hI107
      have I77 : jI109 σ16 := jI109_fr ((f19 50 (by decide)).trans (congrFun (f3 55 (by decide)) 50)) hI109
      have I78 : jI110 σ16 := jI110_fr ((f18 86 (by decide)).trans (f3 86 (by decide))) ((f18 87 (by decide)).trans (f3 87 (by decide))) hI110
      have I79 : jI111 σ16 := jI111_fr ((f18 79 (by decide)).trans (f3 79 (by decide))) hI111
      have I80 : jI119 σ16 := jI119_fr ((f18 68 (by decide)).trans (f3 68 (by decide))) hI119
      have p81 : jKept σ16 := jKept.fr ((f18 75 (by decide)).trans (f3 75 (by decide))) ((f18 76 (by decide)).trans (f3 76 (by decide))) ((f18 77 (by decide)).trans (f3 77 (by decide))) hs_jKept
      have p82 : jBook σ16 := jBook.fr ((f19 47 (by decide)).trans (congrFun (f3 55 (by decide)) 47)) ((f19 10 (by decide)).trans (congrFun (f3 55 (by decide)) 10)) ((f18 81 (by decide)).trans (f3 81 (by decide))) hs_jBook
      have z83 : (σ16 2 0).toInt = (σ 2 0).toInt := (congrArg Int32.toInt (show σ16 2 0 = (σ 2 0) from ((congrFun (f18 2 (by decide)) 0).trans (f4 0 (by decide)))))
      have z84 : (σ16 55 6).toInt = (σ 55 6).toInt := (congrArg Int32.toInt (show σ16 55 6 = (σ 55 6) from ((f19 6 (by decide)).trans (congrFun (f3 55 (by decide)) 6))))
      exact ih x59 σ16 τ _ _ ls (by have h9 := tx59; omega) ⟨I60, I61, I62, I63, I64, I65, I66, I67, I68, I69, I70, I20, I71, I72, I73, I74, I75, I76, I77, I78, I79, I80, p81, p82, (by omega)⟩ hP hS (lv_sub hl [0, 1, 2, 3] rfl)
  · obtain ⟨q91, k85, k86, k87, k88, k89, k90⟩ := h7
    refine lv_pop hx hb dL_law_981 rfl ?_
    refine lv_aload_n hx hb dL_law_982 rfl (lv_at hl 1 rfl) ?_
    have I92 : jI101 σ1 := jI101_fr (congrFun (f3 55 (by decide)) 4) (congrFun (f3 55 (by decide)) 5) (f3 56 (by decide)) (f3 57 (by decide)) (f3 58 (by decide)) (f3 59 (by decide)) hI101
    have z93 : (σ1 55 5).toInt = (σ 55 5).toInt := (congrArg Int32.toInt (show σ1 55 5 = (σ 55 5) from (congrFun (f3 55 (by decide)) 5)))
    have z94 : (σ1 55 4).toInt = (σ 55 4).toInt := (congrArg Int32.toInt (show σ1 55 4 = (σ 55 4) from (congrFun (f3 55 (by decide)) 4)))
    refine jcallV (As := []) (rest := []) ⟨hx, hb, hml, hown, hts⟩ hK hP hA hS hZ (c_X12_redo l D cI cL ad zz hJ σ1 τ I92) cw_RL_128 (jc_55 cI cL ad σ1 τ) rfl ⟨Nat.le_of_ble_eq_true rfl, Nat.le_of_ble_eq_true rfl⟩ rfl rfl rfl hl.1 rfl (Nat.le_of_ble_eq_true rfl) dL_law_983 ⟨Nat.le_of_ble_eq_true rfl, Nat.le_of_ble_eq_true rfl⟩ (fun r96 σ95 τ95 H locs h95 hP hS => ?_)
    obtain ⟨rfl, f97, f98, I99, h95⟩ := h95
    rcases h95 with h100 | h101
    · obtain ⟨q105, k102, k103, k104⟩ := h100
      have q105 := q105.symm
      subst q105
      refine lv_pop hx hb dL_law_986 rfl ?_
      refine lv_goto (tgt := 1357) hx hb dL_law_987 (by decide) ?_
      obtain ⟨x106, ex106⟩ : ∃ y : Int32, y = x0 + 6 := ⟨_, rfl⟩
      have tx106 : x106.toInt = x0.toInt + 6 := (jadd ex106 rfl jz_6 (by omega) (by omega)).trans (by omega)
      refine lv_iinc (v := x106) (lv' := [(3, .int x106), (2, .ref (ad 55)), (1, .ref (ad 0)), (0, .ref b)]) hx hb dL_law_1357 hl (k := 0) rfl (by rw [ex106]; rfl) (by decide) rfl (fun ls hl => ?_)
      refine lv_goto (tgt := 18) hx hb dL_law_1360 (by decide) ?_
      have I107 : jI2 σ95 := jI2_fr (congrFun (f97 2 (by decide)) 0) (congrFun (f97 2 (by decide)) 1) (congrFun (f97 2 (by decide)) 2) (congrFun (f97 2 (by decide)) 3) (f97 6 (by decide)) I5
      have I108 : jI9 σ95 := jI9_fr ((congrFun (f97 9 (by decide)) 0).trans (congrFun (f3 9 (by decide)) 0)) ((f97 10 (by decide)).trans (f3 10 (by decide))) ((f97 11 (by decide)).trans (f3 11 (by decide))) hI9
      have I109 : jI12 σ95 := jI12_fr ((congrFun (f97 12 (by decide)) 0).trans (congrFun (f3 12 (by decide)) 0)) ((f97 13 (by decide)).trans (f3 13 (by decide))) hI12
      have I110 : jI16 σ95 := jI16_fr ((congrFun (f97 16 (by decide)) 0).trans (congrFun (f3 16 (by decide)) 0)) ((congrFun (f97 16 (by decide)) 1).trans (congrFun (f3 16 (by decide)) 1)) ((congrFun (f97 16 (by decide)) 2).trans (congrFun (f3 16 (by decide)) 2)) ((f97 17 (by decide)).trans (f3 17 (by decide))) hI16
      have I111 : jI18 σ95 := jI18_fr ((congrFun (f97 18 (by decide)) 0).trans (congrFun (f3 18 (by decide)) 0)) ((f97 19 (by decide)).trans (f3 19 (by decide))) hI18
      have I112 : jI22 σ95 := jI22_fr ((congrFun (f97 22 (by decide)) 0).trans (congrFun (f3 22 (by decide)) 0)) ((f97 23 (by decide)).trans (f3 23 (by decide))) hI22
      have I113 : jI31 σ95 := jI31_fr ((congrFun (f97 31 (by decide)) 8).trans (congrFun (f3 31 (by decide)) 8)) ((f97 33 (by decide)).trans (f3 33 (by decide))) ((f97 36 (by decide)).trans (f3 36 (by decide))) hI31
      have I114 : jI38 σ95 := jI38_fr ((congrFun (f97 38 (by decide)) 0).trans (congrFun (f3 38 (by decide)) 0)) ((congrFun (f97 38 (by decide)) 1).trans (congrFun (f3 38 (by decide)) 1)) ((f97 39 (by decide)).trans (f3 39 (by decide))) hI38
      have I115 : jI43 σ95 := jI43_fr ((congrFun (f97 43 (by decide)) 8).trans (congrFun (f3 43 (by decide)) 8)) hI43
      have I116 : jI47 σ95 := jI47_fr ((congrFun (f97 47 (by decide)) 0).trans (congrFun (f3 47 (by decide)) 0)) ((f97 49 (by decide)).trans (f3 49 (by decide))) hI47
      have I117 : jI50 σ95 := jI50_fr ((f97 52 (by decide)).trans (f3 52 (by decide))) hI50
      have I118 : jI102 σ95 := jI102_fr ((f98 6 (by decide)).trans (congrFun (f3 55 (by decide)) 6)) ((f97 60 (by decide)).trans (f3 60 (by decide))) ((f97 61 (by decide)).trans (f3 61 (by decide))) hI102
      have I119 : jI103 σ95 := jI103_fr ((f98 9 (by decide)).trans (congrFun (f3 55 (by decide)) 9)) hI103
      have I120 : jI104 σ95 := jI104_fr ((f98 10 (by decide)).trans (congrFun (f3 55 (by decide)) 10)) ((f98 12 (by decide)).trans (congrFun (f3 55 (by decide)) 12)) ((f98 13 (by decide)).trans (congrFun (f3 55 (by decide)) 13)) ((f97 62 (by decide)).trans (f3 62 (by decide))) ((f97 67 (by decide)).trans (f3 67 (by decide))) hI104
      have I121 : jI105 σ95 := jI105_fr ((f98 15 (by decide)).trans (congrFun (f3 55 (by decide)) 15)) ((f97 65 (by decide)).trans (f3 65 (by decide))) hI105
      have I122 : jI106 σ95 := jI106_fr ((f98 32 (by decide)).trans (congrFun (f3 55 (by decide)) 32)) ((f97 70 (by decide)).trans (f3 70 (by decide))) ((f97 71 (by decide)).trans (f3 71 (by decide))) ((f97 72 (by decide)).trans (f3 72 (by decide))) hI106
      have I123 : jI107 σ95 := jI107_fr ((f98 12 (by decide)).trans (congrFun (f3 55 (by decide)) 12)) ((f98 47 (by decide)).trans (congrFun (f3 55 (by decide)) 47)) ((f97 80 (by decide)).trans (f3 80 (by decide))) hI107
      have I124 : jI109 σ95 := jI109_fr ((f98 50 (by decide)).trans (congrFun (f3 55 (by decide)) 50)) hI109
      have I125 : jI110 σ95 := jI110_fr ((f97 86 (by decide)).trans (f3 86 (by decide))) ((f97 87 (by decide)).trans (f3 87 (by decide))) hI110
      have I126 : jI111 σ95 := jI111_fr ((f97 79 (by decide)).trans (f3 79 (by decide))) hI111
      have I127 : jI119 σ95 := jI119_fr ((f97 68 (by decide)).trans (f3 68 (by decide))) hI119
      have p128 : jKept σ95 := jKept.fr ((f97 75 (by decide)).trans (f3 75 (by decide))) ((f97 76 (by decide)).trans (f3 76 (by decide))) ((f97 77 (by decide)).trans (f3 77 (by decide))) hs_jKept
      have p129 : jBook σ95 := jBook.fr ((f98 47 (by decide)).trans (congrFun (f3 55 (by decide)) 47)) ((f98 10 (by decide)).trans (congrFun (f3 55 (by decide)) 10)) ((f97 81 (by decide)).trans (f3 81 (by decide))) hs_jBook
      have z130 : (σ95 2 0).toInt = (σ 2 0).toInt := (congrArg Int32.toInt (show σ95 2 0 = (σ 2 0) from ((congrFun (f97 2 (by decide)) 0).trans (f4 0 (by decide)))))
      have z131 : (σ95 55 6).toInt = (σ 55 6).toInt := (congrArg Int32.toInt (show σ95 55 6 = (σ 55 6) from ((f98 6 (by decide)).trans (congrFun (f3 55 (by decide)) 6))))
      exact ih x106 σ95 τ _ _ ls (by have h9 := tx106; omega) ⟨I107, I108, I109, I110, I111, I112, I113, I114, I115, I116, I117, I99, I118, I119, I120, I121, I122, I123, I124, I125, I126, I127, p128, p129, (by omega)⟩ hP hS (lv_sub hl [0, 1, 2, 3] rfl)
    · obtain ⟨q137, k132, k133, k134, k135, k136⟩ := h101
      refine lv_pop hx hb dL_law_986 rfl ?_
      refine lv_goto (tgt := 1357) hx hb dL_law_987 (by decide) ?_
      obtain ⟨x138, ex138⟩ : ∃ y : Int32, y = x0 + 6 := ⟨_, rfl⟩
      have tx138 : x138.toInt = x0.toInt + 6 := (jadd ex138 rfl jz_6 (by omega) (by omega)).trans (by omega)
      refine lv_iinc (v := x138) (lv' := [(3, .int x138), (2, .ref (ad 55)), (1, .ref (ad 0)), (0, .ref b)]) hx hb dL_law_1357 hl (k := 0) rfl (by rw [ex138]; rfl) (by decide) rfl (fun ls hl => ?_)
      refine lv_goto (tgt := 18) hx hb dL_law_1360 (by decide) ?_
      have I139 : jI2 σ95 := jI2_fr (congrFun (f97 2 (by decide)) 0) (congrFun (f97 2 (by decide)) 1) (congrFun (f97 2 (by decide)) 2) (congrFun (f97 2 (by decide)) 3) (f97 6 (by decide)) I5
      have I140 : jI9 σ95 := jI9_fr ((congrFun (f97 9 (by decide)) 0).trans (congrFun (f3 9 (by decide)) 0)) ((f97 10 (by decide)).trans (f3 10 (by decide))) ((f97 11 (by decide)).trans (f3 11 (by decide))) hI9
      have I141 : jI12 σ95 := jI12_fr ((congrFun (f97 12 (by decide)) 0).trans (congrFun (f3 12 (by decide)) 0)) ((f97 13 (by decide)).trans (f3 13 (by decide))) hI12
      have I142 : jI16 σ95 := jI16_fr ((congrFun (f97 16 (by decide)) 0).trans (congrFun (f3 16 (by decide)) 0)) ((congrFun (f97 16 (by decide)) 1).trans (congrFun (f3 16 (by decide)) 1)) ((congrFun (f97 16 (by decide)) 2).trans (congrFun (f3 16 (by decide)) 2)) ((f97 17 (by decide)).trans (f3 17 (by decide))) hI16
      have I143 : jI18 σ95 := jI18_fr ((congrFun (f97 18 (by decide)) 0).trans (congrFun (f3 18 (by decide)) 0)) ((f97 19 (by decide)).trans (f3 19 (by decide))) hI18
      have I144 : jI22 σ95 := jI22_fr ((congrFun (f97 22 (by decide)) 0).trans (congrFun (f3 22 (by decide)) 0)) ((f97 23 (by decide)).trans (f3 23 (by decide))) hI22
      have I145 : jI31 σ95 := jI31_fr ((congrFun (f97 31 (by decide)) 8).trans (congrFun (f3 31 (by decide)) 8)) ((f97 33 (by decide)).trans (f3 33 (by decide))) ((f97 36 (by decide)).trans (f3 36 (by decide))) hI31
      have I146 : jI38 σ95 := jI38_fr ((congrFun (f97 38 (by decide)) 0).trans (congrFun (f3 38 (by decide)) 0)) ((congrFun (f97 38 (by decide)) 1).trans (congrFun (f3 38 (by decide)) 1)) ((f97 39 (by decide)).trans (f3 39 (by decide))) hI38
      have I147 : jI43 σ95 := jI43_fr ((congrFun (f97 43 (by decide)) 8).trans (congrFun (f3 43 (by decide)) 8)) hI43
      have I148 : jI47 σ95 := jI47_fr ((congrFun (f97 47 (by decide)) 0).trans (congrFun (f3 47 (by decide)) 0)) ((f97 49 (by decide)).trans (f3 49 (by decide))) hI47
      have I149 : jI50 σ95 := jI50_fr ((f97 52 (by decide)).trans (f3 52 (by decide))) hI50
      have I150 : jI102 σ95 := jI102_fr ((f98 6 (by decide)).trans (congrFun (f3 55 (by decide)) 6)) ((f97 60 (by decide)).trans (f3 60 (by decide))) ((f97 61 (by decide)).trans (f3 61 (by decide))) hI102
      have I151 : jI103 σ95 := jI103_fr ((f98 9 (by decide)).trans (congrFun (f3 55 (by decide)) 9)) hI103
      have I152 : jI104 σ95 := jI104_fr ((f98 10 (by decide)).trans (congrFun (f3 55 (by decide)) 10)) ((f98 12 (by decide)).trans (congrFun (f3 55 (by decide)) 12)) ((f98 13 (by decide)).trans (congrFun (f3 55 (by decide)) 13)) ((f97 62 (by decide)).trans (f3 62 (by decide))) ((f97 67 (by decide)).trans (f3 67 (by decide))) hI104
      have I153 : jI105 σ95 := jI105_fr ((f98 15 (by decide)).trans (congrFun (f3 55 (by decide)) 15)) ((f97 65 (by decide)).trans (f3 65 (by decide))) hI105
      have I154 : jI106 σ95 := jI106_fr ((f98 32 (by decide)).trans (congrFun (f3 55 (by decide)) 32)) ((f97 70 (by decide)).trans (f3 70 (by decide))) ((f97 71 (by decide)).trans (f3 71 (by decide))) ((f97 72 (by decide)).trans (f3 72 (by decide))) hI106
      have I155 : jI107 σ95 := jI107_fr ((f98 12 (by decide)).trans (congrFun (f3 55 (by decide)) 12)) ((f98 47 (by decide)).trans (congrFun (f3 55 (by decide)) 47)) ((f97 80 (by decide)).trans (f3 80 (by decide))) hI107
      have I156 : jI109 σ95 := jI109_fr ((f98 50 (by decide)).trans (congrFun (f3 55 (by decide)) 50)) hI109
      have I157 : jI110 σ95 := jI110_fr ((f97 86 (by decide)).trans (f3 86 (by decide))) ((f97 87 (by decide)).trans (f3 87 (by decide))) hI110
      have I158 : jI111 σ95 := jI111_fr ((f97 79 (by decide)).trans (f3 79 (by decide))) hI111
      have I159 : jI119 σ95 := jI119_fr ((f97 68 (by decide)).trans (f3 68 (by decide))) hI119
      have p160 : jKept σ95 := jKept.fr ((f97 75 (by decide)).trans (f3 75 (by decide))) ((f97 76 (by decide)).trans (f3 76 (by decide))) ((f97 77 (by decide)).trans (f3 77 (by decide))) hs_jKept
      have p161 : jBook σ95 := jBook.fr ((f98 47 (by decide)).trans (congrFun (f3 55 (by decide)) 47)) ((f98 10 (by decide)).trans (congrFun (f3 55 (by decide)) 10)) ((f97 81 (by decide)).trans (f3 81 (by decide))) hs_jBook
      have z162 : (σ95 2 0).toInt = (σ 2 0).toInt := (congrArg Int32.toInt (show σ95 2 0 = (σ 2 0) from ((congrFun (f97 2 (by decide)) 0).trans (f4 0 (by decide)))))
      have z163 : (σ95 55 6).toInt = (σ 55 6).toInt := (congrArg Int32.toInt (show σ95 55 6 = (σ 55 6) from ((f98 6 (by decide)).trans (congrFun (f3 55 (by decide)) 6))))
      exact ih x138 σ95 τ _ _ ls (by have h9 := tx138; omega) ⟨I139, I140, I141, I142, I143, I144, I145, I146, I147, I148, I149, I99, I150, I151, I152, I153, I154, I155, I156, I157, I158, I159, p160, p161, (by omega)⟩ hP hS (lv_sub hl [0, 1, 2, 3] rfl)
set_option maxHeartbeats 4000000 in
set_option maxRecDepth 100000 in
theorem law_case_28 {p : Program} {e : Env} {s : State} {m : MethodId} {below : List Frame} {meth : Method} {c : Code} (l : Launch) {b L : Nat} {xs : Nat → Int32} {D : va_G} {cI cL : ClassId} {ad zz : Nat → Nat} (C0 : lw_At p s m meth c b L xs) (hJ : jD ad) (hA : ∀ q, jA ad q → s.heap.size ≤ q) (hK : jK D cI cL s) (hZ : jZ zz (fun q : Nat => s.heap.size ≤ q) s s.heap) {x0 : Int32} (hx0 : 0 ≤ x0.toInt) (hxL : x0.toInt + 6 ≤ (L : Int)) (hL : L ≤ 384) {σ : Nat → Nat → Int32} {τ : Nat → Nat → Int64} {H : Heap} {locs : List Loc} (hS : va_S (fun q : Nat => s.heap.size ≤ q) s.heap H locs) {ls : Array Slot} (hAll : jAll σ τ) (hP : jH D cI cL ad σ τ H) (hl : lv_has ls 4 [(3, .int x0), (2, .ref (ad 55)), (1, .ref (ad 0)), (0, .ref b)]) (ih : ∀ (x1 : Int32) (σ : Nat → Nat → Int32) (τ : Nat → Nat → Int64) (H : Heap) (locs : List Loc) (ls : Array Slot), x1.toInt = x0.toInt + 6 → jAll σ τ → jH D cI cL ad σ τ H → va_S (fun q : Nat => s.heap.size ≤ q) s.heap H locs → lv_has ls 4 [(3, .int x1), (2, .ref (ad 55)), (1, .ref (ad 0)), (0, .ref b)] → W p l e room_1 s m #[Value.ref b] below meth c H locs 90 348600 (lw_Z below #[Value.ref b] s) (F0 m 18 ls [])) : W p l e room_1 s m #[Value.ref b] below meth c H locs 90 348600 (lw_Z below #[Value.ref b] s) (F0 m 990 ls []) := by
  obtain ⟨hx, hb, hr, hml, hown, hts0, hX, hbl, hlocks, hgv⟩ := C0
  have hts : ∀ w ∈ wsL_law, w.before #[Value.ref b] s = true := fun w h => hts0 w (wsL_law_in w h)
  have hbA : ¬ (fun q : Nat => s.heap.size ≤ q) b := Nat.not_le.mpr hbl
  have hown : s.vm.findClass RL = some m.cls := hown
  obtain ⟨hI2, hI9, hI12, hI16, hI18, hI22, hI31, hI38, hI43, hI47, hI50, hI101, hI102, hI103, hI104, hI105, hI106, hI107, hI109, hI110, hI111, hI119, hs_jKept, hs_jBook, ht0⟩ := hAll
  have hL9 : (L : Int) ≤ 384 := by omega
  refine lv_aload_n hx hb dL_law_990 rfl (lv_at hl 2 rfl) ?_
  refine lv_aload_n hx hb dL_law_991 rfl (lv_at hl 3 rfl) ?_
  refine lv_iload_n hx hb dL_law_992 rfl (lv_at hl 0 rfl) ?_
  refine lv_iconst (v := 1) hx hb dL_law_993 (by decide) ?_
  have g1 := jrg (rfl : x0.toInt = x0.toInt)
  refine lv_iadd hx hb dL_law_994 ?_
  refine lv_topi (fun x2 ex2 => ?_)
  have tx2 : x2.toInt = x0.toInt + 1 := (jadd ex2 rfl jz_1 (by omega) (by omega)).trans (by omega)
  refine va_sld hx hb hX hbl hbA hS (jin tx2 (by omega) (by omega)) dL_law_995 ?_
  have g3 := jrg (rfl : (xs x2.toNatClampNeg).toInt = (xs x2.toNatClampNeg).toInt)
  refine lv_aload_n hx hb dL_law_996 rfl (lv_at hl 3 rfl) ?_
  refine lv_iload_n hx hb dL_law_997 rfl (lv_at hl 0 rfl) ?_
  refine lv_iconst (v := 2) hx hb dL_law_998 (by decide) ?_
  refine lv_iadd hx hb dL_law_999 ?_
  refine lv_topi (fun x4 ex4 => ?_)
  have tx4 : x4.toInt = x0.toInt + 2 := (jadd ex4 rfl jz_2 (by omega) (by omega)).trans (by omega)
  refine va_sld hx hb hX hbl hbA hS (jin tx4 (by omega) (by omega)) dL_law_1000 ?_
  have g5 := jrg (rfl : (xs x4.toNatClampNeg).toInt = (xs x4.toNatClampNeg).toInt)
  refine lv_aload_n hx hb dL_law_1001 rfl (lv_at hl 3 rfl) ?_
  refine lv_iload_n hx hb dL_law_1002 rfl (lv_at hl 0 rfl) ?_
  refine lv_iconst (v := 3) hx hb dL_law_1003 (by decide) ?_
  refine lv_iadd hx hb dL_law_1004 ?_
  refine lv_topi (fun x6 ex6 => ?_)
  have tx6 : x6.toInt = x0.toInt + 3 := (jadd ex6 rfl jz_3 (by omega) (by omega)).trans (by omega)
  refine va_sld hx hb hX hbl hbA hS (jin tx6 (by omega) (by omega)) dL_law_1005 ?_
  have g7 := jrg (rfl : (xs x6.toNatClampNeg).toInt = (xs x6.toNatClampNeg).toInt)
  refine jcallV (As := [.int (xs x2.toNatClampNeg), .int (xs x4.toNatClampNeg), .int (xs x6.toNatClampNeg)]) (rest := []) ⟨hx, hb, hml, hown, hts⟩ hK hP hA hS hZ (c_X11_act l D cI cL ad zz hJ σ τ (xs x2.toNatClampNeg) ((xs x2.toNatClampNeg).toInt) rfl (xs x4.toNatClampNeg) ((xs x4.toNatClampNeg).toInt) rfl (xs x6.toNatClampNeg) ((xs x6.toNatClampNeg).toInt) rfl hI38) cw_RL_129 (jc_0 cI cL ad σ τ) rfl ⟨Nat.le_of_ble_eq_true rfl, Nat.le_of_ble_eq_true rfl⟩ rfl rfl rfl hl.1 rfl (Nat.le_of_ble_eq_true rfl) dL_law_1006 ⟨Nat.le_of_ble_eq_true rfl, Nat.le_of_ble_eq_true rfl⟩ (fun r9 σ8 τ8 H locs h8 hP hS => ?_)
  obtain ⟨rfl, f10, f11, I12, h8⟩ := h8
  refine lv_pop hx hb dL_law_1009 rfl ?_
  refine lv_aload_n hx hb dL_law_1010 rfl (lv_at hl 1 rfl) ?_
  refine lv_aload_n hx hb dL_law_1011 rfl (lv_at hl 3 rfl) ?_
  refine lv_iload_n hx hb dL_law_1012 rfl (lv_at hl 0 rfl) ?_
  refine lv_iconst (v := 1) hx hb dL_law_1013 (by decide) ?_
  refine lv_iadd hx hb dL_law_1014 ?_
  refine jtopr ex2.symm ?_
  refine va_sld hx hb hX hbl hbA hS (jin tx2 (by omega) (by omega)) dL_law_1015 ?_
  refine lv_aload_n hx hb dL_law_1016 rfl (lv_at hl 3 rfl) ?_
  refine lv_iload_n hx hb dL_law_1017 rfl (lv_at hl 0 rfl) ?_
  refine lv_iconst (v := 2) hx hb dL_law_1018 (by decide) ?_
  refine lv_iadd hx hb dL_law_1019 ?_
  refine jtopr ex4.symm ?_
  refine va_sld hx hb hX hbl hbA hS (jin tx4 (by omega) (by omega)) dL_law_1020 ?_
  refine lv_aload_n hx hb dL_law_1021 rfl (lv_at hl 3 rfl) ?_
  refine lv_iload_n hx hb dL_law_1022 rfl (lv_at hl 0 rfl) ?_
  refine lv_iconst (v := 3) hx hb dL_law_1023 (by decide) ?_
  refine lv_iadd hx hb dL_law_1024 ?_
  refine jtopr ex6.symm ?_
  refine va_sld hx hb hX hbl hbA hS (jin tx6 (by omega) (by omega)) dL_law_1025 ?_
  have I13 : jI106 σ8 := jI106_fr (congrFun (f10 55 (by decide)) 32) (f10 70 (by decide)) (f10 71 (by decide)) (f10 72 (by decide)) hI106
  refine jcallV (As := [.int (xs x2.toNatClampNeg), .int (xs x4.toNatClampNeg), .int (xs x6.toNatClampNeg)]) (rest := []) ⟨hx, hb, hml, hown, hts⟩ hK hP hA hS hZ (c_X12_act l D cI cL ad zz hJ σ8 τ (xs x2.toNatClampNeg) ((xs x2.toNatClampNeg).toInt) rfl (xs x4.toNatClampNeg) ((xs x4.toNatClampNeg).toInt) rfl (xs x6.toNatClampNeg) ((xs x6.toNatClampNeg).toInt) rfl I13) cw_RL_132 (jc_55 cI cL ad σ8 τ) rfl ⟨Nat.le_of_ble_eq_true rfl, Nat.le_of_ble_eq_true rfl⟩ rfl rfl rfl hl.1 rfl (Nat.le_of_ble_eq_true rfl) dL_law_1026 ⟨Nat.le_of_ble_eq_true rfl, Nat.le_of_ble_eq_true rfl⟩ (fun r15 σ14 τ14 H locs h14 hP hS => ?_)
  obtain ⟨rfl, f16, f17, h14⟩ := h14
  refine lv_pop hx hb dL_law_1029 rfl ?_
  refine lv_goto (tgt := 1357) hx hb dL_law_1030 (by decide) ?_
  obtain ⟨x18, ex18⟩ : ∃ y : Int32, y = x0 + 6 := ⟨_, rfl⟩
  have tx18 : x18.toInt = x0.toInt + 6 := (jadd ex18 rfl jz_6 (by omega) (by omega)).trans (by omega)
  refine lv_iinc (v := x18) (lv' := [(3, .int x18), (2, .ref (ad 55)), (1, .ref (ad 0)), (0, .ref b)]) hx hb dL_law_1357 hl (k := 0) rfl (by rw [ex18]; rfl) (by decide) rfl (fun ls hl => ?_)
  refine lv_goto (tgt := 18) hx hb dL_law_1360 (by decide) ?_
  have I19 : jI2 σ14 := jI2_fr ((congrFun (f16 2 (by decide)) 0).trans (congrFun (f10 2 (by decide)) 0)) ((congrFun (f16 2 (by decide)) 1).trans (congrFun (f10 2 (by decide)) 1)) ((congrFun (f16 2 (by decide)) 2).trans (congrFun (f10 2 (by decide)) 2)) ((congrFun (f16 2 (by decide)) 3).trans (congrFun (f10 2 (by decide)) 3)) ((f16 6 (by decide)).trans (f10 6 (by decide))) hI2
  have I20 : jI9 σ14 := jI9_fr ((congrFun (f16 9 (by decide)) 0).trans (congrFun (f10 9 (by decide)) 0)) ((f16 10 (by decide)).trans (f10 10 (by decide))) ((f16 11 (by decide)).trans (f10 11 (by decide))) hI9
  have I21 : jI12 σ14 := jI12_fr ((congrFun (f16 12 (by decide)) 0).trans (congrFun (f10 12 (by decide)) 0)) ((f16 13 (by decide)).trans (f10 13 (by decide))) hI12
  have I22 : jI16 σ14 := jI16_fr ((congrFun (f16 16 (by decide)) 0).trans (congrFun (f10 16 (by decide)) 0)) ((congrFun (f16 16 (by decide)) 1).trans (congrFun (f10 16 (by decide)) 1)) ((congrFun (f16 16 (by decide)) 2).trans (congrFun (f10 16 (by decide)) 2)) ((f16 17 (by decide)).trans (f10 17 (by decide))) hI16
  have I23 : jI18 σ14 := jI18_fr ((congrFun (f16 18 (by decide)) 0).trans (congrFun (f10 18 (by decide)) 0)) ((f16 19 (by decide)).trans (f10 19 (by decide))) hI18
  have I24 : jI22 σ14 := jI22_fr ((congrFun (f16 22 (by decide)) 0).trans (congrFun (f10 22 (by decide)) 0)) ((f16 23 (by decide)).trans (f10 23 (by decide))) hI22
  have I25 : jI31 σ14 := jI31_fr ((congrFun (f16 31 (by decide)) 8).trans (congrFun (f10 31 (by decide)) 8)) ((f16 33 (by decide)).trans (f10 33 (by decide))) ((f16 36 (by decide)).trans (f10 36 (by decide))) hI31
  have I26 : jI38 σ14 := jI38_fr (congrFun (f16 38 (by decide)) 0) (congrFun (f16 38 (by decide)) 1) (f16 39 (by decide)) I12
  have I27 : jI43 σ14 := jI43_fr ((congrFun (f16 43 (by decide)) 8).trans (congrFun (f10 43 (by decide)) 8)) hI43
  have I28 : jI47 σ14 := jI47_fr ((congrFun (f16 47 (by decide)) 0).trans (congrFun (f10 47 (by decide)) 0)) ((f16 49 (by decide)).trans (f10 49 (by decide))) hI47
  have I29 : jI50 σ14 := jI50_fr ((f16 52 (by decide)).trans (f10 52 (by decide))) hI50
  have I30 : jI101 σ14 := jI101_fr ((f17 4 (by decide)).trans (congrFun (f10 55 (by decide)) 4)) ((f17 5 (by decide)).trans (congrFun (f10 55 (by decide)) 5)) ((f16 56 (by decide)).trans (f10 56 (by decide))) ((f16 57 (by decide)).trans (f10 57 (by decide))) ((f16 58 (by decide)).trans (f10 58 (by decide))) ((f16 59 (by decide)).trans (f10 59 (by decide))) hI101
  have I31 : jI102 σ14 := jI102_fr ((f17 6 (by decide)).trans (congrFun (f10 55 (by decide)) 6)) ((f16 60 (by decide)).trans (f10 60 (by decide))) ((f16 61 (by decide)).trans (f10 61 (by decide))) hI102
  have I32 : jI103 σ14 := jI103_fr ((f17 9 (by decide)).trans (congrFun (f10 55 (by decide)) 9)) hI103
  have I33 : jI104 σ14 := jI104_fr ((f17 10 (by decide)).trans (congrFun (f10 55 (by decide)) 10)) ((f17 12 (by decide)).trans (congrFun (f10 55 (by decide)) 12)) ((f17 13 (by decide)).trans (congrFun (f10 55 (by decide)) 13)) ((f16 62 (by decide)).trans (f10 62 (by decide))) ((f16 67 (by decide)).trans (f10 67 (by decide))) hI104
  have I34 : jI105 σ14 := jI105_fr ((f17 15 (by decide)).trans (congrFun (f10 55 (by decide)) 15)) ((f16 65 (by decide)).trans (f10 65 (by decide))) hI105
  have I35 : jI106 σ14 := jI106_fr (f17 32 (by decide)) (f16 70 (by decide)) (f16 71 (by decide)) (f16 72 (by decide)) I13
  have I36 : jI107 σ14 := jI107_fr ((f17 12 (by decide)).trans (congrFun (f10 55 (by decide)) 12)) ((f17 47 (by decide)).trans (congrFun (f10 55 (by decide)) 47)) ((f16 80 (by decide)).trans (f10 80 (by decide))) hI107
  have I37 : jI109 σ14 := jI109_fr ((f17 50 (by decide)).trans (congrFun (f10 55 (by decide)) 50)) hI109
  have I38 : jI110 σ14 := jI110_fr ((f16 86 (by decide)).trans (f10 86 (by decide))) ((f16 87 (by decide)).trans (f10 87 (by decide))) hI110
  have I39 : jI111 σ14 := jI111_fr ((f16 79 (by decide)).trans (f10 79 (by decide))) hI111
  have I40 : jI119 σ14 := jI119_fr ((f16 68 (by decide)).trans (f10 68 (by decide))) hI119
  have p41 : jKept σ14 := jKept.fr ((f16 75 (by decide)).trans (f10 75 (by decide))) ((f16 76 (by decide)).trans (f10 76 (by decide))) ((f16 77 (by decide)).trans (f10 77 (by decide))) hs_jKept
  have p42 : jBook σ14 := jBook.fr ((f17 47 (by decide)).trans (congrFun (f10 55 (by decide)) 47)) ((f17 10 (by decide)).trans (congrFun (f10 55 (by decide)) 10)) ((f16 81 (by decide)).trans (f10 81 (by decide))) hs_jBook
  have z43 : (σ14 2 0).toInt = (σ 2 0).toInt := (congrArg Int32.toInt (show σ14 2 0 = (σ 2 0) from ((congrFun (f16 2 (by decide)) 0).trans (congrFun (f10 2 (by decide)) 0))))
  have z44 : (σ14 55 6).toInt = (σ 55 6).toInt := (congrArg Int32.toInt (show σ14 55 6 = (σ 55 6) from ((f17 6 (by decide)).trans (congrFun (f10 55 (by decide)) 6))))
  exact ih x18 σ14 τ _ _ ls (by have h9 := tx18; omega) ⟨I19, I20, I21, I22, I23, I24, I25, I26, I27, I28, I29, I30, I31, I32, I33, I34, I35, I36, I37, I38, I39, I40, p41, p42, (by omega)⟩ hP hS (lv_sub hl [0, 1, 2, 3] rfl)
set_option maxHeartbeats 4000000 in
set_option maxRecDepth 100000 in
theorem law_case_29 {p : Program} {e : Env} {s : State} {m : MethodId} {below : List Frame} {meth : Method} {c : Code} (l : Launch) {b L : Nat} {xs : Nat → Int32} {D : va_G} {cI cL : ClassId} {ad zz : Nat → Nat} (C0 : lw_At p s m meth c b L xs) (hJ : jD ad) (hA : ∀ q, jA ad q → s.heap.size ≤ q) (hK : jK D cI cL s) (hZ : jZ zz (fun q : Nat => s.heap.size ≤ q) s s.heap) {x0 : Int32} (hx0 : 0 ≤ x0.toInt) (hxL : x0.toInt + 6 ≤ (L : Int)) (hL : L ≤ 384) {σ : Nat → Nat → Int32} {τ : Nat → Nat → Int64} {H : Heap} {locs : List Loc} (hS : va_S (fun q : Nat => s.heap.size ≤ q) s.heap H locs) {ls : Array Slot} (hAll : jAll σ τ) (hP : jH D cI cL ad σ τ H) (hl : lv_has ls 4 [(3, .int x0), (2, .ref (ad 55)), (1, .ref (ad 0)), (0, .ref b)]) (ih : ∀ (x1 : Int32) (σ : Nat → Nat → Int32) (τ : Nat → Nat → Int64) (H : Heap) (locs : List Loc) (ls : Array Slot), x1.toInt = x0.toInt + 6 → jAll σ τ → jH D cI cL ad σ τ H → va_S (fun q : Nat => s.heap.size ≤ q) s.heap H locs → lv_has ls 4 [(3, .int x1), (2, .ref (ad 55)), (1, .ref (ad 0)), (0, .ref b)] → W p l e room_1 s m #[Value.ref b] below meth c H locs 90 348600 (lw_Z below #[Value.ref b] s) (F0 m 18 ls [])) : W p l e room_1 s m #[Value.ref b] below meth c H locs 90 348600 (lw_Z below #[Value.ref b] s) (F0 m 1033 ls []) := by
  obtain ⟨hx, hb, hr, hml, hown, hts0, hX, hbl, hlocks, hgv⟩ := C0
  have hts : ∀ w ∈ wsL_law, w.before #[Value.ref b] s = true := fun w h => hts0 w (wsL_law_in w h)
  have hbA : ¬ (fun q : Nat => s.heap.size ≤ q) b := Nat.not_le.mpr hbl
  have hown : s.vm.findClass RL = some m.cls := hown
  obtain ⟨hI2, hI9, hI12, hI16, hI18, hI22, hI31, hI38, hI43, hI47, hI50, hI101, hI102, hI103, hI104, hI105, hI106, hI107, hI109, hI110, hI111, hI119, hs_jKept, hs_jBook, ht0⟩ := hAll
  have hL9 : (L : Int) ≤ 384 := by omega
  refine lv_aload_n hx hb dL_law_1033 rfl (lv_at hl 2 rfl) ?_
  refine lv_aload_n hx hb dL_law_1034 rfl (lv_at hl 3 rfl) ?_
  refine lv_iload_n hx hb dL_law_1035 rfl (lv_at hl 0 rfl) ?_
  refine lv_iconst (v := 1) hx hb dL_law_1036 (by decide) ?_
  have g1 := jrg (rfl : x0.toInt = x0.toInt)
  refine lv_iadd hx hb dL_law_1037 ?_
  refine lv_topi (fun x2 ex2 => ?_)
  have tx2 : x2.toInt = x0.toInt + 1 := (jadd ex2 rfl jz_1 (by omega) (by omega)).trans (by omega)
  refine va_sld hx hb hX hbl hbA hS (jin tx2 (by omega) (by omega)) dL_law_1038 ?_
  have g3 := jrg (rfl : (xs x2.toNatClampNeg).toInt = (xs x2.toNatClampNeg).toInt)
  refine jcallV (As := [.int (xs x2.toNatClampNeg)]) (rest := []) ⟨hx, hb, hml, hown, hts⟩ hK hP hA hS hZ (c_X11_trace l D cI cL ad zz hJ σ τ (xs x2.toNatClampNeg) ((xs x2.toNatClampNeg).toInt) rfl hI38) cw_RL_133 (jc_0 cI cL ad σ τ) rfl ⟨Nat.le_of_ble_eq_true rfl, Nat.le_of_ble_eq_true rfl⟩ rfl rfl rfl hl.1 rfl (Nat.le_of_ble_eq_true rfl) dL_law_1039 ⟨Nat.le_of_ble_eq_true rfl, Nat.le_of_ble_eq_true rfl⟩ (fun r5 σ4 τ4 H locs h4 hP hS => ?_)
  obtain ⟨⟨rfl, rfl⟩, h4⟩ := h4
  refine lv_pop hx hb dL_law_1042 rfl ?_
  refine lv_aload_n hx hb dL_law_1043 rfl (lv_at hl 1 rfl) ?_
  refine lv_aload_n hx hb dL_law_1044 rfl (lv_at hl 3 rfl) ?_
  refine lv_iload_n hx hb dL_law_1045 rfl (lv_at hl 0 rfl) ?_
  refine lv_iconst (v := 1) hx hb dL_law_1046 (by decide) ?_
  refine lv_iadd hx hb dL_law_1047 ?_
  refine jtopr ex2.symm ?_
  refine va_sld hx hb hX hbl hbA hS (jin tx2 (by omega) (by omega)) dL_law_1048 ?_
  refine jcallV (As := [.int (xs x2.toNatClampNeg)]) (rest := []) ⟨hx, hb, hml, hown, hts⟩ hK hP hA hS hZ (c_X12_trace l D cI cL ad zz hJ σ τ (xs x2.toNatClampNeg) ((xs x2.toNatClampNeg).toInt) rfl) cw_RL_136 (jc_55 cI cL ad σ τ) rfl ⟨Nat.le_of_ble_eq_true rfl, Nat.le_of_ble_eq_true rfl⟩ rfl rfl rfl hl.1 rfl (Nat.le_of_ble_eq_true rfl) dL_law_1049 ⟨Nat.le_of_ble_eq_true rfl, Nat.le_of_ble_eq_true rfl⟩ (fun r7 σ6 τ6 H locs h6 hP hS => ?_)
  obtain ⟨⟨rfl, rfl⟩, h6⟩ := h6
  refine lv_pop hx hb dL_law_1052 rfl ?_
  refine lv_goto (tgt := 1357) hx hb dL_law_1053 (by decide) ?_
  obtain ⟨x8, ex8⟩ : ∃ y : Int32, y = x0 + 6 := ⟨_, rfl⟩
  have tx8 : x8.toInt = x0.toInt + 6 := (jadd ex8 rfl jz_6 (by omega) (by omega)).trans (by omega)
  refine lv_iinc (v := x8) (lv' := [(3, .int x8), (2, .ref (ad 55)), (1, .ref (ad 0)), (0, .ref b)]) hx hb dL_law_1357 hl (k := 0) rfl (by rw [ex8]; rfl) (by decide) rfl (fun ls hl => ?_)
  refine lv_goto (tgt := 18) hx hb dL_law_1360 (by decide) ?_
  exact ih x8 σ τ _ _ ls (by have h9 := tx8; omega) ⟨hI2, hI9, hI12, hI16, hI18, hI22, hI31, hI38, hI43, hI47, hI50, hI101, hI102, hI103, hI104, hI105, hI106, hI107, hI109, hI110, hI111, hI119, hs_jKept, hs_jBook, (by omega)⟩ hP hS (lv_sub hl [0, 1, 2, 3] rfl)
set_option maxHeartbeats 4000000 in
set_option maxRecDepth 100000 in
theorem law_case_30 {p : Program} {e : Env} {s : State} {m : MethodId} {below : List Frame} {meth : Method} {c : Code} (l : Launch) {b L : Nat} {xs : Nat → Int32} {D : va_G} {cI cL : ClassId} {ad zz : Nat → Nat} (C0 : lw_At p s m meth c b L xs) (hJ : jD ad) (hA : ∀ q, jA ad q → s.heap.size ≤ q) (hK : jK D cI cL s) (hZ : jZ zz (fun q : Nat => s.heap.size ≤ q) s s.heap) {x0 : Int32} (hx0 : 0 ≤ x0.toInt) (hxL : x0.toInt + 6 ≤ (L : Int)) (hL : L ≤ 384) {σ : Nat → Nat → Int32} {τ : Nat → Nat → Int64} {H : Heap} {locs : List Loc} (hS : va_S (fun q : Nat => s.heap.size ≤ q) s.heap H locs) {ls : Array Slot} (hAll : jAll σ τ) (hP : jH D cI cL ad σ τ H) (hl : lv_has ls 4 [(3, .int x0), (2, .ref (ad 55)), (1, .ref (ad 0)), (0, .ref b)]) (ih : ∀ (x1 : Int32) (σ : Nat → Nat → Int32) (τ : Nat → Nat → Int64) (H : Heap) (locs : List Loc) (ls : Array Slot), x1.toInt = x0.toInt + 6 → jAll σ τ → jH D cI cL ad σ τ H → va_S (fun q : Nat => s.heap.size ≤ q) s.heap H locs → lv_has ls 4 [(3, .int x1), (2, .ref (ad 55)), (1, .ref (ad 0)), (0, .ref b)] → W p l e room_1 s m #[Value.ref b] below meth c H locs 90 348600 (lw_Z below #[Value.ref b] s) (F0 m 18 ls [])) : W p l e room_1 s m #[Value.ref b] below meth c H locs 90 348600 (lw_Z below #[Value.ref b] s) (F0 m 1056 ls []) := by
  obtain ⟨hx, hb, hr, hml, hown, hts0, hX, hbl, hlocks, hgv⟩ := C0
  have hts : ∀ w ∈ wsL_law, w.before #[Value.ref b] s = true := fun w h => hts0 w (wsL_law_in w h)
  have hbA : ¬ (fun q : Nat => s.heap.size ≤ q) b := Nat.not_le.mpr hbl
  have hown : s.vm.findClass RL = some m.cls := hown
  obtain ⟨hI2, hI9, hI12, hI16, hI18, hI22, hI31, hI38, hI43, hI47, hI50, hI101, hI102, hI103, hI104, hI105, hI106, hI107, hI109, hI110, hI111, hI119, hs_jKept, hs_jBook, ht0⟩ := hAll
  have hL9 : (L : Int) ≤ 384 := by omega
  refine lv_aload_n hx hb dL_law_1056 rfl (lv_at hl 2 rfl) ?_
  refine lv_aload_n hx hb dL_law_1057 rfl (lv_at hl 3 rfl) ?_
  refine lv_iload_n hx hb dL_law_1058 rfl (lv_at hl 0 rfl) ?_
  refine lv_iconst (v := 1) hx hb dL_law_1059 (by decide) ?_
  have g1 := jrg (rfl : x0.toInt = x0.toInt)
  refine lv_iadd hx hb dL_law_1060 ?_
  refine lv_topi (fun x2 ex2 => ?_)
  have tx2 : x2.toInt = x0.toInt + 1 := (jadd ex2 rfl jz_1 (by omega) (by omega)).trans (by omega)
  refine va_sld hx hb hX hbl hbA hS (jin tx2 (by omega) (by omega)) dL_law_1061 ?_
  have g3 := jrg (rfl : (xs x2.toNatClampNeg).toInt = (xs x2.toNatClampNeg).toInt)
  refine lv_aload_n hx hb dL_law_1062 rfl (lv_at hl 3 rfl) ?_
  refine lv_iload_n hx hb dL_law_1063 rfl (lv_at hl 0 rfl) ?_
  refine lv_iconst (v := 2) hx hb dL_law_1064 (by decide) ?_
  refine lv_iadd hx hb dL_law_1065 ?_
  refine lv_topi (fun x4 ex4 => ?_)
  have tx4 : x4.toInt = x0.toInt + 2 := (jadd ex4 rfl jz_2 (by omega) (by omega)).trans (by omega)
  refine va_sld hx hb hX hbl hbA hS (jin tx4 (by omega) (by omega)) dL_law_1066 ?_
  have g5 := jrg (rfl : (xs x4.toNatClampNeg).toInt = (xs x4.toNatClampNeg).toInt)
  refine jcallV (As := [.int (xs x2.toNatClampNeg), .int (xs x4.toNatClampNeg)]) (rest := []) ⟨hx, hb, hml, hown, hts⟩ hK hP hA hS hZ (c_X11_keep l D cI cL ad zz hJ σ τ (xs x2.toNatClampNeg) ((xs x2.toNatClampNeg).toInt) rfl (xs x4.toNatClampNeg) ((xs x4.toNatClampNeg).toInt) rfl hI38 hI50) cw_RL_137 (jc_0 cI cL ad σ τ) rfl ⟨Nat.le_of_ble_eq_true rfl, Nat.le_of_ble_eq_true rfl⟩ rfl rfl rfl hl.1 rfl (Nat.le_of_ble_eq_true rfl) dL_law_1067 ⟨Nat.le_of_ble_eq_true rfl, Nat.le_of_ble_eq_true rfl⟩ (fun r7 σ6 τ6 H locs h6 hP hS => ?_)
  obtain ⟨rfl, f8, I9, h6⟩ := h6
  rcases h6 with h10 | h11 | h12
  · obtain ⟨q16, k13, k14, k15⟩ := h10
    have q16 := q16.symm
    subst q16
    refine lv_pop hx hb dL_law_1070 rfl ?_
    refine lv_aload_n hx hb dL_law_1071 rfl (lv_at hl 1 rfl) ?_
    refine lv_aload_n hx hb dL_law_1072 rfl (lv_at hl 3 rfl) ?_
    refine lv_iload_n hx hb dL_law_1073 rfl (lv_at hl 0 rfl) ?_
    refine lv_iconst (v := 1) hx hb dL_law_1074 (by decide) ?_
    refine lv_iadd hx hb dL_law_1075 ?_
    refine jtopr ex2.symm ?_
    refine va_sld hx hb hX hbl hbA hS (jin tx2 (by omega) (by omega)) dL_law_1076 ?_
    refine lv_aload_n hx hb dL_law_1077 rfl (lv_at hl 3 rfl) ?_
    refine lv_iload_n hx hb dL_law_1078 rfl (lv_at hl 0 rfl) ?_
    refine lv_iconst (v := 2) hx hb dL_law_1079 (by decide) ?_
    refine lv_iadd hx hb dL_law_1080 ?_
    refine jtopr ex4.symm ?_
    refine va_sld hx hb hX hbl hbA hS (jin tx4 (by omega) (by omega)) dL_law_1081 ?_
    have I17 : jI106 σ6 := jI106_fr (congrFun (f8 55 (by decide)) 32) (f8 70 (by decide)) (f8 71 (by decide)) (f8 72 (by decide)) hI106
    have I18 : jI110 σ6 := jI110_fr (f8 86 (by decide)) (f8 87 (by decide)) hI110
    have z19 : (σ6 55 32).toInt = (σ 55 32).toInt := (congrArg Int32.toInt (show σ6 55 32 = (σ 55 32) from (congrFun (f8 55 (by decide)) 32)))
    refine jcallV (As := [.int (xs x2.toNatClampNeg), .int (xs x4.toNatClampNeg)]) (rest := []) ⟨hx, hb, hml, hown, hts⟩ hK hP hA hS hZ (c_X12_keep l D cI cL ad zz hJ σ6 τ (xs x2.toNatClampNeg) ((xs x2.toNatClampNeg).toInt) rfl (xs x4.toNatClampNeg) ((xs x4.toNatClampNeg).toInt) rfl I17 I18) cw_RL_140 (jc_55 cI cL ad σ6 τ) rfl ⟨Nat.le_of_ble_eq_true rfl, Nat.le_of_ble_eq_true rfl⟩ rfl rfl rfl hl.1 rfl (Nat.le_of_ble_eq_true rfl) dL_law_1082 ⟨Nat.le_of_ble_eq_true rfl, Nat.le_of_ble_eq_true rfl⟩ (fun r21 σ20 τ20 H locs h20 hP hS => ?_)
    obtain ⟨rfl, f22, I23, h20⟩ := h20
    rcases h20 with h24 | h25 | h26
    · obtain ⟨q30, k27, k28, k29⟩ := h24
      have q30 := q30.symm
      subst q30
      refine lv_pop hx hb dL_law_1085 rfl ?_
      refine lv_goto (tgt := 1357) hx hb dL_law_1086 (by decide) ?_
      obtain ⟨x31, ex31⟩ : ∃ y : Int32, y = x0 + 6 := ⟨_, rfl⟩
      have tx31 : x31.toInt = x0.toInt + 6 := (jadd ex31 rfl jz_6 (by omega) (by omega)).trans (by omega)
      refine lv_iinc (v := x31) (lv' := [(3, .int x31), (2, .ref (ad 55)), (1, .ref (ad 0)), (0, .ref b)]) hx hb dL_law_1357 hl (k := 0) rfl (by rw [ex31]; rfl) (by decide) rfl (fun ls hl => ?_)
      refine lv_goto (tgt := 18) hx hb dL_law_1360 (by decide) ?_
      have I32 : jI2 σ20 := jI2_fr ((congrFun (f22 2 (by decide)) 0).trans (congrFun (f8 2 (by decide)) 0)) ((congrFun (f22 2 (by decide)) 1).trans (congrFun (f8 2 (by decide)) 1)) ((congrFun (f22 2 (by decide)) 2).trans (congrFun (f8 2 (by decide)) 2)) ((congrFun (f22 2 (by decide)) 3).trans (congrFun (f8 2 (by decide)) 3)) ((f22 6 (by decide)).trans (f8 6 (by decide))) hI2
      have I33 : jI9 σ20 := jI9_fr ((congrFun (f22 9 (by decide)) 0).trans (congrFun (f8 9 (by decide)) 0)) ((f22 10 (by decide)).trans (f8 10 (by decide))) ((f22 11 (by decide)).trans (f8 11 (by decide))) hI9
      have I34 : jI12 σ20 := jI12_fr ((congrFun (f22 12 (by decide)) 0).trans (congrFun (f8 12 (by decide)) 0)) ((f22 13 (by decide)).trans (f8 13 (by decide))) hI12
      have I35 : jI16 σ20 := jI16_fr ((congrFun (f22 16 (by decide)) 0).trans (congrFun (f8 16 (by decide)) 0)) ((congrFun (f22 16 (by decide)) 1).trans (congrFun (f8 16 (by decide)) 1)) ((congrFun (f22 16 (by decide)) 2).trans (congrFun (f8 16 (by decide)) 2)) ((f22 17 (by decide)).trans (f8 17 (by decide))) hI16
      have I36 : jI18 σ20 := jI18_fr ((congrFun (f22 18 (by decide)) 0).trans (congrFun (f8 18 (by decide)) 0)) ((f22 19 (by decide)).trans (f8 19 (by decide))) hI18
      have I37 : jI22 σ20 := jI22_fr ((congrFun (f22 22 (by decide)) 0).trans (congrFun (f8 22 (by decide)) 0)) ((f22 23 (by decide)).trans (f8 23 (by decide))) hI22
      have I38 : jI31 σ20 := jI31_fr ((congrFun (f22 31 (by decide)) 8).trans (congrFun (f8 31 (by decide)) 8)) ((f22 33 (by decide)).trans (f8 33 (by decide))) ((f22 36 (by decide)).trans (f8 36 (by decide))) hI31
      have I39 : jI38 σ20 := jI38_fr ((congrFun (f22 38 (by decide)) 0).trans (congrFun (f8 38 (by decide)) 0)) ((congrFun (f22 38 (by decide)) 1).trans (congrFun (f8 38 (by decide)) 1)) ((f22 39 (by decide)).trans (f8 39 (by decide))) hI38
      have I40 : jI43 σ20 := jI43_fr ((congrFun (f22 43 (by decide)) 8).trans (congrFun (f8 43 (by decide)) 8)) hI43
      have I41 : jI47 σ20 := jI47_fr ((congrFun (f22 47 (by decide)) 0).trans (congrFun (f8 47 (by decide)) 0)) ((f22 49 (by decide)).trans (f8 49 (by decide))) hI47
      have I42 : jI50 σ20 := jI50_fr (f22 52 (by decide)) I9
      have I43 : jI101 σ20 := jI101_fr ((congrFun (f22 55 (by decide)) 4).trans (congrFun (f8 55 (by decide)) 4)) ((congrFun (f22 55 (by decide)) 5).trans (congrFun (f8 55 (by decide)) 5)) ((f22 56 (by decide)).trans (f8 56 (by decide))) ((f22 57 (by decide)).trans (f8 57 (by decide))) ((f22 58 (by decide)).trans (f8 58 (by decide))) ((f22 59 (by decide)).trans (f8 59 (by decide))) hI101
      have I44 : jI102 σ20 := jI102_fr ((congrFun (f22 55 (by decide)) 6).trans (congrFun (f8 55 (by decide)) 6)) ((f22 60 (by decide)).trans (f8 60 (by decide))) ((f22 61 (by decide)).trans (f8 61 (by decide))) hI102
      have I45 : jI103 σ20 := jI103_fr ((congrFun (f22 55 (by decide)) 9).trans (congrFun (f8 55 (by decide)) 9)) hI103
      have I46 : jI104 σ20 := jI104_fr ((congrFun (f22 55 (by decide)) 10).trans (congrFun (f8 55 (by decide)) 10)) ((congrFun (f22 55 (by decide)) 12).trans (congrFun (f8 55 (by decide)) 12)) ((congrFun (f22 55 (by decide)) 13).trans (congrFun (f8 55 (by decide)) 13)) ((f22 62 (by decide)).trans (f8 62 (by decide))) ((f22 67 (by decide)).trans (f8 67 (by decide))) hI104
      have I47 : jI105 σ20 := jI105_fr ((congrFun (f22 55 (by decide)) 15).trans (congrFun (f8 55 (by decide)) 15)) ((f22 65 (by decide)).trans (f8 65 (by decide))) hI105
      have I48 : jI106 σ20 := jI106_fr (congrFun (f22 55 (by decide)) 32) (f22 70 (by decide)) (f22 71 (by decide)) (f22 72 (by decide)) I17
      have I49 : jI107 σ20 := jI107_fr ((congrFun (f22 55 (by decide)) 12).trans (congrFun (f8 55 (by decide)) 12)) ((congrFun (f22 55 (by decide)) 47).trans (congrFun (f8 55 (by decide)) 47)) ((f22 80 (by decide)).trans (f8 80 (by decide))) hI107
      have I50 : jI109 σ20 := jI109_fr ((congrFun (f22 55 (by decide)) 50).trans (congrFun (f8 55 (by decide)) 50)) hI109
      have I51 : jI111 σ20 := jI111_fr ((f22 79 (by decide)).trans (f8 79 (by decide))) hI111
      have I52 : jI119 σ20 := jI119_fr ((f22 68 (by decide)).trans (f8 68 (by decide))) hI119
      have p53 : jKept σ20 := jKept.fr ((f22 75 (by decide)).trans (f8 75 (by decide))) ((f22 76 (by decide)).trans (f8 76 (by decide))) ((f22 77 (by decide)).trans (f8 77 (by decide))) hs_jKept
      have p54 : jBook σ20 := jBook.fr ((congrFun (f22 55 (by decide)) 47).trans (congrFun (f8 55 (by decide)) 47)) ((congrFun (f22 55 (by decide)) 10).trans (congrFun (f8 55 (by decide)) 10)) ((f22 81 (by decide)).trans (f8 81 (by decide))) hs_jBook
      have z55 : (σ20 2 0).toInt = (σ 2 0).toInt := (congrArg Int32.toInt (show σ20 2 0 = (σ 2 0) from ((congrFun (f22 2 (by decide)) 0).trans (congrFun (f8 2 (by decide)) 0))))
      have z56 : (σ20 55 6).toInt = (σ 55 6).toInt := (congrArg Int32.toInt (show σ20 55 6 = (σ 55 6) from ((congrFun (f22 55 (by decide)) 6).trans (congrFun (f8 55 (by decide)) 6))))
      exact ih x31 σ20 τ _ _ ls (by have h9 := tx31; omega) ⟨I32, I33, I34, I35, I36, I37, I38, I39, I40, I41, I42, I43, I44, I45, I46, I47, I48, I49, I50, I23, I51, I52, p53, p54, (by omega)⟩ hP hS (lv_sub hl [0, 1, 2, 3] rfl)
    · obtain ⟨q60, k57, k58, k59⟩ := h25
      exact absurd (by omega : False) id
    · obtain ⟨q63, k61, k62⟩ := h26
      exact absurd (by omega : False) id
  · obtain ⟨q67, k64, k65, k66⟩ := h11
    have q67 := q67.symm
    subst q67
    refine lv_pop hx hb dL_law_1070 rfl ?_
    refine lv_aload_n hx hb dL_law_1071 rfl (lv_at hl 1 rfl) ?_
    refine lv_aload_n hx hb dL_law_1072 rfl (lv_at hl 3 rfl) ?_
    refine lv_iload_n hx hb dL_law_1073 rfl (lv_at hl 0 rfl) ?_
    refine lv_iconst (v := 1) hx hb dL_law_1074 (by decide) ?_
    refine lv_iadd hx hb dL_law_1075 ?_
    refine jtopr ex2.symm ?_
    refine va_sld hx hb hX hbl hbA hS (jin tx2 (by omega) (by omega)) dL_law_1076 ?_
    refine lv_aload_n hx hb dL_law_1077 rfl (lv_at hl 3 rfl) ?_
    refine lv_iload_n hx hb dL_law_1078 rfl (lv_at hl 0 rfl) ?_
    refine lv_iconst (v := 2) hx hb dL_law_1079 (by decide) ?_
    refine lv_iadd hx hb dL_law_1080 ?_
    refine jtopr ex4.symm ?_
    refine va_sld hx hb hX hbl hbA hS (jin tx4 (by omega) (by omega)) dL_law_1081 ?_
    have I68 : jI106 σ6 := jI106_fr (congrFun (f8 55 (by decide)) 32) (f8 70 (by decide)) (f8 71 (by decide)) (f8 72 (by decide)) hI106
    have I69 : jI110 σ6 := jI110_fr (f8 86 (by decide)) (f8 87 (by decide)) hI110
    have z70 : (σ6 55 32).toInt = (σ 55 32).toInt := (congrArg Int32.toInt (show σ6 55 32 = (σ 55 32) from (congrFun (f8 55 (by decide)) 32)))
    refine jcallV (As := [.int (xs x2.toNatClampNeg), .int (xs x4.toNatClampNeg)]) (rest := []) ⟨hx, hb, hml, hown, hts⟩ hK hP hA hS hZ (c_X12_keep l D cI cL ad zz hJ σ6 τ (xs x2.toNatClampNeg) ((xs x2.toNatClampNeg).toInt) rfl (xs x4.toNatClampNeg) ((xs x4.toNatClampNeg).toInt) rfl I68 I69) cw_RL_140 (jc_55 cI cL ad σ6 τ) rfl ⟨Nat.le_of_ble_eq_true rfl, Nat.le_of_ble_eq_true rfl⟩ rfl rfl rfl hl.1 rfl (Nat.le_of_ble_eq_true rfl) dL_law_1082 ⟨Nat.le_of_ble_eq_true rfl, Nat.le_of_ble_eq_true rfl⟩ (fun r72 σ71 τ71 H locs h71 hP hS => ?_)
    obtain ⟨rfl, f73, I74, h71⟩ := h71
    rcases h71 with h75 | h76 | h77
    · obtain ⟨q81, k78, k79, k80⟩ := h75
      exact absurd (by omega : False) id
    · obtain ⟨q85, k82, k83, k84⟩ := h76
      have q85 := q85.symm
      subst q85
      refine lv_pop hx hb dL_law_1085 rfl ?_
      refine lv_goto (tgt := 1357) hx hb dL_law_1086 (by decide) ?_
      obtain ⟨x86, ex86⟩ : ∃ y : Int32, y = x0 + 6 := ⟨_, rfl⟩
      have tx86 : x86.toInt = x0.toInt + 6 := (jadd ex86 rfl jz_6 (by omega) (by omega)).trans (by omega)
      refine lv_iinc (v := x86) (lv' := [(3, .int x86), (2, .ref (ad 55)), (1, .ref (ad 0)), (0, .ref b)]) hx hb dL_law_1357 hl (k := 0) rfl (by rw [ex86]; rfl) (by decide) rfl (fun ls hl => ?_)
      refine lv_goto (tgt := 18) hx hb dL_law_1360 (by decide) ?_
      have I87 : jI2 σ71 := jI2_fr ((congrFun (f73 2 (by decide)) 0).trans (congrFun (f8 2 (by decide)) 0)) ((congrFun (f73 2 (by decide)) 1).trans (congrFun (f8 2 (by decide)) 1)) ((congrFun (f73 2 (by decide)) 2).trans (congrFun (f8 2 (by decide)) 2)) ((congrFun (f73 2 (by decide)) 3).trans (congrFun (f8 2 (by decide)) 3)) ((f73 6 (by decide)).trans (f8 6 (by decide))) hI2
      have I88 : jI9 σ71 := jI9_fr ((congrFun (f73 9 (by decide)) 0).trans (congrFun (f8 9 (by decide)) 0)) ((f73 10 (by decide)).trans (f8 10 (by decide))) ((f73 11 (by decide)).trans (f8 11 (by decide))) hI9
      have I89 : jI12 σ71 := jI12_fr ((congrFun (f73 12 (by decide)) 0).trans (congrFun (f8 12 (by decide)) 0)) ((f73 13 (by decide)).trans (f8 13 (by decide))) hI12
      have I90 : jI16 σ71 := jI16_fr ((congrFun (f73 16 (by decide)) 0).trans (congrFun (f8 16 (by decide)) 0)) ((congrFun (f73 16 (by decide)) 1).trans (congrFun (f8 16 (by decide)) 1)) ((congrFun (f73 16 (by decide)) 2).trans (congrFun (f8 16 (by decide)) 2)) ((f73 17 (by decide)).trans (f8 17 (by decide))) hI16
      have I91 : jI18 σ71 := jI18_fr ((congrFun (f73 18 (by decide)) 0).trans (congrFun (f8 18 (by decide)) 0)) ((f73 19 (by decide)).trans (f8 19 (by decide))) hI18
      have I92 : jI22 σ71 := jI22_fr ((congrFun (f73 22 (by decide)) 0).trans (congrFun (f8 22 (by decide)) 0)) ((f73 23 (by decide)).trans (f8 23 (by decide))) hI22
      have I93 : jI31 σ71 := jI31_fr ((congrFun (f73 31 (by decide)) 8).trans (congrFun (f8 31 (by decide)) 8)) ((f73 33 (by decide)).trans (f8 33 (by decide))) ((f73 36 (by decide)).trans (f8 36 (by decide))) hI31
      have I94 : jI38 σ71 := jI38_fr ((congrFun (f73 38 (by decide)) 0).trans (congrFun (f8 38 (by decide)) 0)) ((congrFun (f73 38 (by decide)) 1).trans (congrFun (f8 38 (by decide)) 1)) ((f73 39 (by decide)).trans (f8 39 (by decide))) hI38
      have I95 : jI43 σ71 := jI43_fr ((congrFun (f73 43 (by decide)) 8).trans (congrFun (f8 43 (by decide)) 8)) hI43
      have I96 : jI47 σ71 := jI47_fr ((congrFun (f73 47 (by decide)) 0).trans (congrFun (f8 47 (by decide)) 0)) ((f73 49 (by decide)).trans (f8 49 (by decide))) hI47
      have I97 : jI50 σ71 := jI50_fr (f73 52 (by decide)) I9
      have I98 : jI101 σ71 := jI101_fr ((congrFun (f73 55 (by decide)) 4).trans (congrFun (f8 55 (by decide)) 4)) ((congrFun (f73 55 (by decide)) 5).trans (congrFun (f8 55 (by decide)) 5)) ((f73 56 (by decide)).trans (f8 56 (by decide))) ((f73 57 (by decide)).trans (f8 57 (by decide))) ((f73 58 (by decide)).trans (f8 58 (by decide))) ((f73 59 (by decide)).trans (f8 59 (by decide))) hI101
      have I99 : jI102 σ71 := jI102_fr ((congrFun (f73 55 (by decide)) 6).trans (congrFun (f8 55 (by decide)) 6)) ((f73 60 (by decide)).trans (f8 60 (by decide))) ((f73 61 (by decide)).trans (f8 61 (by decide))) hI102
      have I100 : jI103 σ71 := jI103_fr ((congrFun (f73 55 (by decide)) 9).trans (congrFun (f8 55 (by decide)) 9)) hI103
      have I101 : jI104 σ71 := jI104_fr ((congrFun (f73 55 (by decide)) 10).trans (congrFun (f8 55 (by decide)) 10)) ((congrFun (f73 55 (by decide)) 12).trans (congrFun (f8 55 (by decide)) 12)) ((congrFun (f73 55 (by decide)) 13).trans (congrFun (f8 55 (by decide)) 13)) ((f73 62 (by decide)).trans (f8 62 (by decide))) ((f73 67 (by decide)).trans (f8 67 (by decide))) hI104
      have I102 : jI105 σ71 := jI105_fr ((congrFun (f73 55 (by decide)) 15).trans (congrFun (f8 55 (by decide)) 15)) ((f73 65 (by decide)).trans (f8 65 (by decide))) hI105
      have I103 : jI106 σ71 := jI106_fr (congrFun (f73 55 (by decide)) 32) (f73 70 (by decide)) (f73 71 (by decide)) (f73 72 (by decide)) I68
      have I104 : jI107 σ71 := jI107_fr ((congrFun (f73 55 (by decide)) 12).trans (congrFun (f8 55 (by decide)) 12)) ((congrFun (f73 55 (by decide)) 47).trans (congrFun (f8 55 (by decide)) 47)) ((f73 80 (by decide)).trans (f8 80 (by decide))) hI107
      have I105 : jI109 σ71 := jI109_fr ((congrFun (f73 55 (by decide)) 50).trans (congrFun (f8 55 (by decide)) 50)) hI109
      have I106 : jI111 σ71 := jI111_fr ((f73 79 (by decide)).trans (f8 79 (by decide))) hI111
      have I107 : jI119 σ71 := jI119_fr ((f73 68 (by decide)).trans (f8 68 (by decide))) hI119
      have p108 : jKept σ71 := jKept.fr ((f73 75 (by decide)).trans (f8 75 (by decide))) ((f73 76 (by decide)).trans (f8 76 (by decide))) ((f73 77 (by decide)).trans (f8 77 (by decide))) hs_jKept
      have p109 : jBook σ71 := jBook.fr ((congrFun (f73 55 (by decide)) 47).trans (congrFun (f8 55 (by decide)) 47)) ((congrFun (f73 55 (by decide)) 10).trans (congrFun (f8 55 (by decide)) 10)) ((f73 81 (by decide)).trans (f8 81 (by decide))) hs_jBook
      have z110 : (σ71 2 0).toInt = (σ 2 0).toInt := (congrArg Int32.toInt (show σ71 2 0 = (σ 2 0) from ((congrFun (f73 2 (by decide)) 0).trans (congrFun (f8 2 (by decide)) 0))))
      have z111 : (σ71 55 6).toInt = (σ 55 6).toInt := (congrArg Int32.toInt (show σ71 55 6 = (σ 55 6) from ((congrFun (f73 55 (by decide)) 6).trans (congrFun (f8 55 (by decide)) 6))))
      exact ih x86 σ71 τ _ _ ls (by have h9 := tx86; omega) ⟨I87, I88, I89, I90, I91, I92, I93, I94, I95, I96, I97, I98, I99, I100, I101, I102, I103, I104, I105, I74, I106, I107, p108, p109, (by omega)⟩ hP hS (lv_sub hl [0, 1, 2, 3] rfl)
    · obtain ⟨q114, k112, k113⟩ := h77
      have q114 := q114.symm
      subst q114
      refine lv_pop hx hb dL_law_1085 rfl ?_
      refine lv_goto (tgt := 1357) hx hb dL_law_1086 (by decide) ?_
      obtain ⟨x115, ex115⟩ : ∃ y : Int32, y = x0 + 6 := ⟨_, rfl⟩
      have tx115 : x115.toInt = x0.toInt + 6 := (jadd ex115 rfl jz_6 (by omega) (by omega)).trans (by omega)
      refine lv_iinc (v := x115) (lv' := [(3, .int x115), (2, .ref (ad 55)), (1, .ref (ad 0)), (0, .ref b)]) hx hb dL_law_1357 hl (k := 0) rfl (by rw [ex115]; rfl) (by decide) rfl (fun ls hl => ?_)
      refine lv_goto (tgt := 18) hx hb dL_law_1360 (by decide) ?_
      have I116 : jI2 σ71 := jI2_fr ((congrFun (f73 2 (by decide)) 0).trans (congrFun (f8 2 (by decide)) 0)) ((congrFun (f73 2 (by decide)) 1).trans (congrFun (f8 2 (by decide)) 1)) ((congrFun (f73 2 (by decide)) 2).trans (congrFun (f8 2 (by decide)) 2)) ((congrFun (f73 2 (by decide)) 3).trans (congrFun (f8 2 (by decide)) 3)) ((f73 6 (by decide)).trans (f8 6 (by decide))) hI2
      have I117 : jI9 σ71 := jI9_fr ((congrFun (f73 9 (by decide)) 0).trans (congrFun (f8 9 (by decide)) 0)) ((f73 10 (by decide)).trans (f8 10 (by decide))) ((f73 11 (by decide)).trans (f8 11 (by decide))) hI9
      have I118 : jI12 σ71 := jI12_fr ((congrFun (f73 12 (by decide)) 0).trans (congrFun (f8 12 (by decide)) 0)) ((f73 13 (by decide)).trans (f8 13 (by decide))) hI12
      have I119 : jI16 σ71 := jI16_fr ((congrFun (f73 16 (by decide)) 0).trans (congrFun (f8 16 (by decide)) 0)) ((congrFun (f73 16 (by decide)) 1).trans (congrFun (f8 16 (by decide)) 1)) ((congrFun (f73 16 (by decide)) 2).trans (congrFun (f8 16 (by decide)) 2)) ((f73 17 (by decide)).trans (f8 17 (by decide))) hI16
      have I120 : jI18 σ71 := jI18_fr ((congrFun (f73 18 (by decide)) 0).trans (congrFun (f8 18 (by decide)) 0)) ((f73 19 (by decide)).trans (f8 19 (by decide))) hI18
      have I121 : jI22 σ71 := jI22_fr ((congrFun (f73 22 (by decide)) 0).trans (congrFun (f8 22 (by decide)) 0)) ((f73 23 (by decide)).trans (f8 23 (by decide))) hI22
      have I122 : jI31 σ71 := jI31_fr ((congrFun (f73 31 (by decide)) 8).trans (congrFun (f8 31 (by decide)) 8)) ((f73 33 (by decide)).trans (f8 33 (by decide))) ((f73 36 (by decide)).trans (f8 36 (by decide))) hI31
      have I123 : jI38 σ71 := jI38_fr ((congrFun (f73 38 (by decide)) 0).trans (congrFun (f8 38 (by decide)) 0)) ((congrFun (f73 38 (by decide)) 1).trans (congrFun (f8 38 (by decide)) 1)) ((f73 39 (by decide)).trans (f8 39 (by decide))) hI38
      have I124 : jI43 σ71 := jI43_fr ((congrFun (f73 43 (by decide)) 8).trans (congrFun (f8 43 (by decide)) 8)) hI43
      have I125 : jI47 σ71 := jI47_fr ((congrFun (f73 47 (by decide)) 0).trans (congrFun (f8 47 (by decide)) 0)) ((f73 49 (by decide)).trans (f8 49 (by decide))) hI47
      have I126 : jI50 σ71 := jI50_fr (f73 52 (by decide)) I9
      have I127 : jI101 σ71 := jI101_fr ((congrFun (f73 55 (by decide)) 4).trans (congrFun (f8 55 (by decide)) 4)) ((congrFun (f73 55 (by decide)) 5).trans (congrFun (f8 55 (by decide)) 5)) ((f73 56 (by decide)).trans (f8 56 (by decide))) ((f73 57 (by decide)).trans (f8 57 (by decide))) ((f73 58 (by decide)).trans (f8 58 (by decide))) ((f73 59 (by decide)).trans (f8 59 (by decide))) hI101
      have I128 : jI102 σ71 := jI102_fr ((congrFun (f73 55 (by decide)) 6).trans (congrFun (f8 55 (by decide)) 6)) ((f73 60 (by decide)).trans (f8 60 (by decide))) ((f73 61 (by decide)).trans (f8 61 (by decide))) hI102
      have I129 : jI103 σ71 := jI103_fr ((congrFun (f73 55 (by decide)) 9).trans (congrFun (f8 55 (by decide)) 9)) hI103
      have I130 : jI104 σ71 := jI104_fr ((congrFun (f73 55 (by decide)) 10).trans (congrFun (f8 55 (by decide)) 10)) ((congrFun (f73 55 (by decide)) 12).trans (congrFun (f8 55 (by decide)) 12)) ((congrFun (f73 55 (by decide)) 13).trans (congrFun (f8 55 (by decide)) 13)) ((f73 62 (by decide)).trans (f8 62 (by decide))) ((f73 67 (by decide)).trans (f8 67 (by decide))) hI104
      have I131 : jI105 σ71 := jI105_fr ((congrFun (f73 55 (by decide)) 15).trans (congrFun (f8 55 (by decide)) 15)) ((f73 65 (by decide)).trans (f8 65 (by decide))) hI105
      have I132 : jI106 σ71 := jI106_fr (congrFun (f73 55 (by decide)) 32) (f73 70 (by decide)) (f73 71 (by decide)) (f73 72 (by decide)) I68
      have I133 : jI107 σ71 := jI107_fr ((congrFun (f73 55 (by decide)) 12).trans (congrFun (f8 55 (by decide)) 12)) ((congrFun (f73 55 (by decide)) 47).trans (congrFun (f8 55 (by decide)) 47)) ((f73 80 (by decide)).trans (f8 80 (by decide))) hI107
      have I134 : jI109 σ71 := jI109_fr ((congrFun (f73 55 (by decide)) 50).trans (congrFun (f8 55 (by decide)) 50)) hI109
      have I135 : jI111 σ71 := jI111_fr ((f73 79 (by decide)).trans (f8 79 (by decide))) hI111
      have I136 : jI119 σ71 := jI119_fr ((f73 68 (by decide)).trans (f8 68 (by decide))) hI119
      have p137 : jKept σ71 := jKept.fr ((f73 75 (by decide)).trans (f8 75 (by decide))) ((f73 76 (by decide)).trans (f8 76 (by decide))) ((f73 77 (by decide)).trans (f8 77 (by decide))) hs_jKept
      have p138 : jBook σ71 := jBook.fr ((congrFun (f73 55 (by decide)) 47).trans (congrFun (f8 55 (by decide)) 47)) ((congrFun (f73 55 (by decide)) 10).trans (congrFun (f8 55 (by decide)) 10)) ((f73 81 (by decide)).trans (f8 81 (by decide))) hs_jBook
      have z139 : (σ71 2 0).toInt = (σ 2 0).toInt := (congrArg Int32.toInt (show σ71 2 0 = (σ 2 0) from ((congrFun (f73 2 (by decide)) 0).trans (congrFun (f8 2 (by decide)) 0))))
      have z140 : (σ71 55 6).toInt = (σ 55 6).toInt := (congrArg Int32.toInt (show σ71 55 6 = (σ 55 6) from ((congrFun (f73 55 (by decide)) 6).trans (congrFun (f8 55 (by decide)) 6))))
      exact ih x115 σ71 τ _ _ ls (by have h9 := tx115; omega) ⟨I116, I117, I118, I119, I120, I121, I122, I123, I124, I125, I126, I127, I128, I129, I130, I131, I132, I133, I134, I74, I135, I136, p137, p138, (by omega)⟩ hP hS (lv_sub hl [0, 1, 2, 3] rfl)
  · obtain ⟨q143, k141, k142⟩ := h12
    have q143 := q143.symm
    subst q143
    refine lv_pop hx hb dL_law_1070 rfl ?_
    refine lv_aload_n hx hb dL_law_1071 rfl (lv_at hl 1 rfl) ?_
    refine lv_aload_n hx hb dL_law_1072 rfl (lv_at hl 3 rfl) ?_
    refine lv_iload_n hx hb dL_law_1073 rfl (lv_at hl 0 rfl) ?_
    refine lv_iconst (v := 1) hx hb dL_law_1074 (by decide) ?_
    refine lv_iadd hx hb dL_law_1075 ?_
    refine jtopr ex2.symm ?_
    refine va_sld hx hb hX hbl hbA hS (jin tx2 (by omega) (by omega)) dL_law_1076 ?_
    refine lv_aload_n hx hb dL_law_1077 rfl (lv_at hl 3 rfl) ?_
    refine lv_iload_n hx hb dL_law_1078 rfl (lv_at hl 0 rfl) ?_
    refine lv_iconst (v := 2) hx hb dL_law_1079 (by decide) ?_
    refine lv_iadd hx hb dL_law_1080 ?_
    refine jtopr ex4.symm ?_
    refine va_sld hx hb hX hbl hbA hS (jin tx4 (by omega) (by omega)) dL_law_1081 ?_
    have I144 : jI106 σ6 := jI106_fr (congrFun (f8 55 (by decide)) 32) (f8 70 (by decide)) (f8 71 (by decide)) (f8 72 (by decide)) hI106
    have I145 : jI110 σ6 := jI110_fr (f8 86 (by decide)) (f8 87 (by decide)) hI110
    have z146 : (σ6 55 32).toInt = (σ 55 32).toInt := (congrArg Int32.toInt (show σ6 55 32 = (σ 55 32) from (congrFun (f8 55 (by decide)) 32)))
    refine jcallV (As := [.int (xs x2.toNatClampNeg), .int (xs x4.toNatClampNeg)]) (rest := []) ⟨hx, hb, hml, hown, hts⟩ hK hP hA hS hZ (c_X12_keep l D cI cL ad zz hJ σ6 τ (xs x2.toNatClampNeg) ((xs x2.toNatClampNeg).toInt) rfl (xs x4.toNatClampNeg) ((xs x4.toNatClampNeg).toInt) rfl I144 I145) cw_RL_140 (jc_55 cI cL ad σ6 τ) rfl ⟨Nat.le_of_ble_eq_true rfl, Nat.le_of_ble_eq_true rfl⟩ rfl rfl rfl hl.1 rfl (Nat.le_of_ble_eq_true rfl) dL_law_1082 ⟨Nat.le_of_ble_eq_true rfl, Nat.le_of_ble_eq_true rfl⟩ (fun r148 σ147 τ147 H locs h147 hP hS => ?_)
    obtain ⟨rfl, f149, I150, h147⟩ := h147
    rcases h147 with h151 | h152 | h153
    · obtain ⟨q157, k154, k155, k156⟩ := h151
      exact absurd (by omega : False) id
    · obtain ⟨q161, k158, k159, k160⟩ := h152
      have q161 := q161.symm
      subst q161
      refine lv_pop hx hb dL_law_1085 rfl ?_
      refine lv_goto (tgt := 1357) hx hb dL_law_1086 (by decide) ?_
      obtain ⟨x162, ex162⟩ : ∃ y : Int32, y = x0 + 6 := ⟨_, rfl⟩
      have tx162 : x162.toInt = x0.toInt + 6 := (jadd ex162 rfl jz_6 (by omega) (by omega)).trans (by omega)
      refine lv_iinc (v := x162) (lv' := [(3, .int x162), (2, .ref (ad 55)), (1, .ref (ad 0)), (0, .ref b)]) hx hb dL_law_1357 hl (k := 0) rfl (by rw [ex162]; rfl) (by decide) rfl (fun ls hl => ?_)
      refine lv_goto (tgt := 18) hx hb dL_law_1360 (by decide) ?_
      have I163 : jI2 σ147 := jI2_fr ((congrFun (f149 2 (by decide)) 0).trans (congrFun (f8 2 (by decide)) 0)) ((congrFun (f149 2 (by decide)) 1).trans (congrFun (f8 2 (by decide)) 1)) ((congrFun (f149 2 (by decide)) 2).trans (congrFun (f8 2 (by decide)) 2)) ((congrFun (f149 2 (by decide)) 3).trans (congrFun (f8 2 (by decide)) 3)) ((f149 6 (by decide)).trans (f8 6 (by decide))) hI2
      have I164 : jI9 σ147 := jI9_fr ((congrFun (f149 9 (by decide)) 0).trans (congrFun (f8 9 (by decide)) 0)) ((f149 10 (by decide)).trans (f8 10 (by decide))) ((f149 11 (by decide)).trans (f8 11 (by decide))) hI9
      have I165 : jI12 σ147 := jI12_fr ((congrFun (f149 12 (by decide)) 0).trans (congrFun (f8 12 (by decide)) 0)) ((f149 13 (by decide)).trans (f8 13 (by decide))) hI12
      have I166 : jI16 σ147 := jI16_fr ((congrFun (f149 16 (by decide)) 0).trans (congrFun (f8 16 (by decide)) 0)) ((congrFun (f149 16 (by decide)) 1).trans (congrFun (f8 16 (by decide)) 1)) ((congrFun (f149 16 (by decide)) 2).trans (congrFun (f8 16 (by decide)) 2)) ((f149 17 (by decide)).trans (f8 17 (by decide))) hI16
      have I167 : jI18 σ147 := jI18_fr ((congrFun (f149 18 (by decide)) 0).trans (congrFun (f8 18 (by decide)) 0)) ((f149 19 (by decide)).trans (f8 19 (by decide))) hI18
      have I168 : jI22 σ147 := jI22_fr ((congrFun (f149 22 (by decide)) 0).trans (congrFun (f8 22 (by decide)) 0)) ((f149 23 (by decide)).trans (f8 23 (by decide))) hI22
      have I169 : jI31 σ147 := jI31_fr ((congrFun (f149 31 (by decide)) 8).trans (congrFun (f8 31 (by decide)) 8)) ((f149 33 (by decide)).trans (f8 33 (by decide))) ((f149 36 (by decide)).trans (f8 36 (by decide))) hI31
      have I170 : jI38 σ147 := jI38_fr ((congrFun (f149 38 (by decide)) 0).trans (congrFun (f8 38 (by decide)) 0)) ((congrFun (f149 38 (by decide)) 1).trans (congrFun (f8 38 (by decide)) 1)) ((f149 39 (by decide)).trans (f8 39 (by decide))) hI38
      have I171 : jI43 σ147 := jI43_fr ((congrFun (f149 43 (by decide)) 8).trans (congrFun (f8 43 (by decide)) 8)) hI43
      have I172 : jI47 σ147 := jI47_fr ((congrFun (f149 47 (by decide)) 0).trans (congrFun (f8 47 (by decide)) 0)) ((f149 49 (by decide)).trans (f8 49 (by decide))) hI47
      have I173 : jI50 σ147 := jI50_fr (f149 52 (by decide)) I9
      have I174 : jI101 σ147 := jI101_fr ((congrFun (f149 55 (by decide)) 4).trans (congrFun (f8 55 (by decide)) 4)) ((congrFun (f149 55 (by decide)) 5).trans (congrFun (f8 55 (by decide)) 5)) ((f149 56 (by decide)).trans (f8 56 (by decide))) ((f149 57 (by decide)).trans (f8 57 (by decide))) ((f149 58 (by decide)).trans (f8 58 (by decide))) ((f149 59 (by decide)).trans (f8 59 (by decide))) hI101
      have I175 : jI102 σ147 := jI102_fr ((congrFun (f149 55 (by decide)) 6).trans (congrFun (f8 55 (by decide)) 6)) ((f149 60 (by decide)).trans (f8 60 (by decide))) ((f149 61 (by decide)).trans (f8 61 (by decide))) hI102
      have I176 : jI103 σ147 := jI103_fr ((congrFun (f149 55 (by decide)) 9).trans (congrFun (f8 55 (by decide)) 9)) hI103
      have I177 : jI104 σ147 := jI104_fr ((congrFun (f149 55 (by decide)) 10).trans (congrFun (f8 55 (by decide)) 10)) ((congrFun (f149 55 (by decide)) 12).trans (congrFun (f8 55 (by decide)) 12)) ((congrFun (f149 55 (by decide)) 13).trans (congrFun (f8 55 (by decide)) 13)) ((f149 62 (by decide)).trans (f8 62 (by decide))) ((f149 67 (by decide)).trans (f8 67 (by decide))) hI104
      have I178 : jI105 σ147 := jI105_fr ((congrFun (f149 55 (by decide)) 15).trans (congrFun (f8 55 (by decide)) 15)) ((f149 65 (by decide)).trans (f8 65 (by decide))) hI105
      have I179 : jI106 σ147 := jI106_fr (congrFun (f149 55 (by decide)) 32) (f149 70 (by decide)) (f149 71 (by decide)) (f149 72 (by decide)) I144
      have I180 : jI107 σ147 := jI107_fr ((congrFun (f149 55 (by decide)) 12).trans (congrFun (f8 55 (by decide)) 12)) ((congrFun (f149 55 (by decide)) 47).trans (congrFun (f8 55 (by decide)) 47)) ((f149 80 (by decide)).trans (f8 80 (by decide))) hI107
      have I181 : jI109 σ147 := jI109_fr ((congrFun (f149 55 (by decide)) 50).trans (congrFun (f8 55 (by decide)) 50)) hI109
      have I182 : jI111 σ147 := jI111_fr ((f149 79 (by decide)).trans (f8 79 (by decide))) hI111
      have I183 : jI119 σ147 := jI119_fr ((f149 68 (by decide)).trans (f8 68 (by decide))) hI119
      have p184 : jKept σ147 := jKept.fr ((f149 75 (by decide)).trans (f8 75 (by decide))) ((f149 76 (by decide)).trans (f8 76 (by decide))) ((f149 77 (by decide)).trans (f8 77 (by decide))) hs_jKept
      have p185 : jBook σ147 := jBook.fr ((congrFun (f149 55 (by decide)) 47).trans (congrFun (f8 55 (by decide)) 47)) ((congrFun (f149 55 (by decide)) 10).trans (congrFun (f8 55 (by decide)) 10)) ((f149 81 (by decide)).trans (f8 81 (by decide))) hs_jBook
      have z186 : (σ147 2 0).toInt = (σ 2 0).toInt := (congrArg Int32.toInt (show σ147 2 0 = (σ 2 0) from ((congrFun (f149 2 (by decide)) 0).trans (congrFun (f8 2 (by decide)) 0))))
      have z187 : (σ147 55 6).toInt = (σ 55 6).toInt := (congrArg Int32.toInt (show σ147 55 6 = (σ 55 6) from ((congrFun (f149 55 (by decide)) 6).trans (congrFun (f8 55 (by decide)) 6))))
      exact ih x162 σ147 τ _ _ ls (by have h9 := tx162; omega) ⟨I163, I164, I165, I166, I167, I168, I169, I170, I171, I172, I173, I174, I175, I176, I177, I178, I179, I180, I181, I150, I182, I183, p184, p185, (by omega)⟩ hP hS (lv_sub hl [0, 1, 2, 3] rfl)
    · obtain ⟨q190, k188, k189⟩ := h153
      have q190 := q190.symm
      subst q190
      refine lv_pop hx hb dL_law_1085 rfl ?_
      refine lv_goto (tgt := 1357) hx hb dL_law_1086 (by decide) ?_
      obtain ⟨x191, ex191⟩ : ∃ y : Int32, y = x0 + 6 := ⟨_, rfl⟩
      have tx191 : x191.toInt = x0.toInt + 6 := (jadd ex191 rfl jz_6 (by omega) (by omega)).trans (by omega)
      refine lv_iinc (v := x191) (lv' := [(3, .int x191), (2, .ref (ad 55)), (1, .ref (ad 0)), (0, .ref b)]) hx hb dL_law_1357 hl (k := 0) rfl (by rw [ex191]; rfl) (by decide) rfl (fun ls hl => ?_)
      refine lv_goto (tgt := 18) hx hb dL_law_1360 (by decide) ?_
      have I192 : jI2 σ147 := jI2_fr ((congrFun (f149 2 (by decide)) 0).trans (congrFun (f8 2 (by decide)) 0)) ((congrFun (f149 2 (by decide)) 1).trans (congrFun (f8 2 (by decide)) 1)) ((congrFun (f149 2 (by decide)) 2).trans (congrFun (f8 2 (by decide)) 2)) ((congrFun (f149 2 (by decide)) 3).trans (congrFun (f8 2 (by decide)) 3)) ((f149 6 (by decide)).trans (f8 6 (by decide))) hI2
      have I193 : jI9 σ147 := jI9_fr ((congrFun (f149 9 (by decide)) 0).trans (congrFun (f8 9 (by decide)) 0)) ((f149 10 (by decide)).trans (f8 10 (by decide))) ((f149 11 (by decide)).trans (f8 11 (by decide))) hI9
      have I194 : jI12 σ147 := jI12_fr ((congrFun (f149 12 (by decide)) 0).trans (congrFun (f8 12 (by decide)) 0)) ((f149 13 (by decide)).trans (f8 13 (by decide))) hI12
      have I195 : jI16 σ147 := jI16_fr ((congrFun (f149 16 (by decide)) 0).trans (congrFun (f8 16 (by decide)) 0)) ((congrFun (f149 16 (by decide)) 1).trans (congrFun (f8 16 (by decide)) 1)) ((congrFun (f149 16 (by decide)) 2).trans (congrFun (f8 16 (by decide)) 2)) ((f149 17 (by decide)).trans (f8 17 (by decide))) hI16
      have I196 : jI18 σ147 := jI18_fr ((congrFun (f149 18 (by decide)) 0).trans (congrFun (f8 18 (by decide)) 0)) ((f149 19 (by decide)).trans (f8 19 (by decide))) hI18
      have I197 : jI22 σ147 := jI22_fr ((congrFun (f149 22 (by decide)) 0).trans (congrFun (f8 22 (by decide)) 0)) ((f149 23 (by decide)).trans (f8 23 (by decide))) hI22
      have I198 : jI31 σ147 := jI31_fr ((congrFun (f149 31 (by decide)) 8).trans (congrFun (f8 31 (by decide)) 8)) ((f149 33 (by decide)).trans (f8 33 (by decide))) ((f149 36 (by decide)).trans (f8 36 (by decide))) hI31
      have I199 : jI38 σ147 := jI38_fr ((congrFun (f149 38 (by decide)) 0).trans (congrFun (f8 38 (by decide)) 0)) ((congrFun (f149 38 (by decide)) 1).trans (congrFun (f8 38 (by decide)) 1)) ((f149 39 (by decide)).trans (f8 39 (by decide))) hI38
      have I200 : jI43 σ147 := jI43_fr ((congrFun (f149 43 (by decide)) 8).trans (congrFun (f8 43 (by decide)) 8)) hI43
      have I201 : jI47 σ147 := jI47_fr ((congrFun (f149 47 (by decide)) 0).trans (congrFun (f8 47 (by decide)) 0)) ((f149 49 (by decide)).trans (f8 49 (by decide))) hI47
      have I202 : jI50 σ147 := jI50_fr (f149 52 (by decide)) I9
      have I203 : jI101 σ147 := jI101_fr ((congrFun (f149 55 (by decide)) 4).trans (congrFun (f8 55 (by decide)) 4)) ((congrFun (f149 55 (by decide)) 5).trans (congrFun (f8 55 (by decide)) 5)) ((f149 56 (by decide)).trans (f8 56 (by decide))) ((f149 57 (by decide)).trans (f8 57 (by decide))) ((f149 58 (by decide)).trans (f8 58 (by decide))) ((f149 59 (by decide)).trans (f8 59 (by decide))) hI101
      have I204 : jI102 σ147 := jI102_fr ((congrFun (f149 55 (by decide)) 6).trans (congrFun (f8 55 (by decide)) 6)) ((f149 60 (by decide)).trans (f8 60 (by decide))) ((f149 61 (by decide)).trans (f8 61 (by decide))) hI102
      have I205 : jI103 σ147 := jI103_fr ((congrFun (f149 55 (by decide)) 9).trans (congrFun (f8 55 (by decide)) 9)) hI103
      have I206 : jI104 σ147 := jI104_fr ((congrFun (f149 55 (by decide)) 10).trans (congrFun (f8 55 (by decide)) 10)) ((congrFun (f149 55 (by decide)) 12).trans (congrFun (f8 55 (by decide)) 12)) ((congrFun (f149 55 (by decide)) 13).trans (congrFun (f8 55 (by decide)) 13)) ((f149 62 (by decide)).trans (f8 62 (by decide))) ((f149 67 (by decide)).trans (f8 67 (by decide))) hI104
      have I207 : jI105 σ147 := jI105_fr ((congrFun (f149 55 (by decide)) 15).trans (congrFun (f8 55 (by decide)) 15)) ((f149 65 (by decide)).trans (f8 65 (by decide))) hI105
      have I208 : jI106 σ147 := jI106_fr (congrFun (f149 55 (by decide)) 32) (f149 70 (by decide)) (f149 71 (by decide)) (f149 72 (by decide)) I144
      have I209 : jI107 σ147 := jI107_fr ((congrFun (f149 55 (by decide)) 12).trans (congrFun (f8 55 (by decide)) 12)) ((congrFun (f149 55 (by decide)) 47).trans (congrFun (f8 55 (by decide)) 47)) ((f149 80 (by decide)).trans (f8 80 (by decide))) hI107
      have I210 : jI109 σ147 := jI109_fr ((congrFun (f149 55 (by decide)) 50).trans (congrFun (f8 55 (by decide)) 50)) hI109
      have I211 : jI111 σ147 := jI111_fr ((f149 79 (by decide)).trans (f8 79 (by decide))) hI111
      have I212 : jI119 σ147 := jI119_fr ((f149 68 (by decide)).trans (f8 68 (by decide))) hI119
      have p213 : jKept σ147 := jKept.fr ((f149 75 (by decide)).trans (f8 75 (by decide))) ((f149 76 (by decide)).trans (f8 76 (by decide))) ((f149 77 (by decide)).trans (f8 77 (by decide))) hs_jKept
      have p214 : jBook σ147 := jBook.fr ((congrFun (f149 55 (by decide)) 47).trans (congrFun (f8 55 (by decide)) 47)) ((congrFun (f149 55 (by decide)) 10).trans (congrFun (f8 55 (by decide)) 10)) ((f149 81 (by decide)).trans (f8 81 (by decide))) hs_jBook
      have z215 : (σ147 2 0).toInt = (σ 2 0).toInt := (congrArg Int32.toInt (show σ147 2 0 = (σ 2 0) from ((congrFun (f149 2 (by decide)) 0).trans (congrFun (f8 2 (by decide)) 0))))
      have z216 : (σ147 55 6).toInt = (σ 55 6).toInt := (congrArg Int32.toInt (show σ147 55 6 = (σ 55 6) from ((congrFun (f149 55 (by decide)) 6).trans (congrFun (f8 55 (by decide)) 6))))
      exact ih x191 σ147 τ _ _ ls (by have h9 := tx191; omega) ⟨I192, I193, I194, I195, I196, I197, I198, I199, I200, I201, I202, I203, I204, I205, I206, I207, I208, I209, I210, I150, I211, I212, p213, p214, (by omega)⟩ hP hS (lv_sub hl [0, 1, 2, 3] rfl)
set_option maxHeartbeats 4000000 in
set_option maxRecDepth 100000 in
theorem law_case_31 {p : Program} {e : Env} {s : State} {m : MethodId} {below : List Frame} {meth : Method} {c : Code} (l : Launch) {b L : Nat} {xs : Nat → Int32} {D : va_G} {cI cL : ClassId} {ad zz : Nat → Nat} (C0 : lw_At p s m meth c b L xs) (hJ : jD ad) (hA : ∀ q, jA ad q → s.heap.size ≤ q) (hK : jK D cI cL s) (hZ : jZ zz (fun q : Nat => s.heap.size ≤ q) s s.heap) {x0 : Int32} (hx0 : 0 ≤ x0.toInt) (hxL : x0.toInt + 6 ≤ (L : Int)) (hL : L ≤ 384) {σ : Nat → Nat → Int32} {τ : Nat → Nat → Int64} {H : Heap} {locs : List Loc} (hS : va_S (fun q : Nat => s.heap.size ≤ q) s.heap H locs) {ls : Array Slot} (hAll : jAll σ τ) (hP : jH D cI cL ad σ τ H) (hl : lv_has ls 4 [(3, .int x0), (2, .ref (ad 55)), (1, .ref (ad 0)), (0, .ref b)]) (ih : ∀ (x1 : Int32) (σ : Nat → Nat → Int32) (τ : Nat → Nat → Int64) (H : Heap) (locs : List Loc) (ls : Array Slot), x1.toInt = x0.toInt + 6 → jAll σ τ → jH D cI cL ad σ τ H → va_S (fun q : Nat => s.heap.size ≤ q) s.heap H locs → lv_has ls 4 [(3, .int x1), (2, .ref (ad 55)), (1, .ref (ad 0)), (0, .ref b)] → W p l e room_1 s m #[Value.ref b] below meth c H locs 90 348600 (lw_Z below #[Value.ref b] s) (F0 m 18 ls [])) : W p l e room_1 s m #[Value.ref b] below meth c H locs 90 348600 (lw_Z below #[Value.ref b] s) (F0 m 1089 ls []) := by
  obtain ⟨hx, hb, hr, hml, hown, hts0, hX, hbl, hlocks, hgv⟩ := C0
  have hts : ∀ w ∈ wsL_law, w.before #[Value.ref b] s = true := fun w h => hts0 w (wsL_law_in w h)
  have hbA : ¬ (fun q : Nat => s.heap.size ≤ q) b := Nat.not_le.mpr hbl
  have hown : s.vm.findClass RL = some m.cls := hown
  obtain ⟨hI2, hI9, hI12, hI16, hI18, hI22, hI31, hI38, hI43, hI47, hI50, hI101, hI102, hI103, hI104, hI105, hI106, hI107, hI109, hI110, hI111, hI119, hs_jKept, hs_jBook, ht0⟩ := hAll
  have hL9 : (L : Int) ≤ 384 := by omega
  refine lv_aload_n hx hb dL_law_1089 rfl (lv_at hl 2 rfl) ?_
  refine lv_aload_n hx hb dL_law_1090 rfl (lv_at hl 3 rfl) ?_
  refine lv_iload_n hx hb dL_law_1091 rfl (lv_at hl 0 rfl) ?_
  refine lv_iconst (v := 1) hx hb dL_law_1092 (by decide) ?_
  have g1 := jrg (rfl : x0.toInt = x0.toInt)
  refine lv_iadd hx hb dL_law_1093 ?_
  refine lv_topi (fun x2 ex2 => ?_)
  have tx2 : x2.toInt = x0.toInt + 1 := (jadd ex2 rfl jz_1 (by omega) (by omega)).trans (by omega)
  refine va_sld hx hb hX hbl hbA hS (jin tx2 (by omega) (by omega)) dL_law_1094 ?_
  have g3 := jrg (rfl : (xs x2.toNatClampNeg).toInt = (xs x2.toNatClampNeg).toInt)
  refine lv_aload_n hx hb dL_law_1095 rfl (lv_at hl 3 rfl) ?_
  refine lv_iload_n hx hb dL_law_1096 rfl (lv_at hl 0 rfl) ?_
  refine lv_iconst (v := 2) hx hb dL_law_1097 (by decide) ?_
  refine lv_iadd hx hb dL_law_1098 ?_
  refine lv_topi (fun x4 ex4 => ?_)
  have tx4 : x4.toInt = x0.toInt + 2 := (jadd ex4 rfl jz_2 (by omega) (by omega)).trans (by omega)
  refine va_sld hx hb hX hbl hbA hS (jin tx4 (by omega) (by omega)) dL_law_1099 ?_
  have g5 := jrg (rfl : (xs x4.toNatClampNeg).toInt = (xs x4.toNatClampNeg).toInt)
  refine lv_aload_n hx hb dL_law_1100 rfl (lv_at hl 3 rfl) ?_
  refine lv_iload_n hx hb dL_law_1101 rfl (lv_at hl 0 rfl) ?_
  refine lv_iconst (v := 3) hx hb dL_law_1102 (by decide) ?_
  refine lv_iadd hx hb dL_law_1103 ?_
  refine lv_topi (fun x6 ex6 => ?_)
  have tx6 : x6.toInt = x0.toInt + 3 := (jadd ex6 rfl jz_3 (by omega) (by omega)).trans (by omega)
  refine va_sld hx hb hX hbl hbA hS (jin tx6 (by omega) (by omega)) dL_law_1104 ?_
  have g7 := jrg (rfl : (xs x6.toNatClampNeg).toInt = (xs x6.toNatClampNeg).toInt)
  refine jcallV (As := [.int (xs x2.toNatClampNeg), .int (xs x4.toNatClampNeg), .int (xs x6.toNatClampNeg)]) (rest := []) ⟨hx, hb, hml, hown, hts⟩ hK hP hA hS hZ (c_X11_row l D cI cL ad zz hJ σ τ (xs x2.toNatClampNeg) ((xs x2.toNatClampNeg).toInt) rfl (xs x4.toNatClampNeg) ((xs x4.toNatClampNeg).toInt) rfl (xs x6.toNatClampNeg) ((xs x6.toNatClampNeg).toInt) rfl hI50) cw_RL_141 (jc_0 cI cL ad σ τ) rfl ⟨Nat.le_of_ble_eq_true rfl, Nat.le_of_ble_eq_true rfl⟩ rfl rfl rfl hl.1 rfl (Nat.le_of_ble_eq_true rfl) dL_law_1105 ⟨Nat.le_of_ble_eq_true rfl, Nat.le_of_ble_eq_true rfl⟩ (fun r9 σ8 τ8 H locs h8 hP hS => ?_)
  obtain ⟨f10, I11, h8⟩ := h8
  rcases h8 with h12 | h13 | h14
  · obtain ⟨q17, k15, k16⟩ := h12
    have q17 := q17.symm
    subst q17
    refine lv_pop hx hb dL_law_1108 rfl ?_
    refine lv_aload_n hx hb dL_law_1109 rfl (lv_at hl 1 rfl) ?_
    refine lv_aload_n hx hb dL_law_1110 rfl (lv_at hl 3 rfl) ?_
    refine lv_iload_n hx hb dL_law_1111 rfl (lv_at hl 0 rfl) ?_
    refine lv_iconst (v := 1) hx hb dL_law_1112 (by decide) ?_
    refine lv_iadd hx hb dL_law_1113 ?_
    refine jtopr ex2.symm ?_
    refine va_sld hx hb hX hbl hbA hS (jin tx2 (by omega) (by omega)) dL_law_1114 ?_
    refine lv_aload_n hx hb dL_law_1115 rfl (lv_at hl 3 rfl) ?_
    refine lv_iload_n hx hb dL_law_1116 rfl (lv_at hl 0 rfl) ?_
    refine lv_iconst (v := 2) hx hb dL_law_1117 (by decide) ?_
    refine lv_iadd hx hb dL_law_1118 ?_
    refine jtopr ex4.symm ?_
    refine va_sld hx hb hX hbl hbA hS (jin tx4 (by omega) (by omega)) dL_law_1119 ?_
    refine lv_aload_n hx hb dL_law_1120 rfl (lv_at hl 3 rfl) ?_
    refine lv_iload_n hx hb dL_law_1121 rfl (lv_at hl 0 rfl) ?_
    refine lv_iconst (v := 3) hx hb dL_law_1122 (by decide) ?_
    refine lv_iadd hx hb dL_law_1123 ?_
    refine jtopr ex6.symm ?_
    refine va_sld hx hb hX hbl hbA hS (jin tx6 (by omega) (by omega)) dL_law_1124 ?_
    have I18 : jI110 σ8 := jI110_fr (f10 86 (by decide)) (f10 87 (by decide)) hI110
    refine jcallV (As := [.int (xs x2.toNatClampNeg), .int (xs x4.toNatClampNeg), .int (xs x6.toNatClampNeg)]) (rest := []) ⟨hx, hb, hml, hown, hts⟩ hK hP hA hS hZ (c_X12_row l D cI cL ad zz hJ σ8 τ8 (xs x2.toNatClampNeg) ((xs x2.toNatClampNeg).toInt) rfl (xs x4.toNatClampNeg) ((xs x4.toNatClampNeg).toInt) rfl (xs x6.toNatClampNeg) ((xs x6.toNatClampNeg).toInt) rfl I18) cw_RL_144 (jc_55 cI cL ad σ8 τ8) rfl ⟨Nat.le_of_ble_eq_true rfl, Nat.le_of_ble_eq_true rfl⟩ rfl rfl rfl hl.1 rfl (Nat.le_of_ble_eq_true rfl) dL_law_1125 ⟨Nat.le_of_ble_eq_true rfl, Nat.le_of_ble_eq_true rfl⟩ (fun r20 σ19 τ19 H locs h19 hP hS => ?_)
    obtain ⟨f21, I22, h19⟩ := h19
    rcases h19 with h23 | h24 | h25
    · obtain ⟨q28, k26, k27⟩ := h23
      have q28 := q28.symm
      subst q28
      refine lv_pop hx hb dL_law_1128 rfl ?_
      refine lv_goto (tgt := 1357) hx hb dL_law_1129 (by decide) ?_
      obtain ⟨x29, ex29⟩ : ∃ y : Int32, y = x0 + 6 := ⟨_, rfl⟩
      have tx29 : x29.toInt = x0.toInt + 6 := (jadd ex29 rfl jz_6 (by omega) (by omega)).trans (by omega)
      refine lv_iinc (v := x29) (lv' := [(3, .int x29), (2, .ref (ad 55)), (1, .ref (ad 0)), (0, .ref b)]) hx hb dL_law_1357 hl (k := 0) rfl (by rw [ex29]; rfl) (by decide) rfl (fun ls hl => ?_)
      refine lv_goto (tgt := 18) hx hb dL_law_1360 (by decide) ?_
      have I30 : jI2 σ19 := jI2_fr ((congrFun (f21 2 (by decide)) 0).trans (congrFun (f10 2 (by decide)) 0)) ((congrFun (f21 2 (by decide)) 1).trans (congrFun (f10 2 (by decide)) 1)) ((congrFun (f21 2 (by decide)) 2).trans (congrFun (f10 2 (by decide)) 2)) ((congrFun (f21 2 (by decide)) 3).trans (congrFun (f10 2 (by decide)) 3)) ((f21 6 (by decide)).trans (f10 6 (by decide))) hI2
      have I31 : jI9 σ19 := jI9_fr ((congrFun (f21 9 (by decide)) 0).trans (congrFun (f10 9 (by decide)) 0)) ((f21 10 (by decide)).trans (f10 10 (by decide))) ((f21 11 (by decide)).trans (f10 11 (by decide))) hI9
      have I32 : jI12 σ19 := jI12_fr ((congrFun (f21 12 (by decide)) 0).trans (congrFun (f10 12 (by decide)) 0)) ((f21 13 (by decide)).trans (f10 13 (by decide))) hI12
      have I33 : jI16 σ19 := jI16_fr ((congrFun (f21 16 (by decide)) 0).trans (congrFun (f10 16 (by decide)) 0)) ((congrFun (f21 16 (by decide)) 1).trans (congrFun (f10 16 (by decide)) 1)) ((congrFun (f21 16 (by decide)) 2).trans (congrFun (f10 16 (by decide)) 2)) ((f21 17 (by decide)).trans (f10 17 (by decide))) hI16
      have I34 : jI18 σ19 := jI18_fr ((congrFun (f21 18 (by decide)) 0).trans (congrFun (f10 18 (by decide)) 0)) ((f21 19 (by decide)).trans (f10 19 (by decide))) hI18
      have I35 : jI22 σ19 := jI22_fr ((congrFun (f21 22 (by decide)) 0).trans (congrFun (f10 22 (by decide)) 0)) ((f21 23 (by decide)).trans (f10 23 (by decide))) hI22
      have I36 : jI31 σ19 := jI31_fr ((congrFun (f21 31 (by decide)) 8).trans (congrFun (f10 31 (by decide)) 8)) ((f21 33 (by decide)).trans (f10 33 (by decide))) ((f21 36 (by decide)).trans (f10 36 (by decide))) hI31
      have I37 : jI38 σ19 := jI38_fr ((congrFun (f21 38 (by decide)) 0).trans (congrFun (f10 38 (by decide)) 0)) ((congrFun (f21 38 (by decide)) 1).trans (congrFun (f10 38 (by decide)) 1)) ((f21 39 (by decide)).trans (f10 39 (by decide))) hI38
      have I38 : jI43 σ19 := jI43_fr ((congrFun (f21 43 (by decide)) 8).trans (congrFun (f10 43 (by decide)) 8)) hI43
      have I39 : jI47 σ19 := jI47_fr ((congrFun (f21 47 (by decide)) 0).trans (congrFun (f10 47 (by decide)) 0)) ((f21 49 (by decide)).trans (f10 49 (by decide))) hI47
      have I40 : jI50 σ19 := jI50_fr (f21 52 (by decide)) I11
      have I41 : jI101 σ19 := jI101_fr ((congrFun (f21 55 (by decide)) 4).trans (congrFun (f10 55 (by decide)) 4)) ((congrFun (f21 55 (by decide)) 5).trans (congrFun (f10 55 (by decide)) 5)) ((f21 56 (by decide)).trans (f10 56 (by decide))) ((f21 57 (by decide)).trans (f10 57 (by decide))) ((f21 58 (by decide)).trans (f10 58 (by decide))) ((f21 59 (by decide)).trans (f10 59 (by decide))) hI101
      have I42 : jI102 σ19 := jI102_fr ((congrFun (f21 55 (by decide)) 6).trans (congrFun (f10 55 (by decide)) 6)) ((f21 60 (by decide)).trans (f10 60 (by decide))) ((f21 61 (by decide)).trans (f10 61 (by decide))) hI102
      have I43 : jI103 σ19 := jI103_fr ((congrFun (f21 55 (by decide)) 9).trans (congrFun (f10 55 (by decide)) 9)) hI103
      have I44 : jI104 σ19 := jI104_fr ((congrFun (f21 55 (by decide)) 10).trans (congrFun (f10 55 (by decide)) 10)) ((congrFun (f21 55 (by decide)) 12).trans (congrFun (f10 55 (by decide)) 12)) ((congrFun (f21 55 (by decide)) 13).trans (congrFun (f10 55 (by decide)) 13)) ((f21 62 (by decide)).trans (f10 62 (by decide))) ((f21 67 (by decide)).trans (f10 67 (by decide))) hI104
      have I45 : jI105 σ19 := jI105_fr ((congrFun (f21 55 (by decide)) 15).trans (congrFun (f10 55 (by decide)) 15)) ((f21 65 (by decide)).trans (f10 65 (by decide))) hI105
      have I46 : jI106 σ19 := jI106_fr ((congrFun (f21 55 (by decide)) 32).trans (congrFun (f10 55 (by decide)) 32)) ((f21 70 (by decide)).trans (f10 70 (by decide))) ((f21 71 (by decide)).trans (f10 71 (by decide))) ((f21 72 (by decide)).trans (f10 72 (by decide))) hI106
      have I47 : jI107 σ19 := jI107_fr ((congrFun (f21 55 (by decide)) 12).trans (congrFun (f10 55 (by decide)) 12)) ((congrFun (f21 55 (by decide)) 47).trans (congrFun (f10 55 (by decide)) 47)) ((f21 80 (by decide)).trans (f10 80 (by decide))) hI107
      have I48 : jI109 σ19 := jI109_fr ((congrFun (f21 55 (by decide)) 50).trans (congrFun (f10 55 (by decide)) 50)) hI109
      have I49 : jI111 σ19 := jI111_fr ((f21 79 (by decide)).trans (f10 79 (by decide))) hI111
      have I50 : jI119 σ19 := jI119_fr ((f21 68 (by decide)).trans (f10 68 (by decide))) hI119
      have p51 : jKept σ19 := jKept.fr ((f21 75 (by decide)).trans (f10 75 (by decide))) ((f21 76 (by decide)).trans (f10 76 (by decide))) ((f21 77 (by decide)).trans (f10 77 (by decide))) hs_jKept
      have p52 : jBook σ19 := jBook.fr ((congrFun (f21 55 (by decide)) 47).trans (congrFun (f10 55 (by decide)) 47)) ((congrFun (f21 55 (by decide)) 10).trans (congrFun (f10 55 (by decide)) 10)) ((f21 81 (by decide)).trans (f10 81 (by decide))) hs_jBook
      have z53 : (σ19 2 0).toInt = (σ 2 0).toInt := (congrArg Int32.toInt (show σ19 2 0 = (σ 2 0) from ((congrFun (f21 2 (by decide)) 0).trans (congrFun (f10 2 (by decide)) 0))))
      have z54 : (σ19 55 6).toInt = (σ 55 6).toInt := (congrArg Int32.toInt (show σ19 55 6 = (σ 55 6) from ((congrFun (f21 55 (by decide)) 6).trans (congrFun (f10 55 (by decide)) 6))))
      exact ih x29 σ19 τ19 _ _ ls (by have h9 := tx29; omega) ⟨I30, I31, I32, I33, I34, I35, I36, I37, I38, I39, I40, I41, I42, I43, I44, I45, I46, I47, I48, I22, I49, I50, p51, p52, (by omega)⟩ hP hS (lv_sub hl [0, 1, 2, 3] rfl)
    · obtain ⟨q59, k55, k56, k57, k58⟩ := h24
      exact absurd (by omega : False) id
    · obtain ⟨q64, k60, k61, k62, k63⟩ := h25
      exact absurd (by omega : False) id
  · obtain ⟨q69, k65, k66, k67, k68⟩ := h13
    have q69 := q69.symm
    subst q69
    refine lv_pop hx hb dL_law_1108 rfl ?_
    refine lv_aload_n hx hb dL_law_1109 rfl (lv_at hl 1 rfl) ?_
    refine lv_aload_n hx hb dL_law_1110 rfl (lv_at hl 3 rfl) ?_
    refine lv_iload_n hx hb dL_law_1111 rfl (lv_at hl 0 rfl) ?_
    refine lv_iconst (v := 1) hx hb dL_law_1112 (by decide) ?_
    refine lv_iadd hx hb dL_law_1113 ?_
    refine jtopr ex2.symm ?_
    refine va_sld hx hb hX hbl hbA hS (jin tx2 (by omega) (by omega)) dL_law_1114 ?_
    refine lv_aload_n hx hb dL_law_1115 rfl (lv_at hl 3 rfl) ?_
    refine lv_iload_n hx hb dL_law_1116 rfl (lv_at hl 0 rfl) ?_
    refine lv_iconst (v := 2) hx hb dL_law_1117 (by decide) ?_
    refine lv_iadd hx hb dL_law_1118 ?_
    refine jtopr ex4.symm ?_
    refine va_sld hx hb hX hbl hbA hS (jin tx4 (by omega) (by omega)) dL_law_1119 ?_
    refine lv_aload_n hx hb dL_law_1120 rfl (lv_at hl 3 rfl) ?_
    refine lv_iload_n hx hb dL_law_1121 rfl (lv_at hl 0 rfl) ?_
    refine lv_iconst (v := 3) hx hb dL_law_1122 (by decide) ?_
    refine lv_iadd hx hb dL_law_1123 ?_
    refine jtopr ex6.symm ?_
    refine va_sld hx hb hX hbl hbA hS (jin tx6 (by omega) (by omega)) dL_law_1124 ?_
    have I70 : jI110 σ8 := jI110_fr (f10 86 (by decide)) (f10 87 (by decide)) hI110
    refine jcallV (As := [.int (xs x2.toNatClampNeg), .int (xs x4.toNatClampNeg), .int (xs x6.toNatClampNeg)]) (rest := []) ⟨hx, hb, hml, hown, hts⟩ hK hP hA hS hZ (c_X12_row l D cI cL ad zz hJ σ8 τ8 (xs x2.toNatClampNeg) ((xs x2.toNatClampNeg).toInt) rfl (xs x4.toNatClampNeg) ((xs x4.toNatClampNeg).toInt) rfl (xs x6.toNatClampNeg) ((xs x6.toNatClampNeg).toInt) rfl I70) cw_RL_144 (jc_55 cI cL ad σ8 τ8) rfl ⟨Nat.le_of_ble_eq_true rfl, Nat.le_of_ble_eq_true rfl⟩ rfl rfl rfl hl.1 rfl (Nat.le_of_ble_eq_true rfl) dL_law_1125 ⟨Nat.le_of_ble_eq_true rfl, Nat.le_of_ble_eq_true rfl⟩ (fun r72 σ71 τ71 H locs h71 hP hS => ?_)
    obtain ⟨f73, I74, h71⟩ := h71
    rcases h71 with h75 | h76 | h77
    · obtain ⟨q80, k78, k79⟩ := h75
      exact absurd (by omega : False) id
    · obtain ⟨q85, k81, k82, k83, k84⟩ := h76
      have q85 := q85.symm
      subst q85
      refine lv_pop hx hb dL_law_1128 rfl ?_
      refine lv_goto (tgt := 1357) hx hb dL_law_1129 (by decide) ?_
      obtain ⟨x86, ex86⟩ : ∃ y : Int32, y = x0 + 6 := ⟨_, rfl⟩
      have tx86 : x86.toInt = x0.toInt + 6 := (jadd ex86 rfl jz_6 (by omega) (by omega)).trans (by omega)
      refine lv_iinc (v := x86) (lv' := [(3, .int x86), (2, .ref (ad 55)), (1, .ref (ad 0)), (0, .ref b)]) hx hb dL_law_1357 hl (k := 0) rfl (by rw [ex86]; rfl) (by decide) rfl (fun ls hl => ?_)
      refine lv_goto (tgt := 18) hx hb dL_law_1360 (by decide) ?_
      have I87 : jI2 σ71 := jI2_fr ((congrFun (f73 2 (by decide)) 0).trans (congrFun (f10 2 (by decide)) 0)) ((congrFun (f73 2 (by decide)) 1).trans (congrFun (f10 2 (by decide)) 1)) ((congrFun (f73 2 (by decide)) 2).trans (congrFun (f10 2 (by decide)) 2)) ((congrFun (f73 2 (by decide)) 3).trans (congrFun (f10 2 (by decide)) 3)) ((f73 6 (by decide)).trans (f10 6 (by decide))) hI2
      have I88 : jI9 σ71 := jI9_fr ((congrFun (f73 9 (by decide)) 0).trans (congrFun (f10 9 (by decide)) 0)) ((f73 10 (by decide)).trans (f10 10 (by decide))) ((f73 11 (by decide)).trans (f10 11 (by decide))) hI9
      have I89 : jI12 σ71 := jI12_fr ((congrFun (f73 12 (by decide)) 0).trans (congrFun (f10 12 (by decide)) 0)) ((f73 13 (by decide)).trans (f10 13 (by decide))) hI12
      have I90 : jI16 σ71 := jI16_fr ((congrFun (f73 16 (by decide)) 0).trans (congrFun (f10 16 (by decide)) 0)) ((congrFun (f73 16 (by decide)) 1).trans (congrFun (f10 16 (by decide)) 1)) ((congrFun (f73 16 (by decide)) 2).trans (congrFun (f10 16 (by decide)) 2)) ((f73 17 (by decide)).trans (f10 17 (by decide))) hI16
      have I91 : jI18 σ71 := jI18_fr ((congrFun (f73 18 (by decide)) 0).trans (congrFun (f10 18 (by decide)) 0)) ((f73 19 (by decide)).trans (f10 19 (by decide))) hI18
      have I92 : jI22 σ71 := jI22_fr ((congrFun (f73 22 (by decide)) 0).trans (congrFun (f10 22 (by decide)) 0)) ((f73 23 (by decide)).trans (f10 23 (by decide))) hI22
      have I93 : jI31 σ71 := jI31_fr ((congrFun (f73 31 (by decide)) 8).trans (congrFun (f10 31 (by decide)) 8)) ((f73 33 (by decide)).trans (f10 33 (by decide))) ((f73 36 (by decide)).trans (f10 36 (by decide))) hI31
      have I94 : jI38 σ71 := jI38_fr ((congrFun (f73 38 (by decide)) 0).trans (congrFun (f10 38 (by decide)) 0)) ((congrFun (f73 38 (by decide)) 1).trans (congrFun (f10 38 (by decide)) 1)) ((f73 39 (by decide)).trans (f10 39 (by decide))) hI38
      have I95 : jI43 σ71 := jI43_fr ((congrFun (f73 43 (by decide)) 8).trans (congrFun (f10 43 (by decide)) 8)) hI43
      have I96 : jI47 σ71 := jI47_fr ((congrFun (f73 47 (by decide)) 0).trans (congrFun (f10 47 (by decide)) 0)) ((f73 49 (by decide)).trans (f10 49 (by decide))) hI47
      have I97 : jI50 σ71 := jI50_fr (f73 52 (by decide)) I11
      have I98 : jI101 σ71 := jI101_fr ((congrFun (f73 55 (by decide)) 4).trans (congrFun (f10 55 (by decide)) 4)) ((congrFun (f73 55 (by decide)) 5).trans (congrFun (f10 55 (by decide)) 5)) ((f73 56 (by decide)).trans (f10 56 (by decide))) ((f73 57 (by decide)).trans (f10 57 (by decide))) ((f73 58 (by decide)).trans (f10 58 (by decide))) ((f73 59 (by decide)).trans (f10 59 (by decide))) hI101
      have I99 : jI102 σ71 := jI102_fr ((congrFun (f73 55 (by decide)) 6).trans (congrFun (f10 55 (by decide)) 6)) ((f73 60 (by decide)).trans (f10 60 (by decide))) ((f73 61 (by decide)).trans (f10 61 (by decide))) hI102
      have I100 : jI103 σ71 := jI103_fr ((congrFun (f73 55 (by decide)) 9).trans (congrFun (f10 55 (by decide)) 9)) hI103
      have I101 : jI104 σ71 := jI104_fr ((congrFun (f73 55 (by decide)) 10).trans (congrFun (f10 55 (by decide)) 10)) ((congrFun (f73 55 (by decide)) 12).trans (congrFun (f10 55 (by decide)) 12)) ((congrFun (f73 55 (by decide)) 13).trans (congrFun (f10 55 (by decide)) 13)) ((f73 62 (by decide)).trans (f10 62 (by decide))) ((f73 67 (by decide)).trans (f10 67 (by decide))) hI104
      have I102 : jI105 σ71 := jI105_fr ((congrFun (f73 55 (by decide)) 15).trans (congrFun (f10 55 (by decide)) 15)) ((f73 65 (by decide)).trans (f10 65 (by decide))) hI105
      have I103 : jI106 σ71 := jI106_fr ((congrFun (f73 55 (by decide)) 32).trans (congrFun (f10 55 (by decide)) 32)) ((f73 70 (by decide)).trans (f10 70 (by decide))) ((f73 71 (by decide)).trans (f10 71 (by decide))) ((f73 72 (by decide)).trans (f10 72 (by decide))) hI106
      have I104 : jI107 σ71 := jI107_fr ((congrFun (f73 55 (by decide)) 12).trans (congrFun (f10 55 (by decide)) 12)) ((congrFun (f73 55 (by decide)) 47).trans (congrFun (f10 55 (by decide)) 47)) ((f73 80 (by decide)).trans (f10 80 (by decide))) hI107
      have I105 : jI109 σ71 := jI109_fr ((congrFun (f73 55 (by decide)) 50).trans (congrFun (f10 55 (by decide)) 50)) hI109
      have I106 : jI111 σ71 := jI111_fr ((f73 79 (by decide)).trans (f10 79 (by decide))) hI111
      have I107 : jI119 σ71 := jI119_fr ((f73 68 (by decide)).trans (f10 68 (by decide))) hI119
      have p108 : jKept σ71 := jKept.fr ((f73 75 (by decide)).trans (f10 75 (by decide))) ((f73 76 (by decide)).trans (f10 76 (by decide))) ((f73 77 (by decide)).trans (f10 77 (by decide))) hs_jKept
      have p109 : jBook σ71 := jBook.fr ((congrFun (f73 55 (by decide)) 47).trans (congrFun (f10 55 (by decide)) 47)) ((congrFun (f73 55 (by decide)) 10).trans (congrFun (f10 55 (by decide)) 10)) ((f73 81 (by decide)).trans (f10 81 (by decide))) hs_jBook
      have z110 : (σ71 2 0).toInt = (σ 2 0).toInt := (congrArg Int32.toInt (show σ71 2 0 = (σ 2 0) from ((congrFun (f73 2 (by decide)) 0).trans (congrFun (f10 2 (by decide)) 0))))
      have z111 : (σ71 55 6).toInt = (σ 55 6).toInt := (congrArg Int32.toInt (show σ71 55 6 = (σ 55 6) from ((congrFun (f73 55 (by decide)) 6).trans (congrFun (f10 55 (by decide)) 6))))
      exact ih x86 σ71 τ71 _ _ ls (by have h9 := tx86; omega) ⟨I87, I88, I89, I90, I91, I92, I93, I94, I95, I96, I97, I98, I99, I100, I101, I102, I103, I104, I105, I74, I106, I107, p108, p109, (by omega)⟩ hP hS (lv_sub hl [0, 1, 2, 3] rfl)
    · obtain ⟨q116, k112, k113, k114, k115⟩ := h77
      exact absurd (by omega : False) id
  · obtain ⟨q121, k117, k118, k119, k120⟩ := h14
    have q121 := q121.symm
    subst q121
    refine lv_pop hx hb dL_law_1108 rfl ?_
    refine lv_aload_n hx hb dL_law_1109 rfl (lv_at hl 1 rfl) ?_
    refine lv_aload_n hx hb dL_law_1110 rfl (lv_at hl 3 rfl) ?_
    refine lv_iload_n hx hb dL_law_1111 rfl (lv_at hl 0 rfl) ?_
    refine lv_iconst (v := 1) hx hb dL_law_1112 (by decide) ?_
    refine lv_iadd hx hb dL_law_1113 ?_
    refine jtopr ex2.symm ?_
    refine va_sld hx hb hX hbl hbA hS (jin tx2 (by omega) (by omega)) dL_law_1114 ?_
    refine lv_aload_n hx hb dL_law_1115 rfl (lv_at hl 3 rfl) ?_
    refine lv_iload_n hx hb dL_law_1116 rfl (lv_at hl 0 rfl) ?_
    refine lv_iconst (v := 2) hx hb dL_law_1117 (by decide) ?_
    refine lv_iadd hx hb dL_law_1118 ?_
    refine jtopr ex4.symm ?_
    refine va_sld hx hb hX hbl hbA hS (jin tx4 (by omega) (by omega)) dL_law_1119 ?_
    refine lv_aload_n hx hb dL_law_1120 rfl (lv_at hl 3 rfl) ?_
    refine lv_iload_n hx hb dL_law_1121 rfl (lv_at hl 0 rfl) ?_
    refine lv_iconst (v := 3) hx hb dL_law_1122 (by decide) ?_
    refine lv_iadd hx hb dL_law_1123 ?_
    refine jtopr ex6.symm ?_
    refine va_sld hx hb hX hbl hbA hS (jin tx6 (by omega) (by omega)) dL_law_1124 ?_
    have I122 : jI110 σ8 := jI110_fr (f10 86 (by decide)) (f10 87 (by decide)) hI110
    refine jcallV (As := [.int (xs x2.toNatClampNeg), .int (xs x4.toNatClampNeg), .int (xs x6.toNatClampNeg)]) (rest := []) ⟨hx, hb, hml, hown, hts⟩ hK hP hA hS hZ (c_X12_row l D cI cL ad zz hJ σ8 τ8 (xs x2.toNatClampNeg) ((xs x2.toNatClampNeg).toInt) rfl (xs x4.toNatClampNeg) ((xs x4.toNatClampNeg).toInt) rfl (xs x6.toNatClampNeg) ((xs x6.toNatClampNeg).toInt) rfl I122) cw_RL_144 (jc_55 cI cL ad σ8 τ8) rfl ⟨Nat.le_of_ble_eq_true rfl, Nat.le_of_ble_eq_true rfl⟩ rfl rfl rfl hl.1 rfl (Nat.le_of_ble_eq_true rfl) dL_law_1125 ⟨Nat.le_of_ble_eq_true rfl, Nat.le_of_ble_eq_true rfl⟩ (fun r124 σ123 τ123 H locs h123 hP hS => ?_)
    obtain ⟨f125, I126, h123⟩ := h123
    rcases h123 with h127 | h128 | h129
    · obtain ⟨q132, k130, k131⟩ := h127
      exact absurd (by omega : False) id
    · obtain ⟨q137, k133, k134, k135, k136⟩ := h128
      exact absurd (by omega : False) id
    · obtain ⟨q142, k138, k139, k140, k141⟩ := h129
      have q142 := q142.symm
      subst q142
      refine lv_pop hx hb dL_law_1128 rfl ?_
      refine lv_goto (tgt := 1357) hx hb dL_law_1129 (by decide) ?_
      obtain ⟨x143, ex143⟩ : ∃ y : Int32, y = x0 + 6 := ⟨_, rfl⟩
      have tx143 : x143.toInt = x0.toInt + 6 := (jadd ex143 rfl jz_6 (by omega) (by omega)).trans (by omega)
      refine lv_iinc (v := x143) (lv' := [(3, .int x143), (2, .ref (ad 55)), (1, .ref (ad 0)), (0, .ref b)]) hx hb dL_law_1357 hl (k := 0) rfl (by rw [ex143]; rfl) (by decide) rfl (fun ls hl => ?_)
      refine lv_goto (tgt := 18) hx hb dL_law_1360 (by decide) ?_
      have I144 : jI2 σ123 := jI2_fr ((congrFun (f125 2 (by decide)) 0).trans (congrFun (f10 2 (by decide)) 0)) ((congrFun (f125 2 (by decide)) 1).trans (congrFun (f10 2 (by decide)) 1)) ((congrFun (f125 2 (by decide)) 2).trans (congrFun (f10 2 (by decide)) 2)) ((congrFun (f125 2 (by decide)) 3).trans (congrFun (f10 2 (by decide)) 3)) ((f125 6 (by decide)).trans (f10 6 (by decide))) hI2
      have I145 : jI9 σ123 := jI9_fr ((congrFun (f125 9 (by decide)) 0).trans (congrFun (f10 9 (by decide)) 0)) ((f125 10 (by decide)).trans (f10 10 (by decide))) ((f125 11 (by decide)).trans (f10 11 (by decide))) hI9
      have I146 : jI12 σ123 := jI12_fr ((congrFun (f125 12 (by decide)) 0).trans (congrFun (f10 12 (by decide)) 0)) ((f125 13 (by decide)).trans (f10 13 (by decide))) hI12
      have I147 : jI16 σ123 := jI16_fr ((congrFun (f125 16 (by decide)) 0).trans (congrFun (f10 16 (by decide)) 0)) ((congrFun (f125 16 (by decide)) 1).trans (congrFun (f10 16 (by decide)) 1)) ((congrFun (f125 16 (by decide)) 2).trans (congrFun (f10 16 (by decide)) 2)) ((f125 17 (by decide)).trans (f10 17 (by decide))) hI16
      have I148 : jI18 σ123 := jI18_fr ((congrFun (f125 18 (by decide)) 0).trans (congrFun (f10 18 (by decide)) 0)) ((f125 19 (by decide)).trans (f10 19 (by decide))) hI18
      have I149 : jI22 σ123 := jI22_fr ((congrFun (f125 22 (by decide)) 0).trans (congrFun (f10 22 (by decide)) 0)) ((f125 23 (by decide)).trans (f10 23 (by decide))) hI22
      have I150 : jI31 σ123 := jI31_fr ((congrFun (f125 31 (by decide)) 8).trans (congrFun (f10 31 (by decide)) 8)) ((f125 33 (by decide)).trans (f10 33 (by decide))) ((f125 36 (by decide)).trans (f10 36 (by decide))) hI31
      have I151 : jI38 σ123 := jI38_fr ((congrFun (f125 38 (by decide)) 0).trans (congrFun (f10 38 (by decide)) 0)) ((congrFun (f125 38 (by decide)) 1).trans (congrFun (f10 38 (by decide)) 1)) ((f125 39 (by decide)).trans (f10 39 (by decide))) hI38
      have I152 : jI43 σ123 := jI43_fr ((congrFun (f125 43 (by decide)) 8).trans (congrFun (f10 43 (by decide)) 8)) hI43
      have I153 : jI47 σ123 := jI47_fr ((congrFun (f125 47 (by decide)) 0).trans (congrFun (f10 47 (by decide)) 0)) ((f125 49 (by decide)).trans (f10 49 (by decide))) hI47
      have I154 : jI50 σ123 := jI50_fr (f125 52 (by decide)) I11
      have I155 : jI101 σ123 := jI101_fr ((congrFun (f125 55 (by decide)) 4).trans (congrFun (f10 55 (by decide)) 4)) ((congrFun (f125 55 (by decide)) 5).trans (congrFun (f10 55 (by decide)) 5)) ((f125 56 (by decide)).trans (f10 56 (by decide))) ((f125 57 (by decide)).trans (f10 57 (by decide))) ((f125 58 (by decide)).trans (f10 58 (by decide))) ((f125 59 (by decide)).trans (f10 59 (by decide))) hI101
      have I156 : jI102 σ123 := jI102_fr ((congrFun (f125 55 (by decide)) 6).trans (congrFun (f10 55 (by decide)) 6)) ((f125 60 (by decide)).trans (f10 60 (by decide))) ((f125 61 (by decide)).trans (f10 61 (by decide))) hI102
      have I157 : jI103 σ123 := jI103_fr ((congrFun (f125 55 (by decide)) 9).trans (congrFun (f10 55 (by decide)) 9)) hI103
      have I158 : jI104 σ123 := jI104_fr ((congrFun (f125 55 (by decide)) 10).trans (congrFun (f10 55 (by decide)) 10)) ((congrFun (f125 55 (by decide)) 12).trans (congrFun (f10 55 (by decide)) 12)) ((congrFun (f125 55 (by decide)) 13).trans (congrFun (f10 55 (by decide)) 13)) ((f125 62 (by decide)).trans (f10 62 (by decide))) ((f125 67 (by decide)).trans (f10 67 (by decide))) hI104
      have I159 : jI105 σ123 := jI105_fr ((congrFun (f125 55 (by decide)) 15).trans (congrFun (f10 55 (by decide)) 15)) ((f125 65 (by decide)).trans (f10 65 (by decide))) hI105
      have I160 : jI106 σ123 := jI106_fr ((congrFun (f125 55 (by decide)) 32).trans (congrFun (f10 55 (by decide)) 32)) ((f125 70 (by decide)).trans (f10 70 (by decide))) ((f125 71 (by decide)).trans (f10 71 (by decide))) ((f125 72 (by decide)).trans (f10 72 (by decide))) hI106
      have I161 : jI107 σ123 := jI107_fr ((congrFun (f125 55 (by decide)) 12).trans (congrFun (f10 55 (by decide)) 12)) ((congrFun (f125 55 (by decide)) 47).trans (congrFun (f10 55 (by decide)) 47)) ((f125 80 (by decide)).trans (f10 80 (by decide))) hI107
      have I162 : jI109 σ123 := jI109_fr ((congrFun (f125 55 (by decide)) 50).trans (congrFun (f10 55 (by decide)) 50)) hI109
      have I163 : jI111 σ123 := jI111_fr ((f125 79 (by decide)).trans (f10 79 (by decide))) hI111
      have I164 : jI119 σ123 := jI119_fr ((f125 68 (by decide)).trans (f10 68 (by decide))) hI119
      have p165 : jKept σ123 := jKept.fr ((f125 75 (by decide)).trans (f10 75 (by decide))) ((f125 76 (by decide)).trans (f10 76 (by decide))) ((f125 77 (by decide)).trans (f10 77 (by decide))) hs_jKept
      have p166 : jBook σ123 := jBook.fr ((congrFun (f125 55 (by decide)) 47).trans (congrFun (f10 55 (by decide)) 47)) ((congrFun (f125 55 (by decide)) 10).trans (congrFun (f10 55 (by decide)) 10)) ((f125 81 (by decide)).trans (f10 81 (by decide))) hs_jBook
      have z167 : (σ123 2 0).toInt = (σ 2 0).toInt := (congrArg Int32.toInt (show σ123 2 0 = (σ 2 0) from ((congrFun (f125 2 (by decide)) 0).trans (congrFun (f10 2 (by decide)) 0))))
      have z168 : (σ123 55 6).toInt = (σ 55 6).toInt := (congrArg Int32.toInt (show σ123 55 6 = (σ 55 6) from ((congrFun (f125 55 (by decide)) 6).trans (congrFun (f10 55 (by decide)) 6))))
      exact ih x143 σ123 τ123 _ _ ls (by have h9 := tx143; omega) ⟨I144, I145, I146, I147, I148, I149, I150, I151, I152, I153, I154, I155, I156, I157, I158, I159, I160, I161, I162, I126, I163, I164, p165, p166, (by omega)⟩ hP hS (lv_sub hl [0, 1, 2, 3] rfl)
set_option maxHeartbeats 4000000 in
set_option maxRecDepth 100000 in
theorem law_case_32 {p : Program} {e : Env} {s : State} {m : MethodId} {below : List Frame} {meth : Method} {c : Code} (l : Launch) {b L : Nat} {xs : Nat → Int32} {D : va_G} {cI cL : ClassId} {ad zz : Nat → Nat} (C0 : lw_At p s m meth c b L xs) (hJ : jD ad) (hA : ∀ q, jA ad q → s.heap.size ≤ q) (hK : jK D cI cL s) (hZ : jZ zz (fun q : Nat => s.heap.size ≤ q) s s.heap) {x0 : Int32} (hx0 : 0 ≤ x0.toInt) (hxL : x0.toInt + 6 ≤ (L : Int)) (hL : L ≤ 384) {σ : Nat → Nat → Int32} {τ : Nat → Nat → Int64} {H : Heap} {locs : List Loc} (hS : va_S (fun q : Nat => s.heap.size ≤ q) s.heap H locs) {ls : Array Slot} (hAll : jAll σ τ) (hP : jH D cI cL ad σ τ H) (hl : lv_has ls 4 [(3, .int x0), (2, .ref (ad 55)), (1, .ref (ad 0)), (0, .ref b)]) (ih : ∀ (x1 : Int32) (σ : Nat → Nat → Int32) (τ : Nat → Nat → Int64) (H : Heap) (locs : List Loc) (ls : Array Slot), x1.toInt = x0.toInt + 6 → jAll σ τ → jH D cI cL ad σ τ H → va_S (fun q : Nat => s.heap.size ≤ q) s.heap H locs → lv_has ls 4 [(3, .int x1), (2, .ref (ad 55)), (1, .ref (ad 0)), (0, .ref b)] → W p l e room_1 s m #[Value.ref b] below meth c H locs 90 348600 (lw_Z below #[Value.ref b] s) (F0 m 18 ls [])) : W p l e room_1 s m #[Value.ref b] below meth c H locs 90 348600 (lw_Z below #[Value.ref b] s) (F0 m 1132 ls []) := by
  obtain ⟨hx, hb, hr, hml, hown, hts0, hX, hbl, hlocks, hgv⟩ := C0
  have hts : ∀ w ∈ wsL_law, w.before #[Value.ref b] s = true := fun w h => hts0 w (wsL_law_in w h)
  have hbA : ¬ (fun q : Nat => s.heap.size ≤ q) b := Nat.not_le.mpr hbl
  have hown : s.vm.findClass RL = some m.cls := hown
  obtain ⟨hI2, hI9, hI12, hI16, hI18, hI22, hI31, hI38, hI43, hI47, hI50, hI101, hI102, hI103, hI104, hI105, hI106, hI107, hI109, hI110, hI111, hI119, hs_jKept, hs_jBook, ht0⟩ := hAll
  have hL9 : (L : Int) ≤ 384 := by omega
  refine lv_aload_n hx hb dL_law_1132 rfl (lv_at hl 2 rfl) ?_
  refine lv_aload_n hx hb dL_law_1133 rfl (lv_at hl 3 rfl) ?_
  refine lv_iload_n hx hb dL_law_1134 rfl (lv_at hl 0 rfl) ?_
  refine lv_iconst (v := 1) hx hb dL_law_1135 (by decide) ?_
  have g1 := jrg (rfl : x0.toInt = x0.toInt)
  refine lv_iadd hx hb dL_law_1136 ?_
  refine lv_topi (fun x2 ex2 => ?_)
  have tx2 : x2.toInt = x0.toInt + 1 := (jadd ex2 rfl jz_1 (by omega) (by omega)).trans (by omega)
  refine va_sld hx hb hX hbl hbA hS (jin tx2 (by omega) (by omega)) dL_law_1137 ?_
  have g3 := jrg (rfl : (xs x2.toNatClampNeg).toInt = (xs x2.toNatClampNeg).toInt)
  refine lv_aload_n hx hb dL_law_1138 rfl (lv_at hl 3 rfl) ?_
  refine lv_iload_n hx hb dL_law_1139 rfl (lv_at hl 0 rfl) ?_
  refine lv_iconst (v := 2) hx hb dL_law_1140 (by decide) ?_
  refine lv_iadd hx hb dL_law_1141 ?_
  refine lv_topi (fun x4 ex4 => ?_)
  have tx4 : x4.toInt = x0.toInt + 2 := (jadd ex4 rfl jz_2 (by omega) (by omega)).trans (by omega)
  refine va_sld hx hb hX hbl hbA hS (jin tx4 (by omega) (by omega)) dL_law_1142 ?_
  have g5 := jrg (rfl : (xs x4.toNatClampNeg).toInt = (xs x4.toNatClampNeg).toInt)
  refine lv_aload_n hx hb dL_law_1143 rfl (lv_at hl 3 rfl) ?_
  refine lv_iload_n hx hb dL_law_1144 rfl (lv_at hl 0 rfl) ?_
  refine lv_iconst (v := 3) hx hb dL_law_1145 (by decide) ?_
  refine lv_iadd hx hb dL_law_1146 ?_
  refine lv_topi (fun x6 ex6 => ?_)
  have tx6 : x6.toInt = x0.toInt + 3 := (jadd ex6 rfl jz_3 (by omega) (by omega)).trans (by omega)
  refine va_sld hx hb hX hbl hbA hS (jin tx6 (by omega) (by omega)) dL_law_1147 ?_
  have g7 := jrg (rfl : (xs x6.toNatClampNeg).toInt = (xs x6.toNatClampNeg).toInt)
  refine lv_i2l (v := (xs x6.toNatClampNeg).toInt64) hx hb dL_law_1148 rfl ?_
  refine lv_bipush (v := 32) hx hb dL_law_1149 (by decide) ?_
  refine lv_lshl hx hb dL_law_1151 rfl ?_
  refine lv_topl (fun lx8 elx8 => ?_)
  refine lv_aload_n hx hb dL_law_1152 rfl (lv_at hl 3 rfl) ?_
  refine lv_iload_n hx hb dL_law_1153 rfl (lv_at hl 0 rfl) ?_
  refine lv_iconst (v := 4) hx hb dL_law_1154 (by decide) ?_
  refine lv_iadd hx hb dL_law_1155 ?_
  refine lv_topi (fun x9 ex9 => ?_)
  have tx9 : x9.toInt = x0.toInt + 4 := (jadd ex9 rfl jz_4 (by omega) (by omega)).trans (by omega)
  refine va_sld hx hb hX hbl hbA hS (jin tx9 (by omega) (by omega)) dL_law_1156 ?_
  have g10 := jrg (rfl : (xs x9.toNatClampNeg).toInt = (xs x9.toNatClampNeg).toInt)
  refine lv_i2l (v := (xs x9.toNatClampNeg).toInt64) hx hb dL_law_1157 rfl ?_
  refine lv_ldc2 (v := 4294967295) hx hb hown (hts _ kw_1_6) dL_law_1158 ?_
  refine lv_land hx hb dL_law_1161 ?_
  refine lv_topl (fun lx11 elx11 => ?_)
  refine lv_lor hx hb dL_law_1162 ?_
  refine lv_topl (fun lx12 elx12 => ?_)
  refine jcallV (As := [.int (xs x2.toNatClampNeg), .int (xs x4.toNatClampNeg), .long lx12]) (rest := []) ⟨hx, hb, hml, hown, hts⟩ hK hP hA hS hZ (c_X11_put l D cI cL ad zz hJ σ τ (xs x2.toNatClampNeg) ((xs x2.toNatClampNeg).toInt) rfl (xs x4.toNatClampNeg) ((xs x4.toNatClampNeg).toInt) rfl lx12 (lx12.toInt) rfl hI50) cw_RL_147 (jc_0 cI cL ad σ τ) rfl ⟨Nat.le_of_ble_eq_true rfl, Nat.le_of_ble_eq_true rfl⟩ rfl rfl rfl hl.1 rfl (Nat.le_of_ble_eq_true rfl) dL_law_1163 ⟨Nat.le_of_ble_eq_true rfl, Nat.le_of_ble_eq_true rfl⟩ (fun r14 σ13 τ13 H locs h13 hP hS => ?_)
  obtain ⟨f15, w16, h13⟩ := h13
  refine lv_pop hx hb dL_law_1166 rfl ?_
  refine lv_aload_n hx hb dL_law_1167 rfl (lv_at hl 1 rfl) ?_
  refine lv_aload_n hx hb dL_law_1168 rfl (lv_at hl 3 rfl) ?_
  refine lv_iload_n hx hb dL_law_1169 rfl (lv_at hl 0 rfl) ?_
  refine lv_iconst (v := 1) hx hb dL_law_1170 (by decide) ?_
  refine lv_iadd hx hb dL_law_1171 ?_
  refine jtopr ex2.symm ?_
  refine va_sld hx hb hX hbl hbA hS (jin tx2 (by omega) (by omega)) dL_law_1172 ?_
  refine lv_aload_n hx hb dL_law_1173 rfl (lv_at hl 3 rfl) ?_
  refine lv_iload_n hx hb dL_law_1174 rfl (lv_at hl 0 rfl) ?_
  refine lv_iconst (v := 2) hx hb dL_law_1175 (by decide) ?_
  refine lv_iadd hx hb dL_law_1176 ?_
  refine jtopr ex4.symm ?_
  refine va_sld hx hb hX hbl hbA hS (jin tx4 (by omega) (by omega)) dL_law_1177 ?_
  refine lv_aload_n hx hb dL_law_1178 rfl (lv_at hl 3 rfl) ?_
  refine lv_iload_n hx hb dL_law_1179 rfl (lv_at hl 0 rfl) ?_
  refine lv_iconst (v := 3) hx hb dL_law_1180 (by decide) ?_
  refine lv_iadd hx hb dL_law_1181 ?_
  refine jtopr ex6.symm ?_
  refine va_sld hx hb hX hbl hbA hS (jin tx6 (by omega) (by omega)) dL_law_1182 ?_
  refine lv_i2l (v := (xs x6.toNatClampNeg).toInt64) hx hb dL_law_1183 rfl ?_
  refine lv_bipush (v := 32) hx hb dL_law_1184 (by decide) ?_
  refine lv_lshl hx hb dL_law_1186 rfl ?_
  refine lv_topl (fun lx17 elx17 => ?_)
  refine lv_aload_n hx hb dL_law_1187 rfl (lv_at hl 3 rfl) ?_
  refine lv_iload_n hx hb dL_law_1188 rfl (lv_at hl 0 rfl) ?_
  refine lv_iconst (v := 4) hx hb dL_law_1189 (by decide) ?_
  refine lv_iadd hx hb dL_law_1190 ?_
  refine jtopr ex9.symm ?_
  refine va_sld hx hb hX hbl hbA hS (jin tx9 (by omega) (by omega)) dL_law_1191 ?_
  refine lv_i2l (v := (xs x9.toNatClampNeg).toInt64) hx hb dL_law_1192 rfl ?_
  refine lv_ldc2 (v := 4294967295) hx hb hown (hts _ kw_1_6) dL_law_1193 ?_
  refine lv_land hx hb dL_law_1196 ?_
  refine lv_topl (fun lx18 elx18 => ?_)
  refine lv_lor hx hb dL_law_1197 ?_
  refine lv_topl (fun lx19 elx19 => ?_)
  have I20 : jI110 σ13 := jI110_fr (f15 86 (by decide)) (f15 87 (by decide)) hI110
  refine jcallV (As := [.int (xs x2.toNatClampNeg), .int (xs x4.toNatClampNeg), .long lx19]) (rest := []) ⟨hx, hb, hml, hown, hts⟩ hK hP hA hS hZ (c_X12_put l D cI cL ad zz hJ σ13 τ13 (xs x2.toNatClampNeg) ((xs x2.toNatClampNeg).toInt) rfl (xs x4.toNatClampNeg) ((xs x4.toNatClampNeg).toInt) rfl lx19 (lx19.toInt) rfl I20) cw_RL_151 (jc_55 cI cL ad σ13 τ13) rfl ⟨Nat.le_of_ble_eq_true rfl, Nat.le_of_ble_eq_true rfl⟩ rfl rfl rfl hl.1 rfl (Nat.le_of_ble_eq_true rfl) dL_law_1198 ⟨Nat.le_of_ble_eq_true rfl, Nat.le_of_ble_eq_true rfl⟩ (fun r22 σ21 τ21 H locs h21 hP hS => ?_)
  obtain ⟨f23, w24, h21⟩ := h21
  refine lv_pop hx hb dL_law_1201 rfl ?_
  refine lv_goto (tgt := 1357) hx hb dL_law_1202 (by decide) ?_
  obtain ⟨x25, ex25⟩ : ∃ y : Int32, y = x0 + 6 := ⟨_, rfl⟩
  have tx25 : x25.toInt = x0.toInt + 6 := (jadd ex25 rfl jz_6 (by omega) (by omega)).trans (by omega)
  refine lv_iinc (v := x25) (lv' := [(3, .int x25), (2, .ref (ad 55)), (1, .ref (ad 0)), (0, .ref b)]) hx hb dL_law_1357 hl (k := 0) rfl (by rw [ex25]; rfl) (by decide) rfl (fun ls hl => ?_)
  refine lv_goto (tgt := 18) hx hb dL_law_1360 (by decide) ?_
  have I26 : jI2 σ21 := jI2_fr ((congrFun (f23 2 (by decide)) 0).trans (congrFun (f15 2 (by decide)) 0)) ((congrFun (f23 2 (by decide)) 1).trans (congrFun (f15 2 (by decide)) 1)) ((congrFun (f23 2 (by decide)) 2).trans (congrFun (f15 2 (by decide)) 2)) ((congrFun (f23 2 (by decide)) 3).trans (congrFun (f15 2 (by decide)) 3)) ((f23 6 (by decide)).trans (f15 6 (by decide))) hI2
  have I27 : jI9 σ21 := jI9_fr ((congrFun (f23 9 (by decide)) 0).trans (congrFun (f15 9 (by decide)) 0)) ((f23 10 (by decide)).trans (f15 10 (by decide))) ((f23 11 (by decide)).trans (f15 11 (by decide))) hI9
  have I28 : jI12 σ21 := jI12_fr ((congrFun (f23 12 (by decide)) 0).trans (congrFun (f15 12 (by decide)) 0)) ((f23 13 (by decide)).trans (f15 13 (by decide))) hI12
  have I29 : jI16 σ21 := jI16_fr ((congrFun (f23 16 (by decide)) 0).trans (congrFun (f15 16 (by decide)) 0)) ((congrFun (f23 16 (by decide)) 1).trans (congrFun (f15 16 (by decide)) 1)) ((congrFun (f23 16 (by decide)) 2).trans (congrFun (f15 16 (by decide)) 2)) ((f23 17 (by decide)).trans (f15 17 (by decide))) hI16
  have I30 : jI18 σ21 := jI18_fr ((congrFun (f23 18 (by decide)) 0).trans (congrFun (f15 18 (by decide)) 0)) ((f23 19 (by decide)).trans (f15 19 (by decide))) hI18
  have I31 : jI22 σ21 := jI22_fr ((congrFun (f23 22 (by decide)) 0).trans (congrFun (f15 22 (by decide)) 0)) ((f23 23 (by decide)).trans (f15 23 (by decide))) hI22
  have I32 : jI31 σ21 := jI31_fr ((congrFun (f23 31 (by decide)) 8).trans (congrFun (f15 31 (by decide)) 8)) ((f23 33 (by decide)).trans (f15 33 (by decide))) ((f23 36 (by decide)).trans (f15 36 (by decide))) hI31
  have I33 : jI38 σ21 := jI38_fr ((congrFun (f23 38 (by decide)) 0).trans (congrFun (f15 38 (by decide)) 0)) ((congrFun (f23 38 (by decide)) 1).trans (congrFun (f15 38 (by decide)) 1)) ((f23 39 (by decide)).trans (f15 39 (by decide))) hI38
  have I34 : jI43 σ21 := jI43_fr ((congrFun (f23 43 (by decide)) 8).trans (congrFun (f15 43 (by decide)) 8)) hI43
  have I35 : jI47 σ21 := jI47_fr ((congrFun (f23 47 (by decide)) 0).trans (congrFun (f15 47 (by decide)) 0)) ((f23 49 (by decide)).trans (f15 49 (by decide))) hI47
  have I36 : jI50 σ21 := jI50_fr ((f23 52 (by decide)).trans (f15 52 (by decide))) hI50
  have I37 : jI101 σ21 := jI101_fr ((congrFun (f23 55 (by decide)) 4).trans (congrFun (f15 55 (by decide)) 4)) ((congrFun (f23 55 (by decide)) 5).trans (congrFun (f15 55 (by decide)) 5)) ((f23 56 (by decide)).trans (f15 56 (by decide))) ((f23 57 (by decide)).trans (f15 57 (by decide))) ((f23 58 (by decide)).trans (f15 58 (by decide))) ((f23 59 (by decide)).trans (f15 59 (by decide))) hI101
  have I38 : jI102 σ21 := jI102_fr ((congrFun (f23 55 (by decide)) 6).trans (congrFun (f15 55 (by decide)) 6)) ((f23 60 (by decide)).trans (f15 60 (by decide))) ((f23 61 (by decide)).trans (f15 61 (by decide))) hI102
  have I39 : jI103 σ21 := jI103_fr ((congrFun (f23 55 (by decide)) 9).trans (congrFun (f15 55 (by decide)) 9)) hI103
  have I40 : jI104 σ21 := jI104_fr ((congrFun (f23 55 (by decide)) 10).trans (congrFun (f15 55 (by decide)) 10)) ((congrFun (f23 55 (by decide)) 12).trans (congrFun (f15 55 (by decide)) 12)) ((congrFun (f23 55 (by decide)) 13).trans (congrFun (f15 55 (by decide)) 13)) ((f23 62 (by decide)).trans (f15 62 (by decide))) ((f23 67 (by decide)).trans (f15 67 (by decide))) hI104
  have I41 : jI105 σ21 := jI105_fr ((congrFun (f23 55 (by decide)) 15).trans (congrFun (f15 55 (by decide)) 15)) ((f23 65 (by decide)).trans (f15 65 (by decide))) hI105
  have I42 : jI106 σ21 := jI106_fr ((congrFun (f23 55 (by decide)) 32).trans (congrFun (f15 55 (by decide)) 32)) ((f23 70 (by decide)).trans (f15 70 (by decide))) ((f23 71 (by decide)).trans (f15 71 (by decide))) ((f23 72 (by decide)).trans (f15 72 (by decide))) hI106
  have I43 : jI107 σ21 := jI107_fr ((congrFun (f23 55 (by decide)) 12).trans (congrFun (f15 55 (by decide)) 12)) ((congrFun (f23 55 (by decide)) 47).trans (congrFun (f15 55 (by decide)) 47)) ((f23 80 (by decide)).trans (f15 80 (by decide))) hI107
  have I44 : jI109 σ21 := jI109_fr ((congrFun (f23 55 (by decide)) 50).trans (congrFun (f15 55 (by decide)) 50)) hI109
  have I45 : jI110 σ21 := jI110_fr (f23 86 (by decide)) (f23 87 (by decide)) I20
  have I46 : jI111 σ21 := jI111_fr ((f23 79 (by decide)).trans (f15 79 (by decide))) hI111
  have I47 : jI119 σ21 := jI119_fr ((f23 68 (by decide)).trans (f15 68 (by decide))) hI119
  have p48 : jKept σ21 := jKept.fr ((f23 75 (by decide)).trans (f15 75 (by decide))) ((f23 76 (by decide)).trans (f15 76 (by decide))) ((f23 77 (by decide)).trans (f15 77 (by decide))) hs_jKept
  have p49 : jBook σ21 := jBook.fr ((congrFun (f23 55 (by decide)) 47).trans (congrFun (f15 55 (by decide)) 47)) ((congrFun (f23 55 (by decide)) 10).trans (congrFun (f15 55 (by decide)) 10)) ((f23 81 (by decide)).trans (f15 81 (by decide))) hs_jBook
  have z50 : (σ21 2 0).toInt = (σ 2 0).toInt := (congrArg Int32.toInt (show σ21 2 0 = (σ 2 0) from ((congrFun (f23 2 (by decide)) 0).trans (congrFun (f15 2 (by decide)) 0))))
  have z51 : (σ21 55 6).toInt = (σ 55 6).toInt := (congrArg Int32.toInt (show σ21 55 6 = (σ 55 6) from ((congrFun (f23 55 (by decide)) 6).trans (congrFun (f15 55 (by decide)) 6))))
  exact ih x25 σ21 τ21 _ _ ls (by have h9 := tx25; omega) ⟨I26, I27, I28, I29, I30, I31, I32, I33, I34, I35, I36, I37, I38, I39, I40, I41, I42, I43, I44, I45, I46, I47, p48, p49, (by omega)⟩ hP hS (lv_sub hl [0, 1, 2, 3] rfl)
set_option maxHeartbeats 4000000 in
set_option maxRecDepth 100000 in
theorem law_case_33 {p : Program} {e : Env} {s : State} {m : MethodId} {below : List Frame} {meth : Method} {c : Code} (l : Launch) {b L : Nat} {xs : Nat → Int32} {D : va_G} {cI cL : ClassId} {ad zz : Nat → Nat} (C0 : lw_At p s m meth c b L xs) (hJ : jD ad) (hA : ∀ q, jA ad q → s.heap.size ≤ q) (hK : jK D cI cL s) (hZ : jZ zz (fun q : Nat => s.heap.size ≤ q) s s.heap) {x0 : Int32} (hx0 : 0 ≤ x0.toInt) (hxL : x0.toInt + 6 ≤ (L : Int)) (hL : L ≤ 384) {σ : Nat → Nat → Int32} {τ : Nat → Nat → Int64} {H : Heap} {locs : List Loc} (hS : va_S (fun q : Nat => s.heap.size ≤ q) s.heap H locs) {ls : Array Slot} (hAll : jAll σ τ) (hP : jH D cI cL ad σ τ H) (hl : lv_has ls 4 [(3, .int x0), (2, .ref (ad 55)), (1, .ref (ad 0)), (0, .ref b)]) (ih : ∀ (x1 : Int32) (σ : Nat → Nat → Int32) (τ : Nat → Nat → Int64) (H : Heap) (locs : List Loc) (ls : Array Slot), x1.toInt = x0.toInt + 6 → jAll σ τ → jH D cI cL ad σ τ H → va_S (fun q : Nat => s.heap.size ≤ q) s.heap H locs → lv_has ls 4 [(3, .int x1), (2, .ref (ad 55)), (1, .ref (ad 0)), (0, .ref b)] → W p l e room_1 s m #[Value.ref b] below meth c H locs 90 348600 (lw_Z below #[Value.ref b] s) (F0 m 18 ls [])) : W p l e room_1 s m #[Value.ref b] below meth c H locs 90 348600 (lw_Z below #[Value.ref b] s) (F0 m 1205 ls []) := by
  obtain ⟨hx, hb, hr, hml, hown, hts0, hX, hbl, hlocks, hgv⟩ := C0
  have hts : ∀ w ∈ wsL_law, w.before #[Value.ref b] s = true := fun w h => hts0 w (wsL_law_in w h)
  have hbA : ¬ (fun q : Nat => s.heap.size ≤ q) b := Nat.not_le.mpr hbl
  have hown : s.vm.findClass RL = some m.cls := hown
  obtain ⟨hI2, hI9, hI12, hI16, hI18, hI22, hI31, hI38, hI43, hI47, hI50, hI101, hI102, hI103, hI104, hI105, hI106, hI107, hI109, hI110, hI111, hI119, hs_jKept, hs_jBook, ht0⟩ := hAll
  have hL9 : (L : Int) ≤ 384 := by omega
  refine lv_aload_n hx hb dL_law_1205 rfl (lv_at hl 2 rfl) ?_
  refine lv_aload_n hx hb dL_law_1206 rfl (lv_at hl 3 rfl) ?_
  refine lv_iload_n hx hb dL_law_1207 rfl (lv_at hl 0 rfl) ?_
  refine lv_iconst (v := 1) hx hb dL_law_1208 (by decide) ?_
  have g1 := jrg (rfl : x0.toInt = x0.toInt)
  refine lv_iadd hx hb dL_law_1209 ?_
  refine lv_topi (fun x2 ex2 => ?_)
  have tx2 : x2.toInt = x0.toInt + 1 := (jadd ex2 rfl jz_1 (by omega) (by omega)).trans (by omega)
  refine va_sld hx hb hX hbl hbA hS (jin tx2 (by omega) (by omega)) dL_law_1210 ?_
  have g3 := jrg (rfl : (xs x2.toNatClampNeg).toInt = (xs x2.toNatClampNeg).toInt)
  refine lv_aload_n hx hb dL_law_1211 rfl (lv_at hl 3 rfl) ?_
  refine lv_iload_n hx hb dL_law_1212 rfl (lv_at hl 0 rfl) ?_
  refine lv_iconst (v := 2) hx hb dL_law_1213 (by decide) ?_
  refine lv_iadd hx hb dL_law_1214 ?_
  refine lv_topi (fun x4 ex4 => ?_)
  have tx4 : x4.toInt = x0.toInt + 2 := (jadd ex4 rfl jz_2 (by omega) (by omega)).trans (by omega)
  refine va_sld hx hb hX hbl hbA hS (jin tx4 (by omega) (by omega)) dL_law_1215 ?_
  have g5 := jrg (rfl : (xs x4.toNatClampNeg).toInt = (xs x4.toNatClampNeg).toInt)
  refine jcallVl (As := [.int (xs x2.toNatClampNeg), .int (xs x4.toNatClampNeg)]) (rest := []) ⟨hx, hb, hml, hown, hts⟩ hK hP hA hS hZ (c_X11_element l D cI cL ad zz hJ σ τ (xs x2.toNatClampNeg) ((xs x2.toNatClampNeg).toInt) rfl (xs x4.toNatClampNeg) ((xs x4.toNatClampNeg).toInt) rfl hI50) cw_RL_152 (jc_0 cI cL ad σ τ) rfl ⟨Nat.le_of_ble_eq_true rfl, Nat.le_of_ble_eq_true rfl⟩ rfl rfl rfl hl.1 rfl (Nat.le_of_ble_eq_true rfl) dL_law_1216 ⟨Nat.le_of_ble_eq_true rfl, Nat.le_of_ble_eq_true rfl⟩ (fun lxr7 σ6 τ6 H locs h6 hP hS => ?_)
  obtain ⟨⟨rfl, rfl⟩, h6⟩ := h6
  refine lv_pop2_2 hx hb dL_law_1219 rfl ?_
  refine lv_aload_n hx hb dL_law_1220 rfl (lv_at hl 1 rfl) ?_
  refine lv_aload_n hx hb dL_law_1221 rfl (lv_at hl 3 rfl) ?_
  refine lv_iload_n hx hb dL_law_1222 rfl (lv_at hl 0 rfl) ?_
  refine lv_iconst (v := 1) hx hb dL_law_1223 (by decide) ?_
  refine lv_iadd hx hb dL_law_1224 ?_
  refine jtopr ex2.symm ?_
  refine va_sld hx hb hX hbl hbA hS (jin tx2 (by omega) (by omega)) dL_law_1225 ?_
  refine lv_aload_n hx hb dL_law_1226 rfl (lv_at hl 3 rfl) ?_
  refine lv_iload_n hx hb dL_law_1227 rfl (lv_at hl 0 rfl) ?_
  refine lv_iconst (v := 2) hx hb dL_law_1228 (by decide) ?_
  refine lv_iadd hx hb dL_law_1229 ?_
  refine jtopr ex4.symm ?_
  refine va_sld hx hb hX hbl hbA hS (jin tx4 (by omega) (by omega)) dL_law_1230 ?_
  refine jcallVl (As := [.int (xs x2.toNatClampNeg), .int (xs x4.toNatClampNeg)]) (rest := []) ⟨hx, hb, hml, hown, hts⟩ hK hP hA hS hZ (c_X12_element l D cI cL ad zz hJ σ τ (xs x2.toNatClampNeg) ((xs x2.toNatClampNeg).toInt) rfl (xs x4.toNatClampNeg) ((xs x4.toNatClampNeg).toInt) rfl hI110) cw_RL_156 (jc_55 cI cL ad σ τ) rfl ⟨Nat.le_of_ble_eq_true rfl, Nat.le_of_ble_eq_true rfl⟩ rfl rfl rfl hl.1 rfl (Nat.le_of_ble_eq_true rfl) dL_law_1231 ⟨Nat.le_of_ble_eq_true rfl, Nat.le_of_ble_eq_true rfl⟩ (fun lxr9 σ8 τ8 H locs h8 hP hS => ?_)
  obtain ⟨⟨rfl, rfl⟩, h8⟩ := h8
  refine lv_pop2_2 hx hb dL_law_1234 rfl ?_
  refine lv_goto (tgt := 1357) hx hb dL_law_1235 (by decide) ?_
  obtain ⟨x10, ex10⟩ : ∃ y : Int32, y = x0 + 6 := ⟨_, rfl⟩
  have tx10 : x10.toInt = x0.toInt + 6 := (jadd ex10 rfl jz_6 (by omega) (by omega)).trans (by omega)
  refine lv_iinc (v := x10) (lv' := [(3, .int x10), (2, .ref (ad 55)), (1, .ref (ad 0)), (0, .ref b)]) hx hb dL_law_1357 hl (k := 0) rfl (by rw [ex10]; rfl) (by decide) rfl (fun ls hl => ?_)
  refine lv_goto (tgt := 18) hx hb dL_law_1360 (by decide) ?_
  exact ih x10 σ τ _ _ ls (by have h9 := tx10; omega) ⟨hI2, hI9, hI12, hI16, hI18, hI22, hI31, hI38, hI43, hI47, hI50, hI101, hI102, hI103, hI104, hI105, hI106, hI107, hI109, hI110, hI111, hI119, hs_jKept, hs_jBook, (by omega)⟩ hP hS (lv_sub hl [0, 1, 2, 3] rfl)
set_option maxHeartbeats 4000000 in
set_option maxRecDepth 100000 in
theorem law_case_34 {p : Program} {e : Env} {s : State} {m : MethodId} {below : List Frame} {meth : Method} {c : Code} (l : Launch) {b L : Nat} {xs : Nat → Int32} {D : va_G} {cI cL : ClassId} {ad zz : Nat → Nat} (C0 : lw_At p s m meth c b L xs) (hJ : jD ad) (hA : ∀ q, jA ad q → s.heap.size ≤ q) (hK : jK D cI cL s) (hZ : jZ zz (fun q : Nat => s.heap.size ≤ q) s s.heap) {x0 : Int32} (hx0 : 0 ≤ x0.toInt) (hxL : x0.toInt + 6 ≤ (L : Int)) (hL : L ≤ 384) {σ : Nat → Nat → Int32} {τ : Nat → Nat → Int64} {H : Heap} {locs : List Loc} (hS : va_S (fun q : Nat => s.heap.size ≤ q) s.heap H locs) {ls : Array Slot} (hAll : jAll σ τ) (hP : jH D cI cL ad σ τ H) (hl : lv_has ls 4 [(3, .int x0), (2, .ref (ad 55)), (1, .ref (ad 0)), (0, .ref b)]) (ih : ∀ (x1 : Int32) (σ : Nat → Nat → Int32) (τ : Nat → Nat → Int64) (H : Heap) (locs : List Loc) (ls : Array Slot), x1.toInt = x0.toInt + 6 → jAll σ τ → jH D cI cL ad σ τ H → va_S (fun q : Nat => s.heap.size ≤ q) s.heap H locs → lv_has ls 4 [(3, .int x1), (2, .ref (ad 55)), (1, .ref (ad 0)), (0, .ref b)] → W p l e room_1 s m #[Value.ref b] below meth c H locs 90 348600 (lw_Z below #[Value.ref b] s) (F0 m 18 ls [])) : W p l e room_1 s m #[Value.ref b] below meth c H locs 90 348600 (lw_Z below #[Value.ref b] s) (F0 m 1238 ls []) := by
  obtain ⟨hx, hb, hr, hml, hown, hts0, hX, hbl, hlocks, hgv⟩ := C0
  have hts : ∀ w ∈ wsL_law, w.before #[Value.ref b] s = true := fun w h => hts0 w (wsL_law_in w h)
  have hbA : ¬ (fun q : Nat => s.heap.size ≤ q) b := Nat.not_le.mpr hbl
  have hown : s.vm.findClass RL = some m.cls := hown
  obtain ⟨hI2, hI9, hI12, hI16, hI18, hI22, hI31, hI38, hI43, hI47, hI50, hI101, hI102, hI103, hI104, hI105, hI106, hI107, hI109, hI110, hI111, hI119, hs_jKept, hs_jBook, ht0⟩ := hAll
  have hL9 : (L : Int) ≤ 384 := by omega
  refine lv_aload_n hx hb dL_law_1238 rfl (lv_at hl 2 rfl) ?_
  refine lv_aload_n hx hb dL_law_1239 rfl (lv_at hl 3 rfl) ?_
  refine lv_iload_n hx hb dL_law_1240 rfl (lv_at hl 0 rfl) ?_
  refine lv_iconst (v := 1) hx hb dL_law_1241 (by decide) ?_
  have g1 := jrg (rfl : x0.toInt = x0.toInt)
  refine lv_iadd hx hb dL_law_1242 ?_
  refine lv_topi (fun x2 ex2 => ?_)
  have tx2 : x2.toInt = x0.toInt + 1 := (jadd ex2 rfl jz_1 (by omega) (by omega)).trans (by omega)
  refine va_sld hx hb hX hbl hbA hS (jin tx2 (by omega) (by omega)) dL_law_1243 ?_
  have g3 := jrg (rfl : (xs x2.toNatClampNeg).toInt = (xs x2.toNatClampNeg).toInt)
  refine lv_aload_n hx hb dL_law_1244 rfl (lv_at hl 3 rfl) ?_
  refine lv_iload_n hx hb dL_law_1245 rfl (lv_at hl 0 rfl) ?_
  refine lv_iconst (v := 2) hx hb dL_law_1246 (by decide) ?_
  refine lv_iadd hx hb dL_law_1247 ?_
  refine lv_topi (fun x4 ex4 => ?_)
  have tx4 : x4.toInt = x0.toInt + 2 := (jadd ex4 rfl jz_2 (by omega) (by omega)).trans (by omega)
  refine va_sld hx hb hX hbl hbA hS (jin tx4 (by omega) (by omega)) dL_law_1248 ?_
  have g5 := jrg (rfl : (xs x4.toNatClampNeg).toInt = (xs x4.toNatClampNeg).toInt)
  refine lv_aload_n hx hb dL_law_1249 rfl (lv_at hl 3 rfl) ?_
  refine lv_iload_n hx hb dL_law_1250 rfl (lv_at hl 0 rfl) ?_
  refine lv_iconst (v := 3) hx hb dL_law_1251 (by decide) ?_
  refine lv_iadd hx hb dL_law_1252 ?_
  refine lv_topi (fun x6 ex6 => ?_)
  have tx6 : x6.toInt = x0.toInt + 3 := (jadd ex6 rfl jz_3 (by omega) (by omega)).trans (by omega)
  refine va_sld hx hb hX hbl hbA hS (jin tx6 (by omega) (by omega)) dL_law_1253 ?_
  have g7 := jrg (rfl : (xs x6.toNatClampNeg).toInt = (xs x6.toNatClampNeg).toInt)
  refine lv_aload_n hx hb dL_law_1254 rfl (lv_at hl 3 rfl) ?_
  refine lv_iload_n hx hb dL_law_1255 rfl (lv_at hl 0 rfl) ?_
  refine lv_iconst (v := 4) hx hb dL_law_1256 (by decide) ?_
  refine lv_iadd hx hb dL_law_1257 ?_
  refine lv_topi (fun x8 ex8 => ?_)
  have tx8 : x8.toInt = x0.toInt + 4 := (jadd ex8 rfl jz_4 (by omega) (by omega)).trans (by omega)
  refine va_sld hx hb hX hbl hbA hS (jin tx8 (by omega) (by omega)) dL_law_1258 ?_
  have g9 := jrg (rfl : (xs x8.toNatClampNeg).toInt = (xs x8.toNatClampNeg).toInt)
  refine lv_aload_n hx hb dL_law_1259 rfl (lv_at hl 3 rfl) ?_
  refine lv_iload_n hx hb dL_law_1260 rfl (lv_at hl 0 rfl) ?_
  refine lv_iconst (v := 5) hx hb dL_law_1261 (by decide) ?_
  refine lv_iadd hx hb dL_law_1262 ?_
  refine lv_topi (fun x10 ex10 => ?_)
  have tx10 : x10.toInt = x0.toInt + 5 := (jadd ex10 rfl jz_5 (by omega) (by omega)).trans (by omega)
  refine va_sld hx hb hX hbl hbA hS (jin tx10 (by omega) (by omega)) dL_law_1263 ?_
  have g11 := jrg (rfl : (xs x10.toNatClampNeg).toInt = (xs x10.toNatClampNeg).toInt)
  refine jcallV (As := [.int (xs x2.toNatClampNeg), .int (xs x4.toNatClampNeg), .int (xs x6.toNatClampNeg), .int (xs x8.toNatClampNeg), .int (xs x10.toNatClampNeg)]) (rest := []) ⟨hx, hb, hml, hown, hts⟩ hK hP hA hS hZ (c_X11_shift l D cI cL ad zz hJ σ τ (xs x2.toNatClampNeg) ((xs x2.toNatClampNeg).toInt) rfl (xs x4.toNatClampNeg) ((xs x4.toNatClampNeg).toInt) rfl (xs x6.toNatClampNeg) ((xs x6.toNatClampNeg).toInt) rfl (xs x8.toNatClampNeg) ((xs x8.toNatClampNeg).toInt) rfl (xs x10.toNatClampNeg) ((xs x10.toNatClampNeg).toInt) rfl hI50) cw_RL_157 (jc_0 cI cL ad σ τ) rfl ⟨Nat.le_of_ble_eq_true rfl, Nat.le_of_ble_eq_true rfl⟩ rfl rfl rfl hl.1 rfl (Nat.le_of_ble_eq_true rfl) dL_law_1264 ⟨Nat.le_of_ble_eq_true rfl, Nat.le_of_ble_eq_true rfl⟩ (fun r13 σ12 τ12 H locs h12 hP hS => ?_)
  obtain ⟨f14, w15, h12⟩ := h12
  refine lv_pop hx hb dL_law_1267 rfl ?_
  refine lv_aload_n hx hb dL_law_1268 rfl (lv_at hl 1 rfl) ?_
  refine lv_aload_n hx hb dL_law_1269 rfl (lv_at hl 3 rfl) ?_
  refine lv_iload_n hx hb dL_law_1270 rfl (lv_at hl 0 rfl) ?_
  refine lv_iconst (v := 1) hx hb dL_law_1271 (by decide) ?_
  refine lv_iadd hx hb dL_law_1272 ?_
  refine jtopr ex2.symm ?_
  refine va_sld hx hb hX hbl hbA hS (jin tx2 (by omega) (by omega)) dL_law_1273 ?_
  refine lv_aload_n hx hb dL_law_1274 rfl (lv_at hl 3 rfl) ?_
  refine lv_iload_n hx hb dL_law_1275 rfl (lv_at hl 0 rfl) ?_
  refine lv_iconst (v := 2) hx hb dL_law_1276 (by decide) ?_
  refine lv_iadd hx hb dL_law_1277 ?_
  refine jtopr ex4.symm ?_
  refine va_sld hx hb hX hbl hbA hS (jin tx4 (by omega) (by omega)) dL_law_1278 ?_
  refine lv_aload_n hx hb dL_law_1279 rfl (lv_at hl 3 rfl) ?_
  refine lv_iload_n hx hb dL_law_1280 rfl (lv_at hl 0 rfl) ?_
  refine lv_iconst (v := 3) hx hb dL_law_1281 (by decide) ?_
  refine lv_iadd hx hb dL_law_1282 ?_
  refine jtopr ex6.symm ?_
  refine va_sld hx hb hX hbl hbA hS (jin tx6 (by omega) (by omega)) dL_law_1283 ?_
  refine lv_aload_n hx hb dL_law_1284 rfl (lv_at hl 3 rfl) ?_
  refine lv_iload_n hx hb dL_law_1285 rfl (lv_at hl 0 rfl) ?_
  refine lv_iconst (v := 4) hx hb dL_law_1286 (by decide) ?_
  refine lv_iadd hx hb dL_law_1287 ?_
  refine jtopr ex8.symm ?_
  refine va_sld hx hb hX hbl hbA hS (jin tx8 (by omega) (by omega)) dL_law_1288 ?_
  refine lv_aload_n hx hb dL_law_1289 rfl (lv_at hl 3 rfl) ?_
  refine lv_iload_n hx hb dL_law_1290 rfl (lv_at hl 0 rfl) ?_
  refine lv_iconst (v := 5) hx hb dL_law_1291 (by decide) ?_
  refine lv_iadd hx hb dL_law_1292 ?_
  refine jtopr ex10.symm ?_
  refine va_sld hx hb hX hbl hbA hS (jin tx10 (by omega) (by omega)) dL_law_1293 ?_
  have I16 : jI110 σ12 := jI110_fr (f14 86 (by decide)) (f14 87 (by decide)) hI110
  refine jcallV (As := [.int (xs x2.toNatClampNeg), .int (xs x4.toNatClampNeg), .int (xs x6.toNatClampNeg), .int (xs x8.toNatClampNeg), .int (xs x10.toNatClampNeg)]) (rest := []) ⟨hx, hb, hml, hown, hts⟩ hK hP hA hS hZ (c_X12_shift l D cI cL ad zz hJ σ12 τ12 (xs x2.toNatClampNeg) ((xs x2.toNatClampNeg).toInt) rfl (xs x4.toNatClampNeg) ((xs x4.toNatClampNeg).toInt) rfl (xs x6.toNatClampNeg) ((xs x6.toNatClampNeg).toInt) rfl (xs x8.toNatClampNeg) ((xs x8.toNatClampNeg).toInt) rfl (xs x10.toNatClampNeg) ((xs x10.toNatClampNeg).toInt) rfl I16) cw_RL_161 (jc_55 cI cL ad σ12 τ12) rfl ⟨Nat.le_of_ble_eq_true rfl, Nat.le_of_ble_eq_true rfl⟩ rfl rfl rfl hl.1 rfl (Nat.le_of_ble_eq_true rfl) dL_law_1294 ⟨Nat.le_of_ble_eq_true rfl, Nat.le_of_ble_eq_true rfl⟩ (fun r18 σ17 τ17 H locs h17 hP hS => ?_)
  obtain ⟨f19, w20, h17⟩ := h17
  refine lv_pop hx hb dL_law_1297 rfl ?_
  refine lv_goto (tgt := 1357) hx hb dL_law_1298 (by decide) ?_
  obtain ⟨x21, ex21⟩ : ∃ y : Int32, y = x0 + 6 := ⟨_, rfl⟩
  have tx21 : x21.toInt = x0.toInt + 6 := (jadd ex21 rfl jz_6 (by omega) (by omega)).trans (by omega)
  refine lv_iinc (v := x21) (lv' := [(3, .int x21), (2, .ref (ad 55)), (1, .ref (ad 0)), (0, .ref b)]) hx hb dL_law_1357 hl (k := 0) rfl (by rw [ex21]; rfl) (by decide) rfl (fun ls hl => ?_)
  refine lv_goto (tgt := 18) hx hb dL_law_1360 (by decide) ?_
  have I22 : jI2 σ17 := jI2_fr ((congrFun (f19 2 (by decide)) 0).trans (congrFun (f14 2 (by decide)) 0)) ((congrFun (f19 2 (by decide)) 1).trans (congrFun (f14 2 (by decide)) 1)) ((congrFun (f19 2 (by decide)) 2).trans (congrFun (f14 2 (by decide)) 2)) ((congrFun (f19 2 (by decide)) 3).trans (congrFun (f14 2 (by decide)) 3)) ((f19 6 (by decide)).trans (f14 6 (by decide))) hI2
  have I23 : jI9 σ17 := jI9_fr ((congrFun (f19 9 (by decide)) 0).trans (congrFun (f14 9 (by decide)) 0)) ((f19 10 (by decide)).trans (f14 10 (by decide))) ((f19 11 (by decide)).trans (f14 11 (by decide))) hI9
  have I24 : jI12 σ17 := jI12_fr ((congrFun (f19 12 (by decide)) 0).trans (congrFun (f14 12 (by decide)) 0)) ((f19 13 (by decide)).trans (f14 13 (by decide))) hI12
  have I25 : jI16 σ17 := jI16_fr ((congrFun (f19 16 (by decide)) 0).trans (congrFun (f14 16 (by decide)) 0)) ((congrFun (f19 16 (by decide)) 1).trans (congrFun (f14 16 (by decide)) 1)) ((congrFun (f19 16 (by decide)) 2).trans (congrFun (f14 16 (by decide)) 2)) ((f19 17 (by decide)).trans (f14 17 (by decide))) hI16
  have I26 : jI18 σ17 := jI18_fr ((congrFun (f19 18 (by decide)) 0).trans (congrFun (f14 18 (by decide)) 0)) ((f19 19 (by decide)).trans (f14 19 (by decide))) hI18
  have I27 : jI22 σ17 := jI22_fr ((congrFun (f19 22 (by decide)) 0).trans (congrFun (f14 22 (by decide)) 0)) ((f19 23 (by decide)).trans (f14 23 (by decide))) hI22
  have I28 : jI31 σ17 := jI31_fr ((congrFun (f19 31 (by decide)) 8).trans (congrFun (f14 31 (by decide)) 8)) ((f19 33 (by decide)).trans (f14 33 (by decide))) ((f19 36 (by decide)).trans (f14 36 (by decide))) hI31
  have I29 : jI38 σ17 := jI38_fr ((congrFun (f19 38 (by decide)) 0).trans (congrFun (f14 38 (by decide)) 0)) ((congrFun (f19 38 (by decide)) 1).trans (congrFun (f14 38 (by decide)) 1)) ((f19 39 (by decide)).trans (f14 39 (by decide))) hI38
  have I30 : jI43 σ17 := jI43_fr ((congrFun (f19 43 (by decide)) 8).trans (congrFun (f14 43 (by decide)) 8)) hI43
  have I31 : jI47 σ17 := jI47_fr ((congrFun (f19 47 (by decide)) 0).trans (congrFun (f14 47 (by decide)) 0)) ((f19 49 (by decide)).trans (f14 49 (by decide))) hI47
  have I32 : jI50 σ17 := jI50_fr ((f19 52 (by decide)).trans (f14 52 (by decide))) hI50
  have I33 : jI101 σ17 := jI101_fr ((congrFun (f19 55 (by decide)) 4).trans (congrFun (f14 55 (by decide)) 4)) ((congrFun (f19 55 (by decide)) 5).trans (congrFun (f14 55 (by decide)) 5)) ((f19 56 (by decide)).trans (f14 56 (by decide))) ((f19 57 (by decide)).trans (f14 57 (by decide))) ((f19 58 (by decide)).trans (f14 58 (by decide))) ((f19 59 (by decide)).trans (f14 59 (by decide))) hI101
  have I34 : jI102 σ17 := jI102_fr ((congrFun (f19 55 (by decide)) 6).trans (congrFun (f14 55 (by decide)) 6)) ((f19 60 (by decide)).trans (f14 60 (by decide))) ((f19 61 (by decide)).trans (f14 61 (by decide))) hI102
  have I35 : jI103 σ17 := jI103_fr ((congrFun (f19 55 (by decide)) 9).trans (congrFun (f14 55 (by decide)) 9)) hI103
  have I36 : jI104 σ17 := jI104_fr ((congrFun (f19 55 (by decide)) 10).trans (congrFun (f14 55 (by decide)) 10)) ((congrFun (f19 55 (by decide)) 12).trans (congrFun (f14 55 (by decide)) 12)) ((congrFun (f19 55 (by decide)) 13).trans (congrFun (f14 55 (by decide)) 13)) ((f19 62 (by decide)).trans (f14 62 (by decide))) ((f19 67 (by decide)).trans (f14 67 (by decide))) hI104
  have I37 : jI105 σ17 := jI105_fr ((congrFun (f19 55 (by decide)) 15).trans (congrFun (f14 55 (by decide)) 15)) ((f19 65 (by decide)).trans (f14 65 (by decide))) hI105
  have I38 : jI106 σ17 := jI106_fr ((congrFun (f19 55 (by decide)) 32).trans (congrFun (f14 55 (by decide)) 32)) ((f19 70 (by decide)).trans (f14 70 (by decide))) ((f19 71 (by decide)).trans (f14 71 (by decide))) ((f19 72 (by decide)).trans (f14 72 (by decide))) hI106
  have I39 : jI107 σ17 := jI107_fr ((congrFun (f19 55 (by decide)) 12).trans (congrFun (f14 55 (by decide)) 12)) ((congrFun (f19 55 (by decide)) 47).trans (congrFun (f14 55 (by decide)) 47)) ((f19 80 (by decide)).trans (f14 80 (by decide))) hI107
  have I40 : jI109 σ17 := jI109_fr ((congrFun (f19 55 (by decide)) 50).trans (congrFun (f14 55 (by decide)) 50)) hI109
  have I41 : jI110 σ17 := jI110_fr (f19 86 (by decide)) (f19 87 (by decide)) I16
  have I42 : jI111 σ17 := jI111_fr ((f19 79 (by decide)).trans (f14 79 (by decide))) hI111
  have I43 : jI119 σ17 := jI119_fr ((f19 68 (by decide)).trans (f14 68 (by decide))) hI119
  have p44 : jKept σ17 := jKept.fr ((f19 75 (by decide)).trans (f14 75 (by decide))) ((f19 76 (by decide)).trans (f14 76 (by decide))) ((f19 77 (by decide)).trans (f14 77 (by decide))) hs_jKept
  have p45 : jBook σ17 := jBook.fr ((congrFun (f19 55 (by decide)) 47).trans (congrFun (f14 55 (by decide)) 47)) ((congrFun (f19 55 (by decide)) 10).trans (congrFun (f14 55 (by decide)) 10)) ((f19 81 (by decide)).trans (f14 81 (by decide))) hs_jBook
  have z46 : (σ17 2 0).toInt = (σ 2 0).toInt := (congrArg Int32.toInt (show σ17 2 0 = (σ 2 0) from ((congrFun (f19 2 (by decide)) 0).trans (congrFun (f14 2 (by decide)) 0))))
  have z47 : (σ17 55 6).toInt = (σ 55 6).toInt := (congrArg Int32.toInt (show σ17 55 6 = (σ 55 6) from ((congrFun (f19 55 (by decide)) 6).trans (congrFun (f14 55 (by decide)) 6))))
  exact ih x21 σ17 τ17 _ _ ls (by have h9 := tx21; omega) ⟨I22, I23, I24, I25, I26, I27, I28, I29, I30, I31, I32, I33, I34, I35, I36, I37, I38, I39, I40, I41, I42, I43, p44, p45, (by omega)⟩ hP hS (lv_sub hl [0, 1, 2, 3] rfl)
set_option maxHeartbeats 4000000 in
set_option maxRecDepth 100000 in
theorem law_case_35 {p : Program} {e : Env} {s : State} {m : MethodId} {below : List Frame} {meth : Method} {c : Code} (l : Launch) {b L : Nat} {xs : Nat → Int32} {D : va_G} {cI cL : ClassId} {ad zz : Nat → Nat} (C0 : lw_At p s m meth c b L xs) (hJ : jD ad) (hA : ∀ q, jA ad q → s.heap.size ≤ q) (hK : jK D cI cL s) (hZ : jZ zz (fun q : Nat => s.heap.size ≤ q) s s.heap) {x0 : Int32} (hx0 : 0 ≤ x0.toInt) (hxL : x0.toInt + 6 ≤ (L : Int)) (hL : L ≤ 384) {σ : Nat → Nat → Int32} {τ : Nat → Nat → Int64} {H : Heap} {locs : List Loc} (hS : va_S (fun q : Nat => s.heap.size ≤ q) s.heap H locs) {ls : Array Slot} (hAll : jAll σ τ) (hP : jH D cI cL ad σ τ H) (hl : lv_has ls 4 [(3, .int x0), (2, .ref (ad 55)), (1, .ref (ad 0)), (0, .ref b)]) (ih : ∀ (x1 : Int32) (σ : Nat → Nat → Int32) (τ : Nat → Nat → Int64) (H : Heap) (locs : List Loc) (ls : Array Slot), x1.toInt = x0.toInt + 6 → jAll σ τ → jH D cI cL ad σ τ H → va_S (fun q : Nat => s.heap.size ≤ q) s.heap H locs → lv_has ls 4 [(3, .int x1), (2, .ref (ad 55)), (1, .ref (ad 0)), (0, .ref b)] → W p l e room_1 s m #[Value.ref b] below meth c H locs 90 348600 (lw_Z below #[Value.ref b] s) (F0 m 18 ls [])) : W p l e room_1 s m #[Value.ref b] below meth c H locs 90 348600 (lw_Z below #[Value.ref b] s) (F0 m 1301 ls []) := by
  obtain ⟨hx, hb, hr, hml, hown, hts0, hX, hbl, hlocks, hgv⟩ := C0
  have hts : ∀ w ∈ wsL_law, w.before #[Value.ref b] s = true := fun w h => hts0 w (wsL_law_in w h)
  have hbA : ¬ (fun q : Nat => s.heap.size ≤ q) b := Nat.not_le.mpr hbl
  have hown : s.vm.findClass RL = some m.cls := hown
  obtain ⟨hI2, hI9, hI12, hI16, hI18, hI22, hI31, hI38, hI43, hI47, hI50, hI101, hI102, hI103, hI104, hI105, hI106, hI107, hI109, hI110, hI111, hI119, hs_jKept, hs_jBook, ht0⟩ := hAll
  have hL9 : (L : Int) ≤ 384 := by omega
  refine lv_aload_n hx hb dL_law_1301 rfl (lv_at hl 2 rfl) ?_
  refine lv_aload_n hx hb dL_law_1302 rfl (lv_at hl 3 rfl) ?_
  refine lv_iload_n hx hb dL_law_1303 rfl (lv_at hl 0 rfl) ?_
  refine lv_iconst (v := 1) hx hb dL_law_1304 (by decide) ?_
  have g1 := jrg (rfl : x0.toInt = x0.toInt)
  refine lv_iadd hx hb dL_law_1305 ?_
  refine lv_topi (fun x2 ex2 => ?_)
  have tx2 : x2.toInt = x0.toInt + 1 := (jadd ex2 rfl jz_1 (by omega) (by omega)).trans (by omega)
  refine va_sld hx hb hX hbl hbA hS (jin tx2 (by omega) (by omega)) dL_law_1306 ?_
  have g3 := jrg (rfl : (xs x2.toNatClampNeg).toInt = (xs x2.toNatClampNeg).toInt)
  refine lv_aload_n hx hb dL_law_1307 rfl (lv_at hl 3 rfl) ?_
  refine lv_iload_n hx hb dL_law_1308 rfl (lv_at hl 0 rfl) ?_
  refine lv_iconst (v := 2) hx hb dL_law_1309 (by decide) ?_
  refine lv_iadd hx hb dL_law_1310 ?_
  refine lv_topi (fun x4 ex4 => ?_)
  have tx4 : x4.toInt = x0.toInt + 2 := (jadd ex4 rfl jz_2 (by omega) (by omega)).trans (by omega)
  refine va_sld hx hb hX hbl hbA hS (jin tx4 (by omega) (by omega)) dL_law_1311 ?_
  have g5 := jrg (rfl : (xs x4.toNatClampNeg).toInt = (xs x4.toNatClampNeg).toInt)
  refine jcallV (As := [.int (xs x2.toNatClampNeg), .int (xs x4.toNatClampNeg)]) (rest := []) ⟨hx, hb, hml, hown, hts⟩ hK hP hA hS hZ (c_X11_taken l D cI cL ad zz hJ σ τ (xs x2.toNatClampNeg) ((xs x2.toNatClampNeg).toInt) rfl (xs x4.toNatClampNeg) ((xs x4.toNatClampNeg).toInt) rfl hI38) cw_RL_162 (jc_0 cI cL ad σ τ) rfl ⟨Nat.le_of_ble_eq_true rfl, Nat.le_of_ble_eq_true rfl⟩ rfl rfl rfl hl.1 rfl (Nat.le_of_ble_eq_true rfl) dL_law_1312 ⟨Nat.le_of_ble_eq_true rfl, Nat.le_of_ble_eq_true rfl⟩ (fun r7 σ6 τ6 H locs h6 hP hS => ?_)
  obtain ⟨⟨rfl, rfl⟩, h6⟩ := h6
  refine lv_pop hx hb dL_law_1315 rfl ?_
  refine lv_aload_n hx hb dL_law_1316 rfl (lv_at hl 1 rfl) ?_
  refine lv_aload_n hx hb dL_law_1317 rfl (lv_at hl 3 rfl) ?_
  refine lv_iload_n hx hb dL_law_1318 rfl (lv_at hl 0 rfl) ?_
  refine lv_iconst (v := 1) hx hb dL_law_1319 (by decide) ?_
  refine lv_iadd hx hb dL_law_1320 ?_
  refine jtopr ex2.symm ?_
  refine va_sld hx hb hX hbl hbA hS (jin tx2 (by omega) (by omega)) dL_law_1321 ?_
  refine lv_aload_n hx hb dL_law_1322 rfl (lv_at hl 3 rfl) ?_
  refine lv_iload_n hx hb dL_law_1323 rfl (lv_at hl 0 rfl) ?_
  refine lv_iconst (v := 2) hx hb dL_law_1324 (by decide) ?_
  refine lv_iadd hx hb dL_law_1325 ?_
  refine jtopr ex4.symm ?_
  refine va_sld hx hb hX hbl hbA hS (jin tx4 (by omega) (by omega)) dL_law_1326 ?_
  refine jcallV (As := [.int (xs x2.toNatClampNeg), .int (xs x4.toNatClampNeg)]) (rest := []) ⟨hx, hb, hml, hown, hts⟩ hK hP hA hS hZ (c_X12_taken l D cI cL ad zz hJ σ τ (xs x2.toNatClampNeg) ((xs x2.toNatClampNeg).toInt) rfl (xs x4.toNatClampNeg) ((xs x4.toNatClampNeg).toInt) rfl hI106 hI110) cw_RL_165 (jc_55 cI cL ad σ τ) rfl ⟨Nat.le_of_ble_eq_true rfl, Nat.le_of_ble_eq_true rfl⟩ rfl rfl rfl hl.1 rfl (Nat.le_of_ble_eq_true rfl) dL_law_1327 ⟨Nat.le_of_ble_eq_true rfl, Nat.le_of_ble_eq_true rfl⟩ (fun r9 σ8 τ8 H locs h8 hP hS => ?_)
  obtain ⟨⟨rfl, rfl⟩, h8⟩ := h8
  refine lv_pop hx hb dL_law_1330 rfl ?_
  refine lv_goto (tgt := 1357) hx hb dL_law_1331 (by decide) ?_
  obtain ⟨x10, ex10⟩ : ∃ y : Int32, y = x0 + 6 := ⟨_, rfl⟩
  have tx10 : x10.toInt = x0.toInt + 6 := (jadd ex10 rfl jz_6 (by omega) (by omega)).trans (by omega)
  refine lv_iinc (v := x10) (lv' := [(3, .int x10), (2, .ref (ad 55)), (1, .ref (ad 0)), (0, .ref b)]) hx hb dL_law_1357 hl (k := 0) rfl (by rw [ex10]; rfl) (by decide) rfl (fun ls hl => ?_)
  refine lv_goto (tgt := 18) hx hb dL_law_1360 (by decide) ?_
  exact ih x10 σ τ _ _ ls (by have h9 := tx10; omega) ⟨hI2, hI9, hI12, hI16, hI18, hI22, hI31, hI38, hI43, hI47, hI50, hI101, hI102, hI103, hI104, hI105, hI106, hI107, hI109, hI110, hI111, hI119, hs_jKept, hs_jBook, (by omega)⟩ hP hS (lv_sub hl [0, 1, 2, 3] rfl)
set_option maxHeartbeats 4000000 in
set_option maxRecDepth 100000 in
theorem law_case_36 {p : Program} {e : Env} {s : State} {m : MethodId} {below : List Frame} {meth : Method} {c : Code} (l : Launch) {b L : Nat} {xs : Nat → Int32} {D : va_G} {cI cL : ClassId} {ad zz : Nat → Nat} (C0 : lw_At p s m meth c b L xs) (hJ : jD ad) (hA : ∀ q, jA ad q → s.heap.size ≤ q) (hK : jK D cI cL s) (hZ : jZ zz (fun q : Nat => s.heap.size ≤ q) s s.heap) {x0 : Int32} (hx0 : 0 ≤ x0.toInt) (hxL : x0.toInt + 6 ≤ (L : Int)) (hL : L ≤ 384) {σ : Nat → Nat → Int32} {τ : Nat → Nat → Int64} {H : Heap} {locs : List Loc} (hS : va_S (fun q : Nat => s.heap.size ≤ q) s.heap H locs) {ls : Array Slot} (hAll : jAll σ τ) (hP : jH D cI cL ad σ τ H) (hl : lv_has ls 4 [(3, .int x0), (2, .ref (ad 55)), (1, .ref (ad 0)), (0, .ref b)]) (ih : ∀ (x1 : Int32) (σ : Nat → Nat → Int32) (τ : Nat → Nat → Int64) (H : Heap) (locs : List Loc) (ls : Array Slot), x1.toInt = x0.toInt + 6 → jAll σ τ → jH D cI cL ad σ τ H → va_S (fun q : Nat => s.heap.size ≤ q) s.heap H locs → lv_has ls 4 [(3, .int x1), (2, .ref (ad 55)), (1, .ref (ad 0)), (0, .ref b)] → W p l e room_1 s m #[Value.ref b] below meth c H locs 90 348600 (lw_Z below #[Value.ref b] s) (F0 m 18 ls [])) : W p l e room_1 s m #[Value.ref b] below meth c H locs 90 348600 (lw_Z below #[Value.ref b] s) (F0 m 1334 ls []) := by
  obtain ⟨hx, hb, hr, hml, hown, hts0, hX, hbl, hlocks, hgv⟩ := C0
  have hts : ∀ w ∈ wsL_law, w.before #[Value.ref b] s = true := fun w h => hts0 w (wsL_law_in w h)
  have hbA : ¬ (fun q : Nat => s.heap.size ≤ q) b := Nat.not_le.mpr hbl
  have hown : s.vm.findClass RL = some m.cls := hown
  obtain ⟨hI2, hI9, hI12, hI16, hI18, hI22, hI31, hI38, hI43, hI47, hI50, hI101, hI102, hI103, hI104, hI105, hI106, hI107, hI109, hI110, hI111, hI119, hs_jKept, hs_jBook, ht0⟩ := hAll
  have hL9 : (L : Int) ≤ 384 := by omega
  refine lv_aload_n hx hb dL_law_1334 rfl (lv_at hl 2 rfl) ?_
  refine lv_aload_n hx hb dL_law_1335 rfl (lv_at hl 3 rfl) ?_
  refine lv_iload_n hx hb dL_law_1336 rfl (lv_at hl 0 rfl) ?_
  refine lv_iconst (v := 1) hx hb dL_law_1337 (by decide) ?_
  have g1 := jrg (rfl : x0.toInt = x0.toInt)
  refine lv_iadd hx hb dL_law_1338 ?_
  refine lv_topi (fun x2 ex2 => ?_)
  have tx2 : x2.toInt = x0.toInt + 1 := (jadd ex2 rfl jz_1 (by omega) (by omega)).trans (by omega)
  refine va_sld hx hb hX hbl hbA hS (jin tx2 (by omega) (by omega)) dL_law_1339 ?_
  have g3 := jrg (rfl : (xs x2.toNatClampNeg).toInt = (xs x2.toNatClampNeg).toInt)
  refine jcallV (As := [.int (xs x2.toNatClampNeg)]) (rest := []) ⟨hx, hb, hml, hown, hts⟩ hK hP hA hS hZ (c_X11_count l D cI cL ad zz hJ σ τ (xs x2.toNatClampNeg) ((xs x2.toNatClampNeg).toInt) rfl hI2 hI9 hI38 hI47) cw_RL_166 (jc_0 cI cL ad σ τ) rfl ⟨Nat.le_of_ble_eq_true rfl, Nat.le_of_ble_eq_true rfl⟩ rfl rfl rfl hl.1 rfl (Nat.le_of_ble_eq_true rfl) dL_law_1340 ⟨Nat.le_of_ble_eq_true rfl, Nat.le_of_ble_eq_true rfl⟩ (fun r5 σ4 τ4 H locs h4 hP hS => ?_)
  obtain ⟨⟨rfl, rfl⟩, h4⟩ := h4
  refine lv_pop hx hb dL_law_1343 rfl ?_
  refine lv_aload_n hx hb dL_law_1344 rfl (lv_at hl 1 rfl) ?_
  refine lv_aload_n hx hb dL_law_1345 rfl (lv_at hl 3 rfl) ?_
  refine lv_iload_n hx hb dL_law_1346 rfl (lv_at hl 0 rfl) ?_
  refine lv_iconst (v := 1) hx hb dL_law_1347 (by decide) ?_
  refine lv_iadd hx hb dL_law_1348 ?_
  refine jtopr ex2.symm ?_
  refine va_sld hx hb hX hbl hbA hS (jin tx2 (by omega) (by omega)) dL_law_1349 ?_
  refine jcallV (As := [.int (xs x2.toNatClampNeg)]) (rest := []) ⟨hx, hb, hml, hown, hts⟩ hK hP hA hS hZ (c_X12_count l D cI cL ad zz hJ σ τ (xs x2.toNatClampNeg) ((xs x2.toNatClampNeg).toInt) rfl hI101 hI102 hI105 hI106 hI107) cw_RL_169 (jc_55 cI cL ad σ τ) rfl ⟨Nat.le_of_ble_eq_true rfl, Nat.le_of_ble_eq_true rfl⟩ rfl rfl rfl hl.1 rfl (Nat.le_of_ble_eq_true rfl) dL_law_1350 ⟨Nat.le_of_ble_eq_true rfl, Nat.le_of_ble_eq_true rfl⟩ (fun r7 σ6 τ6 H locs h6 hP hS => ?_)
  obtain ⟨⟨rfl, rfl⟩, h6⟩ := h6
  refine lv_pop hx hb dL_law_1353 rfl ?_
  refine lv_goto (tgt := 1357) hx hb dL_law_1354 (by decide) ?_
  obtain ⟨x8, ex8⟩ : ∃ y : Int32, y = x0 + 6 := ⟨_, rfl⟩
  have tx8 : x8.toInt = x0.toInt + 6 := (jadd ex8 rfl jz_6 (by omega) (by omega)).trans (by omega)
  refine lv_iinc (v := x8) (lv' := [(3, .int x8), (2, .ref (ad 55)), (1, .ref (ad 0)), (0, .ref b)]) hx hb dL_law_1357 hl (k := 0) rfl (by rw [ex8]; rfl) (by decide) rfl (fun ls hl => ?_)
  refine lv_goto (tgt := 18) hx hb dL_law_1360 (by decide) ?_
  exact ih x8 σ τ _ _ ls (by have h9 := tx8; omega) ⟨hI2, hI9, hI12, hI16, hI18, hI22, hI31, hI38, hI43, hI47, hI50, hI101, hI102, hI103, hI104, hI105, hI106, hI107, hI109, hI110, hI111, hI119, hs_jKept, hs_jBook, (by omega)⟩ hP hS (lv_sub hl [0, 1, 2, 3] rfl)
set_option maxHeartbeats 4000000 in
set_option maxRecDepth 100000 in
theorem law_case_37 {p : Program} {e : Env} {s : State} {m : MethodId} {below : List Frame} {meth : Method} {c : Code} (l : Launch) {b L : Nat} {xs : Nat → Int32} {D : va_G} {cI cL : ClassId} {ad zz : Nat → Nat} (C0 : lw_At p s m meth c b L xs) (hJ : jD ad) (hA : ∀ q, jA ad q → s.heap.size ≤ q) (hK : jK D cI cL s) (hZ : jZ zz (fun q : Nat => s.heap.size ≤ q) s s.heap) {x0 : Int32} (hx0 : 0 ≤ x0.toInt) (hxL : x0.toInt + 6 ≤ (L : Int)) (hL : L ≤ 384) {σ : Nat → Nat → Int32} {τ : Nat → Nat → Int64} {H : Heap} {locs : List Loc} (hS : va_S (fun q : Nat => s.heap.size ≤ q) s.heap H locs) {ls : Array Slot} (hAll : jAll σ τ) (hP : jH D cI cL ad σ τ H) (hl : lv_has ls 4 [(3, .int x0), (2, .ref (ad 55)), (1, .ref (ad 0)), (0, .ref b)]) (ih : ∀ (x1 : Int32) (σ : Nat → Nat → Int32) (τ : Nat → Nat → Int64) (H : Heap) (locs : List Loc) (ls : Array Slot), x1.toInt = x0.toInt + 6 → jAll σ τ → jH D cI cL ad σ τ H → va_S (fun q : Nat => s.heap.size ≤ q) s.heap H locs → lv_has ls 4 [(3, .int x1), (2, .ref (ad 55)), (1, .ref (ad 0)), (0, .ref b)] → W p l e room_1 s m #[Value.ref b] below meth c H locs 90 348600 (lw_Z below #[Value.ref b] s) (F0 m 18 ls [])) : W p l e room_1 s m #[Value.ref b] below meth c H locs 90 348600 (lw_Z below #[Value.ref b] s) (F0 m 1357 ls []) := by
  obtain ⟨hx, hb, hr, hml, hown, hts0, hX, hbl, hlocks, hgv⟩ := C0
  have hts : ∀ w ∈ wsL_law, w.before #[Value.ref b] s = true := fun w h => hts0 w (wsL_law_in w h)
  have hbA : ¬ (fun q : Nat => s.heap.size ≤ q) b := Nat.not_le.mpr hbl
  have hown : s.vm.findClass RL = some m.cls := hown
  obtain ⟨hI2, hI9, hI12, hI16, hI18, hI22, hI31, hI38, hI43, hI47, hI50, hI101, hI102, hI103, hI104, hI105, hI106, hI107, hI109, hI110, hI111, hI119, hs_jKept, hs_jBook, ht0⟩ := hAll
  have hL9 : (L : Int) ≤ 384 := by omega
  obtain ⟨x1, ex1⟩ : ∃ y : Int32, y = x0 + 6 := ⟨_, rfl⟩
  have tx1 : x1.toInt = x0.toInt + 6 := (jadd ex1 rfl jz_6 (by omega) (by omega)).trans (by omega)
  refine lv_iinc (v := x1) (lv' := [(3, .int x1), (2, .ref (ad 55)), (1, .ref (ad 0)), (0, .ref b)]) hx hb dL_law_1357 hl (k := 0) rfl (by rw [ex1]; rfl) (by decide) rfl (fun ls hl => ?_)
  refine lv_goto (tgt := 18) hx hb dL_law_1360 (by decide) ?_
  exact ih x1 σ τ _ _ ls (by have h9 := tx1; omega) ⟨hI2, hI9, hI12, hI16, hI18, hI22, hI31, hI38, hI43, hI47, hI50, hI101, hI102, hI103, hI104, hI105, hI106, hI107, hI109, hI110, hI111, hI119, hs_jKept, hs_jBook, (by omega)⟩ hP hS (lv_sub hl [0, 1, 2, 3] rfl)
