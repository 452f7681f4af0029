set_option maxHeartbeats 4000000 in
set_option maxRecDepth 100000 in
theorem law_case_19 {p : Program} {e : Env} {s : State} {m : MethodId} {below : List Frame} {meth : Method} {c : Code} (l : Launch) {b L : Nat} {xs : Nat → Int32} {D : va_G} {cI cL : ClassId} {ad zz : Nat → Nat} (C0 : lw_At p s m meth c b L xs) (hJ : jD ad) (hA : ∀ q, jA ad q → s.heap.size ≤ q) (hK : jK D cI cL s) (hZ : jZ zz (fun q : Nat => s.heap.size ≤ q) s s.heap) {x0 : Int32} (hx0 : 0 ≤ x0.toInt) (hxL : x0.toInt + 6 ≤ (L : Int)) (hL : L ≤ 384) {σ : Nat → Nat → Int32} {τ : Nat → Nat → Int64} {H : Heap} {locs : List Loc} (hS : va_S (fun q : Nat => s.heap.size ≤ q) s.heap H locs) {ls : Array Slot} (hAll : jAll σ τ) (hP : jH D cI cL ad σ τ H) (hl : lv_has ls 4 [(3, .int x0), (2, .ref (ad 55)), (1, .ref (ad 0)), (0, .ref b)]) (ih : ∀ (x1 : Int32) (σ : Nat → Nat → Int32) (τ : Nat → Nat → Int64) (H : Heap) (locs : List Loc) (ls : Array Slot), x1.toInt = x0.toInt + 6 → jAll σ τ → jH D cI cL ad σ τ H → va_S (fun q : Nat => s.heap.size ≤ q) s.heap H locs → lv_has ls 4 [(3, .int x1), (2, .ref (ad 55)), (1, .ref (ad 0)), (0, .ref b)] → W p l e room_1 s m #[Value.ref b] below meth c H locs 90 348600 (lw_Z below #[Value.ref b] s) (F0 m 18 ls [])) : W p l e room_1 s m #[Value.ref b] below meth c H locs 90 348600 (lw_Z below #[Value.ref b] s) (F0 m 773 ls []) := by
  obtain ⟨hx, hb, hr, hml, hown, hts0, hX, hbl, hlocks, hgv⟩ := C0
  have hts : ∀ w ∈ wsL_law, w.before #[Value.ref b] s = true := fun w h => hts0 w (wsL_law_in w h)
  have hbA : ¬ (fun q : Nat => s.heap.size ≤ q) b := Nat.not_le.mpr hbl
  have hown : s.vm.findClass RL = some m.cls := hown
  obtain ⟨hI2, hI9, hI12, hI16, hI18, hI22, hI31, hI38, hI43, hI47, hI50, hI101, hI102, hI103, hI104, hI105, hI106, hI107, hI109, hI110, hI111, hI119, hs_jKept, hs_jBook, ht0, hr0, hr1⟩ := hAll
  have hL9 : (L : Int) ≤ 384 := by omega
  obtain ⟨i1, i2, w3⟩ : (0 ≤ (σ 38 0).toInt ∧ (σ 38 0).toInt ≤ 20) ∧ (0 ≤ (σ 38 1).toInt ∧ (σ 38 1).toInt ≤ 1000) ∧ (∀ k : Nat, k < 20 → 0 ≤ (σ 39 k).toInt ∧ (σ 39 k).toInt ≤ 6) := id hI38
  obtain ⟨i4, w5, w6, w7⟩ : (0 ≤ (σ 55 32).toInt ∧ (σ 55 32).toInt ≤ 20) ∧ (∀ k : Nat, k < 20 → 0 ≤ (σ 70 k).toInt ∧ (σ 70 k).toInt ≤ 6) ∧ (∀ k : Nat, k < 20 → 0 ≤ (σ 71 k).toInt ∧ (σ 71 k).toInt ≤ 8) ∧ (∀ k : Nat, k < 160 → 0 ≤ (σ 72 k).toInt ∧ (σ 72 k).toInt ≤ 3) := id hI106
  refine lv_aload_n hx hb dL_law_773 rfl (lv_at hl 2 rfl) ?_
  refine lv_aload_n hx hb dL_law_774 rfl (lv_at hl 3 rfl) ?_
  refine lv_iload_n hx hb dL_law_775 rfl (lv_at hl 0 rfl) ?_
  refine lv_iconst (v := 1) hx hb dL_law_776 (by decide) ?_
  have g8 := jrg (rfl : x0.toInt = x0.toInt)
  refine lv_iadd hx hb dL_law_777 ?_
  refine lv_topi (fun x9 ex9 => ?_)
  have tx9 : x9.toInt = x0.toInt + 1 := (jadd ex9 rfl jz_1 (by omega) (by omega)).trans (by omega)
  refine va_sld hx hb hX hbl hbA hS (jin tx9 (by omega) (by omega)) dL_law_778 ?_
  have g10 := jrg (rfl : (xs x9.toNatClampNeg).toInt = (xs x9.toNatClampNeg).toInt)
  refine lv_aload_n hx hb dL_law_779 rfl (lv_at hl 3 rfl) ?_
  refine lv_iload_n hx hb dL_law_780 rfl (lv_at hl 0 rfl) ?_
  refine lv_iconst (v := 2) hx hb dL_law_781 (by decide) ?_
  refine lv_iadd hx hb dL_law_782 ?_
  refine lv_topi (fun x11 ex11 => ?_)
  have tx11 : x11.toInt = x0.toInt + 2 := (jadd ex11 rfl jz_2 (by omega) (by omega)).trans (by omega)
  refine va_sld hx hb hX hbl hbA hS (jin tx11 (by omega) (by omega)) dL_law_783 ?_
  have g12 := jrg (rfl : (xs x11.toNatClampNeg).toInt = (xs x11.toNatClampNeg).toInt)
  refine jcallV (As := [.int (xs x9.toNatClampNeg), .int (xs x11.toNatClampNeg)]) (rest := []) ⟨hx, hb, hml, hown, hts⟩ hK hP hA hS hZ (c_X11_book l D cI cL ad zz hJ σ τ (xs x9.toNatClampNeg) ((xs x9.toNatClampNeg).toInt) rfl (xs x11.toNatClampNeg) ((xs x11.toNatClampNeg).toInt) rfl hI2 hI16 hI47) cw_RL_93 (jc_0 cI cL ad σ τ) rfl ⟨Nat.le_of_ble_eq_true rfl, Nat.le_of_ble_eq_true rfl⟩ rfl rfl rfl hl.1 rfl (Nat.le_of_ble_eq_true rfl) dL_law_784 ⟨Nat.le_of_ble_eq_true rfl, Nat.le_of_ble_eq_true rfl⟩ (fun r14 σ13 τ13 H locs h13 hP hS => ?_)
  obtain ⟨rfl, f15, f16, I17, w18, h13⟩ := h13
  refine lv_pop hx hb dL_law_787 rfl ?_
  refine lv_aload_n hx hb dL_law_788 rfl (lv_at hl 1 rfl) ?_
  refine lv_aload_n hx hb dL_law_789 rfl (lv_at hl 3 rfl) ?_
  refine lv_iload_n hx hb dL_law_790 rfl (lv_at hl 0 rfl) ?_
  refine lv_iconst (v := 1) hx hb dL_law_791 (by decide) ?_
  refine lv_iadd hx hb dL_law_792 ?_
  refine jtopr ex9.symm ?_
  refine va_sld hx hb hX hbl hbA hS (jin tx9 (by omega) (by omega)) dL_law_793 ?_
  refine lv_aload_n hx hb dL_law_794 rfl (lv_at hl 3 rfl) ?_
  refine lv_iload_n hx hb dL_law_795 rfl (lv_at hl 0 rfl) ?_
  refine lv_iconst (v := 2) hx hb dL_law_796 (by decide) ?_
  refine lv_iadd hx hb dL_law_797 ?_
  refine jtopr ex11.symm ?_
  refine va_sld hx hb hX hbl hbA hS (jin tx11 (by omega) (by omega)) dL_law_798 ?_
  have I20 : jI102 σ13 := jI102_fr (congrFun (f15 55 (by decide)) 6) (f15 60 (by decide)) (f15 61 (by decide)) hI102
  have I21 : jI104 σ13 := jI104_fr (congrFun (f15 55 (by decide)) 10) (congrFun (f15 55 (by decide)) 12) (congrFun (f15 55 (by decide)) 13) (f15 62 (by decide)) (f15 67 (by decide)) hI104
  have I22 : jI107 σ13 := jI107_fr (congrFun (f15 55 (by decide)) 12) (congrFun (f15 55 (by decide)) 47) (f15 80 (by decide)) hI107
  have w23 : ∀ k : Nat, k < 4 → 0 ≤ (σ 68 k).toInt ∧ (σ 68 k).toInt ≤ 3 := hI119
  have w24 : ∀ k : Nat, k < 4 → 0 ≤ (σ13 68 k).toInt ∧ (σ13 68 k).toInt ≤ 3 := (jrr_fr (f15 68 (by decide)) w23)
  have p25 : jBook σ13 := jBook.fr (congrFun (f15 55 (by decide)) 47) (congrFun (f15 55 (by decide)) 10) (f15 81 (by decide)) hs_jBook
  have z26 : (σ13 55 47).toInt = (σ 55 47).toInt := (congrArg Int32.toInt (show σ13 55 47 = (σ 55 47) from (congrFun (f15 55 (by decide)) 47)))
  refine jcallV (As := [.int (xs x9.toNatClampNeg), .int (xs x11.toNatClampNeg)]) (rest := []) ⟨hx, hb, hml, hown, hts⟩ hK hP hA hS hZ (c_X12_book l D cI cL ad zz hJ σ13 τ (xs x9.toNatClampNeg) ((xs x9.toNatClampNeg).toInt) rfl (xs x11.toNatClampNeg) ((xs x11.toNatClampNeg).toInt) rfl I20 I21 I22 w24 p25) cw_RL_96 (jc_55 cI cL ad σ13 τ) rfl ⟨Nat.le_of_ble_eq_true rfl, Nat.le_of_ble_eq_true rfl⟩ rfl rfl rfl hl.1 rfl (Nat.le_of_ble_eq_true rfl) dL_law_799 ⟨Nat.le_of_ble_eq_true rfl, Nat.le_of_ble_eq_true rfl⟩ (fun r28 σ27 τ27 H locs h27 hP hS => ?_)
  obtain ⟨rfl, f29, f30, I31, w32, p33, w34, h27⟩ := h27
  rcases h27 with h36 | h37
  · obtain ⟨q40, k38, k39⟩ := h36
    refine lv_pop hx hb dL_law_802 rfl ?_
    refine lv_goto (tgt := 1357) hx hb dL_law_803 (by decide) ?_
    obtain ⟨x41, ex41⟩ : ∃ y : Int32, y = x0 + 6 := ⟨_, rfl⟩
    have tx41 : x41.toInt = x0.toInt + 6 := (jadd ex41 rfl jz_6 (by omega) (by omega)).trans (by omega)
    refine lv_iinc (v := x41) (lv' := [(3, .int x41), (2, .ref (ad 55)), (1, .ref (ad 0)), (0, .ref b)]) hx hb dL_law_1357 hl (k := 0) rfl (by rw [ex41]; rfl) (by decide) rfl (fun ls hl => ?_)
    refine lv_goto (tgt := 18) hx hb dL_law_1360 (by decide) ?_
    have I42 : jI2 σ27 := jI2_fr ((congrFun (f29 2 (by decide)) 0).trans (congrFun (f15 2 (by decide)) 0)) ((congrFun (f29 2 (by decide)) 1).trans (congrFun (f15 2 (by decide)) 1)) ((congrFun (f29 2 (by decide)) 2).trans (congrFun (f15 2 (by decide)) 2)) ((congrFun (f29 2 (by decide)) 3).trans (congrFun (f15 2 (by decide)) 3)) ((f29 6 (by decide)).trans (f15 6 (by decide))) hI2
    have I43 : jI9 σ27 := jI9_fr ((congrFun (f29 9 (by decide)) 0).trans (congrFun (f15 9 (by decide)) 0)) ((f29 10 (by decide)).trans (f15 10 (by decide))) ((f29 11 (by decide)).trans (f15 11 (by decide))) hI9
    have I44 : jI12 σ27 := jI12_fr ((congrFun (f29 12 (by decide)) 0).trans (congrFun (f15 12 (by decide)) 0)) ((f29 13 (by decide)).trans (f15 13 (by decide))) hI12
    have I45 : jI16 σ27 := jI16_fr ((congrFun (f29 16 (by decide)) 0).trans (congrFun (f15 16 (by decide)) 0)) ((congrFun (f29 16 (by decide)) 1).trans (congrFun (f15 16 (by decide)) 1)) ((congrFun (f29 16 (by decide)) 2).trans (congrFun (f15 16 (by decide)) 2)) ((f29 17 (by decide)).trans (f15 17 (by decide))) hI16
    have I46 : jI18 σ27 := jI18_fr ((congrFun (f29 18 (by decide)) 0).trans (congrFun (f15 18 (by decide)) 0)) ((f29 19 (by decide)).trans (f15 19 (by decide))) hI18
    have I47 : jI22 σ27 := jI22_fr ((congrFun (f29 22 (by decide)) 0).trans (congrFun (f15 22 (by decide)) 0)) ((f29 23 (by decide)).trans (f15 23 (by decide))) hI22
    have I48 : jI31 σ27 := jI31_fr ((congrFun (f29 31 (by decide)) 8).trans (congrFun (f15 31 (by decide)) 8)) ((f29 33 (by decide)).trans (f15 33 (by decide))) ((f29 36 (by decide)).trans (f15 36 (by decide))) hI31
    have I49 : jI38 σ27 := jI38_fr ((congrFun (f29 38 (by decide)) 0).trans (congrFun (f15 38 (by decide)) 0)) ((congrFun (f29 38 (by decide)) 1).trans (congrFun (f15 38 (by decide)) 1)) ((f29 39 (by decide)).trans (f15 39 (by decide))) hI38
    have I50 : jI43 σ27 := jI43_fr ((congrFun (f29 43 (by decide)) 8).trans (congrFun (f15 43 (by decide)) 8)) hI43
    have I51 : jI47 σ27 := jI47_fr (congrFun (f29 47 (by decide)) 0) (f29 48 (by decide)) (f29 49 (by decide)) I17
    have I52 : jI50 σ27 := jI50_fr ((f29 52 (by decide)).trans (f15 52 (by decide))) hI50
    have I53 : jI101 σ27 := jI101_fr ((f30 4 (by decide)).trans (congrFun (f15 55 (by decide)) 4)) ((f30 5 (by decide)).trans (congrFun (f15 55 (by decide)) 5)) ((f29 56 (by decide)).trans (f15 56 (by decide))) ((f29 57 (by decide)).trans (f15 57 (by decide))) ((f29 58 (by decide)).trans (f15 58 (by decide))) ((f29 59 (by decide)).trans (f15 59 (by decide))) hI101
    have I54 : jI102 σ27 := jI102_fr (f30 6 (by decide)) (f29 60 (by decide)) (f29 61 (by decide)) I20
    have I55 : jI103 σ27 := jI103_fr ((f30 9 (by decide)).trans (congrFun (f15 55 (by decide)) 9)) hI103
    have I56 : jI104 σ27 := jI104_fr (f30 10 (by decide)) (f30 12 (by decide)) (f30 13 (by decide)) (f29 62 (by decide)) (f29 67 (by decide)) I21
    have I57 : jI105 σ27 := jI105_fr ((f30 15 (by decide)).trans (congrFun (f15 55 (by decide)) 15)) ((f29 65 (by decide)).trans (f15 65 (by decide))) hI105
    have I58 : jI106 σ27 := jI106_fr ((f30 32 (by decide)).trans (congrFun (f15 55 (by decide)) 32)) ((f29 70 (by decide)).trans (f15 70 (by decide))) ((f29 71 (by decide)).trans (f15 71 (by decide))) ((f29 72 (by decide)).trans (f15 72 (by decide))) hI106
    have I59 : jI109 σ27 := jI109_fr ((f30 50 (by decide)).trans (congrFun (f15 55 (by decide)) 50)) hI109
    have I60 : jI110 σ27 := jI110_fr ((f29 86 (by decide)).trans (f15 86 (by decide))) ((f29 87 (by decide)).trans (f15 87 (by decide))) hI110
    have I61 : jI111 σ27 := jI111_fr ((f29 79 (by decide)).trans (f15 79 (by decide))) hI111
    have I62 : jI119 σ27 := w32
    have p63 : jKept σ27 := jKept.fr ((f29 75 (by decide)).trans (f15 75 (by decide))) ((f29 76 (by decide)).trans (f15 76 (by decide))) ((f29 77 (by decide)).trans (f15 77 (by decide))) hs_jKept
    have z64 : (σ27 38 0).toInt = (σ 38 0).toInt := (congrArg Int32.toInt (show σ27 38 0 = (σ 38 0) from ((congrFun (f29 38 (by decide)) 0).trans (congrFun (f15 38 (by decide)) 0))))
    have z65 : (σ27 55 32).toInt = (σ 55 32).toInt := (congrArg Int32.toInt (show σ27 55 32 = (σ 55 32) from ((f30 32 (by decide)).trans (congrFun (f15 55 (by decide)) 32))))
    exact ih x41 σ27 τ _ _ ls (by have h9 := tx41; omega) ⟨I42, I43, I44, I45, I46, I47, I48, I49, I50, I51, I52, I53, I54, I55, I56, I57, I58, I31, I59, I60, I61, I62, p63, p33, (by omega), (show jShP (σ27 51) (σ27 52) (σ27 53) (σ27 86) (σ27 87) (σ27 55 32).toInt by rw [show σ27 51 = σ 51 from ((f29 51 (by decide)).trans (f15 51 (by decide))), show σ27 52 = σ 52 from ((f29 52 (by decide)).trans (f15 52 (by decide))), show σ27 53 = σ 53 from ((f29 53 (by decide)).trans (f15 53 (by decide))), show σ27 86 = σ 86 from ((f29 86 (by decide)).trans (f15 86 (by decide))), show σ27 87 = σ 87 from ((f29 87 (by decide)).trans (f15 87 (by decide)))]; exact (hr0.up (by omega) (by omega))), (show jKd (σ27 39) (σ27 70) (σ27 55 32).toInt by rw [show σ27 39 = σ 39 from ((f29 39 (by decide)).trans (f15 39 (by decide))), show σ27 70 = σ 70 from ((f29 70 (by decide)).trans (f15 70 (by decide))), show (σ27 55 32).toInt = (σ 55 32).toInt from by omega]; exact hr1)⟩ hP hS (lv_sub hl [0, 1, 2, 3] rfl)
  · obtain ⟨q68, k66, k67⟩ := h37
    refine lv_pop hx hb dL_law_802 rfl ?_
    refine lv_goto (tgt := 1357) hx hb dL_law_803 (by decide) ?_
    obtain ⟨x69, ex69⟩ : ∃ y : Int32, y = x0 + 6 := ⟨_, rfl⟩
    have tx69 : x69.toInt = x0.toInt + 6 := (jadd ex69 rfl jz_6 (by omega) (by omega)).trans (by omega)
    refine lv_iinc (v := x69) (lv' := [(3, .int x69), (2, .ref (ad 55)), (1, .ref (ad 0)), (0, .ref b)]) hx hb dL_law_1357 hl (k := 0) rfl (by rw [ex69]; rfl) (by decide) rfl (fun ls hl => ?_)
    refine lv_goto (tgt := 18) hx hb dL_law_1360 (by decide) ?_
    have I70 : jI2 σ27 := jI2_fr ((congrFun (f29 2 (by decide)) 0).trans (congrFun (f15 2 (by decide)) 0)) ((congrFun (f29 2 (by decide)) 1).trans (congrFun (f15 2 (by decide)) 1)) ((congrFun (f29 2 (by decide)) 2).trans (congrFun (f15 2 (by decide)) 2)) ((congrFun (f29 2 (by decide)) 3).trans (congrFun (f15 2 (by decide)) 3)) ((f29 6 (by decide)).trans (f15 6 (by decide))) hI2
    have I71 : jI9 σ27 := jI9_fr ((congrFun (f29 9 (by decide)) 0).trans (congrFun (f15 9 (by decide)) 0)) ((f29 10 (by decide)).trans (f15 10 (by decide))) ((f29 11 (by decide)).trans (f15 11 (by decide))) hI9
    have I72 : jI12 σ27 := jI12_fr ((congrFun (f29 12 (by decide)) 0).trans (congrFun (f15 12 (by decide)) 0)) ((f29 13 (by decide)).trans (f15 13 (by decide))) hI12
    have I73 : jI16 σ27 := jI16_fr ((congrFun (f29 16 (by decide)) 0).trans (congrFun (f15 16 (by decide)) 0)) ((congrFun (f29 16 (by decide)) 1).trans (congrFun (f15 16 (by decide)) 1)) ((congrFun (f29 16 (by decide)) 2).trans (congrFun (f15 16 (by decide)) 2)) ((f29 17 (by decide)).trans (f15 17 (by decide))) hI16
    have I74 : jI18 σ27 := jI18_fr ((congrFun (f29 18 (by decide)) 0).trans (congrFun (f15 18 (by decide)) 0)) ((f29 19 (by decide)).trans (f15 19 (by decide))) hI18
    have I75 : jI22 σ27 := jI22_fr ((congrFun (f29 22 (by decide)) 0).trans (congrFun (f15 22 (by decide)) 0)) ((f29 23 (by decide)).trans (f15 23 (by decide))) hI22
    have I76 : jI31 σ27 := jI31_fr ((congrFun (f29 31 (by decide)) 8).trans (congrFun (f15 31 (by decide)) 8)) ((f29 33 (by decide)).trans (f15 33 (by decide))) ((f29 36 (by decide)).trans (f15 36 (by decide))) hI31
    have I77 : jI38 σ27 := jI38_fr ((congrFun (f29 38 (by decide)) 0).trans (congrFun (f15 38 (by decide)) 0)) ((congrFun (f29 38 (by decide)) 1).trans (congrFun (f15 38 (by decide)) 1)) ((f29 39 (by decide)).trans (f15 39 (by decide))) hI38
    have I78 : jI43 σ27 := jI43_fr ((congrFun (f29 43 (by decide)) 8).trans (congrFun (f15 43 (by decide)) 8)) hI43
    have I79 : jI47 σ27 := jI47_fr (congrFun (f29 47 (by decide)) 0) (f29 48 (by decide)) (f29 49 (by decide)) I17
    have I80 : jI50 σ27 := jI50_fr ((f29 52 (by decide)).trans (f15 52 (by decide))) hI50
    have I81 : jI101 σ27 := jI101_fr ((f30 4 (by decide)).trans (congrFun (f15 55 (by decide)) 4)) ((f30 5 (by decide)).trans (congrFun (f15 55 (by decide)) 5)) ((f29 56 (by decide)).trans (f15 56 (by decide))) ((f29 57 (by decide)).trans (f15 57 (by decide))) ((f29 58 (by decide)).trans (f15 58 (by decide))) ((f29 59 (by decide)).trans (f15 59 (by decide))) hI101
    have I82 : jI102 σ27 := jI102_fr (f30 6 (by decide)) (f29 60 (by decide)) (f29 61 (by decide)) I20
    have I83 : jI103 σ27 := jI103_fr ((f30 9 (by decide)).trans (congrFun (f15 55 (by decide)) 9)) hI103
    have I84 : jI104 σ27 := jI104_fr (f30 10 (by decide)) (f30 12 (by decide)) (f30 13 (by decide)) (f29 62 (by decide)) (f29 67 (by decide)) I21
    have I85 : jI105 σ27 := jI105_fr ((f30 15 (by decide)).trans (congrFun (f15 55 (by decide)) 15)) ((f29 65 (by decide)).trans (f15 65 (by decide))) hI105
    have I86 : jI106 σ27 := jI106_fr ((f30 32 (by decide)).trans (congrFun (f15 55 (by decide)) 32)) ((f29 70 (by decide)).trans (f15 70 (by decide))) ((f29 71 (by decide)).trans (f15 71 (by decide))) ((f29 72 (by decide)).trans (f15 72 (by decide))) hI106
    have I87 : jI109 σ27 := jI109_fr ((f30 50 (by decide)).trans (congrFun (f15 55 (by decide)) 50)) hI109
    have I88 : jI110 σ27 := jI110_fr ((f29 86 (by decide)).trans (f15 86 (by decide))) ((f29 87 (by decide)).trans (f15 87 (by decide))) hI110
    have I89 : jI111 σ27 := jI111_fr ((f29 79 (by decide)).trans (f15 79 (by decide))) hI111
    have I90 : jI119 σ27 := w32
    have p91 : jKept σ27 := jKept.fr ((f29 75 (by decide)).trans (f15 75 (by decide))) ((f29 76 (by decide)).trans (f15 76 (by decide))) ((f29 77 (by decide)).trans (f15 77 (by decide))) hs_jKept
    have z92 : (σ27 38 0).toInt = (σ 38 0).toInt := (congrArg Int32.toInt (show σ27 38 0 = (σ 38 0) from ((congrFun (f29 38 (by decide)) 0).trans (congrFun (f15 38 (by decide)) 0))))
    have z93 : (σ27 55 32).toInt = (σ 55 32).toInt := (congrArg Int32.toInt (show σ27 55 32 = (σ 55 32) from ((f30 32 (by decide)).trans (congrFun (f15 55 (by decide)) 32))))
    exact ih x69 σ27 τ _ _ ls (by have h9 := tx69; omega) ⟨I70, I71, I72, I73, I74, I75, I76, I77, I78, I79, I80, I81, I82, I83, I84, I85, I86, I31, I87, I88, I89, I90, p91, p33, (by omega), (show jShP (σ27 51) (σ27 52) (σ27 53) (σ27 86) (σ27 87) (σ27 55 32).toInt by rw [show σ27 51 = σ 51 from ((f29 51 (by decide)).trans (f15 51 (by decide))), show σ27 52 = σ 52 from ((f29 52 (by decide)).trans (f15 52 (by decide))), show σ27 53 = σ 53 from ((f29 53 (by decide)).trans (f15 53 (by decide))), show σ27 86 = σ 86 from ((f29 86 (by decide)).trans (f15 86 (by decide))), show σ27 87 = σ 87 from ((f29 87 (by decide)).trans (f15 87 (by decide)))]; exact (hr0.up (by omega) (by omega))), (show jKd (σ27 39) (σ27 70) (σ27 55 32).toInt by rw [show σ27 39 = σ 39 from ((f29 39 (by decide)).trans (f15 39 (by decide))), show σ27 70 = σ 70 from ((f29 70 (by decide)).trans (f15 70 (by decide))), show (σ27 55 32).toInt = (σ 55 32).toInt from by omega]; exact hr1)⟩ hP hS (lv_sub hl [0, 1, 2, 3] rfl)
set_option maxHeartbeats 4000000 in
set_option maxRecDepth 100000 in
theorem law_case_20 {p : Program} {e : Env} {s : State} {m : MethodId} {below : List Frame} {meth : Method} {c : Code} (l : Launch) {b L : Nat} {xs : Nat → Int32} {D : va_G} {cI cL : ClassId} {ad zz : Nat → Nat} (C0 : lw_At p s m meth c b L xs) (hJ : jD ad) (hA : ∀ q, jA ad q → s.heap.size ≤ q) (hK : jK D cI cL s) (hZ : jZ zz (fun q : Nat => s.heap.size ≤ q) s s.heap) {x0 : Int32} (hx0 : 0 ≤ x0.toInt) (hxL : x0.toInt + 6 ≤ (L : Int)) (hL : L ≤ 384) {σ : Nat → Nat → Int32} {τ : Nat → Nat → Int64} {H : Heap} {locs : List Loc} (hS : va_S (fun q : Nat => s.heap.size ≤ q) s.heap H locs) {ls : Array Slot} (hAll : jAll σ τ) (hP : jH D cI cL ad σ τ H) (hl : lv_has ls 4 [(3, .int x0), (2, .ref (ad 55)), (1, .ref (ad 0)), (0, .ref b)]) (ih : ∀ (x1 : Int32) (σ : Nat → Nat → Int32) (τ : Nat → Nat → Int64) (H : Heap) (locs : List Loc) (ls : Array Slot), x1.toInt = x0.toInt + 6 → jAll σ τ → jH D cI cL ad σ τ H → va_S (fun q : Nat => s.heap.size ≤ q) s.heap H locs → lv_has ls 4 [(3, .int x1), (2, .ref (ad 55)), (1, .ref (ad 0)), (0, .ref b)] → W p l e room_1 s m #[Value.ref b] below meth c H locs 90 348600 (lw_Z below #[Value.ref b] s) (F0 m 18 ls [])) : W p l e room_1 s m #[Value.ref b] below meth c H locs 90 348600 (lw_Z below #[Value.ref b] s) (F0 m 806 ls []) := by
  obtain ⟨hx, hb, hr, hml, hown, hts0, hX, hbl, hlocks, hgv⟩ := C0
  have hts : ∀ w ∈ wsL_law, w.before #[Value.ref b] s = true := fun w h => hts0 w (wsL_law_in w h)
  have hbA : ¬ (fun q : Nat => s.heap.size ≤ q) b := Nat.not_le.mpr hbl
  have hown : s.vm.findClass RL = some m.cls := hown
  obtain ⟨hI2, hI9, hI12, hI16, hI18, hI22, hI31, hI38, hI43, hI47, hI50, hI101, hI102, hI103, hI104, hI105, hI106, hI107, hI109, hI110, hI111, hI119, hs_jKept, hs_jBook, ht0, hr0, hr1⟩ := hAll
  have hL9 : (L : Int) ≤ 384 := by omega
  obtain ⟨i1, i2, w3⟩ : (0 ≤ (σ 38 0).toInt ∧ (σ 38 0).toInt ≤ 20) ∧ (0 ≤ (σ 38 1).toInt ∧ (σ 38 1).toInt ≤ 1000) ∧ (∀ k : Nat, k < 20 → 0 ≤ (σ 39 k).toInt ∧ (σ 39 k).toInt ≤ 6) := id hI38
  obtain ⟨i4, w5, w6, w7⟩ : (0 ≤ (σ 55 32).toInt ∧ (σ 55 32).toInt ≤ 20) ∧ (∀ k : Nat, k < 20 → 0 ≤ (σ 70 k).toInt ∧ (σ 70 k).toInt ≤ 6) ∧ (∀ k : Nat, k < 20 → 0 ≤ (σ 71 k).toInt ∧ (σ 71 k).toInt ≤ 8) ∧ (∀ k : Nat, k < 160 → 0 ≤ (σ 72 k).toInt ∧ (σ 72 k).toInt ≤ 3) := id hI106
  refine lv_aload_n hx hb dL_law_806 rfl (lv_at hl 2 rfl) ?_
  refine lv_aload_n hx hb dL_law_807 rfl (lv_at hl 3 rfl) ?_
  refine lv_iload_n hx hb dL_law_808 rfl (lv_at hl 0 rfl) ?_
  refine lv_iconst (v := 1) hx hb dL_law_809 (by decide) ?_
  have g8 := jrg (rfl : x0.toInt = x0.toInt)
  refine lv_iadd hx hb dL_law_810 ?_
  refine lv_topi (fun x9 ex9 => ?_)
  have tx9 : x9.toInt = x0.toInt + 1 := (jadd ex9 rfl jz_1 (by omega) (by omega)).trans (by omega)
  refine va_sld hx hb hX hbl hbA hS (jin tx9 (by omega) (by omega)) dL_law_811 ?_
  have g10 := jrg (rfl : (xs x9.toNatClampNeg).toInt = (xs x9.toNatClampNeg).toInt)
  refine lv_aload_n hx hb dL_law_812 rfl (lv_at hl 3 rfl) ?_
  refine lv_iload_n hx hb dL_law_813 rfl (lv_at hl 0 rfl) ?_
  refine lv_iconst (v := 2) hx hb dL_law_814 (by decide) ?_
  refine lv_iadd hx hb dL_law_815 ?_
  refine lv_topi (fun x11 ex11 => ?_)
  have tx11 : x11.toInt = x0.toInt + 2 := (jadd ex11 rfl jz_2 (by omega) (by omega)).trans (by omega)
  refine va_sld hx hb hX hbl hbA hS (jin tx11 (by omega) (by omega)) dL_law_816 ?_
  have g12 := jrg (rfl : (xs x11.toNatClampNeg).toInt = (xs x11.toNatClampNeg).toInt)
  refine jcallV (As := [.int (xs x9.toNatClampNeg), .int (xs x11.toNatClampNeg)]) (rest := []) ⟨hx, hb, hml, hown, hts⟩ hK hP hA hS hZ (c_X11_books l D cI cL ad zz hJ σ τ (xs x9.toNatClampNeg) ((xs x9.toNatClampNeg).toInt) rfl (xs x11.toNatClampNeg) ((xs x11.toNatClampNeg).toInt) rfl hI2 hI16 hI47 hI50) cw_RL_97 (jc_0 cI cL ad σ τ) rfl ⟨Nat.le_of_ble_eq_true rfl, Nat.le_of_ble_eq_true rfl⟩ rfl rfl rfl hl.1 rfl (Nat.le_of_ble_eq_true rfl) dL_law_817 ⟨Nat.le_of_ble_eq_true rfl, Nat.le_of_ble_eq_true rfl⟩ (fun r14 σ13 τ13 H locs h13 hP hS => ?_)
  obtain ⟨rfl, f15, f16, I17, w18, h13⟩ := h13
  refine lv_pop hx hb dL_law_820 rfl ?_
  refine lv_aload_n hx hb dL_law_821 rfl (lv_at hl 1 rfl) ?_
  refine lv_aload_n hx hb dL_law_822 rfl (lv_at hl 3 rfl) ?_
  refine lv_iload_n hx hb dL_law_823 rfl (lv_at hl 0 rfl) ?_
  refine lv_iconst (v := 1) hx hb dL_law_824 (by decide) ?_
  refine lv_iadd hx hb dL_law_825 ?_
  refine jtopr ex9.symm ?_
  refine va_sld hx hb hX hbl hbA hS (jin tx9 (by omega) (by omega)) dL_law_826 ?_
  refine lv_aload_n hx hb dL_law_827 rfl (lv_at hl 3 rfl) ?_
  refine lv_iload_n hx hb dL_law_828 rfl (lv_at hl 0 rfl) ?_
  refine lv_iconst (v := 2) hx hb dL_law_829 (by decide) ?_
  refine lv_iadd hx hb dL_law_830 ?_
  refine jtopr ex11.symm ?_
  refine va_sld hx hb hX hbl hbA hS (jin tx11 (by omega) (by omega)) dL_law_831 ?_
  have I20 : jI102 σ13 := jI102_fr (congrFun (f15 55 (by decide)) 6) (f15 60 (by decide)) (f15 61 (by decide)) hI102
  have I21 : jI104 σ13 := jI104_fr (congrFun (f15 55 (by decide)) 10) (congrFun (f15 55 (by decide)) 12) (congrFun (f15 55 (by decide)) 13) (f15 62 (by decide)) (f15 67 (by decide)) hI104
  have I22 : jI107 σ13 := jI107_fr (congrFun (f15 55 (by decide)) 12) (congrFun (f15 55 (by decide)) 47) (f15 80 (by decide)) hI107
  have I23 : jI110 σ13 := jI110_fr (f15 86 (by decide)) (f15 87 (by decide)) hI110
  have I24 : jI119 σ13 := jI119_fr (f15 68 (by decide)) hI119
  have p25 : jBook σ13 := jBook.fr (congrFun (f15 55 (by decide)) 47) (congrFun (f15 55 (by decide)) 10) (f15 81 (by decide)) hs_jBook
  refine jcallV (As := [.int (xs x9.toNatClampNeg), .int (xs x11.toNatClampNeg)]) (rest := []) ⟨hx, hb, hml, hown, hts⟩ hK hP hA hS hZ (c_X12_books l D cI cL ad zz hJ σ13 τ (xs x9.toNatClampNeg) ((xs x9.toNatClampNeg).toInt) rfl (xs x11.toNatClampNeg) ((xs x11.toNatClampNeg).toInt) rfl I20 I21 I22 I23 I24 p25) cw_RL_100 (jc_55 cI cL ad σ13 τ) rfl ⟨Nat.le_of_ble_eq_true rfl, Nat.le_of_ble_eq_true rfl⟩ rfl rfl rfl hl.1 rfl (Nat.le_of_ble_eq_true rfl) dL_law_832 ⟨Nat.le_of_ble_eq_true rfl, Nat.le_of_ble_eq_true rfl⟩ (fun r27 σ26 τ26 H locs h26 hP hS => ?_)
  obtain ⟨rfl, f28, f29, I30, I31, p32, w33, h26⟩ := h26
  refine lv_pop hx hb dL_law_835 rfl ?_
  refine lv_goto (tgt := 1357) hx hb dL_law_836 (by decide) ?_
  obtain ⟨x35, ex35⟩ : ∃ y : Int32, y = x0 + 6 := ⟨_, rfl⟩
  have tx35 : x35.toInt = x0.toInt + 6 := (jadd ex35 rfl jz_6 (by omega) (by omega)).trans (by omega)
  refine lv_iinc (v := x35) (lv' := [(3, .int x35), (2, .ref (ad 55)), (1, .ref (ad 0)), (0, .ref b)]) hx hb dL_law_1357 hl (k := 0) rfl (by rw [ex35]; rfl) (by decide) rfl (fun ls hl => ?_)
  refine lv_goto (tgt := 18) hx hb dL_law_1360 (by decide) ?_
  have I36 : jI2 σ26 := jI2_fr ((congrFun (f28 2 (by decide)) 0).trans (congrFun (f15 2 (by decide)) 0)) ((congrFun (f28 2 (by decide)) 1).trans (congrFun (f15 2 (by decide)) 1)) ((congrFun (f28 2 (by decide)) 2).trans (congrFun (f15 2 (by decide)) 2)) ((congrFun (f28 2 (by decide)) 3).trans (congrFun (f15 2 (by decide)) 3)) ((f28 6 (by decide)).trans (f15 6 (by decide))) hI2
  have I37 : jI9 σ26 := jI9_fr ((congrFun (f28 9 (by decide)) 0).trans (congrFun (f15 9 (by decide)) 0)) ((f28 10 (by decide)).trans (f15 10 (by decide))) ((f28 11 (by decide)).trans (f15 11 (by decide))) hI9
  have I38 : jI12 σ26 := jI12_fr ((congrFun (f28 12 (by decide)) 0).trans (congrFun (f15 12 (by decide)) 0)) ((f28 13 (by decide)).trans (f15 13 (by decide))) hI12
  have I39 : jI16 σ26 := jI16_fr ((congrFun (f28 16 (by decide)) 0).trans (congrFun (f15 16 (by decide)) 0)) ((congrFun (f28 16 (by decide)) 1).trans (congrFun (f15 16 (by decide)) 1)) ((congrFun (f28 16 (by decide)) 2).trans (congrFun (f15 16 (by decide)) 2)) ((f28 17 (by decide)).trans (f15 17 (by decide))) hI16
  have I40 : jI18 σ26 := jI18_fr ((congrFun (f28 18 (by decide)) 0).trans (congrFun (f15 18 (by decide)) 0)) ((f28 19 (by decide)).trans (f15 19 (by decide))) hI18
  have I41 : jI22 σ26 := jI22_fr ((congrFun (f28 22 (by decide)) 0).trans (congrFun (f15 22 (by decide)) 0)) ((f28 23 (by decide)).trans (f15 23 (by decide))) hI22
  have I42 : jI31 σ26 := jI31_fr ((congrFun (f28 31 (by decide)) 8).trans (congrFun (f15 31 (by decide)) 8)) ((f28 33 (by decide)).trans (f15 33 (by decide))) ((f28 36 (by decide)).trans (f15 36 (by decide))) hI31
  have I43 : jI38 σ26 := jI38_fr ((congrFun (f28 38 (by decide)) 0).trans (congrFun (f15 38 (by decide)) 0)) ((congrFun (f28 38 (by decide)) 1).trans (congrFun (f15 38 (by decide)) 1)) ((f28 39 (by decide)).trans (f15 39 (by decide))) hI38
  have I44 : jI43 σ26 := jI43_fr ((congrFun (f28 43 (by decide)) 8).trans (congrFun (f15 43 (by decide)) 8)) hI43
  have I45 : jI47 σ26 := jI47_fr (congrFun (f28 47 (by decide)) 0) (f28 48 (by decide)) (f28 49 (by decide)) I17
  have I46 : jI50 σ26 := jI50_fr ((f28 52 (by decide)).trans (f15 52 (by decide))) hI50
  have I47 : jI101 σ26 := jI101_fr ((f29 4 (by decide)).trans (congrFun (f15 55 (by decide)) 4)) ((f29 5 (by decide)).trans (congrFun (f15 55 (by decide)) 5)) ((f28 56 (by decide)).trans (f15 56 (by decide))) ((f28 57 (by decide)).trans (f15 57 (by decide))) ((f28 58 (by decide)).trans (f15 58 (by decide))) ((f28 59 (by decide)).trans (f15 59 (by decide))) hI101
  have I48 : jI102 σ26 := jI102_fr (f29 6 (by decide)) (f28 60 (by decide)) (f28 61 (by decide)) I20
  have I49 : jI103 σ26 := jI103_fr ((f29 9 (by decide)).trans (congrFun (f15 55 (by decide)) 9)) hI103
  have I50 : jI104 σ26 := jI104_fr (f29 10 (by decide)) (f29 12 (by decide)) (f29 13 (by decide)) (f28 62 (by decide)) (f28 67 (by decide)) I21
  have I51 : jI105 σ26 := jI105_fr ((f29 15 (by decide)).trans (congrFun (f15 55 (by decide)) 15)) ((f28 65 (by decide)).trans (f15 65 (by decide))) hI105
  have I52 : jI106 σ26 := jI106_fr ((f29 32 (by decide)).trans (congrFun (f15 55 (by decide)) 32)) ((f28 70 (by decide)).trans (f15 70 (by decide))) ((f28 71 (by decide)).trans (f15 71 (by decide))) ((f28 72 (by decide)).trans (f15 72 (by decide))) hI106
  have I53 : jI109 σ26 := jI109_fr ((f29 50 (by decide)).trans (congrFun (f15 55 (by decide)) 50)) hI109
  have I54 : jI110 σ26 := jI110_fr (f28 86 (by decide)) (f28 87 (by decide)) I23
  have I55 : jI111 σ26 := jI111_fr ((f28 79 (by decide)).trans (f15 79 (by decide))) hI111
  have p56 : jKept σ26 := jKept.fr ((f28 75 (by decide)).trans (f15 75 (by decide))) ((f28 76 (by decide)).trans (f15 76 (by decide))) ((f28 77 (by decide)).trans (f15 77 (by decide))) hs_jKept
  have z57 : (σ26 38 0).toInt = (σ 38 0).toInt := (congrArg Int32.toInt (show σ26 38 0 = (σ 38 0) from ((congrFun (f28 38 (by decide)) 0).trans (congrFun (f15 38 (by decide)) 0))))
  have z58 : (σ26 55 32).toInt = (σ 55 32).toInt := (congrArg Int32.toInt (show σ26 55 32 = (σ 55 32) from ((f29 32 (by decide)).trans (congrFun (f15 55 (by decide)) 32))))
  exact ih x35 σ26 τ _ _ ls (by have h9 := tx35; omega) ⟨I36, I37, I38, I39, I40, I41, I42, I43, I44, I45, I46, I47, I48, I49, I50, I51, I52, I30, I53, I54, I55, I31, p56, p32, (by omega), (show jShP (σ26 51) (σ26 52) (σ26 53) (σ26 86) (σ26 87) (σ26 55 32).toInt by rw [show σ26 51 = σ 51 from ((f28 51 (by decide)).trans (f15 51 (by decide))), show σ26 52 = σ 52 from ((f28 52 (by decide)).trans (f15 52 (by decide))), show σ26 53 = σ 53 from ((f28 53 (by decide)).trans (f15 53 (by decide))), show σ26 86 = σ 86 from ((f28 86 (by decide)).trans (f15 86 (by decide))), show σ26 87 = σ 87 from ((f28 87 (by decide)).trans (f15 87 (by decide)))]; exact (hr0.up (by omega) (by omega))), (show jKd (σ26 39) (σ26 70) (σ26 55 32).toInt by rw [show σ26 39 = σ 39 from ((f28 39 (by decide)).trans (f15 39 (by decide))), show σ26 70 = σ 70 from ((f28 70 (by decide)).trans (f15 70 (by decide))), show (σ26 55 32).toInt = (σ 55 32).toInt from by omega]; exact hr1)⟩ hP hS (lv_sub hl [0, 1, 2, 3] rfl)
set_option maxHeartbeats 4000000 in
set_option maxRecDepth 100000 in
theorem law_case_21 {p : Program} {e : Env} {s : State} {m : MethodId} {below : List Frame} {meth : Method} {c : Code} (l : Launch) {b L : Nat} {xs : Nat → Int32} {D : va_G} {cI cL : ClassId} {ad zz : Nat → Nat} (C0 : lw_At p s m meth c b L xs) (hJ : jD ad) (hA : ∀ q, jA ad q → s.heap.size ≤ q) (hK : jK D cI cL s) (hZ : jZ zz (fun q : Nat => s.heap.size ≤ q) s s.heap) {x0 : Int32} (hx0 : 0 ≤ x0.toInt) (hxL : x0.toInt + 6 ≤ (L : Int)) (hL : L ≤ 384) {σ : Nat → Nat → Int32} {τ : Nat → Nat → Int64} {H : Heap} {locs : List Loc} (hS : va_S (fun q : Nat => s.heap.size ≤ q) s.heap H locs) {ls : Array Slot} (hAll : jAll σ τ) (hP : jH D cI cL ad σ τ H) (hl : lv_has ls 4 [(3, .int x0), (2, .ref (ad 55)), (1, .ref (ad 0)), (0, .ref b)]) (ih : ∀ (x1 : Int32) (σ : Nat → Nat → Int32) (τ : Nat → Nat → Int64) (H : Heap) (locs : List Loc) (ls : Array Slot), x1.toInt = x0.toInt + 6 → jAll σ τ → jH D cI cL ad σ τ H → va_S (fun q : Nat => s.heap.size ≤ q) s.heap H locs → lv_has ls 4 [(3, .int x1), (2, .ref (ad 55)), (1, .ref (ad 0)), (0, .ref b)] → W p l e room_1 s m #[Value.ref b] below meth c H locs 90 348600 (lw_Z below #[Value.ref b] s) (F0 m 18 ls [])) : W p l e room_1 s m #[Value.ref b] below meth c H locs 90 348600 (lw_Z below #[Value.ref b] s) (F0 m 839 ls []) := by
  obtain ⟨hx, hb, hr, hml, hown, hts0, hX, hbl, hlocks, hgv⟩ := C0
  have hts : ∀ w ∈ wsL_law, w.before #[Value.ref b] s = true := fun w h => hts0 w (wsL_law_in w h)
  have hbA : ¬ (fun q : Nat => s.heap.size ≤ q) b := Nat.not_le.mpr hbl
  have hown : s.vm.findClass RL = some m.cls := hown
  obtain ⟨hI2, hI9, hI12, hI16, hI18, hI22, hI31, hI38, hI43, hI47, hI50, hI101, hI102, hI103, hI104, hI105, hI106, hI107, hI109, hI110, hI111, hI119, hs_jKept, hs_jBook, ht0, hr0, hr1⟩ := hAll
  have hL9 : (L : Int) ≤ 384 := by omega
  obtain ⟨i1, i2, w3⟩ : (0 ≤ (σ 38 0).toInt ∧ (σ 38 0).toInt ≤ 20) ∧ (0 ≤ (σ 38 1).toInt ∧ (σ 38 1).toInt ≤ 1000) ∧ (∀ k : Nat, k < 20 → 0 ≤ (σ 39 k).toInt ∧ (σ 39 k).toInt ≤ 6) := id hI38
  obtain ⟨i4, w5, w6, w7⟩ : (0 ≤ (σ 55 32).toInt ∧ (σ 55 32).toInt ≤ 20) ∧ (∀ k : Nat, k < 20 → 0 ≤ (σ 70 k).toInt ∧ (σ 70 k).toInt ≤ 6) ∧ (∀ k : Nat, k < 20 → 0 ≤ (σ 71 k).toInt ∧ (σ 71 k).toInt ≤ 8) ∧ (∀ k : Nat, k < 160 → 0 ≤ (σ 72 k).toInt ∧ (σ 72 k).toInt ≤ 3) := id hI106
  refine lv_aload_n hx hb dL_law_839 rfl (lv_at hl 2 rfl) ?_
  refine jcallV (As := []) (rest := []) ⟨hx, hb, hml, hown, hts⟩ hK hP hA hS hZ (c_X11_close l D cI cL ad zz hJ σ τ hI47) cw_RL_101 (jc_0 cI cL ad σ τ) rfl ⟨Nat.le_of_ble_eq_true rfl, Nat.le_of_ble_eq_true rfl⟩ rfl rfl rfl hl.1 rfl (Nat.le_of_ble_eq_true rfl) dL_law_840 ⟨Nat.le_of_ble_eq_true rfl, Nat.le_of_ble_eq_true rfl⟩ (fun r9 σ8 τ8 H locs h8 hP hS => ?_)
  obtain ⟨rfl, f10, f11, I12, h8⟩ := h8
  have h14 := h8
  obtain ⟨q17, k15, k16⟩ := h14
  refine lv_pop hx hb dL_law_843 rfl ?_
  refine lv_aload_n hx hb dL_law_844 rfl (lv_at hl 1 rfl) ?_
  have I18 : jI104 σ8 := jI104_fr (congrFun (f10 55 (by decide)) 10) (congrFun (f10 55 (by decide)) 12) (congrFun (f10 55 (by decide)) 13) (f10 62 (by decide)) (f10 67 (by decide)) hI104
  have I19 : jI107 σ8 := jI107_fr (congrFun (f10 55 (by decide)) 12) (congrFun (f10 55 (by decide)) 47) (f10 80 (by decide)) hI107
  have p20 : jBook σ8 := jBook.fr (congrFun (f10 55 (by decide)) 47) (congrFun (f10 55 (by decide)) 10) (f10 81 (by decide)) hs_jBook
  have z21 : (σ8 55 47).toInt = (σ 55 47).toInt := (congrArg Int32.toInt (show σ8 55 47 = (σ 55 47) from (congrFun (f10 55 (by decide)) 47)))
  refine jcallV (As := []) (rest := []) ⟨hx, hb, hml, hown, hts⟩ hK hP hA hS hZ (c_X12_close l D cI cL ad zz hJ σ8 τ I18 I19 p20) cw_RL_104 (jc_55 cI cL ad σ8 τ) rfl ⟨Nat.le_of_ble_eq_true rfl, Nat.le_of_ble_eq_true rfl⟩ rfl rfl rfl hl.1 rfl (Nat.le_of_ble_eq_true rfl) dL_law_845 ⟨Nat.le_of_ble_eq_true rfl, Nat.le_of_ble_eq_true rfl⟩ (fun r23 σ22 τ22 H locs h22 hP hS => ?_)
  obtain ⟨rfl, f24, f25, I26, p27, h22⟩ := h22
  have h29 := h22
  obtain ⟨q32, k30, k31⟩ := h29
  refine lv_pop hx hb dL_law_848 rfl ?_
  refine lv_goto (tgt := 1357) hx hb dL_law_849 (by decide) ?_
  obtain ⟨x33, ex33⟩ : ∃ y : Int32, y = x0 + 6 := ⟨_, rfl⟩
  have tx33 : x33.toInt = x0.toInt + 6 := (jadd ex33 rfl jz_6 (by omega) (by omega)).trans (by omega)
  refine lv_iinc (v := x33) (lv' := [(3, .int x33), (2, .ref (ad 55)), (1, .ref (ad 0)), (0, .ref b)]) hx hb dL_law_1357 hl (k := 0) rfl (by rw [ex33]; rfl) (by decide) rfl (fun ls hl => ?_)
  refine lv_goto (tgt := 18) hx hb dL_law_1360 (by decide) ?_
  have I34 : jI2 σ22 := jI2_fr ((congrFun (f24 2 (by decide)) 0).trans (congrFun (f10 2 (by decide)) 0)) ((congrFun (f24 2 (by decide)) 1).trans (congrFun (f10 2 (by decide)) 1)) ((congrFun (f24 2 (by decide)) 2).trans (congrFun (f10 2 (by decide)) 2)) ((congrFun (f24 2 (by decide)) 3).trans (congrFun (f10 2 (by decide)) 3)) ((f24 6 (by decide)).trans (f10 6 (by decide))) hI2
  have I35 : jI9 σ22 := jI9_fr ((congrFun (f24 9 (by decide)) 0).trans (congrFun (f10 9 (by decide)) 0)) ((f24 10 (by decide)).trans (f10 10 (by decide))) ((f24 11 (by decide)).trans (f10 11 (by decide))) hI9
  have I36 : jI12 σ22 := jI12_fr ((congrFun (f24 12 (by decide)) 0).trans (congrFun (f10 12 (by decide)) 0)) ((f24 13 (by decide)).trans (f10 13 (by decide))) hI12
  have I37 : jI16 σ22 := jI16_fr ((congrFun (f24 16 (by decide)) 0).trans (congrFun (f10 16 (by decide)) 0)) ((congrFun (f24 16 (by decide)) 1).trans (congrFun (f10 16 (by decide)) 1)) ((congrFun (f24 16 (by decide)) 2).trans (congrFun (f10 16 (by decide)) 2)) ((f24 17 (by decide)).trans (f10 17 (by decide))) hI16
  have I38 : jI18 σ22 := jI18_fr ((congrFun (f24 18 (by decide)) 0).trans (congrFun (f10 18 (by decide)) 0)) ((f24 19 (by decide)).trans (f10 19 (by decide))) hI18
  have I39 : jI22 σ22 := jI22_fr ((congrFun (f24 22 (by decide)) 0).trans (congrFun (f10 22 (by decide)) 0)) ((f24 23 (by decide)).trans (f10 23 (by decide))) hI22
  have I40 : jI31 σ22 := jI31_fr ((congrFun (f24 31 (by decide)) 8).trans (congrFun (f10 31 (by decide)) 8)) ((f24 33 (by decide)).trans (f10 33 (by decide))) ((f24 36 (by decide)).trans (f10 36 (by decide))) hI31
  have I41 : jI38 σ22 := jI38_fr ((congrFun (f24 38 (by decide)) 0).trans (congrFun (f10 38 (by decide)) 0)) ((congrFun (f24 38 (by decide)) 1).trans (congrFun (f10 38 (by decide)) 1)) ((f24 39 (by decide)).trans (f10 39 (by decide))) hI38
  have I42 : jI43 σ22 := jI43_fr ((congrFun (f24 43 (by decide)) 8).trans (congrFun (f10 43 (by decide)) 8)) hI43
  have I43 : jI47 σ22 := jI47_fr (congrFun (f24 47 (by decide)) 0) (f24 48 (by decide)) (f24 49 (by decide)) I12
  have I44 : jI50 σ22 := jI50_fr ((f24 52 (by decide)).trans (f10 52 (by decide))) hI50
  have I45 : jI101 σ22 := jI101_fr ((f25 4 (by decide)).trans (congrFun (f10 55 (by decide)) 4)) ((f25 5 (by decide)).trans (congrFun (f10 55 (by decide)) 5)) ((f24 56 (by decide)).trans (f10 56 (by decide))) ((f24 57 (by decide)).trans (f10 57 (by decide))) ((f24 58 (by decide)).trans (f10 58 (by decide))) ((f24 59 (by decide)).trans (f10 59 (by decide))) hI101
  have I46 : jI102 σ22 := jI102_fr ((f25 6 (by decide)).trans (congrFun (f10 55 (by decide)) 6)) ((f24 60 (by decide)).trans (f10 60 (by decide))) ((f24 61 (by decide)).trans (f10 61 (by decide))) hI102
  have I47 : jI103 σ22 := jI103_fr ((f25 9 (by decide)).trans (congrFun (f10 55 (by decide)) 9)) hI103
  have I48 : jI104 σ22 := jI104_fr (f25 10 (by decide)) (f25 12 (by decide)) (f25 13 (by decide)) (f24 62 (by decide)) (f24 67 (by decide)) I18
  have I49 : jI105 σ22 := jI105_fr ((f25 15 (by decide)).trans (congrFun (f10 55 (by decide)) 15)) ((f24 65 (by decide)).trans (f10 65 (by decide))) hI105
  have I50 : jI106 σ22 := jI106_fr ((f25 32 (by decide)).trans (congrFun (f10 55 (by decide)) 32)) ((f24 70 (by decide)).trans (f10 70 (by decide))) ((f24 71 (by decide)).trans (f10 71 (by decide))) ((f24 72 (by decide)).trans (f10 72 (by decide))) hI106
  have I51 : jI109 σ22 := jI109_fr ((f25 50 (by decide)).trans (congrFun (f10 55 (by decide)) 50)) hI109
  have I52 : jI110 σ22 := jI110_fr ((f24 86 (by decide)).trans (f10 86 (by decide))) ((f24 87 (by decide)).trans (f10 87 (by decide))) hI110
  have I53 : jI111 σ22 := jI111_fr ((f24 79 (by decide)).trans (f10 79 (by decide))) hI111
  have I54 : jI119 σ22 := jI119_fr ((f24 68 (by decide)).trans (f10 68 (by decide))) hI119
  have p55 : jKept σ22 := jKept.fr ((f24 75 (by decide)).trans (f10 75 (by decide))) ((f24 76 (by decide)).trans (f10 76 (by decide))) ((f24 77 (by decide)).trans (f10 77 (by decide))) hs_jKept
  have z56 : (σ22 38 0).toInt = (σ 38 0).toInt := (congrArg Int32.toInt (show σ22 38 0 = (σ 38 0) from ((congrFun (f24 38 (by decide)) 0).trans (congrFun (f10 38 (by decide)) 0))))
  have z57 : (σ22 55 32).toInt = (σ 55 32).toInt := (congrArg Int32.toInt (show σ22 55 32 = (σ 55 32) from ((f25 32 (by decide)).trans (congrFun (f10 55 (by decide)) 32))))
  exact ih x33 σ22 τ _ _ ls (by have h9 := tx33; omega) ⟨I34, I35, I36, I37, I38, I39, I40, I41, I42, I43, I44, I45, I46, I47, I48, I49, I50, I26, I51, I52, I53, I54, p55, p27, (by omega), (show jShP (σ22 51) (σ22 52) (σ22 53) (σ22 86) (σ22 87) (σ22 55 32).toInt by rw [show σ22 51 = σ 51 from ((f24 51 (by decide)).trans (f10 51 (by decide))), show σ22 52 = σ 52 from ((f24 52 (by decide)).trans (f10 52 (by decide))), show σ22 53 = σ 53 from ((f24 53 (by decide)).trans (f10 53 (by decide))), show σ22 86 = σ 86 from ((f24 86 (by decide)).trans (f10 86 (by decide))), show σ22 87 = σ 87 from ((f24 87 (by decide)).trans (f10 87 (by decide)))]; exact (hr0.up (by omega) (by omega))), (show jKd (σ22 39) (σ22 70) (σ22 55 32).toInt by rw [show σ22 39 = σ 39 from ((f24 39 (by decide)).trans (f10 39 (by decide))), show σ22 70 = σ 70 from ((f24 70 (by decide)).trans (f10 70 (by decide))), show (σ22 55 32).toInt = (σ 55 32).toInt from by omega]; exact hr1)⟩ hP hS (lv_sub hl [0, 1, 2, 3] rfl)
set_option maxHeartbeats 4000000 in
set_option maxRecDepth 100000 in
theorem law_case_22 {p : Program} {e : Env} {s : State} {m : MethodId} {below : List Frame} {meth : Method} {c : Code} (l : Launch) {b L : Nat} {xs : Nat → Int32} {D : va_G} {cI cL : ClassId} {ad zz : Nat → Nat} (C0 : lw_At p s m meth c b L xs) (hJ : jD ad) (hA : ∀ q, jA ad q → s.heap.size ≤ q) (hK : jK D cI cL s) (hZ : jZ zz (fun q : Nat => s.heap.size ≤ q) s s.heap) {x0 : Int32} (hx0 : 0 ≤ x0.toInt) (hxL : x0.toInt + 6 ≤ (L : Int)) (hL : L ≤ 384) {σ : Nat → Nat → Int32} {τ : Nat → Nat → Int64} {H : Heap} {locs : List Loc} (hS : va_S (fun q : Nat => s.heap.size ≤ q) s.heap H locs) {ls : Array Slot} (hAll : jAll σ τ) (hP : jH D cI cL ad σ τ H) (hl : lv_has ls 4 [(3, .int x0), (2, .ref (ad 55)), (1, .ref (ad 0)), (0, .ref b)]) (ih : ∀ (x1 : Int32) (σ : Nat → Nat → Int32) (τ : Nat → Nat → Int64) (H : Heap) (locs : List Loc) (ls : Array Slot), x1.toInt = x0.toInt + 6 → jAll σ τ → jH D cI cL ad σ τ H → va_S (fun q : Nat => s.heap.size ≤ q) s.heap H locs → lv_has ls 4 [(3, .int x1), (2, .ref (ad 55)), (1, .ref (ad 0)), (0, .ref b)] → W p l e room_1 s m #[Value.ref b] below meth c H locs 90 348600 (lw_Z below #[Value.ref b] s) (F0 m 18 ls [])) : W p l e room_1 s m #[Value.ref b] below meth c H locs 90 348600 (lw_Z below #[Value.ref b] s) (F0 m 852 ls []) := by
  obtain ⟨hx, hb, hr, hml, hown, hts0, hX, hbl, hlocks, hgv⟩ := C0
  have hts : ∀ w ∈ wsL_law, w.before #[Value.ref b] s = true := fun w h => hts0 w (wsL_law_in w h)
  have hbA : ¬ (fun q : Nat => s.heap.size ≤ q) b := Nat.not_le.mpr hbl
  have hown : s.vm.findClass RL = some m.cls := hown
  obtain ⟨hI2, hI9, hI12, hI16, hI18, hI22, hI31, hI38, hI43, hI47, hI50, hI101, hI102, hI103, hI104, hI105, hI106, hI107, hI109, hI110, hI111, hI119, hs_jKept, hs_jBook, ht0, hr0, hr1⟩ := hAll
  have hL9 : (L : Int) ≤ 384 := by omega
  obtain ⟨i1, i2, w3⟩ : (0 ≤ (σ 38 0).toInt ∧ (σ 38 0).toInt ≤ 20) ∧ (0 ≤ (σ 38 1).toInt ∧ (σ 38 1).toInt ≤ 1000) ∧ (∀ k : Nat, k < 20 → 0 ≤ (σ 39 k).toInt ∧ (σ 39 k).toInt ≤ 6) := id hI38
  obtain ⟨i4, w5, w6, w7⟩ : (0 ≤ (σ 55 32).toInt ∧ (σ 55 32).toInt ≤ 20) ∧ (∀ k : Nat, k < 20 → 0 ≤ (σ 70 k).toInt ∧ (σ 70 k).toInt ≤ 6) ∧ (∀ k : Nat, k < 20 → 0 ≤ (σ 71 k).toInt ∧ (σ 71 k).toInt ≤ 8) ∧ (∀ k : Nat, k < 160 → 0 ≤ (σ 72 k).toInt ∧ (σ 72 k).toInt ≤ 3) := id hI106
  refine lv_aload_n hx hb dL_law_852 rfl (lv_at hl 2 rfl) ?_
  refine lv_aload_n hx hb dL_law_853 rfl (lv_at hl 3 rfl) ?_
  refine lv_iload_n hx hb dL_law_854 rfl (lv_at hl 0 rfl) ?_
  refine lv_iconst (v := 1) hx hb dL_law_855 (by decide) ?_
  have g8 := jrg (rfl : x0.toInt = x0.toInt)
  refine lv_iadd hx hb dL_law_856 ?_
  refine lv_topi (fun x9 ex9 => ?_)
  have tx9 : x9.toInt = x0.toInt + 1 := (jadd ex9 rfl jz_1 (by omega) (by omega)).trans (by omega)
  refine va_sld hx hb hX hbl hbA hS (jin tx9 (by omega) (by omega)) dL_law_857 ?_
  have g10 := jrg (rfl : (xs x9.toNatClampNeg).toInt = (xs x9.toNatClampNeg).toInt)
  refine jcallV (As := [.int (xs x9.toNatClampNeg)]) (rest := []) ⟨hx, hb, hml, hown, hts⟩ hK hP hA hS hZ (c_X11_cost l D cI cL ad zz hJ σ τ (xs x9.toNatClampNeg) ((xs x9.toNatClampNeg).toInt) rfl hI2 hI16 hI22 hI31 hI47) cw_RL_105 (jc_0 cI cL ad σ τ) rfl ⟨Nat.le_of_ble_eq_true rfl, Nat.le_of_ble_eq_true rfl⟩ rfl rfl rfl hl.1 rfl (Nat.le_of_ble_eq_true rfl) dL_law_858 ⟨Nat.le_of_ble_eq_true rfl, Nat.le_of_ble_eq_true rfl⟩ (fun r12 σ11 τ11 H locs h11 hP hS => ?_)
  obtain ⟨rfl, f13, f14, I15, h11⟩ := h11
  refine lv_pop hx hb dL_law_861 rfl ?_
  refine lv_aload_n hx hb dL_law_862 rfl (lv_at hl 1 rfl) ?_
  refine lv_aload_n hx hb dL_law_863 rfl (lv_at hl 3 rfl) ?_
  refine lv_iload_n hx hb dL_law_864 rfl (lv_at hl 0 rfl) ?_
  refine lv_iconst (v := 1) hx hb dL_law_865 (by decide) ?_
  refine lv_iadd hx hb dL_law_866 ?_
  refine jtopr ex9.symm ?_
  refine va_sld hx hb hX hbl hbA hS (jin tx9 (by omega) (by omega)) dL_law_867 ?_
  have I17 : jI101 σ11 := jI101_fr (congrFun (f13 55 (by decide)) 4) (congrFun (f13 55 (by decide)) 5) (f13 56 (by decide)) (f13 57 (by decide)) (f13 58 (by decide)) (f13 59 (by decide)) hI101
  have I18 : jI102 σ11 := jI102_fr (congrFun (f13 55 (by decide)) 6) (f13 60 (by decide)) (f13 61 (by decide)) hI102
  have I19 : jI103 σ11 := jI103_fr (congrFun (f13 55 (by decide)) 9) hI103
  have I20 : jI104 σ11 := jI104_fr (congrFun (f13 55 (by decide)) 10) (congrFun (f13 55 (by decide)) 12) (congrFun (f13 55 (by decide)) 13) (f13 62 (by decide)) (f13 67 (by decide)) hI104
  have I21 : jI105 σ11 := jI105_fr (congrFun (f13 55 (by decide)) 15) (f13 65 (by decide)) hI105
  have I22 : jI106 σ11 := jI106_fr (congrFun (f13 55 (by decide)) 32) (f13 70 (by decide)) (f13 71 (by decide)) (f13 72 (by decide)) hI106
  have I23 : jI107 σ11 := jI107_fr (congrFun (f13 55 (by decide)) 12) (congrFun (f13 55 (by decide)) 47) (f13 80 (by decide)) hI107
  have I24 : jI119 σ11 := jI119_fr (f13 68 (by decide)) hI119
  have p25 : jKept σ11 := jKept.fr (f13 75 (by decide)) (f13 76 (by decide)) (f13 77 (by decide)) hs_jKept
  have p26 : jBook σ11 := jBook.fr (congrFun (f13 55 (by decide)) 47) (congrFun (f13 55 (by decide)) 10) (f13 81 (by decide)) hs_jBook
  refine jcallV (As := [.int (xs x9.toNatClampNeg)]) (rest := []) ⟨hx, hb, hml, hown, hts⟩ hK hP hA hS hZ (c_X12_cost l D cI cL ad zz hJ σ11 τ (xs x9.toNatClampNeg) ((xs x9.toNatClampNeg).toInt) rfl I17 I18 I19 I20 I21 I22 I23 I24 p25 p26) cw_RL_108 (jc_55 cI cL ad σ11 τ) rfl ⟨Nat.le_of_ble_eq_true rfl, Nat.le_of_ble_eq_true rfl⟩ rfl rfl rfl hl.1 rfl (Nat.le_of_ble_eq_true rfl) dL_law_868 ⟨Nat.le_of_ble_eq_true rfl, Nat.le_of_ble_eq_true rfl⟩ (fun r28 σ27 τ27 H locs h27 hP hS => ?_)
  obtain ⟨rfl, f29, f30, I31, p32, p33, h27⟩ := h27
  refine lv_pop hx hb dL_law_871 rfl ?_
  refine lv_goto (tgt := 1357) hx hb dL_law_872 (by decide) ?_
  obtain ⟨x35, ex35⟩ : ∃ y : Int32, y = x0 + 6 := ⟨_, rfl⟩
  have tx35 : x35.toInt = x0.toInt + 6 := (jadd ex35 rfl jz_6 (by omega) (by omega)).trans (by omega)
  refine lv_iinc (v := x35) (lv' := [(3, .int x35), (2, .ref (ad 55)), (1, .ref (ad 0)), (0, .ref b)]) hx hb dL_law_1357 hl (k := 0) rfl (by rw [ex35]; rfl) (by decide) rfl (fun ls hl => ?_)
  refine lv_goto (tgt := 18) hx hb dL_law_1360 (by decide) ?_
  have I36 : jI2 σ27 := jI2_fr ((congrFun (f29 2 (by decide)) 0).trans (congrFun (f13 2 (by decide)) 0)) ((congrFun (f29 2 (by decide)) 1).trans (congrFun (f13 2 (by decide)) 1)) ((congrFun (f29 2 (by decide)) 2).trans (congrFun (f13 2 (by decide)) 2)) ((congrFun (f29 2 (by decide)) 3).trans (congrFun (f13 2 (by decide)) 3)) ((f29 6 (by decide)).trans (f13 6 (by decide))) hI2
  have I37 : jI9 σ27 := jI9_fr ((congrFun (f29 9 (by decide)) 0).trans (congrFun (f13 9 (by decide)) 0)) ((f29 10 (by decide)).trans (f13 10 (by decide))) ((f29 11 (by decide)).trans (f13 11 (by decide))) hI9
  have I38 : jI12 σ27 := jI12_fr ((congrFun (f29 12 (by decide)) 0).trans (congrFun (f13 12 (by decide)) 0)) ((f29 13 (by decide)).trans (f13 13 (by decide))) hI12
  have I39 : jI16 σ27 := jI16_fr ((congrFun (f29 16 (by decide)) 0).trans (congrFun (f13 16 (by decide)) 0)) ((congrFun (f29 16 (by decide)) 1).trans (congrFun (f13 16 (by decide)) 1)) ((congrFun (f29 16 (by decide)) 2).trans (congrFun (f13 16 (by decide)) 2)) ((f29 17 (by decide)).trans (f13 17 (by decide))) hI16
  have I40 : jI18 σ27 := jI18_fr ((congrFun (f29 18 (by decide)) 0).trans (congrFun (f13 18 (by decide)) 0)) ((f29 19 (by decide)).trans (f13 19 (by decide))) hI18
  have I41 : jI22 σ27 := jI22_fr ((congrFun (f29 22 (by decide)) 0).trans (congrFun (f13 22 (by decide)) 0)) ((f29 23 (by decide)).trans (f13 23 (by decide))) hI22
  have I42 : jI31 σ27 := jI31_fr (congrFun (f29 31 (by decide)) 8) (f29 33 (by decide)) (f29 36 (by decide)) I15
  have I43 : jI38 σ27 := jI38_fr ((congrFun (f29 38 (by decide)) 0).trans (congrFun (f13 38 (by decide)) 0)) ((congrFun (f29 38 (by decide)) 1).trans (congrFun (f13 38 (by decide)) 1)) ((f29 39 (by decide)).trans (f13 39 (by decide))) hI38
  have I44 : jI43 σ27 := jI43_fr ((congrFun (f29 43 (by decide)) 8).trans (congrFun (f13 43 (by decide)) 8)) hI43
  have I45 : jI47 σ27 := jI47_fr ((congrFun (f29 47 (by decide)) 0).trans (congrFun (f13 47 (by decide)) 0)) ((f29 48 (by decide)).trans (f13 48 (by decide))) ((f29 49 (by decide)).trans (f13 49 (by decide))) hI47
  have I46 : jI50 σ27 := jI50_fr ((f29 52 (by decide)).trans (f13 52 (by decide))) hI50
  have I47 : jI101 σ27 := jI101_fr (f30 4 (by decide)) (f30 5 (by decide)) (f29 56 (by decide)) (f29 57 (by decide)) (f29 58 (by decide)) (f29 59 (by decide)) I17
  have I48 : jI102 σ27 := jI102_fr (f30 6 (by decide)) (f29 60 (by decide)) (f29 61 (by decide)) I18
  have I49 : jI103 σ27 := jI103_fr (f30 9 (by decide)) I19
  have I50 : jI104 σ27 := jI104_fr (f30 10 (by decide)) (f30 12 (by decide)) (f30 13 (by decide)) (f29 62 (by decide)) (f29 67 (by decide)) I20
  have I51 : jI105 σ27 := jI105_fr (f30 15 (by decide)) (f29 65 (by decide)) I21
  have I52 : jI106 σ27 := jI106_fr (f30 32 (by decide)) (f29 70 (by decide)) (f29 71 (by decide)) (f29 72 (by decide)) I22
  have I53 : jI107 σ27 := jI107_fr (f30 12 (by decide)) (f30 47 (by decide)) (f29 80 (by decide)) I23
  have I54 : jI109 σ27 := jI109_fr ((f30 50 (by decide)).trans (congrFun (f13 55 (by decide)) 50)) hI109
  have I55 : jI110 σ27 := jI110_fr ((f29 86 (by decide)).trans (f13 86 (by decide))) ((f29 87 (by decide)).trans (f13 87 (by decide))) hI110
  have I56 : jI111 σ27 := jI111_fr ((f29 79 (by decide)).trans (f13 79 (by decide))) hI111
  have z57 : (σ27 38 0).toInt = (σ 38 0).toInt := (congrArg Int32.toInt (show σ27 38 0 = (σ 38 0) from ((congrFun (f29 38 (by decide)) 0).trans (congrFun (f13 38 (by decide)) 0))))
  have z58 : (σ27 55 32).toInt = (σ 55 32).toInt := (congrArg Int32.toInt (show σ27 55 32 = (σ 55 32) from ((f30 32 (by decide)).trans (congrFun (f13 55 (by decide)) 32))))
  exact ih x35 σ27 τ _ _ ls (by have h9 := tx35; omega) ⟨I36, I37, I38, I39, I40, I41, I42, I43, I44, I45, I46, I47, I48, I49, I50, I51, I52, I53, I54, I55, I56, I31, p32, p33, (by omega), (show jShP (σ27 51) (σ27 52) (σ27 53) (σ27 86) (σ27 87) (σ27 55 32).toInt by rw [show σ27 51 = σ 51 from ((f29 51 (by decide)).trans (f13 51 (by decide))), show σ27 52 = σ 52 from ((f29 52 (by decide)).trans (f13 52 (by decide))), show σ27 53 = σ 53 from ((f29 53 (by decide)).trans (f13 53 (by decide))), show σ27 86 = σ 86 from ((f29 86 (by decide)).trans (f13 86 (by decide))), show σ27 87 = σ 87 from ((f29 87 (by decide)).trans (f13 87 (by decide)))]; exact (hr0.up (by omega) (by omega))), (show jKd (σ27 39) (σ27 70) (σ27 55 32).toInt by rw [show σ27 39 = σ 39 from ((f29 39 (by decide)).trans (f13 39 (by decide))), show σ27 70 = σ 70 from ((f29 70 (by decide)).trans (f13 70 (by decide))), show (σ27 55 32).toInt = (σ 55 32).toInt from by omega]; exact hr1)⟩ hP hS (lv_sub hl [0, 1, 2, 3] rfl)
set_option maxHeartbeats 4000000 in
set_option maxRecDepth 100000 in
theorem law_case_23 {p : Program} {e : Env} {s : State} {m : MethodId} {below : List Frame} {meth : Method} {c : Code} (l : Launch) {b L : Nat} {xs : Nat → Int32} {D : va_G} {cI cL : ClassId} {ad zz : Nat → Nat} (C0 : lw_At p s m meth c b L xs) (hJ : jD ad) (hA : ∀ q, jA ad q → s.heap.size ≤ q) (hK : jK D cI cL s) (hZ : jZ zz (fun q : Nat => s.heap.size ≤ q) s s.heap) {x0 : Int32} (hx0 : 0 ≤ x0.toInt) (hxL : x0.toInt + 6 ≤ (L : Int)) (hL : L ≤ 384) {σ : Nat → Nat → Int32} {τ : Nat → Nat → Int64} {H : Heap} {locs : List Loc} (hS : va_S (fun q : Nat => s.heap.size ≤ q) s.heap H locs) {ls : Array Slot} (hAll : jAll σ τ) (hP : jH D cI cL ad σ τ H) (hl : lv_has ls 4 [(3, .int x0), (2, .ref (ad 55)), (1, .ref (ad 0)), (0, .ref b)]) (ih : ∀ (x1 : Int32) (σ : Nat → Nat → Int32) (τ : Nat → Nat → Int64) (H : Heap) (locs : List Loc) (ls : Array Slot), x1.toInt = x0.toInt + 6 → jAll σ τ → jH D cI cL ad σ τ H → va_S (fun q : Nat => s.heap.size ≤ q) s.heap H locs → lv_has ls 4 [(3, .int x1), (2, .ref (ad 55)), (1, .ref (ad 0)), (0, .ref b)] → W p l e room_1 s m #[Value.ref b] below meth c H locs 90 348600 (lw_Z below #[Value.ref b] s) (F0 m 18 ls [])) : W p l e room_1 s m #[Value.ref b] below meth c H locs 90 348600 (lw_Z below #[Value.ref b] s) (F0 m 875 ls []) := by
  obtain ⟨hx, hb, hr, hml, hown, hts0, hX, hbl, hlocks, hgv⟩ := C0
  have hts : ∀ w ∈ wsL_law, w.before #[Value.ref b] s = true := fun w h => hts0 w (wsL_law_in w h)
  have hbA : ¬ (fun q : Nat => s.heap.size ≤ q) b := Nat.not_le.mpr hbl
  have hown : s.vm.findClass RL = some m.cls := hown
  obtain ⟨hI2, hI9, hI12, hI16, hI18, hI22, hI31, hI38, hI43, hI47, hI50, hI101, hI102, hI103, hI104, hI105, hI106, hI107, hI109, hI110, hI111, hI119, hs_jKept, hs_jBook, ht0, hr0, hr1⟩ := hAll
  have hL9 : (L : Int) ≤ 384 := by omega
  obtain ⟨i1, i2, w3⟩ : (0 ≤ (σ 38 0).toInt ∧ (σ 38 0).toInt ≤ 20) ∧ (0 ≤ (σ 38 1).toInt ∧ (σ 38 1).toInt ≤ 1000) ∧ (∀ k : Nat, k < 20 → 0 ≤ (σ 39 k).toInt ∧ (σ 39 k).toInt ≤ 6) := id hI38
  obtain ⟨i4, w5, w6, w7⟩ : (0 ≤ (σ 55 32).toInt ∧ (σ 55 32).toInt ≤ 20) ∧ (∀ k : Nat, k < 20 → 0 ≤ (σ 70 k).toInt ∧ (σ 70 k).toInt ≤ 6) ∧ (∀ k : Nat, k < 20 → 0 ≤ (σ 71 k).toInt ∧ (σ 71 k).toInt ≤ 8) ∧ (∀ k : Nat, k < 160 → 0 ≤ (σ 72 k).toInt ∧ (σ 72 k).toInt ≤ 3) := id hI106
  refine lv_aload_n hx hb dL_law_875 rfl (lv_at hl 2 rfl) ?_
  refine lv_aload_n hx hb dL_law_876 rfl (lv_at hl 3 rfl) ?_
  refine lv_iload_n hx hb dL_law_877 rfl (lv_at hl 0 rfl) ?_
  refine lv_iconst (v := 1) hx hb dL_law_878 (by decide) ?_
  have g8 := jrg (rfl : x0.toInt = x0.toInt)
  refine lv_iadd hx hb dL_law_879 ?_
  refine lv_topi (fun x9 ex9 => ?_)
  have tx9 : x9.toInt = x0.toInt + 1 := (jadd ex9 rfl jz_1 (by omega) (by omega)).trans (by omega)
  refine va_sld hx hb hX hbl hbA hS (jin tx9 (by omega) (by omega)) dL_law_880 ?_
  have g10 := jrg (rfl : (xs x9.toNatClampNeg).toInt = (xs x9.toNatClampNeg).toInt)
  refine jcallV (As := [.int (xs x9.toNatClampNeg)]) (rest := []) ⟨hx, hb, hml, hown, hts⟩ hK hP hA hS hZ (c_X11_lost l D cI cL ad zz hJ σ τ (xs x9.toNatClampNeg) ((xs x9.toNatClampNeg).toInt) rfl hI2 hI16 hI22 hI31 hI47) cw_RL_109 (jc_0 cI cL ad σ τ) rfl ⟨Nat.le_of_ble_eq_true rfl, Nat.le_of_ble_eq_true rfl⟩ rfl rfl rfl hl.1 rfl (Nat.le_of_ble_eq_true rfl) dL_law_881 ⟨Nat.le_of_ble_eq_true rfl, Nat.le_of_ble_eq_true rfl⟩ (fun r12 σ11 τ11 H locs h11 hP hS => ?_)
  obtain ⟨rfl, f13, f14, I15, h11⟩ := h11
  refine lv_pop hx hb dL_law_884 rfl ?_
  refine lv_aload_n hx hb dL_law_885 rfl (lv_at hl 1 rfl) ?_
  refine lv_aload_n hx hb dL_law_886 rfl (lv_at hl 3 rfl) ?_
  refine lv_iload_n hx hb dL_law_887 rfl (lv_at hl 0 rfl) ?_
  refine lv_iconst (v := 1) hx hb dL_law_888 (by decide) ?_
  refine lv_iadd hx hb dL_law_889 ?_
  refine jtopr ex9.symm ?_
  refine va_sld hx hb hX hbl hbA hS (jin tx9 (by omega) (by omega)) dL_law_890 ?_
  have I17 : jI101 σ11 := jI101_fr (congrFun (f13 55 (by decide)) 4) (congrFun (f13 55 (by decide)) 5) (f13 56 (by decide)) (f13 57 (by decide)) (f13 58 (by decide)) (f13 59 (by decide)) hI101
  have I18 : jI102 σ11 := jI102_fr (congrFun (f13 55 (by decide)) 6) (f13 60 (by decide)) (f13 61 (by decide)) hI102
  have I19 : jI103 σ11 := jI103_fr (congrFun (f13 55 (by decide)) 9) hI103
  have I20 : jI104 σ11 := jI104_fr (congrFun (f13 55 (by decide)) 10) (congrFun (f13 55 (by decide)) 12) (congrFun (f13 55 (by decide)) 13) (f13 62 (by decide)) (f13 67 (by decide)) hI104
  have I21 : jI105 σ11 := jI105_fr (congrFun (f13 55 (by decide)) 15) (f13 65 (by decide)) hI105
  have I22 : jI106 σ11 := jI106_fr (congrFun (f13 55 (by decide)) 32) (f13 70 (by decide)) (f13 71 (by decide)) (f13 72 (by decide)) hI106
  have I23 : jI107 σ11 := jI107_fr (congrFun (f13 55 (by decide)) 12) (congrFun (f13 55 (by decide)) 47) (f13 80 (by decide)) hI107
  have I24 : jI119 σ11 := jI119_fr (f13 68 (by decide)) hI119
  have p25 : jKept σ11 := jKept.fr (f13 75 (by decide)) (f13 76 (by decide)) (f13 77 (by decide)) hs_jKept
  have p26 : jBook σ11 := jBook.fr (congrFun (f13 55 (by decide)) 47) (congrFun (f13 55 (by decide)) 10) (f13 81 (by decide)) hs_jBook
  refine jcallV (As := [.int (xs x9.toNatClampNeg)]) (rest := []) ⟨hx, hb, hml, hown, hts⟩ hK hP hA hS hZ (c_X12_lost l D cI cL ad zz hJ σ11 τ (xs x9.toNatClampNeg) ((xs x9.toNatClampNeg).toInt) rfl I17 I18 I19 I20 I21 I22 I23 I24 p25 p26) cw_RL_112 (jc_55 cI cL ad σ11 τ) rfl ⟨Nat.le_of_ble_eq_true rfl, Nat.le_of_ble_eq_true rfl⟩ rfl rfl rfl hl.1 rfl (Nat.le_of_ble_eq_true rfl) dL_law_891 ⟨Nat.le_of_ble_eq_true rfl, Nat.le_of_ble_eq_true rfl⟩ (fun r28 σ27 τ27 H locs h27 hP hS => ?_)
  obtain ⟨rfl, f29, f30, I31, p32, p33, h27⟩ := h27
  refine lv_pop hx hb dL_law_894 rfl ?_
  refine lv_goto (tgt := 1357) hx hb dL_law_895 (by decide) ?_
  obtain ⟨x35, ex35⟩ : ∃ y : Int32, y = x0 + 6 := ⟨_, rfl⟩
  have tx35 : x35.toInt = x0.toInt + 6 := (jadd ex35 rfl jz_6 (by omega) (by omega)).trans (by omega)
  refine lv_iinc (v := x35) (lv' := [(3, .int x35), (2, .ref (ad 55)), (1, .ref (ad 0)), (0, .ref b)]) hx hb dL_law_1357 hl (k := 0) rfl (by rw [ex35]; rfl) (by decide) rfl (fun ls hl => ?_)
  refine lv_goto (tgt := 18) hx hb dL_law_1360 (by decide) ?_
  have I36 : jI2 σ27 := jI2_fr ((congrFun (f29 2 (by decide)) 0).trans (congrFun (f13 2 (by decide)) 0)) ((congrFun (f29 2 (by decide)) 1).trans (congrFun (f13 2 (by decide)) 1)) ((congrFun (f29 2 (by decide)) 2).trans (congrFun (f13 2 (by decide)) 2)) ((congrFun (f29 2 (by decide)) 3).trans (congrFun (f13 2 (by decide)) 3)) ((f29 6 (by decide)).trans (f13 6 (by decide))) hI2
  have I37 : jI9 σ27 := jI9_fr ((congrFun (f29 9 (by decide)) 0).trans (congrFun (f13 9 (by decide)) 0)) ((f29 10 (by decide)).trans (f13 10 (by decide))) ((f29 11 (by decide)).trans (f13 11 (by decide))) hI9
  have I38 : jI12 σ27 := jI12_fr ((congrFun (f29 12 (by decide)) 0).trans (congrFun (f13 12 (by decide)) 0)) ((f29 13 (by decide)).trans (f13 13 (by decide))) hI12
  have I39 : jI16 σ27 := jI16_fr ((congrFun (f29 16 (by decide)) 0).trans (congrFun (f13 16 (by decide)) 0)) ((congrFun (f29 16 (by decide)) 1).trans (congrFun (f13 16 (by decide)) 1)) ((congrFun (f29 16 (by decide)) 2).trans (congrFun (f13 16 (by decide)) 2)) ((f29 17 (by decide)).trans (f13 17 (by decide))) hI16
  have I40 : jI18 σ27 := jI18_fr ((congrFun (f29 18 (by decide)) 0).trans (congrFun (f13 18 (by decide)) 0)) ((f29 19 (by decide)).trans (f13 19 (by decide))) hI18
  have I41 : jI22 σ27 := jI22_fr ((congrFun (f29 22 (by decide)) 0).trans (congrFun (f13 22 (by decide)) 0)) ((f29 23 (by decide)).trans (f13 23 (by decide))) hI22
  have I42 : jI31 σ27 := jI31_fr (congrFun (f29 31 (by decide)) 8) (f29 33 (by decide)) (f29 36 (by decide)) I15
  have I43 : jI38 σ27 := jI38_fr ((congrFun (f29 38 (by decide)) 0).trans (congrFun (f13 38 (by decide)) 0)) ((congrFun (f29 38 (by decide)) 1).trans (congrFun (f13 38 (by decide)) 1)) ((f29 39 (by decide)).trans (f13 39 (by decide))) hI38
  have I44 : jI43 σ27 := jI43_fr ((congrFun (f29 43 (by decide)) 8).trans (congrFun (f13 43 (by decide)) 8)) hI43
  have I45 : jI47 σ27 := jI47_fr ((congrFun (f29 47 (by decide)) 0).trans (congrFun (f13 47 (by decide)) 0)) ((f29 48 (by decide)).trans (f13 48 (by decide))) ((f29 49 (by decide)).trans (f13 49 (by decide))) hI47
  have I46 : jI50 σ27 := jI50_fr ((f29 52 (by decide)).trans (f13 52 (by decide))) hI50
  have I47 : jI101 σ27 := jI101_fr (f30 4 (by decide)) (f30 5 (by decide)) (f29 56 (by decide)) (f29 57 (by decide)) (f29 58 (by decide)) (f29 59 (by decide)) I17
  have I48 : jI102 σ27 := jI102_fr (f30 6 (by decide)) (f29 60 (by decide)) (f29 61 (by decide)) I18
  have I49 : jI103 σ27 := jI103_fr (f30 9 (by decide)) I19
  have I50 : jI104 σ27 := jI104_fr (f30 10 (by decide)) (f30 12 (by decide)) (f30 13 (by decide)) (f29 62 (by decide)) (f29 67 (by decide)) I20
  have I51 : jI105 σ27 := jI105_fr (f30 15 (by decide)) (f29 65 (by decide)) I21
  have I52 : jI106 σ27 := jI106_fr (f30 32 (by decide)) (f29 70 (by decide)) (f29 71 (by decide)) (f29 72 (by decide)) I22
  have I53 : jI107 σ27 := jI107_fr (f30 12 (by decide)) (f30 47 (by decide)) (f29 80 (by decide)) I23
  have I54 : jI109 σ27 := jI109_fr ((f30 50 (by decide)).trans (congrFun (f13 55 (by decide)) 50)) hI109
  have I55 : jI110 σ27 := jI110_fr ((f29 86 (by decide)).trans (f13 86 (by decide))) ((f29 87 (by decide)).trans (f13 87 (by decide))) hI110
  have I56 : jI111 σ27 := jI111_fr ((f29 79 (by decide)).trans (f13 79 (by decide))) hI111
  have z57 : (σ27 38 0).toInt = (σ 38 0).toInt := (congrArg Int32.toInt (show σ27 38 0 = (σ 38 0) from ((congrFun (f29 38 (by decide)) 0).trans (congrFun (f13 38 (by decide)) 0))))
  have z58 : (σ27 55 32).toInt = (σ 55 32).toInt := (congrArg Int32.toInt (show σ27 55 32 = (σ 55 32) from ((f30 32 (by decide)).trans (congrFun (f13 55 (by decide)) 32))))
  exact ih x35 σ27 τ _ _ ls (by have h9 := tx35; omega) ⟨I36, I37, I38, I39, I40, I41, I42, I43, I44, I45, I46, I47, I48, I49, I50, I51, I52, I53, I54, I55, I56, I31, p32, p33, (by omega), (show jShP (σ27 51) (σ27 52) (σ27 53) (σ27 86) (σ27 87) (σ27 55 32).toInt by rw [show σ27 51 = σ 51 from ((f29 51 (by decide)).trans (f13 51 (by decide))), show σ27 52 = σ 52 from ((f29 52 (by decide)).trans (f13 52 (by decide))), show σ27 53 = σ 53 from ((f29 53 (by decide)).trans (f13 53 (by decide))), show σ27 86 = σ 86 from ((f29 86 (by decide)).trans (f13 86 (by decide))), show σ27 87 = σ 87 from ((f29 87 (by decide)).trans (f13 87 (by decide)))]; exact (hr0.up (by omega) (by omega))), (show jKd (σ27 39) (σ27 70) (σ27 55 32).toInt by rw [show σ27 39 = σ 39 from ((f29 39 (by decide)).trans (f13 39 (by decide))), show σ27 70 = σ 70 from ((f29 70 (by decide)).trans (f13 70 (by decide))), show (σ27 55 32).toInt = (σ 55 32).toInt from by omega]; exact hr1)⟩ hP hS (lv_sub hl [0, 1, 2, 3] rfl)
set_option maxHeartbeats 4000000 in
set_option maxRecDepth 100000 in
theorem law_case_24 {p : Program} {e : Env} {s : State} {m : MethodId} {below : List Frame} {meth : Method} {c : Code} (l : Launch) {b L : Nat} {xs : Nat → Int32} {D : va_G} {cI cL : ClassId} {ad zz : Nat → Nat} (C0 : lw_At p s m meth c b L xs) (hJ : jD ad) (hA : ∀ q, jA ad q → s.heap.size ≤ q) (hK : jK D cI cL s) (hZ : jZ zz (fun q : Nat => s.heap.size ≤ q) s s.heap) {x0 : Int32} (hx0 : 0 ≤ x0.toInt) (hxL : x0.toInt + 6 ≤ (L : Int)) (hL : L ≤ 384) {σ : Nat → Nat → Int32} {τ : Nat → Nat → Int64} {H : Heap} {locs : List Loc} (hS : va_S (fun q : Nat => s.heap.size ≤ q) s.heap H locs) {ls : Array Slot} (hAll : jAll σ τ) (hP : jH D cI cL ad σ τ H) (hl : lv_has ls 4 [(3, .int x0), (2, .ref (ad 55)), (1, .ref (ad 0)), (0, .ref b)]) (ih : ∀ (x1 : Int32) (σ : Nat → Nat → Int32) (τ : Nat → Nat → Int64) (H : Heap) (locs : List Loc) (ls : Array Slot), x1.toInt = x0.toInt + 6 → jAll σ τ → jH D cI cL ad σ τ H → va_S (fun q : Nat => s.heap.size ≤ q) s.heap H locs → lv_has ls 4 [(3, .int x1), (2, .ref (ad 55)), (1, .ref (ad 0)), (0, .ref b)] → W p l e room_1 s m #[Value.ref b] below meth c H locs 90 348600 (lw_Z below #[Value.ref b] s) (F0 m 18 ls [])) : W p l e room_1 s m #[Value.ref b] below meth c H locs 90 348600 (lw_Z below #[Value.ref b] s) (F0 m 898 ls []) := by
  obtain ⟨hx, hb, hr, hml, hown, hts0, hX, hbl, hlocks, hgv⟩ := C0
  have hts : ∀ w ∈ wsL_law, w.before #[Value.ref b] s = true := fun w h => hts0 w (wsL_law_in w h)
  have hbA : ¬ (fun q : Nat => s.heap.size ≤ q) b := Nat.not_le.mpr hbl
  have hown : s.vm.findClass RL = some m.cls := hown
  obtain ⟨hI2, hI9, hI12, hI16, hI18, hI22, hI31, hI38, hI43, hI47, hI50, hI101, hI102, hI103, hI104, hI105, hI106, hI107, hI109, hI110, hI111, hI119, hs_jKept, hs_jBook, ht0, hr0, hr1⟩ := hAll
  have hL9 : (L : Int) ≤ 384 := by omega
  obtain ⟨i1, i2, w3⟩ : (0 ≤ (σ 38 0).toInt ∧ (σ 38 0).toInt ≤ 20) ∧ (0 ≤ (σ 38 1).toInt ∧ (σ 38 1).toInt ≤ 1000) ∧ (∀ k : Nat, k < 20 → 0 ≤ (σ 39 k).toInt ∧ (σ 39 k).toInt ≤ 6) := id hI38
  obtain ⟨i4, w5, w6, w7⟩ : (0 ≤ (σ 55 32).toInt ∧ (σ 55 32).toInt ≤ 20) ∧ (∀ k : Nat, k < 20 → 0 ≤ (σ 70 k).toInt ∧ (σ 70 k).toInt ≤ 6) ∧ (∀ k : Nat, k < 20 → 0 ≤ (σ 71 k).toInt ∧ (σ 71 k).toInt ≤ 8) ∧ (∀ k : Nat, k < 160 → 0 ≤ (σ 72 k).toInt ∧ (σ 72 k).toInt ≤ 3) := id hI106
  refine lv_aload_n hx hb dL_law_898 rfl (lv_at hl 2 rfl) ?_
  refine lv_aload_n hx hb dL_law_899 rfl (lv_at hl 3 rfl) ?_
  refine lv_iload_n hx hb dL_law_900 rfl (lv_at hl 0 rfl) ?_
  refine lv_iconst (v := 1) hx hb dL_law_901 (by decide) ?_
  have g8 := jrg (rfl : x0.toInt = x0.toInt)
  refine lv_iadd hx hb dL_law_902 ?_
  refine lv_topi (fun x9 ex9 => ?_)
  have tx9 : x9.toInt = x0.toInt + 1 := (jadd ex9 rfl jz_1 (by omega) (by omega)).trans (by omega)
  refine va_sld hx hb hX hbl hbA hS (jin tx9 (by omega) (by omega)) dL_law_903 ?_
  have g10 := jrg (rfl : (xs x9.toNatClampNeg).toInt = (xs x9.toNatClampNeg).toInt)
  refine lv_aload_n hx hb dL_law_904 rfl (lv_at hl 3 rfl) ?_
  refine lv_iload_n hx hb dL_law_905 rfl (lv_at hl 0 rfl) ?_
  refine lv_iconst (v := 2) hx hb dL_law_906 (by decide) ?_
  refine lv_iadd hx hb dL_law_907 ?_
  refine lv_topi (fun x11 ex11 => ?_)
  have tx11 : x11.toInt = x0.toInt + 2 := (jadd ex11 rfl jz_2 (by omega) (by omega)).trans (by omega)
  refine va_sld hx hb hX hbl hbA hS (jin tx11 (by omega) (by omega)) dL_law_908 ?_
  have g12 := jrg (rfl : (xs x11.toNatClampNeg).toInt = (xs x11.toNatClampNeg).toInt)
  refine jcallV (As := [.int (xs x9.toNatClampNeg), .int (xs x11.toNatClampNeg)]) (rest := []) ⟨hx, hb, hml, hown, hts⟩ hK hP hA hS hZ (c_X11_game l D cI cL ad zz hJ σ τ (xs x9.toNatClampNeg) ((xs x9.toNatClampNeg).toInt) rfl (xs x11.toNatClampNeg) ((xs x11.toNatClampNeg).toInt) rfl hI2 hI16 hI18 hI22 hI31 hI38 hI43) cw_RL_113 (jc_0 cI cL ad σ τ) rfl ⟨Nat.le_of_ble_eq_true rfl, Nat.le_of_ble_eq_true rfl⟩ rfl rfl rfl hl.1 rfl (Nat.le_of_ble_eq_true rfl) dL_law_909 ⟨Nat.le_of_ble_eq_true rfl, Nat.le_of_ble_eq_true rfl⟩ (fun r14 σ13 τ13 H locs h13 hP hS => ?_)
  obtain ⟨rfl, f15, f16, f17, I18, I19, h13⟩ := h13
  refine lv_pop hx hb dL_law_912 rfl ?_
  refine lv_aload_n hx hb dL_law_913 rfl (lv_at hl 1 rfl) ?_
  refine lv_aload_n hx hb dL_law_914 rfl (lv_at hl 3 rfl) ?_
  refine lv_iload_n hx hb dL_law_915 rfl (lv_at hl 0 rfl) ?_
  refine lv_iconst (v := 1) hx hb dL_law_916 (by decide) ?_
  refine lv_iadd hx hb dL_law_917 ?_
  refine jtopr ex9.symm ?_
  refine va_sld hx hb hX hbl hbA hS (jin tx9 (by omega) (by omega)) dL_law_918 ?_
  refine lv_aload_n hx hb dL_law_919 rfl (lv_at hl 3 rfl) ?_
  refine lv_iload_n hx hb dL_law_920 rfl (lv_at hl 0 rfl) ?_
  refine lv_iconst (v := 2) hx hb dL_law_921 (by decide) ?_
  refine lv_iadd hx hb dL_law_922 ?_
  refine jtopr ex11.symm ?_
  refine va_sld hx hb hX hbl hbA hS (jin tx11 (by omega) (by omega)) dL_law_923 ?_
  have I21 : jI101 σ13 := jI101_fr (congrFun (f15 55 (by decide)) 4) (congrFun (f15 55 (by decide)) 5) (f15 56 (by decide)) (f15 57 (by decide)) (f15 58 (by decide)) (f15 59 (by decide)) hI101
  have I22 : jI102 σ13 := jI102_fr (congrFun (f15 55 (by decide)) 6) (f15 60 (by decide)) (f15 61 (by decide)) hI102
  have I23 : jI103 σ13 := jI103_fr (congrFun (f15 55 (by decide)) 9) hI103
  have I24 : jI104 σ13 := jI104_fr (congrFun (f15 55 (by decide)) 10) (congrFun (f15 55 (by decide)) 12) (congrFun (f15 55 (by decide)) 13) (f15 62 (by decide)) (f15 67 (by decide)) hI104
  have I25 : jI105 σ13 := jI105_fr (congrFun (f15 55 (by decide)) 15) (f15 65 (by decide)) hI105
  have I26 : jI106 σ13 := jI106_fr (congrFun (f15 55 (by decide)) 32) (f15 70 (by decide)) (f15 71 (by decide)) (f15 72 (by decide)) hI106
  have I27 : jI119 σ13 := jI119_fr (f15 68 (by decide)) hI119
  have I28 : jI109 σ13 := jI109_fr (congrFun (f15 55 (by decide)) 50) hI109
  have p29 : jKept σ13 := jKept.fr (f15 75 (by decide)) (f15 76 (by decide)) (f15 77 (by decide)) hs_jKept
  refine jcallV (As := [.int (xs x9.toNatClampNeg), .int (xs x11.toNatClampNeg)]) (rest := []) ⟨hx, hb, hml, hown, hts⟩ hK hP hA hS hZ (c_X12_game l D cI cL ad zz hJ σ13 τ (xs x9.toNatClampNeg) ((xs x9.toNatClampNeg).toInt) rfl (xs x11.toNatClampNeg) ((xs x11.toNatClampNeg).toInt) rfl I21 I22 I23 I24 I25 I26 I27 I28 p29) cw_RL_116 (jc_55 cI cL ad σ13 τ) rfl ⟨Nat.le_of_ble_eq_true rfl, Nat.le_of_ble_eq_true rfl⟩ rfl rfl rfl hl.1 rfl (Nat.le_of_ble_eq_true rfl) dL_law_924 ⟨Nat.le_of_ble_eq_true rfl, Nat.le_of_ble_eq_true rfl⟩ (fun r31 σ30 τ30 H locs h30 hP hS => ?_)
  obtain ⟨rfl, f32, f33, I34, I35, p36, h30⟩ := h30
  refine lv_pop hx hb dL_law_927 rfl ?_
  refine lv_goto (tgt := 1357) hx hb dL_law_928 (by decide) ?_
  obtain ⟨x38, ex38⟩ : ∃ y : Int32, y = x0 + 6 := ⟨_, rfl⟩
  have tx38 : x38.toInt = x0.toInt + 6 := (jadd ex38 rfl jz_6 (by omega) (by omega)).trans (by omega)
  refine lv_iinc (v := x38) (lv' := [(3, .int x38), (2, .ref (ad 55)), (1, .ref (ad 0)), (0, .ref b)]) hx hb dL_law_1357 hl (k := 0) rfl (by rw [ex38]; rfl) (by decide) rfl (fun ls hl => ?_)
  refine lv_goto (tgt := 18) hx hb dL_law_1360 (by decide) ?_
  have I39 : jI2 σ30 := jI2_fr ((congrFun (f32 2 (by decide)) 0).trans (congrFun (f15 2 (by decide)) 0)) ((congrFun (f32 2 (by decide)) 1).trans (congrFun (f15 2 (by decide)) 1)) ((congrFun (f32 2 (by decide)) 2).trans (congrFun (f15 2 (by decide)) 2)) ((congrFun (f32 2 (by decide)) 3).trans (congrFun (f15 2 (by decide)) 3)) ((f32 6 (by decide)).trans (f15 6 (by decide))) hI2
  have I40 : jI9 σ30 := jI9_fr ((congrFun (f32 9 (by decide)) 0).trans (congrFun (f15 9 (by decide)) 0)) ((f32 10 (by decide)).trans (f15 10 (by decide))) ((f32 11 (by decide)).trans (f15 11 (by decide))) hI9
  have I41 : jI12 σ30 := jI12_fr ((congrFun (f32 12 (by decide)) 0).trans (congrFun (f15 12 (by decide)) 0)) ((f32 13 (by decide)).trans (f15 13 (by decide))) hI12
  have I42 : jI16 σ30 := jI16_fr ((congrFun (f32 16 (by decide)) 0).trans (congrFun (f15 16 (by decide)) 0)) ((congrFun (f32 16 (by decide)) 1).trans (congrFun (f15 16 (by decide)) 1)) ((congrFun (f32 16 (by decide)) 2).trans (congrFun (f15 16 (by decide)) 2)) ((f32 17 (by decide)).trans (f15 17 (by decide))) hI16
  have I43 : jI18 σ30 := jI18_fr ((congrFun (f32 18 (by decide)) 0).trans (congrFun (f15 18 (by decide)) 0)) ((f32 19 (by decide)).trans (f15 19 (by decide))) hI18
  have I44 : jI22 σ30 := jI22_fr ((congrFun (f32 22 (by decide)) 0).trans (congrFun (f15 22 (by decide)) 0)) ((f32 23 (by decide)).trans (f15 23 (by decide))) hI22
  have I45 : jI31 σ30 := jI31_fr (congrFun (f32 31 (by decide)) 8) (f32 33 (by decide)) (f32 36 (by decide)) I18
  have I46 : jI38 σ30 := jI38_fr ((congrFun (f32 38 (by decide)) 0).trans (congrFun (f15 38 (by decide)) 0)) ((congrFun (f32 38 (by decide)) 1).trans (congrFun (f15 38 (by decide)) 1)) ((f32 39 (by decide)).trans (f15 39 (by decide))) hI38
  have I47 : jI43 σ30 := jI43_fr (congrFun (f32 43 (by decide)) 8) I19
  have I48 : jI47 σ30 := jI47_fr ((congrFun (f32 47 (by decide)) 0).trans (congrFun (f15 47 (by decide)) 0)) ((f32 48 (by decide)).trans (f15 48 (by decide))) ((f32 49 (by decide)).trans (f15 49 (by decide))) hI47
  have I49 : jI50 σ30 := jI50_fr ((f32 52 (by decide)).trans (f15 52 (by decide))) hI50
  have I50 : jI101 σ30 := jI101_fr (f33 4 (by decide)) (f33 5 (by decide)) (f32 56 (by decide)) (f32 57 (by decide)) (f32 58 (by decide)) (f32 59 (by decide)) I21
  have I51 : jI102 σ30 := jI102_fr (f33 6 (by decide)) (f32 60 (by decide)) (f32 61 (by decide)) I22
  have I52 : jI103 σ30 := jI103_fr (f33 9 (by decide)) I23
  have I53 : jI104 σ30 := jI104_fr (f33 10 (by decide)) (f33 12 (by decide)) (f33 13 (by decide)) (f32 62 (by decide)) (f32 67 (by decide)) I24
  have I54 : jI105 σ30 := jI105_fr (f33 15 (by decide)) (f32 65 (by decide)) I25
  have I55 : jI106 σ30 := jI106_fr (f33 32 (by decide)) (f32 70 (by decide)) (f32 71 (by decide)) (f32 72 (by decide)) I26
  have I56 : jI107 σ30 := jI107_fr ((f33 12 (by decide)).trans (congrFun (f15 55 (by decide)) 12)) ((f33 47 (by decide)).trans (congrFun (f15 55 (by decide)) 47)) ((f32 80 (by decide)).trans (f15 80 (by decide))) hI107
  have I57 : jI110 σ30 := jI110_fr ((f32 86 (by decide)).trans (f15 86 (by decide))) ((f32 87 (by decide)).trans (f15 87 (by decide))) hI110
  have I58 : jI111 σ30 := jI111_fr ((f32 79 (by decide)).trans (f15 79 (by decide))) hI111
  have p59 : jBook σ30 := jBook.fr ((f33 47 (by decide)).trans (congrFun (f15 55 (by decide)) 47)) ((f33 10 (by decide)).trans (congrFun (f15 55 (by decide)) 10)) ((f32 81 (by decide)).trans (f15 81 (by decide))) hs_jBook
  have z60 : (σ30 38 0).toInt = (σ 38 0).toInt := (congrArg Int32.toInt (show σ30 38 0 = (σ 38 0) from ((congrFun (f32 38 (by decide)) 0).trans (congrFun (f15 38 (by decide)) 0))))
  have z61 : (σ30 55 32).toInt = (σ 55 32).toInt := (congrArg Int32.toInt (show σ30 55 32 = (σ 55 32) from ((f33 32 (by decide)).trans (congrFun (f15 55 (by decide)) 32))))
  exact ih x38 σ30 τ _ _ ls (by have h9 := tx38; omega) ⟨I39, I40, I41, I42, I43, I44, I45, I46, I47, I48, I49, I50, I51, I52, I53, I54, I55, I56, I34, I57, I58, I35, p36, p59, (by omega), (show jShP (σ30 51) (σ30 52) (σ30 53) (σ30 86) (σ30 87) (σ30 55 32).toInt by rw [show σ30 51 = σ 51 from ((f32 51 (by decide)).trans (f15 51 (by decide))), show σ30 52 = σ 52 from ((f32 52 (by decide)).trans (f15 52 (by decide))), show σ30 53 = σ 53 from ((f32 53 (by decide)).trans (f15 53 (by decide))), show σ30 86 = σ 86 from ((f32 86 (by decide)).trans (f15 86 (by decide))), show σ30 87 = σ 87 from ((f32 87 (by decide)).trans (f15 87 (by decide)))]; exact (hr0.up (by omega) (by omega))), (show jKd (σ30 39) (σ30 70) (σ30 55 32).toInt by rw [show σ30 39 = σ 39 from ((f32 39 (by decide)).trans (f15 39 (by decide))), show σ30 70 = σ 70 from ((f32 70 (by decide)).trans (f15 70 (by decide))), show (σ30 55 32).toInt = (σ 55 32).toInt from by omega]; exact hr1)⟩ hP hS (lv_sub hl [0, 1, 2, 3] rfl)
set_option maxHeartbeats 4000000 in
set_option maxRecDepth 100000 in
theorem law_case_25 {p : Program} {e : Env} {s : State} {m : MethodId} {below : List Frame} {meth : Method} {c : Code} (l : Launch) {b L : Nat} {xs : Nat → Int32} {D : va_G} {cI cL : ClassId} {ad zz : Nat → Nat} (C0 : lw_At p s m meth c b L xs) (hJ : jD ad) (hA : ∀ q, jA ad q → s.heap.size ≤ q) (hK : jK D cI cL s) (hZ : jZ zz (fun q : Nat => s.heap.size ≤ q) s s.heap) {x0 : Int32} (hx0 : 0 ≤ x0.toInt) (hxL : x0.toInt + 6 ≤ (L : Int)) (hL : L ≤ 384) {σ : Nat → Nat → Int32} {τ : Nat → Nat → Int64} {H : Heap} {locs : List Loc} (hS : va_S (fun q : Nat => s.heap.size ≤ q) s.heap H locs) {ls : Array Slot} (hAll : jAll σ τ) (hP : jH D cI cL ad σ τ H) (hl : lv_has ls 4 [(3, .int x0), (2, .ref (ad 55)), (1, .ref (ad 0)), (0, .ref b)]) (ih : ∀ (x1 : Int32) (σ : Nat → Nat → Int32) (τ : Nat → Nat → Int64) (H : Heap) (locs : List Loc) (ls : Array Slot), x1.toInt = x0.toInt + 6 → jAll σ τ → jH D cI cL ad σ τ H → va_S (fun q : Nat => s.heap.size ≤ q) s.heap H locs → lv_has ls 4 [(3, .int x1), (2, .ref (ad 55)), (1, .ref (ad 0)), (0, .ref b)] → W p l e room_1 s m #[Value.ref b] below meth c H locs 90 348600 (lw_Z below #[Value.ref b] s) (F0 m 18 ls [])) : W p l e room_1 s m #[Value.ref b] below meth c H locs 90 348600 (lw_Z below #[Value.ref b] s) (F0 m 931 ls []) := by
  obtain ⟨hx, hb, hr, hml, hown, hts0, hX, hbl, hlocks, hgv⟩ := C0
  have hts : ∀ w ∈ wsL_law, w.before #[Value.ref b] s = true := fun w h => hts0 w (wsL_law_in w h)
  have hbA : ¬ (fun q : Nat => s.heap.size ≤ q) b := Nat.not_le.mpr hbl
  have hown : s.vm.findClass RL = some m.cls := hown
  obtain ⟨hI2, hI9, hI12, hI16, hI18, hI22, hI31, hI38, hI43, hI47, hI50, hI101, hI102, hI103, hI104, hI105, hI106, hI107, hI109, hI110, hI111, hI119, hs_jKept, hs_jBook, ht0, hr0, hr1⟩ := hAll
  have hL9 : (L : Int) ≤ 384 := by omega
  obtain ⟨i1, i2, w3⟩ : (0 ≤ (σ 38 0).toInt ∧ (σ 38 0).toInt ≤ 20) ∧ (0 ≤ (σ 38 1).toInt ∧ (σ 38 1).toInt ≤ 1000) ∧ (∀ k : Nat, k < 20 → 0 ≤ (σ 39 k).toInt ∧ (σ 39 k).toInt ≤ 6) := id hI38
  obtain ⟨i4, w5, w6, w7⟩ : (0 ≤ (σ 55 32).toInt ∧ (σ 55 32).toInt ≤ 20) ∧ (∀ k : Nat, k < 20 → 0 ≤ (σ 70 k).toInt ∧ (σ 70 k).toInt ≤ 6) ∧ (∀ k : Nat, k < 20 → 0 ≤ (σ 71 k).toInt ∧ (σ 71 k).toInt ≤ 8) ∧ (∀ k : Nat, k < 160 → 0 ≤ (σ 72 k).toInt ∧ (σ 72 k).toInt ≤ 3) := id hI106
  refine lv_aload_n hx hb dL_law_931 rfl (lv_at hl 2 rfl) ?_
  refine lv_aload_n hx hb dL_law_932 rfl (lv_at hl 3 rfl) ?_
  refine lv_iload_n hx hb dL_law_933 rfl (lv_at hl 0 rfl) ?_
  refine lv_iconst (v := 1) hx hb dL_law_934 (by decide) ?_
  have g8 := jrg (rfl : x0.toInt = x0.toInt)
  refine lv_iadd hx hb dL_law_935 ?_
  refine lv_topi (fun x9 ex9 => ?_)
  have tx9 : x9.toInt = x0.toInt + 1 := (jadd ex9 rfl jz_1 (by omega) (by omega)).trans (by omega)
  refine va_sld hx hb hX hbl hbA hS (jin tx9 (by omega) (by omega)) dL_law_936 ?_
  have g10 := jrg (rfl : (xs x9.toNatClampNeg).toInt = (xs x9.toNatClampNeg).toInt)
  refine lv_aload_n hx hb dL_law_937 rfl (lv_at hl 3 rfl) ?_
  refine lv_iload_n hx hb dL_law_938 rfl (lv_at hl 0 rfl) ?_
  refine lv_iconst (v := 2) hx hb dL_law_939 (by decide) ?_
  refine lv_iadd hx hb dL_law_940 ?_
  refine lv_topi (fun x11 ex11 => ?_)
  have tx11 : x11.toInt = x0.toInt + 2 := (jadd ex11 rfl jz_2 (by omega) (by omega)).trans (by omega)
  refine va_sld hx hb hX hbl hbA hS (jin tx11 (by omega) (by omega)) dL_law_941 ?_
  have g12 := jrg (rfl : (xs x11.toNatClampNeg).toInt = (xs x11.toNatClampNeg).toInt)
  refine jcallV (As := [.int (xs x9.toNatClampNeg), .int (xs x11.toNatClampNeg)]) (rest := []) ⟨hx, hb, hml, hown, hts⟩ hK hP hA hS hZ (c_X11_led l D cI cL ad zz hJ σ τ (xs x9.toNatClampNeg) ((xs x9.toNatClampNeg).toInt) rfl (xs x11.toNatClampNeg) ((xs x11.toNatClampNeg).toInt) rfl hI43) cw_RL_117 (jc_0 cI cL ad σ τ) rfl ⟨Nat.le_of_ble_eq_true rfl, Nat.le_of_ble_eq_true rfl⟩ rfl rfl rfl hl.1 rfl (Nat.le_of_ble_eq_true rfl) dL_law_942 ⟨Nat.le_of_ble_eq_true rfl, Nat.le_of_ble_eq_true rfl⟩ (fun r14 σ13 τ13 H locs h13 hP hS => ?_)
  obtain ⟨⟨rfl, rfl⟩, h13⟩ := h13
  refine lv_pop hx hb dL_law_945 rfl ?_
  refine lv_aload_n hx hb dL_law_946 rfl (lv_at hl 1 rfl) ?_
  refine lv_aload_n hx hb dL_law_947 rfl (lv_at hl 3 rfl) ?_
  refine lv_iload_n hx hb dL_law_948 rfl (lv_at hl 0 rfl) ?_
  refine lv_iconst (v := 1) hx hb dL_law_949 (by decide) ?_
  refine lv_iadd hx hb dL_law_950 ?_
  refine jtopr ex9.symm ?_
  refine va_sld hx hb hX hbl hbA hS (jin tx9 (by omega) (by omega)) dL_law_951 ?_
  refine lv_aload_n hx hb dL_law_952 rfl (lv_at hl 3 rfl) ?_
  refine lv_iload_n hx hb dL_law_953 rfl (lv_at hl 0 rfl) ?_
  refine lv_iconst (v := 2) hx hb dL_law_954 (by decide) ?_
  refine lv_iadd hx hb dL_law_955 ?_
  refine jtopr ex11.symm ?_
  refine va_sld hx hb hX hbl hbA hS (jin tx11 (by omega) (by omega)) dL_law_956 ?_
  refine jcallV (As := [.int (xs x9.toNatClampNeg), .int (xs x11.toNatClampNeg)]) (rest := []) ⟨hx, hb, hml, hown, hts⟩ hK hP hA hS hZ (c_X12_led l D cI cL ad zz hJ σ τ (xs x9.toNatClampNeg) ((xs x9.toNatClampNeg).toInt) rfl (xs x11.toNatClampNeg) ((xs x11.toNatClampNeg).toInt) rfl hI109) cw_RL_120 (jc_55 cI cL ad σ τ) rfl ⟨Nat.le_of_ble_eq_true rfl, Nat.le_of_ble_eq_true rfl⟩ rfl rfl rfl hl.1 rfl (Nat.le_of_ble_eq_true rfl) dL_law_957 ⟨Nat.le_of_ble_eq_true rfl, Nat.le_of_ble_eq_true rfl⟩ (fun r16 σ15 τ15 H locs h15 hP hS => ?_)
  obtain ⟨⟨rfl, rfl⟩, h15⟩ := h15
  refine lv_pop hx hb dL_law_960 rfl ?_
  refine lv_goto (tgt := 1357) hx hb dL_law_961 (by decide) ?_
  obtain ⟨x17, ex17⟩ : ∃ y : Int32, y = x0 + 6 := ⟨_, rfl⟩
  have tx17 : x17.toInt = x0.toInt + 6 := (jadd ex17 rfl jz_6 (by omega) (by omega)).trans (by omega)
  refine lv_iinc (v := x17) (lv' := [(3, .int x17), (2, .ref (ad 55)), (1, .ref (ad 0)), (0, .ref b)]) hx hb dL_law_1357 hl (k := 0) rfl (by rw [ex17]; rfl) (by decide) rfl (fun ls hl => ?_)
  refine lv_goto (tgt := 18) hx hb dL_law_1360 (by decide) ?_
  exact ih x17 σ τ _ _ ls (by have h9 := tx17; omega) ⟨hI2, hI9, hI12, hI16, hI18, hI22, hI31, hI38, hI43, hI47, hI50, hI101, hI102, hI103, hI104, hI105, hI106, hI107, hI109, hI110, hI111, hI119, hs_jKept, hs_jBook, (by omega), hr0, hr1⟩ hP hS (lv_sub hl [0, 1, 2, 3] rfl)
set_option maxHeartbeats 4000000 in
set_option maxRecDepth 100000 in
theorem law_case_26 {p : Program} {e : Env} {s : State} {m : MethodId} {below : List Frame} {meth : Method} {c : Code} (l : Launch) {b L : Nat} {xs : Nat → Int32} {D : va_G} {cI cL : ClassId} {ad zz : Nat → Nat} (C0 : lw_At p s m meth c b L xs) (hJ : jD ad) (hA : ∀ q, jA ad q → s.heap.size ≤ q) (hK : jK D cI cL s) (hZ : jZ zz (fun q : Nat => s.heap.size ≤ q) s s.heap) {x0 : Int32} (hx0 : 0 ≤ x0.toInt) (hxL : x0.toInt + 6 ≤ (L : Int)) (hL : L ≤ 384) {σ : Nat → Nat → Int32} {τ : Nat → Nat → Int64} {H : Heap} {locs : List Loc} (hS : va_S (fun q : Nat => s.heap.size ≤ q) s.heap H locs) {ls : Array Slot} (hAll : jAll σ τ) (hP : jH D cI cL ad σ τ H) (hl : lv_has ls 4 [(3, .int x0), (2, .ref (ad 55)), (1, .ref (ad 0)), (0, .ref b)]) (ih : ∀ (x1 : Int32) (σ : Nat → Nat → Int32) (τ : Nat → Nat → Int64) (H : Heap) (locs : List Loc) (ls : Array Slot), x1.toInt = x0.toInt + 6 → jAll σ τ → jH D cI cL ad σ τ H → va_S (fun q : Nat => s.heap.size ≤ q) s.heap H locs → lv_has ls 4 [(3, .int x1), (2, .ref (ad 55)), (1, .ref (ad 0)), (0, .ref b)] → W p l e room_1 s m #[Value.ref b] below meth c H locs 90 348600 (lw_Z below #[Value.ref b] s) (F0 m 18 ls [])) : W p l e room_1 s m #[Value.ref b] below meth c H locs 90 348600 (lw_Z below #[Value.ref b] s) (F0 m 964 ls []) := by
  obtain ⟨hx, hb, hr, hml, hown, hts0, hX, hbl, hlocks, hgv⟩ := C0
  have hts : ∀ w ∈ wsL_law, w.before #[Value.ref b] s = true := fun w h => hts0 w (wsL_law_in w h)
  have hbA : ¬ (fun q : Nat => s.heap.size ≤ q) b := Nat.not_le.mpr hbl
  have hown : s.vm.findClass RL = some m.cls := hown
  obtain ⟨hI2, hI9, hI12, hI16, hI18, hI22, hI31, hI38, hI43, hI47, hI50, hI101, hI102, hI103, hI104, hI105, hI106, hI107, hI109, hI110, hI111, hI119, hs_jKept, hs_jBook, ht0, hr0, hr1⟩ := hAll
  have hL9 : (L : Int) ≤ 384 := by omega
  obtain ⟨i1, i2, w3⟩ : (0 ≤ (σ 38 0).toInt ∧ (σ 38 0).toInt ≤ 20) ∧ (0 ≤ (σ 38 1).toInt ∧ (σ 38 1).toInt ≤ 1000) ∧ (∀ k : Nat, k < 20 → 0 ≤ (σ 39 k).toInt ∧ (σ 39 k).toInt ≤ 6) := id hI38
  obtain ⟨i4, w5, w6, w7⟩ : (0 ≤ (σ 55 32).toInt ∧ (σ 55 32).toInt ≤ 20) ∧ (∀ k : Nat, k < 20 → 0 ≤ (σ 70 k).toInt ∧ (σ 70 k).toInt ≤ 6) ∧ (∀ k : Nat, k < 20 → 0 ≤ (σ 71 k).toInt ∧ (σ 71 k).toInt ≤ 8) ∧ (∀ k : Nat, k < 160 → 0 ≤ (σ 72 k).toInt ∧ (σ 72 k).toInt ≤ 3) := id hI106
  refine lv_aload_n hx hb dL_law_964 rfl (lv_at hl 2 rfl) ?_
  refine jcallV (As := []) (rest := []) ⟨hx, hb, hml, hown, hts⟩ hK hP hA hS hZ (c_X11_undo l D cI cL ad zz hJ σ τ hI2) cw_RL_121 (jc_0 cI cL ad σ τ) rfl ⟨Nat.le_of_ble_eq_true rfl, Nat.le_of_ble_eq_true rfl⟩ rfl rfl rfl hl.1 rfl (Nat.le_of_ble_eq_true rfl) dL_law_965 ⟨Nat.le_of_ble_eq_true rfl, Nat.le_of_ble_eq_true rfl⟩ (fun r9 σ8 τ8 H locs h8 hP hS => ?_)
  obtain ⟨rfl, f10, f11, I12, h8⟩ := h8
  rcases h8 with h14 | h15
  · obtain ⟨q20, k16, k17, k18, k19⟩ := h14
    have q20 := q20.symm
    subst q20
    refine lv_pop hx hb dL_law_968 rfl ?_
    refine lv_aload_n hx hb dL_law_969 rfl (lv_at hl 1 rfl) ?_
    have I21 : jI101 σ8 := jI101_fr (congrFun (f10 55 (by decide)) 4) (congrFun (f10 55 (by decide)) 5) (f10 56 (by decide)) (f10 57 (by decide)) (f10 58 (by decide)) (f10 59 (by decide)) hI101
    have z22 : (σ8 55 5).toInt = (σ 55 5).toInt := (congrArg Int32.toInt (show σ8 55 5 = (σ 55 5) from (congrFun (f10 55 (by decide)) 5)))
    refine jcallV (As := []) (rest := []) ⟨hx, hb, hml, hown, hts⟩ hK hP hA hS hZ (c_X12_undo l D cI cL ad zz hJ σ8 τ I21) cw_RL_124 (jc_55 cI cL ad σ8 τ) rfl ⟨Nat.le_of_ble_eq_true rfl, Nat.le_of_ble_eq_true rfl⟩ rfl rfl rfl hl.1 rfl (Nat.le_of_ble_eq_true rfl) dL_law_970 ⟨Nat.le_of_ble_eq_true rfl, Nat.le_of_ble_eq_true rfl⟩ (fun r24 σ23 τ23 H locs h23 hP hS => ?_)
    obtain ⟨rfl, f25, f26, I27, h23⟩ := h23
    rcases h23 with h29 | h30
    · obtain ⟨q34, k31, k32, k33⟩ := h29
      have q34 := q34.symm
      subst q34
      refine lv_pop hx hb dL_law_973 rfl ?_
      refine lv_goto (tgt := 1357) hx hb dL_law_974 (by decide) ?_
      obtain ⟨x35, ex35⟩ : ∃ y : Int32, y = x0 + 6 := ⟨_, rfl⟩
      have tx35 : x35.toInt = x0.toInt + 6 := (jadd ex35 rfl jz_6 (by omega) (by omega)).trans (by omega)
      refine lv_iinc (v := x35) (lv' := [(3, .int x35), (2, .ref (ad 55)), (1, .ref (ad 0)), (0, .ref b)]) hx hb dL_law_1357 hl (k := 0) rfl (by rw [ex35]; rfl) (by decide) rfl (fun ls hl => ?_)
      refine lv_goto (tgt := 18) hx hb dL_law_1360 (by decide) ?_
      have I36 : jI2 σ23 := jI2_fr (congrFun (f25 2 (by decide)) 0) (congrFun (f25 2 (by decide)) 1) (congrFun (f25 2 (by decide)) 2) (congrFun (f25 2 (by decide)) 3) (f25 6 (by decide)) I12
      have I37 : jI9 σ23 := jI9_fr ((congrFun (f25 9 (by decide)) 0).trans (congrFun (f10 9 (by decide)) 0)) ((f25 10 (by decide)).trans (f10 10 (by decide))) ((f25 11 (by decide)).trans (f10 11 (by decide))) hI9
      have I38 : jI12 σ23 := jI12_fr ((congrFun (f25 12 (by decide)) 0).trans (congrFun (f10 12 (by decide)) 0)) ((f25 13 (by decide)).trans (f10 13 (by decide))) hI12
      have I39 : jI16 σ23 := jI16_fr ((congrFun (f25 16 (by decide)) 0).trans (congrFun (f10 16 (by decide)) 0)) ((congrFun (f25 16 (by decide)) 1).trans (congrFun (f10 16 (by decide)) 1)) ((congrFun (f25 16 (by decide)) 2).trans (congrFun (f10 16 (by decide)) 2)) ((f25 17 (by decide)).trans (f10 17 (by decide))) hI16
      have I40 : jI18 σ23 := jI18_fr ((congrFun (f25 18 (by decide)) 0).trans (congrFun (f10 18 (by decide)) 0)) ((f25 19 (by decide)).trans (f10 19 (by decide))) hI18
      have I41 : jI22 σ23 := jI22_fr ((congrFun (f25 22 (by decide)) 0).trans (congrFun (f10 22 (by decide)) 0)) ((f25 23 (by decide)).trans (f10 23 (by decide))) hI22
      have I42 : jI31 σ23 := jI31_fr ((congrFun (f25 31 (by decide)) 8).trans (congrFun (f10 31 (by decide)) 8)) ((f25 33 (by decide)).trans (f10 33 (by decide))) ((f25 36 (by decide)).trans (f10 36 (by decide))) hI31
      have I43 : jI38 σ23 := jI38_fr ((congrFun (f25 38 (by decide)) 0).trans (congrFun (f10 38 (by decide)) 0)) ((congrFun (f25 38 (by decide)) 1).trans (congrFun (f10 38 (by decide)) 1)) ((f25 39 (by decide)).trans (f10 39 (by decide))) hI38
      have I44 : jI43 σ23 := jI43_fr ((congrFun (f25 43 (by decide)) 8).trans (congrFun (f10 43 (by decide)) 8)) hI43
      have I45 : jI47 σ23 := jI47_fr ((congrFun (f25 47 (by decide)) 0).trans (congrFun (f10 47 (by decide)) 0)) ((f25 48 (by decide)).trans (f10 48 (by decide))) ((f25 49 (by decide)).trans (f10 49 (by decide))) hI47
      have I46 : jI50 σ23 := jI50_fr ((f25 52 (by decide)).trans (f10 52 (by decide))) hI50
      have I47 : jI102 σ23 := jI102_fr ((f26 6 (by decide)).trans (congrFun (f10 55 (by decide)) 6)) ((f25 60 (by decide)).trans (f10 60 (by decide))) ((f25 61 (by decide)).trans (f10 61 (by decide))) hI102
      have I48 : jI103 σ23 := jI103_fr ((f26 9 (by decide)).trans (congrFun (f10 55 (by decide)) 9)) hI103
      have I49 : jI104 σ23 := jI104_fr ((f26 10 (by decide)).trans (congrFun (f10 55 (by decide)) 10)) ((f26 12 (by decide)).trans (congrFun (f10 55 (by decide)) 12)) ((f26 13 (by decide)).trans (congrFun (f10 55 (by decide)) 13)) ((f25 62 (by decide)).trans (f10 62 (by decide))) ((f25 67 (by decide)).trans (f10 67 (by decide))) hI104
      have I50 : jI105 σ23 := jI105_fr ((f26 15 (by decide)).trans (congrFun (f10 55 (by decide)) 15)) ((f25 65 (by decide)).trans (f10 65 (by decide))) hI105
      have I51 : jI106 σ23 := jI106_fr ((f26 32 (by decide)).trans (congrFun (f10 55 (by decide)) 32)) ((f25 70 (by decide)).trans (f10 70 (by decide))) ((f25 71 (by decide)).trans (f10 71 (by decide))) ((f25 72 (by decide)).trans (f10 72 (by decide))) hI106
      have I52 : jI107 σ23 := jI107_fr ((f26 12 (by decide)).trans (congrFun (f10 55 (by decide)) 12)) ((f26 47 (by decide)).trans (congrFun (f10 55 (by decide)) 47)) ((f25 80 (by decide)).trans (f10 80 (by decide))) hI107
      have I53 : jI109 σ23 := jI109_fr ((f26 50 (by decide)).trans (congrFun (f10 55 (by decide)) 50)) hI109
      have I54 : jI110 σ23 := jI110_fr ((f25 86 (by decide)).trans (f10 86 (by decide))) ((f25 87 (by decide)).trans (f10 87 (by decide))) hI110
      have I55 : jI111 σ23 := jI111_fr ((f25 79 (by decide)).trans (f10 79 (by decide))) hI111
      have I56 : jI119 σ23 := jI119_fr ((f25 68 (by decide)).trans (f10 68 (by decide))) hI119
      have p57 : jKept σ23 := jKept.fr ((f25 75 (by decide)).trans (f10 75 (by decide))) ((f25 76 (by decide)).trans (f10 76 (by decide))) ((f25 77 (by decide)).trans (f10 77 (by decide))) hs_jKept
      have p58 : jBook σ23 := jBook.fr ((f26 47 (by decide)).trans (congrFun (f10 55 (by decide)) 47)) ((f26 10 (by decide)).trans (congrFun (f10 55 (by decide)) 10)) ((f25 81 (by decide)).trans (f10 81 (by decide))) hs_jBook
      have z59 : (σ23 38 0).toInt = (σ 38 0).toInt := (congrArg Int32.toInt (show σ23 38 0 = (σ 38 0) from ((congrFun (f25 38 (by decide)) 0).trans (congrFun (f10 38 (by decide)) 0))))
      have z60 : (σ23 55 32).toInt = (σ 55 32).toInt := (congrArg Int32.toInt (show σ23 55 32 = (σ 55 32) from ((f26 32 (by decide)).trans (congrFun (f10 55 (by decide)) 32))))
      exact ih x35 σ23 τ _ _ ls (by have h9 := tx35; omega) ⟨I36, I37, I38, I39, I40, I41, I42, I43, I44, I45, I46, I27, I47, I48, I49, I50, I51, I52, I53, I54, I55, I56, p57, p58, (by omega), (show jShP (σ23 51) (σ23 52) (σ23 53) (σ23 86) (σ23 87) (σ23 55 32).toInt by rw [show σ23 51 = σ 51 from ((f25 51 (by decide)).trans (f10 51 (by decide))), show σ23 52 = σ 52 from ((f25 52 (by decide)).trans (f10 52 (by decide))), show σ23 53 = σ 53 from ((f25 53 (by decide)).trans (f10 53 (by decide))), show σ23 86 = σ 86 from ((f25 86 (by decide)).trans (f10 86 (by decide))), show σ23 87 = σ 87 from ((f25 87 (by decide)).trans (f10 87 (by decide)))]; exact (hr0.up (by omega) (by omega))), (show jKd (σ23 39) (σ23 70) (σ23 55 32).toInt by rw [show σ23 39 = σ 39 from ((f25 39 (by decide)).trans (f10 39 (by decide))), show σ23 70 = σ 70 from ((f25 70 (by decide)).trans (f10 70 (by decide))), show (σ23 55 32).toInt = (σ 55 32).toInt from by omega]; exact hr1)⟩ hP hS (lv_sub hl [0, 1, 2, 3] rfl)
    · obtain ⟨q66, k61, k62, k63, k64, k65⟩ := h30
      refine lv_pop hx hb dL_law_973 rfl ?_
      refine lv_goto (tgt := 1357) hx hb dL_law_974 (by decide) ?_
      obtain ⟨x67, ex67⟩ : ∃ y : Int32, y = x0 + 6 := ⟨_, rfl⟩
      have tx67 : x67.toInt = x0.toInt + 6 := (jadd ex67 rfl jz_6 (by omega) (by omega)).trans (by omega)
      refine lv_iinc (v := x67) (lv' := [(3, .int x67), (2, .ref (ad 55)), (1, .ref (ad 0)), (0, .ref b)]) hx hb dL_law_1357 hl (k := 0) rfl (by rw [ex67]; rfl) (by decide) rfl (fun ls hl => ?_)
      refine lv_goto (tgt := 18) hx hb dL_law_1360 (by decide) ?_
      have I68 : jI2 σ23 := jI2_fr (congrFun (f25 2 (by decide)) 0) (congrFun (f25 2 (by decide)) 1) (congrFun (f25 2 (by decide)) 2) (congrFun (f25 2 (by decide)) 3) (f25 6 (by decide)) I12
      have I69 : jI9 σ23 := jI9_fr ((congrFun (f25 9 (by decide)) 0).trans (congrFun (f10 9 (by decide)) 0)) ((f25 10 (by decide)).trans (f10 10 (by decide))) ((f25 11 (by decide)).trans (f10 11 (by decide))) hI9
      have I70 : jI12 σ23 := jI12_fr ((congrFun (f25 12 (by decide)) 0).trans (congrFun (f10 12 (by decide)) 0)) ((f25 13 (by decide)).trans (f10 13 (by decide))) hI12
      have I71 : jI16 σ23 := jI16_fr ((congrFun (f25 16 (by decide)) 0).trans (congrFun (f10 16 (by decide)) 0)) ((congrFun (f25 16 (by decide)) 1).trans (congrFun (f10 16 (by decide)) 1)) ((congrFun (f25 16 (by decide)) 2).trans (congrFun (f10 16 (by decide)) 2)) ((f25 17 (by decide)).trans (f10 17 (by decide))) hI16
      have I72 : jI18 σ23 := jI18_fr ((congrFun (f25 18 (by decide)) 0).trans (congrFun (f10 18 (by decide)) 0)) ((f25 19 (by decide)).trans (f10 19 (by decide))) hI18
      have I73 : jI22 σ23 := jI22_fr ((congrFun (f25 22 (by decide)) 0).trans (congrFun (f10 22 (by decide)) 0)) ((f25 23 (by decide)).trans (f10 23 (by decide))) hI22
      have I74 : jI31 σ23 := jI31_fr ((congrFun (f25 31 (by decide)) 8).trans (congrFun (f10 31 (by decide)) 8)) ((f25 33 (by decide)).trans (f10 33 (by decide))) ((f25 36 (by decide)).trans (f10 36 (by decide))) hI31
      have I75 : jI38 σ23 := jI38_fr ((congrFun (f25 38 (by decide)) 0).trans (congrFun (f10 38 (by decide)) 0)) ((congrFun (f25 38 (by decide)) 1).trans (congrFun (f10 38 (by decide)) 1)) ((f25 39 (by decide)).trans (f10 39 (by decide))) hI38
      have I76 : jI43 σ23 := jI43_fr ((congrFun (f25 43 (by decide)) 8).trans (congrFun (f10 43 (by decide)) 8)) hI43
      have I77 : jI47 σ23 := jI47_fr ((congrFun (f25 47 (by decide)) 0).trans (congrFun (f10 47 (by decide)) 0)) ((f25 48 (by decide)).trans (f10 48 (by decide))) ((f25 49 (by decide)).trans (f10 49 (by decide))) hI47
      have I78 : jI50 σ23 := jI50_fr ((f25 52 (by decide)).trans (f10 52 (by decide))) hI50
      have I79 : jI102 σ23 := jI102_fr ((f26 6 (by decide)).trans (congrFun (f10 55 (by decide)) 6)) ((f25 60 (by decide)).trans (f10 60 (by decide))) ((f25 61 (by decide)).trans (f10 61 (by decide))) hI102
      have I80 : jI103 σ23 := jI103_fr ((f26 9 (by decide)).trans (congrFun (f10 55 (by decide)) 9)) hI103
      have I81 : jI104 σ23 := jI104_fr ((f26 10 (by decide)).trans (congrFun (f10 55 (by decide)) 10)) ((f26 12 (by decide)).trans (congrFun (f10 55 (by decide)) 12)) ((f26 13 (by decide)).trans (congrFun (f10 55 (by decide)) 13)) ((f25 62 (by decide)).trans (f10 62 (by decide))) ((f25 67 (by decide)).trans (f10 67 (by decide))) hI104
      have I82 : jI105 σ23 := jI105_fr ((f26 15 (by decide)).trans (congrFun (f10 55 (by decide)) 15)) ((f25 65 (by decide)).trans (f10 65 (by decide))) hI105
      have I83 : jI106 σ23 := jI106_fr ((f26 32 (by decide)).trans (congrFun (f10 55 (by decide)) 32)) ((f25 70 (by decide)).trans (f10 70 (by decide))) ((f25 71 (by decide)).trans (f10 71 (by decide))) ((f25 72 (by decide)).trans (f10 72 (by decide))) hI106
      have I84 : jI107 σ23 := jI107_fr ((f26 12 (by decide)).trans (congrFun (f10 55 (by decide)) 12)) ((f26 47 (by decide)).trans (congrFun (f10 55 (by decide)) 47)) ((f25 80 (by decide)).trans (f10 80 (by decide))) hI107
      have I85 : jI109 σ23 := jI109_fr ((f26 50 (by decide)).trans (congrFun (f10 55 (by decide)) 50)) hI109
      have I86 : jI110 σ23 := jI110_fr ((f25 86 (by decide)).trans (f10 86 (by decide))) ((f25 87 (by decide)).trans (f10 87 (by decide))) hI110
      have I87 : jI111 σ23 := jI111_fr ((f25 79 (by decide)).trans (f10 79 (by decide))) hI111
      have I88 : jI119 σ23 := jI119_fr ((f25 68 (by decide)).trans (f10 68 (by decide))) hI119
      have p89 : jKept σ23 := jKept.fr ((f25 75 (by decide)).trans (f10 75 (by decide))) ((f25 76 (by decide)).trans (f10 76 (by decide))) ((f25 77 (by decide)).trans (f10 77 (by decide))) hs_jKept
      have p90 : jBook σ23 := jBook.fr ((f26 47 (by decide)).trans (congrFun (f10 55 (by decide)) 47)) ((f26 10 (by decide)).trans (congrFun (f10 55 (by decide)) 10)) ((f25 81 (by decide)).trans (f10 81 (by decide))) hs_jBook
      have z91 : (σ23 38 0).toInt = (σ 38 0).toInt := (congrArg Int32.toInt (show σ23 38 0 = (σ 38 0) from ((congrFun (f25 38 (by decide)) 0).trans (congrFun (f10 38 (by decide)) 0))))
      have z92 : (σ23 55 32).toInt = (σ 55 32).toInt := (congrArg Int32.toInt (show σ23 55 32 = (σ 55 32) from ((f26 32 (by decide)).trans (congrFun (f10 55 (by decide)) 32))))
      exact ih x67 σ23 τ _ _ ls (by have h9 := tx67; omega) ⟨I68, I69, I70, I71, I72, I73, I74, I75, I76, I77, I78, I27, I79, I80, I81, I82, I83, I84, I85, I86, I87, I88, p89, p90, (by omega), (show jShP (σ23 51) (σ23 52) (σ23 53) (σ23 86) (σ23 87) (σ23 55 32).toInt by rw [show σ23 51 = σ 51 from ((f25 51 (by decide)).trans (f10 51 (by decide))), show σ23 52 = σ 52 from ((f25 52 (by decide)).trans (f10 52 (by decide))), show σ23 53 = σ 53 from ((f25 53 (by decide)).trans (f10 53 (by decide))), show σ23 86 = σ 86 from ((f25 86 (by decide)).trans (f10 86 (by decide))), show σ23 87 = σ 87 from ((f25 87 (by decide)).trans (f10 87 (by decide)))]; exact (hr0.up (by omega) (by omega))), (show jKd (σ23 39) (σ23 70) (σ23 55 32).toInt by rw [show σ23 39 = σ 39 from ((f25 39 (by decide)).trans (f10 39 (by decide))), show σ23 70 = σ 70 from ((f25 70 (by decide)).trans (f10 70 (by decide))), show (σ23 55 32).toInt = (σ 55 32).toInt from by omega]; exact hr1)⟩ hP hS (lv_sub hl [0, 1, 2, 3] rfl)
  · obtain ⟨q99, k93, k94, k95, k96, k97, k98⟩ := h15
    refine lv_pop hx hb dL_law_968 rfl ?_
    refine lv_aload_n hx hb dL_law_969 rfl (lv_at hl 1 rfl) ?_
    have I100 : jI101 σ8 := jI101_fr (congrFun (f10 55 (by decide)) 4) (congrFun (f10 55 (by decide)) 5) (f10 56 (by decide)) (f10 57 (by decide)) (f10 58 (by decide)) (f10 59 (by decide)) hI101
    have z101 : (σ8 55 5).toInt = (σ 55 5).toInt := (congrArg Int32.toInt (show σ8 55 5 = (σ 55 5) from (congrFun (f10 55 (by decide)) 5)))
    refine jcallV (As := []) (rest := []) ⟨hx, hb, hml, hown, hts⟩ hK hP hA hS hZ (c_X12_undo l D cI cL ad zz hJ σ8 τ I100) cw_RL_124 (jc_55 cI cL ad σ8 τ) rfl ⟨Nat.le_of_ble_eq_true rfl, Nat.le_of_ble_eq_true rfl⟩ rfl rfl rfl hl.1 rfl (Nat.le_of_ble_eq_true rfl) dL_law_970 ⟨Nat.le_of_ble_eq_true rfl, Nat.le_of_ble_eq_true rfl⟩ (fun r103 σ102 τ102 H locs h102 hP hS => ?_)
    obtain ⟨rfl, f104, f105, I106, h102⟩ := h102
    rcases h102 with h108 | h109
    · obtain ⟨q113, k110, k111, k112⟩ := h108
      have q113 := q113.symm
      subst q113
      refine lv_pop hx hb dL_law_973 rfl ?_
      refine lv_goto (tgt := 1357) hx hb dL_law_974 (by decide) ?_
      obtain ⟨x114, ex114⟩ : ∃ y : Int32, y = x0 + 6 := ⟨_, rfl⟩
      have tx114 : x114.toInt = x0.toInt + 6 := (jadd ex114 rfl jz_6 (by omega) (by omega)).trans (by omega)
      refine lv_iinc (v := x114) (lv' := [(3, .int x114), (2, .ref (ad 55)), (1, .ref (ad 0)), (0, .ref b)]) hx hb dL_law_1357 hl (k := 0) rfl (by rw [ex114]; rfl) (by decide) rfl (fun ls hl => ?_)
      refine lv_goto (tgt := 18) hx hb dL_law_1360 (by decide) ?_
      have I115 : jI2 σ102 := jI2_fr (congrFun (f104 2 (by decide)) 0) (congrFun (f104 2 (by decide)) 1) (congrFun (f104 2 (by decide)) 2) (congrFun (f104 2 (by decide)) 3) (f104 6 (by decide)) I12
      have I116 : jI9 σ102 := jI9_fr ((congrFun (f104 9 (by decide)) 0).trans (congrFun (f10 9 (by decide)) 0)) ((f104 10 (by decide)).trans (f10 10 (by decide))) ((f104 11 (by decide)).trans (f10 11 (by decide))) hI9
      have I117 : jI12 σ102 := jI12_fr ((congrFun (f104 12 (by decide)) 0).trans (congrFun (f10 12 (by decide)) 0)) ((f104 13 (by decide)).trans (f10 13 (by decide))) hI12
      have I118 : jI16 σ102 := jI16_fr ((congrFun (f104 16 (by decide)) 0).trans (congrFun (f10 16 (by decide)) 0)) ((congrFun (f104 16 (by decide)) 1).trans (congrFun (f10 16 (by decide)) 1)) ((congrFun (f104 16 (by decide)) 2).trans (congrFun (f10 16 (by decide)) 2)) ((f104 17 (by decide)).trans (f10 17 (by decide))) hI16
      have I119 : jI18 σ102 := jI18_fr ((congrFun (f104 18 (by decide)) 0).trans (congrFun (f10 18 (by decide)) 0)) ((f104 19 (by decide)).trans (f10 19 (by decide))) hI18
      have I120 : jI22 σ102 := jI22_fr ((congrFun (f104 22 (by decide)) 0).trans (congrFun (f10 22 (by decide)) 0)) ((f104 23 (by decide)).trans (f10 23 (by decide))) hI22
      have I121 : jI31 σ102 := jI31_fr ((congrFun (f104 31 (by decide)) 8).trans (congrFun (f10 31 (by decide)) 8)) ((f104 33 (by decide)).trans (f10 33 (by decide))) ((f104 36 (by decide)).trans (f10 36 (by decide))) hI31
      have I122 : jI38 σ102 := jI38_fr ((congrFun (f104 38 (by decide)) 0).trans (congrFun (f10 38 (by decide)) 0)) ((congrFun (f104 38 (by decide)) 1).trans (congrFun (f10 38 (by decide)) 1)) ((f104 39 (by decide)).trans (f10 39 (by decide))) hI38
      have I123 : jI43 σ102 := jI43_fr ((congrFun (f104 43 (by decide)) 8).trans (congrFun (f10 43 (by decide)) 8)) hI43
      have I124 : jI47 σ102 := jI47_fr ((congrFun (f104 47 (by decide)) 0).trans (congrFun (f10 47 (by decide)) 0)) ((f104 48 (by decide)).trans (f10 48 (by decide))) ((f104 49 (by decide)).trans (f10 49 (by decide))) hI47
      have I125 : jI50 σ102 := jI50_fr ((f104 52 (by decide)).trans (f10 52 (by decide))) hI50
      have I126 : jI102 σ102 := jI102_fr ((f105 6 (by decide)).trans (congrFun (f10 55 (by decide)) 6)) ((f104 60 (by decide)).trans (f10 60 (by decide))) ((f104 61 (by decide)).trans (f10 61 (by decide))) hI102
      have I127 : jI103 σ102 := jI103_fr ((f105 9 (by decide)).trans (congrFun (f10 55 (by decide)) 9)) hI103
      have I128 : jI104 σ102 := jI104_fr ((f105 10 (by decide)).trans (congrFun (f10 55 (by decide)) 10)) ((f105 12 (by decide)).trans (congrFun (f10 55 (by decide)) 12)) ((f105 13 (by decide)).trans (congrFun (f10 55 (by decide)) 13)) ((f104 62 (by decide)).trans (f10 62 (by decide))) ((f104 67 (by decide)).trans (f10 67 (by decide))) hI104
      have I129 : jI105 σ102 := jI105_fr ((f105 15 (by decide)).trans (congrFun (f10 55 (by decide)) 15)) ((f104 65 (by decide)).trans (f10 65 (by decide))) hI105
      have I130 : jI106 σ102 := jI106_fr ((f105 32 (by decide)).trans (congrFun (f10 55 (by decide)) 32)) ((f104 70 (by decide)).trans (f10 70 (by decide))) ((f104 71 (by decide)).trans (f10 71 (by decide))) ((f104 72 (by decide)).trans (f10 72 (by decide))) hI106
      have I131 : jI107 σ102 := jI107_fr ((f105 12 (by decide)).trans (congrFun (f10 55 (by decide)) 12)) ((f105 47 (by decide)).trans (congrFun (f10 55 (by decide)) 47)) ((f104 80 (by decide)).trans (f10 80 (by decide))) hI107
      have I132 : jI109 σ102 := jI109_fr ((f105 50 (by decide)).trans (congrFun (f10 55 (by decide)) 50)) hI109
      have I133 : jI110 σ102 := jI110_fr ((f104 86 (by decide)).trans (f10 86 (by decide))) ((f104 87 (by decide)).trans (f10 87 (by decide))) hI110
      have I134 : jI111 σ102 := jI111_fr ((f104 79 (by decide)).trans (f10 79 (by decide))) hI111
      have I135 : jI119 σ102 := jI119_fr ((f104 68 (by decide)).trans (f10 68 (by decide))) hI119
      have p136 : jKept σ102 := jKept.fr ((f104 75 (by decide)).trans (f10 75 (by decide))) ((f104 76 (by decide)).trans (f10 76 (by decide))) ((f104 77 (by decide)).trans (f10 77 (by decide))) hs_jKept
      have p137 : jBook σ102 := jBook.fr ((f105 47 (by decide)).trans (congrFun (f10 55 (by decide)) 47)) ((f105 10 (by decide)).trans (congrFun (f10 55 (by decide)) 10)) ((f104 81 (by decide)).trans (f10 81 (by decide))) hs_jBook
      have z138 : (σ102 38 0).toInt = (σ 38 0).toInt := (congrArg Int32.toInt (show σ102 38 0 = (σ 38 0) from ((congrFun (f104 38 (by decide)) 0).trans (congrFun (f10 38 (by decide)) 0))))
      have z139 : (σ102 55 32).toInt = (σ 55 32).toInt := (congrArg Int32.toInt (show σ102 55 32 = (σ 55 32) from ((f105 32 (by decide)).trans (congrFun (f10 55 (by decide)) 32))))
      exact ih x114 σ102 τ _ _ ls (by have h9 := tx114; omega) ⟨I115, I116, I117, I118, I119, I120, I121, I122, I123, I124, I125, I106, I126, I127, I128, I129, I130, I131, I132, I133, I134, I135, p136, p137, (by omega), (show jShP (σ102 51) (σ102 52) (σ102 53) (σ102 86) (σ102 87) (σ102 55 32).toInt by rw [show σ102 51 = σ 51 from ((f104 51 (by decide)).trans (f10 51 (by decide))), show σ102 52 = σ 52 from ((f104 52 (by decide)).trans (f10 52 (by decide))), show σ102 53 = σ 53 from ((f104 53 (by decide)).trans (f10 53 (by decide))), show σ102 86 = σ 86 from ((f104 86 (by decide)).trans (f10 86 (by decide))), show σ102 87 = σ 87 from ((f104 87 (by decide)).trans (f10 87 (by decide)))]; exact (hr0.up (by omega) (by omega))), (show jKd (σ102 39) (σ102 70) (σ102 55 32).toInt by rw [show σ102 39 = σ 39 from ((f104 39 (by decide)).trans (f10 39 (by decide))), show σ102 70 = σ 70 from ((f104 70 (by decide)).trans (f10 70 (by decide))), show (σ102 55 32).toInt = (σ 55 32).toInt from by omega]; exact hr1)⟩ hP hS (lv_sub hl [0, 1, 2, 3] rfl)
    · obtain ⟨q145, k140, k141, k142, k143, k144⟩ := h109
      refine lv_pop hx hb dL_law_973 rfl ?_
      refine lv_goto (tgt := 1357) hx hb dL_law_974 (by decide) ?_
      obtain ⟨x146, ex146⟩ : ∃ y : Int32, y = x0 + 6 := ⟨_, rfl⟩
      have tx146 : x146.toInt = x0.toInt + 6 := (jadd ex146 rfl jz_6 (by omega) (by omega)).trans (by omega)
      refine lv_iinc (v := x146) (lv' := [(3, .int x146), (2, .ref (ad 55)), (1, .ref (ad 0)), (0, .ref b)]) hx hb dL_law_1357 hl (k := 0) rfl (by rw [ex146]; rfl) (by decide) rfl (fun ls hl => ?_)
      refine lv_goto (tgt := 18) hx hb dL_law_1360 (by decide) ?_
      have I147 : jI2 σ102 := jI2_fr (congrFun (f104 2 (by decide)) 0) (congrFun (f104 2 (by decide)) 1) (congrFun (f104 2 (by decide)) 2) (congrFun (f104 2 (by decide)) 3) (f104 6 (by decide)) I12
      have I148 : jI9 σ102 := jI9_fr ((congrFun (f104 9 (by decide)) 0).trans (congrFun (f10 9 (by decide)) 0)) ((f104 10 (by decide)).trans (f10 10 (by decide))) ((f104 11 (by decide)).trans (f10 11 (by decide))) hI9
      have I149 : jI12 σ102 := jI12_fr ((congrFun (f104 12 (by decide)) 0).trans (congrFun (f10 12 (by decide)) 0)) ((f104 13 (by decide)).trans (f10 13 (by decide))) hI12
      have I150 : jI16 σ102 := jI16_fr ((congrFun (f104 16 (by decide)) 0).trans (congrFun (f10 16 (by decide)) 0)) ((congrFun (f104 16 (by decide)) 1).trans (congrFun (f10 16 (by decide)) 1)) ((congrFun (f104 16 (by decide)) 2).trans (congrFun (f10 16 (by decide)) 2)) ((f104 17 (by decide)).trans (f10 17 (by decide))) hI16
      have I151 : jI18 σ102 := jI18_fr ((congrFun (f104 18 (by decide)) 0).trans (congrFun (f10 18 (by decide)) 0)) ((f104 19 (by decide)).trans (f10 19 (by decide))) hI18
      have I152 : jI22 σ102 := jI22_fr ((congrFun (f104 22 (by decide)) 0).trans (congrFun (f10 22 (by decide)) 0)) ((f104 23 (by decide)).trans (f10 23 (by decide))) hI22
      have I153 : jI31 σ102 := jI31_fr ((congrFun (f104 31 (by decide)) 8).trans (congrFun (f10 31 (by decide)) 8)) ((f104 33 (by decide)).trans (f10 33 (by decide))) ((f104 36 (by decide)).trans (f10 36 (by decide))) hI31
      have I154 : jI38 σ102 := jI38_fr ((congrFun (f104 38 (by decide)) 0).trans (congrFun (f10 38 (by decide)) 0)) ((congrFun (f104 38 (by decide)) 1).trans (congrFun (f10 38 (by decide)) 1)) ((f104 39 (by decide)).trans (f10 39 (by decide))) hI38
      have I155 : jI43 σ102 := jI43_fr ((congrFun (f104 43 (by decide)) 8).trans (congrFun (f10 43 (by decide)) 8)) hI43
      have I156 : jI47 σ102 := jI47_fr ((congrFun (f104 47 (by decide)) 0).trans (congrFun (f10 47 (by decide)) 0)) ((f104 48 (by decide)).trans (f10 48 (by decide))) ((f104 49 (by decide)).trans (f10 49 (by decide))) hI47
      have I157 : jI50 σ102 := jI50_fr ((f104 52 (by decide)).trans (f10 52 (by decide))) hI50
      have I158 : jI102 σ102 := jI102_fr ((f105 6 (by decide)).trans (congrFun (f10 55 (by decide)) 6)) ((f104 60 (by decide)).trans (f10 60 (by decide))) ((f104 61 (by decide)).trans (f10 61 (by decide))) hI102
      have I159 : jI103 σ102 := jI103_fr ((f105 9 (by decide)).trans (congrFun (f10 55 (by decide)) 9)) hI103
      have I160 : jI104 σ102 := jI104_fr ((f105 10 (by decide)).trans (congrFun (f10 55 (by decide)) 10)) ((f105 12 (by decide)).trans (congrFun (f10 55 (by decide)) 12)) ((f105 13 (by decide)).trans (congrFun (f10 55 (by decide)) 13)) ((f104 62 (by decide)).trans (f10 62 (by decide))) ((f104 67 (by decide)).trans (f10 67 (by decide))) hI104
      have I161 : jI105 σ102 := jI105_fr ((f105 15 (by decide)).trans (congrFun (f10 55 (by decide)) 15)) ((f104 65 (by decide)).trans (f10 65 (by decide))) hI105
      have I162 : jI106 σ102 := jI106_fr ((f105 32 (by decide)).trans (congrFun (f10 55 (by decide)) 32)) ((f104 70 (by decide)).trans (f10 70 (by decide))) ((f104 71 (by decide)).trans (f10 71 (by decide))) ((f104 72 (by decide)).trans (f10 72 (by decide))) hI106
      have I163 : jI107 σ102 := jI107_fr ((f105 12 (by decide)).trans (congrFun (f10 55 (by decide)) 12)) ((f105 47 (by decide)).trans (congrFun (f10 55 (by decide)) 47)) ((f104 80 (by decide)).trans (f10 80 (by decide))) hI107
      have I164 : jI109 σ102 := jI109_fr ((f105 50 (by decide)).trans (congrFun (f10 55 (by decide)) 50)) hI109
      have I165 : jI110 σ102 := jI110_fr ((f104 86 (by decide)).trans (f10 86 (by decide))) ((f104 87 (by decide)).trans (f10 87 (by decide))) hI110
      have I166 : jI111 σ102 := jI111_fr ((f104 79 (by decide)).trans (f10 79 (by decide))) hI111
      have I167 : jI119 σ102 := jI119_fr ((f104 68 (by decide)).trans (f10 68 (by decide))) hI119
      have p168 : jKept σ102 := jKept.fr ((f104 75 (by decide)).trans (f10 75 (by decide))) ((f104 76 (by decide)).trans (f10 76 (by decide))) ((f104 77 (by decide)).trans (f10 77 (by decide))) hs_jKept
      have p169 : jBook σ102 := jBook.fr ((f105 47 (by decide)).trans (congrFun (f10 55 (by decide)) 47)) ((f105 10 (by decide)).trans (congrFun (f10 55 (by decide)) 10)) ((f104 81 (by decide)).trans (f10 81 (by decide))) hs_jBook
      have z170 : (σ102 38 0).toInt = (σ 38 0).toInt := (congrArg Int32.toInt (show σ102 38 0 = (σ 38 0) from ((congrFun (f104 38 (by decide)) 0).trans (congrFun (f10 38 (by decide)) 0))))
      have z171 : (σ102 55 32).toInt = (σ 55 32).toInt := (congrArg Int32.toInt (show σ102 55 32 = (σ 55 32) from ((f105 32 (by decide)).trans (congrFun (f10 55 (by decide)) 32))))
      exact ih x146 σ102 τ _ _ ls (by have h9 := tx146; omega) ⟨I147, I148, I149, I150, I151, I152, I153, I154, I155, I156, I157, I106, I158, I159, I160, I161, I162, I163, I164, I165, I166, I167, p168, p169, (by omega), (show jShP (σ102 51) (σ102 52) (σ102 53) (σ102 86) (σ102 87) (σ102 55 32).toInt by rw [show σ102 51 = σ 51 from ((f104 51 (by decide)).trans (f10 51 (by decide))), show σ102 52 = σ 52 from ((f104 52 (by decide)).trans (f10 52 (by decide))), show σ102 53 = σ 53 from ((f104 53 (by decide)).trans (f10 53 (by decide))), show σ102 86 = σ 86 from ((f104 86 (by decide)).trans (f10 86 (by decide))), show σ102 87 = σ 87 from ((f104 87 (by decide)).trans (f10 87 (by decide)))]; exact (hr0.up (by omega) (by omega))), (show jKd (σ102 39) (σ102 70) (σ102 55 32).toInt by rw [show σ102 39 = σ 39 from ((f104 39 (by decide)).trans (f10 39 (by decide))), show σ102 70 = σ 70 from ((f104 70 (by decide)).trans (f10 70 (by decide))), show (σ102 55 32).toInt = (σ 55 32).toInt from by omega]; exact hr1)⟩ hP hS (lv_sub hl [0, 1, 2, 3] rfl)
set_option maxHeartbeats 4000000 in
set_option maxRecDepth 100000 in
theorem law_case_27 {p : Program} {e : Env} {s : State} {m : MethodId} {below : List Frame} {meth : Method} {c : Code} (l : Launch) {b L : Nat} {xs : Nat → Int32} {D : va_G} {cI cL : ClassId} {ad zz : Nat → Nat} (C0 : lw_At p s m meth c b L xs) (hJ : jD ad) (hA : ∀ q, jA ad q → s.heap.size ≤ q) (hK : jK D cI cL s) (hZ : jZ zz (fun q : Nat => s.heap.size ≤ q) s s.heap) {x0 : Int32} (hx0 : 0 ≤ x0.toInt) (hxL : x0.toInt + 6 ≤ (L : Int)) (hL : L ≤ 384) {σ : Nat → Nat → Int32} {τ : Nat → Nat → Int64} {H : Heap} {locs : List Loc} (hS : va_S (fun q : Nat => s.heap.size ≤ q) s.heap H locs) {ls : Array Slot} (hAll : jAll σ τ) (hP : jH D cI cL ad σ τ H) (hl : lv_has ls 4 [(3, .int x0), (2, .ref (ad 55)), (1, .ref (ad 0)), (0, .ref b)]) (ih : ∀ (x1 : Int32) (σ : Nat → Nat → Int32) (τ : Nat → Nat → Int64) (H : Heap) (locs : List Loc) (ls : Array Slot), x1.toInt = x0.toInt + 6 → jAll σ τ → jH D cI cL ad σ τ H → va_S (fun q : Nat => s.heap.size ≤ q) s.heap H locs → lv_has ls 4 [(3, .int x1), (2, .ref (ad 55)), (1, .ref (ad 0)), (0, .ref b)] → W p l e room_1 s m #[Value.ref b] below meth c H locs 90 348600 (lw_Z below #[Value.ref b] s) (F0 m 18 ls [])) : W p l e room_1 s m #[Value.ref b] below meth c H locs 90 348600 (lw_Z below #[Value.ref b] s) (F0 m 977 ls []) := by
  obtain ⟨hx, hb, hr, hml, hown, hts0, hX, hbl, hlocks, hgv⟩ := C0
  have hts : ∀ w ∈ wsL_law, w.before #[Value.ref b] s = true := fun w h => hts0 w (wsL_law_in w h)
  have hbA : ¬ (fun q : Nat => s.heap.size ≤ q) b := Nat.not_le.mpr hbl
  have hown : s.vm.findClass RL = some m.cls := hown
  obtain ⟨hI2, hI9, hI12, hI16, hI18, hI22, hI31, hI38, hI43, hI47, hI50, hI101, hI102, hI103, hI104, hI105, hI106, hI107, hI109, hI110, hI111, hI119, hs_jKept, hs_jBook, ht0, hr0, hr1⟩ := hAll
  have hL9 : (L : Int) ≤ 384 := by omega
  obtain ⟨i1, i2, w3⟩ : (0 ≤ (σ 38 0).toInt ∧ (σ 38 0).toInt ≤ 20) ∧ (0 ≤ (σ 38 1).toInt ∧ (σ 38 1).toInt ≤ 1000) ∧ (∀ k : Nat, k < 20 → 0 ≤ (σ 39 k).toInt ∧ (σ 39 k).toInt ≤ 6) := id hI38
  obtain ⟨i4, w5, w6, w7⟩ : (0 ≤ (σ 55 32).toInt ∧ (σ 55 32).toInt ≤ 20) ∧ (∀ k : Nat, k < 20 → 0 ≤ (σ 70 k).toInt ∧ (σ 70 k).toInt ≤ 6) ∧ (∀ k : Nat, k < 20 → 0 ≤ (σ 71 k).toInt ∧ (σ 71 k).toInt ≤ 8) ∧ (∀ k : Nat, k < 160 → 0 ≤ (σ 72 k).toInt ∧ (σ 72 k).toInt ≤ 3) := id hI106
  refine lv_aload_n hx hb dL_law_977 rfl (lv_at hl 2 rfl) ?_
  refine jcallV (As := []) (rest := []) ⟨hx, hb, hml, hown, hts⟩ hK hP hA hS hZ (c_X11_redo l D cI cL ad zz hJ σ τ hI2) cw_RL_125 (jc_0 cI cL ad σ τ) rfl ⟨Nat.le_of_ble_eq_true rfl, Nat.le_of_ble_eq_true rfl⟩ rfl rfl rfl hl.1 rfl (Nat.le_of_ble_eq_true rfl) dL_law_978 ⟨Nat.le_of_ble_eq_true rfl, Nat.le_of_ble_eq_true rfl⟩ (fun r9 σ8 τ8 H locs h8 hP hS => ?_)
  obtain ⟨rfl, f10, f11, I12, h8⟩ := h8
  rcases h8 with h14 | h15
  · obtain ⟨q20, k16, k17, k18, k19⟩ := h14
    have q20 := q20.symm
    subst q20
    refine lv_pop hx hb dL_law_981 rfl ?_
    refine lv_aload_n hx hb dL_law_982 rfl (lv_at hl 1 rfl) ?_
    have I21 : jI101 σ8 := jI101_fr (congrFun (f10 55 (by decide)) 4) (congrFun (f10 55 (by decide)) 5) (f10 56 (by decide)) (f10 57 (by decide)) (f10 58 (by decide)) (f10 59 (by decide)) hI101
    have z22 : (σ8 55 5).toInt = (σ 55 5).toInt := (congrArg Int32.toInt (show σ8 55 5 = (σ 55 5) from (congrFun (f10 55 (by decide)) 5)))
    have z23 : (σ8 55 4).toInt = (σ 55 4).toInt := (congrArg Int32.toInt (show σ8 55 4 = (σ 55 4) from (congrFun (f10 55 (by decide)) 4)))
    refine jcallV (As := []) (rest := []) ⟨hx, hb, hml, hown, hts⟩ hK hP hA hS hZ (c_X12_redo l D cI cL ad zz hJ σ8 τ I21) cw_RL_128 (jc_55 cI cL ad σ8 τ) rfl ⟨Nat.le_of_ble_eq_true rfl, Nat.le_of_ble_eq_true rfl⟩ rfl rfl rfl hl.1 rfl (Nat.le_of_ble_eq_true rfl) dL_law_983 ⟨Nat.le_of_ble_eq_true rfl, Nat.le_of_ble_eq_true rfl⟩ (fun r25 σ24 τ24 H locs h24 hP hS => ?_)
    obtain ⟨rfl, f26, f27, I28, h24⟩ := h24
    rcases h24 with h30 | h31
    · obtain ⟨q35, k32, k33, k34⟩ := h30
      have q35 := q35.symm
      subst q35
      refine lv_pop hx hb dL_law_986 rfl ?_
      refine lv_goto (tgt := 1357) hx hb dL_law_987 (by decide) ?_
      obtain ⟨x36, ex36⟩ : ∃ y : Int32, y = x0 + 6 := ⟨_, rfl⟩
      have tx36 : x36.toInt = x0.toInt + 6 := (jadd ex36 rfl jz_6 (by omega) (by omega)).trans (by omega)
      refine lv_iinc (v := x36) (lv' := [(3, .int x36), (2, .ref (ad 55)), (1, .ref (ad 0)), (0, .ref b)]) hx hb dL_law_1357 hl (k := 0) rfl (by rw [ex36]; rfl) (by decide) rfl (fun ls hl => ?_)
      refine lv_goto (tgt := 18) hx hb dL_law_1360 (by decide) ?_
      have I37 : jI2 σ24 := jI2_fr (congrFun (f26 2 (by decide)) 0) (congrFun (f26 2 (by decide)) 1) (congrFun (f26 2 (by decide)) 2) (congrFun (f26 2 (by decide)) 3) (f26 6 (by decide)) I12
      have I38 : jI9 σ24 := jI9_fr ((congrFun (f26 9 (by decide)) 0).trans (congrFun (f10 9 (by decide)) 0)) ((f26 10 (by decide)).trans (f10 10 (by decide))) ((f26 11 (by decide)).trans (f10 11 (by decide))) hI9
      have I39 : jI12 σ24 := jI12_fr ((congrFun (f26 12 (by decide)) 0).trans (congrFun (f10 12 (by decide)) 0)) ((f26 13 (by decide)).trans (f10 13 (by decide))) hI12
      have I40 : jI16 σ24 := jI16_fr ((congrFun (f26 16 (by decide)) 0).trans (congrFun (f10 16 (by decide)) 0)) ((congrFun (f26 16 (by decide)) 1).trans (congrFun (f10 16 (by decide)) 1)) ((congrFun (f26 16 (by decide)) 2).trans (congrFun (f10 16 (by decide)) 2)) ((f26 17 (by decide)).trans (f10 17 (by decide))) hI16
      have I41 : jI18 σ24 := jI18_fr ((congrFun (f26 18 (by decide)) 0).trans (congrFun (f10 18 (by decide)) 0)) ((f26 19 (by decide)).trans (f10 19 (by decide))) hI18
      have I42 : jI22 σ24 := jI22_fr ((congrFun (f26 22 (by decide)) 0).trans (congrFun (f10 22 (by decide)) 0)) ((f26 23 (by decide)).trans (f10 23 (by decide))) hI22
      have I43 : jI31 σ24 := jI31_fr ((congrFun (f26 31 (by decide)) 8).trans (congrFun (f10 31 (by decide)) 8)) ((f26 33 (by decide)).trans (f10 33 (by decide))) ((f26 36 (by decide)).trans (f10 36 (by decide))) hI31
      have I44 : jI38 σ24 := jI38_fr ((congrFun (f26 38 (by decide)) 0).trans (congrFun (f10 38 (by decide)) 0)) ((congrFun (f26 38 (by decide)) 1).trans (congrFun (f10 38 (by decide)) 1)) ((f26 39 (by decide)).trans (f10 39 (by decide))) hI38
      have I45 : jI43 σ24 := jI43_fr ((congrFun (f26 43 (by decide)) 8).trans (congrFun (f10 43 (by decide)) 8)) hI43
      have I46 : jI47 σ24 := jI47_fr ((congrFun (f26 47 (by decide)) 0).trans (congrFun (f10 47 (by decide)) 0)) ((f26 48 (by decide)).trans (f10 48 (by decide))) ((f26 49 (by decide)).trans (f10 49 (by decide))) hI47
      have I47 : jI50 σ24 := jI50_fr ((f26 52 (by decide)).trans (f10 52 (by decide))) hI50
      have I48 : jI102 σ24 := jI102_fr ((f27 6 (by decide)).trans (congrFun (f10 55 (by decide)) 6)) ((f26 60 (by decide)).trans (f10 60 (by decide))) ((f26 61 (by decide)).trans (f10 61 (by decide))) hI102
      have I49 : jI103 σ24 := jI103_fr ((f27 9 (by decide)).trans (congrFun (f10 55 (by decide)) 9)) hI103
      have I50 : jI104 σ24 := jI104_fr ((f27 10 (by decide)).trans (congrFun (f10 55 (by decide)) 10)) ((f27 12 (by decide)).trans (congrFun (f10 55 (by decide)) 12)) ((f27 13 (by decide)).trans (congrFun (f10 55 (by decide)) 13)) ((f26 62 (by decide)).trans (f10 62 (by decide))) ((f26 67 (by decide)).trans (f10 67 (by decide))) hI104
      have I51 : jI105 σ24 := jI105_fr ((f27 15 (by decide)).trans (congrFun (f10 55 (by decide)) 15)) ((f26 65 (by decide)).trans (f10 65 (by decide))) hI105
      have I52 : jI106 σ24 := jI106_fr ((f27 32 (by decide)).trans (congrFun (f10 55 (by decide)) 32)) ((f26 70 (by decide)).trans (f10 70 (by decide))) ((f26 71 (by decide)).trans (f10 71 (by decide))) ((f26 72 (by decide)).trans (f10 72 (by decide))) hI106
      have I53 : jI107 σ24 := jI107_fr ((f27 12 (by decide)).trans (congrFun (f10 55 (by decide)) 12)) ((f27 47 (by decide)).trans (congrFun (f10 55 (by decide)) 47)) ((f26 80 (by decide)).trans (f10 80 (by decide))) hI107
      have I54 : jI109 σ24 := jI109_fr ((f27 50 (by decide)).trans (congrFun (f10 55 (by decide)) 50)) hI109
      have I55 : jI110 σ24 := jI110_fr ((f26 86 (by decide)).trans (f10 86 (by decide))) ((f26 87 (by decide)).trans (f10 87 (by decide))) hI110
      have I56 : jI111 σ24 := jI111_fr ((f26 79 (by decide)).trans (f10 79 (by decide))) hI111
      have I57 : jI119 σ24 := jI119_fr ((f26 68 (by decide)).trans (f10 68 (by decide))) hI119
      have p58 : jKept σ24 := jKept.fr ((f26 75 (by decide)).trans (f10 75 (by decide))) ((f26 76 (by decide)).trans (f10 76 (by decide))) ((f26 77 (by decide)).trans (f10 77 (by decide))) hs_jKept
      have p59 : jBook σ24 := jBook.fr ((f27 47 (by decide)).trans (congrFun (f10 55 (by decide)) 47)) ((f27 10 (by decide)).trans (congrFun (f10 55 (by decide)) 10)) ((f26 81 (by decide)).trans (f10 81 (by decide))) hs_jBook
      have z60 : (σ24 38 0).toInt = (σ 38 0).toInt := (congrArg Int32.toInt (show σ24 38 0 = (σ 38 0) from ((congrFun (f26 38 (by decide)) 0).trans (congrFun (f10 38 (by decide)) 0))))
      have z61 : (σ24 55 32).toInt = (σ 55 32).toInt := (congrArg Int32.toInt (show σ24 55 32 = (σ 55 32) from ((f27 32 (by decide)).trans (congrFun (f10 55 (by decide)) 32))))
      exact ih x36 σ24 τ _ _ ls (by have h9 := tx36; omega) ⟨I37, I38, I39, I40, I41, I42, I43, I44, I45, I46, I47, I28, I48, I49, I50, I51, I52, I53, I54, I55, I56, I57, p58, p59, (by omega), (show jShP (σ24 51) (σ24 52) (σ24 53) (σ24 86) (σ24 87) (σ24 55 32).toInt by rw [show σ24 51 = σ 51 from ((f26 51 (by decide)).trans (f10 51 (by decide))), show σ24 52 = σ 52 from ((f26 52 (by decide)).trans (f10 52 (by decide))), show σ24 53 = σ 53 from ((f26 53 (by decide)).trans (f10 53 (by decide))), show σ24 86 = σ 86 from ((f26 86 (by decide)).trans (f10 86 (by decide))), show σ24 87 = σ 87 from ((f26 87 (by decide)).trans (f10 87 (by decide)))]; exact (hr0.up (by omega) (by omega))), (show jKd (σ24 39) (σ24 70) (σ24 55 32).toInt by rw [show σ24 39 = σ 39 from ((f26 39 (by decide)).trans (f10 39 (by decide))), show σ24 70 = σ 70 from ((f26 70 (by decide)).trans (f10 70 (by decide))), show (σ24 55 32).toInt = (σ 55 32).toInt from by omega]; exact hr1)⟩ hP hS (lv_sub hl [0, 1, 2, 3] rfl)
    · obtain ⟨q67, k62, k63, k64, k65, k66⟩ := h31
      refine lv_pop hx hb dL_law_986 rfl ?_
      refine lv_goto (tgt := 1357) hx hb dL_law_987 (by decide) ?_
      obtain ⟨x68, ex68⟩ : ∃ y : Int32, y = x0 + 6 := ⟨_, rfl⟩
      have tx68 : x68.toInt = x0.toInt + 6 := (jadd ex68 rfl jz_6 (by omega) (by omega)).trans (by omega)
      refine lv_iinc (v := x68) (lv' := [(3, .int x68), (2, .ref (ad 55)), (1, .ref (ad 0)), (0, .ref b)]) hx hb dL_law_1357 hl (k := 0) rfl (by rw [ex68]; rfl) (by decide) rfl (fun ls hl => ?_)
      refine lv_goto (tgt := 18) hx hb dL_law_1360 (by decide) ?_
      have I69 : jI2 σ24 := jI2_fr (congrFun (f26 2 (by decide)) 0) (congrFun (f26 2 (by decide)) 1) (congrFun (f26 2 (by decide)) 2) (congrFun (f26 2 (by decide)) 3) (f26 6 (by decide)) I12
      have I70 : jI9 σ24 := jI9_fr ((congrFun (f26 9 (by decide)) 0).trans (congrFun (f10 9 (by decide)) 0)) ((f26 10 (by decide)).trans (f10 10 (by decide))) ((f26 11 (by decide)).trans (f10 11 (by decide))) hI9
      have I71 : jI12 σ24 := jI12_fr ((congrFun (f26 12 (by decide)) 0).trans (congrFun (f10 12 (by decide)) 0)) ((f26 13 (by decide)).trans (f10 13 (by decide))) hI12
      have I72 : jI16 σ24 := jI16_fr ((congrFun (f26 16 (by decide)) 0).trans (congrFun (f10 16 (by decide)) 0)) ((congrFun (f26 16 (by decide)) 1).trans (congrFun (f10 16 (by decide)) 1)) ((congrFun (f26 16 (by decide)) 2).trans (congrFun (f10 16 (by decide)) 2)) ((f26 17 (by decide)).trans (f10 17 (by decide))) hI16
      have I73 : jI18 σ24 := jI18_fr ((congrFun (f26 18 (by decide)) 0).trans (congrFun (f10 18 (by decide)) 0)) ((f26 19 (by decide)).trans (f10 19 (by decide))) hI18
      have I74 : jI22 σ24 := jI22_fr ((congrFun (f26 22 (by decide)) 0).trans (congrFun (f10 22 (by decide)) 0)) ((f26 23 (by decide)).trans (f10 23 (by decide))) hI22
      have I75 : jI31 σ24 := jI31_fr ((congrFun (f26 31 (by decide)) 8).trans (congrFun (f10 31 (by decide)) 8)) ((f26 33 (by decide)).trans (f10 33 (by decide))) ((f26 36 (by decide)).trans (f10 36 (by decide))) hI31
      have I76 : jI38 σ24 := jI38_fr ((congrFun (f26 38 (by decide)) 0).trans (congrFun (f10 38 (by decide)) 0)) ((congrFun (f26 38 (by decide)) 1).trans (congrFun (f10 38 (by decide)) 1)) ((f26 39 (by decide)).trans (f10 39 (by decide))) hI38
      have I77 : jI43 σ24 := jI43_fr ((congrFun (f26 43 (by decide)) 8).trans (congrFun (f10 43 (by decide)) 8)) hI43
      have I78 : jI47 σ24 := jI47_fr ((congrFun (f26 47 (by decide)) 0).trans (congrFun (f10 47 (by decide)) 0)) ((f26 48 (by decide)).trans (f10 48 (by decide))) ((f26 49 (by decide)).trans (f10 49 (by decide))) hI47
      have I79 : jI50 σ24 := jI50_fr ((f26 52 (by decide)).trans (f10 52 (by decide))) hI50
      have I80 : jI102 σ24 := jI102_fr ((f27 6 (by decide)).trans (congrFun (f10 55 (by decide)) 6)) ((f26 60 (by decide)).trans (f10 60 (by decide))) ((f26 61 (by decide)).trans (f10 61 (by decide))) hI102
      have I81 : jI103 σ24 := jI103_fr ((f27 9 (by decide)).trans (congrFun (f10 55 (by decide)) 9)) hI103
      have I82 : jI104 σ24 := jI104_fr ((f27 10 (by decide)).trans (congrFun (f10 55 (by decide)) 10)) ((f27 12 (by decide)).trans (congrFun (f10 55 (by decide)) 12)) ((f27 13 (by decide)).trans (congrFun (f10 55 (by decide)) 13)) ((f26 62 (by decide)).trans (f10 62 (by decide))) ((f26 67 (by decide)).trans (f10 67 (by decide))) hI104
      have I83 : jI105 σ24 := jI105_fr ((f27 15 (by decide)).trans (congrFun (f10 55 (by decide)) 15)) ((f26 65 (by decide)).trans (f10 65 (by decide))) hI105
      have I84 : jI106 σ24 := jI106_fr ((f27 32 (by decide)).trans (congrFun (f10 55 (by decide)) 32)) ((f26 70 (by decide)).trans (f10 70 (by decide))) ((f26 71 (by decide)).trans (f10 71 (by decide))) ((f26 72 (by decide)).trans (f10 72 (by decide))) hI106
      have I85 : jI107 σ24 := jI107_fr ((f27 12 (by decide)).trans (congrFun (f10 55 (by decide)) 12)) ((f27 47 (by decide)).trans (congrFun (f10 55 (by decide)) 47)) ((f26 80 (by decide)).trans (f10 80 (by decide))) hI107
      have I86 : jI109 σ24 := jI109_fr ((f27 50 (by decide)).trans (congrFun (f10 55 (by decide)) 50)) hI109
      have I87 : jI110 σ24 := jI110_fr ((f26 86 (by decide)).trans (f10 86 (by decide))) ((f26 87 (by decide)).trans (f10 87 (by decide))) hI110
      have I88 : jI111 σ24 := jI111_fr ((f26 79 (by decide)).trans (f10 79 (by decide))) hI111
      have I89 : jI119 σ24 := jI119_fr ((f26 68 (by decide)).trans (f10 68 (by decide))) hI119
      have p90 : jKept σ24 := jKept.fr ((f26 75 (by decide)).trans (f10 75 (by decide))) ((f26 76 (by decide)).trans (f10 76 (by decide))) ((f26 77 (by decide)).trans (f10 77 (by decide))) hs_jKept
      have p91 : jBook σ24 := jBook.fr ((f27 47 (by decide)).trans (congrFun (f10 55 (by decide)) 47)) ((f27 10 (by decide)).trans (congrFun (f10 55 (by decide)) 10)) ((f26 81 (by decide)).trans (f10 81 (by decide))) hs_jBook
      have z92 : (σ24 38 0).toInt = (σ 38 0).toInt := (congrArg Int32.toInt (show σ24 38 0 = (σ 38 0) from ((congrFun (f26 38 (by decide)) 0).trans (congrFun (f10 38 (by decide)) 0))))
      have z93 : (σ24 55 32).toInt = (σ 55 32).toInt := (congrArg Int32.toInt (show σ24 55 32 = (σ 55 32) from ((f27 32 (by decide)).trans (congrFun (f10 55 (by decide)) 32))))
      exact ih x68 σ24 τ _ _ ls (by have h9 := tx68; omega) ⟨I69, I70, I71, I72, I73, I74, I75, I76, I77, I78, I79, I28, I80, I81, I82, I83, I84, I85, I86, I87, I88, I89, p90, p91, (by omega), (show jShP (σ24 51) (σ24 52) (σ24 53) (σ24 86) (σ24 87) (σ24 55 32).toInt by rw [show σ24 51 = σ 51 from ((f26 51 (by decide)).trans (f10 51 (by decide))), show σ24 52 = σ 52 from ((f26 52 (by decide)).trans (f10 52 (by decide))), show σ24 53 = σ 53 from ((f26 53 (by decide)).trans (f10 53 (by decide))), show σ24 86 = σ 86 from ((f26 86 (by decide)).trans (f10 86 (by decide))), show σ24 87 = σ 87 from ((f26 87 (by decide)).trans (f10 87 (by decide)))]; exact (hr0.up (by omega) (by omega))), (show jKd (σ24 39) (σ24 70) (σ24 55 32).toInt by rw [show σ24 39 = σ 39 from ((f26 39 (by decide)).trans (f10 39 (by decide))), show σ24 70 = σ 70 from ((f26 70 (by decide)).trans (f10 70 (by decide))), show (σ24 55 32).toInt = (σ 55 32).toInt from by omega]; exact hr1)⟩ hP hS (lv_sub hl [0, 1, 2, 3] rfl)
  · obtain ⟨q100, k94, k95, k96, k97, k98, k99⟩ := h15
    refine lv_pop hx hb dL_law_981 rfl ?_
    refine lv_aload_n hx hb dL_law_982 rfl (lv_at hl 1 rfl) ?_
    have I101 : jI101 σ8 := jI101_fr (congrFun (f10 55 (by decide)) 4) (congrFun (f10 55 (by decide)) 5) (f10 56 (by decide)) (f10 57 (by decide)) (f10 58 (by decide)) (f10 59 (by decide)) hI101
    have z102 : (σ8 55 5).toInt = (σ 55 5).toInt := (congrArg Int32.toInt (show σ8 55 5 = (σ 55 5) from (congrFun (f10 55 (by decide)) 5)))
    have z103 : (σ8 55 4).toInt = (σ 55 4).toInt := (congrArg Int32.toInt (show σ8 55 4 = (σ 55 4) from (congrFun (f10 55 (by decide)) 4)))
    refine jcallV (As := []) (rest := []) ⟨hx, hb, hml, hown, hts⟩ hK hP hA hS hZ (c_X12_redo l D cI cL ad zz hJ σ8 τ I101) cw_RL_128 (jc_55 cI cL ad σ8 τ) rfl ⟨Nat.le_of_ble_eq_true rfl, Nat.le_of_ble_eq_true rfl⟩ rfl rfl rfl hl.1 rfl (Nat.le_of_ble_eq_true rfl) dL_law_983 ⟨Nat.le_of_ble_eq_true rfl, Nat.le_of_ble_eq_true rfl⟩ (fun r105 σ104 τ104 H locs h104 hP hS => ?_)
    obtain ⟨rfl, f106, f107, I108, h104⟩ := h104
    rcases h104 with h110 | h111
    · obtain ⟨q115, k112, k113, k114⟩ := h110
      have q115 := q115.symm
      subst q115
      refine lv_pop hx hb dL_law_986 rfl ?_
      refine lv_goto (tgt := 1357) hx hb dL_law_987 (by decide) ?_
      obtain ⟨x116, ex116⟩ : ∃ y : Int32, y = x0 + 6 := ⟨_, rfl⟩
      have tx116 : x116.toInt = x0.toInt + 6 := (jadd ex116 rfl jz_6 (by omega) (by omega)).trans (by omega)
      refine lv_iinc (v := x116) (lv' := [(3, .int x116), (2, .ref (ad 55)), (1, .ref (ad 0)), (0, .ref b)]) hx hb dL_law_1357 hl (k := 0) rfl (by rw [ex116]; rfl) (by decide) rfl (fun ls hl => ?_)
      refine lv_goto (tgt := 18) hx hb dL_law_1360 (by decide) ?_
      have I117 : jI2 σ104 := jI2_fr (congrFun (f106 2 (by decide)) 0) (congrFun (f106 2 (by decide)) 1) (congrFun (f106 2 (by decide)) 2) (congrFun (f106 2 (by decide)) 3) (f106 6 (by decide)) I12
      have I118 : jI9 σ104 := jI9_fr ((congrFun (f106 9 (by decide)) 0).trans (congrFun (f10 9 (by decide)) 0)) ((f106 10 (by decide)).trans (f10 10 (by decide))) ((f106 11 (by decide)).trans (f10 11 (by decide))) hI9
      have I119 : jI12 σ104 := jI12_fr ((congrFun (f106 12 (by decide)) 0).trans (congrFun (f10 12 (by decide)) 0)) ((f106 13 (by decide)).trans (f10 13 (by decide))) hI12
      have I120 : jI16 σ104 := jI16_fr ((congrFun (f106 16 (by decide)) 0).trans (congrFun (f10 16 (by decide)) 0)) ((congrFun (f106 16 (by decide)) 1).trans (congrFun (f10 16 (by decide)) 1)) ((congrFun (f106 16 (by decide)) 2).trans (congrFun (f10 16 (by decide)) 2)) ((f106 17 (by decide)).trans (f10 17 (by decide))) hI16
      have I121 : jI18 σ104 := jI18_fr ((congrFun (f106 18 (by decide)) 0).trans (congrFun (f10 18 (by decide)) 0)) ((f106 19 (by decide)).trans (f10 19 (by decide))) hI18
      have I122 : jI22 σ104 := jI22_fr ((congrFun (f106 22 (by decide)) 0).trans (congrFun (f10 22 (by decide)) 0)) ((f106 23 (by decide)).trans (f10 23 (by decide))) hI22
      have I123 : jI31 σ104 := jI31_fr ((congrFun (f106 31 (by decide)) 8).trans (congrFun (f10 31 (by decide)) 8)) ((f106 33 (by decide)).trans (f10 33 (by decide))) ((f106 36 (by decide)).trans (f10 36 (by decide))) hI31
      have I124 : jI38 σ104 := jI38_fr ((congrFun (f106 38 (by decide)) 0).trans (congrFun (f10 38 (by decide)) 0)) ((congrFun (f106 38 (by decide)) 1).trans (congrFun (f10 38 (by decide)) 1)) ((f106 39 (by decide)).trans (f10 39 (by decide))) hI38
      have I125 : jI43 σ104 := jI43_fr ((congrFun (f106 43 (by decide)) 8).trans (congrFun (f10 43 (by decide)) 8)) hI43
      have I126 : jI47 σ104 := jI47_fr ((congrFun (f106 47 (by decide)) 0).trans (congrFun (f10 47 (by decide)) 0)) ((f106 48 (by decide)).trans (f10 48 (by decide))) ((f106 49 (by decide)).trans (f10 49 (by decide))) hI47
      have I127 : jI50 σ104 := jI50_fr ((f106 52 (by decide)).trans (f10 52 (by decide))) hI50
      have I128 : jI102 σ104 := jI102_fr ((f107 6 (by decide)).trans (congrFun (f10 55 (by decide)) 6)) ((f106 60 (by decide)).trans (f10 60 (by decide))) ((f106 61 (by decide)).trans (f10 61 (by decide))) hI102
      have I129 : jI103 σ104 := jI103_fr ((f107 9 (by decide)).trans (congrFun (f10 55 (by decide)) 9)) hI103
      have I130 : jI104 σ104 := jI104_fr ((f107 10 (by decide)).trans (congrFun (f10 55 (by decide)) 10)) ((f107 12 (by decide)).trans (congrFun (f10 55 (by decide)) 12)) ((f107 13 (by decide)).trans (congrFun (f10 55 (by decide)) 13)) ((f106 62 (by decide)).trans (f10 62 (by decide))) ((f106 67 (by decide)).trans (f10 67 (by decide))) hI104
      have I131 : jI105 σ104 := jI105_fr ((f107 15 (by decide)).trans (congrFun (f10 55 (by decide)) 15)) ((f106 65 (by decide)).trans (f10 65 (by decide))) hI105
      have I132 : jI106 σ104 := jI106_fr ((f107 32 (by decide)).trans (congrFun (f10 55 (by decide)) 32)) ((f106 70 (by decide)).trans (f10 70 (by decide))) ((f106 71 (by decide)).trans (f10 71 (by decide))) ((f106 72 (by decide)).trans (f10 72 (by decide))) hI106
      have I133 : jI107 σ104 := jI107_fr ((f107 12 (by decide)).trans (congrFun (f10 55 (by decide)) 12)) ((f107 47 (by decide)).trans (congrFun (f10 55 (by decide)) 47)) ((f106 80 (by decide)).trans (f10 80 (by decide))) hI107
      have I134 : jI109 σ104 := jI109_fr ((f107 50 (by decide)).trans (congrFun (f10 55 (by decide)) 50)) hI109
      have I135 : jI110 σ104 := jI110_fr ((f106 86 (by decide)).trans (f10 86 (by decide))) ((f106 87 (by decide)).trans (f10 87 (by decide))) hI110
      have I136 : jI111 σ104 := jI111_fr ((f106 79 (by decide)).trans (f10 79 (by decide))) hI111
      have I137 : jI119 σ104 := jI119_fr ((f106 68 (by decide)).trans (f10 68 (by decide))) hI119
      have p138 : jKept σ104 := jKept.fr ((f106 75 (by decide)).trans (f10 75 (by decide))) ((f106 76 (by decide)).trans (f10 76 (by decide))) ((f106 77 (by decide)).trans (f10 77 (by decide))) hs_jKept
      have p139 : jBook σ104 := jBook.fr ((f107 47 (by decide)).trans (congrFun (f10 55 (by decide)) 47)) ((f107 10 (by decide)).trans (congrFun (f10 55 (by decide)) 10)) ((f106 81 (by decide)).trans (f10 81 (by decide))) hs_jBook
      have z140 : (σ104 38 0).toInt = (σ 38 0).toInt := (congrArg Int32.toInt (show σ104 38 0 = (σ 38 0) from ((congrFun (f106 38 (by decide)) 0).trans (congrFun (f10 38 (by decide)) 0))))
      have z141 : (σ104 55 32).toInt = (σ 55 32).toInt := (congrArg Int32.toInt (show σ104 55 32 = (σ 55 32) from ((f107 32 (by decide)).trans (congrFun (f10 55 (by decide)) 32))))
      exact ih x116 σ104 τ _ _ ls (by have h9 := tx116; omega) ⟨I117, I118, I119, I120, I121, I122, I123, I124, I125, I126, I127, I108, I128, I129, I130, I131, I132, I133, I134, I135, I136, I137, p138, p139, (by omega), (show jShP (σ104 51) (σ104 52) (σ104 53) (σ104 86) (σ104 87) (σ104 55 32).toInt by rw [show σ104 51 = σ 51 from ((f106 51 (by decide)).trans (f10 51 (by decide))), show σ104 52 = σ 52 from ((f106 52 (by decide)).trans (f10 52 (by decide))), show σ104 53 = σ 53 from ((f106 53 (by decide)).trans (f10 53 (by decide))), show σ104 86 = σ 86 from ((f106 86 (by decide)).trans (f10 86 (by decide))), show σ104 87 = σ 87 from ((f106 87 (by decide)).trans (f10 87 (by decide)))]; exact (hr0.up (by omega) (by omega))), (show jKd (σ104 39) (σ104 70) (σ104 55 32).toInt by rw [show σ104 39 = σ 39 from ((f106 39 (by decide)).trans (f10 39 (by decide))), show σ104 70 = σ 70 from ((f106 70 (by decide)).trans (f10 70 (by decide))), show (σ104 55 32).toInt = (σ 55 32).toInt from by omega]; exact hr1)⟩ hP hS (lv_sub hl [0, 1, 2, 3] rfl)
    · obtain ⟨q147, k142, k143, k144, k145, k146⟩ := h111
      refine lv_pop hx hb dL_law_986 rfl ?_
      refine lv_goto (tgt := 1357) hx hb dL_law_987 (by decide) ?_
      obtain ⟨x148, ex148⟩ : ∃ y : Int32, y = x0 + 6 := ⟨_, rfl⟩
      have tx148 : x148.toInt = x0.toInt + 6 := (jadd ex148 rfl jz_6 (by omega) (by omega)).trans (by omega)
      refine lv_iinc (v := x148) (lv' := [(3, .int x148), (2, .ref (ad 55)), (1, .ref (ad 0)), (0, .ref b)]) hx hb dL_law_1357 hl (k := 0) rfl (by rw [ex148]; rfl) (by decide) rfl (fun ls hl => ?_)
      refine lv_goto (tgt := 18) hx hb dL_law_1360 (by decide) ?_
      have I149 : jI2 σ104 := jI2_fr (congrFun (f106 2 (by decide)) 0) (congrFun (f106 2 (by decide)) 1) (congrFun (f106 2 (by decide)) 2) (congrFun (f106 2 (by decide)) 3) (f106 6 (by decide)) I12
      have I150 : jI9 σ104 := jI9_fr ((congrFun (f106 9 (by decide)) 0).trans (congrFun (f10 9 (by decide)) 0)) ((f106 10 (by decide)).trans (f10 10 (by decide))) ((f106 11 (by decide)).trans (f10 11 (by decide))) hI9
      have I151 : jI12 σ104 := jI12_fr ((congrFun (f106 12 (by decide)) 0).trans (congrFun (f10 12 (by decide)) 0)) ((f106 13 (by decide)).trans (f10 13 (by decide))) hI12
      have I152 : jI16 σ104 := jI16_fr ((congrFun (f106 16 (by decide)) 0).trans (congrFun (f10 16 (by decide)) 0)) ((congrFun (f106 16 (by decide)) 1).trans (congrFun (f10 16 (by decide)) 1)) ((congrFun (f106 16 (by decide)) 2).trans (congrFun (f10 16 (by decide)) 2)) ((f106 17 (by decide)).trans (f10 17 (by decide))) hI16
      have I153 : jI18 σ104 := jI18_fr ((congrFun (f106 18 (by decide)) 0).trans (congrFun (f10 18 (by decide)) 0)) ((f106 19 (by decide)).trans (f10 19 (by decide))) hI18
      have I154 : jI22 σ104 := jI22_fr ((congrFun (f106 22 (by decide)) 0).trans (congrFun (f10 22 (by decide)) 0)) ((f106 23 (by decide)).trans (f10 23 (by decide))) hI22
      have I155 : jI31 σ104 := jI31_fr ((congrFun (f106 31 (by decide)) 8).trans (congrFun (f10 31 (by decide)) 8)) ((f106 33 (by decide)).trans (f10 33 (by decide))) ((f106 36 (by decide)).trans (f10 36 (by decide))) hI31
      have I156 : jI38 σ104 := jI38_fr ((congrFun (f106 38 (by decide)) 0).trans (congrFun (f10 38 (by decide)) 0)) ((congrFun (f106 38 (by decide)) 1).trans (congrFun (f10 38 (by decide)) 1)) ((f106 39 (by decide)).trans (f10 39 (by decide))) hI38
      have I157 : jI43 σ104 := jI43_fr ((congrFun (f106 43 (by decide)) 8).trans (congrFun (f10 43 (by decide)) 8)) hI43
      have I158 : jI47 σ104 := jI47_fr ((congrFun (f106 47 (by decide)) 0).trans (congrFun (f10 47 (by decide)) 0)) ((f106 48 (by decide)).trans (f10 48 (by decide))) ((f106 49 (by decide)).trans (f10 49 (by decide))) hI47
      have I159 : jI50 σ104 := jI50_fr ((f106 52 (by decide)).trans (f10 52 (by decide))) hI50
      have I160 : jI102 σ104 := jI102_fr ((f107 6 (by decide)).trans (congrFun (f10 55 (by decide)) 6)) ((f106 60 (by decide)).trans (f10 60 (by decide))) ((f106 61 (by decide)).trans (f10 61 (by decide))) hI102
      have I161 : jI103 σ104 := jI103_fr ((f107 9 (by decide)).trans (congrFun (f10 55 (by decide)) 9)) hI103
      have I162 : jI104 σ104 := jI104_fr ((f107 10 (by decide)).trans (congrFun (f10 55 (by decide)) 10)) ((f107 12 (by decide)).trans (congrFun (f10 55 (by decide)) 12)) ((f107 13 (by decide)).trans (congrFun (f10 55 (by decide)) 13)) ((f106 62 (by decide)).trans (f10 62 (by decide))) ((f106 67 (by decide)).trans (f10 67 (by decide))) hI104
      have I163 : jI105 σ104 := jI105_fr ((f107 15 (by decide)).trans (congrFun (f10 55 (by decide)) 15)) ((f106 65 (by decide)).trans (f10 65 (by decide))) hI105
      have I164 : jI106 σ104 := jI106_fr ((f107 32 (by decide)).trans (congrFun (f10 55 (by decide)) 32)) ((f106 70 (by decide)).trans (f10 70 (by decide))) ((f106 71 (by decide)).trans (f10 71 (by decide))) ((f106 72 (by decide)).trans (f10 72 (by decide))) hI106
      have I165 : jI107 σ104 := jI107_fr ((f107 12 (by decide)).trans (congrFun (f10 55 (by decide)) 12)) ((f107 47 (by decide)).trans (congrFun (f10 55 (by decide)) 47)) ((f106 80 (by decide)).trans (f10 80 (by decide))) hI107
      have I166 : jI109 σ104 := jI109_fr ((f107 50 (by decide)).trans (congrFun (f10 55 (by decide)) 50)) hI109
      have I167 : jI110 σ104 := jI110_fr ((f106 86 (by decide)).trans (f10 86 (by decide))) ((f106 87 (by decide)).trans (f10 87 (by decide))) hI110
      have I168 : jI111 σ104 := jI111_fr ((f106 79 (by decide)).trans (f10 79 (by decide))) hI111
      have I169 : jI119 σ104 := jI119_fr ((f106 68 (by decide)).trans (f10 68 (by decide))) hI119
      have p170 : jKept σ104 := jKept.fr ((f106 75 (by decide)).trans (f10 75 (by decide))) ((f106 76 (by decide)).trans (f10 76 (by decide))) ((f106 77 (by decide)).trans (f10 77 (by decide))) hs_jKept
      have p171 : jBook σ104 := jBook.fr ((f107 47 (by decide)).trans (congrFun (f10 55 (by decide)) 47)) ((f107 10 (by decide)).trans (congrFun (f10 55 (by decide)) 10)) ((f106 81 (by decide)).trans (f10 81 (by decide))) hs_jBook
      have z172 : (σ104 38 0).toInt = (σ 38 0).toInt := (congrArg Int32.toInt (show σ104 38 0 = (σ 38 0) from ((congrFun (f106 38 (by decide)) 0).trans (congrFun (f10 38 (by decide)) 0))))
      have z173 : (σ104 55 32).toInt = (σ 55 32).toInt := (congrArg Int32.toInt (show σ104 55 32 = (σ 55 32) from ((f107 32 (by decide)).trans (congrFun (f10 55 (by decide)) 32))))
      exact ih x148 σ104 τ _ _ ls (by have h9 := tx148; omega) ⟨I149, I150, I151, I152, I153, I154, I155, I156, I157, I158, I159, I108, I160, I161, I162, I163, I164, I165, I166, I167, I168, I169, p170, p171, (by omega), (show jShP (σ104 51) (σ104 52) (σ104 53) (σ104 86) (σ104 87) (σ104 55 32).toInt by rw [show σ104 51 = σ 51 from ((f106 51 (by decide)).trans (f10 51 (by decide))), show σ104 52 = σ 52 from ((f106 52 (by decide)).trans (f10 52 (by decide))), show σ104 53 = σ 53 from ((f106 53 (by decide)).trans (f10 53 (by decide))), show σ104 86 = σ 86 from ((f106 86 (by decide)).trans (f10 86 (by decide))), show σ104 87 = σ 87 from ((f106 87 (by decide)).trans (f10 87 (by decide)))]; exact (hr0.up (by omega) (by omega))), (show jKd (σ104 39) (σ104 70) (σ104 55 32).toInt by rw [show σ104 39 = σ 39 from ((f106 39 (by decide)).trans (f10 39 (by decide))), show σ104 70 = σ 70 from ((f106 70 (by decide)).trans (f10 70 (by decide))), show (σ104 55 32).toInt = (σ 55 32).toInt from by omega]; exact hr1)⟩ hP hS (lv_sub hl [0, 1, 2, 3] rfl)
set_option maxHeartbeats 4000000 in
set_option maxRecDepth 100000 in
theorem law_case_28 {p : Program} {e : Env} {s : State} {m : MethodId} {below : List Frame} {meth : Method} {c : Code} (l : Launch) {b L : Nat} {xs : Nat → Int32} {D : va_G} {cI cL : ClassId} {ad zz : Nat → Nat} (C0 : lw_At p s m meth c b L xs) (hJ : jD ad) (hA : ∀ q, jA ad q → s.heap.size ≤ q) (hK : jK D cI cL s) (hZ : jZ zz (fun q : Nat => s.heap.size ≤ q) s s.heap) {x0 : Int32} (hx0 : 0 ≤ x0.toInt) (hxL : x0.toInt + 6 ≤ (L : Int)) (hL : L ≤ 384) {σ : Nat → Nat → Int32} {τ : Nat → Nat → Int64} {H : Heap} {locs : List Loc} (hS : va_S (fun q : Nat => s.heap.size ≤ q) s.heap H locs) {ls : Array Slot} (hAll : jAll σ τ) (hP : jH D cI cL ad σ τ H) (hl : lv_has ls 4 [(3, .int x0), (2, .ref (ad 55)), (1, .ref (ad 0)), (0, .ref b)]) (ih : ∀ (x1 : Int32) (σ : Nat → Nat → Int32) (τ : Nat → Nat → Int64) (H : Heap) (locs : List Loc) (ls : Array Slot), x1.toInt = x0.toInt + 6 → jAll σ τ → jH D cI cL ad σ τ H → va_S (fun q : Nat => s.heap.size ≤ q) s.heap H locs → lv_has ls 4 [(3, .int x1), (2, .ref (ad 55)), (1, .ref (ad 0)), (0, .ref b)] → W p l e room_1 s m #[Value.ref b] below meth c H locs 90 348600 (lw_Z below #[Value.ref b] s) (F0 m 18 ls [])) : W p l e room_1 s m #[Value.ref b] below meth c H locs 90 348600 (lw_Z below #[Value.ref b] s) (F0 m 990 ls []) := by
  obtain ⟨hx, hb, hr, hml, hown, hts0, hX, hbl, hlocks, hgv⟩ := C0
  have hts : ∀ w ∈ wsL_law, w.before #[Value.ref b] s = true := fun w h => hts0 w (wsL_law_in w h)
  have hbA : ¬ (fun q : Nat => s.heap.size ≤ q) b := Nat.not_le.mpr hbl
  have hown : s.vm.findClass RL = some m.cls := hown
  obtain ⟨hI2, hI9, hI12, hI16, hI18, hI22, hI31, hI38, hI43, hI47, hI50, hI101, hI102, hI103, hI104, hI105, hI106, hI107, hI109, hI110, hI111, hI119, hs_jKept, hs_jBook, ht0, hr0, hr1⟩ := hAll
  have hL9 : (L : Int) ≤ 384 := by omega
  obtain ⟨i1, i2, w3⟩ : (0 ≤ (σ 38 0).toInt ∧ (σ 38 0).toInt ≤ 20) ∧ (0 ≤ (σ 38 1).toInt ∧ (σ 38 1).toInt ≤ 1000) ∧ (∀ k : Nat, k < 20 → 0 ≤ (σ 39 k).toInt ∧ (σ 39 k).toInt ≤ 6) := id hI38
  obtain ⟨i4, w5, w6, w7⟩ : (0 ≤ (σ 55 32).toInt ∧ (σ 55 32).toInt ≤ 20) ∧ (∀ k : Nat, k < 20 → 0 ≤ (σ 70 k).toInt ∧ (σ 70 k).toInt ≤ 6) ∧ (∀ k : Nat, k < 20 → 0 ≤ (σ 71 k).toInt ∧ (σ 71 k).toInt ≤ 8) ∧ (∀ k : Nat, k < 160 → 0 ≤ (σ 72 k).toInt ∧ (σ 72 k).toInt ≤ 3) := id hI106
  refine lv_aload_n hx hb dL_law_990 rfl (lv_at hl 2 rfl) ?_
  refine lv_aload_n hx hb dL_law_991 rfl (lv_at hl 3 rfl) ?_
  refine lv_iload_n hx hb dL_law_992 rfl (lv_at hl 0 rfl) ?_
  refine lv_iconst (v := 1) hx hb dL_law_993 (by decide) ?_
  have g8 := jrg (rfl : x0.toInt = x0.toInt)
  refine lv_iadd hx hb dL_law_994 ?_
  refine lv_topi (fun x9 ex9 => ?_)
  have tx9 : x9.toInt = x0.toInt + 1 := (jadd ex9 rfl jz_1 (by omega) (by omega)).trans (by omega)
  refine va_sld hx hb hX hbl hbA hS (jin tx9 (by omega) (by omega)) dL_law_995 ?_
  have g10 := jrg (rfl : (xs x9.toNatClampNeg).toInt = (xs x9.toNatClampNeg).toInt)
  refine lv_aload_n hx hb dL_law_996 rfl (lv_at hl 3 rfl) ?_
  refine lv_iload_n hx hb dL_law_997 rfl (lv_at hl 0 rfl) ?_
  refine lv_iconst (v := 2) hx hb dL_law_998 (by decide) ?_
  refine lv_iadd hx hb dL_law_999 ?_
  refine lv_topi (fun x11 ex11 => ?_)
  have tx11 : x11.toInt = x0.toInt + 2 := (jadd ex11 rfl jz_2 (by omega) (by omega)).trans (by omega)
  refine va_sld hx hb hX hbl hbA hS (jin tx11 (by omega) (by omega)) dL_law_1000 ?_
  have g12 := jrg (rfl : (xs x11.toNatClampNeg).toInt = (xs x11.toNatClampNeg).toInt)
  refine lv_aload_n hx hb dL_law_1001 rfl (lv_at hl 3 rfl) ?_
  refine lv_iload_n hx hb dL_law_1002 rfl (lv_at hl 0 rfl) ?_
  refine lv_iconst (v := 3) hx hb dL_law_1003 (by decide) ?_
  refine lv_iadd hx hb dL_law_1004 ?_
  refine lv_topi (fun x13 ex13 => ?_)
  have tx13 : x13.toInt = x0.toInt + 3 := (jadd ex13 rfl jz_3 (by omega) (by omega)).trans (by omega)
  refine va_sld hx hb hX hbl hbA hS (jin tx13 (by omega) (by omega)) dL_law_1005 ?_
  have g14 := jrg (rfl : (xs x13.toNatClampNeg).toInt = (xs x13.toNatClampNeg).toInt)
  refine jcallV (As := [.int (xs x9.toNatClampNeg), .int (xs x11.toNatClampNeg), .int (xs x13.toNatClampNeg)]) (rest := []) ⟨hx, hb, hml, hown, hts⟩ hK hP hA hS hZ (c_X11_act l D cI cL ad zz hJ σ τ (xs x9.toNatClampNeg) ((xs x9.toNatClampNeg).toInt) rfl (xs x11.toNatClampNeg) ((xs x11.toNatClampNeg).toInt) rfl (xs x13.toNatClampNeg) ((xs x13.toNatClampNeg).toInt) rfl hI38) cw_RL_129 (jc_0 cI cL ad σ τ) rfl ⟨Nat.le_of_ble_eq_true rfl, Nat.le_of_ble_eq_true rfl⟩ rfl rfl rfl hl.1 rfl (Nat.le_of_ble_eq_true rfl) dL_law_1006 ⟨Nat.le_of_ble_eq_true rfl, Nat.le_of_ble_eq_true rfl⟩ (fun r16 σ15 τ15 H locs h15 hP hS => ?_)
  obtain ⟨rfl, f17, f18, I19, h15⟩ := h15
  obtain ⟨i21, i22, w23⟩ : (0 ≤ (σ15 38 0).toInt ∧ (σ15 38 0).toInt ≤ 20) ∧ (0 ≤ (σ15 38 1).toInt ∧ (σ15 38 1).toInt ≤ 1000) ∧ (∀ k : Nat, k < 20 → 0 ≤ (σ15 39 k).toInt ∧ (σ15 39 k).toInt ≤ 6) := id I19
  have z24 : (σ15 38 0).toInt = (σ 38 0).toInt := (congrArg Int32.toInt (show σ15 38 0 = (σ 38 0) from (f18 0 (by decide))))
  rcases h15 with h25 | h26
  · obtain ⟨q29, k27, k28⟩ := h25
    have q29 := q29.symm
    subst q29
    refine lv_pop hx hb dL_law_1009 rfl ?_
    refine lv_aload_n hx hb dL_law_1010 rfl (lv_at hl 1 rfl) ?_
    refine lv_aload_n hx hb dL_law_1011 rfl (lv_at hl 3 rfl) ?_
    refine lv_iload_n hx hb dL_law_1012 rfl (lv_at hl 0 rfl) ?_
    refine lv_iconst (v := 1) hx hb dL_law_1013 (by decide) ?_
    refine lv_iadd hx hb dL_law_1014 ?_
    refine jtopr ex9.symm ?_
    refine va_sld hx hb hX hbl hbA hS (jin tx9 (by omega) (by omega)) dL_law_1015 ?_
    refine lv_aload_n hx hb dL_law_1016 rfl (lv_at hl 3 rfl) ?_
    refine lv_iload_n hx hb dL_law_1017 rfl (lv_at hl 0 rfl) ?_
    refine lv_iconst (v := 2) hx hb dL_law_1018 (by decide) ?_
    refine lv_iadd hx hb dL_law_1019 ?_
    refine jtopr ex11.symm ?_
    refine va_sld hx hb hX hbl hbA hS (jin tx11 (by omega) (by omega)) dL_law_1020 ?_
    refine lv_aload_n hx hb dL_law_1021 rfl (lv_at hl 3 rfl) ?_
    refine lv_iload_n hx hb dL_law_1022 rfl (lv_at hl 0 rfl) ?_
    refine lv_iconst (v := 3) hx hb dL_law_1023 (by decide) ?_
    refine lv_iadd hx hb dL_law_1024 ?_
    refine jtopr ex13.symm ?_
    refine va_sld hx hb hX hbl hbA hS (jin tx13 (by omega) (by omega)) dL_law_1025 ?_
    have I30 : jI106 σ15 := jI106_fr (congrFun (f17 55 (by decide)) 32) (f17 70 (by decide)) (f17 71 (by decide)) (f17 72 (by decide)) hI106
    have z31 : (σ15 55 32).toInt = (σ 55 32).toInt := (congrArg Int32.toInt (show σ15 55 32 = (σ 55 32) from (congrFun (f17 55 (by decide)) 32)))
    refine jcallV (As := [.int (xs x9.toNatClampNeg), .int (xs x11.toNatClampNeg), .int (xs x13.toNatClampNeg)]) (rest := []) ⟨hx, hb, hml, hown, hts⟩ hK hP hA hS hZ (c_X12_act l D cI cL ad zz hJ σ15 τ (xs x9.toNatClampNeg) ((xs x9.toNatClampNeg).toInt) rfl (xs x11.toNatClampNeg) ((xs x11.toNatClampNeg).toInt) rfl (xs x13.toNatClampNeg) ((xs x13.toNatClampNeg).toInt) rfl I30) cw_RL_132 (jc_55 cI cL ad σ15 τ) rfl ⟨Nat.le_of_ble_eq_true rfl, Nat.le_of_ble_eq_true rfl⟩ rfl rfl rfl hl.1 rfl (Nat.le_of_ble_eq_true rfl) dL_law_1026 ⟨Nat.le_of_ble_eq_true rfl, Nat.le_of_ble_eq_true rfl⟩ (fun r33 σ32 τ32 H locs h32 hP hS => ?_)
    obtain ⟨rfl, f34, f35, h32⟩ := h32
    rcases h32 with h37 | h38
    · obtain ⟨q41, k39, k40⟩ := h37
      have q41 := q41.symm
      subst q41
      refine lv_pop hx hb dL_law_1029 rfl ?_
      refine lv_goto (tgt := 1357) hx hb dL_law_1030 (by decide) ?_
      obtain ⟨x42, ex42⟩ : ∃ y : Int32, y = x0 + 6 := ⟨_, rfl⟩
      have tx42 : x42.toInt = x0.toInt + 6 := (jadd ex42 rfl jz_6 (by omega) (by omega)).trans (by omega)
      refine lv_iinc (v := x42) (lv' := [(3, .int x42), (2, .ref (ad 55)), (1, .ref (ad 0)), (0, .ref b)]) hx hb dL_law_1357 hl (k := 0) rfl (by rw [ex42]; rfl) (by decide) rfl (fun ls hl => ?_)
      refine lv_goto (tgt := 18) hx hb dL_law_1360 (by decide) ?_
      have I43 : jI2 σ32 := jI2_fr ((congrFun (f34 2 (by decide)) 0).trans (congrFun (f17 2 (by decide)) 0)) ((congrFun (f34 2 (by decide)) 1).trans (congrFun (f17 2 (by decide)) 1)) ((congrFun (f34 2 (by decide)) 2).trans (congrFun (f17 2 (by decide)) 2)) ((congrFun (f34 2 (by decide)) 3).trans (congrFun (f17 2 (by decide)) 3)) ((f34 6 (by decide)).trans (f17 6 (by decide))) hI2
      have I44 : jI9 σ32 := jI9_fr ((congrFun (f34 9 (by decide)) 0).trans (congrFun (f17 9 (by decide)) 0)) ((f34 10 (by decide)).trans (f17 10 (by decide))) ((f34 11 (by decide)).trans (f17 11 (by decide))) hI9
      have I45 : jI12 σ32 := jI12_fr ((congrFun (f34 12 (by decide)) 0).trans (congrFun (f17 12 (by decide)) 0)) ((f34 13 (by decide)).trans (f17 13 (by decide))) hI12
      have I46 : jI16 σ32 := jI16_fr ((congrFun (f34 16 (by decide)) 0).trans (congrFun (f17 16 (by decide)) 0)) ((congrFun (f34 16 (by decide)) 1).trans (congrFun (f17 16 (by decide)) 1)) ((congrFun (f34 16 (by decide)) 2).trans (congrFun (f17 16 (by decide)) 2)) ((f34 17 (by decide)).trans (f17 17 (by decide))) hI16
      have I47 : jI18 σ32 := jI18_fr ((congrFun (f34 18 (by decide)) 0).trans (congrFun (f17 18 (by decide)) 0)) ((f34 19 (by decide)).trans (f17 19 (by decide))) hI18
      have I48 : jI22 σ32 := jI22_fr ((congrFun (f34 22 (by decide)) 0).trans (congrFun (f17 22 (by decide)) 0)) ((f34 23 (by decide)).trans (f17 23 (by decide))) hI22
      have I49 : jI31 σ32 := jI31_fr ((congrFun (f34 31 (by decide)) 8).trans (congrFun (f17 31 (by decide)) 8)) ((f34 33 (by decide)).trans (f17 33 (by decide))) ((f34 36 (by decide)).trans (f17 36 (by decide))) hI31
      have I50 : jI38 σ32 := jI38_fr (congrFun (f34 38 (by decide)) 0) (congrFun (f34 38 (by decide)) 1) (f34 39 (by decide)) I19
      have I51 : jI43 σ32 := jI43_fr ((congrFun (f34 43 (by decide)) 8).trans (congrFun (f17 43 (by decide)) 8)) hI43
      have I52 : jI47 σ32 := jI47_fr ((congrFun (f34 47 (by decide)) 0).trans (congrFun (f17 47 (by decide)) 0)) ((f34 48 (by decide)).trans (f17 48 (by decide))) ((f34 49 (by decide)).trans (f17 49 (by decide))) hI47
      have I53 : jI50 σ32 := jI50_fr ((f34 52 (by decide)).trans (f17 52 (by decide))) hI50
      have I54 : jI101 σ32 := jI101_fr ((f35 4 (by decide)).trans (congrFun (f17 55 (by decide)) 4)) ((f35 5 (by decide)).trans (congrFun (f17 55 (by decide)) 5)) ((f34 56 (by decide)).trans (f17 56 (by decide))) ((f34 57 (by decide)).trans (f17 57 (by decide))) ((f34 58 (by decide)).trans (f17 58 (by decide))) ((f34 59 (by decide)).trans (f17 59 (by decide))) hI101
      have I55 : jI102 σ32 := jI102_fr ((f35 6 (by decide)).trans (congrFun (f17 55 (by decide)) 6)) ((f34 60 (by decide)).trans (f17 60 (by decide))) ((f34 61 (by decide)).trans (f17 61 (by decide))) hI102
      have I56 : jI103 σ32 := jI103_fr ((f35 9 (by decide)).trans (congrFun (f17 55 (by decide)) 9)) hI103
      have I57 : jI104 σ32 := jI104_fr ((f35 10 (by decide)).trans (congrFun (f17 55 (by decide)) 10)) ((f35 12 (by decide)).trans (congrFun (f17 55 (by decide)) 12)) ((f35 13 (by decide)).trans (congrFun (f17 55 (by decide)) 13)) ((f34 62 (by decide)).trans (f17 62 (by decide))) ((f34 67 (by decide)).trans (f17 67 (by decide))) hI104
      have I58 : jI105 σ32 := jI105_fr ((f35 15 (by decide)).trans (congrFun (f17 55 (by decide)) 15)) ((f34 65 (by decide)).trans (f17 65 (by decide))) hI105
      have I59 : jI106 σ32 := jI106_fr (f35 32 (by decide)) (f34 70 (by decide)) (f34 71 (by decide)) (f34 72 (by decide)) I30
      have I60 : jI107 σ32 := jI107_fr ((f35 12 (by decide)).trans (congrFun (f17 55 (by decide)) 12)) ((f35 47 (by decide)).trans (congrFun (f17 55 (by decide)) 47)) ((f34 80 (by decide)).trans (f17 80 (by decide))) hI107
      have I61 : jI109 σ32 := jI109_fr ((f35 50 (by decide)).trans (congrFun (f17 55 (by decide)) 50)) hI109
      have I62 : jI110 σ32 := jI110_fr ((f34 86 (by decide)).trans (f17 86 (by decide))) ((f34 87 (by decide)).trans (f17 87 (by decide))) hI110
      have I63 : jI111 σ32 := jI111_fr ((f34 79 (by decide)).trans (f17 79 (by decide))) hI111
      have I64 : jI119 σ32 := jI119_fr ((f34 68 (by decide)).trans (f17 68 (by decide))) hI119
      have p65 : jKept σ32 := jKept.fr ((f34 75 (by decide)).trans (f17 75 (by decide))) ((f34 76 (by decide)).trans (f17 76 (by decide))) ((f34 77 (by decide)).trans (f17 77 (by decide))) hs_jKept
      have p66 : jBook σ32 := jBook.fr ((f35 47 (by decide)).trans (congrFun (f17 55 (by decide)) 47)) ((f35 10 (by decide)).trans (congrFun (f17 55 (by decide)) 10)) ((f34 81 (by decide)).trans (f17 81 (by decide))) hs_jBook
      have z67 : (σ32 38 0).toInt = (σ 38 0).toInt := (congrArg Int32.toInt (show σ32 38 0 = (σ 38 0) from ((congrFun (f34 38 (by decide)) 0).trans (f18 0 (by decide)))))
      have z68 : (σ32 55 32).toInt = (σ 55 32).toInt := (congrArg Int32.toInt (show σ32 55 32 = (σ 55 32) from ((f35 32 (by decide)).trans (congrFun (f17 55 (by decide)) 32))))
      exact ih x42 σ32 τ _ _ ls (by have h9 := tx42; omega) ⟨I43, I44, I45, I46, I47, I48, I49, I50, I51, I52, I53, I54, I55, I56, I57, I58, I59, I60, I61, I62, I63, I64, p65, p66, (by omega), (show jShP (σ32 51) (σ32 52) (σ32 53) (σ32 86) (σ32 87) (σ32 55 32).toInt by rw [show σ32 51 = σ 51 from ((f34 51 (by decide)).trans (f17 51 (by decide))), show σ32 52 = σ 52 from ((f34 52 (by decide)).trans (f17 52 (by decide))), show σ32 53 = σ 53 from ((f34 53 (by decide)).trans (f17 53 (by decide))), show σ32 86 = σ 86 from ((f34 86 (by decide)).trans (f17 86 (by decide))), show σ32 87 = σ 87 from ((f34 87 (by decide)).trans (f17 87 (by decide)))]; exact (hr0.up (by omega) (by omega))), (show jKd (σ32 39) (σ32 70) (σ32 55 32).toInt by rw [show σ32 39 = σ 39 from ((f34 39 (by decide)).trans (f17 39 (by decide))), show σ32 70 = σ 70 from ((f34 70 (by decide)).trans (f17 70 (by decide))), show (σ32 55 32).toInt = (σ 55 32).toInt from by omega]; exact hr1)⟩ hP hS (lv_sub hl [0, 1, 2, 3] rfl)
    · obtain ⟨q73, k69, k70, k71, k72⟩ := h38
      exact absurd (by omega : False) id
  · obtain ⟨q78, k74, k75, k76, k77⟩ := h26
    refine lv_pop hx hb dL_law_1009 rfl ?_
    refine lv_aload_n hx hb dL_law_1010 rfl (lv_at hl 1 rfl) ?_
    refine lv_aload_n hx hb dL_law_1011 rfl (lv_at hl 3 rfl) ?_
    refine lv_iload_n hx hb dL_law_1012 rfl (lv_at hl 0 rfl) ?_
    refine lv_iconst (v := 1) hx hb dL_law_1013 (by decide) ?_
    refine lv_iadd hx hb dL_law_1014 ?_
    refine jtopr ex9.symm ?_
    refine va_sld hx hb hX hbl hbA hS (jin tx9 (by omega) (by omega)) dL_law_1015 ?_
    refine lv_aload_n hx hb dL_law_1016 rfl (lv_at hl 3 rfl) ?_
    refine lv_iload_n hx hb dL_law_1017 rfl (lv_at hl 0 rfl) ?_
    refine lv_iconst (v := 2) hx hb dL_law_1018 (by decide) ?_
    refine lv_iadd hx hb dL_law_1019 ?_
    refine jtopr ex11.symm ?_
    refine va_sld hx hb hX hbl hbA hS (jin tx11 (by omega) (by omega)) dL_law_1020 ?_
    refine lv_aload_n hx hb dL_law_1021 rfl (lv_at hl 3 rfl) ?_
    refine lv_iload_n hx hb dL_law_1022 rfl (lv_at hl 0 rfl) ?_
    refine lv_iconst (v := 3) hx hb dL_law_1023 (by decide) ?_
    refine lv_iadd hx hb dL_law_1024 ?_
    refine jtopr ex13.symm ?_
    refine va_sld hx hb hX hbl hbA hS (jin tx13 (by omega) (by omega)) dL_law_1025 ?_
    have I79 : jI106 σ15 := jI106_fr (congrFun (f17 55 (by decide)) 32) (f17 70 (by decide)) (f17 71 (by decide)) (f17 72 (by decide)) hI106
    have z80 : (σ15 55 32).toInt = (σ 55 32).toInt := (congrArg Int32.toInt (show σ15 55 32 = (σ 55 32) from (congrFun (f17 55 (by decide)) 32)))
    refine jcallV (As := [.int (xs x9.toNatClampNeg), .int (xs x11.toNatClampNeg), .int (xs x13.toNatClampNeg)]) (rest := []) ⟨hx, hb, hml, hown, hts⟩ hK hP hA hS hZ (c_X12_act l D cI cL ad zz hJ σ15 τ (xs x9.toNatClampNeg) ((xs x9.toNatClampNeg).toInt) rfl (xs x11.toNatClampNeg) ((xs x11.toNatClampNeg).toInt) rfl (xs x13.toNatClampNeg) ((xs x13.toNatClampNeg).toInt) rfl I79) cw_RL_132 (jc_55 cI cL ad σ15 τ) rfl ⟨Nat.le_of_ble_eq_true rfl, Nat.le_of_ble_eq_true rfl⟩ rfl rfl rfl hl.1 rfl (Nat.le_of_ble_eq_true rfl) dL_law_1026 ⟨Nat.le_of_ble_eq_true rfl, Nat.le_of_ble_eq_true rfl⟩ (fun r82 σ81 τ81 H locs h81 hP hS => ?_)
    obtain ⟨rfl, f83, f84, h81⟩ := h81
    rcases h81 with h86 | h87
    · obtain ⟨q90, k88, k89⟩ := h86
      exact absurd (by omega : False) id
    · obtain ⟨q95, k91, k92, k93, k94⟩ := h87
      refine lv_pop hx hb dL_law_1029 rfl ?_
      refine lv_goto (tgt := 1357) hx hb dL_law_1030 (by decide) ?_
      obtain ⟨x96, ex96⟩ : ∃ y : Int32, y = x0 + 6 := ⟨_, rfl⟩
      have tx96 : x96.toInt = x0.toInt + 6 := (jadd ex96 rfl jz_6 (by omega) (by omega)).trans (by omega)
      refine lv_iinc (v := x96) (lv' := [(3, .int x96), (2, .ref (ad 55)), (1, .ref (ad 0)), (0, .ref b)]) hx hb dL_law_1357 hl (k := 0) rfl (by rw [ex96]; rfl) (by decide) rfl (fun ls hl => ?_)
      refine lv_goto (tgt := 18) hx hb dL_law_1360 (by decide) ?_
      have I97 : jI2 σ81 := jI2_fr ((congrFun (f83 2 (by decide)) 0).trans (congrFun (f17 2 (by decide)) 0)) ((congrFun (f83 2 (by decide)) 1).trans (congrFun (f17 2 (by decide)) 1)) ((congrFun (f83 2 (by decide)) 2).trans (congrFun (f17 2 (by decide)) 2)) ((congrFun (f83 2 (by decide)) 3).trans (congrFun (f17 2 (by decide)) 3)) ((f83 6 (by decide)).trans (f17 6 (by decide))) hI2
      have I98 : jI9 σ81 := jI9_fr ((congrFun (f83 9 (by decide)) 0).trans (congrFun (f17 9 (by decide)) 0)) ((f83 10 (by decide)).trans (f17 10 (by decide))) ((f83 11 (by decide)).trans (f17 11 (by decide))) hI9
      have I99 : jI12 σ81 := jI12_fr ((congrFun (f83 12 (by decide)) 0).trans (congrFun (f17 12 (by decide)) 0)) ((f83 13 (by decide)).trans (f17 13 (by decide))) hI12
      have I100 : jI16 σ81 := jI16_fr ((congrFun (f83 16 (by decide)) 0).trans (congrFun (f17 16 (by decide)) 0)) ((congrFun (f83 16 (by decide)) 1).trans (congrFun (f17 16 (by decide)) 1)) ((congrFun (f83 16 (by decide)) 2).trans (congrFun (f17 16 (by decide)) 2)) ((f83 17 (by decide)).trans (f17 17 (by decide))) hI16
      have I101 : jI18 σ81 := jI18_fr ((congrFun (f83 18 (by decide)) 0).trans (congrFun (f17 18 (by decide)) 0)) ((f83 19 (by decide)).trans (f17 19 (by decide))) hI18
      have I102 : jI22 σ81 := jI22_fr ((congrFun (f83 22 (by decide)) 0).trans (congrFun (f17 22 (by decide)) 0)) ((f83 23 (by decide)).trans (f17 23 (by decide))) hI22
      have I103 : jI31 σ81 := jI31_fr ((congrFun (f83 31 (by decide)) 8).trans (congrFun (f17 31 (by decide)) 8)) ((f83 33 (by decide)).trans (f17 33 (by decide))) ((f83 36 (by decide)).trans (f17 36 (by decide))) hI31
      have I104 : jI38 σ81 := jI38_fr (congrFun (f83 38 (by decide)) 0) (congrFun (f83 38 (by decide)) 1) (f83 39 (by decide)) I19
      have I105 : jI43 σ81 := jI43_fr ((congrFun (f83 43 (by decide)) 8).trans (congrFun (f17 43 (by decide)) 8)) hI43
      have I106 : jI47 σ81 := jI47_fr ((congrFun (f83 47 (by decide)) 0).trans (congrFun (f17 47 (by decide)) 0)) ((f83 48 (by decide)).trans (f17 48 (by decide))) ((f83 49 (by decide)).trans (f17 49 (by decide))) hI47
      have I107 : jI50 σ81 := jI50_fr ((f83 52 (by decide)).trans (f17 52 (by decide))) hI50
      have I108 : jI101 σ81 := jI101_fr ((f84 4 (by decide)).trans (congrFun (f17 55 (by decide)) 4)) ((f84 5 (by decide)).trans (congrFun (f17 55 (by decide)) 5)) ((f83 56 (by decide)).trans (f17 56 (by decide))) ((f83 57 (by decide)).trans (f17 57 (by decide))) ((f83 58 (by decide)).trans (f17 58 (by decide))) ((f83 59 (by decide)).trans (f17 59 (by decide))) hI101
      have I109 : jI102 σ81 := jI102_fr ((f84 6 (by decide)).trans (congrFun (f17 55 (by decide)) 6)) ((f83 60 (by decide)).trans (f17 60 (by decide))) ((f83 61 (by decide)).trans (f17 61 (by decide))) hI102
      have I110 : jI103 σ81 := jI103_fr ((f84 9 (by decide)).trans (congrFun (f17 55 (by decide)) 9)) hI103
      have I111 : jI104 σ81 := jI104_fr ((f84 10 (by decide)).trans (congrFun (f17 55 (by decide)) 10)) ((f84 12 (by decide)).trans (congrFun (f17 55 (by decide)) 12)) ((f84 13 (by decide)).trans (congrFun (f17 55 (by decide)) 13)) ((f83 62 (by decide)).trans (f17 62 (by decide))) ((f83 67 (by decide)).trans (f17 67 (by decide))) hI104
      have I112 : jI105 σ81 := jI105_fr ((f84 15 (by decide)).trans (congrFun (f17 55 (by decide)) 15)) ((f83 65 (by decide)).trans (f17 65 (by decide))) hI105
      have I113 : jI106 σ81 := jI106_fr (f84 32 (by decide)) (f83 70 (by decide)) (f83 71 (by decide)) (f83 72 (by decide)) I79
      have I114 : jI107 σ81 := jI107_fr ((f84 12 (by decide)).trans (congrFun (f17 55 (by decide)) 12)) ((f84 47 (by decide)).trans (congrFun (f17 55 (by decide)) 47)) ((f83 80 (by decide)).trans (f17 80 (by decide))) hI107
      have I115 : jI109 σ81 := jI109_fr ((f84 50 (by decide)).trans (congrFun (f17 55 (by decide)) 50)) hI109
      have I116 : jI110 σ81 := jI110_fr ((f83 86 (by decide)).trans (f17 86 (by decide))) ((f83 87 (by decide)).trans (f17 87 (by decide))) hI110
      have I117 : jI111 σ81 := jI111_fr ((f83 79 (by decide)).trans (f17 79 (by decide))) hI111
      have I118 : jI119 σ81 := jI119_fr ((f83 68 (by decide)).trans (f17 68 (by decide))) hI119
      have p119 : jKept σ81 := jKept.fr ((f83 75 (by decide)).trans (f17 75 (by decide))) ((f83 76 (by decide)).trans (f17 76 (by decide))) ((f83 77 (by decide)).trans (f17 77 (by decide))) hs_jKept
      have p120 : jBook σ81 := jBook.fr ((f84 47 (by decide)).trans (congrFun (f17 55 (by decide)) 47)) ((f84 10 (by decide)).trans (congrFun (f17 55 (by decide)) 10)) ((f83 81 (by decide)).trans (f17 81 (by decide))) hs_jBook
      have z121 : (σ81 38 0).toInt = (σ 38 0).toInt := (congrArg Int32.toInt (show σ81 38 0 = (σ 38 0) from ((congrFun (f83 38 (by decide)) 0).trans (f18 0 (by decide)))))
      have z122 : (σ81 55 32).toInt = (σ 55 32).toInt := (congrArg Int32.toInt (show σ81 55 32 = (σ 55 32) from ((f84 32 (by decide)).trans (congrFun (f17 55 (by decide)) 32))))
      exact ih x96 σ81 τ _ _ ls (by have h9 := tx96; omega) ⟨I97, I98, I99, I100, I101, I102, I103, I104, I105, I106, I107, I108, I109, I110, I111, I112, I113, I114, I115, I116, I117, I118, p119, p120, (by omega), (show jShP (σ81 51) (σ81 52) (σ81 53) (σ81 86) (σ81 87) (σ81 55 32).toInt by rw [show σ81 51 = σ 51 from ((f83 51 (by decide)).trans (f17 51 (by decide))), show σ81 52 = σ 52 from ((f83 52 (by decide)).trans (f17 52 (by decide))), show σ81 53 = σ 53 from ((f83 53 (by decide)).trans (f17 53 (by decide))), show σ81 86 = σ 86 from ((f83 86 (by decide)).trans (f17 86 (by decide))), show σ81 87 = σ 87 from ((f83 87 (by decide)).trans (f17 87 (by decide)))]; exact (hr0.up (by omega) (by omega))), (show jKd (σ81 39) (σ81 70) (σ81 55 32).toInt by rw [show σ81 39 = σ 39 from ((f83 39 (by decide)).trans (f17 39 (by decide))), show σ81 70 = σ 70 from ((f83 70 (by decide)).trans (f17 70 (by decide))), show (σ81 55 32).toInt = (σ 55 32).toInt from by omega]; exact hr1)⟩ hP hS (lv_sub hl [0, 1, 2, 3] rfl)
set_option maxHeartbeats 4000000 in
set_option maxRecDepth 100000 in
theorem law_case_29 {p : Program} {e : Env} {s : State} {m : MethodId} {below : List Frame} {meth : Method} {c : Code} (l : Launch) {b L : Nat} {xs : Nat → Int32} {D : va_G} {cI cL : ClassId} {ad zz : Nat → Nat} (C0 : lw_At p s m meth c b L xs) (hJ : jD ad) (hA : ∀ q, jA ad q → s.heap.size ≤ q) (hK : jK D cI cL s) (hZ : jZ zz (fun q : Nat => s.heap.size ≤ q) s s.heap) {x0 : Int32} (hx0 : 0 ≤ x0.toInt) (hxL : x0.toInt + 6 ≤ (L : Int)) (hL : L ≤ 384) {σ : Nat → Nat → Int32} {τ : Nat → Nat → Int64} {H : Heap} {locs : List Loc} (hS : va_S (fun q : Nat => s.heap.size ≤ q) s.heap H locs) {ls : Array Slot} (hAll : jAll σ τ) (hP : jH D cI cL ad σ τ H) (hl : lv_has ls 4 [(3, .int x0), (2, .ref (ad 55)), (1, .ref (ad 0)), (0, .ref b)]) (ih : ∀ (x1 : Int32) (σ : Nat → Nat → Int32) (τ : Nat → Nat → Int64) (H : Heap) (locs : List Loc) (ls : Array Slot), x1.toInt = x0.toInt + 6 → jAll σ τ → jH D cI cL ad σ τ H → va_S (fun q : Nat => s.heap.size ≤ q) s.heap H locs → lv_has ls 4 [(3, .int x1), (2, .ref (ad 55)), (1, .ref (ad 0)), (0, .ref b)] → W p l e room_1 s m #[Value.ref b] below meth c H locs 90 348600 (lw_Z below #[Value.ref b] s) (F0 m 18 ls [])) : W p l e room_1 s m #[Value.ref b] below meth c H locs 90 348600 (lw_Z below #[Value.ref b] s) (F0 m 1033 ls []) := by
  obtain ⟨hx, hb, hr, hml, hown, hts0, hX, hbl, hlocks, hgv⟩ := C0
  have hts : ∀ w ∈ wsL_law, w.before #[Value.ref b] s = true := fun w h => hts0 w (wsL_law_in w h)
  have hbA : ¬ (fun q : Nat => s.heap.size ≤ q) b := Nat.not_le.mpr hbl
  have hown : s.vm.findClass RL = some m.cls := hown
  obtain ⟨hI2, hI9, hI12, hI16, hI18, hI22, hI31, hI38, hI43, hI47, hI50, hI101, hI102, hI103, hI104, hI105, hI106, hI107, hI109, hI110, hI111, hI119, hs_jKept, hs_jBook, ht0, hr0, hr1⟩ := hAll
  have hL9 : (L : Int) ≤ 384 := by omega
  obtain ⟨i1, i2, w3⟩ : (0 ≤ (σ 38 0).toInt ∧ (σ 38 0).toInt ≤ 20) ∧ (0 ≤ (σ 38 1).toInt ∧ (σ 38 1).toInt ≤ 1000) ∧ (∀ k : Nat, k < 20 → 0 ≤ (σ 39 k).toInt ∧ (σ 39 k).toInt ≤ 6) := id hI38
  obtain ⟨i4, w5, w6, w7⟩ : (0 ≤ (σ 55 32).toInt ∧ (σ 55 32).toInt ≤ 20) ∧ (∀ k : Nat, k < 20 → 0 ≤ (σ 70 k).toInt ∧ (σ 70 k).toInt ≤ 6) ∧ (∀ k : Nat, k < 20 → 0 ≤ (σ 71 k).toInt ∧ (σ 71 k).toInt ≤ 8) ∧ (∀ k : Nat, k < 160 → 0 ≤ (σ 72 k).toInt ∧ (σ 72 k).toInt ≤ 3) := id hI106
  refine lv_aload_n hx hb dL_law_1033 rfl (lv_at hl 2 rfl) ?_
  refine lv_aload_n hx hb dL_law_1034 rfl (lv_at hl 3 rfl) ?_
  refine lv_iload_n hx hb dL_law_1035 rfl (lv_at hl 0 rfl) ?_
  refine lv_iconst (v := 1) hx hb dL_law_1036 (by decide) ?_
  have g8 := jrg (rfl : x0.toInt = x0.toInt)
  refine lv_iadd hx hb dL_law_1037 ?_
  refine lv_topi (fun x9 ex9 => ?_)
  have tx9 : x9.toInt = x0.toInt + 1 := (jadd ex9 rfl jz_1 (by omega) (by omega)).trans (by omega)
  refine va_sld hx hb hX hbl hbA hS (jin tx9 (by omega) (by omega)) dL_law_1038 ?_
  have g10 := jrg (rfl : (xs x9.toNatClampNeg).toInt = (xs x9.toNatClampNeg).toInt)
  refine jcallV (As := [.int (xs x9.toNatClampNeg)]) (rest := []) ⟨hx, hb, hml, hown, hts⟩ hK hP hA hS hZ (c_X11_trace l D cI cL ad zz hJ σ τ (xs x9.toNatClampNeg) ((xs x9.toNatClampNeg).toInt) rfl hI38) cw_RL_133 (jc_0 cI cL ad σ τ) rfl ⟨Nat.le_of_ble_eq_true rfl, Nat.le_of_ble_eq_true rfl⟩ rfl rfl rfl hl.1 rfl (Nat.le_of_ble_eq_true rfl) dL_law_1039 ⟨Nat.le_of_ble_eq_true rfl, Nat.le_of_ble_eq_true rfl⟩ (fun r12 σ11 τ11 H locs h11 hP hS => ?_)
  obtain ⟨⟨rfl, rfl⟩, h11⟩ := h11
  rcases h11 with h13 | h14
  · obtain ⟨q18, k15, k16, k17⟩ := h13
    have q19 : r12 = (σ 42 (xs x9.toNatClampNeg).toNatClampNeg) := q18.trans rfl
    have q19 := q19.symm
    subst q19
    refine lv_pop hx hb dL_law_1042 rfl ?_
    refine lv_aload_n hx hb dL_law_1043 rfl (lv_at hl 1 rfl) ?_
    refine lv_aload_n hx hb dL_law_1044 rfl (lv_at hl 3 rfl) ?_
    refine lv_iload_n hx hb dL_law_1045 rfl (lv_at hl 0 rfl) ?_
    refine lv_iconst (v := 1) hx hb dL_law_1046 (by decide) ?_
    refine lv_iadd hx hb dL_law_1047 ?_
    refine jtopr ex9.symm ?_
    refine va_sld hx hb hX hbl hbA hS (jin tx9 (by omega) (by omega)) dL_law_1048 ?_
    refine jcallV (As := [.int (xs x9.toNatClampNeg)]) (rest := []) ⟨hx, hb, hml, hown, hts⟩ hK hP hA hS hZ (c_X12_trace l D cI cL ad zz hJ σ τ (xs x9.toNatClampNeg) ((xs x9.toNatClampNeg).toInt) rfl) cw_RL_136 (jc_55 cI cL ad σ τ) rfl ⟨Nat.le_of_ble_eq_true rfl, Nat.le_of_ble_eq_true rfl⟩ rfl rfl rfl hl.1 rfl (Nat.le_of_ble_eq_true rfl) dL_law_1049 ⟨Nat.le_of_ble_eq_true rfl, Nat.le_of_ble_eq_true rfl⟩ (fun r21 σ20 τ20 H locs h20 hP hS => ?_)
    obtain ⟨⟨rfl, rfl⟩, h20⟩ := h20
    rcases h20 with h22 | h23
    · obtain ⟨q27, k24, k25, k26⟩ := h22
      have q28 : r21 = (σ 85 (xs x9.toNatClampNeg).toNatClampNeg) := q27.trans rfl
      have q28 := q28.symm
      subst q28
      refine lv_pop hx hb dL_law_1052 rfl ?_
      refine lv_goto (tgt := 1357) hx hb dL_law_1053 (by decide) ?_
      obtain ⟨x29, ex29⟩ : ∃ y : Int32, y = x0 + 6 := ⟨_, rfl⟩
      have tx29 : x29.toInt = x0.toInt + 6 := (jadd ex29 rfl jz_6 (by omega) (by omega)).trans (by omega)
      refine lv_iinc (v := x29) (lv' := [(3, .int x29), (2, .ref (ad 55)), (1, .ref (ad 0)), (0, .ref b)]) hx hb dL_law_1357 hl (k := 0) rfl (by rw [ex29]; rfl) (by decide) rfl (fun ls hl => ?_)
      refine lv_goto (tgt := 18) hx hb dL_law_1360 (by decide) ?_
      exact ih x29 σ τ _ _ ls (by have h9 := tx29; omega) ⟨hI2, hI9, hI12, hI16, hI18, hI22, hI31, hI38, hI43, hI47, hI50, hI101, hI102, hI103, hI104, hI105, hI106, hI107, hI109, hI110, hI111, hI119, hs_jKept, hs_jBook, (by omega), hr0, hr1⟩ hP hS (lv_sub hl [0, 1, 2, 3] rfl)
    · obtain ⟨q31, k30⟩ := h23
      have q31 := q31.symm
      subst q31
      refine lv_pop hx hb dL_law_1052 rfl ?_
      refine lv_goto (tgt := 1357) hx hb dL_law_1053 (by decide) ?_
      obtain ⟨x32, ex32⟩ : ∃ y : Int32, y = x0 + 6 := ⟨_, rfl⟩
      have tx32 : x32.toInt = x0.toInt + 6 := (jadd ex32 rfl jz_6 (by omega) (by omega)).trans (by omega)
      refine lv_iinc (v := x32) (lv' := [(3, .int x32), (2, .ref (ad 55)), (1, .ref (ad 0)), (0, .ref b)]) hx hb dL_law_1357 hl (k := 0) rfl (by rw [ex32]; rfl) (by decide) rfl (fun ls hl => ?_)
      refine lv_goto (tgt := 18) hx hb dL_law_1360 (by decide) ?_
      exact ih x32 σ τ _ _ ls (by have h9 := tx32; omega) ⟨hI2, hI9, hI12, hI16, hI18, hI22, hI31, hI38, hI43, hI47, hI50, hI101, hI102, hI103, hI104, hI105, hI106, hI107, hI109, hI110, hI111, hI119, hs_jKept, hs_jBook, (by omega), hr0, hr1⟩ hP hS (lv_sub hl [0, 1, 2, 3] rfl)
  · obtain ⟨q34, k33⟩ := h14
    have q34 := q34.symm
    subst q34
    refine lv_pop hx hb dL_law_1042 rfl ?_
    refine lv_aload_n hx hb dL_law_1043 rfl (lv_at hl 1 rfl) ?_
    refine lv_aload_n hx hb dL_law_1044 rfl (lv_at hl 3 rfl) ?_
    refine lv_iload_n hx hb dL_law_1045 rfl (lv_at hl 0 rfl) ?_
    refine lv_iconst (v := 1) hx hb dL_law_1046 (by decide) ?_
    refine lv_iadd hx hb dL_law_1047 ?_
    refine jtopr ex9.symm ?_
    refine va_sld hx hb hX hbl hbA hS (jin tx9 (by omega) (by omega)) dL_law_1048 ?_
    refine jcallV (As := [.int (xs x9.toNatClampNeg)]) (rest := []) ⟨hx, hb, hml, hown, hts⟩ hK hP hA hS hZ (c_X12_trace l D cI cL ad zz hJ σ τ (xs x9.toNatClampNeg) ((xs x9.toNatClampNeg).toInt) rfl) cw_RL_136 (jc_55 cI cL ad σ τ) rfl ⟨Nat.le_of_ble_eq_true rfl, Nat.le_of_ble_eq_true rfl⟩ rfl rfl rfl hl.1 rfl (Nat.le_of_ble_eq_true rfl) dL_law_1049 ⟨Nat.le_of_ble_eq_true rfl, Nat.le_of_ble_eq_true rfl⟩ (fun r36 σ35 τ35 H locs h35 hP hS => ?_)
    obtain ⟨⟨rfl, rfl⟩, h35⟩ := h35
    rcases h35 with h37 | h38
    · obtain ⟨q42, k39, k40, k41⟩ := h37
      have q43 : r36 = (σ 85 (xs x9.toNatClampNeg).toNatClampNeg) := q42.trans rfl
      have q43 := q43.symm
      subst q43
      refine lv_pop hx hb dL_law_1052 rfl ?_
      refine lv_goto (tgt := 1357) hx hb dL_law_1053 (by decide) ?_
      obtain ⟨x44, ex44⟩ : ∃ y : Int32, y = x0 + 6 := ⟨_, rfl⟩
      have tx44 : x44.toInt = x0.toInt + 6 := (jadd ex44 rfl jz_6 (by omega) (by omega)).trans (by omega)
      refine lv_iinc (v := x44) (lv' := [(3, .int x44), (2, .ref (ad 55)), (1, .ref (ad 0)), (0, .ref b)]) hx hb dL_law_1357 hl (k := 0) rfl (by rw [ex44]; rfl) (by decide) rfl (fun ls hl => ?_)
      refine lv_goto (tgt := 18) hx hb dL_law_1360 (by decide) ?_
      exact ih x44 σ τ _ _ ls (by have h9 := tx44; omega) ⟨hI2, hI9, hI12, hI16, hI18, hI22, hI31, hI38, hI43, hI47, hI50, hI101, hI102, hI103, hI104, hI105, hI106, hI107, hI109, hI110, hI111, hI119, hs_jKept, hs_jBook, (by omega), hr0, hr1⟩ hP hS (lv_sub hl [0, 1, 2, 3] rfl)
    · obtain ⟨q46, k45⟩ := h38
      have q46 := q46.symm
      subst q46
      refine lv_pop hx hb dL_law_1052 rfl ?_
      refine lv_goto (tgt := 1357) hx hb dL_law_1053 (by decide) ?_
      obtain ⟨x47, ex47⟩ : ∃ y : Int32, y = x0 + 6 := ⟨_, rfl⟩
      have tx47 : x47.toInt = x0.toInt + 6 := (jadd ex47 rfl jz_6 (by omega) (by omega)).trans (by omega)
      refine lv_iinc (v := x47) (lv' := [(3, .int x47), (2, .ref (ad 55)), (1, .ref (ad 0)), (0, .ref b)]) hx hb dL_law_1357 hl (k := 0) rfl (by rw [ex47]; rfl) (by decide) rfl (fun ls hl => ?_)
      refine lv_goto (tgt := 18) hx hb dL_law_1360 (by decide) ?_
      exact ih x47 σ τ _ _ ls (by have h9 := tx47; omega) ⟨hI2, hI9, hI12, hI16, hI18, hI22, hI31, hI38, hI43, hI47, hI50, hI101, hI102, hI103, hI104, hI105, hI106, hI107, hI109, hI110, hI111, hI119, hs_jKept, hs_jBook, (by omega), hr0, hr1⟩ hP hS (lv_sub hl [0, 1, 2, 3] rfl)
set_option maxHeartbeats 4000000 in
set_option maxRecDepth 100000 in
theorem law_case_30 {p : Program} {e : Env} {s : State} {m : MethodId} {below : List Frame} {meth : Method} {c : Code} (l : Launch) {b L : Nat} {xs : Nat → Int32} {D : va_G} {cI cL : ClassId} {ad zz : Nat → Nat} (C0 : lw_At p s m meth c b L xs) (hJ : jD ad) (hA : ∀ q, jA ad q → s.heap.size ≤ q) (hK : jK D cI cL s) (hZ : jZ zz (fun q : Nat => s.heap.size ≤ q) s s.heap) {x0 : Int32} (hx0 : 0 ≤ x0.toInt) (hxL : x0.toInt + 6 ≤ (L : Int)) (hL : L ≤ 384) {σ : Nat → Nat → Int32} {τ : Nat → Nat → Int64} {H : Heap} {locs : List Loc} (hS : va_S (fun q : Nat => s.heap.size ≤ q) s.heap H locs) {ls : Array Slot} (hAll : jAll σ τ) (hP : jH D cI cL ad σ τ H) (hl : lv_has ls 4 [(3, .int x0), (2, .ref (ad 55)), (1, .ref (ad 0)), (0, .ref b)]) (ih : ∀ (x1 : Int32) (σ : Nat → Nat → Int32) (τ : Nat → Nat → Int64) (H : Heap) (locs : List Loc) (ls : Array Slot), x1.toInt = x0.toInt + 6 → jAll σ τ → jH D cI cL ad σ τ H → va_S (fun q : Nat => s.heap.size ≤ q) s.heap H locs → lv_has ls 4 [(3, .int x1), (2, .ref (ad 55)), (1, .ref (ad 0)), (0, .ref b)] → W p l e room_1 s m #[Value.ref b] below meth c H locs 90 348600 (lw_Z below #[Value.ref b] s) (F0 m 18 ls [])) : W p l e room_1 s m #[Value.ref b] below meth c H locs 90 348600 (lw_Z below #[Value.ref b] s) (F0 m 1056 ls []) := by
  obtain ⟨hx, hb, hr, hml, hown, hts0, hX, hbl, hlocks, hgv⟩ := C0
  have hts : ∀ w ∈ wsL_law, w.before #[Value.ref b] s = true := fun w h => hts0 w (wsL_law_in w h)
  have hbA : ¬ (fun q : Nat => s.heap.size ≤ q) b := Nat.not_le.mpr hbl
  have hown : s.vm.findClass RL = some m.cls := hown
  obtain ⟨hI2, hI9, hI12, hI16, hI18, hI22, hI31, hI38, hI43, hI47, hI50, hI101, hI102, hI103, hI104, hI105, hI106, hI107, hI109, hI110, hI111, hI119, hs_jKept, hs_jBook, ht0, hr0, hr1⟩ := hAll
  have hL9 : (L : Int) ≤ 384 := by omega
  obtain ⟨i1, i2, w3⟩ : (0 ≤ (σ 38 0).toInt ∧ (σ 38 0).toInt ≤ 20) ∧ (0 ≤ (σ 38 1).toInt ∧ (σ 38 1).toInt ≤ 1000) ∧ (∀ k : Nat, k < 20 → 0 ≤ (σ 39 k).toInt ∧ (σ 39 k).toInt ≤ 6) := id hI38
  obtain ⟨i4, w5, w6, w7⟩ : (0 ≤ (σ 55 32).toInt ∧ (σ 55 32).toInt ≤ 20) ∧ (∀ k : Nat, k < 20 → 0 ≤ (σ 70 k).toInt ∧ (σ 70 k).toInt ≤ 6) ∧ (∀ k : Nat, k < 20 → 0 ≤ (σ 71 k).toInt ∧ (σ 71 k).toInt ≤ 8) ∧ (∀ k : Nat, k < 160 → 0 ≤ (σ 72 k).toInt ∧ (σ 72 k).toInt ≤ 3) := id hI106
  refine lv_aload_n hx hb dL_law_1056 rfl (lv_at hl 2 rfl) ?_
  refine lv_aload_n hx hb dL_law_1057 rfl (lv_at hl 3 rfl) ?_
  refine lv_iload_n hx hb dL_law_1058 rfl (lv_at hl 0 rfl) ?_
  refine lv_iconst (v := 1) hx hb dL_law_1059 (by decide) ?_
  have g8 := jrg (rfl : x0.toInt = x0.toInt)
  refine lv_iadd hx hb dL_law_1060 ?_
  refine lv_topi (fun x9 ex9 => ?_)
  have tx9 : x9.toInt = x0.toInt + 1 := (jadd ex9 rfl jz_1 (by omega) (by omega)).trans (by omega)
  refine va_sld hx hb hX hbl hbA hS (jin tx9 (by omega) (by omega)) dL_law_1061 ?_
  have g10 := jrg (rfl : (xs x9.toNatClampNeg).toInt = (xs x9.toNatClampNeg).toInt)
  refine lv_aload_n hx hb dL_law_1062 rfl (lv_at hl 3 rfl) ?_
  refine lv_iload_n hx hb dL_law_1063 rfl (lv_at hl 0 rfl) ?_
  refine lv_iconst (v := 2) hx hb dL_law_1064 (by decide) ?_
  refine lv_iadd hx hb dL_law_1065 ?_
  refine lv_topi (fun x11 ex11 => ?_)
  have tx11 : x11.toInt = x0.toInt + 2 := (jadd ex11 rfl jz_2 (by omega) (by omega)).trans (by omega)
  refine va_sld hx hb hX hbl hbA hS (jin tx11 (by omega) (by omega)) dL_law_1066 ?_
  have g12 := jrg (rfl : (xs x11.toNatClampNeg).toInt = (xs x11.toNatClampNeg).toInt)
  refine jcallV (As := [.int (xs x9.toNatClampNeg), .int (xs x11.toNatClampNeg)]) (rest := []) ⟨hx, hb, hml, hown, hts⟩ hK hP hA hS hZ (c_X11_keep l D cI cL ad zz hJ σ τ (xs x9.toNatClampNeg) ((xs x9.toNatClampNeg).toInt) rfl (xs x11.toNatClampNeg) ((xs x11.toNatClampNeg).toInt) rfl hI38 hI50) cw_RL_137 (jc_0 cI cL ad σ τ) rfl ⟨Nat.le_of_ble_eq_true rfl, Nat.le_of_ble_eq_true rfl⟩ rfl rfl rfl hl.1 rfl (Nat.le_of_ble_eq_true rfl) dL_law_1067 ⟨Nat.le_of_ble_eq_true rfl, Nat.le_of_ble_eq_true rfl⟩ (fun r14 σ13 τ13 H locs h13 hP hS => ?_)
  obtain ⟨rfl, f15, I16, h13⟩ := h13
  rcases h13 with h18 | h19 | h20
  · obtain ⟨q24, k21, k22, k23⟩ := h18
    have q24 := q24.symm
    subst q24
    refine lv_pop hx hb dL_law_1070 rfl ?_
    refine lv_aload_n hx hb dL_law_1071 rfl (lv_at hl 1 rfl) ?_
    refine lv_aload_n hx hb dL_law_1072 rfl (lv_at hl 3 rfl) ?_
    refine lv_iload_n hx hb dL_law_1073 rfl (lv_at hl 0 rfl) ?_
    refine lv_iconst (v := 1) hx hb dL_law_1074 (by decide) ?_
    refine lv_iadd hx hb dL_law_1075 ?_
    refine jtopr ex9.symm ?_
    refine va_sld hx hb hX hbl hbA hS (jin tx9 (by omega) (by omega)) dL_law_1076 ?_
    refine lv_aload_n hx hb dL_law_1077 rfl (lv_at hl 3 rfl) ?_
    refine lv_iload_n hx hb dL_law_1078 rfl (lv_at hl 0 rfl) ?_
    refine lv_iconst (v := 2) hx hb dL_law_1079 (by decide) ?_
    refine lv_iadd hx hb dL_law_1080 ?_
    refine jtopr ex11.symm ?_
    refine va_sld hx hb hX hbl hbA hS (jin tx11 (by omega) (by omega)) dL_law_1081 ?_
    have I25 : jI106 σ13 := jI106_fr (congrFun (f15 55 (by decide)) 32) (f15 70 (by decide)) (f15 71 (by decide)) (f15 72 (by decide)) hI106
    have I26 : jI110 σ13 := jI110_fr (f15 86 (by decide)) (f15 87 (by decide)) hI110
    have z27 : (σ13 55 32).toInt = (σ 55 32).toInt := (congrArg Int32.toInt (show σ13 55 32 = (σ 55 32) from (congrFun (f15 55 (by decide)) 32)))
    refine jcallV (As := [.int (xs x9.toNatClampNeg), .int (xs x11.toNatClampNeg)]) (rest := []) ⟨hx, hb, hml, hown, hts⟩ hK hP hA hS hZ (c_X12_keep l D cI cL ad zz hJ σ13 τ (xs x9.toNatClampNeg) ((xs x9.toNatClampNeg).toInt) rfl (xs x11.toNatClampNeg) ((xs x11.toNatClampNeg).toInt) rfl I25 I26) cw_RL_140 (jc_55 cI cL ad σ13 τ) rfl ⟨Nat.le_of_ble_eq_true rfl, Nat.le_of_ble_eq_true rfl⟩ rfl rfl rfl hl.1 rfl (Nat.le_of_ble_eq_true rfl) dL_law_1082 ⟨Nat.le_of_ble_eq_true rfl, Nat.le_of_ble_eq_true rfl⟩ (fun r29 σ28 τ28 H locs h28 hP hS => ?_)
    obtain ⟨rfl, f30, I31, h28⟩ := h28
    rcases h28 with h33 | h34 | h35
    · obtain ⟨q39, k36, k37, k38⟩ := h33
      have q39 := q39.symm
      subst q39
      refine lv_pop hx hb dL_law_1085 rfl ?_
      refine lv_goto (tgt := 1357) hx hb dL_law_1086 (by decide) ?_
      obtain ⟨x40, ex40⟩ : ∃ y : Int32, y = x0 + 6 := ⟨_, rfl⟩
      have tx40 : x40.toInt = x0.toInt + 6 := (jadd ex40 rfl jz_6 (by omega) (by omega)).trans (by omega)
      refine lv_iinc (v := x40) (lv' := [(3, .int x40), (2, .ref (ad 55)), (1, .ref (ad 0)), (0, .ref b)]) hx hb dL_law_1357 hl (k := 0) rfl (by rw [ex40]; rfl) (by decide) rfl (fun ls hl => ?_)
      refine lv_goto (tgt := 18) hx hb dL_law_1360 (by decide) ?_
      have I41 : jI2 σ28 := jI2_fr ((congrFun (f30 2 (by decide)) 0).trans (congrFun (f15 2 (by decide)) 0)) ((congrFun (f30 2 (by decide)) 1).trans (congrFun (f15 2 (by decide)) 1)) ((congrFun (f30 2 (by decide)) 2).trans (congrFun (f15 2 (by decide)) 2)) ((congrFun (f30 2 (by decide)) 3).trans (congrFun (f15 2 (by decide)) 3)) ((f30 6 (by decide)).trans (f15 6 (by decide))) hI2
      have I42 : jI9 σ28 := jI9_fr ((congrFun (f30 9 (by decide)) 0).trans (congrFun (f15 9 (by decide)) 0)) ((f30 10 (by decide)).trans (f15 10 (by decide))) ((f30 11 (by decide)).trans (f15 11 (by decide))) hI9
      have I43 : jI12 σ28 := jI12_fr ((congrFun (f30 12 (by decide)) 0).trans (congrFun (f15 12 (by decide)) 0)) ((f30 13 (by decide)).trans (f15 13 (by decide))) hI12
      have I44 : jI16 σ28 := jI16_fr ((congrFun (f30 16 (by decide)) 0).trans (congrFun (f15 16 (by decide)) 0)) ((congrFun (f30 16 (by decide)) 1).trans (congrFun (f15 16 (by decide)) 1)) ((congrFun (f30 16 (by decide)) 2).trans (congrFun (f15 16 (by decide)) 2)) ((f30 17 (by decide)).trans (f15 17 (by decide))) hI16
      have I45 : jI18 σ28 := jI18_fr ((congrFun (f30 18 (by decide)) 0).trans (congrFun (f15 18 (by decide)) 0)) ((f30 19 (by decide)).trans (f15 19 (by decide))) hI18
      have I46 : jI22 σ28 := jI22_fr ((congrFun (f30 22 (by decide)) 0).trans (congrFun (f15 22 (by decide)) 0)) ((f30 23 (by decide)).trans (f15 23 (by decide))) hI22
      have I47 : jI31 σ28 := jI31_fr ((congrFun (f30 31 (by decide)) 8).trans (congrFun (f15 31 (by decide)) 8)) ((f30 33 (by decide)).trans (f15 33 (by decide))) ((f30 36 (by decide)).trans (f15 36 (by decide))) hI31
      have I48 : jI38 σ28 := jI38_fr ((congrFun (f30 38 (by decide)) 0).trans (congrFun (f15 38 (by decide)) 0)) ((congrFun (f30 38 (by decide)) 1).trans (congrFun (f15 38 (by decide)) 1)) ((f30 39 (by decide)).trans (f15 39 (by decide))) hI38
      have I49 : jI43 σ28 := jI43_fr ((congrFun (f30 43 (by decide)) 8).trans (congrFun (f15 43 (by decide)) 8)) hI43
      have I50 : jI47 σ28 := jI47_fr ((congrFun (f30 47 (by decide)) 0).trans (congrFun (f15 47 (by decide)) 0)) ((f30 48 (by decide)).trans (f15 48 (by decide))) ((f30 49 (by decide)).trans (f15 49 (by decide))) hI47
      have I51 : jI50 σ28 := jI50_fr (f30 52 (by decide)) I16
      have I52 : jI101 σ28 := jI101_fr ((congrFun (f30 55 (by decide)) 4).trans (congrFun (f15 55 (by decide)) 4)) ((congrFun (f30 55 (by decide)) 5).trans (congrFun (f15 55 (by decide)) 5)) ((f30 56 (by decide)).trans (f15 56 (by decide))) ((f30 57 (by decide)).trans (f15 57 (by decide))) ((f30 58 (by decide)).trans (f15 58 (by decide))) ((f30 59 (by decide)).trans (f15 59 (by decide))) hI101
      have I53 : jI102 σ28 := jI102_fr ((congrFun (f30 55 (by decide)) 6).trans (congrFun (f15 55 (by decide)) 6)) ((f30 60 (by decide)).trans (f15 60 (by decide))) ((f30 61 (by decide)).trans (f15 61 (by decide))) hI102
      have I54 : jI103 σ28 := jI103_fr ((congrFun (f30 55 (by decide)) 9).trans (congrFun (f15 55 (by decide)) 9)) hI103
      have I55 : jI104 σ28 := jI104_fr ((congrFun (f30 55 (by decide)) 10).trans (congrFun (f15 55 (by decide)) 10)) ((congrFun (f30 55 (by decide)) 12).trans (congrFun (f15 55 (by decide)) 12)) ((congrFun (f30 55 (by decide)) 13).trans (congrFun (f15 55 (by decide)) 13)) ((f30 62 (by decide)).trans (f15 62 (by decide))) ((f30 67 (by decide)).trans (f15 67 (by decide))) hI104
      have I56 : jI105 σ28 := jI105_fr ((congrFun (f30 55 (by decide)) 15).trans (congrFun (f15 55 (by decide)) 15)) ((f30 65 (by decide)).trans (f15 65 (by decide))) hI105
      have I57 : jI106 σ28 := jI106_fr (congrFun (f30 55 (by decide)) 32) (f30 70 (by decide)) (f30 71 (by decide)) (f30 72 (by decide)) I25
      have I58 : jI107 σ28 := jI107_fr ((congrFun (f30 55 (by decide)) 12).trans (congrFun (f15 55 (by decide)) 12)) ((congrFun (f30 55 (by decide)) 47).trans (congrFun (f15 55 (by decide)) 47)) ((f30 80 (by decide)).trans (f15 80 (by decide))) hI107
      have I59 : jI109 σ28 := jI109_fr ((congrFun (f30 55 (by decide)) 50).trans (congrFun (f15 55 (by decide)) 50)) hI109
      have I60 : jI111 σ28 := jI111_fr ((f30 79 (by decide)).trans (f15 79 (by decide))) hI111
      have I61 : jI119 σ28 := jI119_fr ((f30 68 (by decide)).trans (f15 68 (by decide))) hI119
      have p62 : jKept σ28 := jKept.fr ((f30 75 (by decide)).trans (f15 75 (by decide))) ((f30 76 (by decide)).trans (f15 76 (by decide))) ((f30 77 (by decide)).trans (f15 77 (by decide))) hs_jKept
      have p63 : jBook σ28 := jBook.fr ((congrFun (f30 55 (by decide)) 47).trans (congrFun (f15 55 (by decide)) 47)) ((congrFun (f30 55 (by decide)) 10).trans (congrFun (f15 55 (by decide)) 10)) ((f30 81 (by decide)).trans (f15 81 (by decide))) hs_jBook
      have z64 : (σ28 38 0).toInt = (σ 38 0).toInt := (congrArg Int32.toInt (show σ28 38 0 = (σ 38 0) from ((congrFun (f30 38 (by decide)) 0).trans (congrFun (f15 38 (by decide)) 0))))
      have z65 : (σ28 55 32).toInt = (σ 55 32).toInt := (congrArg Int32.toInt (show σ28 55 32 = (σ 55 32) from ((congrFun (f30 55 (by decide)) 32).trans (congrFun (f15 55 (by decide)) 32))))
      rw [show σ13 86 = σ 86 from (f15 86 (by decide)), show σ13 87 = σ 87 from (f15 87 (by decide))] at k38
      have p66 := hr0.set k23.1 k23.2.2 k23.2.1 k38.1 k38.2 (Or.inl ⟨rfl, Int32.toInt_inj.mp (show (xs x11.toNatClampNeg).toInt = (-1 : Int32).toInt by rw [show (-1 : Int32).toInt = -1 by decide]; omega)⟩)
      exact ih x40 σ28 τ _ _ ls (by have h9 := tx40; omega) ⟨I41, I42, I43, I44, I45, I46, I47, I48, I49, I50, I51, I52, I53, I54, I55, I56, I57, I58, I59, I31, I60, I61, p62, p63, (by omega), (show jShP (σ28 51) (σ28 52) (σ28 53) (σ28 86) (σ28 87) (σ28 55 32).toInt by rw [show σ28 51 = σ13 51 from (f30 51 (by decide)), show σ28 52 = σ13 52 from (f30 52 (by decide)), show σ28 53 = σ13 53 from (f30 53 (by decide))]; exact (p66.up (by omega) (by omega))), (show jKd (σ28 39) (σ28 70) (σ28 55 32).toInt by rw [show σ28 39 = σ 39 from ((f30 39 (by decide)).trans (f15 39 (by decide))), show σ28 70 = σ 70 from ((f30 70 (by decide)).trans (f15 70 (by decide))), show (σ28 55 32).toInt = (σ 55 32).toInt from by omega]; exact hr1)⟩ hP hS (lv_sub hl [0, 1, 2, 3] rfl)
    · obtain ⟨q70, k67, k68, k69⟩ := h34
      exact absurd (by omega : False) id
    · obtain ⟨q73, k71, k72⟩ := h35
      exact absurd (by omega : False) id
  · obtain ⟨q77, k74, k75, k76⟩ := h19
    have q77 := q77.symm
    subst q77
    refine lv_pop hx hb dL_law_1070 rfl ?_
    refine lv_aload_n hx hb dL_law_1071 rfl (lv_at hl 1 rfl) ?_
    refine lv_aload_n hx hb dL_law_1072 rfl (lv_at hl 3 rfl) ?_
    refine lv_iload_n hx hb dL_law_1073 rfl (lv_at hl 0 rfl) ?_
    refine lv_iconst (v := 1) hx hb dL_law_1074 (by decide) ?_
    refine lv_iadd hx hb dL_law_1075 ?_
    refine jtopr ex9.symm ?_
    refine va_sld hx hb hX hbl hbA hS (jin tx9 (by omega) (by omega)) dL_law_1076 ?_
    refine lv_aload_n hx hb dL_law_1077 rfl (lv_at hl 3 rfl) ?_
    refine lv_iload_n hx hb dL_law_1078 rfl (lv_at hl 0 rfl) ?_
    refine lv_iconst (v := 2) hx hb dL_law_1079 (by decide) ?_
    refine lv_iadd hx hb dL_law_1080 ?_
    refine jtopr ex11.symm ?_
    refine va_sld hx hb hX hbl hbA hS (jin tx11 (by omega) (by omega)) dL_law_1081 ?_
    have I78 : jI106 σ13 := jI106_fr (congrFun (f15 55 (by decide)) 32) (f15 70 (by decide)) (f15 71 (by decide)) (f15 72 (by decide)) hI106
    have I79 : jI110 σ13 := jI110_fr (f15 86 (by decide)) (f15 87 (by decide)) hI110
    have z80 : (σ13 55 32).toInt = (σ 55 32).toInt := (congrArg Int32.toInt (show σ13 55 32 = (σ 55 32) from (congrFun (f15 55 (by decide)) 32)))
    refine jcallV (As := [.int (xs x9.toNatClampNeg), .int (xs x11.toNatClampNeg)]) (rest := []) ⟨hx, hb, hml, hown, hts⟩ hK hP hA hS hZ (c_X12_keep l D cI cL ad zz hJ σ13 τ (xs x9.toNatClampNeg) ((xs x9.toNatClampNeg).toInt) rfl (xs x11.toNatClampNeg) ((xs x11.toNatClampNeg).toInt) rfl I78 I79) cw_RL_140 (jc_55 cI cL ad σ13 τ) rfl ⟨Nat.le_of_ble_eq_true rfl, Nat.le_of_ble_eq_true rfl⟩ rfl rfl rfl hl.1 rfl (Nat.le_of_ble_eq_true rfl) dL_law_1082 ⟨Nat.le_of_ble_eq_true rfl, Nat.le_of_ble_eq_true rfl⟩ (fun r82 σ81 τ81 H locs h81 hP hS => ?_)
    obtain ⟨rfl, f83, I84, h81⟩ := h81
    rcases h81 with h86 | h87 | h88
    · obtain ⟨q92, k89, k90, k91⟩ := h86
      exact absurd (by omega : False) id
    · obtain ⟨q96, k93, k94, k95⟩ := h87
      have q96 := q96.symm
      subst q96
      refine lv_pop hx hb dL_law_1085 rfl ?_
      refine lv_goto (tgt := 1357) hx hb dL_law_1086 (by decide) ?_
      obtain ⟨x97, ex97⟩ : ∃ y : Int32, y = x0 + 6 := ⟨_, rfl⟩
      have tx97 : x97.toInt = x0.toInt + 6 := (jadd ex97 rfl jz_6 (by omega) (by omega)).trans (by omega)
      refine lv_iinc (v := x97) (lv' := [(3, .int x97), (2, .ref (ad 55)), (1, .ref (ad 0)), (0, .ref b)]) hx hb dL_law_1357 hl (k := 0) rfl (by rw [ex97]; rfl) (by decide) rfl (fun ls hl => ?_)
      refine lv_goto (tgt := 18) hx hb dL_law_1360 (by decide) ?_
      have I98 : jI2 σ81 := jI2_fr ((congrFun (f83 2 (by decide)) 0).trans (congrFun (f15 2 (by decide)) 0)) ((congrFun (f83 2 (by decide)) 1).trans (congrFun (f15 2 (by decide)) 1)) ((congrFun (f83 2 (by decide)) 2).trans (congrFun (f15 2 (by decide)) 2)) ((congrFun (f83 2 (by decide)) 3).trans (congrFun (f15 2 (by decide)) 3)) ((f83 6 (by decide)).trans (f15 6 (by decide))) hI2
      have I99 : jI9 σ81 := jI9_fr ((congrFun (f83 9 (by decide)) 0).trans (congrFun (f15 9 (by decide)) 0)) ((f83 10 (by decide)).trans (f15 10 (by decide))) ((f83 11 (by decide)).trans (f15 11 (by decide))) hI9
      have I100 : jI12 σ81 := jI12_fr ((congrFun (f83 12 (by decide)) 0).trans (congrFun (f15 12 (by decide)) 0)) ((f83 13 (by decide)).trans (f15 13 (by decide))) hI12
      have I101 : jI16 σ81 := jI16_fr ((congrFun (f83 16 (by decide)) 0).trans (congrFun (f15 16 (by decide)) 0)) ((congrFun (f83 16 (by decide)) 1).trans (congrFun (f15 16 (by decide)) 1)) ((congrFun (f83 16 (by decide)) 2).trans (congrFun (f15 16 (by decide)) 2)) ((f83 17 (by decide)).trans (f15 17 (by decide))) hI16
      have I102 : jI18 σ81 := jI18_fr ((congrFun (f83 18 (by decide)) 0).trans (congrFun (f15 18 (by decide)) 0)) ((f83 19 (by decide)).trans (f15 19 (by decide))) hI18
      have I103 : jI22 σ81 := jI22_fr ((congrFun (f83 22 (by decide)) 0).trans (congrFun (f15 22 (by decide)) 0)) ((f83 23 (by decide)).trans (f15 23 (by decide))) hI22
      have I104 : jI31 σ81 := jI31_fr ((congrFun (f83 31 (by decide)) 8).trans (congrFun (f15 31 (by decide)) 8)) ((f83 33 (by decide)).trans (f15 33 (by decide))) ((f83 36 (by decide)).trans (f15 36 (by decide))) hI31
      have I105 : jI38 σ81 := jI38_fr ((congrFun (f83 38 (by decide)) 0).trans (congrFun (f15 38 (by decide)) 0)) ((congrFun (f83 38 (by decide)) 1).trans (congrFun (f15 38 (by decide)) 1)) ((f83 39 (by decide)).trans (f15 39 (by decide))) hI38
      have I106 : jI43 σ81 := jI43_fr ((congrFun (f83 43 (by decide)) 8).trans (congrFun (f15 43 (by decide)) 8)) hI43
      have I107 : jI47 σ81 := jI47_fr ((congrFun (f83 47 (by decide)) 0).trans (congrFun (f15 47 (by decide)) 0)) ((f83 48 (by decide)).trans (f15 48 (by decide))) ((f83 49 (by decide)).trans (f15 49 (by decide))) hI47
      have I108 : jI50 σ81 := jI50_fr (f83 52 (by decide)) I16
      have I109 : jI101 σ81 := jI101_fr ((congrFun (f83 55 (by decide)) 4).trans (congrFun (f15 55 (by decide)) 4)) ((congrFun (f83 55 (by decide)) 5).trans (congrFun (f15 55 (by decide)) 5)) ((f83 56 (by decide)).trans (f15 56 (by decide))) ((f83 57 (by decide)).trans (f15 57 (by decide))) ((f83 58 (by decide)).trans (f15 58 (by decide))) ((f83 59 (by decide)).trans (f15 59 (by decide))) hI101
      have I110 : jI102 σ81 := jI102_fr ((congrFun (f83 55 (by decide)) 6).trans (congrFun (f15 55 (by decide)) 6)) ((f83 60 (by decide)).trans (f15 60 (by decide))) ((f83 61 (by decide)).trans (f15 61 (by decide))) hI102
      have I111 : jI103 σ81 := jI103_fr ((congrFun (f83 55 (by decide)) 9).trans (congrFun (f15 55 (by decide)) 9)) hI103
      have I112 : jI104 σ81 := jI104_fr ((congrFun (f83 55 (by decide)) 10).trans (congrFun (f15 55 (by decide)) 10)) ((congrFun (f83 55 (by decide)) 12).trans (congrFun (f15 55 (by decide)) 12)) ((congrFun (f83 55 (by decide)) 13).trans (congrFun (f15 55 (by decide)) 13)) ((f83 62 (by decide)).trans (f15 62 (by decide))) ((f83 67 (by decide)).trans (f15 67 (by decide))) hI104
      have I113 : jI105 σ81 := jI105_fr ((congrFun (f83 55 (by decide)) 15).trans (congrFun (f15 55 (by decide)) 15)) ((f83 65 (by decide)).trans (f15 65 (by decide))) hI105
      have I114 : jI106 σ81 := jI106_fr (congrFun (f83 55 (by decide)) 32) (f83 70 (by decide)) (f83 71 (by decide)) (f83 72 (by decide)) I78
      have I115 : jI107 σ81 := jI107_fr ((congrFun (f83 55 (by decide)) 12).trans (congrFun (f15 55 (by decide)) 12)) ((congrFun (f83 55 (by decide)) 47).trans (congrFun (f15 55 (by decide)) 47)) ((f83 80 (by decide)).trans (f15 80 (by decide))) hI107
      have I116 : jI109 σ81 := jI109_fr ((congrFun (f83 55 (by decide)) 50).trans (congrFun (f15 55 (by decide)) 50)) hI109
      have I117 : jI111 σ81 := jI111_fr ((f83 79 (by decide)).trans (f15 79 (by decide))) hI111
      have I118 : jI119 σ81 := jI119_fr ((f83 68 (by decide)).trans (f15 68 (by decide))) hI119
      have p119 : jKept σ81 := jKept.fr ((f83 75 (by decide)).trans (f15 75 (by decide))) ((f83 76 (by decide)).trans (f15 76 (by decide))) ((f83 77 (by decide)).trans (f15 77 (by decide))) hs_jKept
      have p120 : jBook σ81 := jBook.fr ((congrFun (f83 55 (by decide)) 47).trans (congrFun (f15 55 (by decide)) 47)) ((congrFun (f83 55 (by decide)) 10).trans (congrFun (f15 55 (by decide)) 10)) ((f83 81 (by decide)).trans (f15 81 (by decide))) hs_jBook
      have z121 : (σ81 38 0).toInt = (σ 38 0).toInt := (congrArg Int32.toInt (show σ81 38 0 = (σ 38 0) from ((congrFun (f83 38 (by decide)) 0).trans (congrFun (f15 38 (by decide)) 0))))
      have z122 : (σ81 55 32).toInt = (σ 55 32).toInt := (congrArg Int32.toInt (show σ81 55 32 = (σ 55 32) from ((congrFun (f83 55 (by decide)) 32).trans (congrFun (f15 55 (by decide)) 32))))
      rw [show σ13 86 = σ 86 from (f15 86 (by decide)), show σ13 87 = σ 87 from (f15 87 (by decide))] at k95
      have p123 := hr0.set k76.1 k76.2.2 k76.2.1 k95.1 k95.2 (Or.inr (Or.inl ⟨rfl, rfl, by omega, by omega⟩))
      exact ih x97 σ81 τ _ _ ls (by have h9 := tx97; omega) ⟨I98, I99, I100, I101, I102, I103, I104, I105, I106, I107, I108, I109, I110, I111, I112, I113, I114, I115, I116, I84, I117, I118, p119, p120, (by omega), (show jShP (σ81 51) (σ81 52) (σ81 53) (σ81 86) (σ81 87) (σ81 55 32).toInt by rw [show σ81 51 = σ13 51 from (f83 51 (by decide)), show σ81 52 = σ13 52 from (f83 52 (by decide)), show σ81 53 = σ13 53 from (f83 53 (by decide))]; exact (p123.up (by omega) (by omega))), (show jKd (σ81 39) (σ81 70) (σ81 55 32).toInt by rw [show σ81 39 = σ 39 from ((f83 39 (by decide)).trans (f15 39 (by decide))), show σ81 70 = σ 70 from ((f83 70 (by decide)).trans (f15 70 (by decide))), show (σ81 55 32).toInt = (σ 55 32).toInt from by omega]; exact hr1)⟩ hP hS (lv_sub hl [0, 1, 2, 3] rfl)
    · obtain ⟨q126, k124, k125⟩ := h88
      exact absurd (by omega : False) id
  · obtain ⟨q129, k127, k128⟩ := h20
    have q129 := q129.symm
    subst q129
    refine lv_pop hx hb dL_law_1070 rfl ?_
    refine lv_aload_n hx hb dL_law_1071 rfl (lv_at hl 1 rfl) ?_
    refine lv_aload_n hx hb dL_law_1072 rfl (lv_at hl 3 rfl) ?_
    refine lv_iload_n hx hb dL_law_1073 rfl (lv_at hl 0 rfl) ?_
    refine lv_iconst (v := 1) hx hb dL_law_1074 (by decide) ?_
    refine lv_iadd hx hb dL_law_1075 ?_
    refine jtopr ex9.symm ?_
    refine va_sld hx hb hX hbl hbA hS (jin tx9 (by omega) (by omega)) dL_law_1076 ?_
    refine lv_aload_n hx hb dL_law_1077 rfl (lv_at hl 3 rfl) ?_
    refine lv_iload_n hx hb dL_law_1078 rfl (lv_at hl 0 rfl) ?_
    refine lv_iconst (v := 2) hx hb dL_law_1079 (by decide) ?_
    refine lv_iadd hx hb dL_law_1080 ?_
    refine jtopr ex11.symm ?_
    refine va_sld hx hb hX hbl hbA hS (jin tx11 (by omega) (by omega)) dL_law_1081 ?_
    have I130 : jI106 σ13 := jI106_fr (congrFun (f15 55 (by decide)) 32) (f15 70 (by decide)) (f15 71 (by decide)) (f15 72 (by decide)) hI106
    have I131 : jI110 σ13 := jI110_fr (f15 86 (by decide)) (f15 87 (by decide)) hI110
    have z132 : (σ13 55 32).toInt = (σ 55 32).toInt := (congrArg Int32.toInt (show σ13 55 32 = (σ 55 32) from (congrFun (f15 55 (by decide)) 32)))
    refine jcallV (As := [.int (xs x9.toNatClampNeg), .int (xs x11.toNatClampNeg)]) (rest := []) ⟨hx, hb, hml, hown, hts⟩ hK hP hA hS hZ (c_X12_keep l D cI cL ad zz hJ σ13 τ (xs x9.toNatClampNeg) ((xs x9.toNatClampNeg).toInt) rfl (xs x11.toNatClampNeg) ((xs x11.toNatClampNeg).toInt) rfl I130 I131) cw_RL_140 (jc_55 cI cL ad σ13 τ) rfl ⟨Nat.le_of_ble_eq_true rfl, Nat.le_of_ble_eq_true rfl⟩ rfl rfl rfl hl.1 rfl (Nat.le_of_ble_eq_true rfl) dL_law_1082 ⟨Nat.le_of_ble_eq_true rfl, Nat.le_of_ble_eq_true rfl⟩ (fun r134 σ133 τ133 H locs h133 hP hS => ?_)
    obtain ⟨rfl, f135, I136, h133⟩ := h133
    rcases h133 with h138 | h139 | h140
    · obtain ⟨q144, k141, k142, k143⟩ := h138
      exact absurd (by omega : False) id
    · obtain ⟨q148, k145, k146, k147⟩ := h139
      exact absurd (by omega : False) id
    · obtain ⟨q151, k149, k150⟩ := h140
      have q151 := q151.symm
      subst q151
      refine lv_pop hx hb dL_law_1085 rfl ?_
      refine lv_goto (tgt := 1357) hx hb dL_law_1086 (by decide) ?_
      obtain ⟨x152, ex152⟩ : ∃ y : Int32, y = x0 + 6 := ⟨_, rfl⟩
      have tx152 : x152.toInt = x0.toInt + 6 := (jadd ex152 rfl jz_6 (by omega) (by omega)).trans (by omega)
      refine lv_iinc (v := x152) (lv' := [(3, .int x152), (2, .ref (ad 55)), (1, .ref (ad 0)), (0, .ref b)]) hx hb dL_law_1357 hl (k := 0) rfl (by rw [ex152]; rfl) (by decide) rfl (fun ls hl => ?_)
      refine lv_goto (tgt := 18) hx hb dL_law_1360 (by decide) ?_
      have I153 : jI2 σ133 := jI2_fr ((congrFun (f135 2 (by decide)) 0).trans (congrFun (f15 2 (by decide)) 0)) ((congrFun (f135 2 (by decide)) 1).trans (congrFun (f15 2 (by decide)) 1)) ((congrFun (f135 2 (by decide)) 2).trans (congrFun (f15 2 (by decide)) 2)) ((congrFun (f135 2 (by decide)) 3).trans (congrFun (f15 2 (by decide)) 3)) ((f135 6 (by decide)).trans (f15 6 (by decide))) hI2
      have I154 : jI9 σ133 := jI9_fr ((congrFun (f135 9 (by decide)) 0).trans (congrFun (f15 9 (by decide)) 0)) ((f135 10 (by decide)).trans (f15 10 (by decide))) ((f135 11 (by decide)).trans (f15 11 (by decide))) hI9
      have I155 : jI12 σ133 := jI12_fr ((congrFun (f135 12 (by decide)) 0).trans (congrFun (f15 12 (by decide)) 0)) ((f135 13 (by decide)).trans (f15 13 (by decide))) hI12
      have I156 : jI16 σ133 := jI16_fr ((congrFun (f135 16 (by decide)) 0).trans (congrFun (f15 16 (by decide)) 0)) ((congrFun (f135 16 (by decide)) 1).trans (congrFun (f15 16 (by decide)) 1)) ((congrFun (f135 16 (by decide)) 2).trans (congrFun (f15 16 (by decide)) 2)) ((f135 17 (by decide)).trans (f15 17 (by decide))) hI16
      have I157 : jI18 σ133 := jI18_fr ((congrFun (f135 18 (by decide)) 0).trans (congrFun (f15 18 (by decide)) 0)) ((f135 19 (by decide)).trans (f15 19 (by decide))) hI18
      have I158 : jI22 σ133 := jI22_fr ((congrFun (f135 22 (by decide)) 0).trans (congrFun (f15 22 (by decide)) 0)) ((f135 23 (by decide)).trans (f15 23 (by decide))) hI22
      have I159 : jI31 σ133 := jI31_fr ((congrFun (f135 31 (by decide)) 8).trans (congrFun (f15 31 (by decide)) 8)) ((f135 33 (by decide)).trans (f15 33 (by decide))) ((f135 36 (by decide)).trans (f15 36 (by decide))) hI31
      have I160 : jI38 σ133 := jI38_fr ((congrFun (f135 38 (by decide)) 0).trans (congrFun (f15 38 (by decide)) 0)) ((congrFun (f135 38 (by decide)) 1).trans (congrFun (f15 38 (by decide)) 1)) ((f135 39 (by decide)).trans (f15 39 (by decide))) hI38
      have I161 : jI43 σ133 := jI43_fr ((congrFun (f135 43 (by decide)) 8).trans (congrFun (f15 43 (by decide)) 8)) hI43
      have I162 : jI47 σ133 := jI47_fr ((congrFun (f135 47 (by decide)) 0).trans (congrFun (f15 47 (by decide)) 0)) ((f135 48 (by decide)).trans (f15 48 (by decide))) ((f135 49 (by decide)).trans (f15 49 (by decide))) hI47
      have I163 : jI50 σ133 := jI50_fr (f135 52 (by decide)) I16
      have I164 : jI101 σ133 := jI101_fr ((congrFun (f135 55 (by decide)) 4).trans (congrFun (f15 55 (by decide)) 4)) ((congrFun (f135 55 (by decide)) 5).trans (congrFun (f15 55 (by decide)) 5)) ((f135 56 (by decide)).trans (f15 56 (by decide))) ((f135 57 (by decide)).trans (f15 57 (by decide))) ((f135 58 (by decide)).trans (f15 58 (by decide))) ((f135 59 (by decide)).trans (f15 59 (by decide))) hI101
      have I165 : jI102 σ133 := jI102_fr ((congrFun (f135 55 (by decide)) 6).trans (congrFun (f15 55 (by decide)) 6)) ((f135 60 (by decide)).trans (f15 60 (by decide))) ((f135 61 (by decide)).trans (f15 61 (by decide))) hI102
      have I166 : jI103 σ133 := jI103_fr ((congrFun (f135 55 (by decide)) 9).trans (congrFun (f15 55 (by decide)) 9)) hI103
      have I167 : jI104 σ133 := jI104_fr ((congrFun (f135 55 (by decide)) 10).trans (congrFun (f15 55 (by decide)) 10)) ((congrFun (f135 55 (by decide)) 12).trans (congrFun (f15 55 (by decide)) 12)) ((congrFun (f135 55 (by decide)) 13).trans (congrFun (f15 55 (by decide)) 13)) ((f135 62 (by decide)).trans (f15 62 (by decide))) ((f135 67 (by decide)).trans (f15 67 (by decide))) hI104
      have I168 : jI105 σ133 := jI105_fr ((congrFun (f135 55 (by decide)) 15).trans (congrFun (f15 55 (by decide)) 15)) ((f135 65 (by decide)).trans (f15 65 (by decide))) hI105
      have I169 : jI106 σ133 := jI106_fr (congrFun (f135 55 (by decide)) 32) (f135 70 (by decide)) (f135 71 (by decide)) (f135 72 (by decide)) I130
      have I170 : jI107 σ133 := jI107_fr ((congrFun (f135 55 (by decide)) 12).trans (congrFun (f15 55 (by decide)) 12)) ((congrFun (f135 55 (by decide)) 47).trans (congrFun (f15 55 (by decide)) 47)) ((f135 80 (by decide)).trans (f15 80 (by decide))) hI107
      have I171 : jI109 σ133 := jI109_fr ((congrFun (f135 55 (by decide)) 50).trans (congrFun (f15 55 (by decide)) 50)) hI109
      have I172 : jI111 σ133 := jI111_fr ((f135 79 (by decide)).trans (f15 79 (by decide))) hI111
      have I173 : jI119 σ133 := jI119_fr ((f135 68 (by decide)).trans (f15 68 (by decide))) hI119
      have p174 : jKept σ133 := jKept.fr ((f135 75 (by decide)).trans (f15 75 (by decide))) ((f135 76 (by decide)).trans (f15 76 (by decide))) ((f135 77 (by decide)).trans (f15 77 (by decide))) hs_jKept
      have p175 : jBook σ133 := jBook.fr ((congrFun (f135 55 (by decide)) 47).trans (congrFun (f15 55 (by decide)) 47)) ((congrFun (f135 55 (by decide)) 10).trans (congrFun (f15 55 (by decide)) 10)) ((f135 81 (by decide)).trans (f15 81 (by decide))) hs_jBook
      have z176 : (σ133 38 0).toInt = (σ 38 0).toInt := (congrArg Int32.toInt (show σ133 38 0 = (σ 38 0) from ((congrFun (f135 38 (by decide)) 0).trans (congrFun (f15 38 (by decide)) 0))))
      have z177 : (σ133 55 32).toInt = (σ 55 32).toInt := (congrArg Int32.toInt (show σ133 55 32 = (σ 55 32) from ((congrFun (f135 55 (by decide)) 32).trans (congrFun (f15 55 (by decide)) 32))))
      exact ih x152 σ133 τ _ _ ls (by have h9 := tx152; omega) ⟨I153, I154, I155, I156, I157, I158, I159, I160, I161, I162, I163, I164, I165, I166, I167, I168, I169, I170, I171, I136, I172, I173, p174, p175, (by omega), (show jShP (σ133 51) (σ133 52) (σ133 53) (σ133 86) (σ133 87) (σ133 55 32).toInt by rw [show σ133 51 = σ 51 from ((f135 51 (by decide)).trans k128.1), show σ133 52 = σ 52 from ((f135 52 (by decide)).trans k128.2.1), show σ133 53 = σ 53 from ((f135 53 (by decide)).trans k128.2.2), show σ133 86 = σ 86 from (k150.1.trans (f15 86 (by decide))), show σ133 87 = σ 87 from (k150.2.trans (f15 87 (by decide)))]; exact (hr0.up (by omega) (by omega))), (show jKd (σ133 39) (σ133 70) (σ133 55 32).toInt by rw [show σ133 39 = σ 39 from ((f135 39 (by decide)).trans (f15 39 (by decide))), show σ133 70 = σ 70 from ((f135 70 (by decide)).trans (f15 70 (by decide))), show (σ133 55 32).toInt = (σ 55 32).toInt from by omega]; exact hr1)⟩ hP hS (lv_sub hl [0, 1, 2, 3] rfl)
set_option maxHeartbeats 4000000 in
set_option maxRecDepth 100000 in
theorem law_case_31 {p : Program} {e : Env} {s : State} {m : MethodId} {below : List Frame} {meth : Method} {c : Code} (l : Launch) {b L : Nat} {xs : Nat → Int32} {D : va_G} {cI cL : ClassId} {ad zz : Nat → Nat} (C0 : lw_At p s m meth c b L xs) (hJ : jD ad) (hA : ∀ q, jA ad q → s.heap.size ≤ q) (hK : jK D cI cL s) (hZ : jZ zz (fun q : Nat => s.heap.size ≤ q) s s.heap) {x0 : Int32} (hx0 : 0 ≤ x0.toInt) (hxL : x0.toInt + 6 ≤ (L : Int)) (hL : L ≤ 384) {σ : Nat → Nat → Int32} {τ : Nat → Nat → Int64} {H : Heap} {locs : List Loc} (hS : va_S (fun q : Nat => s.heap.size ≤ q) s.heap H locs) {ls : Array Slot} (hAll : jAll σ τ) (hP : jH D cI cL ad σ τ H) (hl : lv_has ls 4 [(3, .int x0), (2, .ref (ad 55)), (1, .ref (ad 0)), (0, .ref b)]) (ih : ∀ (x1 : Int32) (σ : Nat → Nat → Int32) (τ : Nat → Nat → Int64) (H : Heap) (locs : List Loc) (ls : Array Slot), x1.toInt = x0.toInt + 6 → jAll σ τ → jH D cI cL ad σ τ H → va_S (fun q : Nat => s.heap.size ≤ q) s.heap H locs → lv_has ls 4 [(3, .int x1), (2, .ref (ad 55)), (1, .ref (ad 0)), (0, .ref b)] → W p l e room_1 s m #[Value.ref b] below meth c H locs 90 348600 (lw_Z below #[Value.ref b] s) (F0 m 18 ls [])) : W p l e room_1 s m #[Value.ref b] below meth c H locs 90 348600 (lw_Z below #[Value.ref b] s) (F0 m 1089 ls []) := by
  obtain ⟨hx, hb, hr, hml, hown, hts0, hX, hbl, hlocks, hgv⟩ := C0
  have hts : ∀ w ∈ wsL_law, w.before #[Value.ref b] s = true := fun w h => hts0 w (wsL_law_in w h)
  have hbA : ¬ (fun q : Nat => s.heap.size ≤ q) b := Nat.not_le.mpr hbl
  have hown : s.vm.findClass RL = some m.cls := hown
  obtain ⟨hI2, hI9, hI12, hI16, hI18, hI22, hI31, hI38, hI43, hI47, hI50, hI101, hI102, hI103, hI104, hI105, hI106, hI107, hI109, hI110, hI111, hI119, hs_jKept, hs_jBook, ht0, hr0, hr1⟩ := hAll
  have hL9 : (L : Int) ≤ 384 := by omega
  obtain ⟨i1, i2, w3⟩ : (0 ≤ (σ 38 0).toInt ∧ (σ 38 0).toInt ≤ 20) ∧ (0 ≤ (σ 38 1).toInt ∧ (σ 38 1).toInt ≤ 1000) ∧ (∀ k : Nat, k < 20 → 0 ≤ (σ 39 k).toInt ∧ (σ 39 k).toInt ≤ 6) := id hI38
  obtain ⟨i4, w5, w6, w7⟩ : (0 ≤ (σ 55 32).toInt ∧ (σ 55 32).toInt ≤ 20) ∧ (∀ k : Nat, k < 20 → 0 ≤ (σ 70 k).toInt ∧ (σ 70 k).toInt ≤ 6) ∧ (∀ k : Nat, k < 20 → 0 ≤ (σ 71 k).toInt ∧ (σ 71 k).toInt ≤ 8) ∧ (∀ k : Nat, k < 160 → 0 ≤ (σ 72 k).toInt ∧ (σ 72 k).toInt ≤ 3) := id hI106
  refine lv_aload_n hx hb dL_law_1089 rfl (lv_at hl 2 rfl) ?_
  refine lv_aload_n hx hb dL_law_1090 rfl (lv_at hl 3 rfl) ?_
  refine lv_iload_n hx hb dL_law_1091 rfl (lv_at hl 0 rfl) ?_
  refine lv_iconst (v := 1) hx hb dL_law_1092 (by decide) ?_
  have g8 := jrg (rfl : x0.toInt = x0.toInt)
  refine lv_iadd hx hb dL_law_1093 ?_
  refine lv_topi (fun x9 ex9 => ?_)
  have tx9 : x9.toInt = x0.toInt + 1 := (jadd ex9 rfl jz_1 (by omega) (by omega)).trans (by omega)
  refine va_sld hx hb hX hbl hbA hS (jin tx9 (by omega) (by omega)) dL_law_1094 ?_
  have g10 := jrg (rfl : (xs x9.toNatClampNeg).toInt = (xs x9.toNatClampNeg).toInt)
  refine lv_aload_n hx hb dL_law_1095 rfl (lv_at hl 3 rfl) ?_
  refine lv_iload_n hx hb dL_law_1096 rfl (lv_at hl 0 rfl) ?_
  refine lv_iconst (v := 2) hx hb dL_law_1097 (by decide) ?_
  refine lv_iadd hx hb dL_law_1098 ?_
  refine lv_topi (fun x11 ex11 => ?_)
  have tx11 : x11.toInt = x0.toInt + 2 := (jadd ex11 rfl jz_2 (by omega) (by omega)).trans (by omega)
  refine va_sld hx hb hX hbl hbA hS (jin tx11 (by omega) (by omega)) dL_law_1099 ?_
  have g12 := jrg (rfl : (xs x11.toNatClampNeg).toInt = (xs x11.toNatClampNeg).toInt)
  refine lv_aload_n hx hb dL_law_1100 rfl (lv_at hl 3 rfl) ?_
  refine lv_iload_n hx hb dL_law_1101 rfl (lv_at hl 0 rfl) ?_
  refine lv_iconst (v := 3) hx hb dL_law_1102 (by decide) ?_
  refine lv_iadd hx hb dL_law_1103 ?_
  refine lv_topi (fun x13 ex13 => ?_)
  have tx13 : x13.toInt = x0.toInt + 3 := (jadd ex13 rfl jz_3 (by omega) (by omega)).trans (by omega)
  refine va_sld hx hb hX hbl hbA hS (jin tx13 (by omega) (by omega)) dL_law_1104 ?_
  have g14 := jrg (rfl : (xs x13.toNatClampNeg).toInt = (xs x13.toNatClampNeg).toInt)
  refine jcallV (As := [.int (xs x9.toNatClampNeg), .int (xs x11.toNatClampNeg), .int (xs x13.toNatClampNeg)]) (rest := []) ⟨hx, hb, hml, hown, hts⟩ hK hP hA hS hZ (c_X11_row l D cI cL ad zz hJ σ τ (xs x9.toNatClampNeg) ((xs x9.toNatClampNeg).toInt) rfl (xs x11.toNatClampNeg) ((xs x11.toNatClampNeg).toInt) rfl (xs x13.toNatClampNeg) ((xs x13.toNatClampNeg).toInt) rfl hI50) cw_RL_141 (jc_0 cI cL ad σ τ) rfl ⟨Nat.le_of_ble_eq_true rfl, Nat.le_of_ble_eq_true rfl⟩ rfl rfl rfl hl.1 rfl (Nat.le_of_ble_eq_true rfl) dL_law_1105 ⟨Nat.le_of_ble_eq_true rfl, Nat.le_of_ble_eq_true rfl⟩ (fun r16 σ15 τ15 H locs h15 hP hS => ?_)
  obtain ⟨f19, f17, I18, h15⟩ := h15
  rcases h15 with h20 | h21 | h22
  · obtain ⟨q26, k23, k24, k25⟩ := h20
    have q26 := q26.symm
    subst q26
    refine lv_pop hx hb dL_law_1108 rfl ?_
    refine lv_aload_n hx hb dL_law_1109 rfl (lv_at hl 1 rfl) ?_
    refine lv_aload_n hx hb dL_law_1110 rfl (lv_at hl 3 rfl) ?_
    refine lv_iload_n hx hb dL_law_1111 rfl (lv_at hl 0 rfl) ?_
    refine lv_iconst (v := 1) hx hb dL_law_1112 (by decide) ?_
    refine lv_iadd hx hb dL_law_1113 ?_
    refine jtopr ex9.symm ?_
    refine va_sld hx hb hX hbl hbA hS (jin tx9 (by omega) (by omega)) dL_law_1114 ?_
    refine lv_aload_n hx hb dL_law_1115 rfl (lv_at hl 3 rfl) ?_
    refine lv_iload_n hx hb dL_law_1116 rfl (lv_at hl 0 rfl) ?_
    refine lv_iconst (v := 2) hx hb dL_law_1117 (by decide) ?_
    refine lv_iadd hx hb dL_law_1118 ?_
    refine jtopr ex11.symm ?_
    refine va_sld hx hb hX hbl hbA hS (jin tx11 (by omega) (by omega)) dL_law_1119 ?_
    refine lv_aload_n hx hb dL_law_1120 rfl (lv_at hl 3 rfl) ?_
    refine lv_iload_n hx hb dL_law_1121 rfl (lv_at hl 0 rfl) ?_
    refine lv_iconst (v := 3) hx hb dL_law_1122 (by decide) ?_
    refine lv_iadd hx hb dL_law_1123 ?_
    refine jtopr ex13.symm ?_
    refine va_sld hx hb hX hbl hbA hS (jin tx13 (by omega) (by omega)) dL_law_1124 ?_
    have I27 : jI110 σ15 := jI110_fr (f17 86 (by decide)) (f17 87 (by decide)) hI110
    refine jcallV (As := [.int (xs x9.toNatClampNeg), .int (xs x11.toNatClampNeg), .int (xs x13.toNatClampNeg)]) (rest := []) ⟨hx, hb, hml, hown, hts⟩ hK hP hA hS hZ (c_X12_row l D cI cL ad zz hJ σ15 τ15 (xs x9.toNatClampNeg) ((xs x9.toNatClampNeg).toInt) rfl (xs x11.toNatClampNeg) ((xs x11.toNatClampNeg).toInt) rfl (xs x13.toNatClampNeg) ((xs x13.toNatClampNeg).toInt) rfl I27) cw_RL_144 (jc_55 cI cL ad σ15 τ15) rfl ⟨Nat.le_of_ble_eq_true rfl, Nat.le_of_ble_eq_true rfl⟩ rfl rfl rfl hl.1 rfl (Nat.le_of_ble_eq_true rfl) dL_law_1125 ⟨Nat.le_of_ble_eq_true rfl, Nat.le_of_ble_eq_true rfl⟩ (fun r29 σ28 τ28 H locs h28 hP hS => ?_)
    obtain ⟨f32, f30, I31, h28⟩ := h28
    rcases h28 with h33 | h34 | h35
    · obtain ⟨q39, k36, k37, k38⟩ := h33
      have q39 := q39.symm
      subst q39
      refine lv_pop hx hb dL_law_1128 rfl ?_
      refine lv_goto (tgt := 1357) hx hb dL_law_1129 (by decide) ?_
      obtain ⟨x40, ex40⟩ : ∃ y : Int32, y = x0 + 6 := ⟨_, rfl⟩
      have tx40 : x40.toInt = x0.toInt + 6 := (jadd ex40 rfl jz_6 (by omega) (by omega)).trans (by omega)
      refine lv_iinc (v := x40) (lv' := [(3, .int x40), (2, .ref (ad 55)), (1, .ref (ad 0)), (0, .ref b)]) hx hb dL_law_1357 hl (k := 0) rfl (by rw [ex40]; rfl) (by decide) rfl (fun ls hl => ?_)
      refine lv_goto (tgt := 18) hx hb dL_law_1360 (by decide) ?_
      have I41 : jI2 σ28 := jI2_fr ((congrFun (f30 2 (by decide)) 0).trans (congrFun (f17 2 (by decide)) 0)) ((congrFun (f30 2 (by decide)) 1).trans (congrFun (f17 2 (by decide)) 1)) ((congrFun (f30 2 (by decide)) 2).trans (congrFun (f17 2 (by decide)) 2)) ((congrFun (f30 2 (by decide)) 3).trans (congrFun (f17 2 (by decide)) 3)) ((f30 6 (by decide)).trans (f17 6 (by decide))) hI2
      have I42 : jI9 σ28 := jI9_fr ((congrFun (f30 9 (by decide)) 0).trans (congrFun (f17 9 (by decide)) 0)) ((f30 10 (by decide)).trans (f17 10 (by decide))) ((f30 11 (by decide)).trans (f17 11 (by decide))) hI9
      have I43 : jI12 σ28 := jI12_fr ((congrFun (f30 12 (by decide)) 0).trans (congrFun (f17 12 (by decide)) 0)) ((f30 13 (by decide)).trans (f17 13 (by decide))) hI12
      have I44 : jI16 σ28 := jI16_fr ((congrFun (f30 16 (by decide)) 0).trans (congrFun (f17 16 (by decide)) 0)) ((congrFun (f30 16 (by decide)) 1).trans (congrFun (f17 16 (by decide)) 1)) ((congrFun (f30 16 (by decide)) 2).trans (congrFun (f17 16 (by decide)) 2)) ((f30 17 (by decide)).trans (f17 17 (by decide))) hI16
      have I45 : jI18 σ28 := jI18_fr ((congrFun (f30 18 (by decide)) 0).trans (congrFun (f17 18 (by decide)) 0)) ((f30 19 (by decide)).trans (f17 19 (by decide))) hI18
      have I46 : jI22 σ28 := jI22_fr ((congrFun (f30 22 (by decide)) 0).trans (congrFun (f17 22 (by decide)) 0)) ((f30 23 (by decide)).trans (f17 23 (by decide))) hI22
      have I47 : jI31 σ28 := jI31_fr ((congrFun (f30 31 (by decide)) 8).trans (congrFun (f17 31 (by decide)) 8)) ((f30 33 (by decide)).trans (f17 33 (by decide))) ((f30 36 (by decide)).trans (f17 36 (by decide))) hI31
      have I48 : jI38 σ28 := jI38_fr ((congrFun (f30 38 (by decide)) 0).trans (congrFun (f17 38 (by decide)) 0)) ((congrFun (f30 38 (by decide)) 1).trans (congrFun (f17 38 (by decide)) 1)) ((f30 39 (by decide)).trans (f17 39 (by decide))) hI38
      have I49 : jI43 σ28 := jI43_fr ((congrFun (f30 43 (by decide)) 8).trans (congrFun (f17 43 (by decide)) 8)) hI43
      have I50 : jI47 σ28 := jI47_fr ((congrFun (f30 47 (by decide)) 0).trans (congrFun (f17 47 (by decide)) 0)) ((f30 48 (by decide)).trans (f17 48 (by decide))) ((f30 49 (by decide)).trans (f17 49 (by decide))) hI47
      have I51 : jI50 σ28 := jI50_fr (f30 52 (by decide)) I18
      have I52 : jI101 σ28 := jI101_fr ((congrFun (f30 55 (by decide)) 4).trans (congrFun (f17 55 (by decide)) 4)) ((congrFun (f30 55 (by decide)) 5).trans (congrFun (f17 55 (by decide)) 5)) ((f30 56 (by decide)).trans (f17 56 (by decide))) ((f30 57 (by decide)).trans (f17 57 (by decide))) ((f30 58 (by decide)).trans (f17 58 (by decide))) ((f30 59 (by decide)).trans (f17 59 (by decide))) hI101
      have I53 : jI102 σ28 := jI102_fr ((congrFun (f30 55 (by decide)) 6).trans (congrFun (f17 55 (by decide)) 6)) ((f30 60 (by decide)).trans (f17 60 (by decide))) ((f30 61 (by decide)).trans (f17 61 (by decide))) hI102
      have I54 : jI103 σ28 := jI103_fr ((congrFun (f30 55 (by decide)) 9).trans (congrFun (f17 55 (by decide)) 9)) hI103
      have I55 : jI104 σ28 := jI104_fr ((congrFun (f30 55 (by decide)) 10).trans (congrFun (f17 55 (by decide)) 10)) ((congrFun (f30 55 (by decide)) 12).trans (congrFun (f17 55 (by decide)) 12)) ((congrFun (f30 55 (by decide)) 13).trans (congrFun (f17 55 (by decide)) 13)) ((f30 62 (by decide)).trans (f17 62 (by decide))) ((f30 67 (by decide)).trans (f17 67 (by decide))) hI104
      have I56 : jI105 σ28 := jI105_fr ((congrFun (f30 55 (by decide)) 15).trans (congrFun (f17 55 (by decide)) 15)) ((f30 65 (by decide)).trans (f17 65 (by decide))) hI105
      have I57 : jI106 σ28 := jI106_fr ((congrFun (f30 55 (by decide)) 32).trans (congrFun (f17 55 (by decide)) 32)) ((f30 70 (by decide)).trans (f17 70 (by decide))) ((f30 71 (by decide)).trans (f17 71 (by decide))) ((f30 72 (by decide)).trans (f17 72 (by decide))) hI106
      have I58 : jI107 σ28 := jI107_fr ((congrFun (f30 55 (by decide)) 12).trans (congrFun (f17 55 (by decide)) 12)) ((congrFun (f30 55 (by decide)) 47).trans (congrFun (f17 55 (by decide)) 47)) ((f30 80 (by decide)).trans (f17 80 (by decide))) hI107
      have I59 : jI109 σ28 := jI109_fr ((congrFun (f30 55 (by decide)) 50).trans (congrFun (f17 55 (by decide)) 50)) hI109
      have I60 : jI111 σ28 := jI111_fr ((f30 79 (by decide)).trans (f17 79 (by decide))) hI111
      have I61 : jI119 σ28 := jI119_fr ((f30 68 (by decide)).trans (f17 68 (by decide))) hI119
      have p62 : jKept σ28 := jKept.fr ((f30 75 (by decide)).trans (f17 75 (by decide))) ((f30 76 (by decide)).trans (f17 76 (by decide))) ((f30 77 (by decide)).trans (f17 77 (by decide))) hs_jKept
      have p63 : jBook σ28 := jBook.fr ((congrFun (f30 55 (by decide)) 47).trans (congrFun (f17 55 (by decide)) 47)) ((congrFun (f30 55 (by decide)) 10).trans (congrFun (f17 55 (by decide)) 10)) ((f30 81 (by decide)).trans (f17 81 (by decide))) hs_jBook
      have z64 : (σ28 38 0).toInt = (σ 38 0).toInt := (congrArg Int32.toInt (show σ28 38 0 = (σ 38 0) from ((congrFun (f30 38 (by decide)) 0).trans (congrFun (f17 38 (by decide)) 0))))
      have z65 : (σ28 55 32).toInt = (σ 55 32).toInt := (congrArg Int32.toInt (show σ28 55 32 = (σ 55 32) from ((congrFun (f30 55 (by decide)) 32).trans (congrFun (f17 55 (by decide)) 32))))
      exact ih x40 σ28 τ28 _ _ ls (by have h9 := tx40; omega) ⟨I41, I42, I43, I44, I45, I46, I47, I48, I49, I50, I51, I52, I53, I54, I55, I56, I57, I58, I59, I31, I60, I61, p62, p63, (by omega), (show jShP (σ28 51) (σ28 52) (σ28 53) (σ28 86) (σ28 87) (σ28 55 32).toInt by rw [show σ28 51 = σ 51 from ((f30 51 (by decide)).trans k24.1), show σ28 52 = σ 52 from ((f30 52 (by decide)).trans k24.2.1), show σ28 53 = σ 53 from ((f30 53 (by decide)).trans k24.2.2), show σ28 86 = σ 86 from (k37.1.trans (f17 86 (by decide))), show σ28 87 = σ 87 from (k37.2.trans (f17 87 (by decide)))]; exact (hr0.up (by omega) (by omega))), (show jKd (σ28 39) (σ28 70) (σ28 55 32).toInt by rw [show σ28 39 = σ 39 from ((f30 39 (by decide)).trans (f17 39 (by decide))), show σ28 70 = σ 70 from ((f30 70 (by decide)).trans (f17 70 (by decide))), show (σ28 55 32).toInt = (σ 55 32).toInt from by omega]; exact hr1)⟩ hP hS (lv_sub hl [0, 1, 2, 3] rfl)
    · obtain ⟨q71, k66, k67, k68, k69, k70⟩ := h34
      exact absurd (by omega : False) id
    · obtain ⟨q77, k72, k73, k74, k75, k76⟩ := h35
      exact absurd (by omega : False) id
  · obtain ⟨q83, k78, k79, k80, k81, k82⟩ := h21
    have q83 := q83.symm
    subst q83
    refine lv_pop hx hb dL_law_1108 rfl ?_
    refine lv_aload_n hx hb dL_law_1109 rfl (lv_at hl 1 rfl) ?_
    refine lv_aload_n hx hb dL_law_1110 rfl (lv_at hl 3 rfl) ?_
    refine lv_iload_n hx hb dL_law_1111 rfl (lv_at hl 0 rfl) ?_
    refine lv_iconst (v := 1) hx hb dL_law_1112 (by decide) ?_
    refine lv_iadd hx hb dL_law_1113 ?_
    refine jtopr ex9.symm ?_
    refine va_sld hx hb hX hbl hbA hS (jin tx9 (by omega) (by omega)) dL_law_1114 ?_
    refine lv_aload_n hx hb dL_law_1115 rfl (lv_at hl 3 rfl) ?_
    refine lv_iload_n hx hb dL_law_1116 rfl (lv_at hl 0 rfl) ?_
    refine lv_iconst (v := 2) hx hb dL_law_1117 (by decide) ?_
    refine lv_iadd hx hb dL_law_1118 ?_
    refine jtopr ex11.symm ?_
    refine va_sld hx hb hX hbl hbA hS (jin tx11 (by omega) (by omega)) dL_law_1119 ?_
    refine lv_aload_n hx hb dL_law_1120 rfl (lv_at hl 3 rfl) ?_
    refine lv_iload_n hx hb dL_law_1121 rfl (lv_at hl 0 rfl) ?_
    refine lv_iconst (v := 3) hx hb dL_law_1122 (by decide) ?_
    refine lv_iadd hx hb dL_law_1123 ?_
    refine jtopr ex13.symm ?_
    refine va_sld hx hb hX hbl hbA hS (jin tx13 (by omega) (by omega)) dL_law_1124 ?_
    have I84 : jI110 σ15 := jI110_fr (f17 86 (by decide)) (f17 87 (by decide)) hI110
    refine jcallV (As := [.int (xs x9.toNatClampNeg), .int (xs x11.toNatClampNeg), .int (xs x13.toNatClampNeg)]) (rest := []) ⟨hx, hb, hml, hown, hts⟩ hK hP hA hS hZ (c_X12_row l D cI cL ad zz hJ σ15 τ15 (xs x9.toNatClampNeg) ((xs x9.toNatClampNeg).toInt) rfl (xs x11.toNatClampNeg) ((xs x11.toNatClampNeg).toInt) rfl (xs x13.toNatClampNeg) ((xs x13.toNatClampNeg).toInt) rfl I84) cw_RL_144 (jc_55 cI cL ad σ15 τ15) rfl ⟨Nat.le_of_ble_eq_true rfl, Nat.le_of_ble_eq_true rfl⟩ rfl rfl rfl hl.1 rfl (Nat.le_of_ble_eq_true rfl) dL_law_1125 ⟨Nat.le_of_ble_eq_true rfl, Nat.le_of_ble_eq_true rfl⟩ (fun r86 σ85 τ85 H locs h85 hP hS => ?_)
    obtain ⟨f89, f87, I88, h85⟩ := h85
    rcases h85 with h90 | h91 | h92
    · obtain ⟨q96, k93, k94, k95⟩ := h90
      exact absurd (by omega : False) id
    · obtain ⟨q102, k97, k98, k99, k100, k101⟩ := h91
      have q102 := q102.symm
      subst q102
      refine lv_pop hx hb dL_law_1128 rfl ?_
      refine lv_goto (tgt := 1357) hx hb dL_law_1129 (by decide) ?_
      obtain ⟨x103, ex103⟩ : ∃ y : Int32, y = x0 + 6 := ⟨_, rfl⟩
      have tx103 : x103.toInt = x0.toInt + 6 := (jadd ex103 rfl jz_6 (by omega) (by omega)).trans (by omega)
      refine lv_iinc (v := x103) (lv' := [(3, .int x103), (2, .ref (ad 55)), (1, .ref (ad 0)), (0, .ref b)]) hx hb dL_law_1357 hl (k := 0) rfl (by rw [ex103]; rfl) (by decide) rfl (fun ls hl => ?_)
      refine lv_goto (tgt := 18) hx hb dL_law_1360 (by decide) ?_
      have I104 : jI2 σ85 := jI2_fr ((congrFun (f87 2 (by decide)) 0).trans (congrFun (f17 2 (by decide)) 0)) ((congrFun (f87 2 (by decide)) 1).trans (congrFun (f17 2 (by decide)) 1)) ((congrFun (f87 2 (by decide)) 2).trans (congrFun (f17 2 (by decide)) 2)) ((congrFun (f87 2 (by decide)) 3).trans (congrFun (f17 2 (by decide)) 3)) ((f87 6 (by decide)).trans (f17 6 (by decide))) hI2
      have I105 : jI9 σ85 := jI9_fr ((congrFun (f87 9 (by decide)) 0).trans (congrFun (f17 9 (by decide)) 0)) ((f87 10 (by decide)).trans (f17 10 (by decide))) ((f87 11 (by decide)).trans (f17 11 (by decide))) hI9
      have I106 : jI12 σ85 := jI12_fr ((congrFun (f87 12 (by decide)) 0).trans (congrFun (f17 12 (by decide)) 0)) ((f87 13 (by decide)).trans (f17 13 (by decide))) hI12
      have I107 : jI16 σ85 := jI16_fr ((congrFun (f87 16 (by decide)) 0).trans (congrFun (f17 16 (by decide)) 0)) ((congrFun (f87 16 (by decide)) 1).trans (congrFun (f17 16 (by decide)) 1)) ((congrFun (f87 16 (by decide)) 2).trans (congrFun (f17 16 (by decide)) 2)) ((f87 17 (by decide)).trans (f17 17 (by decide))) hI16
      have I108 : jI18 σ85 := jI18_fr ((congrFun (f87 18 (by decide)) 0).trans (congrFun (f17 18 (by decide)) 0)) ((f87 19 (by decide)).trans (f17 19 (by decide))) hI18
      have I109 : jI22 σ85 := jI22_fr ((congrFun (f87 22 (by decide)) 0).trans (congrFun (f17 22 (by decide)) 0)) ((f87 23 (by decide)).trans (f17 23 (by decide))) hI22
      have I110 : jI31 σ85 := jI31_fr ((congrFun (f87 31 (by decide)) 8).trans (congrFun (f17 31 (by decide)) 8)) ((f87 33 (by decide)).trans (f17 33 (by decide))) ((f87 36 (by decide)).trans (f17 36 (by decide))) hI31
      have I111 : jI38 σ85 := jI38_fr ((congrFun (f87 38 (by decide)) 0).trans (congrFun (f17 38 (by decide)) 0)) ((congrFun (f87 38 (by decide)) 1).trans (congrFun (f17 38 (by decide)) 1)) ((f87 39 (by decide)).trans (f17 39 (by decide))) hI38
      have I112 : jI43 σ85 := jI43_fr ((congrFun (f87 43 (by decide)) 8).trans (congrFun (f17 43 (by decide)) 8)) hI43
      have I113 : jI47 σ85 := jI47_fr ((congrFun (f87 47 (by decide)) 0).trans (congrFun (f17 47 (by decide)) 0)) ((f87 48 (by decide)).trans (f17 48 (by decide))) ((f87 49 (by decide)).trans (f17 49 (by decide))) hI47
      have I114 : jI50 σ85 := jI50_fr (f87 52 (by decide)) I18
      have I115 : jI101 σ85 := jI101_fr ((congrFun (f87 55 (by decide)) 4).trans (congrFun (f17 55 (by decide)) 4)) ((congrFun (f87 55 (by decide)) 5).trans (congrFun (f17 55 (by decide)) 5)) ((f87 56 (by decide)).trans (f17 56 (by decide))) ((f87 57 (by decide)).trans (f17 57 (by decide))) ((f87 58 (by decide)).trans (f17 58 (by decide))) ((f87 59 (by decide)).trans (f17 59 (by decide))) hI101
      have I116 : jI102 σ85 := jI102_fr ((congrFun (f87 55 (by decide)) 6).trans (congrFun (f17 55 (by decide)) 6)) ((f87 60 (by decide)).trans (f17 60 (by decide))) ((f87 61 (by decide)).trans (f17 61 (by decide))) hI102
      have I117 : jI103 σ85 := jI103_fr ((congrFun (f87 55 (by decide)) 9).trans (congrFun (f17 55 (by decide)) 9)) hI103
      have I118 : jI104 σ85 := jI104_fr ((congrFun (f87 55 (by decide)) 10).trans (congrFun (f17 55 (by decide)) 10)) ((congrFun (f87 55 (by decide)) 12).trans (congrFun (f17 55 (by decide)) 12)) ((congrFun (f87 55 (by decide)) 13).trans (congrFun (f17 55 (by decide)) 13)) ((f87 62 (by decide)).trans (f17 62 (by decide))) ((f87 67 (by decide)).trans (f17 67 (by decide))) hI104
      have I119 : jI105 σ85 := jI105_fr ((congrFun (f87 55 (by decide)) 15).trans (congrFun (f17 55 (by decide)) 15)) ((f87 65 (by decide)).trans (f17 65 (by decide))) hI105
      have I120 : jI106 σ85 := jI106_fr ((congrFun (f87 55 (by decide)) 32).trans (congrFun (f17 55 (by decide)) 32)) ((f87 70 (by decide)).trans (f17 70 (by decide))) ((f87 71 (by decide)).trans (f17 71 (by decide))) ((f87 72 (by decide)).trans (f17 72 (by decide))) hI106
      have I121 : jI107 σ85 := jI107_fr ((congrFun (f87 55 (by decide)) 12).trans (congrFun (f17 55 (by decide)) 12)) ((congrFun (f87 55 (by decide)) 47).trans (congrFun (f17 55 (by decide)) 47)) ((f87 80 (by decide)).trans (f17 80 (by decide))) hI107
      have I122 : jI109 σ85 := jI109_fr ((congrFun (f87 55 (by decide)) 50).trans (congrFun (f17 55 (by decide)) 50)) hI109
      have I123 : jI111 σ85 := jI111_fr ((f87 79 (by decide)).trans (f17 79 (by decide))) hI111
      have I124 : jI119 σ85 := jI119_fr ((f87 68 (by decide)).trans (f17 68 (by decide))) hI119
      have p125 : jKept σ85 := jKept.fr ((f87 75 (by decide)).trans (f17 75 (by decide))) ((f87 76 (by decide)).trans (f17 76 (by decide))) ((f87 77 (by decide)).trans (f17 77 (by decide))) hs_jKept
      have p126 : jBook σ85 := jBook.fr ((congrFun (f87 55 (by decide)) 47).trans (congrFun (f17 55 (by decide)) 47)) ((congrFun (f87 55 (by decide)) 10).trans (congrFun (f17 55 (by decide)) 10)) ((f87 81 (by decide)).trans (f17 81 (by decide))) hs_jBook
      have z127 : (σ85 38 0).toInt = (σ 38 0).toInt := (congrArg Int32.toInt (show σ85 38 0 = (σ 38 0) from ((congrFun (f87 38 (by decide)) 0).trans (congrFun (f17 38 (by decide)) 0))))
      have z128 : (σ85 55 32).toInt = (σ 55 32).toInt := (congrArg Int32.toInt (show σ85 55 32 = (σ 55 32) from ((congrFun (f87 55 (by decide)) 32).trans (congrFun (f17 55 (by decide)) 32))))
      exact ih x103 σ85 τ85 _ _ ls (by have h9 := tx103; omega) ⟨I104, I105, I106, I107, I108, I109, I110, I111, I112, I113, I114, I115, I116, I117, I118, I119, I120, I121, I122, I88, I123, I124, p125, p126, (by omega), (show jShP (σ85 51) (σ85 52) (σ85 53) (σ85 86) (σ85 87) (σ85 55 32).toInt by rw [show σ85 51 = σ 51 from ((f87 51 (by decide)).trans k81.1), show σ85 52 = σ 52 from ((f87 52 (by decide)).trans k81.2.1), show σ85 53 = σ 53 from ((f87 53 (by decide)).trans k81.2.2), show σ85 86 = σ 86 from (k100.1.trans (f17 86 (by decide))), show σ85 87 = σ 87 from (k100.2.trans (f17 87 (by decide)))]; exact (hr0.up (by omega) (by omega))), (show jKd (σ85 39) (σ85 70) (σ85 55 32).toInt by rw [show σ85 39 = σ 39 from ((f87 39 (by decide)).trans (f17 39 (by decide))), show σ85 70 = σ 70 from ((f87 70 (by decide)).trans (f17 70 (by decide))), show (σ85 55 32).toInt = (σ 55 32).toInt from by omega]; exact hr1)⟩ hP hS (lv_sub hl [0, 1, 2, 3] rfl)
    · obtain ⟨q134, k129, k130, k131, k132, k133⟩ := h92
      exact absurd (by omega : False) id
  · obtain ⟨q140, k135, k136, k137, k138, k139⟩ := h22
    have q140 := q140.symm
    subst q140
    refine lv_pop hx hb dL_law_1108 rfl ?_
    refine lv_aload_n hx hb dL_law_1109 rfl (lv_at hl 1 rfl) ?_
    refine lv_aload_n hx hb dL_law_1110 rfl (lv_at hl 3 rfl) ?_
    refine lv_iload_n hx hb dL_law_1111 rfl (lv_at hl 0 rfl) ?_
    refine lv_iconst (v := 1) hx hb dL_law_1112 (by decide) ?_
    refine lv_iadd hx hb dL_law_1113 ?_
    refine jtopr ex9.symm ?_
    refine va_sld hx hb hX hbl hbA hS (jin tx9 (by omega) (by omega)) dL_law_1114 ?_
    refine lv_aload_n hx hb dL_law_1115 rfl (lv_at hl 3 rfl) ?_
    refine lv_iload_n hx hb dL_law_1116 rfl (lv_at hl 0 rfl) ?_
    refine lv_iconst (v := 2) hx hb dL_law_1117 (by decide) ?_
    refine lv_iadd hx hb dL_law_1118 ?_
    refine jtopr ex11.symm ?_
    refine va_sld hx hb hX hbl hbA hS (jin tx11 (by omega) (by omega)) dL_law_1119 ?_
    refine lv_aload_n hx hb dL_law_1120 rfl (lv_at hl 3 rfl) ?_
    refine lv_iload_n hx hb dL_law_1121 rfl (lv_at hl 0 rfl) ?_
    refine lv_iconst (v := 3) hx hb dL_law_1122 (by decide) ?_
    refine lv_iadd hx hb dL_law_1123 ?_
    refine jtopr ex13.symm ?_
    refine va_sld hx hb hX hbl hbA hS (jin tx13 (by omega) (by omega)) dL_law_1124 ?_
    have I141 : jI110 σ15 := jI110_fr (f17 86 (by decide)) (f17 87 (by decide)) hI110
    refine jcallV (As := [.int (xs x9.toNatClampNeg), .int (xs x11.toNatClampNeg), .int (xs x13.toNatClampNeg)]) (rest := []) ⟨hx, hb, hml, hown, hts⟩ hK hP hA hS hZ (c_X12_row l D cI cL ad zz hJ σ15 τ15 (xs x9.toNatClampNeg) ((xs x9.toNatClampNeg).toInt) rfl (xs x11.toNatClampNeg) ((xs x11.toNatClampNeg).toInt) rfl (xs x13.toNatClampNeg) ((xs x13.toNatClampNeg).toInt) rfl I141) cw_RL_144 (jc_55 cI cL ad σ15 τ15) rfl ⟨Nat.le_of_ble_eq_true rfl, Nat.le_of_ble_eq_true rfl⟩ rfl rfl rfl hl.1 rfl (Nat.le_of_ble_eq_true rfl) dL_law_1125 ⟨Nat.le_of_ble_eq_true rfl, Nat.le_of_ble_eq_true rfl⟩ (fun r143 σ142 τ142 H locs h142 hP hS => ?_)
    obtain ⟨f146, f144, I145, h142⟩ := h142
    rcases h142 with h147 | h148 | h149
    · obtain ⟨q153, k150, k151, k152⟩ := h147
      exact absurd (by omega : False) id
    · obtain ⟨q159, k154, k155, k156, k157, k158⟩ := h148
      exact absurd (by omega : False) id
    · obtain ⟨q165, k160, k161, k162, k163, k164⟩ := h149
      have q165 := q165.symm
      subst q165
      refine lv_pop hx hb dL_law_1128 rfl ?_
      refine lv_goto (tgt := 1357) hx hb dL_law_1129 (by decide) ?_
      obtain ⟨x166, ex166⟩ : ∃ y : Int32, y = x0 + 6 := ⟨_, rfl⟩
      have tx166 : x166.toInt = x0.toInt + 6 := (jadd ex166 rfl jz_6 (by omega) (by omega)).trans (by omega)
      refine lv_iinc (v := x166) (lv' := [(3, .int x166), (2, .ref (ad 55)), (1, .ref (ad 0)), (0, .ref b)]) hx hb dL_law_1357 hl (k := 0) rfl (by rw [ex166]; rfl) (by decide) rfl (fun ls hl => ?_)
      refine lv_goto (tgt := 18) hx hb dL_law_1360 (by decide) ?_
      have I167 : jI2 σ142 := jI2_fr ((congrFun (f144 2 (by decide)) 0).trans (congrFun (f17 2 (by decide)) 0)) ((congrFun (f144 2 (by decide)) 1).trans (congrFun (f17 2 (by decide)) 1)) ((congrFun (f144 2 (by decide)) 2).trans (congrFun (f17 2 (by decide)) 2)) ((congrFun (f144 2 (by decide)) 3).trans (congrFun (f17 2 (by decide)) 3)) ((f144 6 (by decide)).trans (f17 6 (by decide))) hI2
      have I168 : jI9 σ142 := jI9_fr ((congrFun (f144 9 (by decide)) 0).trans (congrFun (f17 9 (by decide)) 0)) ((f144 10 (by decide)).trans (f17 10 (by decide))) ((f144 11 (by decide)).trans (f17 11 (by decide))) hI9
      have I169 : jI12 σ142 := jI12_fr ((congrFun (f144 12 (by decide)) 0).trans (congrFun (f17 12 (by decide)) 0)) ((f144 13 (by decide)).trans (f17 13 (by decide))) hI12
      have I170 : jI16 σ142 := jI16_fr ((congrFun (f144 16 (by decide)) 0).trans (congrFun (f17 16 (by decide)) 0)) ((congrFun (f144 16 (by decide)) 1).trans (congrFun (f17 16 (by decide)) 1)) ((congrFun (f144 16 (by decide)) 2).trans (congrFun (f17 16 (by decide)) 2)) ((f144 17 (by decide)).trans (f17 17 (by decide))) hI16
      have I171 : jI18 σ142 := jI18_fr ((congrFun (f144 18 (by decide)) 0).trans (congrFun (f17 18 (by decide)) 0)) ((f144 19 (by decide)).trans (f17 19 (by decide))) hI18
      have I172 : jI22 σ142 := jI22_fr ((congrFun (f144 22 (by decide)) 0).trans (congrFun (f17 22 (by decide)) 0)) ((f144 23 (by decide)).trans (f17 23 (by decide))) hI22
      have I173 : jI31 σ142 := jI31_fr ((congrFun (f144 31 (by decide)) 8).trans (congrFun (f17 31 (by decide)) 8)) ((f144 33 (by decide)).trans (f17 33 (by decide))) ((f144 36 (by decide)).trans (f17 36 (by decide))) hI31
      have I174 : jI38 σ142 := jI38_fr ((congrFun (f144 38 (by decide)) 0).trans (congrFun (f17 38 (by decide)) 0)) ((congrFun (f144 38 (by decide)) 1).trans (congrFun (f17 38 (by decide)) 1)) ((f144 39 (by decide)).trans (f17 39 (by decide))) hI38
      have I175 : jI43 σ142 := jI43_fr ((congrFun (f144 43 (by decide)) 8).trans (congrFun (f17 43 (by decide)) 8)) hI43
      have I176 : jI47 σ142 := jI47_fr ((congrFun (f144 47 (by decide)) 0).trans (congrFun (f17 47 (by decide)) 0)) ((f144 48 (by decide)).trans (f17 48 (by decide))) ((f144 49 (by decide)).trans (f17 49 (by decide))) hI47
      have I177 : jI50 σ142 := jI50_fr (f144 52 (by decide)) I18
      have I178 : jI101 σ142 := jI101_fr ((congrFun (f144 55 (by decide)) 4).trans (congrFun (f17 55 (by decide)) 4)) ((congrFun (f144 55 (by decide)) 5).trans (congrFun (f17 55 (by decide)) 5)) ((f144 56 (by decide)).trans (f17 56 (by decide))) ((f144 57 (by decide)).trans (f17 57 (by decide))) ((f144 58 (by decide)).trans (f17 58 (by decide))) ((f144 59 (by decide)).trans (f17 59 (by decide))) hI101
      have I179 : jI102 σ142 := jI102_fr ((congrFun (f144 55 (by decide)) 6).trans (congrFun (f17 55 (by decide)) 6)) ((f144 60 (by decide)).trans (f17 60 (by decide))) ((f144 61 (by decide)).trans (f17 61 (by decide))) hI102
      have I180 : jI103 σ142 := jI103_fr ((congrFun (f144 55 (by decide)) 9).trans (congrFun (f17 55 (by decide)) 9)) hI103
      have I181 : jI104 σ142 := jI104_fr ((congrFun (f144 55 (by decide)) 10).trans (congrFun (f17 55 (by decide)) 10)) ((congrFun (f144 55 (by decide)) 12).trans (congrFun (f17 55 (by decide)) 12)) ((congrFun (f144 55 (by decide)) 13).trans (congrFun (f17 55 (by decide)) 13)) ((f144 62 (by decide)).trans (f17 62 (by decide))) ((f144 67 (by decide)).trans (f17 67 (by decide))) hI104
      have I182 : jI105 σ142 := jI105_fr ((congrFun (f144 55 (by decide)) 15).trans (congrFun (f17 55 (by decide)) 15)) ((f144 65 (by decide)).trans (f17 65 (by decide))) hI105
      have I183 : jI106 σ142 := jI106_fr ((congrFun (f144 55 (by decide)) 32).trans (congrFun (f17 55 (by decide)) 32)) ((f144 70 (by decide)).trans (f17 70 (by decide))) ((f144 71 (by decide)).trans (f17 71 (by decide))) ((f144 72 (by decide)).trans (f17 72 (by decide))) hI106
      have I184 : jI107 σ142 := jI107_fr ((congrFun (f144 55 (by decide)) 12).trans (congrFun (f17 55 (by decide)) 12)) ((congrFun (f144 55 (by decide)) 47).trans (congrFun (f17 55 (by decide)) 47)) ((f144 80 (by decide)).trans (f17 80 (by decide))) hI107
      have I185 : jI109 σ142 := jI109_fr ((congrFun (f144 55 (by decide)) 50).trans (congrFun (f17 55 (by decide)) 50)) hI109
      have I186 : jI111 σ142 := jI111_fr ((f144 79 (by decide)).trans (f17 79 (by decide))) hI111
      have I187 : jI119 σ142 := jI119_fr ((f144 68 (by decide)).trans (f17 68 (by decide))) hI119
      have p188 : jKept σ142 := jKept.fr ((f144 75 (by decide)).trans (f17 75 (by decide))) ((f144 76 (by decide)).trans (f17 76 (by decide))) ((f144 77 (by decide)).trans (f17 77 (by decide))) hs_jKept
      have p189 : jBook σ142 := jBook.fr ((congrFun (f144 55 (by decide)) 47).trans (congrFun (f17 55 (by decide)) 47)) ((congrFun (f144 55 (by decide)) 10).trans (congrFun (f17 55 (by decide)) 10)) ((f144 81 (by decide)).trans (f17 81 (by decide))) hs_jBook
      have z190 : (σ142 38 0).toInt = (σ 38 0).toInt := (congrArg Int32.toInt (show σ142 38 0 = (σ 38 0) from ((congrFun (f144 38 (by decide)) 0).trans (congrFun (f17 38 (by decide)) 0))))
      have z191 : (σ142 55 32).toInt = (σ 55 32).toInt := (congrArg Int32.toInt (show σ142 55 32 = (σ 55 32) from ((congrFun (f144 55 (by decide)) 32).trans (congrFun (f17 55 (by decide)) 32))))
      rw [show σ15 86 = σ 86 from (f17 86 (by decide)), show σ15 87 = σ 87 from (f17 87 (by decide))] at k163
      obtain ⟨⟨z193, k194, k195⟩, k196⟩ := k163
      have p192 := hr0.set k138.1 k138.2.1 k138.2.2 k195 k196 (Or.inr (Or.inr ⟨by omega, by omega, k194, rfl, rfl⟩))
      exact ih x166 σ142 τ142 _ _ ls (by have h9 := tx166; omega) ⟨I167, I168, I169, I170, I171, I172, I173, I174, I175, I176, I177, I178, I179, I180, I181, I182, I183, I184, I185, I145, I186, I187, p188, p189, (by omega), (show jShP (σ142 51) (σ142 52) (σ142 53) (σ142 86) (σ142 87) (σ142 55 32).toInt by rw [show σ142 51 = σ15 51 from (f144 51 (by decide)), show σ142 52 = σ15 52 from (f144 52 (by decide)), show σ142 53 = σ15 53 from (f144 53 (by decide))]; exact (p192.up (by omega) (by omega))), (show jKd (σ142 39) (σ142 70) (σ142 55 32).toInt by rw [show σ142 39 = σ 39 from ((f144 39 (by decide)).trans (f17 39 (by decide))), show σ142 70 = σ 70 from ((f144 70 (by decide)).trans (f17 70 (by decide))), show (σ142 55 32).toInt = (σ 55 32).toInt from by omega]; exact hr1)⟩ hP hS (lv_sub hl [0, 1, 2, 3] rfl)
set_option maxHeartbeats 4000000 in
set_option maxRecDepth 100000 in
theorem law_case_32 {p : Program} {e : Env} {s : State} {m : MethodId} {below : List Frame} {meth : Method} {c : Code} (l : Launch) {b L : Nat} {xs : Nat → Int32} {D : va_G} {cI cL : ClassId} {ad zz : Nat → Nat} (C0 : lw_At p s m meth c b L xs) (hJ : jD ad) (hA : ∀ q, jA ad q → s.heap.size ≤ q) (hK : jK D cI cL s) (hZ : jZ zz (fun q : Nat => s.heap.size ≤ q) s s.heap) {x0 : Int32} (hx0 : 0 ≤ x0.toInt) (hxL : x0.toInt + 6 ≤ (L : Int)) (hL : L ≤ 384) {σ : Nat → Nat → Int32} {τ : Nat → Nat → Int64} {H : Heap} {locs : List Loc} (hS : va_S (fun q : Nat => s.heap.size ≤ q) s.heap H locs) {ls : Array Slot} (hAll : jAll σ τ) (hP : jH D cI cL ad σ τ H) (hl : lv_has ls 4 [(3, .int x0), (2, .ref (ad 55)), (1, .ref (ad 0)), (0, .ref b)]) (ih : ∀ (x1 : Int32) (σ : Nat → Nat → Int32) (τ : Nat → Nat → Int64) (H : Heap) (locs : List Loc) (ls : Array Slot), x1.toInt = x0.toInt + 6 → jAll σ τ → jH D cI cL ad σ τ H → va_S (fun q : Nat => s.heap.size ≤ q) s.heap H locs → lv_has ls 4 [(3, .int x1), (2, .ref (ad 55)), (1, .ref (ad 0)), (0, .ref b)] → W p l e room_1 s m #[Value.ref b] below meth c H locs 90 348600 (lw_Z below #[Value.ref b] s) (F0 m 18 ls [])) : W p l e room_1 s m #[Value.ref b] below meth c H locs 90 348600 (lw_Z below #[Value.ref b] s) (F0 m 1132 ls []) := by
  obtain ⟨hx, hb, hr, hml, hown, hts0, hX, hbl, hlocks, hgv⟩ := C0
  have hts : ∀ w ∈ wsL_law, w.before #[Value.ref b] s = true := fun w h => hts0 w (wsL_law_in w h)
  have hbA : ¬ (fun q : Nat => s.heap.size ≤ q) b := Nat.not_le.mpr hbl
  have hown : s.vm.findClass RL = some m.cls := hown
  obtain ⟨hI2, hI9, hI12, hI16, hI18, hI22, hI31, hI38, hI43, hI47, hI50, hI101, hI102, hI103, hI104, hI105, hI106, hI107, hI109, hI110, hI111, hI119, hs_jKept, hs_jBook, ht0, hr0, hr1⟩ := hAll
  have hL9 : (L : Int) ≤ 384 := by omega
  obtain ⟨i1, i2, w3⟩ : (0 ≤ (σ 38 0).toInt ∧ (σ 38 0).toInt ≤ 20) ∧ (0 ≤ (σ 38 1).toInt ∧ (σ 38 1).toInt ≤ 1000) ∧ (∀ k : Nat, k < 20 → 0 ≤ (σ 39 k).toInt ∧ (σ 39 k).toInt ≤ 6) := id hI38
  obtain ⟨i4, w5, w6, w7⟩ : (0 ≤ (σ 55 32).toInt ∧ (σ 55 32).toInt ≤ 20) ∧ (∀ k : Nat, k < 20 → 0 ≤ (σ 70 k).toInt ∧ (σ 70 k).toInt ≤ 6) ∧ (∀ k : Nat, k < 20 → 0 ≤ (σ 71 k).toInt ∧ (σ 71 k).toInt ≤ 8) ∧ (∀ k : Nat, k < 160 → 0 ≤ (σ 72 k).toInt ∧ (σ 72 k).toInt ≤ 3) := id hI106
  refine lv_aload_n hx hb dL_law_1132 rfl (lv_at hl 2 rfl) ?_
  refine lv_aload_n hx hb dL_law_1133 rfl (lv_at hl 3 rfl) ?_
  refine lv_iload_n hx hb dL_law_1134 rfl (lv_at hl 0 rfl) ?_
  refine lv_iconst (v := 1) hx hb dL_law_1135 (by decide) ?_
  have g8 := jrg (rfl : x0.toInt = x0.toInt)
  refine lv_iadd hx hb dL_law_1136 ?_
  refine lv_topi (fun x9 ex9 => ?_)
  have tx9 : x9.toInt = x0.toInt + 1 := (jadd ex9 rfl jz_1 (by omega) (by omega)).trans (by omega)
  refine va_sld hx hb hX hbl hbA hS (jin tx9 (by omega) (by omega)) dL_law_1137 ?_
  have g10 := jrg (rfl : (xs x9.toNatClampNeg).toInt = (xs x9.toNatClampNeg).toInt)
  refine lv_aload_n hx hb dL_law_1138 rfl (lv_at hl 3 rfl) ?_
  refine lv_iload_n hx hb dL_law_1139 rfl (lv_at hl 0 rfl) ?_
  refine lv_iconst (v := 2) hx hb dL_law_1140 (by decide) ?_
  refine lv_iadd hx hb dL_law_1141 ?_
  refine lv_topi (fun x11 ex11 => ?_)
  have tx11 : x11.toInt = x0.toInt + 2 := (jadd ex11 rfl jz_2 (by omega) (by omega)).trans (by omega)
  refine va_sld hx hb hX hbl hbA hS (jin tx11 (by omega) (by omega)) dL_law_1142 ?_
  have g12 := jrg (rfl : (xs x11.toNatClampNeg).toInt = (xs x11.toNatClampNeg).toInt)
  refine lv_aload_n hx hb dL_law_1143 rfl (lv_at hl 3 rfl) ?_
  refine lv_iload_n hx hb dL_law_1144 rfl (lv_at hl 0 rfl) ?_
  refine lv_iconst (v := 3) hx hb dL_law_1145 (by decide) ?_
  refine lv_iadd hx hb dL_law_1146 ?_
  refine lv_topi (fun x13 ex13 => ?_)
  have tx13 : x13.toInt = x0.toInt + 3 := (jadd ex13 rfl jz_3 (by omega) (by omega)).trans (by omega)
  refine va_sld hx hb hX hbl hbA hS (jin tx13 (by omega) (by omega)) dL_law_1147 ?_
  have g14 := jrg (rfl : (xs x13.toNatClampNeg).toInt = (xs x13.toNatClampNeg).toInt)
  refine lv_i2l (v := (xs x13.toNatClampNeg).toInt64) hx hb dL_law_1148 rfl ?_
  refine lv_bipush (v := 32) hx hb dL_law_1149 (by decide) ?_
  refine lv_lshl hx hb dL_law_1151 rfl ?_
  refine lv_topl (fun lx15 elx15 => ?_)
  refine lv_aload_n hx hb dL_law_1152 rfl (lv_at hl 3 rfl) ?_
  refine lv_iload_n hx hb dL_law_1153 rfl (lv_at hl 0 rfl) ?_
  refine lv_iconst (v := 4) hx hb dL_law_1154 (by decide) ?_
  refine lv_iadd hx hb dL_law_1155 ?_
  refine lv_topi (fun x16 ex16 => ?_)
  have tx16 : x16.toInt = x0.toInt + 4 := (jadd ex16 rfl jz_4 (by omega) (by omega)).trans (by omega)
  refine va_sld hx hb hX hbl hbA hS (jin tx16 (by omega) (by omega)) dL_law_1156 ?_
  have g17 := jrg (rfl : (xs x16.toNatClampNeg).toInt = (xs x16.toNatClampNeg).toInt)
  refine lv_i2l (v := (xs x16.toNatClampNeg).toInt64) hx hb dL_law_1157 rfl ?_
  refine lv_ldc2 (v := 4294967295) hx hb hown (hts _ kw_1_6) dL_law_1158 ?_
  refine lv_land hx hb dL_law_1161 ?_
  refine lv_topl (fun lx18 elx18 => ?_)
  refine lv_lor hx hb dL_law_1162 ?_
  refine lv_topl (fun lx19 elx19 => ?_)
  refine jcallV (As := [.int (xs x9.toNatClampNeg), .int (xs x11.toNatClampNeg), .long lx19]) (rest := []) ⟨hx, hb, hml, hown, hts⟩ hK hP hA hS hZ (c_X11_put l D cI cL ad zz hJ σ τ (xs x9.toNatClampNeg) ((xs x9.toNatClampNeg).toInt) rfl (xs x11.toNatClampNeg) ((xs x11.toNatClampNeg).toInt) rfl lx19 (lx19.toInt) rfl hI50) cw_RL_147 (jc_0 cI cL ad σ τ) rfl ⟨Nat.le_of_ble_eq_true rfl, Nat.le_of_ble_eq_true rfl⟩ rfl rfl rfl hl.1 rfl (Nat.le_of_ble_eq_true rfl) dL_law_1163 ⟨Nat.le_of_ble_eq_true rfl, Nat.le_of_ble_eq_true rfl⟩ (fun r21 σ20 τ20 H locs h20 hP hS => ?_)
  obtain ⟨f25, f22, w23, w24, h20⟩ := h20
  refine lv_pop hx hb dL_law_1166 rfl ?_
  refine lv_aload_n hx hb dL_law_1167 rfl (lv_at hl 1 rfl) ?_
  refine lv_aload_n hx hb dL_law_1168 rfl (lv_at hl 3 rfl) ?_
  refine lv_iload_n hx hb dL_law_1169 rfl (lv_at hl 0 rfl) ?_
  refine lv_iconst (v := 1) hx hb dL_law_1170 (by decide) ?_
  refine lv_iadd hx hb dL_law_1171 ?_
  refine jtopr ex9.symm ?_
  refine va_sld hx hb hX hbl hbA hS (jin tx9 (by omega) (by omega)) dL_law_1172 ?_
  refine lv_aload_n hx hb dL_law_1173 rfl (lv_at hl 3 rfl) ?_
  refine lv_iload_n hx hb dL_law_1174 rfl (lv_at hl 0 rfl) ?_
  refine lv_iconst (v := 2) hx hb dL_law_1175 (by decide) ?_
  refine lv_iadd hx hb dL_law_1176 ?_
  refine jtopr ex11.symm ?_
  refine va_sld hx hb hX hbl hbA hS (jin tx11 (by omega) (by omega)) dL_law_1177 ?_
  refine lv_aload_n hx hb dL_law_1178 rfl (lv_at hl 3 rfl) ?_
  refine lv_iload_n hx hb dL_law_1179 rfl (lv_at hl 0 rfl) ?_
  refine lv_iconst (v := 3) hx hb dL_law_1180 (by decide) ?_
  refine lv_iadd hx hb dL_law_1181 ?_
  refine jtopr ex13.symm ?_
  refine va_sld hx hb hX hbl hbA hS (jin tx13 (by omega) (by omega)) dL_law_1182 ?_
  refine lv_i2l (v := (xs x13.toNatClampNeg).toInt64) hx hb dL_law_1183 rfl ?_
  refine lv_bipush (v := 32) hx hb dL_law_1184 (by decide) ?_
  refine lv_lshl hx hb dL_law_1186 rfl ?_
  refine lv_topl (fun lx26 elx26 => ?_)
  refine lv_aload_n hx hb dL_law_1187 rfl (lv_at hl 3 rfl) ?_
  refine lv_iload_n hx hb dL_law_1188 rfl (lv_at hl 0 rfl) ?_
  refine lv_iconst (v := 4) hx hb dL_law_1189 (by decide) ?_
  refine lv_iadd hx hb dL_law_1190 ?_
  refine jtopr ex16.symm ?_
  refine va_sld hx hb hX hbl hbA hS (jin tx16 (by omega) (by omega)) dL_law_1191 ?_
  refine lv_i2l (v := (xs x16.toNatClampNeg).toInt64) hx hb dL_law_1192 rfl ?_
  refine lv_ldc2 (v := 4294967295) hx hb hown (hts _ kw_1_6) dL_law_1193 ?_
  refine lv_land hx hb dL_law_1196 ?_
  refine lv_topl (fun lx27 elx27 => ?_)
  refine lv_lor hx hb dL_law_1197 ?_
  refine lv_topl (fun lx28 elx28 => ?_)
  have I29 : jI110 σ20 := jI110_fr (f22 86 (by decide)) (f22 87 (by decide)) hI110
  refine jcallV (As := [.int (xs x9.toNatClampNeg), .int (xs x11.toNatClampNeg), .long lx28]) (rest := []) ⟨hx, hb, hml, hown, hts⟩ hK hP hA hS hZ (c_X12_put l D cI cL ad zz hJ σ20 τ20 (xs x9.toNatClampNeg) ((xs x9.toNatClampNeg).toInt) rfl (xs x11.toNatClampNeg) ((xs x11.toNatClampNeg).toInt) rfl lx28 (lx28.toInt) rfl I29) cw_RL_151 (jc_55 cI cL ad σ20 τ20) rfl ⟨Nat.le_of_ble_eq_true rfl, Nat.le_of_ble_eq_true rfl⟩ rfl rfl rfl hl.1 rfl (Nat.le_of_ble_eq_true rfl) dL_law_1198 ⟨Nat.le_of_ble_eq_true rfl, Nat.le_of_ble_eq_true rfl⟩ (fun r31 σ30 τ30 H locs h30 hP hS => ?_)
  obtain ⟨f35, f32, w33, w34, h30⟩ := h30
  refine lv_pop hx hb dL_law_1201 rfl ?_
  refine lv_goto (tgt := 1357) hx hb dL_law_1202 (by decide) ?_
  obtain ⟨x36, ex36⟩ : ∃ y : Int32, y = x0 + 6 := ⟨_, rfl⟩
  have tx36 : x36.toInt = x0.toInt + 6 := (jadd ex36 rfl jz_6 (by omega) (by omega)).trans (by omega)
  refine lv_iinc (v := x36) (lv' := [(3, .int x36), (2, .ref (ad 55)), (1, .ref (ad 0)), (0, .ref b)]) hx hb dL_law_1357 hl (k := 0) rfl (by rw [ex36]; rfl) (by decide) rfl (fun ls hl => ?_)
  refine lv_goto (tgt := 18) hx hb dL_law_1360 (by decide) ?_
  have I37 : jI2 σ30 := jI2_fr ((congrFun (f32 2 (by decide)) 0).trans (congrFun (f22 2 (by decide)) 0)) ((congrFun (f32 2 (by decide)) 1).trans (congrFun (f22 2 (by decide)) 1)) ((congrFun (f32 2 (by decide)) 2).trans (congrFun (f22 2 (by decide)) 2)) ((congrFun (f32 2 (by decide)) 3).trans (congrFun (f22 2 (by decide)) 3)) ((f32 6 (by decide)).trans (f22 6 (by decide))) hI2
  have I38 : jI9 σ30 := jI9_fr ((congrFun (f32 9 (by decide)) 0).trans (congrFun (f22 9 (by decide)) 0)) ((f32 10 (by decide)).trans (f22 10 (by decide))) ((f32 11 (by decide)).trans (f22 11 (by decide))) hI9
  have I39 : jI12 σ30 := jI12_fr ((congrFun (f32 12 (by decide)) 0).trans (congrFun (f22 12 (by decide)) 0)) ((f32 13 (by decide)).trans (f22 13 (by decide))) hI12
  have I40 : jI16 σ30 := jI16_fr ((congrFun (f32 16 (by decide)) 0).trans (congrFun (f22 16 (by decide)) 0)) ((congrFun (f32 16 (by decide)) 1).trans (congrFun (f22 16 (by decide)) 1)) ((congrFun (f32 16 (by decide)) 2).trans (congrFun (f22 16 (by decide)) 2)) ((f32 17 (by decide)).trans (f22 17 (by decide))) hI16
  have I41 : jI18 σ30 := jI18_fr ((congrFun (f32 18 (by decide)) 0).trans (congrFun (f22 18 (by decide)) 0)) ((f32 19 (by decide)).trans (f22 19 (by decide))) hI18
  have I42 : jI22 σ30 := jI22_fr ((congrFun (f32 22 (by decide)) 0).trans (congrFun (f22 22 (by decide)) 0)) ((f32 23 (by decide)).trans (f22 23 (by decide))) hI22
  have I43 : jI31 σ30 := jI31_fr ((congrFun (f32 31 (by decide)) 8).trans (congrFun (f22 31 (by decide)) 8)) ((f32 33 (by decide)).trans (f22 33 (by decide))) ((f32 36 (by decide)).trans (f22 36 (by decide))) hI31
  have I44 : jI38 σ30 := jI38_fr ((congrFun (f32 38 (by decide)) 0).trans (congrFun (f22 38 (by decide)) 0)) ((congrFun (f32 38 (by decide)) 1).trans (congrFun (f22 38 (by decide)) 1)) ((f32 39 (by decide)).trans (f22 39 (by decide))) hI38
  have I45 : jI43 σ30 := jI43_fr ((congrFun (f32 43 (by decide)) 8).trans (congrFun (f22 43 (by decide)) 8)) hI43
  have I46 : jI47 σ30 := jI47_fr ((congrFun (f32 47 (by decide)) 0).trans (congrFun (f22 47 (by decide)) 0)) ((f32 48 (by decide)).trans (f22 48 (by decide))) ((f32 49 (by decide)).trans (f22 49 (by decide))) hI47
  have I47 : jI50 σ30 := jI50_fr ((f32 52 (by decide)).trans (f22 52 (by decide))) hI50
  have I48 : jI101 σ30 := jI101_fr ((congrFun (f32 55 (by decide)) 4).trans (congrFun (f22 55 (by decide)) 4)) ((congrFun (f32 55 (by decide)) 5).trans (congrFun (f22 55 (by decide)) 5)) ((f32 56 (by decide)).trans (f22 56 (by decide))) ((f32 57 (by decide)).trans (f22 57 (by decide))) ((f32 58 (by decide)).trans (f22 58 (by decide))) ((f32 59 (by decide)).trans (f22 59 (by decide))) hI101
  have I49 : jI102 σ30 := jI102_fr ((congrFun (f32 55 (by decide)) 6).trans (congrFun (f22 55 (by decide)) 6)) ((f32 60 (by decide)).trans (f22 60 (by decide))) ((f32 61 (by decide)).trans (f22 61 (by decide))) hI102
  have I50 : jI103 σ30 := jI103_fr ((congrFun (f32 55 (by decide)) 9).trans (congrFun (f22 55 (by decide)) 9)) hI103
  have I51 : jI104 σ30 := jI104_fr ((congrFun (f32 55 (by decide)) 10).trans (congrFun (f22 55 (by decide)) 10)) ((congrFun (f32 55 (by decide)) 12).trans (congrFun (f22 55 (by decide)) 12)) ((congrFun (f32 55 (by decide)) 13).trans (congrFun (f22 55 (by decide)) 13)) ((f32 62 (by decide)).trans (f22 62 (by decide))) ((f32 67 (by decide)).trans (f22 67 (by decide))) hI104
  have I52 : jI105 σ30 := jI105_fr ((congrFun (f32 55 (by decide)) 15).trans (congrFun (f22 55 (by decide)) 15)) ((f32 65 (by decide)).trans (f22 65 (by decide))) hI105
  have I53 : jI106 σ30 := jI106_fr ((congrFun (f32 55 (by decide)) 32).trans (congrFun (f22 55 (by decide)) 32)) ((f32 70 (by decide)).trans (f22 70 (by decide))) ((f32 71 (by decide)).trans (f22 71 (by decide))) ((f32 72 (by decide)).trans (f22 72 (by decide))) hI106
  have I54 : jI107 σ30 := jI107_fr ((congrFun (f32 55 (by decide)) 12).trans (congrFun (f22 55 (by decide)) 12)) ((congrFun (f32 55 (by decide)) 47).trans (congrFun (f22 55 (by decide)) 47)) ((f32 80 (by decide)).trans (f22 80 (by decide))) hI107
  have I55 : jI109 σ30 := jI109_fr ((congrFun (f32 55 (by decide)) 50).trans (congrFun (f22 55 (by decide)) 50)) hI109
  have I56 : jI110 σ30 := jI110_fr (f32 86 (by decide)) (f32 87 (by decide)) I29
  have I57 : jI111 σ30 := jI111_fr ((f32 79 (by decide)).trans (f22 79 (by decide))) hI111
  have I58 : jI119 σ30 := jI119_fr ((f32 68 (by decide)).trans (f22 68 (by decide))) hI119
  have p59 : jKept σ30 := jKept.fr ((f32 75 (by decide)).trans (f22 75 (by decide))) ((f32 76 (by decide)).trans (f22 76 (by decide))) ((f32 77 (by decide)).trans (f22 77 (by decide))) hs_jKept
  have p60 : jBook σ30 := jBook.fr ((congrFun (f32 55 (by decide)) 47).trans (congrFun (f22 55 (by decide)) 47)) ((congrFun (f32 55 (by decide)) 10).trans (congrFun (f22 55 (by decide)) 10)) ((f32 81 (by decide)).trans (f22 81 (by decide))) hs_jBook
  have z61 : (σ30 38 0).toInt = (σ 38 0).toInt := (congrArg Int32.toInt (show σ30 38 0 = (σ 38 0) from ((congrFun (f32 38 (by decide)) 0).trans (congrFun (f22 38 (by decide)) 0))))
  have z62 : (σ30 55 32).toInt = (σ 55 32).toInt := (congrArg Int32.toInt (show σ30 55 32 = (σ 55 32) from ((congrFun (f32 55 (by decide)) 32).trans (congrFun (f22 55 (by decide)) 32))))
  exact ih x36 σ30 τ30 _ _ ls (by have h9 := tx36; omega) ⟨I37, I38, I39, I40, I41, I42, I43, I44, I45, I46, I47, I48, I49, I50, I51, I52, I53, I54, I55, I56, I57, I58, p59, p60, (by omega), (show jShP (σ30 51) (σ30 52) (σ30 53) (σ30 86) (σ30 87) (σ30 55 32).toInt by rw [show σ30 51 = σ 51 from ((f32 51 (by decide)).trans (f22 51 (by decide))), show σ30 52 = σ 52 from ((f32 52 (by decide)).trans (f22 52 (by decide))), show σ30 53 = σ 53 from ((f32 53 (by decide)).trans (f22 53 (by decide))), show σ30 86 = σ 86 from ((f32 86 (by decide)).trans (f22 86 (by decide))), show σ30 87 = σ 87 from ((f32 87 (by decide)).trans (f22 87 (by decide)))]; exact (hr0.up (by omega) (by omega))), (show jKd (σ30 39) (σ30 70) (σ30 55 32).toInt by rw [show σ30 39 = σ 39 from ((f32 39 (by decide)).trans (f22 39 (by decide))), show σ30 70 = σ 70 from ((f32 70 (by decide)).trans (f22 70 (by decide))), show (σ30 55 32).toInt = (σ 55 32).toInt from by omega]; exact hr1)⟩ hP hS (lv_sub hl [0, 1, 2, 3] rfl)
set_option maxHeartbeats 4000000 in
set_option maxRecDepth 100000 in
theorem law_case_33 {p : Program} {e : Env} {s : State} {m : MethodId} {below : List Frame} {meth : Method} {c : Code} (l : Launch) {b L : Nat} {xs : Nat → Int32} {D : va_G} {cI cL : ClassId} {ad zz : Nat → Nat} (C0 : lw_At p s m meth c b L xs) (hJ : jD ad) (hA : ∀ q, jA ad q → s.heap.size ≤ q) (hK : jK D cI cL s) (hZ : jZ zz (fun q : Nat => s.heap.size ≤ q) s s.heap) {x0 : Int32} (hx0 : 0 ≤ x0.toInt) (hxL : x0.toInt + 6 ≤ (L : Int)) (hL : L ≤ 384) {σ : Nat → Nat → Int32} {τ : Nat → Nat → Int64} {H : Heap} {locs : List Loc} (hS : va_S (fun q : Nat => s.heap.size ≤ q) s.heap H locs) {ls : Array Slot} (hAll : jAll σ τ) (hP : jH D cI cL ad σ τ H) (hl : lv_has ls 4 [(3, .int x0), (2, .ref (ad 55)), (1, .ref (ad 0)), (0, .ref b)]) (ih : ∀ (x1 : Int32) (σ : Nat → Nat → Int32) (τ : Nat → Nat → Int64) (H : Heap) (locs : List Loc) (ls : Array Slot), x1.toInt = x0.toInt + 6 → jAll σ τ → jH D cI cL ad σ τ H → va_S (fun q : Nat => s.heap.size ≤ q) s.heap H locs → lv_has ls 4 [(3, .int x1), (2, .ref (ad 55)), (1, .ref (ad 0)), (0, .ref b)] → W p l e room_1 s m #[Value.ref b] below meth c H locs 90 348600 (lw_Z below #[Value.ref b] s) (F0 m 18 ls [])) : W p l e room_1 s m #[Value.ref b] below meth c H locs 90 348600 (lw_Z below #[Value.ref b] s) (F0 m 1205 ls []) := by
  obtain ⟨hx, hb, hr, hml, hown, hts0, hX, hbl, hlocks, hgv⟩ := C0
  have hts : ∀ w ∈ wsL_law, w.before #[Value.ref b] s = true := fun w h => hts0 w (wsL_law_in w h)
  have hbA : ¬ (fun q : Nat => s.heap.size ≤ q) b := Nat.not_le.mpr hbl
  have hown : s.vm.findClass RL = some m.cls := hown
  obtain ⟨hI2, hI9, hI12, hI16, hI18, hI22, hI31, hI38, hI43, hI47, hI50, hI101, hI102, hI103, hI104, hI105, hI106, hI107, hI109, hI110, hI111, hI119, hs_jKept, hs_jBook, ht0, hr0, hr1⟩ := hAll
  have hL9 : (L : Int) ≤ 384 := by omega
  obtain ⟨i1, i2, w3⟩ : (0 ≤ (σ 38 0).toInt ∧ (σ 38 0).toInt ≤ 20) ∧ (0 ≤ (σ 38 1).toInt ∧ (σ 38 1).toInt ≤ 1000) ∧ (∀ k : Nat, k < 20 → 0 ≤ (σ 39 k).toInt ∧ (σ 39 k).toInt ≤ 6) := id hI38
  obtain ⟨i4, w5, w6, w7⟩ : (0 ≤ (σ 55 32).toInt ∧ (σ 55 32).toInt ≤ 20) ∧ (∀ k : Nat, k < 20 → 0 ≤ (σ 70 k).toInt ∧ (σ 70 k).toInt ≤ 6) ∧ (∀ k : Nat, k < 20 → 0 ≤ (σ 71 k).toInt ∧ (σ 71 k).toInt ≤ 8) ∧ (∀ k : Nat, k < 160 → 0 ≤ (σ 72 k).toInt ∧ (σ 72 k).toInt ≤ 3) := id hI106
  refine lv_aload_n hx hb dL_law_1205 rfl (lv_at hl 2 rfl) ?_
  refine lv_aload_n hx hb dL_law_1206 rfl (lv_at hl 3 rfl) ?_
  refine lv_iload_n hx hb dL_law_1207 rfl (lv_at hl 0 rfl) ?_
  refine lv_iconst (v := 1) hx hb dL_law_1208 (by decide) ?_
  have g8 := jrg (rfl : x0.toInt = x0.toInt)
  refine lv_iadd hx hb dL_law_1209 ?_
  refine lv_topi (fun x9 ex9 => ?_)
  have tx9 : x9.toInt = x0.toInt + 1 := (jadd ex9 rfl jz_1 (by omega) (by omega)).trans (by omega)
  refine va_sld hx hb hX hbl hbA hS (jin tx9 (by omega) (by omega)) dL_law_1210 ?_
  have g10 := jrg (rfl : (xs x9.toNatClampNeg).toInt = (xs x9.toNatClampNeg).toInt)
  refine lv_aload_n hx hb dL_law_1211 rfl (lv_at hl 3 rfl) ?_
  refine lv_iload_n hx hb dL_law_1212 rfl (lv_at hl 0 rfl) ?_
  refine lv_iconst (v := 2) hx hb dL_law_1213 (by decide) ?_
  refine lv_iadd hx hb dL_law_1214 ?_
  refine lv_topi (fun x11 ex11 => ?_)
  have tx11 : x11.toInt = x0.toInt + 2 := (jadd ex11 rfl jz_2 (by omega) (by omega)).trans (by omega)
  refine va_sld hx hb hX hbl hbA hS (jin tx11 (by omega) (by omega)) dL_law_1215 ?_
  have g12 := jrg (rfl : (xs x11.toNatClampNeg).toInt = (xs x11.toNatClampNeg).toInt)
  refine jcallVl (As := [.int (xs x9.toNatClampNeg), .int (xs x11.toNatClampNeg)]) (rest := []) ⟨hx, hb, hml, hown, hts⟩ hK hP hA hS hZ (c_X11_element l D cI cL ad zz hJ σ τ (xs x9.toNatClampNeg) ((xs x9.toNatClampNeg).toInt) rfl (xs x11.toNatClampNeg) ((xs x11.toNatClampNeg).toInt) rfl hI50) cw_RL_152 (jc_0 cI cL ad σ τ) rfl ⟨Nat.le_of_ble_eq_true rfl, Nat.le_of_ble_eq_true rfl⟩ rfl rfl rfl hl.1 rfl (Nat.le_of_ble_eq_true rfl) dL_law_1216 ⟨Nat.le_of_ble_eq_true rfl, Nat.le_of_ble_eq_true rfl⟩ (fun lxr14 σ13 τ13 H locs h13 hP hS => ?_)
  obtain ⟨⟨rfl, rfl⟩, w15, h13⟩ := h13
  refine lv_pop2_2 hx hb dL_law_1219 rfl ?_
  refine lv_aload_n hx hb dL_law_1220 rfl (lv_at hl 1 rfl) ?_
  refine lv_aload_n hx hb dL_law_1221 rfl (lv_at hl 3 rfl) ?_
  refine lv_iload_n hx hb dL_law_1222 rfl (lv_at hl 0 rfl) ?_
  refine lv_iconst (v := 1) hx hb dL_law_1223 (by decide) ?_
  refine lv_iadd hx hb dL_law_1224 ?_
  refine jtopr ex9.symm ?_
  refine va_sld hx hb hX hbl hbA hS (jin tx9 (by omega) (by omega)) dL_law_1225 ?_
  refine lv_aload_n hx hb dL_law_1226 rfl (lv_at hl 3 rfl) ?_
  refine lv_iload_n hx hb dL_law_1227 rfl (lv_at hl 0 rfl) ?_
  refine lv_iconst (v := 2) hx hb dL_law_1228 (by decide) ?_
  refine lv_iadd hx hb dL_law_1229 ?_
  refine jtopr ex11.symm ?_
  refine va_sld hx hb hX hbl hbA hS (jin tx11 (by omega) (by omega)) dL_law_1230 ?_
  refine jcallVl (As := [.int (xs x9.toNatClampNeg), .int (xs x11.toNatClampNeg)]) (rest := []) ⟨hx, hb, hml, hown, hts⟩ hK hP hA hS hZ (c_X12_element l D cI cL ad zz hJ σ τ (xs x9.toNatClampNeg) ((xs x9.toNatClampNeg).toInt) rfl (xs x11.toNatClampNeg) ((xs x11.toNatClampNeg).toInt) rfl hI110) cw_RL_156 (jc_55 cI cL ad σ τ) rfl ⟨Nat.le_of_ble_eq_true rfl, Nat.le_of_ble_eq_true rfl⟩ rfl rfl rfl hl.1 rfl (Nat.le_of_ble_eq_true rfl) dL_law_1231 ⟨Nat.le_of_ble_eq_true rfl, Nat.le_of_ble_eq_true rfl⟩ (fun lxr17 σ16 τ16 H locs h16 hP hS => ?_)
  obtain ⟨⟨rfl, rfl⟩, w18, h16⟩ := h16
  refine lv_pop2_2 hx hb dL_law_1234 rfl ?_
  refine lv_goto (tgt := 1357) hx hb dL_law_1235 (by decide) ?_
  obtain ⟨x19, ex19⟩ : ∃ y : Int32, y = x0 + 6 := ⟨_, rfl⟩
  have tx19 : x19.toInt = x0.toInt + 6 := (jadd ex19 rfl jz_6 (by omega) (by omega)).trans (by omega)
  refine lv_iinc (v := x19) (lv' := [(3, .int x19), (2, .ref (ad 55)), (1, .ref (ad 0)), (0, .ref b)]) hx hb dL_law_1357 hl (k := 0) rfl (by rw [ex19]; rfl) (by decide) rfl (fun ls hl => ?_)
  refine lv_goto (tgt := 18) hx hb dL_law_1360 (by decide) ?_
  exact ih x19 σ τ _ _ ls (by have h9 := tx19; omega) ⟨hI2, hI9, hI12, hI16, hI18, hI22, hI31, hI38, hI43, hI47, hI50, hI101, hI102, hI103, hI104, hI105, hI106, hI107, hI109, hI110, hI111, hI119, hs_jKept, hs_jBook, (by omega), hr0, hr1⟩ hP hS (lv_sub hl [0, 1, 2, 3] rfl)
set_option maxHeartbeats 4000000 in
set_option maxRecDepth 100000 in
theorem law_case_34 {p : Program} {e : Env} {s : State} {m : MethodId} {below : List Frame} {meth : Method} {c : Code} (l : Launch) {b L : Nat} {xs : Nat → Int32} {D : va_G} {cI cL : ClassId} {ad zz : Nat → Nat} (C0 : lw_At p s m meth c b L xs) (hJ : jD ad) (hA : ∀ q, jA ad q → s.heap.size ≤ q) (hK : jK D cI cL s) (hZ : jZ zz (fun q : Nat => s.heap.size ≤ q) s s.heap) {x0 : Int32} (hx0 : 0 ≤ x0.toInt) (hxL : x0.toInt + 6 ≤ (L : Int)) (hL : L ≤ 384) {σ : Nat → Nat → Int32} {τ : Nat → Nat → Int64} {H : Heap} {locs : List Loc} (hS : va_S (fun q : Nat => s.heap.size ≤ q) s.heap H locs) {ls : Array Slot} (hAll : jAll σ τ) (hP : jH D cI cL ad σ τ H) (hl : lv_has ls 4 [(3, .int x0), (2, .ref (ad 55)), (1, .ref (ad 0)), (0, .ref b)]) (ih : ∀ (x1 : Int32) (σ : Nat → Nat → Int32) (τ : Nat → Nat → Int64) (H : Heap) (locs : List Loc) (ls : Array Slot), x1.toInt = x0.toInt + 6 → jAll σ τ → jH D cI cL ad σ τ H → va_S (fun q : Nat => s.heap.size ≤ q) s.heap H locs → lv_has ls 4 [(3, .int x1), (2, .ref (ad 55)), (1, .ref (ad 0)), (0, .ref b)] → W p l e room_1 s m #[Value.ref b] below meth c H locs 90 348600 (lw_Z below #[Value.ref b] s) (F0 m 18 ls [])) : W p l e room_1 s m #[Value.ref b] below meth c H locs 90 348600 (lw_Z below #[Value.ref b] s) (F0 m 1238 ls []) := by
  obtain ⟨hx, hb, hr, hml, hown, hts0, hX, hbl, hlocks, hgv⟩ := C0
  have hts : ∀ w ∈ wsL_law, w.before #[Value.ref b] s = true := fun w h => hts0 w (wsL_law_in w h)
  have hbA : ¬ (fun q : Nat => s.heap.size ≤ q) b := Nat.not_le.mpr hbl
  have hown : s.vm.findClass RL = some m.cls := hown
  obtain ⟨hI2, hI9, hI12, hI16, hI18, hI22, hI31, hI38, hI43, hI47, hI50, hI101, hI102, hI103, hI104, hI105, hI106, hI107, hI109, hI110, hI111, hI119, hs_jKept, hs_jBook, ht0, hr0, hr1⟩ := hAll
  have hL9 : (L : Int) ≤ 384 := by omega
  obtain ⟨i1, i2, w3⟩ : (0 ≤ (σ 38 0).toInt ∧ (σ 38 0).toInt ≤ 20) ∧ (0 ≤ (σ 38 1).toInt ∧ (σ 38 1).toInt ≤ 1000) ∧ (∀ k : Nat, k < 20 → 0 ≤ (σ 39 k).toInt ∧ (σ 39 k).toInt ≤ 6) := id hI38
  obtain ⟨i4, w5, w6, w7⟩ : (0 ≤ (σ 55 32).toInt ∧ (σ 55 32).toInt ≤ 20) ∧ (∀ k : Nat, k < 20 → 0 ≤ (σ 70 k).toInt ∧ (σ 70 k).toInt ≤ 6) ∧ (∀ k : Nat, k < 20 → 0 ≤ (σ 71 k).toInt ∧ (σ 71 k).toInt ≤ 8) ∧ (∀ k : Nat, k < 160 → 0 ≤ (σ 72 k).toInt ∧ (σ 72 k).toInt ≤ 3) := id hI106
  refine lv_aload_n hx hb dL_law_1238 rfl (lv_at hl 2 rfl) ?_
  refine lv_aload_n hx hb dL_law_1239 rfl (lv_at hl 3 rfl) ?_
  refine lv_iload_n hx hb dL_law_1240 rfl (lv_at hl 0 rfl) ?_
  refine lv_iconst (v := 1) hx hb dL_law_1241 (by decide) ?_
  have g8 := jrg (rfl : x0.toInt = x0.toInt)
  refine lv_iadd hx hb dL_law_1242 ?_
  refine lv_topi (fun x9 ex9 => ?_)
  have tx9 : x9.toInt = x0.toInt + 1 := (jadd ex9 rfl jz_1 (by omega) (by omega)).trans (by omega)
  refine va_sld hx hb hX hbl hbA hS (jin tx9 (by omega) (by omega)) dL_law_1243 ?_
  have g10 := jrg (rfl : (xs x9.toNatClampNeg).toInt = (xs x9.toNatClampNeg).toInt)
  refine lv_aload_n hx hb dL_law_1244 rfl (lv_at hl 3 rfl) ?_
  refine lv_iload_n hx hb dL_law_1245 rfl (lv_at hl 0 rfl) ?_
  refine lv_iconst (v := 2) hx hb dL_law_1246 (by decide) ?_
  refine lv_iadd hx hb dL_law_1247 ?_
  refine lv_topi (fun x11 ex11 => ?_)
  have tx11 : x11.toInt = x0.toInt + 2 := (jadd ex11 rfl jz_2 (by omega) (by omega)).trans (by omega)
  refine va_sld hx hb hX hbl hbA hS (jin tx11 (by omega) (by omega)) dL_law_1248 ?_
  have g12 := jrg (rfl : (xs x11.toNatClampNeg).toInt = (xs x11.toNatClampNeg).toInt)
  refine lv_aload_n hx hb dL_law_1249 rfl (lv_at hl 3 rfl) ?_
  refine lv_iload_n hx hb dL_law_1250 rfl (lv_at hl 0 rfl) ?_
  refine lv_iconst (v := 3) hx hb dL_law_1251 (by decide) ?_
  refine lv_iadd hx hb dL_law_1252 ?_
  refine lv_topi (fun x13 ex13 => ?_)
  have tx13 : x13.toInt = x0.toInt + 3 := (jadd ex13 rfl jz_3 (by omega) (by omega)).trans (by omega)
  refine va_sld hx hb hX hbl hbA hS (jin tx13 (by omega) (by omega)) dL_law_1253 ?_
  have g14 := jrg (rfl : (xs x13.toNatClampNeg).toInt = (xs x13.toNatClampNeg).toInt)
  refine lv_aload_n hx hb dL_law_1254 rfl (lv_at hl 3 rfl) ?_
  refine lv_iload_n hx hb dL_law_1255 rfl (lv_at hl 0 rfl) ?_
  refine lv_iconst (v := 4) hx hb dL_law_1256 (by decide) ?_
  refine lv_iadd hx hb dL_law_1257 ?_
  refine lv_topi (fun x15 ex15 => ?_)
  have tx15 : x15.toInt = x0.toInt + 4 := (jadd ex15 rfl jz_4 (by omega) (by omega)).trans (by omega)
  refine va_sld hx hb hX hbl hbA hS (jin tx15 (by omega) (by omega)) dL_law_1258 ?_
  have g16 := jrg (rfl : (xs x15.toNatClampNeg).toInt = (xs x15.toNatClampNeg).toInt)
  refine lv_aload_n hx hb dL_law_1259 rfl (lv_at hl 3 rfl) ?_
  refine lv_iload_n hx hb dL_law_1260 rfl (lv_at hl 0 rfl) ?_
  refine lv_iconst (v := 5) hx hb dL_law_1261 (by decide) ?_
  refine lv_iadd hx hb dL_law_1262 ?_
  refine lv_topi (fun x17 ex17 => ?_)
  have tx17 : x17.toInt = x0.toInt + 5 := (jadd ex17 rfl jz_5 (by omega) (by omega)).trans (by omega)
  refine va_sld hx hb hX hbl hbA hS (jin tx17 (by omega) (by omega)) dL_law_1263 ?_
  have g18 := jrg (rfl : (xs x17.toNatClampNeg).toInt = (xs x17.toNatClampNeg).toInt)
  refine jcallV (As := [.int (xs x9.toNatClampNeg), .int (xs x11.toNatClampNeg), .int (xs x13.toNatClampNeg), .int (xs x15.toNatClampNeg), .int (xs x17.toNatClampNeg)]) (rest := []) ⟨hx, hb, hml, hown, hts⟩ hK hP hA hS hZ (c_X11_shift l D cI cL ad zz hJ σ τ (xs x9.toNatClampNeg) ((xs x9.toNatClampNeg).toInt) rfl (xs x11.toNatClampNeg) ((xs x11.toNatClampNeg).toInt) rfl (xs x13.toNatClampNeg) ((xs x13.toNatClampNeg).toInt) rfl (xs x15.toNatClampNeg) ((xs x15.toNatClampNeg).toInt) rfl (xs x17.toNatClampNeg) ((xs x17.toNatClampNeg).toInt) rfl hI50) cw_RL_157 (jc_0 cI cL ad σ τ) rfl ⟨Nat.le_of_ble_eq_true rfl, Nat.le_of_ble_eq_true rfl⟩ rfl rfl rfl hl.1 rfl (Nat.le_of_ble_eq_true rfl) dL_law_1264 ⟨Nat.le_of_ble_eq_true rfl, Nat.le_of_ble_eq_true rfl⟩ (fun r20 σ19 τ19 H locs h19 hP hS => ?_)
  obtain ⟨f24, f21, w22, w23, h19⟩ := h19
  refine lv_pop hx hb dL_law_1267 rfl ?_
  refine lv_aload_n hx hb dL_law_1268 rfl (lv_at hl 1 rfl) ?_
  refine lv_aload_n hx hb dL_law_1269 rfl (lv_at hl 3 rfl) ?_
  refine lv_iload_n hx hb dL_law_1270 rfl (lv_at hl 0 rfl) ?_
  refine lv_iconst (v := 1) hx hb dL_law_1271 (by decide) ?_
  refine lv_iadd hx hb dL_law_1272 ?_
  refine jtopr ex9.symm ?_
  refine va_sld hx hb hX hbl hbA hS (jin tx9 (by omega) (by omega)) dL_law_1273 ?_
  refine lv_aload_n hx hb dL_law_1274 rfl (lv_at hl 3 rfl) ?_
  refine lv_iload_n hx hb dL_law_1275 rfl (lv_at hl 0 rfl) ?_
  refine lv_iconst (v := 2) hx hb dL_law_1276 (by decide) ?_
  refine lv_iadd hx hb dL_law_1277 ?_
  refine jtopr ex11.symm ?_
  refine va_sld hx hb hX hbl hbA hS (jin tx11 (by omega) (by omega)) dL_law_1278 ?_
  refine lv_aload_n hx hb dL_law_1279 rfl (lv_at hl 3 rfl) ?_
  refine lv_iload_n hx hb dL_law_1280 rfl (lv_at hl 0 rfl) ?_
  refine lv_iconst (v := 3) hx hb dL_law_1281 (by decide) ?_
  refine lv_iadd hx hb dL_law_1282 ?_
  refine jtopr ex13.symm ?_
  refine va_sld hx hb hX hbl hbA hS (jin tx13 (by omega) (by omega)) dL_law_1283 ?_
  refine lv_aload_n hx hb dL_law_1284 rfl (lv_at hl 3 rfl) ?_
  refine lv_iload_n hx hb dL_law_1285 rfl (lv_at hl 0 rfl) ?_
  refine lv_iconst (v := 4) hx hb dL_law_1286 (by decide) ?_
  refine lv_iadd hx hb dL_law_1287 ?_
  refine jtopr ex15.symm ?_
  refine va_sld hx hb hX hbl hbA hS (jin tx15 (by omega) (by omega)) dL_law_1288 ?_
  refine lv_aload_n hx hb dL_law_1289 rfl (lv_at hl 3 rfl) ?_
  refine lv_iload_n hx hb dL_law_1290 rfl (lv_at hl 0 rfl) ?_
  refine lv_iconst (v := 5) hx hb dL_law_1291 (by decide) ?_
  refine lv_iadd hx hb dL_law_1292 ?_
  refine jtopr ex17.symm ?_
  refine va_sld hx hb hX hbl hbA hS (jin tx17 (by omega) (by omega)) dL_law_1293 ?_
  have I25 : jI110 σ19 := jI110_fr (f21 86 (by decide)) (f21 87 (by decide)) hI110
  refine jcallV (As := [.int (xs x9.toNatClampNeg), .int (xs x11.toNatClampNeg), .int (xs x13.toNatClampNeg), .int (xs x15.toNatClampNeg), .int (xs x17.toNatClampNeg)]) (rest := []) ⟨hx, hb, hml, hown, hts⟩ hK hP hA hS hZ (c_X12_shift l D cI cL ad zz hJ σ19 τ19 (xs x9.toNatClampNeg) ((xs x9.toNatClampNeg).toInt) rfl (xs x11.toNatClampNeg) ((xs x11.toNatClampNeg).toInt) rfl (xs x13.toNatClampNeg) ((xs x13.toNatClampNeg).toInt) rfl (xs x15.toNatClampNeg) ((xs x15.toNatClampNeg).toInt) rfl (xs x17.toNatClampNeg) ((xs x17.toNatClampNeg).toInt) rfl I25) cw_RL_161 (jc_55 cI cL ad σ19 τ19) rfl ⟨Nat.le_of_ble_eq_true rfl, Nat.le_of_ble_eq_true rfl⟩ rfl rfl rfl hl.1 rfl (Nat.le_of_ble_eq_true rfl) dL_law_1294 ⟨Nat.le_of_ble_eq_true rfl, Nat.le_of_ble_eq_true rfl⟩ (fun r27 σ26 τ26 H locs h26 hP hS => ?_)
  obtain ⟨f31, f28, w29, w30, h26⟩ := h26
  refine lv_pop hx hb dL_law_1297 rfl ?_
  refine lv_goto (tgt := 1357) hx hb dL_law_1298 (by decide) ?_
  obtain ⟨x32, ex32⟩ : ∃ y : Int32, y = x0 + 6 := ⟨_, rfl⟩
  have tx32 : x32.toInt = x0.toInt + 6 := (jadd ex32 rfl jz_6 (by omega) (by omega)).trans (by omega)
  refine lv_iinc (v := x32) (lv' := [(3, .int x32), (2, .ref (ad 55)), (1, .ref (ad 0)), (0, .ref b)]) hx hb dL_law_1357 hl (k := 0) rfl (by rw [ex32]; rfl) (by decide) rfl (fun ls hl => ?_)
  refine lv_goto (tgt := 18) hx hb dL_law_1360 (by decide) ?_
  have I33 : jI2 σ26 := jI2_fr ((congrFun (f28 2 (by decide)) 0).trans (congrFun (f21 2 (by decide)) 0)) ((congrFun (f28 2 (by decide)) 1).trans (congrFun (f21 2 (by decide)) 1)) ((congrFun (f28 2 (by decide)) 2).trans (congrFun (f21 2 (by decide)) 2)) ((congrFun (f28 2 (by decide)) 3).trans (congrFun (f21 2 (by decide)) 3)) ((f28 6 (by decide)).trans (f21 6 (by decide))) hI2
  have I34 : jI9 σ26 := jI9_fr ((congrFun (f28 9 (by decide)) 0).trans (congrFun (f21 9 (by decide)) 0)) ((f28 10 (by decide)).trans (f21 10 (by decide))) ((f28 11 (by decide)).trans (f21 11 (by decide))) hI9
  have I35 : jI12 σ26 := jI12_fr ((congrFun (f28 12 (by decide)) 0).trans (congrFun (f21 12 (by decide)) 0)) ((f28 13 (by decide)).trans (f21 13 (by decide))) hI12
  have I36 : jI16 σ26 := jI16_fr ((congrFun (f28 16 (by decide)) 0).trans (congrFun (f21 16 (by decide)) 0)) ((congrFun (f28 16 (by decide)) 1).trans (congrFun (f21 16 (by decide)) 1)) ((congrFun (f28 16 (by decide)) 2).trans (congrFun (f21 16 (by decide)) 2)) ((f28 17 (by decide)).trans (f21 17 (by decide))) hI16
  have I37 : jI18 σ26 := jI18_fr ((congrFun (f28 18 (by decide)) 0).trans (congrFun (f21 18 (by decide)) 0)) ((f28 19 (by decide)).trans (f21 19 (by decide))) hI18
  have I38 : jI22 σ26 := jI22_fr ((congrFun (f28 22 (by decide)) 0).trans (congrFun (f21 22 (by decide)) 0)) ((f28 23 (by decide)).trans (f21 23 (by decide))) hI22
  have I39 : jI31 σ26 := jI31_fr ((congrFun (f28 31 (by decide)) 8).trans (congrFun (f21 31 (by decide)) 8)) ((f28 33 (by decide)).trans (f21 33 (by decide))) ((f28 36 (by decide)).trans (f21 36 (by decide))) hI31
  have I40 : jI38 σ26 := jI38_fr ((congrFun (f28 38 (by decide)) 0).trans (congrFun (f21 38 (by decide)) 0)) ((congrFun (f28 38 (by decide)) 1).trans (congrFun (f21 38 (by decide)) 1)) ((f28 39 (by decide)).trans (f21 39 (by decide))) hI38
  have I41 : jI43 σ26 := jI43_fr ((congrFun (f28 43 (by decide)) 8).trans (congrFun (f21 43 (by decide)) 8)) hI43
  have I42 : jI47 σ26 := jI47_fr ((congrFun (f28 47 (by decide)) 0).trans (congrFun (f21 47 (by decide)) 0)) ((f28 48 (by decide)).trans (f21 48 (by decide))) ((f28 49 (by decide)).trans (f21 49 (by decide))) hI47
  have I43 : jI50 σ26 := jI50_fr ((f28 52 (by decide)).trans (f21 52 (by decide))) hI50
  have I44 : jI101 σ26 := jI101_fr ((congrFun (f28 55 (by decide)) 4).trans (congrFun (f21 55 (by decide)) 4)) ((congrFun (f28 55 (by decide)) 5).trans (congrFun (f21 55 (by decide)) 5)) ((f28 56 (by decide)).trans (f21 56 (by decide))) ((f28 57 (by decide)).trans (f21 57 (by decide))) ((f28 58 (by decide)).trans (f21 58 (by decide))) ((f28 59 (by decide)).trans (f21 59 (by decide))) hI101
  have I45 : jI102 σ26 := jI102_fr ((congrFun (f28 55 (by decide)) 6).trans (congrFun (f21 55 (by decide)) 6)) ((f28 60 (by decide)).trans (f21 60 (by decide))) ((f28 61 (by decide)).trans (f21 61 (by decide))) hI102
  have I46 : jI103 σ26 := jI103_fr ((congrFun (f28 55 (by decide)) 9).trans (congrFun (f21 55 (by decide)) 9)) hI103
  have I47 : jI104 σ26 := jI104_fr ((congrFun (f28 55 (by decide)) 10).trans (congrFun (f21 55 (by decide)) 10)) ((congrFun (f28 55 (by decide)) 12).trans (congrFun (f21 55 (by decide)) 12)) ((congrFun (f28 55 (by decide)) 13).trans (congrFun (f21 55 (by decide)) 13)) ((f28 62 (by decide)).trans (f21 62 (by decide))) ((f28 67 (by decide)).trans (f21 67 (by decide))) hI104
  have I48 : jI105 σ26 := jI105_fr ((congrFun (f28 55 (by decide)) 15).trans (congrFun (f21 55 (by decide)) 15)) ((f28 65 (by decide)).trans (f21 65 (by decide))) hI105
  have I49 : jI106 σ26 := jI106_fr ((congrFun (f28 55 (by decide)) 32).trans (congrFun (f21 55 (by decide)) 32)) ((f28 70 (by decide)).trans (f21 70 (by decide))) ((f28 71 (by decide)).trans (f21 71 (by decide))) ((f28 72 (by decide)).trans (f21 72 (by decide))) hI106
  have I50 : jI107 σ26 := jI107_fr ((congrFun (f28 55 (by decide)) 12).trans (congrFun (f21 55 (by decide)) 12)) ((congrFun (f28 55 (by decide)) 47).trans (congrFun (f21 55 (by decide)) 47)) ((f28 80 (by decide)).trans (f21 80 (by decide))) hI107
  have I51 : jI109 σ26 := jI109_fr ((congrFun (f28 55 (by decide)) 50).trans (congrFun (f21 55 (by decide)) 50)) hI109
  have I52 : jI110 σ26 := jI110_fr (f28 86 (by decide)) (f28 87 (by decide)) I25
  have I53 : jI111 σ26 := jI111_fr ((f28 79 (by decide)).trans (f21 79 (by decide))) hI111
  have I54 : jI119 σ26 := jI119_fr ((f28 68 (by decide)).trans (f21 68 (by decide))) hI119
  have p55 : jKept σ26 := jKept.fr ((f28 75 (by decide)).trans (f21 75 (by decide))) ((f28 76 (by decide)).trans (f21 76 (by decide))) ((f28 77 (by decide)).trans (f21 77 (by decide))) hs_jKept
  have p56 : jBook σ26 := jBook.fr ((congrFun (f28 55 (by decide)) 47).trans (congrFun (f21 55 (by decide)) 47)) ((congrFun (f28 55 (by decide)) 10).trans (congrFun (f21 55 (by decide)) 10)) ((f28 81 (by decide)).trans (f21 81 (by decide))) hs_jBook
  have z57 : (σ26 38 0).toInt = (σ 38 0).toInt := (congrArg Int32.toInt (show σ26 38 0 = (σ 38 0) from ((congrFun (f28 38 (by decide)) 0).trans (congrFun (f21 38 (by decide)) 0))))
  have z58 : (σ26 55 32).toInt = (σ 55 32).toInt := (congrArg Int32.toInt (show σ26 55 32 = (σ 55 32) from ((congrFun (f28 55 (by decide)) 32).trans (congrFun (f21 55 (by decide)) 32))))
  exact ih x32 σ26 τ26 _ _ ls (by have h9 := tx32; omega) ⟨I33, I34, I35, I36, I37, I38, I39, I40, I41, I42, I43, I44, I45, I46, I47, I48, I49, I50, I51, I52, I53, I54, p55, p56, (by omega), (show jShP (σ26 51) (σ26 52) (σ26 53) (σ26 86) (σ26 87) (σ26 55 32).toInt by rw [show σ26 51 = σ 51 from ((f28 51 (by decide)).trans (f21 51 (by decide))), show σ26 52 = σ 52 from ((f28 52 (by decide)).trans (f21 52 (by decide))), show σ26 53 = σ 53 from ((f28 53 (by decide)).trans (f21 53 (by decide))), show σ26 86 = σ 86 from ((f28 86 (by decide)).trans (f21 86 (by decide))), show σ26 87 = σ 87 from ((f28 87 (by decide)).trans (f21 87 (by decide)))]; exact (hr0.up (by omega) (by omega))), (show jKd (σ26 39) (σ26 70) (σ26 55 32).toInt by rw [show σ26 39 = σ 39 from ((f28 39 (by decide)).trans (f21 39 (by decide))), show σ26 70 = σ 70 from ((f28 70 (by decide)).trans (f21 70 (by decide))), show (σ26 55 32).toInt = (σ 55 32).toInt from by omega]; exact hr1)⟩ hP hS (lv_sub hl [0, 1, 2, 3] rfl)
set_option maxHeartbeats 4000000 in
set_option maxRecDepth 100000 in
theorem law_case_35 {p : Program} {e : Env} {s : State} {m : MethodId} {below : List Frame} {meth : Method} {c : Code} (l : Launch) {b L : Nat} {xs : Nat → Int32} {D : va_G} {cI cL : ClassId} {ad zz : Nat → Nat} (C0 : lw_At p s m meth c b L xs) (hJ : jD ad) (hA : ∀ q, jA ad q → s.heap.size ≤ q) (hK : jK D cI cL s) (hZ : jZ zz (fun q : Nat => s.heap.size ≤ q) s s.heap) {x0 : Int32} (hx0 : 0 ≤ x0.toInt) (hxL : x0.toInt + 6 ≤ (L : Int)) (hL : L ≤ 384) {σ : Nat → Nat → Int32} {τ : Nat → Nat → Int64} {H : Heap} {locs : List Loc} (hS : va_S (fun q : Nat => s.heap.size ≤ q) s.heap H locs) {ls : Array Slot} (hAll : jAll σ τ) (hP : jH D cI cL ad σ τ H) (hl : lv_has ls 4 [(3, .int x0), (2, .ref (ad 55)), (1, .ref (ad 0)), (0, .ref b)]) (ih : ∀ (x1 : Int32) (σ : Nat → Nat → Int32) (τ : Nat → Nat → Int64) (H : Heap) (locs : List Loc) (ls : Array Slot), x1.toInt = x0.toInt + 6 → jAll σ τ → jH D cI cL ad σ τ H → va_S (fun q : Nat => s.heap.size ≤ q) s.heap H locs → lv_has ls 4 [(3, .int x1), (2, .ref (ad 55)), (1, .ref (ad 0)), (0, .ref b)] → W p l e room_1 s m #[Value.ref b] below meth c H locs 90 348600 (lw_Z below #[Value.ref b] s) (F0 m 18 ls [])) : W p l e room_1 s m #[Value.ref b] below meth c H locs 90 348600 (lw_Z below #[Value.ref b] s) (F0 m 1301 ls []) := by
  obtain ⟨hx, hb, hr, hml, hown, hts0, hX, hbl, hlocks, hgv⟩ := C0
  have hts : ∀ w ∈ wsL_law, w.before #[Value.ref b] s = true := fun w h => hts0 w (wsL_law_in w h)
  have hbA : ¬ (fun q : Nat => s.heap.size ≤ q) b := Nat.not_le.mpr hbl
  have hown : s.vm.findClass RL = some m.cls := hown
  obtain ⟨hI2, hI9, hI12, hI16, hI18, hI22, hI31, hI38, hI43, hI47, hI50, hI101, hI102, hI103, hI104, hI105, hI106, hI107, hI109, hI110, hI111, hI119, hs_jKept, hs_jBook, ht0, hr0, hr1⟩ := hAll
  have hL9 : (L : Int) ≤ 384 := by omega
  obtain ⟨i1, i2, w3⟩ : (0 ≤ (σ 38 0).toInt ∧ (σ 38 0).toInt ≤ 20) ∧ (0 ≤ (σ 38 1).toInt ∧ (σ 38 1).toInt ≤ 1000) ∧ (∀ k : Nat, k < 20 → 0 ≤ (σ 39 k).toInt ∧ (σ 39 k).toInt ≤ 6) := id hI38
  obtain ⟨i4, w5, w6, w7⟩ : (0 ≤ (σ 55 32).toInt ∧ (σ 55 32).toInt ≤ 20) ∧ (∀ k : Nat, k < 20 → 0 ≤ (σ 70 k).toInt ∧ (σ 70 k).toInt ≤ 6) ∧ (∀ k : Nat, k < 20 → 0 ≤ (σ 71 k).toInt ∧ (σ 71 k).toInt ≤ 8) ∧ (∀ k : Nat, k < 160 → 0 ≤ (σ 72 k).toInt ∧ (σ 72 k).toInt ≤ 3) := id hI106
  refine lv_aload_n hx hb dL_law_1301 rfl (lv_at hl 2 rfl) ?_
  refine lv_aload_n hx hb dL_law_1302 rfl (lv_at hl 3 rfl) ?_
  refine lv_iload_n hx hb dL_law_1303 rfl (lv_at hl 0 rfl) ?_
  refine lv_iconst (v := 1) hx hb dL_law_1304 (by decide) ?_
  have g8 := jrg (rfl : x0.toInt = x0.toInt)
  refine lv_iadd hx hb dL_law_1305 ?_
  refine lv_topi (fun x9 ex9 => ?_)
  have tx9 : x9.toInt = x0.toInt + 1 := (jadd ex9 rfl jz_1 (by omega) (by omega)).trans (by omega)
  refine va_sld hx hb hX hbl hbA hS (jin tx9 (by omega) (by omega)) dL_law_1306 ?_
  have g10 := jrg (rfl : (xs x9.toNatClampNeg).toInt = (xs x9.toNatClampNeg).toInt)
  refine lv_aload_n hx hb dL_law_1307 rfl (lv_at hl 3 rfl) ?_
  refine lv_iload_n hx hb dL_law_1308 rfl (lv_at hl 0 rfl) ?_
  refine lv_iconst (v := 2) hx hb dL_law_1309 (by decide) ?_
  refine lv_iadd hx hb dL_law_1310 ?_
  refine lv_topi (fun x11 ex11 => ?_)
  have tx11 : x11.toInt = x0.toInt + 2 := (jadd ex11 rfl jz_2 (by omega) (by omega)).trans (by omega)
  refine va_sld hx hb hX hbl hbA hS (jin tx11 (by omega) (by omega)) dL_law_1311 ?_
  have g12 := jrg (rfl : (xs x11.toNatClampNeg).toInt = (xs x11.toNatClampNeg).toInt)
  refine jcallV (As := [.int (xs x9.toNatClampNeg), .int (xs x11.toNatClampNeg)]) (rest := []) ⟨hx, hb, hml, hown, hts⟩ hK hP hA hS hZ (c_X11_taken l D cI cL ad zz hJ σ τ (xs x9.toNatClampNeg) ((xs x9.toNatClampNeg).toInt) rfl (xs x11.toNatClampNeg) ((xs x11.toNatClampNeg).toInt) rfl hI38) cw_RL_162 (jc_0 cI cL ad σ τ) rfl ⟨Nat.le_of_ble_eq_true rfl, Nat.le_of_ble_eq_true rfl⟩ rfl rfl rfl hl.1 rfl (Nat.le_of_ble_eq_true rfl) dL_law_1312 ⟨Nat.le_of_ble_eq_true rfl, Nat.le_of_ble_eq_true rfl⟩ (fun r14 σ13 τ13 H locs h13 hP hS => ?_)
  obtain ⟨⟨rfl, rfl⟩, w15, h13⟩ := h13
  refine lv_aload_n hx hb dL_law_1315 rfl (lv_at hl 1 rfl) ?_
  refine lv_aload_n hx hb dL_law_1316 rfl (lv_at hl 3 rfl) ?_
  refine lv_iload_n hx hb dL_law_1317 rfl (lv_at hl 0 rfl) ?_
  refine lv_iconst (v := 1) hx hb dL_law_1318 (by decide) ?_
  refine lv_iadd hx hb dL_law_1319 ?_
  refine jtopr ex9.symm ?_
  refine va_sld hx hb hX hbl hbA hS (jin tx9 (by omega) (by omega)) dL_law_1320 ?_
  refine lv_aload_n hx hb dL_law_1321 rfl (lv_at hl 3 rfl) ?_
  refine lv_iload_n hx hb dL_law_1322 rfl (lv_at hl 0 rfl) ?_
  refine lv_iconst (v := 2) hx hb dL_law_1323 (by decide) ?_
  refine lv_iadd hx hb dL_law_1324 ?_
  refine jtopr ex11.symm ?_
  refine va_sld hx hb hX hbl hbA hS (jin tx11 (by omega) (by omega)) dL_law_1325 ?_
  refine jcallV (As := [.int (xs x9.toNatClampNeg), .int (xs x11.toNatClampNeg)]) (rest := [.int r14]) ⟨hx, hb, hml, hown, hts⟩ hK hP hA hS hZ (c_X12_taken l D cI cL ad zz hJ σ τ (xs x9.toNatClampNeg) ((xs x9.toNatClampNeg).toInt) rfl (xs x11.toNatClampNeg) ((xs x11.toNatClampNeg).toInt) rfl hI106 hI110) cw_RL_165 (jc_55 cI cL ad σ τ) rfl ⟨Nat.le_of_ble_eq_true rfl, Nat.le_of_ble_eq_true rfl⟩ rfl rfl rfl hl.1 rfl (Nat.le_of_ble_eq_true rfl) dL_law_1326 ⟨Nat.le_of_ble_eq_true rfl, Nat.le_of_ble_eq_true rfl⟩ (fun r17 σ16 τ16 H locs h16 hP hS => ?_)
  obtain ⟨⟨rfl, rfl⟩, w18, h16⟩ := h16
  rw [show (σ 38 0).toInt = (σ 55 32).toInt from by omega] at w15
  refine lv_icmp_eq (tgt := 1357) hx hb dL_law_1329 (by decide) (fun _ => ?_) (fun c => absurd (Int32.toInt_inj.mp (w15.trans ((hr0.tk hr1).trans w18.symm))) c)
  obtain ⟨x19, ex19⟩ : ∃ y : Int32, y = x0 + 6 := ⟨_, rfl⟩
  have tx19 : x19.toInt = x0.toInt + 6 := (jadd ex19 rfl jz_6 (by omega) (by omega)).trans (by omega)
  refine lv_iinc (v := x19) (lv' := [(3, .int x19), (2, .ref (ad 55)), (1, .ref (ad 0)), (0, .ref b)]) hx hb dL_law_1357 hl (k := 0) rfl (by rw [ex19]; rfl) (by decide) rfl (fun ls hl => ?_)
  refine lv_goto (tgt := 18) hx hb dL_law_1360 (by decide) ?_
  exact ih x19 σ τ _ _ ls (by have h9 := tx19; omega) ⟨hI2, hI9, hI12, hI16, hI18, hI22, hI31, hI38, hI43, hI47, hI50, hI101, hI102, hI103, hI104, hI105, hI106, hI107, hI109, hI110, hI111, hI119, hs_jKept, hs_jBook, (by omega), hr0, hr1⟩ hP hS (lv_sub hl [0, 1, 2, 3] rfl)
set_option maxHeartbeats 4000000 in
set_option maxRecDepth 100000 in
theorem law_case_36 {p : Program} {e : Env} {s : State} {m : MethodId} {below : List Frame} {meth : Method} {c : Code} (l : Launch) {b L : Nat} {xs : Nat → Int32} {D : va_G} {cI cL : ClassId} {ad zz : Nat → Nat} (C0 : lw_At p s m meth c b L xs) (hJ : jD ad) (hA : ∀ q, jA ad q → s.heap.size ≤ q) (hK : jK D cI cL s) (hZ : jZ zz (fun q : Nat => s.heap.size ≤ q) s s.heap) {x0 : Int32} (hx0 : 0 ≤ x0.toInt) (hxL : x0.toInt + 6 ≤ (L : Int)) (hL : L ≤ 384) {σ : Nat → Nat → Int32} {τ : Nat → Nat → Int64} {H : Heap} {locs : List Loc} (hS : va_S (fun q : Nat => s.heap.size ≤ q) s.heap H locs) {ls : Array Slot} (hAll : jAll σ τ) (hP : jH D cI cL ad σ τ H) (hl : lv_has ls 4 [(3, .int x0), (2, .ref (ad 55)), (1, .ref (ad 0)), (0, .ref b)]) (ih : ∀ (x1 : Int32) (σ : Nat → Nat → Int32) (τ : Nat → Nat → Int64) (H : Heap) (locs : List Loc) (ls : Array Slot), x1.toInt = x0.toInt + 6 → jAll σ τ → jH D cI cL ad σ τ H → va_S (fun q : Nat => s.heap.size ≤ q) s.heap H locs → lv_has ls 4 [(3, .int x1), (2, .ref (ad 55)), (1, .ref (ad 0)), (0, .ref b)] → W p l e room_1 s m #[Value.ref b] below meth c H locs 90 348600 (lw_Z below #[Value.ref b] s) (F0 m 18 ls [])) : W p l e room_1 s m #[Value.ref b] below meth c H locs 90 348600 (lw_Z below #[Value.ref b] s) (F0 m 1334 ls []) := by
  obtain ⟨hx, hb, hr, hml, hown, hts0, hX, hbl, hlocks, hgv⟩ := C0
  have hts : ∀ w ∈ wsL_law, w.before #[Value.ref b] s = true := fun w h => hts0 w (wsL_law_in w h)
  have hbA : ¬ (fun q : Nat => s.heap.size ≤ q) b := Nat.not_le.mpr hbl
  have hown : s.vm.findClass RL = some m.cls := hown
  obtain ⟨hI2, hI9, hI12, hI16, hI18, hI22, hI31, hI38, hI43, hI47, hI50, hI101, hI102, hI103, hI104, hI105, hI106, hI107, hI109, hI110, hI111, hI119, hs_jKept, hs_jBook, ht0, hr0, hr1⟩ := hAll
  have hL9 : (L : Int) ≤ 384 := by omega
  obtain ⟨i1, i2, w3⟩ : (0 ≤ (σ 38 0).toInt ∧ (σ 38 0).toInt ≤ 20) ∧ (0 ≤ (σ 38 1).toInt ∧ (σ 38 1).toInt ≤ 1000) ∧ (∀ k : Nat, k < 20 → 0 ≤ (σ 39 k).toInt ∧ (σ 39 k).toInt ≤ 6) := id hI38
  obtain ⟨i4, w5, w6, w7⟩ : (0 ≤ (σ 55 32).toInt ∧ (σ 55 32).toInt ≤ 20) ∧ (∀ k : Nat, k < 20 → 0 ≤ (σ 70 k).toInt ∧ (σ 70 k).toInt ≤ 6) ∧ (∀ k : Nat, k < 20 → 0 ≤ (σ 71 k).toInt ∧ (σ 71 k).toInt ≤ 8) ∧ (∀ k : Nat, k < 160 → 0 ≤ (σ 72 k).toInt ∧ (σ 72 k).toInt ≤ 3) := id hI106
  refine lv_aload_n hx hb dL_law_1334 rfl (lv_at hl 2 rfl) ?_
  refine lv_aload_n hx hb dL_law_1335 rfl (lv_at hl 3 rfl) ?_
  refine lv_iload_n hx hb dL_law_1336 rfl (lv_at hl 0 rfl) ?_
  refine lv_iconst (v := 1) hx hb dL_law_1337 (by decide) ?_
  have g8 := jrg (rfl : x0.toInt = x0.toInt)
  refine lv_iadd hx hb dL_law_1338 ?_
  refine lv_topi (fun x9 ex9 => ?_)
  have tx9 : x9.toInt = x0.toInt + 1 := (jadd ex9 rfl jz_1 (by omega) (by omega)).trans (by omega)
  refine va_sld hx hb hX hbl hbA hS (jin tx9 (by omega) (by omega)) dL_law_1339 ?_
  have g10 := jrg (rfl : (xs x9.toNatClampNeg).toInt = (xs x9.toNatClampNeg).toInt)
  refine jcallV (As := [.int (xs x9.toNatClampNeg)]) (rest := []) ⟨hx, hb, hml, hown, hts⟩ hK hP hA hS hZ (c_X11_count l D cI cL ad zz hJ σ τ (xs x9.toNatClampNeg) ((xs x9.toNatClampNeg).toInt) rfl hI2 hI9 hI38 hI47) cw_RL_166 (jc_0 cI cL ad σ τ) rfl ⟨Nat.le_of_ble_eq_true rfl, Nat.le_of_ble_eq_true rfl⟩ rfl rfl rfl hl.1 rfl (Nat.le_of_ble_eq_true rfl) dL_law_1340 ⟨Nat.le_of_ble_eq_true rfl, Nat.le_of_ble_eq_true rfl⟩ (fun r12 σ11 τ11 H locs h11 hP hS => ?_)
  obtain ⟨⟨rfl, rfl⟩, h11⟩ := h11
  rcases h11 with h13 | h14 | h15 | h16 | h17 | h18 | h19
  · obtain ⟨q22, k20, k21⟩ := h13
    refine lv_pop hx hb dL_law_1343 rfl ?_
    refine lv_aload_n hx hb dL_law_1344 rfl (lv_at hl 1 rfl) ?_
    refine lv_aload_n hx hb dL_law_1345 rfl (lv_at hl 3 rfl) ?_
    refine lv_iload_n hx hb dL_law_1346 rfl (lv_at hl 0 rfl) ?_
    refine lv_iconst (v := 1) hx hb dL_law_1347 (by decide) ?_
    refine lv_iadd hx hb dL_law_1348 ?_
    refine jtopr ex9.symm ?_
    refine va_sld hx hb hX hbl hbA hS (jin tx9 (by omega) (by omega)) dL_law_1349 ?_
    refine jcallV (As := [.int (xs x9.toNatClampNeg)]) (rest := []) ⟨hx, hb, hml, hown, hts⟩ hK hP hA hS hZ (c_X12_count l D cI cL ad zz hJ σ τ (xs x9.toNatClampNeg) ((xs x9.toNatClampNeg).toInt) rfl hI101 hI102 hI105 hI106 hI107) cw_RL_169 (jc_55 cI cL ad σ τ) rfl ⟨Nat.le_of_ble_eq_true rfl, Nat.le_of_ble_eq_true rfl⟩ rfl rfl rfl hl.1 rfl (Nat.le_of_ble_eq_true rfl) dL_law_1350 ⟨Nat.le_of_ble_eq_true rfl, Nat.le_of_ble_eq_true rfl⟩ (fun r24 σ23 τ23 H locs h23 hP hS => ?_)
    obtain ⟨⟨rfl, rfl⟩, h23⟩ := h23
    rcases h23 with h25 | h26 | h27 | h28 | h29 | h30 | h31
    · obtain ⟨q34, k32, k33⟩ := h25
      refine lv_pop hx hb dL_law_1353 rfl ?_
      refine lv_goto (tgt := 1357) hx hb dL_law_1354 (by decide) ?_
      obtain ⟨x35, ex35⟩ : ∃ y : Int32, y = x0 + 6 := ⟨_, rfl⟩
      have tx35 : x35.toInt = x0.toInt + 6 := (jadd ex35 rfl jz_6 (by omega) (by omega)).trans (by omega)
      refine lv_iinc (v := x35) (lv' := [(3, .int x35), (2, .ref (ad 55)), (1, .ref (ad 0)), (0, .ref b)]) hx hb dL_law_1357 hl (k := 0) rfl (by rw [ex35]; rfl) (by decide) rfl (fun ls hl => ?_)
      refine lv_goto (tgt := 18) hx hb dL_law_1360 (by decide) ?_
      exact ih x35 σ τ _ _ ls (by have h9 := tx35; omega) ⟨hI2, hI9, hI12, hI16, hI18, hI22, hI31, hI38, hI43, hI47, hI50, hI101, hI102, hI103, hI104, hI105, hI106, hI107, hI109, hI110, hI111, hI119, hs_jKept, hs_jBook, (by omega), hr0, hr1⟩ hP hS (lv_sub hl [0, 1, 2, 3] rfl)
    · obtain ⟨q38, k36, k37⟩ := h26
      exact absurd (by omega : False) id
    · obtain ⟨q41, k39, k40⟩ := h27
      exact absurd (by omega : False) id
    · obtain ⟨q44, k42, k43⟩ := h28
      exact absurd (by omega : False) id
    · obtain ⟨q47, k45, k46⟩ := h29
      exact absurd (by omega : False) id
    · obtain ⟨q50, k48, k49⟩ := h30
      exact absurd (by omega : False) id
    · obtain ⟨q52, k51⟩ := h31
      exact absurd (by omega : False) id
  · obtain ⟨q55, k53, k54⟩ := h14
    refine lv_pop hx hb dL_law_1343 rfl ?_
    refine lv_aload_n hx hb dL_law_1344 rfl (lv_at hl 1 rfl) ?_
    refine lv_aload_n hx hb dL_law_1345 rfl (lv_at hl 3 rfl) ?_
    refine lv_iload_n hx hb dL_law_1346 rfl (lv_at hl 0 rfl) ?_
    refine lv_iconst (v := 1) hx hb dL_law_1347 (by decide) ?_
    refine lv_iadd hx hb dL_law_1348 ?_
    refine jtopr ex9.symm ?_
    refine va_sld hx hb hX hbl hbA hS (jin tx9 (by omega) (by omega)) dL_law_1349 ?_
    refine jcallV (As := [.int (xs x9.toNatClampNeg)]) (rest := []) ⟨hx, hb, hml, hown, hts⟩ hK hP hA hS hZ (c_X12_count l D cI cL ad zz hJ σ τ (xs x9.toNatClampNeg) ((xs x9.toNatClampNeg).toInt) rfl hI101 hI102 hI105 hI106 hI107) cw_RL_169 (jc_55 cI cL ad σ τ) rfl ⟨Nat.le_of_ble_eq_true rfl, Nat.le_of_ble_eq_true rfl⟩ rfl rfl rfl hl.1 rfl (Nat.le_of_ble_eq_true rfl) dL_law_1350 ⟨Nat.le_of_ble_eq_true rfl, Nat.le_of_ble_eq_true rfl⟩ (fun r57 σ56 τ56 H locs h56 hP hS => ?_)
    obtain ⟨⟨rfl, rfl⟩, h56⟩ := h56
    rcases h56 with h58 | h59 | h60 | h61 | h62 | h63 | h64
    · obtain ⟨q67, k65, k66⟩ := h58
      exact absurd (by omega : False) id
    · obtain ⟨q70, k68, k69⟩ := h59
      refine lv_pop hx hb dL_law_1353 rfl ?_
      refine lv_goto (tgt := 1357) hx hb dL_law_1354 (by decide) ?_
      obtain ⟨x71, ex71⟩ : ∃ y : Int32, y = x0 + 6 := ⟨_, rfl⟩
      have tx71 : x71.toInt = x0.toInt + 6 := (jadd ex71 rfl jz_6 (by omega) (by omega)).trans (by omega)
      refine lv_iinc (v := x71) (lv' := [(3, .int x71), (2, .ref (ad 55)), (1, .ref (ad 0)), (0, .ref b)]) hx hb dL_law_1357 hl (k := 0) rfl (by rw [ex71]; rfl) (by decide) rfl (fun ls hl => ?_)
      refine lv_goto (tgt := 18) hx hb dL_law_1360 (by decide) ?_
      exact ih x71 σ τ _ _ ls (by have h9 := tx71; omega) ⟨hI2, hI9, hI12, hI16, hI18, hI22, hI31, hI38, hI43, hI47, hI50, hI101, hI102, hI103, hI104, hI105, hI106, hI107, hI109, hI110, hI111, hI119, hs_jKept, hs_jBook, (by omega), hr0, hr1⟩ hP hS (lv_sub hl [0, 1, 2, 3] rfl)
    · obtain ⟨q74, k72, k73⟩ := h60
      exact absurd (by omega : False) id
    · obtain ⟨q77, k75, k76⟩ := h61
      exact absurd (by omega : False) id
    · obtain ⟨q80, k78, k79⟩ := h62
      exact absurd (by omega : False) id
    · obtain ⟨q83, k81, k82⟩ := h63
      exact absurd (by omega : False) id
    · obtain ⟨q85, k84⟩ := h64
      exact absurd (by omega : False) id
  · obtain ⟨q88, k86, k87⟩ := h15
    refine lv_pop hx hb dL_law_1343 rfl ?_
    refine lv_aload_n hx hb dL_law_1344 rfl (lv_at hl 1 rfl) ?_
    refine lv_aload_n hx hb dL_law_1345 rfl (lv_at hl 3 rfl) ?_
    refine lv_iload_n hx hb dL_law_1346 rfl (lv_at hl 0 rfl) ?_
    refine lv_iconst (v := 1) hx hb dL_law_1347 (by decide) ?_
    refine lv_iadd hx hb dL_law_1348 ?_
    refine jtopr ex9.symm ?_
    refine va_sld hx hb hX hbl hbA hS (jin tx9 (by omega) (by omega)) dL_law_1349 ?_
    refine jcallV (As := [.int (xs x9.toNatClampNeg)]) (rest := []) ⟨hx, hb, hml, hown, hts⟩ hK hP hA hS hZ (c_X12_count l D cI cL ad zz hJ σ τ (xs x9.toNatClampNeg) ((xs x9.toNatClampNeg).toInt) rfl hI101 hI102 hI105 hI106 hI107) cw_RL_169 (jc_55 cI cL ad σ τ) rfl ⟨Nat.le_of_ble_eq_true rfl, Nat.le_of_ble_eq_true rfl⟩ rfl rfl rfl hl.1 rfl (Nat.le_of_ble_eq_true rfl) dL_law_1350 ⟨Nat.le_of_ble_eq_true rfl, Nat.le_of_ble_eq_true rfl⟩ (fun r90 σ89 τ89 H locs h89 hP hS => ?_)
    obtain ⟨⟨rfl, rfl⟩, h89⟩ := h89
    rcases h89 with h91 | h92 | h93 | h94 | h95 | h96 | h97
    · obtain ⟨q100, k98, k99⟩ := h91
      exact absurd (by omega : False) id
    · obtain ⟨q103, k101, k102⟩ := h92
      exact absurd (by omega : False) id
    · obtain ⟨q106, k104, k105⟩ := h93
      refine lv_pop hx hb dL_law_1353 rfl ?_
      refine lv_goto (tgt := 1357) hx hb dL_law_1354 (by decide) ?_
      obtain ⟨x107, ex107⟩ : ∃ y : Int32, y = x0 + 6 := ⟨_, rfl⟩
      have tx107 : x107.toInt = x0.toInt + 6 := (jadd ex107 rfl jz_6 (by omega) (by omega)).trans (by omega)
      refine lv_iinc (v := x107) (lv' := [(3, .int x107), (2, .ref (ad 55)), (1, .ref (ad 0)), (0, .ref b)]) hx hb dL_law_1357 hl (k := 0) rfl (by rw [ex107]; rfl) (by decide) rfl (fun ls hl => ?_)
      refine lv_goto (tgt := 18) hx hb dL_law_1360 (by decide) ?_
      exact ih x107 σ τ _ _ ls (by have h9 := tx107; omega) ⟨hI2, hI9, hI12, hI16, hI18, hI22, hI31, hI38, hI43, hI47, hI50, hI101, hI102, hI103, hI104, hI105, hI106, hI107, hI109, hI110, hI111, hI119, hs_jKept, hs_jBook, (by omega), hr0, hr1⟩ hP hS (lv_sub hl [0, 1, 2, 3] rfl)
    · obtain ⟨q110, k108, k109⟩ := h94
      exact absurd (by omega : False) id
    · obtain ⟨q113, k111, k112⟩ := h95
      exact absurd (by omega : False) id
    · obtain ⟨q116, k114, k115⟩ := h96
      exact absurd (by omega : False) id
    · obtain ⟨q118, k117⟩ := h97
      exact absurd (by omega : False) id
  · obtain ⟨q121, k119, k120⟩ := h16
    refine lv_pop hx hb dL_law_1343 rfl ?_
    refine lv_aload_n hx hb dL_law_1344 rfl (lv_at hl 1 rfl) ?_
    refine lv_aload_n hx hb dL_law_1345 rfl (lv_at hl 3 rfl) ?_
    refine lv_iload_n hx hb dL_law_1346 rfl (lv_at hl 0 rfl) ?_
    refine lv_iconst (v := 1) hx hb dL_law_1347 (by decide) ?_
    refine lv_iadd hx hb dL_law_1348 ?_
    refine jtopr ex9.symm ?_
    refine va_sld hx hb hX hbl hbA hS (jin tx9 (by omega) (by omega)) dL_law_1349 ?_
    refine jcallV (As := [.int (xs x9.toNatClampNeg)]) (rest := []) ⟨hx, hb, hml, hown, hts⟩ hK hP hA hS hZ (c_X12_count l D cI cL ad zz hJ σ τ (xs x9.toNatClampNeg) ((xs x9.toNatClampNeg).toInt) rfl hI101 hI102 hI105 hI106 hI107) cw_RL_169 (jc_55 cI cL ad σ τ) rfl ⟨Nat.le_of_ble_eq_true rfl, Nat.le_of_ble_eq_true rfl⟩ rfl rfl rfl hl.1 rfl (Nat.le_of_ble_eq_true rfl) dL_law_1350 ⟨Nat.le_of_ble_eq_true rfl, Nat.le_of_ble_eq_true rfl⟩ (fun r123 σ122 τ122 H locs h122 hP hS => ?_)
    obtain ⟨⟨rfl, rfl⟩, h122⟩ := h122
    rcases h122 with h124 | h125 | h126 | h127 | h128 | h129 | h130
    · obtain ⟨q133, k131, k132⟩ := h124
      exact absurd (by omega : False) id
    · obtain ⟨q136, k134, k135⟩ := h125
      exact absurd (by omega : False) id
    · obtain ⟨q139, k137, k138⟩ := h126
      exact absurd (by omega : False) id
    · obtain ⟨q142, k140, k141⟩ := h127
      refine lv_pop hx hb dL_law_1353 rfl ?_
      refine lv_goto (tgt := 1357) hx hb dL_law_1354 (by decide) ?_
      obtain ⟨x143, ex143⟩ : ∃ y : Int32, y = x0 + 6 := ⟨_, rfl⟩
      have tx143 : x143.toInt = x0.toInt + 6 := (jadd ex143 rfl jz_6 (by omega) (by omega)).trans (by omega)
      refine lv_iinc (v := x143) (lv' := [(3, .int x143), (2, .ref (ad 55)), (1, .ref (ad 0)), (0, .ref b)]) hx hb dL_law_1357 hl (k := 0) rfl (by rw [ex143]; rfl) (by decide) rfl (fun ls hl => ?_)
      refine lv_goto (tgt := 18) hx hb dL_law_1360 (by decide) ?_
      exact ih x143 σ τ _ _ ls (by have h9 := tx143; omega) ⟨hI2, hI9, hI12, hI16, hI18, hI22, hI31, hI38, hI43, hI47, hI50, hI101, hI102, hI103, hI104, hI105, hI106, hI107, hI109, hI110, hI111, hI119, hs_jKept, hs_jBook, (by omega), hr0, hr1⟩ hP hS (lv_sub hl [0, 1, 2, 3] rfl)
    · obtain ⟨q146, k144, k145⟩ := h128
      exact absurd (by omega : False) id
    · obtain ⟨q149, k147, k148⟩ := h129
      exact absurd (by omega : False) id
    · obtain ⟨q151, k150⟩ := h130
      exact absurd (by omega : False) id
  · obtain ⟨q154, k152, k153⟩ := h17
    refine lv_pop hx hb dL_law_1343 rfl ?_
    refine lv_aload_n hx hb dL_law_1344 rfl (lv_at hl 1 rfl) ?_
    refine lv_aload_n hx hb dL_law_1345 rfl (lv_at hl 3 rfl) ?_
    refine lv_iload_n hx hb dL_law_1346 rfl (lv_at hl 0 rfl) ?_
    refine lv_iconst (v := 1) hx hb dL_law_1347 (by decide) ?_
    refine lv_iadd hx hb dL_law_1348 ?_
    refine jtopr ex9.symm ?_
    refine va_sld hx hb hX hbl hbA hS (jin tx9 (by omega) (by omega)) dL_law_1349 ?_
    refine jcallV (As := [.int (xs x9.toNatClampNeg)]) (rest := []) ⟨hx, hb, hml, hown, hts⟩ hK hP hA hS hZ (c_X12_count l D cI cL ad zz hJ σ τ (xs x9.toNatClampNeg) ((xs x9.toNatClampNeg).toInt) rfl hI101 hI102 hI105 hI106 hI107) cw_RL_169 (jc_55 cI cL ad σ τ) rfl ⟨Nat.le_of_ble_eq_true rfl, Nat.le_of_ble_eq_true rfl⟩ rfl rfl rfl hl.1 rfl (Nat.le_of_ble_eq_true rfl) dL_law_1350 ⟨Nat.le_of_ble_eq_true rfl, Nat.le_of_ble_eq_true rfl⟩ (fun r156 σ155 τ155 H locs h155 hP hS => ?_)
    obtain ⟨⟨rfl, rfl⟩, h155⟩ := h155
    rcases h155 with h157 | h158 | h159 | h160 | h161 | h162 | h163
    · obtain ⟨q166, k164, k165⟩ := h157
      exact absurd (by omega : False) id
    · obtain ⟨q169, k167, k168⟩ := h158
      exact absurd (by omega : False) id
    · obtain ⟨q172, k170, k171⟩ := h159
      exact absurd (by omega : False) id
    · obtain ⟨q175, k173, k174⟩ := h160
      exact absurd (by omega : False) id
    · obtain ⟨q178, k176, k177⟩ := h161
      refine lv_pop hx hb dL_law_1353 rfl ?_
      refine lv_goto (tgt := 1357) hx hb dL_law_1354 (by decide) ?_
      obtain ⟨x179, ex179⟩ : ∃ y : Int32, y = x0 + 6 := ⟨_, rfl⟩
      have tx179 : x179.toInt = x0.toInt + 6 := (jadd ex179 rfl jz_6 (by omega) (by omega)).trans (by omega)
      refine lv_iinc (v := x179) (lv' := [(3, .int x179), (2, .ref (ad 55)), (1, .ref (ad 0)), (0, .ref b)]) hx hb dL_law_1357 hl (k := 0) rfl (by rw [ex179]; rfl) (by decide) rfl (fun ls hl => ?_)
      refine lv_goto (tgt := 18) hx hb dL_law_1360 (by decide) ?_
      exact ih x179 σ τ _ _ ls (by have h9 := tx179; omega) ⟨hI2, hI9, hI12, hI16, hI18, hI22, hI31, hI38, hI43, hI47, hI50, hI101, hI102, hI103, hI104, hI105, hI106, hI107, hI109, hI110, hI111, hI119, hs_jKept, hs_jBook, (by omega), hr0, hr1⟩ hP hS (lv_sub hl [0, 1, 2, 3] rfl)
    · obtain ⟨q182, k180, k181⟩ := h162
      exact absurd (by omega : False) id
    · obtain ⟨q184, k183⟩ := h163
      exact absurd (by omega : False) id
  · obtain ⟨q187, k185, k186⟩ := h18
    refine lv_pop hx hb dL_law_1343 rfl ?_
    refine lv_aload_n hx hb dL_law_1344 rfl (lv_at hl 1 rfl) ?_
    refine lv_aload_n hx hb dL_law_1345 rfl (lv_at hl 3 rfl) ?_
    refine lv_iload_n hx hb dL_law_1346 rfl (lv_at hl 0 rfl) ?_
    refine lv_iconst (v := 1) hx hb dL_law_1347 (by decide) ?_
    refine lv_iadd hx hb dL_law_1348 ?_
    refine jtopr ex9.symm ?_
    refine va_sld hx hb hX hbl hbA hS (jin tx9 (by omega) (by omega)) dL_law_1349 ?_
    refine jcallV (As := [.int (xs x9.toNatClampNeg)]) (rest := []) ⟨hx, hb, hml, hown, hts⟩ hK hP hA hS hZ (c_X12_count l D cI cL ad zz hJ σ τ (xs x9.toNatClampNeg) ((xs x9.toNatClampNeg).toInt) rfl hI101 hI102 hI105 hI106 hI107) cw_RL_169 (jc_55 cI cL ad σ τ) rfl ⟨Nat.le_of_ble_eq_true rfl, Nat.le_of_ble_eq_true rfl⟩ rfl rfl rfl hl.1 rfl (Nat.le_of_ble_eq_true rfl) dL_law_1350 ⟨Nat.le_of_ble_eq_true rfl, Nat.le_of_ble_eq_true rfl⟩ (fun r189 σ188 τ188 H locs h188 hP hS => ?_)
    obtain ⟨⟨rfl, rfl⟩, h188⟩ := h188
    rcases h188 with h190 | h191 | h192 | h193 | h194 | h195 | h196
    · obtain ⟨q199, k197, k198⟩ := h190
      exact absurd (by omega : False) id
    · obtain ⟨q202, k200, k201⟩ := h191
      exact absurd (by omega : False) id
    · obtain ⟨q205, k203, k204⟩ := h192
      exact absurd (by omega : False) id
    · obtain ⟨q208, k206, k207⟩ := h193
      exact absurd (by omega : False) id
    · obtain ⟨q211, k209, k210⟩ := h194
      exact absurd (by omega : False) id
    · obtain ⟨q214, k212, k213⟩ := h195
      refine lv_pop hx hb dL_law_1353 rfl ?_
      refine lv_goto (tgt := 1357) hx hb dL_law_1354 (by decide) ?_
      obtain ⟨x215, ex215⟩ : ∃ y : Int32, y = x0 + 6 := ⟨_, rfl⟩
      have tx215 : x215.toInt = x0.toInt + 6 := (jadd ex215 rfl jz_6 (by omega) (by omega)).trans (by omega)
      refine lv_iinc (v := x215) (lv' := [(3, .int x215), (2, .ref (ad 55)), (1, .ref (ad 0)), (0, .ref b)]) hx hb dL_law_1357 hl (k := 0) rfl (by rw [ex215]; rfl) (by decide) rfl (fun ls hl => ?_)
      refine lv_goto (tgt := 18) hx hb dL_law_1360 (by decide) ?_
      exact ih x215 σ τ _ _ ls (by have h9 := tx215; omega) ⟨hI2, hI9, hI12, hI16, hI18, hI22, hI31, hI38, hI43, hI47, hI50, hI101, hI102, hI103, hI104, hI105, hI106, hI107, hI109, hI110, hI111, hI119, hs_jKept, hs_jBook, (by omega), hr0, hr1⟩ hP hS (lv_sub hl [0, 1, 2, 3] rfl)
    · obtain ⟨q217, k216⟩ := h196
      exact absurd (by omega : False) id
  · obtain ⟨q219, k218⟩ := h19
    have q219 := q219.symm
    subst q219
    refine lv_pop hx hb dL_law_1343 rfl ?_
    refine lv_aload_n hx hb dL_law_1344 rfl (lv_at hl 1 rfl) ?_
    refine lv_aload_n hx hb dL_law_1345 rfl (lv_at hl 3 rfl) ?_
    refine lv_iload_n hx hb dL_law_1346 rfl (lv_at hl 0 rfl) ?_
    refine lv_iconst (v := 1) hx hb dL_law_1347 (by decide) ?_
    refine lv_iadd hx hb dL_law_1348 ?_
    refine jtopr ex9.symm ?_
    refine va_sld hx hb hX hbl hbA hS (jin tx9 (by omega) (by omega)) dL_law_1349 ?_
    refine jcallV (As := [.int (xs x9.toNatClampNeg)]) (rest := []) ⟨hx, hb, hml, hown, hts⟩ hK hP hA hS hZ (c_X12_count l D cI cL ad zz hJ σ τ (xs x9.toNatClampNeg) ((xs x9.toNatClampNeg).toInt) rfl hI101 hI102 hI105 hI106 hI107) cw_RL_169 (jc_55 cI cL ad σ τ) rfl ⟨Nat.le_of_ble_eq_true rfl, Nat.le_of_ble_eq_true rfl⟩ rfl rfl rfl hl.1 rfl (Nat.le_of_ble_eq_true rfl) dL_law_1350 ⟨Nat.le_of_ble_eq_true rfl, Nat.le_of_ble_eq_true rfl⟩ (fun r221 σ220 τ220 H locs h220 hP hS => ?_)
    obtain ⟨⟨rfl, rfl⟩, h220⟩ := h220
    rcases h220 with h222 | h223 | h224 | h225 | h226 | h227 | h228
    · obtain ⟨q231, k229, k230⟩ := h222
      exact absurd (by omega : False) id
    · obtain ⟨q234, k232, k233⟩ := h223
      exact absurd (by omega : False) id
    · obtain ⟨q237, k235, k236⟩ := h224
      exact absurd (by omega : False) id
    · obtain ⟨q240, k238, k239⟩ := h225
      exact absurd (by omega : False) id
    · obtain ⟨q243, k241, k242⟩ := h226
      exact absurd (by omega : False) id
    · obtain ⟨q246, k244, k245⟩ := h227
      exact absurd (by omega : False) id
    · obtain ⟨q248, k247⟩ := h228
      have q248 := q248.symm
      subst q248
      refine lv_pop hx hb dL_law_1353 rfl ?_
      refine lv_goto (tgt := 1357) hx hb dL_law_1354 (by decide) ?_
      obtain ⟨x249, ex249⟩ : ∃ y : Int32, y = x0 + 6 := ⟨_, rfl⟩
      have tx249 : x249.toInt = x0.toInt + 6 := (jadd ex249 rfl jz_6 (by omega) (by omega)).trans (by omega)
      refine lv_iinc (v := x249) (lv' := [(3, .int x249), (2, .ref (ad 55)), (1, .ref (ad 0)), (0, .ref b)]) hx hb dL_law_1357 hl (k := 0) rfl (by rw [ex249]; rfl) (by decide) rfl (fun ls hl => ?_)
      refine lv_goto (tgt := 18) hx hb dL_law_1360 (by decide) ?_
      exact ih x249 σ τ _ _ ls (by have h9 := tx249; omega) ⟨hI2, hI9, hI12, hI16, hI18, hI22, hI31, hI38, hI43, hI47, hI50, hI101, hI102, hI103, hI104, hI105, hI106, hI107, hI109, hI110, hI111, hI119, hs_jKept, hs_jBook, (by omega), hr0, hr1⟩ hP hS (lv_sub hl [0, 1, 2, 3] rfl)
set_option maxHeartbeats 4000000 in
set_option maxRecDepth 100000 in
theorem law_case_37 {p : Program} {e : Env} {s : State} {m : MethodId} {below : List Frame} {meth : Method} {c : Code} (l : Launch) {b L : Nat} {xs : Nat → Int32} {D : va_G} {cI cL : ClassId} {ad zz : Nat → Nat} (C0 : lw_At p s m meth c b L xs) (hJ : jD ad) (hA : ∀ q, jA ad q → s.heap.size ≤ q) (hK : jK D cI cL s) (hZ : jZ zz (fun q : Nat => s.heap.size ≤ q) s s.heap) {x0 : Int32} (hx0 : 0 ≤ x0.toInt) (hxL : x0.toInt + 6 ≤ (L : Int)) (hL : L ≤ 384) {σ : Nat → Nat → Int32} {τ : Nat → Nat → Int64} {H : Heap} {locs : List Loc} (hS : va_S (fun q : Nat => s.heap.size ≤ q) s.heap H locs) {ls : Array Slot} (hAll : jAll σ τ) (hP : jH D cI cL ad σ τ H) (hl : lv_has ls 4 [(3, .int x0), (2, .ref (ad 55)), (1, .ref (ad 0)), (0, .ref b)]) (ih : ∀ (x1 : Int32) (σ : Nat → Nat → Int32) (τ : Nat → Nat → Int64) (H : Heap) (locs : List Loc) (ls : Array Slot), x1.toInt = x0.toInt + 6 → jAll σ τ → jH D cI cL ad σ τ H → va_S (fun q : Nat => s.heap.size ≤ q) s.heap H locs → lv_has ls 4 [(3, .int x1), (2, .ref (ad 55)), (1, .ref (ad 0)), (0, .ref b)] → W p l e room_1 s m #[Value.ref b] below meth c H locs 90 348600 (lw_Z below #[Value.ref b] s) (F0 m 18 ls [])) : W p l e room_1 s m #[Value.ref b] below meth c H locs 90 348600 (lw_Z below #[Value.ref b] s) (F0 m 1357 ls []) := by
  obtain ⟨hx, hb, hr, hml, hown, hts0, hX, hbl, hlocks, hgv⟩ := C0
  have hts : ∀ w ∈ wsL_law, w.before #[Value.ref b] s = true := fun w h => hts0 w (wsL_law_in w h)
  have hbA : ¬ (fun q : Nat => s.heap.size ≤ q) b := Nat.not_le.mpr hbl
  have hown : s.vm.findClass RL = some m.cls := hown
  obtain ⟨hI2, hI9, hI12, hI16, hI18, hI22, hI31, hI38, hI43, hI47, hI50, hI101, hI102, hI103, hI104, hI105, hI106, hI107, hI109, hI110, hI111, hI119, hs_jKept, hs_jBook, ht0, hr0, hr1⟩ := hAll
  have hL9 : (L : Int) ≤ 384 := by omega
  obtain ⟨i1, i2, w3⟩ : (0 ≤ (σ 38 0).toInt ∧ (σ 38 0).toInt ≤ 20) ∧ (0 ≤ (σ 38 1).toInt ∧ (σ 38 1).toInt ≤ 1000) ∧ (∀ k : Nat, k < 20 → 0 ≤ (σ 39 k).toInt ∧ (σ 39 k).toInt ≤ 6) := id hI38
  obtain ⟨i4, w5, w6, w7⟩ : (0 ≤ (σ 55 32).toInt ∧ (σ 55 32).toInt ≤ 20) ∧ (∀ k : Nat, k < 20 → 0 ≤ (σ 70 k).toInt ∧ (σ 70 k).toInt ≤ 6) ∧ (∀ k : Nat, k < 20 → 0 ≤ (σ 71 k).toInt ∧ (σ 71 k).toInt ≤ 8) ∧ (∀ k : Nat, k < 160 → 0 ≤ (σ 72 k).toInt ∧ (σ 72 k).toInt ≤ 3) := id hI106
  obtain ⟨x8, ex8⟩ : ∃ y : Int32, y = x0 + 6 := ⟨_, rfl⟩
  have tx8 : x8.toInt = x0.toInt + 6 := (jadd ex8 rfl jz_6 (by omega) (by omega)).trans (by omega)
  refine lv_iinc (v := x8) (lv' := [(3, .int x8), (2, .ref (ad 55)), (1, .ref (ad 0)), (0, .ref b)]) hx hb dL_law_1357 hl (k := 0) rfl (by rw [ex8]; rfl) (by decide) rfl (fun ls hl => ?_)
  refine lv_goto (tgt := 18) hx hb dL_law_1360 (by decide) ?_
  exact ih x8 σ τ _ _ ls (by have h9 := tx8; omega) ⟨hI2, hI9, hI12, hI16, hI18, hI22, hI31, hI38, hI43, hI47, hI50, hI101, hI102, hI103, hI104, hI105, hI106, hI107, hI109, hI110, hI111, hI119, hs_jKept, hs_jBook, (by omega), hr0, hr1⟩ hP hS (lv_sub hl [0, 1, 2, 3] rfl)
