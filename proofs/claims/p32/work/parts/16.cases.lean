set_option maxHeartbeats 4000000 in
set_option maxRecDepth 100000 in
theorem law_case_19 {p : Program} {e : Env} {s : State} {m : MethodId} {below : List Frame} {meth : Method} {c : Code} (l : Launch) {b L : Nat} {xs : Nat → Int32} {D : va_G} {cI cL : ClassId} {ad zz : Nat → Nat} (C0 : lw_At p s m meth c b L xs) (hJ : jD ad) (hA : ∀ q, jA ad q → s.heap.size ≤ q) (hK : jK D cI cL s) (hZ : jZ zz (fun q : Nat => s.heap.size ≤ q) s s.heap) {x0 : Int32} (hx0 : 0 ≤ x0.toInt) (hxL : x0.toInt + 6 ≤ (L : Int)) (hL : L ≤ 384) {σ : Nat → Nat → Int32} {τ : Nat → Nat → Int64} {H : Heap} {locs : List Loc} (hS : va_S (fun q : Nat => s.heap.size ≤ q) s.heap H locs) {ls : Array Slot} (hAll : jAll σ τ) (hP : jH D cI cL ad σ τ H) (hl : lv_has ls 4 [(3, .int x0), (2, .ref (ad 55)), (1, .ref (ad 0)), (0, .ref b)]) (ih : ∀ (x1 : Int32) (σ : Nat → Nat → Int32) (τ : Nat → Nat → Int64) (H : Heap) (locs : List Loc) (ls : Array Slot), x1.toInt = x0.toInt + 6 → jAll σ τ → jH D cI cL ad σ τ H → va_S (fun q : Nat => s.heap.size ≤ q) s.heap H locs → lv_has ls 4 [(3, .int x1), (2, .ref (ad 55)), (1, .ref (ad 0)), (0, .ref b)] → W p l e room_1 s m #[Value.ref b] below meth c H locs 90 348600 (lw_Z below #[Value.ref b] s) (F0 m 18 ls [])) : W p l e room_1 s m #[Value.ref b] below meth c H locs 90 348600 (lw_Z below #[Value.ref b] s) (F0 m 773 ls []) := by
  obtain ⟨hx, hb, hr, hml, hown, hts0, hX, hbl, hlocks, hgv⟩ := C0
  have hts : ∀ w ∈ wsL_law, w.before #[Value.ref b] s = true := fun w h => hts0 w (wsL_law_in w h)
  have hbA : ¬ (fun q : Nat => s.heap.size ≤ q) b := Nat.not_le.mpr hbl
  have hown : s.vm.findClass RL = some m.cls := hown
  obtain ⟨hI2, hI9, hI12, hI16, hI18, hI22, hI31, hI38, hI43, hI47, hI50, hI101, hI102, hI103, hI104, hI105, hI106, hI107, hI109, hI110, hI111, hI119, hs_jKept, hs_jBook, ht0⟩ := hAll
  have hL9 : (L : Int) ≤ 384 := by omega
  refine lv_aload_n hx hb dL_law_773 rfl (lv_at hl 2 rfl) ?_
  refine lv_aload_n hx hb dL_law_774 rfl (lv_at hl 3 rfl) ?_
  refine lv_iload_n hx hb dL_law_775 rfl (lv_at hl 0 rfl) ?_
  refine lv_iconst (v := 1) hx hb dL_law_776 (of_decide_eq_true rfl) ?_
  have g1 := jrg (rfl : x0.toInt = x0.toInt)
  refine lv_iadd hx hb dL_law_777 ?_
  refine lv_topi (fun x2 ex2 => ?_)
  exact by
   have tx2 : x2.toInt = x0.toInt + 1 := (jadd ex2 rfl jz_1 (by omega) (by omega)).trans (by omega)
   refine va_sld hx hb hX hbl hbA hS (jin tx2 (by omega) (by omega)) dL_law_778 ?_
   have g3 := jrg (rfl : (xs x2.toNatClampNeg).toInt = (xs x2.toNatClampNeg).toInt)
   refine lv_aload_n hx hb dL_law_779 rfl (lv_at hl 3 rfl) ?_
   refine lv_iload_n hx hb dL_law_780 rfl (lv_at hl 0 rfl) ?_
   refine lv_iconst (v := 2) hx hb dL_law_781 (of_decide_eq_true rfl) ?_
   refine lv_iadd hx hb dL_law_782 ?_
   refine lv_topi (fun x4 ex4 => ?_)
   have tx4 : x4.toInt = x0.toInt + 2 := (jadd ex4 rfl jz_2 (by omega) (by omega)).trans (by omega)
   exact by
    refine va_sld hx hb hX hbl hbA hS (jin tx4 (by omega) (by omega)) dL_law_783 ?_
    have g5 := jrg (rfl : (xs x4.toNatClampNeg).toInt = (xs x4.toNatClampNeg).toInt)
    refine jcallV (As := [.int (xs x2.toNatClampNeg), .int (xs x4.toNatClampNeg)]) (rest := []) ⟨hx, hb, hml, hown, hts⟩ hK hP hA hS hZ (c_X11_book l D cI cL ad zz hJ σ τ (xs x2.toNatClampNeg) ((xs x2.toNatClampNeg).toInt) rfl (xs x4.toNatClampNeg) ((xs x4.toNatClampNeg).toInt) rfl hI2 hI16 hI47) cw_RL_93 (jc_0 cI cL ad σ τ) rfl ⟨Nat.le_of_ble_eq_true rfl, Nat.le_of_ble_eq_true rfl⟩ rfl rfl rfl hl.1 rfl (Nat.le_of_ble_eq_true rfl) dL_law_784 ⟨Nat.le_of_ble_eq_true rfl, Nat.le_of_ble_eq_true rfl⟩ (fun r7 σ6 τ6 H locs h6 hP hS => ?_)
    obtain ⟨rfl, f8, f9, I10, w11, h6⟩ := h6
    refine lv_pop hx hb dL_law_787 rfl ?_
    refine lv_aload_n hx hb dL_law_788 rfl (lv_at hl 1 rfl) ?_
    refine lv_aload_n hx hb dL_law_789 rfl (lv_at hl 3 rfl) ?_
    refine lv_iload_n hx hb dL_law_790 rfl (lv_at hl 0 rfl) ?_
    refine lv_iconst (v := 1) hx hb dL_law_791 (of_decide_eq_true rfl) ?_
    refine lv_iadd hx hb dL_law_792 ?_
    refine jtopr ex2.symm ?_
    exact by
     refine va_sld hx hb hX hbl hbA hS (jin tx2 (by omega) (by omega)) dL_law_793 ?_
     refine lv_aload_n hx hb dL_law_794 rfl (lv_at hl 3 rfl) ?_
     refine lv_iload_n hx hb dL_law_795 rfl (lv_at hl 0 rfl) ?_
     refine lv_iconst (v := 2) hx hb dL_law_796 (of_decide_eq_true rfl) ?_
     refine lv_iadd hx hb dL_law_797 ?_
     refine jtopr ex4.symm ?_
     refine va_sld hx hb hX hbl hbA hS (jin tx4 (by omega) (by omega)) dL_law_798 ?_
     have I13 : jI102 σ6 := jI102_fr (congrFun (f8 55 (of_decide_eq_true rfl)) 6) (f8 60 (of_decide_eq_true rfl)) (f8 61 (of_decide_eq_true rfl)) hI102
     have I14 : jI104 σ6 := jI104_fr (congrFun (f8 55 (of_decide_eq_true rfl)) 10) (congrFun (f8 55 (of_decide_eq_true rfl)) 12) (congrFun (f8 55 (of_decide_eq_true rfl)) 13) (f8 62 (of_decide_eq_true rfl)) (f8 67 (of_decide_eq_true rfl)) hI104
     exact by
      have I15 : jI107 σ6 := jI107_fr (congrFun (f8 55 (of_decide_eq_true rfl)) 12) (congrFun (f8 55 (of_decide_eq_true rfl)) 47) (f8 80 (of_decide_eq_true rfl)) hI107
      have w16 : ∀ k : Nat, k < 4 → 0 ≤ (σ 68 k).toInt ∧ (σ 68 k).toInt ≤ 3 := hI119
      have w17 : ∀ k : Nat, k < 4 → 0 ≤ (σ6 68 k).toInt ∧ (σ6 68 k).toInt ≤ 3 := (jrr_fr (f8 68 (of_decide_eq_true rfl)) w16)
      have p18 : jBook σ6 := jBook.fr (congrFun (f8 55 (of_decide_eq_true rfl)) 47) (congrFun (f8 55 (of_decide_eq_true rfl)) 10) (f8 81 (of_decide_eq_true rfl)) hs_jBook
      have z19 : (σ6 55 47).toInt = (σ 55 47).toInt := (congrArg Int32.toInt (show σ6 55 47 = (σ 55 47) from (congrFun (f8 55 (of_decide_eq_true rfl)) 47)))
      refine jcallV (As := [.int (xs x2.toNatClampNeg), .int (xs x4.toNatClampNeg)]) (rest := []) ⟨hx, hb, hml, hown, hts⟩ hK hP hA hS hZ (c_X12_book l D cI cL ad zz hJ σ6 τ (xs x2.toNatClampNeg) ((xs x2.toNatClampNeg).toInt) rfl (xs x4.toNatClampNeg) ((xs x4.toNatClampNeg).toInt) rfl I13 I14 I15 w17 p18) cw_RL_96 (jc_55 cI cL ad σ6 τ) rfl ⟨Nat.le_of_ble_eq_true rfl, Nat.le_of_ble_eq_true rfl⟩ rfl rfl rfl hl.1 rfl (Nat.le_of_ble_eq_true rfl) dL_law_799 ⟨Nat.le_of_ble_eq_true rfl, Nat.le_of_ble_eq_true rfl⟩ (fun r21 σ20 τ20 H locs h20 hP hS => ?_)
      obtain ⟨rfl, f22, f23, I24, w25, p26, w27, h20⟩ := h20
      rcases h20 with h29 | h30
      · obtain ⟨q33, k31, k32⟩ := h29
        refine lv_pop hx hb dL_law_802 rfl ?_
        refine lv_goto (tgt := 1357) hx hb dL_law_803 (of_decide_eq_true rfl) ?_
        obtain ⟨x34, ex34⟩ : ∃ y : Int32, y = x0 + 6 := ⟨_, rfl⟩
        exact by
         have tx34 : x34.toInt = x0.toInt + 6 := (jadd ex34 rfl jz_6 (by omega) (by omega)).trans (by omega)
         refine lv_iinc (v := x34) (lv' := [(3, .int x34), (2, .ref (ad 55)), (1, .ref (ad 0)), (0, .ref b)]) hx hb dL_law_1357 hl (k := 0) rfl (by rw [ex34]; rfl) (of_decide_eq_true rfl) rfl (fun ls hl => ?_)
         refine lv_goto (tgt := 18) hx hb dL_law_1360 (of_decide_eq_true rfl) ?_
         have I35 : jI2 σ20 := jI2_fr ((congrFun (f22 2 (of_decide_eq_true rfl)) 0).trans (congrFun (f8 2 (of_decide_eq_true rfl)) 0)) ((congrFun (f22 2 (of_decide_eq_true rfl)) 1).trans (congrFun (f8 2 (of_decide_eq_true rfl)) 1)) ((congrFun (f22 2 (of_decide_eq_true rfl)) 2).trans (congrFun (f8 2 (of_decide_eq_true rfl)) 2)) ((congrFun (f22 2 (of_decide_eq_true rfl)) 3).trans (congrFun (f8 2 (of_decide_eq_true rfl)) 3)) ((f22 6 (of_decide_eq_true rfl)).trans (f8 6 (of_decide_eq_true rfl))) hI2
         have I36 : jI9 σ20 := jI9_fr ((congrFun (f22 9 (of_decide_eq_true rfl)) 0).trans (congrFun (f8 9 (of_decide_eq_true rfl)) 0)) ((f22 10 (of_decide_eq_true rfl)).trans (f8 10 (of_decide_eq_true rfl))) ((f22 11 (of_decide_eq_true rfl)).trans (f8 11 (of_decide_eq_true rfl))) hI9
         have I37 : jI12 σ20 := jI12_fr ((congrFun (f22 12 (of_decide_eq_true rfl)) 0).trans (congrFun (f8 12 (of_decide_eq_true rfl)) 0)) ((f22 13 (of_decide_eq_true rfl)).trans (f8 13 (of_decide_eq_true rfl))) hI12
         have I38 : jI16 σ20 := jI16_fr ((congrFun (f22 16 (of_decide_eq_true rfl)) 0).trans (congrFun (f8 16 (of_decide_eq_true rfl)) 0)) ((congrFun (f22 16 (of_decide_eq_true rfl)) 1).trans (congrFun (f8 16 (of_decide_eq_true rfl)) 1)) ((congrFun (f22 16 (of_decide_eq_true rfl)) 2).trans (congrFun (f8 16 (of_decide_eq_true rfl)) 2)) ((f22 17 (of_decide_eq_true rfl)).trans (f8 17 (of_decide_eq_true rfl))) hI16
         have I39 : jI18 σ20 := jI18_fr ((congrFun (f22 18 (of_decide_eq_true rfl)) 0).trans (congrFun (f8 18 (of_decide_eq_true rfl)) 0)) ((f22 19 (of_decide_eq_true rfl)).trans (f8 19 (of_decide_eq_true rfl))) hI18
         have I40 : jI22 σ20 := jI22_fr ((congrFun (f22 22 (of_decide_eq_true rfl)) 0).trans (congrFun (f8 22 (of_decide_eq_true rfl)) 0)) ((f22 23 (of_decide_eq_true rfl)).trans (f8 23 (of_decide_eq_true rfl))) hI22
         exact by
          have I41 : jI31 σ20 := jI31_fr ((congrFun (f22 31 (of_decide_eq_true rfl)) 8).trans (congrFun (f8 31 (of_decide_eq_true rfl)) 8)) ((f22 33 (of_decide_eq_true rfl)).trans (f8 33 (of_decide_eq_true rfl))) ((f22 36 (of_decide_eq_true rfl)).trans (f8 36 (of_decide_eq_true rfl))) hI31
          have I42 : jI38 σ20 := jI38_fr ((congrFun (f22 38 (of_decide_eq_true rfl)) 0).trans (congrFun (f8 38 (of_decide_eq_true rfl)) 0)) ((congrFun (f22 38 (of_decide_eq_true rfl)) 1).trans (congrFun (f8 38 (of_decide_eq_true rfl)) 1)) ((f22 39 (of_decide_eq_true rfl)).trans (f8 39 (of_decide_eq_true rfl))) hI38
          have I43 : jI43 σ20 := jI43_fr ((congrFun (f22 43 (of_decide_eq_true rfl)) 8).trans (congrFun (f8 43 (of_decide_eq_true rfl)) 8)) hI43
          have I44 : jI47 σ20 := jI47_fr (congrFun (f22 47 (of_decide_eq_true rfl)) 0) (f22 48 (of_decide_eq_true rfl)) (f22 49 (of_decide_eq_true rfl)) I10
          have I45 : jI50 σ20 := jI50_fr ((f22 52 (of_decide_eq_true rfl)).trans (f8 52 (of_decide_eq_true rfl))) hI50
          have I46 : jI101 σ20 := jI101_fr ((f23 4 (of_decide_eq_true rfl)).trans (congrFun (f8 55 (of_decide_eq_true rfl)) 4)) ((f23 5 (of_decide_eq_true rfl)).trans (congrFun (f8 55 (of_decide_eq_true rfl)) 5)) ((f22 56 (of_decide_eq_true rfl)).trans (f8 56 (of_decide_eq_true rfl))) ((f22 57 (of_decide_eq_true rfl)).trans (f8 57 (of_decide_eq_true rfl))) ((f22 58 (of_decide_eq_true rfl)).trans (f8 58 (of_decide_eq_true rfl))) ((f22 59 (of_decide_eq_true rfl)).trans (f8 59 (of_decide_eq_true rfl))) hI101
          have I47 : jI102 σ20 := jI102_fr (f23 6 (of_decide_eq_true rfl)) (f22 60 (of_decide_eq_true rfl)) (f22 61 (of_decide_eq_true rfl)) I13
          have I48 : jI103 σ20 := jI103_fr ((f23 9 (of_decide_eq_true rfl)).trans (congrFun (f8 55 (of_decide_eq_true rfl)) 9)) hI103
          have I49 : jI104 σ20 := jI104_fr (f23 10 (of_decide_eq_true rfl)) (f23 12 (of_decide_eq_true rfl)) (f23 13 (of_decide_eq_true rfl)) (f22 62 (of_decide_eq_true rfl)) (f22 67 (of_decide_eq_true rfl)) I14
          have I50 : jI105 σ20 := jI105_fr ((f23 15 (of_decide_eq_true rfl)).trans (congrFun (f8 55 (of_decide_eq_true rfl)) 15)) ((f22 65 (of_decide_eq_true rfl)).trans (f8 65 (of_decide_eq_true rfl))) hI105
          have I51 : jI106 σ20 := jI106_fr ((f23 32 (of_decide_eq_true rfl)).trans (congrFun (f8 55 (of_decide_eq_true rfl)) 32)) ((f22 70 (of_decide_eq_true rfl)).trans (f8 70 (of_decide_eq_true rfl))) ((f22 71 (of_decide_eq_true rfl)).trans (f8 71 (of_decide_eq_true rfl))) ((f22 72 (of_decide_eq_true rfl)).trans (f8 72 (of_decide_eq_true rfl))) hI106
          have I52 : jI109 σ20 := jI109_fr ((f23 50 (of_decide_eq_true rfl)).trans (congrFun (f8 55 (of_decide_eq_true rfl)) 50)) hI109
          have I53 : jI110 σ20 := jI110_fr ((f22 86 (of_decide_eq_true rfl)).trans (f8 86 (of_decide_eq_true rfl))) ((f22 87 (of_decide_eq_true rfl)).trans (f8 87 (of_decide_eq_true rfl))) hI110
          have I54 : jI111 σ20 := jI111_fr ((f22 79 (of_decide_eq_true rfl)).trans (f8 79 (of_decide_eq_true rfl))) hI111
          have I55 : jI119 σ20 := w25
          have p56 : jKept σ20 := jKept.fr ((f22 75 (of_decide_eq_true rfl)).trans (f8 75 (of_decide_eq_true rfl))) ((f22 76 (of_decide_eq_true rfl)).trans (f8 76 (of_decide_eq_true rfl))) ((f22 77 (of_decide_eq_true rfl)).trans (f8 77 (of_decide_eq_true rfl))) hs_jKept
          have z57 : (σ20 38 0).toInt = (σ 38 0).toInt := (congrArg Int32.toInt (show σ20 38 0 = (σ 38 0) from ((congrFun (f22 38 (of_decide_eq_true rfl)) 0).trans (congrFun (f8 38 (of_decide_eq_true rfl)) 0))))
          have z58 : (σ20 55 32).toInt = (σ 55 32).toInt := (congrArg Int32.toInt (show σ20 55 32 = (σ 55 32) from ((f23 32 (of_decide_eq_true rfl)).trans (congrFun (f8 55 (of_decide_eq_true rfl)) 32))))
          exact by exact ih x34 σ20 τ _ _ ls (by have h9 := tx34; omega) ⟨I35, I36, I37, I38, I39, I40, I41, I42, I43, I44, I45, I46, I47, I48, I49, I50, I51, I24, I52, I53, I54, I55, p56, p26, (by omega)⟩ hP hS (lv_sub hl [0, 1, 2, 3] rfl)
      · obtain ⟨q61, k59, k60⟩ := h30
        refine lv_pop hx hb dL_law_802 rfl ?_
        refine lv_goto (tgt := 1357) hx hb dL_law_803 (of_decide_eq_true rfl) ?_
        obtain ⟨x62, ex62⟩ : ∃ y : Int32, y = x0 + 6 := ⟨_, rfl⟩
        exact by
         have tx62 : x62.toInt = x0.toInt + 6 := (jadd ex62 rfl jz_6 (by omega) (by omega)).trans (by omega)
         refine lv_iinc (v := x62) (lv' := [(3, .int x62), (2, .ref (ad 55)), (1, .ref (ad 0)), (0, .ref b)]) hx hb dL_law_1357 hl (k := 0) rfl (by rw [ex62]; rfl) (of_decide_eq_true rfl) rfl (fun ls hl => ?_)
         refine lv_goto (tgt := 18) hx hb dL_law_1360 (of_decide_eq_true rfl) ?_
         have I63 : jI2 σ20 := jI2_fr ((congrFun (f22 2 (of_decide_eq_true rfl)) 0).trans (congrFun (f8 2 (of_decide_eq_true rfl)) 0)) ((congrFun (f22 2 (of_decide_eq_true rfl)) 1).trans (congrFun (f8 2 (of_decide_eq_true rfl)) 1)) ((congrFun (f22 2 (of_decide_eq_true rfl)) 2).trans (congrFun (f8 2 (of_decide_eq_true rfl)) 2)) ((congrFun (f22 2 (of_decide_eq_true rfl)) 3).trans (congrFun (f8 2 (of_decide_eq_true rfl)) 3)) ((f22 6 (of_decide_eq_true rfl)).trans (f8 6 (of_decide_eq_true rfl))) hI2
         have I64 : jI9 σ20 := jI9_fr ((congrFun (f22 9 (of_decide_eq_true rfl)) 0).trans (congrFun (f8 9 (of_decide_eq_true rfl)) 0)) ((f22 10 (of_decide_eq_true rfl)).trans (f8 10 (of_decide_eq_true rfl))) ((f22 11 (of_decide_eq_true rfl)).trans (f8 11 (of_decide_eq_true rfl))) hI9
         have I65 : jI12 σ20 := jI12_fr ((congrFun (f22 12 (of_decide_eq_true rfl)) 0).trans (congrFun (f8 12 (of_decide_eq_true rfl)) 0)) ((f22 13 (of_decide_eq_true rfl)).trans (f8 13 (of_decide_eq_true rfl))) hI12
         have I66 : jI16 σ20 := jI16_fr ((congrFun (f22 16 (of_decide_eq_true rfl)) 0).trans (congrFun (f8 16 (of_decide_eq_true rfl)) 0)) ((congrFun (f22 16 (of_decide_eq_true rfl)) 1).trans (congrFun (f8 16 (of_decide_eq_true rfl)) 1)) ((congrFun (f22 16 (of_decide_eq_true rfl)) 2).trans (congrFun (f8 16 (of_decide_eq_true rfl)) 2)) ((f22 17 (of_decide_eq_true rfl)).trans (f8 17 (of_decide_eq_true rfl))) hI16
         have I67 : jI18 σ20 := jI18_fr ((congrFun (f22 18 (of_decide_eq_true rfl)) 0).trans (congrFun (f8 18 (of_decide_eq_true rfl)) 0)) ((f22 19 (of_decide_eq_true rfl)).trans (f8 19 (of_decide_eq_true rfl))) hI18
         have I68 : jI22 σ20 := jI22_fr ((congrFun (f22 22 (of_decide_eq_true rfl)) 0).trans (congrFun (f8 22 (of_decide_eq_true rfl)) 0)) ((f22 23 (of_decide_eq_true rfl)).trans (f8 23 (of_decide_eq_true rfl))) hI22
         exact by
          have I69 : jI31 σ20 := jI31_fr ((congrFun (f22 31 (of_decide_eq_true rfl)) 8).trans (congrFun (f8 31 (of_decide_eq_true rfl)) 8)) ((f22 33 (of_decide_eq_true rfl)).trans (f8 33 (of_decide_eq_true rfl))) ((f22 36 (of_decide_eq_true rfl)).trans (f8 36 (of_decide_eq_true rfl))) hI31
          have I70 : jI38 σ20 := jI38_fr ((congrFun (f22 38 (of_decide_eq_true rfl)) 0).trans (congrFun (f8 38 (of_decide_eq_true rfl)) 0)) ((congrFun (f22 38 (of_decide_eq_true rfl)) 1).trans (congrFun (f8 38 (of_decide_eq_true rfl)) 1)) ((f22 39 (of_decide_eq_true rfl)).trans (f8 39 (of_decide_eq_true rfl))) hI38
          have I71 : jI43 σ20 := jI43_fr ((congrFun (f22 43 (of_decide_eq_true rfl)) 8).trans (congrFun (f8 43 (of_decide_eq_true rfl)) 8)) hI43
          have I72 : jI47 σ20 := jI47_fr (congrFun (f22 47 (of_decide_eq_true rfl)) 0) (f22 48 (of_decide_eq_true rfl)) (f22 49 (of_decide_eq_true rfl)) I10
          have I73 : jI50 σ20 := jI50_fr ((f22 52 (of_decide_eq_true rfl)).trans (f8 52 (of_decide_eq_true rfl))) hI50
          have I74 : jI101 σ20 := jI101_fr ((f23 4 (of_decide_eq_true rfl)).trans (congrFun (f8 55 (of_decide_eq_true rfl)) 4)) ((f23 5 (of_decide_eq_true rfl)).trans (congrFun (f8 55 (of_decide_eq_true rfl)) 5)) ((f22 56 (of_decide_eq_true rfl)).trans (f8 56 (of_decide_eq_true rfl))) ((f22 57 (of_decide_eq_true rfl)).trans (f8 57 (of_decide_eq_true rfl))) ((f22 58 (of_decide_eq_true rfl)).trans (f8 58 (of_decide_eq_true rfl))) ((f22 59 (of_decide_eq_true rfl)).trans (f8 59 (of_decide_eq_true rfl))) hI101
          have I75 : jI102 σ20 := jI102_fr (f23 6 (of_decide_eq_true rfl)) (f22 60 (of_decide_eq_true rfl)) (f22 61 (of_decide_eq_true rfl)) I13
          have I76 : jI103 σ20 := jI103_fr ((f23 9 (of_decide_eq_true rfl)).trans (congrFun (f8 55 (of_decide_eq_true rfl)) 9)) hI103
          have I77 : jI104 σ20 := jI104_fr (f23 10 (of_decide_eq_true rfl)) (f23 12 (of_decide_eq_true rfl)) (f23 13 (of_decide_eq_true rfl)) (f22 62 (of_decide_eq_true rfl)) (f22 67 (of_decide_eq_true rfl)) I14
          have I78 : jI105 σ20 := jI105_fr ((f23 15 (of_decide_eq_true rfl)).trans (congrFun (f8 55 (of_decide_eq_true rfl)) 15)) ((f22 65 (of_decide_eq_true rfl)).trans (f8 65 (of_decide_eq_true rfl))) hI105
          have I79 : jI106 σ20 := jI106_fr ((f23 32 (of_decide_eq_true rfl)).trans (congrFun (f8 55 (of_decide_eq_true rfl)) 32)) ((f22 70 (of_decide_eq_true rfl)).trans (f8 70 (of_decide_eq_true rfl))) ((f22 71 (of_decide_eq_true rfl)).trans (f8 71 (of_decide_eq_true rfl))) ((f22 72 (of_decide_eq_true rfl)).trans (f8 72 (of_decide_eq_true rfl))) hI106
          have I80 : jI109 σ20 := jI109_fr ((f23 50 (of_decide_eq_true rfl)).trans (congrFun (f8 55 (of_decide_eq_true rfl)) 50)) hI109
          have I81 : jI110 σ20 := jI110_fr ((f22 86 (of_decide_eq_true rfl)).trans (f8 86 (of_decide_eq_true rfl))) ((f22 87 (of_decide_eq_true rfl)).trans (f8 87 (of_decide_eq_true rfl))) hI110
          have I82 : jI111 σ20 := jI111_fr ((f22 79 (of_decide_eq_true rfl)).trans (f8 79 (of_decide_eq_true rfl))) hI111
          have I83 : jI119 σ20 := w25
          have p84 : jKept σ20 := jKept.fr ((f22 75 (of_decide_eq_true rfl)).trans (f8 75 (of_decide_eq_true rfl))) ((f22 76 (of_decide_eq_true rfl)).trans (f8 76 (of_decide_eq_true rfl))) ((f22 77 (of_decide_eq_true rfl)).trans (f8 77 (of_decide_eq_true rfl))) hs_jKept
          have z85 : (σ20 38 0).toInt = (σ 38 0).toInt := (congrArg Int32.toInt (show σ20 38 0 = (σ 38 0) from ((congrFun (f22 38 (of_decide_eq_true rfl)) 0).trans (congrFun (f8 38 (of_decide_eq_true rfl)) 0))))
          have z86 : (σ20 55 32).toInt = (σ 55 32).toInt := (congrArg Int32.toInt (show σ20 55 32 = (σ 55 32) from ((f23 32 (of_decide_eq_true rfl)).trans (congrFun (f8 55 (of_decide_eq_true rfl)) 32))))
          exact by exact ih x62 σ20 τ _ _ ls (by have h9 := tx62; omega) ⟨I63, I64, I65, I66, I67, I68, I69, I70, I71, I72, I73, I74, I75, I76, I77, I78, I79, I24, I80, I81, I82, I83, p84, p26, (by omega)⟩ hP hS (lv_sub hl [0, 1, 2, 3] rfl)
set_option maxHeartbeats 4000000 in
set_option maxRecDepth 100000 in
theorem law_case_20 {p : Program} {e : Env} {s : State} {m : MethodId} {below : List Frame} {meth : Method} {c : Code} (l : Launch) {b L : Nat} {xs : Nat → Int32} {D : va_G} {cI cL : ClassId} {ad zz : Nat → Nat} (C0 : lw_At p s m meth c b L xs) (hJ : jD ad) (hA : ∀ q, jA ad q → s.heap.size ≤ q) (hK : jK D cI cL s) (hZ : jZ zz (fun q : Nat => s.heap.size ≤ q) s s.heap) {x0 : Int32} (hx0 : 0 ≤ x0.toInt) (hxL : x0.toInt + 6 ≤ (L : Int)) (hL : L ≤ 384) {σ : Nat → Nat → Int32} {τ : Nat → Nat → Int64} {H : Heap} {locs : List Loc} (hS : va_S (fun q : Nat => s.heap.size ≤ q) s.heap H locs) {ls : Array Slot} (hAll : jAll σ τ) (hP : jH D cI cL ad σ τ H) (hl : lv_has ls 4 [(3, .int x0), (2, .ref (ad 55)), (1, .ref (ad 0)), (0, .ref b)]) (ih : ∀ (x1 : Int32) (σ : Nat → Nat → Int32) (τ : Nat → Nat → Int64) (H : Heap) (locs : List Loc) (ls : Array Slot), x1.toInt = x0.toInt + 6 → jAll σ τ → jH D cI cL ad σ τ H → va_S (fun q : Nat => s.heap.size ≤ q) s.heap H locs → lv_has ls 4 [(3, .int x1), (2, .ref (ad 55)), (1, .ref (ad 0)), (0, .ref b)] → W p l e room_1 s m #[Value.ref b] below meth c H locs 90 348600 (lw_Z below #[Value.ref b] s) (F0 m 18 ls [])) : W p l e room_1 s m #[Value.ref b] below meth c H locs 90 348600 (lw_Z below #[Value.ref b] s) (F0 m 806 ls []) := by
  obtain ⟨hx, hb, hr, hml, hown, hts0, hX, hbl, hlocks, hgv⟩ := C0
  have hts : ∀ w ∈ wsL_law, w.before #[Value.ref b] s = true := fun w h => hts0 w (wsL_law_in w h)
  have hbA : ¬ (fun q : Nat => s.heap.size ≤ q) b := Nat.not_le.mpr hbl
  have hown : s.vm.findClass RL = some m.cls := hown
  obtain ⟨hI2, hI9, hI12, hI16, hI18, hI22, hI31, hI38, hI43, hI47, hI50, hI101, hI102, hI103, hI104, hI105, hI106, hI107, hI109, hI110, hI111, hI119, hs_jKept, hs_jBook, ht0⟩ := hAll
  have hL9 : (L : Int) ≤ 384 := by omega
  refine lv_aload_n hx hb dL_law_806 rfl (lv_at hl 2 rfl) ?_
  refine lv_aload_n hx hb dL_law_807 rfl (lv_at hl 3 rfl) ?_
  refine lv_iload_n hx hb dL_law_808 rfl (lv_at hl 0 rfl) ?_
  refine lv_iconst (v := 1) hx hb dL_law_809 (of_decide_eq_true rfl) ?_
  have g1 := jrg (rfl : x0.toInt = x0.toInt)
  refine lv_iadd hx hb dL_law_810 ?_
  refine lv_topi (fun x2 ex2 => ?_)
  exact by
   have tx2 : x2.toInt = x0.toInt + 1 := (jadd ex2 rfl jz_1 (by omega) (by omega)).trans (by omega)
   refine va_sld hx hb hX hbl hbA hS (jin tx2 (by omega) (by omega)) dL_law_811 ?_
   have g3 := jrg (rfl : (xs x2.toNatClampNeg).toInt = (xs x2.toNatClampNeg).toInt)
   refine lv_aload_n hx hb dL_law_812 rfl (lv_at hl 3 rfl) ?_
   refine lv_iload_n hx hb dL_law_813 rfl (lv_at hl 0 rfl) ?_
   refine lv_iconst (v := 2) hx hb dL_law_814 (of_decide_eq_true rfl) ?_
   refine lv_iadd hx hb dL_law_815 ?_
   refine lv_topi (fun x4 ex4 => ?_)
   have tx4 : x4.toInt = x0.toInt + 2 := (jadd ex4 rfl jz_2 (by omega) (by omega)).trans (by omega)
   exact by
    refine va_sld hx hb hX hbl hbA hS (jin tx4 (by omega) (by omega)) dL_law_816 ?_
    have g5 := jrg (rfl : (xs x4.toNatClampNeg).toInt = (xs x4.toNatClampNeg).toInt)
    refine jcallV (As := [.int (xs x2.toNatClampNeg), .int (xs x4.toNatClampNeg)]) (rest := []) ⟨hx, hb, hml, hown, hts⟩ hK hP hA hS hZ (c_X11_books l D cI cL ad zz hJ σ τ (xs x2.toNatClampNeg) ((xs x2.toNatClampNeg).toInt) rfl (xs x4.toNatClampNeg) ((xs x4.toNatClampNeg).toInt) rfl hI2 hI16 hI47 hI50) cw_RL_97 (jc_0 cI cL ad σ τ) rfl ⟨Nat.le_of_ble_eq_true rfl, Nat.le_of_ble_eq_true rfl⟩ rfl rfl rfl hl.1 rfl (Nat.le_of_ble_eq_true rfl) dL_law_817 ⟨Nat.le_of_ble_eq_true rfl, Nat.le_of_ble_eq_true rfl⟩ (fun r7 σ6 τ6 H locs h6 hP hS => ?_)
    obtain ⟨rfl, f8, f9, I10, w11, h6⟩ := h6
    refine lv_pop hx hb dL_law_820 rfl ?_
    refine lv_aload_n hx hb dL_law_821 rfl (lv_at hl 1 rfl) ?_
    refine lv_aload_n hx hb dL_law_822 rfl (lv_at hl 3 rfl) ?_
    refine lv_iload_n hx hb dL_law_823 rfl (lv_at hl 0 rfl) ?_
    refine lv_iconst (v := 1) hx hb dL_law_824 (of_decide_eq_true rfl) ?_
    refine lv_iadd hx hb dL_law_825 ?_
    refine jtopr ex2.symm ?_
    exact by
     refine va_sld hx hb hX hbl hbA hS (jin tx2 (by omega) (by omega)) dL_law_826 ?_
     refine lv_aload_n hx hb dL_law_827 rfl (lv_at hl 3 rfl) ?_
     refine lv_iload_n hx hb dL_law_828 rfl (lv_at hl 0 rfl) ?_
     refine lv_iconst (v := 2) hx hb dL_law_829 (of_decide_eq_true rfl) ?_
     refine lv_iadd hx hb dL_law_830 ?_
     refine jtopr ex4.symm ?_
     refine va_sld hx hb hX hbl hbA hS (jin tx4 (by omega) (by omega)) dL_law_831 ?_
     have I13 : jI102 σ6 := jI102_fr (congrFun (f8 55 (of_decide_eq_true rfl)) 6) (f8 60 (of_decide_eq_true rfl)) (f8 61 (of_decide_eq_true rfl)) hI102
     have I14 : jI104 σ6 := jI104_fr (congrFun (f8 55 (of_decide_eq_true rfl)) 10) (congrFun (f8 55 (of_decide_eq_true rfl)) 12) (congrFun (f8 55 (of_decide_eq_true rfl)) 13) (f8 62 (of_decide_eq_true rfl)) (f8 67 (of_decide_eq_true rfl)) hI104
     exact by
      have I15 : jI107 σ6 := jI107_fr (congrFun (f8 55 (of_decide_eq_true rfl)) 12) (congrFun (f8 55 (of_decide_eq_true rfl)) 47) (f8 80 (of_decide_eq_true rfl)) hI107
      have I16 : jI110 σ6 := jI110_fr (f8 86 (of_decide_eq_true rfl)) (f8 87 (of_decide_eq_true rfl)) hI110
      have I17 : jI119 σ6 := jI119_fr (f8 68 (of_decide_eq_true rfl)) hI119
      have p18 : jBook σ6 := jBook.fr (congrFun (f8 55 (of_decide_eq_true rfl)) 47) (congrFun (f8 55 (of_decide_eq_true rfl)) 10) (f8 81 (of_decide_eq_true rfl)) hs_jBook
      refine jcallV (As := [.int (xs x2.toNatClampNeg), .int (xs x4.toNatClampNeg)]) (rest := []) ⟨hx, hb, hml, hown, hts⟩ hK hP hA hS hZ (c_X12_books l D cI cL ad zz hJ σ6 τ (xs x2.toNatClampNeg) ((xs x2.toNatClampNeg).toInt) rfl (xs x4.toNatClampNeg) ((xs x4.toNatClampNeg).toInt) rfl I13 I14 I15 I16 I17 p18) cw_RL_100 (jc_55 cI cL ad σ6 τ) rfl ⟨Nat.le_of_ble_eq_true rfl, Nat.le_of_ble_eq_true rfl⟩ rfl rfl rfl hl.1 rfl (Nat.le_of_ble_eq_true rfl) dL_law_832 ⟨Nat.le_of_ble_eq_true rfl, Nat.le_of_ble_eq_true rfl⟩ (fun r20 σ19 τ19 H locs h19 hP hS => ?_)
      obtain ⟨rfl, f21, f22, I23, I24, p25, w26, h19⟩ := h19
      refine lv_pop hx hb dL_law_835 rfl ?_
      refine lv_goto (tgt := 1357) hx hb dL_law_836 (of_decide_eq_true rfl) ?_
      obtain ⟨x28, ex28⟩ : ∃ y : Int32, y = x0 + 6 := ⟨_, rfl⟩
      exact by
       have tx28 : x28.toInt = x0.toInt + 6 := (jadd ex28 rfl jz_6 (by omega) (by omega)).trans (by omega)
       refine lv_iinc (v := x28) (lv' := [(3, .int x28), (2, .ref (ad 55)), (1, .ref (ad 0)), (0, .ref b)]) hx hb dL_law_1357 hl (k := 0) rfl (by rw [ex28]; rfl) (of_decide_eq_true rfl) rfl (fun ls hl => ?_)
       refine lv_goto (tgt := 18) hx hb dL_law_1360 (of_decide_eq_true rfl) ?_
       have I29 : jI2 σ19 := jI2_fr ((congrFun (f21 2 (of_decide_eq_true rfl)) 0).trans (congrFun (f8 2 (of_decide_eq_true rfl)) 0)) ((congrFun (f21 2 (of_decide_eq_true rfl)) 1).trans (congrFun (f8 2 (of_decide_eq_true rfl)) 1)) ((congrFun (f21 2 (of_decide_eq_true rfl)) 2).trans (congrFun (f8 2 (of_decide_eq_true rfl)) 2)) ((congrFun (f21 2 (of_decide_eq_true rfl)) 3).trans (congrFun (f8 2 (of_decide_eq_true rfl)) 3)) ((f21 6 (of_decide_eq_true rfl)).trans (f8 6 (of_decide_eq_true rfl))) hI2
       have I30 : jI9 σ19 := jI9_fr ((congrFun (f21 9 (of_decide_eq_true rfl)) 0).trans (congrFun (f8 9 (of_decide_eq_true rfl)) 0)) ((f21 10 (of_decide_eq_true rfl)).trans (f8 10 (of_decide_eq_true rfl))) ((f21 11 (of_decide_eq_true rfl)).trans (f8 11 (of_decide_eq_true rfl))) hI9
       have I31 : jI12 σ19 := jI12_fr ((congrFun (f21 12 (of_decide_eq_true rfl)) 0).trans (congrFun (f8 12 (of_decide_eq_true rfl)) 0)) ((f21 13 (of_decide_eq_true rfl)).trans (f8 13 (of_decide_eq_true rfl))) hI12
       have I32 : jI16 σ19 := jI16_fr ((congrFun (f21 16 (of_decide_eq_true rfl)) 0).trans (congrFun (f8 16 (of_decide_eq_true rfl)) 0)) ((congrFun (f21 16 (of_decide_eq_true rfl)) 1).trans (congrFun (f8 16 (of_decide_eq_true rfl)) 1)) ((congrFun (f21 16 (of_decide_eq_true rfl)) 2).trans (congrFun (f8 16 (of_decide_eq_true rfl)) 2)) ((f21 17 (of_decide_eq_true rfl)).trans (f8 17 (of_decide_eq_true rfl))) hI16
       have I33 : jI18 σ19 := jI18_fr ((congrFun (f21 18 (of_decide_eq_true rfl)) 0).trans (congrFun (f8 18 (of_decide_eq_true rfl)) 0)) ((f21 19 (of_decide_eq_true rfl)).trans (f8 19 (of_decide_eq_true rfl))) hI18
       have I34 : jI22 σ19 := jI22_fr ((congrFun (f21 22 (of_decide_eq_true rfl)) 0).trans (congrFun (f8 22 (of_decide_eq_true rfl)) 0)) ((f21 23 (of_decide_eq_true rfl)).trans (f8 23 (of_decide_eq_true rfl))) hI22
       exact by
        have I35 : jI31 σ19 := jI31_fr ((congrFun (f21 31 (of_decide_eq_true rfl)) 8).trans (congrFun (f8 31 (of_decide_eq_true rfl)) 8)) ((f21 33 (of_decide_eq_true rfl)).trans (f8 33 (of_decide_eq_true rfl))) ((f21 36 (of_decide_eq_true rfl)).trans (f8 36 (of_decide_eq_true rfl))) hI31
        have I36 : jI38 σ19 := jI38_fr ((congrFun (f21 38 (of_decide_eq_true rfl)) 0).trans (congrFun (f8 38 (of_decide_eq_true rfl)) 0)) ((congrFun (f21 38 (of_decide_eq_true rfl)) 1).trans (congrFun (f8 38 (of_decide_eq_true rfl)) 1)) ((f21 39 (of_decide_eq_true rfl)).trans (f8 39 (of_decide_eq_true rfl))) hI38
        have I37 : jI43 σ19 := jI43_fr ((congrFun (f21 43 (of_decide_eq_true rfl)) 8).trans (congrFun (f8 43 (of_decide_eq_true rfl)) 8)) hI43
        have I38 : jI47 σ19 := jI47_fr (congrFun (f21 47 (of_decide_eq_true rfl)) 0) (f21 48 (of_decide_eq_true rfl)) (f21 49 (of_decide_eq_true rfl)) I10
        have I39 : jI50 σ19 := jI50_fr ((f21 52 (of_decide_eq_true rfl)).trans (f8 52 (of_decide_eq_true rfl))) hI50
        have I40 : jI101 σ19 := jI101_fr ((f22 4 (of_decide_eq_true rfl)).trans (congrFun (f8 55 (of_decide_eq_true rfl)) 4)) ((f22 5 (of_decide_eq_true rfl)).trans (congrFun (f8 55 (of_decide_eq_true rfl)) 5)) ((f21 56 (of_decide_eq_true rfl)).trans (f8 56 (of_decide_eq_true rfl))) ((f21 57 (of_decide_eq_true rfl)).trans (f8 57 (of_decide_eq_true rfl))) ((f21 58 (of_decide_eq_true rfl)).trans (f8 58 (of_decide_eq_true rfl))) ((f21 59 (of_decide_eq_true rfl)).trans (f8 59 (of_decide_eq_true rfl))) hI101
        have I41 : jI102 σ19 := jI102_fr (f22 6 (of_decide_eq_true rfl)) (f21 60 (of_decide_eq_true rfl)) (f21 61 (of_decide_eq_true rfl)) I13
        have I42 : jI103 σ19 := jI103_fr ((f22 9 (of_decide_eq_true rfl)).trans (congrFun (f8 55 (of_decide_eq_true rfl)) 9)) hI103
        have I43 : jI104 σ19 := jI104_fr (f22 10 (of_decide_eq_true rfl)) (f22 12 (of_decide_eq_true rfl)) (f22 13 (of_decide_eq_true rfl)) (f21 62 (of_decide_eq_true rfl)) (f21 67 (of_decide_eq_true rfl)) I14
        have I44 : jI105 σ19 := jI105_fr ((f22 15 (of_decide_eq_true rfl)).trans (congrFun (f8 55 (of_decide_eq_true rfl)) 15)) ((f21 65 (of_decide_eq_true rfl)).trans (f8 65 (of_decide_eq_true rfl))) hI105
        have I45 : jI106 σ19 := jI106_fr ((f22 32 (of_decide_eq_true rfl)).trans (congrFun (f8 55 (of_decide_eq_true rfl)) 32)) ((f21 70 (of_decide_eq_true rfl)).trans (f8 70 (of_decide_eq_true rfl))) ((f21 71 (of_decide_eq_true rfl)).trans (f8 71 (of_decide_eq_true rfl))) ((f21 72 (of_decide_eq_true rfl)).trans (f8 72 (of_decide_eq_true rfl))) hI106
        have I46 : jI109 σ19 := jI109_fr ((f22 50 (of_decide_eq_true rfl)).trans (congrFun (f8 55 (of_decide_eq_true rfl)) 50)) hI109
        have I47 : jI110 σ19 := jI110_fr (f21 86 (of_decide_eq_true rfl)) (f21 87 (of_decide_eq_true rfl)) I16
        have I48 : jI111 σ19 := jI111_fr ((f21 79 (of_decide_eq_true rfl)).trans (f8 79 (of_decide_eq_true rfl))) hI111
        have p49 : jKept σ19 := jKept.fr ((f21 75 (of_decide_eq_true rfl)).trans (f8 75 (of_decide_eq_true rfl))) ((f21 76 (of_decide_eq_true rfl)).trans (f8 76 (of_decide_eq_true rfl))) ((f21 77 (of_decide_eq_true rfl)).trans (f8 77 (of_decide_eq_true rfl))) hs_jKept
        have z50 : (σ19 38 0).toInt = (σ 38 0).toInt := (congrArg Int32.toInt (show σ19 38 0 = (σ 38 0) from ((congrFun (f21 38 (of_decide_eq_true rfl)) 0).trans (congrFun (f8 38 (of_decide_eq_true rfl)) 0))))
        have z51 : (σ19 55 32).toInt = (σ 55 32).toInt := (congrArg Int32.toInt (show σ19 55 32 = (σ 55 32) from ((f22 32 (of_decide_eq_true rfl)).trans (congrFun (f8 55 (of_decide_eq_true rfl)) 32))))
        exact by exact ih x28 σ19 τ _ _ ls (by have h9 := tx28; omega) ⟨I29, I30, I31, I32, I33, I34, I35, I36, I37, I38, I39, I40, I41, I42, I43, I44, I45, I23, I46, I47, I48, I24, p49, p25, (by omega)⟩ hP hS (lv_sub hl [0, 1, 2, 3] rfl)
set_option maxHeartbeats 4000000 in
set_option maxRecDepth 100000 in
theorem law_case_21 {p : Program} {e : Env} {s : State} {m : MethodId} {below : List Frame} {meth : Method} {c : Code} (l : Launch) {b L : Nat} {xs : Nat → Int32} {D : va_G} {cI cL : ClassId} {ad zz : Nat → Nat} (C0 : lw_At p s m meth c b L xs) (hJ : jD ad) (hA : ∀ q, jA ad q → s.heap.size ≤ q) (hK : jK D cI cL s) (hZ : jZ zz (fun q : Nat => s.heap.size ≤ q) s s.heap) {x0 : Int32} (hx0 : 0 ≤ x0.toInt) (hxL : x0.toInt + 6 ≤ (L : Int)) (hL : L ≤ 384) {σ : Nat → Nat → Int32} {τ : Nat → Nat → Int64} {H : Heap} {locs : List Loc} (hS : va_S (fun q : Nat => s.heap.size ≤ q) s.heap H locs) {ls : Array Slot} (hAll : jAll σ τ) (hP : jH D cI cL ad σ τ H) (hl : lv_has ls 4 [(3, .int x0), (2, .ref (ad 55)), (1, .ref (ad 0)), (0, .ref b)]) (ih : ∀ (x1 : Int32) (σ : Nat → Nat → Int32) (τ : Nat → Nat → Int64) (H : Heap) (locs : List Loc) (ls : Array Slot), x1.toInt = x0.toInt + 6 → jAll σ τ → jH D cI cL ad σ τ H → va_S (fun q : Nat => s.heap.size ≤ q) s.heap H locs → lv_has ls 4 [(3, .int x1), (2, .ref (ad 55)), (1, .ref (ad 0)), (0, .ref b)] → W p l e room_1 s m #[Value.ref b] below meth c H locs 90 348600 (lw_Z below #[Value.ref b] s) (F0 m 18 ls [])) : W p l e room_1 s m #[Value.ref b] below meth c H locs 90 348600 (lw_Z below #[Value.ref b] s) (F0 m 839 ls []) := by
  obtain ⟨hx, hb, hr, hml, hown, hts0, hX, hbl, hlocks, hgv⟩ := C0
  have hts : ∀ w ∈ wsL_law, w.before #[Value.ref b] s = true := fun w h => hts0 w (wsL_law_in w h)
  have hbA : ¬ (fun q : Nat => s.heap.size ≤ q) b := Nat.not_le.mpr hbl
  have hown : s.vm.findClass RL = some m.cls := hown
  obtain ⟨hI2, hI9, hI12, hI16, hI18, hI22, hI31, hI38, hI43, hI47, hI50, hI101, hI102, hI103, hI104, hI105, hI106, hI107, hI109, hI110, hI111, hI119, hs_jKept, hs_jBook, ht0⟩ := hAll
  have hL9 : (L : Int) ≤ 384 := by omega
  refine lv_aload_n hx hb dL_law_839 rfl (lv_at hl 2 rfl) ?_
  refine jcallV (As := []) (rest := []) ⟨hx, hb, hml, hown, hts⟩ hK hP hA hS hZ (c_X11_close l D cI cL ad zz hJ σ τ hI47) cw_RL_101 (jc_0 cI cL ad σ τ) rfl ⟨Nat.le_of_ble_eq_true rfl, Nat.le_of_ble_eq_true rfl⟩ rfl rfl rfl hl.1 rfl (Nat.le_of_ble_eq_true rfl) dL_law_840 ⟨Nat.le_of_ble_eq_true rfl, Nat.le_of_ble_eq_true rfl⟩ (fun r2 σ1 τ1 H locs h1 hP hS => ?_)
  obtain ⟨rfl, f3, f4, I5, h1⟩ := h1
  have h7 := h1
  obtain ⟨q10, k8, k9⟩ := h7
  refine lv_pop hx hb dL_law_843 rfl ?_
  refine lv_aload_n hx hb dL_law_844 rfl (lv_at hl 1 rfl) ?_
  have I11 : jI104 σ1 := jI104_fr (congrFun (f3 55 (of_decide_eq_true rfl)) 10) (congrFun (f3 55 (of_decide_eq_true rfl)) 12) (congrFun (f3 55 (of_decide_eq_true rfl)) 13) (f3 62 (of_decide_eq_true rfl)) (f3 67 (of_decide_eq_true rfl)) hI104
  have I12 : jI107 σ1 := jI107_fr (congrFun (f3 55 (of_decide_eq_true rfl)) 12) (congrFun (f3 55 (of_decide_eq_true rfl)) 47) (f3 80 (of_decide_eq_true rfl)) hI107
  have p13 : jBook σ1 := jBook.fr (congrFun (f3 55 (of_decide_eq_true rfl)) 47) (congrFun (f3 55 (of_decide_eq_true rfl)) 10) (f3 81 (of_decide_eq_true rfl)) hs_jBook
  have z14 : (σ1 55 47).toInt = (σ 55 47).toInt := (congrArg Int32.toInt (show σ1 55 47 = (σ 55 47) from (congrFun (f3 55 (of_decide_eq_true rfl)) 47)))
  refine jcallV (As := []) (rest := []) ⟨hx, hb, hml, hown, hts⟩ hK hP hA hS hZ (c_X12_close l D cI cL ad zz hJ σ1 τ I11 I12 p13) cw_RL_104 (jc_55 cI cL ad σ1 τ) rfl ⟨Nat.le_of_ble_eq_true rfl, Nat.le_of_ble_eq_true rfl⟩ rfl rfl rfl hl.1 rfl (Nat.le_of_ble_eq_true rfl) dL_law_845 ⟨Nat.le_of_ble_eq_true rfl, Nat.le_of_ble_eq_true rfl⟩ (fun r16 σ15 τ15 H locs h15 hP hS => ?_)
  obtain ⟨rfl, f17, f18, I19, p20, h15⟩ := h15
  have h22 := h15
  obtain ⟨q25, k23, k24⟩ := h22
  refine lv_pop hx hb dL_law_848 rfl ?_
  refine lv_goto (tgt := 1357) hx hb dL_law_849 (of_decide_eq_true rfl) ?_
  obtain ⟨x26, ex26⟩ : ∃ y : Int32, y = x0 + 6 := ⟨_, rfl⟩
  exact by
   have tx26 : x26.toInt = x0.toInt + 6 := (jadd ex26 rfl jz_6 (by omega) (by omega)).trans (by omega)
   refine lv_iinc (v := x26) (lv' := [(3, .int x26), (2, .ref (ad 55)), (1, .ref (ad 0)), (0, .ref b)]) hx hb dL_law_1357 hl (k := 0) rfl (by rw [ex26]; rfl) (of_decide_eq_true rfl) rfl (fun ls hl => ?_)
   refine lv_goto (tgt := 18) hx hb dL_law_1360 (of_decide_eq_true rfl) ?_
   have I27 : jI2 σ15 := jI2_fr ((congrFun (f17 2 (of_decide_eq_true rfl)) 0).trans (congrFun (f3 2 (of_decide_eq_true rfl)) 0)) ((congrFun (f17 2 (of_decide_eq_true rfl)) 1).trans (congrFun (f3 2 (of_decide_eq_true rfl)) 1)) ((congrFun (f17 2 (of_decide_eq_true rfl)) 2).trans (congrFun (f3 2 (of_decide_eq_true rfl)) 2)) ((congrFun (f17 2 (of_decide_eq_true rfl)) 3).trans (congrFun (f3 2 (of_decide_eq_true rfl)) 3)) ((f17 6 (of_decide_eq_true rfl)).trans (f3 6 (of_decide_eq_true rfl))) hI2
   have I28 : jI9 σ15 := jI9_fr ((congrFun (f17 9 (of_decide_eq_true rfl)) 0).trans (congrFun (f3 9 (of_decide_eq_true rfl)) 0)) ((f17 10 (of_decide_eq_true rfl)).trans (f3 10 (of_decide_eq_true rfl))) ((f17 11 (of_decide_eq_true rfl)).trans (f3 11 (of_decide_eq_true rfl))) hI9
   have I29 : jI12 σ15 := jI12_fr ((congrFun (f17 12 (of_decide_eq_true rfl)) 0).trans (congrFun (f3 12 (of_decide_eq_true rfl)) 0)) ((f17 13 (of_decide_eq_true rfl)).trans (f3 13 (of_decide_eq_true rfl))) hI12
   have I30 : jI16 σ15 := jI16_fr ((congrFun (f17 16 (of_decide_eq_true rfl)) 0).trans (congrFun (f3 16 (of_decide_eq_true rfl)) 0)) ((congrFun (f17 16 (of_decide_eq_true rfl)) 1).trans (congrFun (f3 16 (of_decide_eq_true rfl)) 1)) ((congrFun (f17 16 (of_decide_eq_true rfl)) 2).trans (congrFun (f3 16 (of_decide_eq_true rfl)) 2)) ((f17 17 (of_decide_eq_true rfl)).trans (f3 17 (of_decide_eq_true rfl))) hI16
   have I31 : jI18 σ15 := jI18_fr ((congrFun (f17 18 (of_decide_eq_true rfl)) 0).trans (congrFun (f3 18 (of_decide_eq_true rfl)) 0)) ((f17 19 (of_decide_eq_true rfl)).trans (f3 19 (of_decide_eq_true rfl))) hI18
   have I32 : jI22 σ15 := jI22_fr ((congrFun (f17 22 (of_decide_eq_true rfl)) 0).trans (congrFun (f3 22 (of_decide_eq_true rfl)) 0)) ((f17 23 (of_decide_eq_true rfl)).trans (f3 23 (of_decide_eq_true rfl))) hI22
   exact by
    have I33 : jI31 σ15 := jI31_fr ((congrFun (f17 31 (of_decide_eq_true rfl)) 8).trans (congrFun (f3 31 (of_decide_eq_true rfl)) 8)) ((f17 33 (of_decide_eq_true rfl)).trans (f3 33 (of_decide_eq_true rfl))) ((f17 36 (of_decide_eq_true rfl)).trans (f3 36 (of_decide_eq_true rfl))) hI31
    have I34 : jI38 σ15 := jI38_fr ((congrFun (f17 38 (of_decide_eq_true rfl)) 0).trans (congrFun (f3 38 (of_decide_eq_true rfl)) 0)) ((congrFun (f17 38 (of_decide_eq_true rfl)) 1).trans (congrFun (f3 38 (of_decide_eq_true rfl)) 1)) ((f17 39 (of_decide_eq_true rfl)).trans (f3 39 (of_decide_eq_true rfl))) hI38
    have I35 : jI43 σ15 := jI43_fr ((congrFun (f17 43 (of_decide_eq_true rfl)) 8).trans (congrFun (f3 43 (of_decide_eq_true rfl)) 8)) hI43
    have I36 : jI47 σ15 := jI47_fr (congrFun (f17 47 (of_decide_eq_true rfl)) 0) (f17 48 (of_decide_eq_true rfl)) (f17 49 (of_decide_eq_true rfl)) I5
    have I37 : jI50 σ15 := jI50_fr ((f17 52 (of_decide_eq_true rfl)).trans (f3 52 (of_decide_eq_true rfl))) hI50
    have I38 : jI101 σ15 := jI101_fr ((f18 4 (of_decide_eq_true rfl)).trans (congrFun (f3 55 (of_decide_eq_true rfl)) 4)) ((f18 5 (of_decide_eq_true rfl)).trans (congrFun (f3 55 (of_decide_eq_true rfl)) 5)) ((f17 56 (of_decide_eq_true rfl)).trans (f3 56 (of_decide_eq_true rfl))) ((f17 57 (of_decide_eq_true rfl)).trans (f3 57 (of_decide_eq_true rfl))) ((f17 58 (of_decide_eq_true rfl)).trans (f3 58 (of_decide_eq_true rfl))) ((f17 59 (of_decide_eq_true rfl)).trans (f3 59 (of_decide_eq_true rfl))) hI101
    have I39 : jI102 σ15 := jI102_fr ((f18 6 (of_decide_eq_true rfl)).trans (congrFun (f3 55 (of_decide_eq_true rfl)) 6)) ((f17 60 (of_decide_eq_true rfl)).trans (f3 60 (of_decide_eq_true rfl))) ((f17 61 (of_decide_eq_true rfl)).trans (f3 61 (of_decide_eq_true rfl))) hI102
    have I40 : jI103 σ15 := jI103_fr ((f18 9 (of_decide_eq_true rfl)).trans (congrFun (f3 55 (of_decide_eq_true rfl)) 9)) hI103
    have I41 : jI104 σ15 := jI104_fr (f18 10 (of_decide_eq_true rfl)) (f18 12 (of_decide_eq_true rfl)) (f18 13 (of_decide_eq_true rfl)) (f17 62 (of_decide_eq_true rfl)) (f17 67 (of_decide_eq_true rfl)) I11
    have I42 : jI105 σ15 := jI105_fr ((f18 15 (of_decide_eq_true rfl)).trans (congrFun (f3 55 (of_decide_eq_true rfl)) 15)) ((f17 65 (of_decide_eq_true rfl)).trans (f3 65 (of_decide_eq_true rfl))) hI105
    have I43 : jI106 σ15 := jI106_fr ((f18 32 (of_decide_eq_true rfl)).trans (congrFun (f3 55 (of_decide_eq_true rfl)) 32)) ((f17 70 (of_decide_eq_true rfl)).trans (f3 70 (of_decide_eq_true rfl))) ((f17 71 (of_decide_eq_true rfl)).trans (f3 71 (of_decide_eq_true rfl))) ((f17 72 (of_decide_eq_true rfl)).trans (f3 72 (of_decide_eq_true rfl))) hI106
    have I44 : jI109 σ15 := jI109_fr ((f18 50 (of_decide_eq_true rfl)).trans (congrFun (f3 55 (of_decide_eq_true rfl)) 50)) hI109
    have I45 : jI110 σ15 := jI110_fr ((f17 86 (of_decide_eq_true rfl)).trans (f3 86 (of_decide_eq_true rfl))) ((f17 87 (of_decide_eq_true rfl)).trans (f3 87 (of_decide_eq_true rfl))) hI110
    have I46 : jI111 σ15 := jI111_fr ((f17 79 (of_decide_eq_true rfl)).trans (f3 79 (of_decide_eq_true rfl))) hI111
    have I47 : jI119 σ15 := jI119_fr ((f17 68 (of_decide_eq_true rfl)).trans (f3 68 (of_decide_eq_true rfl))) hI119
    have p48 : jKept σ15 := jKept.fr ((f17 75 (of_decide_eq_true rfl)).trans (f3 75 (of_decide_eq_true rfl))) ((f17 76 (of_decide_eq_true rfl)).trans (f3 76 (of_decide_eq_true rfl))) ((f17 77 (of_decide_eq_true rfl)).trans (f3 77 (of_decide_eq_true rfl))) hs_jKept
    have z49 : (σ15 38 0).toInt = (σ 38 0).toInt := (congrArg Int32.toInt (show σ15 38 0 = (σ 38 0) from ((congrFun (f17 38 (of_decide_eq_true rfl)) 0).trans (congrFun (f3 38 (of_decide_eq_true rfl)) 0))))
    have z50 : (σ15 55 32).toInt = (σ 55 32).toInt := (congrArg Int32.toInt (show σ15 55 32 = (σ 55 32) from ((f18 32 (of_decide_eq_true rfl)).trans (congrFun (f3 55 (of_decide_eq_true rfl)) 32))))
    exact by exact ih x26 σ15 τ _ _ ls (by have h9 := tx26; omega) ⟨I27, I28, I29, I30, I31, I32, I33, I34, I35, I36, I37, I38, I39, I40, I41, I42, I43, I19, I44, I45, I46, I47, p48, p20, (by omega)⟩ hP hS (lv_sub hl [0, 1, 2, 3] rfl)
set_option maxHeartbeats 4000000 in
set_option maxRecDepth 100000 in
theorem law_case_22 {p : Program} {e : Env} {s : State} {m : MethodId} {below : List Frame} {meth : Method} {c : Code} (l : Launch) {b L : Nat} {xs : Nat → Int32} {D : va_G} {cI cL : ClassId} {ad zz : Nat → Nat} (C0 : lw_At p s m meth c b L xs) (hJ : jD ad) (hA : ∀ q, jA ad q → s.heap.size ≤ q) (hK : jK D cI cL s) (hZ : jZ zz (fun q : Nat => s.heap.size ≤ q) s s.heap) {x0 : Int32} (hx0 : 0 ≤ x0.toInt) (hxL : x0.toInt + 6 ≤ (L : Int)) (hL : L ≤ 384) {σ : Nat → Nat → Int32} {τ : Nat → Nat → Int64} {H : Heap} {locs : List Loc} (hS : va_S (fun q : Nat => s.heap.size ≤ q) s.heap H locs) {ls : Array Slot} (hAll : jAll σ τ) (hP : jH D cI cL ad σ τ H) (hl : lv_has ls 4 [(3, .int x0), (2, .ref (ad 55)), (1, .ref (ad 0)), (0, .ref b)]) (ih : ∀ (x1 : Int32) (σ : Nat → Nat → Int32) (τ : Nat → Nat → Int64) (H : Heap) (locs : List Loc) (ls : Array Slot), x1.toInt = x0.toInt + 6 → jAll σ τ → jH D cI cL ad σ τ H → va_S (fun q : Nat => s.heap.size ≤ q) s.heap H locs → lv_has ls 4 [(3, .int x1), (2, .ref (ad 55)), (1, .ref (ad 0)), (0, .ref b)] → W p l e room_1 s m #[Value.ref b] below meth c H locs 90 348600 (lw_Z below #[Value.ref b] s) (F0 m 18 ls [])) : W p l e room_1 s m #[Value.ref b] below meth c H locs 90 348600 (lw_Z below #[Value.ref b] s) (F0 m 852 ls []) := by
  obtain ⟨hx, hb, hr, hml, hown, hts0, hX, hbl, hlocks, hgv⟩ := C0
  have hts : ∀ w ∈ wsL_law, w.before #[Value.ref b] s = true := fun w h => hts0 w (wsL_law_in w h)
  have hbA : ¬ (fun q : Nat => s.heap.size ≤ q) b := Nat.not_le.mpr hbl
  have hown : s.vm.findClass RL = some m.cls := hown
  obtain ⟨hI2, hI9, hI12, hI16, hI18, hI22, hI31, hI38, hI43, hI47, hI50, hI101, hI102, hI103, hI104, hI105, hI106, hI107, hI109, hI110, hI111, hI119, hs_jKept, hs_jBook, ht0⟩ := hAll
  have hL9 : (L : Int) ≤ 384 := by omega
  refine lv_aload_n hx hb dL_law_852 rfl (lv_at hl 2 rfl) ?_
  refine lv_aload_n hx hb dL_law_853 rfl (lv_at hl 3 rfl) ?_
  refine lv_iload_n hx hb dL_law_854 rfl (lv_at hl 0 rfl) ?_
  refine lv_iconst (v := 1) hx hb dL_law_855 (of_decide_eq_true rfl) ?_
  have g1 := jrg (rfl : x0.toInt = x0.toInt)
  refine lv_iadd hx hb dL_law_856 ?_
  refine lv_topi (fun x2 ex2 => ?_)
  exact by
   have tx2 : x2.toInt = x0.toInt + 1 := (jadd ex2 rfl jz_1 (by omega) (by omega)).trans (by omega)
   refine va_sld hx hb hX hbl hbA hS (jin tx2 (by omega) (by omega)) dL_law_857 ?_
   have g3 := jrg (rfl : (xs x2.toNatClampNeg).toInt = (xs x2.toNatClampNeg).toInt)
   refine jcallV (As := [.int (xs x2.toNatClampNeg)]) (rest := []) ⟨hx, hb, hml, hown, hts⟩ hK hP hA hS hZ (c_X11_cost l D cI cL ad zz hJ σ τ (xs x2.toNatClampNeg) ((xs x2.toNatClampNeg).toInt) rfl hI2 hI16 hI22 hI31 hI47) cw_RL_105 (jc_0 cI cL ad σ τ) rfl ⟨Nat.le_of_ble_eq_true rfl, Nat.le_of_ble_eq_true rfl⟩ rfl rfl rfl hl.1 rfl (Nat.le_of_ble_eq_true rfl) dL_law_858 ⟨Nat.le_of_ble_eq_true rfl, Nat.le_of_ble_eq_true rfl⟩ (fun r5 σ4 τ4 H locs h4 hP hS => ?_)
   obtain ⟨rfl, f6, f7, I8, h4⟩ := h4
   refine lv_pop hx hb dL_law_861 rfl ?_
   refine lv_aload_n hx hb dL_law_862 rfl (lv_at hl 1 rfl) ?_
   refine lv_aload_n hx hb dL_law_863 rfl (lv_at hl 3 rfl) ?_
   refine lv_iload_n hx hb dL_law_864 rfl (lv_at hl 0 rfl) ?_
   exact by
    refine lv_iconst (v := 1) hx hb dL_law_865 (of_decide_eq_true rfl) ?_
    refine lv_iadd hx hb dL_law_866 ?_
    refine jtopr ex2.symm ?_
    refine va_sld hx hb hX hbl hbA hS (jin tx2 (by omega) (by omega)) dL_law_867 ?_
    have I10 : jI101 σ4 := jI101_fr (congrFun (f6 55 (of_decide_eq_true rfl)) 4) (congrFun (f6 55 (of_decide_eq_true rfl)) 5) (f6 56 (of_decide_eq_true rfl)) (f6 57 (of_decide_eq_true rfl)) (f6 58 (of_decide_eq_true rfl)) (f6 59 (of_decide_eq_true rfl)) hI101
    have I11 : jI102 σ4 := jI102_fr (congrFun (f6 55 (of_decide_eq_true rfl)) 6) (f6 60 (of_decide_eq_true rfl)) (f6 61 (of_decide_eq_true rfl)) hI102
    have I12 : jI103 σ4 := jI103_fr (congrFun (f6 55 (of_decide_eq_true rfl)) 9) hI103
    have I13 : jI104 σ4 := jI104_fr (congrFun (f6 55 (of_decide_eq_true rfl)) 10) (congrFun (f6 55 (of_decide_eq_true rfl)) 12) (congrFun (f6 55 (of_decide_eq_true rfl)) 13) (f6 62 (of_decide_eq_true rfl)) (f6 67 (of_decide_eq_true rfl)) hI104
    have I14 : jI105 σ4 := jI105_fr (congrFun (f6 55 (of_decide_eq_true rfl)) 15) (f6 65 (of_decide_eq_true rfl)) hI105
    exact by
     have I15 : jI106 σ4 := jI106_fr (congrFun (f6 55 (of_decide_eq_true rfl)) 32) (f6 70 (of_decide_eq_true rfl)) (f6 71 (of_decide_eq_true rfl)) (f6 72 (of_decide_eq_true rfl)) hI106
     have I16 : jI107 σ4 := jI107_fr (congrFun (f6 55 (of_decide_eq_true rfl)) 12) (congrFun (f6 55 (of_decide_eq_true rfl)) 47) (f6 80 (of_decide_eq_true rfl)) hI107
     have I17 : jI119 σ4 := jI119_fr (f6 68 (of_decide_eq_true rfl)) hI119
     have p18 : jKept σ4 := jKept.fr (f6 75 (of_decide_eq_true rfl)) (f6 76 (of_decide_eq_true rfl)) (f6 77 (of_decide_eq_true rfl)) hs_jKept
     have p19 : jBook σ4 := jBook.fr (congrFun (f6 55 (of_decide_eq_true rfl)) 47) (congrFun (f6 55 (of_decide_eq_true rfl)) 10) (f6 81 (of_decide_eq_true rfl)) hs_jBook
     refine jcallV (As := [.int (xs x2.toNatClampNeg)]) (rest := []) ⟨hx, hb, hml, hown, hts⟩ hK hP hA hS hZ (c_X12_cost l D cI cL ad zz hJ σ4 τ (xs x2.toNatClampNeg) ((xs x2.toNatClampNeg).toInt) rfl I10 I11 I12 I13 I14 I15 I16 I17 p18 p19) cw_RL_108 (jc_55 cI cL ad σ4 τ) rfl ⟨Nat.le_of_ble_eq_true rfl, Nat.le_of_ble_eq_true rfl⟩ rfl rfl rfl hl.1 rfl (Nat.le_of_ble_eq_true rfl) dL_law_868 ⟨Nat.le_of_ble_eq_true rfl, Nat.le_of_ble_eq_true rfl⟩ (fun r21 σ20 τ20 H locs h20 hP hS => ?_)
     obtain ⟨rfl, f22, f23, I24, p25, p26, h20⟩ := h20
     refine lv_pop hx hb dL_law_871 rfl ?_
     refine lv_goto (tgt := 1357) hx hb dL_law_872 (of_decide_eq_true rfl) ?_
     obtain ⟨x28, ex28⟩ : ∃ y : Int32, y = x0 + 6 := ⟨_, rfl⟩
     exact by
      have tx28 : x28.toInt = x0.toInt + 6 := (jadd ex28 rfl jz_6 (by omega) (by omega)).trans (by omega)
      refine lv_iinc (v := x28) (lv' := [(3, .int x28), (2, .ref (ad 55)), (1, .ref (ad 0)), (0, .ref b)]) hx hb dL_law_1357 hl (k := 0) rfl (by rw [ex28]; rfl) (of_decide_eq_true rfl) rfl (fun ls hl => ?_)
      refine lv_goto (tgt := 18) hx hb dL_law_1360 (of_decide_eq_true rfl) ?_
      have I29 : jI2 σ20 := jI2_fr ((congrFun (f22 2 (of_decide_eq_true rfl)) 0).trans (congrFun (f6 2 (of_decide_eq_true rfl)) 0)) ((congrFun (f22 2 (of_decide_eq_true rfl)) 1).trans (congrFun (f6 2 (of_decide_eq_true rfl)) 1)) ((congrFun (f22 2 (of_decide_eq_true rfl)) 2).trans (congrFun (f6 2 (of_decide_eq_true rfl)) 2)) ((congrFun (f22 2 (of_decide_eq_true rfl)) 3).trans (congrFun (f6 2 (of_decide_eq_true rfl)) 3)) ((f22 6 (of_decide_eq_true rfl)).trans (f6 6 (of_decide_eq_true rfl))) hI2
      have I30 : jI9 σ20 := jI9_fr ((congrFun (f22 9 (of_decide_eq_true rfl)) 0).trans (congrFun (f6 9 (of_decide_eq_true rfl)) 0)) ((f22 10 (of_decide_eq_true rfl)).trans (f6 10 (of_decide_eq_true rfl))) ((f22 11 (of_decide_eq_true rfl)).trans (f6 11 (of_decide_eq_true rfl))) hI9
      have I31 : jI12 σ20 := jI12_fr ((congrFun (f22 12 (of_decide_eq_true rfl)) 0).trans (congrFun (f6 12 (of_decide_eq_true rfl)) 0)) ((f22 13 (of_decide_eq_true rfl)).trans (f6 13 (of_decide_eq_true rfl))) hI12
      have I32 : jI16 σ20 := jI16_fr ((congrFun (f22 16 (of_decide_eq_true rfl)) 0).trans (congrFun (f6 16 (of_decide_eq_true rfl)) 0)) ((congrFun (f22 16 (of_decide_eq_true rfl)) 1).trans (congrFun (f6 16 (of_decide_eq_true rfl)) 1)) ((congrFun (f22 16 (of_decide_eq_true rfl)) 2).trans (congrFun (f6 16 (of_decide_eq_true rfl)) 2)) ((f22 17 (of_decide_eq_true rfl)).trans (f6 17 (of_decide_eq_true rfl))) hI16
      have I33 : jI18 σ20 := jI18_fr ((congrFun (f22 18 (of_decide_eq_true rfl)) 0).trans (congrFun (f6 18 (of_decide_eq_true rfl)) 0)) ((f22 19 (of_decide_eq_true rfl)).trans (f6 19 (of_decide_eq_true rfl))) hI18
      have I34 : jI22 σ20 := jI22_fr ((congrFun (f22 22 (of_decide_eq_true rfl)) 0).trans (congrFun (f6 22 (of_decide_eq_true rfl)) 0)) ((f22 23 (of_decide_eq_true rfl)).trans (f6 23 (of_decide_eq_true rfl))) hI22
      exact by
       have I35 : jI31 σ20 := jI31_fr (congrFun (f22 31 (of_decide_eq_true rfl)) 8) (f22 33 (of_decide_eq_true rfl)) (f22 36 (of_decide_eq_true rfl)) I8
       have I36 : jI38 σ20 := jI38_fr ((congrFun (f22 38 (of_decide_eq_true rfl)) 0).trans (congrFun (f6 38 (of_decide_eq_true rfl)) 0)) ((congrFun (f22 38 (of_decide_eq_true rfl)) 1).trans (congrFun (f6 38 (of_decide_eq_true rfl)) 1)) ((f22 39 (of_decide_eq_true rfl)).trans (f6 39 (of_decide_eq_true rfl))) hI38
       have I37 : jI43 σ20 := jI43_fr ((congrFun (f22 43 (of_decide_eq_true rfl)) 8).trans (congrFun (f6 43 (of_decide_eq_true rfl)) 8)) hI43
       have I38 : jI47 σ20 := jI47_fr ((congrFun (f22 47 (of_decide_eq_true rfl)) 0).trans (congrFun (f6 47 (of_decide_eq_true rfl)) 0)) ((f22 48 (of_decide_eq_true rfl)).trans (f6 48 (of_decide_eq_true rfl))) ((f22 49 (of_decide_eq_true rfl)).trans (f6 49 (of_decide_eq_true rfl))) hI47
       have I39 : jI50 σ20 := jI50_fr ((f22 52 (of_decide_eq_true rfl)).trans (f6 52 (of_decide_eq_true rfl))) hI50
       have I40 : jI101 σ20 := jI101_fr (f23 4 (of_decide_eq_true rfl)) (f23 5 (of_decide_eq_true rfl)) (f22 56 (of_decide_eq_true rfl)) (f22 57 (of_decide_eq_true rfl)) (f22 58 (of_decide_eq_true rfl)) (f22 59 (of_decide_eq_true rfl)) I10
       have I41 : jI102 σ20 := jI102_fr (f23 6 (of_decide_eq_true rfl)) (f22 60 (of_decide_eq_true rfl)) (f22 61 (of_decide_eq_true rfl)) I11
       have I42 : jI103 σ20 := jI103_fr (f23 9 (of_decide_eq_true rfl)) I12
       have I43 : jI104 σ20 := jI104_fr (f23 10 (of_decide_eq_true rfl)) (f23 12 (of_decide_eq_true rfl)) (f23 13 (of_decide_eq_true rfl)) (f22 62 (of_decide_eq_true rfl)) (f22 67 (of_decide_eq_true rfl)) I13
       have I44 : jI105 σ20 := jI105_fr (f23 15 (of_decide_eq_true rfl)) (f22 65 (of_decide_eq_true rfl)) I14
       have I45 : jI106 σ20 := jI106_fr (f23 32 (of_decide_eq_true rfl)) (f22 70 (of_decide_eq_true rfl)) (f22 71 (of_decide_eq_true rfl)) (f22 72 (of_decide_eq_true rfl)) I15
       have I46 : jI107 σ20 := jI107_fr (f23 12 (of_decide_eq_true rfl)) (f23 47 (of_decide_eq_true rfl)) (f22 80 (of_decide_eq_true rfl)) I16
       have I47 : jI109 σ20 := jI109_fr ((f23 50 (of_decide_eq_true rfl)).trans (congrFun (f6 55 (of_decide_eq_true rfl)) 50)) hI109
       have I48 : jI110 σ20 := jI110_fr ((f22 86 (of_decide_eq_true rfl)).trans (f6 86 (of_decide_eq_true rfl))) ((f22 87 (of_decide_eq_true rfl)).trans (f6 87 (of_decide_eq_true rfl))) hI110
       have I49 : jI111 σ20 := jI111_fr ((f22 79 (of_decide_eq_true rfl)).trans (f6 79 (of_decide_eq_true rfl))) hI111
       have z50 : (σ20 38 0).toInt = (σ 38 0).toInt := (congrArg Int32.toInt (show σ20 38 0 = (σ 38 0) from ((congrFun (f22 38 (of_decide_eq_true rfl)) 0).trans (congrFun (f6 38 (of_decide_eq_true rfl)) 0))))
       have z51 : (σ20 55 32).toInt = (σ 55 32).toInt := (congrArg Int32.toInt (show σ20 55 32 = (σ 55 32) from ((f23 32 (of_decide_eq_true rfl)).trans (congrFun (f6 55 (of_decide_eq_true rfl)) 32))))
       exact by exact ih x28 σ20 τ _ _ ls (by have h9 := tx28; omega) ⟨I29, I30, I31, I32, I33, I34, I35, I36, I37, I38, I39, I40, I41, I42, I43, I44, I45, I46, I47, I48, I49, I24, p25, p26, (by omega)⟩ hP hS (lv_sub hl [0, 1, 2, 3] rfl)
set_option maxHeartbeats 4000000 in
set_option maxRecDepth 100000 in
theorem law_case_23 {p : Program} {e : Env} {s : State} {m : MethodId} {below : List Frame} {meth : Method} {c : Code} (l : Launch) {b L : Nat} {xs : Nat → Int32} {D : va_G} {cI cL : ClassId} {ad zz : Nat → Nat} (C0 : lw_At p s m meth c b L xs) (hJ : jD ad) (hA : ∀ q, jA ad q → s.heap.size ≤ q) (hK : jK D cI cL s) (hZ : jZ zz (fun q : Nat => s.heap.size ≤ q) s s.heap) {x0 : Int32} (hx0 : 0 ≤ x0.toInt) (hxL : x0.toInt + 6 ≤ (L : Int)) (hL : L ≤ 384) {σ : Nat → Nat → Int32} {τ : Nat → Nat → Int64} {H : Heap} {locs : List Loc} (hS : va_S (fun q : Nat => s.heap.size ≤ q) s.heap H locs) {ls : Array Slot} (hAll : jAll σ τ) (hP : jH D cI cL ad σ τ H) (hl : lv_has ls 4 [(3, .int x0), (2, .ref (ad 55)), (1, .ref (ad 0)), (0, .ref b)]) (ih : ∀ (x1 : Int32) (σ : Nat → Nat → Int32) (τ : Nat → Nat → Int64) (H : Heap) (locs : List Loc) (ls : Array Slot), x1.toInt = x0.toInt + 6 → jAll σ τ → jH D cI cL ad σ τ H → va_S (fun q : Nat => s.heap.size ≤ q) s.heap H locs → lv_has ls 4 [(3, .int x1), (2, .ref (ad 55)), (1, .ref (ad 0)), (0, .ref b)] → W p l e room_1 s m #[Value.ref b] below meth c H locs 90 348600 (lw_Z below #[Value.ref b] s) (F0 m 18 ls [])) : W p l e room_1 s m #[Value.ref b] below meth c H locs 90 348600 (lw_Z below #[Value.ref b] s) (F0 m 875 ls []) := by
  obtain ⟨hx, hb, hr, hml, hown, hts0, hX, hbl, hlocks, hgv⟩ := C0
  have hts : ∀ w ∈ wsL_law, w.before #[Value.ref b] s = true := fun w h => hts0 w (wsL_law_in w h)
  have hbA : ¬ (fun q : Nat => s.heap.size ≤ q) b := Nat.not_le.mpr hbl
  have hown : s.vm.findClass RL = some m.cls := hown
  obtain ⟨hI2, hI9, hI12, hI16, hI18, hI22, hI31, hI38, hI43, hI47, hI50, hI101, hI102, hI103, hI104, hI105, hI106, hI107, hI109, hI110, hI111, hI119, hs_jKept, hs_jBook, ht0⟩ := hAll
  have hL9 : (L : Int) ≤ 384 := by omega
  refine lv_aload_n hx hb dL_law_875 rfl (lv_at hl 2 rfl) ?_
  refine lv_aload_n hx hb dL_law_876 rfl (lv_at hl 3 rfl) ?_
  refine lv_iload_n hx hb dL_law_877 rfl (lv_at hl 0 rfl) ?_
  refine lv_iconst (v := 1) hx hb dL_law_878 (of_decide_eq_true rfl) ?_
  have g1 := jrg (rfl : x0.toInt = x0.toInt)
  refine lv_iadd hx hb dL_law_879 ?_
  refine lv_topi (fun x2 ex2 => ?_)
  exact by
   have tx2 : x2.toInt = x0.toInt + 1 := (jadd ex2 rfl jz_1 (by omega) (by omega)).trans (by omega)
   refine va_sld hx hb hX hbl hbA hS (jin tx2 (by omega) (by omega)) dL_law_880 ?_
   have g3 := jrg (rfl : (xs x2.toNatClampNeg).toInt = (xs x2.toNatClampNeg).toInt)
   refine jcallV (As := [.int (xs x2.toNatClampNeg)]) (rest := []) ⟨hx, hb, hml, hown, hts⟩ hK hP hA hS hZ (c_X11_lost l D cI cL ad zz hJ σ τ (xs x2.toNatClampNeg) ((xs x2.toNatClampNeg).toInt) rfl hI2 hI16 hI22 hI31 hI47) cw_RL_109 (jc_0 cI cL ad σ τ) rfl ⟨Nat.le_of_ble_eq_true rfl, Nat.le_of_ble_eq_true rfl⟩ rfl rfl rfl hl.1 rfl (Nat.le_of_ble_eq_true rfl) dL_law_881 ⟨Nat.le_of_ble_eq_true rfl, Nat.le_of_ble_eq_true rfl⟩ (fun r5 σ4 τ4 H locs h4 hP hS => ?_)
   obtain ⟨rfl, f6, f7, I8, h4⟩ := h4
   refine lv_pop hx hb dL_law_884 rfl ?_
   refine lv_aload_n hx hb dL_law_885 rfl (lv_at hl 1 rfl) ?_
   refine lv_aload_n hx hb dL_law_886 rfl (lv_at hl 3 rfl) ?_
   refine lv_iload_n hx hb dL_law_887 rfl (lv_at hl 0 rfl) ?_
   exact by
    refine lv_iconst (v := 1) hx hb dL_law_888 (of_decide_eq_true rfl) ?_
    refine lv_iadd hx hb dL_law_889 ?_
    refine jtopr ex2.symm ?_
    refine va_sld hx hb hX hbl hbA hS (jin tx2 (by omega) (by omega)) dL_law_890 ?_
    have I10 : jI101 σ4 := jI101_fr (congrFun (f6 55 (of_decide_eq_true rfl)) 4) (congrFun (f6 55 (of_decide_eq_true rfl)) 5) (f6 56 (of_decide_eq_true rfl)) (f6 57 (of_decide_eq_true rfl)) (f6 58 (of_decide_eq_true rfl)) (f6 59 (of_decide_eq_true rfl)) hI101
    have I11 : jI102 σ4 := jI102_fr (congrFun (f6 55 (of_decide_eq_true rfl)) 6) (f6 60 (of_decide_eq_true rfl)) (f6 61 (of_decide_eq_true rfl)) hI102
    have I12 : jI103 σ4 := jI103_fr (congrFun (f6 55 (of_decide_eq_true rfl)) 9) hI103
    have I13 : jI104 σ4 := jI104_fr (congrFun (f6 55 (of_decide_eq_true rfl)) 10) (congrFun (f6 55 (of_decide_eq_true rfl)) 12) (congrFun (f6 55 (of_decide_eq_true rfl)) 13) (f6 62 (of_decide_eq_true rfl)) (f6 67 (of_decide_eq_true rfl)) hI104
    have I14 : jI105 σ4 := jI105_fr (congrFun (f6 55 (of_decide_eq_true rfl)) 15) (f6 65 (of_decide_eq_true rfl)) hI105
    exact by
     have I15 : jI106 σ4 := jI106_fr (congrFun (f6 55 (of_decide_eq_true rfl)) 32) (f6 70 (of_decide_eq_true rfl)) (f6 71 (of_decide_eq_true rfl)) (f6 72 (of_decide_eq_true rfl)) hI106
     have I16 : jI107 σ4 := jI107_fr (congrFun (f6 55 (of_decide_eq_true rfl)) 12) (congrFun (f6 55 (of_decide_eq_true rfl)) 47) (f6 80 (of_decide_eq_true rfl)) hI107
     have I17 : jI119 σ4 := jI119_fr (f6 68 (of_decide_eq_true rfl)) hI119
     have p18 : jKept σ4 := jKept.fr (f6 75 (of_decide_eq_true rfl)) (f6 76 (of_decide_eq_true rfl)) (f6 77 (of_decide_eq_true rfl)) hs_jKept
     have p19 : jBook σ4 := jBook.fr (congrFun (f6 55 (of_decide_eq_true rfl)) 47) (congrFun (f6 55 (of_decide_eq_true rfl)) 10) (f6 81 (of_decide_eq_true rfl)) hs_jBook
     refine jcallV (As := [.int (xs x2.toNatClampNeg)]) (rest := []) ⟨hx, hb, hml, hown, hts⟩ hK hP hA hS hZ (c_X12_lost l D cI cL ad zz hJ σ4 τ (xs x2.toNatClampNeg) ((xs x2.toNatClampNeg).toInt) rfl I10 I11 I12 I13 I14 I15 I16 I17 p18 p19) cw_RL_112 (jc_55 cI cL ad σ4 τ) rfl ⟨Nat.le_of_ble_eq_true rfl, Nat.le_of_ble_eq_true rfl⟩ rfl rfl rfl hl.1 rfl (Nat.le_of_ble_eq_true rfl) dL_law_891 ⟨Nat.le_of_ble_eq_true rfl, Nat.le_of_ble_eq_true rfl⟩ (fun r21 σ20 τ20 H locs h20 hP hS => ?_)
     obtain ⟨rfl, f22, f23, I24, p25, p26, h20⟩ := h20
     refine lv_pop hx hb dL_law_894 rfl ?_
     refine lv_goto (tgt := 1357) hx hb dL_law_895 (of_decide_eq_true rfl) ?_
     obtain ⟨x28, ex28⟩ : ∃ y : Int32, y = x0 + 6 := ⟨_, rfl⟩
     exact by
      have tx28 : x28.toInt = x0.toInt + 6 := (jadd ex28 rfl jz_6 (by omega) (by omega)).trans (by omega)
      refine lv_iinc (v := x28) (lv' := [(3, .int x28), (2, .ref (ad 55)), (1, .ref (ad 0)), (0, .ref b)]) hx hb dL_law_1357 hl (k := 0) rfl (by rw [ex28]; rfl) (of_decide_eq_true rfl) rfl (fun ls hl => ?_)
      refine lv_goto (tgt := 18) hx hb dL_law_1360 (of_decide_eq_true rfl) ?_
      have I29 : jI2 σ20 := jI2_fr ((congrFun (f22 2 (of_decide_eq_true rfl)) 0).trans (congrFun (f6 2 (of_decide_eq_true rfl)) 0)) ((congrFun (f22 2 (of_decide_eq_true rfl)) 1).trans (congrFun (f6 2 (of_decide_eq_true rfl)) 1)) ((congrFun (f22 2 (of_decide_eq_true rfl)) 2).trans (congrFun (f6 2 (of_decide_eq_true rfl)) 2)) ((congrFun (f22 2 (of_decide_eq_true rfl)) 3).trans (congrFun (f6 2 (of_decide_eq_true rfl)) 3)) ((f22 6 (of_decide_eq_true rfl)).trans (f6 6 (of_decide_eq_true rfl))) hI2
      have I30 : jI9 σ20 := jI9_fr ((congrFun (f22 9 (of_decide_eq_true rfl)) 0).trans (congrFun (f6 9 (of_decide_eq_true rfl)) 0)) ((f22 10 (of_decide_eq_true rfl)).trans (f6 10 (of_decide_eq_true rfl))) ((f22 11 (of_decide_eq_true rfl)).trans (f6 11 (of_decide_eq_true rfl))) hI9
      have I31 : jI12 σ20 := jI12_fr ((congrFun (f22 12 (of_decide_eq_true rfl)) 0).trans (congrFun (f6 12 (of_decide_eq_true rfl)) 0)) ((f22 13 (of_decide_eq_true rfl)).trans (f6 13 (of_decide_eq_true rfl))) hI12
      have I32 : jI16 σ20 := jI16_fr ((congrFun (f22 16 (of_decide_eq_true rfl)) 0).trans (congrFun (f6 16 (of_decide_eq_true rfl)) 0)) ((congrFun (f22 16 (of_decide_eq_true rfl)) 1).trans (congrFun (f6 16 (of_decide_eq_true rfl)) 1)) ((congrFun (f22 16 (of_decide_eq_true rfl)) 2).trans (congrFun (f6 16 (of_decide_eq_true rfl)) 2)) ((f22 17 (of_decide_eq_true rfl)).trans (f6 17 (of_decide_eq_true rfl))) hI16
      have I33 : jI18 σ20 := jI18_fr ((congrFun (f22 18 (of_decide_eq_true rfl)) 0).trans (congrFun (f6 18 (of_decide_eq_true rfl)) 0)) ((f22 19 (of_decide_eq_true rfl)).trans (f6 19 (of_decide_eq_true rfl))) hI18
      have I34 : jI22 σ20 := jI22_fr ((congrFun (f22 22 (of_decide_eq_true rfl)) 0).trans (congrFun (f6 22 (of_decide_eq_true rfl)) 0)) ((f22 23 (of_decide_eq_true rfl)).trans (f6 23 (of_decide_eq_true rfl))) hI22
      exact by
       have I35 : jI31 σ20 := jI31_fr (congrFun (f22 31 (of_decide_eq_true rfl)) 8) (f22 33 (of_decide_eq_true rfl)) (f22 36 (of_decide_eq_true rfl)) I8
       have I36 : jI38 σ20 := jI38_fr ((congrFun (f22 38 (of_decide_eq_true rfl)) 0).trans (congrFun (f6 38 (of_decide_eq_true rfl)) 0)) ((congrFun (f22 38 (of_decide_eq_true rfl)) 1).trans (congrFun (f6 38 (of_decide_eq_true rfl)) 1)) ((f22 39 (of_decide_eq_true rfl)).trans (f6 39 (of_decide_eq_true rfl))) hI38
       have I37 : jI43 σ20 := jI43_fr ((congrFun (f22 43 (of_decide_eq_true rfl)) 8).trans (congrFun (f6 43 (of_decide_eq_true rfl)) 8)) hI43
       have I38 : jI47 σ20 := jI47_fr ((congrFun (f22 47 (of_decide_eq_true rfl)) 0).trans (congrFun (f6 47 (of_decide_eq_true rfl)) 0)) ((f22 48 (of_decide_eq_true rfl)).trans (f6 48 (of_decide_eq_true rfl))) ((f22 49 (of_decide_eq_true rfl)).trans (f6 49 (of_decide_eq_true rfl))) hI47
       have I39 : jI50 σ20 := jI50_fr ((f22 52 (of_decide_eq_true rfl)).trans (f6 52 (of_decide_eq_true rfl))) hI50
       have I40 : jI101 σ20 := jI101_fr (f23 4 (of_decide_eq_true rfl)) (f23 5 (of_decide_eq_true rfl)) (f22 56 (of_decide_eq_true rfl)) (f22 57 (of_decide_eq_true rfl)) (f22 58 (of_decide_eq_true rfl)) (f22 59 (of_decide_eq_true rfl)) I10
       have I41 : jI102 σ20 := jI102_fr (f23 6 (of_decide_eq_true rfl)) (f22 60 (of_decide_eq_true rfl)) (f22 61 (of_decide_eq_true rfl)) I11
       have I42 : jI103 σ20 := jI103_fr (f23 9 (of_decide_eq_true rfl)) I12
       have I43 : jI104 σ20 := jI104_fr (f23 10 (of_decide_eq_true rfl)) (f23 12 (of_decide_eq_true rfl)) (f23 13 (of_decide_eq_true rfl)) (f22 62 (of_decide_eq_true rfl)) (f22 67 (of_decide_eq_true rfl)) I13
       have I44 : jI105 σ20 := jI105_fr (f23 15 (of_decide_eq_true rfl)) (f22 65 (of_decide_eq_true rfl)) I14
       have I45 : jI106 σ20 := jI106_fr (f23 32 (of_decide_eq_true rfl)) (f22 70 (of_decide_eq_true rfl)) (f22 71 (of_decide_eq_true rfl)) (f22 72 (of_decide_eq_true rfl)) I15
       have I46 : jI107 σ20 := jI107_fr (f23 12 (of_decide_eq_true rfl)) (f23 47 (of_decide_eq_true rfl)) (f22 80 (of_decide_eq_true rfl)) I16
       have I47 : jI109 σ20 := jI109_fr ((f23 50 (of_decide_eq_true rfl)).trans (congrFun (f6 55 (of_decide_eq_true rfl)) 50)) hI109
       have I48 : jI110 σ20 := jI110_fr ((f22 86 (of_decide_eq_true rfl)).trans (f6 86 (of_decide_eq_true rfl))) ((f22 87 (of_decide_eq_true rfl)).trans (f6 87 (of_decide_eq_true rfl))) hI110
       have I49 : jI111 σ20 := jI111_fr ((f22 79 (of_decide_eq_true rfl)).trans (f6 79 (of_decide_eq_true rfl))) hI111
       have z50 : (σ20 38 0).toInt = (σ 38 0).toInt := (congrArg Int32.toInt (show σ20 38 0 = (σ 38 0) from ((congrFun (f22 38 (of_decide_eq_true rfl)) 0).trans (congrFun (f6 38 (of_decide_eq_true rfl)) 0))))
       have z51 : (σ20 55 32).toInt = (σ 55 32).toInt := (congrArg Int32.toInt (show σ20 55 32 = (σ 55 32) from ((f23 32 (of_decide_eq_true rfl)).trans (congrFun (f6 55 (of_decide_eq_true rfl)) 32))))
       exact by exact ih x28 σ20 τ _ _ ls (by have h9 := tx28; omega) ⟨I29, I30, I31, I32, I33, I34, I35, I36, I37, I38, I39, I40, I41, I42, I43, I44, I45, I46, I47, I48, I49, I24, p25, p26, (by omega)⟩ hP hS (lv_sub hl [0, 1, 2, 3] rfl)
set_option maxHeartbeats 4000000 in
set_option maxRecDepth 100000 in
theorem law_case_24 {p : Program} {e : Env} {s : State} {m : MethodId} {below : List Frame} {meth : Method} {c : Code} (l : Launch) {b L : Nat} {xs : Nat → Int32} {D : va_G} {cI cL : ClassId} {ad zz : Nat → Nat} (C0 : lw_At p s m meth c b L xs) (hJ : jD ad) (hA : ∀ q, jA ad q → s.heap.size ≤ q) (hK : jK D cI cL s) (hZ : jZ zz (fun q : Nat => s.heap.size ≤ q) s s.heap) {x0 : Int32} (hx0 : 0 ≤ x0.toInt) (hxL : x0.toInt + 6 ≤ (L : Int)) (hL : L ≤ 384) {σ : Nat → Nat → Int32} {τ : Nat → Nat → Int64} {H : Heap} {locs : List Loc} (hS : va_S (fun q : Nat => s.heap.size ≤ q) s.heap H locs) {ls : Array Slot} (hAll : jAll σ τ) (hP : jH D cI cL ad σ τ H) (hl : lv_has ls 4 [(3, .int x0), (2, .ref (ad 55)), (1, .ref (ad 0)), (0, .ref b)]) (ih : ∀ (x1 : Int32) (σ : Nat → Nat → Int32) (τ : Nat → Nat → Int64) (H : Heap) (locs : List Loc) (ls : Array Slot), x1.toInt = x0.toInt + 6 → jAll σ τ → jH D cI cL ad σ τ H → va_S (fun q : Nat => s.heap.size ≤ q) s.heap H locs → lv_has ls 4 [(3, .int x1), (2, .ref (ad 55)), (1, .ref (ad 0)), (0, .ref b)] → W p l e room_1 s m #[Value.ref b] below meth c H locs 90 348600 (lw_Z below #[Value.ref b] s) (F0 m 18 ls [])) : W p l e room_1 s m #[Value.ref b] below meth c H locs 90 348600 (lw_Z below #[Value.ref b] s) (F0 m 898 ls []) := by
  obtain ⟨hx, hb, hr, hml, hown, hts0, hX, hbl, hlocks, hgv⟩ := C0
  have hts : ∀ w ∈ wsL_law, w.before #[Value.ref b] s = true := fun w h => hts0 w (wsL_law_in w h)
  have hbA : ¬ (fun q : Nat => s.heap.size ≤ q) b := Nat.not_le.mpr hbl
  have hown : s.vm.findClass RL = some m.cls := hown
  obtain ⟨hI2, hI9, hI12, hI16, hI18, hI22, hI31, hI38, hI43, hI47, hI50, hI101, hI102, hI103, hI104, hI105, hI106, hI107, hI109, hI110, hI111, hI119, hs_jKept, hs_jBook, ht0⟩ := hAll
  have hL9 : (L : Int) ≤ 384 := by omega
  refine lv_aload_n hx hb dL_law_898 rfl (lv_at hl 2 rfl) ?_
  refine lv_aload_n hx hb dL_law_899 rfl (lv_at hl 3 rfl) ?_
  refine lv_iload_n hx hb dL_law_900 rfl (lv_at hl 0 rfl) ?_
  refine lv_iconst (v := 1) hx hb dL_law_901 (of_decide_eq_true rfl) ?_
  have g1 := jrg (rfl : x0.toInt = x0.toInt)
  refine lv_iadd hx hb dL_law_902 ?_
  refine lv_topi (fun x2 ex2 => ?_)
  exact by
   have tx2 : x2.toInt = x0.toInt + 1 := (jadd ex2 rfl jz_1 (by omega) (by omega)).trans (by omega)
   refine va_sld hx hb hX hbl hbA hS (jin tx2 (by omega) (by omega)) dL_law_903 ?_
   have g3 := jrg (rfl : (xs x2.toNatClampNeg).toInt = (xs x2.toNatClampNeg).toInt)
   refine lv_aload_n hx hb dL_law_904 rfl (lv_at hl 3 rfl) ?_
   refine lv_iload_n hx hb dL_law_905 rfl (lv_at hl 0 rfl) ?_
   refine lv_iconst (v := 2) hx hb dL_law_906 (of_decide_eq_true rfl) ?_
   refine lv_iadd hx hb dL_law_907 ?_
   refine lv_topi (fun x4 ex4 => ?_)
   have tx4 : x4.toInt = x0.toInt + 2 := (jadd ex4 rfl jz_2 (by omega) (by omega)).trans (by omega)
   exact by
    refine va_sld hx hb hX hbl hbA hS (jin tx4 (by omega) (by omega)) dL_law_908 ?_
    have g5 := jrg (rfl : (xs x4.toNatClampNeg).toInt = (xs x4.toNatClampNeg).toInt)
    refine jcallV (As := [.int (xs x2.toNatClampNeg), .int (xs x4.toNatClampNeg)]) (rest := []) ⟨hx, hb, hml, hown, hts⟩ hK hP hA hS hZ (c_X11_game l D cI cL ad zz hJ σ τ (xs x2.toNatClampNeg) ((xs x2.toNatClampNeg).toInt) rfl (xs x4.toNatClampNeg) ((xs x4.toNatClampNeg).toInt) rfl hI2 hI16 hI18 hI22 hI31 hI38 hI43) cw_RL_113 (jc_0 cI cL ad σ τ) rfl ⟨Nat.le_of_ble_eq_true rfl, Nat.le_of_ble_eq_true rfl⟩ rfl rfl rfl hl.1 rfl (Nat.le_of_ble_eq_true rfl) dL_law_909 ⟨Nat.le_of_ble_eq_true rfl, Nat.le_of_ble_eq_true rfl⟩ (fun r7 σ6 τ6 H locs h6 hP hS => ?_)
    obtain ⟨rfl, f8, f9, f10, I11, I12, h6⟩ := h6
    refine lv_pop hx hb dL_law_912 rfl ?_
    refine lv_aload_n hx hb dL_law_913 rfl (lv_at hl 1 rfl) ?_
    refine lv_aload_n hx hb dL_law_914 rfl (lv_at hl 3 rfl) ?_
    refine lv_iload_n hx hb dL_law_915 rfl (lv_at hl 0 rfl) ?_
    refine lv_iconst (v := 1) hx hb dL_law_916 (of_decide_eq_true rfl) ?_
    refine lv_iadd hx hb dL_law_917 ?_
    refine jtopr ex2.symm ?_
    exact by
     refine va_sld hx hb hX hbl hbA hS (jin tx2 (by omega) (by omega)) dL_law_918 ?_
     refine lv_aload_n hx hb dL_law_919 rfl (lv_at hl 3 rfl) ?_
     refine lv_iload_n hx hb dL_law_920 rfl (lv_at hl 0 rfl) ?_
     refine lv_iconst (v := 2) hx hb dL_law_921 (of_decide_eq_true rfl) ?_
     refine lv_iadd hx hb dL_law_922 ?_
     refine jtopr ex4.symm ?_
     refine va_sld hx hb hX hbl hbA hS (jin tx4 (by omega) (by omega)) dL_law_923 ?_
     have I14 : jI101 σ6 := jI101_fr (congrFun (f8 55 (of_decide_eq_true rfl)) 4) (congrFun (f8 55 (of_decide_eq_true rfl)) 5) (f8 56 (of_decide_eq_true rfl)) (f8 57 (of_decide_eq_true rfl)) (f8 58 (of_decide_eq_true rfl)) (f8 59 (of_decide_eq_true rfl)) hI101
     have I15 : jI102 σ6 := jI102_fr (congrFun (f8 55 (of_decide_eq_true rfl)) 6) (f8 60 (of_decide_eq_true rfl)) (f8 61 (of_decide_eq_true rfl)) hI102
     exact by
      have I16 : jI103 σ6 := jI103_fr (congrFun (f8 55 (of_decide_eq_true rfl)) 9) hI103
      have I17 : jI104 σ6 := jI104_fr (congrFun (f8 55 (of_decide_eq_true rfl)) 10) (congrFun (f8 55 (of_decide_eq_true rfl)) 12) (congrFun (f8 55 (of_decide_eq_true rfl)) 13) (f8 62 (of_decide_eq_true rfl)) (f8 67 (of_decide_eq_true rfl)) hI104
      have I18 : jI105 σ6 := jI105_fr (congrFun (f8 55 (of_decide_eq_true rfl)) 15) (f8 65 (of_decide_eq_true rfl)) hI105
      have I19 : jI106 σ6 := jI106_fr (congrFun (f8 55 (of_decide_eq_true rfl)) 32) (f8 70 (of_decide_eq_true rfl)) (f8 71 (of_decide_eq_true rfl)) (f8 72 (of_decide_eq_true rfl)) hI106
      have I20 : jI119 σ6 := jI119_fr (f8 68 (of_decide_eq_true rfl)) hI119
      have I21 : jI109 σ6 := jI109_fr (congrFun (f8 55 (of_decide_eq_true rfl)) 50) hI109
      have p22 : jKept σ6 := jKept.fr (f8 75 (of_decide_eq_true rfl)) (f8 76 (of_decide_eq_true rfl)) (f8 77 (of_decide_eq_true rfl)) hs_jKept
      refine jcallV (As := [.int (xs x2.toNatClampNeg), .int (xs x4.toNatClampNeg)]) (rest := []) ⟨hx, hb, hml, hown, hts⟩ hK hP hA hS hZ (c_X12_game l D cI cL ad zz hJ σ6 τ (xs x2.toNatClampNeg) ((xs x2.toNatClampNeg).toInt) rfl (xs x4.toNatClampNeg) ((xs x4.toNatClampNeg).toInt) rfl I14 I15 I16 I17 I18 I19 I20 I21 p22) cw_RL_116 (jc_55 cI cL ad σ6 τ) rfl ⟨Nat.le_of_ble_eq_true rfl, Nat.le_of_ble_eq_true rfl⟩ rfl rfl rfl hl.1 rfl (Nat.le_of_ble_eq_true rfl) dL_law_924 ⟨Nat.le_of_ble_eq_true rfl, Nat.le_of_ble_eq_true rfl⟩ (fun r24 σ23 τ23 H locs h23 hP hS => ?_)
      obtain ⟨rfl, f25, f26, I27, I28, p29, h23⟩ := h23
      refine lv_pop hx hb dL_law_927 rfl ?_
      refine lv_goto (tgt := 1357) hx hb dL_law_928 (of_decide_eq_true rfl) ?_
      obtain ⟨x31, ex31⟩ : ∃ y : Int32, y = x0 + 6 := ⟨_, rfl⟩
      exact by
       have tx31 : x31.toInt = x0.toInt + 6 := (jadd ex31 rfl jz_6 (by omega) (by omega)).trans (by omega)
       refine lv_iinc (v := x31) (lv' := [(3, .int x31), (2, .ref (ad 55)), (1, .ref (ad 0)), (0, .ref b)]) hx hb dL_law_1357 hl (k := 0) rfl (by rw [ex31]; rfl) (of_decide_eq_true rfl) rfl (fun ls hl => ?_)
       refine lv_goto (tgt := 18) hx hb dL_law_1360 (of_decide_eq_true rfl) ?_
       have I32 : jI2 σ23 := jI2_fr ((congrFun (f25 2 (of_decide_eq_true rfl)) 0).trans (congrFun (f8 2 (of_decide_eq_true rfl)) 0)) ((congrFun (f25 2 (of_decide_eq_true rfl)) 1).trans (congrFun (f8 2 (of_decide_eq_true rfl)) 1)) ((congrFun (f25 2 (of_decide_eq_true rfl)) 2).trans (congrFun (f8 2 (of_decide_eq_true rfl)) 2)) ((congrFun (f25 2 (of_decide_eq_true rfl)) 3).trans (congrFun (f8 2 (of_decide_eq_true rfl)) 3)) ((f25 6 (of_decide_eq_true rfl)).trans (f8 6 (of_decide_eq_true rfl))) hI2
       have I33 : jI9 σ23 := jI9_fr ((congrFun (f25 9 (of_decide_eq_true rfl)) 0).trans (congrFun (f8 9 (of_decide_eq_true rfl)) 0)) ((f25 10 (of_decide_eq_true rfl)).trans (f8 10 (of_decide_eq_true rfl))) ((f25 11 (of_decide_eq_true rfl)).trans (f8 11 (of_decide_eq_true rfl))) hI9
       have I34 : jI12 σ23 := jI12_fr ((congrFun (f25 12 (of_decide_eq_true rfl)) 0).trans (congrFun (f8 12 (of_decide_eq_true rfl)) 0)) ((f25 13 (of_decide_eq_true rfl)).trans (f8 13 (of_decide_eq_true rfl))) hI12
       have I35 : jI16 σ23 := jI16_fr ((congrFun (f25 16 (of_decide_eq_true rfl)) 0).trans (congrFun (f8 16 (of_decide_eq_true rfl)) 0)) ((congrFun (f25 16 (of_decide_eq_true rfl)) 1).trans (congrFun (f8 16 (of_decide_eq_true rfl)) 1)) ((congrFun (f25 16 (of_decide_eq_true rfl)) 2).trans (congrFun (f8 16 (of_decide_eq_true rfl)) 2)) ((f25 17 (of_decide_eq_true rfl)).trans (f8 17 (of_decide_eq_true rfl))) hI16
       have I36 : jI18 σ23 := jI18_fr ((congrFun (f25 18 (of_decide_eq_true rfl)) 0).trans (congrFun (f8 18 (of_decide_eq_true rfl)) 0)) ((f25 19 (of_decide_eq_true rfl)).trans (f8 19 (of_decide_eq_true rfl))) hI18
       have I37 : jI22 σ23 := jI22_fr ((congrFun (f25 22 (of_decide_eq_true rfl)) 0).trans (congrFun (f8 22 (of_decide_eq_true rfl)) 0)) ((f25 23 (of_decide_eq_true rfl)).trans (f8 23 (of_decide_eq_true rfl))) hI22
       exact by
        have I38 : jI31 σ23 := jI31_fr (congrFun (f25 31 (of_decide_eq_true rfl)) 8) (f25 33 (of_decide_eq_true rfl)) (f25 36 (of_decide_eq_true rfl)) I11
        have I39 : jI38 σ23 := jI38_fr ((congrFun (f25 38 (of_decide_eq_true rfl)) 0).trans (congrFun (f8 38 (of_decide_eq_true rfl)) 0)) ((congrFun (f25 38 (of_decide_eq_true rfl)) 1).trans (congrFun (f8 38 (of_decide_eq_true rfl)) 1)) ((f25 39 (of_decide_eq_true rfl)).trans (f8 39 (of_decide_eq_true rfl))) hI38
        have I40 : jI43 σ23 := jI43_fr (congrFun (f25 43 (of_decide_eq_true rfl)) 8) I12
        have I41 : jI47 σ23 := jI47_fr ((congrFun (f25 47 (of_decide_eq_true rfl)) 0).trans (congrFun (f8 47 (of_decide_eq_true rfl)) 0)) ((f25 48 (of_decide_eq_true rfl)).trans (f8 48 (of_decide_eq_true rfl))) ((f25 49 (of_decide_eq_true rfl)).trans (f8 49 (of_decide_eq_true rfl))) hI47
        have I42 : jI50 σ23 := jI50_fr ((f25 52 (of_decide_eq_true rfl)).trans (f8 52 (of_decide_eq_true rfl))) hI50
        have I43 : jI101 σ23 := jI101_fr (f26 4 (of_decide_eq_true rfl)) (f26 5 (of_decide_eq_true rfl)) (f25 56 (of_decide_eq_true rfl)) (f25 57 (of_decide_eq_true rfl)) (f25 58 (of_decide_eq_true rfl)) (f25 59 (of_decide_eq_true rfl)) I14
        have I44 : jI102 σ23 := jI102_fr (f26 6 (of_decide_eq_true rfl)) (f25 60 (of_decide_eq_true rfl)) (f25 61 (of_decide_eq_true rfl)) I15
        have I45 : jI103 σ23 := jI103_fr (f26 9 (of_decide_eq_true rfl)) I16
        have I46 : jI104 σ23 := jI104_fr (f26 10 (of_decide_eq_true rfl)) (f26 12 (of_decide_eq_true rfl)) (f26 13 (of_decide_eq_true rfl)) (f25 62 (of_decide_eq_true rfl)) (f25 67 (of_decide_eq_true rfl)) I17
        have I47 : jI105 σ23 := jI105_fr (f26 15 (of_decide_eq_true rfl)) (f25 65 (of_decide_eq_true rfl)) I18
        have I48 : jI106 σ23 := jI106_fr (f26 32 (of_decide_eq_true rfl)) (f25 70 (of_decide_eq_true rfl)) (f25 71 (of_decide_eq_true rfl)) (f25 72 (of_decide_eq_true rfl)) I19
        have I49 : jI107 σ23 := jI107_fr ((f26 12 (of_decide_eq_true rfl)).trans (congrFun (f8 55 (of_decide_eq_true rfl)) 12)) ((f26 47 (of_decide_eq_true rfl)).trans (congrFun (f8 55 (of_decide_eq_true rfl)) 47)) ((f25 80 (of_decide_eq_true rfl)).trans (f8 80 (of_decide_eq_true rfl))) hI107
        have I50 : jI110 σ23 := jI110_fr ((f25 86 (of_decide_eq_true rfl)).trans (f8 86 (of_decide_eq_true rfl))) ((f25 87 (of_decide_eq_true rfl)).trans (f8 87 (of_decide_eq_true rfl))) hI110
        have I51 : jI111 σ23 := jI111_fr ((f25 79 (of_decide_eq_true rfl)).trans (f8 79 (of_decide_eq_true rfl))) hI111
        have p52 : jBook σ23 := jBook.fr ((f26 47 (of_decide_eq_true rfl)).trans (congrFun (f8 55 (of_decide_eq_true rfl)) 47)) ((f26 10 (of_decide_eq_true rfl)).trans (congrFun (f8 55 (of_decide_eq_true rfl)) 10)) ((f25 81 (of_decide_eq_true rfl)).trans (f8 81 (of_decide_eq_true rfl))) hs_jBook
        have z53 : (σ23 38 0).toInt = (σ 38 0).toInt := (congrArg Int32.toInt (show σ23 38 0 = (σ 38 0) from ((congrFun (f25 38 (of_decide_eq_true rfl)) 0).trans (congrFun (f8 38 (of_decide_eq_true rfl)) 0))))
        have z54 : (σ23 55 32).toInt = (σ 55 32).toInt := (congrArg Int32.toInt (show σ23 55 32 = (σ 55 32) from ((f26 32 (of_decide_eq_true rfl)).trans (congrFun (f8 55 (of_decide_eq_true rfl)) 32))))
        exact by exact ih x31 σ23 τ _ _ ls (by have h9 := tx31; omega) ⟨I32, I33, I34, I35, I36, I37, I38, I39, I40, I41, I42, I43, I44, I45, I46, I47, I48, I49, I27, I50, I51, I28, p29, p52, (by omega)⟩ hP hS (lv_sub hl [0, 1, 2, 3] rfl)
set_option maxHeartbeats 4000000 in
set_option maxRecDepth 100000 in
theorem law_case_25 {p : Program} {e : Env} {s : State} {m : MethodId} {below : List Frame} {meth : Method} {c : Code} (l : Launch) {b L : Nat} {xs : Nat → Int32} {D : va_G} {cI cL : ClassId} {ad zz : Nat → Nat} (C0 : lw_At p s m meth c b L xs) (hJ : jD ad) (hA : ∀ q, jA ad q → s.heap.size ≤ q) (hK : jK D cI cL s) (hZ : jZ zz (fun q : Nat => s.heap.size ≤ q) s s.heap) {x0 : Int32} (hx0 : 0 ≤ x0.toInt) (hxL : x0.toInt + 6 ≤ (L : Int)) (hL : L ≤ 384) {σ : Nat → Nat → Int32} {τ : Nat → Nat → Int64} {H : Heap} {locs : List Loc} (hS : va_S (fun q : Nat => s.heap.size ≤ q) s.heap H locs) {ls : Array Slot} (hAll : jAll σ τ) (hP : jH D cI cL ad σ τ H) (hl : lv_has ls 4 [(3, .int x0), (2, .ref (ad 55)), (1, .ref (ad 0)), (0, .ref b)]) (ih : ∀ (x1 : Int32) (σ : Nat → Nat → Int32) (τ : Nat → Nat → Int64) (H : Heap) (locs : List Loc) (ls : Array Slot), x1.toInt = x0.toInt + 6 → jAll σ τ → jH D cI cL ad σ τ H → va_S (fun q : Nat => s.heap.size ≤ q) s.heap H locs → lv_has ls 4 [(3, .int x1), (2, .ref (ad 55)), (1, .ref (ad 0)), (0, .ref b)] → W p l e room_1 s m #[Value.ref b] below meth c H locs 90 348600 (lw_Z below #[Value.ref b] s) (F0 m 18 ls [])) : W p l e room_1 s m #[Value.ref b] below meth c H locs 90 348600 (lw_Z below #[Value.ref b] s) (F0 m 931 ls []) := by
  obtain ⟨hx, hb, hr, hml, hown, hts0, hX, hbl, hlocks, hgv⟩ := C0
  have hts : ∀ w ∈ wsL_law, w.before #[Value.ref b] s = true := fun w h => hts0 w (wsL_law_in w h)
  have hbA : ¬ (fun q : Nat => s.heap.size ≤ q) b := Nat.not_le.mpr hbl
  have hown : s.vm.findClass RL = some m.cls := hown
  obtain ⟨hI2, hI9, hI12, hI16, hI18, hI22, hI31, hI38, hI43, hI47, hI50, hI101, hI102, hI103, hI104, hI105, hI106, hI107, hI109, hI110, hI111, hI119, hs_jKept, hs_jBook, ht0⟩ := hAll
  have hL9 : (L : Int) ≤ 384 := by omega
  refine lv_aload_n hx hb dL_law_931 rfl (lv_at hl 2 rfl) ?_
  refine lv_aload_n hx hb dL_law_932 rfl (lv_at hl 3 rfl) ?_
  refine lv_iload_n hx hb dL_law_933 rfl (lv_at hl 0 rfl) ?_
  refine lv_iconst (v := 1) hx hb dL_law_934 (of_decide_eq_true rfl) ?_
  have g1 := jrg (rfl : x0.toInt = x0.toInt)
  refine lv_iadd hx hb dL_law_935 ?_
  refine lv_topi (fun x2 ex2 => ?_)
  exact by
   have tx2 : x2.toInt = x0.toInt + 1 := (jadd ex2 rfl jz_1 (by omega) (by omega)).trans (by omega)
   refine va_sld hx hb hX hbl hbA hS (jin tx2 (by omega) (by omega)) dL_law_936 ?_
   have g3 := jrg (rfl : (xs x2.toNatClampNeg).toInt = (xs x2.toNatClampNeg).toInt)
   refine lv_aload_n hx hb dL_law_937 rfl (lv_at hl 3 rfl) ?_
   refine lv_iload_n hx hb dL_law_938 rfl (lv_at hl 0 rfl) ?_
   refine lv_iconst (v := 2) hx hb dL_law_939 (of_decide_eq_true rfl) ?_
   refine lv_iadd hx hb dL_law_940 ?_
   refine lv_topi (fun x4 ex4 => ?_)
   have tx4 : x4.toInt = x0.toInt + 2 := (jadd ex4 rfl jz_2 (by omega) (by omega)).trans (by omega)
   exact by
    refine va_sld hx hb hX hbl hbA hS (jin tx4 (by omega) (by omega)) dL_law_941 ?_
    have g5 := jrg (rfl : (xs x4.toNatClampNeg).toInt = (xs x4.toNatClampNeg).toInt)
    refine jcallV (As := [.int (xs x2.toNatClampNeg), .int (xs x4.toNatClampNeg)]) (rest := []) ⟨hx, hb, hml, hown, hts⟩ hK hP hA hS hZ (c_X11_led l D cI cL ad zz hJ σ τ (xs x2.toNatClampNeg) ((xs x2.toNatClampNeg).toInt) rfl (xs x4.toNatClampNeg) ((xs x4.toNatClampNeg).toInt) rfl hI43) cw_RL_117 (jc_0 cI cL ad σ τ) rfl ⟨Nat.le_of_ble_eq_true rfl, Nat.le_of_ble_eq_true rfl⟩ rfl rfl rfl hl.1 rfl (Nat.le_of_ble_eq_true rfl) dL_law_942 ⟨Nat.le_of_ble_eq_true rfl, Nat.le_of_ble_eq_true rfl⟩ (fun r7 σ6 τ6 H locs h6 hP hS => ?_)
    obtain ⟨⟨rfl, rfl⟩, h6⟩ := h6
    refine lv_pop hx hb dL_law_945 rfl ?_
    refine lv_aload_n hx hb dL_law_946 rfl (lv_at hl 1 rfl) ?_
    refine lv_aload_n hx hb dL_law_947 rfl (lv_at hl 3 rfl) ?_
    refine lv_iload_n hx hb dL_law_948 rfl (lv_at hl 0 rfl) ?_
    refine lv_iconst (v := 1) hx hb dL_law_949 (of_decide_eq_true rfl) ?_
    refine lv_iadd hx hb dL_law_950 ?_
    refine jtopr ex2.symm ?_
    exact by
     refine va_sld hx hb hX hbl hbA hS (jin tx2 (by omega) (by omega)) dL_law_951 ?_
     refine lv_aload_n hx hb dL_law_952 rfl (lv_at hl 3 rfl) ?_
     refine lv_iload_n hx hb dL_law_953 rfl (lv_at hl 0 rfl) ?_
     refine lv_iconst (v := 2) hx hb dL_law_954 (of_decide_eq_true rfl) ?_
     refine lv_iadd hx hb dL_law_955 ?_
     refine jtopr ex4.symm ?_
     refine va_sld hx hb hX hbl hbA hS (jin tx4 (by omega) (by omega)) dL_law_956 ?_
     refine jcallV (As := [.int (xs x2.toNatClampNeg), .int (xs x4.toNatClampNeg)]) (rest := []) ⟨hx, hb, hml, hown, hts⟩ hK hP hA hS hZ (c_X12_led l D cI cL ad zz hJ σ τ (xs x2.toNatClampNeg) ((xs x2.toNatClampNeg).toInt) rfl (xs x4.toNatClampNeg) ((xs x4.toNatClampNeg).toInt) rfl hI109) cw_RL_120 (jc_55 cI cL ad σ τ) rfl ⟨Nat.le_of_ble_eq_true rfl, Nat.le_of_ble_eq_true rfl⟩ rfl rfl rfl hl.1 rfl (Nat.le_of_ble_eq_true rfl) dL_law_957 ⟨Nat.le_of_ble_eq_true rfl, Nat.le_of_ble_eq_true rfl⟩ (fun r9 σ8 τ8 H locs h8 hP hS => ?_)
     obtain ⟨⟨rfl, rfl⟩, h8⟩ := h8
     exact by
      refine lv_pop hx hb dL_law_960 rfl ?_
      refine lv_goto (tgt := 1357) hx hb dL_law_961 (of_decide_eq_true rfl) ?_
      obtain ⟨x10, ex10⟩ : ∃ y : Int32, y = x0 + 6 := ⟨_, rfl⟩
      have tx10 : x10.toInt = x0.toInt + 6 := (jadd ex10 rfl jz_6 (by omega) (by omega)).trans (by omega)
      refine lv_iinc (v := x10) (lv' := [(3, .int x10), (2, .ref (ad 55)), (1, .ref (ad 0)), (0, .ref b)]) hx hb dL_law_1357 hl (k := 0) rfl (by rw [ex10]; rfl) (of_decide_eq_true rfl) rfl (fun ls hl => ?_)
      refine lv_goto (tgt := 18) hx hb dL_law_1360 (of_decide_eq_true rfl) ?_
      exact by exact ih x10 σ τ _ _ ls (by have h9 := tx10; omega) ⟨hI2, hI9, hI12, hI16, hI18, hI22, hI31, hI38, hI43, hI47, hI50, hI101, hI102, hI103, hI104, hI105, hI106, hI107, hI109, hI110, hI111, hI119, hs_jKept, hs_jBook, (by omega)⟩ hP hS (lv_sub hl [0, 1, 2, 3] rfl)
set_option maxHeartbeats 4000000 in
set_option maxRecDepth 100000 in
theorem law_case_26 {p : Program} {e : Env} {s : State} {m : MethodId} {below : List Frame} {meth : Method} {c : Code} (l : Launch) {b L : Nat} {xs : Nat → Int32} {D : va_G} {cI cL : ClassId} {ad zz : Nat → Nat} (C0 : lw_At p s m meth c b L xs) (hJ : jD ad) (hA : ∀ q, jA ad q → s.heap.size ≤ q) (hK : jK D cI cL s) (hZ : jZ zz (fun q : Nat => s.heap.size ≤ q) s s.heap) {x0 : Int32} (hx0 : 0 ≤ x0.toInt) (hxL : x0.toInt + 6 ≤ (L : Int)) (hL : L ≤ 384) {σ : Nat → Nat → Int32} {τ : Nat → Nat → Int64} {H : Heap} {locs : List Loc} (hS : va_S (fun q : Nat => s.heap.size ≤ q) s.heap H locs) {ls : Array Slot} (hAll : jAll σ τ) (hP : jH D cI cL ad σ τ H) (hl : lv_has ls 4 [(3, .int x0), (2, .ref (ad 55)), (1, .ref (ad 0)), (0, .ref b)]) (ih : ∀ (x1 : Int32) (σ : Nat → Nat → Int32) (τ : Nat → Nat → Int64) (H : Heap) (locs : List Loc) (ls : Array Slot), x1.toInt = x0.toInt + 6 → jAll σ τ → jH D cI cL ad σ τ H → va_S (fun q : Nat => s.heap.size ≤ q) s.heap H locs → lv_has ls 4 [(3, .int x1), (2, .ref (ad 55)), (1, .ref (ad 0)), (0, .ref b)] → W p l e room_1 s m #[Value.ref b] below meth c H locs 90 348600 (lw_Z below #[Value.ref b] s) (F0 m 18 ls [])) : W p l e room_1 s m #[Value.ref b] below meth c H locs 90 348600 (lw_Z below #[Value.ref b] s) (F0 m 964 ls []) := by
  obtain ⟨hx, hb, hr, hml, hown, hts0, hX, hbl, hlocks, hgv⟩ := C0
  have hts : ∀ w ∈ wsL_law, w.before #[Value.ref b] s = true := fun w h => hts0 w (wsL_law_in w h)
  have hbA : ¬ (fun q : Nat => s.heap.size ≤ q) b := Nat.not_le.mpr hbl
  have hown : s.vm.findClass RL = some m.cls := hown
  obtain ⟨hI2, hI9, hI12, hI16, hI18, hI22, hI31, hI38, hI43, hI47, hI50, hI101, hI102, hI103, hI104, hI105, hI106, hI107, hI109, hI110, hI111, hI119, hs_jKept, hs_jBook, ht0⟩ := hAll
  have hL9 : (L : Int) ≤ 384 := by omega
  refine lv_aload_n hx hb dL_law_964 rfl (lv_at hl 2 rfl) ?_
  refine jcallV (As := []) (rest := []) ⟨hx, hb, hml, hown, hts⟩ hK hP hA hS hZ (c_X11_undo l D cI cL ad zz hJ σ τ hI2) cw_RL_121 (jc_0 cI cL ad σ τ) rfl ⟨Nat.le_of_ble_eq_true rfl, Nat.le_of_ble_eq_true rfl⟩ rfl rfl rfl hl.1 rfl (Nat.le_of_ble_eq_true rfl) dL_law_965 ⟨Nat.le_of_ble_eq_true rfl, Nat.le_of_ble_eq_true rfl⟩ (fun r2 σ1 τ1 H locs h1 hP hS => ?_)
  obtain ⟨rfl, f3, f4, I5, h1⟩ := h1
  rcases h1 with h7 | h8
  · obtain ⟨q13, k9, k10, k11, k12⟩ := h7
    have q13 := q13.symm
    subst q13
    refine lv_pop hx hb dL_law_968 rfl ?_
    refine lv_aload_n hx hb dL_law_969 rfl (lv_at hl 1 rfl) ?_
    have I14 : jI101 σ1 := jI101_fr (congrFun (f3 55 (of_decide_eq_true rfl)) 4) (congrFun (f3 55 (of_decide_eq_true rfl)) 5) (f3 56 (of_decide_eq_true rfl)) (f3 57 (of_decide_eq_true rfl)) (f3 58 (of_decide_eq_true rfl)) (f3 59 (of_decide_eq_true rfl)) hI101
    have z15 : (σ1 55 5).toInt = (σ 55 5).toInt := (congrArg Int32.toInt (show σ1 55 5 = (σ 55 5) from (congrFun (f3 55 (of_decide_eq_true rfl)) 5)))
    refine jcallV (As := []) (rest := []) ⟨hx, hb, hml, hown, hts⟩ hK hP hA hS hZ (c_X12_undo l D cI cL ad zz hJ σ1 τ I14) cw_RL_124 (jc_55 cI cL ad σ1 τ) rfl ⟨Nat.le_of_ble_eq_true rfl, Nat.le_of_ble_eq_true rfl⟩ rfl rfl rfl hl.1 rfl (Nat.le_of_ble_eq_true rfl) dL_law_970 ⟨Nat.le_of_ble_eq_true rfl, Nat.le_of_ble_eq_true rfl⟩ (fun r17 σ16 τ16 H locs h16 hP hS => ?_)
    obtain ⟨rfl, f18, f19, I20, h16⟩ := h16
    rcases h16 with h22 | h23
    · obtain ⟨q27, k24, k25, k26⟩ := h22
      have q27 := q27.symm
      subst q27
      refine lv_pop hx hb dL_law_973 rfl ?_
      refine lv_goto (tgt := 1357) hx hb dL_law_974 (of_decide_eq_true rfl) ?_
      obtain ⟨x28, ex28⟩ : ∃ y : Int32, y = x0 + 6 := ⟨_, rfl⟩
      exact by
       have tx28 : x28.toInt = x0.toInt + 6 := (jadd ex28 rfl jz_6 (by omega) (by omega)).trans (by omega)
       refine lv_iinc (v := x28) (lv' := [(3, .int x28), (2, .ref (ad 55)), (1, .ref (ad 0)), (0, .ref b)]) hx hb dL_law_1357 hl (k := 0) rfl (by rw [ex28]; rfl) (of_decide_eq_true rfl) rfl (fun ls hl => ?_)
       refine lv_goto (tgt := 18) hx hb dL_law_1360 (of_decide_eq_true rfl) ?_
       have I29 : jI2 σ16 := jI2_fr (congrFun (f18 2 (of_decide_eq_true rfl)) 0) (congrFun (f18 2 (of_decide_eq_true rfl)) 1) (congrFun (f18 2 (of_decide_eq_true rfl)) 2) (congrFun (f18 2 (of_decide_eq_true rfl)) 3) (f18 6 (of_decide_eq_true rfl)) I5
       have I30 : jI9 σ16 := jI9_fr ((congrFun (f18 9 (of_decide_eq_true rfl)) 0).trans (congrFun (f3 9 (of_decide_eq_true rfl)) 0)) ((f18 10 (of_decide_eq_true rfl)).trans (f3 10 (of_decide_eq_true rfl))) ((f18 11 (of_decide_eq_true rfl)).trans (f3 11 (of_decide_eq_true rfl))) hI9
       have I31 : jI12 σ16 := jI12_fr ((congrFun (f18 12 (of_decide_eq_true rfl)) 0).trans (congrFun (f3 12 (of_decide_eq_true rfl)) 0)) ((f18 13 (of_decide_eq_true rfl)).trans (f3 13 (of_decide_eq_true rfl))) hI12
       have I32 : jI16 σ16 := jI16_fr ((congrFun (f18 16 (of_decide_eq_true rfl)) 0).trans (congrFun (f3 16 (of_decide_eq_true rfl)) 0)) ((congrFun (f18 16 (of_decide_eq_true rfl)) 1).trans (congrFun (f3 16 (of_decide_eq_true rfl)) 1)) ((congrFun (f18 16 (of_decide_eq_true rfl)) 2).trans (congrFun (f3 16 (of_decide_eq_true rfl)) 2)) ((f18 17 (of_decide_eq_true rfl)).trans (f3 17 (of_decide_eq_true rfl))) hI16
       have I33 : jI18 σ16 := jI18_fr ((congrFun (f18 18 (of_decide_eq_true rfl)) 0).trans (congrFun (f3 18 (of_decide_eq_true rfl)) 0)) ((f18 19 (of_decide_eq_true rfl)).trans (f3 19 (of_decide_eq_true rfl))) hI18
       have I34 : jI22 σ16 := jI22_fr ((congrFun (f18 22 (of_decide_eq_true rfl)) 0).trans (congrFun (f3 22 (of_decide_eq_true rfl)) 0)) ((f18 23 (of_decide_eq_true rfl)).trans (f3 23 (of_decide_eq_true rfl))) hI22
       exact by
        have I35 : jI31 σ16 := jI31_fr ((congrFun (f18 31 (of_decide_eq_true rfl)) 8).trans (congrFun (f3 31 (of_decide_eq_true rfl)) 8)) ((f18 33 (of_decide_eq_true rfl)).trans (f3 33 (of_decide_eq_true rfl))) ((f18 36 (of_decide_eq_true rfl)).trans (f3 36 (of_decide_eq_true rfl))) hI31
        have I36 : jI38 σ16 := jI38_fr ((congrFun (f18 38 (of_decide_eq_true rfl)) 0).trans (congrFun (f3 38 (of_decide_eq_true rfl)) 0)) ((congrFun (f18 38 (of_decide_eq_true rfl)) 1).trans (congrFun (f3 38 (of_decide_eq_true rfl)) 1)) ((f18 39 (of_decide_eq_true rfl)).trans (f3 39 (of_decide_eq_true rfl))) hI38
        have I37 : jI43 σ16 := jI43_fr ((congrFun (f18 43 (of_decide_eq_true rfl)) 8).trans (congrFun (f3 43 (of_decide_eq_true rfl)) 8)) hI43
        have I38 : jI47 σ16 := jI47_fr ((congrFun (f18 47 (of_decide_eq_true rfl)) 0).trans (congrFun (f3 47 (of_decide_eq_true rfl)) 0)) ((f18 48 (of_decide_eq_true rfl)).trans (f3 48 (of_decide_eq_true rfl))) ((f18 49 (of_decide_eq_true rfl)).trans (f3 49 (of_decide_eq_true rfl))) hI47
        have I39 : jI50 σ16 := jI50_fr ((f18 52 (of_decide_eq_true rfl)).trans (f3 52 (of_decide_eq_true rfl))) hI50
        have I40 : jI102 σ16 := jI102_fr ((f19 6 (of_decide_eq_true rfl)).trans (congrFun (f3 55 (of_decide_eq_true rfl)) 6)) ((f18 60 (of_decide_eq_true rfl)).trans (f3 60 (of_decide_eq_true rfl))) ((f18 61 (of_decide_eq_true rfl)).trans (f3 61 (of_decide_eq_true rfl))) hI102
        have I41 : jI103 σ16 := jI103_fr ((f19 9 (of_decide_eq_true rfl)).trans (congrFun (f3 55 (of_decide_eq_true rfl)) 9)) hI103
        have I42 : jI104 σ16 := jI104_fr ((f19 10 (of_decide_eq_true rfl)).trans (congrFun (f3 55 (of_decide_eq_true rfl)) 10)) ((f19 12 (of_decide_eq_true rfl)).trans (congrFun (f3 55 (of_decide_eq_true rfl)) 12)) ((f19 13 (of_decide_eq_true rfl)).trans (congrFun (f3 55 (of_decide_eq_true rfl)) 13)) ((f18 62 (of_decide_eq_true rfl)).trans (f3 62 (of_decide_eq_true rfl))) ((f18 67 (of_decide_eq_true rfl)).trans (f3 67 (of_decide_eq_true rfl))) hI104
        have I43 : jI105 σ16 := jI105_fr ((f19 15 (of_decide_eq_true rfl)).trans (congrFun (f3 55 (of_decide_eq_true rfl)) 15)) ((f18 65 (of_decide_eq_true rfl)).trans (f3 65 (of_decide_eq_true rfl))) hI105
        have I44 : jI106 σ16 := jI106_fr ((f19 32 (of_decide_eq_true rfl)).trans (congrFun (f3 55 (of_decide_eq_true rfl)) 32)) ((f18 70 (of_decide_eq_true rfl)).trans (f3 70 (of_decide_eq_true rfl))) ((f18 71 (of_decide_eq_true rfl)).trans (f3 71 (of_decide_eq_true rfl))) ((f18 72 (of_decide_eq_true rfl)).trans (f3 72 (of_decide_eq_true rfl))) hI106
        have I45 : jI107 σ16 := jI107_fr ((f19 12 (of_decide_eq_true rfl)).trans (congrFun (f3 55 (of_decide_eq_true rfl)) 12)) ((f19 47 (of_decide_eq_true rfl)).trans (congrFun (f3 55 (of_decide_eq_true rfl)) 47)) ((f18 80 (of_decide_eq_true rfl)).trans (f3 80 (of_decide_eq_true rfl))) hI107
        have I46 : jI109 σ16 := jI109_fr ((f19 50 (of_decide_eq_true rfl)).trans (congrFun (f3 55 (of_decide_eq_true rfl)) 50)) hI109
        have I47 : jI110 σ16 := jI110_fr ((f18 86 (of_decide_eq_true rfl)).trans (f3 86 (of_decide_eq_true rfl))) ((f18 87 (of_decide_eq_true rfl)).trans (f3 87 (of_decide_eq_true rfl))) hI110
        have I48 : jI111 σ16 := jI111_fr ((f18 79 (of_decide_eq_true rfl)).trans (f3 79 (of_decide_eq_true rfl))) hI111
        have I49 : jI119 σ16 := jI119_fr ((f18 68 (of_decide_eq_true rfl)).trans (f3 68 (of_decide_eq_true rfl))) hI119
        have p50 : jKept σ16 := jKept.fr ((f18 75 (of_decide_eq_true rfl)).trans (f3 75 (of_decide_eq_true rfl))) ((f18 76 (of_decide_eq_true rfl)).trans (f3 76 (of_decide_eq_true rfl))) ((f18 77 (of_decide_eq_true rfl)).trans (f3 77 (of_decide_eq_true rfl))) hs_jKept
        have p51 : jBook σ16 := jBook.fr ((f19 47 (of_decide_eq_true rfl)).trans (congrFun (f3 55 (of_decide_eq_true rfl)) 47)) ((f19 10 (of_decide_eq_true rfl)).trans (congrFun (f3 55 (of_decide_eq_true rfl)) 10)) ((f18 81 (of_decide_eq_true rfl)).trans (f3 81 (of_decide_eq_true rfl))) hs_jBook
        have z52 : (σ16 38 0).toInt = (σ 38 0).toInt := (congrArg Int32.toInt (show σ16 38 0 = (σ 38 0) from ((congrFun (f18 38 (of_decide_eq_true rfl)) 0).trans (congrFun (f3 38 (of_decide_eq_true rfl)) 0))))
        have z53 : (σ16 55 32).toInt = (σ 55 32).toInt := (congrArg Int32.toInt (show σ16 55 32 = (σ 55 32) from ((f19 32 (of_decide_eq_true rfl)).trans (congrFun (f3 55 (of_decide_eq_true rfl)) 32))))
        exact by exact ih x28 σ16 τ _ _ ls (by have h9 := tx28; omega) ⟨I29, I30, I31, I32, I33, I34, I35, I36, I37, I38, I39, I20, I40, I41, I42, I43, I44, I45, I46, I47, I48, I49, p50, p51, (by omega)⟩ hP hS (lv_sub hl [0, 1, 2, 3] rfl)
    · obtain ⟨q59, k54, k55, k56, k57, k58⟩ := h23
      refine lv_pop hx hb dL_law_973 rfl ?_
      refine lv_goto (tgt := 1357) hx hb dL_law_974 (of_decide_eq_true rfl) ?_
      obtain ⟨x60, ex60⟩ : ∃ y : Int32, y = x0 + 6 := ⟨_, rfl⟩
      exact by
       have tx60 : x60.toInt = x0.toInt + 6 := (jadd ex60 rfl jz_6 (by omega) (by omega)).trans (by omega)
       refine lv_iinc (v := x60) (lv' := [(3, .int x60), (2, .ref (ad 55)), (1, .ref (ad 0)), (0, .ref b)]) hx hb dL_law_1357 hl (k := 0) rfl (by rw [ex60]; rfl) (of_decide_eq_true rfl) rfl (fun ls hl => ?_)
       refine lv_goto (tgt := 18) hx hb dL_law_1360 (of_decide_eq_true rfl) ?_
       have I61 : jI2 σ16 := jI2_fr (congrFun (f18 2 (of_decide_eq_true rfl)) 0) (congrFun (f18 2 (of_decide_eq_true rfl)) 1) (congrFun (f18 2 (of_decide_eq_true rfl)) 2) (congrFun (f18 2 (of_decide_eq_true rfl)) 3) (f18 6 (of_decide_eq_true rfl)) I5
       have I62 : jI9 σ16 := jI9_fr ((congrFun (f18 9 (of_decide_eq_true rfl)) 0).trans (congrFun (f3 9 (of_decide_eq_true rfl)) 0)) ((f18 10 (of_decide_eq_true rfl)).trans (f3 10 (of_decide_eq_true rfl))) ((f18 11 (of_decide_eq_true rfl)).trans (f3 11 (of_decide_eq_true rfl))) hI9
       have I63 : jI12 σ16 := jI12_fr ((congrFun (f18 12 (of_decide_eq_true rfl)) 0).trans (congrFun (f3 12 (of_decide_eq_true rfl)) 0)) ((f18 13 (of_decide_eq_true rfl)).trans (f3 13 (of_decide_eq_true rfl))) hI12
       have I64 : jI16 σ16 := jI16_fr ((congrFun (f18 16 (of_decide_eq_true rfl)) 0).trans (congrFun (f3 16 (of_decide_eq_true rfl)) 0)) ((congrFun (f18 16 (of_decide_eq_true rfl)) 1).trans (congrFun (f3 16 (of_decide_eq_true rfl)) 1)) ((congrFun (f18 16 (of_decide_eq_true rfl)) 2).trans (congrFun (f3 16 (of_decide_eq_true rfl)) 2)) ((f18 17 (of_decide_eq_true rfl)).trans (f3 17 (of_decide_eq_true rfl))) hI16
       have I65 : jI18 σ16 := jI18_fr ((congrFun (f18 18 (of_decide_eq_true rfl)) 0).trans (congrFun (f3 18 (of_decide_eq_true rfl)) 0)) ((f18 19 (of_decide_eq_true rfl)).trans (f3 19 (of_decide_eq_true rfl))) hI18
       have I66 : jI22 σ16 := jI22_fr ((congrFun (f18 22 (of_decide_eq_true rfl)) 0).trans (congrFun (f3 22 (of_decide_eq_true rfl)) 0)) ((f18 23 (of_decide_eq_true rfl)).trans (f3 23 (of_decide_eq_true rfl))) hI22
       exact by
        have I67 : jI31 σ16 := jI31_fr ((congrFun (f18 31 (of_decide_eq_true rfl)) 8).trans (congrFun (f3 31 (of_decide_eq_true rfl)) 8)) ((f18 33 (of_decide_eq_true rfl)).trans (f3 33 (of_decide_eq_true rfl))) ((f18 36 (of_decide_eq_true rfl)).trans (f3 36 (of_decide_eq_true rfl))) hI31
        have I68 : jI38 σ16 := jI38_fr ((congrFun (f18 38 (of_decide_eq_true rfl)) 0).trans (congrFun (f3 38 (of_decide_eq_true rfl)) 0)) ((congrFun (f18 38 (of_decide_eq_true rfl)) 1).trans (congrFun (f3 38 (of_decide_eq_true rfl)) 1)) ((f18 39 (of_decide_eq_true rfl)).trans (f3 39 (of_decide_eq_true rfl))) hI38
        have I69 : jI43 σ16 := jI43_fr ((congrFun (f18 43 (of_decide_eq_true rfl)) 8).trans (congrFun (f3 43 (of_decide_eq_true rfl)) 8)) hI43
        have I70 : jI47 σ16 := jI47_fr ((congrFun (f18 47 (of_decide_eq_true rfl)) 0).trans (congrFun (f3 47 (of_decide_eq_true rfl)) 0)) ((f18 48 (of_decide_eq_true rfl)).trans (f3 48 (of_decide_eq_true rfl))) ((f18 49 (of_decide_eq_true rfl)).trans (f3 49 (of_decide_eq_true rfl))) hI47
        have I71 : jI50 σ16 := jI50_fr ((f18 52 (of_decide_eq_true rfl)).trans (f3 52 (of_decide_eq_true rfl))) hI50
        have I72 : jI102 σ16 := jI102_fr ((f19 6 (of_decide_eq_true rfl)).trans (congrFun (f3 55 (of_decide_eq_true rfl)) 6)) ((f18 60 (of_decide_eq_true rfl)).trans (f3 60 (of_decide_eq_true rfl))) ((f18 61 (of_decide_eq_true rfl)).trans (f3 61 (of_decide_eq_true rfl))) hI102
        have I73 : jI103 σ16 := jI103_fr ((f19 9 (of_decide_eq_true rfl)).trans (congrFun (f3 55 (of_decide_eq_true rfl)) 9)) hI103
        have I74 : jI104 σ16 := jI104_fr ((f19 10 (of_decide_eq_true rfl)).trans (congrFun (f3 55 (of_decide_eq_true rfl)) 10)) ((f19 12 (of_decide_eq_true rfl)).trans (congrFun (f3 55 (of_decide_eq_true rfl)) 12)) ((f19 13 (of_decide_eq_true rfl)).trans (congrFun (f3 55 (of_decide_eq_true rfl)) 13)) ((f18 62 (of_decide_eq_true rfl)).trans (f3 62 (of_decide_eq_true rfl))) ((f18 67 (of_decide_eq_true rfl)).trans (f3 67 (of_decide_eq_true rfl))) hI104
        have I75 : jI105 σ16 := jI105_fr ((f19 15 (of_decide_eq_true rfl)).trans (congrFun (f3 55 (of_decide_eq_true rfl)) 15)) ((f18 65 (of_decide_eq_true rfl)).trans (f3 65 (of_decide_eq_true rfl))) hI105
        have I76 : jI106 σ16 := jI106_fr ((f19 32 (of_decide_eq_true rfl)).trans (congrFun (f3 55 (of_decide_eq_true rfl)) 32)) ((f18 70 (of_decide_eq_true rfl)).trans (f3 70 (of_decide_eq_true rfl))) ((f18 71 (of_decide_eq_true rfl)).trans (f3 71 (of_decide_eq_true rfl))) ((f18 72 (of_decide_eq_true rfl)).trans (f3 72 (of_decide_eq_true rfl))) hI106
        have I77 : jI107 σ16 := jI107_fr ((f19 12 (of_decide_eq_true rfl)).trans (congrFun (f3 55 (of_decide_eq_true rfl)) 12)) ((f19 47 (of_decide_eq_true rfl)).trans (congrFun (f3 55 (of_decide_eq_true rfl)) 47)) ((f18 80 (of_decide_eq_true rfl)).trans (f3 80 (of_decide_eq_true rfl))) hI107
        have I78 : jI109 σ16 := jI109_fr ((f19 50 (of_decide_eq_true rfl)).trans (congrFun (f3 55 (of_decide_eq_true rfl)) 50)) hI109
        have I79 : jI110 σ16 := jI110_fr ((f18 86 (of_decide_eq_true rfl)).trans (f3 86 (of_decide_eq_true rfl))) ((f18 87 (of_decide_eq_true rfl)).trans (f3 87 (of_decide_eq_true rfl))) hI110
        have I80 : jI111 σ16 := jI111_fr ((f18 79 (of_decide_eq_true rfl)).trans (f3 79 (of_decide_eq_true rfl))) hI111
        have I81 : jI119 σ16 := jI119_fr ((f18 68 (of_decide_eq_true rfl)).trans (f3 68 (of_decide_eq_true rfl))) hI119
        have p82 : jKept σ16 := jKept.fr ((f18 75 (of_decide_eq_true rfl)).trans (f3 75 (of_decide_eq_true rfl))) ((f18 76 (of_decide_eq_true rfl)).trans (f3 76 (of_decide_eq_true rfl))) ((f18 77 (of_decide_eq_true rfl)).trans (f3 77 (of_decide_eq_true rfl))) hs_jKept
        have p83 : jBook σ16 := jBook.fr ((f19 47 (of_decide_eq_true rfl)).trans (congrFun (f3 55 (of_decide_eq_true rfl)) 47)) ((f19 10 (of_decide_eq_true rfl)).trans (congrFun (f3 55 (of_decide_eq_true rfl)) 10)) ((f18 81 (of_decide_eq_true rfl)).trans (f3 81 (of_decide_eq_true rfl))) hs_jBook
        have z84 : (σ16 38 0).toInt = (σ 38 0).toInt := (congrArg Int32.toInt (show σ16 38 0 = (σ 38 0) from ((congrFun (f18 38 (of_decide_eq_true rfl)) 0).trans (congrFun (f3 38 (of_decide_eq_true rfl)) 0))))
        have z85 : (σ16 55 32).toInt = (σ 55 32).toInt := (congrArg Int32.toInt (show σ16 55 32 = (σ 55 32) from ((f19 32 (of_decide_eq_true rfl)).trans (congrFun (f3 55 (of_decide_eq_true rfl)) 32))))
        exact by exact ih x60 σ16 τ _ _ ls (by have h9 := tx60; omega) ⟨I61, I62, I63, I64, I65, I66, I67, I68, I69, I70, I71, I20, I72, I73, I74, I75, I76, I77, I78, I79, I80, I81, p82, p83, (by omega)⟩ hP hS (lv_sub hl [0, 1, 2, 3] rfl)
  · obtain ⟨q92, k86, k87, k88, k89, k90, k91⟩ := h8
    refine lv_pop hx hb dL_law_968 rfl ?_
    refine lv_aload_n hx hb dL_law_969 rfl (lv_at hl 1 rfl) ?_
    have I93 : jI101 σ1 := jI101_fr (congrFun (f3 55 (of_decide_eq_true rfl)) 4) (congrFun (f3 55 (of_decide_eq_true rfl)) 5) (f3 56 (of_decide_eq_true rfl)) (f3 57 (of_decide_eq_true rfl)) (f3 58 (of_decide_eq_true rfl)) (f3 59 (of_decide_eq_true rfl)) hI101
    have z94 : (σ1 55 5).toInt = (σ 55 5).toInt := (congrArg Int32.toInt (show σ1 55 5 = (σ 55 5) from (congrFun (f3 55 (of_decide_eq_true rfl)) 5)))
    refine jcallV (As := []) (rest := []) ⟨hx, hb, hml, hown, hts⟩ hK hP hA hS hZ (c_X12_undo l D cI cL ad zz hJ σ1 τ I93) cw_RL_124 (jc_55 cI cL ad σ1 τ) rfl ⟨Nat.le_of_ble_eq_true rfl, Nat.le_of_ble_eq_true rfl⟩ rfl rfl rfl hl.1 rfl (Nat.le_of_ble_eq_true rfl) dL_law_970 ⟨Nat.le_of_ble_eq_true rfl, Nat.le_of_ble_eq_true rfl⟩ (fun r96 σ95 τ95 H locs h95 hP hS => ?_)
    obtain ⟨rfl, f97, f98, I99, h95⟩ := h95
    rcases h95 with h101 | h102
    · obtain ⟨q106, k103, k104, k105⟩ := h101
      have q106 := q106.symm
      subst q106
      refine lv_pop hx hb dL_law_973 rfl ?_
      refine lv_goto (tgt := 1357) hx hb dL_law_974 (of_decide_eq_true rfl) ?_
      obtain ⟨x107, ex107⟩ : ∃ y : Int32, y = x0 + 6 := ⟨_, rfl⟩
      exact by
       have tx107 : x107.toInt = x0.toInt + 6 := (jadd ex107 rfl jz_6 (by omega) (by omega)).trans (by omega)
       refine lv_iinc (v := x107) (lv' := [(3, .int x107), (2, .ref (ad 55)), (1, .ref (ad 0)), (0, .ref b)]) hx hb dL_law_1357 hl (k := 0) rfl (by rw [ex107]; rfl) (of_decide_eq_true rfl) rfl (fun ls hl => ?_)
       refine lv_goto (tgt := 18) hx hb dL_law_1360 (of_decide_eq_true rfl) ?_
       have I108 : jI2 σ95 := jI2_fr (congrFun (f97 2 (of_decide_eq_true rfl)) 0) (congrFun (f97 2 (of_decide_eq_true rfl)) 1) (congrFun (f97 2 (of_decide_eq_true rfl)) 2) (congrFun (f97 2 (of_decide_eq_true rfl)) 3) (f97 6 (of_decide_eq_true rfl)) I5
       have I109 : jI9 σ95 := jI9_fr ((congrFun (f97 9 (of_decide_eq_true rfl)) 0).trans (congrFun (f3 9 (of_decide_eq_true rfl)) 0)) ((f97 10 (of_decide_eq_true rfl)).trans (f3 10 (of_decide_eq_true rfl))) ((f97 11 (of_decide_eq_true rfl)).trans (f3 11 (of_decide_eq_true rfl))) hI9
       have I110 : jI12 σ95 := jI12_fr ((congrFun (f97 12 (of_decide_eq_true rfl)) 0).trans (congrFun (f3 12 (of_decide_eq_true rfl)) 0)) ((f97 13 (of_decide_eq_true rfl)).trans (f3 13 (of_decide_eq_true rfl))) hI12
       have I111 : jI16 σ95 := jI16_fr ((congrFun (f97 16 (of_decide_eq_true rfl)) 0).trans (congrFun (f3 16 (of_decide_eq_true rfl)) 0)) ((congrFun (f97 16 (of_decide_eq_true rfl)) 1).trans (congrFun (f3 16 (of_decide_eq_true rfl)) 1)) ((congrFun (f97 16 (of_decide_eq_true rfl)) 2).trans (congrFun (f3 16 (of_decide_eq_true rfl)) 2)) ((f97 17 (of_decide_eq_true rfl)).trans (f3 17 (of_decide_eq_true rfl))) hI16
       have I112 : jI18 σ95 := jI18_fr ((congrFun (f97 18 (of_decide_eq_true rfl)) 0).trans (congrFun (f3 18 (of_decide_eq_true rfl)) 0)) ((f97 19 (of_decide_eq_true rfl)).trans (f3 19 (of_decide_eq_true rfl))) hI18
       have I113 : jI22 σ95 := jI22_fr ((congrFun (f97 22 (of_decide_eq_true rfl)) 0).trans (congrFun (f3 22 (of_decide_eq_true rfl)) 0)) ((f97 23 (of_decide_eq_true rfl)).trans (f3 23 (of_decide_eq_true rfl))) hI22
       exact by
        have I114 : jI31 σ95 := jI31_fr ((congrFun (f97 31 (of_decide_eq_true rfl)) 8).trans (congrFun (f3 31 (of_decide_eq_true rfl)) 8)) ((f97 33 (of_decide_eq_true rfl)).trans (f3 33 (of_decide_eq_true rfl))) ((f97 36 (of_decide_eq_true rfl)).trans (f3 36 (of_decide_eq_true rfl))) hI31
        have I115 : jI38 σ95 := jI38_fr ((congrFun (f97 38 (of_decide_eq_true rfl)) 0).trans (congrFun (f3 38 (of_decide_eq_true rfl)) 0)) ((congrFun (f97 38 (of_decide_eq_true rfl)) 1).trans (congrFun (f3 38 (of_decide_eq_true rfl)) 1)) ((f97 39 (of_decide_eq_true rfl)).trans (f3 39 (of_decide_eq_true rfl))) hI38
        have I116 : jI43 σ95 := jI43_fr ((congrFun (f97 43 (of_decide_eq_true rfl)) 8).trans (congrFun (f3 43 (of_decide_eq_true rfl)) 8)) hI43
        have I117 : jI47 σ95 := jI47_fr ((congrFun (f97 47 (of_decide_eq_true rfl)) 0).trans (congrFun (f3 47 (of_decide_eq_true rfl)) 0)) ((f97 48 (of_decide_eq_true rfl)).trans (f3 48 (of_decide_eq_true rfl))) ((f97 49 (of_decide_eq_true rfl)).trans (f3 49 (of_decide_eq_true rfl))) hI47
        have I118 : jI50 σ95 := jI50_fr ((f97 52 (of_decide_eq_true rfl)).trans (f3 52 (of_decide_eq_true rfl))) hI50
        have I119 : jI102 σ95 := jI102_fr ((f98 6 (of_decide_eq_true rfl)).trans (congrFun (f3 55 (of_decide_eq_true rfl)) 6)) ((f97 60 (of_decide_eq_true rfl)).trans (f3 60 (of_decide_eq_true rfl))) ((f97 61 (of_decide_eq_true rfl)).trans (f3 61 (of_decide_eq_true rfl))) hI102
        have I120 : jI103 σ95 := jI103_fr ((f98 9 (of_decide_eq_true rfl)).trans (congrFun (f3 55 (of_decide_eq_true rfl)) 9)) hI103
        have I121 : jI104 σ95 := jI104_fr ((f98 10 (of_decide_eq_true rfl)).trans (congrFun (f3 55 (of_decide_eq_true rfl)) 10)) ((f98 12 (of_decide_eq_true rfl)).trans (congrFun (f3 55 (of_decide_eq_true rfl)) 12)) ((f98 13 (of_decide_eq_true rfl)).trans (congrFun (f3 55 (of_decide_eq_true rfl)) 13)) ((f97 62 (of_decide_eq_true rfl)).trans (f3 62 (of_decide_eq_true rfl))) ((f97 67 (of_decide_eq_true rfl)).trans (f3 67 (of_decide_eq_true rfl))) hI104
        have I122 : jI105 σ95 := jI105_fr ((f98 15 (of_decide_eq_true rfl)).trans (congrFun (f3 55 (of_decide_eq_true rfl)) 15)) ((f97 65 (of_decide_eq_true rfl)).trans (f3 65 (of_decide_eq_true rfl))) hI105
        have I123 : jI106 σ95 := jI106_fr ((f98 32 (of_decide_eq_true rfl)).trans (congrFun (f3 55 (of_decide_eq_true rfl)) 32)) ((f97 70 (of_decide_eq_true rfl)).trans (f3 70 (of_decide_eq_true rfl))) ((f97 71 (of_decide_eq_true rfl)).trans (f3 71 (of_decide_eq_true rfl))) ((f97 72 (of_decide_eq_true rfl)).trans (f3 72 (of_decide_eq_true rfl))) hI106
        have I124 : jI107 σ95 := jI107_fr ((f98 12 (of_decide_eq_true rfl)).trans (congrFun (f3 55 (of_decide_eq_true rfl)) 12)) ((f98 47 (of_decide_eq_true rfl)).trans (congrFun (f3 55 (of_decide_eq_true rfl)) 47)) ((f97 80 (of_decide_eq_true rfl)).trans (f3 80 (of_decide_eq_true rfl))) hI107
        have I125 : jI109 σ95 := jI109_fr ((f98 50 (of_decide_eq_true rfl)).trans (congrFun (f3 55 (of_decide_eq_true rfl)) 50)) hI109
        have I126 : jI110 σ95 := jI110_fr ((f97 86 (of_decide_eq_true rfl)).trans (f3 86 (of_decide_eq_true rfl))) ((f97 87 (of_decide_eq_true rfl)).trans (f3 87 (of_decide_eq_true rfl))) hI110
        have I127 : jI111 σ95 := jI111_fr ((f97 79 (of_decide_eq_true rfl)).trans (f3 79 (of_decide_eq_true rfl))) hI111
        have I128 : jI119 σ95 := jI119_fr ((f97 68 (of_decide_eq_true rfl)).trans (f3 68 (of_decide_eq_true rfl))) hI119
        have p129 : jKept σ95 := jKept.fr ((f97 75 (of_decide_eq_true rfl)).trans (f3 75 (of_decide_eq_true rfl))) ((f97 76 (of_decide_eq_true rfl)).trans (f3 76 (of_decide_eq_true rfl))) ((f97 77 (of_decide_eq_true rfl)).trans (f3 77 (of_decide_eq_true rfl))) hs_jKept
        have p130 : jBook σ95 := jBook.fr ((f98 47 (of_decide_eq_true rfl)).trans (congrFun (f3 55 (of_decide_eq_true rfl)) 47)) ((f98 10 (of_decide_eq_true rfl)).trans (congrFun (f3 55 (of_decide_eq_true rfl)) 10)) ((f97 81 (of_decide_eq_true rfl)).trans (f3 81 (of_decide_eq_true rfl))) hs_jBook
        have z131 : (σ95 38 0).toInt = (σ 38 0).toInt := (congrArg Int32.toInt (show σ95 38 0 = (σ 38 0) from ((congrFun (f97 38 (of_decide_eq_true rfl)) 0).trans (congrFun (f3 38 (of_decide_eq_true rfl)) 0))))
        have z132 : (σ95 55 32).toInt = (σ 55 32).toInt := (congrArg Int32.toInt (show σ95 55 32 = (σ 55 32) from ((f98 32 (of_decide_eq_true rfl)).trans (congrFun (f3 55 (of_decide_eq_true rfl)) 32))))
        exact by exact ih x107 σ95 τ _ _ ls (by have h9 := tx107; omega) ⟨I108, I109, I110, I111, I112, I113, I114, I115, I116, I117, I118, I99, I119, I120, I121, I122, I123, I124, I125, I126, I127, I128, p129, p130, (by omega)⟩ hP hS (lv_sub hl [0, 1, 2, 3] rfl)
    · obtain ⟨q138, k133, k134, k135, k136, k137⟩ := h102
      refine lv_pop hx hb dL_law_973 rfl ?_
      refine lv_goto (tgt := 1357) hx hb dL_law_974 (of_decide_eq_true rfl) ?_
      obtain ⟨x139, ex139⟩ : ∃ y : Int32, y = x0 + 6 := ⟨_, rfl⟩
      exact by
       have tx139 : x139.toInt = x0.toInt + 6 := (jadd ex139 rfl jz_6 (by omega) (by omega)).trans (by omega)
       refine lv_iinc (v := x139) (lv' := [(3, .int x139), (2, .ref (ad 55)), (1, .ref (ad 0)), (0, .ref b)]) hx hb dL_law_1357 hl (k := 0) rfl (by rw [ex139]; rfl) (of_decide_eq_true rfl) rfl (fun ls hl => ?_)
       refine lv_goto (tgt := 18) hx hb dL_law_1360 (of_decide_eq_true rfl) ?_
       have I140 : jI2 σ95 := jI2_fr (congrFun (f97 2 (of_decide_eq_true rfl)) 0) (congrFun (f97 2 (of_decide_eq_true rfl)) 1) (congrFun (f97 2 (of_decide_eq_true rfl)) 2) (congrFun (f97 2 (of_decide_eq_true rfl)) 3) (f97 6 (of_decide_eq_true rfl)) I5
       have I141 : jI9 σ95 := jI9_fr ((congrFun (f97 9 (of_decide_eq_true rfl)) 0).trans (congrFun (f3 9 (of_decide_eq_true rfl)) 0)) ((f97 10 (of_decide_eq_true rfl)).trans (f3 10 (of_decide_eq_true rfl))) ((f97 11 (of_decide_eq_true rfl)).trans (f3 11 (of_decide_eq_true rfl))) hI9
       have I142 : jI12 σ95 := jI12_fr ((congrFun (f97 12 (of_decide_eq_true rfl)) 0).trans (congrFun (f3 12 (of_decide_eq_true rfl)) 0)) ((f97 13 (of_decide_eq_true rfl)).trans (f3 13 (of_decide_eq_true rfl))) hI12
       have I143 : jI16 σ95 := jI16_fr ((congrFun (f97 16 (of_decide_eq_true rfl)) 0).trans (congrFun (f3 16 (of_decide_eq_true rfl)) 0)) ((congrFun (f97 16 (of_decide_eq_true rfl)) 1).trans (congrFun (f3 16 (of_decide_eq_true rfl)) 1)) ((congrFun (f97 16 (of_decide_eq_true rfl)) 2).trans (congrFun (f3 16 (of_decide_eq_true rfl)) 2)) ((f97 17 (of_decide_eq_true rfl)).trans (f3 17 (of_decide_eq_true rfl))) hI16
       have I144 : jI18 σ95 := jI18_fr ((congrFun (f97 18 (of_decide_eq_true rfl)) 0).trans (congrFun (f3 18 (of_decide_eq_true rfl)) 0)) ((f97 19 (of_decide_eq_true rfl)).trans (f3 19 (of_decide_eq_true rfl))) hI18
       have I145 : jI22 σ95 := jI22_fr ((congrFun (f97 22 (of_decide_eq_true rfl)) 0).trans (congrFun (f3 22 (of_decide_eq_true rfl)) 0)) ((f97 23 (of_decide_eq_true rfl)).trans (f3 23 (of_decide_eq_true rfl))) hI22
       exact by
        have I146 : jI31 σ95 := jI31_fr ((congrFun (f97 31 (of_decide_eq_true rfl)) 8).trans (congrFun (f3 31 (of_decide_eq_true rfl)) 8)) ((f97 33 (of_decide_eq_true rfl)).trans (f3 33 (of_decide_eq_true rfl))) ((f97 36 (of_decide_eq_true rfl)).trans (f3 36 (of_decide_eq_true rfl))) hI31
        have I147 : jI38 σ95 := jI38_fr ((congrFun (f97 38 (of_decide_eq_true rfl)) 0).trans (congrFun (f3 38 (of_decide_eq_true rfl)) 0)) ((congrFun (f97 38 (of_decide_eq_true rfl)) 1).trans (congrFun (f3 38 (of_decide_eq_true rfl)) 1)) ((f97 39 (of_decide_eq_true rfl)).trans (f3 39 (of_decide_eq_true rfl))) hI38
        have I148 : jI43 σ95 := jI43_fr ((congrFun (f97 43 (of_decide_eq_true rfl)) 8).trans (congrFun (f3 43 (of_decide_eq_true rfl)) 8)) hI43
        have I149 : jI47 σ95 := jI47_fr ((congrFun (f97 47 (of_decide_eq_true rfl)) 0).trans (congrFun (f3 47 (of_decide_eq_true rfl)) 0)) ((f97 48 (of_decide_eq_true rfl)).trans (f3 48 (of_decide_eq_true rfl))) ((f97 49 (of_decide_eq_true rfl)).trans (f3 49 (of_decide_eq_true rfl))) hI47
        have I150 : jI50 σ95 := jI50_fr ((f97 52 (of_decide_eq_true rfl)).trans (f3 52 (of_decide_eq_true rfl))) hI50
        have I151 : jI102 σ95 := jI102_fr ((f98 6 (of_decide_eq_true rfl)).trans (congrFun (f3 55 (of_decide_eq_true rfl)) 6)) ((f97 60 (of_decide_eq_true rfl)).trans (f3 60 (of_decide_eq_true rfl))) ((f97 61 (of_decide_eq_true rfl)).trans (f3 61 (of_decide_eq_true rfl))) hI102
        have I152 : jI103 σ95 := jI103_fr ((f98 9 (of_decide_eq_true rfl)).trans (congrFun (f3 55 (of_decide_eq_true rfl)) 9)) hI103
        have I153 : jI104 σ95 := jI104_fr ((f98 10 (of_decide_eq_true rfl)).trans (congrFun (f3 55 (of_decide_eq_true rfl)) 10)) ((f98 12 (of_decide_eq_true rfl)).trans (congrFun (f3 55 (of_decide_eq_true rfl)) 12)) ((f98 13 (of_decide_eq_true rfl)).trans (congrFun (f3 55 (of_decide_eq_true rfl)) 13)) ((f97 62 (of_decide_eq_true rfl)).trans (f3 62 (of_decide_eq_true rfl))) ((f97 67 (of_decide_eq_true rfl)).trans (f3 67 (of_decide_eq_true rfl))) hI104
        have I154 : jI105 σ95 := jI105_fr ((f98 15 (of_decide_eq_true rfl)).trans (congrFun (f3 55 (of_decide_eq_true rfl)) 15)) ((f97 65 (of_decide_eq_true rfl)).trans (f3 65 (of_decide_eq_true rfl))) hI105
        have I155 : jI106 σ95 := jI106_fr ((f98 32 (of_decide_eq_true rfl)).trans (congrFun (f3 55 (of_decide_eq_true rfl)) 32)) ((f97 70 (of_decide_eq_true rfl)).trans (f3 70 (of_decide_eq_true rfl))) ((f97 71 (of_decide_eq_true rfl)).trans (f3 71 (of_decide_eq_true rfl))) ((f97 72 (of_decide_eq_true rfl)).trans (f3 72 (of_decide_eq_true rfl))) hI106
        have I156 : jI107 σ95 := jI107_fr ((f98 12 (of_decide_eq_true rfl)).trans (congrFun (f3 55 (of_decide_eq_true rfl)) 12)) ((f98 47 (of_decide_eq_true rfl)).trans (congrFun (f3 55 (of_decide_eq_true rfl)) 47)) ((f97 80 (of_decide_eq_true rfl)).trans (f3 80 (of_decide_eq_true rfl))) hI107
        have I157 : jI109 σ95 := jI109_fr ((f98 50 (of_decide_eq_true rfl)).trans (congrFun (f3 55 (of_decide_eq_true rfl)) 50)) hI109
        have I158 : jI110 σ95 := jI110_fr ((f97 86 (of_decide_eq_true rfl)).trans (f3 86 (of_decide_eq_true rfl))) ((f97 87 (of_decide_eq_true rfl)).trans (f3 87 (of_decide_eq_true rfl))) hI110
        have I159 : jI111 σ95 := jI111_fr ((f97 79 (of_decide_eq_true rfl)).trans (f3 79 (of_decide_eq_true rfl))) hI111
        have I160 : jI119 σ95 := jI119_fr ((f97 68 (of_decide_eq_true rfl)).trans (f3 68 (of_decide_eq_true rfl))) hI119
        have p161 : jKept σ95 := jKept.fr ((f97 75 (of_decide_eq_true rfl)).trans (f3 75 (of_decide_eq_true rfl))) ((f97 76 (of_decide_eq_true rfl)).trans (f3 76 (of_decide_eq_true rfl))) ((f97 77 (of_decide_eq_true rfl)).trans (f3 77 (of_decide_eq_true rfl))) hs_jKept
        have p162 : jBook σ95 := jBook.fr ((f98 47 (of_decide_eq_true rfl)).trans (congrFun (f3 55 (of_decide_eq_true rfl)) 47)) ((f98 10 (of_decide_eq_true rfl)).trans (congrFun (f3 55 (of_decide_eq_true rfl)) 10)) ((f97 81 (of_decide_eq_true rfl)).trans (f3 81 (of_decide_eq_true rfl))) hs_jBook
        have z163 : (σ95 38 0).toInt = (σ 38 0).toInt := (congrArg Int32.toInt (show σ95 38 0 = (σ 38 0) from ((congrFun (f97 38 (of_decide_eq_true rfl)) 0).trans (congrFun (f3 38 (of_decide_eq_true rfl)) 0))))
        have z164 : (σ95 55 32).toInt = (σ 55 32).toInt := (congrArg Int32.toInt (show σ95 55 32 = (σ 55 32) from ((f98 32 (of_decide_eq_true rfl)).trans (congrFun (f3 55 (of_decide_eq_true rfl)) 32))))
        exact by exact ih x139 σ95 τ _ _ ls (by have h9 := tx139; omega) ⟨I140, I141, I142, I143, I144, I145, I146, I147, I148, I149, I150, I99, I151, I152, I153, I154, I155, I156, I157, I158, I159, I160, p161, p162, (by omega)⟩ hP hS (lv_sub hl [0, 1, 2, 3] rfl)
set_option maxHeartbeats 4000000 in
set_option maxRecDepth 100000 in
theorem law_case_27 {p : Program} {e : Env} {s : State} {m : MethodId} {below : List Frame} {meth : Method} {c : Code} (l : Launch) {b L : Nat} {xs : Nat → Int32} {D : va_G} {cI cL : ClassId} {ad zz : Nat → Nat} (C0 : lw_At p s m meth c b L xs) (hJ : jD ad) (hA : ∀ q, jA ad q → s.heap.size ≤ q) (hK : jK D cI cL s) (hZ : jZ zz (fun q : Nat => s.heap.size ≤ q) s s.heap) {x0 : Int32} (hx0 : 0 ≤ x0.toInt) (hxL : x0.toInt + 6 ≤ (L : Int)) (hL : L ≤ 384) {σ : Nat → Nat → Int32} {τ : Nat → Nat → Int64} {H : Heap} {locs : List Loc} (hS : va_S (fun q : Nat => s.heap.size ≤ q) s.heap H locs) {ls : Array Slot} (hAll : jAll σ τ) (hP : jH D cI cL ad σ τ H) (hl : lv_has ls 4 [(3, .int x0), (2, .ref (ad 55)), (1, .ref (ad 0)), (0, .ref b)]) (ih : ∀ (x1 : Int32) (σ : Nat → Nat → Int32) (τ : Nat → Nat → Int64) (H : Heap) (locs : List Loc) (ls : Array Slot), x1.toInt = x0.toInt + 6 → jAll σ τ → jH D cI cL ad σ τ H → va_S (fun q : Nat => s.heap.size ≤ q) s.heap H locs → lv_has ls 4 [(3, .int x1), (2, .ref (ad 55)), (1, .ref (ad 0)), (0, .ref b)] → W p l e room_1 s m #[Value.ref b] below meth c H locs 90 348600 (lw_Z below #[Value.ref b] s) (F0 m 18 ls [])) : W p l e room_1 s m #[Value.ref b] below meth c H locs 90 348600 (lw_Z below #[Value.ref b] s) (F0 m 977 ls []) := by
  obtain ⟨hx, hb, hr, hml, hown, hts0, hX, hbl, hlocks, hgv⟩ := C0
  have hts : ∀ w ∈ wsL_law, w.before #[Value.ref b] s = true := fun w h => hts0 w (wsL_law_in w h)
  have hbA : ¬ (fun q : Nat => s.heap.size ≤ q) b := Nat.not_le.mpr hbl
  have hown : s.vm.findClass RL = some m.cls := hown
  obtain ⟨hI2, hI9, hI12, hI16, hI18, hI22, hI31, hI38, hI43, hI47, hI50, hI101, hI102, hI103, hI104, hI105, hI106, hI107, hI109, hI110, hI111, hI119, hs_jKept, hs_jBook, ht0⟩ := hAll
  have hL9 : (L : Int) ≤ 384 := by omega
  refine lv_aload_n hx hb dL_law_977 rfl (lv_at hl 2 rfl) ?_
  refine jcallV (As := []) (rest := []) ⟨hx, hb, hml, hown, hts⟩ hK hP hA hS hZ (c_X11_redo l D cI cL ad zz hJ σ τ hI2) cw_RL_125 (jc_0 cI cL ad σ τ) rfl ⟨Nat.le_of_ble_eq_true rfl, Nat.le_of_ble_eq_true rfl⟩ rfl rfl rfl hl.1 rfl (Nat.le_of_ble_eq_true rfl) dL_law_978 ⟨Nat.le_of_ble_eq_true rfl, Nat.le_of_ble_eq_true rfl⟩ (fun r2 σ1 τ1 H locs h1 hP hS => ?_)
  obtain ⟨rfl, f3, f4, I5, h1⟩ := h1
  rcases h1 with h7 | h8
  · obtain ⟨q13, k9, k10, k11, k12⟩ := h7
    have q13 := q13.symm
    subst q13
    refine lv_pop hx hb dL_law_981 rfl ?_
    refine lv_aload_n hx hb dL_law_982 rfl (lv_at hl 1 rfl) ?_
    have I14 : jI101 σ1 := jI101_fr (congrFun (f3 55 (of_decide_eq_true rfl)) 4) (congrFun (f3 55 (of_decide_eq_true rfl)) 5) (f3 56 (of_decide_eq_true rfl)) (f3 57 (of_decide_eq_true rfl)) (f3 58 (of_decide_eq_true rfl)) (f3 59 (of_decide_eq_true rfl)) hI101
    have z15 : (σ1 55 5).toInt = (σ 55 5).toInt := (congrArg Int32.toInt (show σ1 55 5 = (σ 55 5) from (congrFun (f3 55 (of_decide_eq_true rfl)) 5)))
    have z16 : (σ1 55 4).toInt = (σ 55 4).toInt := (congrArg Int32.toInt (show σ1 55 4 = (σ 55 4) from (congrFun (f3 55 (of_decide_eq_true rfl)) 4)))
    refine jcallV (As := []) (rest := []) ⟨hx, hb, hml, hown, hts⟩ hK hP hA hS hZ (c_X12_redo l D cI cL ad zz hJ σ1 τ I14) cw_RL_128 (jc_55 cI cL ad σ1 τ) rfl ⟨Nat.le_of_ble_eq_true rfl, Nat.le_of_ble_eq_true rfl⟩ rfl rfl rfl hl.1 rfl (Nat.le_of_ble_eq_true rfl) dL_law_983 ⟨Nat.le_of_ble_eq_true rfl, Nat.le_of_ble_eq_true rfl⟩ (fun r18 σ17 τ17 H locs h17 hP hS => ?_)
    obtain ⟨rfl, f19, f20, I21, h17⟩ := h17
    rcases h17 with h23 | h24
    · obtain ⟨q28, k25, k26, k27⟩ := h23
      have q28 := q28.symm
      subst q28
      refine lv_pop hx hb dL_law_986 rfl ?_
      refine lv_goto (tgt := 1357) hx hb dL_law_987 (of_decide_eq_true rfl) ?_
      obtain ⟨x29, ex29⟩ : ∃ y : Int32, y = x0 + 6 := ⟨_, rfl⟩
      exact by
       have tx29 : x29.toInt = x0.toInt + 6 := (jadd ex29 rfl jz_6 (by omega) (by omega)).trans (by omega)
       refine lv_iinc (v := x29) (lv' := [(3, .int x29), (2, .ref (ad 55)), (1, .ref (ad 0)), (0, .ref b)]) hx hb dL_law_1357 hl (k := 0) rfl (by rw [ex29]; rfl) (of_decide_eq_true rfl) rfl (fun ls hl => ?_)
       refine lv_goto (tgt := 18) hx hb dL_law_1360 (of_decide_eq_true rfl) ?_
       have I30 : jI2 σ17 := jI2_fr (congrFun (f19 2 (of_decide_eq_true rfl)) 0) (congrFun (f19 2 (of_decide_eq_true rfl)) 1) (congrFun (f19 2 (of_decide_eq_true rfl)) 2) (congrFun (f19 2 (of_decide_eq_true rfl)) 3) (f19 6 (of_decide_eq_true rfl)) I5
       have I31 : jI9 σ17 := jI9_fr ((congrFun (f19 9 (of_decide_eq_true rfl)) 0).trans (congrFun (f3 9 (of_decide_eq_true rfl)) 0)) ((f19 10 (of_decide_eq_true rfl)).trans (f3 10 (of_decide_eq_true rfl))) ((f19 11 (of_decide_eq_true rfl)).trans (f3 11 (of_decide_eq_true rfl))) hI9
       have I32 : jI12 σ17 := jI12_fr ((congrFun (f19 12 (of_decide_eq_true rfl)) 0).trans (congrFun (f3 12 (of_decide_eq_true rfl)) 0)) ((f19 13 (of_decide_eq_true rfl)).trans (f3 13 (of_decide_eq_true rfl))) hI12
       have I33 : jI16 σ17 := jI16_fr ((congrFun (f19 16 (of_decide_eq_true rfl)) 0).trans (congrFun (f3 16 (of_decide_eq_true rfl)) 0)) ((congrFun (f19 16 (of_decide_eq_true rfl)) 1).trans (congrFun (f3 16 (of_decide_eq_true rfl)) 1)) ((congrFun (f19 16 (of_decide_eq_true rfl)) 2).trans (congrFun (f3 16 (of_decide_eq_true rfl)) 2)) ((f19 17 (of_decide_eq_true rfl)).trans (f3 17 (of_decide_eq_true rfl))) hI16
       have I34 : jI18 σ17 := jI18_fr ((congrFun (f19 18 (of_decide_eq_true rfl)) 0).trans (congrFun (f3 18 (of_decide_eq_true rfl)) 0)) ((f19 19 (of_decide_eq_true rfl)).trans (f3 19 (of_decide_eq_true rfl))) hI18
       have I35 : jI22 σ17 := jI22_fr ((congrFun (f19 22 (of_decide_eq_true rfl)) 0).trans (congrFun (f3 22 (of_decide_eq_true rfl)) 0)) ((f19 23 (of_decide_eq_true rfl)).trans (f3 23 (of_decide_eq_true rfl))) hI22
       exact by
        have I36 : jI31 σ17 := jI31_fr ((congrFun (f19 31 (of_decide_eq_true rfl)) 8).trans (congrFun (f3 31 (of_decide_eq_true rfl)) 8)) ((f19 33 (of_decide_eq_true rfl)).trans (f3 33 (of_decide_eq_true rfl))) ((f19 36 (of_decide_eq_true rfl)).trans (f3 36 (of_decide_eq_true rfl))) hI31
        have I37 : jI38 σ17 := jI38_fr ((congrFun (f19 38 (of_decide_eq_true rfl)) 0).trans (congrFun (f3 38 (of_decide_eq_true rfl)) 0)) ((congrFun (f19 38 (of_decide_eq_true rfl)) 1).trans (congrFun (f3 38 (of_decide_eq_true rfl)) 1)) ((f19 39 (of_decide_eq_true rfl)).trans (f3 39 (of_decide_eq_true rfl))) hI38
        have I38 : jI43 σ17 := jI43_fr ((congrFun (f19 43 (of_decide_eq_true rfl)) 8).trans (congrFun (f3 43 (of_decide_eq_true rfl)) 8)) hI43
        have I39 : jI47 σ17 := jI47_fr ((congrFun (f19 47 (of_decide_eq_true rfl)) 0).trans (congrFun (f3 47 (of_decide_eq_true rfl)) 0)) ((f19 48 (of_decide_eq_true rfl)).trans (f3 48 (of_decide_eq_true rfl))) ((f19 49 (of_decide_eq_true rfl)).trans (f3 49 (of_decide_eq_true rfl))) hI47
        have I40 : jI50 σ17 := jI50_fr ((f19 52 (of_decide_eq_true rfl)).trans (f3 52 (of_decide_eq_true rfl))) hI50
        have I41 : jI102 σ17 := jI102_fr ((f20 6 (of_decide_eq_true rfl)).trans (congrFun (f3 55 (of_decide_eq_true rfl)) 6)) ((f19 60 (of_decide_eq_true rfl)).trans (f3 60 (of_decide_eq_true rfl))) ((f19 61 (of_decide_eq_true rfl)).trans (f3 61 (of_decide_eq_true rfl))) hI102
        have I42 : jI103 σ17 := jI103_fr ((f20 9 (of_decide_eq_true rfl)).trans (congrFun (f3 55 (of_decide_eq_true rfl)) 9)) hI103
        have I43 : jI104 σ17 := jI104_fr ((f20 10 (of_decide_eq_true rfl)).trans (congrFun (f3 55 (of_decide_eq_true rfl)) 10)) ((f20 12 (of_decide_eq_true rfl)).trans (congrFun (f3 55 (of_decide_eq_true rfl)) 12)) ((f20 13 (of_decide_eq_true rfl)).trans (congrFun (f3 55 (of_decide_eq_true rfl)) 13)) ((f19 62 (of_decide_eq_true rfl)).trans (f3 62 (of_decide_eq_true rfl))) ((f19 67 (of_decide_eq_true rfl)).trans (f3 67 (of_decide_eq_true rfl))) hI104
        have I44 : jI105 σ17 := jI105_fr ((f20 15 (of_decide_eq_true rfl)).trans (congrFun (f3 55 (of_decide_eq_true rfl)) 15)) ((f19 65 (of_decide_eq_true rfl)).trans (f3 65 (of_decide_eq_true rfl))) hI105
        have I45 : jI106 σ17 := jI106_fr ((f20 32 (of_decide_eq_true rfl)).trans (congrFun (f3 55 (of_decide_eq_true rfl)) 32)) ((f19 70 (of_decide_eq_true rfl)).trans (f3 70 (of_decide_eq_true rfl))) ((f19 71 (of_decide_eq_true rfl)).trans (f3 71 (of_decide_eq_true rfl))) ((f19 72 (of_decide_eq_true rfl)).trans (f3 72 (of_decide_eq_true rfl))) hI106
        have I46 : jI107 σ17 := jI107_fr ((f20 12 (of_decide_eq_true rfl)).trans (congrFun (f3 55 (of_decide_eq_true rfl)) 12)) ((f20 47 (of_decide_eq_true rfl)).trans (congrFun (f3 55 (of_decide_eq_true rfl)) 47)) ((f19 80 (of_decide_eq_true rfl)).trans (f3 80 (of_decide_eq_true rfl))) hI107
        have I47 : jI109 σ17 := jI109_fr ((f20 50 (of_decide_eq_true rfl)).trans (congrFun (f3 55 (of_decide_eq_true rfl)) 50)) hI109
        have I48 : jI110 σ17 := jI110_fr ((f19 86 (of_decide_eq_true rfl)).trans (f3 86 (of_decide_eq_true rfl))) ((f19 87 (of_decide_eq_true rfl)).trans (f3 87 (of_decide_eq_true rfl))) hI110
        have I49 : jI111 σ17 := jI111_fr ((f19 79 (of_decide_eq_true rfl)).trans (f3 79 (of_decide_eq_true rfl))) hI111
        have I50 : jI119 σ17 := jI119_fr ((f19 68 (of_decide_eq_true rfl)).trans (f3 68 (of_decide_eq_true rfl))) hI119
        have p51 : jKept σ17 := jKept.fr ((f19 75 (of_decide_eq_true rfl)).trans (f3 75 (of_decide_eq_true rfl))) ((f19 76 (of_decide_eq_true rfl)).trans (f3 76 (of_decide_eq_true rfl))) ((f19 77 (of_decide_eq_true rfl)).trans (f3 77 (of_decide_eq_true rfl))) hs_jKept
        have p52 : jBook σ17 := jBook.fr ((f20 47 (of_decide_eq_true rfl)).trans (congrFun (f3 55 (of_decide_eq_true rfl)) 47)) ((f20 10 (of_decide_eq_true rfl)).trans (congrFun (f3 55 (of_decide_eq_true rfl)) 10)) ((f19 81 (of_decide_eq_true rfl)).trans (f3 81 (of_decide_eq_true rfl))) hs_jBook
        have z53 : (σ17 38 0).toInt = (σ 38 0).toInt := (congrArg Int32.toInt (show σ17 38 0 = (σ 38 0) from ((congrFun (f19 38 (of_decide_eq_true rfl)) 0).trans (congrFun (f3 38 (of_decide_eq_true rfl)) 0))))
        have z54 : (σ17 55 32).toInt = (σ 55 32).toInt := (congrArg Int32.toInt (show σ17 55 32 = (σ 55 32) from ((f20 32 (of_decide_eq_true rfl)).trans (congrFun (f3 55 (of_decide_eq_true rfl)) 32))))
        exact by exact ih x29 σ17 τ _ _ ls (by have h9 := tx29; omega) ⟨I30, I31, I32, I33, I34, I35, I36, I37, I38, I39, I40, I21, I41, I42, I43, I44, I45, I46, I47, I48, I49, I50, p51, p52, (by omega)⟩ hP hS (lv_sub hl [0, 1, 2, 3] rfl)
    · obtain ⟨q60, k55, k56, k57, k58, k59⟩ := h24
      refine lv_pop hx hb dL_law_986 rfl ?_
      refine lv_goto (tgt := 1357) hx hb dL_law_987 (of_decide_eq_true rfl) ?_
      obtain ⟨x61, ex61⟩ : ∃ y : Int32, y = x0 + 6 := ⟨_, rfl⟩
      exact by
       have tx61 : x61.toInt = x0.toInt + 6 := (jadd ex61 rfl jz_6 (by omega) (by omega)).trans (by omega)
       refine lv_iinc (v := x61) (lv' := [(3, .int x61), (2, .ref (ad 55)), (1, .ref (ad 0)), (0, .ref b)]) hx hb dL_law_1357 hl (k := 0) rfl (by rw [ex61]; rfl) (of_decide_eq_true rfl) rfl (fun ls hl => ?_)
       refine lv_goto (tgt := 18) hx hb dL_law_1360 (of_decide_eq_true rfl) ?_
       have I62 : jI2 σ17 := jI2_fr (congrFun (f19 2 (of_decide_eq_true rfl)) 0) (congrFun (f19 2 (of_decide_eq_true rfl)) 1) (congrFun (f19 2 (of_decide_eq_true rfl)) 2) (congrFun (f19 2 (of_decide_eq_true rfl)) 3) (f19 6 (of_decide_eq_true rfl)) I5
       have I63 : jI9 σ17 := jI9_fr ((congrFun (f19 9 (of_decide_eq_true rfl)) 0).trans (congrFun (f3 9 (of_decide_eq_true rfl)) 0)) ((f19 10 (of_decide_eq_true rfl)).trans (f3 10 (of_decide_eq_true rfl))) ((f19 11 (of_decide_eq_true rfl)).trans (f3 11 (of_decide_eq_true rfl))) hI9
       have I64 : jI12 σ17 := jI12_fr ((congrFun (f19 12 (of_decide_eq_true rfl)) 0).trans (congrFun (f3 12 (of_decide_eq_true rfl)) 0)) ((f19 13 (of_decide_eq_true rfl)).trans (f3 13 (of_decide_eq_true rfl))) hI12
       have I65 : jI16 σ17 := jI16_fr ((congrFun (f19 16 (of_decide_eq_true rfl)) 0).trans (congrFun (f3 16 (of_decide_eq_true rfl)) 0)) ((congrFun (f19 16 (of_decide_eq_true rfl)) 1).trans (congrFun (f3 16 (of_decide_eq_true rfl)) 1)) ((congrFun (f19 16 (of_decide_eq_true rfl)) 2).trans (congrFun (f3 16 (of_decide_eq_true rfl)) 2)) ((f19 17 (of_decide_eq_true rfl)).trans (f3 17 (of_decide_eq_true rfl))) hI16
       have I66 : jI18 σ17 := jI18_fr ((congrFun (f19 18 (of_decide_eq_true rfl)) 0).trans (congrFun (f3 18 (of_decide_eq_true rfl)) 0)) ((f19 19 (of_decide_eq_true rfl)).trans (f3 19 (of_decide_eq_true rfl))) hI18
       have I67 : jI22 σ17 := jI22_fr ((congrFun (f19 22 (of_decide_eq_true rfl)) 0).trans (congrFun (f3 22 (of_decide_eq_true rfl)) 0)) ((f19 23 (of_decide_eq_true rfl)).trans (f3 23 (of_decide_eq_true rfl))) hI22
       exact by
        have I68 : jI31 σ17 := jI31_fr ((congrFun (f19 31 (of_decide_eq_true rfl)) 8).trans (congrFun (f3 31 (of_decide_eq_true rfl)) 8)) ((f19 33 (of_decide_eq_true rfl)).trans (f3 33 (of_decide_eq_true rfl))) ((f19 36 (of_decide_eq_true rfl)).trans (f3 36 (of_decide_eq_true rfl))) hI31
        have I69 : jI38 σ17 := jI38_fr ((congrFun (f19 38 (of_decide_eq_true rfl)) 0).trans (congrFun (f3 38 (of_decide_eq_true rfl)) 0)) ((congrFun (f19 38 (of_decide_eq_true rfl)) 1).trans (congrFun (f3 38 (of_decide_eq_true rfl)) 1)) ((f19 39 (of_decide_eq_true rfl)).trans (f3 39 (of_decide_eq_true rfl))) hI38
        have I70 : jI43 σ17 := jI43_fr ((congrFun (f19 43 (of_decide_eq_true rfl)) 8).trans (congrFun (f3 43 (of_decide_eq_true rfl)) 8)) hI43
        have I71 : jI47 σ17 := jI47_fr ((congrFun (f19 47 (of_decide_eq_true rfl)) 0).trans (congrFun (f3 47 (of_decide_eq_true rfl)) 0)) ((f19 48 (of_decide_eq_true rfl)).trans (f3 48 (of_decide_eq_true rfl))) ((f19 49 (of_decide_eq_true rfl)).trans (f3 49 (of_decide_eq_true rfl))) hI47
        have I72 : jI50 σ17 := jI50_fr ((f19 52 (of_decide_eq_true rfl)).trans (f3 52 (of_decide_eq_true rfl))) hI50
        have I73 : jI102 σ17 := jI102_fr ((f20 6 (of_decide_eq_true rfl)).trans (congrFun (f3 55 (of_decide_eq_true rfl)) 6)) ((f19 60 (of_decide_eq_true rfl)).trans (f3 60 (of_decide_eq_true rfl))) ((f19 61 (of_decide_eq_true rfl)).trans (f3 61 (of_decide_eq_true rfl))) hI102
        have I74 : jI103 σ17 := jI103_fr ((f20 9 (of_decide_eq_true rfl)).trans (congrFun (f3 55 (of_decide_eq_true rfl)) 9)) hI103
        have I75 : jI104 σ17 := jI104_fr ((f20 10 (of_decide_eq_true rfl)).trans (congrFun (f3 55 (of_decide_eq_true rfl)) 10)) ((f20 12 (of_decide_eq_true rfl)).trans (congrFun (f3 55 (of_decide_eq_true rfl)) 12)) ((f20 13 (of_decide_eq_true rfl)).trans (congrFun (f3 55 (of_decide_eq_true rfl)) 13)) ((f19 62 (of_decide_eq_true rfl)).trans (f3 62 (of_decide_eq_true rfl))) ((f19 67 (of_decide_eq_true rfl)).trans (f3 67 (of_decide_eq_true rfl))) hI104
        have I76 : jI105 σ17 := jI105_fr ((f20 15 (of_decide_eq_true rfl)).trans (congrFun (f3 55 (of_decide_eq_true rfl)) 15)) ((f19 65 (of_decide_eq_true rfl)).trans (f3 65 (of_decide_eq_true rfl))) hI105
        have I77 : jI106 σ17 := jI106_fr ((f20 32 (of_decide_eq_true rfl)).trans (congrFun (f3 55 (of_decide_eq_true rfl)) 32)) ((f19 70 (of_decide_eq_true rfl)).trans (f3 70 (of_decide_eq_true rfl))) ((f19 71 (of_decide_eq_true rfl)).trans (f3 71 (of_decide_eq_true rfl))) ((f19 72 (of_decide_eq_true rfl)).trans (f3 72 (of_decide_eq_true rfl))) hI106
        have I78 : jI107 σ17 := jI107_fr ((f20 12 (of_decide_eq_true rfl)).trans (congrFun (f3 55 (of_decide_eq_true rfl)) 12)) ((f20 47 (of_decide_eq_true rfl)).trans (congrFun (f3 55 (of_decide_eq_true rfl)) 47)) ((f19 80 (of_decide_eq_true rfl)).trans (f3 80 (of_decide_eq_true rfl))) hI107
        have I79 : jI109 σ17 := jI109_fr ((f20 50 (of_decide_eq_true rfl)).trans (congrFun (f3 55 (of_decide_eq_true rfl)) 50)) hI109
        have I80 : jI110 σ17 := jI110_fr ((f19 86 (of_decide_eq_true rfl)).trans (f3 86 (of_decide_eq_true rfl))) ((f19 87 (of_decide_eq_true rfl)).trans (f3 87 (of_decide_eq_true rfl))) hI110
        have I81 : jI111 σ17 := jI111_fr ((f19 79 (of_decide_eq_true rfl)).trans (f3 79 (of_decide_eq_true rfl))) hI111
        have I82 : jI119 σ17 := jI119_fr ((f19 68 (of_decide_eq_true rfl)).trans (f3 68 (of_decide_eq_true rfl))) hI119
        have p83 : jKept σ17 := jKept.fr ((f19 75 (of_decide_eq_true rfl)).trans (f3 75 (of_decide_eq_true rfl))) ((f19 76 (of_decide_eq_true rfl)).trans (f3 76 (of_decide_eq_true rfl))) ((f19 77 (of_decide_eq_true rfl)).trans (f3 77 (of_decide_eq_true rfl))) hs_jKept
        have p84 : jBook σ17 := jBook.fr ((f20 47 (of_decide_eq_true rfl)).trans (congrFun (f3 55 (of_decide_eq_true rfl)) 47)) ((f20 10 (of_decide_eq_true rfl)).trans (congrFun (f3 55 (of_decide_eq_true rfl)) 10)) ((f19 81 (of_decide_eq_true rfl)).trans (f3 81 (of_decide_eq_true rfl))) hs_jBook
        have z85 : (σ17 38 0).toInt = (σ 38 0).toInt := (congrArg Int32.toInt (show σ17 38 0 = (σ 38 0) from ((congrFun (f19 38 (of_decide_eq_true rfl)) 0).trans (congrFun (f3 38 (of_decide_eq_true rfl)) 0))))
        have z86 : (σ17 55 32).toInt = (σ 55 32).toInt := (congrArg Int32.toInt (show σ17 55 32 = (σ 55 32) from ((f20 32 (of_decide_eq_true rfl)).trans (congrFun (f3 55 (of_decide_eq_true rfl)) 32))))
        exact by exact ih x61 σ17 τ _ _ ls (by have h9 := tx61; omega) ⟨I62, I63, I64, I65, I66, I67, I68, I69, I70, I71, I72, I21, I73, I74, I75, I76, I77, I78, I79, I80, I81, I82, p83, p84, (by omega)⟩ hP hS (lv_sub hl [0, 1, 2, 3] rfl)
  · obtain ⟨q93, k87, k88, k89, k90, k91, k92⟩ := h8
    refine lv_pop hx hb dL_law_981 rfl ?_
    refine lv_aload_n hx hb dL_law_982 rfl (lv_at hl 1 rfl) ?_
    have I94 : jI101 σ1 := jI101_fr (congrFun (f3 55 (of_decide_eq_true rfl)) 4) (congrFun (f3 55 (of_decide_eq_true rfl)) 5) (f3 56 (of_decide_eq_true rfl)) (f3 57 (of_decide_eq_true rfl)) (f3 58 (of_decide_eq_true rfl)) (f3 59 (of_decide_eq_true rfl)) hI101
    have z95 : (σ1 55 5).toInt = (σ 55 5).toInt := (congrArg Int32.toInt (show σ1 55 5 = (σ 55 5) from (congrFun (f3 55 (of_decide_eq_true rfl)) 5)))
    have z96 : (σ1 55 4).toInt = (σ 55 4).toInt := (congrArg Int32.toInt (show σ1 55 4 = (σ 55 4) from (congrFun (f3 55 (of_decide_eq_true rfl)) 4)))
    refine jcallV (As := []) (rest := []) ⟨hx, hb, hml, hown, hts⟩ hK hP hA hS hZ (c_X12_redo l D cI cL ad zz hJ σ1 τ I94) cw_RL_128 (jc_55 cI cL ad σ1 τ) rfl ⟨Nat.le_of_ble_eq_true rfl, Nat.le_of_ble_eq_true rfl⟩ rfl rfl rfl hl.1 rfl (Nat.le_of_ble_eq_true rfl) dL_law_983 ⟨Nat.le_of_ble_eq_true rfl, Nat.le_of_ble_eq_true rfl⟩ (fun r98 σ97 τ97 H locs h97 hP hS => ?_)
    obtain ⟨rfl, f99, f100, I101, h97⟩ := h97
    rcases h97 with h103 | h104
    · obtain ⟨q108, k105, k106, k107⟩ := h103
      have q108 := q108.symm
      subst q108
      refine lv_pop hx hb dL_law_986 rfl ?_
      refine lv_goto (tgt := 1357) hx hb dL_law_987 (of_decide_eq_true rfl) ?_
      obtain ⟨x109, ex109⟩ : ∃ y : Int32, y = x0 + 6 := ⟨_, rfl⟩
      exact by
       have tx109 : x109.toInt = x0.toInt + 6 := (jadd ex109 rfl jz_6 (by omega) (by omega)).trans (by omega)
       refine lv_iinc (v := x109) (lv' := [(3, .int x109), (2, .ref (ad 55)), (1, .ref (ad 0)), (0, .ref b)]) hx hb dL_law_1357 hl (k := 0) rfl (by rw [ex109]; rfl) (of_decide_eq_true rfl) rfl (fun ls hl => ?_)
       refine lv_goto (tgt := 18) hx hb dL_law_1360 (of_decide_eq_true rfl) ?_
       have I110 : jI2 σ97 := jI2_fr (congrFun (f99 2 (of_decide_eq_true rfl)) 0) (congrFun (f99 2 (of_decide_eq_true rfl)) 1) (congrFun (f99 2 (of_decide_eq_true rfl)) 2) (congrFun (f99 2 (of_decide_eq_true rfl)) 3) (f99 6 (of_decide_eq_true rfl)) I5
       have I111 : jI9 σ97 := jI9_fr ((congrFun (f99 9 (of_decide_eq_true rfl)) 0).trans (congrFun (f3 9 (of_decide_eq_true rfl)) 0)) ((f99 10 (of_decide_eq_true rfl)).trans (f3 10 (of_decide_eq_true rfl))) ((f99 11 (of_decide_eq_true rfl)).trans (f3 11 (of_decide_eq_true rfl))) hI9
       have I112 : jI12 σ97 := jI12_fr ((congrFun (f99 12 (of_decide_eq_true rfl)) 0).trans (congrFun (f3 12 (of_decide_eq_true rfl)) 0)) ((f99 13 (of_decide_eq_true rfl)).trans (f3 13 (of_decide_eq_true rfl))) hI12
       have I113 : jI16 σ97 := jI16_fr ((congrFun (f99 16 (of_decide_eq_true rfl)) 0).trans (congrFun (f3 16 (of_decide_eq_true rfl)) 0)) ((congrFun (f99 16 (of_decide_eq_true rfl)) 1).trans (congrFun (f3 16 (of_decide_eq_true rfl)) 1)) ((congrFun (f99 16 (of_decide_eq_true rfl)) 2).trans (congrFun (f3 16 (of_decide_eq_true rfl)) 2)) ((f99 17 (of_decide_eq_true rfl)).trans (f3 17 (of_decide_eq_true rfl))) hI16
       have I114 : jI18 σ97 := jI18_fr ((congrFun (f99 18 (of_decide_eq_true rfl)) 0).trans (congrFun (f3 18 (of_decide_eq_true rfl)) 0)) ((f99 19 (of_decide_eq_true rfl)).trans (f3 19 (of_decide_eq_true rfl))) hI18
       have I115 : jI22 σ97 := jI22_fr ((congrFun (f99 22 (of_decide_eq_true rfl)) 0).trans (congrFun (f3 22 (of_decide_eq_true rfl)) 0)) ((f99 23 (of_decide_eq_true rfl)).trans (f3 23 (of_decide_eq_true rfl))) hI22
       exact by
        have I116 : jI31 σ97 := jI31_fr ((congrFun (f99 31 (of_decide_eq_true rfl)) 8).trans (congrFun (f3 31 (of_decide_eq_true rfl)) 8)) ((f99 33 (of_decide_eq_true rfl)).trans (f3 33 (of_decide_eq_true rfl))) ((f99 36 (of_decide_eq_true rfl)).trans (f3 36 (of_decide_eq_true rfl))) hI31
        have I117 : jI38 σ97 := jI38_fr ((congrFun (f99 38 (of_decide_eq_true rfl)) 0).trans (congrFun (f3 38 (of_decide_eq_true rfl)) 0)) ((congrFun (f99 38 (of_decide_eq_true rfl)) 1).trans (congrFun (f3 38 (of_decide_eq_true rfl)) 1)) ((f99 39 (of_decide_eq_true rfl)).trans (f3 39 (of_decide_eq_true rfl))) hI38
        have I118 : jI43 σ97 := jI43_fr ((congrFun (f99 43 (of_decide_eq_true rfl)) 8).trans (congrFun (f3 43 (of_decide_eq_true rfl)) 8)) hI43
        have I119 : jI47 σ97 := jI47_fr ((congrFun (f99 47 (of_decide_eq_true rfl)) 0).trans (congrFun (f3 47 (of_decide_eq_true rfl)) 0)) ((f99 48 (of_decide_eq_true rfl)).trans (f3 48 (of_decide_eq_true rfl))) ((f99 49 (of_decide_eq_true rfl)).trans (f3 49 (of_decide_eq_true rfl))) hI47
        have I120 : jI50 σ97 := jI50_fr ((f99 52 (of_decide_eq_true rfl)).trans (f3 52 (of_decide_eq_true rfl))) hI50
        have I121 : jI102 σ97 := jI102_fr ((f100 6 (of_decide_eq_true rfl)).trans (congrFun (f3 55 (of_decide_eq_true rfl)) 6)) ((f99 60 (of_decide_eq_true rfl)).trans (f3 60 (of_decide_eq_true rfl))) ((f99 61 (of_decide_eq_true rfl)).trans (f3 61 (of_decide_eq_true rfl))) hI102
        have I122 : jI103 σ97 := jI103_fr ((f100 9 (of_decide_eq_true rfl)).trans (congrFun (f3 55 (of_decide_eq_true rfl)) 9)) hI103
        have I123 : jI104 σ97 := jI104_fr ((f100 10 (of_decide_eq_true rfl)).trans (congrFun (f3 55 (of_decide_eq_true rfl)) 10)) ((f100 12 (of_decide_eq_true rfl)).trans (congrFun (f3 55 (of_decide_eq_true rfl)) 12)) ((f100 13 (of_decide_eq_true rfl)).trans (congrFun (f3 55 (of_decide_eq_true rfl)) 13)) ((f99 62 (of_decide_eq_true rfl)).trans (f3 62 (of_decide_eq_true rfl))) ((f99 67 (of_decide_eq_true rfl)).trans (f3 67 (of_decide_eq_true rfl))) hI104
        have I124 : jI105 σ97 := jI105_fr ((f100 15 (of_decide_eq_true rfl)).trans (congrFun (f3 55 (of_decide_eq_true rfl)) 15)) ((f99 65 (of_decide_eq_true rfl)).trans (f3 65 (of_decide_eq_true rfl))) hI105
        have I125 : jI106 σ97 := jI106_fr ((f100 32 (of_decide_eq_true rfl)).trans (congrFun (f3 55 (of_decide_eq_true rfl)) 32)) ((f99 70 (of_decide_eq_true rfl)).trans (f3 70 (of_decide_eq_true rfl))) ((f99 71 (of_decide_eq_true rfl)).trans (f3 71 (of_decide_eq_true rfl))) ((f99 72 (of_decide_eq_true rfl)).trans (f3 72 (of_decide_eq_true rfl))) hI106
        have I126 : jI107 σ97 := jI107_fr ((f100 12 (of_decide_eq_true rfl)).trans (congrFun (f3 55 (of_decide_eq_true rfl)) 12)) ((f100 47 (of_decide_eq_true rfl)).trans (congrFun (f3 55 (of_decide_eq_true rfl)) 47)) ((f99 80 (of_decide_eq_true rfl)).trans (f3 80 (of_decide_eq_true rfl))) hI107
        have I127 : jI109 σ97 := jI109_fr ((f100 50 (of_decide_eq_true rfl)).trans (congrFun (f3 55 (of_decide_eq_true rfl)) 50)) hI109
        have I128 : jI110 σ97 := jI110_fr ((f99 86 (of_decide_eq_true rfl)).trans (f3 86 (of_decide_eq_true rfl))) ((f99 87 (of_decide_eq_true rfl)).trans (f3 87 (of_decide_eq_true rfl))) hI110
        have I129 : jI111 σ97 := jI111_fr ((f99 79 (of_decide_eq_true rfl)).trans (f3 79 (of_decide_eq_true rfl))) hI111
        have I130 : jI119 σ97 := jI119_fr ((f99 68 (of_decide_eq_true rfl)).trans (f3 68 (of_decide_eq_true rfl))) hI119
        have p131 : jKept σ97 := jKept.fr ((f99 75 (of_decide_eq_true rfl)).trans (f3 75 (of_decide_eq_true rfl))) ((f99 76 (of_decide_eq_true rfl)).trans (f3 76 (of_decide_eq_true rfl))) ((f99 77 (of_decide_eq_true rfl)).trans (f3 77 (of_decide_eq_true rfl))) hs_jKept
        have p132 : jBook σ97 := jBook.fr ((f100 47 (of_decide_eq_true rfl)).trans (congrFun (f3 55 (of_decide_eq_true rfl)) 47)) ((f100 10 (of_decide_eq_true rfl)).trans (congrFun (f3 55 (of_decide_eq_true rfl)) 10)) ((f99 81 (of_decide_eq_true rfl)).trans (f3 81 (of_decide_eq_true rfl))) hs_jBook
        have z133 : (σ97 38 0).toInt = (σ 38 0).toInt := (congrArg Int32.toInt (show σ97 38 0 = (σ 38 0) from ((congrFun (f99 38 (of_decide_eq_true rfl)) 0).trans (congrFun (f3 38 (of_decide_eq_true rfl)) 0))))
        have z134 : (σ97 55 32).toInt = (σ 55 32).toInt := (congrArg Int32.toInt (show σ97 55 32 = (σ 55 32) from ((f100 32 (of_decide_eq_true rfl)).trans (congrFun (f3 55 (of_decide_eq_true rfl)) 32))))
        exact by exact ih x109 σ97 τ _ _ ls (by have h9 := tx109; omega) ⟨I110, I111, I112, I113, I114, I115, I116, I117, I118, I119, I120, I101, I121, I122, I123, I124, I125, I126, I127, I128, I129, I130, p131, p132, (by omega)⟩ hP hS (lv_sub hl [0, 1, 2, 3] rfl)
    · obtain ⟨q140, k135, k136, k137, k138, k139⟩ := h104
      refine lv_pop hx hb dL_law_986 rfl ?_
      refine lv_goto (tgt := 1357) hx hb dL_law_987 (of_decide_eq_true rfl) ?_
      obtain ⟨x141, ex141⟩ : ∃ y : Int32, y = x0 + 6 := ⟨_, rfl⟩
      exact by
       have tx141 : x141.toInt = x0.toInt + 6 := (jadd ex141 rfl jz_6 (by omega) (by omega)).trans (by omega)
       refine lv_iinc (v := x141) (lv' := [(3, .int x141), (2, .ref (ad 55)), (1, .ref (ad 0)), (0, .ref b)]) hx hb dL_law_1357 hl (k := 0) rfl (by rw [ex141]; rfl) (of_decide_eq_true rfl) rfl (fun ls hl => ?_)
       refine lv_goto (tgt := 18) hx hb dL_law_1360 (of_decide_eq_true rfl) ?_
       have I142 : jI2 σ97 := jI2_fr (congrFun (f99 2 (of_decide_eq_true rfl)) 0) (congrFun (f99 2 (of_decide_eq_true rfl)) 1) (congrFun (f99 2 (of_decide_eq_true rfl)) 2) (congrFun (f99 2 (of_decide_eq_true rfl)) 3) (f99 6 (of_decide_eq_true rfl)) I5
       have I143 : jI9 σ97 := jI9_fr ((congrFun (f99 9 (of_decide_eq_true rfl)) 0).trans (congrFun (f3 9 (of_decide_eq_true rfl)) 0)) ((f99 10 (of_decide_eq_true rfl)).trans (f3 10 (of_decide_eq_true rfl))) ((f99 11 (of_decide_eq_true rfl)).trans (f3 11 (of_decide_eq_true rfl))) hI9
       have I144 : jI12 σ97 := jI12_fr ((congrFun (f99 12 (of_decide_eq_true rfl)) 0).trans (congrFun (f3 12 (of_decide_eq_true rfl)) 0)) ((f99 13 (of_decide_eq_true rfl)).trans (f3 13 (of_decide_eq_true rfl))) hI12
       have I145 : jI16 σ97 := jI16_fr ((congrFun (f99 16 (of_decide_eq_true rfl)) 0).trans (congrFun (f3 16 (of_decide_eq_true rfl)) 0)) ((congrFun (f99 16 (of_decide_eq_true rfl)) 1).trans (congrFun (f3 16 (of_decide_eq_true rfl)) 1)) ((congrFun (f99 16 (of_decide_eq_true rfl)) 2).trans (congrFun (f3 16 (of_decide_eq_true rfl)) 2)) ((f99 17 (of_decide_eq_true rfl)).trans (f3 17 (of_decide_eq_true rfl))) hI16
       have I146 : jI18 σ97 := jI18_fr ((congrFun (f99 18 (of_decide_eq_true rfl)) 0).trans (congrFun (f3 18 (of_decide_eq_true rfl)) 0)) ((f99 19 (of_decide_eq_true rfl)).trans (f3 19 (of_decide_eq_true rfl))) hI18
       have I147 : jI22 σ97 := jI22_fr ((congrFun (f99 22 (of_decide_eq_true rfl)) 0).trans (congrFun (f3 22 (of_decide_eq_true rfl)) 0)) ((f99 23 (of_decide_eq_true rfl)).trans (f3 23 (of_decide_eq_true rfl))) hI22
       exact by
        have I148 : jI31 σ97 := jI31_fr ((congrFun (f99 31 (of_decide_eq_true rfl)) 8).trans (congrFun (f3 31 (of_decide_eq_true rfl)) 8)) ((f99 33 (of_decide_eq_true rfl)).trans (f3 33 (of_decide_eq_true rfl))) ((f99 36 (of_decide_eq_true rfl)).trans (f3 36 (of_decide_eq_true rfl))) hI31
        have I149 : jI38 σ97 := jI38_fr ((congrFun (f99 38 (of_decide_eq_true rfl)) 0).trans (congrFun (f3 38 (of_decide_eq_true rfl)) 0)) ((congrFun (f99 38 (of_decide_eq_true rfl)) 1).trans (congrFun (f3 38 (of_decide_eq_true rfl)) 1)) ((f99 39 (of_decide_eq_true rfl)).trans (f3 39 (of_decide_eq_true rfl))) hI38
        have I150 : jI43 σ97 := jI43_fr ((congrFun (f99 43 (of_decide_eq_true rfl)) 8).trans (congrFun (f3 43 (of_decide_eq_true rfl)) 8)) hI43
        have I151 : jI47 σ97 := jI47_fr ((congrFun (f99 47 (of_decide_eq_true rfl)) 0).trans (congrFun (f3 47 (of_decide_eq_true rfl)) 0)) ((f99 48 (of_decide_eq_true rfl)).trans (f3 48 (of_decide_eq_true rfl))) ((f99 49 (of_decide_eq_true rfl)).trans (f3 49 (of_decide_eq_true rfl))) hI47
        have I152 : jI50 σ97 := jI50_fr ((f99 52 (of_decide_eq_true rfl)).trans (f3 52 (of_decide_eq_true rfl))) hI50
        have I153 : jI102 σ97 := jI102_fr ((f100 6 (of_decide_eq_true rfl)).trans (congrFun (f3 55 (of_decide_eq_true rfl)) 6)) ((f99 60 (of_decide_eq_true rfl)).trans (f3 60 (of_decide_eq_true rfl))) ((f99 61 (of_decide_eq_true rfl)).trans (f3 61 (of_decide_eq_true rfl))) hI102
        have I154 : jI103 σ97 := jI103_fr ((f100 9 (of_decide_eq_true rfl)).trans (congrFun (f3 55 (of_decide_eq_true rfl)) 9)) hI103
        have I155 : jI104 σ97 := jI104_fr ((f100 10 (of_decide_eq_true rfl)).trans (congrFun (f3 55 (of_decide_eq_true rfl)) 10)) ((f100 12 (of_decide_eq_true rfl)).trans (congrFun (f3 55 (of_decide_eq_true rfl)) 12)) ((f100 13 (of_decide_eq_true rfl)).trans (congrFun (f3 55 (of_decide_eq_true rfl)) 13)) ((f99 62 (of_decide_eq_true rfl)).trans (f3 62 (of_decide_eq_true rfl))) ((f99 67 (of_decide_eq_true rfl)).trans (f3 67 (of_decide_eq_true rfl))) hI104
        have I156 : jI105 σ97 := jI105_fr ((f100 15 (of_decide_eq_true rfl)).trans (congrFun (f3 55 (of_decide_eq_true rfl)) 15)) ((f99 65 (of_decide_eq_true rfl)).trans (f3 65 (of_decide_eq_true rfl))) hI105
        have I157 : jI106 σ97 := jI106_fr ((f100 32 (of_decide_eq_true rfl)).trans (congrFun (f3 55 (of_decide_eq_true rfl)) 32)) ((f99 70 (of_decide_eq_true rfl)).trans (f3 70 (of_decide_eq_true rfl))) ((f99 71 (of_decide_eq_true rfl)).trans (f3 71 (of_decide_eq_true rfl))) ((f99 72 (of_decide_eq_true rfl)).trans (f3 72 (of_decide_eq_true rfl))) hI106
        have I158 : jI107 σ97 := jI107_fr ((f100 12 (of_decide_eq_true rfl)).trans (congrFun (f3 55 (of_decide_eq_true rfl)) 12)) ((f100 47 (of_decide_eq_true rfl)).trans (congrFun (f3 55 (of_decide_eq_true rfl)) 47)) ((f99 80 (of_decide_eq_true rfl)).trans (f3 80 (of_decide_eq_true rfl))) hI107
        have I159 : jI109 σ97 := jI109_fr ((f100 50 (of_decide_eq_true rfl)).trans (congrFun (f3 55 (of_decide_eq_true rfl)) 50)) hI109
        have I160 : jI110 σ97 := jI110_fr ((f99 86 (of_decide_eq_true rfl)).trans (f3 86 (of_decide_eq_true rfl))) ((f99 87 (of_decide_eq_true rfl)).trans (f3 87 (of_decide_eq_true rfl))) hI110
        have I161 : jI111 σ97 := jI111_fr ((f99 79 (of_decide_eq_true rfl)).trans (f3 79 (of_decide_eq_true rfl))) hI111
        have I162 : jI119 σ97 := jI119_fr ((f99 68 (of_decide_eq_true rfl)).trans (f3 68 (of_decide_eq_true rfl))) hI119
        have p163 : jKept σ97 := jKept.fr ((f99 75 (of_decide_eq_true rfl)).trans (f3 75 (of_decide_eq_true rfl))) ((f99 76 (of_decide_eq_true rfl)).trans (f3 76 (of_decide_eq_true rfl))) ((f99 77 (of_decide_eq_true rfl)).trans (f3 77 (of_decide_eq_true rfl))) hs_jKept
        have p164 : jBook σ97 := jBook.fr ((f100 47 (of_decide_eq_true rfl)).trans (congrFun (f3 55 (of_decide_eq_true rfl)) 47)) ((f100 10 (of_decide_eq_true rfl)).trans (congrFun (f3 55 (of_decide_eq_true rfl)) 10)) ((f99 81 (of_decide_eq_true rfl)).trans (f3 81 (of_decide_eq_true rfl))) hs_jBook
        have z165 : (σ97 38 0).toInt = (σ 38 0).toInt := (congrArg Int32.toInt (show σ97 38 0 = (σ 38 0) from ((congrFun (f99 38 (of_decide_eq_true rfl)) 0).trans (congrFun (f3 38 (of_decide_eq_true rfl)) 0))))
        have z166 : (σ97 55 32).toInt = (σ 55 32).toInt := (congrArg Int32.toInt (show σ97 55 32 = (σ 55 32) from ((f100 32 (of_decide_eq_true rfl)).trans (congrFun (f3 55 (of_decide_eq_true rfl)) 32))))
        exact by exact ih x141 σ97 τ _ _ ls (by have h9 := tx141; omega) ⟨I142, I143, I144, I145, I146, I147, I148, I149, I150, I151, I152, I101, I153, I154, I155, I156, I157, I158, I159, I160, I161, I162, p163, p164, (by omega)⟩ hP hS (lv_sub hl [0, 1, 2, 3] rfl)
set_option maxHeartbeats 4000000 in
set_option maxRecDepth 100000 in
theorem law_case_28 {p : Program} {e : Env} {s : State} {m : MethodId} {below : List Frame} {meth : Method} {c : Code} (l : Launch) {b L : Nat} {xs : Nat → Int32} {D : va_G} {cI cL : ClassId} {ad zz : Nat → Nat} (C0 : lw_At p s m meth c b L xs) (hJ : jD ad) (hA : ∀ q, jA ad q → s.heap.size ≤ q) (hK : jK D cI cL s) (hZ : jZ zz (fun q : Nat => s.heap.size ≤ q) s s.heap) {x0 : Int32} (hx0 : 0 ≤ x0.toInt) (hxL : x0.toInt + 6 ≤ (L : Int)) (hL : L ≤ 384) {σ : Nat → Nat → Int32} {τ : Nat → Nat → Int64} {H : Heap} {locs : List Loc} (hS : va_S (fun q : Nat => s.heap.size ≤ q) s.heap H locs) {ls : Array Slot} (hAll : jAll σ τ) (hP : jH D cI cL ad σ τ H) (hl : lv_has ls 4 [(3, .int x0), (2, .ref (ad 55)), (1, .ref (ad 0)), (0, .ref b)]) (ih : ∀ (x1 : Int32) (σ : Nat → Nat → Int32) (τ : Nat → Nat → Int64) (H : Heap) (locs : List Loc) (ls : Array Slot), x1.toInt = x0.toInt + 6 → jAll σ τ → jH D cI cL ad σ τ H → va_S (fun q : Nat => s.heap.size ≤ q) s.heap H locs → lv_has ls 4 [(3, .int x1), (2, .ref (ad 55)), (1, .ref (ad 0)), (0, .ref b)] → W p l e room_1 s m #[Value.ref b] below meth c H locs 90 348600 (lw_Z below #[Value.ref b] s) (F0 m 18 ls [])) : W p l e room_1 s m #[Value.ref b] below meth c H locs 90 348600 (lw_Z below #[Value.ref b] s) (F0 m 990 ls []) := by
  obtain ⟨hx, hb, hr, hml, hown, hts0, hX, hbl, hlocks, hgv⟩ := C0
  have hts : ∀ w ∈ wsL_law, w.before #[Value.ref b] s = true := fun w h => hts0 w (wsL_law_in w h)
  have hbA : ¬ (fun q : Nat => s.heap.size ≤ q) b := Nat.not_le.mpr hbl
  have hown : s.vm.findClass RL = some m.cls := hown
  obtain ⟨hI2, hI9, hI12, hI16, hI18, hI22, hI31, hI38, hI43, hI47, hI50, hI101, hI102, hI103, hI104, hI105, hI106, hI107, hI109, hI110, hI111, hI119, hs_jKept, hs_jBook, ht0⟩ := hAll
  have hL9 : (L : Int) ≤ 384 := by omega
  refine lv_aload_n hx hb dL_law_990 rfl (lv_at hl 2 rfl) ?_
  refine lv_aload_n hx hb dL_law_991 rfl (lv_at hl 3 rfl) ?_
  refine lv_iload_n hx hb dL_law_992 rfl (lv_at hl 0 rfl) ?_
  refine lv_iconst (v := 1) hx hb dL_law_993 (of_decide_eq_true rfl) ?_
  have g1 := jrg (rfl : x0.toInt = x0.toInt)
  refine lv_iadd hx hb dL_law_994 ?_
  refine lv_topi (fun x2 ex2 => ?_)
  exact by
   have tx2 : x2.toInt = x0.toInt + 1 := (jadd ex2 rfl jz_1 (by omega) (by omega)).trans (by omega)
   refine va_sld hx hb hX hbl hbA hS (jin tx2 (by omega) (by omega)) dL_law_995 ?_
   have g3 := jrg (rfl : (xs x2.toNatClampNeg).toInt = (xs x2.toNatClampNeg).toInt)
   refine lv_aload_n hx hb dL_law_996 rfl (lv_at hl 3 rfl) ?_
   refine lv_iload_n hx hb dL_law_997 rfl (lv_at hl 0 rfl) ?_
   refine lv_iconst (v := 2) hx hb dL_law_998 (of_decide_eq_true rfl) ?_
   refine lv_iadd hx hb dL_law_999 ?_
   refine lv_topi (fun x4 ex4 => ?_)
   have tx4 : x4.toInt = x0.toInt + 2 := (jadd ex4 rfl jz_2 (by omega) (by omega)).trans (by omega)
   exact by
    refine va_sld hx hb hX hbl hbA hS (jin tx4 (by omega) (by omega)) dL_law_1000 ?_
    have g5 := jrg (rfl : (xs x4.toNatClampNeg).toInt = (xs x4.toNatClampNeg).toInt)
    refine lv_aload_n hx hb dL_law_1001 rfl (lv_at hl 3 rfl) ?_
    refine lv_iload_n hx hb dL_law_1002 rfl (lv_at hl 0 rfl) ?_
    refine lv_iconst (v := 3) hx hb dL_law_1003 (of_decide_eq_true rfl) ?_
    refine lv_iadd hx hb dL_law_1004 ?_
    refine lv_topi (fun x6 ex6 => ?_)
    have tx6 : x6.toInt = x0.toInt + 3 := (jadd ex6 rfl jz_3 (by omega) (by omega)).trans (by omega)
    refine va_sld hx hb hX hbl hbA hS (jin tx6 (by omega) (by omega)) dL_law_1005 ?_
    exact by
     have g7 := jrg (rfl : (xs x6.toNatClampNeg).toInt = (xs x6.toNatClampNeg).toInt)
     refine jcallV (As := [.int (xs x2.toNatClampNeg), .int (xs x4.toNatClampNeg), .int (xs x6.toNatClampNeg)]) (rest := []) ⟨hx, hb, hml, hown, hts⟩ hK hP hA hS hZ (c_X11_act l D cI cL ad zz hJ σ τ (xs x2.toNatClampNeg) ((xs x2.toNatClampNeg).toInt) rfl (xs x4.toNatClampNeg) ((xs x4.toNatClampNeg).toInt) rfl (xs x6.toNatClampNeg) ((xs x6.toNatClampNeg).toInt) rfl hI38) cw_RL_129 (jc_0 cI cL ad σ τ) rfl ⟨Nat.le_of_ble_eq_true rfl, Nat.le_of_ble_eq_true rfl⟩ rfl rfl rfl hl.1 rfl (Nat.le_of_ble_eq_true rfl) dL_law_1006 ⟨Nat.le_of_ble_eq_true rfl, Nat.le_of_ble_eq_true rfl⟩ (fun r9 σ8 τ8 H locs h8 hP hS => ?_)
     obtain ⟨rfl, f10, f11, I12, h8⟩ := h8
     rcases h8 with h14 | h15
     · obtain ⟨q18, k16, k17⟩ := h14
       have q18 := q18.symm
       subst q18
       refine lv_pop hx hb dL_law_1009 rfl ?_
       refine lv_aload_n hx hb dL_law_1010 rfl (lv_at hl 1 rfl) ?_
       refine lv_aload_n hx hb dL_law_1011 rfl (lv_at hl 3 rfl) ?_
       refine lv_iload_n hx hb dL_law_1012 rfl (lv_at hl 0 rfl) ?_
       refine lv_iconst (v := 1) hx hb dL_law_1013 (of_decide_eq_true rfl) ?_
       refine lv_iadd hx hb dL_law_1014 ?_
       refine jtopr ex2.symm ?_
       exact by
        refine va_sld hx hb hX hbl hbA hS (jin tx2 (by omega) (by omega)) dL_law_1015 ?_
        refine lv_aload_n hx hb dL_law_1016 rfl (lv_at hl 3 rfl) ?_
        refine lv_iload_n hx hb dL_law_1017 rfl (lv_at hl 0 rfl) ?_
        refine lv_iconst (v := 2) hx hb dL_law_1018 (of_decide_eq_true rfl) ?_
        refine lv_iadd hx hb dL_law_1019 ?_
        refine jtopr ex4.symm ?_
        refine va_sld hx hb hX hbl hbA hS (jin tx4 (by omega) (by omega)) dL_law_1020 ?_
        refine lv_aload_n hx hb dL_law_1021 rfl (lv_at hl 3 rfl) ?_
        refine lv_iload_n hx hb dL_law_1022 rfl (lv_at hl 0 rfl) ?_
        exact by
         refine lv_iconst (v := 3) hx hb dL_law_1023 (of_decide_eq_true rfl) ?_
         refine lv_iadd hx hb dL_law_1024 ?_
         refine jtopr ex6.symm ?_
         refine va_sld hx hb hX hbl hbA hS (jin tx6 (by omega) (by omega)) dL_law_1025 ?_
         have I19 : jI106 σ8 := jI106_fr (congrFun (f10 55 (of_decide_eq_true rfl)) 32) (f10 70 (of_decide_eq_true rfl)) (f10 71 (of_decide_eq_true rfl)) (f10 72 (of_decide_eq_true rfl)) hI106
         have z20 : (σ8 55 32).toInt = (σ 55 32).toInt := (congrArg Int32.toInt (show σ8 55 32 = (σ 55 32) from (congrFun (f10 55 (of_decide_eq_true rfl)) 32)))
         refine jcallV (As := [.int (xs x2.toNatClampNeg), .int (xs x4.toNatClampNeg), .int (xs x6.toNatClampNeg)]) (rest := []) ⟨hx, hb, hml, hown, hts⟩ hK hP hA hS hZ (c_X12_act l D cI cL ad zz hJ σ8 τ (xs x2.toNatClampNeg) ((xs x2.toNatClampNeg).toInt) rfl (xs x4.toNatClampNeg) ((xs x4.toNatClampNeg).toInt) rfl (xs x6.toNatClampNeg) ((xs x6.toNatClampNeg).toInt) rfl I19) cw_RL_132 (jc_55 cI cL ad σ8 τ) rfl ⟨Nat.le_of_ble_eq_true rfl, Nat.le_of_ble_eq_true rfl⟩ rfl rfl rfl hl.1 rfl (Nat.le_of_ble_eq_true rfl) dL_law_1026 ⟨Nat.le_of_ble_eq_true rfl, Nat.le_of_ble_eq_true rfl⟩ (fun r22 σ21 τ21 H locs h21 hP hS => ?_)
         obtain ⟨rfl, f23, f24, h21⟩ := h21
         rcases h21 with h26 | h27
         · exact by
            obtain ⟨q30, k28, k29⟩ := h26
            have q30 := q30.symm
            subst q30
            refine lv_pop hx hb dL_law_1029 rfl ?_
            refine lv_goto (tgt := 1357) hx hb dL_law_1030 (of_decide_eq_true rfl) ?_
            obtain ⟨x31, ex31⟩ : ∃ y : Int32, y = x0 + 6 := ⟨_, rfl⟩
            have tx31 : x31.toInt = x0.toInt + 6 := (jadd ex31 rfl jz_6 (by omega) (by omega)).trans (by omega)
            refine lv_iinc (v := x31) (lv' := [(3, .int x31), (2, .ref (ad 55)), (1, .ref (ad 0)), (0, .ref b)]) hx hb dL_law_1357 hl (k := 0) rfl (by rw [ex31]; rfl) (of_decide_eq_true rfl) rfl (fun ls hl => ?_)
            refine lv_goto (tgt := 18) hx hb dL_law_1360 (of_decide_eq_true rfl) ?_
            exact by
             have I32 : jI2 σ21 := jI2_fr ((congrFun (f23 2 (of_decide_eq_true rfl)) 0).trans (congrFun (f10 2 (of_decide_eq_true rfl)) 0)) ((congrFun (f23 2 (of_decide_eq_true rfl)) 1).trans (congrFun (f10 2 (of_decide_eq_true rfl)) 1)) ((congrFun (f23 2 (of_decide_eq_true rfl)) 2).trans (congrFun (f10 2 (of_decide_eq_true rfl)) 2)) ((congrFun (f23 2 (of_decide_eq_true rfl)) 3).trans (congrFun (f10 2 (of_decide_eq_true rfl)) 3)) ((f23 6 (of_decide_eq_true rfl)).trans (f10 6 (of_decide_eq_true rfl))) hI2
             have I33 : jI9 σ21 := jI9_fr ((congrFun (f23 9 (of_decide_eq_true rfl)) 0).trans (congrFun (f10 9 (of_decide_eq_true rfl)) 0)) ((f23 10 (of_decide_eq_true rfl)).trans (f10 10 (of_decide_eq_true rfl))) ((f23 11 (of_decide_eq_true rfl)).trans (f10 11 (of_decide_eq_true rfl))) hI9
             have I34 : jI12 σ21 := jI12_fr ((congrFun (f23 12 (of_decide_eq_true rfl)) 0).trans (congrFun (f10 12 (of_decide_eq_true rfl)) 0)) ((f23 13 (of_decide_eq_true rfl)).trans (f10 13 (of_decide_eq_true rfl))) hI12
             have I35 : jI16 σ21 := jI16_fr ((congrFun (f23 16 (of_decide_eq_true rfl)) 0).trans (congrFun (f10 16 (of_decide_eq_true rfl)) 0)) ((congrFun (f23 16 (of_decide_eq_true rfl)) 1).trans (congrFun (f10 16 (of_decide_eq_true rfl)) 1)) ((congrFun (f23 16 (of_decide_eq_true rfl)) 2).trans (congrFun (f10 16 (of_decide_eq_true rfl)) 2)) ((f23 17 (of_decide_eq_true rfl)).trans (f10 17 (of_decide_eq_true rfl))) hI16
             have I36 : jI18 σ21 := jI18_fr ((congrFun (f23 18 (of_decide_eq_true rfl)) 0).trans (congrFun (f10 18 (of_decide_eq_true rfl)) 0)) ((f23 19 (of_decide_eq_true rfl)).trans (f10 19 (of_decide_eq_true rfl))) hI18
             have I37 : jI22 σ21 := jI22_fr ((congrFun (f23 22 (of_decide_eq_true rfl)) 0).trans (congrFun (f10 22 (of_decide_eq_true rfl)) 0)) ((f23 23 (of_decide_eq_true rfl)).trans (f10 23 (of_decide_eq_true rfl))) hI22
             have I38 : jI31 σ21 := jI31_fr ((congrFun (f23 31 (of_decide_eq_true rfl)) 8).trans (congrFun (f10 31 (of_decide_eq_true rfl)) 8)) ((f23 33 (of_decide_eq_true rfl)).trans (f10 33 (of_decide_eq_true rfl))) ((f23 36 (of_decide_eq_true rfl)).trans (f10 36 (of_decide_eq_true rfl))) hI31
             have I39 : jI38 σ21 := jI38_fr (congrFun (f23 38 (of_decide_eq_true rfl)) 0) (congrFun (f23 38 (of_decide_eq_true rfl)) 1) (f23 39 (of_decide_eq_true rfl)) I12
             have I40 : jI43 σ21 := jI43_fr ((congrFun (f23 43 (of_decide_eq_true rfl)) 8).trans (congrFun (f10 43 (of_decide_eq_true rfl)) 8)) hI43
             have I41 : jI47 σ21 := jI47_fr ((congrFun (f23 47 (of_decide_eq_true rfl)) 0).trans (congrFun (f10 47 (of_decide_eq_true rfl)) 0)) ((f23 48 (of_decide_eq_true rfl)).trans (f10 48 (of_decide_eq_true rfl))) ((f23 49 (of_decide_eq_true rfl)).trans (f10 49 (of_decide_eq_true rfl))) hI47
             have I42 : jI50 σ21 := jI50_fr ((f23 52 (of_decide_eq_true rfl)).trans (f10 52 (of_decide_eq_true rfl))) hI50
             have I43 : jI101 σ21 := jI101_fr ((f24 4 (of_decide_eq_true rfl)).trans (congrFun (f10 55 (of_decide_eq_true rfl)) 4)) ((f24 5 (of_decide_eq_true rfl)).trans (congrFun (f10 55 (of_decide_eq_true rfl)) 5)) ((f23 56 (of_decide_eq_true rfl)).trans (f10 56 (of_decide_eq_true rfl))) ((f23 57 (of_decide_eq_true rfl)).trans (f10 57 (of_decide_eq_true rfl))) ((f23 58 (of_decide_eq_true rfl)).trans (f10 58 (of_decide_eq_true rfl))) ((f23 59 (of_decide_eq_true rfl)).trans (f10 59 (of_decide_eq_true rfl))) hI101
             have I44 : jI102 σ21 := jI102_fr ((f24 6 (of_decide_eq_true rfl)).trans (congrFun (f10 55 (of_decide_eq_true rfl)) 6)) ((f23 60 (of_decide_eq_true rfl)).trans (f10 60 (of_decide_eq_true rfl))) ((f23 61 (of_decide_eq_true rfl)).trans (f10 61 (of_decide_eq_true rfl))) hI102
             have I45 : jI103 σ21 := jI103_fr ((f24 9 (of_decide_eq_true rfl)).trans (congrFun (f10 55 (of_decide_eq_true rfl)) 9)) hI103
             have I46 : jI104 σ21 := jI104_fr ((f24 10 (of_decide_eq_true rfl)).trans (congrFun (f10 55 (of_decide_eq_true rfl)) 10)) ((f24 12 (of_decide_eq_true rfl)).trans (congrFun (f10 55 (of_decide_eq_true rfl)) 12)) ((f24 13 (of_decide_eq_true rfl)).trans (congrFun (f10 55 (of_decide_eq_true rfl)) 13)) ((f23 62 (of_decide_eq_true rfl)).trans (f10 62 (of_decide_eq_true rfl))) ((f23 67 (of_decide_eq_true rfl)).trans (f10 67 (of_decide_eq_true rfl))) hI104
             have I47 : jI105 σ21 := jI105_fr ((f24 15 (of_decide_eq_true rfl)).trans (congrFun (f10 55 (of_decide_eq_true rfl)) 15)) ((f23 65 (of_decide_eq_true rfl)).trans (f10 65 (of_decide_eq_true rfl))) hI105
             have I48 : jI106 σ21 := jI106_fr (f24 32 (of_decide_eq_true rfl)) (f23 70 (of_decide_eq_true rfl)) (f23 71 (of_decide_eq_true rfl)) (f23 72 (of_decide_eq_true rfl)) I19
             have I49 : jI107 σ21 := jI107_fr ((f24 12 (of_decide_eq_true rfl)).trans (congrFun (f10 55 (of_decide_eq_true rfl)) 12)) ((f24 47 (of_decide_eq_true rfl)).trans (congrFun (f10 55 (of_decide_eq_true rfl)) 47)) ((f23 80 (of_decide_eq_true rfl)).trans (f10 80 (of_decide_eq_true rfl))) hI107
             have I50 : jI109 σ21 := jI109_fr ((f24 50 (of_decide_eq_true rfl)).trans (congrFun (f10 55 (of_decide_eq_true rfl)) 50)) hI109
             have I51 : jI110 σ21 := jI110_fr ((f23 86 (of_decide_eq_true rfl)).trans (f10 86 (of_decide_eq_true rfl))) ((f23 87 (of_decide_eq_true rfl)).trans (f10 87 (of_decide_eq_true rfl))) hI110
             have I52 : jI111 σ21 := jI111_fr ((f23 79 (of_decide_eq_true rfl)).trans (f10 79 (of_decide_eq_true rfl))) hI111
             have I53 : jI119 σ21 := jI119_fr ((f23 68 (of_decide_eq_true rfl)).trans (f10 68 (of_decide_eq_true rfl))) hI119
             have p54 : jKept σ21 := jKept.fr ((f23 75 (of_decide_eq_true rfl)).trans (f10 75 (of_decide_eq_true rfl))) ((f23 76 (of_decide_eq_true rfl)).trans (f10 76 (of_decide_eq_true rfl))) ((f23 77 (of_decide_eq_true rfl)).trans (f10 77 (of_decide_eq_true rfl))) hs_jKept
             have p55 : jBook σ21 := jBook.fr ((f24 47 (of_decide_eq_true rfl)).trans (congrFun (f10 55 (of_decide_eq_true rfl)) 47)) ((f24 10 (of_decide_eq_true rfl)).trans (congrFun (f10 55 (of_decide_eq_true rfl)) 10)) ((f23 81 (of_decide_eq_true rfl)).trans (f10 81 (of_decide_eq_true rfl))) hs_jBook
             have z56 : (σ21 38 0).toInt = (σ 38 0).toInt := (congrArg Int32.toInt (show σ21 38 0 = (σ 38 0) from ((congrFun (f23 38 (of_decide_eq_true rfl)) 0).trans (f11 0 (of_decide_eq_true rfl)))))
             have z57 : (σ21 55 32).toInt = (σ 55 32).toInt := (congrArg Int32.toInt (show σ21 55 32 = (σ 55 32) from ((f24 32 (of_decide_eq_true rfl)).trans (congrFun (f10 55 (of_decide_eq_true rfl)) 32))))
             exact by exact ih x31 σ21 τ _ _ ls (by have h9 := tx31; omega) ⟨I32, I33, I34, I35, I36, I37, I38, I39, I40, I41, I42, I43, I44, I45, I46, I47, I48, I49, I50, I51, I52, I53, p54, p55, (by omega)⟩ hP hS (lv_sub hl [0, 1, 2, 3] rfl)
         · obtain ⟨q62, k58, k59, k60, k61⟩ := h27
           refine lv_pop hx hb dL_law_1029 rfl ?_
           refine lv_goto (tgt := 1357) hx hb dL_law_1030 (of_decide_eq_true rfl) ?_
           obtain ⟨x63, ex63⟩ : ∃ y : Int32, y = x0 + 6 := ⟨_, rfl⟩
           exact by
            have tx63 : x63.toInt = x0.toInt + 6 := (jadd ex63 rfl jz_6 (by omega) (by omega)).trans (by omega)
            refine lv_iinc (v := x63) (lv' := [(3, .int x63), (2, .ref (ad 55)), (1, .ref (ad 0)), (0, .ref b)]) hx hb dL_law_1357 hl (k := 0) rfl (by rw [ex63]; rfl) (of_decide_eq_true rfl) rfl (fun ls hl => ?_)
            refine lv_goto (tgt := 18) hx hb dL_law_1360 (of_decide_eq_true rfl) ?_
            have I64 : jI2 σ21 := jI2_fr ((congrFun (f23 2 (of_decide_eq_true rfl)) 0).trans (congrFun (f10 2 (of_decide_eq_true rfl)) 0)) ((congrFun (f23 2 (of_decide_eq_true rfl)) 1).trans (congrFun (f10 2 (of_decide_eq_true rfl)) 1)) ((congrFun (f23 2 (of_decide_eq_true rfl)) 2).trans (congrFun (f10 2 (of_decide_eq_true rfl)) 2)) ((congrFun (f23 2 (of_decide_eq_true rfl)) 3).trans (congrFun (f10 2 (of_decide_eq_true rfl)) 3)) ((f23 6 (of_decide_eq_true rfl)).trans (f10 6 (of_decide_eq_true rfl))) hI2
            have I65 : jI9 σ21 := jI9_fr ((congrFun (f23 9 (of_decide_eq_true rfl)) 0).trans (congrFun (f10 9 (of_decide_eq_true rfl)) 0)) ((f23 10 (of_decide_eq_true rfl)).trans (f10 10 (of_decide_eq_true rfl))) ((f23 11 (of_decide_eq_true rfl)).trans (f10 11 (of_decide_eq_true rfl))) hI9
            have I66 : jI12 σ21 := jI12_fr ((congrFun (f23 12 (of_decide_eq_true rfl)) 0).trans (congrFun (f10 12 (of_decide_eq_true rfl)) 0)) ((f23 13 (of_decide_eq_true rfl)).trans (f10 13 (of_decide_eq_true rfl))) hI12
            have I67 : jI16 σ21 := jI16_fr ((congrFun (f23 16 (of_decide_eq_true rfl)) 0).trans (congrFun (f10 16 (of_decide_eq_true rfl)) 0)) ((congrFun (f23 16 (of_decide_eq_true rfl)) 1).trans (congrFun (f10 16 (of_decide_eq_true rfl)) 1)) ((congrFun (f23 16 (of_decide_eq_true rfl)) 2).trans (congrFun (f10 16 (of_decide_eq_true rfl)) 2)) ((f23 17 (of_decide_eq_true rfl)).trans (f10 17 (of_decide_eq_true rfl))) hI16
            have I68 : jI18 σ21 := jI18_fr ((congrFun (f23 18 (of_decide_eq_true rfl)) 0).trans (congrFun (f10 18 (of_decide_eq_true rfl)) 0)) ((f23 19 (of_decide_eq_true rfl)).trans (f10 19 (of_decide_eq_true rfl))) hI18
            have I69 : jI22 σ21 := jI22_fr ((congrFun (f23 22 (of_decide_eq_true rfl)) 0).trans (congrFun (f10 22 (of_decide_eq_true rfl)) 0)) ((f23 23 (of_decide_eq_true rfl)).trans (f10 23 (of_decide_eq_true rfl))) hI22
            exact by
             have I70 : jI31 σ21 := jI31_fr ((congrFun (f23 31 (of_decide_eq_true rfl)) 8).trans (congrFun (f10 31 (of_decide_eq_true rfl)) 8)) ((f23 33 (of_decide_eq_true rfl)).trans (f10 33 (of_decide_eq_true rfl))) ((f23 36 (of_decide_eq_true rfl)).trans (f10 36 (of_decide_eq_true rfl))) hI31
             have I71 : jI38 σ21 := jI38_fr (congrFun (f23 38 (of_decide_eq_true rfl)) 0) (congrFun (f23 38 (of_decide_eq_true rfl)) 1) (f23 39 (of_decide_eq_true rfl)) I12
             have I72 : jI43 σ21 := jI43_fr ((congrFun (f23 43 (of_decide_eq_true rfl)) 8).trans (congrFun (f10 43 (of_decide_eq_true rfl)) 8)) hI43
             have I73 : jI47 σ21 := jI47_fr ((congrFun (f23 47 (of_decide_eq_true rfl)) 0).trans (congrFun (f10 47 (of_decide_eq_true rfl)) 0)) ((f23 48 (of_decide_eq_true rfl)).trans (f10 48 (of_decide_eq_true rfl))) ((f23 49 (of_decide_eq_true rfl)).trans (f10 49 (of_decide_eq_true rfl))) hI47
             have I74 : jI50 σ21 := jI50_fr ((f23 52 (of_decide_eq_true rfl)).trans (f10 52 (of_decide_eq_true rfl))) hI50
             have I75 : jI101 σ21 := jI101_fr ((f24 4 (of_decide_eq_true rfl)).trans (congrFun (f10 55 (of_decide_eq_true rfl)) 4)) ((f24 5 (of_decide_eq_true rfl)).trans (congrFun (f10 55 (of_decide_eq_true rfl)) 5)) ((f23 56 (of_decide_eq_true rfl)).trans (f10 56 (of_decide_eq_true rfl))) ((f23 57 (of_decide_eq_true rfl)).trans (f10 57 (of_decide_eq_true rfl))) ((f23 58 (of_decide_eq_true rfl)).trans (f10 58 (of_decide_eq_true rfl))) ((f23 59 (of_decide_eq_true rfl)).trans (f10 59 (of_decide_eq_true rfl))) hI101
             have I76 : jI102 σ21 := jI102_fr ((f24 6 (of_decide_eq_true rfl)).trans (congrFun (f10 55 (of_decide_eq_true rfl)) 6)) ((f23 60 (of_decide_eq_true rfl)).trans (f10 60 (of_decide_eq_true rfl))) ((f23 61 (of_decide_eq_true rfl)).trans (f10 61 (of_decide_eq_true rfl))) hI102
             have I77 : jI103 σ21 := jI103_fr ((f24 9 (of_decide_eq_true rfl)).trans (congrFun (f10 55 (of_decide_eq_true rfl)) 9)) hI103
             have I78 : jI104 σ21 := jI104_fr ((f24 10 (of_decide_eq_true rfl)).trans (congrFun (f10 55 (of_decide_eq_true rfl)) 10)) ((f24 12 (of_decide_eq_true rfl)).trans (congrFun (f10 55 (of_decide_eq_true rfl)) 12)) ((f24 13 (of_decide_eq_true rfl)).trans (congrFun (f10 55 (of_decide_eq_true rfl)) 13)) ((f23 62 (of_decide_eq_true rfl)).trans (f10 62 (of_decide_eq_true rfl))) ((f23 67 (of_decide_eq_true rfl)).trans (f10 67 (of_decide_eq_true rfl))) hI104
             have I79 : jI105 σ21 := jI105_fr ((f24 15 (of_decide_eq_true rfl)).trans (congrFun (f10 55 (of_decide_eq_true rfl)) 15)) ((f23 65 (of_decide_eq_true rfl)).trans (f10 65 (of_decide_eq_true rfl))) hI105
             have I80 : jI106 σ21 := jI106_fr (f24 32 (of_decide_eq_true rfl)) (f23 70 (of_decide_eq_true rfl)) (f23 71 (of_decide_eq_true rfl)) (f23 72 (of_decide_eq_true rfl)) I19
             have I81 : jI107 σ21 := jI107_fr ((f24 12 (of_decide_eq_true rfl)).trans (congrFun (f10 55 (of_decide_eq_true rfl)) 12)) ((f24 47 (of_decide_eq_true rfl)).trans (congrFun (f10 55 (of_decide_eq_true rfl)) 47)) ((f23 80 (of_decide_eq_true rfl)).trans (f10 80 (of_decide_eq_true rfl))) hI107
             have I82 : jI109 σ21 := jI109_fr ((f24 50 (of_decide_eq_true rfl)).trans (congrFun (f10 55 (of_decide_eq_true rfl)) 50)) hI109
             have I83 : jI110 σ21 := jI110_fr ((f23 86 (of_decide_eq_true rfl)).trans (f10 86 (of_decide_eq_true rfl))) ((f23 87 (of_decide_eq_true rfl)).trans (f10 87 (of_decide_eq_true rfl))) hI110
             have I84 : jI111 σ21 := jI111_fr ((f23 79 (of_decide_eq_true rfl)).trans (f10 79 (of_decide_eq_true rfl))) hI111
             have I85 : jI119 σ21 := jI119_fr ((f23 68 (of_decide_eq_true rfl)).trans (f10 68 (of_decide_eq_true rfl))) hI119
             have p86 : jKept σ21 := jKept.fr ((f23 75 (of_decide_eq_true rfl)).trans (f10 75 (of_decide_eq_true rfl))) ((f23 76 (of_decide_eq_true rfl)).trans (f10 76 (of_decide_eq_true rfl))) ((f23 77 (of_decide_eq_true rfl)).trans (f10 77 (of_decide_eq_true rfl))) hs_jKept
             have p87 : jBook σ21 := jBook.fr ((f24 47 (of_decide_eq_true rfl)).trans (congrFun (f10 55 (of_decide_eq_true rfl)) 47)) ((f24 10 (of_decide_eq_true rfl)).trans (congrFun (f10 55 (of_decide_eq_true rfl)) 10)) ((f23 81 (of_decide_eq_true rfl)).trans (f10 81 (of_decide_eq_true rfl))) hs_jBook
             have z88 : (σ21 38 0).toInt = (σ 38 0).toInt := (congrArg Int32.toInt (show σ21 38 0 = (σ 38 0) from ((congrFun (f23 38 (of_decide_eq_true rfl)) 0).trans (f11 0 (of_decide_eq_true rfl)))))
             have z89 : (σ21 55 32).toInt = (σ 55 32).toInt := (congrArg Int32.toInt (show σ21 55 32 = (σ 55 32) from ((f24 32 (of_decide_eq_true rfl)).trans (congrFun (f10 55 (of_decide_eq_true rfl)) 32))))
             exact by exact ih x63 σ21 τ _ _ ls (by have h9 := tx63; omega) ⟨I64, I65, I66, I67, I68, I69, I70, I71, I72, I73, I74, I75, I76, I77, I78, I79, I80, I81, I82, I83, I84, I85, p86, p87, (by omega)⟩ hP hS (lv_sub hl [0, 1, 2, 3] rfl)
     · obtain ⟨q94, k90, k91, k92, k93⟩ := h15
       refine lv_pop hx hb dL_law_1009 rfl ?_
       refine lv_aload_n hx hb dL_law_1010 rfl (lv_at hl 1 rfl) ?_
       refine lv_aload_n hx hb dL_law_1011 rfl (lv_at hl 3 rfl) ?_
       refine lv_iload_n hx hb dL_law_1012 rfl (lv_at hl 0 rfl) ?_
       refine lv_iconst (v := 1) hx hb dL_law_1013 (of_decide_eq_true rfl) ?_
       refine lv_iadd hx hb dL_law_1014 ?_
       refine jtopr ex2.symm ?_
       exact by
        refine va_sld hx hb hX hbl hbA hS (jin tx2 (by omega) (by omega)) dL_law_1015 ?_
        refine lv_aload_n hx hb dL_law_1016 rfl (lv_at hl 3 rfl) ?_
        refine lv_iload_n hx hb dL_law_1017 rfl (lv_at hl 0 rfl) ?_
        refine lv_iconst (v := 2) hx hb dL_law_1018 (of_decide_eq_true rfl) ?_
        refine lv_iadd hx hb dL_law_1019 ?_
        refine jtopr ex4.symm ?_
        refine va_sld hx hb hX hbl hbA hS (jin tx4 (by omega) (by omega)) dL_law_1020 ?_
        refine lv_aload_n hx hb dL_law_1021 rfl (lv_at hl 3 rfl) ?_
        refine lv_iload_n hx hb dL_law_1022 rfl (lv_at hl 0 rfl) ?_
        exact by
         refine lv_iconst (v := 3) hx hb dL_law_1023 (of_decide_eq_true rfl) ?_
         refine lv_iadd hx hb dL_law_1024 ?_
         refine jtopr ex6.symm ?_
         refine va_sld hx hb hX hbl hbA hS (jin tx6 (by omega) (by omega)) dL_law_1025 ?_
         have I95 : jI106 σ8 := jI106_fr (congrFun (f10 55 (of_decide_eq_true rfl)) 32) (f10 70 (of_decide_eq_true rfl)) (f10 71 (of_decide_eq_true rfl)) (f10 72 (of_decide_eq_true rfl)) hI106
         have z96 : (σ8 55 32).toInt = (σ 55 32).toInt := (congrArg Int32.toInt (show σ8 55 32 = (σ 55 32) from (congrFun (f10 55 (of_decide_eq_true rfl)) 32)))
         refine jcallV (As := [.int (xs x2.toNatClampNeg), .int (xs x4.toNatClampNeg), .int (xs x6.toNatClampNeg)]) (rest := []) ⟨hx, hb, hml, hown, hts⟩ hK hP hA hS hZ (c_X12_act l D cI cL ad zz hJ σ8 τ (xs x2.toNatClampNeg) ((xs x2.toNatClampNeg).toInt) rfl (xs x4.toNatClampNeg) ((xs x4.toNatClampNeg).toInt) rfl (xs x6.toNatClampNeg) ((xs x6.toNatClampNeg).toInt) rfl I95) cw_RL_132 (jc_55 cI cL ad σ8 τ) rfl ⟨Nat.le_of_ble_eq_true rfl, Nat.le_of_ble_eq_true rfl⟩ rfl rfl rfl hl.1 rfl (Nat.le_of_ble_eq_true rfl) dL_law_1026 ⟨Nat.le_of_ble_eq_true rfl, Nat.le_of_ble_eq_true rfl⟩ (fun r98 σ97 τ97 H locs h97 hP hS => ?_)
         obtain ⟨rfl, f99, f100, h97⟩ := h97
         rcases h97 with h102 | h103
         · exact by
            obtain ⟨q106, k104, k105⟩ := h102
            have q106 := q106.symm
            subst q106
            refine lv_pop hx hb dL_law_1029 rfl ?_
            refine lv_goto (tgt := 1357) hx hb dL_law_1030 (of_decide_eq_true rfl) ?_
            obtain ⟨x107, ex107⟩ : ∃ y : Int32, y = x0 + 6 := ⟨_, rfl⟩
            have tx107 : x107.toInt = x0.toInt + 6 := (jadd ex107 rfl jz_6 (by omega) (by omega)).trans (by omega)
            refine lv_iinc (v := x107) (lv' := [(3, .int x107), (2, .ref (ad 55)), (1, .ref (ad 0)), (0, .ref b)]) hx hb dL_law_1357 hl (k := 0) rfl (by rw [ex107]; rfl) (of_decide_eq_true rfl) rfl (fun ls hl => ?_)
            refine lv_goto (tgt := 18) hx hb dL_law_1360 (of_decide_eq_true rfl) ?_
            exact by
             have I108 : jI2 σ97 := jI2_fr ((congrFun (f99 2 (of_decide_eq_true rfl)) 0).trans (congrFun (f10 2 (of_decide_eq_true rfl)) 0)) ((congrFun (f99 2 (of_decide_eq_true rfl)) 1).trans (congrFun (f10 2 (of_decide_eq_true rfl)) 1)) ((congrFun (f99 2 (of_decide_eq_true rfl)) 2).trans (congrFun (f10 2 (of_decide_eq_true rfl)) 2)) ((congrFun (f99 2 (of_decide_eq_true rfl)) 3).trans (congrFun (f10 2 (of_decide_eq_true rfl)) 3)) ((f99 6 (of_decide_eq_true rfl)).trans (f10 6 (of_decide_eq_true rfl))) hI2
             have I109 : jI9 σ97 := jI9_fr ((congrFun (f99 9 (of_decide_eq_true rfl)) 0).trans (congrFun (f10 9 (of_decide_eq_true rfl)) 0)) ((f99 10 (of_decide_eq_true rfl)).trans (f10 10 (of_decide_eq_true rfl))) ((f99 11 (of_decide_eq_true rfl)).trans (f10 11 (of_decide_eq_true rfl))) hI9
             have I110 : jI12 σ97 := jI12_fr ((congrFun (f99 12 (of_decide_eq_true rfl)) 0).trans (congrFun (f10 12 (of_decide_eq_true rfl)) 0)) ((f99 13 (of_decide_eq_true rfl)).trans (f10 13 (of_decide_eq_true rfl))) hI12
             have I111 : jI16 σ97 := jI16_fr ((congrFun (f99 16 (of_decide_eq_true rfl)) 0).trans (congrFun (f10 16 (of_decide_eq_true rfl)) 0)) ((congrFun (f99 16 (of_decide_eq_true rfl)) 1).trans (congrFun (f10 16 (of_decide_eq_true rfl)) 1)) ((congrFun (f99 16 (of_decide_eq_true rfl)) 2).trans (congrFun (f10 16 (of_decide_eq_true rfl)) 2)) ((f99 17 (of_decide_eq_true rfl)).trans (f10 17 (of_decide_eq_true rfl))) hI16
             have I112 : jI18 σ97 := jI18_fr ((congrFun (f99 18 (of_decide_eq_true rfl)) 0).trans (congrFun (f10 18 (of_decide_eq_true rfl)) 0)) ((f99 19 (of_decide_eq_true rfl)).trans (f10 19 (of_decide_eq_true rfl))) hI18
             have I113 : jI22 σ97 := jI22_fr ((congrFun (f99 22 (of_decide_eq_true rfl)) 0).trans (congrFun (f10 22 (of_decide_eq_true rfl)) 0)) ((f99 23 (of_decide_eq_true rfl)).trans (f10 23 (of_decide_eq_true rfl))) hI22
             have I114 : jI31 σ97 := jI31_fr ((congrFun (f99 31 (of_decide_eq_true rfl)) 8).trans (congrFun (f10 31 (of_decide_eq_true rfl)) 8)) ((f99 33 (of_decide_eq_true rfl)).trans (f10 33 (of_decide_eq_true rfl))) ((f99 36 (of_decide_eq_true rfl)).trans (f10 36 (of_decide_eq_true rfl))) hI31
             have I115 : jI38 σ97 := jI38_fr (congrFun (f99 38 (of_decide_eq_true rfl)) 0) (congrFun (f99 38 (of_decide_eq_true rfl)) 1) (f99 39 (of_decide_eq_true rfl)) I12
             have I116 : jI43 σ97 := jI43_fr ((congrFun (f99 43 (of_decide_eq_true rfl)) 8).trans (congrFun (f10 43 (of_decide_eq_true rfl)) 8)) hI43
             have I117 : jI47 σ97 := jI47_fr ((congrFun (f99 47 (of_decide_eq_true rfl)) 0).trans (congrFun (f10 47 (of_decide_eq_true rfl)) 0)) ((f99 48 (of_decide_eq_true rfl)).trans (f10 48 (of_decide_eq_true rfl))) ((f99 49 (of_decide_eq_true rfl)).trans (f10 49 (of_decide_eq_true rfl))) hI47
             have I118 : jI50 σ97 := jI50_fr ((f99 52 (of_decide_eq_true rfl)).trans (f10 52 (of_decide_eq_true rfl))) hI50
             have I119 : jI101 σ97 := jI101_fr ((f100 4 (of_decide_eq_true rfl)).trans (congrFun (f10 55 (of_decide_eq_true rfl)) 4)) ((f100 5 (of_decide_eq_true rfl)).trans (congrFun (f10 55 (of_decide_eq_true rfl)) 5)) ((f99 56 (of_decide_eq_true rfl)).trans (f10 56 (of_decide_eq_true rfl))) ((f99 57 (of_decide_eq_true rfl)).trans (f10 57 (of_decide_eq_true rfl))) ((f99 58 (of_decide_eq_true rfl)).trans (f10 58 (of_decide_eq_true rfl))) ((f99 59 (of_decide_eq_true rfl)).trans (f10 59 (of_decide_eq_true rfl))) hI101
             have I120 : jI102 σ97 := jI102_fr ((f100 6 (of_decide_eq_true rfl)).trans (congrFun (f10 55 (of_decide_eq_true rfl)) 6)) ((f99 60 (of_decide_eq_true rfl)).trans (f10 60 (of_decide_eq_true rfl))) ((f99 61 (of_decide_eq_true rfl)).trans (f10 61 (of_decide_eq_true rfl))) hI102
             have I121 : jI103 σ97 := jI103_fr ((f100 9 (of_decide_eq_true rfl)).trans (congrFun (f10 55 (of_decide_eq_true rfl)) 9)) hI103
             have I122 : jI104 σ97 := jI104_fr ((f100 10 (of_decide_eq_true rfl)).trans (congrFun (f10 55 (of_decide_eq_true rfl)) 10)) ((f100 12 (of_decide_eq_true rfl)).trans (congrFun (f10 55 (of_decide_eq_true rfl)) 12)) ((f100 13 (of_decide_eq_true rfl)).trans (congrFun (f10 55 (of_decide_eq_true rfl)) 13)) ((f99 62 (of_decide_eq_true rfl)).trans (f10 62 (of_decide_eq_true rfl))) ((f99 67 (of_decide_eq_true rfl)).trans (f10 67 (of_decide_eq_true rfl))) hI104
             have I123 : jI105 σ97 := jI105_fr ((f100 15 (of_decide_eq_true rfl)).trans (congrFun (f10 55 (of_decide_eq_true rfl)) 15)) ((f99 65 (of_decide_eq_true rfl)).trans (f10 65 (of_decide_eq_true rfl))) hI105
             have I124 : jI106 σ97 := jI106_fr (f100 32 (of_decide_eq_true rfl)) (f99 70 (of_decide_eq_true rfl)) (f99 71 (of_decide_eq_true rfl)) (f99 72 (of_decide_eq_true rfl)) I95
             have I125 : jI107 σ97 := jI107_fr ((f100 12 (of_decide_eq_true rfl)).trans (congrFun (f10 55 (of_decide_eq_true rfl)) 12)) ((f100 47 (of_decide_eq_true rfl)).trans (congrFun (f10 55 (of_decide_eq_true rfl)) 47)) ((f99 80 (of_decide_eq_true rfl)).trans (f10 80 (of_decide_eq_true rfl))) hI107
             have I126 : jI109 σ97 := jI109_fr ((f100 50 (of_decide_eq_true rfl)).trans (congrFun (f10 55 (of_decide_eq_true rfl)) 50)) hI109
             have I127 : jI110 σ97 := jI110_fr ((f99 86 (of_decide_eq_true rfl)).trans (f10 86 (of_decide_eq_true rfl))) ((f99 87 (of_decide_eq_true rfl)).trans (f10 87 (of_decide_eq_true rfl))) hI110
             have I128 : jI111 σ97 := jI111_fr ((f99 79 (of_decide_eq_true rfl)).trans (f10 79 (of_decide_eq_true rfl))) hI111
             have I129 : jI119 σ97 := jI119_fr ((f99 68 (of_decide_eq_true rfl)).trans (f10 68 (of_decide_eq_true rfl))) hI119
             have p130 : jKept σ97 := jKept.fr ((f99 75 (of_decide_eq_true rfl)).trans (f10 75 (of_decide_eq_true rfl))) ((f99 76 (of_decide_eq_true rfl)).trans (f10 76 (of_decide_eq_true rfl))) ((f99 77 (of_decide_eq_true rfl)).trans (f10 77 (of_decide_eq_true rfl))) hs_jKept
             have p131 : jBook σ97 := jBook.fr ((f100 47 (of_decide_eq_true rfl)).trans (congrFun (f10 55 (of_decide_eq_true rfl)) 47)) ((f100 10 (of_decide_eq_true rfl)).trans (congrFun (f10 55 (of_decide_eq_true rfl)) 10)) ((f99 81 (of_decide_eq_true rfl)).trans (f10 81 (of_decide_eq_true rfl))) hs_jBook
             have z132 : (σ97 38 0).toInt = (σ 38 0).toInt := (congrArg Int32.toInt (show σ97 38 0 = (σ 38 0) from ((congrFun (f99 38 (of_decide_eq_true rfl)) 0).trans (f11 0 (of_decide_eq_true rfl)))))
             have z133 : (σ97 55 32).toInt = (σ 55 32).toInt := (congrArg Int32.toInt (show σ97 55 32 = (σ 55 32) from ((f100 32 (of_decide_eq_true rfl)).trans (congrFun (f10 55 (of_decide_eq_true rfl)) 32))))
             exact by exact ih x107 σ97 τ _ _ ls (by have h9 := tx107; omega) ⟨I108, I109, I110, I111, I112, I113, I114, I115, I116, I117, I118, I119, I120, I121, I122, I123, I124, I125, I126, I127, I128, I129, p130, p131, (by omega)⟩ hP hS (lv_sub hl [0, 1, 2, 3] rfl)
         · obtain ⟨q138, k134, k135, k136, k137⟩ := h103
           refine lv_pop hx hb dL_law_1029 rfl ?_
           refine lv_goto (tgt := 1357) hx hb dL_law_1030 (of_decide_eq_true rfl) ?_
           obtain ⟨x139, ex139⟩ : ∃ y : Int32, y = x0 + 6 := ⟨_, rfl⟩
           exact by
            have tx139 : x139.toInt = x0.toInt + 6 := (jadd ex139 rfl jz_6 (by omega) (by omega)).trans (by omega)
            refine lv_iinc (v := x139) (lv' := [(3, .int x139), (2, .ref (ad 55)), (1, .ref (ad 0)), (0, .ref b)]) hx hb dL_law_1357 hl (k := 0) rfl (by rw [ex139]; rfl) (of_decide_eq_true rfl) rfl (fun ls hl => ?_)
            refine lv_goto (tgt := 18) hx hb dL_law_1360 (of_decide_eq_true rfl) ?_
            have I140 : jI2 σ97 := jI2_fr ((congrFun (f99 2 (of_decide_eq_true rfl)) 0).trans (congrFun (f10 2 (of_decide_eq_true rfl)) 0)) ((congrFun (f99 2 (of_decide_eq_true rfl)) 1).trans (congrFun (f10 2 (of_decide_eq_true rfl)) 1)) ((congrFun (f99 2 (of_decide_eq_true rfl)) 2).trans (congrFun (f10 2 (of_decide_eq_true rfl)) 2)) ((congrFun (f99 2 (of_decide_eq_true rfl)) 3).trans (congrFun (f10 2 (of_decide_eq_true rfl)) 3)) ((f99 6 (of_decide_eq_true rfl)).trans (f10 6 (of_decide_eq_true rfl))) hI2
            have I141 : jI9 σ97 := jI9_fr ((congrFun (f99 9 (of_decide_eq_true rfl)) 0).trans (congrFun (f10 9 (of_decide_eq_true rfl)) 0)) ((f99 10 (of_decide_eq_true rfl)).trans (f10 10 (of_decide_eq_true rfl))) ((f99 11 (of_decide_eq_true rfl)).trans (f10 11 (of_decide_eq_true rfl))) hI9
            have I142 : jI12 σ97 := jI12_fr ((congrFun (f99 12 (of_decide_eq_true rfl)) 0).trans (congrFun (f10 12 (of_decide_eq_true rfl)) 0)) ((f99 13 (of_decide_eq_true rfl)).trans (f10 13 (of_decide_eq_true rfl))) hI12
            have I143 : jI16 σ97 := jI16_fr ((congrFun (f99 16 (of_decide_eq_true rfl)) 0).trans (congrFun (f10 16 (of_decide_eq_true rfl)) 0)) ((congrFun (f99 16 (of_decide_eq_true rfl)) 1).trans (congrFun (f10 16 (of_decide_eq_true rfl)) 1)) ((congrFun (f99 16 (of_decide_eq_true rfl)) 2).trans (congrFun (f10 16 (of_decide_eq_true rfl)) 2)) ((f99 17 (of_decide_eq_true rfl)).trans (f10 17 (of_decide_eq_true rfl))) hI16
            have I144 : jI18 σ97 := jI18_fr ((congrFun (f99 18 (of_decide_eq_true rfl)) 0).trans (congrFun (f10 18 (of_decide_eq_true rfl)) 0)) ((f99 19 (of_decide_eq_true rfl)).trans (f10 19 (of_decide_eq_true rfl))) hI18
            have I145 : jI22 σ97 := jI22_fr ((congrFun (f99 22 (of_decide_eq_true rfl)) 0).trans (congrFun (f10 22 (of_decide_eq_true rfl)) 0)) ((f99 23 (of_decide_eq_true rfl)).trans (f10 23 (of_decide_eq_true rfl))) hI22
            exact by
             have I146 : jI31 σ97 := jI31_fr ((congrFun (f99 31 (of_decide_eq_true rfl)) 8).trans (congrFun (f10 31 (of_decide_eq_true rfl)) 8)) ((f99 33 (of_decide_eq_true rfl)).trans (f10 33 (of_decide_eq_true rfl))) ((f99 36 (of_decide_eq_true rfl)).trans (f10 36 (of_decide_eq_true rfl))) hI31
             have I147 : jI38 σ97 := jI38_fr (congrFun (f99 38 (of_decide_eq_true rfl)) 0) (congrFun (f99 38 (of_decide_eq_true rfl)) 1) (f99 39 (of_decide_eq_true rfl)) I12
             have I148 : jI43 σ97 := jI43_fr ((congrFun (f99 43 (of_decide_eq_true rfl)) 8).trans (congrFun (f10 43 (of_decide_eq_true rfl)) 8)) hI43
             have I149 : jI47 σ97 := jI47_fr ((congrFun (f99 47 (of_decide_eq_true rfl)) 0).trans (congrFun (f10 47 (of_decide_eq_true rfl)) 0)) ((f99 48 (of_decide_eq_true rfl)).trans (f10 48 (of_decide_eq_true rfl))) ((f99 49 (of_decide_eq_true rfl)).trans (f10 49 (of_decide_eq_true rfl))) hI47
             have I150 : jI50 σ97 := jI50_fr ((f99 52 (of_decide_eq_true rfl)).trans (f10 52 (of_decide_eq_true rfl))) hI50
             have I151 : jI101 σ97 := jI101_fr ((f100 4 (of_decide_eq_true rfl)).trans (congrFun (f10 55 (of_decide_eq_true rfl)) 4)) ((f100 5 (of_decide_eq_true rfl)).trans (congrFun (f10 55 (of_decide_eq_true rfl)) 5)) ((f99 56 (of_decide_eq_true rfl)).trans (f10 56 (of_decide_eq_true rfl))) ((f99 57 (of_decide_eq_true rfl)).trans (f10 57 (of_decide_eq_true rfl))) ((f99 58 (of_decide_eq_true rfl)).trans (f10 58 (of_decide_eq_true rfl))) ((f99 59 (of_decide_eq_true rfl)).trans (f10 59 (of_decide_eq_true rfl))) hI101
             have I152 : jI102 σ97 := jI102_fr ((f100 6 (of_decide_eq_true rfl)).trans (congrFun (f10 55 (of_decide_eq_true rfl)) 6)) ((f99 60 (of_decide_eq_true rfl)).trans (f10 60 (of_decide_eq_true rfl))) ((f99 61 (of_decide_eq_true rfl)).trans (f10 61 (of_decide_eq_true rfl))) hI102
             have I153 : jI103 σ97 := jI103_fr ((f100 9 (of_decide_eq_true rfl)).trans (congrFun (f10 55 (of_decide_eq_true rfl)) 9)) hI103
             have I154 : jI104 σ97 := jI104_fr ((f100 10 (of_decide_eq_true rfl)).trans (congrFun (f10 55 (of_decide_eq_true rfl)) 10)) ((f100 12 (of_decide_eq_true rfl)).trans (congrFun (f10 55 (of_decide_eq_true rfl)) 12)) ((f100 13 (of_decide_eq_true rfl)).trans (congrFun (f10 55 (of_decide_eq_true rfl)) 13)) ((f99 62 (of_decide_eq_true rfl)).trans (f10 62 (of_decide_eq_true rfl))) ((f99 67 (of_decide_eq_true rfl)).trans (f10 67 (of_decide_eq_true rfl))) hI104
             have I155 : jI105 σ97 := jI105_fr ((f100 15 (of_decide_eq_true rfl)).trans (congrFun (f10 55 (of_decide_eq_true rfl)) 15)) ((f99 65 (of_decide_eq_true rfl)).trans (f10 65 (of_decide_eq_true rfl))) hI105
             have I156 : jI106 σ97 := jI106_fr (f100 32 (of_decide_eq_true rfl)) (f99 70 (of_decide_eq_true rfl)) (f99 71 (of_decide_eq_true rfl)) (f99 72 (of_decide_eq_true rfl)) I95
             have I157 : jI107 σ97 := jI107_fr ((f100 12 (of_decide_eq_true rfl)).trans (congrFun (f10 55 (of_decide_eq_true rfl)) 12)) ((f100 47 (of_decide_eq_true rfl)).trans (congrFun (f10 55 (of_decide_eq_true rfl)) 47)) ((f99 80 (of_decide_eq_true rfl)).trans (f10 80 (of_decide_eq_true rfl))) hI107
             have I158 : jI109 σ97 := jI109_fr ((f100 50 (of_decide_eq_true rfl)).trans (congrFun (f10 55 (of_decide_eq_true rfl)) 50)) hI109
             have I159 : jI110 σ97 := jI110_fr ((f99 86 (of_decide_eq_true rfl)).trans (f10 86 (of_decide_eq_true rfl))) ((f99 87 (of_decide_eq_true rfl)).trans (f10 87 (of_decide_eq_true rfl))) hI110
             have I160 : jI111 σ97 := jI111_fr ((f99 79 (of_decide_eq_true rfl)).trans (f10 79 (of_decide_eq_true rfl))) hI111
             have I161 : jI119 σ97 := jI119_fr ((f99 68 (of_decide_eq_true rfl)).trans (f10 68 (of_decide_eq_true rfl))) hI119
             have p162 : jKept σ97 := jKept.fr ((f99 75 (of_decide_eq_true rfl)).trans (f10 75 (of_decide_eq_true rfl))) ((f99 76 (of_decide_eq_true rfl)).trans (f10 76 (of_decide_eq_true rfl))) ((f99 77 (of_decide_eq_true rfl)).trans (f10 77 (of_decide_eq_true rfl))) hs_jKept
             have p163 : jBook σ97 := jBook.fr ((f100 47 (of_decide_eq_true rfl)).trans (congrFun (f10 55 (of_decide_eq_true rfl)) 47)) ((f100 10 (of_decide_eq_true rfl)).trans (congrFun (f10 55 (of_decide_eq_true rfl)) 10)) ((f99 81 (of_decide_eq_true rfl)).trans (f10 81 (of_decide_eq_true rfl))) hs_jBook
             have z164 : (σ97 38 0).toInt = (σ 38 0).toInt := (congrArg Int32.toInt (show σ97 38 0 = (σ 38 0) from ((congrFun (f99 38 (of_decide_eq_true rfl)) 0).trans (f11 0 (of_decide_eq_true rfl)))))
             have z165 : (σ97 55 32).toInt = (σ 55 32).toInt := (congrArg Int32.toInt (show σ97 55 32 = (σ 55 32) from ((f100 32 (of_decide_eq_true rfl)).trans (congrFun (f10 55 (of_decide_eq_true rfl)) 32))))
             exact by exact ih x139 σ97 τ _ _ ls (by have h9 := tx139; omega) ⟨I140, I141, I142, I143, I144, I145, I146, I147, I148, I149, I150, I151, I152, I153, I154, I155, I156, I157, I158, I159, I160, I161, p162, p163, (by omega)⟩ hP hS (lv_sub hl [0, 1, 2, 3] rfl)
set_option maxHeartbeats 4000000 in
set_option maxRecDepth 100000 in
theorem law_case_29 {p : Program} {e : Env} {s : State} {m : MethodId} {below : List Frame} {meth : Method} {c : Code} (l : Launch) {b L : Nat} {xs : Nat → Int32} {D : va_G} {cI cL : ClassId} {ad zz : Nat → Nat} (C0 : lw_At p s m meth c b L xs) (hJ : jD ad) (hA : ∀ q, jA ad q → s.heap.size ≤ q) (hK : jK D cI cL s) (hZ : jZ zz (fun q : Nat => s.heap.size ≤ q) s s.heap) {x0 : Int32} (hx0 : 0 ≤ x0.toInt) (hxL : x0.toInt + 6 ≤ (L : Int)) (hL : L ≤ 384) {σ : Nat → Nat → Int32} {τ : Nat → Nat → Int64} {H : Heap} {locs : List Loc} (hS : va_S (fun q : Nat => s.heap.size ≤ q) s.heap H locs) {ls : Array Slot} (hAll : jAll σ τ) (hP : jH D cI cL ad σ τ H) (hl : lv_has ls 4 [(3, .int x0), (2, .ref (ad 55)), (1, .ref (ad 0)), (0, .ref b)]) (ih : ∀ (x1 : Int32) (σ : Nat → Nat → Int32) (τ : Nat → Nat → Int64) (H : Heap) (locs : List Loc) (ls : Array Slot), x1.toInt = x0.toInt + 6 → jAll σ τ → jH D cI cL ad σ τ H → va_S (fun q : Nat => s.heap.size ≤ q) s.heap H locs → lv_has ls 4 [(3, .int x1), (2, .ref (ad 55)), (1, .ref (ad 0)), (0, .ref b)] → W p l e room_1 s m #[Value.ref b] below meth c H locs 90 348600 (lw_Z below #[Value.ref b] s) (F0 m 18 ls [])) : W p l e room_1 s m #[Value.ref b] below meth c H locs 90 348600 (lw_Z below #[Value.ref b] s) (F0 m 1033 ls []) := by
  obtain ⟨hx, hb, hr, hml, hown, hts0, hX, hbl, hlocks, hgv⟩ := C0
  have hts : ∀ w ∈ wsL_law, w.before #[Value.ref b] s = true := fun w h => hts0 w (wsL_law_in w h)
  have hbA : ¬ (fun q : Nat => s.heap.size ≤ q) b := Nat.not_le.mpr hbl
  have hown : s.vm.findClass RL = some m.cls := hown
  obtain ⟨hI2, hI9, hI12, hI16, hI18, hI22, hI31, hI38, hI43, hI47, hI50, hI101, hI102, hI103, hI104, hI105, hI106, hI107, hI109, hI110, hI111, hI119, hs_jKept, hs_jBook, ht0⟩ := hAll
  have hL9 : (L : Int) ≤ 384 := by omega
  refine lv_aload_n hx hb dL_law_1033 rfl (lv_at hl 2 rfl) ?_
  refine lv_aload_n hx hb dL_law_1034 rfl (lv_at hl 3 rfl) ?_
  refine lv_iload_n hx hb dL_law_1035 rfl (lv_at hl 0 rfl) ?_
  refine lv_iconst (v := 1) hx hb dL_law_1036 (of_decide_eq_true rfl) ?_
  have g1 := jrg (rfl : x0.toInt = x0.toInt)
  refine lv_iadd hx hb dL_law_1037 ?_
  refine lv_topi (fun x2 ex2 => ?_)
  exact by
   have tx2 : x2.toInt = x0.toInt + 1 := (jadd ex2 rfl jz_1 (by omega) (by omega)).trans (by omega)
   refine va_sld hx hb hX hbl hbA hS (jin tx2 (by omega) (by omega)) dL_law_1038 ?_
   have g3 := jrg (rfl : (xs x2.toNatClampNeg).toInt = (xs x2.toNatClampNeg).toInt)
   refine jcallV (As := [.int (xs x2.toNatClampNeg)]) (rest := []) ⟨hx, hb, hml, hown, hts⟩ hK hP hA hS hZ (c_X11_trace l D cI cL ad zz hJ σ τ (xs x2.toNatClampNeg) ((xs x2.toNatClampNeg).toInt) rfl hI38) cw_RL_133 (jc_0 cI cL ad σ τ) rfl ⟨Nat.le_of_ble_eq_true rfl, Nat.le_of_ble_eq_true rfl⟩ rfl rfl rfl hl.1 rfl (Nat.le_of_ble_eq_true rfl) dL_law_1039 ⟨Nat.le_of_ble_eq_true rfl, Nat.le_of_ble_eq_true rfl⟩ (fun r5 σ4 τ4 H locs h4 hP hS => ?_)
   obtain ⟨⟨rfl, rfl⟩, h4⟩ := h4
   rcases h4 with h6 | h7
   · obtain ⟨q11, k8, k9, k10⟩ := h6
     have q12 : r5 = (σ 42 (xs x2.toNatClampNeg).toNatClampNeg) := q11.trans rfl
     have q12 := q12.symm
     exact by
      subst q12
      refine lv_pop hx hb dL_law_1042 rfl ?_
      refine lv_aload_n hx hb dL_law_1043 rfl (lv_at hl 1 rfl) ?_
      refine lv_aload_n hx hb dL_law_1044 rfl (lv_at hl 3 rfl) ?_
      refine lv_iload_n hx hb dL_law_1045 rfl (lv_at hl 0 rfl) ?_
      refine lv_iconst (v := 1) hx hb dL_law_1046 (of_decide_eq_true rfl) ?_
      refine lv_iadd hx hb dL_law_1047 ?_
      refine jtopr ex2.symm ?_
      refine va_sld hx hb hX hbl hbA hS (jin tx2 (by omega) (by omega)) dL_law_1048 ?_
      exact by
       refine jcallV (As := [.int (xs x2.toNatClampNeg)]) (rest := []) ⟨hx, hb, hml, hown, hts⟩ hK hP hA hS hZ (c_X12_trace l D cI cL ad zz hJ σ τ (xs x2.toNatClampNeg) ((xs x2.toNatClampNeg).toInt) rfl) cw_RL_136 (jc_55 cI cL ad σ τ) rfl ⟨Nat.le_of_ble_eq_true rfl, Nat.le_of_ble_eq_true rfl⟩ rfl rfl rfl hl.1 rfl (Nat.le_of_ble_eq_true rfl) dL_law_1049 ⟨Nat.le_of_ble_eq_true rfl, Nat.le_of_ble_eq_true rfl⟩ (fun r14 σ13 τ13 H locs h13 hP hS => ?_)
       obtain ⟨⟨rfl, rfl⟩, h13⟩ := h13
       rcases h13 with h15 | h16
       · obtain ⟨q20, k17, k18, k19⟩ := h15
         have q21 : r14 = (σ 85 (xs x2.toNatClampNeg).toNatClampNeg) := q20.trans rfl
         have q21 := q21.symm
         subst q21
         refine lv_pop hx hb dL_law_1052 rfl ?_
         refine lv_goto (tgt := 1357) hx hb dL_law_1053 (of_decide_eq_true rfl) ?_
         obtain ⟨x22, ex22⟩ : ∃ y : Int32, y = x0 + 6 := ⟨_, rfl⟩
         exact by
          have tx22 : x22.toInt = x0.toInt + 6 := (jadd ex22 rfl jz_6 (by omega) (by omega)).trans (by omega)
          refine lv_iinc (v := x22) (lv' := [(3, .int x22), (2, .ref (ad 55)), (1, .ref (ad 0)), (0, .ref b)]) hx hb dL_law_1357 hl (k := 0) rfl (by rw [ex22]; rfl) (of_decide_eq_true rfl) rfl (fun ls hl => ?_)
          refine lv_goto (tgt := 18) hx hb dL_law_1360 (of_decide_eq_true rfl) ?_
          exact by exact ih x22 σ τ _ _ ls (by have h9 := tx22; omega) ⟨hI2, hI9, hI12, hI16, hI18, hI22, hI31, hI38, hI43, hI47, hI50, hI101, hI102, hI103, hI104, hI105, hI106, hI107, hI109, hI110, hI111, hI119, hs_jKept, hs_jBook, (by omega)⟩ hP hS (lv_sub hl [0, 1, 2, 3] rfl)
       · obtain ⟨q24, k23⟩ := h16
         have q24 := q24.symm
         subst q24
         refine lv_pop hx hb dL_law_1052 rfl ?_
         refine lv_goto (tgt := 1357) hx hb dL_law_1053 (of_decide_eq_true rfl) ?_
         exact by
          obtain ⟨x25, ex25⟩ : ∃ y : Int32, y = x0 + 6 := ⟨_, rfl⟩
          have tx25 : x25.toInt = x0.toInt + 6 := (jadd ex25 rfl jz_6 (by omega) (by omega)).trans (by omega)
          refine lv_iinc (v := x25) (lv' := [(3, .int x25), (2, .ref (ad 55)), (1, .ref (ad 0)), (0, .ref b)]) hx hb dL_law_1357 hl (k := 0) rfl (by rw [ex25]; rfl) (of_decide_eq_true rfl) rfl (fun ls hl => ?_)
          refine lv_goto (tgt := 18) hx hb dL_law_1360 (of_decide_eq_true rfl) ?_
          exact by exact ih x25 σ τ _ _ ls (by have h9 := tx25; omega) ⟨hI2, hI9, hI12, hI16, hI18, hI22, hI31, hI38, hI43, hI47, hI50, hI101, hI102, hI103, hI104, hI105, hI106, hI107, hI109, hI110, hI111, hI119, hs_jKept, hs_jBook, (by omega)⟩ hP hS (lv_sub hl [0, 1, 2, 3] rfl)
   · obtain ⟨q27, k26⟩ := h7
     have q27 := q27.symm
     subst q27
     refine lv_pop hx hb dL_law_1042 rfl ?_
     exact by
      refine lv_aload_n hx hb dL_law_1043 rfl (lv_at hl 1 rfl) ?_
      refine lv_aload_n hx hb dL_law_1044 rfl (lv_at hl 3 rfl) ?_
      refine lv_iload_n hx hb dL_law_1045 rfl (lv_at hl 0 rfl) ?_
      refine lv_iconst (v := 1) hx hb dL_law_1046 (of_decide_eq_true rfl) ?_
      refine lv_iadd hx hb dL_law_1047 ?_
      refine jtopr ex2.symm ?_
      refine va_sld hx hb hX hbl hbA hS (jin tx2 (by omega) (by omega)) dL_law_1048 ?_
      refine jcallV (As := [.int (xs x2.toNatClampNeg)]) (rest := []) ⟨hx, hb, hml, hown, hts⟩ hK hP hA hS hZ (c_X12_trace l D cI cL ad zz hJ σ τ (xs x2.toNatClampNeg) ((xs x2.toNatClampNeg).toInt) rfl) cw_RL_136 (jc_55 cI cL ad σ τ) rfl ⟨Nat.le_of_ble_eq_true rfl, Nat.le_of_ble_eq_true rfl⟩ rfl rfl rfl hl.1 rfl (Nat.le_of_ble_eq_true rfl) dL_law_1049 ⟨Nat.le_of_ble_eq_true rfl, Nat.le_of_ble_eq_true rfl⟩ (fun r29 σ28 τ28 H locs h28 hP hS => ?_)
      obtain ⟨⟨rfl, rfl⟩, h28⟩ := h28
      exact by
       rcases h28 with h30 | h31
       · obtain ⟨q35, k32, k33, k34⟩ := h30
         have q36 : r29 = (σ 85 (xs x2.toNatClampNeg).toNatClampNeg) := q35.trans rfl
         have q36 := q36.symm
         subst q36
         refine lv_pop hx hb dL_law_1052 rfl ?_
         refine lv_goto (tgt := 1357) hx hb dL_law_1053 (of_decide_eq_true rfl) ?_
         obtain ⟨x37, ex37⟩ : ∃ y : Int32, y = x0 + 6 := ⟨_, rfl⟩
         have tx37 : x37.toInt = x0.toInt + 6 := (jadd ex37 rfl jz_6 (by omega) (by omega)).trans (by omega)
         exact by
          refine lv_iinc (v := x37) (lv' := [(3, .int x37), (2, .ref (ad 55)), (1, .ref (ad 0)), (0, .ref b)]) hx hb dL_law_1357 hl (k := 0) rfl (by rw [ex37]; rfl) (of_decide_eq_true rfl) rfl (fun ls hl => ?_)
          refine lv_goto (tgt := 18) hx hb dL_law_1360 (of_decide_eq_true rfl) ?_
          exact by exact ih x37 σ τ _ _ ls (by have h9 := tx37; omega) ⟨hI2, hI9, hI12, hI16, hI18, hI22, hI31, hI38, hI43, hI47, hI50, hI101, hI102, hI103, hI104, hI105, hI106, hI107, hI109, hI110, hI111, hI119, hs_jKept, hs_jBook, (by omega)⟩ hP hS (lv_sub hl [0, 1, 2, 3] rfl)
       · obtain ⟨q39, k38⟩ := h31
         have q39 := q39.symm
         subst q39
         refine lv_pop hx hb dL_law_1052 rfl ?_
         refine lv_goto (tgt := 1357) hx hb dL_law_1053 (of_decide_eq_true rfl) ?_
         obtain ⟨x40, ex40⟩ : ∃ y : Int32, y = x0 + 6 := ⟨_, rfl⟩
         exact by
          have tx40 : x40.toInt = x0.toInt + 6 := (jadd ex40 rfl jz_6 (by omega) (by omega)).trans (by omega)
          refine lv_iinc (v := x40) (lv' := [(3, .int x40), (2, .ref (ad 55)), (1, .ref (ad 0)), (0, .ref b)]) hx hb dL_law_1357 hl (k := 0) rfl (by rw [ex40]; rfl) (of_decide_eq_true rfl) rfl (fun ls hl => ?_)
          refine lv_goto (tgt := 18) hx hb dL_law_1360 (of_decide_eq_true rfl) ?_
          exact by exact ih x40 σ τ _ _ ls (by have h9 := tx40; omega) ⟨hI2, hI9, hI12, hI16, hI18, hI22, hI31, hI38, hI43, hI47, hI50, hI101, hI102, hI103, hI104, hI105, hI106, hI107, hI109, hI110, hI111, hI119, hs_jKept, hs_jBook, (by omega)⟩ hP hS (lv_sub hl [0, 1, 2, 3] rfl)
set_option maxHeartbeats 4000000 in
set_option maxRecDepth 100000 in
theorem law_case_30 {p : Program} {e : Env} {s : State} {m : MethodId} {below : List Frame} {meth : Method} {c : Code} (l : Launch) {b L : Nat} {xs : Nat → Int32} {D : va_G} {cI cL : ClassId} {ad zz : Nat → Nat} (C0 : lw_At p s m meth c b L xs) (hJ : jD ad) (hA : ∀ q, jA ad q → s.heap.size ≤ q) (hK : jK D cI cL s) (hZ : jZ zz (fun q : Nat => s.heap.size ≤ q) s s.heap) {x0 : Int32} (hx0 : 0 ≤ x0.toInt) (hxL : x0.toInt + 6 ≤ (L : Int)) (hL : L ≤ 384) {σ : Nat → Nat → Int32} {τ : Nat → Nat → Int64} {H : Heap} {locs : List Loc} (hS : va_S (fun q : Nat => s.heap.size ≤ q) s.heap H locs) {ls : Array Slot} (hAll : jAll σ τ) (hP : jH D cI cL ad σ τ H) (hl : lv_has ls 4 [(3, .int x0), (2, .ref (ad 55)), (1, .ref (ad 0)), (0, .ref b)]) (ih : ∀ (x1 : Int32) (σ : Nat → Nat → Int32) (τ : Nat → Nat → Int64) (H : Heap) (locs : List Loc) (ls : Array Slot), x1.toInt = x0.toInt + 6 → jAll σ τ → jH D cI cL ad σ τ H → va_S (fun q : Nat => s.heap.size ≤ q) s.heap H locs → lv_has ls 4 [(3, .int x1), (2, .ref (ad 55)), (1, .ref (ad 0)), (0, .ref b)] → W p l e room_1 s m #[Value.ref b] below meth c H locs 90 348600 (lw_Z below #[Value.ref b] s) (F0 m 18 ls [])) : W p l e room_1 s m #[Value.ref b] below meth c H locs 90 348600 (lw_Z below #[Value.ref b] s) (F0 m 1056 ls []) := by
  obtain ⟨hx, hb, hr, hml, hown, hts0, hX, hbl, hlocks, hgv⟩ := C0
  have hts : ∀ w ∈ wsL_law, w.before #[Value.ref b] s = true := fun w h => hts0 w (wsL_law_in w h)
  have hbA : ¬ (fun q : Nat => s.heap.size ≤ q) b := Nat.not_le.mpr hbl
  have hown : s.vm.findClass RL = some m.cls := hown
  obtain ⟨hI2, hI9, hI12, hI16, hI18, hI22, hI31, hI38, hI43, hI47, hI50, hI101, hI102, hI103, hI104, hI105, hI106, hI107, hI109, hI110, hI111, hI119, hs_jKept, hs_jBook, ht0⟩ := hAll
  have hL9 : (L : Int) ≤ 384 := by omega
  refine lv_aload_n hx hb dL_law_1056 rfl (lv_at hl 2 rfl) ?_
  refine lv_aload_n hx hb dL_law_1057 rfl (lv_at hl 3 rfl) ?_
  refine lv_iload_n hx hb dL_law_1058 rfl (lv_at hl 0 rfl) ?_
  refine lv_iconst (v := 1) hx hb dL_law_1059 (of_decide_eq_true rfl) ?_
  have g1 := jrg (rfl : x0.toInt = x0.toInt)
  refine lv_iadd hx hb dL_law_1060 ?_
  refine lv_topi (fun x2 ex2 => ?_)
  exact by
   have tx2 : x2.toInt = x0.toInt + 1 := (jadd ex2 rfl jz_1 (by omega) (by omega)).trans (by omega)
   refine va_sld hx hb hX hbl hbA hS (jin tx2 (by omega) (by omega)) dL_law_1061 ?_
   have g3 := jrg (rfl : (xs x2.toNatClampNeg).toInt = (xs x2.toNatClampNeg).toInt)
   refine lv_aload_n hx hb dL_law_1062 rfl (lv_at hl 3 rfl) ?_
   refine lv_iload_n hx hb dL_law_1063 rfl (lv_at hl 0 rfl) ?_
   refine lv_iconst (v := 2) hx hb dL_law_1064 (of_decide_eq_true rfl) ?_
   refine lv_iadd hx hb dL_law_1065 ?_
   refine lv_topi (fun x4 ex4 => ?_)
   have tx4 : x4.toInt = x0.toInt + 2 := (jadd ex4 rfl jz_2 (by omega) (by omega)).trans (by omega)
   exact by
    refine va_sld hx hb hX hbl hbA hS (jin tx4 (by omega) (by omega)) dL_law_1066 ?_
    have g5 := jrg (rfl : (xs x4.toNatClampNeg).toInt = (xs x4.toNatClampNeg).toInt)
    refine jcallV (As := [.int (xs x2.toNatClampNeg), .int (xs x4.toNatClampNeg)]) (rest := []) ⟨hx, hb, hml, hown, hts⟩ hK hP hA hS hZ (c_X11_keep l D cI cL ad zz hJ σ τ (xs x2.toNatClampNeg) ((xs x2.toNatClampNeg).toInt) rfl (xs x4.toNatClampNeg) ((xs x4.toNatClampNeg).toInt) rfl hI38 hI50) cw_RL_137 (jc_0 cI cL ad σ τ) rfl ⟨Nat.le_of_ble_eq_true rfl, Nat.le_of_ble_eq_true rfl⟩ rfl rfl rfl hl.1 rfl (Nat.le_of_ble_eq_true rfl) dL_law_1067 ⟨Nat.le_of_ble_eq_true rfl, Nat.le_of_ble_eq_true rfl⟩ (fun r7 σ6 τ6 H locs h6 hP hS => ?_)
    obtain ⟨rfl, f8, I9, h6⟩ := h6
    rcases h6 with h11 | h12 | h13
    · obtain ⟨q17, k14, k15, k16⟩ := h11
      have q17 := q17.symm
      subst q17
      refine lv_aload_n hx hb dL_law_1070 rfl (lv_at hl 1 rfl) ?_
      refine lv_aload_n hx hb dL_law_1071 rfl (lv_at hl 3 rfl) ?_
      refine lv_iload_n hx hb dL_law_1072 rfl (lv_at hl 0 rfl) ?_
      refine lv_iconst (v := 1) hx hb dL_law_1073 (of_decide_eq_true rfl) ?_
      refine lv_iadd hx hb dL_law_1074 ?_
      refine jtopr ex2.symm ?_
      exact by
       refine va_sld hx hb hX hbl hbA hS (jin tx2 (by omega) (by omega)) dL_law_1075 ?_
       refine lv_aload_n hx hb dL_law_1076 rfl (lv_at hl 3 rfl) ?_
       refine lv_iload_n hx hb dL_law_1077 rfl (lv_at hl 0 rfl) ?_
       refine lv_iconst (v := 2) hx hb dL_law_1078 (of_decide_eq_true rfl) ?_
       refine lv_iadd hx hb dL_law_1079 ?_
       refine jtopr ex4.symm ?_
       refine va_sld hx hb hX hbl hbA hS (jin tx4 (by omega) (by omega)) dL_law_1080 ?_
       have I18 : jI106 σ6 := jI106_fr (congrFun (f8 55 (of_decide_eq_true rfl)) 32) (f8 70 (of_decide_eq_true rfl)) (f8 71 (of_decide_eq_true rfl)) (f8 72 (of_decide_eq_true rfl)) hI106
       have I19 : jI110 σ6 := jI110_fr (f8 86 (of_decide_eq_true rfl)) (f8 87 (of_decide_eq_true rfl)) hI110
       exact by
        have z20 : (σ6 55 32).toInt = (σ 55 32).toInt := (congrArg Int32.toInt (show σ6 55 32 = (σ 55 32) from (congrFun (f8 55 (of_decide_eq_true rfl)) 32)))
        refine jcallV (As := [.int (xs x2.toNatClampNeg), .int (xs x4.toNatClampNeg)]) (rest := [.int 1]) ⟨hx, hb, hml, hown, hts⟩ hK hP hA hS hZ (c_X12_keep l D cI cL ad zz hJ σ6 τ (xs x2.toNatClampNeg) ((xs x2.toNatClampNeg).toInt) rfl (xs x4.toNatClampNeg) ((xs x4.toNatClampNeg).toInt) rfl I18 I19) cw_RL_140 (jc_55 cI cL ad σ6 τ) rfl ⟨Nat.le_of_ble_eq_true rfl, Nat.le_of_ble_eq_true rfl⟩ rfl rfl rfl hl.1 rfl (Nat.le_of_ble_eq_true rfl) dL_law_1081 ⟨Nat.le_of_ble_eq_true rfl, Nat.le_of_ble_eq_true rfl⟩ (fun r22 σ21 τ21 H locs h21 hP hS => ?_)
        obtain ⟨rfl, f23, I24, h21⟩ := h21
        rcases h21 with h26 | h27 | h28
        · obtain ⟨q32, k29, k30, k31⟩ := h26
          have q32 := q32.symm
          subst q32
          refine lv_icmp_eq (tgt := 1357) hx hb dL_law_1084 (of_decide_eq_true rfl) (fun _ => ?_) (fun c => absurd (rfl) c)
          obtain ⟨x33, ex33⟩ : ∃ y : Int32, y = x0 + 6 := ⟨_, rfl⟩
          exact by
           have tx33 : x33.toInt = x0.toInt + 6 := (jadd ex33 rfl jz_6 (by omega) (by omega)).trans (by omega)
           refine lv_iinc (v := x33) (lv' := [(3, .int x33), (2, .ref (ad 55)), (1, .ref (ad 0)), (0, .ref b)]) hx hb dL_law_1357 hl (k := 0) rfl (by rw [ex33]; rfl) (of_decide_eq_true rfl) rfl (fun ls hl => ?_)
           refine lv_goto (tgt := 18) hx hb dL_law_1360 (of_decide_eq_true rfl) ?_
           have I34 : jI2 σ21 := jI2_fr ((congrFun (f23 2 (of_decide_eq_true rfl)) 0).trans (congrFun (f8 2 (of_decide_eq_true rfl)) 0)) ((congrFun (f23 2 (of_decide_eq_true rfl)) 1).trans (congrFun (f8 2 (of_decide_eq_true rfl)) 1)) ((congrFun (f23 2 (of_decide_eq_true rfl)) 2).trans (congrFun (f8 2 (of_decide_eq_true rfl)) 2)) ((congrFun (f23 2 (of_decide_eq_true rfl)) 3).trans (congrFun (f8 2 (of_decide_eq_true rfl)) 3)) ((f23 6 (of_decide_eq_true rfl)).trans (f8 6 (of_decide_eq_true rfl))) hI2
           have I35 : jI9 σ21 := jI9_fr ((congrFun (f23 9 (of_decide_eq_true rfl)) 0).trans (congrFun (f8 9 (of_decide_eq_true rfl)) 0)) ((f23 10 (of_decide_eq_true rfl)).trans (f8 10 (of_decide_eq_true rfl))) ((f23 11 (of_decide_eq_true rfl)).trans (f8 11 (of_decide_eq_true rfl))) hI9
           have I36 : jI12 σ21 := jI12_fr ((congrFun (f23 12 (of_decide_eq_true rfl)) 0).trans (congrFun (f8 12 (of_decide_eq_true rfl)) 0)) ((f23 13 (of_decide_eq_true rfl)).trans (f8 13 (of_decide_eq_true rfl))) hI12
           have I37 : jI16 σ21 := jI16_fr ((congrFun (f23 16 (of_decide_eq_true rfl)) 0).trans (congrFun (f8 16 (of_decide_eq_true rfl)) 0)) ((congrFun (f23 16 (of_decide_eq_true rfl)) 1).trans (congrFun (f8 16 (of_decide_eq_true rfl)) 1)) ((congrFun (f23 16 (of_decide_eq_true rfl)) 2).trans (congrFun (f8 16 (of_decide_eq_true rfl)) 2)) ((f23 17 (of_decide_eq_true rfl)).trans (f8 17 (of_decide_eq_true rfl))) hI16
           have I38 : jI18 σ21 := jI18_fr ((congrFun (f23 18 (of_decide_eq_true rfl)) 0).trans (congrFun (f8 18 (of_decide_eq_true rfl)) 0)) ((f23 19 (of_decide_eq_true rfl)).trans (f8 19 (of_decide_eq_true rfl))) hI18
           have I39 : jI22 σ21 := jI22_fr ((congrFun (f23 22 (of_decide_eq_true rfl)) 0).trans (congrFun (f8 22 (of_decide_eq_true rfl)) 0)) ((f23 23 (of_decide_eq_true rfl)).trans (f8 23 (of_decide_eq_true rfl))) hI22
           exact by
            have I40 : jI31 σ21 := jI31_fr ((congrFun (f23 31 (of_decide_eq_true rfl)) 8).trans (congrFun (f8 31 (of_decide_eq_true rfl)) 8)) ((f23 33 (of_decide_eq_true rfl)).trans (f8 33 (of_decide_eq_true rfl))) ((f23 36 (of_decide_eq_true rfl)).trans (f8 36 (of_decide_eq_true rfl))) hI31
            have I41 : jI38 σ21 := jI38_fr ((congrFun (f23 38 (of_decide_eq_true rfl)) 0).trans (congrFun (f8 38 (of_decide_eq_true rfl)) 0)) ((congrFun (f23 38 (of_decide_eq_true rfl)) 1).trans (congrFun (f8 38 (of_decide_eq_true rfl)) 1)) ((f23 39 (of_decide_eq_true rfl)).trans (f8 39 (of_decide_eq_true rfl))) hI38
            have I42 : jI43 σ21 := jI43_fr ((congrFun (f23 43 (of_decide_eq_true rfl)) 8).trans (congrFun (f8 43 (of_decide_eq_true rfl)) 8)) hI43
            have I43 : jI47 σ21 := jI47_fr ((congrFun (f23 47 (of_decide_eq_true rfl)) 0).trans (congrFun (f8 47 (of_decide_eq_true rfl)) 0)) ((f23 48 (of_decide_eq_true rfl)).trans (f8 48 (of_decide_eq_true rfl))) ((f23 49 (of_decide_eq_true rfl)).trans (f8 49 (of_decide_eq_true rfl))) hI47
            have I44 : jI50 σ21 := jI50_fr (f23 52 (of_decide_eq_true rfl)) I9
            have I45 : jI101 σ21 := jI101_fr ((congrFun (f23 55 (of_decide_eq_true rfl)) 4).trans (congrFun (f8 55 (of_decide_eq_true rfl)) 4)) ((congrFun (f23 55 (of_decide_eq_true rfl)) 5).trans (congrFun (f8 55 (of_decide_eq_true rfl)) 5)) ((f23 56 (of_decide_eq_true rfl)).trans (f8 56 (of_decide_eq_true rfl))) ((f23 57 (of_decide_eq_true rfl)).trans (f8 57 (of_decide_eq_true rfl))) ((f23 58 (of_decide_eq_true rfl)).trans (f8 58 (of_decide_eq_true rfl))) ((f23 59 (of_decide_eq_true rfl)).trans (f8 59 (of_decide_eq_true rfl))) hI101
            have I46 : jI102 σ21 := jI102_fr ((congrFun (f23 55 (of_decide_eq_true rfl)) 6).trans (congrFun (f8 55 (of_decide_eq_true rfl)) 6)) ((f23 60 (of_decide_eq_true rfl)).trans (f8 60 (of_decide_eq_true rfl))) ((f23 61 (of_decide_eq_true rfl)).trans (f8 61 (of_decide_eq_true rfl))) hI102
            have I47 : jI103 σ21 := jI103_fr ((congrFun (f23 55 (of_decide_eq_true rfl)) 9).trans (congrFun (f8 55 (of_decide_eq_true rfl)) 9)) hI103
            have I48 : jI104 σ21 := jI104_fr ((congrFun (f23 55 (of_decide_eq_true rfl)) 10).trans (congrFun (f8 55 (of_decide_eq_true rfl)) 10)) ((congrFun (f23 55 (of_decide_eq_true rfl)) 12).trans (congrFun (f8 55 (of_decide_eq_true rfl)) 12)) ((congrFun (f23 55 (of_decide_eq_true rfl)) 13).trans (congrFun (f8 55 (of_decide_eq_true rfl)) 13)) ((f23 62 (of_decide_eq_true rfl)).trans (f8 62 (of_decide_eq_true rfl))) ((f23 67 (of_decide_eq_true rfl)).trans (f8 67 (of_decide_eq_true rfl))) hI104
            have I49 : jI105 σ21 := jI105_fr ((congrFun (f23 55 (of_decide_eq_true rfl)) 15).trans (congrFun (f8 55 (of_decide_eq_true rfl)) 15)) ((f23 65 (of_decide_eq_true rfl)).trans (f8 65 (of_decide_eq_true rfl))) hI105
            have I50 : jI106 σ21 := jI106_fr (congrFun (f23 55 (of_decide_eq_true rfl)) 32) (f23 70 (of_decide_eq_true rfl)) (f23 71 (of_decide_eq_true rfl)) (f23 72 (of_decide_eq_true rfl)) I18
            have I51 : jI107 σ21 := jI107_fr ((congrFun (f23 55 (of_decide_eq_true rfl)) 12).trans (congrFun (f8 55 (of_decide_eq_true rfl)) 12)) ((congrFun (f23 55 (of_decide_eq_true rfl)) 47).trans (congrFun (f8 55 (of_decide_eq_true rfl)) 47)) ((f23 80 (of_decide_eq_true rfl)).trans (f8 80 (of_decide_eq_true rfl))) hI107
            have I52 : jI109 σ21 := jI109_fr ((congrFun (f23 55 (of_decide_eq_true rfl)) 50).trans (congrFun (f8 55 (of_decide_eq_true rfl)) 50)) hI109
            have I53 : jI111 σ21 := jI111_fr ((f23 79 (of_decide_eq_true rfl)).trans (f8 79 (of_decide_eq_true rfl))) hI111
            have I54 : jI119 σ21 := jI119_fr ((f23 68 (of_decide_eq_true rfl)).trans (f8 68 (of_decide_eq_true rfl))) hI119
            have p55 : jKept σ21 := jKept.fr ((f23 75 (of_decide_eq_true rfl)).trans (f8 75 (of_decide_eq_true rfl))) ((f23 76 (of_decide_eq_true rfl)).trans (f8 76 (of_decide_eq_true rfl))) ((f23 77 (of_decide_eq_true rfl)).trans (f8 77 (of_decide_eq_true rfl))) hs_jKept
            have p56 : jBook σ21 := jBook.fr ((congrFun (f23 55 (of_decide_eq_true rfl)) 47).trans (congrFun (f8 55 (of_decide_eq_true rfl)) 47)) ((congrFun (f23 55 (of_decide_eq_true rfl)) 10).trans (congrFun (f8 55 (of_decide_eq_true rfl)) 10)) ((f23 81 (of_decide_eq_true rfl)).trans (f8 81 (of_decide_eq_true rfl))) hs_jBook
            have z57 : (σ21 38 0).toInt = (σ 38 0).toInt := (congrArg Int32.toInt (show σ21 38 0 = (σ 38 0) from ((congrFun (f23 38 (of_decide_eq_true rfl)) 0).trans (congrFun (f8 38 (of_decide_eq_true rfl)) 0))))
            have z58 : (σ21 55 32).toInt = (σ 55 32).toInt := (congrArg Int32.toInt (show σ21 55 32 = (σ 55 32) from ((congrFun (f23 55 (of_decide_eq_true rfl)) 32).trans (congrFun (f8 55 (of_decide_eq_true rfl)) 32))))
            exact by exact ih x33 σ21 τ _ _ ls (by have h9 := tx33; omega) ⟨I34, I35, I36, I37, I38, I39, I40, I41, I42, I43, I44, I45, I46, I47, I48, I49, I50, I51, I52, I24, I53, I54, p55, p56, (by omega)⟩ hP hS (lv_sub hl [0, 1, 2, 3] rfl)
        · obtain ⟨q62, k59, k60, k61⟩ := h27
          exact absurd (by omega : False) id
        · obtain ⟨q65, k63, k64⟩ := h28
          exact absurd (by omega : False) id
    · obtain ⟨q69, k66, k67, k68⟩ := h12
      have q69 := q69.symm
      subst q69
      refine lv_aload_n hx hb dL_law_1070 rfl (lv_at hl 1 rfl) ?_
      refine lv_aload_n hx hb dL_law_1071 rfl (lv_at hl 3 rfl) ?_
      refine lv_iload_n hx hb dL_law_1072 rfl (lv_at hl 0 rfl) ?_
      refine lv_iconst (v := 1) hx hb dL_law_1073 (of_decide_eq_true rfl) ?_
      refine lv_iadd hx hb dL_law_1074 ?_
      refine jtopr ex2.symm ?_
      exact by
       refine va_sld hx hb hX hbl hbA hS (jin tx2 (by omega) (by omega)) dL_law_1075 ?_
       refine lv_aload_n hx hb dL_law_1076 rfl (lv_at hl 3 rfl) ?_
       refine lv_iload_n hx hb dL_law_1077 rfl (lv_at hl 0 rfl) ?_
       refine lv_iconst (v := 2) hx hb dL_law_1078 (of_decide_eq_true rfl) ?_
       refine lv_iadd hx hb dL_law_1079 ?_
       refine jtopr ex4.symm ?_
       refine va_sld hx hb hX hbl hbA hS (jin tx4 (by omega) (by omega)) dL_law_1080 ?_
       have I70 : jI106 σ6 := jI106_fr (congrFun (f8 55 (of_decide_eq_true rfl)) 32) (f8 70 (of_decide_eq_true rfl)) (f8 71 (of_decide_eq_true rfl)) (f8 72 (of_decide_eq_true rfl)) hI106
       have I71 : jI110 σ6 := jI110_fr (f8 86 (of_decide_eq_true rfl)) (f8 87 (of_decide_eq_true rfl)) hI110
       exact by
        have z72 : (σ6 55 32).toInt = (σ 55 32).toInt := (congrArg Int32.toInt (show σ6 55 32 = (σ 55 32) from (congrFun (f8 55 (of_decide_eq_true rfl)) 32)))
        refine jcallV (As := [.int (xs x2.toNatClampNeg), .int (xs x4.toNatClampNeg)]) (rest := [.int 1]) ⟨hx, hb, hml, hown, hts⟩ hK hP hA hS hZ (c_X12_keep l D cI cL ad zz hJ σ6 τ (xs x2.toNatClampNeg) ((xs x2.toNatClampNeg).toInt) rfl (xs x4.toNatClampNeg) ((xs x4.toNatClampNeg).toInt) rfl I70 I71) cw_RL_140 (jc_55 cI cL ad σ6 τ) rfl ⟨Nat.le_of_ble_eq_true rfl, Nat.le_of_ble_eq_true rfl⟩ rfl rfl rfl hl.1 rfl (Nat.le_of_ble_eq_true rfl) dL_law_1081 ⟨Nat.le_of_ble_eq_true rfl, Nat.le_of_ble_eq_true rfl⟩ (fun r74 σ73 τ73 H locs h73 hP hS => ?_)
        obtain ⟨rfl, f75, I76, h73⟩ := h73
        rcases h73 with h78 | h79 | h80
        · obtain ⟨q84, k81, k82, k83⟩ := h78
          exact absurd (by omega : False) id
        · obtain ⟨q88, k85, k86, k87⟩ := h79
          have q88 := q88.symm
          subst q88
          refine lv_icmp_eq (tgt := 1357) hx hb dL_law_1084 (of_decide_eq_true rfl) (fun _ => ?_) (fun c => absurd (rfl) c)
          obtain ⟨x89, ex89⟩ : ∃ y : Int32, y = x0 + 6 := ⟨_, rfl⟩
          exact by
           have tx89 : x89.toInt = x0.toInt + 6 := (jadd ex89 rfl jz_6 (by omega) (by omega)).trans (by omega)
           refine lv_iinc (v := x89) (lv' := [(3, .int x89), (2, .ref (ad 55)), (1, .ref (ad 0)), (0, .ref b)]) hx hb dL_law_1357 hl (k := 0) rfl (by rw [ex89]; rfl) (of_decide_eq_true rfl) rfl (fun ls hl => ?_)
           refine lv_goto (tgt := 18) hx hb dL_law_1360 (of_decide_eq_true rfl) ?_
           have I90 : jI2 σ73 := jI2_fr ((congrFun (f75 2 (of_decide_eq_true rfl)) 0).trans (congrFun (f8 2 (of_decide_eq_true rfl)) 0)) ((congrFun (f75 2 (of_decide_eq_true rfl)) 1).trans (congrFun (f8 2 (of_decide_eq_true rfl)) 1)) ((congrFun (f75 2 (of_decide_eq_true rfl)) 2).trans (congrFun (f8 2 (of_decide_eq_true rfl)) 2)) ((congrFun (f75 2 (of_decide_eq_true rfl)) 3).trans (congrFun (f8 2 (of_decide_eq_true rfl)) 3)) ((f75 6 (of_decide_eq_true rfl)).trans (f8 6 (of_decide_eq_true rfl))) hI2
           have I91 : jI9 σ73 := jI9_fr ((congrFun (f75 9 (of_decide_eq_true rfl)) 0).trans (congrFun (f8 9 (of_decide_eq_true rfl)) 0)) ((f75 10 (of_decide_eq_true rfl)).trans (f8 10 (of_decide_eq_true rfl))) ((f75 11 (of_decide_eq_true rfl)).trans (f8 11 (of_decide_eq_true rfl))) hI9
           have I92 : jI12 σ73 := jI12_fr ((congrFun (f75 12 (of_decide_eq_true rfl)) 0).trans (congrFun (f8 12 (of_decide_eq_true rfl)) 0)) ((f75 13 (of_decide_eq_true rfl)).trans (f8 13 (of_decide_eq_true rfl))) hI12
           have I93 : jI16 σ73 := jI16_fr ((congrFun (f75 16 (of_decide_eq_true rfl)) 0).trans (congrFun (f8 16 (of_decide_eq_true rfl)) 0)) ((congrFun (f75 16 (of_decide_eq_true rfl)) 1).trans (congrFun (f8 16 (of_decide_eq_true rfl)) 1)) ((congrFun (f75 16 (of_decide_eq_true rfl)) 2).trans (congrFun (f8 16 (of_decide_eq_true rfl)) 2)) ((f75 17 (of_decide_eq_true rfl)).trans (f8 17 (of_decide_eq_true rfl))) hI16
           have I94 : jI18 σ73 := jI18_fr ((congrFun (f75 18 (of_decide_eq_true rfl)) 0).trans (congrFun (f8 18 (of_decide_eq_true rfl)) 0)) ((f75 19 (of_decide_eq_true rfl)).trans (f8 19 (of_decide_eq_true rfl))) hI18
           have I95 : jI22 σ73 := jI22_fr ((congrFun (f75 22 (of_decide_eq_true rfl)) 0).trans (congrFun (f8 22 (of_decide_eq_true rfl)) 0)) ((f75 23 (of_decide_eq_true rfl)).trans (f8 23 (of_decide_eq_true rfl))) hI22
           exact by
            have I96 : jI31 σ73 := jI31_fr ((congrFun (f75 31 (of_decide_eq_true rfl)) 8).trans (congrFun (f8 31 (of_decide_eq_true rfl)) 8)) ((f75 33 (of_decide_eq_true rfl)).trans (f8 33 (of_decide_eq_true rfl))) ((f75 36 (of_decide_eq_true rfl)).trans (f8 36 (of_decide_eq_true rfl))) hI31
            have I97 : jI38 σ73 := jI38_fr ((congrFun (f75 38 (of_decide_eq_true rfl)) 0).trans (congrFun (f8 38 (of_decide_eq_true rfl)) 0)) ((congrFun (f75 38 (of_decide_eq_true rfl)) 1).trans (congrFun (f8 38 (of_decide_eq_true rfl)) 1)) ((f75 39 (of_decide_eq_true rfl)).trans (f8 39 (of_decide_eq_true rfl))) hI38
            have I98 : jI43 σ73 := jI43_fr ((congrFun (f75 43 (of_decide_eq_true rfl)) 8).trans (congrFun (f8 43 (of_decide_eq_true rfl)) 8)) hI43
            have I99 : jI47 σ73 := jI47_fr ((congrFun (f75 47 (of_decide_eq_true rfl)) 0).trans (congrFun (f8 47 (of_decide_eq_true rfl)) 0)) ((f75 48 (of_decide_eq_true rfl)).trans (f8 48 (of_decide_eq_true rfl))) ((f75 49 (of_decide_eq_true rfl)).trans (f8 49 (of_decide_eq_true rfl))) hI47
            have I100 : jI50 σ73 := jI50_fr (f75 52 (of_decide_eq_true rfl)) I9
            have I101 : jI101 σ73 := jI101_fr ((congrFun (f75 55 (of_decide_eq_true rfl)) 4).trans (congrFun (f8 55 (of_decide_eq_true rfl)) 4)) ((congrFun (f75 55 (of_decide_eq_true rfl)) 5).trans (congrFun (f8 55 (of_decide_eq_true rfl)) 5)) ((f75 56 (of_decide_eq_true rfl)).trans (f8 56 (of_decide_eq_true rfl))) ((f75 57 (of_decide_eq_true rfl)).trans (f8 57 (of_decide_eq_true rfl))) ((f75 58 (of_decide_eq_true rfl)).trans (f8 58 (of_decide_eq_true rfl))) ((f75 59 (of_decide_eq_true rfl)).trans (f8 59 (of_decide_eq_true rfl))) hI101
            have I102 : jI102 σ73 := jI102_fr ((congrFun (f75 55 (of_decide_eq_true rfl)) 6).trans (congrFun (f8 55 (of_decide_eq_true rfl)) 6)) ((f75 60 (of_decide_eq_true rfl)).trans (f8 60 (of_decide_eq_true rfl))) ((f75 61 (of_decide_eq_true rfl)).trans (f8 61 (of_decide_eq_true rfl))) hI102
            have I103 : jI103 σ73 := jI103_fr ((congrFun (f75 55 (of_decide_eq_true rfl)) 9).trans (congrFun (f8 55 (of_decide_eq_true rfl)) 9)) hI103
            have I104 : jI104 σ73 := jI104_fr ((congrFun (f75 55 (of_decide_eq_true rfl)) 10).trans (congrFun (f8 55 (of_decide_eq_true rfl)) 10)) ((congrFun (f75 55 (of_decide_eq_true rfl)) 12).trans (congrFun (f8 55 (of_decide_eq_true rfl)) 12)) ((congrFun (f75 55 (of_decide_eq_true rfl)) 13).trans (congrFun (f8 55 (of_decide_eq_true rfl)) 13)) ((f75 62 (of_decide_eq_true rfl)).trans (f8 62 (of_decide_eq_true rfl))) ((f75 67 (of_decide_eq_true rfl)).trans (f8 67 (of_decide_eq_true rfl))) hI104
            have I105 : jI105 σ73 := jI105_fr ((congrFun (f75 55 (of_decide_eq_true rfl)) 15).trans (congrFun (f8 55 (of_decide_eq_true rfl)) 15)) ((f75 65 (of_decide_eq_true rfl)).trans (f8 65 (of_decide_eq_true rfl))) hI105
            have I106 : jI106 σ73 := jI106_fr (congrFun (f75 55 (of_decide_eq_true rfl)) 32) (f75 70 (of_decide_eq_true rfl)) (f75 71 (of_decide_eq_true rfl)) (f75 72 (of_decide_eq_true rfl)) I70
            have I107 : jI107 σ73 := jI107_fr ((congrFun (f75 55 (of_decide_eq_true rfl)) 12).trans (congrFun (f8 55 (of_decide_eq_true rfl)) 12)) ((congrFun (f75 55 (of_decide_eq_true rfl)) 47).trans (congrFun (f8 55 (of_decide_eq_true rfl)) 47)) ((f75 80 (of_decide_eq_true rfl)).trans (f8 80 (of_decide_eq_true rfl))) hI107
            have I108 : jI109 σ73 := jI109_fr ((congrFun (f75 55 (of_decide_eq_true rfl)) 50).trans (congrFun (f8 55 (of_decide_eq_true rfl)) 50)) hI109
            have I109 : jI111 σ73 := jI111_fr ((f75 79 (of_decide_eq_true rfl)).trans (f8 79 (of_decide_eq_true rfl))) hI111
            have I110 : jI119 σ73 := jI119_fr ((f75 68 (of_decide_eq_true rfl)).trans (f8 68 (of_decide_eq_true rfl))) hI119
            have p111 : jKept σ73 := jKept.fr ((f75 75 (of_decide_eq_true rfl)).trans (f8 75 (of_decide_eq_true rfl))) ((f75 76 (of_decide_eq_true rfl)).trans (f8 76 (of_decide_eq_true rfl))) ((f75 77 (of_decide_eq_true rfl)).trans (f8 77 (of_decide_eq_true rfl))) hs_jKept
            have p112 : jBook σ73 := jBook.fr ((congrFun (f75 55 (of_decide_eq_true rfl)) 47).trans (congrFun (f8 55 (of_decide_eq_true rfl)) 47)) ((congrFun (f75 55 (of_decide_eq_true rfl)) 10).trans (congrFun (f8 55 (of_decide_eq_true rfl)) 10)) ((f75 81 (of_decide_eq_true rfl)).trans (f8 81 (of_decide_eq_true rfl))) hs_jBook
            have z113 : (σ73 38 0).toInt = (σ 38 0).toInt := (congrArg Int32.toInt (show σ73 38 0 = (σ 38 0) from ((congrFun (f75 38 (of_decide_eq_true rfl)) 0).trans (congrFun (f8 38 (of_decide_eq_true rfl)) 0))))
            have z114 : (σ73 55 32).toInt = (σ 55 32).toInt := (congrArg Int32.toInt (show σ73 55 32 = (σ 55 32) from ((congrFun (f75 55 (of_decide_eq_true rfl)) 32).trans (congrFun (f8 55 (of_decide_eq_true rfl)) 32))))
            exact by exact ih x89 σ73 τ _ _ ls (by have h9 := tx89; omega) ⟨I90, I91, I92, I93, I94, I95, I96, I97, I98, I99, I100, I101, I102, I103, I104, I105, I106, I107, I108, I76, I109, I110, p111, p112, (by omega)⟩ hP hS (lv_sub hl [0, 1, 2, 3] rfl)
        · obtain ⟨q117, k115, k116⟩ := h80
          have q117 := q117.symm
          subst q117
          exact by
           refine lv_icmp_eq (tgt := 1357) hx hb dL_law_1084 (of_decide_eq_true rfl) (fun _ => ?_) (fun c => absurd (jsame jz_1 jz_m1 (by omega)) c)
           obtain ⟨x118, ex118⟩ : ∃ y : Int32, y = x0 + 6 := ⟨_, rfl⟩
           have tx118 : x118.toInt = x0.toInt + 6 := (jadd ex118 rfl jz_6 (by omega) (by omega)).trans (by omega)
           refine lv_iinc (v := x118) (lv' := [(3, .int x118), (2, .ref (ad 55)), (1, .ref (ad 0)), (0, .ref b)]) hx hb dL_law_1357 hl (k := 0) rfl (by rw [ex118]; rfl) (of_decide_eq_true rfl) rfl (fun ls hl => ?_)
           refine lv_goto (tgt := 18) hx hb dL_law_1360 (of_decide_eq_true rfl) ?_
           have I119 : jI2 σ73 := jI2_fr ((congrFun (f75 2 (of_decide_eq_true rfl)) 0).trans (congrFun (f8 2 (of_decide_eq_true rfl)) 0)) ((congrFun (f75 2 (of_decide_eq_true rfl)) 1).trans (congrFun (f8 2 (of_decide_eq_true rfl)) 1)) ((congrFun (f75 2 (of_decide_eq_true rfl)) 2).trans (congrFun (f8 2 (of_decide_eq_true rfl)) 2)) ((congrFun (f75 2 (of_decide_eq_true rfl)) 3).trans (congrFun (f8 2 (of_decide_eq_true rfl)) 3)) ((f75 6 (of_decide_eq_true rfl)).trans (f8 6 (of_decide_eq_true rfl))) hI2
           have I120 : jI9 σ73 := jI9_fr ((congrFun (f75 9 (of_decide_eq_true rfl)) 0).trans (congrFun (f8 9 (of_decide_eq_true rfl)) 0)) ((f75 10 (of_decide_eq_true rfl)).trans (f8 10 (of_decide_eq_true rfl))) ((f75 11 (of_decide_eq_true rfl)).trans (f8 11 (of_decide_eq_true rfl))) hI9
           have I121 : jI12 σ73 := jI12_fr ((congrFun (f75 12 (of_decide_eq_true rfl)) 0).trans (congrFun (f8 12 (of_decide_eq_true rfl)) 0)) ((f75 13 (of_decide_eq_true rfl)).trans (f8 13 (of_decide_eq_true rfl))) hI12
           have I122 : jI16 σ73 := jI16_fr ((congrFun (f75 16 (of_decide_eq_true rfl)) 0).trans (congrFun (f8 16 (of_decide_eq_true rfl)) 0)) ((congrFun (f75 16 (of_decide_eq_true rfl)) 1).trans (congrFun (f8 16 (of_decide_eq_true rfl)) 1)) ((congrFun (f75 16 (of_decide_eq_true rfl)) 2).trans (congrFun (f8 16 (of_decide_eq_true rfl)) 2)) ((f75 17 (of_decide_eq_true rfl)).trans (f8 17 (of_decide_eq_true rfl))) hI16
           exact by
            have I123 : jI18 σ73 := jI18_fr ((congrFun (f75 18 (of_decide_eq_true rfl)) 0).trans (congrFun (f8 18 (of_decide_eq_true rfl)) 0)) ((f75 19 (of_decide_eq_true rfl)).trans (f8 19 (of_decide_eq_true rfl))) hI18
            have I124 : jI22 σ73 := jI22_fr ((congrFun (f75 22 (of_decide_eq_true rfl)) 0).trans (congrFun (f8 22 (of_decide_eq_true rfl)) 0)) ((f75 23 (of_decide_eq_true rfl)).trans (f8 23 (of_decide_eq_true rfl))) hI22
            have I125 : jI31 σ73 := jI31_fr ((congrFun (f75 31 (of_decide_eq_true rfl)) 8).trans (congrFun (f8 31 (of_decide_eq_true rfl)) 8)) ((f75 33 (of_decide_eq_true rfl)).trans (f8 33 (of_decide_eq_true rfl))) ((f75 36 (of_decide_eq_true rfl)).trans (f8 36 (of_decide_eq_true rfl))) hI31
            have I126 : jI38 σ73 := jI38_fr ((congrFun (f75 38 (of_decide_eq_true rfl)) 0).trans (congrFun (f8 38 (of_decide_eq_true rfl)) 0)) ((congrFun (f75 38 (of_decide_eq_true rfl)) 1).trans (congrFun (f8 38 (of_decide_eq_true rfl)) 1)) ((f75 39 (of_decide_eq_true rfl)).trans (f8 39 (of_decide_eq_true rfl))) hI38
            have I127 : jI43 σ73 := jI43_fr ((congrFun (f75 43 (of_decide_eq_true rfl)) 8).trans (congrFun (f8 43 (of_decide_eq_true rfl)) 8)) hI43
            have I128 : jI47 σ73 := jI47_fr ((congrFun (f75 47 (of_decide_eq_true rfl)) 0).trans (congrFun (f8 47 (of_decide_eq_true rfl)) 0)) ((f75 48 (of_decide_eq_true rfl)).trans (f8 48 (of_decide_eq_true rfl))) ((f75 49 (of_decide_eq_true rfl)).trans (f8 49 (of_decide_eq_true rfl))) hI47
            have I129 : jI50 σ73 := jI50_fr (f75 52 (of_decide_eq_true rfl)) I9
            have I130 : jI101 σ73 := jI101_fr ((congrFun (f75 55 (of_decide_eq_true rfl)) 4).trans (congrFun (f8 55 (of_decide_eq_true rfl)) 4)) ((congrFun (f75 55 (of_decide_eq_true rfl)) 5).trans (congrFun (f8 55 (of_decide_eq_true rfl)) 5)) ((f75 56 (of_decide_eq_true rfl)).trans (f8 56 (of_decide_eq_true rfl))) ((f75 57 (of_decide_eq_true rfl)).trans (f8 57 (of_decide_eq_true rfl))) ((f75 58 (of_decide_eq_true rfl)).trans (f8 58 (of_decide_eq_true rfl))) ((f75 59 (of_decide_eq_true rfl)).trans (f8 59 (of_decide_eq_true rfl))) hI101
            have I131 : jI102 σ73 := jI102_fr ((congrFun (f75 55 (of_decide_eq_true rfl)) 6).trans (congrFun (f8 55 (of_decide_eq_true rfl)) 6)) ((f75 60 (of_decide_eq_true rfl)).trans (f8 60 (of_decide_eq_true rfl))) ((f75 61 (of_decide_eq_true rfl)).trans (f8 61 (of_decide_eq_true rfl))) hI102
            have I132 : jI103 σ73 := jI103_fr ((congrFun (f75 55 (of_decide_eq_true rfl)) 9).trans (congrFun (f8 55 (of_decide_eq_true rfl)) 9)) hI103
            have I133 : jI104 σ73 := jI104_fr ((congrFun (f75 55 (of_decide_eq_true rfl)) 10).trans (congrFun (f8 55 (of_decide_eq_true rfl)) 10)) ((congrFun (f75 55 (of_decide_eq_true rfl)) 12).trans (congrFun (f8 55 (of_decide_eq_true rfl)) 12)) ((congrFun (f75 55 (of_decide_eq_true rfl)) 13).trans (congrFun (f8 55 (of_decide_eq_true rfl)) 13)) ((f75 62 (of_decide_eq_true rfl)).trans (f8 62 (of_decide_eq_true rfl))) ((f75 67 (of_decide_eq_true rfl)).trans (f8 67 (of_decide_eq_true rfl))) hI104
            have I134 : jI105 σ73 := jI105_fr ((congrFun (f75 55 (of_decide_eq_true rfl)) 15).trans (congrFun (f8 55 (of_decide_eq_true rfl)) 15)) ((f75 65 (of_decide_eq_true rfl)).trans (f8 65 (of_decide_eq_true rfl))) hI105
            have I135 : jI106 σ73 := jI106_fr (congrFun (f75 55 (of_decide_eq_true rfl)) 32) (f75 70 (of_decide_eq_true rfl)) (f75 71 (of_decide_eq_true rfl)) (f75 72 (of_decide_eq_true rfl)) I70
            have I136 : jI107 σ73 := jI107_fr ((congrFun (f75 55 (of_decide_eq_true rfl)) 12).trans (congrFun (f8 55 (of_decide_eq_true rfl)) 12)) ((congrFun (f75 55 (of_decide_eq_true rfl)) 47).trans (congrFun (f8 55 (of_decide_eq_true rfl)) 47)) ((f75 80 (of_decide_eq_true rfl)).trans (f8 80 (of_decide_eq_true rfl))) hI107
            have I137 : jI109 σ73 := jI109_fr ((congrFun (f75 55 (of_decide_eq_true rfl)) 50).trans (congrFun (f8 55 (of_decide_eq_true rfl)) 50)) hI109
            have I138 : jI111 σ73 := jI111_fr ((f75 79 (of_decide_eq_true rfl)).trans (f8 79 (of_decide_eq_true rfl))) hI111
            have I139 : jI119 σ73 := jI119_fr ((f75 68 (of_decide_eq_true rfl)).trans (f8 68 (of_decide_eq_true rfl))) hI119
            have p140 : jKept σ73 := jKept.fr ((f75 75 (of_decide_eq_true rfl)).trans (f8 75 (of_decide_eq_true rfl))) ((f75 76 (of_decide_eq_true rfl)).trans (f8 76 (of_decide_eq_true rfl))) ((f75 77 (of_decide_eq_true rfl)).trans (f8 77 (of_decide_eq_true rfl))) hs_jKept
            have p141 : jBook σ73 := jBook.fr ((congrFun (f75 55 (of_decide_eq_true rfl)) 47).trans (congrFun (f8 55 (of_decide_eq_true rfl)) 47)) ((congrFun (f75 55 (of_decide_eq_true rfl)) 10).trans (congrFun (f8 55 (of_decide_eq_true rfl)) 10)) ((f75 81 (of_decide_eq_true rfl)).trans (f8 81 (of_decide_eq_true rfl))) hs_jBook
            have z142 : (σ73 38 0).toInt = (σ 38 0).toInt := (congrArg Int32.toInt (show σ73 38 0 = (σ 38 0) from ((congrFun (f75 38 (of_decide_eq_true rfl)) 0).trans (congrFun (f8 38 (of_decide_eq_true rfl)) 0))))
            have z143 : (σ73 55 32).toInt = (σ 55 32).toInt := (congrArg Int32.toInt (show σ73 55 32 = (σ 55 32) from ((congrFun (f75 55 (of_decide_eq_true rfl)) 32).trans (congrFun (f8 55 (of_decide_eq_true rfl)) 32))))
            exact by exact ih x118 σ73 τ _ _ ls (by have h9 := tx118; omega) ⟨I119, I120, I121, I122, I123, I124, I125, I126, I127, I128, I129, I130, I131, I132, I133, I134, I135, I136, I137, I76, I138, I139, p140, p141, (by omega)⟩ hP hS (lv_sub hl [0, 1, 2, 3] rfl)
    · obtain ⟨q146, k144, k145⟩ := h13
      have q146 := q146.symm
      subst q146
      refine lv_aload_n hx hb dL_law_1070 rfl (lv_at hl 1 rfl) ?_
      refine lv_aload_n hx hb dL_law_1071 rfl (lv_at hl 3 rfl) ?_
      refine lv_iload_n hx hb dL_law_1072 rfl (lv_at hl 0 rfl) ?_
      refine lv_iconst (v := 1) hx hb dL_law_1073 (of_decide_eq_true rfl) ?_
      refine lv_iadd hx hb dL_law_1074 ?_
      refine jtopr ex2.symm ?_
      exact by
       refine va_sld hx hb hX hbl hbA hS (jin tx2 (by omega) (by omega)) dL_law_1075 ?_
       refine lv_aload_n hx hb dL_law_1076 rfl (lv_at hl 3 rfl) ?_
       refine lv_iload_n hx hb dL_law_1077 rfl (lv_at hl 0 rfl) ?_
       refine lv_iconst (v := 2) hx hb dL_law_1078 (of_decide_eq_true rfl) ?_
       refine lv_iadd hx hb dL_law_1079 ?_
       refine jtopr ex4.symm ?_
       refine va_sld hx hb hX hbl hbA hS (jin tx4 (by omega) (by omega)) dL_law_1080 ?_
       have I147 : jI106 σ6 := jI106_fr (congrFun (f8 55 (of_decide_eq_true rfl)) 32) (f8 70 (of_decide_eq_true rfl)) (f8 71 (of_decide_eq_true rfl)) (f8 72 (of_decide_eq_true rfl)) hI106
       have I148 : jI110 σ6 := jI110_fr (f8 86 (of_decide_eq_true rfl)) (f8 87 (of_decide_eq_true rfl)) hI110
       exact by
        have z149 : (σ6 55 32).toInt = (σ 55 32).toInt := (congrArg Int32.toInt (show σ6 55 32 = (σ 55 32) from (congrFun (f8 55 (of_decide_eq_true rfl)) 32)))
        refine jcallV (As := [.int (xs x2.toNatClampNeg), .int (xs x4.toNatClampNeg)]) (rest := [.int (-1)]) ⟨hx, hb, hml, hown, hts⟩ hK hP hA hS hZ (c_X12_keep l D cI cL ad zz hJ σ6 τ (xs x2.toNatClampNeg) ((xs x2.toNatClampNeg).toInt) rfl (xs x4.toNatClampNeg) ((xs x4.toNatClampNeg).toInt) rfl I147 I148) cw_RL_140 (jc_55 cI cL ad σ6 τ) rfl ⟨Nat.le_of_ble_eq_true rfl, Nat.le_of_ble_eq_true rfl⟩ rfl rfl rfl hl.1 rfl (Nat.le_of_ble_eq_true rfl) dL_law_1081 ⟨Nat.le_of_ble_eq_true rfl, Nat.le_of_ble_eq_true rfl⟩ (fun r151 σ150 τ150 H locs h150 hP hS => ?_)
        obtain ⟨rfl, f152, I153, h150⟩ := h150
        rcases h150 with h155 | h156 | h157
        · obtain ⟨q161, k158, k159, k160⟩ := h155
          exact absurd (by omega : False) id
        · obtain ⟨q165, k162, k163, k164⟩ := h156
          have q165 := q165.symm
          subst q165
          exact by
           refine lv_icmp_eq (tgt := 1357) hx hb dL_law_1084 (of_decide_eq_true rfl) (fun _ => ?_) (fun c => absurd (jsame jz_m1 jz_1 (by omega)) c)
           obtain ⟨x166, ex166⟩ : ∃ y : Int32, y = x0 + 6 := ⟨_, rfl⟩
           have tx166 : x166.toInt = x0.toInt + 6 := (jadd ex166 rfl jz_6 (by omega) (by omega)).trans (by omega)
           refine lv_iinc (v := x166) (lv' := [(3, .int x166), (2, .ref (ad 55)), (1, .ref (ad 0)), (0, .ref b)]) hx hb dL_law_1357 hl (k := 0) rfl (by rw [ex166]; rfl) (of_decide_eq_true rfl) rfl (fun ls hl => ?_)
           refine lv_goto (tgt := 18) hx hb dL_law_1360 (of_decide_eq_true rfl) ?_
           have I167 : jI2 σ150 := jI2_fr ((congrFun (f152 2 (of_decide_eq_true rfl)) 0).trans (congrFun (f8 2 (of_decide_eq_true rfl)) 0)) ((congrFun (f152 2 (of_decide_eq_true rfl)) 1).trans (congrFun (f8 2 (of_decide_eq_true rfl)) 1)) ((congrFun (f152 2 (of_decide_eq_true rfl)) 2).trans (congrFun (f8 2 (of_decide_eq_true rfl)) 2)) ((congrFun (f152 2 (of_decide_eq_true rfl)) 3).trans (congrFun (f8 2 (of_decide_eq_true rfl)) 3)) ((f152 6 (of_decide_eq_true rfl)).trans (f8 6 (of_decide_eq_true rfl))) hI2
           have I168 : jI9 σ150 := jI9_fr ((congrFun (f152 9 (of_decide_eq_true rfl)) 0).trans (congrFun (f8 9 (of_decide_eq_true rfl)) 0)) ((f152 10 (of_decide_eq_true rfl)).trans (f8 10 (of_decide_eq_true rfl))) ((f152 11 (of_decide_eq_true rfl)).trans (f8 11 (of_decide_eq_true rfl))) hI9
           have I169 : jI12 σ150 := jI12_fr ((congrFun (f152 12 (of_decide_eq_true rfl)) 0).trans (congrFun (f8 12 (of_decide_eq_true rfl)) 0)) ((f152 13 (of_decide_eq_true rfl)).trans (f8 13 (of_decide_eq_true rfl))) hI12
           have I170 : jI16 σ150 := jI16_fr ((congrFun (f152 16 (of_decide_eq_true rfl)) 0).trans (congrFun (f8 16 (of_decide_eq_true rfl)) 0)) ((congrFun (f152 16 (of_decide_eq_true rfl)) 1).trans (congrFun (f8 16 (of_decide_eq_true rfl)) 1)) ((congrFun (f152 16 (of_decide_eq_true rfl)) 2).trans (congrFun (f8 16 (of_decide_eq_true rfl)) 2)) ((f152 17 (of_decide_eq_true rfl)).trans (f8 17 (of_decide_eq_true rfl))) hI16
           exact by
            have I171 : jI18 σ150 := jI18_fr ((congrFun (f152 18 (of_decide_eq_true rfl)) 0).trans (congrFun (f8 18 (of_decide_eq_true rfl)) 0)) ((f152 19 (of_decide_eq_true rfl)).trans (f8 19 (of_decide_eq_true rfl))) hI18
            have I172 : jI22 σ150 := jI22_fr ((congrFun (f152 22 (of_decide_eq_true rfl)) 0).trans (congrFun (f8 22 (of_decide_eq_true rfl)) 0)) ((f152 23 (of_decide_eq_true rfl)).trans (f8 23 (of_decide_eq_true rfl))) hI22
            have I173 : jI31 σ150 := jI31_fr ((congrFun (f152 31 (of_decide_eq_true rfl)) 8).trans (congrFun (f8 31 (of_decide_eq_true rfl)) 8)) ((f152 33 (of_decide_eq_true rfl)).trans (f8 33 (of_decide_eq_true rfl))) ((f152 36 (of_decide_eq_true rfl)).trans (f8 36 (of_decide_eq_true rfl))) hI31
            have I174 : jI38 σ150 := jI38_fr ((congrFun (f152 38 (of_decide_eq_true rfl)) 0).trans (congrFun (f8 38 (of_decide_eq_true rfl)) 0)) ((congrFun (f152 38 (of_decide_eq_true rfl)) 1).trans (congrFun (f8 38 (of_decide_eq_true rfl)) 1)) ((f152 39 (of_decide_eq_true rfl)).trans (f8 39 (of_decide_eq_true rfl))) hI38
            have I175 : jI43 σ150 := jI43_fr ((congrFun (f152 43 (of_decide_eq_true rfl)) 8).trans (congrFun (f8 43 (of_decide_eq_true rfl)) 8)) hI43
            have I176 : jI47 σ150 := jI47_fr ((congrFun (f152 47 (of_decide_eq_true rfl)) 0).trans (congrFun (f8 47 (of_decide_eq_true rfl)) 0)) ((f152 48 (of_decide_eq_true rfl)).trans (f8 48 (of_decide_eq_true rfl))) ((f152 49 (of_decide_eq_true rfl)).trans (f8 49 (of_decide_eq_true rfl))) hI47
            have I177 : jI50 σ150 := jI50_fr (f152 52 (of_decide_eq_true rfl)) I9
            have I178 : jI101 σ150 := jI101_fr ((congrFun (f152 55 (of_decide_eq_true rfl)) 4).trans (congrFun (f8 55 (of_decide_eq_true rfl)) 4)) ((congrFun (f152 55 (of_decide_eq_true rfl)) 5).trans (congrFun (f8 55 (of_decide_eq_true rfl)) 5)) ((f152 56 (of_decide_eq_true rfl)).trans (f8 56 (of_decide_eq_true rfl))) ((f152 57 (of_decide_eq_true rfl)).trans (f8 57 (of_decide_eq_true rfl))) ((f152 58 (of_decide_eq_true rfl)).trans (f8 58 (of_decide_eq_true rfl))) ((f152 59 (of_decide_eq_true rfl)).trans (f8 59 (of_decide_eq_true rfl))) hI101
            have I179 : jI102 σ150 := jI102_fr ((congrFun (f152 55 (of_decide_eq_true rfl)) 6).trans (congrFun (f8 55 (of_decide_eq_true rfl)) 6)) ((f152 60 (of_decide_eq_true rfl)).trans (f8 60 (of_decide_eq_true rfl))) ((f152 61 (of_decide_eq_true rfl)).trans (f8 61 (of_decide_eq_true rfl))) hI102
            have I180 : jI103 σ150 := jI103_fr ((congrFun (f152 55 (of_decide_eq_true rfl)) 9).trans (congrFun (f8 55 (of_decide_eq_true rfl)) 9)) hI103
            have I181 : jI104 σ150 := jI104_fr ((congrFun (f152 55 (of_decide_eq_true rfl)) 10).trans (congrFun (f8 55 (of_decide_eq_true rfl)) 10)) ((congrFun (f152 55 (of_decide_eq_true rfl)) 12).trans (congrFun (f8 55 (of_decide_eq_true rfl)) 12)) ((congrFun (f152 55 (of_decide_eq_true rfl)) 13).trans (congrFun (f8 55 (of_decide_eq_true rfl)) 13)) ((f152 62 (of_decide_eq_true rfl)).trans (f8 62 (of_decide_eq_true rfl))) ((f152 67 (of_decide_eq_true rfl)).trans (f8 67 (of_decide_eq_true rfl))) hI104
            have I182 : jI105 σ150 := jI105_fr ((congrFun (f152 55 (of_decide_eq_true rfl)) 15).trans (congrFun (f8 55 (of_decide_eq_true rfl)) 15)) ((f152 65 (of_decide_eq_true rfl)).trans (f8 65 (of_decide_eq_true rfl))) hI105
            have I183 : jI106 σ150 := jI106_fr (congrFun (f152 55 (of_decide_eq_true rfl)) 32) (f152 70 (of_decide_eq_true rfl)) (f152 71 (of_decide_eq_true rfl)) (f152 72 (of_decide_eq_true rfl)) I147
            have I184 : jI107 σ150 := jI107_fr ((congrFun (f152 55 (of_decide_eq_true rfl)) 12).trans (congrFun (f8 55 (of_decide_eq_true rfl)) 12)) ((congrFun (f152 55 (of_decide_eq_true rfl)) 47).trans (congrFun (f8 55 (of_decide_eq_true rfl)) 47)) ((f152 80 (of_decide_eq_true rfl)).trans (f8 80 (of_decide_eq_true rfl))) hI107
            have I185 : jI109 σ150 := jI109_fr ((congrFun (f152 55 (of_decide_eq_true rfl)) 50).trans (congrFun (f8 55 (of_decide_eq_true rfl)) 50)) hI109
            have I186 : jI111 σ150 := jI111_fr ((f152 79 (of_decide_eq_true rfl)).trans (f8 79 (of_decide_eq_true rfl))) hI111
            have I187 : jI119 σ150 := jI119_fr ((f152 68 (of_decide_eq_true rfl)).trans (f8 68 (of_decide_eq_true rfl))) hI119
            have p188 : jKept σ150 := jKept.fr ((f152 75 (of_decide_eq_true rfl)).trans (f8 75 (of_decide_eq_true rfl))) ((f152 76 (of_decide_eq_true rfl)).trans (f8 76 (of_decide_eq_true rfl))) ((f152 77 (of_decide_eq_true rfl)).trans (f8 77 (of_decide_eq_true rfl))) hs_jKept
            have p189 : jBook σ150 := jBook.fr ((congrFun (f152 55 (of_decide_eq_true rfl)) 47).trans (congrFun (f8 55 (of_decide_eq_true rfl)) 47)) ((congrFun (f152 55 (of_decide_eq_true rfl)) 10).trans (congrFun (f8 55 (of_decide_eq_true rfl)) 10)) ((f152 81 (of_decide_eq_true rfl)).trans (f8 81 (of_decide_eq_true rfl))) hs_jBook
            have z190 : (σ150 38 0).toInt = (σ 38 0).toInt := (congrArg Int32.toInt (show σ150 38 0 = (σ 38 0) from ((congrFun (f152 38 (of_decide_eq_true rfl)) 0).trans (congrFun (f8 38 (of_decide_eq_true rfl)) 0))))
            have z191 : (σ150 55 32).toInt = (σ 55 32).toInt := (congrArg Int32.toInt (show σ150 55 32 = (σ 55 32) from ((congrFun (f152 55 (of_decide_eq_true rfl)) 32).trans (congrFun (f8 55 (of_decide_eq_true rfl)) 32))))
            exact by exact ih x166 σ150 τ _ _ ls (by have h9 := tx166; omega) ⟨I167, I168, I169, I170, I171, I172, I173, I174, I175, I176, I177, I178, I179, I180, I181, I182, I183, I184, I185, I153, I186, I187, p188, p189, (by omega)⟩ hP hS (lv_sub hl [0, 1, 2, 3] rfl)
        · obtain ⟨q194, k192, k193⟩ := h157
          have q194 := q194.symm
          subst q194
          refine lv_icmp_eq (tgt := 1357) hx hb dL_law_1084 (of_decide_eq_true rfl) (fun _ => ?_) (fun c => absurd (rfl) c)
          obtain ⟨x195, ex195⟩ : ∃ y : Int32, y = x0 + 6 := ⟨_, rfl⟩
          exact by
           have tx195 : x195.toInt = x0.toInt + 6 := (jadd ex195 rfl jz_6 (by omega) (by omega)).trans (by omega)
           refine lv_iinc (v := x195) (lv' := [(3, .int x195), (2, .ref (ad 55)), (1, .ref (ad 0)), (0, .ref b)]) hx hb dL_law_1357 hl (k := 0) rfl (by rw [ex195]; rfl) (of_decide_eq_true rfl) rfl (fun ls hl => ?_)
           refine lv_goto (tgt := 18) hx hb dL_law_1360 (of_decide_eq_true rfl) ?_
           have I196 : jI2 σ150 := jI2_fr ((congrFun (f152 2 (of_decide_eq_true rfl)) 0).trans (congrFun (f8 2 (of_decide_eq_true rfl)) 0)) ((congrFun (f152 2 (of_decide_eq_true rfl)) 1).trans (congrFun (f8 2 (of_decide_eq_true rfl)) 1)) ((congrFun (f152 2 (of_decide_eq_true rfl)) 2).trans (congrFun (f8 2 (of_decide_eq_true rfl)) 2)) ((congrFun (f152 2 (of_decide_eq_true rfl)) 3).trans (congrFun (f8 2 (of_decide_eq_true rfl)) 3)) ((f152 6 (of_decide_eq_true rfl)).trans (f8 6 (of_decide_eq_true rfl))) hI2
           have I197 : jI9 σ150 := jI9_fr ((congrFun (f152 9 (of_decide_eq_true rfl)) 0).trans (congrFun (f8 9 (of_decide_eq_true rfl)) 0)) ((f152 10 (of_decide_eq_true rfl)).trans (f8 10 (of_decide_eq_true rfl))) ((f152 11 (of_decide_eq_true rfl)).trans (f8 11 (of_decide_eq_true rfl))) hI9
           have I198 : jI12 σ150 := jI12_fr ((congrFun (f152 12 (of_decide_eq_true rfl)) 0).trans (congrFun (f8 12 (of_decide_eq_true rfl)) 0)) ((f152 13 (of_decide_eq_true rfl)).trans (f8 13 (of_decide_eq_true rfl))) hI12
           have I199 : jI16 σ150 := jI16_fr ((congrFun (f152 16 (of_decide_eq_true rfl)) 0).trans (congrFun (f8 16 (of_decide_eq_true rfl)) 0)) ((congrFun (f152 16 (of_decide_eq_true rfl)) 1).trans (congrFun (f8 16 (of_decide_eq_true rfl)) 1)) ((congrFun (f152 16 (of_decide_eq_true rfl)) 2).trans (congrFun (f8 16 (of_decide_eq_true rfl)) 2)) ((f152 17 (of_decide_eq_true rfl)).trans (f8 17 (of_decide_eq_true rfl))) hI16
           have I200 : jI18 σ150 := jI18_fr ((congrFun (f152 18 (of_decide_eq_true rfl)) 0).trans (congrFun (f8 18 (of_decide_eq_true rfl)) 0)) ((f152 19 (of_decide_eq_true rfl)).trans (f8 19 (of_decide_eq_true rfl))) hI18
           have I201 : jI22 σ150 := jI22_fr ((congrFun (f152 22 (of_decide_eq_true rfl)) 0).trans (congrFun (f8 22 (of_decide_eq_true rfl)) 0)) ((f152 23 (of_decide_eq_true rfl)).trans (f8 23 (of_decide_eq_true rfl))) hI22
           exact by
            have I202 : jI31 σ150 := jI31_fr ((congrFun (f152 31 (of_decide_eq_true rfl)) 8).trans (congrFun (f8 31 (of_decide_eq_true rfl)) 8)) ((f152 33 (of_decide_eq_true rfl)).trans (f8 33 (of_decide_eq_true rfl))) ((f152 36 (of_decide_eq_true rfl)).trans (f8 36 (of_decide_eq_true rfl))) hI31
            have I203 : jI38 σ150 := jI38_fr ((congrFun (f152 38 (of_decide_eq_true rfl)) 0).trans (congrFun (f8 38 (of_decide_eq_true rfl)) 0)) ((congrFun (f152 38 (of_decide_eq_true rfl)) 1).trans (congrFun (f8 38 (of_decide_eq_true rfl)) 1)) ((f152 39 (of_decide_eq_true rfl)).trans (f8 39 (of_decide_eq_true rfl))) hI38
            have I204 : jI43 σ150 := jI43_fr ((congrFun (f152 43 (of_decide_eq_true rfl)) 8).trans (congrFun (f8 43 (of_decide_eq_true rfl)) 8)) hI43
            have I205 : jI47 σ150 := jI47_fr ((congrFun (f152 47 (of_decide_eq_true rfl)) 0).trans (congrFun (f8 47 (of_decide_eq_true rfl)) 0)) ((f152 48 (of_decide_eq_true rfl)).trans (f8 48 (of_decide_eq_true rfl))) ((f152 49 (of_decide_eq_true rfl)).trans (f8 49 (of_decide_eq_true rfl))) hI47
            have I206 : jI50 σ150 := jI50_fr (f152 52 (of_decide_eq_true rfl)) I9
            have I207 : jI101 σ150 := jI101_fr ((congrFun (f152 55 (of_decide_eq_true rfl)) 4).trans (congrFun (f8 55 (of_decide_eq_true rfl)) 4)) ((congrFun (f152 55 (of_decide_eq_true rfl)) 5).trans (congrFun (f8 55 (of_decide_eq_true rfl)) 5)) ((f152 56 (of_decide_eq_true rfl)).trans (f8 56 (of_decide_eq_true rfl))) ((f152 57 (of_decide_eq_true rfl)).trans (f8 57 (of_decide_eq_true rfl))) ((f152 58 (of_decide_eq_true rfl)).trans (f8 58 (of_decide_eq_true rfl))) ((f152 59 (of_decide_eq_true rfl)).trans (f8 59 (of_decide_eq_true rfl))) hI101
            have I208 : jI102 σ150 := jI102_fr ((congrFun (f152 55 (of_decide_eq_true rfl)) 6).trans (congrFun (f8 55 (of_decide_eq_true rfl)) 6)) ((f152 60 (of_decide_eq_true rfl)).trans (f8 60 (of_decide_eq_true rfl))) ((f152 61 (of_decide_eq_true rfl)).trans (f8 61 (of_decide_eq_true rfl))) hI102
            have I209 : jI103 σ150 := jI103_fr ((congrFun (f152 55 (of_decide_eq_true rfl)) 9).trans (congrFun (f8 55 (of_decide_eq_true rfl)) 9)) hI103
            have I210 : jI104 σ150 := jI104_fr ((congrFun (f152 55 (of_decide_eq_true rfl)) 10).trans (congrFun (f8 55 (of_decide_eq_true rfl)) 10)) ((congrFun (f152 55 (of_decide_eq_true rfl)) 12).trans (congrFun (f8 55 (of_decide_eq_true rfl)) 12)) ((congrFun (f152 55 (of_decide_eq_true rfl)) 13).trans (congrFun (f8 55 (of_decide_eq_true rfl)) 13)) ((f152 62 (of_decide_eq_true rfl)).trans (f8 62 (of_decide_eq_true rfl))) ((f152 67 (of_decide_eq_true rfl)).trans (f8 67 (of_decide_eq_true rfl))) hI104
            have I211 : jI105 σ150 := jI105_fr ((congrFun (f152 55 (of_decide_eq_true rfl)) 15).trans (congrFun (f8 55 (of_decide_eq_true rfl)) 15)) ((f152 65 (of_decide_eq_true rfl)).trans (f8 65 (of_decide_eq_true rfl))) hI105
            have I212 : jI106 σ150 := jI106_fr (congrFun (f152 55 (of_decide_eq_true rfl)) 32) (f152 70 (of_decide_eq_true rfl)) (f152 71 (of_decide_eq_true rfl)) (f152 72 (of_decide_eq_true rfl)) I147
            have I213 : jI107 σ150 := jI107_fr ((congrFun (f152 55 (of_decide_eq_true rfl)) 12).trans (congrFun (f8 55 (of_decide_eq_true rfl)) 12)) ((congrFun (f152 55 (of_decide_eq_true rfl)) 47).trans (congrFun (f8 55 (of_decide_eq_true rfl)) 47)) ((f152 80 (of_decide_eq_true rfl)).trans (f8 80 (of_decide_eq_true rfl))) hI107
            have I214 : jI109 σ150 := jI109_fr ((congrFun (f152 55 (of_decide_eq_true rfl)) 50).trans (congrFun (f8 55 (of_decide_eq_true rfl)) 50)) hI109
            have I215 : jI111 σ150 := jI111_fr ((f152 79 (of_decide_eq_true rfl)).trans (f8 79 (of_decide_eq_true rfl))) hI111
            have I216 : jI119 σ150 := jI119_fr ((f152 68 (of_decide_eq_true rfl)).trans (f8 68 (of_decide_eq_true rfl))) hI119
            have p217 : jKept σ150 := jKept.fr ((f152 75 (of_decide_eq_true rfl)).trans (f8 75 (of_decide_eq_true rfl))) ((f152 76 (of_decide_eq_true rfl)).trans (f8 76 (of_decide_eq_true rfl))) ((f152 77 (of_decide_eq_true rfl)).trans (f8 77 (of_decide_eq_true rfl))) hs_jKept
            have p218 : jBook σ150 := jBook.fr ((congrFun (f152 55 (of_decide_eq_true rfl)) 47).trans (congrFun (f8 55 (of_decide_eq_true rfl)) 47)) ((congrFun (f152 55 (of_decide_eq_true rfl)) 10).trans (congrFun (f8 55 (of_decide_eq_true rfl)) 10)) ((f152 81 (of_decide_eq_true rfl)).trans (f8 81 (of_decide_eq_true rfl))) hs_jBook
            have z219 : (σ150 38 0).toInt = (σ 38 0).toInt := (congrArg Int32.toInt (show σ150 38 0 = (σ 38 0) from ((congrFun (f152 38 (of_decide_eq_true rfl)) 0).trans (congrFun (f8 38 (of_decide_eq_true rfl)) 0))))
            have z220 : (σ150 55 32).toInt = (σ 55 32).toInt := (congrArg Int32.toInt (show σ150 55 32 = (σ 55 32) from ((congrFun (f152 55 (of_decide_eq_true rfl)) 32).trans (congrFun (f8 55 (of_decide_eq_true rfl)) 32))))
            exact by exact ih x195 σ150 τ _ _ ls (by have h9 := tx195; omega) ⟨I196, I197, I198, I199, I200, I201, I202, I203, I204, I205, I206, I207, I208, I209, I210, I211, I212, I213, I214, I153, I215, I216, p217, p218, (by omega)⟩ hP hS (lv_sub hl [0, 1, 2, 3] rfl)
set_option maxHeartbeats 4000000 in
set_option maxRecDepth 100000 in
theorem law_case_31 {p : Program} {e : Env} {s : State} {m : MethodId} {below : List Frame} {meth : Method} {c : Code} (l : Launch) {b L : Nat} {xs : Nat → Int32} {D : va_G} {cI cL : ClassId} {ad zz : Nat → Nat} (C0 : lw_At p s m meth c b L xs) (hJ : jD ad) (hA : ∀ q, jA ad q → s.heap.size ≤ q) (hK : jK D cI cL s) (hZ : jZ zz (fun q : Nat => s.heap.size ≤ q) s s.heap) {x0 : Int32} (hx0 : 0 ≤ x0.toInt) (hxL : x0.toInt + 6 ≤ (L : Int)) (hL : L ≤ 384) {σ : Nat → Nat → Int32} {τ : Nat → Nat → Int64} {H : Heap} {locs : List Loc} (hS : va_S (fun q : Nat => s.heap.size ≤ q) s.heap H locs) {ls : Array Slot} (hAll : jAll σ τ) (hP : jH D cI cL ad σ τ H) (hl : lv_has ls 4 [(3, .int x0), (2, .ref (ad 55)), (1, .ref (ad 0)), (0, .ref b)]) (ih : ∀ (x1 : Int32) (σ : Nat → Nat → Int32) (τ : Nat → Nat → Int64) (H : Heap) (locs : List Loc) (ls : Array Slot), x1.toInt = x0.toInt + 6 → jAll σ τ → jH D cI cL ad σ τ H → va_S (fun q : Nat => s.heap.size ≤ q) s.heap H locs → lv_has ls 4 [(3, .int x1), (2, .ref (ad 55)), (1, .ref (ad 0)), (0, .ref b)] → W p l e room_1 s m #[Value.ref b] below meth c H locs 90 348600 (lw_Z below #[Value.ref b] s) (F0 m 18 ls [])) : W p l e room_1 s m #[Value.ref b] below meth c H locs 90 348600 (lw_Z below #[Value.ref b] s) (F0 m 1089 ls []) := by
  obtain ⟨hx, hb, hr, hml, hown, hts0, hX, hbl, hlocks, hgv⟩ := C0
  have hts : ∀ w ∈ wsL_law, w.before #[Value.ref b] s = true := fun w h => hts0 w (wsL_law_in w h)
  have hbA : ¬ (fun q : Nat => s.heap.size ≤ q) b := Nat.not_le.mpr hbl
  have hown : s.vm.findClass RL = some m.cls := hown
  obtain ⟨hI2, hI9, hI12, hI16, hI18, hI22, hI31, hI38, hI43, hI47, hI50, hI101, hI102, hI103, hI104, hI105, hI106, hI107, hI109, hI110, hI111, hI119, hs_jKept, hs_jBook, ht0⟩ := hAll
  have hL9 : (L : Int) ≤ 384 := by omega
  refine lv_aload_n hx hb dL_law_1089 rfl (lv_at hl 2 rfl) ?_
  refine lv_aload_n hx hb dL_law_1090 rfl (lv_at hl 3 rfl) ?_
  refine lv_iload_n hx hb dL_law_1091 rfl (lv_at hl 0 rfl) ?_
  refine lv_iconst (v := 1) hx hb dL_law_1092 (of_decide_eq_true rfl) ?_
  have g1 := jrg (rfl : x0.toInt = x0.toInt)
  refine lv_iadd hx hb dL_law_1093 ?_
  refine lv_topi (fun x2 ex2 => ?_)
  exact by
   have tx2 : x2.toInt = x0.toInt + 1 := (jadd ex2 rfl jz_1 (by omega) (by omega)).trans (by omega)
   refine va_sld hx hb hX hbl hbA hS (jin tx2 (by omega) (by omega)) dL_law_1094 ?_
   have g3 := jrg (rfl : (xs x2.toNatClampNeg).toInt = (xs x2.toNatClampNeg).toInt)
   refine lv_aload_n hx hb dL_law_1095 rfl (lv_at hl 3 rfl) ?_
   refine lv_iload_n hx hb dL_law_1096 rfl (lv_at hl 0 rfl) ?_
   refine lv_iconst (v := 2) hx hb dL_law_1097 (of_decide_eq_true rfl) ?_
   refine lv_iadd hx hb dL_law_1098 ?_
   refine lv_topi (fun x4 ex4 => ?_)
   have tx4 : x4.toInt = x0.toInt + 2 := (jadd ex4 rfl jz_2 (by omega) (by omega)).trans (by omega)
   exact by
    refine va_sld hx hb hX hbl hbA hS (jin tx4 (by omega) (by omega)) dL_law_1099 ?_
    have g5 := jrg (rfl : (xs x4.toNatClampNeg).toInt = (xs x4.toNatClampNeg).toInt)
    refine lv_aload_n hx hb dL_law_1100 rfl (lv_at hl 3 rfl) ?_
    refine lv_iload_n hx hb dL_law_1101 rfl (lv_at hl 0 rfl) ?_
    refine lv_iconst (v := 3) hx hb dL_law_1102 (of_decide_eq_true rfl) ?_
    refine lv_iadd hx hb dL_law_1103 ?_
    refine lv_topi (fun x6 ex6 => ?_)
    have tx6 : x6.toInt = x0.toInt + 3 := (jadd ex6 rfl jz_3 (by omega) (by omega)).trans (by omega)
    refine va_sld hx hb hX hbl hbA hS (jin tx6 (by omega) (by omega)) dL_law_1104 ?_
    exact by
     have g7 := jrg (rfl : (xs x6.toNatClampNeg).toInt = (xs x6.toNatClampNeg).toInt)
     refine jcallV (As := [.int (xs x2.toNatClampNeg), .int (xs x4.toNatClampNeg), .int (xs x6.toNatClampNeg)]) (rest := []) ⟨hx, hb, hml, hown, hts⟩ hK hP hA hS hZ (c_X11_row l D cI cL ad zz hJ σ τ (xs x2.toNatClampNeg) ((xs x2.toNatClampNeg).toInt) rfl (xs x4.toNatClampNeg) ((xs x4.toNatClampNeg).toInt) rfl (xs x6.toNatClampNeg) ((xs x6.toNatClampNeg).toInt) rfl hI50) cw_RL_141 (jc_0 cI cL ad σ τ) rfl ⟨Nat.le_of_ble_eq_true rfl, Nat.le_of_ble_eq_true rfl⟩ rfl rfl rfl hl.1 rfl (Nat.le_of_ble_eq_true rfl) dL_law_1105 ⟨Nat.le_of_ble_eq_true rfl, Nat.le_of_ble_eq_true rfl⟩ (fun r9 σ8 τ8 H locs h8 hP hS => ?_)
     obtain ⟨f12, f10, I11, h8⟩ := h8
     rcases h8 with h13 | h14 | h15
     · obtain ⟨q19, k16, k17, k18⟩ := h13
       have q19 := q19.symm
       subst q19
       refine lv_pop hx hb dL_law_1108 rfl ?_
       refine lv_aload_n hx hb dL_law_1109 rfl (lv_at hl 1 rfl) ?_
       refine lv_aload_n hx hb dL_law_1110 rfl (lv_at hl 3 rfl) ?_
       refine lv_iload_n hx hb dL_law_1111 rfl (lv_at hl 0 rfl) ?_
       refine lv_iconst (v := 1) hx hb dL_law_1112 (of_decide_eq_true rfl) ?_
       refine lv_iadd hx hb dL_law_1113 ?_
       refine jtopr ex2.symm ?_
       exact by
        refine va_sld hx hb hX hbl hbA hS (jin tx2 (by omega) (by omega)) dL_law_1114 ?_
        refine lv_aload_n hx hb dL_law_1115 rfl (lv_at hl 3 rfl) ?_
        refine lv_iload_n hx hb dL_law_1116 rfl (lv_at hl 0 rfl) ?_
        refine lv_iconst (v := 2) hx hb dL_law_1117 (of_decide_eq_true rfl) ?_
        refine lv_iadd hx hb dL_law_1118 ?_
        refine jtopr ex4.symm ?_
        refine va_sld hx hb hX hbl hbA hS (jin tx4 (by omega) (by omega)) dL_law_1119 ?_
        refine lv_aload_n hx hb dL_law_1120 rfl (lv_at hl 3 rfl) ?_
        refine lv_iload_n hx hb dL_law_1121 rfl (lv_at hl 0 rfl) ?_
        exact by
         refine lv_iconst (v := 3) hx hb dL_law_1122 (of_decide_eq_true rfl) ?_
         refine lv_iadd hx hb dL_law_1123 ?_
         refine jtopr ex6.symm ?_
         refine va_sld hx hb hX hbl hbA hS (jin tx6 (by omega) (by omega)) dL_law_1124 ?_
         have I20 : jI110 σ8 := jI110_fr (f10 86 (of_decide_eq_true rfl)) (f10 87 (of_decide_eq_true rfl)) hI110
         refine jcallV (As := [.int (xs x2.toNatClampNeg), .int (xs x4.toNatClampNeg), .int (xs x6.toNatClampNeg)]) (rest := []) ⟨hx, hb, hml, hown, hts⟩ hK hP hA hS hZ (c_X12_row l D cI cL ad zz hJ σ8 τ8 (xs x2.toNatClampNeg) ((xs x2.toNatClampNeg).toInt) rfl (xs x4.toNatClampNeg) ((xs x4.toNatClampNeg).toInt) rfl (xs x6.toNatClampNeg) ((xs x6.toNatClampNeg).toInt) rfl I20) cw_RL_144 (jc_55 cI cL ad σ8 τ8) rfl ⟨Nat.le_of_ble_eq_true rfl, Nat.le_of_ble_eq_true rfl⟩ rfl rfl rfl hl.1 rfl (Nat.le_of_ble_eq_true rfl) dL_law_1125 ⟨Nat.le_of_ble_eq_true rfl, Nat.le_of_ble_eq_true rfl⟩ (fun r22 σ21 τ21 H locs h21 hP hS => ?_)
         obtain ⟨f25, f23, I24, h21⟩ := h21
         rcases h21 with h26 | h27 | h28
         · obtain ⟨q32, k29, k30, k31⟩ := h26
           exact by
            have q32 := q32.symm
            subst q32
            refine lv_pop hx hb dL_law_1128 rfl ?_
            refine lv_goto (tgt := 1357) hx hb dL_law_1129 (of_decide_eq_true rfl) ?_
            obtain ⟨x33, ex33⟩ : ∃ y : Int32, y = x0 + 6 := ⟨_, rfl⟩
            have tx33 : x33.toInt = x0.toInt + 6 := (jadd ex33 rfl jz_6 (by omega) (by omega)).trans (by omega)
            refine lv_iinc (v := x33) (lv' := [(3, .int x33), (2, .ref (ad 55)), (1, .ref (ad 0)), (0, .ref b)]) hx hb dL_law_1357 hl (k := 0) rfl (by rw [ex33]; rfl) (of_decide_eq_true rfl) rfl (fun ls hl => ?_)
            refine lv_goto (tgt := 18) hx hb dL_law_1360 (of_decide_eq_true rfl) ?_
            have I34 : jI2 σ21 := jI2_fr ((congrFun (f23 2 (of_decide_eq_true rfl)) 0).trans (congrFun (f10 2 (of_decide_eq_true rfl)) 0)) ((congrFun (f23 2 (of_decide_eq_true rfl)) 1).trans (congrFun (f10 2 (of_decide_eq_true rfl)) 1)) ((congrFun (f23 2 (of_decide_eq_true rfl)) 2).trans (congrFun (f10 2 (of_decide_eq_true rfl)) 2)) ((congrFun (f23 2 (of_decide_eq_true rfl)) 3).trans (congrFun (f10 2 (of_decide_eq_true rfl)) 3)) ((f23 6 (of_decide_eq_true rfl)).trans (f10 6 (of_decide_eq_true rfl))) hI2
            exact by
             have I35 : jI9 σ21 := jI9_fr ((congrFun (f23 9 (of_decide_eq_true rfl)) 0).trans (congrFun (f10 9 (of_decide_eq_true rfl)) 0)) ((f23 10 (of_decide_eq_true rfl)).trans (f10 10 (of_decide_eq_true rfl))) ((f23 11 (of_decide_eq_true rfl)).trans (f10 11 (of_decide_eq_true rfl))) hI9
             have I36 : jI12 σ21 := jI12_fr ((congrFun (f23 12 (of_decide_eq_true rfl)) 0).trans (congrFun (f10 12 (of_decide_eq_true rfl)) 0)) ((f23 13 (of_decide_eq_true rfl)).trans (f10 13 (of_decide_eq_true rfl))) hI12
             have I37 : jI16 σ21 := jI16_fr ((congrFun (f23 16 (of_decide_eq_true rfl)) 0).trans (congrFun (f10 16 (of_decide_eq_true rfl)) 0)) ((congrFun (f23 16 (of_decide_eq_true rfl)) 1).trans (congrFun (f10 16 (of_decide_eq_true rfl)) 1)) ((congrFun (f23 16 (of_decide_eq_true rfl)) 2).trans (congrFun (f10 16 (of_decide_eq_true rfl)) 2)) ((f23 17 (of_decide_eq_true rfl)).trans (f10 17 (of_decide_eq_true rfl))) hI16
             have I38 : jI18 σ21 := jI18_fr ((congrFun (f23 18 (of_decide_eq_true rfl)) 0).trans (congrFun (f10 18 (of_decide_eq_true rfl)) 0)) ((f23 19 (of_decide_eq_true rfl)).trans (f10 19 (of_decide_eq_true rfl))) hI18
             have I39 : jI22 σ21 := jI22_fr ((congrFun (f23 22 (of_decide_eq_true rfl)) 0).trans (congrFun (f10 22 (of_decide_eq_true rfl)) 0)) ((f23 23 (of_decide_eq_true rfl)).trans (f10 23 (of_decide_eq_true rfl))) hI22
             have I40 : jI31 σ21 := jI31_fr ((congrFun (f23 31 (of_decide_eq_true rfl)) 8).trans (congrFun (f10 31 (of_decide_eq_true rfl)) 8)) ((f23 33 (of_decide_eq_true rfl)).trans (f10 33 (of_decide_eq_true rfl))) ((f23 36 (of_decide_eq_true rfl)).trans (f10 36 (of_decide_eq_true rfl))) hI31
             have I41 : jI38 σ21 := jI38_fr ((congrFun (f23 38 (of_decide_eq_true rfl)) 0).trans (congrFun (f10 38 (of_decide_eq_true rfl)) 0)) ((congrFun (f23 38 (of_decide_eq_true rfl)) 1).trans (congrFun (f10 38 (of_decide_eq_true rfl)) 1)) ((f23 39 (of_decide_eq_true rfl)).trans (f10 39 (of_decide_eq_true rfl))) hI38
             have I42 : jI43 σ21 := jI43_fr ((congrFun (f23 43 (of_decide_eq_true rfl)) 8).trans (congrFun (f10 43 (of_decide_eq_true rfl)) 8)) hI43
             have I43 : jI47 σ21 := jI47_fr ((congrFun (f23 47 (of_decide_eq_true rfl)) 0).trans (congrFun (f10 47 (of_decide_eq_true rfl)) 0)) ((f23 48 (of_decide_eq_true rfl)).trans (f10 48 (of_decide_eq_true rfl))) ((f23 49 (of_decide_eq_true rfl)).trans (f10 49 (of_decide_eq_true rfl))) hI47
             have I44 : jI50 σ21 := jI50_fr (f23 52 (of_decide_eq_true rfl)) I11
             have I45 : jI101 σ21 := jI101_fr ((congrFun (f23 55 (of_decide_eq_true rfl)) 4).trans (congrFun (f10 55 (of_decide_eq_true rfl)) 4)) ((congrFun (f23 55 (of_decide_eq_true rfl)) 5).trans (congrFun (f10 55 (of_decide_eq_true rfl)) 5)) ((f23 56 (of_decide_eq_true rfl)).trans (f10 56 (of_decide_eq_true rfl))) ((f23 57 (of_decide_eq_true rfl)).trans (f10 57 (of_decide_eq_true rfl))) ((f23 58 (of_decide_eq_true rfl)).trans (f10 58 (of_decide_eq_true rfl))) ((f23 59 (of_decide_eq_true rfl)).trans (f10 59 (of_decide_eq_true rfl))) hI101
             have I46 : jI102 σ21 := jI102_fr ((congrFun (f23 55 (of_decide_eq_true rfl)) 6).trans (congrFun (f10 55 (of_decide_eq_true rfl)) 6)) ((f23 60 (of_decide_eq_true rfl)).trans (f10 60 (of_decide_eq_true rfl))) ((f23 61 (of_decide_eq_true rfl)).trans (f10 61 (of_decide_eq_true rfl))) hI102
             have I47 : jI103 σ21 := jI103_fr ((congrFun (f23 55 (of_decide_eq_true rfl)) 9).trans (congrFun (f10 55 (of_decide_eq_true rfl)) 9)) hI103
             have I48 : jI104 σ21 := jI104_fr ((congrFun (f23 55 (of_decide_eq_true rfl)) 10).trans (congrFun (f10 55 (of_decide_eq_true rfl)) 10)) ((congrFun (f23 55 (of_decide_eq_true rfl)) 12).trans (congrFun (f10 55 (of_decide_eq_true rfl)) 12)) ((congrFun (f23 55 (of_decide_eq_true rfl)) 13).trans (congrFun (f10 55 (of_decide_eq_true rfl)) 13)) ((f23 62 (of_decide_eq_true rfl)).trans (f10 62 (of_decide_eq_true rfl))) ((f23 67 (of_decide_eq_true rfl)).trans (f10 67 (of_decide_eq_true rfl))) hI104
             have I49 : jI105 σ21 := jI105_fr ((congrFun (f23 55 (of_decide_eq_true rfl)) 15).trans (congrFun (f10 55 (of_decide_eq_true rfl)) 15)) ((f23 65 (of_decide_eq_true rfl)).trans (f10 65 (of_decide_eq_true rfl))) hI105
             have I50 : jI106 σ21 := jI106_fr ((congrFun (f23 55 (of_decide_eq_true rfl)) 32).trans (congrFun (f10 55 (of_decide_eq_true rfl)) 32)) ((f23 70 (of_decide_eq_true rfl)).trans (f10 70 (of_decide_eq_true rfl))) ((f23 71 (of_decide_eq_true rfl)).trans (f10 71 (of_decide_eq_true rfl))) ((f23 72 (of_decide_eq_true rfl)).trans (f10 72 (of_decide_eq_true rfl))) hI106
             have I51 : jI107 σ21 := jI107_fr ((congrFun (f23 55 (of_decide_eq_true rfl)) 12).trans (congrFun (f10 55 (of_decide_eq_true rfl)) 12)) ((congrFun (f23 55 (of_decide_eq_true rfl)) 47).trans (congrFun (f10 55 (of_decide_eq_true rfl)) 47)) ((f23 80 (of_decide_eq_true rfl)).trans (f10 80 (of_decide_eq_true rfl))) hI107
             have I52 : jI109 σ21 := jI109_fr ((congrFun (f23 55 (of_decide_eq_true rfl)) 50).trans (congrFun (f10 55 (of_decide_eq_true rfl)) 50)) hI109
             have I53 : jI111 σ21 := jI111_fr ((f23 79 (of_decide_eq_true rfl)).trans (f10 79 (of_decide_eq_true rfl))) hI111
             have I54 : jI119 σ21 := jI119_fr ((f23 68 (of_decide_eq_true rfl)).trans (f10 68 (of_decide_eq_true rfl))) hI119
             have p55 : jKept σ21 := jKept.fr ((f23 75 (of_decide_eq_true rfl)).trans (f10 75 (of_decide_eq_true rfl))) ((f23 76 (of_decide_eq_true rfl)).trans (f10 76 (of_decide_eq_true rfl))) ((f23 77 (of_decide_eq_true rfl)).trans (f10 77 (of_decide_eq_true rfl))) hs_jKept
             have p56 : jBook σ21 := jBook.fr ((congrFun (f23 55 (of_decide_eq_true rfl)) 47).trans (congrFun (f10 55 (of_decide_eq_true rfl)) 47)) ((congrFun (f23 55 (of_decide_eq_true rfl)) 10).trans (congrFun (f10 55 (of_decide_eq_true rfl)) 10)) ((f23 81 (of_decide_eq_true rfl)).trans (f10 81 (of_decide_eq_true rfl))) hs_jBook
             have z57 : (σ21 38 0).toInt = (σ 38 0).toInt := (congrArg Int32.toInt (show σ21 38 0 = (σ 38 0) from ((congrFun (f23 38 (of_decide_eq_true rfl)) 0).trans (congrFun (f10 38 (of_decide_eq_true rfl)) 0))))
             have z58 : (σ21 55 32).toInt = (σ 55 32).toInt := (congrArg Int32.toInt (show σ21 55 32 = (σ 55 32) from ((congrFun (f23 55 (of_decide_eq_true rfl)) 32).trans (congrFun (f10 55 (of_decide_eq_true rfl)) 32))))
             exact by exact ih x33 σ21 τ21 _ _ ls (by have h9 := tx33; omega) ⟨I34, I35, I36, I37, I38, I39, I40, I41, I42, I43, I44, I45, I46, I47, I48, I49, I50, I51, I52, I24, I53, I54, p55, p56, (by omega)⟩ hP hS (lv_sub hl [0, 1, 2, 3] rfl)
         · obtain ⟨q64, k59, k60, k61, k62, k63⟩ := h27
           exact absurd (by omega : False) id
         · obtain ⟨q70, k65, k66, k67, k68, k69⟩ := h28
           exact absurd (by omega : False) id
     · obtain ⟨q76, k71, k72, k73, k74, k75⟩ := h14
       have q76 := q76.symm
       subst q76
       refine lv_pop hx hb dL_law_1108 rfl ?_
       refine lv_aload_n hx hb dL_law_1109 rfl (lv_at hl 1 rfl) ?_
       refine lv_aload_n hx hb dL_law_1110 rfl (lv_at hl 3 rfl) ?_
       refine lv_iload_n hx hb dL_law_1111 rfl (lv_at hl 0 rfl) ?_
       refine lv_iconst (v := 1) hx hb dL_law_1112 (of_decide_eq_true rfl) ?_
       refine lv_iadd hx hb dL_law_1113 ?_
       refine jtopr ex2.symm ?_
       exact by
        refine va_sld hx hb hX hbl hbA hS (jin tx2 (by omega) (by omega)) dL_law_1114 ?_
        refine lv_aload_n hx hb dL_law_1115 rfl (lv_at hl 3 rfl) ?_
        refine lv_iload_n hx hb dL_law_1116 rfl (lv_at hl 0 rfl) ?_
        refine lv_iconst (v := 2) hx hb dL_law_1117 (of_decide_eq_true rfl) ?_
        refine lv_iadd hx hb dL_law_1118 ?_
        refine jtopr ex4.symm ?_
        refine va_sld hx hb hX hbl hbA hS (jin tx4 (by omega) (by omega)) dL_law_1119 ?_
        refine lv_aload_n hx hb dL_law_1120 rfl (lv_at hl 3 rfl) ?_
        refine lv_iload_n hx hb dL_law_1121 rfl (lv_at hl 0 rfl) ?_
        exact by
         refine lv_iconst (v := 3) hx hb dL_law_1122 (of_decide_eq_true rfl) ?_
         refine lv_iadd hx hb dL_law_1123 ?_
         refine jtopr ex6.symm ?_
         refine va_sld hx hb hX hbl hbA hS (jin tx6 (by omega) (by omega)) dL_law_1124 ?_
         have I77 : jI110 σ8 := jI110_fr (f10 86 (of_decide_eq_true rfl)) (f10 87 (of_decide_eq_true rfl)) hI110
         refine jcallV (As := [.int (xs x2.toNatClampNeg), .int (xs x4.toNatClampNeg), .int (xs x6.toNatClampNeg)]) (rest := []) ⟨hx, hb, hml, hown, hts⟩ hK hP hA hS hZ (c_X12_row l D cI cL ad zz hJ σ8 τ8 (xs x2.toNatClampNeg) ((xs x2.toNatClampNeg).toInt) rfl (xs x4.toNatClampNeg) ((xs x4.toNatClampNeg).toInt) rfl (xs x6.toNatClampNeg) ((xs x6.toNatClampNeg).toInt) rfl I77) cw_RL_144 (jc_55 cI cL ad σ8 τ8) rfl ⟨Nat.le_of_ble_eq_true rfl, Nat.le_of_ble_eq_true rfl⟩ rfl rfl rfl hl.1 rfl (Nat.le_of_ble_eq_true rfl) dL_law_1125 ⟨Nat.le_of_ble_eq_true rfl, Nat.le_of_ble_eq_true rfl⟩ (fun r79 σ78 τ78 H locs h78 hP hS => ?_)
         obtain ⟨f82, f80, I81, h78⟩ := h78
         rcases h78 with h83 | h84 | h85
         · obtain ⟨q89, k86, k87, k88⟩ := h83
           exact absurd (by omega : False) id
         · exact by
            obtain ⟨q95, k90, k91, k92, k93, k94⟩ := h84
            have q95 := q95.symm
            subst q95
            refine lv_pop hx hb dL_law_1128 rfl ?_
            refine lv_goto (tgt := 1357) hx hb dL_law_1129 (of_decide_eq_true rfl) ?_
            obtain ⟨x96, ex96⟩ : ∃ y : Int32, y = x0 + 6 := ⟨_, rfl⟩
            have tx96 : x96.toInt = x0.toInt + 6 := (jadd ex96 rfl jz_6 (by omega) (by omega)).trans (by omega)
            refine lv_iinc (v := x96) (lv' := [(3, .int x96), (2, .ref (ad 55)), (1, .ref (ad 0)), (0, .ref b)]) hx hb dL_law_1357 hl (k := 0) rfl (by rw [ex96]; rfl) (of_decide_eq_true rfl) rfl (fun ls hl => ?_)
            refine lv_goto (tgt := 18) hx hb dL_law_1360 (of_decide_eq_true rfl) ?_
            exact by
             have I97 : jI2 σ78 := jI2_fr ((congrFun (f80 2 (of_decide_eq_true rfl)) 0).trans (congrFun (f10 2 (of_decide_eq_true rfl)) 0)) ((congrFun (f80 2 (of_decide_eq_true rfl)) 1).trans (congrFun (f10 2 (of_decide_eq_true rfl)) 1)) ((congrFun (f80 2 (of_decide_eq_true rfl)) 2).trans (congrFun (f10 2 (of_decide_eq_true rfl)) 2)) ((congrFun (f80 2 (of_decide_eq_true rfl)) 3).trans (congrFun (f10 2 (of_decide_eq_true rfl)) 3)) ((f80 6 (of_decide_eq_true rfl)).trans (f10 6 (of_decide_eq_true rfl))) hI2
             have I98 : jI9 σ78 := jI9_fr ((congrFun (f80 9 (of_decide_eq_true rfl)) 0).trans (congrFun (f10 9 (of_decide_eq_true rfl)) 0)) ((f80 10 (of_decide_eq_true rfl)).trans (f10 10 (of_decide_eq_true rfl))) ((f80 11 (of_decide_eq_true rfl)).trans (f10 11 (of_decide_eq_true rfl))) hI9
             have I99 : jI12 σ78 := jI12_fr ((congrFun (f80 12 (of_decide_eq_true rfl)) 0).trans (congrFun (f10 12 (of_decide_eq_true rfl)) 0)) ((f80 13 (of_decide_eq_true rfl)).trans (f10 13 (of_decide_eq_true rfl))) hI12
             have I100 : jI16 σ78 := jI16_fr ((congrFun (f80 16 (of_decide_eq_true rfl)) 0).trans (congrFun (f10 16 (of_decide_eq_true rfl)) 0)) ((congrFun (f80 16 (of_decide_eq_true rfl)) 1).trans (congrFun (f10 16 (of_decide_eq_true rfl)) 1)) ((congrFun (f80 16 (of_decide_eq_true rfl)) 2).trans (congrFun (f10 16 (of_decide_eq_true rfl)) 2)) ((f80 17 (of_decide_eq_true rfl)).trans (f10 17 (of_decide_eq_true rfl))) hI16
             have I101 : jI18 σ78 := jI18_fr ((congrFun (f80 18 (of_decide_eq_true rfl)) 0).trans (congrFun (f10 18 (of_decide_eq_true rfl)) 0)) ((f80 19 (of_decide_eq_true rfl)).trans (f10 19 (of_decide_eq_true rfl))) hI18
             have I102 : jI22 σ78 := jI22_fr ((congrFun (f80 22 (of_decide_eq_true rfl)) 0).trans (congrFun (f10 22 (of_decide_eq_true rfl)) 0)) ((f80 23 (of_decide_eq_true rfl)).trans (f10 23 (of_decide_eq_true rfl))) hI22
             have I103 : jI31 σ78 := jI31_fr ((congrFun (f80 31 (of_decide_eq_true rfl)) 8).trans (congrFun (f10 31 (of_decide_eq_true rfl)) 8)) ((f80 33 (of_decide_eq_true rfl)).trans (f10 33 (of_decide_eq_true rfl))) ((f80 36 (of_decide_eq_true rfl)).trans (f10 36 (of_decide_eq_true rfl))) hI31
             have I104 : jI38 σ78 := jI38_fr ((congrFun (f80 38 (of_decide_eq_true rfl)) 0).trans (congrFun (f10 38 (of_decide_eq_true rfl)) 0)) ((congrFun (f80 38 (of_decide_eq_true rfl)) 1).trans (congrFun (f10 38 (of_decide_eq_true rfl)) 1)) ((f80 39 (of_decide_eq_true rfl)).trans (f10 39 (of_decide_eq_true rfl))) hI38
             have I105 : jI43 σ78 := jI43_fr ((congrFun (f80 43 (of_decide_eq_true rfl)) 8).trans (congrFun (f10 43 (of_decide_eq_true rfl)) 8)) hI43
             have I106 : jI47 σ78 := jI47_fr ((congrFun (f80 47 (of_decide_eq_true rfl)) 0).trans (congrFun (f10 47 (of_decide_eq_true rfl)) 0)) ((f80 48 (of_decide_eq_true rfl)).trans (f10 48 (of_decide_eq_true rfl))) ((f80 49 (of_decide_eq_true rfl)).trans (f10 49 (of_decide_eq_true rfl))) hI47
             have I107 : jI50 σ78 := jI50_fr (f80 52 (of_decide_eq_true rfl)) I11
             have I108 : jI101 σ78 := jI101_fr ((congrFun (f80 55 (of_decide_eq_true rfl)) 4).trans (congrFun (f10 55 (of_decide_eq_true rfl)) 4)) ((congrFun (f80 55 (of_decide_eq_true rfl)) 5).trans (congrFun (f10 55 (of_decide_eq_true rfl)) 5)) ((f80 56 (of_decide_eq_true rfl)).trans (f10 56 (of_decide_eq_true rfl))) ((f80 57 (of_decide_eq_true rfl)).trans (f10 57 (of_decide_eq_true rfl))) ((f80 58 (of_decide_eq_true rfl)).trans (f10 58 (of_decide_eq_true rfl))) ((f80 59 (of_decide_eq_true rfl)).trans (f10 59 (of_decide_eq_true rfl))) hI101
             have I109 : jI102 σ78 := jI102_fr ((congrFun (f80 55 (of_decide_eq_true rfl)) 6).trans (congrFun (f10 55 (of_decide_eq_true rfl)) 6)) ((f80 60 (of_decide_eq_true rfl)).trans (f10 60 (of_decide_eq_true rfl))) ((f80 61 (of_decide_eq_true rfl)).trans (f10 61 (of_decide_eq_true rfl))) hI102
             have I110 : jI103 σ78 := jI103_fr ((congrFun (f80 55 (of_decide_eq_true rfl)) 9).trans (congrFun (f10 55 (of_decide_eq_true rfl)) 9)) hI103
             have I111 : jI104 σ78 := jI104_fr ((congrFun (f80 55 (of_decide_eq_true rfl)) 10).trans (congrFun (f10 55 (of_decide_eq_true rfl)) 10)) ((congrFun (f80 55 (of_decide_eq_true rfl)) 12).trans (congrFun (f10 55 (of_decide_eq_true rfl)) 12)) ((congrFun (f80 55 (of_decide_eq_true rfl)) 13).trans (congrFun (f10 55 (of_decide_eq_true rfl)) 13)) ((f80 62 (of_decide_eq_true rfl)).trans (f10 62 (of_decide_eq_true rfl))) ((f80 67 (of_decide_eq_true rfl)).trans (f10 67 (of_decide_eq_true rfl))) hI104
             have I112 : jI105 σ78 := jI105_fr ((congrFun (f80 55 (of_decide_eq_true rfl)) 15).trans (congrFun (f10 55 (of_decide_eq_true rfl)) 15)) ((f80 65 (of_decide_eq_true rfl)).trans (f10 65 (of_decide_eq_true rfl))) hI105
             have I113 : jI106 σ78 := jI106_fr ((congrFun (f80 55 (of_decide_eq_true rfl)) 32).trans (congrFun (f10 55 (of_decide_eq_true rfl)) 32)) ((f80 70 (of_decide_eq_true rfl)).trans (f10 70 (of_decide_eq_true rfl))) ((f80 71 (of_decide_eq_true rfl)).trans (f10 71 (of_decide_eq_true rfl))) ((f80 72 (of_decide_eq_true rfl)).trans (f10 72 (of_decide_eq_true rfl))) hI106
             have I114 : jI107 σ78 := jI107_fr ((congrFun (f80 55 (of_decide_eq_true rfl)) 12).trans (congrFun (f10 55 (of_decide_eq_true rfl)) 12)) ((congrFun (f80 55 (of_decide_eq_true rfl)) 47).trans (congrFun (f10 55 (of_decide_eq_true rfl)) 47)) ((f80 80 (of_decide_eq_true rfl)).trans (f10 80 (of_decide_eq_true rfl))) hI107
             have I115 : jI109 σ78 := jI109_fr ((congrFun (f80 55 (of_decide_eq_true rfl)) 50).trans (congrFun (f10 55 (of_decide_eq_true rfl)) 50)) hI109
             have I116 : jI111 σ78 := jI111_fr ((f80 79 (of_decide_eq_true rfl)).trans (f10 79 (of_decide_eq_true rfl))) hI111
             have I117 : jI119 σ78 := jI119_fr ((f80 68 (of_decide_eq_true rfl)).trans (f10 68 (of_decide_eq_true rfl))) hI119
             have p118 : jKept σ78 := jKept.fr ((f80 75 (of_decide_eq_true rfl)).trans (f10 75 (of_decide_eq_true rfl))) ((f80 76 (of_decide_eq_true rfl)).trans (f10 76 (of_decide_eq_true rfl))) ((f80 77 (of_decide_eq_true rfl)).trans (f10 77 (of_decide_eq_true rfl))) hs_jKept
             have p119 : jBook σ78 := jBook.fr ((congrFun (f80 55 (of_decide_eq_true rfl)) 47).trans (congrFun (f10 55 (of_decide_eq_true rfl)) 47)) ((congrFun (f80 55 (of_decide_eq_true rfl)) 10).trans (congrFun (f10 55 (of_decide_eq_true rfl)) 10)) ((f80 81 (of_decide_eq_true rfl)).trans (f10 81 (of_decide_eq_true rfl))) hs_jBook
             have z120 : (σ78 38 0).toInt = (σ 38 0).toInt := (congrArg Int32.toInt (show σ78 38 0 = (σ 38 0) from ((congrFun (f80 38 (of_decide_eq_true rfl)) 0).trans (congrFun (f10 38 (of_decide_eq_true rfl)) 0))))
             have z121 : (σ78 55 32).toInt = (σ 55 32).toInt := (congrArg Int32.toInt (show σ78 55 32 = (σ 55 32) from ((congrFun (f80 55 (of_decide_eq_true rfl)) 32).trans (congrFun (f10 55 (of_decide_eq_true rfl)) 32))))
             exact by exact ih x96 σ78 τ78 _ _ ls (by have h9 := tx96; omega) ⟨I97, I98, I99, I100, I101, I102, I103, I104, I105, I106, I107, I108, I109, I110, I111, I112, I113, I114, I115, I81, I116, I117, p118, p119, (by omega)⟩ hP hS (lv_sub hl [0, 1, 2, 3] rfl)
         · obtain ⟨q127, k122, k123, k124, k125, k126⟩ := h85
           exact absurd (by omega : False) id
     · obtain ⟨q133, k128, k129, k130, k131, k132⟩ := h15
       have q133 := q133.symm
       subst q133
       refine lv_pop hx hb dL_law_1108 rfl ?_
       refine lv_aload_n hx hb dL_law_1109 rfl (lv_at hl 1 rfl) ?_
       refine lv_aload_n hx hb dL_law_1110 rfl (lv_at hl 3 rfl) ?_
       refine lv_iload_n hx hb dL_law_1111 rfl (lv_at hl 0 rfl) ?_
       refine lv_iconst (v := 1) hx hb dL_law_1112 (of_decide_eq_true rfl) ?_
       refine lv_iadd hx hb dL_law_1113 ?_
       refine jtopr ex2.symm ?_
       exact by
        refine va_sld hx hb hX hbl hbA hS (jin tx2 (by omega) (by omega)) dL_law_1114 ?_
        refine lv_aload_n hx hb dL_law_1115 rfl (lv_at hl 3 rfl) ?_
        refine lv_iload_n hx hb dL_law_1116 rfl (lv_at hl 0 rfl) ?_
        refine lv_iconst (v := 2) hx hb dL_law_1117 (of_decide_eq_true rfl) ?_
        refine lv_iadd hx hb dL_law_1118 ?_
        refine jtopr ex4.symm ?_
        refine va_sld hx hb hX hbl hbA hS (jin tx4 (by omega) (by omega)) dL_law_1119 ?_
        refine lv_aload_n hx hb dL_law_1120 rfl (lv_at hl 3 rfl) ?_
        refine lv_iload_n hx hb dL_law_1121 rfl (lv_at hl 0 rfl) ?_
        exact by
         refine lv_iconst (v := 3) hx hb dL_law_1122 (of_decide_eq_true rfl) ?_
         refine lv_iadd hx hb dL_law_1123 ?_
         refine jtopr ex6.symm ?_
         refine va_sld hx hb hX hbl hbA hS (jin tx6 (by omega) (by omega)) dL_law_1124 ?_
         have I134 : jI110 σ8 := jI110_fr (f10 86 (of_decide_eq_true rfl)) (f10 87 (of_decide_eq_true rfl)) hI110
         refine jcallV (As := [.int (xs x2.toNatClampNeg), .int (xs x4.toNatClampNeg), .int (xs x6.toNatClampNeg)]) (rest := []) ⟨hx, hb, hml, hown, hts⟩ hK hP hA hS hZ (c_X12_row l D cI cL ad zz hJ σ8 τ8 (xs x2.toNatClampNeg) ((xs x2.toNatClampNeg).toInt) rfl (xs x4.toNatClampNeg) ((xs x4.toNatClampNeg).toInt) rfl (xs x6.toNatClampNeg) ((xs x6.toNatClampNeg).toInt) rfl I134) cw_RL_144 (jc_55 cI cL ad σ8 τ8) rfl ⟨Nat.le_of_ble_eq_true rfl, Nat.le_of_ble_eq_true rfl⟩ rfl rfl rfl hl.1 rfl (Nat.le_of_ble_eq_true rfl) dL_law_1125 ⟨Nat.le_of_ble_eq_true rfl, Nat.le_of_ble_eq_true rfl⟩ (fun r136 σ135 τ135 H locs h135 hP hS => ?_)
         obtain ⟨f139, f137, I138, h135⟩ := h135
         rcases h135 with h140 | h141 | h142
         · obtain ⟨q146, k143, k144, k145⟩ := h140
           exact absurd (by omega : False) id
         · exact by
            obtain ⟨q152, k147, k148, k149, k150, k151⟩ := h141
            exact absurd (by omega : False) id
         · obtain ⟨q158, k153, k154, k155, k156, k157⟩ := h142
           have q158 := q158.symm
           subst q158
           refine lv_pop hx hb dL_law_1128 rfl ?_
           refine lv_goto (tgt := 1357) hx hb dL_law_1129 (of_decide_eq_true rfl) ?_
           obtain ⟨x159, ex159⟩ : ∃ y : Int32, y = x0 + 6 := ⟨_, rfl⟩
           have tx159 : x159.toInt = x0.toInt + 6 := (jadd ex159 rfl jz_6 (by omega) (by omega)).trans (by omega)
           exact by
            refine lv_iinc (v := x159) (lv' := [(3, .int x159), (2, .ref (ad 55)), (1, .ref (ad 0)), (0, .ref b)]) hx hb dL_law_1357 hl (k := 0) rfl (by rw [ex159]; rfl) (of_decide_eq_true rfl) rfl (fun ls hl => ?_)
            refine lv_goto (tgt := 18) hx hb dL_law_1360 (of_decide_eq_true rfl) ?_
            have I160 : jI2 σ135 := jI2_fr ((congrFun (f137 2 (of_decide_eq_true rfl)) 0).trans (congrFun (f10 2 (of_decide_eq_true rfl)) 0)) ((congrFun (f137 2 (of_decide_eq_true rfl)) 1).trans (congrFun (f10 2 (of_decide_eq_true rfl)) 1)) ((congrFun (f137 2 (of_decide_eq_true rfl)) 2).trans (congrFun (f10 2 (of_decide_eq_true rfl)) 2)) ((congrFun (f137 2 (of_decide_eq_true rfl)) 3).trans (congrFun (f10 2 (of_decide_eq_true rfl)) 3)) ((f137 6 (of_decide_eq_true rfl)).trans (f10 6 (of_decide_eq_true rfl))) hI2
            have I161 : jI9 σ135 := jI9_fr ((congrFun (f137 9 (of_decide_eq_true rfl)) 0).trans (congrFun (f10 9 (of_decide_eq_true rfl)) 0)) ((f137 10 (of_decide_eq_true rfl)).trans (f10 10 (of_decide_eq_true rfl))) ((f137 11 (of_decide_eq_true rfl)).trans (f10 11 (of_decide_eq_true rfl))) hI9
            have I162 : jI12 σ135 := jI12_fr ((congrFun (f137 12 (of_decide_eq_true rfl)) 0).trans (congrFun (f10 12 (of_decide_eq_true rfl)) 0)) ((f137 13 (of_decide_eq_true rfl)).trans (f10 13 (of_decide_eq_true rfl))) hI12
            have I163 : jI16 σ135 := jI16_fr ((congrFun (f137 16 (of_decide_eq_true rfl)) 0).trans (congrFun (f10 16 (of_decide_eq_true rfl)) 0)) ((congrFun (f137 16 (of_decide_eq_true rfl)) 1).trans (congrFun (f10 16 (of_decide_eq_true rfl)) 1)) ((congrFun (f137 16 (of_decide_eq_true rfl)) 2).trans (congrFun (f10 16 (of_decide_eq_true rfl)) 2)) ((f137 17 (of_decide_eq_true rfl)).trans (f10 17 (of_decide_eq_true rfl))) hI16
            have I164 : jI18 σ135 := jI18_fr ((congrFun (f137 18 (of_decide_eq_true rfl)) 0).trans (congrFun (f10 18 (of_decide_eq_true rfl)) 0)) ((f137 19 (of_decide_eq_true rfl)).trans (f10 19 (of_decide_eq_true rfl))) hI18
            have I165 : jI22 σ135 := jI22_fr ((congrFun (f137 22 (of_decide_eq_true rfl)) 0).trans (congrFun (f10 22 (of_decide_eq_true rfl)) 0)) ((f137 23 (of_decide_eq_true rfl)).trans (f10 23 (of_decide_eq_true rfl))) hI22
            have I166 : jI31 σ135 := jI31_fr ((congrFun (f137 31 (of_decide_eq_true rfl)) 8).trans (congrFun (f10 31 (of_decide_eq_true rfl)) 8)) ((f137 33 (of_decide_eq_true rfl)).trans (f10 33 (of_decide_eq_true rfl))) ((f137 36 (of_decide_eq_true rfl)).trans (f10 36 (of_decide_eq_true rfl))) hI31
            have I167 : jI38 σ135 := jI38_fr ((congrFun (f137 38 (of_decide_eq_true rfl)) 0).trans (congrFun (f10 38 (of_decide_eq_true rfl)) 0)) ((congrFun (f137 38 (of_decide_eq_true rfl)) 1).trans (congrFun (f10 38 (of_decide_eq_true rfl)) 1)) ((f137 39 (of_decide_eq_true rfl)).trans (f10 39 (of_decide_eq_true rfl))) hI38
            have I168 : jI43 σ135 := jI43_fr ((congrFun (f137 43 (of_decide_eq_true rfl)) 8).trans (congrFun (f10 43 (of_decide_eq_true rfl)) 8)) hI43
            have I169 : jI47 σ135 := jI47_fr ((congrFun (f137 47 (of_decide_eq_true rfl)) 0).trans (congrFun (f10 47 (of_decide_eq_true rfl)) 0)) ((f137 48 (of_decide_eq_true rfl)).trans (f10 48 (of_decide_eq_true rfl))) ((f137 49 (of_decide_eq_true rfl)).trans (f10 49 (of_decide_eq_true rfl))) hI47
            have I170 : jI50 σ135 := jI50_fr (f137 52 (of_decide_eq_true rfl)) I11
            have I171 : jI101 σ135 := jI101_fr ((congrFun (f137 55 (of_decide_eq_true rfl)) 4).trans (congrFun (f10 55 (of_decide_eq_true rfl)) 4)) ((congrFun (f137 55 (of_decide_eq_true rfl)) 5).trans (congrFun (f10 55 (of_decide_eq_true rfl)) 5)) ((f137 56 (of_decide_eq_true rfl)).trans (f10 56 (of_decide_eq_true rfl))) ((f137 57 (of_decide_eq_true rfl)).trans (f10 57 (of_decide_eq_true rfl))) ((f137 58 (of_decide_eq_true rfl)).trans (f10 58 (of_decide_eq_true rfl))) ((f137 59 (of_decide_eq_true rfl)).trans (f10 59 (of_decide_eq_true rfl))) hI101
            have I172 : jI102 σ135 := jI102_fr ((congrFun (f137 55 (of_decide_eq_true rfl)) 6).trans (congrFun (f10 55 (of_decide_eq_true rfl)) 6)) ((f137 60 (of_decide_eq_true rfl)).trans (f10 60 (of_decide_eq_true rfl))) ((f137 61 (of_decide_eq_true rfl)).trans (f10 61 (of_decide_eq_true rfl))) hI102
            have I173 : jI103 σ135 := jI103_fr ((congrFun (f137 55 (of_decide_eq_true rfl)) 9).trans (congrFun (f10 55 (of_decide_eq_true rfl)) 9)) hI103
            have I174 : jI104 σ135 := jI104_fr ((congrFun (f137 55 (of_decide_eq_true rfl)) 10).trans (congrFun (f10 55 (of_decide_eq_true rfl)) 10)) ((congrFun (f137 55 (of_decide_eq_true rfl)) 12).trans (congrFun (f10 55 (of_decide_eq_true rfl)) 12)) ((congrFun (f137 55 (of_decide_eq_true rfl)) 13).trans (congrFun (f10 55 (of_decide_eq_true rfl)) 13)) ((f137 62 (of_decide_eq_true rfl)).trans (f10 62 (of_decide_eq_true rfl))) ((f137 67 (of_decide_eq_true rfl)).trans (f10 67 (of_decide_eq_true rfl))) hI104
            have I175 : jI105 σ135 := jI105_fr ((congrFun (f137 55 (of_decide_eq_true rfl)) 15).trans (congrFun (f10 55 (of_decide_eq_true rfl)) 15)) ((f137 65 (of_decide_eq_true rfl)).trans (f10 65 (of_decide_eq_true rfl))) hI105
            have I176 : jI106 σ135 := jI106_fr ((congrFun (f137 55 (of_decide_eq_true rfl)) 32).trans (congrFun (f10 55 (of_decide_eq_true rfl)) 32)) ((f137 70 (of_decide_eq_true rfl)).trans (f10 70 (of_decide_eq_true rfl))) ((f137 71 (of_decide_eq_true rfl)).trans (f10 71 (of_decide_eq_true rfl))) ((f137 72 (of_decide_eq_true rfl)).trans (f10 72 (of_decide_eq_true rfl))) hI106
            have I177 : jI107 σ135 := jI107_fr ((congrFun (f137 55 (of_decide_eq_true rfl)) 12).trans (congrFun (f10 55 (of_decide_eq_true rfl)) 12)) ((congrFun (f137 55 (of_decide_eq_true rfl)) 47).trans (congrFun (f10 55 (of_decide_eq_true rfl)) 47)) ((f137 80 (of_decide_eq_true rfl)).trans (f10 80 (of_decide_eq_true rfl))) hI107
            have I178 : jI109 σ135 := jI109_fr ((congrFun (f137 55 (of_decide_eq_true rfl)) 50).trans (congrFun (f10 55 (of_decide_eq_true rfl)) 50)) hI109
            have I179 : jI111 σ135 := jI111_fr ((f137 79 (of_decide_eq_true rfl)).trans (f10 79 (of_decide_eq_true rfl))) hI111
            have I180 : jI119 σ135 := jI119_fr ((f137 68 (of_decide_eq_true rfl)).trans (f10 68 (of_decide_eq_true rfl))) hI119
            have p181 : jKept σ135 := jKept.fr ((f137 75 (of_decide_eq_true rfl)).trans (f10 75 (of_decide_eq_true rfl))) ((f137 76 (of_decide_eq_true rfl)).trans (f10 76 (of_decide_eq_true rfl))) ((f137 77 (of_decide_eq_true rfl)).trans (f10 77 (of_decide_eq_true rfl))) hs_jKept
            have p182 : jBook σ135 := jBook.fr ((congrFun (f137 55 (of_decide_eq_true rfl)) 47).trans (congrFun (f10 55 (of_decide_eq_true rfl)) 47)) ((congrFun (f137 55 (of_decide_eq_true rfl)) 10).trans (congrFun (f10 55 (of_decide_eq_true rfl)) 10)) ((f137 81 (of_decide_eq_true rfl)).trans (f10 81 (of_decide_eq_true rfl))) hs_jBook
            have z183 : (σ135 38 0).toInt = (σ 38 0).toInt := (congrArg Int32.toInt (show σ135 38 0 = (σ 38 0) from ((congrFun (f137 38 (of_decide_eq_true rfl)) 0).trans (congrFun (f10 38 (of_decide_eq_true rfl)) 0))))
            have z184 : (σ135 55 32).toInt = (σ 55 32).toInt := (congrArg Int32.toInt (show σ135 55 32 = (σ 55 32) from ((congrFun (f137 55 (of_decide_eq_true rfl)) 32).trans (congrFun (f10 55 (of_decide_eq_true rfl)) 32))))
            exact by exact ih x159 σ135 τ135 _ _ ls (by have h9 := tx159; omega) ⟨I160, I161, I162, I163, I164, I165, I166, I167, I168, I169, I170, I171, I172, I173, I174, I175, I176, I177, I178, I138, I179, I180, p181, p182, (by omega)⟩ hP hS (lv_sub hl [0, 1, 2, 3] rfl)
set_option maxHeartbeats 4000000 in
set_option maxRecDepth 100000 in
theorem law_case_32 {p : Program} {e : Env} {s : State} {m : MethodId} {below : List Frame} {meth : Method} {c : Code} (l : Launch) {b L : Nat} {xs : Nat → Int32} {D : va_G} {cI cL : ClassId} {ad zz : Nat → Nat} (C0 : lw_At p s m meth c b L xs) (hJ : jD ad) (hA : ∀ q, jA ad q → s.heap.size ≤ q) (hK : jK D cI cL s) (hZ : jZ zz (fun q : Nat => s.heap.size ≤ q) s s.heap) {x0 : Int32} (hx0 : 0 ≤ x0.toInt) (hxL : x0.toInt + 6 ≤ (L : Int)) (hL : L ≤ 384) {σ : Nat → Nat → Int32} {τ : Nat → Nat → Int64} {H : Heap} {locs : List Loc} (hS : va_S (fun q : Nat => s.heap.size ≤ q) s.heap H locs) {ls : Array Slot} (hAll : jAll σ τ) (hP : jH D cI cL ad σ τ H) (hl : lv_has ls 4 [(3, .int x0), (2, .ref (ad 55)), (1, .ref (ad 0)), (0, .ref b)]) (ih : ∀ (x1 : Int32) (σ : Nat → Nat → Int32) (τ : Nat → Nat → Int64) (H : Heap) (locs : List Loc) (ls : Array Slot), x1.toInt = x0.toInt + 6 → jAll σ τ → jH D cI cL ad σ τ H → va_S (fun q : Nat => s.heap.size ≤ q) s.heap H locs → lv_has ls 4 [(3, .int x1), (2, .ref (ad 55)), (1, .ref (ad 0)), (0, .ref b)] → W p l e room_1 s m #[Value.ref b] below meth c H locs 90 348600 (lw_Z below #[Value.ref b] s) (F0 m 18 ls [])) : W p l e room_1 s m #[Value.ref b] below meth c H locs 90 348600 (lw_Z below #[Value.ref b] s) (F0 m 1132 ls []) := by
  obtain ⟨hx, hb, hr, hml, hown, hts0, hX, hbl, hlocks, hgv⟩ := C0
  have hts : ∀ w ∈ wsL_law, w.before #[Value.ref b] s = true := fun w h => hts0 w (wsL_law_in w h)
  have hbA : ¬ (fun q : Nat => s.heap.size ≤ q) b := Nat.not_le.mpr hbl
  have hown : s.vm.findClass RL = some m.cls := hown
  obtain ⟨hI2, hI9, hI12, hI16, hI18, hI22, hI31, hI38, hI43, hI47, hI50, hI101, hI102, hI103, hI104, hI105, hI106, hI107, hI109, hI110, hI111, hI119, hs_jKept, hs_jBook, ht0⟩ := hAll
  have hL9 : (L : Int) ≤ 384 := by omega
  refine lv_aload_n hx hb dL_law_1132 rfl (lv_at hl 2 rfl) ?_
  refine lv_aload_n hx hb dL_law_1133 rfl (lv_at hl 3 rfl) ?_
  refine lv_iload_n hx hb dL_law_1134 rfl (lv_at hl 0 rfl) ?_
  refine lv_iconst (v := 1) hx hb dL_law_1135 (of_decide_eq_true rfl) ?_
  have g1 := jrg (rfl : x0.toInt = x0.toInt)
  refine lv_iadd hx hb dL_law_1136 ?_
  refine lv_topi (fun x2 ex2 => ?_)
  exact by
   have tx2 : x2.toInt = x0.toInt + 1 := (jadd ex2 rfl jz_1 (by omega) (by omega)).trans (by omega)
   refine va_sld hx hb hX hbl hbA hS (jin tx2 (by omega) (by omega)) dL_law_1137 ?_
   have g3 := jrg (rfl : (xs x2.toNatClampNeg).toInt = (xs x2.toNatClampNeg).toInt)
   refine lv_aload_n hx hb dL_law_1138 rfl (lv_at hl 3 rfl) ?_
   refine lv_iload_n hx hb dL_law_1139 rfl (lv_at hl 0 rfl) ?_
   refine lv_iconst (v := 2) hx hb dL_law_1140 (of_decide_eq_true rfl) ?_
   refine lv_iadd hx hb dL_law_1141 ?_
   refine lv_topi (fun x4 ex4 => ?_)
   have tx4 : x4.toInt = x0.toInt + 2 := (jadd ex4 rfl jz_2 (by omega) (by omega)).trans (by omega)
   exact by
    refine va_sld hx hb hX hbl hbA hS (jin tx4 (by omega) (by omega)) dL_law_1142 ?_
    have g5 := jrg (rfl : (xs x4.toNatClampNeg).toInt = (xs x4.toNatClampNeg).toInt)
    refine lv_aload_n hx hb dL_law_1143 rfl (lv_at hl 3 rfl) ?_
    refine lv_iload_n hx hb dL_law_1144 rfl (lv_at hl 0 rfl) ?_
    refine lv_iconst (v := 3) hx hb dL_law_1145 (of_decide_eq_true rfl) ?_
    refine lv_iadd hx hb dL_law_1146 ?_
    refine lv_topi (fun x6 ex6 => ?_)
    have tx6 : x6.toInt = x0.toInt + 3 := (jadd ex6 rfl jz_3 (by omega) (by omega)).trans (by omega)
    refine va_sld hx hb hX hbl hbA hS (jin tx6 (by omega) (by omega)) dL_law_1147 ?_
    exact by
     have g7 := jrg (rfl : (xs x6.toNatClampNeg).toInt = (xs x6.toNatClampNeg).toInt)
     refine lv_i2l (v := (xs x6.toNatClampNeg).toInt64) hx hb dL_law_1148 rfl ?_
     refine lv_bipush (v := 32) hx hb dL_law_1149 (of_decide_eq_true rfl) ?_
     refine lv_lshl hx hb dL_law_1151 rfl ?_
     refine lv_topl (fun lx8 elx8 => ?_)
     refine lv_aload_n hx hb dL_law_1152 rfl (lv_at hl 3 rfl) ?_
     refine lv_iload_n hx hb dL_law_1153 rfl (lv_at hl 0 rfl) ?_
     refine lv_iconst (v := 4) hx hb dL_law_1154 (of_decide_eq_true rfl) ?_
     refine lv_iadd hx hb dL_law_1155 ?_
     refine lv_topi (fun x9 ex9 => ?_)
     exact by
      have tx9 : x9.toInt = x0.toInt + 4 := (jadd ex9 rfl jz_4 (by omega) (by omega)).trans (by omega)
      refine va_sld hx hb hX hbl hbA hS (jin tx9 (by omega) (by omega)) dL_law_1156 ?_
      have g10 := jrg (rfl : (xs x9.toNatClampNeg).toInt = (xs x9.toNatClampNeg).toInt)
      refine lv_i2l (v := (xs x9.toNatClampNeg).toInt64) hx hb dL_law_1157 rfl ?_
      refine lv_ldc2 (v := 4294967295) hx hb hown (hts _ kw_1_6) dL_law_1158 ?_
      refine lv_land hx hb dL_law_1161 ?_
      refine lv_topl (fun lx11 elx11 => ?_)
      refine lv_lor hx hb dL_law_1162 ?_
      refine lv_topl (fun lx12 elx12 => ?_)
      exact by
       refine jcallV (As := [.int (xs x2.toNatClampNeg), .int (xs x4.toNatClampNeg), .long lx12]) (rest := []) ⟨hx, hb, hml, hown, hts⟩ hK hP hA hS hZ (c_X11_put l D cI cL ad zz hJ σ τ (xs x2.toNatClampNeg) ((xs x2.toNatClampNeg).toInt) rfl (xs x4.toNatClampNeg) ((xs x4.toNatClampNeg).toInt) rfl lx12 (lx12.toInt) rfl hI50) cw_RL_147 (jc_0 cI cL ad σ τ) rfl ⟨Nat.le_of_ble_eq_true rfl, Nat.le_of_ble_eq_true rfl⟩ rfl rfl rfl hl.1 rfl (Nat.le_of_ble_eq_true rfl) dL_law_1163 ⟨Nat.le_of_ble_eq_true rfl, Nat.le_of_ble_eq_true rfl⟩ (fun r14 σ13 τ13 H locs h13 hP hS => ?_)
       obtain ⟨f18, f15, w16, w17, h13⟩ := h13
       refine lv_pop hx hb dL_law_1166 rfl ?_
       refine lv_aload_n hx hb dL_law_1167 rfl (lv_at hl 1 rfl) ?_
       refine lv_aload_n hx hb dL_law_1168 rfl (lv_at hl 3 rfl) ?_
       refine lv_iload_n hx hb dL_law_1169 rfl (lv_at hl 0 rfl) ?_
       refine lv_iconst (v := 1) hx hb dL_law_1170 (of_decide_eq_true rfl) ?_
       refine lv_iadd hx hb dL_law_1171 ?_
       refine jtopr ex2.symm ?_
       exact by
        refine va_sld hx hb hX hbl hbA hS (jin tx2 (by omega) (by omega)) dL_law_1172 ?_
        refine lv_aload_n hx hb dL_law_1173 rfl (lv_at hl 3 rfl) ?_
        refine lv_iload_n hx hb dL_law_1174 rfl (lv_at hl 0 rfl) ?_
        refine lv_iconst (v := 2) hx hb dL_law_1175 (of_decide_eq_true rfl) ?_
        refine lv_iadd hx hb dL_law_1176 ?_
        refine jtopr ex4.symm ?_
        refine va_sld hx hb hX hbl hbA hS (jin tx4 (by omega) (by omega)) dL_law_1177 ?_
        refine lv_aload_n hx hb dL_law_1178 rfl (lv_at hl 3 rfl) ?_
        refine lv_iload_n hx hb dL_law_1179 rfl (lv_at hl 0 rfl) ?_
        exact by
         refine lv_iconst (v := 3) hx hb dL_law_1180 (of_decide_eq_true rfl) ?_
         refine lv_iadd hx hb dL_law_1181 ?_
         refine jtopr ex6.symm ?_
         refine va_sld hx hb hX hbl hbA hS (jin tx6 (by omega) (by omega)) dL_law_1182 ?_
         refine lv_i2l (v := (xs x6.toNatClampNeg).toInt64) hx hb dL_law_1183 rfl ?_
         refine lv_bipush (v := 32) hx hb dL_law_1184 (of_decide_eq_true rfl) ?_
         refine lv_lshl hx hb dL_law_1186 rfl ?_
         refine lv_topl (fun lx19 elx19 => ?_)
         refine lv_aload_n hx hb dL_law_1187 rfl (lv_at hl 3 rfl) ?_
         exact by
          refine lv_iload_n hx hb dL_law_1188 rfl (lv_at hl 0 rfl) ?_
          refine lv_iconst (v := 4) hx hb dL_law_1189 (of_decide_eq_true rfl) ?_
          refine lv_iadd hx hb dL_law_1190 ?_
          refine jtopr ex9.symm ?_
          refine va_sld hx hb hX hbl hbA hS (jin tx9 (by omega) (by omega)) dL_law_1191 ?_
          refine lv_i2l (v := (xs x9.toNatClampNeg).toInt64) hx hb dL_law_1192 rfl ?_
          refine lv_ldc2 (v := 4294967295) hx hb hown (hts _ kw_1_6) dL_law_1193 ?_
          refine lv_land hx hb dL_law_1196 ?_
          refine lv_topl (fun lx20 elx20 => ?_)
          exact by
           refine lv_lor hx hb dL_law_1197 ?_
           refine lv_topl (fun lx21 elx21 => ?_)
           have I22 : jI110 σ13 := jI110_fr (f15 86 (of_decide_eq_true rfl)) (f15 87 (of_decide_eq_true rfl)) hI110
           refine jcallV (As := [.int (xs x2.toNatClampNeg), .int (xs x4.toNatClampNeg), .long lx21]) (rest := []) ⟨hx, hb, hml, hown, hts⟩ hK hP hA hS hZ (c_X12_put l D cI cL ad zz hJ σ13 τ13 (xs x2.toNatClampNeg) ((xs x2.toNatClampNeg).toInt) rfl (xs x4.toNatClampNeg) ((xs x4.toNatClampNeg).toInt) rfl lx21 (lx21.toInt) rfl I22) cw_RL_151 (jc_55 cI cL ad σ13 τ13) rfl ⟨Nat.le_of_ble_eq_true rfl, Nat.le_of_ble_eq_true rfl⟩ rfl rfl rfl hl.1 rfl (Nat.le_of_ble_eq_true rfl) dL_law_1198 ⟨Nat.le_of_ble_eq_true rfl, Nat.le_of_ble_eq_true rfl⟩ (fun r24 σ23 τ23 H locs h23 hP hS => ?_)
           obtain ⟨f28, f25, w26, w27, h23⟩ := h23
           refine lv_pop hx hb dL_law_1201 rfl ?_
           refine lv_goto (tgt := 1357) hx hb dL_law_1202 (of_decide_eq_true rfl) ?_
           obtain ⟨x29, ex29⟩ : ∃ y : Int32, y = x0 + 6 := ⟨_, rfl⟩
           have tx29 : x29.toInt = x0.toInt + 6 := (jadd ex29 rfl jz_6 (by omega) (by omega)).trans (by omega)
           exact by
            refine lv_iinc (v := x29) (lv' := [(3, .int x29), (2, .ref (ad 55)), (1, .ref (ad 0)), (0, .ref b)]) hx hb dL_law_1357 hl (k := 0) rfl (by rw [ex29]; rfl) (of_decide_eq_true rfl) rfl (fun ls hl => ?_)
            refine lv_goto (tgt := 18) hx hb dL_law_1360 (of_decide_eq_true rfl) ?_
            have I30 : jI2 σ23 := jI2_fr ((congrFun (f25 2 (of_decide_eq_true rfl)) 0).trans (congrFun (f15 2 (of_decide_eq_true rfl)) 0)) ((congrFun (f25 2 (of_decide_eq_true rfl)) 1).trans (congrFun (f15 2 (of_decide_eq_true rfl)) 1)) ((congrFun (f25 2 (of_decide_eq_true rfl)) 2).trans (congrFun (f15 2 (of_decide_eq_true rfl)) 2)) ((congrFun (f25 2 (of_decide_eq_true rfl)) 3).trans (congrFun (f15 2 (of_decide_eq_true rfl)) 3)) ((f25 6 (of_decide_eq_true rfl)).trans (f15 6 (of_decide_eq_true rfl))) hI2
            have I31 : jI9 σ23 := jI9_fr ((congrFun (f25 9 (of_decide_eq_true rfl)) 0).trans (congrFun (f15 9 (of_decide_eq_true rfl)) 0)) ((f25 10 (of_decide_eq_true rfl)).trans (f15 10 (of_decide_eq_true rfl))) ((f25 11 (of_decide_eq_true rfl)).trans (f15 11 (of_decide_eq_true rfl))) hI9
            have I32 : jI12 σ23 := jI12_fr ((congrFun (f25 12 (of_decide_eq_true rfl)) 0).trans (congrFun (f15 12 (of_decide_eq_true rfl)) 0)) ((f25 13 (of_decide_eq_true rfl)).trans (f15 13 (of_decide_eq_true rfl))) hI12
            have I33 : jI16 σ23 := jI16_fr ((congrFun (f25 16 (of_decide_eq_true rfl)) 0).trans (congrFun (f15 16 (of_decide_eq_true rfl)) 0)) ((congrFun (f25 16 (of_decide_eq_true rfl)) 1).trans (congrFun (f15 16 (of_decide_eq_true rfl)) 1)) ((congrFun (f25 16 (of_decide_eq_true rfl)) 2).trans (congrFun (f15 16 (of_decide_eq_true rfl)) 2)) ((f25 17 (of_decide_eq_true rfl)).trans (f15 17 (of_decide_eq_true rfl))) hI16
            have I34 : jI18 σ23 := jI18_fr ((congrFun (f25 18 (of_decide_eq_true rfl)) 0).trans (congrFun (f15 18 (of_decide_eq_true rfl)) 0)) ((f25 19 (of_decide_eq_true rfl)).trans (f15 19 (of_decide_eq_true rfl))) hI18
            have I35 : jI22 σ23 := jI22_fr ((congrFun (f25 22 (of_decide_eq_true rfl)) 0).trans (congrFun (f15 22 (of_decide_eq_true rfl)) 0)) ((f25 23 (of_decide_eq_true rfl)).trans (f15 23 (of_decide_eq_true rfl))) hI22
            have I36 : jI31 σ23 := jI31_fr ((congrFun (f25 31 (of_decide_eq_true rfl)) 8).trans (congrFun (f15 31 (of_decide_eq_true rfl)) 8)) ((f25 33 (of_decide_eq_true rfl)).trans (f15 33 (of_decide_eq_true rfl))) ((f25 36 (of_decide_eq_true rfl)).trans (f15 36 (of_decide_eq_true rfl))) hI31
            have I37 : jI38 σ23 := jI38_fr ((congrFun (f25 38 (of_decide_eq_true rfl)) 0).trans (congrFun (f15 38 (of_decide_eq_true rfl)) 0)) ((congrFun (f25 38 (of_decide_eq_true rfl)) 1).trans (congrFun (f15 38 (of_decide_eq_true rfl)) 1)) ((f25 39 (of_decide_eq_true rfl)).trans (f15 39 (of_decide_eq_true rfl))) hI38
            have I38 : jI43 σ23 := jI43_fr ((congrFun (f25 43 (of_decide_eq_true rfl)) 8).trans (congrFun (f15 43 (of_decide_eq_true rfl)) 8)) hI43
            have I39 : jI47 σ23 := jI47_fr ((congrFun (f25 47 (of_decide_eq_true rfl)) 0).trans (congrFun (f15 47 (of_decide_eq_true rfl)) 0)) ((f25 48 (of_decide_eq_true rfl)).trans (f15 48 (of_decide_eq_true rfl))) ((f25 49 (of_decide_eq_true rfl)).trans (f15 49 (of_decide_eq_true rfl))) hI47
            have I40 : jI50 σ23 := jI50_fr ((f25 52 (of_decide_eq_true rfl)).trans (f15 52 (of_decide_eq_true rfl))) hI50
            have I41 : jI101 σ23 := jI101_fr ((congrFun (f25 55 (of_decide_eq_true rfl)) 4).trans (congrFun (f15 55 (of_decide_eq_true rfl)) 4)) ((congrFun (f25 55 (of_decide_eq_true rfl)) 5).trans (congrFun (f15 55 (of_decide_eq_true rfl)) 5)) ((f25 56 (of_decide_eq_true rfl)).trans (f15 56 (of_decide_eq_true rfl))) ((f25 57 (of_decide_eq_true rfl)).trans (f15 57 (of_decide_eq_true rfl))) ((f25 58 (of_decide_eq_true rfl)).trans (f15 58 (of_decide_eq_true rfl))) ((f25 59 (of_decide_eq_true rfl)).trans (f15 59 (of_decide_eq_true rfl))) hI101
            have I42 : jI102 σ23 := jI102_fr ((congrFun (f25 55 (of_decide_eq_true rfl)) 6).trans (congrFun (f15 55 (of_decide_eq_true rfl)) 6)) ((f25 60 (of_decide_eq_true rfl)).trans (f15 60 (of_decide_eq_true rfl))) ((f25 61 (of_decide_eq_true rfl)).trans (f15 61 (of_decide_eq_true rfl))) hI102
            have I43 : jI103 σ23 := jI103_fr ((congrFun (f25 55 (of_decide_eq_true rfl)) 9).trans (congrFun (f15 55 (of_decide_eq_true rfl)) 9)) hI103
            have I44 : jI104 σ23 := jI104_fr ((congrFun (f25 55 (of_decide_eq_true rfl)) 10).trans (congrFun (f15 55 (of_decide_eq_true rfl)) 10)) ((congrFun (f25 55 (of_decide_eq_true rfl)) 12).trans (congrFun (f15 55 (of_decide_eq_true rfl)) 12)) ((congrFun (f25 55 (of_decide_eq_true rfl)) 13).trans (congrFun (f15 55 (of_decide_eq_true rfl)) 13)) ((f25 62 (of_decide_eq_true rfl)).trans (f15 62 (of_decide_eq_true rfl))) ((f25 67 (of_decide_eq_true rfl)).trans (f15 67 (of_decide_eq_true rfl))) hI104
            have I45 : jI105 σ23 := jI105_fr ((congrFun (f25 55 (of_decide_eq_true rfl)) 15).trans (congrFun (f15 55 (of_decide_eq_true rfl)) 15)) ((f25 65 (of_decide_eq_true rfl)).trans (f15 65 (of_decide_eq_true rfl))) hI105
            have I46 : jI106 σ23 := jI106_fr ((congrFun (f25 55 (of_decide_eq_true rfl)) 32).trans (congrFun (f15 55 (of_decide_eq_true rfl)) 32)) ((f25 70 (of_decide_eq_true rfl)).trans (f15 70 (of_decide_eq_true rfl))) ((f25 71 (of_decide_eq_true rfl)).trans (f15 71 (of_decide_eq_true rfl))) ((f25 72 (of_decide_eq_true rfl)).trans (f15 72 (of_decide_eq_true rfl))) hI106
            have I47 : jI107 σ23 := jI107_fr ((congrFun (f25 55 (of_decide_eq_true rfl)) 12).trans (congrFun (f15 55 (of_decide_eq_true rfl)) 12)) ((congrFun (f25 55 (of_decide_eq_true rfl)) 47).trans (congrFun (f15 55 (of_decide_eq_true rfl)) 47)) ((f25 80 (of_decide_eq_true rfl)).trans (f15 80 (of_decide_eq_true rfl))) hI107
            have I48 : jI109 σ23 := jI109_fr ((congrFun (f25 55 (of_decide_eq_true rfl)) 50).trans (congrFun (f15 55 (of_decide_eq_true rfl)) 50)) hI109
            have I49 : jI110 σ23 := jI110_fr (f25 86 (of_decide_eq_true rfl)) (f25 87 (of_decide_eq_true rfl)) I22
            have I50 : jI111 σ23 := jI111_fr ((f25 79 (of_decide_eq_true rfl)).trans (f15 79 (of_decide_eq_true rfl))) hI111
            have I51 : jI119 σ23 := jI119_fr ((f25 68 (of_decide_eq_true rfl)).trans (f15 68 (of_decide_eq_true rfl))) hI119
            have p52 : jKept σ23 := jKept.fr ((f25 75 (of_decide_eq_true rfl)).trans (f15 75 (of_decide_eq_true rfl))) ((f25 76 (of_decide_eq_true rfl)).trans (f15 76 (of_decide_eq_true rfl))) ((f25 77 (of_decide_eq_true rfl)).trans (f15 77 (of_decide_eq_true rfl))) hs_jKept
            have p53 : jBook σ23 := jBook.fr ((congrFun (f25 55 (of_decide_eq_true rfl)) 47).trans (congrFun (f15 55 (of_decide_eq_true rfl)) 47)) ((congrFun (f25 55 (of_decide_eq_true rfl)) 10).trans (congrFun (f15 55 (of_decide_eq_true rfl)) 10)) ((f25 81 (of_decide_eq_true rfl)).trans (f15 81 (of_decide_eq_true rfl))) hs_jBook
            have z54 : (σ23 38 0).toInt = (σ 38 0).toInt := (congrArg Int32.toInt (show σ23 38 0 = (σ 38 0) from ((congrFun (f25 38 (of_decide_eq_true rfl)) 0).trans (congrFun (f15 38 (of_decide_eq_true rfl)) 0))))
            have z55 : (σ23 55 32).toInt = (σ 55 32).toInt := (congrArg Int32.toInt (show σ23 55 32 = (σ 55 32) from ((congrFun (f25 55 (of_decide_eq_true rfl)) 32).trans (congrFun (f15 55 (of_decide_eq_true rfl)) 32))))
            exact by exact ih x29 σ23 τ23 _ _ ls (by have h9 := tx29; omega) ⟨I30, I31, I32, I33, I34, I35, I36, I37, I38, I39, I40, I41, I42, I43, I44, I45, I46, I47, I48, I49, I50, I51, p52, p53, (by omega)⟩ hP hS (lv_sub hl [0, 1, 2, 3] rfl)
set_option maxHeartbeats 4000000 in
set_option maxRecDepth 100000 in
theorem law_case_33 {p : Program} {e : Env} {s : State} {m : MethodId} {below : List Frame} {meth : Method} {c : Code} (l : Launch) {b L : Nat} {xs : Nat → Int32} {D : va_G} {cI cL : ClassId} {ad zz : Nat → Nat} (C0 : lw_At p s m meth c b L xs) (hJ : jD ad) (hA : ∀ q, jA ad q → s.heap.size ≤ q) (hK : jK D cI cL s) (hZ : jZ zz (fun q : Nat => s.heap.size ≤ q) s s.heap) {x0 : Int32} (hx0 : 0 ≤ x0.toInt) (hxL : x0.toInt + 6 ≤ (L : Int)) (hL : L ≤ 384) {σ : Nat → Nat → Int32} {τ : Nat → Nat → Int64} {H : Heap} {locs : List Loc} (hS : va_S (fun q : Nat => s.heap.size ≤ q) s.heap H locs) {ls : Array Slot} (hAll : jAll σ τ) (hP : jH D cI cL ad σ τ H) (hl : lv_has ls 4 [(3, .int x0), (2, .ref (ad 55)), (1, .ref (ad 0)), (0, .ref b)]) (ih : ∀ (x1 : Int32) (σ : Nat → Nat → Int32) (τ : Nat → Nat → Int64) (H : Heap) (locs : List Loc) (ls : Array Slot), x1.toInt = x0.toInt + 6 → jAll σ τ → jH D cI cL ad σ τ H → va_S (fun q : Nat => s.heap.size ≤ q) s.heap H locs → lv_has ls 4 [(3, .int x1), (2, .ref (ad 55)), (1, .ref (ad 0)), (0, .ref b)] → W p l e room_1 s m #[Value.ref b] below meth c H locs 90 348600 (lw_Z below #[Value.ref b] s) (F0 m 18 ls [])) : W p l e room_1 s m #[Value.ref b] below meth c H locs 90 348600 (lw_Z below #[Value.ref b] s) (F0 m 1205 ls []) := by
  obtain ⟨hx, hb, hr, hml, hown, hts0, hX, hbl, hlocks, hgv⟩ := C0
  have hts : ∀ w ∈ wsL_law, w.before #[Value.ref b] s = true := fun w h => hts0 w (wsL_law_in w h)
  have hbA : ¬ (fun q : Nat => s.heap.size ≤ q) b := Nat.not_le.mpr hbl
  have hown : s.vm.findClass RL = some m.cls := hown
  obtain ⟨hI2, hI9, hI12, hI16, hI18, hI22, hI31, hI38, hI43, hI47, hI50, hI101, hI102, hI103, hI104, hI105, hI106, hI107, hI109, hI110, hI111, hI119, hs_jKept, hs_jBook, ht0⟩ := hAll
  have hL9 : (L : Int) ≤ 384 := by omega
  refine lv_aload_n hx hb dL_law_1205 rfl (lv_at hl 2 rfl) ?_
  refine lv_aload_n hx hb dL_law_1206 rfl (lv_at hl 3 rfl) ?_
  refine lv_iload_n hx hb dL_law_1207 rfl (lv_at hl 0 rfl) ?_
  refine lv_iconst (v := 1) hx hb dL_law_1208 (of_decide_eq_true rfl) ?_
  have g1 := jrg (rfl : x0.toInt = x0.toInt)
  refine lv_iadd hx hb dL_law_1209 ?_
  refine lv_topi (fun x2 ex2 => ?_)
  exact by
   have tx2 : x2.toInt = x0.toInt + 1 := (jadd ex2 rfl jz_1 (by omega) (by omega)).trans (by omega)
   refine va_sld hx hb hX hbl hbA hS (jin tx2 (by omega) (by omega)) dL_law_1210 ?_
   have g3 := jrg (rfl : (xs x2.toNatClampNeg).toInt = (xs x2.toNatClampNeg).toInt)
   refine lv_aload_n hx hb dL_law_1211 rfl (lv_at hl 3 rfl) ?_
   refine lv_iload_n hx hb dL_law_1212 rfl (lv_at hl 0 rfl) ?_
   refine lv_iconst (v := 2) hx hb dL_law_1213 (of_decide_eq_true rfl) ?_
   refine lv_iadd hx hb dL_law_1214 ?_
   refine lv_topi (fun x4 ex4 => ?_)
   have tx4 : x4.toInt = x0.toInt + 2 := (jadd ex4 rfl jz_2 (by omega) (by omega)).trans (by omega)
   exact by
    refine va_sld hx hb hX hbl hbA hS (jin tx4 (by omega) (by omega)) dL_law_1215 ?_
    have g5 := jrg (rfl : (xs x4.toNatClampNeg).toInt = (xs x4.toNatClampNeg).toInt)
    refine jcallVl (As := [.int (xs x2.toNatClampNeg), .int (xs x4.toNatClampNeg)]) (rest := []) ⟨hx, hb, hml, hown, hts⟩ hK hP hA hS hZ (c_X11_element l D cI cL ad zz hJ σ τ (xs x2.toNatClampNeg) ((xs x2.toNatClampNeg).toInt) rfl (xs x4.toNatClampNeg) ((xs x4.toNatClampNeg).toInt) rfl hI50) cw_RL_152 (jc_0 cI cL ad σ τ) rfl ⟨Nat.le_of_ble_eq_true rfl, Nat.le_of_ble_eq_true rfl⟩ rfl rfl rfl hl.1 rfl (Nat.le_of_ble_eq_true rfl) dL_law_1216 ⟨Nat.le_of_ble_eq_true rfl, Nat.le_of_ble_eq_true rfl⟩ (fun lxr7 σ6 τ6 H locs h6 hP hS => ?_)
    obtain ⟨⟨rfl, rfl⟩, w8, h6⟩ := h6
    refine lv_pop2_2 hx hb dL_law_1219 rfl ?_
    refine lv_aload_n hx hb dL_law_1220 rfl (lv_at hl 1 rfl) ?_
    refine lv_aload_n hx hb dL_law_1221 rfl (lv_at hl 3 rfl) ?_
    refine lv_iload_n hx hb dL_law_1222 rfl (lv_at hl 0 rfl) ?_
    refine lv_iconst (v := 1) hx hb dL_law_1223 (of_decide_eq_true rfl) ?_
    refine lv_iadd hx hb dL_law_1224 ?_
    refine jtopr ex2.symm ?_
    exact by
     refine va_sld hx hb hX hbl hbA hS (jin tx2 (by omega) (by omega)) dL_law_1225 ?_
     refine lv_aload_n hx hb dL_law_1226 rfl (lv_at hl 3 rfl) ?_
     refine lv_iload_n hx hb dL_law_1227 rfl (lv_at hl 0 rfl) ?_
     refine lv_iconst (v := 2) hx hb dL_law_1228 (of_decide_eq_true rfl) ?_
     refine lv_iadd hx hb dL_law_1229 ?_
     refine jtopr ex4.symm ?_
     refine va_sld hx hb hX hbl hbA hS (jin tx4 (by omega) (by omega)) dL_law_1230 ?_
     refine jcallVl (As := [.int (xs x2.toNatClampNeg), .int (xs x4.toNatClampNeg)]) (rest := []) ⟨hx, hb, hml, hown, hts⟩ hK hP hA hS hZ (c_X12_element l D cI cL ad zz hJ σ τ (xs x2.toNatClampNeg) ((xs x2.toNatClampNeg).toInt) rfl (xs x4.toNatClampNeg) ((xs x4.toNatClampNeg).toInt) rfl hI110) cw_RL_156 (jc_55 cI cL ad σ τ) rfl ⟨Nat.le_of_ble_eq_true rfl, Nat.le_of_ble_eq_true rfl⟩ rfl rfl rfl hl.1 rfl (Nat.le_of_ble_eq_true rfl) dL_law_1231 ⟨Nat.le_of_ble_eq_true rfl, Nat.le_of_ble_eq_true rfl⟩ (fun lxr10 σ9 τ9 H locs h9 hP hS => ?_)
     obtain ⟨⟨rfl, rfl⟩, w11, h9⟩ := h9
     exact by
      refine lv_pop2_2 hx hb dL_law_1234 rfl ?_
      refine lv_goto (tgt := 1357) hx hb dL_law_1235 (of_decide_eq_true rfl) ?_
      obtain ⟨x12, ex12⟩ : ∃ y : Int32, y = x0 + 6 := ⟨_, rfl⟩
      have tx12 : x12.toInt = x0.toInt + 6 := (jadd ex12 rfl jz_6 (by omega) (by omega)).trans (by omega)
      refine lv_iinc (v := x12) (lv' := [(3, .int x12), (2, .ref (ad 55)), (1, .ref (ad 0)), (0, .ref b)]) hx hb dL_law_1357 hl (k := 0) rfl (by rw [ex12]; rfl) (of_decide_eq_true rfl) rfl (fun ls hl => ?_)
      refine lv_goto (tgt := 18) hx hb dL_law_1360 (of_decide_eq_true rfl) ?_
      exact by exact ih x12 σ τ _ _ ls (by have h9 := tx12; omega) ⟨hI2, hI9, hI12, hI16, hI18, hI22, hI31, hI38, hI43, hI47, hI50, hI101, hI102, hI103, hI104, hI105, hI106, hI107, hI109, hI110, hI111, hI119, hs_jKept, hs_jBook, (by omega)⟩ hP hS (lv_sub hl [0, 1, 2, 3] rfl)
set_option maxHeartbeats 4000000 in
set_option maxRecDepth 100000 in
theorem law_case_34 {p : Program} {e : Env} {s : State} {m : MethodId} {below : List Frame} {meth : Method} {c : Code} (l : Launch) {b L : Nat} {xs : Nat → Int32} {D : va_G} {cI cL : ClassId} {ad zz : Nat → Nat} (C0 : lw_At p s m meth c b L xs) (hJ : jD ad) (hA : ∀ q, jA ad q → s.heap.size ≤ q) (hK : jK D cI cL s) (hZ : jZ zz (fun q : Nat => s.heap.size ≤ q) s s.heap) {x0 : Int32} (hx0 : 0 ≤ x0.toInt) (hxL : x0.toInt + 6 ≤ (L : Int)) (hL : L ≤ 384) {σ : Nat → Nat → Int32} {τ : Nat → Nat → Int64} {H : Heap} {locs : List Loc} (hS : va_S (fun q : Nat => s.heap.size ≤ q) s.heap H locs) {ls : Array Slot} (hAll : jAll σ τ) (hP : jH D cI cL ad σ τ H) (hl : lv_has ls 4 [(3, .int x0), (2, .ref (ad 55)), (1, .ref (ad 0)), (0, .ref b)]) (ih : ∀ (x1 : Int32) (σ : Nat → Nat → Int32) (τ : Nat → Nat → Int64) (H : Heap) (locs : List Loc) (ls : Array Slot), x1.toInt = x0.toInt + 6 → jAll σ τ → jH D cI cL ad σ τ H → va_S (fun q : Nat => s.heap.size ≤ q) s.heap H locs → lv_has ls 4 [(3, .int x1), (2, .ref (ad 55)), (1, .ref (ad 0)), (0, .ref b)] → W p l e room_1 s m #[Value.ref b] below meth c H locs 90 348600 (lw_Z below #[Value.ref b] s) (F0 m 18 ls [])) : W p l e room_1 s m #[Value.ref b] below meth c H locs 90 348600 (lw_Z below #[Value.ref b] s) (F0 m 1238 ls []) := by
  obtain ⟨hx, hb, hr, hml, hown, hts0, hX, hbl, hlocks, hgv⟩ := C0
  have hts : ∀ w ∈ wsL_law, w.before #[Value.ref b] s = true := fun w h => hts0 w (wsL_law_in w h)
  have hbA : ¬ (fun q : Nat => s.heap.size ≤ q) b := Nat.not_le.mpr hbl
  have hown : s.vm.findClass RL = some m.cls := hown
  obtain ⟨hI2, hI9, hI12, hI16, hI18, hI22, hI31, hI38, hI43, hI47, hI50, hI101, hI102, hI103, hI104, hI105, hI106, hI107, hI109, hI110, hI111, hI119, hs_jKept, hs_jBook, ht0⟩ := hAll
  have hL9 : (L : Int) ≤ 384 := by omega
  refine lv_aload_n hx hb dL_law_1238 rfl (lv_at hl 2 rfl) ?_
  refine lv_aload_n hx hb dL_law_1239 rfl (lv_at hl 3 rfl) ?_
  refine lv_iload_n hx hb dL_law_1240 rfl (lv_at hl 0 rfl) ?_
  refine lv_iconst (v := 1) hx hb dL_law_1241 (of_decide_eq_true rfl) ?_
  have g1 := jrg (rfl : x0.toInt = x0.toInt)
  refine lv_iadd hx hb dL_law_1242 ?_
  refine lv_topi (fun x2 ex2 => ?_)
  exact by
   have tx2 : x2.toInt = x0.toInt + 1 := (jadd ex2 rfl jz_1 (by omega) (by omega)).trans (by omega)
   refine va_sld hx hb hX hbl hbA hS (jin tx2 (by omega) (by omega)) dL_law_1243 ?_
   have g3 := jrg (rfl : (xs x2.toNatClampNeg).toInt = (xs x2.toNatClampNeg).toInt)
   refine lv_aload_n hx hb dL_law_1244 rfl (lv_at hl 3 rfl) ?_
   refine lv_iload_n hx hb dL_law_1245 rfl (lv_at hl 0 rfl) ?_
   refine lv_iconst (v := 2) hx hb dL_law_1246 (of_decide_eq_true rfl) ?_
   refine lv_iadd hx hb dL_law_1247 ?_
   refine lv_topi (fun x4 ex4 => ?_)
   have tx4 : x4.toInt = x0.toInt + 2 := (jadd ex4 rfl jz_2 (by omega) (by omega)).trans (by omega)
   exact by
    refine va_sld hx hb hX hbl hbA hS (jin tx4 (by omega) (by omega)) dL_law_1248 ?_
    have g5 := jrg (rfl : (xs x4.toNatClampNeg).toInt = (xs x4.toNatClampNeg).toInt)
    refine lv_aload_n hx hb dL_law_1249 rfl (lv_at hl 3 rfl) ?_
    refine lv_iload_n hx hb dL_law_1250 rfl (lv_at hl 0 rfl) ?_
    refine lv_iconst (v := 3) hx hb dL_law_1251 (of_decide_eq_true rfl) ?_
    refine lv_iadd hx hb dL_law_1252 ?_
    refine lv_topi (fun x6 ex6 => ?_)
    have tx6 : x6.toInt = x0.toInt + 3 := (jadd ex6 rfl jz_3 (by omega) (by omega)).trans (by omega)
    refine va_sld hx hb hX hbl hbA hS (jin tx6 (by omega) (by omega)) dL_law_1253 ?_
    exact by
     have g7 := jrg (rfl : (xs x6.toNatClampNeg).toInt = (xs x6.toNatClampNeg).toInt)
     refine lv_aload_n hx hb dL_law_1254 rfl (lv_at hl 3 rfl) ?_
     refine lv_iload_n hx hb dL_law_1255 rfl (lv_at hl 0 rfl) ?_
     refine lv_iconst (v := 4) hx hb dL_law_1256 (of_decide_eq_true rfl) ?_
     refine lv_iadd hx hb dL_law_1257 ?_
     refine lv_topi (fun x8 ex8 => ?_)
     have tx8 : x8.toInt = x0.toInt + 4 := (jadd ex8 rfl jz_4 (by omega) (by omega)).trans (by omega)
     refine va_sld hx hb hX hbl hbA hS (jin tx8 (by omega) (by omega)) dL_law_1258 ?_
     have g9 := jrg (rfl : (xs x8.toNatClampNeg).toInt = (xs x8.toNatClampNeg).toInt)
     exact by
      refine lv_aload_n hx hb dL_law_1259 rfl (lv_at hl 3 rfl) ?_
      refine lv_iload_n hx hb dL_law_1260 rfl (lv_at hl 0 rfl) ?_
      refine lv_iconst (v := 5) hx hb dL_law_1261 (of_decide_eq_true rfl) ?_
      refine lv_iadd hx hb dL_law_1262 ?_
      refine lv_topi (fun x10 ex10 => ?_)
      have tx10 : x10.toInt = x0.toInt + 5 := (jadd ex10 rfl jz_5 (by omega) (by omega)).trans (by omega)
      refine va_sld hx hb hX hbl hbA hS (jin tx10 (by omega) (by omega)) dL_law_1263 ?_
      have g11 := jrg (rfl : (xs x10.toNatClampNeg).toInt = (xs x10.toNatClampNeg).toInt)
      refine jcallV (As := [.int (xs x2.toNatClampNeg), .int (xs x4.toNatClampNeg), .int (xs x6.toNatClampNeg), .int (xs x8.toNatClampNeg), .int (xs x10.toNatClampNeg)]) (rest := []) ⟨hx, hb, hml, hown, hts⟩ hK hP hA hS hZ (c_X11_shift l D cI cL ad zz hJ σ τ (xs x2.toNatClampNeg) ((xs x2.toNatClampNeg).toInt) rfl (xs x4.toNatClampNeg) ((xs x4.toNatClampNeg).toInt) rfl (xs x6.toNatClampNeg) ((xs x6.toNatClampNeg).toInt) rfl (xs x8.toNatClampNeg) ((xs x8.toNatClampNeg).toInt) rfl (xs x10.toNatClampNeg) ((xs x10.toNatClampNeg).toInt) rfl hI50) cw_RL_157 (jc_0 cI cL ad σ τ) rfl ⟨Nat.le_of_ble_eq_true rfl, Nat.le_of_ble_eq_true rfl⟩ rfl rfl rfl hl.1 rfl (Nat.le_of_ble_eq_true rfl) dL_law_1264 ⟨Nat.le_of_ble_eq_true rfl, Nat.le_of_ble_eq_true rfl⟩ (fun r13 σ12 τ12 H locs h12 hP hS => ?_)
      exact by
       obtain ⟨f17, f14, w15, w16, h12⟩ := h12
       refine lv_pop hx hb dL_law_1267 rfl ?_
       refine lv_aload_n hx hb dL_law_1268 rfl (lv_at hl 1 rfl) ?_
       refine lv_aload_n hx hb dL_law_1269 rfl (lv_at hl 3 rfl) ?_
       refine lv_iload_n hx hb dL_law_1270 rfl (lv_at hl 0 rfl) ?_
       refine lv_iconst (v := 1) hx hb dL_law_1271 (of_decide_eq_true rfl) ?_
       refine lv_iadd hx hb dL_law_1272 ?_
       refine jtopr ex2.symm ?_
       refine va_sld hx hb hX hbl hbA hS (jin tx2 (by omega) (by omega)) dL_law_1273 ?_
       exact by
        refine lv_aload_n hx hb dL_law_1274 rfl (lv_at hl 3 rfl) ?_
        refine lv_iload_n hx hb dL_law_1275 rfl (lv_at hl 0 rfl) ?_
        refine lv_iconst (v := 2) hx hb dL_law_1276 (of_decide_eq_true rfl) ?_
        refine lv_iadd hx hb dL_law_1277 ?_
        refine jtopr ex4.symm ?_
        refine va_sld hx hb hX hbl hbA hS (jin tx4 (by omega) (by omega)) dL_law_1278 ?_
        refine lv_aload_n hx hb dL_law_1279 rfl (lv_at hl 3 rfl) ?_
        refine lv_iload_n hx hb dL_law_1280 rfl (lv_at hl 0 rfl) ?_
        refine lv_iconst (v := 3) hx hb dL_law_1281 (of_decide_eq_true rfl) ?_
        exact by
         refine lv_iadd hx hb dL_law_1282 ?_
         refine jtopr ex6.symm ?_
         refine va_sld hx hb hX hbl hbA hS (jin tx6 (by omega) (by omega)) dL_law_1283 ?_
         refine lv_aload_n hx hb dL_law_1284 rfl (lv_at hl 3 rfl) ?_
         refine lv_iload_n hx hb dL_law_1285 rfl (lv_at hl 0 rfl) ?_
         refine lv_iconst (v := 4) hx hb dL_law_1286 (of_decide_eq_true rfl) ?_
         refine lv_iadd hx hb dL_law_1287 ?_
         refine jtopr ex8.symm ?_
         refine va_sld hx hb hX hbl hbA hS (jin tx8 (by omega) (by omega)) dL_law_1288 ?_
         exact by
          refine lv_aload_n hx hb dL_law_1289 rfl (lv_at hl 3 rfl) ?_
          refine lv_iload_n hx hb dL_law_1290 rfl (lv_at hl 0 rfl) ?_
          refine lv_iconst (v := 5) hx hb dL_law_1291 (of_decide_eq_true rfl) ?_
          refine lv_iadd hx hb dL_law_1292 ?_
          refine jtopr ex10.symm ?_
          refine va_sld hx hb hX hbl hbA hS (jin tx10 (by omega) (by omega)) dL_law_1293 ?_
          have I18 : jI110 σ12 := jI110_fr (f14 86 (of_decide_eq_true rfl)) (f14 87 (of_decide_eq_true rfl)) hI110
          refine jcallV (As := [.int (xs x2.toNatClampNeg), .int (xs x4.toNatClampNeg), .int (xs x6.toNatClampNeg), .int (xs x8.toNatClampNeg), .int (xs x10.toNatClampNeg)]) (rest := []) ⟨hx, hb, hml, hown, hts⟩ hK hP hA hS hZ (c_X12_shift l D cI cL ad zz hJ σ12 τ12 (xs x2.toNatClampNeg) ((xs x2.toNatClampNeg).toInt) rfl (xs x4.toNatClampNeg) ((xs x4.toNatClampNeg).toInt) rfl (xs x6.toNatClampNeg) ((xs x6.toNatClampNeg).toInt) rfl (xs x8.toNatClampNeg) ((xs x8.toNatClampNeg).toInt) rfl (xs x10.toNatClampNeg) ((xs x10.toNatClampNeg).toInt) rfl I18) cw_RL_161 (jc_55 cI cL ad σ12 τ12) rfl ⟨Nat.le_of_ble_eq_true rfl, Nat.le_of_ble_eq_true rfl⟩ rfl rfl rfl hl.1 rfl (Nat.le_of_ble_eq_true rfl) dL_law_1294 ⟨Nat.le_of_ble_eq_true rfl, Nat.le_of_ble_eq_true rfl⟩ (fun r20 σ19 τ19 H locs h19 hP hS => ?_)
          obtain ⟨f24, f21, w22, w23, h19⟩ := h19
          exact by
           refine lv_pop hx hb dL_law_1297 rfl ?_
           refine lv_goto (tgt := 1357) hx hb dL_law_1298 (of_decide_eq_true rfl) ?_
           obtain ⟨x25, ex25⟩ : ∃ y : Int32, y = x0 + 6 := ⟨_, rfl⟩
           have tx25 : x25.toInt = x0.toInt + 6 := (jadd ex25 rfl jz_6 (by omega) (by omega)).trans (by omega)
           refine lv_iinc (v := x25) (lv' := [(3, .int x25), (2, .ref (ad 55)), (1, .ref (ad 0)), (0, .ref b)]) hx hb dL_law_1357 hl (k := 0) rfl (by rw [ex25]; rfl) (of_decide_eq_true rfl) rfl (fun ls hl => ?_)
           refine lv_goto (tgt := 18) hx hb dL_law_1360 (of_decide_eq_true rfl) ?_
           have I26 : jI2 σ19 := jI2_fr ((congrFun (f21 2 (of_decide_eq_true rfl)) 0).trans (congrFun (f14 2 (of_decide_eq_true rfl)) 0)) ((congrFun (f21 2 (of_decide_eq_true rfl)) 1).trans (congrFun (f14 2 (of_decide_eq_true rfl)) 1)) ((congrFun (f21 2 (of_decide_eq_true rfl)) 2).trans (congrFun (f14 2 (of_decide_eq_true rfl)) 2)) ((congrFun (f21 2 (of_decide_eq_true rfl)) 3).trans (congrFun (f14 2 (of_decide_eq_true rfl)) 3)) ((f21 6 (of_decide_eq_true rfl)).trans (f14 6 (of_decide_eq_true rfl))) hI2
           have I27 : jI9 σ19 := jI9_fr ((congrFun (f21 9 (of_decide_eq_true rfl)) 0).trans (congrFun (f14 9 (of_decide_eq_true rfl)) 0)) ((f21 10 (of_decide_eq_true rfl)).trans (f14 10 (of_decide_eq_true rfl))) ((f21 11 (of_decide_eq_true rfl)).trans (f14 11 (of_decide_eq_true rfl))) hI9
           have I28 : jI12 σ19 := jI12_fr ((congrFun (f21 12 (of_decide_eq_true rfl)) 0).trans (congrFun (f14 12 (of_decide_eq_true rfl)) 0)) ((f21 13 (of_decide_eq_true rfl)).trans (f14 13 (of_decide_eq_true rfl))) hI12
           exact by
            have I29 : jI16 σ19 := jI16_fr ((congrFun (f21 16 (of_decide_eq_true rfl)) 0).trans (congrFun (f14 16 (of_decide_eq_true rfl)) 0)) ((congrFun (f21 16 (of_decide_eq_true rfl)) 1).trans (congrFun (f14 16 (of_decide_eq_true rfl)) 1)) ((congrFun (f21 16 (of_decide_eq_true rfl)) 2).trans (congrFun (f14 16 (of_decide_eq_true rfl)) 2)) ((f21 17 (of_decide_eq_true rfl)).trans (f14 17 (of_decide_eq_true rfl))) hI16
            have I30 : jI18 σ19 := jI18_fr ((congrFun (f21 18 (of_decide_eq_true rfl)) 0).trans (congrFun (f14 18 (of_decide_eq_true rfl)) 0)) ((f21 19 (of_decide_eq_true rfl)).trans (f14 19 (of_decide_eq_true rfl))) hI18
            have I31 : jI22 σ19 := jI22_fr ((congrFun (f21 22 (of_decide_eq_true rfl)) 0).trans (congrFun (f14 22 (of_decide_eq_true rfl)) 0)) ((f21 23 (of_decide_eq_true rfl)).trans (f14 23 (of_decide_eq_true rfl))) hI22
            have I32 : jI31 σ19 := jI31_fr ((congrFun (f21 31 (of_decide_eq_true rfl)) 8).trans (congrFun (f14 31 (of_decide_eq_true rfl)) 8)) ((f21 33 (of_decide_eq_true rfl)).trans (f14 33 (of_decide_eq_true rfl))) ((f21 36 (of_decide_eq_true rfl)).trans (f14 36 (of_decide_eq_true rfl))) hI31
            have I33 : jI38 σ19 := jI38_fr ((congrFun (f21 38 (of_decide_eq_true rfl)) 0).trans (congrFun (f14 38 (of_decide_eq_true rfl)) 0)) ((congrFun (f21 38 (of_decide_eq_true rfl)) 1).trans (congrFun (f14 38 (of_decide_eq_true rfl)) 1)) ((f21 39 (of_decide_eq_true rfl)).trans (f14 39 (of_decide_eq_true rfl))) hI38
            have I34 : jI43 σ19 := jI43_fr ((congrFun (f21 43 (of_decide_eq_true rfl)) 8).trans (congrFun (f14 43 (of_decide_eq_true rfl)) 8)) hI43
            have I35 : jI47 σ19 := jI47_fr ((congrFun (f21 47 (of_decide_eq_true rfl)) 0).trans (congrFun (f14 47 (of_decide_eq_true rfl)) 0)) ((f21 48 (of_decide_eq_true rfl)).trans (f14 48 (of_decide_eq_true rfl))) ((f21 49 (of_decide_eq_true rfl)).trans (f14 49 (of_decide_eq_true rfl))) hI47
            have I36 : jI50 σ19 := jI50_fr ((f21 52 (of_decide_eq_true rfl)).trans (f14 52 (of_decide_eq_true rfl))) hI50
            have I37 : jI101 σ19 := jI101_fr ((congrFun (f21 55 (of_decide_eq_true rfl)) 4).trans (congrFun (f14 55 (of_decide_eq_true rfl)) 4)) ((congrFun (f21 55 (of_decide_eq_true rfl)) 5).trans (congrFun (f14 55 (of_decide_eq_true rfl)) 5)) ((f21 56 (of_decide_eq_true rfl)).trans (f14 56 (of_decide_eq_true rfl))) ((f21 57 (of_decide_eq_true rfl)).trans (f14 57 (of_decide_eq_true rfl))) ((f21 58 (of_decide_eq_true rfl)).trans (f14 58 (of_decide_eq_true rfl))) ((f21 59 (of_decide_eq_true rfl)).trans (f14 59 (of_decide_eq_true rfl))) hI101
            have I38 : jI102 σ19 := jI102_fr ((congrFun (f21 55 (of_decide_eq_true rfl)) 6).trans (congrFun (f14 55 (of_decide_eq_true rfl)) 6)) ((f21 60 (of_decide_eq_true rfl)).trans (f14 60 (of_decide_eq_true rfl))) ((f21 61 (of_decide_eq_true rfl)).trans (f14 61 (of_decide_eq_true rfl))) hI102
            have I39 : jI103 σ19 := jI103_fr ((congrFun (f21 55 (of_decide_eq_true rfl)) 9).trans (congrFun (f14 55 (of_decide_eq_true rfl)) 9)) hI103
            have I40 : jI104 σ19 := jI104_fr ((congrFun (f21 55 (of_decide_eq_true rfl)) 10).trans (congrFun (f14 55 (of_decide_eq_true rfl)) 10)) ((congrFun (f21 55 (of_decide_eq_true rfl)) 12).trans (congrFun (f14 55 (of_decide_eq_true rfl)) 12)) ((congrFun (f21 55 (of_decide_eq_true rfl)) 13).trans (congrFun (f14 55 (of_decide_eq_true rfl)) 13)) ((f21 62 (of_decide_eq_true rfl)).trans (f14 62 (of_decide_eq_true rfl))) ((f21 67 (of_decide_eq_true rfl)).trans (f14 67 (of_decide_eq_true rfl))) hI104
            have I41 : jI105 σ19 := jI105_fr ((congrFun (f21 55 (of_decide_eq_true rfl)) 15).trans (congrFun (f14 55 (of_decide_eq_true rfl)) 15)) ((f21 65 (of_decide_eq_true rfl)).trans (f14 65 (of_decide_eq_true rfl))) hI105
            have I42 : jI106 σ19 := jI106_fr ((congrFun (f21 55 (of_decide_eq_true rfl)) 32).trans (congrFun (f14 55 (of_decide_eq_true rfl)) 32)) ((f21 70 (of_decide_eq_true rfl)).trans (f14 70 (of_decide_eq_true rfl))) ((f21 71 (of_decide_eq_true rfl)).trans (f14 71 (of_decide_eq_true rfl))) ((f21 72 (of_decide_eq_true rfl)).trans (f14 72 (of_decide_eq_true rfl))) hI106
            have I43 : jI107 σ19 := jI107_fr ((congrFun (f21 55 (of_decide_eq_true rfl)) 12).trans (congrFun (f14 55 (of_decide_eq_true rfl)) 12)) ((congrFun (f21 55 (of_decide_eq_true rfl)) 47).trans (congrFun (f14 55 (of_decide_eq_true rfl)) 47)) ((f21 80 (of_decide_eq_true rfl)).trans (f14 80 (of_decide_eq_true rfl))) hI107
            have I44 : jI109 σ19 := jI109_fr ((congrFun (f21 55 (of_decide_eq_true rfl)) 50).trans (congrFun (f14 55 (of_decide_eq_true rfl)) 50)) hI109
            have I45 : jI110 σ19 := jI110_fr (f21 86 (of_decide_eq_true rfl)) (f21 87 (of_decide_eq_true rfl)) I18
            have I46 : jI111 σ19 := jI111_fr ((f21 79 (of_decide_eq_true rfl)).trans (f14 79 (of_decide_eq_true rfl))) hI111
            have I47 : jI119 σ19 := jI119_fr ((f21 68 (of_decide_eq_true rfl)).trans (f14 68 (of_decide_eq_true rfl))) hI119
            have p48 : jKept σ19 := jKept.fr ((f21 75 (of_decide_eq_true rfl)).trans (f14 75 (of_decide_eq_true rfl))) ((f21 76 (of_decide_eq_true rfl)).trans (f14 76 (of_decide_eq_true rfl))) ((f21 77 (of_decide_eq_true rfl)).trans (f14 77 (of_decide_eq_true rfl))) hs_jKept
            have p49 : jBook σ19 := jBook.fr ((congrFun (f21 55 (of_decide_eq_true rfl)) 47).trans (congrFun (f14 55 (of_decide_eq_true rfl)) 47)) ((congrFun (f21 55 (of_decide_eq_true rfl)) 10).trans (congrFun (f14 55 (of_decide_eq_true rfl)) 10)) ((f21 81 (of_decide_eq_true rfl)).trans (f14 81 (of_decide_eq_true rfl))) hs_jBook
            have z50 : (σ19 38 0).toInt = (σ 38 0).toInt := (congrArg Int32.toInt (show σ19 38 0 = (σ 38 0) from ((congrFun (f21 38 (of_decide_eq_true rfl)) 0).trans (congrFun (f14 38 (of_decide_eq_true rfl)) 0))))
            have z51 : (σ19 55 32).toInt = (σ 55 32).toInt := (congrArg Int32.toInt (show σ19 55 32 = (σ 55 32) from ((congrFun (f21 55 (of_decide_eq_true rfl)) 32).trans (congrFun (f14 55 (of_decide_eq_true rfl)) 32))))
            exact by exact ih x25 σ19 τ19 _ _ ls (by have h9 := tx25; omega) ⟨I26, I27, I28, I29, I30, I31, I32, I33, I34, I35, I36, I37, I38, I39, I40, I41, I42, I43, I44, I45, I46, I47, p48, p49, (by omega)⟩ hP hS (lv_sub hl [0, 1, 2, 3] rfl)
set_option maxHeartbeats 4000000 in
set_option maxRecDepth 100000 in
theorem law_case_35 {p : Program} {e : Env} {s : State} {m : MethodId} {below : List Frame} {meth : Method} {c : Code} (l : Launch) {b L : Nat} {xs : Nat → Int32} {D : va_G} {cI cL : ClassId} {ad zz : Nat → Nat} (C0 : lw_At p s m meth c b L xs) (hJ : jD ad) (hA : ∀ q, jA ad q → s.heap.size ≤ q) (hK : jK D cI cL s) (hZ : jZ zz (fun q : Nat => s.heap.size ≤ q) s s.heap) {x0 : Int32} (hx0 : 0 ≤ x0.toInt) (hxL : x0.toInt + 6 ≤ (L : Int)) (hL : L ≤ 384) {σ : Nat → Nat → Int32} {τ : Nat → Nat → Int64} {H : Heap} {locs : List Loc} (hS : va_S (fun q : Nat => s.heap.size ≤ q) s.heap H locs) {ls : Array Slot} (hAll : jAll σ τ) (hP : jH D cI cL ad σ τ H) (hl : lv_has ls 4 [(3, .int x0), (2, .ref (ad 55)), (1, .ref (ad 0)), (0, .ref b)]) (ih : ∀ (x1 : Int32) (σ : Nat → Nat → Int32) (τ : Nat → Nat → Int64) (H : Heap) (locs : List Loc) (ls : Array Slot), x1.toInt = x0.toInt + 6 → jAll σ τ → jH D cI cL ad σ τ H → va_S (fun q : Nat => s.heap.size ≤ q) s.heap H locs → lv_has ls 4 [(3, .int x1), (2, .ref (ad 55)), (1, .ref (ad 0)), (0, .ref b)] → W p l e room_1 s m #[Value.ref b] below meth c H locs 90 348600 (lw_Z below #[Value.ref b] s) (F0 m 18 ls [])) : W p l e room_1 s m #[Value.ref b] below meth c H locs 90 348600 (lw_Z below #[Value.ref b] s) (F0 m 1301 ls []) := by
  obtain ⟨hx, hb, hr, hml, hown, hts0, hX, hbl, hlocks, hgv⟩ := C0
  have hts : ∀ w ∈ wsL_law, w.before #[Value.ref b] s = true := fun w h => hts0 w (wsL_law_in w h)
  have hbA : ¬ (fun q : Nat => s.heap.size ≤ q) b := Nat.not_le.mpr hbl
  have hown : s.vm.findClass RL = some m.cls := hown
  obtain ⟨hI2, hI9, hI12, hI16, hI18, hI22, hI31, hI38, hI43, hI47, hI50, hI101, hI102, hI103, hI104, hI105, hI106, hI107, hI109, hI110, hI111, hI119, hs_jKept, hs_jBook, ht0⟩ := hAll
  have hL9 : (L : Int) ≤ 384 := by omega
  refine lv_aload_n hx hb dL_law_1301 rfl (lv_at hl 2 rfl) ?_
  refine lv_aload_n hx hb dL_law_1302 rfl (lv_at hl 3 rfl) ?_
  refine lv_iload_n hx hb dL_law_1303 rfl (lv_at hl 0 rfl) ?_
  refine lv_iconst (v := 1) hx hb dL_law_1304 (of_decide_eq_true rfl) ?_
  have g1 := jrg (rfl : x0.toInt = x0.toInt)
  refine lv_iadd hx hb dL_law_1305 ?_
  refine lv_topi (fun x2 ex2 => ?_)
  exact by
   have tx2 : x2.toInt = x0.toInt + 1 := (jadd ex2 rfl jz_1 (by omega) (by omega)).trans (by omega)
   refine va_sld hx hb hX hbl hbA hS (jin tx2 (by omega) (by omega)) dL_law_1306 ?_
   have g3 := jrg (rfl : (xs x2.toNatClampNeg).toInt = (xs x2.toNatClampNeg).toInt)
   refine lv_aload_n hx hb dL_law_1307 rfl (lv_at hl 3 rfl) ?_
   refine lv_iload_n hx hb dL_law_1308 rfl (lv_at hl 0 rfl) ?_
   refine lv_iconst (v := 2) hx hb dL_law_1309 (of_decide_eq_true rfl) ?_
   refine lv_iadd hx hb dL_law_1310 ?_
   refine lv_topi (fun x4 ex4 => ?_)
   have tx4 : x4.toInt = x0.toInt + 2 := (jadd ex4 rfl jz_2 (by omega) (by omega)).trans (by omega)
   exact by
    refine va_sld hx hb hX hbl hbA hS (jin tx4 (by omega) (by omega)) dL_law_1311 ?_
    have g5 := jrg (rfl : (xs x4.toNatClampNeg).toInt = (xs x4.toNatClampNeg).toInt)
    refine jcallV (As := [.int (xs x2.toNatClampNeg), .int (xs x4.toNatClampNeg)]) (rest := []) ⟨hx, hb, hml, hown, hts⟩ hK hP hA hS hZ (c_X11_taken l D cI cL ad zz hJ σ τ (xs x2.toNatClampNeg) ((xs x2.toNatClampNeg).toInt) rfl (xs x4.toNatClampNeg) ((xs x4.toNatClampNeg).toInt) rfl hI38) cw_RL_162 (jc_0 cI cL ad σ τ) rfl ⟨Nat.le_of_ble_eq_true rfl, Nat.le_of_ble_eq_true rfl⟩ rfl rfl rfl hl.1 rfl (Nat.le_of_ble_eq_true rfl) dL_law_1312 ⟨Nat.le_of_ble_eq_true rfl, Nat.le_of_ble_eq_true rfl⟩ (fun r7 σ6 τ6 H locs h6 hP hS => ?_)
    obtain ⟨⟨rfl, rfl⟩, w8, h6⟩ := h6
    refine lv_pop hx hb dL_law_1315 rfl ?_
    refine lv_aload_n hx hb dL_law_1316 rfl (lv_at hl 1 rfl) ?_
    refine lv_aload_n hx hb dL_law_1317 rfl (lv_at hl 3 rfl) ?_
    refine lv_iload_n hx hb dL_law_1318 rfl (lv_at hl 0 rfl) ?_
    refine lv_iconst (v := 1) hx hb dL_law_1319 (of_decide_eq_true rfl) ?_
    refine lv_iadd hx hb dL_law_1320 ?_
    refine jtopr ex2.symm ?_
    exact by
     refine va_sld hx hb hX hbl hbA hS (jin tx2 (by omega) (by omega)) dL_law_1321 ?_
     refine lv_aload_n hx hb dL_law_1322 rfl (lv_at hl 3 rfl) ?_
     refine lv_iload_n hx hb dL_law_1323 rfl (lv_at hl 0 rfl) ?_
     refine lv_iconst (v := 2) hx hb dL_law_1324 (of_decide_eq_true rfl) ?_
     refine lv_iadd hx hb dL_law_1325 ?_
     refine jtopr ex4.symm ?_
     refine va_sld hx hb hX hbl hbA hS (jin tx4 (by omega) (by omega)) dL_law_1326 ?_
     refine jcallV (As := [.int (xs x2.toNatClampNeg), .int (xs x4.toNatClampNeg)]) (rest := []) ⟨hx, hb, hml, hown, hts⟩ hK hP hA hS hZ (c_X12_taken l D cI cL ad zz hJ σ τ (xs x2.toNatClampNeg) ((xs x2.toNatClampNeg).toInt) rfl (xs x4.toNatClampNeg) ((xs x4.toNatClampNeg).toInt) rfl hI106 hI110) cw_RL_165 (jc_55 cI cL ad σ τ) rfl ⟨Nat.le_of_ble_eq_true rfl, Nat.le_of_ble_eq_true rfl⟩ rfl rfl rfl hl.1 rfl (Nat.le_of_ble_eq_true rfl) dL_law_1327 ⟨Nat.le_of_ble_eq_true rfl, Nat.le_of_ble_eq_true rfl⟩ (fun r10 σ9 τ9 H locs h9 hP hS => ?_)
     obtain ⟨⟨rfl, rfl⟩, w11, h9⟩ := h9
     exact by
      refine lv_pop hx hb dL_law_1330 rfl ?_
      refine lv_goto (tgt := 1357) hx hb dL_law_1331 (of_decide_eq_true rfl) ?_
      obtain ⟨x12, ex12⟩ : ∃ y : Int32, y = x0 + 6 := ⟨_, rfl⟩
      have tx12 : x12.toInt = x0.toInt + 6 := (jadd ex12 rfl jz_6 (by omega) (by omega)).trans (by omega)
      refine lv_iinc (v := x12) (lv' := [(3, .int x12), (2, .ref (ad 55)), (1, .ref (ad 0)), (0, .ref b)]) hx hb dL_law_1357 hl (k := 0) rfl (by rw [ex12]; rfl) (of_decide_eq_true rfl) rfl (fun ls hl => ?_)
      refine lv_goto (tgt := 18) hx hb dL_law_1360 (of_decide_eq_true rfl) ?_
      exact by exact ih x12 σ τ _ _ ls (by have h9 := tx12; omega) ⟨hI2, hI9, hI12, hI16, hI18, hI22, hI31, hI38, hI43, hI47, hI50, hI101, hI102, hI103, hI104, hI105, hI106, hI107, hI109, hI110, hI111, hI119, hs_jKept, hs_jBook, (by omega)⟩ hP hS (lv_sub hl [0, 1, 2, 3] rfl)
set_option maxHeartbeats 4000000 in
set_option maxRecDepth 100000 in
theorem law_case_36 {p : Program} {e : Env} {s : State} {m : MethodId} {below : List Frame} {meth : Method} {c : Code} (l : Launch) {b L : Nat} {xs : Nat → Int32} {D : va_G} {cI cL : ClassId} {ad zz : Nat → Nat} (C0 : lw_At p s m meth c b L xs) (hJ : jD ad) (hA : ∀ q, jA ad q → s.heap.size ≤ q) (hK : jK D cI cL s) (hZ : jZ zz (fun q : Nat => s.heap.size ≤ q) s s.heap) {x0 : Int32} (hx0 : 0 ≤ x0.toInt) (hxL : x0.toInt + 6 ≤ (L : Int)) (hL : L ≤ 384) {σ : Nat → Nat → Int32} {τ : Nat → Nat → Int64} {H : Heap} {locs : List Loc} (hS : va_S (fun q : Nat => s.heap.size ≤ q) s.heap H locs) {ls : Array Slot} (hAll : jAll σ τ) (hP : jH D cI cL ad σ τ H) (hl : lv_has ls 4 [(3, .int x0), (2, .ref (ad 55)), (1, .ref (ad 0)), (0, .ref b)]) (ih : ∀ (x1 : Int32) (σ : Nat → Nat → Int32) (τ : Nat → Nat → Int64) (H : Heap) (locs : List Loc) (ls : Array Slot), x1.toInt = x0.toInt + 6 → jAll σ τ → jH D cI cL ad σ τ H → va_S (fun q : Nat => s.heap.size ≤ q) s.heap H locs → lv_has ls 4 [(3, .int x1), (2, .ref (ad 55)), (1, .ref (ad 0)), (0, .ref b)] → W p l e room_1 s m #[Value.ref b] below meth c H locs 90 348600 (lw_Z below #[Value.ref b] s) (F0 m 18 ls [])) : W p l e room_1 s m #[Value.ref b] below meth c H locs 90 348600 (lw_Z below #[Value.ref b] s) (F0 m 1334 ls []) := by
  obtain ⟨hx, hb, hr, hml, hown, hts0, hX, hbl, hlocks, hgv⟩ := C0
  have hts : ∀ w ∈ wsL_law, w.before #[Value.ref b] s = true := fun w h => hts0 w (wsL_law_in w h)
  have hbA : ¬ (fun q : Nat => s.heap.size ≤ q) b := Nat.not_le.mpr hbl
  have hown : s.vm.findClass RL = some m.cls := hown
  obtain ⟨hI2, hI9, hI12, hI16, hI18, hI22, hI31, hI38, hI43, hI47, hI50, hI101, hI102, hI103, hI104, hI105, hI106, hI107, hI109, hI110, hI111, hI119, hs_jKept, hs_jBook, ht0⟩ := hAll
  have hL9 : (L : Int) ≤ 384 := by omega
  refine lv_aload_n hx hb dL_law_1334 rfl (lv_at hl 2 rfl) ?_
  refine lv_aload_n hx hb dL_law_1335 rfl (lv_at hl 3 rfl) ?_
  refine lv_iload_n hx hb dL_law_1336 rfl (lv_at hl 0 rfl) ?_
  refine lv_iconst (v := 1) hx hb dL_law_1337 (of_decide_eq_true rfl) ?_
  have g1 := jrg (rfl : x0.toInt = x0.toInt)
  refine lv_iadd hx hb dL_law_1338 ?_
  refine lv_topi (fun x2 ex2 => ?_)
  exact by
   have tx2 : x2.toInt = x0.toInt + 1 := (jadd ex2 rfl jz_1 (by omega) (by omega)).trans (by omega)
   refine va_sld hx hb hX hbl hbA hS (jin tx2 (by omega) (by omega)) dL_law_1339 ?_
   have g3 := jrg (rfl : (xs x2.toNatClampNeg).toInt = (xs x2.toNatClampNeg).toInt)
   refine jcallV (As := [.int (xs x2.toNatClampNeg)]) (rest := []) ⟨hx, hb, hml, hown, hts⟩ hK hP hA hS hZ (c_X11_count l D cI cL ad zz hJ σ τ (xs x2.toNatClampNeg) ((xs x2.toNatClampNeg).toInt) rfl hI2 hI9 hI38 hI47) cw_RL_166 (jc_0 cI cL ad σ τ) rfl ⟨Nat.le_of_ble_eq_true rfl, Nat.le_of_ble_eq_true rfl⟩ rfl rfl rfl hl.1 rfl (Nat.le_of_ble_eq_true rfl) dL_law_1340 ⟨Nat.le_of_ble_eq_true rfl, Nat.le_of_ble_eq_true rfl⟩ (fun r5 σ4 τ4 H locs h4 hP hS => ?_)
   obtain ⟨⟨rfl, rfl⟩, h4⟩ := h4
   rcases h4 with h6 | h7 | h8 | h9 | h10 | h11 | h12
   · obtain ⟨q15, k13, k14⟩ := h6
     refine lv_pop hx hb dL_law_1343 rfl ?_
     refine lv_aload_n hx hb dL_law_1344 rfl (lv_at hl 1 rfl) ?_
     exact by
      refine lv_aload_n hx hb dL_law_1345 rfl (lv_at hl 3 rfl) ?_
      refine lv_iload_n hx hb dL_law_1346 rfl (lv_at hl 0 rfl) ?_
      refine lv_iconst (v := 1) hx hb dL_law_1347 (of_decide_eq_true rfl) ?_
      refine lv_iadd hx hb dL_law_1348 ?_
      refine jtopr ex2.symm ?_
      refine va_sld hx hb hX hbl hbA hS (jin tx2 (by omega) (by omega)) dL_law_1349 ?_
      refine jcallV (As := [.int (xs x2.toNatClampNeg)]) (rest := []) ⟨hx, hb, hml, hown, hts⟩ hK hP hA hS hZ (c_X12_count l D cI cL ad zz hJ σ τ (xs x2.toNatClampNeg) ((xs x2.toNatClampNeg).toInt) rfl hI101 hI102 hI105 hI106 hI107) cw_RL_169 (jc_55 cI cL ad σ τ) rfl ⟨Nat.le_of_ble_eq_true rfl, Nat.le_of_ble_eq_true rfl⟩ rfl rfl rfl hl.1 rfl (Nat.le_of_ble_eq_true rfl) dL_law_1350 ⟨Nat.le_of_ble_eq_true rfl, Nat.le_of_ble_eq_true rfl⟩ (fun r17 σ16 τ16 H locs h16 hP hS => ?_)
      obtain ⟨⟨rfl, rfl⟩, h16⟩ := h16
      rcases h16 with h18 | h19 | h20 | h21 | h22 | h23 | h24
      · exact by
         obtain ⟨q27, k25, k26⟩ := h18
         refine lv_pop hx hb dL_law_1353 rfl ?_
         refine lv_goto (tgt := 1357) hx hb dL_law_1354 (of_decide_eq_true rfl) ?_
         obtain ⟨x28, ex28⟩ : ∃ y : Int32, y = x0 + 6 := ⟨_, rfl⟩
         have tx28 : x28.toInt = x0.toInt + 6 := (jadd ex28 rfl jz_6 (by omega) (by omega)).trans (by omega)
         refine lv_iinc (v := x28) (lv' := [(3, .int x28), (2, .ref (ad 55)), (1, .ref (ad 0)), (0, .ref b)]) hx hb dL_law_1357 hl (k := 0) rfl (by rw [ex28]; rfl) (of_decide_eq_true rfl) rfl (fun ls hl => ?_)
         refine lv_goto (tgt := 18) hx hb dL_law_1360 (of_decide_eq_true rfl) ?_
         exact by exact ih x28 σ τ _ _ ls (by have h9 := tx28; omega) ⟨hI2, hI9, hI12, hI16, hI18, hI22, hI31, hI38, hI43, hI47, hI50, hI101, hI102, hI103, hI104, hI105, hI106, hI107, hI109, hI110, hI111, hI119, hs_jKept, hs_jBook, (by omega)⟩ hP hS (lv_sub hl [0, 1, 2, 3] rfl)
      · obtain ⟨q31, k29, k30⟩ := h19
        exact absurd (by omega : False) id
      · exact by
         obtain ⟨q34, k32, k33⟩ := h20
         exact absurd (by omega : False) id
      · obtain ⟨q37, k35, k36⟩ := h21
        exact absurd (by omega : False) id
      · obtain ⟨q40, k38, k39⟩ := h22
        exact absurd (by omega : False) id
      · obtain ⟨q43, k41, k42⟩ := h23
        exact absurd (by omega : False) id
      · obtain ⟨q45, k44⟩ := h24
        exact absurd (by omega : False) id
   · obtain ⟨q48, k46, k47⟩ := h7
     refine lv_pop hx hb dL_law_1343 rfl ?_
     refine lv_aload_n hx hb dL_law_1344 rfl (lv_at hl 1 rfl) ?_
     refine lv_aload_n hx hb dL_law_1345 rfl (lv_at hl 3 rfl) ?_
     refine lv_iload_n hx hb dL_law_1346 rfl (lv_at hl 0 rfl) ?_
     refine lv_iconst (v := 1) hx hb dL_law_1347 (of_decide_eq_true rfl) ?_
     refine lv_iadd hx hb dL_law_1348 ?_
     refine jtopr ex2.symm ?_
     exact by
      refine va_sld hx hb hX hbl hbA hS (jin tx2 (by omega) (by omega)) dL_law_1349 ?_
      refine jcallV (As := [.int (xs x2.toNatClampNeg)]) (rest := []) ⟨hx, hb, hml, hown, hts⟩ hK hP hA hS hZ (c_X12_count l D cI cL ad zz hJ σ τ (xs x2.toNatClampNeg) ((xs x2.toNatClampNeg).toInt) rfl hI101 hI102 hI105 hI106 hI107) cw_RL_169 (jc_55 cI cL ad σ τ) rfl ⟨Nat.le_of_ble_eq_true rfl, Nat.le_of_ble_eq_true rfl⟩ rfl rfl rfl hl.1 rfl (Nat.le_of_ble_eq_true rfl) dL_law_1350 ⟨Nat.le_of_ble_eq_true rfl, Nat.le_of_ble_eq_true rfl⟩ (fun r50 σ49 τ49 H locs h49 hP hS => ?_)
      obtain ⟨⟨rfl, rfl⟩, h49⟩ := h49
      rcases h49 with h51 | h52 | h53 | h54 | h55 | h56 | h57
      · obtain ⟨q60, k58, k59⟩ := h51
        exact absurd (by omega : False) id
      · obtain ⟨q63, k61, k62⟩ := h52
        refine lv_pop hx hb dL_law_1353 rfl ?_
        refine lv_goto (tgt := 1357) hx hb dL_law_1354 (of_decide_eq_true rfl) ?_
        obtain ⟨x64, ex64⟩ : ∃ y : Int32, y = x0 + 6 := ⟨_, rfl⟩
        exact by
         have tx64 : x64.toInt = x0.toInt + 6 := (jadd ex64 rfl jz_6 (by omega) (by omega)).trans (by omega)
         refine lv_iinc (v := x64) (lv' := [(3, .int x64), (2, .ref (ad 55)), (1, .ref (ad 0)), (0, .ref b)]) hx hb dL_law_1357 hl (k := 0) rfl (by rw [ex64]; rfl) (of_decide_eq_true rfl) rfl (fun ls hl => ?_)
         refine lv_goto (tgt := 18) hx hb dL_law_1360 (of_decide_eq_true rfl) ?_
         exact by exact ih x64 σ τ _ _ ls (by have h9 := tx64; omega) ⟨hI2, hI9, hI12, hI16, hI18, hI22, hI31, hI38, hI43, hI47, hI50, hI101, hI102, hI103, hI104, hI105, hI106, hI107, hI109, hI110, hI111, hI119, hs_jKept, hs_jBook, (by omega)⟩ hP hS (lv_sub hl [0, 1, 2, 3] rfl)
      · obtain ⟨q67, k65, k66⟩ := h53
        exact absurd (by omega : False) id
      · obtain ⟨q70, k68, k69⟩ := h54
        exact absurd (by omega : False) id
      · obtain ⟨q73, k71, k72⟩ := h55
        exact absurd (by omega : False) id
      · exact by
         obtain ⟨q76, k74, k75⟩ := h56
         exact absurd (by omega : False) id
      · obtain ⟨q78, k77⟩ := h57
        exact absurd (by omega : False) id
   · obtain ⟨q81, k79, k80⟩ := h8
     refine lv_pop hx hb dL_law_1343 rfl ?_
     refine lv_aload_n hx hb dL_law_1344 rfl (lv_at hl 1 rfl) ?_
     refine lv_aload_n hx hb dL_law_1345 rfl (lv_at hl 3 rfl) ?_
     refine lv_iload_n hx hb dL_law_1346 rfl (lv_at hl 0 rfl) ?_
     refine lv_iconst (v := 1) hx hb dL_law_1347 (of_decide_eq_true rfl) ?_
     refine lv_iadd hx hb dL_law_1348 ?_
     refine jtopr ex2.symm ?_
     exact by
      refine va_sld hx hb hX hbl hbA hS (jin tx2 (by omega) (by omega)) dL_law_1349 ?_
      refine jcallV (As := [.int (xs x2.toNatClampNeg)]) (rest := []) ⟨hx, hb, hml, hown, hts⟩ hK hP hA hS hZ (c_X12_count l D cI cL ad zz hJ σ τ (xs x2.toNatClampNeg) ((xs x2.toNatClampNeg).toInt) rfl hI101 hI102 hI105 hI106 hI107) cw_RL_169 (jc_55 cI cL ad σ τ) rfl ⟨Nat.le_of_ble_eq_true rfl, Nat.le_of_ble_eq_true rfl⟩ rfl rfl rfl hl.1 rfl (Nat.le_of_ble_eq_true rfl) dL_law_1350 ⟨Nat.le_of_ble_eq_true rfl, Nat.le_of_ble_eq_true rfl⟩ (fun r83 σ82 τ82 H locs h82 hP hS => ?_)
      obtain ⟨⟨rfl, rfl⟩, h82⟩ := h82
      rcases h82 with h84 | h85 | h86 | h87 | h88 | h89 | h90
      · obtain ⟨q93, k91, k92⟩ := h84
        exact absurd (by omega : False) id
      · obtain ⟨q96, k94, k95⟩ := h85
        exact absurd (by omega : False) id
      · obtain ⟨q99, k97, k98⟩ := h86
        refine lv_pop hx hb dL_law_1353 rfl ?_
        refine lv_goto (tgt := 1357) hx hb dL_law_1354 (of_decide_eq_true rfl) ?_
        obtain ⟨x100, ex100⟩ : ∃ y : Int32, y = x0 + 6 := ⟨_, rfl⟩
        exact by
         have tx100 : x100.toInt = x0.toInt + 6 := (jadd ex100 rfl jz_6 (by omega) (by omega)).trans (by omega)
         refine lv_iinc (v := x100) (lv' := [(3, .int x100), (2, .ref (ad 55)), (1, .ref (ad 0)), (0, .ref b)]) hx hb dL_law_1357 hl (k := 0) rfl (by rw [ex100]; rfl) (of_decide_eq_true rfl) rfl (fun ls hl => ?_)
         refine lv_goto (tgt := 18) hx hb dL_law_1360 (of_decide_eq_true rfl) ?_
         exact by exact ih x100 σ τ _ _ ls (by have h9 := tx100; omega) ⟨hI2, hI9, hI12, hI16, hI18, hI22, hI31, hI38, hI43, hI47, hI50, hI101, hI102, hI103, hI104, hI105, hI106, hI107, hI109, hI110, hI111, hI119, hs_jKept, hs_jBook, (by omega)⟩ hP hS (lv_sub hl [0, 1, 2, 3] rfl)
      · obtain ⟨q103, k101, k102⟩ := h87
        exact absurd (by omega : False) id
      · obtain ⟨q106, k104, k105⟩ := h88
        exact absurd (by omega : False) id
      · obtain ⟨q109, k107, k108⟩ := h89
        exact absurd (by omega : False) id
      · exact by
         obtain ⟨q111, k110⟩ := h90
         exact absurd (by omega : False) id
   · obtain ⟨q114, k112, k113⟩ := h9
     refine lv_pop hx hb dL_law_1343 rfl ?_
     refine lv_aload_n hx hb dL_law_1344 rfl (lv_at hl 1 rfl) ?_
     refine lv_aload_n hx hb dL_law_1345 rfl (lv_at hl 3 rfl) ?_
     refine lv_iload_n hx hb dL_law_1346 rfl (lv_at hl 0 rfl) ?_
     refine lv_iconst (v := 1) hx hb dL_law_1347 (of_decide_eq_true rfl) ?_
     refine lv_iadd hx hb dL_law_1348 ?_
     refine jtopr ex2.symm ?_
     exact by
      refine va_sld hx hb hX hbl hbA hS (jin tx2 (by omega) (by omega)) dL_law_1349 ?_
      refine jcallV (As := [.int (xs x2.toNatClampNeg)]) (rest := []) ⟨hx, hb, hml, hown, hts⟩ hK hP hA hS hZ (c_X12_count l D cI cL ad zz hJ σ τ (xs x2.toNatClampNeg) ((xs x2.toNatClampNeg).toInt) rfl hI101 hI102 hI105 hI106 hI107) cw_RL_169 (jc_55 cI cL ad σ τ) rfl ⟨Nat.le_of_ble_eq_true rfl, Nat.le_of_ble_eq_true rfl⟩ rfl rfl rfl hl.1 rfl (Nat.le_of_ble_eq_true rfl) dL_law_1350 ⟨Nat.le_of_ble_eq_true rfl, Nat.le_of_ble_eq_true rfl⟩ (fun r116 σ115 τ115 H locs h115 hP hS => ?_)
      obtain ⟨⟨rfl, rfl⟩, h115⟩ := h115
      rcases h115 with h117 | h118 | h119 | h120 | h121 | h122 | h123
      · obtain ⟨q126, k124, k125⟩ := h117
        exact absurd (by omega : False) id
      · obtain ⟨q129, k127, k128⟩ := h118
        exact absurd (by omega : False) id
      · obtain ⟨q132, k130, k131⟩ := h119
        exact absurd (by omega : False) id
      · obtain ⟨q135, k133, k134⟩ := h120
        refine lv_pop hx hb dL_law_1353 rfl ?_
        refine lv_goto (tgt := 1357) hx hb dL_law_1354 (of_decide_eq_true rfl) ?_
        obtain ⟨x136, ex136⟩ : ∃ y : Int32, y = x0 + 6 := ⟨_, rfl⟩
        exact by
         have tx136 : x136.toInt = x0.toInt + 6 := (jadd ex136 rfl jz_6 (by omega) (by omega)).trans (by omega)
         refine lv_iinc (v := x136) (lv' := [(3, .int x136), (2, .ref (ad 55)), (1, .ref (ad 0)), (0, .ref b)]) hx hb dL_law_1357 hl (k := 0) rfl (by rw [ex136]; rfl) (of_decide_eq_true rfl) rfl (fun ls hl => ?_)
         refine lv_goto (tgt := 18) hx hb dL_law_1360 (of_decide_eq_true rfl) ?_
         exact by exact ih x136 σ τ _ _ ls (by have h9 := tx136; omega) ⟨hI2, hI9, hI12, hI16, hI18, hI22, hI31, hI38, hI43, hI47, hI50, hI101, hI102, hI103, hI104, hI105, hI106, hI107, hI109, hI110, hI111, hI119, hs_jKept, hs_jBook, (by omega)⟩ hP hS (lv_sub hl [0, 1, 2, 3] rfl)
      · obtain ⟨q139, k137, k138⟩ := h121
        exact absurd (by omega : False) id
      · obtain ⟨q142, k140, k141⟩ := h122
        exact absurd (by omega : False) id
      · obtain ⟨q144, k143⟩ := h123
        exact absurd (by omega : False) id
   · exact by
      obtain ⟨q147, k145, k146⟩ := h10
      refine lv_pop hx hb dL_law_1343 rfl ?_
      refine lv_aload_n hx hb dL_law_1344 rfl (lv_at hl 1 rfl) ?_
      refine lv_aload_n hx hb dL_law_1345 rfl (lv_at hl 3 rfl) ?_
      refine lv_iload_n hx hb dL_law_1346 rfl (lv_at hl 0 rfl) ?_
      refine lv_iconst (v := 1) hx hb dL_law_1347 (of_decide_eq_true rfl) ?_
      refine lv_iadd hx hb dL_law_1348 ?_
      refine jtopr ex2.symm ?_
      refine va_sld hx hb hX hbl hbA hS (jin tx2 (by omega) (by omega)) dL_law_1349 ?_
      exact by
       refine jcallV (As := [.int (xs x2.toNatClampNeg)]) (rest := []) ⟨hx, hb, hml, hown, hts⟩ hK hP hA hS hZ (c_X12_count l D cI cL ad zz hJ σ τ (xs x2.toNatClampNeg) ((xs x2.toNatClampNeg).toInt) rfl hI101 hI102 hI105 hI106 hI107) cw_RL_169 (jc_55 cI cL ad σ τ) rfl ⟨Nat.le_of_ble_eq_true rfl, Nat.le_of_ble_eq_true rfl⟩ rfl rfl rfl hl.1 rfl (Nat.le_of_ble_eq_true rfl) dL_law_1350 ⟨Nat.le_of_ble_eq_true rfl, Nat.le_of_ble_eq_true rfl⟩ (fun r149 σ148 τ148 H locs h148 hP hS => ?_)
       obtain ⟨⟨rfl, rfl⟩, h148⟩ := h148
       rcases h148 with h150 | h151 | h152 | h153 | h154 | h155 | h156
       · obtain ⟨q159, k157, k158⟩ := h150
         exact absurd (by omega : False) id
       · obtain ⟨q162, k160, k161⟩ := h151
         exact absurd (by omega : False) id
       · obtain ⟨q165, k163, k164⟩ := h152
         exact absurd (by omega : False) id
       · obtain ⟨q168, k166, k167⟩ := h153
         exact absurd (by omega : False) id
       · obtain ⟨q171, k169, k170⟩ := h154
         refine lv_pop hx hb dL_law_1353 rfl ?_
         refine lv_goto (tgt := 1357) hx hb dL_law_1354 (of_decide_eq_true rfl) ?_
         obtain ⟨x172, ex172⟩ : ∃ y : Int32, y = x0 + 6 := ⟨_, rfl⟩
         exact by
          have tx172 : x172.toInt = x0.toInt + 6 := (jadd ex172 rfl jz_6 (by omega) (by omega)).trans (by omega)
          refine lv_iinc (v := x172) (lv' := [(3, .int x172), (2, .ref (ad 55)), (1, .ref (ad 0)), (0, .ref b)]) hx hb dL_law_1357 hl (k := 0) rfl (by rw [ex172]; rfl) (of_decide_eq_true rfl) rfl (fun ls hl => ?_)
          refine lv_goto (tgt := 18) hx hb dL_law_1360 (of_decide_eq_true rfl) ?_
          exact by exact ih x172 σ τ _ _ ls (by have h9 := tx172; omega) ⟨hI2, hI9, hI12, hI16, hI18, hI22, hI31, hI38, hI43, hI47, hI50, hI101, hI102, hI103, hI104, hI105, hI106, hI107, hI109, hI110, hI111, hI119, hs_jKept, hs_jBook, (by omega)⟩ hP hS (lv_sub hl [0, 1, 2, 3] rfl)
       · obtain ⟨q175, k173, k174⟩ := h155
         exact absurd (by omega : False) id
       · obtain ⟨q177, k176⟩ := h156
         exact absurd (by omega : False) id
   · obtain ⟨q180, k178, k179⟩ := h11
     exact by
      refine lv_pop hx hb dL_law_1343 rfl ?_
      refine lv_aload_n hx hb dL_law_1344 rfl (lv_at hl 1 rfl) ?_
      refine lv_aload_n hx hb dL_law_1345 rfl (lv_at hl 3 rfl) ?_
      refine lv_iload_n hx hb dL_law_1346 rfl (lv_at hl 0 rfl) ?_
      refine lv_iconst (v := 1) hx hb dL_law_1347 (of_decide_eq_true rfl) ?_
      refine lv_iadd hx hb dL_law_1348 ?_
      refine jtopr ex2.symm ?_
      refine va_sld hx hb hX hbl hbA hS (jin tx2 (by omega) (by omega)) dL_law_1349 ?_
      refine jcallV (As := [.int (xs x2.toNatClampNeg)]) (rest := []) ⟨hx, hb, hml, hown, hts⟩ hK hP hA hS hZ (c_X12_count l D cI cL ad zz hJ σ τ (xs x2.toNatClampNeg) ((xs x2.toNatClampNeg).toInt) rfl hI101 hI102 hI105 hI106 hI107) cw_RL_169 (jc_55 cI cL ad σ τ) rfl ⟨Nat.le_of_ble_eq_true rfl, Nat.le_of_ble_eq_true rfl⟩ rfl rfl rfl hl.1 rfl (Nat.le_of_ble_eq_true rfl) dL_law_1350 ⟨Nat.le_of_ble_eq_true rfl, Nat.le_of_ble_eq_true rfl⟩ (fun r182 σ181 τ181 H locs h181 hP hS => ?_)
      exact by
       obtain ⟨⟨rfl, rfl⟩, h181⟩ := h181
       rcases h181 with h183 | h184 | h185 | h186 | h187 | h188 | h189
       · obtain ⟨q192, k190, k191⟩ := h183
         exact absurd (by omega : False) id
       · obtain ⟨q195, k193, k194⟩ := h184
         exact absurd (by omega : False) id
       · obtain ⟨q198, k196, k197⟩ := h185
         exact absurd (by omega : False) id
       · obtain ⟨q201, k199, k200⟩ := h186
         exact absurd (by omega : False) id
       · obtain ⟨q204, k202, k203⟩ := h187
         exact absurd (by omega : False) id
       · obtain ⟨q207, k205, k206⟩ := h188
         refine lv_pop hx hb dL_law_1353 rfl ?_
         refine lv_goto (tgt := 1357) hx hb dL_law_1354 (of_decide_eq_true rfl) ?_
         obtain ⟨x208, ex208⟩ : ∃ y : Int32, y = x0 + 6 := ⟨_, rfl⟩
         exact by
          have tx208 : x208.toInt = x0.toInt + 6 := (jadd ex208 rfl jz_6 (by omega) (by omega)).trans (by omega)
          refine lv_iinc (v := x208) (lv' := [(3, .int x208), (2, .ref (ad 55)), (1, .ref (ad 0)), (0, .ref b)]) hx hb dL_law_1357 hl (k := 0) rfl (by rw [ex208]; rfl) (of_decide_eq_true rfl) rfl (fun ls hl => ?_)
          refine lv_goto (tgt := 18) hx hb dL_law_1360 (of_decide_eq_true rfl) ?_
          exact by exact ih x208 σ τ _ _ ls (by have h9 := tx208; omega) ⟨hI2, hI9, hI12, hI16, hI18, hI22, hI31, hI38, hI43, hI47, hI50, hI101, hI102, hI103, hI104, hI105, hI106, hI107, hI109, hI110, hI111, hI119, hs_jKept, hs_jBook, (by omega)⟩ hP hS (lv_sub hl [0, 1, 2, 3] rfl)
       · obtain ⟨q210, k209⟩ := h189
         exact absurd (by omega : False) id
   · obtain ⟨q212, k211⟩ := h12
     have q212 := q212.symm
     subst q212
     exact by
      refine lv_pop hx hb dL_law_1343 rfl ?_
      refine lv_aload_n hx hb dL_law_1344 rfl (lv_at hl 1 rfl) ?_
      refine lv_aload_n hx hb dL_law_1345 rfl (lv_at hl 3 rfl) ?_
      refine lv_iload_n hx hb dL_law_1346 rfl (lv_at hl 0 rfl) ?_
      refine lv_iconst (v := 1) hx hb dL_law_1347 (of_decide_eq_true rfl) ?_
      refine lv_iadd hx hb dL_law_1348 ?_
      refine jtopr ex2.symm ?_
      refine va_sld hx hb hX hbl hbA hS (jin tx2 (by omega) (by omega)) dL_law_1349 ?_
      refine jcallV (As := [.int (xs x2.toNatClampNeg)]) (rest := []) ⟨hx, hb, hml, hown, hts⟩ hK hP hA hS hZ (c_X12_count l D cI cL ad zz hJ σ τ (xs x2.toNatClampNeg) ((xs x2.toNatClampNeg).toInt) rfl hI101 hI102 hI105 hI106 hI107) cw_RL_169 (jc_55 cI cL ad σ τ) rfl ⟨Nat.le_of_ble_eq_true rfl, Nat.le_of_ble_eq_true rfl⟩ rfl rfl rfl hl.1 rfl (Nat.le_of_ble_eq_true rfl) dL_law_1350 ⟨Nat.le_of_ble_eq_true rfl, Nat.le_of_ble_eq_true rfl⟩ (fun r214 σ213 τ213 H locs h213 hP hS => ?_)
      exact by
       obtain ⟨⟨rfl, rfl⟩, h213⟩ := h213
       rcases h213 with h215 | h216 | h217 | h218 | h219 | h220 | h221
       · obtain ⟨q224, k222, k223⟩ := h215
         exact absurd (by omega : False) id
       · obtain ⟨q227, k225, k226⟩ := h216
         exact absurd (by omega : False) id
       · obtain ⟨q230, k228, k229⟩ := h217
         exact absurd (by omega : False) id
       · obtain ⟨q233, k231, k232⟩ := h218
         exact absurd (by omega : False) id
       · obtain ⟨q236, k234, k235⟩ := h219
         exact absurd (by omega : False) id
       · obtain ⟨q239, k237, k238⟩ := h220
         exact absurd (by omega : False) id
       · obtain ⟨q241, k240⟩ := h221
         have q241 := q241.symm
         subst q241
         refine lv_pop hx hb dL_law_1353 rfl ?_
         refine lv_goto (tgt := 1357) hx hb dL_law_1354 (of_decide_eq_true rfl) ?_
         obtain ⟨x242, ex242⟩ : ∃ y : Int32, y = x0 + 6 := ⟨_, rfl⟩
         exact by
          have tx242 : x242.toInt = x0.toInt + 6 := (jadd ex242 rfl jz_6 (by omega) (by omega)).trans (by omega)
          refine lv_iinc (v := x242) (lv' := [(3, .int x242), (2, .ref (ad 55)), (1, .ref (ad 0)), (0, .ref b)]) hx hb dL_law_1357 hl (k := 0) rfl (by rw [ex242]; rfl) (of_decide_eq_true rfl) rfl (fun ls hl => ?_)
          refine lv_goto (tgt := 18) hx hb dL_law_1360 (of_decide_eq_true rfl) ?_
          exact by exact ih x242 σ τ _ _ ls (by have h9 := tx242; omega) ⟨hI2, hI9, hI12, hI16, hI18, hI22, hI31, hI38, hI43, hI47, hI50, hI101, hI102, hI103, hI104, hI105, hI106, hI107, hI109, hI110, hI111, hI119, hs_jKept, hs_jBook, (by omega)⟩ hP hS (lv_sub hl [0, 1, 2, 3] rfl)
set_option maxHeartbeats 4000000 in
set_option maxRecDepth 100000 in
theorem law_case_37 {p : Program} {e : Env} {s : State} {m : MethodId} {below : List Frame} {meth : Method} {c : Code} (l : Launch) {b L : Nat} {xs : Nat → Int32} {D : va_G} {cI cL : ClassId} {ad zz : Nat → Nat} (C0 : lw_At p s m meth c b L xs) (hJ : jD ad) (hA : ∀ q, jA ad q → s.heap.size ≤ q) (hK : jK D cI cL s) (hZ : jZ zz (fun q : Nat => s.heap.size ≤ q) s s.heap) {x0 : Int32} (hx0 : 0 ≤ x0.toInt) (hxL : x0.toInt + 6 ≤ (L : Int)) (hL : L ≤ 384) {σ : Nat → Nat → Int32} {τ : Nat → Nat → Int64} {H : Heap} {locs : List Loc} (hS : va_S (fun q : Nat => s.heap.size ≤ q) s.heap H locs) {ls : Array Slot} (hAll : jAll σ τ) (hP : jH D cI cL ad σ τ H) (hl : lv_has ls 4 [(3, .int x0), (2, .ref (ad 55)), (1, .ref (ad 0)), (0, .ref b)]) (ih : ∀ (x1 : Int32) (σ : Nat → Nat → Int32) (τ : Nat → Nat → Int64) (H : Heap) (locs : List Loc) (ls : Array Slot), x1.toInt = x0.toInt + 6 → jAll σ τ → jH D cI cL ad σ τ H → va_S (fun q : Nat => s.heap.size ≤ q) s.heap H locs → lv_has ls 4 [(3, .int x1), (2, .ref (ad 55)), (1, .ref (ad 0)), (0, .ref b)] → W p l e room_1 s m #[Value.ref b] below meth c H locs 90 348600 (lw_Z below #[Value.ref b] s) (F0 m 18 ls [])) : W p l e room_1 s m #[Value.ref b] below meth c H locs 90 348600 (lw_Z below #[Value.ref b] s) (F0 m 1357 ls []) := by
  obtain ⟨hx, hb, hr, hml, hown, hts0, hX, hbl, hlocks, hgv⟩ := C0
  have hts : ∀ w ∈ wsL_law, w.before #[Value.ref b] s = true := fun w h => hts0 w (wsL_law_in w h)
  have hbA : ¬ (fun q : Nat => s.heap.size ≤ q) b := Nat.not_le.mpr hbl
  have hown : s.vm.findClass RL = some m.cls := hown
  obtain ⟨hI2, hI9, hI12, hI16, hI18, hI22, hI31, hI38, hI43, hI47, hI50, hI101, hI102, hI103, hI104, hI105, hI106, hI107, hI109, hI110, hI111, hI119, hs_jKept, hs_jBook, ht0⟩ := hAll
  have hL9 : (L : Int) ≤ 384 := by omega
  obtain ⟨x1, ex1⟩ : ∃ y : Int32, y = x0 + 6 := ⟨_, rfl⟩
  have tx1 : x1.toInt = x0.toInt + 6 := (jadd ex1 rfl jz_6 (by omega) (by omega)).trans (by omega)
  exact by
   refine lv_iinc (v := x1) (lv' := [(3, .int x1), (2, .ref (ad 55)), (1, .ref (ad 0)), (0, .ref b)]) hx hb dL_law_1357 hl (k := 0) rfl (by rw [ex1]; rfl) (of_decide_eq_true rfl) rfl (fun ls hl => ?_)
   refine lv_goto (tgt := 18) hx hb dL_law_1360 (of_decide_eq_true rfl) ?_
   exact by exact ih x1 σ τ _ _ ls (by have h9 := tx1; omega) ⟨hI2, hI9, hI12, hI16, hI18, hI22, hI31, hI38, hI43, hI47, hI50, hI101, hI102, hI103, hI104, hI105, hI106, hI107, hI109, hI110, hI111, hI119, hs_jKept, hs_jBook, (by omega)⟩ hP hS (lv_sub hl [0, 1, 2, 3] rfl)
