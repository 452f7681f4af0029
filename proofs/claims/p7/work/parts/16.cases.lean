set_option maxHeartbeats 4000000 in
set_option maxRecDepth 100000 in
theorem law_case_19 {p : Program} {e : Env} {s : State} {m : MethodId} {below : List Frame} {meth : Method} {c : Code} (l : Launch) {b L : Nat} {xs : Nat → Int32} {D : va_G} {cI cL : ClassId} {ad zz : Nat → Nat} (C0 : lw_At p s m meth c b L xs) (hJ : jD ad) (hA : ∀ q, jA ad q → s.heap.size ≤ q) (hK : jK D cI cL s) (hZ : jZ zz (fun q : Nat => s.heap.size ≤ q) s s.heap) {x0 : Int32} (hx0 : 0 ≤ x0.toInt) (hxL : x0.toInt + 6 ≤ (L : Int)) (hL : L ≤ 384) {σ : Nat → Nat → Int32} {τ : Nat → Nat → Int64} {H : Heap} {locs : List Loc} (hS : va_S (fun q : Nat => s.heap.size ≤ q) s.heap H locs) {ls : Array Slot} (hAll : jAll σ τ) (hP : jH D cI cL ad σ τ H) (hl : lv_has ls 4 [(3, .int x0), (2, .ref (ad 55)), (1, .ref (ad 0)), (0, .ref b)]) (ih : ∀ (x1 : Int32) (σ : Nat → Nat → Int32) (τ : Nat → Nat → Int64) (H : Heap) (locs : List Loc) (ls : Array Slot), x1.toInt = x0.toInt + 6 → jAll σ τ → jH D cI cL ad σ τ H → va_S (fun q : Nat => s.heap.size ≤ q) s.heap H locs → lv_has ls 4 [(3, .int x1), (2, .ref (ad 55)), (1, .ref (ad 0)), (0, .ref b)] → W p l e room_1 s m #[Value.ref b] below meth c H locs 90 348600 (lw_Z below #[Value.ref b] s) (F0 m 18 ls [])) : W p l e room_1 s m #[Value.ref b] below meth c H locs 90 348600 (lw_Z below #[Value.ref b] s) (F0 m 773 ls []) := by
  obtain ⟨hx, hb, hr, hml, hown, hts0, hX, hbl, hlocks, hgv⟩ := C0
  have hts : ∀ w ∈ wsL_law, w.before #[Value.ref b] s = true := fun w h => hts0 w (wsL_law_in w h)
  have hbA : ¬ (fun q : Nat => s.heap.size ≤ q) b := Nat.not_le.mpr hbl
  have hown : s.vm.findClass RL = some m.cls := hown
  obtain ⟨hI2, hI9, hI12, hI16, hI18, hI22, hI31, hI38, hI43, hI47, hI50, hI101, hI102, hI103, hI104, hI105, hI106, hI107, hI109, hI110, hI111, hI119, hs_jKept, hs_jBook, ht0, hr0⟩ := hAll
  have hL9 : (L : Int) ≤ 384 := by omega
  obtain ⟨i1, w2, w3⟩ : (0 ≤ (σ 9 0).toInt ∧ (σ 9 0).toInt ≤ 80) ∧ (∀ k : Nat, k < 80 → 0 ≤ (σ 10 k).toInt ∧ (σ 10 k).toInt ≤ 255) ∧ (∀ k : Nat, k < 8 → 0 ≤ (σ 11 k).toInt ∧ (σ 11 k).toInt ≤ 3) := id hI9
  obtain ⟨i4, w5⟩ : (0 ≤ (σ 55 15).toInt ∧ (σ 55 15).toInt ≤ 80) ∧ (∀ k : Nat, k < 2 → (-1) ≤ (σ 65 k).toInt ∧ (σ 65 k).toInt ≤ 80) := id hI105
  refine lv_aload_n hx hb dL_law_773 rfl (lv_at hl 2 rfl) ?_
  refine lv_aload_n hx hb dL_law_774 rfl (lv_at hl 3 rfl) ?_
  refine lv_iload_n hx hb dL_law_775 rfl (lv_at hl 0 rfl) ?_
  refine lv_iconst (v := 1) hx hb dL_law_776 (of_decide_eq_true rfl) ?_
  have g6 := jrg (rfl : x0.toInt = x0.toInt)
  refine lv_iadd hx hb dL_law_777 ?_
  refine lv_topi (fun x7 ex7 => ?_)
  exact by
   have tx7 : x7.toInt = x0.toInt + 1 := (jadd ex7 rfl jz_1 (by omega) (by omega)).trans (by omega)
   refine va_sld hx hb hX hbl hbA hS (jin tx7 (by omega) (by omega)) dL_law_778 ?_
   have g8 := jrg (rfl : (xs x7.toNatClampNeg).toInt = (xs x7.toNatClampNeg).toInt)
   refine lv_aload_n hx hb dL_law_779 rfl (lv_at hl 3 rfl) ?_
   refine lv_iload_n hx hb dL_law_780 rfl (lv_at hl 0 rfl) ?_
   refine lv_iconst (v := 2) hx hb dL_law_781 (of_decide_eq_true rfl) ?_
   refine lv_iadd hx hb dL_law_782 ?_
   refine lv_topi (fun x9 ex9 => ?_)
   have tx9 : x9.toInt = x0.toInt + 2 := (jadd ex9 rfl jz_2 (by omega) (by omega)).trans (by omega)
   exact by
    refine va_sld hx hb hX hbl hbA hS (jin tx9 (by omega) (by omega)) dL_law_783 ?_
    have g10 := jrg (rfl : (xs x9.toNatClampNeg).toInt = (xs x9.toNatClampNeg).toInt)
    refine jcallV (As := [.int (xs x7.toNatClampNeg), .int (xs x9.toNatClampNeg)]) (rest := []) ⟨hx, hb, hml, hown, hts⟩ hK hP hA hS hZ (c_X11_book l D cI cL ad zz hJ σ τ (xs x7.toNatClampNeg) ((xs x7.toNatClampNeg).toInt) rfl (xs x9.toNatClampNeg) ((xs x9.toNatClampNeg).toInt) rfl hI2 hI16 hI47) cw_RL_93 (jc_0 cI cL ad σ τ) rfl ⟨Nat.le_of_ble_eq_true rfl, Nat.le_of_ble_eq_true rfl⟩ rfl rfl rfl hl.1 rfl (Nat.le_of_ble_eq_true rfl) dL_law_784 ⟨Nat.le_of_ble_eq_true rfl, Nat.le_of_ble_eq_true rfl⟩ (fun r12 σ11 τ11 H locs h11 hP hS => ?_)
    obtain ⟨rfl, f13, f14, I15, w16, h11⟩ := h11
    refine lv_pop hx hb dL_law_787 rfl ?_
    refine lv_aload_n hx hb dL_law_788 rfl (lv_at hl 1 rfl) ?_
    refine lv_aload_n hx hb dL_law_789 rfl (lv_at hl 3 rfl) ?_
    refine lv_iload_n hx hb dL_law_790 rfl (lv_at hl 0 rfl) ?_
    refine lv_iconst (v := 1) hx hb dL_law_791 (of_decide_eq_true rfl) ?_
    refine lv_iadd hx hb dL_law_792 ?_
    refine jtopr ex7.symm ?_
    exact by
     refine va_sld hx hb hX hbl hbA hS (jin tx7 (by omega) (by omega)) dL_law_793 ?_
     refine lv_aload_n hx hb dL_law_794 rfl (lv_at hl 3 rfl) ?_
     refine lv_iload_n hx hb dL_law_795 rfl (lv_at hl 0 rfl) ?_
     refine lv_iconst (v := 2) hx hb dL_law_796 (of_decide_eq_true rfl) ?_
     refine lv_iadd hx hb dL_law_797 ?_
     refine jtopr ex9.symm ?_
     refine va_sld hx hb hX hbl hbA hS (jin tx9 (by omega) (by omega)) dL_law_798 ?_
     have I18 : jI102 σ11 := jI102_fr (congrFun (f13 55 (of_decide_eq_true rfl)) 6) (f13 60 (of_decide_eq_true rfl)) (f13 61 (of_decide_eq_true rfl)) hI102
     have I19 : jI104 σ11 := jI104_fr (congrFun (f13 55 (of_decide_eq_true rfl)) 10) (congrFun (f13 55 (of_decide_eq_true rfl)) 12) (congrFun (f13 55 (of_decide_eq_true rfl)) 13) (f13 62 (of_decide_eq_true rfl)) (f13 67 (of_decide_eq_true rfl)) hI104
     exact by
      have I20 : jI107 σ11 := jI107_fr (congrFun (f13 55 (of_decide_eq_true rfl)) 12) (congrFun (f13 55 (of_decide_eq_true rfl)) 47) (f13 80 (of_decide_eq_true rfl)) hI107
      have w21 : ∀ k : Nat, k < 4 → 0 ≤ (σ 68 k).toInt ∧ (σ 68 k).toInt ≤ 3 := hI119
      have w22 : ∀ k : Nat, k < 4 → 0 ≤ (σ11 68 k).toInt ∧ (σ11 68 k).toInt ≤ 3 := (jrr_fr (f13 68 (of_decide_eq_true rfl)) w21)
      have p23 : jBook σ11 := jBook.fr (congrFun (f13 55 (of_decide_eq_true rfl)) 47) (congrFun (f13 55 (of_decide_eq_true rfl)) 10) (f13 81 (of_decide_eq_true rfl)) hs_jBook
      have z24 : (σ11 55 47).toInt = (σ 55 47).toInt := (congrArg Int32.toInt (show σ11 55 47 = (σ 55 47) from (congrFun (f13 55 (of_decide_eq_true rfl)) 47)))
      refine jcallV (As := [.int (xs x7.toNatClampNeg), .int (xs x9.toNatClampNeg)]) (rest := []) ⟨hx, hb, hml, hown, hts⟩ hK hP hA hS hZ (c_X12_book l D cI cL ad zz hJ σ11 τ (xs x7.toNatClampNeg) ((xs x7.toNatClampNeg).toInt) rfl (xs x9.toNatClampNeg) ((xs x9.toNatClampNeg).toInt) rfl I18 I19 I20 w22 p23) cw_RL_96 (jc_55 cI cL ad σ11 τ) rfl ⟨Nat.le_of_ble_eq_true rfl, Nat.le_of_ble_eq_true rfl⟩ rfl rfl rfl hl.1 rfl (Nat.le_of_ble_eq_true rfl) dL_law_799 ⟨Nat.le_of_ble_eq_true rfl, Nat.le_of_ble_eq_true rfl⟩ (fun r26 σ25 τ25 H locs h25 hP hS => ?_)
      obtain ⟨rfl, f27, f28, I29, w30, p31, w32, h25⟩ := h25
      rcases h25 with h34 | h35
      · obtain ⟨q38, k36, k37⟩ := h34
        refine lv_pop hx hb dL_law_802 rfl ?_
        refine lv_goto (tgt := 1357) hx hb dL_law_803 (of_decide_eq_true rfl) ?_
        obtain ⟨x39, ex39⟩ : ∃ y : Int32, y = x0 + 6 := ⟨_, rfl⟩
        exact by
         have tx39 : x39.toInt = x0.toInt + 6 := (jadd ex39 rfl jz_6 (by omega) (by omega)).trans (by omega)
         refine lv_iinc (v := x39) (lv' := [(3, .int x39), (2, .ref (ad 55)), (1, .ref (ad 0)), (0, .ref b)]) hx hb dL_law_1357 hl (k := 0) rfl (by rw [ex39]; rfl) (of_decide_eq_true rfl) rfl (fun ls hl => ?_)
         refine lv_goto (tgt := 18) hx hb dL_law_1360 (of_decide_eq_true rfl) ?_
         have I40 : jI2 σ25 := jI2_fr ((congrFun (f27 2 (of_decide_eq_true rfl)) 0).trans (congrFun (f13 2 (of_decide_eq_true rfl)) 0)) ((congrFun (f27 2 (of_decide_eq_true rfl)) 1).trans (congrFun (f13 2 (of_decide_eq_true rfl)) 1)) ((congrFun (f27 2 (of_decide_eq_true rfl)) 2).trans (congrFun (f13 2 (of_decide_eq_true rfl)) 2)) ((congrFun (f27 2 (of_decide_eq_true rfl)) 3).trans (congrFun (f13 2 (of_decide_eq_true rfl)) 3)) ((f27 6 (of_decide_eq_true rfl)).trans (f13 6 (of_decide_eq_true rfl))) hI2
         have I41 : jI9 σ25 := jI9_fr ((congrFun (f27 9 (of_decide_eq_true rfl)) 0).trans (congrFun (f13 9 (of_decide_eq_true rfl)) 0)) ((f27 10 (of_decide_eq_true rfl)).trans (f13 10 (of_decide_eq_true rfl))) ((f27 11 (of_decide_eq_true rfl)).trans (f13 11 (of_decide_eq_true rfl))) hI9
         have I42 : jI12 σ25 := jI12_fr ((congrFun (f27 12 (of_decide_eq_true rfl)) 0).trans (congrFun (f13 12 (of_decide_eq_true rfl)) 0)) ((f27 13 (of_decide_eq_true rfl)).trans (f13 13 (of_decide_eq_true rfl))) hI12
         have I43 : jI16 σ25 := jI16_fr ((congrFun (f27 16 (of_decide_eq_true rfl)) 0).trans (congrFun (f13 16 (of_decide_eq_true rfl)) 0)) ((congrFun (f27 16 (of_decide_eq_true rfl)) 1).trans (congrFun (f13 16 (of_decide_eq_true rfl)) 1)) ((congrFun (f27 16 (of_decide_eq_true rfl)) 2).trans (congrFun (f13 16 (of_decide_eq_true rfl)) 2)) ((f27 17 (of_decide_eq_true rfl)).trans (f13 17 (of_decide_eq_true rfl))) hI16
         have I44 : jI18 σ25 := jI18_fr ((congrFun (f27 18 (of_decide_eq_true rfl)) 0).trans (congrFun (f13 18 (of_decide_eq_true rfl)) 0)) ((f27 19 (of_decide_eq_true rfl)).trans (f13 19 (of_decide_eq_true rfl))) hI18
         have I45 : jI22 σ25 := jI22_fr ((congrFun (f27 22 (of_decide_eq_true rfl)) 0).trans (congrFun (f13 22 (of_decide_eq_true rfl)) 0)) ((f27 23 (of_decide_eq_true rfl)).trans (f13 23 (of_decide_eq_true rfl))) hI22
         exact by
          have I46 : jI31 σ25 := jI31_fr ((congrFun (f27 31 (of_decide_eq_true rfl)) 8).trans (congrFun (f13 31 (of_decide_eq_true rfl)) 8)) ((f27 33 (of_decide_eq_true rfl)).trans (f13 33 (of_decide_eq_true rfl))) ((f27 36 (of_decide_eq_true rfl)).trans (f13 36 (of_decide_eq_true rfl))) hI31
          have I47 : jI38 σ25 := jI38_fr ((congrFun (f27 38 (of_decide_eq_true rfl)) 0).trans (congrFun (f13 38 (of_decide_eq_true rfl)) 0)) ((congrFun (f27 38 (of_decide_eq_true rfl)) 1).trans (congrFun (f13 38 (of_decide_eq_true rfl)) 1)) ((f27 39 (of_decide_eq_true rfl)).trans (f13 39 (of_decide_eq_true rfl))) hI38
          have I48 : jI43 σ25 := jI43_fr ((congrFun (f27 43 (of_decide_eq_true rfl)) 8).trans (congrFun (f13 43 (of_decide_eq_true rfl)) 8)) hI43
          have I49 : jI47 σ25 := jI47_fr (congrFun (f27 47 (of_decide_eq_true rfl)) 0) (f27 48 (of_decide_eq_true rfl)) (f27 49 (of_decide_eq_true rfl)) I15
          have I50 : jI50 σ25 := jI50_fr ((f27 52 (of_decide_eq_true rfl)).trans (f13 52 (of_decide_eq_true rfl))) hI50
          have I51 : jI101 σ25 := jI101_fr ((f28 4 (of_decide_eq_true rfl)).trans (congrFun (f13 55 (of_decide_eq_true rfl)) 4)) ((f28 5 (of_decide_eq_true rfl)).trans (congrFun (f13 55 (of_decide_eq_true rfl)) 5)) ((f27 56 (of_decide_eq_true rfl)).trans (f13 56 (of_decide_eq_true rfl))) ((f27 57 (of_decide_eq_true rfl)).trans (f13 57 (of_decide_eq_true rfl))) ((f27 58 (of_decide_eq_true rfl)).trans (f13 58 (of_decide_eq_true rfl))) ((f27 59 (of_decide_eq_true rfl)).trans (f13 59 (of_decide_eq_true rfl))) hI101
          have I52 : jI102 σ25 := jI102_fr (f28 6 (of_decide_eq_true rfl)) (f27 60 (of_decide_eq_true rfl)) (f27 61 (of_decide_eq_true rfl)) I18
          have I53 : jI103 σ25 := jI103_fr ((f28 9 (of_decide_eq_true rfl)).trans (congrFun (f13 55 (of_decide_eq_true rfl)) 9)) hI103
          have I54 : jI104 σ25 := jI104_fr (f28 10 (of_decide_eq_true rfl)) (f28 12 (of_decide_eq_true rfl)) (f28 13 (of_decide_eq_true rfl)) (f27 62 (of_decide_eq_true rfl)) (f27 67 (of_decide_eq_true rfl)) I19
          have I55 : jI105 σ25 := jI105_fr ((f28 15 (of_decide_eq_true rfl)).trans (congrFun (f13 55 (of_decide_eq_true rfl)) 15)) ((f27 65 (of_decide_eq_true rfl)).trans (f13 65 (of_decide_eq_true rfl))) hI105
          have I56 : jI106 σ25 := jI106_fr ((f28 32 (of_decide_eq_true rfl)).trans (congrFun (f13 55 (of_decide_eq_true rfl)) 32)) ((f27 70 (of_decide_eq_true rfl)).trans (f13 70 (of_decide_eq_true rfl))) ((f27 71 (of_decide_eq_true rfl)).trans (f13 71 (of_decide_eq_true rfl))) ((f27 72 (of_decide_eq_true rfl)).trans (f13 72 (of_decide_eq_true rfl))) hI106
          have I57 : jI109 σ25 := jI109_fr ((f28 50 (of_decide_eq_true rfl)).trans (congrFun (f13 55 (of_decide_eq_true rfl)) 50)) hI109
          have I58 : jI110 σ25 := jI110_fr ((f27 86 (of_decide_eq_true rfl)).trans (f13 86 (of_decide_eq_true rfl))) ((f27 87 (of_decide_eq_true rfl)).trans (f13 87 (of_decide_eq_true rfl))) hI110
          have I59 : jI111 σ25 := jI111_fr ((f27 79 (of_decide_eq_true rfl)).trans (f13 79 (of_decide_eq_true rfl))) hI111
          have I60 : jI119 σ25 := w30
          have p61 : jKept σ25 := jKept.fr ((f27 75 (of_decide_eq_true rfl)).trans (f13 75 (of_decide_eq_true rfl))) ((f27 76 (of_decide_eq_true rfl)).trans (f13 76 (of_decide_eq_true rfl))) ((f27 77 (of_decide_eq_true rfl)).trans (f13 77 (of_decide_eq_true rfl))) hs_jKept
          have z62 : (σ25 9 0).toInt = (σ 9 0).toInt := (congrArg Int32.toInt (show σ25 9 0 = (σ 9 0) from ((congrFun (f27 9 (of_decide_eq_true rfl)) 0).trans (congrFun (f13 9 (of_decide_eq_true rfl)) 0))))
          have z63 : (σ25 55 15).toInt = (σ 55 15).toInt := (congrArg Int32.toInt (show σ25 55 15 = (σ 55 15) from ((f28 15 (of_decide_eq_true rfl)).trans (congrFun (f13 55 (of_decide_eq_true rfl)) 15))))
          exact by exact ih x39 σ25 τ _ _ ls (by have h9 := tx39; omega) ⟨I40, I41, I42, I43, I44, I45, I46, I47, I48, I49, I50, I51, I52, I53, I54, I55, I56, I29, I57, I58, I59, I60, p61, p31, (by omega), (show jTp (σ25 10) (σ25 63) (σ25 55 15).toInt by rw [show σ25 10 = σ 10 from ((f27 10 (of_decide_eq_true rfl)).trans (f13 10 (of_decide_eq_true rfl))), show σ25 63 = σ 63 from ((f27 63 (of_decide_eq_true rfl)).trans (f13 63 (of_decide_eq_true rfl)))]; exact hr0.le (by omega))⟩ hP hS (lv_sub hl [0, 1, 2, 3] rfl)
      · obtain ⟨q66, k64, k65⟩ := h35
        refine lv_pop hx hb dL_law_802 rfl ?_
        refine lv_goto (tgt := 1357) hx hb dL_law_803 (of_decide_eq_true rfl) ?_
        obtain ⟨x67, ex67⟩ : ∃ y : Int32, y = x0 + 6 := ⟨_, rfl⟩
        exact by
         have tx67 : x67.toInt = x0.toInt + 6 := (jadd ex67 rfl jz_6 (by omega) (by omega)).trans (by omega)
         refine lv_iinc (v := x67) (lv' := [(3, .int x67), (2, .ref (ad 55)), (1, .ref (ad 0)), (0, .ref b)]) hx hb dL_law_1357 hl (k := 0) rfl (by rw [ex67]; rfl) (of_decide_eq_true rfl) rfl (fun ls hl => ?_)
         refine lv_goto (tgt := 18) hx hb dL_law_1360 (of_decide_eq_true rfl) ?_
         have I68 : jI2 σ25 := jI2_fr ((congrFun (f27 2 (of_decide_eq_true rfl)) 0).trans (congrFun (f13 2 (of_decide_eq_true rfl)) 0)) ((congrFun (f27 2 (of_decide_eq_true rfl)) 1).trans (congrFun (f13 2 (of_decide_eq_true rfl)) 1)) ((congrFun (f27 2 (of_decide_eq_true rfl)) 2).trans (congrFun (f13 2 (of_decide_eq_true rfl)) 2)) ((congrFun (f27 2 (of_decide_eq_true rfl)) 3).trans (congrFun (f13 2 (of_decide_eq_true rfl)) 3)) ((f27 6 (of_decide_eq_true rfl)).trans (f13 6 (of_decide_eq_true rfl))) hI2
         have I69 : jI9 σ25 := jI9_fr ((congrFun (f27 9 (of_decide_eq_true rfl)) 0).trans (congrFun (f13 9 (of_decide_eq_true rfl)) 0)) ((f27 10 (of_decide_eq_true rfl)).trans (f13 10 (of_decide_eq_true rfl))) ((f27 11 (of_decide_eq_true rfl)).trans (f13 11 (of_decide_eq_true rfl))) hI9
         have I70 : jI12 σ25 := jI12_fr ((congrFun (f27 12 (of_decide_eq_true rfl)) 0).trans (congrFun (f13 12 (of_decide_eq_true rfl)) 0)) ((f27 13 (of_decide_eq_true rfl)).trans (f13 13 (of_decide_eq_true rfl))) hI12
         have I71 : jI16 σ25 := jI16_fr ((congrFun (f27 16 (of_decide_eq_true rfl)) 0).trans (congrFun (f13 16 (of_decide_eq_true rfl)) 0)) ((congrFun (f27 16 (of_decide_eq_true rfl)) 1).trans (congrFun (f13 16 (of_decide_eq_true rfl)) 1)) ((congrFun (f27 16 (of_decide_eq_true rfl)) 2).trans (congrFun (f13 16 (of_decide_eq_true rfl)) 2)) ((f27 17 (of_decide_eq_true rfl)).trans (f13 17 (of_decide_eq_true rfl))) hI16
         have I72 : jI18 σ25 := jI18_fr ((congrFun (f27 18 (of_decide_eq_true rfl)) 0).trans (congrFun (f13 18 (of_decide_eq_true rfl)) 0)) ((f27 19 (of_decide_eq_true rfl)).trans (f13 19 (of_decide_eq_true rfl))) hI18
         have I73 : jI22 σ25 := jI22_fr ((congrFun (f27 22 (of_decide_eq_true rfl)) 0).trans (congrFun (f13 22 (of_decide_eq_true rfl)) 0)) ((f27 23 (of_decide_eq_true rfl)).trans (f13 23 (of_decide_eq_true rfl))) hI22
         exact by
          have I74 : jI31 σ25 := jI31_fr ((congrFun (f27 31 (of_decide_eq_true rfl)) 8).trans (congrFun (f13 31 (of_decide_eq_true rfl)) 8)) ((f27 33 (of_decide_eq_true rfl)).trans (f13 33 (of_decide_eq_true rfl))) ((f27 36 (of_decide_eq_true rfl)).trans (f13 36 (of_decide_eq_true rfl))) hI31
          have I75 : jI38 σ25 := jI38_fr ((congrFun (f27 38 (of_decide_eq_true rfl)) 0).trans (congrFun (f13 38 (of_decide_eq_true rfl)) 0)) ((congrFun (f27 38 (of_decide_eq_true rfl)) 1).trans (congrFun (f13 38 (of_decide_eq_true rfl)) 1)) ((f27 39 (of_decide_eq_true rfl)).trans (f13 39 (of_decide_eq_true rfl))) hI38
          have I76 : jI43 σ25 := jI43_fr ((congrFun (f27 43 (of_decide_eq_true rfl)) 8).trans (congrFun (f13 43 (of_decide_eq_true rfl)) 8)) hI43
          have I77 : jI47 σ25 := jI47_fr (congrFun (f27 47 (of_decide_eq_true rfl)) 0) (f27 48 (of_decide_eq_true rfl)) (f27 49 (of_decide_eq_true rfl)) I15
          have I78 : jI50 σ25 := jI50_fr ((f27 52 (of_decide_eq_true rfl)).trans (f13 52 (of_decide_eq_true rfl))) hI50
          have I79 : jI101 σ25 := jI101_fr ((f28 4 (of_decide_eq_true rfl)).trans (congrFun (f13 55 (of_decide_eq_true rfl)) 4)) ((f28 5 (of_decide_eq_true rfl)).trans (congrFun (f13 55 (of_decide_eq_true rfl)) 5)) ((f27 56 (of_decide_eq_true rfl)).trans (f13 56 (of_decide_eq_true rfl))) ((f27 57 (of_decide_eq_true rfl)).trans (f13 57 (of_decide_eq_true rfl))) ((f27 58 (of_decide_eq_true rfl)).trans (f13 58 (of_decide_eq_true rfl))) ((f27 59 (of_decide_eq_true rfl)).trans (f13 59 (of_decide_eq_true rfl))) hI101
          have I80 : jI102 σ25 := jI102_fr (f28 6 (of_decide_eq_true rfl)) (f27 60 (of_decide_eq_true rfl)) (f27 61 (of_decide_eq_true rfl)) I18
          have I81 : jI103 σ25 := jI103_fr ((f28 9 (of_decide_eq_true rfl)).trans (congrFun (f13 55 (of_decide_eq_true rfl)) 9)) hI103
          have I82 : jI104 σ25 := jI104_fr (f28 10 (of_decide_eq_true rfl)) (f28 12 (of_decide_eq_true rfl)) (f28 13 (of_decide_eq_true rfl)) (f27 62 (of_decide_eq_true rfl)) (f27 67 (of_decide_eq_true rfl)) I19
          have I83 : jI105 σ25 := jI105_fr ((f28 15 (of_decide_eq_true rfl)).trans (congrFun (f13 55 (of_decide_eq_true rfl)) 15)) ((f27 65 (of_decide_eq_true rfl)).trans (f13 65 (of_decide_eq_true rfl))) hI105
          have I84 : jI106 σ25 := jI106_fr ((f28 32 (of_decide_eq_true rfl)).trans (congrFun (f13 55 (of_decide_eq_true rfl)) 32)) ((f27 70 (of_decide_eq_true rfl)).trans (f13 70 (of_decide_eq_true rfl))) ((f27 71 (of_decide_eq_true rfl)).trans (f13 71 (of_decide_eq_true rfl))) ((f27 72 (of_decide_eq_true rfl)).trans (f13 72 (of_decide_eq_true rfl))) hI106
          have I85 : jI109 σ25 := jI109_fr ((f28 50 (of_decide_eq_true rfl)).trans (congrFun (f13 55 (of_decide_eq_true rfl)) 50)) hI109
          have I86 : jI110 σ25 := jI110_fr ((f27 86 (of_decide_eq_true rfl)).trans (f13 86 (of_decide_eq_true rfl))) ((f27 87 (of_decide_eq_true rfl)).trans (f13 87 (of_decide_eq_true rfl))) hI110
          have I87 : jI111 σ25 := jI111_fr ((f27 79 (of_decide_eq_true rfl)).trans (f13 79 (of_decide_eq_true rfl))) hI111
          have I88 : jI119 σ25 := w30
          have p89 : jKept σ25 := jKept.fr ((f27 75 (of_decide_eq_true rfl)).trans (f13 75 (of_decide_eq_true rfl))) ((f27 76 (of_decide_eq_true rfl)).trans (f13 76 (of_decide_eq_true rfl))) ((f27 77 (of_decide_eq_true rfl)).trans (f13 77 (of_decide_eq_true rfl))) hs_jKept
          have z90 : (σ25 9 0).toInt = (σ 9 0).toInt := (congrArg Int32.toInt (show σ25 9 0 = (σ 9 0) from ((congrFun (f27 9 (of_decide_eq_true rfl)) 0).trans (congrFun (f13 9 (of_decide_eq_true rfl)) 0))))
          have z91 : (σ25 55 15).toInt = (σ 55 15).toInt := (congrArg Int32.toInt (show σ25 55 15 = (σ 55 15) from ((f28 15 (of_decide_eq_true rfl)).trans (congrFun (f13 55 (of_decide_eq_true rfl)) 15))))
          exact by exact ih x67 σ25 τ _ _ ls (by have h9 := tx67; omega) ⟨I68, I69, I70, I71, I72, I73, I74, I75, I76, I77, I78, I79, I80, I81, I82, I83, I84, I29, I85, I86, I87, I88, p89, p31, (by omega), (show jTp (σ25 10) (σ25 63) (σ25 55 15).toInt by rw [show σ25 10 = σ 10 from ((f27 10 (of_decide_eq_true rfl)).trans (f13 10 (of_decide_eq_true rfl))), show σ25 63 = σ 63 from ((f27 63 (of_decide_eq_true rfl)).trans (f13 63 (of_decide_eq_true rfl)))]; exact hr0.le (by omega))⟩ hP hS (lv_sub hl [0, 1, 2, 3] rfl)
set_option maxHeartbeats 4000000 in
set_option maxRecDepth 100000 in
theorem law_case_20 {p : Program} {e : Env} {s : State} {m : MethodId} {below : List Frame} {meth : Method} {c : Code} (l : Launch) {b L : Nat} {xs : Nat → Int32} {D : va_G} {cI cL : ClassId} {ad zz : Nat → Nat} (C0 : lw_At p s m meth c b L xs) (hJ : jD ad) (hA : ∀ q, jA ad q → s.heap.size ≤ q) (hK : jK D cI cL s) (hZ : jZ zz (fun q : Nat => s.heap.size ≤ q) s s.heap) {x0 : Int32} (hx0 : 0 ≤ x0.toInt) (hxL : x0.toInt + 6 ≤ (L : Int)) (hL : L ≤ 384) {σ : Nat → Nat → Int32} {τ : Nat → Nat → Int64} {H : Heap} {locs : List Loc} (hS : va_S (fun q : Nat => s.heap.size ≤ q) s.heap H locs) {ls : Array Slot} (hAll : jAll σ τ) (hP : jH D cI cL ad σ τ H) (hl : lv_has ls 4 [(3, .int x0), (2, .ref (ad 55)), (1, .ref (ad 0)), (0, .ref b)]) (ih : ∀ (x1 : Int32) (σ : Nat → Nat → Int32) (τ : Nat → Nat → Int64) (H : Heap) (locs : List Loc) (ls : Array Slot), x1.toInt = x0.toInt + 6 → jAll σ τ → jH D cI cL ad σ τ H → va_S (fun q : Nat => s.heap.size ≤ q) s.heap H locs → lv_has ls 4 [(3, .int x1), (2, .ref (ad 55)), (1, .ref (ad 0)), (0, .ref b)] → W p l e room_1 s m #[Value.ref b] below meth c H locs 90 348600 (lw_Z below #[Value.ref b] s) (F0 m 18 ls [])) : W p l e room_1 s m #[Value.ref b] below meth c H locs 90 348600 (lw_Z below #[Value.ref b] s) (F0 m 806 ls []) := by
  obtain ⟨hx, hb, hr, hml, hown, hts0, hX, hbl, hlocks, hgv⟩ := C0
  have hts : ∀ w ∈ wsL_law, w.before #[Value.ref b] s = true := fun w h => hts0 w (wsL_law_in w h)
  have hbA : ¬ (fun q : Nat => s.heap.size ≤ q) b := Nat.not_le.mpr hbl
  have hown : s.vm.findClass RL = some m.cls := hown
  obtain ⟨hI2, hI9, hI12, hI16, hI18, hI22, hI31, hI38, hI43, hI47, hI50, hI101, hI102, hI103, hI104, hI105, hI106, hI107, hI109, hI110, hI111, hI119, hs_jKept, hs_jBook, ht0, hr0⟩ := hAll
  have hL9 : (L : Int) ≤ 384 := by omega
  obtain ⟨i1, w2, w3⟩ : (0 ≤ (σ 9 0).toInt ∧ (σ 9 0).toInt ≤ 80) ∧ (∀ k : Nat, k < 80 → 0 ≤ (σ 10 k).toInt ∧ (σ 10 k).toInt ≤ 255) ∧ (∀ k : Nat, k < 8 → 0 ≤ (σ 11 k).toInt ∧ (σ 11 k).toInt ≤ 3) := id hI9
  obtain ⟨i4, w5⟩ : (0 ≤ (σ 55 15).toInt ∧ (σ 55 15).toInt ≤ 80) ∧ (∀ k : Nat, k < 2 → (-1) ≤ (σ 65 k).toInt ∧ (σ 65 k).toInt ≤ 80) := id hI105
  refine lv_aload_n hx hb dL_law_806 rfl (lv_at hl 2 rfl) ?_
  refine lv_aload_n hx hb dL_law_807 rfl (lv_at hl 3 rfl) ?_
  refine lv_iload_n hx hb dL_law_808 rfl (lv_at hl 0 rfl) ?_
  refine lv_iconst (v := 1) hx hb dL_law_809 (of_decide_eq_true rfl) ?_
  have g6 := jrg (rfl : x0.toInt = x0.toInt)
  refine lv_iadd hx hb dL_law_810 ?_
  refine lv_topi (fun x7 ex7 => ?_)
  exact by
   have tx7 : x7.toInt = x0.toInt + 1 := (jadd ex7 rfl jz_1 (by omega) (by omega)).trans (by omega)
   refine va_sld hx hb hX hbl hbA hS (jin tx7 (by omega) (by omega)) dL_law_811 ?_
   have g8 := jrg (rfl : (xs x7.toNatClampNeg).toInt = (xs x7.toNatClampNeg).toInt)
   refine lv_aload_n hx hb dL_law_812 rfl (lv_at hl 3 rfl) ?_
   refine lv_iload_n hx hb dL_law_813 rfl (lv_at hl 0 rfl) ?_
   refine lv_iconst (v := 2) hx hb dL_law_814 (of_decide_eq_true rfl) ?_
   refine lv_iadd hx hb dL_law_815 ?_
   refine lv_topi (fun x9 ex9 => ?_)
   have tx9 : x9.toInt = x0.toInt + 2 := (jadd ex9 rfl jz_2 (by omega) (by omega)).trans (by omega)
   exact by
    refine va_sld hx hb hX hbl hbA hS (jin tx9 (by omega) (by omega)) dL_law_816 ?_
    have g10 := jrg (rfl : (xs x9.toNatClampNeg).toInt = (xs x9.toNatClampNeg).toInt)
    refine jcallV (As := [.int (xs x7.toNatClampNeg), .int (xs x9.toNatClampNeg)]) (rest := []) ⟨hx, hb, hml, hown, hts⟩ hK hP hA hS hZ (c_X11_books l D cI cL ad zz hJ σ τ (xs x7.toNatClampNeg) ((xs x7.toNatClampNeg).toInt) rfl (xs x9.toNatClampNeg) ((xs x9.toNatClampNeg).toInt) rfl hI2 hI16 hI47 hI50) cw_RL_97 (jc_0 cI cL ad σ τ) rfl ⟨Nat.le_of_ble_eq_true rfl, Nat.le_of_ble_eq_true rfl⟩ rfl rfl rfl hl.1 rfl (Nat.le_of_ble_eq_true rfl) dL_law_817 ⟨Nat.le_of_ble_eq_true rfl, Nat.le_of_ble_eq_true rfl⟩ (fun r12 σ11 τ11 H locs h11 hP hS => ?_)
    obtain ⟨rfl, f13, f14, I15, w16, h11⟩ := h11
    refine lv_pop hx hb dL_law_820 rfl ?_
    refine lv_aload_n hx hb dL_law_821 rfl (lv_at hl 1 rfl) ?_
    refine lv_aload_n hx hb dL_law_822 rfl (lv_at hl 3 rfl) ?_
    refine lv_iload_n hx hb dL_law_823 rfl (lv_at hl 0 rfl) ?_
    refine lv_iconst (v := 1) hx hb dL_law_824 (of_decide_eq_true rfl) ?_
    refine lv_iadd hx hb dL_law_825 ?_
    refine jtopr ex7.symm ?_
    exact by
     refine va_sld hx hb hX hbl hbA hS (jin tx7 (by omega) (by omega)) dL_law_826 ?_
     refine lv_aload_n hx hb dL_law_827 rfl (lv_at hl 3 rfl) ?_
     refine lv_iload_n hx hb dL_law_828 rfl (lv_at hl 0 rfl) ?_
     refine lv_iconst (v := 2) hx hb dL_law_829 (of_decide_eq_true rfl) ?_
     refine lv_iadd hx hb dL_law_830 ?_
     refine jtopr ex9.symm ?_
     refine va_sld hx hb hX hbl hbA hS (jin tx9 (by omega) (by omega)) dL_law_831 ?_
     have I18 : jI102 σ11 := jI102_fr (congrFun (f13 55 (of_decide_eq_true rfl)) 6) (f13 60 (of_decide_eq_true rfl)) (f13 61 (of_decide_eq_true rfl)) hI102
     have I19 : jI104 σ11 := jI104_fr (congrFun (f13 55 (of_decide_eq_true rfl)) 10) (congrFun (f13 55 (of_decide_eq_true rfl)) 12) (congrFun (f13 55 (of_decide_eq_true rfl)) 13) (f13 62 (of_decide_eq_true rfl)) (f13 67 (of_decide_eq_true rfl)) hI104
     exact by
      have I20 : jI107 σ11 := jI107_fr (congrFun (f13 55 (of_decide_eq_true rfl)) 12) (congrFun (f13 55 (of_decide_eq_true rfl)) 47) (f13 80 (of_decide_eq_true rfl)) hI107
      have I21 : jI110 σ11 := jI110_fr (f13 86 (of_decide_eq_true rfl)) (f13 87 (of_decide_eq_true rfl)) hI110
      have I22 : jI119 σ11 := jI119_fr (f13 68 (of_decide_eq_true rfl)) hI119
      have p23 : jBook σ11 := jBook.fr (congrFun (f13 55 (of_decide_eq_true rfl)) 47) (congrFun (f13 55 (of_decide_eq_true rfl)) 10) (f13 81 (of_decide_eq_true rfl)) hs_jBook
      refine jcallV (As := [.int (xs x7.toNatClampNeg), .int (xs x9.toNatClampNeg)]) (rest := []) ⟨hx, hb, hml, hown, hts⟩ hK hP hA hS hZ (c_X12_books l D cI cL ad zz hJ σ11 τ (xs x7.toNatClampNeg) ((xs x7.toNatClampNeg).toInt) rfl (xs x9.toNatClampNeg) ((xs x9.toNatClampNeg).toInt) rfl I18 I19 I20 I21 I22 p23) cw_RL_100 (jc_55 cI cL ad σ11 τ) rfl ⟨Nat.le_of_ble_eq_true rfl, Nat.le_of_ble_eq_true rfl⟩ rfl rfl rfl hl.1 rfl (Nat.le_of_ble_eq_true rfl) dL_law_832 ⟨Nat.le_of_ble_eq_true rfl, Nat.le_of_ble_eq_true rfl⟩ (fun r25 σ24 τ24 H locs h24 hP hS => ?_)
      obtain ⟨rfl, f26, f27, I28, I29, p30, w31, h24⟩ := h24
      refine lv_pop hx hb dL_law_835 rfl ?_
      refine lv_goto (tgt := 1357) hx hb dL_law_836 (of_decide_eq_true rfl) ?_
      obtain ⟨x33, ex33⟩ : ∃ y : Int32, y = x0 + 6 := ⟨_, rfl⟩
      exact by
       have tx33 : x33.toInt = x0.toInt + 6 := (jadd ex33 rfl jz_6 (by omega) (by omega)).trans (by omega)
       refine lv_iinc (v := x33) (lv' := [(3, .int x33), (2, .ref (ad 55)), (1, .ref (ad 0)), (0, .ref b)]) hx hb dL_law_1357 hl (k := 0) rfl (by rw [ex33]; rfl) (of_decide_eq_true rfl) rfl (fun ls hl => ?_)
       refine lv_goto (tgt := 18) hx hb dL_law_1360 (of_decide_eq_true rfl) ?_
       have I34 : jI2 σ24 := jI2_fr ((congrFun (f26 2 (of_decide_eq_true rfl)) 0).trans (congrFun (f13 2 (of_decide_eq_true rfl)) 0)) ((congrFun (f26 2 (of_decide_eq_true rfl)) 1).trans (congrFun (f13 2 (of_decide_eq_true rfl)) 1)) ((congrFun (f26 2 (of_decide_eq_true rfl)) 2).trans (congrFun (f13 2 (of_decide_eq_true rfl)) 2)) ((congrFun (f26 2 (of_decide_eq_true rfl)) 3).trans (congrFun (f13 2 (of_decide_eq_true rfl)) 3)) ((f26 6 (of_decide_eq_true rfl)).trans (f13 6 (of_decide_eq_true rfl))) hI2
       have I35 : jI9 σ24 := jI9_fr ((congrFun (f26 9 (of_decide_eq_true rfl)) 0).trans (congrFun (f13 9 (of_decide_eq_true rfl)) 0)) ((f26 10 (of_decide_eq_true rfl)).trans (f13 10 (of_decide_eq_true rfl))) ((f26 11 (of_decide_eq_true rfl)).trans (f13 11 (of_decide_eq_true rfl))) hI9
       have I36 : jI12 σ24 := jI12_fr ((congrFun (f26 12 (of_decide_eq_true rfl)) 0).trans (congrFun (f13 12 (of_decide_eq_true rfl)) 0)) ((f26 13 (of_decide_eq_true rfl)).trans (f13 13 (of_decide_eq_true rfl))) hI12
       have I37 : jI16 σ24 := jI16_fr ((congrFun (f26 16 (of_decide_eq_true rfl)) 0).trans (congrFun (f13 16 (of_decide_eq_true rfl)) 0)) ((congrFun (f26 16 (of_decide_eq_true rfl)) 1).trans (congrFun (f13 16 (of_decide_eq_true rfl)) 1)) ((congrFun (f26 16 (of_decide_eq_true rfl)) 2).trans (congrFun (f13 16 (of_decide_eq_true rfl)) 2)) ((f26 17 (of_decide_eq_true rfl)).trans (f13 17 (of_decide_eq_true rfl))) hI16
       have I38 : jI18 σ24 := jI18_fr ((congrFun (f26 18 (of_decide_eq_true rfl)) 0).trans (congrFun (f13 18 (of_decide_eq_true rfl)) 0)) ((f26 19 (of_decide_eq_true rfl)).trans (f13 19 (of_decide_eq_true rfl))) hI18
       have I39 : jI22 σ24 := jI22_fr ((congrFun (f26 22 (of_decide_eq_true rfl)) 0).trans (congrFun (f13 22 (of_decide_eq_true rfl)) 0)) ((f26 23 (of_decide_eq_true rfl)).trans (f13 23 (of_decide_eq_true rfl))) hI22
       exact by
        have I40 : jI31 σ24 := jI31_fr ((congrFun (f26 31 (of_decide_eq_true rfl)) 8).trans (congrFun (f13 31 (of_decide_eq_true rfl)) 8)) ((f26 33 (of_decide_eq_true rfl)).trans (f13 33 (of_decide_eq_true rfl))) ((f26 36 (of_decide_eq_true rfl)).trans (f13 36 (of_decide_eq_true rfl))) hI31
        have I41 : jI38 σ24 := jI38_fr ((congrFun (f26 38 (of_decide_eq_true rfl)) 0).trans (congrFun (f13 38 (of_decide_eq_true rfl)) 0)) ((congrFun (f26 38 (of_decide_eq_true rfl)) 1).trans (congrFun (f13 38 (of_decide_eq_true rfl)) 1)) ((f26 39 (of_decide_eq_true rfl)).trans (f13 39 (of_decide_eq_true rfl))) hI38
        have I42 : jI43 σ24 := jI43_fr ((congrFun (f26 43 (of_decide_eq_true rfl)) 8).trans (congrFun (f13 43 (of_decide_eq_true rfl)) 8)) hI43
        have I43 : jI47 σ24 := jI47_fr (congrFun (f26 47 (of_decide_eq_true rfl)) 0) (f26 48 (of_decide_eq_true rfl)) (f26 49 (of_decide_eq_true rfl)) I15
        have I44 : jI50 σ24 := jI50_fr ((f26 52 (of_decide_eq_true rfl)).trans (f13 52 (of_decide_eq_true rfl))) hI50
        have I45 : jI101 σ24 := jI101_fr ((f27 4 (of_decide_eq_true rfl)).trans (congrFun (f13 55 (of_decide_eq_true rfl)) 4)) ((f27 5 (of_decide_eq_true rfl)).trans (congrFun (f13 55 (of_decide_eq_true rfl)) 5)) ((f26 56 (of_decide_eq_true rfl)).trans (f13 56 (of_decide_eq_true rfl))) ((f26 57 (of_decide_eq_true rfl)).trans (f13 57 (of_decide_eq_true rfl))) ((f26 58 (of_decide_eq_true rfl)).trans (f13 58 (of_decide_eq_true rfl))) ((f26 59 (of_decide_eq_true rfl)).trans (f13 59 (of_decide_eq_true rfl))) hI101
        have I46 : jI102 σ24 := jI102_fr (f27 6 (of_decide_eq_true rfl)) (f26 60 (of_decide_eq_true rfl)) (f26 61 (of_decide_eq_true rfl)) I18
        have I47 : jI103 σ24 := jI103_fr ((f27 9 (of_decide_eq_true rfl)).trans (congrFun (f13 55 (of_decide_eq_true rfl)) 9)) hI103
        have I48 : jI104 σ24 := jI104_fr (f27 10 (of_decide_eq_true rfl)) (f27 12 (of_decide_eq_true rfl)) (f27 13 (of_decide_eq_true rfl)) (f26 62 (of_decide_eq_true rfl)) (f26 67 (of_decide_eq_true rfl)) I19
        have I49 : jI105 σ24 := jI105_fr ((f27 15 (of_decide_eq_true rfl)).trans (congrFun (f13 55 (of_decide_eq_true rfl)) 15)) ((f26 65 (of_decide_eq_true rfl)).trans (f13 65 (of_decide_eq_true rfl))) hI105
        have I50 : jI106 σ24 := jI106_fr ((f27 32 (of_decide_eq_true rfl)).trans (congrFun (f13 55 (of_decide_eq_true rfl)) 32)) ((f26 70 (of_decide_eq_true rfl)).trans (f13 70 (of_decide_eq_true rfl))) ((f26 71 (of_decide_eq_true rfl)).trans (f13 71 (of_decide_eq_true rfl))) ((f26 72 (of_decide_eq_true rfl)).trans (f13 72 (of_decide_eq_true rfl))) hI106
        have I51 : jI109 σ24 := jI109_fr ((f27 50 (of_decide_eq_true rfl)).trans (congrFun (f13 55 (of_decide_eq_true rfl)) 50)) hI109
        have I52 : jI110 σ24 := jI110_fr (f26 86 (of_decide_eq_true rfl)) (f26 87 (of_decide_eq_true rfl)) I21
        have I53 : jI111 σ24 := jI111_fr ((f26 79 (of_decide_eq_true rfl)).trans (f13 79 (of_decide_eq_true rfl))) hI111
        have p54 : jKept σ24 := jKept.fr ((f26 75 (of_decide_eq_true rfl)).trans (f13 75 (of_decide_eq_true rfl))) ((f26 76 (of_decide_eq_true rfl)).trans (f13 76 (of_decide_eq_true rfl))) ((f26 77 (of_decide_eq_true rfl)).trans (f13 77 (of_decide_eq_true rfl))) hs_jKept
        have z55 : (σ24 9 0).toInt = (σ 9 0).toInt := (congrArg Int32.toInt (show σ24 9 0 = (σ 9 0) from ((congrFun (f26 9 (of_decide_eq_true rfl)) 0).trans (congrFun (f13 9 (of_decide_eq_true rfl)) 0))))
        have z56 : (σ24 55 15).toInt = (σ 55 15).toInt := (congrArg Int32.toInt (show σ24 55 15 = (σ 55 15) from ((f27 15 (of_decide_eq_true rfl)).trans (congrFun (f13 55 (of_decide_eq_true rfl)) 15))))
        exact by exact ih x33 σ24 τ _ _ ls (by have h9 := tx33; omega) ⟨I34, I35, I36, I37, I38, I39, I40, I41, I42, I43, I44, I45, I46, I47, I48, I49, I50, I28, I51, I52, I53, I29, p54, p30, (by omega), (show jTp (σ24 10) (σ24 63) (σ24 55 15).toInt by rw [show σ24 10 = σ 10 from ((f26 10 (of_decide_eq_true rfl)).trans (f13 10 (of_decide_eq_true rfl))), show σ24 63 = σ 63 from ((f26 63 (of_decide_eq_true rfl)).trans (f13 63 (of_decide_eq_true rfl)))]; exact hr0.le (by omega))⟩ hP hS (lv_sub hl [0, 1, 2, 3] rfl)
set_option maxHeartbeats 4000000 in
set_option maxRecDepth 100000 in
theorem law_case_21 {p : Program} {e : Env} {s : State} {m : MethodId} {below : List Frame} {meth : Method} {c : Code} (l : Launch) {b L : Nat} {xs : Nat → Int32} {D : va_G} {cI cL : ClassId} {ad zz : Nat → Nat} (C0 : lw_At p s m meth c b L xs) (hJ : jD ad) (hA : ∀ q, jA ad q → s.heap.size ≤ q) (hK : jK D cI cL s) (hZ : jZ zz (fun q : Nat => s.heap.size ≤ q) s s.heap) {x0 : Int32} (hx0 : 0 ≤ x0.toInt) (hxL : x0.toInt + 6 ≤ (L : Int)) (hL : L ≤ 384) {σ : Nat → Nat → Int32} {τ : Nat → Nat → Int64} {H : Heap} {locs : List Loc} (hS : va_S (fun q : Nat => s.heap.size ≤ q) s.heap H locs) {ls : Array Slot} (hAll : jAll σ τ) (hP : jH D cI cL ad σ τ H) (hl : lv_has ls 4 [(3, .int x0), (2, .ref (ad 55)), (1, .ref (ad 0)), (0, .ref b)]) (ih : ∀ (x1 : Int32) (σ : Nat → Nat → Int32) (τ : Nat → Nat → Int64) (H : Heap) (locs : List Loc) (ls : Array Slot), x1.toInt = x0.toInt + 6 → jAll σ τ → jH D cI cL ad σ τ H → va_S (fun q : Nat => s.heap.size ≤ q) s.heap H locs → lv_has ls 4 [(3, .int x1), (2, .ref (ad 55)), (1, .ref (ad 0)), (0, .ref b)] → W p l e room_1 s m #[Value.ref b] below meth c H locs 90 348600 (lw_Z below #[Value.ref b] s) (F0 m 18 ls [])) : W p l e room_1 s m #[Value.ref b] below meth c H locs 90 348600 (lw_Z below #[Value.ref b] s) (F0 m 839 ls []) := by
  obtain ⟨hx, hb, hr, hml, hown, hts0, hX, hbl, hlocks, hgv⟩ := C0
  have hts : ∀ w ∈ wsL_law, w.before #[Value.ref b] s = true := fun w h => hts0 w (wsL_law_in w h)
  have hbA : ¬ (fun q : Nat => s.heap.size ≤ q) b := Nat.not_le.mpr hbl
  have hown : s.vm.findClass RL = some m.cls := hown
  obtain ⟨hI2, hI9, hI12, hI16, hI18, hI22, hI31, hI38, hI43, hI47, hI50, hI101, hI102, hI103, hI104, hI105, hI106, hI107, hI109, hI110, hI111, hI119, hs_jKept, hs_jBook, ht0, hr0⟩ := hAll
  have hL9 : (L : Int) ≤ 384 := by omega
  obtain ⟨i1, w2, w3⟩ : (0 ≤ (σ 9 0).toInt ∧ (σ 9 0).toInt ≤ 80) ∧ (∀ k : Nat, k < 80 → 0 ≤ (σ 10 k).toInt ∧ (σ 10 k).toInt ≤ 255) ∧ (∀ k : Nat, k < 8 → 0 ≤ (σ 11 k).toInt ∧ (σ 11 k).toInt ≤ 3) := id hI9
  obtain ⟨i4, w5⟩ : (0 ≤ (σ 55 15).toInt ∧ (σ 55 15).toInt ≤ 80) ∧ (∀ k : Nat, k < 2 → (-1) ≤ (σ 65 k).toInt ∧ (σ 65 k).toInt ≤ 80) := id hI105
  refine lv_aload_n hx hb dL_law_839 rfl (lv_at hl 2 rfl) ?_
  refine jcallV (As := []) (rest := []) ⟨hx, hb, hml, hown, hts⟩ hK hP hA hS hZ (c_X11_close l D cI cL ad zz hJ σ τ hI47) cw_RL_101 (jc_0 cI cL ad σ τ) rfl ⟨Nat.le_of_ble_eq_true rfl, Nat.le_of_ble_eq_true rfl⟩ rfl rfl rfl hl.1 rfl (Nat.le_of_ble_eq_true rfl) dL_law_840 ⟨Nat.le_of_ble_eq_true rfl, Nat.le_of_ble_eq_true rfl⟩ (fun r7 σ6 τ6 H locs h6 hP hS => ?_)
  obtain ⟨rfl, f8, f9, I10, h6⟩ := h6
  have h12 := h6
  obtain ⟨q15, k13, k14⟩ := h12
  refine lv_pop hx hb dL_law_843 rfl ?_
  refine lv_aload_n hx hb dL_law_844 rfl (lv_at hl 1 rfl) ?_
  have I16 : jI104 σ6 := jI104_fr (congrFun (f8 55 (of_decide_eq_true rfl)) 10) (congrFun (f8 55 (of_decide_eq_true rfl)) 12) (congrFun (f8 55 (of_decide_eq_true rfl)) 13) (f8 62 (of_decide_eq_true rfl)) (f8 67 (of_decide_eq_true rfl)) hI104
  have I17 : jI107 σ6 := jI107_fr (congrFun (f8 55 (of_decide_eq_true rfl)) 12) (congrFun (f8 55 (of_decide_eq_true rfl)) 47) (f8 80 (of_decide_eq_true rfl)) hI107
  have p18 : jBook σ6 := jBook.fr (congrFun (f8 55 (of_decide_eq_true rfl)) 47) (congrFun (f8 55 (of_decide_eq_true rfl)) 10) (f8 81 (of_decide_eq_true rfl)) hs_jBook
  have z19 : (σ6 55 47).toInt = (σ 55 47).toInt := (congrArg Int32.toInt (show σ6 55 47 = (σ 55 47) from (congrFun (f8 55 (of_decide_eq_true rfl)) 47)))
  refine jcallV (As := []) (rest := []) ⟨hx, hb, hml, hown, hts⟩ hK hP hA hS hZ (c_X12_close l D cI cL ad zz hJ σ6 τ I16 I17 p18) cw_RL_104 (jc_55 cI cL ad σ6 τ) rfl ⟨Nat.le_of_ble_eq_true rfl, Nat.le_of_ble_eq_true rfl⟩ rfl rfl rfl hl.1 rfl (Nat.le_of_ble_eq_true rfl) dL_law_845 ⟨Nat.le_of_ble_eq_true rfl, Nat.le_of_ble_eq_true rfl⟩ (fun r21 σ20 τ20 H locs h20 hP hS => ?_)
  obtain ⟨rfl, f22, f23, I24, p25, h20⟩ := h20
  have h27 := h20
  obtain ⟨q30, k28, k29⟩ := h27
  refine lv_pop hx hb dL_law_848 rfl ?_
  refine lv_goto (tgt := 1357) hx hb dL_law_849 (of_decide_eq_true rfl) ?_
  obtain ⟨x31, ex31⟩ : ∃ y : Int32, y = x0 + 6 := ⟨_, rfl⟩
  exact by
   have tx31 : x31.toInt = x0.toInt + 6 := (jadd ex31 rfl jz_6 (by omega) (by omega)).trans (by omega)
   refine lv_iinc (v := x31) (lv' := [(3, .int x31), (2, .ref (ad 55)), (1, .ref (ad 0)), (0, .ref b)]) hx hb dL_law_1357 hl (k := 0) rfl (by rw [ex31]; rfl) (of_decide_eq_true rfl) rfl (fun ls hl => ?_)
   refine lv_goto (tgt := 18) hx hb dL_law_1360 (of_decide_eq_true rfl) ?_
   have I32 : jI2 σ20 := jI2_fr ((congrFun (f22 2 (of_decide_eq_true rfl)) 0).trans (congrFun (f8 2 (of_decide_eq_true rfl)) 0)) ((congrFun (f22 2 (of_decide_eq_true rfl)) 1).trans (congrFun (f8 2 (of_decide_eq_true rfl)) 1)) ((congrFun (f22 2 (of_decide_eq_true rfl)) 2).trans (congrFun (f8 2 (of_decide_eq_true rfl)) 2)) ((congrFun (f22 2 (of_decide_eq_true rfl)) 3).trans (congrFun (f8 2 (of_decide_eq_true rfl)) 3)) ((f22 6 (of_decide_eq_true rfl)).trans (f8 6 (of_decide_eq_true rfl))) hI2
   have I33 : jI9 σ20 := jI9_fr ((congrFun (f22 9 (of_decide_eq_true rfl)) 0).trans (congrFun (f8 9 (of_decide_eq_true rfl)) 0)) ((f22 10 (of_decide_eq_true rfl)).trans (f8 10 (of_decide_eq_true rfl))) ((f22 11 (of_decide_eq_true rfl)).trans (f8 11 (of_decide_eq_true rfl))) hI9
   have I34 : jI12 σ20 := jI12_fr ((congrFun (f22 12 (of_decide_eq_true rfl)) 0).trans (congrFun (f8 12 (of_decide_eq_true rfl)) 0)) ((f22 13 (of_decide_eq_true rfl)).trans (f8 13 (of_decide_eq_true rfl))) hI12
   have I35 : jI16 σ20 := jI16_fr ((congrFun (f22 16 (of_decide_eq_true rfl)) 0).trans (congrFun (f8 16 (of_decide_eq_true rfl)) 0)) ((congrFun (f22 16 (of_decide_eq_true rfl)) 1).trans (congrFun (f8 16 (of_decide_eq_true rfl)) 1)) ((congrFun (f22 16 (of_decide_eq_true rfl)) 2).trans (congrFun (f8 16 (of_decide_eq_true rfl)) 2)) ((f22 17 (of_decide_eq_true rfl)).trans (f8 17 (of_decide_eq_true rfl))) hI16
   have I36 : jI18 σ20 := jI18_fr ((congrFun (f22 18 (of_decide_eq_true rfl)) 0).trans (congrFun (f8 18 (of_decide_eq_true rfl)) 0)) ((f22 19 (of_decide_eq_true rfl)).trans (f8 19 (of_decide_eq_true rfl))) hI18
   have I37 : jI22 σ20 := jI22_fr ((congrFun (f22 22 (of_decide_eq_true rfl)) 0).trans (congrFun (f8 22 (of_decide_eq_true rfl)) 0)) ((f22 23 (of_decide_eq_true rfl)).trans (f8 23 (of_decide_eq_true rfl))) hI22
   exact by
    have I38 : jI31 σ20 := jI31_fr ((congrFun (f22 31 (of_decide_eq_true rfl)) 8).trans (congrFun (f8 31 (of_decide_eq_true rfl)) 8)) ((f22 33 (of_decide_eq_true rfl)).trans (f8 33 (of_decide_eq_true rfl))) ((f22 36 (of_decide_eq_true rfl)).trans (f8 36 (of_decide_eq_true rfl))) hI31
    have I39 : jI38 σ20 := jI38_fr ((congrFun (f22 38 (of_decide_eq_true rfl)) 0).trans (congrFun (f8 38 (of_decide_eq_true rfl)) 0)) ((congrFun (f22 38 (of_decide_eq_true rfl)) 1).trans (congrFun (f8 38 (of_decide_eq_true rfl)) 1)) ((f22 39 (of_decide_eq_true rfl)).trans (f8 39 (of_decide_eq_true rfl))) hI38
    have I40 : jI43 σ20 := jI43_fr ((congrFun (f22 43 (of_decide_eq_true rfl)) 8).trans (congrFun (f8 43 (of_decide_eq_true rfl)) 8)) hI43
    have I41 : jI47 σ20 := jI47_fr (congrFun (f22 47 (of_decide_eq_true rfl)) 0) (f22 48 (of_decide_eq_true rfl)) (f22 49 (of_decide_eq_true rfl)) I10
    have I42 : jI50 σ20 := jI50_fr ((f22 52 (of_decide_eq_true rfl)).trans (f8 52 (of_decide_eq_true rfl))) hI50
    have I43 : jI101 σ20 := jI101_fr ((f23 4 (of_decide_eq_true rfl)).trans (congrFun (f8 55 (of_decide_eq_true rfl)) 4)) ((f23 5 (of_decide_eq_true rfl)).trans (congrFun (f8 55 (of_decide_eq_true rfl)) 5)) ((f22 56 (of_decide_eq_true rfl)).trans (f8 56 (of_decide_eq_true rfl))) ((f22 57 (of_decide_eq_true rfl)).trans (f8 57 (of_decide_eq_true rfl))) ((f22 58 (of_decide_eq_true rfl)).trans (f8 58 (of_decide_eq_true rfl))) ((f22 59 (of_decide_eq_true rfl)).trans (f8 59 (of_decide_eq_true rfl))) hI101
    have I44 : jI102 σ20 := jI102_fr ((f23 6 (of_decide_eq_true rfl)).trans (congrFun (f8 55 (of_decide_eq_true rfl)) 6)) ((f22 60 (of_decide_eq_true rfl)).trans (f8 60 (of_decide_eq_true rfl))) ((f22 61 (of_decide_eq_true rfl)).trans (f8 61 (of_decide_eq_true rfl))) hI102
    have I45 : jI103 σ20 := jI103_fr ((f23 9 (of_decide_eq_true rfl)).trans (congrFun (f8 55 (of_decide_eq_true rfl)) 9)) hI103
    have I46 : jI104 σ20 := jI104_fr (f23 10 (of_decide_eq_true rfl)) (f23 12 (of_decide_eq_true rfl)) (f23 13 (of_decide_eq_true rfl)) (f22 62 (of_decide_eq_true rfl)) (f22 67 (of_decide_eq_true rfl)) I16
    have I47 : jI105 σ20 := jI105_fr ((f23 15 (of_decide_eq_true rfl)).trans (congrFun (f8 55 (of_decide_eq_true rfl)) 15)) ((f22 65 (of_decide_eq_true rfl)).trans (f8 65 (of_decide_eq_true rfl))) hI105
    have I48 : jI106 σ20 := jI106_fr ((f23 32 (of_decide_eq_true rfl)).trans (congrFun (f8 55 (of_decide_eq_true rfl)) 32)) ((f22 70 (of_decide_eq_true rfl)).trans (f8 70 (of_decide_eq_true rfl))) ((f22 71 (of_decide_eq_true rfl)).trans (f8 71 (of_decide_eq_true rfl))) ((f22 72 (of_decide_eq_true rfl)).trans (f8 72 (of_decide_eq_true rfl))) hI106
    have I49 : jI109 σ20 := jI109_fr ((f23 50 (of_decide_eq_true rfl)).trans (congrFun (f8 55 (of_decide_eq_true rfl)) 50)) hI109
    have I50 : jI110 σ20 := jI110_fr ((f22 86 (of_decide_eq_true rfl)).trans (f8 86 (of_decide_eq_true rfl))) ((f22 87 (of_decide_eq_true rfl)).trans (f8 87 (of_decide_eq_true rfl))) hI110
    have I51 : jI111 σ20 := jI111_fr ((f22 79 (of_decide_eq_true rfl)).trans (f8 79 (of_decide_eq_true rfl))) hI111
    have I52 : jI119 σ20 := jI119_fr ((f22 68 (of_decide_eq_true rfl)).trans (f8 68 (of_decide_eq_true rfl))) hI119
    have p53 : jKept σ20 := jKept.fr ((f22 75 (of_decide_eq_true rfl)).trans (f8 75 (of_decide_eq_true rfl))) ((f22 76 (of_decide_eq_true rfl)).trans (f8 76 (of_decide_eq_true rfl))) ((f22 77 (of_decide_eq_true rfl)).trans (f8 77 (of_decide_eq_true rfl))) hs_jKept
    have z54 : (σ20 9 0).toInt = (σ 9 0).toInt := (congrArg Int32.toInt (show σ20 9 0 = (σ 9 0) from ((congrFun (f22 9 (of_decide_eq_true rfl)) 0).trans (congrFun (f8 9 (of_decide_eq_true rfl)) 0))))
    have z55 : (σ20 55 15).toInt = (σ 55 15).toInt := (congrArg Int32.toInt (show σ20 55 15 = (σ 55 15) from ((f23 15 (of_decide_eq_true rfl)).trans (congrFun (f8 55 (of_decide_eq_true rfl)) 15))))
    exact by exact ih x31 σ20 τ _ _ ls (by have h9 := tx31; omega) ⟨I32, I33, I34, I35, I36, I37, I38, I39, I40, I41, I42, I43, I44, I45, I46, I47, I48, I24, I49, I50, I51, I52, p53, p25, (by omega), (show jTp (σ20 10) (σ20 63) (σ20 55 15).toInt by rw [show σ20 10 = σ 10 from ((f22 10 (of_decide_eq_true rfl)).trans (f8 10 (of_decide_eq_true rfl))), show σ20 63 = σ 63 from ((f22 63 (of_decide_eq_true rfl)).trans (f8 63 (of_decide_eq_true rfl)))]; exact hr0.le (by omega))⟩ hP hS (lv_sub hl [0, 1, 2, 3] rfl)
set_option maxHeartbeats 4000000 in
set_option maxRecDepth 100000 in
theorem law_case_22 {p : Program} {e : Env} {s : State} {m : MethodId} {below : List Frame} {meth : Method} {c : Code} (l : Launch) {b L : Nat} {xs : Nat → Int32} {D : va_G} {cI cL : ClassId} {ad zz : Nat → Nat} (C0 : lw_At p s m meth c b L xs) (hJ : jD ad) (hA : ∀ q, jA ad q → s.heap.size ≤ q) (hK : jK D cI cL s) (hZ : jZ zz (fun q : Nat => s.heap.size ≤ q) s s.heap) {x0 : Int32} (hx0 : 0 ≤ x0.toInt) (hxL : x0.toInt + 6 ≤ (L : Int)) (hL : L ≤ 384) {σ : Nat → Nat → Int32} {τ : Nat → Nat → Int64} {H : Heap} {locs : List Loc} (hS : va_S (fun q : Nat => s.heap.size ≤ q) s.heap H locs) {ls : Array Slot} (hAll : jAll σ τ) (hP : jH D cI cL ad σ τ H) (hl : lv_has ls 4 [(3, .int x0), (2, .ref (ad 55)), (1, .ref (ad 0)), (0, .ref b)]) (ih : ∀ (x1 : Int32) (σ : Nat → Nat → Int32) (τ : Nat → Nat → Int64) (H : Heap) (locs : List Loc) (ls : Array Slot), x1.toInt = x0.toInt + 6 → jAll σ τ → jH D cI cL ad σ τ H → va_S (fun q : Nat => s.heap.size ≤ q) s.heap H locs → lv_has ls 4 [(3, .int x1), (2, .ref (ad 55)), (1, .ref (ad 0)), (0, .ref b)] → W p l e room_1 s m #[Value.ref b] below meth c H locs 90 348600 (lw_Z below #[Value.ref b] s) (F0 m 18 ls [])) : W p l e room_1 s m #[Value.ref b] below meth c H locs 90 348600 (lw_Z below #[Value.ref b] s) (F0 m 852 ls []) := by
  obtain ⟨hx, hb, hr, hml, hown, hts0, hX, hbl, hlocks, hgv⟩ := C0
  have hts : ∀ w ∈ wsL_law, w.before #[Value.ref b] s = true := fun w h => hts0 w (wsL_law_in w h)
  have hbA : ¬ (fun q : Nat => s.heap.size ≤ q) b := Nat.not_le.mpr hbl
  have hown : s.vm.findClass RL = some m.cls := hown
  obtain ⟨hI2, hI9, hI12, hI16, hI18, hI22, hI31, hI38, hI43, hI47, hI50, hI101, hI102, hI103, hI104, hI105, hI106, hI107, hI109, hI110, hI111, hI119, hs_jKept, hs_jBook, ht0, hr0⟩ := hAll
  have hL9 : (L : Int) ≤ 384 := by omega
  obtain ⟨i1, w2, w3⟩ : (0 ≤ (σ 9 0).toInt ∧ (σ 9 0).toInt ≤ 80) ∧ (∀ k : Nat, k < 80 → 0 ≤ (σ 10 k).toInt ∧ (σ 10 k).toInt ≤ 255) ∧ (∀ k : Nat, k < 8 → 0 ≤ (σ 11 k).toInt ∧ (σ 11 k).toInt ≤ 3) := id hI9
  obtain ⟨i4, w5⟩ : (0 ≤ (σ 55 15).toInt ∧ (σ 55 15).toInt ≤ 80) ∧ (∀ k : Nat, k < 2 → (-1) ≤ (σ 65 k).toInt ∧ (σ 65 k).toInt ≤ 80) := id hI105
  refine lv_aload_n hx hb dL_law_852 rfl (lv_at hl 2 rfl) ?_
  refine lv_aload_n hx hb dL_law_853 rfl (lv_at hl 3 rfl) ?_
  refine lv_iload_n hx hb dL_law_854 rfl (lv_at hl 0 rfl) ?_
  refine lv_iconst (v := 1) hx hb dL_law_855 (of_decide_eq_true rfl) ?_
  have g6 := jrg (rfl : x0.toInt = x0.toInt)
  refine lv_iadd hx hb dL_law_856 ?_
  refine lv_topi (fun x7 ex7 => ?_)
  exact by
   have tx7 : x7.toInt = x0.toInt + 1 := (jadd ex7 rfl jz_1 (by omega) (by omega)).trans (by omega)
   refine va_sld hx hb hX hbl hbA hS (jin tx7 (by omega) (by omega)) dL_law_857 ?_
   have g8 := jrg (rfl : (xs x7.toNatClampNeg).toInt = (xs x7.toNatClampNeg).toInt)
   refine jcallV (As := [.int (xs x7.toNatClampNeg)]) (rest := []) ⟨hx, hb, hml, hown, hts⟩ hK hP hA hS hZ (c_X11_cost l D cI cL ad zz hJ σ τ (xs x7.toNatClampNeg) ((xs x7.toNatClampNeg).toInt) rfl hI2 hI16 hI22 hI31 hI47) cw_RL_105 (jc_0 cI cL ad σ τ) rfl ⟨Nat.le_of_ble_eq_true rfl, Nat.le_of_ble_eq_true rfl⟩ rfl rfl rfl hl.1 rfl (Nat.le_of_ble_eq_true rfl) dL_law_858 ⟨Nat.le_of_ble_eq_true rfl, Nat.le_of_ble_eq_true rfl⟩ (fun r10 σ9 τ9 H locs h9 hP hS => ?_)
   obtain ⟨rfl, f11, f12, I13, h9⟩ := h9
   refine lv_pop hx hb dL_law_861 rfl ?_
   refine lv_aload_n hx hb dL_law_862 rfl (lv_at hl 1 rfl) ?_
   refine lv_aload_n hx hb dL_law_863 rfl (lv_at hl 3 rfl) ?_
   refine lv_iload_n hx hb dL_law_864 rfl (lv_at hl 0 rfl) ?_
   exact by
    refine lv_iconst (v := 1) hx hb dL_law_865 (of_decide_eq_true rfl) ?_
    refine lv_iadd hx hb dL_law_866 ?_
    refine jtopr ex7.symm ?_
    refine va_sld hx hb hX hbl hbA hS (jin tx7 (by omega) (by omega)) dL_law_867 ?_
    have I15 : jI101 σ9 := jI101_fr (congrFun (f11 55 (of_decide_eq_true rfl)) 4) (congrFun (f11 55 (of_decide_eq_true rfl)) 5) (f11 56 (of_decide_eq_true rfl)) (f11 57 (of_decide_eq_true rfl)) (f11 58 (of_decide_eq_true rfl)) (f11 59 (of_decide_eq_true rfl)) hI101
    have I16 : jI102 σ9 := jI102_fr (congrFun (f11 55 (of_decide_eq_true rfl)) 6) (f11 60 (of_decide_eq_true rfl)) (f11 61 (of_decide_eq_true rfl)) hI102
    have I17 : jI103 σ9 := jI103_fr (congrFun (f11 55 (of_decide_eq_true rfl)) 9) hI103
    have I18 : jI104 σ9 := jI104_fr (congrFun (f11 55 (of_decide_eq_true rfl)) 10) (congrFun (f11 55 (of_decide_eq_true rfl)) 12) (congrFun (f11 55 (of_decide_eq_true rfl)) 13) (f11 62 (of_decide_eq_true rfl)) (f11 67 (of_decide_eq_true rfl)) hI104
    have I19 : jI105 σ9 := jI105_fr (congrFun (f11 55 (of_decide_eq_true rfl)) 15) (f11 65 (of_decide_eq_true rfl)) hI105
    exact by
     have I20 : jI106 σ9 := jI106_fr (congrFun (f11 55 (of_decide_eq_true rfl)) 32) (f11 70 (of_decide_eq_true rfl)) (f11 71 (of_decide_eq_true rfl)) (f11 72 (of_decide_eq_true rfl)) hI106
     have I21 : jI107 σ9 := jI107_fr (congrFun (f11 55 (of_decide_eq_true rfl)) 12) (congrFun (f11 55 (of_decide_eq_true rfl)) 47) (f11 80 (of_decide_eq_true rfl)) hI107
     have I22 : jI119 σ9 := jI119_fr (f11 68 (of_decide_eq_true rfl)) hI119
     have p23 : jKept σ9 := jKept.fr (f11 75 (of_decide_eq_true rfl)) (f11 76 (of_decide_eq_true rfl)) (f11 77 (of_decide_eq_true rfl)) hs_jKept
     have p24 : jBook σ9 := jBook.fr (congrFun (f11 55 (of_decide_eq_true rfl)) 47) (congrFun (f11 55 (of_decide_eq_true rfl)) 10) (f11 81 (of_decide_eq_true rfl)) hs_jBook
     refine jcallV (As := [.int (xs x7.toNatClampNeg)]) (rest := []) ⟨hx, hb, hml, hown, hts⟩ hK hP hA hS hZ (c_X12_cost l D cI cL ad zz hJ σ9 τ (xs x7.toNatClampNeg) ((xs x7.toNatClampNeg).toInt) rfl I15 I16 I17 I18 I19 I20 I21 I22 p23 p24) cw_RL_108 (jc_55 cI cL ad σ9 τ) rfl ⟨Nat.le_of_ble_eq_true rfl, Nat.le_of_ble_eq_true rfl⟩ rfl rfl rfl hl.1 rfl (Nat.le_of_ble_eq_true rfl) dL_law_868 ⟨Nat.le_of_ble_eq_true rfl, Nat.le_of_ble_eq_true rfl⟩ (fun r26 σ25 τ25 H locs h25 hP hS => ?_)
     obtain ⟨rfl, f27, f28, I29, p30, p31, h25⟩ := h25
     refine lv_pop hx hb dL_law_871 rfl ?_
     refine lv_goto (tgt := 1357) hx hb dL_law_872 (of_decide_eq_true rfl) ?_
     obtain ⟨x33, ex33⟩ : ∃ y : Int32, y = x0 + 6 := ⟨_, rfl⟩
     exact by
      have tx33 : x33.toInt = x0.toInt + 6 := (jadd ex33 rfl jz_6 (by omega) (by omega)).trans (by omega)
      refine lv_iinc (v := x33) (lv' := [(3, .int x33), (2, .ref (ad 55)), (1, .ref (ad 0)), (0, .ref b)]) hx hb dL_law_1357 hl (k := 0) rfl (by rw [ex33]; rfl) (of_decide_eq_true rfl) rfl (fun ls hl => ?_)
      refine lv_goto (tgt := 18) hx hb dL_law_1360 (of_decide_eq_true rfl) ?_
      have I34 : jI2 σ25 := jI2_fr ((congrFun (f27 2 (of_decide_eq_true rfl)) 0).trans (congrFun (f11 2 (of_decide_eq_true rfl)) 0)) ((congrFun (f27 2 (of_decide_eq_true rfl)) 1).trans (congrFun (f11 2 (of_decide_eq_true rfl)) 1)) ((congrFun (f27 2 (of_decide_eq_true rfl)) 2).trans (congrFun (f11 2 (of_decide_eq_true rfl)) 2)) ((congrFun (f27 2 (of_decide_eq_true rfl)) 3).trans (congrFun (f11 2 (of_decide_eq_true rfl)) 3)) ((f27 6 (of_decide_eq_true rfl)).trans (f11 6 (of_decide_eq_true rfl))) hI2
      have I35 : jI9 σ25 := jI9_fr ((congrFun (f27 9 (of_decide_eq_true rfl)) 0).trans (congrFun (f11 9 (of_decide_eq_true rfl)) 0)) ((f27 10 (of_decide_eq_true rfl)).trans (f11 10 (of_decide_eq_true rfl))) ((f27 11 (of_decide_eq_true rfl)).trans (f11 11 (of_decide_eq_true rfl))) hI9
      have I36 : jI12 σ25 := jI12_fr ((congrFun (f27 12 (of_decide_eq_true rfl)) 0).trans (congrFun (f11 12 (of_decide_eq_true rfl)) 0)) ((f27 13 (of_decide_eq_true rfl)).trans (f11 13 (of_decide_eq_true rfl))) hI12
      have I37 : jI16 σ25 := jI16_fr ((congrFun (f27 16 (of_decide_eq_true rfl)) 0).trans (congrFun (f11 16 (of_decide_eq_true rfl)) 0)) ((congrFun (f27 16 (of_decide_eq_true rfl)) 1).trans (congrFun (f11 16 (of_decide_eq_true rfl)) 1)) ((congrFun (f27 16 (of_decide_eq_true rfl)) 2).trans (congrFun (f11 16 (of_decide_eq_true rfl)) 2)) ((f27 17 (of_decide_eq_true rfl)).trans (f11 17 (of_decide_eq_true rfl))) hI16
      have I38 : jI18 σ25 := jI18_fr ((congrFun (f27 18 (of_decide_eq_true rfl)) 0).trans (congrFun (f11 18 (of_decide_eq_true rfl)) 0)) ((f27 19 (of_decide_eq_true rfl)).trans (f11 19 (of_decide_eq_true rfl))) hI18
      have I39 : jI22 σ25 := jI22_fr ((congrFun (f27 22 (of_decide_eq_true rfl)) 0).trans (congrFun (f11 22 (of_decide_eq_true rfl)) 0)) ((f27 23 (of_decide_eq_true rfl)).trans (f11 23 (of_decide_eq_true rfl))) hI22
      exact by
       have I40 : jI31 σ25 := jI31_fr (congrFun (f27 31 (of_decide_eq_true rfl)) 8) (f27 33 (of_decide_eq_true rfl)) (f27 36 (of_decide_eq_true rfl)) I13
       have I41 : jI38 σ25 := jI38_fr ((congrFun (f27 38 (of_decide_eq_true rfl)) 0).trans (congrFun (f11 38 (of_decide_eq_true rfl)) 0)) ((congrFun (f27 38 (of_decide_eq_true rfl)) 1).trans (congrFun (f11 38 (of_decide_eq_true rfl)) 1)) ((f27 39 (of_decide_eq_true rfl)).trans (f11 39 (of_decide_eq_true rfl))) hI38
       have I42 : jI43 σ25 := jI43_fr ((congrFun (f27 43 (of_decide_eq_true rfl)) 8).trans (congrFun (f11 43 (of_decide_eq_true rfl)) 8)) hI43
       have I43 : jI47 σ25 := jI47_fr ((congrFun (f27 47 (of_decide_eq_true rfl)) 0).trans (congrFun (f11 47 (of_decide_eq_true rfl)) 0)) ((f27 48 (of_decide_eq_true rfl)).trans (f11 48 (of_decide_eq_true rfl))) ((f27 49 (of_decide_eq_true rfl)).trans (f11 49 (of_decide_eq_true rfl))) hI47
       have I44 : jI50 σ25 := jI50_fr ((f27 52 (of_decide_eq_true rfl)).trans (f11 52 (of_decide_eq_true rfl))) hI50
       have I45 : jI101 σ25 := jI101_fr (f28 4 (of_decide_eq_true rfl)) (f28 5 (of_decide_eq_true rfl)) (f27 56 (of_decide_eq_true rfl)) (f27 57 (of_decide_eq_true rfl)) (f27 58 (of_decide_eq_true rfl)) (f27 59 (of_decide_eq_true rfl)) I15
       have I46 : jI102 σ25 := jI102_fr (f28 6 (of_decide_eq_true rfl)) (f27 60 (of_decide_eq_true rfl)) (f27 61 (of_decide_eq_true rfl)) I16
       have I47 : jI103 σ25 := jI103_fr (f28 9 (of_decide_eq_true rfl)) I17
       have I48 : jI104 σ25 := jI104_fr (f28 10 (of_decide_eq_true rfl)) (f28 12 (of_decide_eq_true rfl)) (f28 13 (of_decide_eq_true rfl)) (f27 62 (of_decide_eq_true rfl)) (f27 67 (of_decide_eq_true rfl)) I18
       have I49 : jI105 σ25 := jI105_fr (f28 15 (of_decide_eq_true rfl)) (f27 65 (of_decide_eq_true rfl)) I19
       have I50 : jI106 σ25 := jI106_fr (f28 32 (of_decide_eq_true rfl)) (f27 70 (of_decide_eq_true rfl)) (f27 71 (of_decide_eq_true rfl)) (f27 72 (of_decide_eq_true rfl)) I20
       have I51 : jI107 σ25 := jI107_fr (f28 12 (of_decide_eq_true rfl)) (f28 47 (of_decide_eq_true rfl)) (f27 80 (of_decide_eq_true rfl)) I21
       have I52 : jI109 σ25 := jI109_fr ((f28 50 (of_decide_eq_true rfl)).trans (congrFun (f11 55 (of_decide_eq_true rfl)) 50)) hI109
       have I53 : jI110 σ25 := jI110_fr ((f27 86 (of_decide_eq_true rfl)).trans (f11 86 (of_decide_eq_true rfl))) ((f27 87 (of_decide_eq_true rfl)).trans (f11 87 (of_decide_eq_true rfl))) hI110
       have I54 : jI111 σ25 := jI111_fr ((f27 79 (of_decide_eq_true rfl)).trans (f11 79 (of_decide_eq_true rfl))) hI111
       have z55 : (σ25 9 0).toInt = (σ 9 0).toInt := (congrArg Int32.toInt (show σ25 9 0 = (σ 9 0) from ((congrFun (f27 9 (of_decide_eq_true rfl)) 0).trans (congrFun (f11 9 (of_decide_eq_true rfl)) 0))))
       have z56 : (σ25 55 15).toInt = (σ 55 15).toInt := (congrArg Int32.toInt (show σ25 55 15 = (σ 55 15) from ((f28 15 (of_decide_eq_true rfl)).trans (congrFun (f11 55 (of_decide_eq_true rfl)) 15))))
       exact by exact ih x33 σ25 τ _ _ ls (by have h9 := tx33; omega) ⟨I34, I35, I36, I37, I38, I39, I40, I41, I42, I43, I44, I45, I46, I47, I48, I49, I50, I51, I52, I53, I54, I29, p30, p31, (by omega), (show jTp (σ25 10) (σ25 63) (σ25 55 15).toInt by rw [show σ25 10 = σ 10 from ((f27 10 (of_decide_eq_true rfl)).trans (f11 10 (of_decide_eq_true rfl))), show σ25 63 = σ 63 from ((f27 63 (of_decide_eq_true rfl)).trans (f11 63 (of_decide_eq_true rfl)))]; exact hr0.le (by omega))⟩ hP hS (lv_sub hl [0, 1, 2, 3] rfl)
set_option maxHeartbeats 4000000 in
set_option maxRecDepth 100000 in
theorem law_case_23 {p : Program} {e : Env} {s : State} {m : MethodId} {below : List Frame} {meth : Method} {c : Code} (l : Launch) {b L : Nat} {xs : Nat → Int32} {D : va_G} {cI cL : ClassId} {ad zz : Nat → Nat} (C0 : lw_At p s m meth c b L xs) (hJ : jD ad) (hA : ∀ q, jA ad q → s.heap.size ≤ q) (hK : jK D cI cL s) (hZ : jZ zz (fun q : Nat => s.heap.size ≤ q) s s.heap) {x0 : Int32} (hx0 : 0 ≤ x0.toInt) (hxL : x0.toInt + 6 ≤ (L : Int)) (hL : L ≤ 384) {σ : Nat → Nat → Int32} {τ : Nat → Nat → Int64} {H : Heap} {locs : List Loc} (hS : va_S (fun q : Nat => s.heap.size ≤ q) s.heap H locs) {ls : Array Slot} (hAll : jAll σ τ) (hP : jH D cI cL ad σ τ H) (hl : lv_has ls 4 [(3, .int x0), (2, .ref (ad 55)), (1, .ref (ad 0)), (0, .ref b)]) (ih : ∀ (x1 : Int32) (σ : Nat → Nat → Int32) (τ : Nat → Nat → Int64) (H : Heap) (locs : List Loc) (ls : Array Slot), x1.toInt = x0.toInt + 6 → jAll σ τ → jH D cI cL ad σ τ H → va_S (fun q : Nat => s.heap.size ≤ q) s.heap H locs → lv_has ls 4 [(3, .int x1), (2, .ref (ad 55)), (1, .ref (ad 0)), (0, .ref b)] → W p l e room_1 s m #[Value.ref b] below meth c H locs 90 348600 (lw_Z below #[Value.ref b] s) (F0 m 18 ls [])) : W p l e room_1 s m #[Value.ref b] below meth c H locs 90 348600 (lw_Z below #[Value.ref b] s) (F0 m 875 ls []) := by
  obtain ⟨hx, hb, hr, hml, hown, hts0, hX, hbl, hlocks, hgv⟩ := C0
  have hts : ∀ w ∈ wsL_law, w.before #[Value.ref b] s = true := fun w h => hts0 w (wsL_law_in w h)
  have hbA : ¬ (fun q : Nat => s.heap.size ≤ q) b := Nat.not_le.mpr hbl
  have hown : s.vm.findClass RL = some m.cls := hown
  obtain ⟨hI2, hI9, hI12, hI16, hI18, hI22, hI31, hI38, hI43, hI47, hI50, hI101, hI102, hI103, hI104, hI105, hI106, hI107, hI109, hI110, hI111, hI119, hs_jKept, hs_jBook, ht0, hr0⟩ := hAll
  have hL9 : (L : Int) ≤ 384 := by omega
  obtain ⟨i1, w2, w3⟩ : (0 ≤ (σ 9 0).toInt ∧ (σ 9 0).toInt ≤ 80) ∧ (∀ k : Nat, k < 80 → 0 ≤ (σ 10 k).toInt ∧ (σ 10 k).toInt ≤ 255) ∧ (∀ k : Nat, k < 8 → 0 ≤ (σ 11 k).toInt ∧ (σ 11 k).toInt ≤ 3) := id hI9
  obtain ⟨i4, w5⟩ : (0 ≤ (σ 55 15).toInt ∧ (σ 55 15).toInt ≤ 80) ∧ (∀ k : Nat, k < 2 → (-1) ≤ (σ 65 k).toInt ∧ (σ 65 k).toInt ≤ 80) := id hI105
  refine lv_aload_n hx hb dL_law_875 rfl (lv_at hl 2 rfl) ?_
  refine lv_aload_n hx hb dL_law_876 rfl (lv_at hl 3 rfl) ?_
  refine lv_iload_n hx hb dL_law_877 rfl (lv_at hl 0 rfl) ?_
  refine lv_iconst (v := 1) hx hb dL_law_878 (of_decide_eq_true rfl) ?_
  have g6 := jrg (rfl : x0.toInt = x0.toInt)
  refine lv_iadd hx hb dL_law_879 ?_
  refine lv_topi (fun x7 ex7 => ?_)
  exact by
   have tx7 : x7.toInt = x0.toInt + 1 := (jadd ex7 rfl jz_1 (by omega) (by omega)).trans (by omega)
   refine va_sld hx hb hX hbl hbA hS (jin tx7 (by omega) (by omega)) dL_law_880 ?_
   have g8 := jrg (rfl : (xs x7.toNatClampNeg).toInt = (xs x7.toNatClampNeg).toInt)
   refine jcallV (As := [.int (xs x7.toNatClampNeg)]) (rest := []) ⟨hx, hb, hml, hown, hts⟩ hK hP hA hS hZ (c_X11_lost l D cI cL ad zz hJ σ τ (xs x7.toNatClampNeg) ((xs x7.toNatClampNeg).toInt) rfl hI2 hI16 hI22 hI31 hI47) cw_RL_109 (jc_0 cI cL ad σ τ) rfl ⟨Nat.le_of_ble_eq_true rfl, Nat.le_of_ble_eq_true rfl⟩ rfl rfl rfl hl.1 rfl (Nat.le_of_ble_eq_true rfl) dL_law_881 ⟨Nat.le_of_ble_eq_true rfl, Nat.le_of_ble_eq_true rfl⟩ (fun r10 σ9 τ9 H locs h9 hP hS => ?_)
   obtain ⟨rfl, f11, f12, I13, h9⟩ := h9
   refine lv_pop hx hb dL_law_884 rfl ?_
   refine lv_aload_n hx hb dL_law_885 rfl (lv_at hl 1 rfl) ?_
   refine lv_aload_n hx hb dL_law_886 rfl (lv_at hl 3 rfl) ?_
   refine lv_iload_n hx hb dL_law_887 rfl (lv_at hl 0 rfl) ?_
   exact by
    refine lv_iconst (v := 1) hx hb dL_law_888 (of_decide_eq_true rfl) ?_
    refine lv_iadd hx hb dL_law_889 ?_
    refine jtopr ex7.symm ?_
    refine va_sld hx hb hX hbl hbA hS (jin tx7 (by omega) (by omega)) dL_law_890 ?_
    have I15 : jI101 σ9 := jI101_fr (congrFun (f11 55 (of_decide_eq_true rfl)) 4) (congrFun (f11 55 (of_decide_eq_true rfl)) 5) (f11 56 (of_decide_eq_true rfl)) (f11 57 (of_decide_eq_true rfl)) (f11 58 (of_decide_eq_true rfl)) (f11 59 (of_decide_eq_true rfl)) hI101
    have I16 : jI102 σ9 := jI102_fr (congrFun (f11 55 (of_decide_eq_true rfl)) 6) (f11 60 (of_decide_eq_true rfl)) (f11 61 (of_decide_eq_true rfl)) hI102
    have I17 : jI103 σ9 := jI103_fr (congrFun (f11 55 (of_decide_eq_true rfl)) 9) hI103
    have I18 : jI104 σ9 := jI104_fr (congrFun (f11 55 (of_decide_eq_true rfl)) 10) (congrFun (f11 55 (of_decide_eq_true rfl)) 12) (congrFun (f11 55 (of_decide_eq_true rfl)) 13) (f11 62 (of_decide_eq_true rfl)) (f11 67 (of_decide_eq_true rfl)) hI104
    have I19 : jI105 σ9 := jI105_fr (congrFun (f11 55 (of_decide_eq_true rfl)) 15) (f11 65 (of_decide_eq_true rfl)) hI105
    exact by
     have I20 : jI106 σ9 := jI106_fr (congrFun (f11 55 (of_decide_eq_true rfl)) 32) (f11 70 (of_decide_eq_true rfl)) (f11 71 (of_decide_eq_true rfl)) (f11 72 (of_decide_eq_true rfl)) hI106
     have I21 : jI107 σ9 := jI107_fr (congrFun (f11 55 (of_decide_eq_true rfl)) 12) (congrFun (f11 55 (of_decide_eq_true rfl)) 47) (f11 80 (of_decide_eq_true rfl)) hI107
     have I22 : jI119 σ9 := jI119_fr (f11 68 (of_decide_eq_true rfl)) hI119
     have p23 : jKept σ9 := jKept.fr (f11 75 (of_decide_eq_true rfl)) (f11 76 (of_decide_eq_true rfl)) (f11 77 (of_decide_eq_true rfl)) hs_jKept
     have p24 : jBook σ9 := jBook.fr (congrFun (f11 55 (of_decide_eq_true rfl)) 47) (congrFun (f11 55 (of_decide_eq_true rfl)) 10) (f11 81 (of_decide_eq_true rfl)) hs_jBook
     refine jcallV (As := [.int (xs x7.toNatClampNeg)]) (rest := []) ⟨hx, hb, hml, hown, hts⟩ hK hP hA hS hZ (c_X12_lost l D cI cL ad zz hJ σ9 τ (xs x7.toNatClampNeg) ((xs x7.toNatClampNeg).toInt) rfl I15 I16 I17 I18 I19 I20 I21 I22 p23 p24) cw_RL_112 (jc_55 cI cL ad σ9 τ) rfl ⟨Nat.le_of_ble_eq_true rfl, Nat.le_of_ble_eq_true rfl⟩ rfl rfl rfl hl.1 rfl (Nat.le_of_ble_eq_true rfl) dL_law_891 ⟨Nat.le_of_ble_eq_true rfl, Nat.le_of_ble_eq_true rfl⟩ (fun r26 σ25 τ25 H locs h25 hP hS => ?_)
     obtain ⟨rfl, f27, f28, I29, p30, p31, h25⟩ := h25
     refine lv_pop hx hb dL_law_894 rfl ?_
     refine lv_goto (tgt := 1357) hx hb dL_law_895 (of_decide_eq_true rfl) ?_
     obtain ⟨x33, ex33⟩ : ∃ y : Int32, y = x0 + 6 := ⟨_, rfl⟩
     exact by
      have tx33 : x33.toInt = x0.toInt + 6 := (jadd ex33 rfl jz_6 (by omega) (by omega)).trans (by omega)
      refine lv_iinc (v := x33) (lv' := [(3, .int x33), (2, .ref (ad 55)), (1, .ref (ad 0)), (0, .ref b)]) hx hb dL_law_1357 hl (k := 0) rfl (by rw [ex33]; rfl) (of_decide_eq_true rfl) rfl (fun ls hl => ?_)
      refine lv_goto (tgt := 18) hx hb dL_law_1360 (of_decide_eq_true rfl) ?_
      have I34 : jI2 σ25 := jI2_fr ((congrFun (f27 2 (of_decide_eq_true rfl)) 0).trans (congrFun (f11 2 (of_decide_eq_true rfl)) 0)) ((congrFun (f27 2 (of_decide_eq_true rfl)) 1).trans (congrFun (f11 2 (of_decide_eq_true rfl)) 1)) ((congrFun (f27 2 (of_decide_eq_true rfl)) 2).trans (congrFun (f11 2 (of_decide_eq_true rfl)) 2)) ((congrFun (f27 2 (of_decide_eq_true rfl)) 3).trans (congrFun (f11 2 (of_decide_eq_true rfl)) 3)) ((f27 6 (of_decide_eq_true rfl)).trans (f11 6 (of_decide_eq_true rfl))) hI2
      have I35 : jI9 σ25 := jI9_fr ((congrFun (f27 9 (of_decide_eq_true rfl)) 0).trans (congrFun (f11 9 (of_decide_eq_true rfl)) 0)) ((f27 10 (of_decide_eq_true rfl)).trans (f11 10 (of_decide_eq_true rfl))) ((f27 11 (of_decide_eq_true rfl)).trans (f11 11 (of_decide_eq_true rfl))) hI9
      have I36 : jI12 σ25 := jI12_fr ((congrFun (f27 12 (of_decide_eq_true rfl)) 0).trans (congrFun (f11 12 (of_decide_eq_true rfl)) 0)) ((f27 13 (of_decide_eq_true rfl)).trans (f11 13 (of_decide_eq_true rfl))) hI12
      have I37 : jI16 σ25 := jI16_fr ((congrFun (f27 16 (of_decide_eq_true rfl)) 0).trans (congrFun (f11 16 (of_decide_eq_true rfl)) 0)) ((congrFun (f27 16 (of_decide_eq_true rfl)) 1).trans (congrFun (f11 16 (of_decide_eq_true rfl)) 1)) ((congrFun (f27 16 (of_decide_eq_true rfl)) 2).trans (congrFun (f11 16 (of_decide_eq_true rfl)) 2)) ((f27 17 (of_decide_eq_true rfl)).trans (f11 17 (of_decide_eq_true rfl))) hI16
      have I38 : jI18 σ25 := jI18_fr ((congrFun (f27 18 (of_decide_eq_true rfl)) 0).trans (congrFun (f11 18 (of_decide_eq_true rfl)) 0)) ((f27 19 (of_decide_eq_true rfl)).trans (f11 19 (of_decide_eq_true rfl))) hI18
      have I39 : jI22 σ25 := jI22_fr ((congrFun (f27 22 (of_decide_eq_true rfl)) 0).trans (congrFun (f11 22 (of_decide_eq_true rfl)) 0)) ((f27 23 (of_decide_eq_true rfl)).trans (f11 23 (of_decide_eq_true rfl))) hI22
      exact by
       have I40 : jI31 σ25 := jI31_fr (congrFun (f27 31 (of_decide_eq_true rfl)) 8) (f27 33 (of_decide_eq_true rfl)) (f27 36 (of_decide_eq_true rfl)) I13
       have I41 : jI38 σ25 := jI38_fr ((congrFun (f27 38 (of_decide_eq_true rfl)) 0).trans (congrFun (f11 38 (of_decide_eq_true rfl)) 0)) ((congrFun (f27 38 (of_decide_eq_true rfl)) 1).trans (congrFun (f11 38 (of_decide_eq_true rfl)) 1)) ((f27 39 (of_decide_eq_true rfl)).trans (f11 39 (of_decide_eq_true rfl))) hI38
       have I42 : jI43 σ25 := jI43_fr ((congrFun (f27 43 (of_decide_eq_true rfl)) 8).trans (congrFun (f11 43 (of_decide_eq_true rfl)) 8)) hI43
       have I43 : jI47 σ25 := jI47_fr ((congrFun (f27 47 (of_decide_eq_true rfl)) 0).trans (congrFun (f11 47 (of_decide_eq_true rfl)) 0)) ((f27 48 (of_decide_eq_true rfl)).trans (f11 48 (of_decide_eq_true rfl))) ((f27 49 (of_decide_eq_true rfl)).trans (f11 49 (of_decide_eq_true rfl))) hI47
       have I44 : jI50 σ25 := jI50_fr ((f27 52 (of_decide_eq_true rfl)).trans (f11 52 (of_decide_eq_true rfl))) hI50
       have I45 : jI101 σ25 := jI101_fr (f28 4 (of_decide_eq_true rfl)) (f28 5 (of_decide_eq_true rfl)) (f27 56 (of_decide_eq_true rfl)) (f27 57 (of_decide_eq_true rfl)) (f27 58 (of_decide_eq_true rfl)) (f27 59 (of_decide_eq_true rfl)) I15
       have I46 : jI102 σ25 := jI102_fr (f28 6 (of_decide_eq_true rfl)) (f27 60 (of_decide_eq_true rfl)) (f27 61 (of_decide_eq_true rfl)) I16
       have I47 : jI103 σ25 := jI103_fr (f28 9 (of_decide_eq_true rfl)) I17
       have I48 : jI104 σ25 := jI104_fr (f28 10 (of_decide_eq_true rfl)) (f28 12 (of_decide_eq_true rfl)) (f28 13 (of_decide_eq_true rfl)) (f27 62 (of_decide_eq_true rfl)) (f27 67 (of_decide_eq_true rfl)) I18
       have I49 : jI105 σ25 := jI105_fr (f28 15 (of_decide_eq_true rfl)) (f27 65 (of_decide_eq_true rfl)) I19
       have I50 : jI106 σ25 := jI106_fr (f28 32 (of_decide_eq_true rfl)) (f27 70 (of_decide_eq_true rfl)) (f27 71 (of_decide_eq_true rfl)) (f27 72 (of_decide_eq_true rfl)) I20
       have I51 : jI107 σ25 := jI107_fr (f28 12 (of_decide_eq_true rfl)) (f28 47 (of_decide_eq_true rfl)) (f27 80 (of_decide_eq_true rfl)) I21
       have I52 : jI109 σ25 := jI109_fr ((f28 50 (of_decide_eq_true rfl)).trans (congrFun (f11 55 (of_decide_eq_true rfl)) 50)) hI109
       have I53 : jI110 σ25 := jI110_fr ((f27 86 (of_decide_eq_true rfl)).trans (f11 86 (of_decide_eq_true rfl))) ((f27 87 (of_decide_eq_true rfl)).trans (f11 87 (of_decide_eq_true rfl))) hI110
       have I54 : jI111 σ25 := jI111_fr ((f27 79 (of_decide_eq_true rfl)).trans (f11 79 (of_decide_eq_true rfl))) hI111
       have z55 : (σ25 9 0).toInt = (σ 9 0).toInt := (congrArg Int32.toInt (show σ25 9 0 = (σ 9 0) from ((congrFun (f27 9 (of_decide_eq_true rfl)) 0).trans (congrFun (f11 9 (of_decide_eq_true rfl)) 0))))
       have z56 : (σ25 55 15).toInt = (σ 55 15).toInt := (congrArg Int32.toInt (show σ25 55 15 = (σ 55 15) from ((f28 15 (of_decide_eq_true rfl)).trans (congrFun (f11 55 (of_decide_eq_true rfl)) 15))))
       exact by exact ih x33 σ25 τ _ _ ls (by have h9 := tx33; omega) ⟨I34, I35, I36, I37, I38, I39, I40, I41, I42, I43, I44, I45, I46, I47, I48, I49, I50, I51, I52, I53, I54, I29, p30, p31, (by omega), (show jTp (σ25 10) (σ25 63) (σ25 55 15).toInt by rw [show σ25 10 = σ 10 from ((f27 10 (of_decide_eq_true rfl)).trans (f11 10 (of_decide_eq_true rfl))), show σ25 63 = σ 63 from ((f27 63 (of_decide_eq_true rfl)).trans (f11 63 (of_decide_eq_true rfl)))]; exact hr0.le (by omega))⟩ hP hS (lv_sub hl [0, 1, 2, 3] rfl)
set_option maxHeartbeats 4000000 in
set_option maxRecDepth 100000 in
theorem law_case_24 {p : Program} {e : Env} {s : State} {m : MethodId} {below : List Frame} {meth : Method} {c : Code} (l : Launch) {b L : Nat} {xs : Nat → Int32} {D : va_G} {cI cL : ClassId} {ad zz : Nat → Nat} (C0 : lw_At p s m meth c b L xs) (hJ : jD ad) (hA : ∀ q, jA ad q → s.heap.size ≤ q) (hK : jK D cI cL s) (hZ : jZ zz (fun q : Nat => s.heap.size ≤ q) s s.heap) {x0 : Int32} (hx0 : 0 ≤ x0.toInt) (hxL : x0.toInt + 6 ≤ (L : Int)) (hL : L ≤ 384) {σ : Nat → Nat → Int32} {τ : Nat → Nat → Int64} {H : Heap} {locs : List Loc} (hS : va_S (fun q : Nat => s.heap.size ≤ q) s.heap H locs) {ls : Array Slot} (hAll : jAll σ τ) (hP : jH D cI cL ad σ τ H) (hl : lv_has ls 4 [(3, .int x0), (2, .ref (ad 55)), (1, .ref (ad 0)), (0, .ref b)]) (ih : ∀ (x1 : Int32) (σ : Nat → Nat → Int32) (τ : Nat → Nat → Int64) (H : Heap) (locs : List Loc) (ls : Array Slot), x1.toInt = x0.toInt + 6 → jAll σ τ → jH D cI cL ad σ τ H → va_S (fun q : Nat => s.heap.size ≤ q) s.heap H locs → lv_has ls 4 [(3, .int x1), (2, .ref (ad 55)), (1, .ref (ad 0)), (0, .ref b)] → W p l e room_1 s m #[Value.ref b] below meth c H locs 90 348600 (lw_Z below #[Value.ref b] s) (F0 m 18 ls [])) : W p l e room_1 s m #[Value.ref b] below meth c H locs 90 348600 (lw_Z below #[Value.ref b] s) (F0 m 898 ls []) := by
  obtain ⟨hx, hb, hr, hml, hown, hts0, hX, hbl, hlocks, hgv⟩ := C0
  have hts : ∀ w ∈ wsL_law, w.before #[Value.ref b] s = true := fun w h => hts0 w (wsL_law_in w h)
  have hbA : ¬ (fun q : Nat => s.heap.size ≤ q) b := Nat.not_le.mpr hbl
  have hown : s.vm.findClass RL = some m.cls := hown
  obtain ⟨hI2, hI9, hI12, hI16, hI18, hI22, hI31, hI38, hI43, hI47, hI50, hI101, hI102, hI103, hI104, hI105, hI106, hI107, hI109, hI110, hI111, hI119, hs_jKept, hs_jBook, ht0, hr0⟩ := hAll
  have hL9 : (L : Int) ≤ 384 := by omega
  obtain ⟨i1, w2, w3⟩ : (0 ≤ (σ 9 0).toInt ∧ (σ 9 0).toInt ≤ 80) ∧ (∀ k : Nat, k < 80 → 0 ≤ (σ 10 k).toInt ∧ (σ 10 k).toInt ≤ 255) ∧ (∀ k : Nat, k < 8 → 0 ≤ (σ 11 k).toInt ∧ (σ 11 k).toInt ≤ 3) := id hI9
  obtain ⟨i4, w5⟩ : (0 ≤ (σ 55 15).toInt ∧ (σ 55 15).toInt ≤ 80) ∧ (∀ k : Nat, k < 2 → (-1) ≤ (σ 65 k).toInt ∧ (σ 65 k).toInt ≤ 80) := id hI105
  refine lv_aload_n hx hb dL_law_898 rfl (lv_at hl 2 rfl) ?_
  refine lv_aload_n hx hb dL_law_899 rfl (lv_at hl 3 rfl) ?_
  refine lv_iload_n hx hb dL_law_900 rfl (lv_at hl 0 rfl) ?_
  refine lv_iconst (v := 1) hx hb dL_law_901 (of_decide_eq_true rfl) ?_
  have g6 := jrg (rfl : x0.toInt = x0.toInt)
  refine lv_iadd hx hb dL_law_902 ?_
  refine lv_topi (fun x7 ex7 => ?_)
  exact by
   have tx7 : x7.toInt = x0.toInt + 1 := (jadd ex7 rfl jz_1 (by omega) (by omega)).trans (by omega)
   refine va_sld hx hb hX hbl hbA hS (jin tx7 (by omega) (by omega)) dL_law_903 ?_
   have g8 := jrg (rfl : (xs x7.toNatClampNeg).toInt = (xs x7.toNatClampNeg).toInt)
   refine lv_aload_n hx hb dL_law_904 rfl (lv_at hl 3 rfl) ?_
   refine lv_iload_n hx hb dL_law_905 rfl (lv_at hl 0 rfl) ?_
   refine lv_iconst (v := 2) hx hb dL_law_906 (of_decide_eq_true rfl) ?_
   refine lv_iadd hx hb dL_law_907 ?_
   refine lv_topi (fun x9 ex9 => ?_)
   have tx9 : x9.toInt = x0.toInt + 2 := (jadd ex9 rfl jz_2 (by omega) (by omega)).trans (by omega)
   exact by
    refine va_sld hx hb hX hbl hbA hS (jin tx9 (by omega) (by omega)) dL_law_908 ?_
    have g10 := jrg (rfl : (xs x9.toNatClampNeg).toInt = (xs x9.toNatClampNeg).toInt)
    refine jcallV (As := [.int (xs x7.toNatClampNeg), .int (xs x9.toNatClampNeg)]) (rest := []) ⟨hx, hb, hml, hown, hts⟩ hK hP hA hS hZ (c_X11_game l D cI cL ad zz hJ σ τ (xs x7.toNatClampNeg) ((xs x7.toNatClampNeg).toInt) rfl (xs x9.toNatClampNeg) ((xs x9.toNatClampNeg).toInt) rfl hI2 hI16 hI18 hI22 hI31 hI38 hI43) cw_RL_113 (jc_0 cI cL ad σ τ) rfl ⟨Nat.le_of_ble_eq_true rfl, Nat.le_of_ble_eq_true rfl⟩ rfl rfl rfl hl.1 rfl (Nat.le_of_ble_eq_true rfl) dL_law_909 ⟨Nat.le_of_ble_eq_true rfl, Nat.le_of_ble_eq_true rfl⟩ (fun r12 σ11 τ11 H locs h11 hP hS => ?_)
    obtain ⟨rfl, f13, f14, f15, I16, I17, h11⟩ := h11
    refine lv_pop hx hb dL_law_912 rfl ?_
    refine lv_aload_n hx hb dL_law_913 rfl (lv_at hl 1 rfl) ?_
    refine lv_aload_n hx hb dL_law_914 rfl (lv_at hl 3 rfl) ?_
    refine lv_iload_n hx hb dL_law_915 rfl (lv_at hl 0 rfl) ?_
    refine lv_iconst (v := 1) hx hb dL_law_916 (of_decide_eq_true rfl) ?_
    refine lv_iadd hx hb dL_law_917 ?_
    refine jtopr ex7.symm ?_
    exact by
     refine va_sld hx hb hX hbl hbA hS (jin tx7 (by omega) (by omega)) dL_law_918 ?_
     refine lv_aload_n hx hb dL_law_919 rfl (lv_at hl 3 rfl) ?_
     refine lv_iload_n hx hb dL_law_920 rfl (lv_at hl 0 rfl) ?_
     refine lv_iconst (v := 2) hx hb dL_law_921 (of_decide_eq_true rfl) ?_
     refine lv_iadd hx hb dL_law_922 ?_
     refine jtopr ex9.symm ?_
     refine va_sld hx hb hX hbl hbA hS (jin tx9 (by omega) (by omega)) dL_law_923 ?_
     have I19 : jI101 σ11 := jI101_fr (congrFun (f13 55 (of_decide_eq_true rfl)) 4) (congrFun (f13 55 (of_decide_eq_true rfl)) 5) (f13 56 (of_decide_eq_true rfl)) (f13 57 (of_decide_eq_true rfl)) (f13 58 (of_decide_eq_true rfl)) (f13 59 (of_decide_eq_true rfl)) hI101
     have I20 : jI102 σ11 := jI102_fr (congrFun (f13 55 (of_decide_eq_true rfl)) 6) (f13 60 (of_decide_eq_true rfl)) (f13 61 (of_decide_eq_true rfl)) hI102
     exact by
      have I21 : jI103 σ11 := jI103_fr (congrFun (f13 55 (of_decide_eq_true rfl)) 9) hI103
      have I22 : jI104 σ11 := jI104_fr (congrFun (f13 55 (of_decide_eq_true rfl)) 10) (congrFun (f13 55 (of_decide_eq_true rfl)) 12) (congrFun (f13 55 (of_decide_eq_true rfl)) 13) (f13 62 (of_decide_eq_true rfl)) (f13 67 (of_decide_eq_true rfl)) hI104
      have I23 : jI105 σ11 := jI105_fr (congrFun (f13 55 (of_decide_eq_true rfl)) 15) (f13 65 (of_decide_eq_true rfl)) hI105
      have I24 : jI106 σ11 := jI106_fr (congrFun (f13 55 (of_decide_eq_true rfl)) 32) (f13 70 (of_decide_eq_true rfl)) (f13 71 (of_decide_eq_true rfl)) (f13 72 (of_decide_eq_true rfl)) hI106
      have I25 : jI119 σ11 := jI119_fr (f13 68 (of_decide_eq_true rfl)) hI119
      have I26 : jI109 σ11 := jI109_fr (congrFun (f13 55 (of_decide_eq_true rfl)) 50) hI109
      have p27 : jKept σ11 := jKept.fr (f13 75 (of_decide_eq_true rfl)) (f13 76 (of_decide_eq_true rfl)) (f13 77 (of_decide_eq_true rfl)) hs_jKept
      refine jcallV (As := [.int (xs x7.toNatClampNeg), .int (xs x9.toNatClampNeg)]) (rest := []) ⟨hx, hb, hml, hown, hts⟩ hK hP hA hS hZ (c_X12_game l D cI cL ad zz hJ σ11 τ (xs x7.toNatClampNeg) ((xs x7.toNatClampNeg).toInt) rfl (xs x9.toNatClampNeg) ((xs x9.toNatClampNeg).toInt) rfl I19 I20 I21 I22 I23 I24 I25 I26 p27) cw_RL_116 (jc_55 cI cL ad σ11 τ) rfl ⟨Nat.le_of_ble_eq_true rfl, Nat.le_of_ble_eq_true rfl⟩ rfl rfl rfl hl.1 rfl (Nat.le_of_ble_eq_true rfl) dL_law_924 ⟨Nat.le_of_ble_eq_true rfl, Nat.le_of_ble_eq_true rfl⟩ (fun r29 σ28 τ28 H locs h28 hP hS => ?_)
      obtain ⟨rfl, f30, f31, I32, I33, p34, h28⟩ := h28
      refine lv_pop hx hb dL_law_927 rfl ?_
      refine lv_goto (tgt := 1357) hx hb dL_law_928 (of_decide_eq_true rfl) ?_
      obtain ⟨x36, ex36⟩ : ∃ y : Int32, y = x0 + 6 := ⟨_, rfl⟩
      exact by
       have tx36 : x36.toInt = x0.toInt + 6 := (jadd ex36 rfl jz_6 (by omega) (by omega)).trans (by omega)
       refine lv_iinc (v := x36) (lv' := [(3, .int x36), (2, .ref (ad 55)), (1, .ref (ad 0)), (0, .ref b)]) hx hb dL_law_1357 hl (k := 0) rfl (by rw [ex36]; rfl) (of_decide_eq_true rfl) rfl (fun ls hl => ?_)
       refine lv_goto (tgt := 18) hx hb dL_law_1360 (of_decide_eq_true rfl) ?_
       have I37 : jI2 σ28 := jI2_fr ((congrFun (f30 2 (of_decide_eq_true rfl)) 0).trans (congrFun (f13 2 (of_decide_eq_true rfl)) 0)) ((congrFun (f30 2 (of_decide_eq_true rfl)) 1).trans (congrFun (f13 2 (of_decide_eq_true rfl)) 1)) ((congrFun (f30 2 (of_decide_eq_true rfl)) 2).trans (congrFun (f13 2 (of_decide_eq_true rfl)) 2)) ((congrFun (f30 2 (of_decide_eq_true rfl)) 3).trans (congrFun (f13 2 (of_decide_eq_true rfl)) 3)) ((f30 6 (of_decide_eq_true rfl)).trans (f13 6 (of_decide_eq_true rfl))) hI2
       have I38 : jI9 σ28 := jI9_fr ((congrFun (f30 9 (of_decide_eq_true rfl)) 0).trans (congrFun (f13 9 (of_decide_eq_true rfl)) 0)) ((f30 10 (of_decide_eq_true rfl)).trans (f13 10 (of_decide_eq_true rfl))) ((f30 11 (of_decide_eq_true rfl)).trans (f13 11 (of_decide_eq_true rfl))) hI9
       have I39 : jI12 σ28 := jI12_fr ((congrFun (f30 12 (of_decide_eq_true rfl)) 0).trans (congrFun (f13 12 (of_decide_eq_true rfl)) 0)) ((f30 13 (of_decide_eq_true rfl)).trans (f13 13 (of_decide_eq_true rfl))) hI12
       have I40 : jI16 σ28 := jI16_fr ((congrFun (f30 16 (of_decide_eq_true rfl)) 0).trans (congrFun (f13 16 (of_decide_eq_true rfl)) 0)) ((congrFun (f30 16 (of_decide_eq_true rfl)) 1).trans (congrFun (f13 16 (of_decide_eq_true rfl)) 1)) ((congrFun (f30 16 (of_decide_eq_true rfl)) 2).trans (congrFun (f13 16 (of_decide_eq_true rfl)) 2)) ((f30 17 (of_decide_eq_true rfl)).trans (f13 17 (of_decide_eq_true rfl))) hI16
       have I41 : jI18 σ28 := jI18_fr ((congrFun (f30 18 (of_decide_eq_true rfl)) 0).trans (congrFun (f13 18 (of_decide_eq_true rfl)) 0)) ((f30 19 (of_decide_eq_true rfl)).trans (f13 19 (of_decide_eq_true rfl))) hI18
       have I42 : jI22 σ28 := jI22_fr ((congrFun (f30 22 (of_decide_eq_true rfl)) 0).trans (congrFun (f13 22 (of_decide_eq_true rfl)) 0)) ((f30 23 (of_decide_eq_true rfl)).trans (f13 23 (of_decide_eq_true rfl))) hI22
       exact by
        have I43 : jI31 σ28 := jI31_fr (congrFun (f30 31 (of_decide_eq_true rfl)) 8) (f30 33 (of_decide_eq_true rfl)) (f30 36 (of_decide_eq_true rfl)) I16
        have I44 : jI38 σ28 := jI38_fr ((congrFun (f30 38 (of_decide_eq_true rfl)) 0).trans (congrFun (f13 38 (of_decide_eq_true rfl)) 0)) ((congrFun (f30 38 (of_decide_eq_true rfl)) 1).trans (congrFun (f13 38 (of_decide_eq_true rfl)) 1)) ((f30 39 (of_decide_eq_true rfl)).trans (f13 39 (of_decide_eq_true rfl))) hI38
        have I45 : jI43 σ28 := jI43_fr (congrFun (f30 43 (of_decide_eq_true rfl)) 8) I17
        have I46 : jI47 σ28 := jI47_fr ((congrFun (f30 47 (of_decide_eq_true rfl)) 0).trans (congrFun (f13 47 (of_decide_eq_true rfl)) 0)) ((f30 48 (of_decide_eq_true rfl)).trans (f13 48 (of_decide_eq_true rfl))) ((f30 49 (of_decide_eq_true rfl)).trans (f13 49 (of_decide_eq_true rfl))) hI47
        have I47 : jI50 σ28 := jI50_fr ((f30 52 (of_decide_eq_true rfl)).trans (f13 52 (of_decide_eq_true rfl))) hI50
        have I48 : jI101 σ28 := jI101_fr (f31 4 (of_decide_eq_true rfl)) (f31 5 (of_decide_eq_true rfl)) (f30 56 (of_decide_eq_true rfl)) (f30 57 (of_decide_eq_true rfl)) (f30 58 (of_decide_eq_true rfl)) (f30 59 (of_decide_eq_true rfl)) I19
        have I49 : jI102 σ28 := jI102_fr (f31 6 (of_decide_eq_true rfl)) (f30 60 (of_decide_eq_true rfl)) (f30 61 (of_decide_eq_true rfl)) I20
        have I50 : jI103 σ28 := jI103_fr (f31 9 (of_decide_eq_true rfl)) I21
        have I51 : jI104 σ28 := jI104_fr (f31 10 (of_decide_eq_true rfl)) (f31 12 (of_decide_eq_true rfl)) (f31 13 (of_decide_eq_true rfl)) (f30 62 (of_decide_eq_true rfl)) (f30 67 (of_decide_eq_true rfl)) I22
        have I52 : jI105 σ28 := jI105_fr (f31 15 (of_decide_eq_true rfl)) (f30 65 (of_decide_eq_true rfl)) I23
        have I53 : jI106 σ28 := jI106_fr (f31 32 (of_decide_eq_true rfl)) (f30 70 (of_decide_eq_true rfl)) (f30 71 (of_decide_eq_true rfl)) (f30 72 (of_decide_eq_true rfl)) I24
        have I54 : jI107 σ28 := jI107_fr ((f31 12 (of_decide_eq_true rfl)).trans (congrFun (f13 55 (of_decide_eq_true rfl)) 12)) ((f31 47 (of_decide_eq_true rfl)).trans (congrFun (f13 55 (of_decide_eq_true rfl)) 47)) ((f30 80 (of_decide_eq_true rfl)).trans (f13 80 (of_decide_eq_true rfl))) hI107
        have I55 : jI110 σ28 := jI110_fr ((f30 86 (of_decide_eq_true rfl)).trans (f13 86 (of_decide_eq_true rfl))) ((f30 87 (of_decide_eq_true rfl)).trans (f13 87 (of_decide_eq_true rfl))) hI110
        have I56 : jI111 σ28 := jI111_fr ((f30 79 (of_decide_eq_true rfl)).trans (f13 79 (of_decide_eq_true rfl))) hI111
        have p57 : jBook σ28 := jBook.fr ((f31 47 (of_decide_eq_true rfl)).trans (congrFun (f13 55 (of_decide_eq_true rfl)) 47)) ((f31 10 (of_decide_eq_true rfl)).trans (congrFun (f13 55 (of_decide_eq_true rfl)) 10)) ((f30 81 (of_decide_eq_true rfl)).trans (f13 81 (of_decide_eq_true rfl))) hs_jBook
        have z58 : (σ28 9 0).toInt = (σ 9 0).toInt := (congrArg Int32.toInt (show σ28 9 0 = (σ 9 0) from ((congrFun (f30 9 (of_decide_eq_true rfl)) 0).trans (congrFun (f13 9 (of_decide_eq_true rfl)) 0))))
        have z59 : (σ28 55 15).toInt = (σ 55 15).toInt := (congrArg Int32.toInt (show σ28 55 15 = (σ 55 15) from ((f31 15 (of_decide_eq_true rfl)).trans (congrFun (f13 55 (of_decide_eq_true rfl)) 15))))
        exact by exact ih x36 σ28 τ _ _ ls (by have h9 := tx36; omega) ⟨I37, I38, I39, I40, I41, I42, I43, I44, I45, I46, I47, I48, I49, I50, I51, I52, I53, I54, I32, I55, I56, I33, p34, p57, (by omega), (show jTp (σ28 10) (σ28 63) (σ28 55 15).toInt by rw [show σ28 10 = σ 10 from ((f30 10 (of_decide_eq_true rfl)).trans (f13 10 (of_decide_eq_true rfl))), show σ28 63 = σ 63 from ((f30 63 (of_decide_eq_true rfl)).trans (f13 63 (of_decide_eq_true rfl)))]; exact hr0.le (by omega))⟩ hP hS (lv_sub hl [0, 1, 2, 3] rfl)
set_option maxHeartbeats 4000000 in
set_option maxRecDepth 100000 in
theorem law_case_25 {p : Program} {e : Env} {s : State} {m : MethodId} {below : List Frame} {meth : Method} {c : Code} (l : Launch) {b L : Nat} {xs : Nat → Int32} {D : va_G} {cI cL : ClassId} {ad zz : Nat → Nat} (C0 : lw_At p s m meth c b L xs) (hJ : jD ad) (hA : ∀ q, jA ad q → s.heap.size ≤ q) (hK : jK D cI cL s) (hZ : jZ zz (fun q : Nat => s.heap.size ≤ q) s s.heap) {x0 : Int32} (hx0 : 0 ≤ x0.toInt) (hxL : x0.toInt + 6 ≤ (L : Int)) (hL : L ≤ 384) {σ : Nat → Nat → Int32} {τ : Nat → Nat → Int64} {H : Heap} {locs : List Loc} (hS : va_S (fun q : Nat => s.heap.size ≤ q) s.heap H locs) {ls : Array Slot} (hAll : jAll σ τ) (hP : jH D cI cL ad σ τ H) (hl : lv_has ls 4 [(3, .int x0), (2, .ref (ad 55)), (1, .ref (ad 0)), (0, .ref b)]) (ih : ∀ (x1 : Int32) (σ : Nat → Nat → Int32) (τ : Nat → Nat → Int64) (H : Heap) (locs : List Loc) (ls : Array Slot), x1.toInt = x0.toInt + 6 → jAll σ τ → jH D cI cL ad σ τ H → va_S (fun q : Nat => s.heap.size ≤ q) s.heap H locs → lv_has ls 4 [(3, .int x1), (2, .ref (ad 55)), (1, .ref (ad 0)), (0, .ref b)] → W p l e room_1 s m #[Value.ref b] below meth c H locs 90 348600 (lw_Z below #[Value.ref b] s) (F0 m 18 ls [])) : W p l e room_1 s m #[Value.ref b] below meth c H locs 90 348600 (lw_Z below #[Value.ref b] s) (F0 m 931 ls []) := by
  obtain ⟨hx, hb, hr, hml, hown, hts0, hX, hbl, hlocks, hgv⟩ := C0
  have hts : ∀ w ∈ wsL_law, w.before #[Value.ref b] s = true := fun w h => hts0 w (wsL_law_in w h)
  have hbA : ¬ (fun q : Nat => s.heap.size ≤ q) b := Nat.not_le.mpr hbl
  have hown : s.vm.findClass RL = some m.cls := hown
  obtain ⟨hI2, hI9, hI12, hI16, hI18, hI22, hI31, hI38, hI43, hI47, hI50, hI101, hI102, hI103, hI104, hI105, hI106, hI107, hI109, hI110, hI111, hI119, hs_jKept, hs_jBook, ht0, hr0⟩ := hAll
  have hL9 : (L : Int) ≤ 384 := by omega
  obtain ⟨i1, w2, w3⟩ : (0 ≤ (σ 9 0).toInt ∧ (σ 9 0).toInt ≤ 80) ∧ (∀ k : Nat, k < 80 → 0 ≤ (σ 10 k).toInt ∧ (σ 10 k).toInt ≤ 255) ∧ (∀ k : Nat, k < 8 → 0 ≤ (σ 11 k).toInt ∧ (σ 11 k).toInt ≤ 3) := id hI9
  obtain ⟨i4, w5⟩ : (0 ≤ (σ 55 15).toInt ∧ (σ 55 15).toInt ≤ 80) ∧ (∀ k : Nat, k < 2 → (-1) ≤ (σ 65 k).toInt ∧ (σ 65 k).toInt ≤ 80) := id hI105
  refine lv_aload_n hx hb dL_law_931 rfl (lv_at hl 2 rfl) ?_
  refine lv_aload_n hx hb dL_law_932 rfl (lv_at hl 3 rfl) ?_
  refine lv_iload_n hx hb dL_law_933 rfl (lv_at hl 0 rfl) ?_
  refine lv_iconst (v := 1) hx hb dL_law_934 (of_decide_eq_true rfl) ?_
  have g6 := jrg (rfl : x0.toInt = x0.toInt)
  refine lv_iadd hx hb dL_law_935 ?_
  refine lv_topi (fun x7 ex7 => ?_)
  exact by
   have tx7 : x7.toInt = x0.toInt + 1 := (jadd ex7 rfl jz_1 (by omega) (by omega)).trans (by omega)
   refine va_sld hx hb hX hbl hbA hS (jin tx7 (by omega) (by omega)) dL_law_936 ?_
   have g8 := jrg (rfl : (xs x7.toNatClampNeg).toInt = (xs x7.toNatClampNeg).toInt)
   refine lv_aload_n hx hb dL_law_937 rfl (lv_at hl 3 rfl) ?_
   refine lv_iload_n hx hb dL_law_938 rfl (lv_at hl 0 rfl) ?_
   refine lv_iconst (v := 2) hx hb dL_law_939 (of_decide_eq_true rfl) ?_
   refine lv_iadd hx hb dL_law_940 ?_
   refine lv_topi (fun x9 ex9 => ?_)
   have tx9 : x9.toInt = x0.toInt + 2 := (jadd ex9 rfl jz_2 (by omega) (by omega)).trans (by omega)
   exact by
    refine va_sld hx hb hX hbl hbA hS (jin tx9 (by omega) (by omega)) dL_law_941 ?_
    have g10 := jrg (rfl : (xs x9.toNatClampNeg).toInt = (xs x9.toNatClampNeg).toInt)
    refine jcallV (As := [.int (xs x7.toNatClampNeg), .int (xs x9.toNatClampNeg)]) (rest := []) ⟨hx, hb, hml, hown, hts⟩ hK hP hA hS hZ (c_X11_led l D cI cL ad zz hJ σ τ (xs x7.toNatClampNeg) ((xs x7.toNatClampNeg).toInt) rfl (xs x9.toNatClampNeg) ((xs x9.toNatClampNeg).toInt) rfl hI43) cw_RL_117 (jc_0 cI cL ad σ τ) rfl ⟨Nat.le_of_ble_eq_true rfl, Nat.le_of_ble_eq_true rfl⟩ rfl rfl rfl hl.1 rfl (Nat.le_of_ble_eq_true rfl) dL_law_942 ⟨Nat.le_of_ble_eq_true rfl, Nat.le_of_ble_eq_true rfl⟩ (fun r12 σ11 τ11 H locs h11 hP hS => ?_)
    obtain ⟨⟨rfl, rfl⟩, h11⟩ := h11
    refine lv_pop hx hb dL_law_945 rfl ?_
    refine lv_aload_n hx hb dL_law_946 rfl (lv_at hl 1 rfl) ?_
    refine lv_aload_n hx hb dL_law_947 rfl (lv_at hl 3 rfl) ?_
    refine lv_iload_n hx hb dL_law_948 rfl (lv_at hl 0 rfl) ?_
    refine lv_iconst (v := 1) hx hb dL_law_949 (of_decide_eq_true rfl) ?_
    refine lv_iadd hx hb dL_law_950 ?_
    refine jtopr ex7.symm ?_
    exact by
     refine va_sld hx hb hX hbl hbA hS (jin tx7 (by omega) (by omega)) dL_law_951 ?_
     refine lv_aload_n hx hb dL_law_952 rfl (lv_at hl 3 rfl) ?_
     refine lv_iload_n hx hb dL_law_953 rfl (lv_at hl 0 rfl) ?_
     refine lv_iconst (v := 2) hx hb dL_law_954 (of_decide_eq_true rfl) ?_
     refine lv_iadd hx hb dL_law_955 ?_
     refine jtopr ex9.symm ?_
     refine va_sld hx hb hX hbl hbA hS (jin tx9 (by omega) (by omega)) dL_law_956 ?_
     refine jcallV (As := [.int (xs x7.toNatClampNeg), .int (xs x9.toNatClampNeg)]) (rest := []) ⟨hx, hb, hml, hown, hts⟩ hK hP hA hS hZ (c_X12_led l D cI cL ad zz hJ σ τ (xs x7.toNatClampNeg) ((xs x7.toNatClampNeg).toInt) rfl (xs x9.toNatClampNeg) ((xs x9.toNatClampNeg).toInt) rfl hI109) cw_RL_120 (jc_55 cI cL ad σ τ) rfl ⟨Nat.le_of_ble_eq_true rfl, Nat.le_of_ble_eq_true rfl⟩ rfl rfl rfl hl.1 rfl (Nat.le_of_ble_eq_true rfl) dL_law_957 ⟨Nat.le_of_ble_eq_true rfl, Nat.le_of_ble_eq_true rfl⟩ (fun r14 σ13 τ13 H locs h13 hP hS => ?_)
     obtain ⟨⟨rfl, rfl⟩, h13⟩ := h13
     exact by
      refine lv_pop hx hb dL_law_960 rfl ?_
      refine lv_goto (tgt := 1357) hx hb dL_law_961 (of_decide_eq_true rfl) ?_
      obtain ⟨x15, ex15⟩ : ∃ y : Int32, y = x0 + 6 := ⟨_, rfl⟩
      have tx15 : x15.toInt = x0.toInt + 6 := (jadd ex15 rfl jz_6 (by omega) (by omega)).trans (by omega)
      refine lv_iinc (v := x15) (lv' := [(3, .int x15), (2, .ref (ad 55)), (1, .ref (ad 0)), (0, .ref b)]) hx hb dL_law_1357 hl (k := 0) rfl (by rw [ex15]; rfl) (of_decide_eq_true rfl) rfl (fun ls hl => ?_)
      refine lv_goto (tgt := 18) hx hb dL_law_1360 (of_decide_eq_true rfl) ?_
      exact by exact ih x15 σ τ _ _ ls (by have h9 := tx15; omega) ⟨hI2, hI9, hI12, hI16, hI18, hI22, hI31, hI38, hI43, hI47, hI50, hI101, hI102, hI103, hI104, hI105, hI106, hI107, hI109, hI110, hI111, hI119, hs_jKept, hs_jBook, (by omega), hr0⟩ hP hS (lv_sub hl [0, 1, 2, 3] rfl)
set_option maxHeartbeats 4000000 in
set_option maxRecDepth 100000 in
theorem law_case_26 {p : Program} {e : Env} {s : State} {m : MethodId} {below : List Frame} {meth : Method} {c : Code} (l : Launch) {b L : Nat} {xs : Nat → Int32} {D : va_G} {cI cL : ClassId} {ad zz : Nat → Nat} (C0 : lw_At p s m meth c b L xs) (hJ : jD ad) (hA : ∀ q, jA ad q → s.heap.size ≤ q) (hK : jK D cI cL s) (hZ : jZ zz (fun q : Nat => s.heap.size ≤ q) s s.heap) {x0 : Int32} (hx0 : 0 ≤ x0.toInt) (hxL : x0.toInt + 6 ≤ (L : Int)) (hL : L ≤ 384) {σ : Nat → Nat → Int32} {τ : Nat → Nat → Int64} {H : Heap} {locs : List Loc} (hS : va_S (fun q : Nat => s.heap.size ≤ q) s.heap H locs) {ls : Array Slot} (hAll : jAll σ τ) (hP : jH D cI cL ad σ τ H) (hl : lv_has ls 4 [(3, .int x0), (2, .ref (ad 55)), (1, .ref (ad 0)), (0, .ref b)]) (ih : ∀ (x1 : Int32) (σ : Nat → Nat → Int32) (τ : Nat → Nat → Int64) (H : Heap) (locs : List Loc) (ls : Array Slot), x1.toInt = x0.toInt + 6 → jAll σ τ → jH D cI cL ad σ τ H → va_S (fun q : Nat => s.heap.size ≤ q) s.heap H locs → lv_has ls 4 [(3, .int x1), (2, .ref (ad 55)), (1, .ref (ad 0)), (0, .ref b)] → W p l e room_1 s m #[Value.ref b] below meth c H locs 90 348600 (lw_Z below #[Value.ref b] s) (F0 m 18 ls [])) : W p l e room_1 s m #[Value.ref b] below meth c H locs 90 348600 (lw_Z below #[Value.ref b] s) (F0 m 964 ls []) := by
  obtain ⟨hx, hb, hr, hml, hown, hts0, hX, hbl, hlocks, hgv⟩ := C0
  have hts : ∀ w ∈ wsL_law, w.before #[Value.ref b] s = true := fun w h => hts0 w (wsL_law_in w h)
  have hbA : ¬ (fun q : Nat => s.heap.size ≤ q) b := Nat.not_le.mpr hbl
  have hown : s.vm.findClass RL = some m.cls := hown
  obtain ⟨hI2, hI9, hI12, hI16, hI18, hI22, hI31, hI38, hI43, hI47, hI50, hI101, hI102, hI103, hI104, hI105, hI106, hI107, hI109, hI110, hI111, hI119, hs_jKept, hs_jBook, ht0, hr0⟩ := hAll
  have hL9 : (L : Int) ≤ 384 := by omega
  obtain ⟨i1, w2, w3⟩ : (0 ≤ (σ 9 0).toInt ∧ (σ 9 0).toInt ≤ 80) ∧ (∀ k : Nat, k < 80 → 0 ≤ (σ 10 k).toInt ∧ (σ 10 k).toInt ≤ 255) ∧ (∀ k : Nat, k < 8 → 0 ≤ (σ 11 k).toInt ∧ (σ 11 k).toInt ≤ 3) := id hI9
  obtain ⟨i4, w5⟩ : (0 ≤ (σ 55 15).toInt ∧ (σ 55 15).toInt ≤ 80) ∧ (∀ k : Nat, k < 2 → (-1) ≤ (σ 65 k).toInt ∧ (σ 65 k).toInt ≤ 80) := id hI105
  refine lv_aload_n hx hb dL_law_964 rfl (lv_at hl 2 rfl) ?_
  refine jcallV (As := []) (rest := []) ⟨hx, hb, hml, hown, hts⟩ hK hP hA hS hZ (c_X11_undo l D cI cL ad zz hJ σ τ hI2) cw_RL_121 (jc_0 cI cL ad σ τ) rfl ⟨Nat.le_of_ble_eq_true rfl, Nat.le_of_ble_eq_true rfl⟩ rfl rfl rfl hl.1 rfl (Nat.le_of_ble_eq_true rfl) dL_law_965 ⟨Nat.le_of_ble_eq_true rfl, Nat.le_of_ble_eq_true rfl⟩ (fun r7 σ6 τ6 H locs h6 hP hS => ?_)
  obtain ⟨rfl, f8, f9, I10, h6⟩ := h6
  rcases h6 with h12 | h13
  · obtain ⟨q18, k14, k15, k16, k17⟩ := h12
    have q18 := q18.symm
    subst q18
    refine lv_pop hx hb dL_law_968 rfl ?_
    refine lv_aload_n hx hb dL_law_969 rfl (lv_at hl 1 rfl) ?_
    have I19 : jI101 σ6 := jI101_fr (congrFun (f8 55 (of_decide_eq_true rfl)) 4) (congrFun (f8 55 (of_decide_eq_true rfl)) 5) (f8 56 (of_decide_eq_true rfl)) (f8 57 (of_decide_eq_true rfl)) (f8 58 (of_decide_eq_true rfl)) (f8 59 (of_decide_eq_true rfl)) hI101
    have z20 : (σ6 55 5).toInt = (σ 55 5).toInt := (congrArg Int32.toInt (show σ6 55 5 = (σ 55 5) from (congrFun (f8 55 (of_decide_eq_true rfl)) 5)))
    refine jcallV (As := []) (rest := []) ⟨hx, hb, hml, hown, hts⟩ hK hP hA hS hZ (c_X12_undo l D cI cL ad zz hJ σ6 τ I19) cw_RL_124 (jc_55 cI cL ad σ6 τ) rfl ⟨Nat.le_of_ble_eq_true rfl, Nat.le_of_ble_eq_true rfl⟩ rfl rfl rfl hl.1 rfl (Nat.le_of_ble_eq_true rfl) dL_law_970 ⟨Nat.le_of_ble_eq_true rfl, Nat.le_of_ble_eq_true rfl⟩ (fun r22 σ21 τ21 H locs h21 hP hS => ?_)
    obtain ⟨rfl, f23, f24, I25, h21⟩ := h21
    rcases h21 with h27 | h28
    · obtain ⟨q32, k29, k30, k31⟩ := h27
      have q32 := q32.symm
      subst q32
      refine lv_pop hx hb dL_law_973 rfl ?_
      refine lv_goto (tgt := 1357) hx hb dL_law_974 (of_decide_eq_true rfl) ?_
      obtain ⟨x33, ex33⟩ : ∃ y : Int32, y = x0 + 6 := ⟨_, rfl⟩
      exact by
       have tx33 : x33.toInt = x0.toInt + 6 := (jadd ex33 rfl jz_6 (by omega) (by omega)).trans (by omega)
       refine lv_iinc (v := x33) (lv' := [(3, .int x33), (2, .ref (ad 55)), (1, .ref (ad 0)), (0, .ref b)]) hx hb dL_law_1357 hl (k := 0) rfl (by rw [ex33]; rfl) (of_decide_eq_true rfl) rfl (fun ls hl => ?_)
       refine lv_goto (tgt := 18) hx hb dL_law_1360 (of_decide_eq_true rfl) ?_
       have I34 : jI2 σ21 := jI2_fr (congrFun (f23 2 (of_decide_eq_true rfl)) 0) (congrFun (f23 2 (of_decide_eq_true rfl)) 1) (congrFun (f23 2 (of_decide_eq_true rfl)) 2) (congrFun (f23 2 (of_decide_eq_true rfl)) 3) (f23 6 (of_decide_eq_true rfl)) I10
       have I35 : jI9 σ21 := jI9_fr ((congrFun (f23 9 (of_decide_eq_true rfl)) 0).trans (congrFun (f8 9 (of_decide_eq_true rfl)) 0)) ((f23 10 (of_decide_eq_true rfl)).trans (f8 10 (of_decide_eq_true rfl))) ((f23 11 (of_decide_eq_true rfl)).trans (f8 11 (of_decide_eq_true rfl))) hI9
       have I36 : jI12 σ21 := jI12_fr ((congrFun (f23 12 (of_decide_eq_true rfl)) 0).trans (congrFun (f8 12 (of_decide_eq_true rfl)) 0)) ((f23 13 (of_decide_eq_true rfl)).trans (f8 13 (of_decide_eq_true rfl))) hI12
       have I37 : jI16 σ21 := jI16_fr ((congrFun (f23 16 (of_decide_eq_true rfl)) 0).trans (congrFun (f8 16 (of_decide_eq_true rfl)) 0)) ((congrFun (f23 16 (of_decide_eq_true rfl)) 1).trans (congrFun (f8 16 (of_decide_eq_true rfl)) 1)) ((congrFun (f23 16 (of_decide_eq_true rfl)) 2).trans (congrFun (f8 16 (of_decide_eq_true rfl)) 2)) ((f23 17 (of_decide_eq_true rfl)).trans (f8 17 (of_decide_eq_true rfl))) hI16
       have I38 : jI18 σ21 := jI18_fr ((congrFun (f23 18 (of_decide_eq_true rfl)) 0).trans (congrFun (f8 18 (of_decide_eq_true rfl)) 0)) ((f23 19 (of_decide_eq_true rfl)).trans (f8 19 (of_decide_eq_true rfl))) hI18
       have I39 : jI22 σ21 := jI22_fr ((congrFun (f23 22 (of_decide_eq_true rfl)) 0).trans (congrFun (f8 22 (of_decide_eq_true rfl)) 0)) ((f23 23 (of_decide_eq_true rfl)).trans (f8 23 (of_decide_eq_true rfl))) hI22
       exact by
        have I40 : jI31 σ21 := jI31_fr ((congrFun (f23 31 (of_decide_eq_true rfl)) 8).trans (congrFun (f8 31 (of_decide_eq_true rfl)) 8)) ((f23 33 (of_decide_eq_true rfl)).trans (f8 33 (of_decide_eq_true rfl))) ((f23 36 (of_decide_eq_true rfl)).trans (f8 36 (of_decide_eq_true rfl))) hI31
        have I41 : jI38 σ21 := jI38_fr ((congrFun (f23 38 (of_decide_eq_true rfl)) 0).trans (congrFun (f8 38 (of_decide_eq_true rfl)) 0)) ((congrFun (f23 38 (of_decide_eq_true rfl)) 1).trans (congrFun (f8 38 (of_decide_eq_true rfl)) 1)) ((f23 39 (of_decide_eq_true rfl)).trans (f8 39 (of_decide_eq_true rfl))) hI38
        have I42 : jI43 σ21 := jI43_fr ((congrFun (f23 43 (of_decide_eq_true rfl)) 8).trans (congrFun (f8 43 (of_decide_eq_true rfl)) 8)) hI43
        have I43 : jI47 σ21 := jI47_fr ((congrFun (f23 47 (of_decide_eq_true rfl)) 0).trans (congrFun (f8 47 (of_decide_eq_true rfl)) 0)) ((f23 48 (of_decide_eq_true rfl)).trans (f8 48 (of_decide_eq_true rfl))) ((f23 49 (of_decide_eq_true rfl)).trans (f8 49 (of_decide_eq_true rfl))) hI47
        have I44 : jI50 σ21 := jI50_fr ((f23 52 (of_decide_eq_true rfl)).trans (f8 52 (of_decide_eq_true rfl))) hI50
        have I45 : jI102 σ21 := jI102_fr ((f24 6 (of_decide_eq_true rfl)).trans (congrFun (f8 55 (of_decide_eq_true rfl)) 6)) ((f23 60 (of_decide_eq_true rfl)).trans (f8 60 (of_decide_eq_true rfl))) ((f23 61 (of_decide_eq_true rfl)).trans (f8 61 (of_decide_eq_true rfl))) hI102
        have I46 : jI103 σ21 := jI103_fr ((f24 9 (of_decide_eq_true rfl)).trans (congrFun (f8 55 (of_decide_eq_true rfl)) 9)) hI103
        have I47 : jI104 σ21 := jI104_fr ((f24 10 (of_decide_eq_true rfl)).trans (congrFun (f8 55 (of_decide_eq_true rfl)) 10)) ((f24 12 (of_decide_eq_true rfl)).trans (congrFun (f8 55 (of_decide_eq_true rfl)) 12)) ((f24 13 (of_decide_eq_true rfl)).trans (congrFun (f8 55 (of_decide_eq_true rfl)) 13)) ((f23 62 (of_decide_eq_true rfl)).trans (f8 62 (of_decide_eq_true rfl))) ((f23 67 (of_decide_eq_true rfl)).trans (f8 67 (of_decide_eq_true rfl))) hI104
        have I48 : jI105 σ21 := jI105_fr ((f24 15 (of_decide_eq_true rfl)).trans (congrFun (f8 55 (of_decide_eq_true rfl)) 15)) ((f23 65 (of_decide_eq_true rfl)).trans (f8 65 (of_decide_eq_true rfl))) hI105
        have I49 : jI106 σ21 := jI106_fr ((f24 32 (of_decide_eq_true rfl)).trans (congrFun (f8 55 (of_decide_eq_true rfl)) 32)) ((f23 70 (of_decide_eq_true rfl)).trans (f8 70 (of_decide_eq_true rfl))) ((f23 71 (of_decide_eq_true rfl)).trans (f8 71 (of_decide_eq_true rfl))) ((f23 72 (of_decide_eq_true rfl)).trans (f8 72 (of_decide_eq_true rfl))) hI106
        have I50 : jI107 σ21 := jI107_fr ((f24 12 (of_decide_eq_true rfl)).trans (congrFun (f8 55 (of_decide_eq_true rfl)) 12)) ((f24 47 (of_decide_eq_true rfl)).trans (congrFun (f8 55 (of_decide_eq_true rfl)) 47)) ((f23 80 (of_decide_eq_true rfl)).trans (f8 80 (of_decide_eq_true rfl))) hI107
        have I51 : jI109 σ21 := jI109_fr ((f24 50 (of_decide_eq_true rfl)).trans (congrFun (f8 55 (of_decide_eq_true rfl)) 50)) hI109
        have I52 : jI110 σ21 := jI110_fr ((f23 86 (of_decide_eq_true rfl)).trans (f8 86 (of_decide_eq_true rfl))) ((f23 87 (of_decide_eq_true rfl)).trans (f8 87 (of_decide_eq_true rfl))) hI110
        have I53 : jI111 σ21 := jI111_fr ((f23 79 (of_decide_eq_true rfl)).trans (f8 79 (of_decide_eq_true rfl))) hI111
        have I54 : jI119 σ21 := jI119_fr ((f23 68 (of_decide_eq_true rfl)).trans (f8 68 (of_decide_eq_true rfl))) hI119
        have p55 : jKept σ21 := jKept.fr ((f23 75 (of_decide_eq_true rfl)).trans (f8 75 (of_decide_eq_true rfl))) ((f23 76 (of_decide_eq_true rfl)).trans (f8 76 (of_decide_eq_true rfl))) ((f23 77 (of_decide_eq_true rfl)).trans (f8 77 (of_decide_eq_true rfl))) hs_jKept
        have p56 : jBook σ21 := jBook.fr ((f24 47 (of_decide_eq_true rfl)).trans (congrFun (f8 55 (of_decide_eq_true rfl)) 47)) ((f24 10 (of_decide_eq_true rfl)).trans (congrFun (f8 55 (of_decide_eq_true rfl)) 10)) ((f23 81 (of_decide_eq_true rfl)).trans (f8 81 (of_decide_eq_true rfl))) hs_jBook
        have z57 : (σ21 9 0).toInt = (σ 9 0).toInt := (congrArg Int32.toInt (show σ21 9 0 = (σ 9 0) from ((congrFun (f23 9 (of_decide_eq_true rfl)) 0).trans (congrFun (f8 9 (of_decide_eq_true rfl)) 0))))
        have z58 : (σ21 55 15).toInt = (σ 55 15).toInt := (congrArg Int32.toInt (show σ21 55 15 = (σ 55 15) from ((f24 15 (of_decide_eq_true rfl)).trans (congrFun (f8 55 (of_decide_eq_true rfl)) 15))))
        exact by exact ih x33 σ21 τ _ _ ls (by have h9 := tx33; omega) ⟨I34, I35, I36, I37, I38, I39, I40, I41, I42, I43, I44, I25, I45, I46, I47, I48, I49, I50, I51, I52, I53, I54, p55, p56, (by omega), (show jTp (σ21 10) (σ21 63) (σ21 55 15).toInt by rw [show σ21 10 = σ 10 from ((f23 10 (of_decide_eq_true rfl)).trans (f8 10 (of_decide_eq_true rfl))), show σ21 63 = σ 63 from ((f23 63 (of_decide_eq_true rfl)).trans (f8 63 (of_decide_eq_true rfl)))]; exact hr0.le (by omega))⟩ hP hS (lv_sub hl [0, 1, 2, 3] rfl)
    · obtain ⟨q64, k59, k60, k61, k62, k63⟩ := h28
      refine lv_pop hx hb dL_law_973 rfl ?_
      refine lv_goto (tgt := 1357) hx hb dL_law_974 (of_decide_eq_true rfl) ?_
      obtain ⟨x65, ex65⟩ : ∃ y : Int32, y = x0 + 6 := ⟨_, rfl⟩
      exact by
       have tx65 : x65.toInt = x0.toInt + 6 := (jadd ex65 rfl jz_6 (by omega) (by omega)).trans (by omega)
       refine lv_iinc (v := x65) (lv' := [(3, .int x65), (2, .ref (ad 55)), (1, .ref (ad 0)), (0, .ref b)]) hx hb dL_law_1357 hl (k := 0) rfl (by rw [ex65]; rfl) (of_decide_eq_true rfl) rfl (fun ls hl => ?_)
       refine lv_goto (tgt := 18) hx hb dL_law_1360 (of_decide_eq_true rfl) ?_
       have I66 : jI2 σ21 := jI2_fr (congrFun (f23 2 (of_decide_eq_true rfl)) 0) (congrFun (f23 2 (of_decide_eq_true rfl)) 1) (congrFun (f23 2 (of_decide_eq_true rfl)) 2) (congrFun (f23 2 (of_decide_eq_true rfl)) 3) (f23 6 (of_decide_eq_true rfl)) I10
       have I67 : jI9 σ21 := jI9_fr ((congrFun (f23 9 (of_decide_eq_true rfl)) 0).trans (congrFun (f8 9 (of_decide_eq_true rfl)) 0)) ((f23 10 (of_decide_eq_true rfl)).trans (f8 10 (of_decide_eq_true rfl))) ((f23 11 (of_decide_eq_true rfl)).trans (f8 11 (of_decide_eq_true rfl))) hI9
       have I68 : jI12 σ21 := jI12_fr ((congrFun (f23 12 (of_decide_eq_true rfl)) 0).trans (congrFun (f8 12 (of_decide_eq_true rfl)) 0)) ((f23 13 (of_decide_eq_true rfl)).trans (f8 13 (of_decide_eq_true rfl))) hI12
       have I69 : jI16 σ21 := jI16_fr ((congrFun (f23 16 (of_decide_eq_true rfl)) 0).trans (congrFun (f8 16 (of_decide_eq_true rfl)) 0)) ((congrFun (f23 16 (of_decide_eq_true rfl)) 1).trans (congrFun (f8 16 (of_decide_eq_true rfl)) 1)) ((congrFun (f23 16 (of_decide_eq_true rfl)) 2).trans (congrFun (f8 16 (of_decide_eq_true rfl)) 2)) ((f23 17 (of_decide_eq_true rfl)).trans (f8 17 (of_decide_eq_true rfl))) hI16
       have I70 : jI18 σ21 := jI18_fr ((congrFun (f23 18 (of_decide_eq_true rfl)) 0).trans (congrFun (f8 18 (of_decide_eq_true rfl)) 0)) ((f23 19 (of_decide_eq_true rfl)).trans (f8 19 (of_decide_eq_true rfl))) hI18
       have I71 : jI22 σ21 := jI22_fr ((congrFun (f23 22 (of_decide_eq_true rfl)) 0).trans (congrFun (f8 22 (of_decide_eq_true rfl)) 0)) ((f23 23 (of_decide_eq_true rfl)).trans (f8 23 (of_decide_eq_true rfl))) hI22
       exact by
        have I72 : jI31 σ21 := jI31_fr ((congrFun (f23 31 (of_decide_eq_true rfl)) 8).trans (congrFun (f8 31 (of_decide_eq_true rfl)) 8)) ((f23 33 (of_decide_eq_true rfl)).trans (f8 33 (of_decide_eq_true rfl))) ((f23 36 (of_decide_eq_true rfl)).trans (f8 36 (of_decide_eq_true rfl))) hI31
        have I73 : jI38 σ21 := jI38_fr ((congrFun (f23 38 (of_decide_eq_true rfl)) 0).trans (congrFun (f8 38 (of_decide_eq_true rfl)) 0)) ((congrFun (f23 38 (of_decide_eq_true rfl)) 1).trans (congrFun (f8 38 (of_decide_eq_true rfl)) 1)) ((f23 39 (of_decide_eq_true rfl)).trans (f8 39 (of_decide_eq_true rfl))) hI38
        have I74 : jI43 σ21 := jI43_fr ((congrFun (f23 43 (of_decide_eq_true rfl)) 8).trans (congrFun (f8 43 (of_decide_eq_true rfl)) 8)) hI43
        have I75 : jI47 σ21 := jI47_fr ((congrFun (f23 47 (of_decide_eq_true rfl)) 0).trans (congrFun (f8 47 (of_decide_eq_true rfl)) 0)) ((f23 48 (of_decide_eq_true rfl)).trans (f8 48 (of_decide_eq_true rfl))) ((f23 49 (of_decide_eq_true rfl)).trans (f8 49 (of_decide_eq_true rfl))) hI47
        have I76 : jI50 σ21 := jI50_fr ((f23 52 (of_decide_eq_true rfl)).trans (f8 52 (of_decide_eq_true rfl))) hI50
        have I77 : jI102 σ21 := jI102_fr ((f24 6 (of_decide_eq_true rfl)).trans (congrFun (f8 55 (of_decide_eq_true rfl)) 6)) ((f23 60 (of_decide_eq_true rfl)).trans (f8 60 (of_decide_eq_true rfl))) ((f23 61 (of_decide_eq_true rfl)).trans (f8 61 (of_decide_eq_true rfl))) hI102
        have I78 : jI103 σ21 := jI103_fr ((f24 9 (of_decide_eq_true rfl)).trans (congrFun (f8 55 (of_decide_eq_true rfl)) 9)) hI103
        have I79 : jI104 σ21 := jI104_fr ((f24 10 (of_decide_eq_true rfl)).trans (congrFun (f8 55 (of_decide_eq_true rfl)) 10)) ((f24 12 (of_decide_eq_true rfl)).trans (congrFun (f8 55 (of_decide_eq_true rfl)) 12)) ((f24 13 (of_decide_eq_true rfl)).trans (congrFun (f8 55 (of_decide_eq_true rfl)) 13)) ((f23 62 (of_decide_eq_true rfl)).trans (f8 62 (of_decide_eq_true rfl))) ((f23 67 (of_decide_eq_true rfl)).trans (f8 67 (of_decide_eq_true rfl))) hI104
        have I80 : jI105 σ21 := jI105_fr ((f24 15 (of_decide_eq_true rfl)).trans (congrFun (f8 55 (of_decide_eq_true rfl)) 15)) ((f23 65 (of_decide_eq_true rfl)).trans (f8 65 (of_decide_eq_true rfl))) hI105
        have I81 : jI106 σ21 := jI106_fr ((f24 32 (of_decide_eq_true rfl)).trans (congrFun (f8 55 (of_decide_eq_true rfl)) 32)) ((f23 70 (of_decide_eq_true rfl)).trans (f8 70 (of_decide_eq_true rfl))) ((f23 71 (of_decide_eq_true rfl)).trans (f8 71 (of_decide_eq_true rfl))) ((f23 72 (of_decide_eq_true rfl)).trans (f8 72 (of_decide_eq_true rfl))) hI106
        have I82 : jI107 σ21 := jI107_fr ((f24 12 (of_decide_eq_true rfl)).trans (congrFun (f8 55 (of_decide_eq_true rfl)) 12)) ((f24 47 (of_decide_eq_true rfl)).trans (congrFun (f8 55 (of_decide_eq_true rfl)) 47)) ((f23 80 (of_decide_eq_true rfl)).trans (f8 80 (of_decide_eq_true rfl))) hI107
        have I83 : jI109 σ21 := jI109_fr ((f24 50 (of_decide_eq_true rfl)).trans (congrFun (f8 55 (of_decide_eq_true rfl)) 50)) hI109
        have I84 : jI110 σ21 := jI110_fr ((f23 86 (of_decide_eq_true rfl)).trans (f8 86 (of_decide_eq_true rfl))) ((f23 87 (of_decide_eq_true rfl)).trans (f8 87 (of_decide_eq_true rfl))) hI110
        have I85 : jI111 σ21 := jI111_fr ((f23 79 (of_decide_eq_true rfl)).trans (f8 79 (of_decide_eq_true rfl))) hI111
        have I86 : jI119 σ21 := jI119_fr ((f23 68 (of_decide_eq_true rfl)).trans (f8 68 (of_decide_eq_true rfl))) hI119
        have p87 : jKept σ21 := jKept.fr ((f23 75 (of_decide_eq_true rfl)).trans (f8 75 (of_decide_eq_true rfl))) ((f23 76 (of_decide_eq_true rfl)).trans (f8 76 (of_decide_eq_true rfl))) ((f23 77 (of_decide_eq_true rfl)).trans (f8 77 (of_decide_eq_true rfl))) hs_jKept
        have p88 : jBook σ21 := jBook.fr ((f24 47 (of_decide_eq_true rfl)).trans (congrFun (f8 55 (of_decide_eq_true rfl)) 47)) ((f24 10 (of_decide_eq_true rfl)).trans (congrFun (f8 55 (of_decide_eq_true rfl)) 10)) ((f23 81 (of_decide_eq_true rfl)).trans (f8 81 (of_decide_eq_true rfl))) hs_jBook
        have z89 : (σ21 9 0).toInt = (σ 9 0).toInt := (congrArg Int32.toInt (show σ21 9 0 = (σ 9 0) from ((congrFun (f23 9 (of_decide_eq_true rfl)) 0).trans (congrFun (f8 9 (of_decide_eq_true rfl)) 0))))
        have z90 : (σ21 55 15).toInt = (σ 55 15).toInt := (congrArg Int32.toInt (show σ21 55 15 = (σ 55 15) from ((f24 15 (of_decide_eq_true rfl)).trans (congrFun (f8 55 (of_decide_eq_true rfl)) 15))))
        exact by exact ih x65 σ21 τ _ _ ls (by have h9 := tx65; omega) ⟨I66, I67, I68, I69, I70, I71, I72, I73, I74, I75, I76, I25, I77, I78, I79, I80, I81, I82, I83, I84, I85, I86, p87, p88, (by omega), (show jTp (σ21 10) (σ21 63) (σ21 55 15).toInt by rw [show σ21 10 = σ 10 from ((f23 10 (of_decide_eq_true rfl)).trans (f8 10 (of_decide_eq_true rfl))), show σ21 63 = σ 63 from ((f23 63 (of_decide_eq_true rfl)).trans (f8 63 (of_decide_eq_true rfl)))]; exact hr0.le (by omega))⟩ hP hS (lv_sub hl [0, 1, 2, 3] rfl)
  · obtain ⟨q97, k91, k92, k93, k94, k95, k96⟩ := h13
    refine lv_pop hx hb dL_law_968 rfl ?_
    refine lv_aload_n hx hb dL_law_969 rfl (lv_at hl 1 rfl) ?_
    have I98 : jI101 σ6 := jI101_fr (congrFun (f8 55 (of_decide_eq_true rfl)) 4) (congrFun (f8 55 (of_decide_eq_true rfl)) 5) (f8 56 (of_decide_eq_true rfl)) (f8 57 (of_decide_eq_true rfl)) (f8 58 (of_decide_eq_true rfl)) (f8 59 (of_decide_eq_true rfl)) hI101
    have z99 : (σ6 55 5).toInt = (σ 55 5).toInt := (congrArg Int32.toInt (show σ6 55 5 = (σ 55 5) from (congrFun (f8 55 (of_decide_eq_true rfl)) 5)))
    refine jcallV (As := []) (rest := []) ⟨hx, hb, hml, hown, hts⟩ hK hP hA hS hZ (c_X12_undo l D cI cL ad zz hJ σ6 τ I98) cw_RL_124 (jc_55 cI cL ad σ6 τ) rfl ⟨Nat.le_of_ble_eq_true rfl, Nat.le_of_ble_eq_true rfl⟩ rfl rfl rfl hl.1 rfl (Nat.le_of_ble_eq_true rfl) dL_law_970 ⟨Nat.le_of_ble_eq_true rfl, Nat.le_of_ble_eq_true rfl⟩ (fun r101 σ100 τ100 H locs h100 hP hS => ?_)
    obtain ⟨rfl, f102, f103, I104, h100⟩ := h100
    rcases h100 with h106 | h107
    · obtain ⟨q111, k108, k109, k110⟩ := h106
      have q111 := q111.symm
      subst q111
      refine lv_pop hx hb dL_law_973 rfl ?_
      refine lv_goto (tgt := 1357) hx hb dL_law_974 (of_decide_eq_true rfl) ?_
      obtain ⟨x112, ex112⟩ : ∃ y : Int32, y = x0 + 6 := ⟨_, rfl⟩
      exact by
       have tx112 : x112.toInt = x0.toInt + 6 := (jadd ex112 rfl jz_6 (by omega) (by omega)).trans (by omega)
       refine lv_iinc (v := x112) (lv' := [(3, .int x112), (2, .ref (ad 55)), (1, .ref (ad 0)), (0, .ref b)]) hx hb dL_law_1357 hl (k := 0) rfl (by rw [ex112]; rfl) (of_decide_eq_true rfl) rfl (fun ls hl => ?_)
       refine lv_goto (tgt := 18) hx hb dL_law_1360 (of_decide_eq_true rfl) ?_
       have I113 : jI2 σ100 := jI2_fr (congrFun (f102 2 (of_decide_eq_true rfl)) 0) (congrFun (f102 2 (of_decide_eq_true rfl)) 1) (congrFun (f102 2 (of_decide_eq_true rfl)) 2) (congrFun (f102 2 (of_decide_eq_true rfl)) 3) (f102 6 (of_decide_eq_true rfl)) I10
       have I114 : jI9 σ100 := jI9_fr ((congrFun (f102 9 (of_decide_eq_true rfl)) 0).trans (congrFun (f8 9 (of_decide_eq_true rfl)) 0)) ((f102 10 (of_decide_eq_true rfl)).trans (f8 10 (of_decide_eq_true rfl))) ((f102 11 (of_decide_eq_true rfl)).trans (f8 11 (of_decide_eq_true rfl))) hI9
       have I115 : jI12 σ100 := jI12_fr ((congrFun (f102 12 (of_decide_eq_true rfl)) 0).trans (congrFun (f8 12 (of_decide_eq_true rfl)) 0)) ((f102 13 (of_decide_eq_true rfl)).trans (f8 13 (of_decide_eq_true rfl))) hI12
       have I116 : jI16 σ100 := jI16_fr ((congrFun (f102 16 (of_decide_eq_true rfl)) 0).trans (congrFun (f8 16 (of_decide_eq_true rfl)) 0)) ((congrFun (f102 16 (of_decide_eq_true rfl)) 1).trans (congrFun (f8 16 (of_decide_eq_true rfl)) 1)) ((congrFun (f102 16 (of_decide_eq_true rfl)) 2).trans (congrFun (f8 16 (of_decide_eq_true rfl)) 2)) ((f102 17 (of_decide_eq_true rfl)).trans (f8 17 (of_decide_eq_true rfl))) hI16
       have I117 : jI18 σ100 := jI18_fr ((congrFun (f102 18 (of_decide_eq_true rfl)) 0).trans (congrFun (f8 18 (of_decide_eq_true rfl)) 0)) ((f102 19 (of_decide_eq_true rfl)).trans (f8 19 (of_decide_eq_true rfl))) hI18
       have I118 : jI22 σ100 := jI22_fr ((congrFun (f102 22 (of_decide_eq_true rfl)) 0).trans (congrFun (f8 22 (of_decide_eq_true rfl)) 0)) ((f102 23 (of_decide_eq_true rfl)).trans (f8 23 (of_decide_eq_true rfl))) hI22
       exact by
        have I119 : jI31 σ100 := jI31_fr ((congrFun (f102 31 (of_decide_eq_true rfl)) 8).trans (congrFun (f8 31 (of_decide_eq_true rfl)) 8)) ((f102 33 (of_decide_eq_true rfl)).trans (f8 33 (of_decide_eq_true rfl))) ((f102 36 (of_decide_eq_true rfl)).trans (f8 36 (of_decide_eq_true rfl))) hI31
        have I120 : jI38 σ100 := jI38_fr ((congrFun (f102 38 (of_decide_eq_true rfl)) 0).trans (congrFun (f8 38 (of_decide_eq_true rfl)) 0)) ((congrFun (f102 38 (of_decide_eq_true rfl)) 1).trans (congrFun (f8 38 (of_decide_eq_true rfl)) 1)) ((f102 39 (of_decide_eq_true rfl)).trans (f8 39 (of_decide_eq_true rfl))) hI38
        have I121 : jI43 σ100 := jI43_fr ((congrFun (f102 43 (of_decide_eq_true rfl)) 8).trans (congrFun (f8 43 (of_decide_eq_true rfl)) 8)) hI43
        have I122 : jI47 σ100 := jI47_fr ((congrFun (f102 47 (of_decide_eq_true rfl)) 0).trans (congrFun (f8 47 (of_decide_eq_true rfl)) 0)) ((f102 48 (of_decide_eq_true rfl)).trans (f8 48 (of_decide_eq_true rfl))) ((f102 49 (of_decide_eq_true rfl)).trans (f8 49 (of_decide_eq_true rfl))) hI47
        have I123 : jI50 σ100 := jI50_fr ((f102 52 (of_decide_eq_true rfl)).trans (f8 52 (of_decide_eq_true rfl))) hI50
        have I124 : jI102 σ100 := jI102_fr ((f103 6 (of_decide_eq_true rfl)).trans (congrFun (f8 55 (of_decide_eq_true rfl)) 6)) ((f102 60 (of_decide_eq_true rfl)).trans (f8 60 (of_decide_eq_true rfl))) ((f102 61 (of_decide_eq_true rfl)).trans (f8 61 (of_decide_eq_true rfl))) hI102
        have I125 : jI103 σ100 := jI103_fr ((f103 9 (of_decide_eq_true rfl)).trans (congrFun (f8 55 (of_decide_eq_true rfl)) 9)) hI103
        have I126 : jI104 σ100 := jI104_fr ((f103 10 (of_decide_eq_true rfl)).trans (congrFun (f8 55 (of_decide_eq_true rfl)) 10)) ((f103 12 (of_decide_eq_true rfl)).trans (congrFun (f8 55 (of_decide_eq_true rfl)) 12)) ((f103 13 (of_decide_eq_true rfl)).trans (congrFun (f8 55 (of_decide_eq_true rfl)) 13)) ((f102 62 (of_decide_eq_true rfl)).trans (f8 62 (of_decide_eq_true rfl))) ((f102 67 (of_decide_eq_true rfl)).trans (f8 67 (of_decide_eq_true rfl))) hI104
        have I127 : jI105 σ100 := jI105_fr ((f103 15 (of_decide_eq_true rfl)).trans (congrFun (f8 55 (of_decide_eq_true rfl)) 15)) ((f102 65 (of_decide_eq_true rfl)).trans (f8 65 (of_decide_eq_true rfl))) hI105
        have I128 : jI106 σ100 := jI106_fr ((f103 32 (of_decide_eq_true rfl)).trans (congrFun (f8 55 (of_decide_eq_true rfl)) 32)) ((f102 70 (of_decide_eq_true rfl)).trans (f8 70 (of_decide_eq_true rfl))) ((f102 71 (of_decide_eq_true rfl)).trans (f8 71 (of_decide_eq_true rfl))) ((f102 72 (of_decide_eq_true rfl)).trans (f8 72 (of_decide_eq_true rfl))) hI106
        have I129 : jI107 σ100 := jI107_fr ((f103 12 (of_decide_eq_true rfl)).trans (congrFun (f8 55 (of_decide_eq_true rfl)) 12)) ((f103 47 (of_decide_eq_true rfl)).trans (congrFun (f8 55 (of_decide_eq_true rfl)) 47)) ((f102 80 (of_decide_eq_true rfl)).trans (f8 80 (of_decide_eq_true rfl))) hI107
        have I130 : jI109 σ100 := jI109_fr ((f103 50 (of_decide_eq_true rfl)).trans (congrFun (f8 55 (of_decide_eq_true rfl)) 50)) hI109
        have I131 : jI110 σ100 := jI110_fr ((f102 86 (of_decide_eq_true rfl)).trans (f8 86 (of_decide_eq_true rfl))) ((f102 87 (of_decide_eq_true rfl)).trans (f8 87 (of_decide_eq_true rfl))) hI110
        have I132 : jI111 σ100 := jI111_fr ((f102 79 (of_decide_eq_true rfl)).trans (f8 79 (of_decide_eq_true rfl))) hI111
        have I133 : jI119 σ100 := jI119_fr ((f102 68 (of_decide_eq_true rfl)).trans (f8 68 (of_decide_eq_true rfl))) hI119
        have p134 : jKept σ100 := jKept.fr ((f102 75 (of_decide_eq_true rfl)).trans (f8 75 (of_decide_eq_true rfl))) ((f102 76 (of_decide_eq_true rfl)).trans (f8 76 (of_decide_eq_true rfl))) ((f102 77 (of_decide_eq_true rfl)).trans (f8 77 (of_decide_eq_true rfl))) hs_jKept
        have p135 : jBook σ100 := jBook.fr ((f103 47 (of_decide_eq_true rfl)).trans (congrFun (f8 55 (of_decide_eq_true rfl)) 47)) ((f103 10 (of_decide_eq_true rfl)).trans (congrFun (f8 55 (of_decide_eq_true rfl)) 10)) ((f102 81 (of_decide_eq_true rfl)).trans (f8 81 (of_decide_eq_true rfl))) hs_jBook
        have z136 : (σ100 9 0).toInt = (σ 9 0).toInt := (congrArg Int32.toInt (show σ100 9 0 = (σ 9 0) from ((congrFun (f102 9 (of_decide_eq_true rfl)) 0).trans (congrFun (f8 9 (of_decide_eq_true rfl)) 0))))
        have z137 : (σ100 55 15).toInt = (σ 55 15).toInt := (congrArg Int32.toInt (show σ100 55 15 = (σ 55 15) from ((f103 15 (of_decide_eq_true rfl)).trans (congrFun (f8 55 (of_decide_eq_true rfl)) 15))))
        exact by exact ih x112 σ100 τ _ _ ls (by have h9 := tx112; omega) ⟨I113, I114, I115, I116, I117, I118, I119, I120, I121, I122, I123, I104, I124, I125, I126, I127, I128, I129, I130, I131, I132, I133, p134, p135, (by omega), (show jTp (σ100 10) (σ100 63) (σ100 55 15).toInt by rw [show σ100 10 = σ 10 from ((f102 10 (of_decide_eq_true rfl)).trans (f8 10 (of_decide_eq_true rfl))), show σ100 63 = σ 63 from ((f102 63 (of_decide_eq_true rfl)).trans (f8 63 (of_decide_eq_true rfl)))]; exact hr0.le (by omega))⟩ hP hS (lv_sub hl [0, 1, 2, 3] rfl)
    · obtain ⟨q143, k138, k139, k140, k141, k142⟩ := h107
      refine lv_pop hx hb dL_law_973 rfl ?_
      refine lv_goto (tgt := 1357) hx hb dL_law_974 (of_decide_eq_true rfl) ?_
      obtain ⟨x144, ex144⟩ : ∃ y : Int32, y = x0 + 6 := ⟨_, rfl⟩
      exact by
       have tx144 : x144.toInt = x0.toInt + 6 := (jadd ex144 rfl jz_6 (by omega) (by omega)).trans (by omega)
       refine lv_iinc (v := x144) (lv' := [(3, .int x144), (2, .ref (ad 55)), (1, .ref (ad 0)), (0, .ref b)]) hx hb dL_law_1357 hl (k := 0) rfl (by rw [ex144]; rfl) (of_decide_eq_true rfl) rfl (fun ls hl => ?_)
       refine lv_goto (tgt := 18) hx hb dL_law_1360 (of_decide_eq_true rfl) ?_
       have I145 : jI2 σ100 := jI2_fr (congrFun (f102 2 (of_decide_eq_true rfl)) 0) (congrFun (f102 2 (of_decide_eq_true rfl)) 1) (congrFun (f102 2 (of_decide_eq_true rfl)) 2) (congrFun (f102 2 (of_decide_eq_true rfl)) 3) (f102 6 (of_decide_eq_true rfl)) I10
       have I146 : jI9 σ100 := jI9_fr ((congrFun (f102 9 (of_decide_eq_true rfl)) 0).trans (congrFun (f8 9 (of_decide_eq_true rfl)) 0)) ((f102 10 (of_decide_eq_true rfl)).trans (f8 10 (of_decide_eq_true rfl))) ((f102 11 (of_decide_eq_true rfl)).trans (f8 11 (of_decide_eq_true rfl))) hI9
       have I147 : jI12 σ100 := jI12_fr ((congrFun (f102 12 (of_decide_eq_true rfl)) 0).trans (congrFun (f8 12 (of_decide_eq_true rfl)) 0)) ((f102 13 (of_decide_eq_true rfl)).trans (f8 13 (of_decide_eq_true rfl))) hI12
       have I148 : jI16 σ100 := jI16_fr ((congrFun (f102 16 (of_decide_eq_true rfl)) 0).trans (congrFun (f8 16 (of_decide_eq_true rfl)) 0)) ((congrFun (f102 16 (of_decide_eq_true rfl)) 1).trans (congrFun (f8 16 (of_decide_eq_true rfl)) 1)) ((congrFun (f102 16 (of_decide_eq_true rfl)) 2).trans (congrFun (f8 16 (of_decide_eq_true rfl)) 2)) ((f102 17 (of_decide_eq_true rfl)).trans (f8 17 (of_decide_eq_true rfl))) hI16
       have I149 : jI18 σ100 := jI18_fr ((congrFun (f102 18 (of_decide_eq_true rfl)) 0).trans (congrFun (f8 18 (of_decide_eq_true rfl)) 0)) ((f102 19 (of_decide_eq_true rfl)).trans (f8 19 (of_decide_eq_true rfl))) hI18
       have I150 : jI22 σ100 := jI22_fr ((congrFun (f102 22 (of_decide_eq_true rfl)) 0).trans (congrFun (f8 22 (of_decide_eq_true rfl)) 0)) ((f102 23 (of_decide_eq_true rfl)).trans (f8 23 (of_decide_eq_true rfl))) hI22
       exact by
        have I151 : jI31 σ100 := jI31_fr ((congrFun (f102 31 (of_decide_eq_true rfl)) 8).trans (congrFun (f8 31 (of_decide_eq_true rfl)) 8)) ((f102 33 (of_decide_eq_true rfl)).trans (f8 33 (of_decide_eq_true rfl))) ((f102 36 (of_decide_eq_true rfl)).trans (f8 36 (of_decide_eq_true rfl))) hI31
        have I152 : jI38 σ100 := jI38_fr ((congrFun (f102 38 (of_decide_eq_true rfl)) 0).trans (congrFun (f8 38 (of_decide_eq_true rfl)) 0)) ((congrFun (f102 38 (of_decide_eq_true rfl)) 1).trans (congrFun (f8 38 (of_decide_eq_true rfl)) 1)) ((f102 39 (of_decide_eq_true rfl)).trans (f8 39 (of_decide_eq_true rfl))) hI38
        have I153 : jI43 σ100 := jI43_fr ((congrFun (f102 43 (of_decide_eq_true rfl)) 8).trans (congrFun (f8 43 (of_decide_eq_true rfl)) 8)) hI43
        have I154 : jI47 σ100 := jI47_fr ((congrFun (f102 47 (of_decide_eq_true rfl)) 0).trans (congrFun (f8 47 (of_decide_eq_true rfl)) 0)) ((f102 48 (of_decide_eq_true rfl)).trans (f8 48 (of_decide_eq_true rfl))) ((f102 49 (of_decide_eq_true rfl)).trans (f8 49 (of_decide_eq_true rfl))) hI47
        have I155 : jI50 σ100 := jI50_fr ((f102 52 (of_decide_eq_true rfl)).trans (f8 52 (of_decide_eq_true rfl))) hI50
        have I156 : jI102 σ100 := jI102_fr ((f103 6 (of_decide_eq_true rfl)).trans (congrFun (f8 55 (of_decide_eq_true rfl)) 6)) ((f102 60 (of_decide_eq_true rfl)).trans (f8 60 (of_decide_eq_true rfl))) ((f102 61 (of_decide_eq_true rfl)).trans (f8 61 (of_decide_eq_true rfl))) hI102
        have I157 : jI103 σ100 := jI103_fr ((f103 9 (of_decide_eq_true rfl)).trans (congrFun (f8 55 (of_decide_eq_true rfl)) 9)) hI103
        have I158 : jI104 σ100 := jI104_fr ((f103 10 (of_decide_eq_true rfl)).trans (congrFun (f8 55 (of_decide_eq_true rfl)) 10)) ((f103 12 (of_decide_eq_true rfl)).trans (congrFun (f8 55 (of_decide_eq_true rfl)) 12)) ((f103 13 (of_decide_eq_true rfl)).trans (congrFun (f8 55 (of_decide_eq_true rfl)) 13)) ((f102 62 (of_decide_eq_true rfl)).trans (f8 62 (of_decide_eq_true rfl))) ((f102 67 (of_decide_eq_true rfl)).trans (f8 67 (of_decide_eq_true rfl))) hI104
        have I159 : jI105 σ100 := jI105_fr ((f103 15 (of_decide_eq_true rfl)).trans (congrFun (f8 55 (of_decide_eq_true rfl)) 15)) ((f102 65 (of_decide_eq_true rfl)).trans (f8 65 (of_decide_eq_true rfl))) hI105
        have I160 : jI106 σ100 := jI106_fr ((f103 32 (of_decide_eq_true rfl)).trans (congrFun (f8 55 (of_decide_eq_true rfl)) 32)) ((f102 70 (of_decide_eq_true rfl)).trans (f8 70 (of_decide_eq_true rfl))) ((f102 71 (of_decide_eq_true rfl)).trans (f8 71 (of_decide_eq_true rfl))) ((f102 72 (of_decide_eq_true rfl)).trans (f8 72 (of_decide_eq_true rfl))) hI106
        have I161 : jI107 σ100 := jI107_fr ((f103 12 (of_decide_eq_true rfl)).trans (congrFun (f8 55 (of_decide_eq_true rfl)) 12)) ((f103 47 (of_decide_eq_true rfl)).trans (congrFun (f8 55 (of_decide_eq_true rfl)) 47)) ((f102 80 (of_decide_eq_true rfl)).trans (f8 80 (of_decide_eq_true rfl))) hI107
        have I162 : jI109 σ100 := jI109_fr ((f103 50 (of_decide_eq_true rfl)).trans (congrFun (f8 55 (of_decide_eq_true rfl)) 50)) hI109
        have I163 : jI110 σ100 := jI110_fr ((f102 86 (of_decide_eq_true rfl)).trans (f8 86 (of_decide_eq_true rfl))) ((f102 87 (of_decide_eq_true rfl)).trans (f8 87 (of_decide_eq_true rfl))) hI110
        have I164 : jI111 σ100 := jI111_fr ((f102 79 (of_decide_eq_true rfl)).trans (f8 79 (of_decide_eq_true rfl))) hI111
        have I165 : jI119 σ100 := jI119_fr ((f102 68 (of_decide_eq_true rfl)).trans (f8 68 (of_decide_eq_true rfl))) hI119
        have p166 : jKept σ100 := jKept.fr ((f102 75 (of_decide_eq_true rfl)).trans (f8 75 (of_decide_eq_true rfl))) ((f102 76 (of_decide_eq_true rfl)).trans (f8 76 (of_decide_eq_true rfl))) ((f102 77 (of_decide_eq_true rfl)).trans (f8 77 (of_decide_eq_true rfl))) hs_jKept
        have p167 : jBook σ100 := jBook.fr ((f103 47 (of_decide_eq_true rfl)).trans (congrFun (f8 55 (of_decide_eq_true rfl)) 47)) ((f103 10 (of_decide_eq_true rfl)).trans (congrFun (f8 55 (of_decide_eq_true rfl)) 10)) ((f102 81 (of_decide_eq_true rfl)).trans (f8 81 (of_decide_eq_true rfl))) hs_jBook
        have z168 : (σ100 9 0).toInt = (σ 9 0).toInt := (congrArg Int32.toInt (show σ100 9 0 = (σ 9 0) from ((congrFun (f102 9 (of_decide_eq_true rfl)) 0).trans (congrFun (f8 9 (of_decide_eq_true rfl)) 0))))
        have z169 : (σ100 55 15).toInt = (σ 55 15).toInt := (congrArg Int32.toInt (show σ100 55 15 = (σ 55 15) from ((f103 15 (of_decide_eq_true rfl)).trans (congrFun (f8 55 (of_decide_eq_true rfl)) 15))))
        exact by exact ih x144 σ100 τ _ _ ls (by have h9 := tx144; omega) ⟨I145, I146, I147, I148, I149, I150, I151, I152, I153, I154, I155, I104, I156, I157, I158, I159, I160, I161, I162, I163, I164, I165, p166, p167, (by omega), (show jTp (σ100 10) (σ100 63) (σ100 55 15).toInt by rw [show σ100 10 = σ 10 from ((f102 10 (of_decide_eq_true rfl)).trans (f8 10 (of_decide_eq_true rfl))), show σ100 63 = σ 63 from ((f102 63 (of_decide_eq_true rfl)).trans (f8 63 (of_decide_eq_true rfl)))]; exact hr0.le (by omega))⟩ hP hS (lv_sub hl [0, 1, 2, 3] rfl)
set_option maxHeartbeats 4000000 in
set_option maxRecDepth 100000 in
theorem law_case_27 {p : Program} {e : Env} {s : State} {m : MethodId} {below : List Frame} {meth : Method} {c : Code} (l : Launch) {b L : Nat} {xs : Nat → Int32} {D : va_G} {cI cL : ClassId} {ad zz : Nat → Nat} (C0 : lw_At p s m meth c b L xs) (hJ : jD ad) (hA : ∀ q, jA ad q → s.heap.size ≤ q) (hK : jK D cI cL s) (hZ : jZ zz (fun q : Nat => s.heap.size ≤ q) s s.heap) {x0 : Int32} (hx0 : 0 ≤ x0.toInt) (hxL : x0.toInt + 6 ≤ (L : Int)) (hL : L ≤ 384) {σ : Nat → Nat → Int32} {τ : Nat → Nat → Int64} {H : Heap} {locs : List Loc} (hS : va_S (fun q : Nat => s.heap.size ≤ q) s.heap H locs) {ls : Array Slot} (hAll : jAll σ τ) (hP : jH D cI cL ad σ τ H) (hl : lv_has ls 4 [(3, .int x0), (2, .ref (ad 55)), (1, .ref (ad 0)), (0, .ref b)]) (ih : ∀ (x1 : Int32) (σ : Nat → Nat → Int32) (τ : Nat → Nat → Int64) (H : Heap) (locs : List Loc) (ls : Array Slot), x1.toInt = x0.toInt + 6 → jAll σ τ → jH D cI cL ad σ τ H → va_S (fun q : Nat => s.heap.size ≤ q) s.heap H locs → lv_has ls 4 [(3, .int x1), (2, .ref (ad 55)), (1, .ref (ad 0)), (0, .ref b)] → W p l e room_1 s m #[Value.ref b] below meth c H locs 90 348600 (lw_Z below #[Value.ref b] s) (F0 m 18 ls [])) : W p l e room_1 s m #[Value.ref b] below meth c H locs 90 348600 (lw_Z below #[Value.ref b] s) (F0 m 977 ls []) := by
  obtain ⟨hx, hb, hr, hml, hown, hts0, hX, hbl, hlocks, hgv⟩ := C0
  have hts : ∀ w ∈ wsL_law, w.before #[Value.ref b] s = true := fun w h => hts0 w (wsL_law_in w h)
  have hbA : ¬ (fun q : Nat => s.heap.size ≤ q) b := Nat.not_le.mpr hbl
  have hown : s.vm.findClass RL = some m.cls := hown
  obtain ⟨hI2, hI9, hI12, hI16, hI18, hI22, hI31, hI38, hI43, hI47, hI50, hI101, hI102, hI103, hI104, hI105, hI106, hI107, hI109, hI110, hI111, hI119, hs_jKept, hs_jBook, ht0, hr0⟩ := hAll
  have hL9 : (L : Int) ≤ 384 := by omega
  obtain ⟨i1, w2, w3⟩ : (0 ≤ (σ 9 0).toInt ∧ (σ 9 0).toInt ≤ 80) ∧ (∀ k : Nat, k < 80 → 0 ≤ (σ 10 k).toInt ∧ (σ 10 k).toInt ≤ 255) ∧ (∀ k : Nat, k < 8 → 0 ≤ (σ 11 k).toInt ∧ (σ 11 k).toInt ≤ 3) := id hI9
  obtain ⟨i4, w5⟩ : (0 ≤ (σ 55 15).toInt ∧ (σ 55 15).toInt ≤ 80) ∧ (∀ k : Nat, k < 2 → (-1) ≤ (σ 65 k).toInt ∧ (σ 65 k).toInt ≤ 80) := id hI105
  refine lv_aload_n hx hb dL_law_977 rfl (lv_at hl 2 rfl) ?_
  refine jcallV (As := []) (rest := []) ⟨hx, hb, hml, hown, hts⟩ hK hP hA hS hZ (c_X11_redo l D cI cL ad zz hJ σ τ hI2) cw_RL_125 (jc_0 cI cL ad σ τ) rfl ⟨Nat.le_of_ble_eq_true rfl, Nat.le_of_ble_eq_true rfl⟩ rfl rfl rfl hl.1 rfl (Nat.le_of_ble_eq_true rfl) dL_law_978 ⟨Nat.le_of_ble_eq_true rfl, Nat.le_of_ble_eq_true rfl⟩ (fun r7 σ6 τ6 H locs h6 hP hS => ?_)
  obtain ⟨rfl, f8, f9, I10, h6⟩ := h6
  rcases h6 with h12 | h13
  · obtain ⟨q18, k14, k15, k16, k17⟩ := h12
    have q18 := q18.symm
    subst q18
    refine lv_pop hx hb dL_law_981 rfl ?_
    refine lv_aload_n hx hb dL_law_982 rfl (lv_at hl 1 rfl) ?_
    have I19 : jI101 σ6 := jI101_fr (congrFun (f8 55 (of_decide_eq_true rfl)) 4) (congrFun (f8 55 (of_decide_eq_true rfl)) 5) (f8 56 (of_decide_eq_true rfl)) (f8 57 (of_decide_eq_true rfl)) (f8 58 (of_decide_eq_true rfl)) (f8 59 (of_decide_eq_true rfl)) hI101
    have z20 : (σ6 55 5).toInt = (σ 55 5).toInt := (congrArg Int32.toInt (show σ6 55 5 = (σ 55 5) from (congrFun (f8 55 (of_decide_eq_true rfl)) 5)))
    have z21 : (σ6 55 4).toInt = (σ 55 4).toInt := (congrArg Int32.toInt (show σ6 55 4 = (σ 55 4) from (congrFun (f8 55 (of_decide_eq_true rfl)) 4)))
    refine jcallV (As := []) (rest := []) ⟨hx, hb, hml, hown, hts⟩ hK hP hA hS hZ (c_X12_redo l D cI cL ad zz hJ σ6 τ I19) cw_RL_128 (jc_55 cI cL ad σ6 τ) rfl ⟨Nat.le_of_ble_eq_true rfl, Nat.le_of_ble_eq_true rfl⟩ rfl rfl rfl hl.1 rfl (Nat.le_of_ble_eq_true rfl) dL_law_983 ⟨Nat.le_of_ble_eq_true rfl, Nat.le_of_ble_eq_true rfl⟩ (fun r23 σ22 τ22 H locs h22 hP hS => ?_)
    obtain ⟨rfl, f24, f25, I26, h22⟩ := h22
    rcases h22 with h28 | h29
    · obtain ⟨q33, k30, k31, k32⟩ := h28
      have q33 := q33.symm
      subst q33
      refine lv_pop hx hb dL_law_986 rfl ?_
      refine lv_goto (tgt := 1357) hx hb dL_law_987 (of_decide_eq_true rfl) ?_
      obtain ⟨x34, ex34⟩ : ∃ y : Int32, y = x0 + 6 := ⟨_, rfl⟩
      exact by
       have tx34 : x34.toInt = x0.toInt + 6 := (jadd ex34 rfl jz_6 (by omega) (by omega)).trans (by omega)
       refine lv_iinc (v := x34) (lv' := [(3, .int x34), (2, .ref (ad 55)), (1, .ref (ad 0)), (0, .ref b)]) hx hb dL_law_1357 hl (k := 0) rfl (by rw [ex34]; rfl) (of_decide_eq_true rfl) rfl (fun ls hl => ?_)
       refine lv_goto (tgt := 18) hx hb dL_law_1360 (of_decide_eq_true rfl) ?_
       have I35 : jI2 σ22 := jI2_fr (congrFun (f24 2 (of_decide_eq_true rfl)) 0) (congrFun (f24 2 (of_decide_eq_true rfl)) 1) (congrFun (f24 2 (of_decide_eq_true rfl)) 2) (congrFun (f24 2 (of_decide_eq_true rfl)) 3) (f24 6 (of_decide_eq_true rfl)) I10
       have I36 : jI9 σ22 := jI9_fr ((congrFun (f24 9 (of_decide_eq_true rfl)) 0).trans (congrFun (f8 9 (of_decide_eq_true rfl)) 0)) ((f24 10 (of_decide_eq_true rfl)).trans (f8 10 (of_decide_eq_true rfl))) ((f24 11 (of_decide_eq_true rfl)).trans (f8 11 (of_decide_eq_true rfl))) hI9
       have I37 : jI12 σ22 := jI12_fr ((congrFun (f24 12 (of_decide_eq_true rfl)) 0).trans (congrFun (f8 12 (of_decide_eq_true rfl)) 0)) ((f24 13 (of_decide_eq_true rfl)).trans (f8 13 (of_decide_eq_true rfl))) hI12
       have I38 : jI16 σ22 := jI16_fr ((congrFun (f24 16 (of_decide_eq_true rfl)) 0).trans (congrFun (f8 16 (of_decide_eq_true rfl)) 0)) ((congrFun (f24 16 (of_decide_eq_true rfl)) 1).trans (congrFun (f8 16 (of_decide_eq_true rfl)) 1)) ((congrFun (f24 16 (of_decide_eq_true rfl)) 2).trans (congrFun (f8 16 (of_decide_eq_true rfl)) 2)) ((f24 17 (of_decide_eq_true rfl)).trans (f8 17 (of_decide_eq_true rfl))) hI16
       have I39 : jI18 σ22 := jI18_fr ((congrFun (f24 18 (of_decide_eq_true rfl)) 0).trans (congrFun (f8 18 (of_decide_eq_true rfl)) 0)) ((f24 19 (of_decide_eq_true rfl)).trans (f8 19 (of_decide_eq_true rfl))) hI18
       have I40 : jI22 σ22 := jI22_fr ((congrFun (f24 22 (of_decide_eq_true rfl)) 0).trans (congrFun (f8 22 (of_decide_eq_true rfl)) 0)) ((f24 23 (of_decide_eq_true rfl)).trans (f8 23 (of_decide_eq_true rfl))) hI22
       exact by
        have I41 : jI31 σ22 := jI31_fr ((congrFun (f24 31 (of_decide_eq_true rfl)) 8).trans (congrFun (f8 31 (of_decide_eq_true rfl)) 8)) ((f24 33 (of_decide_eq_true rfl)).trans (f8 33 (of_decide_eq_true rfl))) ((f24 36 (of_decide_eq_true rfl)).trans (f8 36 (of_decide_eq_true rfl))) hI31
        have I42 : jI38 σ22 := jI38_fr ((congrFun (f24 38 (of_decide_eq_true rfl)) 0).trans (congrFun (f8 38 (of_decide_eq_true rfl)) 0)) ((congrFun (f24 38 (of_decide_eq_true rfl)) 1).trans (congrFun (f8 38 (of_decide_eq_true rfl)) 1)) ((f24 39 (of_decide_eq_true rfl)).trans (f8 39 (of_decide_eq_true rfl))) hI38
        have I43 : jI43 σ22 := jI43_fr ((congrFun (f24 43 (of_decide_eq_true rfl)) 8).trans (congrFun (f8 43 (of_decide_eq_true rfl)) 8)) hI43
        have I44 : jI47 σ22 := jI47_fr ((congrFun (f24 47 (of_decide_eq_true rfl)) 0).trans (congrFun (f8 47 (of_decide_eq_true rfl)) 0)) ((f24 48 (of_decide_eq_true rfl)).trans (f8 48 (of_decide_eq_true rfl))) ((f24 49 (of_decide_eq_true rfl)).trans (f8 49 (of_decide_eq_true rfl))) hI47
        have I45 : jI50 σ22 := jI50_fr ((f24 52 (of_decide_eq_true rfl)).trans (f8 52 (of_decide_eq_true rfl))) hI50
        have I46 : jI102 σ22 := jI102_fr ((f25 6 (of_decide_eq_true rfl)).trans (congrFun (f8 55 (of_decide_eq_true rfl)) 6)) ((f24 60 (of_decide_eq_true rfl)).trans (f8 60 (of_decide_eq_true rfl))) ((f24 61 (of_decide_eq_true rfl)).trans (f8 61 (of_decide_eq_true rfl))) hI102
        have I47 : jI103 σ22 := jI103_fr ((f25 9 (of_decide_eq_true rfl)).trans (congrFun (f8 55 (of_decide_eq_true rfl)) 9)) hI103
        have I48 : jI104 σ22 := jI104_fr ((f25 10 (of_decide_eq_true rfl)).trans (congrFun (f8 55 (of_decide_eq_true rfl)) 10)) ((f25 12 (of_decide_eq_true rfl)).trans (congrFun (f8 55 (of_decide_eq_true rfl)) 12)) ((f25 13 (of_decide_eq_true rfl)).trans (congrFun (f8 55 (of_decide_eq_true rfl)) 13)) ((f24 62 (of_decide_eq_true rfl)).trans (f8 62 (of_decide_eq_true rfl))) ((f24 67 (of_decide_eq_true rfl)).trans (f8 67 (of_decide_eq_true rfl))) hI104
        have I49 : jI105 σ22 := jI105_fr ((f25 15 (of_decide_eq_true rfl)).trans (congrFun (f8 55 (of_decide_eq_true rfl)) 15)) ((f24 65 (of_decide_eq_true rfl)).trans (f8 65 (of_decide_eq_true rfl))) hI105
        have I50 : jI106 σ22 := jI106_fr ((f25 32 (of_decide_eq_true rfl)).trans (congrFun (f8 55 (of_decide_eq_true rfl)) 32)) ((f24 70 (of_decide_eq_true rfl)).trans (f8 70 (of_decide_eq_true rfl))) ((f24 71 (of_decide_eq_true rfl)).trans (f8 71 (of_decide_eq_true rfl))) ((f24 72 (of_decide_eq_true rfl)).trans (f8 72 (of_decide_eq_true rfl))) hI106
        have I51 : jI107 σ22 := jI107_fr ((f25 12 (of_decide_eq_true rfl)).trans (congrFun (f8 55 (of_decide_eq_true rfl)) 12)) ((f25 47 (of_decide_eq_true rfl)).trans (congrFun (f8 55 (of_decide_eq_true rfl)) 47)) ((f24 80 (of_decide_eq_true rfl)).trans (f8 80 (of_decide_eq_true rfl))) hI107
        have I52 : jI109 σ22 := jI109_fr ((f25 50 (of_decide_eq_true rfl)).trans (congrFun (f8 55 (of_decide_eq_true rfl)) 50)) hI109
        have I53 : jI110 σ22 := jI110_fr ((f24 86 (of_decide_eq_true rfl)).trans (f8 86 (of_decide_eq_true rfl))) ((f24 87 (of_decide_eq_true rfl)).trans (f8 87 (of_decide_eq_true rfl))) hI110
        have I54 : jI111 σ22 := jI111_fr ((f24 79 (of_decide_eq_true rfl)).trans (f8 79 (of_decide_eq_true rfl))) hI111
        have I55 : jI119 σ22 := jI119_fr ((f24 68 (of_decide_eq_true rfl)).trans (f8 68 (of_decide_eq_true rfl))) hI119
        have p56 : jKept σ22 := jKept.fr ((f24 75 (of_decide_eq_true rfl)).trans (f8 75 (of_decide_eq_true rfl))) ((f24 76 (of_decide_eq_true rfl)).trans (f8 76 (of_decide_eq_true rfl))) ((f24 77 (of_decide_eq_true rfl)).trans (f8 77 (of_decide_eq_true rfl))) hs_jKept
        have p57 : jBook σ22 := jBook.fr ((f25 47 (of_decide_eq_true rfl)).trans (congrFun (f8 55 (of_decide_eq_true rfl)) 47)) ((f25 10 (of_decide_eq_true rfl)).trans (congrFun (f8 55 (of_decide_eq_true rfl)) 10)) ((f24 81 (of_decide_eq_true rfl)).trans (f8 81 (of_decide_eq_true rfl))) hs_jBook
        have z58 : (σ22 9 0).toInt = (σ 9 0).toInt := (congrArg Int32.toInt (show σ22 9 0 = (σ 9 0) from ((congrFun (f24 9 (of_decide_eq_true rfl)) 0).trans (congrFun (f8 9 (of_decide_eq_true rfl)) 0))))
        have z59 : (σ22 55 15).toInt = (σ 55 15).toInt := (congrArg Int32.toInt (show σ22 55 15 = (σ 55 15) from ((f25 15 (of_decide_eq_true rfl)).trans (congrFun (f8 55 (of_decide_eq_true rfl)) 15))))
        exact by exact ih x34 σ22 τ _ _ ls (by have h9 := tx34; omega) ⟨I35, I36, I37, I38, I39, I40, I41, I42, I43, I44, I45, I26, I46, I47, I48, I49, I50, I51, I52, I53, I54, I55, p56, p57, (by omega), (show jTp (σ22 10) (σ22 63) (σ22 55 15).toInt by rw [show σ22 10 = σ 10 from ((f24 10 (of_decide_eq_true rfl)).trans (f8 10 (of_decide_eq_true rfl))), show σ22 63 = σ 63 from ((f24 63 (of_decide_eq_true rfl)).trans (f8 63 (of_decide_eq_true rfl)))]; exact hr0.le (by omega))⟩ hP hS (lv_sub hl [0, 1, 2, 3] rfl)
    · obtain ⟨q65, k60, k61, k62, k63, k64⟩ := h29
      refine lv_pop hx hb dL_law_986 rfl ?_
      refine lv_goto (tgt := 1357) hx hb dL_law_987 (of_decide_eq_true rfl) ?_
      obtain ⟨x66, ex66⟩ : ∃ y : Int32, y = x0 + 6 := ⟨_, rfl⟩
      exact by
       have tx66 : x66.toInt = x0.toInt + 6 := (jadd ex66 rfl jz_6 (by omega) (by omega)).trans (by omega)
       refine lv_iinc (v := x66) (lv' := [(3, .int x66), (2, .ref (ad 55)), (1, .ref (ad 0)), (0, .ref b)]) hx hb dL_law_1357 hl (k := 0) rfl (by rw [ex66]; rfl) (of_decide_eq_true rfl) rfl (fun ls hl => ?_)
       refine lv_goto (tgt := 18) hx hb dL_law_1360 (of_decide_eq_true rfl) ?_
       have I67 : jI2 σ22 := jI2_fr (congrFun (f24 2 (of_decide_eq_true rfl)) 0) (congrFun (f24 2 (of_decide_eq_true rfl)) 1) (congrFun (f24 2 (of_decide_eq_true rfl)) 2) (congrFun (f24 2 (of_decide_eq_true rfl)) 3) (f24 6 (of_decide_eq_true rfl)) I10
       have I68 : jI9 σ22 := jI9_fr ((congrFun (f24 9 (of_decide_eq_true rfl)) 0).trans (congrFun (f8 9 (of_decide_eq_true rfl)) 0)) ((f24 10 (of_decide_eq_true rfl)).trans (f8 10 (of_decide_eq_true rfl))) ((f24 11 (of_decide_eq_true rfl)).trans (f8 11 (of_decide_eq_true rfl))) hI9
       have I69 : jI12 σ22 := jI12_fr ((congrFun (f24 12 (of_decide_eq_true rfl)) 0).trans (congrFun (f8 12 (of_decide_eq_true rfl)) 0)) ((f24 13 (of_decide_eq_true rfl)).trans (f8 13 (of_decide_eq_true rfl))) hI12
       have I70 : jI16 σ22 := jI16_fr ((congrFun (f24 16 (of_decide_eq_true rfl)) 0).trans (congrFun (f8 16 (of_decide_eq_true rfl)) 0)) ((congrFun (f24 16 (of_decide_eq_true rfl)) 1).trans (congrFun (f8 16 (of_decide_eq_true rfl)) 1)) ((congrFun (f24 16 (of_decide_eq_true rfl)) 2).trans (congrFun (f8 16 (of_decide_eq_true rfl)) 2)) ((f24 17 (of_decide_eq_true rfl)).trans (f8 17 (of_decide_eq_true rfl))) hI16
       have I71 : jI18 σ22 := jI18_fr ((congrFun (f24 18 (of_decide_eq_true rfl)) 0).trans (congrFun (f8 18 (of_decide_eq_true rfl)) 0)) ((f24 19 (of_decide_eq_true rfl)).trans (f8 19 (of_decide_eq_true rfl))) hI18
       have I72 : jI22 σ22 := jI22_fr ((congrFun (f24 22 (of_decide_eq_true rfl)) 0).trans (congrFun (f8 22 (of_decide_eq_true rfl)) 0)) ((f24 23 (of_decide_eq_true rfl)).trans (f8 23 (of_decide_eq_true rfl))) hI22
       exact by
        have I73 : jI31 σ22 := jI31_fr ((congrFun (f24 31 (of_decide_eq_true rfl)) 8).trans (congrFun (f8 31 (of_decide_eq_true rfl)) 8)) ((f24 33 (of_decide_eq_true rfl)).trans (f8 33 (of_decide_eq_true rfl))) ((f24 36 (of_decide_eq_true rfl)).trans (f8 36 (of_decide_eq_true rfl))) hI31
        have I74 : jI38 σ22 := jI38_fr ((congrFun (f24 38 (of_decide_eq_true rfl)) 0).trans (congrFun (f8 38 (of_decide_eq_true rfl)) 0)) ((congrFun (f24 38 (of_decide_eq_true rfl)) 1).trans (congrFun (f8 38 (of_decide_eq_true rfl)) 1)) ((f24 39 (of_decide_eq_true rfl)).trans (f8 39 (of_decide_eq_true rfl))) hI38
        have I75 : jI43 σ22 := jI43_fr ((congrFun (f24 43 (of_decide_eq_true rfl)) 8).trans (congrFun (f8 43 (of_decide_eq_true rfl)) 8)) hI43
        have I76 : jI47 σ22 := jI47_fr ((congrFun (f24 47 (of_decide_eq_true rfl)) 0).trans (congrFun (f8 47 (of_decide_eq_true rfl)) 0)) ((f24 48 (of_decide_eq_true rfl)).trans (f8 48 (of_decide_eq_true rfl))) ((f24 49 (of_decide_eq_true rfl)).trans (f8 49 (of_decide_eq_true rfl))) hI47
        have I77 : jI50 σ22 := jI50_fr ((f24 52 (of_decide_eq_true rfl)).trans (f8 52 (of_decide_eq_true rfl))) hI50
        have I78 : jI102 σ22 := jI102_fr ((f25 6 (of_decide_eq_true rfl)).trans (congrFun (f8 55 (of_decide_eq_true rfl)) 6)) ((f24 60 (of_decide_eq_true rfl)).trans (f8 60 (of_decide_eq_true rfl))) ((f24 61 (of_decide_eq_true rfl)).trans (f8 61 (of_decide_eq_true rfl))) hI102
        have I79 : jI103 σ22 := jI103_fr ((f25 9 (of_decide_eq_true rfl)).trans (congrFun (f8 55 (of_decide_eq_true rfl)) 9)) hI103
        have I80 : jI104 σ22 := jI104_fr ((f25 10 (of_decide_eq_true rfl)).trans (congrFun (f8 55 (of_decide_eq_true rfl)) 10)) ((f25 12 (of_decide_eq_true rfl)).trans (congrFun (f8 55 (of_decide_eq_true rfl)) 12)) ((f25 13 (of_decide_eq_true rfl)).trans (congrFun (f8 55 (of_decide_eq_true rfl)) 13)) ((f24 62 (of_decide_eq_true rfl)).trans (f8 62 (of_decide_eq_true rfl))) ((f24 67 (of_decide_eq_true rfl)).trans (f8 67 (of_decide_eq_true rfl))) hI104
        have I81 : jI105 σ22 := jI105_fr ((f25 15 (of_decide_eq_true rfl)).trans (congrFun (f8 55 (of_decide_eq_true rfl)) 15)) ((f24 65 (of_decide_eq_true rfl)).trans (f8 65 (of_decide_eq_true rfl))) hI105
        have I82 : jI106 σ22 := jI106_fr ((f25 32 (of_decide_eq_true rfl)).trans (congrFun (f8 55 (of_decide_eq_true rfl)) 32)) ((f24 70 (of_decide_eq_true rfl)).trans (f8 70 (of_decide_eq_true rfl))) ((f24 71 (of_decide_eq_true rfl)).trans (f8 71 (of_decide_eq_true rfl))) ((f24 72 (of_decide_eq_true rfl)).trans (f8 72 (of_decide_eq_true rfl))) hI106
        have I83 : jI107 σ22 := jI107_fr ((f25 12 (of_decide_eq_true rfl)).trans (congrFun (f8 55 (of_decide_eq_true rfl)) 12)) ((f25 47 (of_decide_eq_true rfl)).trans (congrFun (f8 55 (of_decide_eq_true rfl)) 47)) ((f24 80 (of_decide_eq_true rfl)).trans (f8 80 (of_decide_eq_true rfl))) hI107
        have I84 : jI109 σ22 := jI109_fr ((f25 50 (of_decide_eq_true rfl)).trans (congrFun (f8 55 (of_decide_eq_true rfl)) 50)) hI109
        have I85 : jI110 σ22 := jI110_fr ((f24 86 (of_decide_eq_true rfl)).trans (f8 86 (of_decide_eq_true rfl))) ((f24 87 (of_decide_eq_true rfl)).trans (f8 87 (of_decide_eq_true rfl))) hI110
        have I86 : jI111 σ22 := jI111_fr ((f24 79 (of_decide_eq_true rfl)).trans (f8 79 (of_decide_eq_true rfl))) hI111
        have I87 : jI119 σ22 := jI119_fr ((f24 68 (of_decide_eq_true rfl)).trans (f8 68 (of_decide_eq_true rfl))) hI119
        have p88 : jKept σ22 := jKept.fr ((f24 75 (of_decide_eq_true rfl)).trans (f8 75 (of_decide_eq_true rfl))) ((f24 76 (of_decide_eq_true rfl)).trans (f8 76 (of_decide_eq_true rfl))) ((f24 77 (of_decide_eq_true rfl)).trans (f8 77 (of_decide_eq_true rfl))) hs_jKept
        have p89 : jBook σ22 := jBook.fr ((f25 47 (of_decide_eq_true rfl)).trans (congrFun (f8 55 (of_decide_eq_true rfl)) 47)) ((f25 10 (of_decide_eq_true rfl)).trans (congrFun (f8 55 (of_decide_eq_true rfl)) 10)) ((f24 81 (of_decide_eq_true rfl)).trans (f8 81 (of_decide_eq_true rfl))) hs_jBook
        have z90 : (σ22 9 0).toInt = (σ 9 0).toInt := (congrArg Int32.toInt (show σ22 9 0 = (σ 9 0) from ((congrFun (f24 9 (of_decide_eq_true rfl)) 0).trans (congrFun (f8 9 (of_decide_eq_true rfl)) 0))))
        have z91 : (σ22 55 15).toInt = (σ 55 15).toInt := (congrArg Int32.toInt (show σ22 55 15 = (σ 55 15) from ((f25 15 (of_decide_eq_true rfl)).trans (congrFun (f8 55 (of_decide_eq_true rfl)) 15))))
        exact by exact ih x66 σ22 τ _ _ ls (by have h9 := tx66; omega) ⟨I67, I68, I69, I70, I71, I72, I73, I74, I75, I76, I77, I26, I78, I79, I80, I81, I82, I83, I84, I85, I86, I87, p88, p89, (by omega), (show jTp (σ22 10) (σ22 63) (σ22 55 15).toInt by rw [show σ22 10 = σ 10 from ((f24 10 (of_decide_eq_true rfl)).trans (f8 10 (of_decide_eq_true rfl))), show σ22 63 = σ 63 from ((f24 63 (of_decide_eq_true rfl)).trans (f8 63 (of_decide_eq_true rfl)))]; exact hr0.le (by omega))⟩ hP hS (lv_sub hl [0, 1, 2, 3] rfl)
  · obtain ⟨q98, k92, k93, k94, k95, k96, k97⟩ := h13
    refine lv_pop hx hb dL_law_981 rfl ?_
    refine lv_aload_n hx hb dL_law_982 rfl (lv_at hl 1 rfl) ?_
    have I99 : jI101 σ6 := jI101_fr (congrFun (f8 55 (of_decide_eq_true rfl)) 4) (congrFun (f8 55 (of_decide_eq_true rfl)) 5) (f8 56 (of_decide_eq_true rfl)) (f8 57 (of_decide_eq_true rfl)) (f8 58 (of_decide_eq_true rfl)) (f8 59 (of_decide_eq_true rfl)) hI101
    have z100 : (σ6 55 5).toInt = (σ 55 5).toInt := (congrArg Int32.toInt (show σ6 55 5 = (σ 55 5) from (congrFun (f8 55 (of_decide_eq_true rfl)) 5)))
    have z101 : (σ6 55 4).toInt = (σ 55 4).toInt := (congrArg Int32.toInt (show σ6 55 4 = (σ 55 4) from (congrFun (f8 55 (of_decide_eq_true rfl)) 4)))
    refine jcallV (As := []) (rest := []) ⟨hx, hb, hml, hown, hts⟩ hK hP hA hS hZ (c_X12_redo l D cI cL ad zz hJ σ6 τ I99) cw_RL_128 (jc_55 cI cL ad σ6 τ) rfl ⟨Nat.le_of_ble_eq_true rfl, Nat.le_of_ble_eq_true rfl⟩ rfl rfl rfl hl.1 rfl (Nat.le_of_ble_eq_true rfl) dL_law_983 ⟨Nat.le_of_ble_eq_true rfl, Nat.le_of_ble_eq_true rfl⟩ (fun r103 σ102 τ102 H locs h102 hP hS => ?_)
    obtain ⟨rfl, f104, f105, I106, h102⟩ := h102
    rcases h102 with h108 | h109
    · obtain ⟨q113, k110, k111, k112⟩ := h108
      have q113 := q113.symm
      subst q113
      refine lv_pop hx hb dL_law_986 rfl ?_
      refine lv_goto (tgt := 1357) hx hb dL_law_987 (of_decide_eq_true rfl) ?_
      obtain ⟨x114, ex114⟩ : ∃ y : Int32, y = x0 + 6 := ⟨_, rfl⟩
      exact by
       have tx114 : x114.toInt = x0.toInt + 6 := (jadd ex114 rfl jz_6 (by omega) (by omega)).trans (by omega)
       refine lv_iinc (v := x114) (lv' := [(3, .int x114), (2, .ref (ad 55)), (1, .ref (ad 0)), (0, .ref b)]) hx hb dL_law_1357 hl (k := 0) rfl (by rw [ex114]; rfl) (of_decide_eq_true rfl) rfl (fun ls hl => ?_)
       refine lv_goto (tgt := 18) hx hb dL_law_1360 (of_decide_eq_true rfl) ?_
       have I115 : jI2 σ102 := jI2_fr (congrFun (f104 2 (of_decide_eq_true rfl)) 0) (congrFun (f104 2 (of_decide_eq_true rfl)) 1) (congrFun (f104 2 (of_decide_eq_true rfl)) 2) (congrFun (f104 2 (of_decide_eq_true rfl)) 3) (f104 6 (of_decide_eq_true rfl)) I10
       have I116 : jI9 σ102 := jI9_fr ((congrFun (f104 9 (of_decide_eq_true rfl)) 0).trans (congrFun (f8 9 (of_decide_eq_true rfl)) 0)) ((f104 10 (of_decide_eq_true rfl)).trans (f8 10 (of_decide_eq_true rfl))) ((f104 11 (of_decide_eq_true rfl)).trans (f8 11 (of_decide_eq_true rfl))) hI9
       have I117 : jI12 σ102 := jI12_fr ((congrFun (f104 12 (of_decide_eq_true rfl)) 0).trans (congrFun (f8 12 (of_decide_eq_true rfl)) 0)) ((f104 13 (of_decide_eq_true rfl)).trans (f8 13 (of_decide_eq_true rfl))) hI12
       have I118 : jI16 σ102 := jI16_fr ((congrFun (f104 16 (of_decide_eq_true rfl)) 0).trans (congrFun (f8 16 (of_decide_eq_true rfl)) 0)) ((congrFun (f104 16 (of_decide_eq_true rfl)) 1).trans (congrFun (f8 16 (of_decide_eq_true rfl)) 1)) ((congrFun (f104 16 (of_decide_eq_true rfl)) 2).trans (congrFun (f8 16 (of_decide_eq_true rfl)) 2)) ((f104 17 (of_decide_eq_true rfl)).trans (f8 17 (of_decide_eq_true rfl))) hI16
       have I119 : jI18 σ102 := jI18_fr ((congrFun (f104 18 (of_decide_eq_true rfl)) 0).trans (congrFun (f8 18 (of_decide_eq_true rfl)) 0)) ((f104 19 (of_decide_eq_true rfl)).trans (f8 19 (of_decide_eq_true rfl))) hI18
       have I120 : jI22 σ102 := jI22_fr ((congrFun (f104 22 (of_decide_eq_true rfl)) 0).trans (congrFun (f8 22 (of_decide_eq_true rfl)) 0)) ((f104 23 (of_decide_eq_true rfl)).trans (f8 23 (of_decide_eq_true rfl))) hI22
       exact by
        have I121 : jI31 σ102 := jI31_fr ((congrFun (f104 31 (of_decide_eq_true rfl)) 8).trans (congrFun (f8 31 (of_decide_eq_true rfl)) 8)) ((f104 33 (of_decide_eq_true rfl)).trans (f8 33 (of_decide_eq_true rfl))) ((f104 36 (of_decide_eq_true rfl)).trans (f8 36 (of_decide_eq_true rfl))) hI31
        have I122 : jI38 σ102 := jI38_fr ((congrFun (f104 38 (of_decide_eq_true rfl)) 0).trans (congrFun (f8 38 (of_decide_eq_true rfl)) 0)) ((congrFun (f104 38 (of_decide_eq_true rfl)) 1).trans (congrFun (f8 38 (of_decide_eq_true rfl)) 1)) ((f104 39 (of_decide_eq_true rfl)).trans (f8 39 (of_decide_eq_true rfl))) hI38
        have I123 : jI43 σ102 := jI43_fr ((congrFun (f104 43 (of_decide_eq_true rfl)) 8).trans (congrFun (f8 43 (of_decide_eq_true rfl)) 8)) hI43
        have I124 : jI47 σ102 := jI47_fr ((congrFun (f104 47 (of_decide_eq_true rfl)) 0).trans (congrFun (f8 47 (of_decide_eq_true rfl)) 0)) ((f104 48 (of_decide_eq_true rfl)).trans (f8 48 (of_decide_eq_true rfl))) ((f104 49 (of_decide_eq_true rfl)).trans (f8 49 (of_decide_eq_true rfl))) hI47
        have I125 : jI50 σ102 := jI50_fr ((f104 52 (of_decide_eq_true rfl)).trans (f8 52 (of_decide_eq_true rfl))) hI50
        have I126 : jI102 σ102 := jI102_fr ((f105 6 (of_decide_eq_true rfl)).trans (congrFun (f8 55 (of_decide_eq_true rfl)) 6)) ((f104 60 (of_decide_eq_true rfl)).trans (f8 60 (of_decide_eq_true rfl))) ((f104 61 (of_decide_eq_true rfl)).trans (f8 61 (of_decide_eq_true rfl))) hI102
        have I127 : jI103 σ102 := jI103_fr ((f105 9 (of_decide_eq_true rfl)).trans (congrFun (f8 55 (of_decide_eq_true rfl)) 9)) hI103
        have I128 : jI104 σ102 := jI104_fr ((f105 10 (of_decide_eq_true rfl)).trans (congrFun (f8 55 (of_decide_eq_true rfl)) 10)) ((f105 12 (of_decide_eq_true rfl)).trans (congrFun (f8 55 (of_decide_eq_true rfl)) 12)) ((f105 13 (of_decide_eq_true rfl)).trans (congrFun (f8 55 (of_decide_eq_true rfl)) 13)) ((f104 62 (of_decide_eq_true rfl)).trans (f8 62 (of_decide_eq_true rfl))) ((f104 67 (of_decide_eq_true rfl)).trans (f8 67 (of_decide_eq_true rfl))) hI104
        have I129 : jI105 σ102 := jI105_fr ((f105 15 (of_decide_eq_true rfl)).trans (congrFun (f8 55 (of_decide_eq_true rfl)) 15)) ((f104 65 (of_decide_eq_true rfl)).trans (f8 65 (of_decide_eq_true rfl))) hI105
        have I130 : jI106 σ102 := jI106_fr ((f105 32 (of_decide_eq_true rfl)).trans (congrFun (f8 55 (of_decide_eq_true rfl)) 32)) ((f104 70 (of_decide_eq_true rfl)).trans (f8 70 (of_decide_eq_true rfl))) ((f104 71 (of_decide_eq_true rfl)).trans (f8 71 (of_decide_eq_true rfl))) ((f104 72 (of_decide_eq_true rfl)).trans (f8 72 (of_decide_eq_true rfl))) hI106
        have I131 : jI107 σ102 := jI107_fr ((f105 12 (of_decide_eq_true rfl)).trans (congrFun (f8 55 (of_decide_eq_true rfl)) 12)) ((f105 47 (of_decide_eq_true rfl)).trans (congrFun (f8 55 (of_decide_eq_true rfl)) 47)) ((f104 80 (of_decide_eq_true rfl)).trans (f8 80 (of_decide_eq_true rfl))) hI107
        have I132 : jI109 σ102 := jI109_fr ((f105 50 (of_decide_eq_true rfl)).trans (congrFun (f8 55 (of_decide_eq_true rfl)) 50)) hI109
        have I133 : jI110 σ102 := jI110_fr ((f104 86 (of_decide_eq_true rfl)).trans (f8 86 (of_decide_eq_true rfl))) ((f104 87 (of_decide_eq_true rfl)).trans (f8 87 (of_decide_eq_true rfl))) hI110
        have I134 : jI111 σ102 := jI111_fr ((f104 79 (of_decide_eq_true rfl)).trans (f8 79 (of_decide_eq_true rfl))) hI111
        have I135 : jI119 σ102 := jI119_fr ((f104 68 (of_decide_eq_true rfl)).trans (f8 68 (of_decide_eq_true rfl))) hI119
        have p136 : jKept σ102 := jKept.fr ((f104 75 (of_decide_eq_true rfl)).trans (f8 75 (of_decide_eq_true rfl))) ((f104 76 (of_decide_eq_true rfl)).trans (f8 76 (of_decide_eq_true rfl))) ((f104 77 (of_decide_eq_true rfl)).trans (f8 77 (of_decide_eq_true rfl))) hs_jKept
        have p137 : jBook σ102 := jBook.fr ((f105 47 (of_decide_eq_true rfl)).trans (congrFun (f8 55 (of_decide_eq_true rfl)) 47)) ((f105 10 (of_decide_eq_true rfl)).trans (congrFun (f8 55 (of_decide_eq_true rfl)) 10)) ((f104 81 (of_decide_eq_true rfl)).trans (f8 81 (of_decide_eq_true rfl))) hs_jBook
        have z138 : (σ102 9 0).toInt = (σ 9 0).toInt := (congrArg Int32.toInt (show σ102 9 0 = (σ 9 0) from ((congrFun (f104 9 (of_decide_eq_true rfl)) 0).trans (congrFun (f8 9 (of_decide_eq_true rfl)) 0))))
        have z139 : (σ102 55 15).toInt = (σ 55 15).toInt := (congrArg Int32.toInt (show σ102 55 15 = (σ 55 15) from ((f105 15 (of_decide_eq_true rfl)).trans (congrFun (f8 55 (of_decide_eq_true rfl)) 15))))
        exact by exact ih x114 σ102 τ _ _ ls (by have h9 := tx114; omega) ⟨I115, I116, I117, I118, I119, I120, I121, I122, I123, I124, I125, I106, I126, I127, I128, I129, I130, I131, I132, I133, I134, I135, p136, p137, (by omega), (show jTp (σ102 10) (σ102 63) (σ102 55 15).toInt by rw [show σ102 10 = σ 10 from ((f104 10 (of_decide_eq_true rfl)).trans (f8 10 (of_decide_eq_true rfl))), show σ102 63 = σ 63 from ((f104 63 (of_decide_eq_true rfl)).trans (f8 63 (of_decide_eq_true rfl)))]; exact hr0.le (by omega))⟩ hP hS (lv_sub hl [0, 1, 2, 3] rfl)
    · obtain ⟨q145, k140, k141, k142, k143, k144⟩ := h109
      refine lv_pop hx hb dL_law_986 rfl ?_
      refine lv_goto (tgt := 1357) hx hb dL_law_987 (of_decide_eq_true rfl) ?_
      obtain ⟨x146, ex146⟩ : ∃ y : Int32, y = x0 + 6 := ⟨_, rfl⟩
      exact by
       have tx146 : x146.toInt = x0.toInt + 6 := (jadd ex146 rfl jz_6 (by omega) (by omega)).trans (by omega)
       refine lv_iinc (v := x146) (lv' := [(3, .int x146), (2, .ref (ad 55)), (1, .ref (ad 0)), (0, .ref b)]) hx hb dL_law_1357 hl (k := 0) rfl (by rw [ex146]; rfl) (of_decide_eq_true rfl) rfl (fun ls hl => ?_)
       refine lv_goto (tgt := 18) hx hb dL_law_1360 (of_decide_eq_true rfl) ?_
       have I147 : jI2 σ102 := jI2_fr (congrFun (f104 2 (of_decide_eq_true rfl)) 0) (congrFun (f104 2 (of_decide_eq_true rfl)) 1) (congrFun (f104 2 (of_decide_eq_true rfl)) 2) (congrFun (f104 2 (of_decide_eq_true rfl)) 3) (f104 6 (of_decide_eq_true rfl)) I10
       have I148 : jI9 σ102 := jI9_fr ((congrFun (f104 9 (of_decide_eq_true rfl)) 0).trans (congrFun (f8 9 (of_decide_eq_true rfl)) 0)) ((f104 10 (of_decide_eq_true rfl)).trans (f8 10 (of_decide_eq_true rfl))) ((f104 11 (of_decide_eq_true rfl)).trans (f8 11 (of_decide_eq_true rfl))) hI9
       have I149 : jI12 σ102 := jI12_fr ((congrFun (f104 12 (of_decide_eq_true rfl)) 0).trans (congrFun (f8 12 (of_decide_eq_true rfl)) 0)) ((f104 13 (of_decide_eq_true rfl)).trans (f8 13 (of_decide_eq_true rfl))) hI12
       have I150 : jI16 σ102 := jI16_fr ((congrFun (f104 16 (of_decide_eq_true rfl)) 0).trans (congrFun (f8 16 (of_decide_eq_true rfl)) 0)) ((congrFun (f104 16 (of_decide_eq_true rfl)) 1).trans (congrFun (f8 16 (of_decide_eq_true rfl)) 1)) ((congrFun (f104 16 (of_decide_eq_true rfl)) 2).trans (congrFun (f8 16 (of_decide_eq_true rfl)) 2)) ((f104 17 (of_decide_eq_true rfl)).trans (f8 17 (of_decide_eq_true rfl))) hI16
       have I151 : jI18 σ102 := jI18_fr ((congrFun (f104 18 (of_decide_eq_true rfl)) 0).trans (congrFun (f8 18 (of_decide_eq_true rfl)) 0)) ((f104 19 (of_decide_eq_true rfl)).trans (f8 19 (of_decide_eq_true rfl))) hI18
       have I152 : jI22 σ102 := jI22_fr ((congrFun (f104 22 (of_decide_eq_true rfl)) 0).trans (congrFun (f8 22 (of_decide_eq_true rfl)) 0)) ((f104 23 (of_decide_eq_true rfl)).trans (f8 23 (of_decide_eq_true rfl))) hI22
       exact by
        have I153 : jI31 σ102 := jI31_fr ((congrFun (f104 31 (of_decide_eq_true rfl)) 8).trans (congrFun (f8 31 (of_decide_eq_true rfl)) 8)) ((f104 33 (of_decide_eq_true rfl)).trans (f8 33 (of_decide_eq_true rfl))) ((f104 36 (of_decide_eq_true rfl)).trans (f8 36 (of_decide_eq_true rfl))) hI31
        have I154 : jI38 σ102 := jI38_fr ((congrFun (f104 38 (of_decide_eq_true rfl)) 0).trans (congrFun (f8 38 (of_decide_eq_true rfl)) 0)) ((congrFun (f104 38 (of_decide_eq_true rfl)) 1).trans (congrFun (f8 38 (of_decide_eq_true rfl)) 1)) ((f104 39 (of_decide_eq_true rfl)).trans (f8 39 (of_decide_eq_true rfl))) hI38
        have I155 : jI43 σ102 := jI43_fr ((congrFun (f104 43 (of_decide_eq_true rfl)) 8).trans (congrFun (f8 43 (of_decide_eq_true rfl)) 8)) hI43
        have I156 : jI47 σ102 := jI47_fr ((congrFun (f104 47 (of_decide_eq_true rfl)) 0).trans (congrFun (f8 47 (of_decide_eq_true rfl)) 0)) ((f104 48 (of_decide_eq_true rfl)).trans (f8 48 (of_decide_eq_true rfl))) ((f104 49 (of_decide_eq_true rfl)).trans (f8 49 (of_decide_eq_true rfl))) hI47
        have I157 : jI50 σ102 := jI50_fr ((f104 52 (of_decide_eq_true rfl)).trans (f8 52 (of_decide_eq_true rfl))) hI50
        have I158 : jI102 σ102 := jI102_fr ((f105 6 (of_decide_eq_true rfl)).trans (congrFun (f8 55 (of_decide_eq_true rfl)) 6)) ((f104 60 (of_decide_eq_true rfl)).trans (f8 60 (of_decide_eq_true rfl))) ((f104 61 (of_decide_eq_true rfl)).trans (f8 61 (of_decide_eq_true rfl))) hI102
        have I159 : jI103 σ102 := jI103_fr ((f105 9 (of_decide_eq_true rfl)).trans (congrFun (f8 55 (of_decide_eq_true rfl)) 9)) hI103
        have I160 : jI104 σ102 := jI104_fr ((f105 10 (of_decide_eq_true rfl)).trans (congrFun (f8 55 (of_decide_eq_true rfl)) 10)) ((f105 12 (of_decide_eq_true rfl)).trans (congrFun (f8 55 (of_decide_eq_true rfl)) 12)) ((f105 13 (of_decide_eq_true rfl)).trans (congrFun (f8 55 (of_decide_eq_true rfl)) 13)) ((f104 62 (of_decide_eq_true rfl)).trans (f8 62 (of_decide_eq_true rfl))) ((f104 67 (of_decide_eq_true rfl)).trans (f8 67 (of_decide_eq_true rfl))) hI104
        have I161 : jI105 σ102 := jI105_fr ((f105 15 (of_decide_eq_true rfl)).trans (congrFun (f8 55 (of_decide_eq_true rfl)) 15)) ((f104 65 (of_decide_eq_true rfl)).trans (f8 65 (of_decide_eq_true rfl))) hI105
        have I162 : jI106 σ102 := jI106_fr ((f105 32 (of_decide_eq_true rfl)).trans (congrFun (f8 55 (of_decide_eq_true rfl)) 32)) ((f104 70 (of_decide_eq_true rfl)).trans (f8 70 (of_decide_eq_true rfl))) ((f104 71 (of_decide_eq_true rfl)).trans (f8 71 (of_decide_eq_true rfl))) ((f104 72 (of_decide_eq_true rfl)).trans (f8 72 (of_decide_eq_true rfl))) hI106
        have I163 : jI107 σ102 := jI107_fr ((f105 12 (of_decide_eq_true rfl)).trans (congrFun (f8 55 (of_decide_eq_true rfl)) 12)) ((f105 47 (of_decide_eq_true rfl)).trans (congrFun (f8 55 (of_decide_eq_true rfl)) 47)) ((f104 80 (of_decide_eq_true rfl)).trans (f8 80 (of_decide_eq_true rfl))) hI107
        have I164 : jI109 σ102 := jI109_fr ((f105 50 (of_decide_eq_true rfl)).trans (congrFun (f8 55 (of_decide_eq_true rfl)) 50)) hI109
        have I165 : jI110 σ102 := jI110_fr ((f104 86 (of_decide_eq_true rfl)).trans (f8 86 (of_decide_eq_true rfl))) ((f104 87 (of_decide_eq_true rfl)).trans (f8 87 (of_decide_eq_true rfl))) hI110
        have I166 : jI111 σ102 := jI111_fr ((f104 79 (of_decide_eq_true rfl)).trans (f8 79 (of_decide_eq_true rfl))) hI111
        have I167 : jI119 σ102 := jI119_fr ((f104 68 (of_decide_eq_true rfl)).trans (f8 68 (of_decide_eq_true rfl))) hI119
        have p168 : jKept σ102 := jKept.fr ((f104 75 (of_decide_eq_true rfl)).trans (f8 75 (of_decide_eq_true rfl))) ((f104 76 (of_decide_eq_true rfl)).trans (f8 76 (of_decide_eq_true rfl))) ((f104 77 (of_decide_eq_true rfl)).trans (f8 77 (of_decide_eq_true rfl))) hs_jKept
        have p169 : jBook σ102 := jBook.fr ((f105 47 (of_decide_eq_true rfl)).trans (congrFun (f8 55 (of_decide_eq_true rfl)) 47)) ((f105 10 (of_decide_eq_true rfl)).trans (congrFun (f8 55 (of_decide_eq_true rfl)) 10)) ((f104 81 (of_decide_eq_true rfl)).trans (f8 81 (of_decide_eq_true rfl))) hs_jBook
        have z170 : (σ102 9 0).toInt = (σ 9 0).toInt := (congrArg Int32.toInt (show σ102 9 0 = (σ 9 0) from ((congrFun (f104 9 (of_decide_eq_true rfl)) 0).trans (congrFun (f8 9 (of_decide_eq_true rfl)) 0))))
        have z171 : (σ102 55 15).toInt = (σ 55 15).toInt := (congrArg Int32.toInt (show σ102 55 15 = (σ 55 15) from ((f105 15 (of_decide_eq_true rfl)).trans (congrFun (f8 55 (of_decide_eq_true rfl)) 15))))
        exact by exact ih x146 σ102 τ _ _ ls (by have h9 := tx146; omega) ⟨I147, I148, I149, I150, I151, I152, I153, I154, I155, I156, I157, I106, I158, I159, I160, I161, I162, I163, I164, I165, I166, I167, p168, p169, (by omega), (show jTp (σ102 10) (σ102 63) (σ102 55 15).toInt by rw [show σ102 10 = σ 10 from ((f104 10 (of_decide_eq_true rfl)).trans (f8 10 (of_decide_eq_true rfl))), show σ102 63 = σ 63 from ((f104 63 (of_decide_eq_true rfl)).trans (f8 63 (of_decide_eq_true rfl)))]; exact hr0.le (by omega))⟩ hP hS (lv_sub hl [0, 1, 2, 3] rfl)
set_option maxHeartbeats 4000000 in
set_option maxRecDepth 100000 in
theorem law_case_28 {p : Program} {e : Env} {s : State} {m : MethodId} {below : List Frame} {meth : Method} {c : Code} (l : Launch) {b L : Nat} {xs : Nat → Int32} {D : va_G} {cI cL : ClassId} {ad zz : Nat → Nat} (C0 : lw_At p s m meth c b L xs) (hJ : jD ad) (hA : ∀ q, jA ad q → s.heap.size ≤ q) (hK : jK D cI cL s) (hZ : jZ zz (fun q : Nat => s.heap.size ≤ q) s s.heap) {x0 : Int32} (hx0 : 0 ≤ x0.toInt) (hxL : x0.toInt + 6 ≤ (L : Int)) (hL : L ≤ 384) {σ : Nat → Nat → Int32} {τ : Nat → Nat → Int64} {H : Heap} {locs : List Loc} (hS : va_S (fun q : Nat => s.heap.size ≤ q) s.heap H locs) {ls : Array Slot} (hAll : jAll σ τ) (hP : jH D cI cL ad σ τ H) (hl : lv_has ls 4 [(3, .int x0), (2, .ref (ad 55)), (1, .ref (ad 0)), (0, .ref b)]) (ih : ∀ (x1 : Int32) (σ : Nat → Nat → Int32) (τ : Nat → Nat → Int64) (H : Heap) (locs : List Loc) (ls : Array Slot), x1.toInt = x0.toInt + 6 → jAll σ τ → jH D cI cL ad σ τ H → va_S (fun q : Nat => s.heap.size ≤ q) s.heap H locs → lv_has ls 4 [(3, .int x1), (2, .ref (ad 55)), (1, .ref (ad 0)), (0, .ref b)] → W p l e room_1 s m #[Value.ref b] below meth c H locs 90 348600 (lw_Z below #[Value.ref b] s) (F0 m 18 ls [])) : W p l e room_1 s m #[Value.ref b] below meth c H locs 90 348600 (lw_Z below #[Value.ref b] s) (F0 m 990 ls []) := by
  obtain ⟨hx, hb, hr, hml, hown, hts0, hX, hbl, hlocks, hgv⟩ := C0
  have hts : ∀ w ∈ wsL_law, w.before #[Value.ref b] s = true := fun w h => hts0 w (wsL_law_in w h)
  have hbA : ¬ (fun q : Nat => s.heap.size ≤ q) b := Nat.not_le.mpr hbl
  have hown : s.vm.findClass RL = some m.cls := hown
  obtain ⟨hI2, hI9, hI12, hI16, hI18, hI22, hI31, hI38, hI43, hI47, hI50, hI101, hI102, hI103, hI104, hI105, hI106, hI107, hI109, hI110, hI111, hI119, hs_jKept, hs_jBook, ht0, hr0⟩ := hAll
  have hL9 : (L : Int) ≤ 384 := by omega
  obtain ⟨i1, w2, w3⟩ : (0 ≤ (σ 9 0).toInt ∧ (σ 9 0).toInt ≤ 80) ∧ (∀ k : Nat, k < 80 → 0 ≤ (σ 10 k).toInt ∧ (σ 10 k).toInt ≤ 255) ∧ (∀ k : Nat, k < 8 → 0 ≤ (σ 11 k).toInt ∧ (σ 11 k).toInt ≤ 3) := id hI9
  obtain ⟨i4, w5⟩ : (0 ≤ (σ 55 15).toInt ∧ (σ 55 15).toInt ≤ 80) ∧ (∀ k : Nat, k < 2 → (-1) ≤ (σ 65 k).toInt ∧ (σ 65 k).toInt ≤ 80) := id hI105
  refine lv_aload_n hx hb dL_law_990 rfl (lv_at hl 2 rfl) ?_
  refine lv_aload_n hx hb dL_law_991 rfl (lv_at hl 3 rfl) ?_
  refine lv_iload_n hx hb dL_law_992 rfl (lv_at hl 0 rfl) ?_
  refine lv_iconst (v := 1) hx hb dL_law_993 (of_decide_eq_true rfl) ?_
  have g6 := jrg (rfl : x0.toInt = x0.toInt)
  refine lv_iadd hx hb dL_law_994 ?_
  refine lv_topi (fun x7 ex7 => ?_)
  exact by
   have tx7 : x7.toInt = x0.toInt + 1 := (jadd ex7 rfl jz_1 (by omega) (by omega)).trans (by omega)
   refine va_sld hx hb hX hbl hbA hS (jin tx7 (by omega) (by omega)) dL_law_995 ?_
   have g8 := jrg (rfl : (xs x7.toNatClampNeg).toInt = (xs x7.toNatClampNeg).toInt)
   refine lv_aload_n hx hb dL_law_996 rfl (lv_at hl 3 rfl) ?_
   refine lv_iload_n hx hb dL_law_997 rfl (lv_at hl 0 rfl) ?_
   refine lv_iconst (v := 2) hx hb dL_law_998 (of_decide_eq_true rfl) ?_
   refine lv_iadd hx hb dL_law_999 ?_
   refine lv_topi (fun x9 ex9 => ?_)
   have tx9 : x9.toInt = x0.toInt + 2 := (jadd ex9 rfl jz_2 (by omega) (by omega)).trans (by omega)
   exact by
    refine va_sld hx hb hX hbl hbA hS (jin tx9 (by omega) (by omega)) dL_law_1000 ?_
    have g10 := jrg (rfl : (xs x9.toNatClampNeg).toInt = (xs x9.toNatClampNeg).toInt)
    refine lv_aload_n hx hb dL_law_1001 rfl (lv_at hl 3 rfl) ?_
    refine lv_iload_n hx hb dL_law_1002 rfl (lv_at hl 0 rfl) ?_
    refine lv_iconst (v := 3) hx hb dL_law_1003 (of_decide_eq_true rfl) ?_
    refine lv_iadd hx hb dL_law_1004 ?_
    refine lv_topi (fun x11 ex11 => ?_)
    have tx11 : x11.toInt = x0.toInt + 3 := (jadd ex11 rfl jz_3 (by omega) (by omega)).trans (by omega)
    refine va_sld hx hb hX hbl hbA hS (jin tx11 (by omega) (by omega)) dL_law_1005 ?_
    exact by
     have g12 := jrg (rfl : (xs x11.toNatClampNeg).toInt = (xs x11.toNatClampNeg).toInt)
     refine jcallV (As := [.int (xs x7.toNatClampNeg), .int (xs x9.toNatClampNeg), .int (xs x11.toNatClampNeg)]) (rest := []) ⟨hx, hb, hml, hown, hts⟩ hK hP hA hS hZ (c_X11_act l D cI cL ad zz hJ σ τ (xs x7.toNatClampNeg) ((xs x7.toNatClampNeg).toInt) rfl (xs x9.toNatClampNeg) ((xs x9.toNatClampNeg).toInt) rfl (xs x11.toNatClampNeg) ((xs x11.toNatClampNeg).toInt) rfl hI38) cw_RL_129 (jc_0 cI cL ad σ τ) rfl ⟨Nat.le_of_ble_eq_true rfl, Nat.le_of_ble_eq_true rfl⟩ rfl rfl rfl hl.1 rfl (Nat.le_of_ble_eq_true rfl) dL_law_1006 ⟨Nat.le_of_ble_eq_true rfl, Nat.le_of_ble_eq_true rfl⟩ (fun r14 σ13 τ13 H locs h13 hP hS => ?_)
     obtain ⟨rfl, f15, f16, I17, h13⟩ := h13
     rcases h13 with h19 | h20
     · obtain ⟨q23, k21, k22⟩ := h19
       have q23 := q23.symm
       subst q23
       refine lv_pop hx hb dL_law_1009 rfl ?_
       refine lv_aload_n hx hb dL_law_1010 rfl (lv_at hl 1 rfl) ?_
       refine lv_aload_n hx hb dL_law_1011 rfl (lv_at hl 3 rfl) ?_
       refine lv_iload_n hx hb dL_law_1012 rfl (lv_at hl 0 rfl) ?_
       refine lv_iconst (v := 1) hx hb dL_law_1013 (of_decide_eq_true rfl) ?_
       refine lv_iadd hx hb dL_law_1014 ?_
       refine jtopr ex7.symm ?_
       exact by
        refine va_sld hx hb hX hbl hbA hS (jin tx7 (by omega) (by omega)) dL_law_1015 ?_
        refine lv_aload_n hx hb dL_law_1016 rfl (lv_at hl 3 rfl) ?_
        refine lv_iload_n hx hb dL_law_1017 rfl (lv_at hl 0 rfl) ?_
        refine lv_iconst (v := 2) hx hb dL_law_1018 (of_decide_eq_true rfl) ?_
        refine lv_iadd hx hb dL_law_1019 ?_
        refine jtopr ex9.symm ?_
        refine va_sld hx hb hX hbl hbA hS (jin tx9 (by omega) (by omega)) dL_law_1020 ?_
        refine lv_aload_n hx hb dL_law_1021 rfl (lv_at hl 3 rfl) ?_
        refine lv_iload_n hx hb dL_law_1022 rfl (lv_at hl 0 rfl) ?_
        exact by
         refine lv_iconst (v := 3) hx hb dL_law_1023 (of_decide_eq_true rfl) ?_
         refine lv_iadd hx hb dL_law_1024 ?_
         refine jtopr ex11.symm ?_
         refine va_sld hx hb hX hbl hbA hS (jin tx11 (by omega) (by omega)) dL_law_1025 ?_
         have I24 : jI106 σ13 := jI106_fr (congrFun (f15 55 (of_decide_eq_true rfl)) 32) (f15 70 (of_decide_eq_true rfl)) (f15 71 (of_decide_eq_true rfl)) (f15 72 (of_decide_eq_true rfl)) hI106
         have z25 : (σ13 55 32).toInt = (σ 55 32).toInt := (congrArg Int32.toInt (show σ13 55 32 = (σ 55 32) from (congrFun (f15 55 (of_decide_eq_true rfl)) 32)))
         refine jcallV (As := [.int (xs x7.toNatClampNeg), .int (xs x9.toNatClampNeg), .int (xs x11.toNatClampNeg)]) (rest := []) ⟨hx, hb, hml, hown, hts⟩ hK hP hA hS hZ (c_X12_act l D cI cL ad zz hJ σ13 τ (xs x7.toNatClampNeg) ((xs x7.toNatClampNeg).toInt) rfl (xs x9.toNatClampNeg) ((xs x9.toNatClampNeg).toInt) rfl (xs x11.toNatClampNeg) ((xs x11.toNatClampNeg).toInt) rfl I24) cw_RL_132 (jc_55 cI cL ad σ13 τ) rfl ⟨Nat.le_of_ble_eq_true rfl, Nat.le_of_ble_eq_true rfl⟩ rfl rfl rfl hl.1 rfl (Nat.le_of_ble_eq_true rfl) dL_law_1026 ⟨Nat.le_of_ble_eq_true rfl, Nat.le_of_ble_eq_true rfl⟩ (fun r27 σ26 τ26 H locs h26 hP hS => ?_)
         obtain ⟨rfl, f28, f29, h26⟩ := h26
         rcases h26 with h31 | h32
         · exact by
            obtain ⟨q35, k33, k34⟩ := h31
            have q35 := q35.symm
            subst q35
            refine lv_pop hx hb dL_law_1029 rfl ?_
            refine lv_goto (tgt := 1357) hx hb dL_law_1030 (of_decide_eq_true rfl) ?_
            obtain ⟨x36, ex36⟩ : ∃ y : Int32, y = x0 + 6 := ⟨_, rfl⟩
            have tx36 : x36.toInt = x0.toInt + 6 := (jadd ex36 rfl jz_6 (by omega) (by omega)).trans (by omega)
            refine lv_iinc (v := x36) (lv' := [(3, .int x36), (2, .ref (ad 55)), (1, .ref (ad 0)), (0, .ref b)]) hx hb dL_law_1357 hl (k := 0) rfl (by rw [ex36]; rfl) (of_decide_eq_true rfl) rfl (fun ls hl => ?_)
            refine lv_goto (tgt := 18) hx hb dL_law_1360 (of_decide_eq_true rfl) ?_
            exact by
             have I37 : jI2 σ26 := jI2_fr ((congrFun (f28 2 (of_decide_eq_true rfl)) 0).trans (congrFun (f15 2 (of_decide_eq_true rfl)) 0)) ((congrFun (f28 2 (of_decide_eq_true rfl)) 1).trans (congrFun (f15 2 (of_decide_eq_true rfl)) 1)) ((congrFun (f28 2 (of_decide_eq_true rfl)) 2).trans (congrFun (f15 2 (of_decide_eq_true rfl)) 2)) ((congrFun (f28 2 (of_decide_eq_true rfl)) 3).trans (congrFun (f15 2 (of_decide_eq_true rfl)) 3)) ((f28 6 (of_decide_eq_true rfl)).trans (f15 6 (of_decide_eq_true rfl))) hI2
             have I38 : jI9 σ26 := jI9_fr ((congrFun (f28 9 (of_decide_eq_true rfl)) 0).trans (congrFun (f15 9 (of_decide_eq_true rfl)) 0)) ((f28 10 (of_decide_eq_true rfl)).trans (f15 10 (of_decide_eq_true rfl))) ((f28 11 (of_decide_eq_true rfl)).trans (f15 11 (of_decide_eq_true rfl))) hI9
             have I39 : jI12 σ26 := jI12_fr ((congrFun (f28 12 (of_decide_eq_true rfl)) 0).trans (congrFun (f15 12 (of_decide_eq_true rfl)) 0)) ((f28 13 (of_decide_eq_true rfl)).trans (f15 13 (of_decide_eq_true rfl))) hI12
             have I40 : jI16 σ26 := jI16_fr ((congrFun (f28 16 (of_decide_eq_true rfl)) 0).trans (congrFun (f15 16 (of_decide_eq_true rfl)) 0)) ((congrFun (f28 16 (of_decide_eq_true rfl)) 1).trans (congrFun (f15 16 (of_decide_eq_true rfl)) 1)) ((congrFun (f28 16 (of_decide_eq_true rfl)) 2).trans (congrFun (f15 16 (of_decide_eq_true rfl)) 2)) ((f28 17 (of_decide_eq_true rfl)).trans (f15 17 (of_decide_eq_true rfl))) hI16
             have I41 : jI18 σ26 := jI18_fr ((congrFun (f28 18 (of_decide_eq_true rfl)) 0).trans (congrFun (f15 18 (of_decide_eq_true rfl)) 0)) ((f28 19 (of_decide_eq_true rfl)).trans (f15 19 (of_decide_eq_true rfl))) hI18
             have I42 : jI22 σ26 := jI22_fr ((congrFun (f28 22 (of_decide_eq_true rfl)) 0).trans (congrFun (f15 22 (of_decide_eq_true rfl)) 0)) ((f28 23 (of_decide_eq_true rfl)).trans (f15 23 (of_decide_eq_true rfl))) hI22
             have I43 : jI31 σ26 := jI31_fr ((congrFun (f28 31 (of_decide_eq_true rfl)) 8).trans (congrFun (f15 31 (of_decide_eq_true rfl)) 8)) ((f28 33 (of_decide_eq_true rfl)).trans (f15 33 (of_decide_eq_true rfl))) ((f28 36 (of_decide_eq_true rfl)).trans (f15 36 (of_decide_eq_true rfl))) hI31
             have I44 : jI38 σ26 := jI38_fr (congrFun (f28 38 (of_decide_eq_true rfl)) 0) (congrFun (f28 38 (of_decide_eq_true rfl)) 1) (f28 39 (of_decide_eq_true rfl)) I17
             have I45 : jI43 σ26 := jI43_fr ((congrFun (f28 43 (of_decide_eq_true rfl)) 8).trans (congrFun (f15 43 (of_decide_eq_true rfl)) 8)) hI43
             have I46 : jI47 σ26 := jI47_fr ((congrFun (f28 47 (of_decide_eq_true rfl)) 0).trans (congrFun (f15 47 (of_decide_eq_true rfl)) 0)) ((f28 48 (of_decide_eq_true rfl)).trans (f15 48 (of_decide_eq_true rfl))) ((f28 49 (of_decide_eq_true rfl)).trans (f15 49 (of_decide_eq_true rfl))) hI47
             have I47 : jI50 σ26 := jI50_fr ((f28 52 (of_decide_eq_true rfl)).trans (f15 52 (of_decide_eq_true rfl))) hI50
             have I48 : jI101 σ26 := jI101_fr ((f29 4 (of_decide_eq_true rfl)).trans (congrFun (f15 55 (of_decide_eq_true rfl)) 4)) ((f29 5 (of_decide_eq_true rfl)).trans (congrFun (f15 55 (of_decide_eq_true rfl)) 5)) ((f28 56 (of_decide_eq_true rfl)).trans (f15 56 (of_decide_eq_true rfl))) ((f28 57 (of_decide_eq_true rfl)).trans (f15 57 (of_decide_eq_true rfl))) ((f28 58 (of_decide_eq_true rfl)).trans (f15 58 (of_decide_eq_true rfl))) ((f28 59 (of_decide_eq_true rfl)).trans (f15 59 (of_decide_eq_true rfl))) hI101
             have I49 : jI102 σ26 := jI102_fr ((f29 6 (of_decide_eq_true rfl)).trans (congrFun (f15 55 (of_decide_eq_true rfl)) 6)) ((f28 60 (of_decide_eq_true rfl)).trans (f15 60 (of_decide_eq_true rfl))) ((f28 61 (of_decide_eq_true rfl)).trans (f15 61 (of_decide_eq_true rfl))) hI102
             have I50 : jI103 σ26 := jI103_fr ((f29 9 (of_decide_eq_true rfl)).trans (congrFun (f15 55 (of_decide_eq_true rfl)) 9)) hI103
             have I51 : jI104 σ26 := jI104_fr ((f29 10 (of_decide_eq_true rfl)).trans (congrFun (f15 55 (of_decide_eq_true rfl)) 10)) ((f29 12 (of_decide_eq_true rfl)).trans (congrFun (f15 55 (of_decide_eq_true rfl)) 12)) ((f29 13 (of_decide_eq_true rfl)).trans (congrFun (f15 55 (of_decide_eq_true rfl)) 13)) ((f28 62 (of_decide_eq_true rfl)).trans (f15 62 (of_decide_eq_true rfl))) ((f28 67 (of_decide_eq_true rfl)).trans (f15 67 (of_decide_eq_true rfl))) hI104
             have I52 : jI105 σ26 := jI105_fr ((f29 15 (of_decide_eq_true rfl)).trans (congrFun (f15 55 (of_decide_eq_true rfl)) 15)) ((f28 65 (of_decide_eq_true rfl)).trans (f15 65 (of_decide_eq_true rfl))) hI105
             have I53 : jI106 σ26 := jI106_fr (f29 32 (of_decide_eq_true rfl)) (f28 70 (of_decide_eq_true rfl)) (f28 71 (of_decide_eq_true rfl)) (f28 72 (of_decide_eq_true rfl)) I24
             have I54 : jI107 σ26 := jI107_fr ((f29 12 (of_decide_eq_true rfl)).trans (congrFun (f15 55 (of_decide_eq_true rfl)) 12)) ((f29 47 (of_decide_eq_true rfl)).trans (congrFun (f15 55 (of_decide_eq_true rfl)) 47)) ((f28 80 (of_decide_eq_true rfl)).trans (f15 80 (of_decide_eq_true rfl))) hI107
             have I55 : jI109 σ26 := jI109_fr ((f29 50 (of_decide_eq_true rfl)).trans (congrFun (f15 55 (of_decide_eq_true rfl)) 50)) hI109
             have I56 : jI110 σ26 := jI110_fr ((f28 86 (of_decide_eq_true rfl)).trans (f15 86 (of_decide_eq_true rfl))) ((f28 87 (of_decide_eq_true rfl)).trans (f15 87 (of_decide_eq_true rfl))) hI110
             have I57 : jI111 σ26 := jI111_fr ((f28 79 (of_decide_eq_true rfl)).trans (f15 79 (of_decide_eq_true rfl))) hI111
             have I58 : jI119 σ26 := jI119_fr ((f28 68 (of_decide_eq_true rfl)).trans (f15 68 (of_decide_eq_true rfl))) hI119
             have p59 : jKept σ26 := jKept.fr ((f28 75 (of_decide_eq_true rfl)).trans (f15 75 (of_decide_eq_true rfl))) ((f28 76 (of_decide_eq_true rfl)).trans (f15 76 (of_decide_eq_true rfl))) ((f28 77 (of_decide_eq_true rfl)).trans (f15 77 (of_decide_eq_true rfl))) hs_jKept
             have p60 : jBook σ26 := jBook.fr ((f29 47 (of_decide_eq_true rfl)).trans (congrFun (f15 55 (of_decide_eq_true rfl)) 47)) ((f29 10 (of_decide_eq_true rfl)).trans (congrFun (f15 55 (of_decide_eq_true rfl)) 10)) ((f28 81 (of_decide_eq_true rfl)).trans (f15 81 (of_decide_eq_true rfl))) hs_jBook
             have z61 : (σ26 9 0).toInt = (σ 9 0).toInt := (congrArg Int32.toInt (show σ26 9 0 = (σ 9 0) from ((congrFun (f28 9 (of_decide_eq_true rfl)) 0).trans (congrFun (f15 9 (of_decide_eq_true rfl)) 0))))
             have z62 : (σ26 55 15).toInt = (σ 55 15).toInt := (congrArg Int32.toInt (show σ26 55 15 = (σ 55 15) from ((f29 15 (of_decide_eq_true rfl)).trans (congrFun (f15 55 (of_decide_eq_true rfl)) 15))))
             exact by exact ih x36 σ26 τ _ _ ls (by have h9 := tx36; omega) ⟨I37, I38, I39, I40, I41, I42, I43, I44, I45, I46, I47, I48, I49, I50, I51, I52, I53, I54, I55, I56, I57, I58, p59, p60, (by omega), (show jTp (σ26 10) (σ26 63) (σ26 55 15).toInt by rw [show σ26 10 = σ 10 from ((f28 10 (of_decide_eq_true rfl)).trans (f15 10 (of_decide_eq_true rfl))), show σ26 63 = σ 63 from ((f28 63 (of_decide_eq_true rfl)).trans (f15 63 (of_decide_eq_true rfl)))]; exact hr0.le (by omega))⟩ hP hS (lv_sub hl [0, 1, 2, 3] rfl)
         · obtain ⟨q67, k63, k64, k65, k66⟩ := h32
           refine lv_pop hx hb dL_law_1029 rfl ?_
           refine lv_goto (tgt := 1357) hx hb dL_law_1030 (of_decide_eq_true rfl) ?_
           obtain ⟨x68, ex68⟩ : ∃ y : Int32, y = x0 + 6 := ⟨_, rfl⟩
           exact by
            have tx68 : x68.toInt = x0.toInt + 6 := (jadd ex68 rfl jz_6 (by omega) (by omega)).trans (by omega)
            refine lv_iinc (v := x68) (lv' := [(3, .int x68), (2, .ref (ad 55)), (1, .ref (ad 0)), (0, .ref b)]) hx hb dL_law_1357 hl (k := 0) rfl (by rw [ex68]; rfl) (of_decide_eq_true rfl) rfl (fun ls hl => ?_)
            refine lv_goto (tgt := 18) hx hb dL_law_1360 (of_decide_eq_true rfl) ?_
            have I69 : jI2 σ26 := jI2_fr ((congrFun (f28 2 (of_decide_eq_true rfl)) 0).trans (congrFun (f15 2 (of_decide_eq_true rfl)) 0)) ((congrFun (f28 2 (of_decide_eq_true rfl)) 1).trans (congrFun (f15 2 (of_decide_eq_true rfl)) 1)) ((congrFun (f28 2 (of_decide_eq_true rfl)) 2).trans (congrFun (f15 2 (of_decide_eq_true rfl)) 2)) ((congrFun (f28 2 (of_decide_eq_true rfl)) 3).trans (congrFun (f15 2 (of_decide_eq_true rfl)) 3)) ((f28 6 (of_decide_eq_true rfl)).trans (f15 6 (of_decide_eq_true rfl))) hI2
            have I70 : jI9 σ26 := jI9_fr ((congrFun (f28 9 (of_decide_eq_true rfl)) 0).trans (congrFun (f15 9 (of_decide_eq_true rfl)) 0)) ((f28 10 (of_decide_eq_true rfl)).trans (f15 10 (of_decide_eq_true rfl))) ((f28 11 (of_decide_eq_true rfl)).trans (f15 11 (of_decide_eq_true rfl))) hI9
            have I71 : jI12 σ26 := jI12_fr ((congrFun (f28 12 (of_decide_eq_true rfl)) 0).trans (congrFun (f15 12 (of_decide_eq_true rfl)) 0)) ((f28 13 (of_decide_eq_true rfl)).trans (f15 13 (of_decide_eq_true rfl))) hI12
            have I72 : jI16 σ26 := jI16_fr ((congrFun (f28 16 (of_decide_eq_true rfl)) 0).trans (congrFun (f15 16 (of_decide_eq_true rfl)) 0)) ((congrFun (f28 16 (of_decide_eq_true rfl)) 1).trans (congrFun (f15 16 (of_decide_eq_true rfl)) 1)) ((congrFun (f28 16 (of_decide_eq_true rfl)) 2).trans (congrFun (f15 16 (of_decide_eq_true rfl)) 2)) ((f28 17 (of_decide_eq_true rfl)).trans (f15 17 (of_decide_eq_true rfl))) hI16
            have I73 : jI18 σ26 := jI18_fr ((congrFun (f28 18 (of_decide_eq_true rfl)) 0).trans (congrFun (f15 18 (of_decide_eq_true rfl)) 0)) ((f28 19 (of_decide_eq_true rfl)).trans (f15 19 (of_decide_eq_true rfl))) hI18
            have I74 : jI22 σ26 := jI22_fr ((congrFun (f28 22 (of_decide_eq_true rfl)) 0).trans (congrFun (f15 22 (of_decide_eq_true rfl)) 0)) ((f28 23 (of_decide_eq_true rfl)).trans (f15 23 (of_decide_eq_true rfl))) hI22
            exact by
             have I75 : jI31 σ26 := jI31_fr ((congrFun (f28 31 (of_decide_eq_true rfl)) 8).trans (congrFun (f15 31 (of_decide_eq_true rfl)) 8)) ((f28 33 (of_decide_eq_true rfl)).trans (f15 33 (of_decide_eq_true rfl))) ((f28 36 (of_decide_eq_true rfl)).trans (f15 36 (of_decide_eq_true rfl))) hI31
             have I76 : jI38 σ26 := jI38_fr (congrFun (f28 38 (of_decide_eq_true rfl)) 0) (congrFun (f28 38 (of_decide_eq_true rfl)) 1) (f28 39 (of_decide_eq_true rfl)) I17
             have I77 : jI43 σ26 := jI43_fr ((congrFun (f28 43 (of_decide_eq_true rfl)) 8).trans (congrFun (f15 43 (of_decide_eq_true rfl)) 8)) hI43
             have I78 : jI47 σ26 := jI47_fr ((congrFun (f28 47 (of_decide_eq_true rfl)) 0).trans (congrFun (f15 47 (of_decide_eq_true rfl)) 0)) ((f28 48 (of_decide_eq_true rfl)).trans (f15 48 (of_decide_eq_true rfl))) ((f28 49 (of_decide_eq_true rfl)).trans (f15 49 (of_decide_eq_true rfl))) hI47
             have I79 : jI50 σ26 := jI50_fr ((f28 52 (of_decide_eq_true rfl)).trans (f15 52 (of_decide_eq_true rfl))) hI50
             have I80 : jI101 σ26 := jI101_fr ((f29 4 (of_decide_eq_true rfl)).trans (congrFun (f15 55 (of_decide_eq_true rfl)) 4)) ((f29 5 (of_decide_eq_true rfl)).trans (congrFun (f15 55 (of_decide_eq_true rfl)) 5)) ((f28 56 (of_decide_eq_true rfl)).trans (f15 56 (of_decide_eq_true rfl))) ((f28 57 (of_decide_eq_true rfl)).trans (f15 57 (of_decide_eq_true rfl))) ((f28 58 (of_decide_eq_true rfl)).trans (f15 58 (of_decide_eq_true rfl))) ((f28 59 (of_decide_eq_true rfl)).trans (f15 59 (of_decide_eq_true rfl))) hI101
             have I81 : jI102 σ26 := jI102_fr ((f29 6 (of_decide_eq_true rfl)).trans (congrFun (f15 55 (of_decide_eq_true rfl)) 6)) ((f28 60 (of_decide_eq_true rfl)).trans (f15 60 (of_decide_eq_true rfl))) ((f28 61 (of_decide_eq_true rfl)).trans (f15 61 (of_decide_eq_true rfl))) hI102
             have I82 : jI103 σ26 := jI103_fr ((f29 9 (of_decide_eq_true rfl)).trans (congrFun (f15 55 (of_decide_eq_true rfl)) 9)) hI103
             have I83 : jI104 σ26 := jI104_fr ((f29 10 (of_decide_eq_true rfl)).trans (congrFun (f15 55 (of_decide_eq_true rfl)) 10)) ((f29 12 (of_decide_eq_true rfl)).trans (congrFun (f15 55 (of_decide_eq_true rfl)) 12)) ((f29 13 (of_decide_eq_true rfl)).trans (congrFun (f15 55 (of_decide_eq_true rfl)) 13)) ((f28 62 (of_decide_eq_true rfl)).trans (f15 62 (of_decide_eq_true rfl))) ((f28 67 (of_decide_eq_true rfl)).trans (f15 67 (of_decide_eq_true rfl))) hI104
             have I84 : jI105 σ26 := jI105_fr ((f29 15 (of_decide_eq_true rfl)).trans (congrFun (f15 55 (of_decide_eq_true rfl)) 15)) ((f28 65 (of_decide_eq_true rfl)).trans (f15 65 (of_decide_eq_true rfl))) hI105
             have I85 : jI106 σ26 := jI106_fr (f29 32 (of_decide_eq_true rfl)) (f28 70 (of_decide_eq_true rfl)) (f28 71 (of_decide_eq_true rfl)) (f28 72 (of_decide_eq_true rfl)) I24
             have I86 : jI107 σ26 := jI107_fr ((f29 12 (of_decide_eq_true rfl)).trans (congrFun (f15 55 (of_decide_eq_true rfl)) 12)) ((f29 47 (of_decide_eq_true rfl)).trans (congrFun (f15 55 (of_decide_eq_true rfl)) 47)) ((f28 80 (of_decide_eq_true rfl)).trans (f15 80 (of_decide_eq_true rfl))) hI107
             have I87 : jI109 σ26 := jI109_fr ((f29 50 (of_decide_eq_true rfl)).trans (congrFun (f15 55 (of_decide_eq_true rfl)) 50)) hI109
             have I88 : jI110 σ26 := jI110_fr ((f28 86 (of_decide_eq_true rfl)).trans (f15 86 (of_decide_eq_true rfl))) ((f28 87 (of_decide_eq_true rfl)).trans (f15 87 (of_decide_eq_true rfl))) hI110
             have I89 : jI111 σ26 := jI111_fr ((f28 79 (of_decide_eq_true rfl)).trans (f15 79 (of_decide_eq_true rfl))) hI111
             have I90 : jI119 σ26 := jI119_fr ((f28 68 (of_decide_eq_true rfl)).trans (f15 68 (of_decide_eq_true rfl))) hI119
             have p91 : jKept σ26 := jKept.fr ((f28 75 (of_decide_eq_true rfl)).trans (f15 75 (of_decide_eq_true rfl))) ((f28 76 (of_decide_eq_true rfl)).trans (f15 76 (of_decide_eq_true rfl))) ((f28 77 (of_decide_eq_true rfl)).trans (f15 77 (of_decide_eq_true rfl))) hs_jKept
             have p92 : jBook σ26 := jBook.fr ((f29 47 (of_decide_eq_true rfl)).trans (congrFun (f15 55 (of_decide_eq_true rfl)) 47)) ((f29 10 (of_decide_eq_true rfl)).trans (congrFun (f15 55 (of_decide_eq_true rfl)) 10)) ((f28 81 (of_decide_eq_true rfl)).trans (f15 81 (of_decide_eq_true rfl))) hs_jBook
             have z93 : (σ26 9 0).toInt = (σ 9 0).toInt := (congrArg Int32.toInt (show σ26 9 0 = (σ 9 0) from ((congrFun (f28 9 (of_decide_eq_true rfl)) 0).trans (congrFun (f15 9 (of_decide_eq_true rfl)) 0))))
             have z94 : (σ26 55 15).toInt = (σ 55 15).toInt := (congrArg Int32.toInt (show σ26 55 15 = (σ 55 15) from ((f29 15 (of_decide_eq_true rfl)).trans (congrFun (f15 55 (of_decide_eq_true rfl)) 15))))
             exact by exact ih x68 σ26 τ _ _ ls (by have h9 := tx68; omega) ⟨I69, I70, I71, I72, I73, I74, I75, I76, I77, I78, I79, I80, I81, I82, I83, I84, I85, I86, I87, I88, I89, I90, p91, p92, (by omega), (show jTp (σ26 10) (σ26 63) (σ26 55 15).toInt by rw [show σ26 10 = σ 10 from ((f28 10 (of_decide_eq_true rfl)).trans (f15 10 (of_decide_eq_true rfl))), show σ26 63 = σ 63 from ((f28 63 (of_decide_eq_true rfl)).trans (f15 63 (of_decide_eq_true rfl)))]; exact hr0.le (by omega))⟩ hP hS (lv_sub hl [0, 1, 2, 3] rfl)
     · obtain ⟨q99, k95, k96, k97, k98⟩ := h20
       refine lv_pop hx hb dL_law_1009 rfl ?_
       refine lv_aload_n hx hb dL_law_1010 rfl (lv_at hl 1 rfl) ?_
       refine lv_aload_n hx hb dL_law_1011 rfl (lv_at hl 3 rfl) ?_
       refine lv_iload_n hx hb dL_law_1012 rfl (lv_at hl 0 rfl) ?_
       refine lv_iconst (v := 1) hx hb dL_law_1013 (of_decide_eq_true rfl) ?_
       refine lv_iadd hx hb dL_law_1014 ?_
       refine jtopr ex7.symm ?_
       exact by
        refine va_sld hx hb hX hbl hbA hS (jin tx7 (by omega) (by omega)) dL_law_1015 ?_
        refine lv_aload_n hx hb dL_law_1016 rfl (lv_at hl 3 rfl) ?_
        refine lv_iload_n hx hb dL_law_1017 rfl (lv_at hl 0 rfl) ?_
        refine lv_iconst (v := 2) hx hb dL_law_1018 (of_decide_eq_true rfl) ?_
        refine lv_iadd hx hb dL_law_1019 ?_
        refine jtopr ex9.symm ?_
        refine va_sld hx hb hX hbl hbA hS (jin tx9 (by omega) (by omega)) dL_law_1020 ?_
        refine lv_aload_n hx hb dL_law_1021 rfl (lv_at hl 3 rfl) ?_
        refine lv_iload_n hx hb dL_law_1022 rfl (lv_at hl 0 rfl) ?_
        exact by
         refine lv_iconst (v := 3) hx hb dL_law_1023 (of_decide_eq_true rfl) ?_
         refine lv_iadd hx hb dL_law_1024 ?_
         refine jtopr ex11.symm ?_
         refine va_sld hx hb hX hbl hbA hS (jin tx11 (by omega) (by omega)) dL_law_1025 ?_
         have I100 : jI106 σ13 := jI106_fr (congrFun (f15 55 (of_decide_eq_true rfl)) 32) (f15 70 (of_decide_eq_true rfl)) (f15 71 (of_decide_eq_true rfl)) (f15 72 (of_decide_eq_true rfl)) hI106
         have z101 : (σ13 55 32).toInt = (σ 55 32).toInt := (congrArg Int32.toInt (show σ13 55 32 = (σ 55 32) from (congrFun (f15 55 (of_decide_eq_true rfl)) 32)))
         refine jcallV (As := [.int (xs x7.toNatClampNeg), .int (xs x9.toNatClampNeg), .int (xs x11.toNatClampNeg)]) (rest := []) ⟨hx, hb, hml, hown, hts⟩ hK hP hA hS hZ (c_X12_act l D cI cL ad zz hJ σ13 τ (xs x7.toNatClampNeg) ((xs x7.toNatClampNeg).toInt) rfl (xs x9.toNatClampNeg) ((xs x9.toNatClampNeg).toInt) rfl (xs x11.toNatClampNeg) ((xs x11.toNatClampNeg).toInt) rfl I100) cw_RL_132 (jc_55 cI cL ad σ13 τ) rfl ⟨Nat.le_of_ble_eq_true rfl, Nat.le_of_ble_eq_true rfl⟩ rfl rfl rfl hl.1 rfl (Nat.le_of_ble_eq_true rfl) dL_law_1026 ⟨Nat.le_of_ble_eq_true rfl, Nat.le_of_ble_eq_true rfl⟩ (fun r103 σ102 τ102 H locs h102 hP hS => ?_)
         obtain ⟨rfl, f104, f105, h102⟩ := h102
         rcases h102 with h107 | h108
         · exact by
            obtain ⟨q111, k109, k110⟩ := h107
            have q111 := q111.symm
            subst q111
            refine lv_pop hx hb dL_law_1029 rfl ?_
            refine lv_goto (tgt := 1357) hx hb dL_law_1030 (of_decide_eq_true rfl) ?_
            obtain ⟨x112, ex112⟩ : ∃ y : Int32, y = x0 + 6 := ⟨_, rfl⟩
            have tx112 : x112.toInt = x0.toInt + 6 := (jadd ex112 rfl jz_6 (by omega) (by omega)).trans (by omega)
            refine lv_iinc (v := x112) (lv' := [(3, .int x112), (2, .ref (ad 55)), (1, .ref (ad 0)), (0, .ref b)]) hx hb dL_law_1357 hl (k := 0) rfl (by rw [ex112]; rfl) (of_decide_eq_true rfl) rfl (fun ls hl => ?_)
            refine lv_goto (tgt := 18) hx hb dL_law_1360 (of_decide_eq_true rfl) ?_
            exact by
             have I113 : jI2 σ102 := jI2_fr ((congrFun (f104 2 (of_decide_eq_true rfl)) 0).trans (congrFun (f15 2 (of_decide_eq_true rfl)) 0)) ((congrFun (f104 2 (of_decide_eq_true rfl)) 1).trans (congrFun (f15 2 (of_decide_eq_true rfl)) 1)) ((congrFun (f104 2 (of_decide_eq_true rfl)) 2).trans (congrFun (f15 2 (of_decide_eq_true rfl)) 2)) ((congrFun (f104 2 (of_decide_eq_true rfl)) 3).trans (congrFun (f15 2 (of_decide_eq_true rfl)) 3)) ((f104 6 (of_decide_eq_true rfl)).trans (f15 6 (of_decide_eq_true rfl))) hI2
             have I114 : jI9 σ102 := jI9_fr ((congrFun (f104 9 (of_decide_eq_true rfl)) 0).trans (congrFun (f15 9 (of_decide_eq_true rfl)) 0)) ((f104 10 (of_decide_eq_true rfl)).trans (f15 10 (of_decide_eq_true rfl))) ((f104 11 (of_decide_eq_true rfl)).trans (f15 11 (of_decide_eq_true rfl))) hI9
             have I115 : jI12 σ102 := jI12_fr ((congrFun (f104 12 (of_decide_eq_true rfl)) 0).trans (congrFun (f15 12 (of_decide_eq_true rfl)) 0)) ((f104 13 (of_decide_eq_true rfl)).trans (f15 13 (of_decide_eq_true rfl))) hI12
             have I116 : jI16 σ102 := jI16_fr ((congrFun (f104 16 (of_decide_eq_true rfl)) 0).trans (congrFun (f15 16 (of_decide_eq_true rfl)) 0)) ((congrFun (f104 16 (of_decide_eq_true rfl)) 1).trans (congrFun (f15 16 (of_decide_eq_true rfl)) 1)) ((congrFun (f104 16 (of_decide_eq_true rfl)) 2).trans (congrFun (f15 16 (of_decide_eq_true rfl)) 2)) ((f104 17 (of_decide_eq_true rfl)).trans (f15 17 (of_decide_eq_true rfl))) hI16
             have I117 : jI18 σ102 := jI18_fr ((congrFun (f104 18 (of_decide_eq_true rfl)) 0).trans (congrFun (f15 18 (of_decide_eq_true rfl)) 0)) ((f104 19 (of_decide_eq_true rfl)).trans (f15 19 (of_decide_eq_true rfl))) hI18
             have I118 : jI22 σ102 := jI22_fr ((congrFun (f104 22 (of_decide_eq_true rfl)) 0).trans (congrFun (f15 22 (of_decide_eq_true rfl)) 0)) ((f104 23 (of_decide_eq_true rfl)).trans (f15 23 (of_decide_eq_true rfl))) hI22
             have I119 : jI31 σ102 := jI31_fr ((congrFun (f104 31 (of_decide_eq_true rfl)) 8).trans (congrFun (f15 31 (of_decide_eq_true rfl)) 8)) ((f104 33 (of_decide_eq_true rfl)).trans (f15 33 (of_decide_eq_true rfl))) ((f104 36 (of_decide_eq_true rfl)).trans (f15 36 (of_decide_eq_true rfl))) hI31
             have I120 : jI38 σ102 := jI38_fr (congrFun (f104 38 (of_decide_eq_true rfl)) 0) (congrFun (f104 38 (of_decide_eq_true rfl)) 1) (f104 39 (of_decide_eq_true rfl)) I17
             have I121 : jI43 σ102 := jI43_fr ((congrFun (f104 43 (of_decide_eq_true rfl)) 8).trans (congrFun (f15 43 (of_decide_eq_true rfl)) 8)) hI43
             have I122 : jI47 σ102 := jI47_fr ((congrFun (f104 47 (of_decide_eq_true rfl)) 0).trans (congrFun (f15 47 (of_decide_eq_true rfl)) 0)) ((f104 48 (of_decide_eq_true rfl)).trans (f15 48 (of_decide_eq_true rfl))) ((f104 49 (of_decide_eq_true rfl)).trans (f15 49 (of_decide_eq_true rfl))) hI47
             have I123 : jI50 σ102 := jI50_fr ((f104 52 (of_decide_eq_true rfl)).trans (f15 52 (of_decide_eq_true rfl))) hI50
             have I124 : jI101 σ102 := jI101_fr ((f105 4 (of_decide_eq_true rfl)).trans (congrFun (f15 55 (of_decide_eq_true rfl)) 4)) ((f105 5 (of_decide_eq_true rfl)).trans (congrFun (f15 55 (of_decide_eq_true rfl)) 5)) ((f104 56 (of_decide_eq_true rfl)).trans (f15 56 (of_decide_eq_true rfl))) ((f104 57 (of_decide_eq_true rfl)).trans (f15 57 (of_decide_eq_true rfl))) ((f104 58 (of_decide_eq_true rfl)).trans (f15 58 (of_decide_eq_true rfl))) ((f104 59 (of_decide_eq_true rfl)).trans (f15 59 (of_decide_eq_true rfl))) hI101
             have I125 : jI102 σ102 := jI102_fr ((f105 6 (of_decide_eq_true rfl)).trans (congrFun (f15 55 (of_decide_eq_true rfl)) 6)) ((f104 60 (of_decide_eq_true rfl)).trans (f15 60 (of_decide_eq_true rfl))) ((f104 61 (of_decide_eq_true rfl)).trans (f15 61 (of_decide_eq_true rfl))) hI102
             have I126 : jI103 σ102 := jI103_fr ((f105 9 (of_decide_eq_true rfl)).trans (congrFun (f15 55 (of_decide_eq_true rfl)) 9)) hI103
             have I127 : jI104 σ102 := jI104_fr ((f105 10 (of_decide_eq_true rfl)).trans (congrFun (f15 55 (of_decide_eq_true rfl)) 10)) ((f105 12 (of_decide_eq_true rfl)).trans (congrFun (f15 55 (of_decide_eq_true rfl)) 12)) ((f105 13 (of_decide_eq_true rfl)).trans (congrFun (f15 55 (of_decide_eq_true rfl)) 13)) ((f104 62 (of_decide_eq_true rfl)).trans (f15 62 (of_decide_eq_true rfl))) ((f104 67 (of_decide_eq_true rfl)).trans (f15 67 (of_decide_eq_true rfl))) hI104
             have I128 : jI105 σ102 := jI105_fr ((f105 15 (of_decide_eq_true rfl)).trans (congrFun (f15 55 (of_decide_eq_true rfl)) 15)) ((f104 65 (of_decide_eq_true rfl)).trans (f15 65 (of_decide_eq_true rfl))) hI105
             have I129 : jI106 σ102 := jI106_fr (f105 32 (of_decide_eq_true rfl)) (f104 70 (of_decide_eq_true rfl)) (f104 71 (of_decide_eq_true rfl)) (f104 72 (of_decide_eq_true rfl)) I100
             have I130 : jI107 σ102 := jI107_fr ((f105 12 (of_decide_eq_true rfl)).trans (congrFun (f15 55 (of_decide_eq_true rfl)) 12)) ((f105 47 (of_decide_eq_true rfl)).trans (congrFun (f15 55 (of_decide_eq_true rfl)) 47)) ((f104 80 (of_decide_eq_true rfl)).trans (f15 80 (of_decide_eq_true rfl))) hI107
             have I131 : jI109 σ102 := jI109_fr ((f105 50 (of_decide_eq_true rfl)).trans (congrFun (f15 55 (of_decide_eq_true rfl)) 50)) hI109
             have I132 : jI110 σ102 := jI110_fr ((f104 86 (of_decide_eq_true rfl)).trans (f15 86 (of_decide_eq_true rfl))) ((f104 87 (of_decide_eq_true rfl)).trans (f15 87 (of_decide_eq_true rfl))) hI110
             have I133 : jI111 σ102 := jI111_fr ((f104 79 (of_decide_eq_true rfl)).trans (f15 79 (of_decide_eq_true rfl))) hI111
             have I134 : jI119 σ102 := jI119_fr ((f104 68 (of_decide_eq_true rfl)).trans (f15 68 (of_decide_eq_true rfl))) hI119
             have p135 : jKept σ102 := jKept.fr ((f104 75 (of_decide_eq_true rfl)).trans (f15 75 (of_decide_eq_true rfl))) ((f104 76 (of_decide_eq_true rfl)).trans (f15 76 (of_decide_eq_true rfl))) ((f104 77 (of_decide_eq_true rfl)).trans (f15 77 (of_decide_eq_true rfl))) hs_jKept
             have p136 : jBook σ102 := jBook.fr ((f105 47 (of_decide_eq_true rfl)).trans (congrFun (f15 55 (of_decide_eq_true rfl)) 47)) ((f105 10 (of_decide_eq_true rfl)).trans (congrFun (f15 55 (of_decide_eq_true rfl)) 10)) ((f104 81 (of_decide_eq_true rfl)).trans (f15 81 (of_decide_eq_true rfl))) hs_jBook
             have z137 : (σ102 9 0).toInt = (σ 9 0).toInt := (congrArg Int32.toInt (show σ102 9 0 = (σ 9 0) from ((congrFun (f104 9 (of_decide_eq_true rfl)) 0).trans (congrFun (f15 9 (of_decide_eq_true rfl)) 0))))
             have z138 : (σ102 55 15).toInt = (σ 55 15).toInt := (congrArg Int32.toInt (show σ102 55 15 = (σ 55 15) from ((f105 15 (of_decide_eq_true rfl)).trans (congrFun (f15 55 (of_decide_eq_true rfl)) 15))))
             exact by exact ih x112 σ102 τ _ _ ls (by have h9 := tx112; omega) ⟨I113, I114, I115, I116, I117, I118, I119, I120, I121, I122, I123, I124, I125, I126, I127, I128, I129, I130, I131, I132, I133, I134, p135, p136, (by omega), (show jTp (σ102 10) (σ102 63) (σ102 55 15).toInt by rw [show σ102 10 = σ 10 from ((f104 10 (of_decide_eq_true rfl)).trans (f15 10 (of_decide_eq_true rfl))), show σ102 63 = σ 63 from ((f104 63 (of_decide_eq_true rfl)).trans (f15 63 (of_decide_eq_true rfl)))]; exact hr0.le (by omega))⟩ hP hS (lv_sub hl [0, 1, 2, 3] rfl)
         · obtain ⟨q143, k139, k140, k141, k142⟩ := h108
           refine lv_pop hx hb dL_law_1029 rfl ?_
           refine lv_goto (tgt := 1357) hx hb dL_law_1030 (of_decide_eq_true rfl) ?_
           obtain ⟨x144, ex144⟩ : ∃ y : Int32, y = x0 + 6 := ⟨_, rfl⟩
           exact by
            have tx144 : x144.toInt = x0.toInt + 6 := (jadd ex144 rfl jz_6 (by omega) (by omega)).trans (by omega)
            refine lv_iinc (v := x144) (lv' := [(3, .int x144), (2, .ref (ad 55)), (1, .ref (ad 0)), (0, .ref b)]) hx hb dL_law_1357 hl (k := 0) rfl (by rw [ex144]; rfl) (of_decide_eq_true rfl) rfl (fun ls hl => ?_)
            refine lv_goto (tgt := 18) hx hb dL_law_1360 (of_decide_eq_true rfl) ?_
            have I145 : jI2 σ102 := jI2_fr ((congrFun (f104 2 (of_decide_eq_true rfl)) 0).trans (congrFun (f15 2 (of_decide_eq_true rfl)) 0)) ((congrFun (f104 2 (of_decide_eq_true rfl)) 1).trans (congrFun (f15 2 (of_decide_eq_true rfl)) 1)) ((congrFun (f104 2 (of_decide_eq_true rfl)) 2).trans (congrFun (f15 2 (of_decide_eq_true rfl)) 2)) ((congrFun (f104 2 (of_decide_eq_true rfl)) 3).trans (congrFun (f15 2 (of_decide_eq_true rfl)) 3)) ((f104 6 (of_decide_eq_true rfl)).trans (f15 6 (of_decide_eq_true rfl))) hI2
            have I146 : jI9 σ102 := jI9_fr ((congrFun (f104 9 (of_decide_eq_true rfl)) 0).trans (congrFun (f15 9 (of_decide_eq_true rfl)) 0)) ((f104 10 (of_decide_eq_true rfl)).trans (f15 10 (of_decide_eq_true rfl))) ((f104 11 (of_decide_eq_true rfl)).trans (f15 11 (of_decide_eq_true rfl))) hI9
            have I147 : jI12 σ102 := jI12_fr ((congrFun (f104 12 (of_decide_eq_true rfl)) 0).trans (congrFun (f15 12 (of_decide_eq_true rfl)) 0)) ((f104 13 (of_decide_eq_true rfl)).trans (f15 13 (of_decide_eq_true rfl))) hI12
            have I148 : jI16 σ102 := jI16_fr ((congrFun (f104 16 (of_decide_eq_true rfl)) 0).trans (congrFun (f15 16 (of_decide_eq_true rfl)) 0)) ((congrFun (f104 16 (of_decide_eq_true rfl)) 1).trans (congrFun (f15 16 (of_decide_eq_true rfl)) 1)) ((congrFun (f104 16 (of_decide_eq_true rfl)) 2).trans (congrFun (f15 16 (of_decide_eq_true rfl)) 2)) ((f104 17 (of_decide_eq_true rfl)).trans (f15 17 (of_decide_eq_true rfl))) hI16
            have I149 : jI18 σ102 := jI18_fr ((congrFun (f104 18 (of_decide_eq_true rfl)) 0).trans (congrFun (f15 18 (of_decide_eq_true rfl)) 0)) ((f104 19 (of_decide_eq_true rfl)).trans (f15 19 (of_decide_eq_true rfl))) hI18
            have I150 : jI22 σ102 := jI22_fr ((congrFun (f104 22 (of_decide_eq_true rfl)) 0).trans (congrFun (f15 22 (of_decide_eq_true rfl)) 0)) ((f104 23 (of_decide_eq_true rfl)).trans (f15 23 (of_decide_eq_true rfl))) hI22
            exact by
             have I151 : jI31 σ102 := jI31_fr ((congrFun (f104 31 (of_decide_eq_true rfl)) 8).trans (congrFun (f15 31 (of_decide_eq_true rfl)) 8)) ((f104 33 (of_decide_eq_true rfl)).trans (f15 33 (of_decide_eq_true rfl))) ((f104 36 (of_decide_eq_true rfl)).trans (f15 36 (of_decide_eq_true rfl))) hI31
             have I152 : jI38 σ102 := jI38_fr (congrFun (f104 38 (of_decide_eq_true rfl)) 0) (congrFun (f104 38 (of_decide_eq_true rfl)) 1) (f104 39 (of_decide_eq_true rfl)) I17
             have I153 : jI43 σ102 := jI43_fr ((congrFun (f104 43 (of_decide_eq_true rfl)) 8).trans (congrFun (f15 43 (of_decide_eq_true rfl)) 8)) hI43
             have I154 : jI47 σ102 := jI47_fr ((congrFun (f104 47 (of_decide_eq_true rfl)) 0).trans (congrFun (f15 47 (of_decide_eq_true rfl)) 0)) ((f104 48 (of_decide_eq_true rfl)).trans (f15 48 (of_decide_eq_true rfl))) ((f104 49 (of_decide_eq_true rfl)).trans (f15 49 (of_decide_eq_true rfl))) hI47
             have I155 : jI50 σ102 := jI50_fr ((f104 52 (of_decide_eq_true rfl)).trans (f15 52 (of_decide_eq_true rfl))) hI50
             have I156 : jI101 σ102 := jI101_fr ((f105 4 (of_decide_eq_true rfl)).trans (congrFun (f15 55 (of_decide_eq_true rfl)) 4)) ((f105 5 (of_decide_eq_true rfl)).trans (congrFun (f15 55 (of_decide_eq_true rfl)) 5)) ((f104 56 (of_decide_eq_true rfl)).trans (f15 56 (of_decide_eq_true rfl))) ((f104 57 (of_decide_eq_true rfl)).trans (f15 57 (of_decide_eq_true rfl))) ((f104 58 (of_decide_eq_true rfl)).trans (f15 58 (of_decide_eq_true rfl))) ((f104 59 (of_decide_eq_true rfl)).trans (f15 59 (of_decide_eq_true rfl))) hI101
             have I157 : jI102 σ102 := jI102_fr ((f105 6 (of_decide_eq_true rfl)).trans (congrFun (f15 55 (of_decide_eq_true rfl)) 6)) ((f104 60 (of_decide_eq_true rfl)).trans (f15 60 (of_decide_eq_true rfl))) ((f104 61 (of_decide_eq_true rfl)).trans (f15 61 (of_decide_eq_true rfl))) hI102
             have I158 : jI103 σ102 := jI103_fr ((f105 9 (of_decide_eq_true rfl)).trans (congrFun (f15 55 (of_decide_eq_true rfl)) 9)) hI103
             have I159 : jI104 σ102 := jI104_fr ((f105 10 (of_decide_eq_true rfl)).trans (congrFun (f15 55 (of_decide_eq_true rfl)) 10)) ((f105 12 (of_decide_eq_true rfl)).trans (congrFun (f15 55 (of_decide_eq_true rfl)) 12)) ((f105 13 (of_decide_eq_true rfl)).trans (congrFun (f15 55 (of_decide_eq_true rfl)) 13)) ((f104 62 (of_decide_eq_true rfl)).trans (f15 62 (of_decide_eq_true rfl))) ((f104 67 (of_decide_eq_true rfl)).trans (f15 67 (of_decide_eq_true rfl))) hI104
             have I160 : jI105 σ102 := jI105_fr ((f105 15 (of_decide_eq_true rfl)).trans (congrFun (f15 55 (of_decide_eq_true rfl)) 15)) ((f104 65 (of_decide_eq_true rfl)).trans (f15 65 (of_decide_eq_true rfl))) hI105
             have I161 : jI106 σ102 := jI106_fr (f105 32 (of_decide_eq_true rfl)) (f104 70 (of_decide_eq_true rfl)) (f104 71 (of_decide_eq_true rfl)) (f104 72 (of_decide_eq_true rfl)) I100
             have I162 : jI107 σ102 := jI107_fr ((f105 12 (of_decide_eq_true rfl)).trans (congrFun (f15 55 (of_decide_eq_true rfl)) 12)) ((f105 47 (of_decide_eq_true rfl)).trans (congrFun (f15 55 (of_decide_eq_true rfl)) 47)) ((f104 80 (of_decide_eq_true rfl)).trans (f15 80 (of_decide_eq_true rfl))) hI107
             have I163 : jI109 σ102 := jI109_fr ((f105 50 (of_decide_eq_true rfl)).trans (congrFun (f15 55 (of_decide_eq_true rfl)) 50)) hI109
             have I164 : jI110 σ102 := jI110_fr ((f104 86 (of_decide_eq_true rfl)).trans (f15 86 (of_decide_eq_true rfl))) ((f104 87 (of_decide_eq_true rfl)).trans (f15 87 (of_decide_eq_true rfl))) hI110
             have I165 : jI111 σ102 := jI111_fr ((f104 79 (of_decide_eq_true rfl)).trans (f15 79 (of_decide_eq_true rfl))) hI111
             have I166 : jI119 σ102 := jI119_fr ((f104 68 (of_decide_eq_true rfl)).trans (f15 68 (of_decide_eq_true rfl))) hI119
             have p167 : jKept σ102 := jKept.fr ((f104 75 (of_decide_eq_true rfl)).trans (f15 75 (of_decide_eq_true rfl))) ((f104 76 (of_decide_eq_true rfl)).trans (f15 76 (of_decide_eq_true rfl))) ((f104 77 (of_decide_eq_true rfl)).trans (f15 77 (of_decide_eq_true rfl))) hs_jKept
             have p168 : jBook σ102 := jBook.fr ((f105 47 (of_decide_eq_true rfl)).trans (congrFun (f15 55 (of_decide_eq_true rfl)) 47)) ((f105 10 (of_decide_eq_true rfl)).trans (congrFun (f15 55 (of_decide_eq_true rfl)) 10)) ((f104 81 (of_decide_eq_true rfl)).trans (f15 81 (of_decide_eq_true rfl))) hs_jBook
             have z169 : (σ102 9 0).toInt = (σ 9 0).toInt := (congrArg Int32.toInt (show σ102 9 0 = (σ 9 0) from ((congrFun (f104 9 (of_decide_eq_true rfl)) 0).trans (congrFun (f15 9 (of_decide_eq_true rfl)) 0))))
             have z170 : (σ102 55 15).toInt = (σ 55 15).toInt := (congrArg Int32.toInt (show σ102 55 15 = (σ 55 15) from ((f105 15 (of_decide_eq_true rfl)).trans (congrFun (f15 55 (of_decide_eq_true rfl)) 15))))
             exact by exact ih x144 σ102 τ _ _ ls (by have h9 := tx144; omega) ⟨I145, I146, I147, I148, I149, I150, I151, I152, I153, I154, I155, I156, I157, I158, I159, I160, I161, I162, I163, I164, I165, I166, p167, p168, (by omega), (show jTp (σ102 10) (σ102 63) (σ102 55 15).toInt by rw [show σ102 10 = σ 10 from ((f104 10 (of_decide_eq_true rfl)).trans (f15 10 (of_decide_eq_true rfl))), show σ102 63 = σ 63 from ((f104 63 (of_decide_eq_true rfl)).trans (f15 63 (of_decide_eq_true rfl)))]; exact hr0.le (by omega))⟩ hP hS (lv_sub hl [0, 1, 2, 3] rfl)
set_option maxHeartbeats 4000000 in
set_option maxRecDepth 100000 in
theorem law_case_29 {p : Program} {e : Env} {s : State} {m : MethodId} {below : List Frame} {meth : Method} {c : Code} (l : Launch) {b L : Nat} {xs : Nat → Int32} {D : va_G} {cI cL : ClassId} {ad zz : Nat → Nat} (C0 : lw_At p s m meth c b L xs) (hJ : jD ad) (hA : ∀ q, jA ad q → s.heap.size ≤ q) (hK : jK D cI cL s) (hZ : jZ zz (fun q : Nat => s.heap.size ≤ q) s s.heap) {x0 : Int32} (hx0 : 0 ≤ x0.toInt) (hxL : x0.toInt + 6 ≤ (L : Int)) (hL : L ≤ 384) {σ : Nat → Nat → Int32} {τ : Nat → Nat → Int64} {H : Heap} {locs : List Loc} (hS : va_S (fun q : Nat => s.heap.size ≤ q) s.heap H locs) {ls : Array Slot} (hAll : jAll σ τ) (hP : jH D cI cL ad σ τ H) (hl : lv_has ls 4 [(3, .int x0), (2, .ref (ad 55)), (1, .ref (ad 0)), (0, .ref b)]) (ih : ∀ (x1 : Int32) (σ : Nat → Nat → Int32) (τ : Nat → Nat → Int64) (H : Heap) (locs : List Loc) (ls : Array Slot), x1.toInt = x0.toInt + 6 → jAll σ τ → jH D cI cL ad σ τ H → va_S (fun q : Nat => s.heap.size ≤ q) s.heap H locs → lv_has ls 4 [(3, .int x1), (2, .ref (ad 55)), (1, .ref (ad 0)), (0, .ref b)] → W p l e room_1 s m #[Value.ref b] below meth c H locs 90 348600 (lw_Z below #[Value.ref b] s) (F0 m 18 ls [])) : W p l e room_1 s m #[Value.ref b] below meth c H locs 90 348600 (lw_Z below #[Value.ref b] s) (F0 m 1033 ls []) := by
  obtain ⟨hx, hb, hr, hml, hown, hts0, hX, hbl, hlocks, hgv⟩ := C0
  have hts : ∀ w ∈ wsL_law, w.before #[Value.ref b] s = true := fun w h => hts0 w (wsL_law_in w h)
  have hbA : ¬ (fun q : Nat => s.heap.size ≤ q) b := Nat.not_le.mpr hbl
  have hown : s.vm.findClass RL = some m.cls := hown
  obtain ⟨hI2, hI9, hI12, hI16, hI18, hI22, hI31, hI38, hI43, hI47, hI50, hI101, hI102, hI103, hI104, hI105, hI106, hI107, hI109, hI110, hI111, hI119, hs_jKept, hs_jBook, ht0, hr0⟩ := hAll
  have hL9 : (L : Int) ≤ 384 := by omega
  obtain ⟨i1, w2, w3⟩ : (0 ≤ (σ 9 0).toInt ∧ (σ 9 0).toInt ≤ 80) ∧ (∀ k : Nat, k < 80 → 0 ≤ (σ 10 k).toInt ∧ (σ 10 k).toInt ≤ 255) ∧ (∀ k : Nat, k < 8 → 0 ≤ (σ 11 k).toInt ∧ (σ 11 k).toInt ≤ 3) := id hI9
  obtain ⟨i4, w5⟩ : (0 ≤ (σ 55 15).toInt ∧ (σ 55 15).toInt ≤ 80) ∧ (∀ k : Nat, k < 2 → (-1) ≤ (σ 65 k).toInt ∧ (σ 65 k).toInt ≤ 80) := id hI105
  refine lv_aload_n hx hb dL_law_1033 rfl (lv_at hl 2 rfl) ?_
  refine lv_aload_n hx hb dL_law_1034 rfl (lv_at hl 3 rfl) ?_
  refine lv_iload_n hx hb dL_law_1035 rfl (lv_at hl 0 rfl) ?_
  refine lv_iconst (v := 1) hx hb dL_law_1036 (of_decide_eq_true rfl) ?_
  have g6 := jrg (rfl : x0.toInt = x0.toInt)
  refine lv_iadd hx hb dL_law_1037 ?_
  refine lv_topi (fun x7 ex7 => ?_)
  exact by
   have tx7 : x7.toInt = x0.toInt + 1 := (jadd ex7 rfl jz_1 (by omega) (by omega)).trans (by omega)
   refine va_sld hx hb hX hbl hbA hS (jin tx7 (by omega) (by omega)) dL_law_1038 ?_
   have g8 := jrg (rfl : (xs x7.toNatClampNeg).toInt = (xs x7.toNatClampNeg).toInt)
   refine jcallV (As := [.int (xs x7.toNatClampNeg)]) (rest := []) ⟨hx, hb, hml, hown, hts⟩ hK hP hA hS hZ (c_X11_trace l D cI cL ad zz hJ σ τ (xs x7.toNatClampNeg) ((xs x7.toNatClampNeg).toInt) rfl hI38) cw_RL_133 (jc_0 cI cL ad σ τ) rfl ⟨Nat.le_of_ble_eq_true rfl, Nat.le_of_ble_eq_true rfl⟩ rfl rfl rfl hl.1 rfl (Nat.le_of_ble_eq_true rfl) dL_law_1039 ⟨Nat.le_of_ble_eq_true rfl, Nat.le_of_ble_eq_true rfl⟩ (fun r10 σ9 τ9 H locs h9 hP hS => ?_)
   obtain ⟨⟨rfl, rfl⟩, h9⟩ := h9
   rcases h9 with h11 | h12
   · obtain ⟨q16, k13, k14, k15⟩ := h11
     have q17 : r10 = (σ 42 (xs x7.toNatClampNeg).toNatClampNeg) := q16.trans rfl
     have q17 := q17.symm
     exact by
      subst q17
      refine lv_pop hx hb dL_law_1042 rfl ?_
      refine lv_aload_n hx hb dL_law_1043 rfl (lv_at hl 1 rfl) ?_
      refine lv_aload_n hx hb dL_law_1044 rfl (lv_at hl 3 rfl) ?_
      refine lv_iload_n hx hb dL_law_1045 rfl (lv_at hl 0 rfl) ?_
      refine lv_iconst (v := 1) hx hb dL_law_1046 (of_decide_eq_true rfl) ?_
      refine lv_iadd hx hb dL_law_1047 ?_
      refine jtopr ex7.symm ?_
      refine va_sld hx hb hX hbl hbA hS (jin tx7 (by omega) (by omega)) dL_law_1048 ?_
      exact by
       refine jcallV (As := [.int (xs x7.toNatClampNeg)]) (rest := []) ⟨hx, hb, hml, hown, hts⟩ hK hP hA hS hZ (c_X12_trace l D cI cL ad zz hJ σ τ (xs x7.toNatClampNeg) ((xs x7.toNatClampNeg).toInt) rfl) cw_RL_136 (jc_55 cI cL ad σ τ) rfl ⟨Nat.le_of_ble_eq_true rfl, Nat.le_of_ble_eq_true rfl⟩ rfl rfl rfl hl.1 rfl (Nat.le_of_ble_eq_true rfl) dL_law_1049 ⟨Nat.le_of_ble_eq_true rfl, Nat.le_of_ble_eq_true rfl⟩ (fun r19 σ18 τ18 H locs h18 hP hS => ?_)
       obtain ⟨⟨rfl, rfl⟩, h18⟩ := h18
       rcases h18 with h20 | h21
       · obtain ⟨q25, k22, k23, k24⟩ := h20
         have q26 : r19 = (σ 85 (xs x7.toNatClampNeg).toNatClampNeg) := q25.trans rfl
         have q26 := q26.symm
         subst q26
         refine lv_pop hx hb dL_law_1052 rfl ?_
         refine lv_goto (tgt := 1357) hx hb dL_law_1053 (of_decide_eq_true rfl) ?_
         obtain ⟨x27, ex27⟩ : ∃ y : Int32, y = x0 + 6 := ⟨_, rfl⟩
         exact by
          have tx27 : x27.toInt = x0.toInt + 6 := (jadd ex27 rfl jz_6 (by omega) (by omega)).trans (by omega)
          refine lv_iinc (v := x27) (lv' := [(3, .int x27), (2, .ref (ad 55)), (1, .ref (ad 0)), (0, .ref b)]) hx hb dL_law_1357 hl (k := 0) rfl (by rw [ex27]; rfl) (of_decide_eq_true rfl) rfl (fun ls hl => ?_)
          refine lv_goto (tgt := 18) hx hb dL_law_1360 (of_decide_eq_true rfl) ?_
          exact by exact ih x27 σ τ _ _ ls (by have h9 := tx27; omega) ⟨hI2, hI9, hI12, hI16, hI18, hI22, hI31, hI38, hI43, hI47, hI50, hI101, hI102, hI103, hI104, hI105, hI106, hI107, hI109, hI110, hI111, hI119, hs_jKept, hs_jBook, (by omega), hr0⟩ hP hS (lv_sub hl [0, 1, 2, 3] rfl)
       · obtain ⟨q29, k28⟩ := h21
         have q29 := q29.symm
         subst q29
         refine lv_pop hx hb dL_law_1052 rfl ?_
         refine lv_goto (tgt := 1357) hx hb dL_law_1053 (of_decide_eq_true rfl) ?_
         exact by
          obtain ⟨x30, ex30⟩ : ∃ y : Int32, y = x0 + 6 := ⟨_, rfl⟩
          have tx30 : x30.toInt = x0.toInt + 6 := (jadd ex30 rfl jz_6 (by omega) (by omega)).trans (by omega)
          refine lv_iinc (v := x30) (lv' := [(3, .int x30), (2, .ref (ad 55)), (1, .ref (ad 0)), (0, .ref b)]) hx hb dL_law_1357 hl (k := 0) rfl (by rw [ex30]; rfl) (of_decide_eq_true rfl) rfl (fun ls hl => ?_)
          refine lv_goto (tgt := 18) hx hb dL_law_1360 (of_decide_eq_true rfl) ?_
          exact by exact ih x30 σ τ _ _ ls (by have h9 := tx30; omega) ⟨hI2, hI9, hI12, hI16, hI18, hI22, hI31, hI38, hI43, hI47, hI50, hI101, hI102, hI103, hI104, hI105, hI106, hI107, hI109, hI110, hI111, hI119, hs_jKept, hs_jBook, (by omega), hr0⟩ hP hS (lv_sub hl [0, 1, 2, 3] rfl)
   · obtain ⟨q32, k31⟩ := h12
     have q32 := q32.symm
     subst q32
     refine lv_pop hx hb dL_law_1042 rfl ?_
     exact by
      refine lv_aload_n hx hb dL_law_1043 rfl (lv_at hl 1 rfl) ?_
      refine lv_aload_n hx hb dL_law_1044 rfl (lv_at hl 3 rfl) ?_
      refine lv_iload_n hx hb dL_law_1045 rfl (lv_at hl 0 rfl) ?_
      refine lv_iconst (v := 1) hx hb dL_law_1046 (of_decide_eq_true rfl) ?_
      refine lv_iadd hx hb dL_law_1047 ?_
      refine jtopr ex7.symm ?_
      refine va_sld hx hb hX hbl hbA hS (jin tx7 (by omega) (by omega)) dL_law_1048 ?_
      refine jcallV (As := [.int (xs x7.toNatClampNeg)]) (rest := []) ⟨hx, hb, hml, hown, hts⟩ hK hP hA hS hZ (c_X12_trace l D cI cL ad zz hJ σ τ (xs x7.toNatClampNeg) ((xs x7.toNatClampNeg).toInt) rfl) cw_RL_136 (jc_55 cI cL ad σ τ) rfl ⟨Nat.le_of_ble_eq_true rfl, Nat.le_of_ble_eq_true rfl⟩ rfl rfl rfl hl.1 rfl (Nat.le_of_ble_eq_true rfl) dL_law_1049 ⟨Nat.le_of_ble_eq_true rfl, Nat.le_of_ble_eq_true rfl⟩ (fun r34 σ33 τ33 H locs h33 hP hS => ?_)
      obtain ⟨⟨rfl, rfl⟩, h33⟩ := h33
      exact by
       rcases h33 with h35 | h36
       · obtain ⟨q40, k37, k38, k39⟩ := h35
         have q41 : r34 = (σ 85 (xs x7.toNatClampNeg).toNatClampNeg) := q40.trans rfl
         have q41 := q41.symm
         subst q41
         refine lv_pop hx hb dL_law_1052 rfl ?_
         refine lv_goto (tgt := 1357) hx hb dL_law_1053 (of_decide_eq_true rfl) ?_
         obtain ⟨x42, ex42⟩ : ∃ y : Int32, y = x0 + 6 := ⟨_, rfl⟩
         have tx42 : x42.toInt = x0.toInt + 6 := (jadd ex42 rfl jz_6 (by omega) (by omega)).trans (by omega)
         exact by
          refine lv_iinc (v := x42) (lv' := [(3, .int x42), (2, .ref (ad 55)), (1, .ref (ad 0)), (0, .ref b)]) hx hb dL_law_1357 hl (k := 0) rfl (by rw [ex42]; rfl) (of_decide_eq_true rfl) rfl (fun ls hl => ?_)
          refine lv_goto (tgt := 18) hx hb dL_law_1360 (of_decide_eq_true rfl) ?_
          exact by exact ih x42 σ τ _ _ ls (by have h9 := tx42; omega) ⟨hI2, hI9, hI12, hI16, hI18, hI22, hI31, hI38, hI43, hI47, hI50, hI101, hI102, hI103, hI104, hI105, hI106, hI107, hI109, hI110, hI111, hI119, hs_jKept, hs_jBook, (by omega), hr0⟩ hP hS (lv_sub hl [0, 1, 2, 3] rfl)
       · obtain ⟨q44, k43⟩ := h36
         have q44 := q44.symm
         subst q44
         refine lv_pop hx hb dL_law_1052 rfl ?_
         refine lv_goto (tgt := 1357) hx hb dL_law_1053 (of_decide_eq_true rfl) ?_
         obtain ⟨x45, ex45⟩ : ∃ y : Int32, y = x0 + 6 := ⟨_, rfl⟩
         exact by
          have tx45 : x45.toInt = x0.toInt + 6 := (jadd ex45 rfl jz_6 (by omega) (by omega)).trans (by omega)
          refine lv_iinc (v := x45) (lv' := [(3, .int x45), (2, .ref (ad 55)), (1, .ref (ad 0)), (0, .ref b)]) hx hb dL_law_1357 hl (k := 0) rfl (by rw [ex45]; rfl) (of_decide_eq_true rfl) rfl (fun ls hl => ?_)
          refine lv_goto (tgt := 18) hx hb dL_law_1360 (of_decide_eq_true rfl) ?_
          exact by exact ih x45 σ τ _ _ ls (by have h9 := tx45; omega) ⟨hI2, hI9, hI12, hI16, hI18, hI22, hI31, hI38, hI43, hI47, hI50, hI101, hI102, hI103, hI104, hI105, hI106, hI107, hI109, hI110, hI111, hI119, hs_jKept, hs_jBook, (by omega), hr0⟩ hP hS (lv_sub hl [0, 1, 2, 3] rfl)
set_option maxHeartbeats 4000000 in
set_option maxRecDepth 100000 in
theorem law_case_30 {p : Program} {e : Env} {s : State} {m : MethodId} {below : List Frame} {meth : Method} {c : Code} (l : Launch) {b L : Nat} {xs : Nat → Int32} {D : va_G} {cI cL : ClassId} {ad zz : Nat → Nat} (C0 : lw_At p s m meth c b L xs) (hJ : jD ad) (hA : ∀ q, jA ad q → s.heap.size ≤ q) (hK : jK D cI cL s) (hZ : jZ zz (fun q : Nat => s.heap.size ≤ q) s s.heap) {x0 : Int32} (hx0 : 0 ≤ x0.toInt) (hxL : x0.toInt + 6 ≤ (L : Int)) (hL : L ≤ 384) {σ : Nat → Nat → Int32} {τ : Nat → Nat → Int64} {H : Heap} {locs : List Loc} (hS : va_S (fun q : Nat => s.heap.size ≤ q) s.heap H locs) {ls : Array Slot} (hAll : jAll σ τ) (hP : jH D cI cL ad σ τ H) (hl : lv_has ls 4 [(3, .int x0), (2, .ref (ad 55)), (1, .ref (ad 0)), (0, .ref b)]) (ih : ∀ (x1 : Int32) (σ : Nat → Nat → Int32) (τ : Nat → Nat → Int64) (H : Heap) (locs : List Loc) (ls : Array Slot), x1.toInt = x0.toInt + 6 → jAll σ τ → jH D cI cL ad σ τ H → va_S (fun q : Nat => s.heap.size ≤ q) s.heap H locs → lv_has ls 4 [(3, .int x1), (2, .ref (ad 55)), (1, .ref (ad 0)), (0, .ref b)] → W p l e room_1 s m #[Value.ref b] below meth c H locs 90 348600 (lw_Z below #[Value.ref b] s) (F0 m 18 ls [])) : W p l e room_1 s m #[Value.ref b] below meth c H locs 90 348600 (lw_Z below #[Value.ref b] s) (F0 m 1056 ls []) := by
  obtain ⟨hx, hb, hr, hml, hown, hts0, hX, hbl, hlocks, hgv⟩ := C0
  have hts : ∀ w ∈ wsL_law, w.before #[Value.ref b] s = true := fun w h => hts0 w (wsL_law_in w h)
  have hbA : ¬ (fun q : Nat => s.heap.size ≤ q) b := Nat.not_le.mpr hbl
  have hown : s.vm.findClass RL = some m.cls := hown
  obtain ⟨hI2, hI9, hI12, hI16, hI18, hI22, hI31, hI38, hI43, hI47, hI50, hI101, hI102, hI103, hI104, hI105, hI106, hI107, hI109, hI110, hI111, hI119, hs_jKept, hs_jBook, ht0, hr0⟩ := hAll
  have hL9 : (L : Int) ≤ 384 := by omega
  obtain ⟨i1, w2, w3⟩ : (0 ≤ (σ 9 0).toInt ∧ (σ 9 0).toInt ≤ 80) ∧ (∀ k : Nat, k < 80 → 0 ≤ (σ 10 k).toInt ∧ (σ 10 k).toInt ≤ 255) ∧ (∀ k : Nat, k < 8 → 0 ≤ (σ 11 k).toInt ∧ (σ 11 k).toInt ≤ 3) := id hI9
  obtain ⟨i4, w5⟩ : (0 ≤ (σ 55 15).toInt ∧ (σ 55 15).toInt ≤ 80) ∧ (∀ k : Nat, k < 2 → (-1) ≤ (σ 65 k).toInt ∧ (σ 65 k).toInt ≤ 80) := id hI105
  refine lv_aload_n hx hb dL_law_1056 rfl (lv_at hl 2 rfl) ?_
  refine lv_aload_n hx hb dL_law_1057 rfl (lv_at hl 3 rfl) ?_
  refine lv_iload_n hx hb dL_law_1058 rfl (lv_at hl 0 rfl) ?_
  refine lv_iconst (v := 1) hx hb dL_law_1059 (of_decide_eq_true rfl) ?_
  have g6 := jrg (rfl : x0.toInt = x0.toInt)
  refine lv_iadd hx hb dL_law_1060 ?_
  refine lv_topi (fun x7 ex7 => ?_)
  exact by
   have tx7 : x7.toInt = x0.toInt + 1 := (jadd ex7 rfl jz_1 (by omega) (by omega)).trans (by omega)
   refine va_sld hx hb hX hbl hbA hS (jin tx7 (by omega) (by omega)) dL_law_1061 ?_
   have g8 := jrg (rfl : (xs x7.toNatClampNeg).toInt = (xs x7.toNatClampNeg).toInt)
   refine lv_aload_n hx hb dL_law_1062 rfl (lv_at hl 3 rfl) ?_
   refine lv_iload_n hx hb dL_law_1063 rfl (lv_at hl 0 rfl) ?_
   refine lv_iconst (v := 2) hx hb dL_law_1064 (of_decide_eq_true rfl) ?_
   refine lv_iadd hx hb dL_law_1065 ?_
   refine lv_topi (fun x9 ex9 => ?_)
   have tx9 : x9.toInt = x0.toInt + 2 := (jadd ex9 rfl jz_2 (by omega) (by omega)).trans (by omega)
   exact by
    refine va_sld hx hb hX hbl hbA hS (jin tx9 (by omega) (by omega)) dL_law_1066 ?_
    have g10 := jrg (rfl : (xs x9.toNatClampNeg).toInt = (xs x9.toNatClampNeg).toInt)
    refine jcallV (As := [.int (xs x7.toNatClampNeg), .int (xs x9.toNatClampNeg)]) (rest := []) ⟨hx, hb, hml, hown, hts⟩ hK hP hA hS hZ (c_X11_keep l D cI cL ad zz hJ σ τ (xs x7.toNatClampNeg) ((xs x7.toNatClampNeg).toInt) rfl (xs x9.toNatClampNeg) ((xs x9.toNatClampNeg).toInt) rfl hI38 hI50) cw_RL_137 (jc_0 cI cL ad σ τ) rfl ⟨Nat.le_of_ble_eq_true rfl, Nat.le_of_ble_eq_true rfl⟩ rfl rfl rfl hl.1 rfl (Nat.le_of_ble_eq_true rfl) dL_law_1067 ⟨Nat.le_of_ble_eq_true rfl, Nat.le_of_ble_eq_true rfl⟩ (fun r12 σ11 τ11 H locs h11 hP hS => ?_)
    obtain ⟨rfl, f13, I14, h11⟩ := h11
    rcases h11 with h16 | h17 | h18
    · obtain ⟨q22, k19, k20, k21⟩ := h16
      have q22 := q22.symm
      subst q22
      refine lv_pop hx hb dL_law_1070 rfl ?_
      refine lv_aload_n hx hb dL_law_1071 rfl (lv_at hl 1 rfl) ?_
      refine lv_aload_n hx hb dL_law_1072 rfl (lv_at hl 3 rfl) ?_
      refine lv_iload_n hx hb dL_law_1073 rfl (lv_at hl 0 rfl) ?_
      refine lv_iconst (v := 1) hx hb dL_law_1074 (of_decide_eq_true rfl) ?_
      refine lv_iadd hx hb dL_law_1075 ?_
      refine jtopr ex7.symm ?_
      exact by
       refine va_sld hx hb hX hbl hbA hS (jin tx7 (by omega) (by omega)) dL_law_1076 ?_
       refine lv_aload_n hx hb dL_law_1077 rfl (lv_at hl 3 rfl) ?_
       refine lv_iload_n hx hb dL_law_1078 rfl (lv_at hl 0 rfl) ?_
       refine lv_iconst (v := 2) hx hb dL_law_1079 (of_decide_eq_true rfl) ?_
       refine lv_iadd hx hb dL_law_1080 ?_
       refine jtopr ex9.symm ?_
       refine va_sld hx hb hX hbl hbA hS (jin tx9 (by omega) (by omega)) dL_law_1081 ?_
       have I23 : jI106 σ11 := jI106_fr (congrFun (f13 55 (of_decide_eq_true rfl)) 32) (f13 70 (of_decide_eq_true rfl)) (f13 71 (of_decide_eq_true rfl)) (f13 72 (of_decide_eq_true rfl)) hI106
       have I24 : jI110 σ11 := jI110_fr (f13 86 (of_decide_eq_true rfl)) (f13 87 (of_decide_eq_true rfl)) hI110
       exact by
        have z25 : (σ11 55 32).toInt = (σ 55 32).toInt := (congrArg Int32.toInt (show σ11 55 32 = (σ 55 32) from (congrFun (f13 55 (of_decide_eq_true rfl)) 32)))
        refine jcallV (As := [.int (xs x7.toNatClampNeg), .int (xs x9.toNatClampNeg)]) (rest := []) ⟨hx, hb, hml, hown, hts⟩ hK hP hA hS hZ (c_X12_keep l D cI cL ad zz hJ σ11 τ (xs x7.toNatClampNeg) ((xs x7.toNatClampNeg).toInt) rfl (xs x9.toNatClampNeg) ((xs x9.toNatClampNeg).toInt) rfl I23 I24) cw_RL_140 (jc_55 cI cL ad σ11 τ) rfl ⟨Nat.le_of_ble_eq_true rfl, Nat.le_of_ble_eq_true rfl⟩ rfl rfl rfl hl.1 rfl (Nat.le_of_ble_eq_true rfl) dL_law_1082 ⟨Nat.le_of_ble_eq_true rfl, Nat.le_of_ble_eq_true rfl⟩ (fun r27 σ26 τ26 H locs h26 hP hS => ?_)
        obtain ⟨rfl, f28, I29, h26⟩ := h26
        rcases h26 with h31 | h32 | h33
        · obtain ⟨q37, k34, k35, k36⟩ := h31
          have q37 := q37.symm
          subst q37
          refine lv_pop hx hb dL_law_1085 rfl ?_
          refine lv_goto (tgt := 1357) hx hb dL_law_1086 (of_decide_eq_true rfl) ?_
          obtain ⟨x38, ex38⟩ : ∃ y : Int32, y = x0 + 6 := ⟨_, rfl⟩
          exact by
           have tx38 : x38.toInt = x0.toInt + 6 := (jadd ex38 rfl jz_6 (by omega) (by omega)).trans (by omega)
           refine lv_iinc (v := x38) (lv' := [(3, .int x38), (2, .ref (ad 55)), (1, .ref (ad 0)), (0, .ref b)]) hx hb dL_law_1357 hl (k := 0) rfl (by rw [ex38]; rfl) (of_decide_eq_true rfl) rfl (fun ls hl => ?_)
           refine lv_goto (tgt := 18) hx hb dL_law_1360 (of_decide_eq_true rfl) ?_
           have I39 : jI2 σ26 := jI2_fr ((congrFun (f28 2 (of_decide_eq_true rfl)) 0).trans (congrFun (f13 2 (of_decide_eq_true rfl)) 0)) ((congrFun (f28 2 (of_decide_eq_true rfl)) 1).trans (congrFun (f13 2 (of_decide_eq_true rfl)) 1)) ((congrFun (f28 2 (of_decide_eq_true rfl)) 2).trans (congrFun (f13 2 (of_decide_eq_true rfl)) 2)) ((congrFun (f28 2 (of_decide_eq_true rfl)) 3).trans (congrFun (f13 2 (of_decide_eq_true rfl)) 3)) ((f28 6 (of_decide_eq_true rfl)).trans (f13 6 (of_decide_eq_true rfl))) hI2
           have I40 : jI9 σ26 := jI9_fr ((congrFun (f28 9 (of_decide_eq_true rfl)) 0).trans (congrFun (f13 9 (of_decide_eq_true rfl)) 0)) ((f28 10 (of_decide_eq_true rfl)).trans (f13 10 (of_decide_eq_true rfl))) ((f28 11 (of_decide_eq_true rfl)).trans (f13 11 (of_decide_eq_true rfl))) hI9
           have I41 : jI12 σ26 := jI12_fr ((congrFun (f28 12 (of_decide_eq_true rfl)) 0).trans (congrFun (f13 12 (of_decide_eq_true rfl)) 0)) ((f28 13 (of_decide_eq_true rfl)).trans (f13 13 (of_decide_eq_true rfl))) hI12
           have I42 : jI16 σ26 := jI16_fr ((congrFun (f28 16 (of_decide_eq_true rfl)) 0).trans (congrFun (f13 16 (of_decide_eq_true rfl)) 0)) ((congrFun (f28 16 (of_decide_eq_true rfl)) 1).trans (congrFun (f13 16 (of_decide_eq_true rfl)) 1)) ((congrFun (f28 16 (of_decide_eq_true rfl)) 2).trans (congrFun (f13 16 (of_decide_eq_true rfl)) 2)) ((f28 17 (of_decide_eq_true rfl)).trans (f13 17 (of_decide_eq_true rfl))) hI16
           have I43 : jI18 σ26 := jI18_fr ((congrFun (f28 18 (of_decide_eq_true rfl)) 0).trans (congrFun (f13 18 (of_decide_eq_true rfl)) 0)) ((f28 19 (of_decide_eq_true rfl)).trans (f13 19 (of_decide_eq_true rfl))) hI18
           have I44 : jI22 σ26 := jI22_fr ((congrFun (f28 22 (of_decide_eq_true rfl)) 0).trans (congrFun (f13 22 (of_decide_eq_true rfl)) 0)) ((f28 23 (of_decide_eq_true rfl)).trans (f13 23 (of_decide_eq_true rfl))) hI22
           exact by
            have I45 : jI31 σ26 := jI31_fr ((congrFun (f28 31 (of_decide_eq_true rfl)) 8).trans (congrFun (f13 31 (of_decide_eq_true rfl)) 8)) ((f28 33 (of_decide_eq_true rfl)).trans (f13 33 (of_decide_eq_true rfl))) ((f28 36 (of_decide_eq_true rfl)).trans (f13 36 (of_decide_eq_true rfl))) hI31
            have I46 : jI38 σ26 := jI38_fr ((congrFun (f28 38 (of_decide_eq_true rfl)) 0).trans (congrFun (f13 38 (of_decide_eq_true rfl)) 0)) ((congrFun (f28 38 (of_decide_eq_true rfl)) 1).trans (congrFun (f13 38 (of_decide_eq_true rfl)) 1)) ((f28 39 (of_decide_eq_true rfl)).trans (f13 39 (of_decide_eq_true rfl))) hI38
            have I47 : jI43 σ26 := jI43_fr ((congrFun (f28 43 (of_decide_eq_true rfl)) 8).trans (congrFun (f13 43 (of_decide_eq_true rfl)) 8)) hI43
            have I48 : jI47 σ26 := jI47_fr ((congrFun (f28 47 (of_decide_eq_true rfl)) 0).trans (congrFun (f13 47 (of_decide_eq_true rfl)) 0)) ((f28 48 (of_decide_eq_true rfl)).trans (f13 48 (of_decide_eq_true rfl))) ((f28 49 (of_decide_eq_true rfl)).trans (f13 49 (of_decide_eq_true rfl))) hI47
            have I49 : jI50 σ26 := jI50_fr (f28 52 (of_decide_eq_true rfl)) I14
            have I50 : jI101 σ26 := jI101_fr ((congrFun (f28 55 (of_decide_eq_true rfl)) 4).trans (congrFun (f13 55 (of_decide_eq_true rfl)) 4)) ((congrFun (f28 55 (of_decide_eq_true rfl)) 5).trans (congrFun (f13 55 (of_decide_eq_true rfl)) 5)) ((f28 56 (of_decide_eq_true rfl)).trans (f13 56 (of_decide_eq_true rfl))) ((f28 57 (of_decide_eq_true rfl)).trans (f13 57 (of_decide_eq_true rfl))) ((f28 58 (of_decide_eq_true rfl)).trans (f13 58 (of_decide_eq_true rfl))) ((f28 59 (of_decide_eq_true rfl)).trans (f13 59 (of_decide_eq_true rfl))) hI101
            have I51 : jI102 σ26 := jI102_fr ((congrFun (f28 55 (of_decide_eq_true rfl)) 6).trans (congrFun (f13 55 (of_decide_eq_true rfl)) 6)) ((f28 60 (of_decide_eq_true rfl)).trans (f13 60 (of_decide_eq_true rfl))) ((f28 61 (of_decide_eq_true rfl)).trans (f13 61 (of_decide_eq_true rfl))) hI102
            have I52 : jI103 σ26 := jI103_fr ((congrFun (f28 55 (of_decide_eq_true rfl)) 9).trans (congrFun (f13 55 (of_decide_eq_true rfl)) 9)) hI103
            have I53 : jI104 σ26 := jI104_fr ((congrFun (f28 55 (of_decide_eq_true rfl)) 10).trans (congrFun (f13 55 (of_decide_eq_true rfl)) 10)) ((congrFun (f28 55 (of_decide_eq_true rfl)) 12).trans (congrFun (f13 55 (of_decide_eq_true rfl)) 12)) ((congrFun (f28 55 (of_decide_eq_true rfl)) 13).trans (congrFun (f13 55 (of_decide_eq_true rfl)) 13)) ((f28 62 (of_decide_eq_true rfl)).trans (f13 62 (of_decide_eq_true rfl))) ((f28 67 (of_decide_eq_true rfl)).trans (f13 67 (of_decide_eq_true rfl))) hI104
            have I54 : jI105 σ26 := jI105_fr ((congrFun (f28 55 (of_decide_eq_true rfl)) 15).trans (congrFun (f13 55 (of_decide_eq_true rfl)) 15)) ((f28 65 (of_decide_eq_true rfl)).trans (f13 65 (of_decide_eq_true rfl))) hI105
            have I55 : jI106 σ26 := jI106_fr (congrFun (f28 55 (of_decide_eq_true rfl)) 32) (f28 70 (of_decide_eq_true rfl)) (f28 71 (of_decide_eq_true rfl)) (f28 72 (of_decide_eq_true rfl)) I23
            have I56 : jI107 σ26 := jI107_fr ((congrFun (f28 55 (of_decide_eq_true rfl)) 12).trans (congrFun (f13 55 (of_decide_eq_true rfl)) 12)) ((congrFun (f28 55 (of_decide_eq_true rfl)) 47).trans (congrFun (f13 55 (of_decide_eq_true rfl)) 47)) ((f28 80 (of_decide_eq_true rfl)).trans (f13 80 (of_decide_eq_true rfl))) hI107
            have I57 : jI109 σ26 := jI109_fr ((congrFun (f28 55 (of_decide_eq_true rfl)) 50).trans (congrFun (f13 55 (of_decide_eq_true rfl)) 50)) hI109
            have I58 : jI111 σ26 := jI111_fr ((f28 79 (of_decide_eq_true rfl)).trans (f13 79 (of_decide_eq_true rfl))) hI111
            have I59 : jI119 σ26 := jI119_fr ((f28 68 (of_decide_eq_true rfl)).trans (f13 68 (of_decide_eq_true rfl))) hI119
            have p60 : jKept σ26 := jKept.fr ((f28 75 (of_decide_eq_true rfl)).trans (f13 75 (of_decide_eq_true rfl))) ((f28 76 (of_decide_eq_true rfl)).trans (f13 76 (of_decide_eq_true rfl))) ((f28 77 (of_decide_eq_true rfl)).trans (f13 77 (of_decide_eq_true rfl))) hs_jKept
            have p61 : jBook σ26 := jBook.fr ((congrFun (f28 55 (of_decide_eq_true rfl)) 47).trans (congrFun (f13 55 (of_decide_eq_true rfl)) 47)) ((congrFun (f28 55 (of_decide_eq_true rfl)) 10).trans (congrFun (f13 55 (of_decide_eq_true rfl)) 10)) ((f28 81 (of_decide_eq_true rfl)).trans (f13 81 (of_decide_eq_true rfl))) hs_jBook
            have z62 : (σ26 9 0).toInt = (σ 9 0).toInt := (congrArg Int32.toInt (show σ26 9 0 = (σ 9 0) from ((congrFun (f28 9 (of_decide_eq_true rfl)) 0).trans (congrFun (f13 9 (of_decide_eq_true rfl)) 0))))
            have z63 : (σ26 55 15).toInt = (σ 55 15).toInt := (congrArg Int32.toInt (show σ26 55 15 = (σ 55 15) from ((congrFun (f28 55 (of_decide_eq_true rfl)) 15).trans (congrFun (f13 55 (of_decide_eq_true rfl)) 15))))
            exact by exact ih x38 σ26 τ _ _ ls (by have h9 := tx38; omega) ⟨I39, I40, I41, I42, I43, I44, I45, I46, I47, I48, I49, I50, I51, I52, I53, I54, I55, I56, I57, I29, I58, I59, p60, p61, (by omega), (show jTp (σ26 10) (σ26 63) (σ26 55 15).toInt by rw [show σ26 10 = σ 10 from ((f28 10 (of_decide_eq_true rfl)).trans (f13 10 (of_decide_eq_true rfl))), show σ26 63 = σ 63 from ((f28 63 (of_decide_eq_true rfl)).trans (f13 63 (of_decide_eq_true rfl)))]; exact hr0.le (by omega))⟩ hP hS (lv_sub hl [0, 1, 2, 3] rfl)
        · obtain ⟨q67, k64, k65, k66⟩ := h32
          exact absurd (by omega : False) id
        · obtain ⟨q70, k68, k69⟩ := h33
          exact absurd (by omega : False) id
    · obtain ⟨q74, k71, k72, k73⟩ := h17
      have q74 := q74.symm
      subst q74
      refine lv_pop hx hb dL_law_1070 rfl ?_
      refine lv_aload_n hx hb dL_law_1071 rfl (lv_at hl 1 rfl) ?_
      refine lv_aload_n hx hb dL_law_1072 rfl (lv_at hl 3 rfl) ?_
      refine lv_iload_n hx hb dL_law_1073 rfl (lv_at hl 0 rfl) ?_
      refine lv_iconst (v := 1) hx hb dL_law_1074 (of_decide_eq_true rfl) ?_
      refine lv_iadd hx hb dL_law_1075 ?_
      refine jtopr ex7.symm ?_
      exact by
       refine va_sld hx hb hX hbl hbA hS (jin tx7 (by omega) (by omega)) dL_law_1076 ?_
       refine lv_aload_n hx hb dL_law_1077 rfl (lv_at hl 3 rfl) ?_
       refine lv_iload_n hx hb dL_law_1078 rfl (lv_at hl 0 rfl) ?_
       refine lv_iconst (v := 2) hx hb dL_law_1079 (of_decide_eq_true rfl) ?_
       refine lv_iadd hx hb dL_law_1080 ?_
       refine jtopr ex9.symm ?_
       refine va_sld hx hb hX hbl hbA hS (jin tx9 (by omega) (by omega)) dL_law_1081 ?_
       have I75 : jI106 σ11 := jI106_fr (congrFun (f13 55 (of_decide_eq_true rfl)) 32) (f13 70 (of_decide_eq_true rfl)) (f13 71 (of_decide_eq_true rfl)) (f13 72 (of_decide_eq_true rfl)) hI106
       have I76 : jI110 σ11 := jI110_fr (f13 86 (of_decide_eq_true rfl)) (f13 87 (of_decide_eq_true rfl)) hI110
       exact by
        have z77 : (σ11 55 32).toInt = (σ 55 32).toInt := (congrArg Int32.toInt (show σ11 55 32 = (σ 55 32) from (congrFun (f13 55 (of_decide_eq_true rfl)) 32)))
        refine jcallV (As := [.int (xs x7.toNatClampNeg), .int (xs x9.toNatClampNeg)]) (rest := []) ⟨hx, hb, hml, hown, hts⟩ hK hP hA hS hZ (c_X12_keep l D cI cL ad zz hJ σ11 τ (xs x7.toNatClampNeg) ((xs x7.toNatClampNeg).toInt) rfl (xs x9.toNatClampNeg) ((xs x9.toNatClampNeg).toInt) rfl I75 I76) cw_RL_140 (jc_55 cI cL ad σ11 τ) rfl ⟨Nat.le_of_ble_eq_true rfl, Nat.le_of_ble_eq_true rfl⟩ rfl rfl rfl hl.1 rfl (Nat.le_of_ble_eq_true rfl) dL_law_1082 ⟨Nat.le_of_ble_eq_true rfl, Nat.le_of_ble_eq_true rfl⟩ (fun r79 σ78 τ78 H locs h78 hP hS => ?_)
        obtain ⟨rfl, f80, I81, h78⟩ := h78
        rcases h78 with h83 | h84 | h85
        · obtain ⟨q89, k86, k87, k88⟩ := h83
          exact absurd (by omega : False) id
        · obtain ⟨q93, k90, k91, k92⟩ := h84
          have q93 := q93.symm
          subst q93
          refine lv_pop hx hb dL_law_1085 rfl ?_
          refine lv_goto (tgt := 1357) hx hb dL_law_1086 (of_decide_eq_true rfl) ?_
          obtain ⟨x94, ex94⟩ : ∃ y : Int32, y = x0 + 6 := ⟨_, rfl⟩
          exact by
           have tx94 : x94.toInt = x0.toInt + 6 := (jadd ex94 rfl jz_6 (by omega) (by omega)).trans (by omega)
           refine lv_iinc (v := x94) (lv' := [(3, .int x94), (2, .ref (ad 55)), (1, .ref (ad 0)), (0, .ref b)]) hx hb dL_law_1357 hl (k := 0) rfl (by rw [ex94]; rfl) (of_decide_eq_true rfl) rfl (fun ls hl => ?_)
           refine lv_goto (tgt := 18) hx hb dL_law_1360 (of_decide_eq_true rfl) ?_
           have I95 : jI2 σ78 := jI2_fr ((congrFun (f80 2 (of_decide_eq_true rfl)) 0).trans (congrFun (f13 2 (of_decide_eq_true rfl)) 0)) ((congrFun (f80 2 (of_decide_eq_true rfl)) 1).trans (congrFun (f13 2 (of_decide_eq_true rfl)) 1)) ((congrFun (f80 2 (of_decide_eq_true rfl)) 2).trans (congrFun (f13 2 (of_decide_eq_true rfl)) 2)) ((congrFun (f80 2 (of_decide_eq_true rfl)) 3).trans (congrFun (f13 2 (of_decide_eq_true rfl)) 3)) ((f80 6 (of_decide_eq_true rfl)).trans (f13 6 (of_decide_eq_true rfl))) hI2
           have I96 : jI9 σ78 := jI9_fr ((congrFun (f80 9 (of_decide_eq_true rfl)) 0).trans (congrFun (f13 9 (of_decide_eq_true rfl)) 0)) ((f80 10 (of_decide_eq_true rfl)).trans (f13 10 (of_decide_eq_true rfl))) ((f80 11 (of_decide_eq_true rfl)).trans (f13 11 (of_decide_eq_true rfl))) hI9
           have I97 : jI12 σ78 := jI12_fr ((congrFun (f80 12 (of_decide_eq_true rfl)) 0).trans (congrFun (f13 12 (of_decide_eq_true rfl)) 0)) ((f80 13 (of_decide_eq_true rfl)).trans (f13 13 (of_decide_eq_true rfl))) hI12
           have I98 : jI16 σ78 := jI16_fr ((congrFun (f80 16 (of_decide_eq_true rfl)) 0).trans (congrFun (f13 16 (of_decide_eq_true rfl)) 0)) ((congrFun (f80 16 (of_decide_eq_true rfl)) 1).trans (congrFun (f13 16 (of_decide_eq_true rfl)) 1)) ((congrFun (f80 16 (of_decide_eq_true rfl)) 2).trans (congrFun (f13 16 (of_decide_eq_true rfl)) 2)) ((f80 17 (of_decide_eq_true rfl)).trans (f13 17 (of_decide_eq_true rfl))) hI16
           have I99 : jI18 σ78 := jI18_fr ((congrFun (f80 18 (of_decide_eq_true rfl)) 0).trans (congrFun (f13 18 (of_decide_eq_true rfl)) 0)) ((f80 19 (of_decide_eq_true rfl)).trans (f13 19 (of_decide_eq_true rfl))) hI18
           have I100 : jI22 σ78 := jI22_fr ((congrFun (f80 22 (of_decide_eq_true rfl)) 0).trans (congrFun (f13 22 (of_decide_eq_true rfl)) 0)) ((f80 23 (of_decide_eq_true rfl)).trans (f13 23 (of_decide_eq_true rfl))) hI22
           exact by
            have I101 : jI31 σ78 := jI31_fr ((congrFun (f80 31 (of_decide_eq_true rfl)) 8).trans (congrFun (f13 31 (of_decide_eq_true rfl)) 8)) ((f80 33 (of_decide_eq_true rfl)).trans (f13 33 (of_decide_eq_true rfl))) ((f80 36 (of_decide_eq_true rfl)).trans (f13 36 (of_decide_eq_true rfl))) hI31
            have I102 : jI38 σ78 := jI38_fr ((congrFun (f80 38 (of_decide_eq_true rfl)) 0).trans (congrFun (f13 38 (of_decide_eq_true rfl)) 0)) ((congrFun (f80 38 (of_decide_eq_true rfl)) 1).trans (congrFun (f13 38 (of_decide_eq_true rfl)) 1)) ((f80 39 (of_decide_eq_true rfl)).trans (f13 39 (of_decide_eq_true rfl))) hI38
            have I103 : jI43 σ78 := jI43_fr ((congrFun (f80 43 (of_decide_eq_true rfl)) 8).trans (congrFun (f13 43 (of_decide_eq_true rfl)) 8)) hI43
            have I104 : jI47 σ78 := jI47_fr ((congrFun (f80 47 (of_decide_eq_true rfl)) 0).trans (congrFun (f13 47 (of_decide_eq_true rfl)) 0)) ((f80 48 (of_decide_eq_true rfl)).trans (f13 48 (of_decide_eq_true rfl))) ((f80 49 (of_decide_eq_true rfl)).trans (f13 49 (of_decide_eq_true rfl))) hI47
            have I105 : jI50 σ78 := jI50_fr (f80 52 (of_decide_eq_true rfl)) I14
            have I106 : jI101 σ78 := jI101_fr ((congrFun (f80 55 (of_decide_eq_true rfl)) 4).trans (congrFun (f13 55 (of_decide_eq_true rfl)) 4)) ((congrFun (f80 55 (of_decide_eq_true rfl)) 5).trans (congrFun (f13 55 (of_decide_eq_true rfl)) 5)) ((f80 56 (of_decide_eq_true rfl)).trans (f13 56 (of_decide_eq_true rfl))) ((f80 57 (of_decide_eq_true rfl)).trans (f13 57 (of_decide_eq_true rfl))) ((f80 58 (of_decide_eq_true rfl)).trans (f13 58 (of_decide_eq_true rfl))) ((f80 59 (of_decide_eq_true rfl)).trans (f13 59 (of_decide_eq_true rfl))) hI101
            have I107 : jI102 σ78 := jI102_fr ((congrFun (f80 55 (of_decide_eq_true rfl)) 6).trans (congrFun (f13 55 (of_decide_eq_true rfl)) 6)) ((f80 60 (of_decide_eq_true rfl)).trans (f13 60 (of_decide_eq_true rfl))) ((f80 61 (of_decide_eq_true rfl)).trans (f13 61 (of_decide_eq_true rfl))) hI102
            have I108 : jI103 σ78 := jI103_fr ((congrFun (f80 55 (of_decide_eq_true rfl)) 9).trans (congrFun (f13 55 (of_decide_eq_true rfl)) 9)) hI103
            have I109 : jI104 σ78 := jI104_fr ((congrFun (f80 55 (of_decide_eq_true rfl)) 10).trans (congrFun (f13 55 (of_decide_eq_true rfl)) 10)) ((congrFun (f80 55 (of_decide_eq_true rfl)) 12).trans (congrFun (f13 55 (of_decide_eq_true rfl)) 12)) ((congrFun (f80 55 (of_decide_eq_true rfl)) 13).trans (congrFun (f13 55 (of_decide_eq_true rfl)) 13)) ((f80 62 (of_decide_eq_true rfl)).trans (f13 62 (of_decide_eq_true rfl))) ((f80 67 (of_decide_eq_true rfl)).trans (f13 67 (of_decide_eq_true rfl))) hI104
            have I110 : jI105 σ78 := jI105_fr ((congrFun (f80 55 (of_decide_eq_true rfl)) 15).trans (congrFun (f13 55 (of_decide_eq_true rfl)) 15)) ((f80 65 (of_decide_eq_true rfl)).trans (f13 65 (of_decide_eq_true rfl))) hI105
            have I111 : jI106 σ78 := jI106_fr (congrFun (f80 55 (of_decide_eq_true rfl)) 32) (f80 70 (of_decide_eq_true rfl)) (f80 71 (of_decide_eq_true rfl)) (f80 72 (of_decide_eq_true rfl)) I75
            have I112 : jI107 σ78 := jI107_fr ((congrFun (f80 55 (of_decide_eq_true rfl)) 12).trans (congrFun (f13 55 (of_decide_eq_true rfl)) 12)) ((congrFun (f80 55 (of_decide_eq_true rfl)) 47).trans (congrFun (f13 55 (of_decide_eq_true rfl)) 47)) ((f80 80 (of_decide_eq_true rfl)).trans (f13 80 (of_decide_eq_true rfl))) hI107
            have I113 : jI109 σ78 := jI109_fr ((congrFun (f80 55 (of_decide_eq_true rfl)) 50).trans (congrFun (f13 55 (of_decide_eq_true rfl)) 50)) hI109
            have I114 : jI111 σ78 := jI111_fr ((f80 79 (of_decide_eq_true rfl)).trans (f13 79 (of_decide_eq_true rfl))) hI111
            have I115 : jI119 σ78 := jI119_fr ((f80 68 (of_decide_eq_true rfl)).trans (f13 68 (of_decide_eq_true rfl))) hI119
            have p116 : jKept σ78 := jKept.fr ((f80 75 (of_decide_eq_true rfl)).trans (f13 75 (of_decide_eq_true rfl))) ((f80 76 (of_decide_eq_true rfl)).trans (f13 76 (of_decide_eq_true rfl))) ((f80 77 (of_decide_eq_true rfl)).trans (f13 77 (of_decide_eq_true rfl))) hs_jKept
            have p117 : jBook σ78 := jBook.fr ((congrFun (f80 55 (of_decide_eq_true rfl)) 47).trans (congrFun (f13 55 (of_decide_eq_true rfl)) 47)) ((congrFun (f80 55 (of_decide_eq_true rfl)) 10).trans (congrFun (f13 55 (of_decide_eq_true rfl)) 10)) ((f80 81 (of_decide_eq_true rfl)).trans (f13 81 (of_decide_eq_true rfl))) hs_jBook
            have z118 : (σ78 9 0).toInt = (σ 9 0).toInt := (congrArg Int32.toInt (show σ78 9 0 = (σ 9 0) from ((congrFun (f80 9 (of_decide_eq_true rfl)) 0).trans (congrFun (f13 9 (of_decide_eq_true rfl)) 0))))
            have z119 : (σ78 55 15).toInt = (σ 55 15).toInt := (congrArg Int32.toInt (show σ78 55 15 = (σ 55 15) from ((congrFun (f80 55 (of_decide_eq_true rfl)) 15).trans (congrFun (f13 55 (of_decide_eq_true rfl)) 15))))
            exact by exact ih x94 σ78 τ _ _ ls (by have h9 := tx94; omega) ⟨I95, I96, I97, I98, I99, I100, I101, I102, I103, I104, I105, I106, I107, I108, I109, I110, I111, I112, I113, I81, I114, I115, p116, p117, (by omega), (show jTp (σ78 10) (σ78 63) (σ78 55 15).toInt by rw [show σ78 10 = σ 10 from ((f80 10 (of_decide_eq_true rfl)).trans (f13 10 (of_decide_eq_true rfl))), show σ78 63 = σ 63 from ((f80 63 (of_decide_eq_true rfl)).trans (f13 63 (of_decide_eq_true rfl)))]; exact hr0.le (by omega))⟩ hP hS (lv_sub hl [0, 1, 2, 3] rfl)
        · obtain ⟨q122, k120, k121⟩ := h85
          have q122 := q122.symm
          subst q122
          refine lv_pop hx hb dL_law_1085 rfl ?_
          refine lv_goto (tgt := 1357) hx hb dL_law_1086 (of_decide_eq_true rfl) ?_
          obtain ⟨x123, ex123⟩ : ∃ y : Int32, y = x0 + 6 := ⟨_, rfl⟩
          exact by
           have tx123 : x123.toInt = x0.toInt + 6 := (jadd ex123 rfl jz_6 (by omega) (by omega)).trans (by omega)
           refine lv_iinc (v := x123) (lv' := [(3, .int x123), (2, .ref (ad 55)), (1, .ref (ad 0)), (0, .ref b)]) hx hb dL_law_1357 hl (k := 0) rfl (by rw [ex123]; rfl) (of_decide_eq_true rfl) rfl (fun ls hl => ?_)
           refine lv_goto (tgt := 18) hx hb dL_law_1360 (of_decide_eq_true rfl) ?_
           have I124 : jI2 σ78 := jI2_fr ((congrFun (f80 2 (of_decide_eq_true rfl)) 0).trans (congrFun (f13 2 (of_decide_eq_true rfl)) 0)) ((congrFun (f80 2 (of_decide_eq_true rfl)) 1).trans (congrFun (f13 2 (of_decide_eq_true rfl)) 1)) ((congrFun (f80 2 (of_decide_eq_true rfl)) 2).trans (congrFun (f13 2 (of_decide_eq_true rfl)) 2)) ((congrFun (f80 2 (of_decide_eq_true rfl)) 3).trans (congrFun (f13 2 (of_decide_eq_true rfl)) 3)) ((f80 6 (of_decide_eq_true rfl)).trans (f13 6 (of_decide_eq_true rfl))) hI2
           have I125 : jI9 σ78 := jI9_fr ((congrFun (f80 9 (of_decide_eq_true rfl)) 0).trans (congrFun (f13 9 (of_decide_eq_true rfl)) 0)) ((f80 10 (of_decide_eq_true rfl)).trans (f13 10 (of_decide_eq_true rfl))) ((f80 11 (of_decide_eq_true rfl)).trans (f13 11 (of_decide_eq_true rfl))) hI9
           have I126 : jI12 σ78 := jI12_fr ((congrFun (f80 12 (of_decide_eq_true rfl)) 0).trans (congrFun (f13 12 (of_decide_eq_true rfl)) 0)) ((f80 13 (of_decide_eq_true rfl)).trans (f13 13 (of_decide_eq_true rfl))) hI12
           have I127 : jI16 σ78 := jI16_fr ((congrFun (f80 16 (of_decide_eq_true rfl)) 0).trans (congrFun (f13 16 (of_decide_eq_true rfl)) 0)) ((congrFun (f80 16 (of_decide_eq_true rfl)) 1).trans (congrFun (f13 16 (of_decide_eq_true rfl)) 1)) ((congrFun (f80 16 (of_decide_eq_true rfl)) 2).trans (congrFun (f13 16 (of_decide_eq_true rfl)) 2)) ((f80 17 (of_decide_eq_true rfl)).trans (f13 17 (of_decide_eq_true rfl))) hI16
           have I128 : jI18 σ78 := jI18_fr ((congrFun (f80 18 (of_decide_eq_true rfl)) 0).trans (congrFun (f13 18 (of_decide_eq_true rfl)) 0)) ((f80 19 (of_decide_eq_true rfl)).trans (f13 19 (of_decide_eq_true rfl))) hI18
           have I129 : jI22 σ78 := jI22_fr ((congrFun (f80 22 (of_decide_eq_true rfl)) 0).trans (congrFun (f13 22 (of_decide_eq_true rfl)) 0)) ((f80 23 (of_decide_eq_true rfl)).trans (f13 23 (of_decide_eq_true rfl))) hI22
           exact by
            have I130 : jI31 σ78 := jI31_fr ((congrFun (f80 31 (of_decide_eq_true rfl)) 8).trans (congrFun (f13 31 (of_decide_eq_true rfl)) 8)) ((f80 33 (of_decide_eq_true rfl)).trans (f13 33 (of_decide_eq_true rfl))) ((f80 36 (of_decide_eq_true rfl)).trans (f13 36 (of_decide_eq_true rfl))) hI31
            have I131 : jI38 σ78 := jI38_fr ((congrFun (f80 38 (of_decide_eq_true rfl)) 0).trans (congrFun (f13 38 (of_decide_eq_true rfl)) 0)) ((congrFun (f80 38 (of_decide_eq_true rfl)) 1).trans (congrFun (f13 38 (of_decide_eq_true rfl)) 1)) ((f80 39 (of_decide_eq_true rfl)).trans (f13 39 (of_decide_eq_true rfl))) hI38
            have I132 : jI43 σ78 := jI43_fr ((congrFun (f80 43 (of_decide_eq_true rfl)) 8).trans (congrFun (f13 43 (of_decide_eq_true rfl)) 8)) hI43
            have I133 : jI47 σ78 := jI47_fr ((congrFun (f80 47 (of_decide_eq_true rfl)) 0).trans (congrFun (f13 47 (of_decide_eq_true rfl)) 0)) ((f80 48 (of_decide_eq_true rfl)).trans (f13 48 (of_decide_eq_true rfl))) ((f80 49 (of_decide_eq_true rfl)).trans (f13 49 (of_decide_eq_true rfl))) hI47
            have I134 : jI50 σ78 := jI50_fr (f80 52 (of_decide_eq_true rfl)) I14
            have I135 : jI101 σ78 := jI101_fr ((congrFun (f80 55 (of_decide_eq_true rfl)) 4).trans (congrFun (f13 55 (of_decide_eq_true rfl)) 4)) ((congrFun (f80 55 (of_decide_eq_true rfl)) 5).trans (congrFun (f13 55 (of_decide_eq_true rfl)) 5)) ((f80 56 (of_decide_eq_true rfl)).trans (f13 56 (of_decide_eq_true rfl))) ((f80 57 (of_decide_eq_true rfl)).trans (f13 57 (of_decide_eq_true rfl))) ((f80 58 (of_decide_eq_true rfl)).trans (f13 58 (of_decide_eq_true rfl))) ((f80 59 (of_decide_eq_true rfl)).trans (f13 59 (of_decide_eq_true rfl))) hI101
            have I136 : jI102 σ78 := jI102_fr ((congrFun (f80 55 (of_decide_eq_true rfl)) 6).trans (congrFun (f13 55 (of_decide_eq_true rfl)) 6)) ((f80 60 (of_decide_eq_true rfl)).trans (f13 60 (of_decide_eq_true rfl))) ((f80 61 (of_decide_eq_true rfl)).trans (f13 61 (of_decide_eq_true rfl))) hI102
            have I137 : jI103 σ78 := jI103_fr ((congrFun (f80 55 (of_decide_eq_true rfl)) 9).trans (congrFun (f13 55 (of_decide_eq_true rfl)) 9)) hI103
            have I138 : jI104 σ78 := jI104_fr ((congrFun (f80 55 (of_decide_eq_true rfl)) 10).trans (congrFun (f13 55 (of_decide_eq_true rfl)) 10)) ((congrFun (f80 55 (of_decide_eq_true rfl)) 12).trans (congrFun (f13 55 (of_decide_eq_true rfl)) 12)) ((congrFun (f80 55 (of_decide_eq_true rfl)) 13).trans (congrFun (f13 55 (of_decide_eq_true rfl)) 13)) ((f80 62 (of_decide_eq_true rfl)).trans (f13 62 (of_decide_eq_true rfl))) ((f80 67 (of_decide_eq_true rfl)).trans (f13 67 (of_decide_eq_true rfl))) hI104
            have I139 : jI105 σ78 := jI105_fr ((congrFun (f80 55 (of_decide_eq_true rfl)) 15).trans (congrFun (f13 55 (of_decide_eq_true rfl)) 15)) ((f80 65 (of_decide_eq_true rfl)).trans (f13 65 (of_decide_eq_true rfl))) hI105
            have I140 : jI106 σ78 := jI106_fr (congrFun (f80 55 (of_decide_eq_true rfl)) 32) (f80 70 (of_decide_eq_true rfl)) (f80 71 (of_decide_eq_true rfl)) (f80 72 (of_decide_eq_true rfl)) I75
            have I141 : jI107 σ78 := jI107_fr ((congrFun (f80 55 (of_decide_eq_true rfl)) 12).trans (congrFun (f13 55 (of_decide_eq_true rfl)) 12)) ((congrFun (f80 55 (of_decide_eq_true rfl)) 47).trans (congrFun (f13 55 (of_decide_eq_true rfl)) 47)) ((f80 80 (of_decide_eq_true rfl)).trans (f13 80 (of_decide_eq_true rfl))) hI107
            have I142 : jI109 σ78 := jI109_fr ((congrFun (f80 55 (of_decide_eq_true rfl)) 50).trans (congrFun (f13 55 (of_decide_eq_true rfl)) 50)) hI109
            have I143 : jI111 σ78 := jI111_fr ((f80 79 (of_decide_eq_true rfl)).trans (f13 79 (of_decide_eq_true rfl))) hI111
            have I144 : jI119 σ78 := jI119_fr ((f80 68 (of_decide_eq_true rfl)).trans (f13 68 (of_decide_eq_true rfl))) hI119
            have p145 : jKept σ78 := jKept.fr ((f80 75 (of_decide_eq_true rfl)).trans (f13 75 (of_decide_eq_true rfl))) ((f80 76 (of_decide_eq_true rfl)).trans (f13 76 (of_decide_eq_true rfl))) ((f80 77 (of_decide_eq_true rfl)).trans (f13 77 (of_decide_eq_true rfl))) hs_jKept
            have p146 : jBook σ78 := jBook.fr ((congrFun (f80 55 (of_decide_eq_true rfl)) 47).trans (congrFun (f13 55 (of_decide_eq_true rfl)) 47)) ((congrFun (f80 55 (of_decide_eq_true rfl)) 10).trans (congrFun (f13 55 (of_decide_eq_true rfl)) 10)) ((f80 81 (of_decide_eq_true rfl)).trans (f13 81 (of_decide_eq_true rfl))) hs_jBook
            have z147 : (σ78 9 0).toInt = (σ 9 0).toInt := (congrArg Int32.toInt (show σ78 9 0 = (σ 9 0) from ((congrFun (f80 9 (of_decide_eq_true rfl)) 0).trans (congrFun (f13 9 (of_decide_eq_true rfl)) 0))))
            have z148 : (σ78 55 15).toInt = (σ 55 15).toInt := (congrArg Int32.toInt (show σ78 55 15 = (σ 55 15) from ((congrFun (f80 55 (of_decide_eq_true rfl)) 15).trans (congrFun (f13 55 (of_decide_eq_true rfl)) 15))))
            exact by exact ih x123 σ78 τ _ _ ls (by have h9 := tx123; omega) ⟨I124, I125, I126, I127, I128, I129, I130, I131, I132, I133, I134, I135, I136, I137, I138, I139, I140, I141, I142, I81, I143, I144, p145, p146, (by omega), (show jTp (σ78 10) (σ78 63) (σ78 55 15).toInt by rw [show σ78 10 = σ 10 from ((f80 10 (of_decide_eq_true rfl)).trans (f13 10 (of_decide_eq_true rfl))), show σ78 63 = σ 63 from ((f80 63 (of_decide_eq_true rfl)).trans (f13 63 (of_decide_eq_true rfl)))]; exact hr0.le (by omega))⟩ hP hS (lv_sub hl [0, 1, 2, 3] rfl)
    · obtain ⟨q151, k149, k150⟩ := h18
      have q151 := q151.symm
      subst q151
      refine lv_pop hx hb dL_law_1070 rfl ?_
      refine lv_aload_n hx hb dL_law_1071 rfl (lv_at hl 1 rfl) ?_
      refine lv_aload_n hx hb dL_law_1072 rfl (lv_at hl 3 rfl) ?_
      refine lv_iload_n hx hb dL_law_1073 rfl (lv_at hl 0 rfl) ?_
      refine lv_iconst (v := 1) hx hb dL_law_1074 (of_decide_eq_true rfl) ?_
      refine lv_iadd hx hb dL_law_1075 ?_
      refine jtopr ex7.symm ?_
      exact by
       refine va_sld hx hb hX hbl hbA hS (jin tx7 (by omega) (by omega)) dL_law_1076 ?_
       refine lv_aload_n hx hb dL_law_1077 rfl (lv_at hl 3 rfl) ?_
       refine lv_iload_n hx hb dL_law_1078 rfl (lv_at hl 0 rfl) ?_
       refine lv_iconst (v := 2) hx hb dL_law_1079 (of_decide_eq_true rfl) ?_
       refine lv_iadd hx hb dL_law_1080 ?_
       refine jtopr ex9.symm ?_
       refine va_sld hx hb hX hbl hbA hS (jin tx9 (by omega) (by omega)) dL_law_1081 ?_
       have I152 : jI106 σ11 := jI106_fr (congrFun (f13 55 (of_decide_eq_true rfl)) 32) (f13 70 (of_decide_eq_true rfl)) (f13 71 (of_decide_eq_true rfl)) (f13 72 (of_decide_eq_true rfl)) hI106
       have I153 : jI110 σ11 := jI110_fr (f13 86 (of_decide_eq_true rfl)) (f13 87 (of_decide_eq_true rfl)) hI110
       exact by
        have z154 : (σ11 55 32).toInt = (σ 55 32).toInt := (congrArg Int32.toInt (show σ11 55 32 = (σ 55 32) from (congrFun (f13 55 (of_decide_eq_true rfl)) 32)))
        refine jcallV (As := [.int (xs x7.toNatClampNeg), .int (xs x9.toNatClampNeg)]) (rest := []) ⟨hx, hb, hml, hown, hts⟩ hK hP hA hS hZ (c_X12_keep l D cI cL ad zz hJ σ11 τ (xs x7.toNatClampNeg) ((xs x7.toNatClampNeg).toInt) rfl (xs x9.toNatClampNeg) ((xs x9.toNatClampNeg).toInt) rfl I152 I153) cw_RL_140 (jc_55 cI cL ad σ11 τ) rfl ⟨Nat.le_of_ble_eq_true rfl, Nat.le_of_ble_eq_true rfl⟩ rfl rfl rfl hl.1 rfl (Nat.le_of_ble_eq_true rfl) dL_law_1082 ⟨Nat.le_of_ble_eq_true rfl, Nat.le_of_ble_eq_true rfl⟩ (fun r156 σ155 τ155 H locs h155 hP hS => ?_)
        obtain ⟨rfl, f157, I158, h155⟩ := h155
        rcases h155 with h160 | h161 | h162
        · obtain ⟨q166, k163, k164, k165⟩ := h160
          exact absurd (by omega : False) id
        · obtain ⟨q170, k167, k168, k169⟩ := h161
          have q170 := q170.symm
          subst q170
          refine lv_pop hx hb dL_law_1085 rfl ?_
          refine lv_goto (tgt := 1357) hx hb dL_law_1086 (of_decide_eq_true rfl) ?_
          obtain ⟨x171, ex171⟩ : ∃ y : Int32, y = x0 + 6 := ⟨_, rfl⟩
          exact by
           have tx171 : x171.toInt = x0.toInt + 6 := (jadd ex171 rfl jz_6 (by omega) (by omega)).trans (by omega)
           refine lv_iinc (v := x171) (lv' := [(3, .int x171), (2, .ref (ad 55)), (1, .ref (ad 0)), (0, .ref b)]) hx hb dL_law_1357 hl (k := 0) rfl (by rw [ex171]; rfl) (of_decide_eq_true rfl) rfl (fun ls hl => ?_)
           refine lv_goto (tgt := 18) hx hb dL_law_1360 (of_decide_eq_true rfl) ?_
           have I172 : jI2 σ155 := jI2_fr ((congrFun (f157 2 (of_decide_eq_true rfl)) 0).trans (congrFun (f13 2 (of_decide_eq_true rfl)) 0)) ((congrFun (f157 2 (of_decide_eq_true rfl)) 1).trans (congrFun (f13 2 (of_decide_eq_true rfl)) 1)) ((congrFun (f157 2 (of_decide_eq_true rfl)) 2).trans (congrFun (f13 2 (of_decide_eq_true rfl)) 2)) ((congrFun (f157 2 (of_decide_eq_true rfl)) 3).trans (congrFun (f13 2 (of_decide_eq_true rfl)) 3)) ((f157 6 (of_decide_eq_true rfl)).trans (f13 6 (of_decide_eq_true rfl))) hI2
           have I173 : jI9 σ155 := jI9_fr ((congrFun (f157 9 (of_decide_eq_true rfl)) 0).trans (congrFun (f13 9 (of_decide_eq_true rfl)) 0)) ((f157 10 (of_decide_eq_true rfl)).trans (f13 10 (of_decide_eq_true rfl))) ((f157 11 (of_decide_eq_true rfl)).trans (f13 11 (of_decide_eq_true rfl))) hI9
           have I174 : jI12 σ155 := jI12_fr ((congrFun (f157 12 (of_decide_eq_true rfl)) 0).trans (congrFun (f13 12 (of_decide_eq_true rfl)) 0)) ((f157 13 (of_decide_eq_true rfl)).trans (f13 13 (of_decide_eq_true rfl))) hI12
           have I175 : jI16 σ155 := jI16_fr ((congrFun (f157 16 (of_decide_eq_true rfl)) 0).trans (congrFun (f13 16 (of_decide_eq_true rfl)) 0)) ((congrFun (f157 16 (of_decide_eq_true rfl)) 1).trans (congrFun (f13 16 (of_decide_eq_true rfl)) 1)) ((congrFun (f157 16 (of_decide_eq_true rfl)) 2).trans (congrFun (f13 16 (of_decide_eq_true rfl)) 2)) ((f157 17 (of_decide_eq_true rfl)).trans (f13 17 (of_decide_eq_true rfl))) hI16
           have I176 : jI18 σ155 := jI18_fr ((congrFun (f157 18 (of_decide_eq_true rfl)) 0).trans (congrFun (f13 18 (of_decide_eq_true rfl)) 0)) ((f157 19 (of_decide_eq_true rfl)).trans (f13 19 (of_decide_eq_true rfl))) hI18
           have I177 : jI22 σ155 := jI22_fr ((congrFun (f157 22 (of_decide_eq_true rfl)) 0).trans (congrFun (f13 22 (of_decide_eq_true rfl)) 0)) ((f157 23 (of_decide_eq_true rfl)).trans (f13 23 (of_decide_eq_true rfl))) hI22
           exact by
            have I178 : jI31 σ155 := jI31_fr ((congrFun (f157 31 (of_decide_eq_true rfl)) 8).trans (congrFun (f13 31 (of_decide_eq_true rfl)) 8)) ((f157 33 (of_decide_eq_true rfl)).trans (f13 33 (of_decide_eq_true rfl))) ((f157 36 (of_decide_eq_true rfl)).trans (f13 36 (of_decide_eq_true rfl))) hI31
            have I179 : jI38 σ155 := jI38_fr ((congrFun (f157 38 (of_decide_eq_true rfl)) 0).trans (congrFun (f13 38 (of_decide_eq_true rfl)) 0)) ((congrFun (f157 38 (of_decide_eq_true rfl)) 1).trans (congrFun (f13 38 (of_decide_eq_true rfl)) 1)) ((f157 39 (of_decide_eq_true rfl)).trans (f13 39 (of_decide_eq_true rfl))) hI38
            have I180 : jI43 σ155 := jI43_fr ((congrFun (f157 43 (of_decide_eq_true rfl)) 8).trans (congrFun (f13 43 (of_decide_eq_true rfl)) 8)) hI43
            have I181 : jI47 σ155 := jI47_fr ((congrFun (f157 47 (of_decide_eq_true rfl)) 0).trans (congrFun (f13 47 (of_decide_eq_true rfl)) 0)) ((f157 48 (of_decide_eq_true rfl)).trans (f13 48 (of_decide_eq_true rfl))) ((f157 49 (of_decide_eq_true rfl)).trans (f13 49 (of_decide_eq_true rfl))) hI47
            have I182 : jI50 σ155 := jI50_fr (f157 52 (of_decide_eq_true rfl)) I14
            have I183 : jI101 σ155 := jI101_fr ((congrFun (f157 55 (of_decide_eq_true rfl)) 4).trans (congrFun (f13 55 (of_decide_eq_true rfl)) 4)) ((congrFun (f157 55 (of_decide_eq_true rfl)) 5).trans (congrFun (f13 55 (of_decide_eq_true rfl)) 5)) ((f157 56 (of_decide_eq_true rfl)).trans (f13 56 (of_decide_eq_true rfl))) ((f157 57 (of_decide_eq_true rfl)).trans (f13 57 (of_decide_eq_true rfl))) ((f157 58 (of_decide_eq_true rfl)).trans (f13 58 (of_decide_eq_true rfl))) ((f157 59 (of_decide_eq_true rfl)).trans (f13 59 (of_decide_eq_true rfl))) hI101
            have I184 : jI102 σ155 := jI102_fr ((congrFun (f157 55 (of_decide_eq_true rfl)) 6).trans (congrFun (f13 55 (of_decide_eq_true rfl)) 6)) ((f157 60 (of_decide_eq_true rfl)).trans (f13 60 (of_decide_eq_true rfl))) ((f157 61 (of_decide_eq_true rfl)).trans (f13 61 (of_decide_eq_true rfl))) hI102
            have I185 : jI103 σ155 := jI103_fr ((congrFun (f157 55 (of_decide_eq_true rfl)) 9).trans (congrFun (f13 55 (of_decide_eq_true rfl)) 9)) hI103
            have I186 : jI104 σ155 := jI104_fr ((congrFun (f157 55 (of_decide_eq_true rfl)) 10).trans (congrFun (f13 55 (of_decide_eq_true rfl)) 10)) ((congrFun (f157 55 (of_decide_eq_true rfl)) 12).trans (congrFun (f13 55 (of_decide_eq_true rfl)) 12)) ((congrFun (f157 55 (of_decide_eq_true rfl)) 13).trans (congrFun (f13 55 (of_decide_eq_true rfl)) 13)) ((f157 62 (of_decide_eq_true rfl)).trans (f13 62 (of_decide_eq_true rfl))) ((f157 67 (of_decide_eq_true rfl)).trans (f13 67 (of_decide_eq_true rfl))) hI104
            have I187 : jI105 σ155 := jI105_fr ((congrFun (f157 55 (of_decide_eq_true rfl)) 15).trans (congrFun (f13 55 (of_decide_eq_true rfl)) 15)) ((f157 65 (of_decide_eq_true rfl)).trans (f13 65 (of_decide_eq_true rfl))) hI105
            have I188 : jI106 σ155 := jI106_fr (congrFun (f157 55 (of_decide_eq_true rfl)) 32) (f157 70 (of_decide_eq_true rfl)) (f157 71 (of_decide_eq_true rfl)) (f157 72 (of_decide_eq_true rfl)) I152
            have I189 : jI107 σ155 := jI107_fr ((congrFun (f157 55 (of_decide_eq_true rfl)) 12).trans (congrFun (f13 55 (of_decide_eq_true rfl)) 12)) ((congrFun (f157 55 (of_decide_eq_true rfl)) 47).trans (congrFun (f13 55 (of_decide_eq_true rfl)) 47)) ((f157 80 (of_decide_eq_true rfl)).trans (f13 80 (of_decide_eq_true rfl))) hI107
            have I190 : jI109 σ155 := jI109_fr ((congrFun (f157 55 (of_decide_eq_true rfl)) 50).trans (congrFun (f13 55 (of_decide_eq_true rfl)) 50)) hI109
            have I191 : jI111 σ155 := jI111_fr ((f157 79 (of_decide_eq_true rfl)).trans (f13 79 (of_decide_eq_true rfl))) hI111
            have I192 : jI119 σ155 := jI119_fr ((f157 68 (of_decide_eq_true rfl)).trans (f13 68 (of_decide_eq_true rfl))) hI119
            have p193 : jKept σ155 := jKept.fr ((f157 75 (of_decide_eq_true rfl)).trans (f13 75 (of_decide_eq_true rfl))) ((f157 76 (of_decide_eq_true rfl)).trans (f13 76 (of_decide_eq_true rfl))) ((f157 77 (of_decide_eq_true rfl)).trans (f13 77 (of_decide_eq_true rfl))) hs_jKept
            have p194 : jBook σ155 := jBook.fr ((congrFun (f157 55 (of_decide_eq_true rfl)) 47).trans (congrFun (f13 55 (of_decide_eq_true rfl)) 47)) ((congrFun (f157 55 (of_decide_eq_true rfl)) 10).trans (congrFun (f13 55 (of_decide_eq_true rfl)) 10)) ((f157 81 (of_decide_eq_true rfl)).trans (f13 81 (of_decide_eq_true rfl))) hs_jBook
            have z195 : (σ155 9 0).toInt = (σ 9 0).toInt := (congrArg Int32.toInt (show σ155 9 0 = (σ 9 0) from ((congrFun (f157 9 (of_decide_eq_true rfl)) 0).trans (congrFun (f13 9 (of_decide_eq_true rfl)) 0))))
            have z196 : (σ155 55 15).toInt = (σ 55 15).toInt := (congrArg Int32.toInt (show σ155 55 15 = (σ 55 15) from ((congrFun (f157 55 (of_decide_eq_true rfl)) 15).trans (congrFun (f13 55 (of_decide_eq_true rfl)) 15))))
            exact by exact ih x171 σ155 τ _ _ ls (by have h9 := tx171; omega) ⟨I172, I173, I174, I175, I176, I177, I178, I179, I180, I181, I182, I183, I184, I185, I186, I187, I188, I189, I190, I158, I191, I192, p193, p194, (by omega), (show jTp (σ155 10) (σ155 63) (σ155 55 15).toInt by rw [show σ155 10 = σ 10 from ((f157 10 (of_decide_eq_true rfl)).trans (f13 10 (of_decide_eq_true rfl))), show σ155 63 = σ 63 from ((f157 63 (of_decide_eq_true rfl)).trans (f13 63 (of_decide_eq_true rfl)))]; exact hr0.le (by omega))⟩ hP hS (lv_sub hl [0, 1, 2, 3] rfl)
        · obtain ⟨q199, k197, k198⟩ := h162
          have q199 := q199.symm
          subst q199
          refine lv_pop hx hb dL_law_1085 rfl ?_
          refine lv_goto (tgt := 1357) hx hb dL_law_1086 (of_decide_eq_true rfl) ?_
          obtain ⟨x200, ex200⟩ : ∃ y : Int32, y = x0 + 6 := ⟨_, rfl⟩
          exact by
           have tx200 : x200.toInt = x0.toInt + 6 := (jadd ex200 rfl jz_6 (by omega) (by omega)).trans (by omega)
           refine lv_iinc (v := x200) (lv' := [(3, .int x200), (2, .ref (ad 55)), (1, .ref (ad 0)), (0, .ref b)]) hx hb dL_law_1357 hl (k := 0) rfl (by rw [ex200]; rfl) (of_decide_eq_true rfl) rfl (fun ls hl => ?_)
           refine lv_goto (tgt := 18) hx hb dL_law_1360 (of_decide_eq_true rfl) ?_
           have I201 : jI2 σ155 := jI2_fr ((congrFun (f157 2 (of_decide_eq_true rfl)) 0).trans (congrFun (f13 2 (of_decide_eq_true rfl)) 0)) ((congrFun (f157 2 (of_decide_eq_true rfl)) 1).trans (congrFun (f13 2 (of_decide_eq_true rfl)) 1)) ((congrFun (f157 2 (of_decide_eq_true rfl)) 2).trans (congrFun (f13 2 (of_decide_eq_true rfl)) 2)) ((congrFun (f157 2 (of_decide_eq_true rfl)) 3).trans (congrFun (f13 2 (of_decide_eq_true rfl)) 3)) ((f157 6 (of_decide_eq_true rfl)).trans (f13 6 (of_decide_eq_true rfl))) hI2
           have I202 : jI9 σ155 := jI9_fr ((congrFun (f157 9 (of_decide_eq_true rfl)) 0).trans (congrFun (f13 9 (of_decide_eq_true rfl)) 0)) ((f157 10 (of_decide_eq_true rfl)).trans (f13 10 (of_decide_eq_true rfl))) ((f157 11 (of_decide_eq_true rfl)).trans (f13 11 (of_decide_eq_true rfl))) hI9
           have I203 : jI12 σ155 := jI12_fr ((congrFun (f157 12 (of_decide_eq_true rfl)) 0).trans (congrFun (f13 12 (of_decide_eq_true rfl)) 0)) ((f157 13 (of_decide_eq_true rfl)).trans (f13 13 (of_decide_eq_true rfl))) hI12
           have I204 : jI16 σ155 := jI16_fr ((congrFun (f157 16 (of_decide_eq_true rfl)) 0).trans (congrFun (f13 16 (of_decide_eq_true rfl)) 0)) ((congrFun (f157 16 (of_decide_eq_true rfl)) 1).trans (congrFun (f13 16 (of_decide_eq_true rfl)) 1)) ((congrFun (f157 16 (of_decide_eq_true rfl)) 2).trans (congrFun (f13 16 (of_decide_eq_true rfl)) 2)) ((f157 17 (of_decide_eq_true rfl)).trans (f13 17 (of_decide_eq_true rfl))) hI16
           have I205 : jI18 σ155 := jI18_fr ((congrFun (f157 18 (of_decide_eq_true rfl)) 0).trans (congrFun (f13 18 (of_decide_eq_true rfl)) 0)) ((f157 19 (of_decide_eq_true rfl)).trans (f13 19 (of_decide_eq_true rfl))) hI18
           have I206 : jI22 σ155 := jI22_fr ((congrFun (f157 22 (of_decide_eq_true rfl)) 0).trans (congrFun (f13 22 (of_decide_eq_true rfl)) 0)) ((f157 23 (of_decide_eq_true rfl)).trans (f13 23 (of_decide_eq_true rfl))) hI22
           exact by
            have I207 : jI31 σ155 := jI31_fr ((congrFun (f157 31 (of_decide_eq_true rfl)) 8).trans (congrFun (f13 31 (of_decide_eq_true rfl)) 8)) ((f157 33 (of_decide_eq_true rfl)).trans (f13 33 (of_decide_eq_true rfl))) ((f157 36 (of_decide_eq_true rfl)).trans (f13 36 (of_decide_eq_true rfl))) hI31
            have I208 : jI38 σ155 := jI38_fr ((congrFun (f157 38 (of_decide_eq_true rfl)) 0).trans (congrFun (f13 38 (of_decide_eq_true rfl)) 0)) ((congrFun (f157 38 (of_decide_eq_true rfl)) 1).trans (congrFun (f13 38 (of_decide_eq_true rfl)) 1)) ((f157 39 (of_decide_eq_true rfl)).trans (f13 39 (of_decide_eq_true rfl))) hI38
            have I209 : jI43 σ155 := jI43_fr ((congrFun (f157 43 (of_decide_eq_true rfl)) 8).trans (congrFun (f13 43 (of_decide_eq_true rfl)) 8)) hI43
            have I210 : jI47 σ155 := jI47_fr ((congrFun (f157 47 (of_decide_eq_true rfl)) 0).trans (congrFun (f13 47 (of_decide_eq_true rfl)) 0)) ((f157 48 (of_decide_eq_true rfl)).trans (f13 48 (of_decide_eq_true rfl))) ((f157 49 (of_decide_eq_true rfl)).trans (f13 49 (of_decide_eq_true rfl))) hI47
            have I211 : jI50 σ155 := jI50_fr (f157 52 (of_decide_eq_true rfl)) I14
            have I212 : jI101 σ155 := jI101_fr ((congrFun (f157 55 (of_decide_eq_true rfl)) 4).trans (congrFun (f13 55 (of_decide_eq_true rfl)) 4)) ((congrFun (f157 55 (of_decide_eq_true rfl)) 5).trans (congrFun (f13 55 (of_decide_eq_true rfl)) 5)) ((f157 56 (of_decide_eq_true rfl)).trans (f13 56 (of_decide_eq_true rfl))) ((f157 57 (of_decide_eq_true rfl)).trans (f13 57 (of_decide_eq_true rfl))) ((f157 58 (of_decide_eq_true rfl)).trans (f13 58 (of_decide_eq_true rfl))) ((f157 59 (of_decide_eq_true rfl)).trans (f13 59 (of_decide_eq_true rfl))) hI101
            have I213 : jI102 σ155 := jI102_fr ((congrFun (f157 55 (of_decide_eq_true rfl)) 6).trans (congrFun (f13 55 (of_decide_eq_true rfl)) 6)) ((f157 60 (of_decide_eq_true rfl)).trans (f13 60 (of_decide_eq_true rfl))) ((f157 61 (of_decide_eq_true rfl)).trans (f13 61 (of_decide_eq_true rfl))) hI102
            have I214 : jI103 σ155 := jI103_fr ((congrFun (f157 55 (of_decide_eq_true rfl)) 9).trans (congrFun (f13 55 (of_decide_eq_true rfl)) 9)) hI103
            have I215 : jI104 σ155 := jI104_fr ((congrFun (f157 55 (of_decide_eq_true rfl)) 10).trans (congrFun (f13 55 (of_decide_eq_true rfl)) 10)) ((congrFun (f157 55 (of_decide_eq_true rfl)) 12).trans (congrFun (f13 55 (of_decide_eq_true rfl)) 12)) ((congrFun (f157 55 (of_decide_eq_true rfl)) 13).trans (congrFun (f13 55 (of_decide_eq_true rfl)) 13)) ((f157 62 (of_decide_eq_true rfl)).trans (f13 62 (of_decide_eq_true rfl))) ((f157 67 (of_decide_eq_true rfl)).trans (f13 67 (of_decide_eq_true rfl))) hI104
            have I216 : jI105 σ155 := jI105_fr ((congrFun (f157 55 (of_decide_eq_true rfl)) 15).trans (congrFun (f13 55 (of_decide_eq_true rfl)) 15)) ((f157 65 (of_decide_eq_true rfl)).trans (f13 65 (of_decide_eq_true rfl))) hI105
            have I217 : jI106 σ155 := jI106_fr (congrFun (f157 55 (of_decide_eq_true rfl)) 32) (f157 70 (of_decide_eq_true rfl)) (f157 71 (of_decide_eq_true rfl)) (f157 72 (of_decide_eq_true rfl)) I152
            have I218 : jI107 σ155 := jI107_fr ((congrFun (f157 55 (of_decide_eq_true rfl)) 12).trans (congrFun (f13 55 (of_decide_eq_true rfl)) 12)) ((congrFun (f157 55 (of_decide_eq_true rfl)) 47).trans (congrFun (f13 55 (of_decide_eq_true rfl)) 47)) ((f157 80 (of_decide_eq_true rfl)).trans (f13 80 (of_decide_eq_true rfl))) hI107
            have I219 : jI109 σ155 := jI109_fr ((congrFun (f157 55 (of_decide_eq_true rfl)) 50).trans (congrFun (f13 55 (of_decide_eq_true rfl)) 50)) hI109
            have I220 : jI111 σ155 := jI111_fr ((f157 79 (of_decide_eq_true rfl)).trans (f13 79 (of_decide_eq_true rfl))) hI111
            have I221 : jI119 σ155 := jI119_fr ((f157 68 (of_decide_eq_true rfl)).trans (f13 68 (of_decide_eq_true rfl))) hI119
            have p222 : jKept σ155 := jKept.fr ((f157 75 (of_decide_eq_true rfl)).trans (f13 75 (of_decide_eq_true rfl))) ((f157 76 (of_decide_eq_true rfl)).trans (f13 76 (of_decide_eq_true rfl))) ((f157 77 (of_decide_eq_true rfl)).trans (f13 77 (of_decide_eq_true rfl))) hs_jKept
            have p223 : jBook σ155 := jBook.fr ((congrFun (f157 55 (of_decide_eq_true rfl)) 47).trans (congrFun (f13 55 (of_decide_eq_true rfl)) 47)) ((congrFun (f157 55 (of_decide_eq_true rfl)) 10).trans (congrFun (f13 55 (of_decide_eq_true rfl)) 10)) ((f157 81 (of_decide_eq_true rfl)).trans (f13 81 (of_decide_eq_true rfl))) hs_jBook
            have z224 : (σ155 9 0).toInt = (σ 9 0).toInt := (congrArg Int32.toInt (show σ155 9 0 = (σ 9 0) from ((congrFun (f157 9 (of_decide_eq_true rfl)) 0).trans (congrFun (f13 9 (of_decide_eq_true rfl)) 0))))
            have z225 : (σ155 55 15).toInt = (σ 55 15).toInt := (congrArg Int32.toInt (show σ155 55 15 = (σ 55 15) from ((congrFun (f157 55 (of_decide_eq_true rfl)) 15).trans (congrFun (f13 55 (of_decide_eq_true rfl)) 15))))
            exact by exact ih x200 σ155 τ _ _ ls (by have h9 := tx200; omega) ⟨I201, I202, I203, I204, I205, I206, I207, I208, I209, I210, I211, I212, I213, I214, I215, I216, I217, I218, I219, I158, I220, I221, p222, p223, (by omega), (show jTp (σ155 10) (σ155 63) (σ155 55 15).toInt by rw [show σ155 10 = σ 10 from ((f157 10 (of_decide_eq_true rfl)).trans (f13 10 (of_decide_eq_true rfl))), show σ155 63 = σ 63 from ((f157 63 (of_decide_eq_true rfl)).trans (f13 63 (of_decide_eq_true rfl)))]; exact hr0.le (by omega))⟩ hP hS (lv_sub hl [0, 1, 2, 3] rfl)
set_option maxHeartbeats 4000000 in
set_option maxRecDepth 100000 in
theorem law_case_31 {p : Program} {e : Env} {s : State} {m : MethodId} {below : List Frame} {meth : Method} {c : Code} (l : Launch) {b L : Nat} {xs : Nat → Int32} {D : va_G} {cI cL : ClassId} {ad zz : Nat → Nat} (C0 : lw_At p s m meth c b L xs) (hJ : jD ad) (hA : ∀ q, jA ad q → s.heap.size ≤ q) (hK : jK D cI cL s) (hZ : jZ zz (fun q : Nat => s.heap.size ≤ q) s s.heap) {x0 : Int32} (hx0 : 0 ≤ x0.toInt) (hxL : x0.toInt + 6 ≤ (L : Int)) (hL : L ≤ 384) {σ : Nat → Nat → Int32} {τ : Nat → Nat → Int64} {H : Heap} {locs : List Loc} (hS : va_S (fun q : Nat => s.heap.size ≤ q) s.heap H locs) {ls : Array Slot} (hAll : jAll σ τ) (hP : jH D cI cL ad σ τ H) (hl : lv_has ls 4 [(3, .int x0), (2, .ref (ad 55)), (1, .ref (ad 0)), (0, .ref b)]) (ih : ∀ (x1 : Int32) (σ : Nat → Nat → Int32) (τ : Nat → Nat → Int64) (H : Heap) (locs : List Loc) (ls : Array Slot), x1.toInt = x0.toInt + 6 → jAll σ τ → jH D cI cL ad σ τ H → va_S (fun q : Nat => s.heap.size ≤ q) s.heap H locs → lv_has ls 4 [(3, .int x1), (2, .ref (ad 55)), (1, .ref (ad 0)), (0, .ref b)] → W p l e room_1 s m #[Value.ref b] below meth c H locs 90 348600 (lw_Z below #[Value.ref b] s) (F0 m 18 ls [])) : W p l e room_1 s m #[Value.ref b] below meth c H locs 90 348600 (lw_Z below #[Value.ref b] s) (F0 m 1089 ls []) := by
  obtain ⟨hx, hb, hr, hml, hown, hts0, hX, hbl, hlocks, hgv⟩ := C0
  have hts : ∀ w ∈ wsL_law, w.before #[Value.ref b] s = true := fun w h => hts0 w (wsL_law_in w h)
  have hbA : ¬ (fun q : Nat => s.heap.size ≤ q) b := Nat.not_le.mpr hbl
  have hown : s.vm.findClass RL = some m.cls := hown
  obtain ⟨hI2, hI9, hI12, hI16, hI18, hI22, hI31, hI38, hI43, hI47, hI50, hI101, hI102, hI103, hI104, hI105, hI106, hI107, hI109, hI110, hI111, hI119, hs_jKept, hs_jBook, ht0, hr0⟩ := hAll
  have hL9 : (L : Int) ≤ 384 := by omega
  obtain ⟨i1, w2, w3⟩ : (0 ≤ (σ 9 0).toInt ∧ (σ 9 0).toInt ≤ 80) ∧ (∀ k : Nat, k < 80 → 0 ≤ (σ 10 k).toInt ∧ (σ 10 k).toInt ≤ 255) ∧ (∀ k : Nat, k < 8 → 0 ≤ (σ 11 k).toInt ∧ (σ 11 k).toInt ≤ 3) := id hI9
  obtain ⟨i4, w5⟩ : (0 ≤ (σ 55 15).toInt ∧ (σ 55 15).toInt ≤ 80) ∧ (∀ k : Nat, k < 2 → (-1) ≤ (σ 65 k).toInt ∧ (σ 65 k).toInt ≤ 80) := id hI105
  refine lv_aload_n hx hb dL_law_1089 rfl (lv_at hl 2 rfl) ?_
  refine lv_aload_n hx hb dL_law_1090 rfl (lv_at hl 3 rfl) ?_
  refine lv_iload_n hx hb dL_law_1091 rfl (lv_at hl 0 rfl) ?_
  refine lv_iconst (v := 1) hx hb dL_law_1092 (of_decide_eq_true rfl) ?_
  have g6 := jrg (rfl : x0.toInt = x0.toInt)
  refine lv_iadd hx hb dL_law_1093 ?_
  refine lv_topi (fun x7 ex7 => ?_)
  exact by
   have tx7 : x7.toInt = x0.toInt + 1 := (jadd ex7 rfl jz_1 (by omega) (by omega)).trans (by omega)
   refine va_sld hx hb hX hbl hbA hS (jin tx7 (by omega) (by omega)) dL_law_1094 ?_
   have g8 := jrg (rfl : (xs x7.toNatClampNeg).toInt = (xs x7.toNatClampNeg).toInt)
   refine lv_aload_n hx hb dL_law_1095 rfl (lv_at hl 3 rfl) ?_
   refine lv_iload_n hx hb dL_law_1096 rfl (lv_at hl 0 rfl) ?_
   refine lv_iconst (v := 2) hx hb dL_law_1097 (of_decide_eq_true rfl) ?_
   refine lv_iadd hx hb dL_law_1098 ?_
   refine lv_topi (fun x9 ex9 => ?_)
   have tx9 : x9.toInt = x0.toInt + 2 := (jadd ex9 rfl jz_2 (by omega) (by omega)).trans (by omega)
   exact by
    refine va_sld hx hb hX hbl hbA hS (jin tx9 (by omega) (by omega)) dL_law_1099 ?_
    have g10 := jrg (rfl : (xs x9.toNatClampNeg).toInt = (xs x9.toNatClampNeg).toInt)
    refine lv_aload_n hx hb dL_law_1100 rfl (lv_at hl 3 rfl) ?_
    refine lv_iload_n hx hb dL_law_1101 rfl (lv_at hl 0 rfl) ?_
    refine lv_iconst (v := 3) hx hb dL_law_1102 (of_decide_eq_true rfl) ?_
    refine lv_iadd hx hb dL_law_1103 ?_
    refine lv_topi (fun x11 ex11 => ?_)
    have tx11 : x11.toInt = x0.toInt + 3 := (jadd ex11 rfl jz_3 (by omega) (by omega)).trans (by omega)
    refine va_sld hx hb hX hbl hbA hS (jin tx11 (by omega) (by omega)) dL_law_1104 ?_
    exact by
     have g12 := jrg (rfl : (xs x11.toNatClampNeg).toInt = (xs x11.toNatClampNeg).toInt)
     refine jcallV (As := [.int (xs x7.toNatClampNeg), .int (xs x9.toNatClampNeg), .int (xs x11.toNatClampNeg)]) (rest := []) ⟨hx, hb, hml, hown, hts⟩ hK hP hA hS hZ (c_X11_row l D cI cL ad zz hJ σ τ (xs x7.toNatClampNeg) ((xs x7.toNatClampNeg).toInt) rfl (xs x9.toNatClampNeg) ((xs x9.toNatClampNeg).toInt) rfl (xs x11.toNatClampNeg) ((xs x11.toNatClampNeg).toInt) rfl hI50) cw_RL_141 (jc_0 cI cL ad σ τ) rfl ⟨Nat.le_of_ble_eq_true rfl, Nat.le_of_ble_eq_true rfl⟩ rfl rfl rfl hl.1 rfl (Nat.le_of_ble_eq_true rfl) dL_law_1105 ⟨Nat.le_of_ble_eq_true rfl, Nat.le_of_ble_eq_true rfl⟩ (fun r14 σ13 τ13 H locs h13 hP hS => ?_)
     obtain ⟨f17, f15, I16, h13⟩ := h13
     rcases h13 with h18 | h19 | h20
     · obtain ⟨q24, k21, k22, k23⟩ := h18
       have q24 := q24.symm
       subst q24
       refine lv_pop hx hb dL_law_1108 rfl ?_
       refine lv_aload_n hx hb dL_law_1109 rfl (lv_at hl 1 rfl) ?_
       refine lv_aload_n hx hb dL_law_1110 rfl (lv_at hl 3 rfl) ?_
       refine lv_iload_n hx hb dL_law_1111 rfl (lv_at hl 0 rfl) ?_
       refine lv_iconst (v := 1) hx hb dL_law_1112 (of_decide_eq_true rfl) ?_
       refine lv_iadd hx hb dL_law_1113 ?_
       refine jtopr ex7.symm ?_
       exact by
        refine va_sld hx hb hX hbl hbA hS (jin tx7 (by omega) (by omega)) dL_law_1114 ?_
        refine lv_aload_n hx hb dL_law_1115 rfl (lv_at hl 3 rfl) ?_
        refine lv_iload_n hx hb dL_law_1116 rfl (lv_at hl 0 rfl) ?_
        refine lv_iconst (v := 2) hx hb dL_law_1117 (of_decide_eq_true rfl) ?_
        refine lv_iadd hx hb dL_law_1118 ?_
        refine jtopr ex9.symm ?_
        refine va_sld hx hb hX hbl hbA hS (jin tx9 (by omega) (by omega)) dL_law_1119 ?_
        refine lv_aload_n hx hb dL_law_1120 rfl (lv_at hl 3 rfl) ?_
        refine lv_iload_n hx hb dL_law_1121 rfl (lv_at hl 0 rfl) ?_
        exact by
         refine lv_iconst (v := 3) hx hb dL_law_1122 (of_decide_eq_true rfl) ?_
         refine lv_iadd hx hb dL_law_1123 ?_
         refine jtopr ex11.symm ?_
         refine va_sld hx hb hX hbl hbA hS (jin tx11 (by omega) (by omega)) dL_law_1124 ?_
         have I25 : jI110 σ13 := jI110_fr (f15 86 (of_decide_eq_true rfl)) (f15 87 (of_decide_eq_true rfl)) hI110
         refine jcallV (As := [.int (xs x7.toNatClampNeg), .int (xs x9.toNatClampNeg), .int (xs x11.toNatClampNeg)]) (rest := []) ⟨hx, hb, hml, hown, hts⟩ hK hP hA hS hZ (c_X12_row l D cI cL ad zz hJ σ13 τ13 (xs x7.toNatClampNeg) ((xs x7.toNatClampNeg).toInt) rfl (xs x9.toNatClampNeg) ((xs x9.toNatClampNeg).toInt) rfl (xs x11.toNatClampNeg) ((xs x11.toNatClampNeg).toInt) rfl I25) cw_RL_144 (jc_55 cI cL ad σ13 τ13) rfl ⟨Nat.le_of_ble_eq_true rfl, Nat.le_of_ble_eq_true rfl⟩ rfl rfl rfl hl.1 rfl (Nat.le_of_ble_eq_true rfl) dL_law_1125 ⟨Nat.le_of_ble_eq_true rfl, Nat.le_of_ble_eq_true rfl⟩ (fun r27 σ26 τ26 H locs h26 hP hS => ?_)
         obtain ⟨f30, f28, I29, h26⟩ := h26
         rcases h26 with h31 | h32 | h33
         · obtain ⟨q37, k34, k35, k36⟩ := h31
           exact by
            have q37 := q37.symm
            subst q37
            refine lv_pop hx hb dL_law_1128 rfl ?_
            refine lv_goto (tgt := 1357) hx hb dL_law_1129 (of_decide_eq_true rfl) ?_
            obtain ⟨x38, ex38⟩ : ∃ y : Int32, y = x0 + 6 := ⟨_, rfl⟩
            have tx38 : x38.toInt = x0.toInt + 6 := (jadd ex38 rfl jz_6 (by omega) (by omega)).trans (by omega)
            refine lv_iinc (v := x38) (lv' := [(3, .int x38), (2, .ref (ad 55)), (1, .ref (ad 0)), (0, .ref b)]) hx hb dL_law_1357 hl (k := 0) rfl (by rw [ex38]; rfl) (of_decide_eq_true rfl) rfl (fun ls hl => ?_)
            refine lv_goto (tgt := 18) hx hb dL_law_1360 (of_decide_eq_true rfl) ?_
            have I39 : jI2 σ26 := jI2_fr ((congrFun (f28 2 (of_decide_eq_true rfl)) 0).trans (congrFun (f15 2 (of_decide_eq_true rfl)) 0)) ((congrFun (f28 2 (of_decide_eq_true rfl)) 1).trans (congrFun (f15 2 (of_decide_eq_true rfl)) 1)) ((congrFun (f28 2 (of_decide_eq_true rfl)) 2).trans (congrFun (f15 2 (of_decide_eq_true rfl)) 2)) ((congrFun (f28 2 (of_decide_eq_true rfl)) 3).trans (congrFun (f15 2 (of_decide_eq_true rfl)) 3)) ((f28 6 (of_decide_eq_true rfl)).trans (f15 6 (of_decide_eq_true rfl))) hI2
            exact by
             have I40 : jI9 σ26 := jI9_fr ((congrFun (f28 9 (of_decide_eq_true rfl)) 0).trans (congrFun (f15 9 (of_decide_eq_true rfl)) 0)) ((f28 10 (of_decide_eq_true rfl)).trans (f15 10 (of_decide_eq_true rfl))) ((f28 11 (of_decide_eq_true rfl)).trans (f15 11 (of_decide_eq_true rfl))) hI9
             have I41 : jI12 σ26 := jI12_fr ((congrFun (f28 12 (of_decide_eq_true rfl)) 0).trans (congrFun (f15 12 (of_decide_eq_true rfl)) 0)) ((f28 13 (of_decide_eq_true rfl)).trans (f15 13 (of_decide_eq_true rfl))) hI12
             have I42 : jI16 σ26 := jI16_fr ((congrFun (f28 16 (of_decide_eq_true rfl)) 0).trans (congrFun (f15 16 (of_decide_eq_true rfl)) 0)) ((congrFun (f28 16 (of_decide_eq_true rfl)) 1).trans (congrFun (f15 16 (of_decide_eq_true rfl)) 1)) ((congrFun (f28 16 (of_decide_eq_true rfl)) 2).trans (congrFun (f15 16 (of_decide_eq_true rfl)) 2)) ((f28 17 (of_decide_eq_true rfl)).trans (f15 17 (of_decide_eq_true rfl))) hI16
             have I43 : jI18 σ26 := jI18_fr ((congrFun (f28 18 (of_decide_eq_true rfl)) 0).trans (congrFun (f15 18 (of_decide_eq_true rfl)) 0)) ((f28 19 (of_decide_eq_true rfl)).trans (f15 19 (of_decide_eq_true rfl))) hI18
             have I44 : jI22 σ26 := jI22_fr ((congrFun (f28 22 (of_decide_eq_true rfl)) 0).trans (congrFun (f15 22 (of_decide_eq_true rfl)) 0)) ((f28 23 (of_decide_eq_true rfl)).trans (f15 23 (of_decide_eq_true rfl))) hI22
             have I45 : jI31 σ26 := jI31_fr ((congrFun (f28 31 (of_decide_eq_true rfl)) 8).trans (congrFun (f15 31 (of_decide_eq_true rfl)) 8)) ((f28 33 (of_decide_eq_true rfl)).trans (f15 33 (of_decide_eq_true rfl))) ((f28 36 (of_decide_eq_true rfl)).trans (f15 36 (of_decide_eq_true rfl))) hI31
             have I46 : jI38 σ26 := jI38_fr ((congrFun (f28 38 (of_decide_eq_true rfl)) 0).trans (congrFun (f15 38 (of_decide_eq_true rfl)) 0)) ((congrFun (f28 38 (of_decide_eq_true rfl)) 1).trans (congrFun (f15 38 (of_decide_eq_true rfl)) 1)) ((f28 39 (of_decide_eq_true rfl)).trans (f15 39 (of_decide_eq_true rfl))) hI38
             have I47 : jI43 σ26 := jI43_fr ((congrFun (f28 43 (of_decide_eq_true rfl)) 8).trans (congrFun (f15 43 (of_decide_eq_true rfl)) 8)) hI43
             have I48 : jI47 σ26 := jI47_fr ((congrFun (f28 47 (of_decide_eq_true rfl)) 0).trans (congrFun (f15 47 (of_decide_eq_true rfl)) 0)) ((f28 48 (of_decide_eq_true rfl)).trans (f15 48 (of_decide_eq_true rfl))) ((f28 49 (of_decide_eq_true rfl)).trans (f15 49 (of_decide_eq_true rfl))) hI47
             have I49 : jI50 σ26 := jI50_fr (f28 52 (of_decide_eq_true rfl)) I16
             have I50 : jI101 σ26 := jI101_fr ((congrFun (f28 55 (of_decide_eq_true rfl)) 4).trans (congrFun (f15 55 (of_decide_eq_true rfl)) 4)) ((congrFun (f28 55 (of_decide_eq_true rfl)) 5).trans (congrFun (f15 55 (of_decide_eq_true rfl)) 5)) ((f28 56 (of_decide_eq_true rfl)).trans (f15 56 (of_decide_eq_true rfl))) ((f28 57 (of_decide_eq_true rfl)).trans (f15 57 (of_decide_eq_true rfl))) ((f28 58 (of_decide_eq_true rfl)).trans (f15 58 (of_decide_eq_true rfl))) ((f28 59 (of_decide_eq_true rfl)).trans (f15 59 (of_decide_eq_true rfl))) hI101
             have I51 : jI102 σ26 := jI102_fr ((congrFun (f28 55 (of_decide_eq_true rfl)) 6).trans (congrFun (f15 55 (of_decide_eq_true rfl)) 6)) ((f28 60 (of_decide_eq_true rfl)).trans (f15 60 (of_decide_eq_true rfl))) ((f28 61 (of_decide_eq_true rfl)).trans (f15 61 (of_decide_eq_true rfl))) hI102
             have I52 : jI103 σ26 := jI103_fr ((congrFun (f28 55 (of_decide_eq_true rfl)) 9).trans (congrFun (f15 55 (of_decide_eq_true rfl)) 9)) hI103
             have I53 : jI104 σ26 := jI104_fr ((congrFun (f28 55 (of_decide_eq_true rfl)) 10).trans (congrFun (f15 55 (of_decide_eq_true rfl)) 10)) ((congrFun (f28 55 (of_decide_eq_true rfl)) 12).trans (congrFun (f15 55 (of_decide_eq_true rfl)) 12)) ((congrFun (f28 55 (of_decide_eq_true rfl)) 13).trans (congrFun (f15 55 (of_decide_eq_true rfl)) 13)) ((f28 62 (of_decide_eq_true rfl)).trans (f15 62 (of_decide_eq_true rfl))) ((f28 67 (of_decide_eq_true rfl)).trans (f15 67 (of_decide_eq_true rfl))) hI104
             have I54 : jI105 σ26 := jI105_fr ((congrFun (f28 55 (of_decide_eq_true rfl)) 15).trans (congrFun (f15 55 (of_decide_eq_true rfl)) 15)) ((f28 65 (of_decide_eq_true rfl)).trans (f15 65 (of_decide_eq_true rfl))) hI105
             have I55 : jI106 σ26 := jI106_fr ((congrFun (f28 55 (of_decide_eq_true rfl)) 32).trans (congrFun (f15 55 (of_decide_eq_true rfl)) 32)) ((f28 70 (of_decide_eq_true rfl)).trans (f15 70 (of_decide_eq_true rfl))) ((f28 71 (of_decide_eq_true rfl)).trans (f15 71 (of_decide_eq_true rfl))) ((f28 72 (of_decide_eq_true rfl)).trans (f15 72 (of_decide_eq_true rfl))) hI106
             have I56 : jI107 σ26 := jI107_fr ((congrFun (f28 55 (of_decide_eq_true rfl)) 12).trans (congrFun (f15 55 (of_decide_eq_true rfl)) 12)) ((congrFun (f28 55 (of_decide_eq_true rfl)) 47).trans (congrFun (f15 55 (of_decide_eq_true rfl)) 47)) ((f28 80 (of_decide_eq_true rfl)).trans (f15 80 (of_decide_eq_true rfl))) hI107
             have I57 : jI109 σ26 := jI109_fr ((congrFun (f28 55 (of_decide_eq_true rfl)) 50).trans (congrFun (f15 55 (of_decide_eq_true rfl)) 50)) hI109
             have I58 : jI111 σ26 := jI111_fr ((f28 79 (of_decide_eq_true rfl)).trans (f15 79 (of_decide_eq_true rfl))) hI111
             have I59 : jI119 σ26 := jI119_fr ((f28 68 (of_decide_eq_true rfl)).trans (f15 68 (of_decide_eq_true rfl))) hI119
             have p60 : jKept σ26 := jKept.fr ((f28 75 (of_decide_eq_true rfl)).trans (f15 75 (of_decide_eq_true rfl))) ((f28 76 (of_decide_eq_true rfl)).trans (f15 76 (of_decide_eq_true rfl))) ((f28 77 (of_decide_eq_true rfl)).trans (f15 77 (of_decide_eq_true rfl))) hs_jKept
             have p61 : jBook σ26 := jBook.fr ((congrFun (f28 55 (of_decide_eq_true rfl)) 47).trans (congrFun (f15 55 (of_decide_eq_true rfl)) 47)) ((congrFun (f28 55 (of_decide_eq_true rfl)) 10).trans (congrFun (f15 55 (of_decide_eq_true rfl)) 10)) ((f28 81 (of_decide_eq_true rfl)).trans (f15 81 (of_decide_eq_true rfl))) hs_jBook
             have z62 : (σ26 9 0).toInt = (σ 9 0).toInt := (congrArg Int32.toInt (show σ26 9 0 = (σ 9 0) from ((congrFun (f28 9 (of_decide_eq_true rfl)) 0).trans (congrFun (f15 9 (of_decide_eq_true rfl)) 0))))
             have z63 : (σ26 55 15).toInt = (σ 55 15).toInt := (congrArg Int32.toInt (show σ26 55 15 = (σ 55 15) from ((congrFun (f28 55 (of_decide_eq_true rfl)) 15).trans (congrFun (f15 55 (of_decide_eq_true rfl)) 15))))
             exact by exact ih x38 σ26 τ26 _ _ ls (by have h9 := tx38; omega) ⟨I39, I40, I41, I42, I43, I44, I45, I46, I47, I48, I49, I50, I51, I52, I53, I54, I55, I56, I57, I29, I58, I59, p60, p61, (by omega), (show jTp (σ26 10) (σ26 63) (σ26 55 15).toInt by rw [show σ26 10 = σ 10 from ((f28 10 (of_decide_eq_true rfl)).trans (f15 10 (of_decide_eq_true rfl))), show σ26 63 = σ 63 from ((f28 63 (of_decide_eq_true rfl)).trans (f15 63 (of_decide_eq_true rfl)))]; exact hr0.le (by omega))⟩ hP hS (lv_sub hl [0, 1, 2, 3] rfl)
         · obtain ⟨q69, k64, k65, k66, k67, k68⟩ := h32
           exact absurd (by omega : False) id
         · obtain ⟨q75, k70, k71, k72, k73, k74⟩ := h33
           exact absurd (by omega : False) id
     · obtain ⟨q81, k76, k77, k78, k79, k80⟩ := h19
       have q81 := q81.symm
       subst q81
       refine lv_pop hx hb dL_law_1108 rfl ?_
       refine lv_aload_n hx hb dL_law_1109 rfl (lv_at hl 1 rfl) ?_
       refine lv_aload_n hx hb dL_law_1110 rfl (lv_at hl 3 rfl) ?_
       refine lv_iload_n hx hb dL_law_1111 rfl (lv_at hl 0 rfl) ?_
       refine lv_iconst (v := 1) hx hb dL_law_1112 (of_decide_eq_true rfl) ?_
       refine lv_iadd hx hb dL_law_1113 ?_
       refine jtopr ex7.symm ?_
       exact by
        refine va_sld hx hb hX hbl hbA hS (jin tx7 (by omega) (by omega)) dL_law_1114 ?_
        refine lv_aload_n hx hb dL_law_1115 rfl (lv_at hl 3 rfl) ?_
        refine lv_iload_n hx hb dL_law_1116 rfl (lv_at hl 0 rfl) ?_
        refine lv_iconst (v := 2) hx hb dL_law_1117 (of_decide_eq_true rfl) ?_
        refine lv_iadd hx hb dL_law_1118 ?_
        refine jtopr ex9.symm ?_
        refine va_sld hx hb hX hbl hbA hS (jin tx9 (by omega) (by omega)) dL_law_1119 ?_
        refine lv_aload_n hx hb dL_law_1120 rfl (lv_at hl 3 rfl) ?_
        refine lv_iload_n hx hb dL_law_1121 rfl (lv_at hl 0 rfl) ?_
        exact by
         refine lv_iconst (v := 3) hx hb dL_law_1122 (of_decide_eq_true rfl) ?_
         refine lv_iadd hx hb dL_law_1123 ?_
         refine jtopr ex11.symm ?_
         refine va_sld hx hb hX hbl hbA hS (jin tx11 (by omega) (by omega)) dL_law_1124 ?_
         have I82 : jI110 σ13 := jI110_fr (f15 86 (of_decide_eq_true rfl)) (f15 87 (of_decide_eq_true rfl)) hI110
         refine jcallV (As := [.int (xs x7.toNatClampNeg), .int (xs x9.toNatClampNeg), .int (xs x11.toNatClampNeg)]) (rest := []) ⟨hx, hb, hml, hown, hts⟩ hK hP hA hS hZ (c_X12_row l D cI cL ad zz hJ σ13 τ13 (xs x7.toNatClampNeg) ((xs x7.toNatClampNeg).toInt) rfl (xs x9.toNatClampNeg) ((xs x9.toNatClampNeg).toInt) rfl (xs x11.toNatClampNeg) ((xs x11.toNatClampNeg).toInt) rfl I82) cw_RL_144 (jc_55 cI cL ad σ13 τ13) rfl ⟨Nat.le_of_ble_eq_true rfl, Nat.le_of_ble_eq_true rfl⟩ rfl rfl rfl hl.1 rfl (Nat.le_of_ble_eq_true rfl) dL_law_1125 ⟨Nat.le_of_ble_eq_true rfl, Nat.le_of_ble_eq_true rfl⟩ (fun r84 σ83 τ83 H locs h83 hP hS => ?_)
         obtain ⟨f87, f85, I86, h83⟩ := h83
         rcases h83 with h88 | h89 | h90
         · obtain ⟨q94, k91, k92, k93⟩ := h88
           exact absurd (by omega : False) id
         · exact by
            obtain ⟨q100, k95, k96, k97, k98, k99⟩ := h89
            have q100 := q100.symm
            subst q100
            refine lv_pop hx hb dL_law_1128 rfl ?_
            refine lv_goto (tgt := 1357) hx hb dL_law_1129 (of_decide_eq_true rfl) ?_
            obtain ⟨x101, ex101⟩ : ∃ y : Int32, y = x0 + 6 := ⟨_, rfl⟩
            have tx101 : x101.toInt = x0.toInt + 6 := (jadd ex101 rfl jz_6 (by omega) (by omega)).trans (by omega)
            refine lv_iinc (v := x101) (lv' := [(3, .int x101), (2, .ref (ad 55)), (1, .ref (ad 0)), (0, .ref b)]) hx hb dL_law_1357 hl (k := 0) rfl (by rw [ex101]; rfl) (of_decide_eq_true rfl) rfl (fun ls hl => ?_)
            refine lv_goto (tgt := 18) hx hb dL_law_1360 (of_decide_eq_true rfl) ?_
            exact by
             have I102 : jI2 σ83 := jI2_fr ((congrFun (f85 2 (of_decide_eq_true rfl)) 0).trans (congrFun (f15 2 (of_decide_eq_true rfl)) 0)) ((congrFun (f85 2 (of_decide_eq_true rfl)) 1).trans (congrFun (f15 2 (of_decide_eq_true rfl)) 1)) ((congrFun (f85 2 (of_decide_eq_true rfl)) 2).trans (congrFun (f15 2 (of_decide_eq_true rfl)) 2)) ((congrFun (f85 2 (of_decide_eq_true rfl)) 3).trans (congrFun (f15 2 (of_decide_eq_true rfl)) 3)) ((f85 6 (of_decide_eq_true rfl)).trans (f15 6 (of_decide_eq_true rfl))) hI2
             have I103 : jI9 σ83 := jI9_fr ((congrFun (f85 9 (of_decide_eq_true rfl)) 0).trans (congrFun (f15 9 (of_decide_eq_true rfl)) 0)) ((f85 10 (of_decide_eq_true rfl)).trans (f15 10 (of_decide_eq_true rfl))) ((f85 11 (of_decide_eq_true rfl)).trans (f15 11 (of_decide_eq_true rfl))) hI9
             have I104 : jI12 σ83 := jI12_fr ((congrFun (f85 12 (of_decide_eq_true rfl)) 0).trans (congrFun (f15 12 (of_decide_eq_true rfl)) 0)) ((f85 13 (of_decide_eq_true rfl)).trans (f15 13 (of_decide_eq_true rfl))) hI12
             have I105 : jI16 σ83 := jI16_fr ((congrFun (f85 16 (of_decide_eq_true rfl)) 0).trans (congrFun (f15 16 (of_decide_eq_true rfl)) 0)) ((congrFun (f85 16 (of_decide_eq_true rfl)) 1).trans (congrFun (f15 16 (of_decide_eq_true rfl)) 1)) ((congrFun (f85 16 (of_decide_eq_true rfl)) 2).trans (congrFun (f15 16 (of_decide_eq_true rfl)) 2)) ((f85 17 (of_decide_eq_true rfl)).trans (f15 17 (of_decide_eq_true rfl))) hI16
             have I106 : jI18 σ83 := jI18_fr ((congrFun (f85 18 (of_decide_eq_true rfl)) 0).trans (congrFun (f15 18 (of_decide_eq_true rfl)) 0)) ((f85 19 (of_decide_eq_true rfl)).trans (f15 19 (of_decide_eq_true rfl))) hI18
             have I107 : jI22 σ83 := jI22_fr ((congrFun (f85 22 (of_decide_eq_true rfl)) 0).trans (congrFun (f15 22 (of_decide_eq_true rfl)) 0)) ((f85 23 (of_decide_eq_true rfl)).trans (f15 23 (of_decide_eq_true rfl))) hI22
             have I108 : jI31 σ83 := jI31_fr ((congrFun (f85 31 (of_decide_eq_true rfl)) 8).trans (congrFun (f15 31 (of_decide_eq_true rfl)) 8)) ((f85 33 (of_decide_eq_true rfl)).trans (f15 33 (of_decide_eq_true rfl))) ((f85 36 (of_decide_eq_true rfl)).trans (f15 36 (of_decide_eq_true rfl))) hI31
             have I109 : jI38 σ83 := jI38_fr ((congrFun (f85 38 (of_decide_eq_true rfl)) 0).trans (congrFun (f15 38 (of_decide_eq_true rfl)) 0)) ((congrFun (f85 38 (of_decide_eq_true rfl)) 1).trans (congrFun (f15 38 (of_decide_eq_true rfl)) 1)) ((f85 39 (of_decide_eq_true rfl)).trans (f15 39 (of_decide_eq_true rfl))) hI38
             have I110 : jI43 σ83 := jI43_fr ((congrFun (f85 43 (of_decide_eq_true rfl)) 8).trans (congrFun (f15 43 (of_decide_eq_true rfl)) 8)) hI43
             have I111 : jI47 σ83 := jI47_fr ((congrFun (f85 47 (of_decide_eq_true rfl)) 0).trans (congrFun (f15 47 (of_decide_eq_true rfl)) 0)) ((f85 48 (of_decide_eq_true rfl)).trans (f15 48 (of_decide_eq_true rfl))) ((f85 49 (of_decide_eq_true rfl)).trans (f15 49 (of_decide_eq_true rfl))) hI47
             have I112 : jI50 σ83 := jI50_fr (f85 52 (of_decide_eq_true rfl)) I16
             have I113 : jI101 σ83 := jI101_fr ((congrFun (f85 55 (of_decide_eq_true rfl)) 4).trans (congrFun (f15 55 (of_decide_eq_true rfl)) 4)) ((congrFun (f85 55 (of_decide_eq_true rfl)) 5).trans (congrFun (f15 55 (of_decide_eq_true rfl)) 5)) ((f85 56 (of_decide_eq_true rfl)).trans (f15 56 (of_decide_eq_true rfl))) ((f85 57 (of_decide_eq_true rfl)).trans (f15 57 (of_decide_eq_true rfl))) ((f85 58 (of_decide_eq_true rfl)).trans (f15 58 (of_decide_eq_true rfl))) ((f85 59 (of_decide_eq_true rfl)).trans (f15 59 (of_decide_eq_true rfl))) hI101
             have I114 : jI102 σ83 := jI102_fr ((congrFun (f85 55 (of_decide_eq_true rfl)) 6).trans (congrFun (f15 55 (of_decide_eq_true rfl)) 6)) ((f85 60 (of_decide_eq_true rfl)).trans (f15 60 (of_decide_eq_true rfl))) ((f85 61 (of_decide_eq_true rfl)).trans (f15 61 (of_decide_eq_true rfl))) hI102
             have I115 : jI103 σ83 := jI103_fr ((congrFun (f85 55 (of_decide_eq_true rfl)) 9).trans (congrFun (f15 55 (of_decide_eq_true rfl)) 9)) hI103
             have I116 : jI104 σ83 := jI104_fr ((congrFun (f85 55 (of_decide_eq_true rfl)) 10).trans (congrFun (f15 55 (of_decide_eq_true rfl)) 10)) ((congrFun (f85 55 (of_decide_eq_true rfl)) 12).trans (congrFun (f15 55 (of_decide_eq_true rfl)) 12)) ((congrFun (f85 55 (of_decide_eq_true rfl)) 13).trans (congrFun (f15 55 (of_decide_eq_true rfl)) 13)) ((f85 62 (of_decide_eq_true rfl)).trans (f15 62 (of_decide_eq_true rfl))) ((f85 67 (of_decide_eq_true rfl)).trans (f15 67 (of_decide_eq_true rfl))) hI104
             have I117 : jI105 σ83 := jI105_fr ((congrFun (f85 55 (of_decide_eq_true rfl)) 15).trans (congrFun (f15 55 (of_decide_eq_true rfl)) 15)) ((f85 65 (of_decide_eq_true rfl)).trans (f15 65 (of_decide_eq_true rfl))) hI105
             have I118 : jI106 σ83 := jI106_fr ((congrFun (f85 55 (of_decide_eq_true rfl)) 32).trans (congrFun (f15 55 (of_decide_eq_true rfl)) 32)) ((f85 70 (of_decide_eq_true rfl)).trans (f15 70 (of_decide_eq_true rfl))) ((f85 71 (of_decide_eq_true rfl)).trans (f15 71 (of_decide_eq_true rfl))) ((f85 72 (of_decide_eq_true rfl)).trans (f15 72 (of_decide_eq_true rfl))) hI106
             have I119 : jI107 σ83 := jI107_fr ((congrFun (f85 55 (of_decide_eq_true rfl)) 12).trans (congrFun (f15 55 (of_decide_eq_true rfl)) 12)) ((congrFun (f85 55 (of_decide_eq_true rfl)) 47).trans (congrFun (f15 55 (of_decide_eq_true rfl)) 47)) ((f85 80 (of_decide_eq_true rfl)).trans (f15 80 (of_decide_eq_true rfl))) hI107
             have I120 : jI109 σ83 := jI109_fr ((congrFun (f85 55 (of_decide_eq_true rfl)) 50).trans (congrFun (f15 55 (of_decide_eq_true rfl)) 50)) hI109
             have I121 : jI111 σ83 := jI111_fr ((f85 79 (of_decide_eq_true rfl)).trans (f15 79 (of_decide_eq_true rfl))) hI111
             have I122 : jI119 σ83 := jI119_fr ((f85 68 (of_decide_eq_true rfl)).trans (f15 68 (of_decide_eq_true rfl))) hI119
             have p123 : jKept σ83 := jKept.fr ((f85 75 (of_decide_eq_true rfl)).trans (f15 75 (of_decide_eq_true rfl))) ((f85 76 (of_decide_eq_true rfl)).trans (f15 76 (of_decide_eq_true rfl))) ((f85 77 (of_decide_eq_true rfl)).trans (f15 77 (of_decide_eq_true rfl))) hs_jKept
             have p124 : jBook σ83 := jBook.fr ((congrFun (f85 55 (of_decide_eq_true rfl)) 47).trans (congrFun (f15 55 (of_decide_eq_true rfl)) 47)) ((congrFun (f85 55 (of_decide_eq_true rfl)) 10).trans (congrFun (f15 55 (of_decide_eq_true rfl)) 10)) ((f85 81 (of_decide_eq_true rfl)).trans (f15 81 (of_decide_eq_true rfl))) hs_jBook
             have z125 : (σ83 9 0).toInt = (σ 9 0).toInt := (congrArg Int32.toInt (show σ83 9 0 = (σ 9 0) from ((congrFun (f85 9 (of_decide_eq_true rfl)) 0).trans (congrFun (f15 9 (of_decide_eq_true rfl)) 0))))
             have z126 : (σ83 55 15).toInt = (σ 55 15).toInt := (congrArg Int32.toInt (show σ83 55 15 = (σ 55 15) from ((congrFun (f85 55 (of_decide_eq_true rfl)) 15).trans (congrFun (f15 55 (of_decide_eq_true rfl)) 15))))
             exact by exact ih x101 σ83 τ83 _ _ ls (by have h9 := tx101; omega) ⟨I102, I103, I104, I105, I106, I107, I108, I109, I110, I111, I112, I113, I114, I115, I116, I117, I118, I119, I120, I86, I121, I122, p123, p124, (by omega), (show jTp (σ83 10) (σ83 63) (σ83 55 15).toInt by rw [show σ83 10 = σ 10 from ((f85 10 (of_decide_eq_true rfl)).trans (f15 10 (of_decide_eq_true rfl))), show σ83 63 = σ 63 from ((f85 63 (of_decide_eq_true rfl)).trans (f15 63 (of_decide_eq_true rfl)))]; exact hr0.le (by omega))⟩ hP hS (lv_sub hl [0, 1, 2, 3] rfl)
         · obtain ⟨q132, k127, k128, k129, k130, k131⟩ := h90
           exact absurd (by omega : False) id
     · obtain ⟨q138, k133, k134, k135, k136, k137⟩ := h20
       have q138 := q138.symm
       subst q138
       refine lv_pop hx hb dL_law_1108 rfl ?_
       refine lv_aload_n hx hb dL_law_1109 rfl (lv_at hl 1 rfl) ?_
       refine lv_aload_n hx hb dL_law_1110 rfl (lv_at hl 3 rfl) ?_
       refine lv_iload_n hx hb dL_law_1111 rfl (lv_at hl 0 rfl) ?_
       refine lv_iconst (v := 1) hx hb dL_law_1112 (of_decide_eq_true rfl) ?_
       refine lv_iadd hx hb dL_law_1113 ?_
       refine jtopr ex7.symm ?_
       exact by
        refine va_sld hx hb hX hbl hbA hS (jin tx7 (by omega) (by omega)) dL_law_1114 ?_
        refine lv_aload_n hx hb dL_law_1115 rfl (lv_at hl 3 rfl) ?_
        refine lv_iload_n hx hb dL_law_1116 rfl (lv_at hl 0 rfl) ?_
        refine lv_iconst (v := 2) hx hb dL_law_1117 (of_decide_eq_true rfl) ?_
        refine lv_iadd hx hb dL_law_1118 ?_
        refine jtopr ex9.symm ?_
        refine va_sld hx hb hX hbl hbA hS (jin tx9 (by omega) (by omega)) dL_law_1119 ?_
        refine lv_aload_n hx hb dL_law_1120 rfl (lv_at hl 3 rfl) ?_
        refine lv_iload_n hx hb dL_law_1121 rfl (lv_at hl 0 rfl) ?_
        exact by
         refine lv_iconst (v := 3) hx hb dL_law_1122 (of_decide_eq_true rfl) ?_
         refine lv_iadd hx hb dL_law_1123 ?_
         refine jtopr ex11.symm ?_
         refine va_sld hx hb hX hbl hbA hS (jin tx11 (by omega) (by omega)) dL_law_1124 ?_
         have I139 : jI110 σ13 := jI110_fr (f15 86 (of_decide_eq_true rfl)) (f15 87 (of_decide_eq_true rfl)) hI110
         refine jcallV (As := [.int (xs x7.toNatClampNeg), .int (xs x9.toNatClampNeg), .int (xs x11.toNatClampNeg)]) (rest := []) ⟨hx, hb, hml, hown, hts⟩ hK hP hA hS hZ (c_X12_row l D cI cL ad zz hJ σ13 τ13 (xs x7.toNatClampNeg) ((xs x7.toNatClampNeg).toInt) rfl (xs x9.toNatClampNeg) ((xs x9.toNatClampNeg).toInt) rfl (xs x11.toNatClampNeg) ((xs x11.toNatClampNeg).toInt) rfl I139) cw_RL_144 (jc_55 cI cL ad σ13 τ13) rfl ⟨Nat.le_of_ble_eq_true rfl, Nat.le_of_ble_eq_true rfl⟩ rfl rfl rfl hl.1 rfl (Nat.le_of_ble_eq_true rfl) dL_law_1125 ⟨Nat.le_of_ble_eq_true rfl, Nat.le_of_ble_eq_true rfl⟩ (fun r141 σ140 τ140 H locs h140 hP hS => ?_)
         obtain ⟨f144, f142, I143, h140⟩ := h140
         rcases h140 with h145 | h146 | h147
         · obtain ⟨q151, k148, k149, k150⟩ := h145
           exact absurd (by omega : False) id
         · exact by
            obtain ⟨q157, k152, k153, k154, k155, k156⟩ := h146
            exact absurd (by omega : False) id
         · obtain ⟨q163, k158, k159, k160, k161, k162⟩ := h147
           have q163 := q163.symm
           subst q163
           refine lv_pop hx hb dL_law_1128 rfl ?_
           refine lv_goto (tgt := 1357) hx hb dL_law_1129 (of_decide_eq_true rfl) ?_
           obtain ⟨x164, ex164⟩ : ∃ y : Int32, y = x0 + 6 := ⟨_, rfl⟩
           have tx164 : x164.toInt = x0.toInt + 6 := (jadd ex164 rfl jz_6 (by omega) (by omega)).trans (by omega)
           exact by
            refine lv_iinc (v := x164) (lv' := [(3, .int x164), (2, .ref (ad 55)), (1, .ref (ad 0)), (0, .ref b)]) hx hb dL_law_1357 hl (k := 0) rfl (by rw [ex164]; rfl) (of_decide_eq_true rfl) rfl (fun ls hl => ?_)
            refine lv_goto (tgt := 18) hx hb dL_law_1360 (of_decide_eq_true rfl) ?_
            have I165 : jI2 σ140 := jI2_fr ((congrFun (f142 2 (of_decide_eq_true rfl)) 0).trans (congrFun (f15 2 (of_decide_eq_true rfl)) 0)) ((congrFun (f142 2 (of_decide_eq_true rfl)) 1).trans (congrFun (f15 2 (of_decide_eq_true rfl)) 1)) ((congrFun (f142 2 (of_decide_eq_true rfl)) 2).trans (congrFun (f15 2 (of_decide_eq_true rfl)) 2)) ((congrFun (f142 2 (of_decide_eq_true rfl)) 3).trans (congrFun (f15 2 (of_decide_eq_true rfl)) 3)) ((f142 6 (of_decide_eq_true rfl)).trans (f15 6 (of_decide_eq_true rfl))) hI2
            have I166 : jI9 σ140 := jI9_fr ((congrFun (f142 9 (of_decide_eq_true rfl)) 0).trans (congrFun (f15 9 (of_decide_eq_true rfl)) 0)) ((f142 10 (of_decide_eq_true rfl)).trans (f15 10 (of_decide_eq_true rfl))) ((f142 11 (of_decide_eq_true rfl)).trans (f15 11 (of_decide_eq_true rfl))) hI9
            have I167 : jI12 σ140 := jI12_fr ((congrFun (f142 12 (of_decide_eq_true rfl)) 0).trans (congrFun (f15 12 (of_decide_eq_true rfl)) 0)) ((f142 13 (of_decide_eq_true rfl)).trans (f15 13 (of_decide_eq_true rfl))) hI12
            have I168 : jI16 σ140 := jI16_fr ((congrFun (f142 16 (of_decide_eq_true rfl)) 0).trans (congrFun (f15 16 (of_decide_eq_true rfl)) 0)) ((congrFun (f142 16 (of_decide_eq_true rfl)) 1).trans (congrFun (f15 16 (of_decide_eq_true rfl)) 1)) ((congrFun (f142 16 (of_decide_eq_true rfl)) 2).trans (congrFun (f15 16 (of_decide_eq_true rfl)) 2)) ((f142 17 (of_decide_eq_true rfl)).trans (f15 17 (of_decide_eq_true rfl))) hI16
            have I169 : jI18 σ140 := jI18_fr ((congrFun (f142 18 (of_decide_eq_true rfl)) 0).trans (congrFun (f15 18 (of_decide_eq_true rfl)) 0)) ((f142 19 (of_decide_eq_true rfl)).trans (f15 19 (of_decide_eq_true rfl))) hI18
            have I170 : jI22 σ140 := jI22_fr ((congrFun (f142 22 (of_decide_eq_true rfl)) 0).trans (congrFun (f15 22 (of_decide_eq_true rfl)) 0)) ((f142 23 (of_decide_eq_true rfl)).trans (f15 23 (of_decide_eq_true rfl))) hI22
            have I171 : jI31 σ140 := jI31_fr ((congrFun (f142 31 (of_decide_eq_true rfl)) 8).trans (congrFun (f15 31 (of_decide_eq_true rfl)) 8)) ((f142 33 (of_decide_eq_true rfl)).trans (f15 33 (of_decide_eq_true rfl))) ((f142 36 (of_decide_eq_true rfl)).trans (f15 36 (of_decide_eq_true rfl))) hI31
            have I172 : jI38 σ140 := jI38_fr ((congrFun (f142 38 (of_decide_eq_true rfl)) 0).trans (congrFun (f15 38 (of_decide_eq_true rfl)) 0)) ((congrFun (f142 38 (of_decide_eq_true rfl)) 1).trans (congrFun (f15 38 (of_decide_eq_true rfl)) 1)) ((f142 39 (of_decide_eq_true rfl)).trans (f15 39 (of_decide_eq_true rfl))) hI38
            have I173 : jI43 σ140 := jI43_fr ((congrFun (f142 43 (of_decide_eq_true rfl)) 8).trans (congrFun (f15 43 (of_decide_eq_true rfl)) 8)) hI43
            have I174 : jI47 σ140 := jI47_fr ((congrFun (f142 47 (of_decide_eq_true rfl)) 0).trans (congrFun (f15 47 (of_decide_eq_true rfl)) 0)) ((f142 48 (of_decide_eq_true rfl)).trans (f15 48 (of_decide_eq_true rfl))) ((f142 49 (of_decide_eq_true rfl)).trans (f15 49 (of_decide_eq_true rfl))) hI47
            have I175 : jI50 σ140 := jI50_fr (f142 52 (of_decide_eq_true rfl)) I16
            have I176 : jI101 σ140 := jI101_fr ((congrFun (f142 55 (of_decide_eq_true rfl)) 4).trans (congrFun (f15 55 (of_decide_eq_true rfl)) 4)) ((congrFun (f142 55 (of_decide_eq_true rfl)) 5).trans (congrFun (f15 55 (of_decide_eq_true rfl)) 5)) ((f142 56 (of_decide_eq_true rfl)).trans (f15 56 (of_decide_eq_true rfl))) ((f142 57 (of_decide_eq_true rfl)).trans (f15 57 (of_decide_eq_true rfl))) ((f142 58 (of_decide_eq_true rfl)).trans (f15 58 (of_decide_eq_true rfl))) ((f142 59 (of_decide_eq_true rfl)).trans (f15 59 (of_decide_eq_true rfl))) hI101
            have I177 : jI102 σ140 := jI102_fr ((congrFun (f142 55 (of_decide_eq_true rfl)) 6).trans (congrFun (f15 55 (of_decide_eq_true rfl)) 6)) ((f142 60 (of_decide_eq_true rfl)).trans (f15 60 (of_decide_eq_true rfl))) ((f142 61 (of_decide_eq_true rfl)).trans (f15 61 (of_decide_eq_true rfl))) hI102
            have I178 : jI103 σ140 := jI103_fr ((congrFun (f142 55 (of_decide_eq_true rfl)) 9).trans (congrFun (f15 55 (of_decide_eq_true rfl)) 9)) hI103
            have I179 : jI104 σ140 := jI104_fr ((congrFun (f142 55 (of_decide_eq_true rfl)) 10).trans (congrFun (f15 55 (of_decide_eq_true rfl)) 10)) ((congrFun (f142 55 (of_decide_eq_true rfl)) 12).trans (congrFun (f15 55 (of_decide_eq_true rfl)) 12)) ((congrFun (f142 55 (of_decide_eq_true rfl)) 13).trans (congrFun (f15 55 (of_decide_eq_true rfl)) 13)) ((f142 62 (of_decide_eq_true rfl)).trans (f15 62 (of_decide_eq_true rfl))) ((f142 67 (of_decide_eq_true rfl)).trans (f15 67 (of_decide_eq_true rfl))) hI104
            have I180 : jI105 σ140 := jI105_fr ((congrFun (f142 55 (of_decide_eq_true rfl)) 15).trans (congrFun (f15 55 (of_decide_eq_true rfl)) 15)) ((f142 65 (of_decide_eq_true rfl)).trans (f15 65 (of_decide_eq_true rfl))) hI105
            have I181 : jI106 σ140 := jI106_fr ((congrFun (f142 55 (of_decide_eq_true rfl)) 32).trans (congrFun (f15 55 (of_decide_eq_true rfl)) 32)) ((f142 70 (of_decide_eq_true rfl)).trans (f15 70 (of_decide_eq_true rfl))) ((f142 71 (of_decide_eq_true rfl)).trans (f15 71 (of_decide_eq_true rfl))) ((f142 72 (of_decide_eq_true rfl)).trans (f15 72 (of_decide_eq_true rfl))) hI106
            have I182 : jI107 σ140 := jI107_fr ((congrFun (f142 55 (of_decide_eq_true rfl)) 12).trans (congrFun (f15 55 (of_decide_eq_true rfl)) 12)) ((congrFun (f142 55 (of_decide_eq_true rfl)) 47).trans (congrFun (f15 55 (of_decide_eq_true rfl)) 47)) ((f142 80 (of_decide_eq_true rfl)).trans (f15 80 (of_decide_eq_true rfl))) hI107
            have I183 : jI109 σ140 := jI109_fr ((congrFun (f142 55 (of_decide_eq_true rfl)) 50).trans (congrFun (f15 55 (of_decide_eq_true rfl)) 50)) hI109
            have I184 : jI111 σ140 := jI111_fr ((f142 79 (of_decide_eq_true rfl)).trans (f15 79 (of_decide_eq_true rfl))) hI111
            have I185 : jI119 σ140 := jI119_fr ((f142 68 (of_decide_eq_true rfl)).trans (f15 68 (of_decide_eq_true rfl))) hI119
            have p186 : jKept σ140 := jKept.fr ((f142 75 (of_decide_eq_true rfl)).trans (f15 75 (of_decide_eq_true rfl))) ((f142 76 (of_decide_eq_true rfl)).trans (f15 76 (of_decide_eq_true rfl))) ((f142 77 (of_decide_eq_true rfl)).trans (f15 77 (of_decide_eq_true rfl))) hs_jKept
            have p187 : jBook σ140 := jBook.fr ((congrFun (f142 55 (of_decide_eq_true rfl)) 47).trans (congrFun (f15 55 (of_decide_eq_true rfl)) 47)) ((congrFun (f142 55 (of_decide_eq_true rfl)) 10).trans (congrFun (f15 55 (of_decide_eq_true rfl)) 10)) ((f142 81 (of_decide_eq_true rfl)).trans (f15 81 (of_decide_eq_true rfl))) hs_jBook
            have z188 : (σ140 9 0).toInt = (σ 9 0).toInt := (congrArg Int32.toInt (show σ140 9 0 = (σ 9 0) from ((congrFun (f142 9 (of_decide_eq_true rfl)) 0).trans (congrFun (f15 9 (of_decide_eq_true rfl)) 0))))
            have z189 : (σ140 55 15).toInt = (σ 55 15).toInt := (congrArg Int32.toInt (show σ140 55 15 = (σ 55 15) from ((congrFun (f142 55 (of_decide_eq_true rfl)) 15).trans (congrFun (f15 55 (of_decide_eq_true rfl)) 15))))
            exact by exact ih x164 σ140 τ140 _ _ ls (by have h9 := tx164; omega) ⟨I165, I166, I167, I168, I169, I170, I171, I172, I173, I174, I175, I176, I177, I178, I179, I180, I181, I182, I183, I143, I184, I185, p186, p187, (by omega), (show jTp (σ140 10) (σ140 63) (σ140 55 15).toInt by rw [show σ140 10 = σ 10 from ((f142 10 (of_decide_eq_true rfl)).trans (f15 10 (of_decide_eq_true rfl))), show σ140 63 = σ 63 from ((f142 63 (of_decide_eq_true rfl)).trans (f15 63 (of_decide_eq_true rfl)))]; exact hr0.le (by omega))⟩ hP hS (lv_sub hl [0, 1, 2, 3] rfl)
set_option maxHeartbeats 4000000 in
set_option maxRecDepth 100000 in
theorem law_case_32 {p : Program} {e : Env} {s : State} {m : MethodId} {below : List Frame} {meth : Method} {c : Code} (l : Launch) {b L : Nat} {xs : Nat → Int32} {D : va_G} {cI cL : ClassId} {ad zz : Nat → Nat} (C0 : lw_At p s m meth c b L xs) (hJ : jD ad) (hA : ∀ q, jA ad q → s.heap.size ≤ q) (hK : jK D cI cL s) (hZ : jZ zz (fun q : Nat => s.heap.size ≤ q) s s.heap) {x0 : Int32} (hx0 : 0 ≤ x0.toInt) (hxL : x0.toInt + 6 ≤ (L : Int)) (hL : L ≤ 384) {σ : Nat → Nat → Int32} {τ : Nat → Nat → Int64} {H : Heap} {locs : List Loc} (hS : va_S (fun q : Nat => s.heap.size ≤ q) s.heap H locs) {ls : Array Slot} (hAll : jAll σ τ) (hP : jH D cI cL ad σ τ H) (hl : lv_has ls 4 [(3, .int x0), (2, .ref (ad 55)), (1, .ref (ad 0)), (0, .ref b)]) (ih : ∀ (x1 : Int32) (σ : Nat → Nat → Int32) (τ : Nat → Nat → Int64) (H : Heap) (locs : List Loc) (ls : Array Slot), x1.toInt = x0.toInt + 6 → jAll σ τ → jH D cI cL ad σ τ H → va_S (fun q : Nat => s.heap.size ≤ q) s.heap H locs → lv_has ls 4 [(3, .int x1), (2, .ref (ad 55)), (1, .ref (ad 0)), (0, .ref b)] → W p l e room_1 s m #[Value.ref b] below meth c H locs 90 348600 (lw_Z below #[Value.ref b] s) (F0 m 18 ls [])) : W p l e room_1 s m #[Value.ref b] below meth c H locs 90 348600 (lw_Z below #[Value.ref b] s) (F0 m 1132 ls []) := by
  obtain ⟨hx, hb, hr, hml, hown, hts0, hX, hbl, hlocks, hgv⟩ := C0
  have hts : ∀ w ∈ wsL_law, w.before #[Value.ref b] s = true := fun w h => hts0 w (wsL_law_in w h)
  have hbA : ¬ (fun q : Nat => s.heap.size ≤ q) b := Nat.not_le.mpr hbl
  have hown : s.vm.findClass RL = some m.cls := hown
  obtain ⟨hI2, hI9, hI12, hI16, hI18, hI22, hI31, hI38, hI43, hI47, hI50, hI101, hI102, hI103, hI104, hI105, hI106, hI107, hI109, hI110, hI111, hI119, hs_jKept, hs_jBook, ht0, hr0⟩ := hAll
  have hL9 : (L : Int) ≤ 384 := by omega
  obtain ⟨i1, w2, w3⟩ : (0 ≤ (σ 9 0).toInt ∧ (σ 9 0).toInt ≤ 80) ∧ (∀ k : Nat, k < 80 → 0 ≤ (σ 10 k).toInt ∧ (σ 10 k).toInt ≤ 255) ∧ (∀ k : Nat, k < 8 → 0 ≤ (σ 11 k).toInt ∧ (σ 11 k).toInt ≤ 3) := id hI9
  obtain ⟨i4, w5⟩ : (0 ≤ (σ 55 15).toInt ∧ (σ 55 15).toInt ≤ 80) ∧ (∀ k : Nat, k < 2 → (-1) ≤ (σ 65 k).toInt ∧ (σ 65 k).toInt ≤ 80) := id hI105
  refine lv_aload_n hx hb dL_law_1132 rfl (lv_at hl 2 rfl) ?_
  refine lv_aload_n hx hb dL_law_1133 rfl (lv_at hl 3 rfl) ?_
  refine lv_iload_n hx hb dL_law_1134 rfl (lv_at hl 0 rfl) ?_
  refine lv_iconst (v := 1) hx hb dL_law_1135 (of_decide_eq_true rfl) ?_
  have g6 := jrg (rfl : x0.toInt = x0.toInt)
  refine lv_iadd hx hb dL_law_1136 ?_
  refine lv_topi (fun x7 ex7 => ?_)
  exact by
   have tx7 : x7.toInt = x0.toInt + 1 := (jadd ex7 rfl jz_1 (by omega) (by omega)).trans (by omega)
   refine va_sld hx hb hX hbl hbA hS (jin tx7 (by omega) (by omega)) dL_law_1137 ?_
   have g8 := jrg (rfl : (xs x7.toNatClampNeg).toInt = (xs x7.toNatClampNeg).toInt)
   refine lv_aload_n hx hb dL_law_1138 rfl (lv_at hl 3 rfl) ?_
   refine lv_iload_n hx hb dL_law_1139 rfl (lv_at hl 0 rfl) ?_
   refine lv_iconst (v := 2) hx hb dL_law_1140 (of_decide_eq_true rfl) ?_
   refine lv_iadd hx hb dL_law_1141 ?_
   refine lv_topi (fun x9 ex9 => ?_)
   have tx9 : x9.toInt = x0.toInt + 2 := (jadd ex9 rfl jz_2 (by omega) (by omega)).trans (by omega)
   exact by
    refine va_sld hx hb hX hbl hbA hS (jin tx9 (by omega) (by omega)) dL_law_1142 ?_
    have g10 := jrg (rfl : (xs x9.toNatClampNeg).toInt = (xs x9.toNatClampNeg).toInt)
    refine lv_aload_n hx hb dL_law_1143 rfl (lv_at hl 3 rfl) ?_
    refine lv_iload_n hx hb dL_law_1144 rfl (lv_at hl 0 rfl) ?_
    refine lv_iconst (v := 3) hx hb dL_law_1145 (of_decide_eq_true rfl) ?_
    refine lv_iadd hx hb dL_law_1146 ?_
    refine lv_topi (fun x11 ex11 => ?_)
    have tx11 : x11.toInt = x0.toInt + 3 := (jadd ex11 rfl jz_3 (by omega) (by omega)).trans (by omega)
    refine va_sld hx hb hX hbl hbA hS (jin tx11 (by omega) (by omega)) dL_law_1147 ?_
    exact by
     have g12 := jrg (rfl : (xs x11.toNatClampNeg).toInt = (xs x11.toNatClampNeg).toInt)
     refine lv_i2l (v := (xs x11.toNatClampNeg).toInt64) hx hb dL_law_1148 rfl ?_
     refine lv_bipush (v := 32) hx hb dL_law_1149 (of_decide_eq_true rfl) ?_
     refine lv_lshl hx hb dL_law_1151 rfl ?_
     refine lv_topl (fun lx13 elx13 => ?_)
     refine lv_aload_n hx hb dL_law_1152 rfl (lv_at hl 3 rfl) ?_
     refine lv_iload_n hx hb dL_law_1153 rfl (lv_at hl 0 rfl) ?_
     refine lv_iconst (v := 4) hx hb dL_law_1154 (of_decide_eq_true rfl) ?_
     refine lv_iadd hx hb dL_law_1155 ?_
     refine lv_topi (fun x14 ex14 => ?_)
     exact by
      have tx14 : x14.toInt = x0.toInt + 4 := (jadd ex14 rfl jz_4 (by omega) (by omega)).trans (by omega)
      refine va_sld hx hb hX hbl hbA hS (jin tx14 (by omega) (by omega)) dL_law_1156 ?_
      have g15 := jrg (rfl : (xs x14.toNatClampNeg).toInt = (xs x14.toNatClampNeg).toInt)
      refine lv_i2l (v := (xs x14.toNatClampNeg).toInt64) hx hb dL_law_1157 rfl ?_
      refine lv_ldc2 (v := 4294967295) hx hb hown (hts _ kw_1_6) dL_law_1158 ?_
      refine lv_land hx hb dL_law_1161 ?_
      refine lv_topl (fun lx16 elx16 => ?_)
      refine lv_lor hx hb dL_law_1162 ?_
      refine lv_topl (fun lx17 elx17 => ?_)
      exact by
       refine jcallV (As := [.int (xs x7.toNatClampNeg), .int (xs x9.toNatClampNeg), .long lx17]) (rest := []) ⟨hx, hb, hml, hown, hts⟩ hK hP hA hS hZ (c_X11_put l D cI cL ad zz hJ σ τ (xs x7.toNatClampNeg) ((xs x7.toNatClampNeg).toInt) rfl (xs x9.toNatClampNeg) ((xs x9.toNatClampNeg).toInt) rfl lx17 (lx17.toInt) rfl hI50) cw_RL_147 (jc_0 cI cL ad σ τ) rfl ⟨Nat.le_of_ble_eq_true rfl, Nat.le_of_ble_eq_true rfl⟩ rfl rfl rfl hl.1 rfl (Nat.le_of_ble_eq_true rfl) dL_law_1163 ⟨Nat.le_of_ble_eq_true rfl, Nat.le_of_ble_eq_true rfl⟩ (fun r19 σ18 τ18 H locs h18 hP hS => ?_)
       obtain ⟨f23, f20, w21, w22, h18⟩ := h18
       refine lv_pop hx hb dL_law_1166 rfl ?_
       refine lv_aload_n hx hb dL_law_1167 rfl (lv_at hl 1 rfl) ?_
       refine lv_aload_n hx hb dL_law_1168 rfl (lv_at hl 3 rfl) ?_
       refine lv_iload_n hx hb dL_law_1169 rfl (lv_at hl 0 rfl) ?_
       refine lv_iconst (v := 1) hx hb dL_law_1170 (of_decide_eq_true rfl) ?_
       refine lv_iadd hx hb dL_law_1171 ?_
       refine jtopr ex7.symm ?_
       exact by
        refine va_sld hx hb hX hbl hbA hS (jin tx7 (by omega) (by omega)) dL_law_1172 ?_
        refine lv_aload_n hx hb dL_law_1173 rfl (lv_at hl 3 rfl) ?_
        refine lv_iload_n hx hb dL_law_1174 rfl (lv_at hl 0 rfl) ?_
        refine lv_iconst (v := 2) hx hb dL_law_1175 (of_decide_eq_true rfl) ?_
        refine lv_iadd hx hb dL_law_1176 ?_
        refine jtopr ex9.symm ?_
        refine va_sld hx hb hX hbl hbA hS (jin tx9 (by omega) (by omega)) dL_law_1177 ?_
        refine lv_aload_n hx hb dL_law_1178 rfl (lv_at hl 3 rfl) ?_
        refine lv_iload_n hx hb dL_law_1179 rfl (lv_at hl 0 rfl) ?_
        exact by
         refine lv_iconst (v := 3) hx hb dL_law_1180 (of_decide_eq_true rfl) ?_
         refine lv_iadd hx hb dL_law_1181 ?_
         refine jtopr ex11.symm ?_
         refine va_sld hx hb hX hbl hbA hS (jin tx11 (by omega) (by omega)) dL_law_1182 ?_
         refine lv_i2l (v := (xs x11.toNatClampNeg).toInt64) hx hb dL_law_1183 rfl ?_
         refine lv_bipush (v := 32) hx hb dL_law_1184 (of_decide_eq_true rfl) ?_
         refine lv_lshl hx hb dL_law_1186 rfl ?_
         refine lv_topl (fun lx24 elx24 => ?_)
         refine lv_aload_n hx hb dL_law_1187 rfl (lv_at hl 3 rfl) ?_
         exact by
          refine lv_iload_n hx hb dL_law_1188 rfl (lv_at hl 0 rfl) ?_
          refine lv_iconst (v := 4) hx hb dL_law_1189 (of_decide_eq_true rfl) ?_
          refine lv_iadd hx hb dL_law_1190 ?_
          refine jtopr ex14.symm ?_
          refine va_sld hx hb hX hbl hbA hS (jin tx14 (by omega) (by omega)) dL_law_1191 ?_
          refine lv_i2l (v := (xs x14.toNatClampNeg).toInt64) hx hb dL_law_1192 rfl ?_
          refine lv_ldc2 (v := 4294967295) hx hb hown (hts _ kw_1_6) dL_law_1193 ?_
          refine lv_land hx hb dL_law_1196 ?_
          refine lv_topl (fun lx25 elx25 => ?_)
          exact by
           refine lv_lor hx hb dL_law_1197 ?_
           refine lv_topl (fun lx26 elx26 => ?_)
           have I27 : jI110 σ18 := jI110_fr (f20 86 (of_decide_eq_true rfl)) (f20 87 (of_decide_eq_true rfl)) hI110
           refine jcallV (As := [.int (xs x7.toNatClampNeg), .int (xs x9.toNatClampNeg), .long lx26]) (rest := []) ⟨hx, hb, hml, hown, hts⟩ hK hP hA hS hZ (c_X12_put l D cI cL ad zz hJ σ18 τ18 (xs x7.toNatClampNeg) ((xs x7.toNatClampNeg).toInt) rfl (xs x9.toNatClampNeg) ((xs x9.toNatClampNeg).toInt) rfl lx26 (lx26.toInt) rfl I27) cw_RL_151 (jc_55 cI cL ad σ18 τ18) rfl ⟨Nat.le_of_ble_eq_true rfl, Nat.le_of_ble_eq_true rfl⟩ rfl rfl rfl hl.1 rfl (Nat.le_of_ble_eq_true rfl) dL_law_1198 ⟨Nat.le_of_ble_eq_true rfl, Nat.le_of_ble_eq_true rfl⟩ (fun r29 σ28 τ28 H locs h28 hP hS => ?_)
           obtain ⟨f33, f30, w31, w32, h28⟩ := h28
           refine lv_pop hx hb dL_law_1201 rfl ?_
           refine lv_goto (tgt := 1357) hx hb dL_law_1202 (of_decide_eq_true rfl) ?_
           obtain ⟨x34, ex34⟩ : ∃ y : Int32, y = x0 + 6 := ⟨_, rfl⟩
           have tx34 : x34.toInt = x0.toInt + 6 := (jadd ex34 rfl jz_6 (by omega) (by omega)).trans (by omega)
           exact by
            refine lv_iinc (v := x34) (lv' := [(3, .int x34), (2, .ref (ad 55)), (1, .ref (ad 0)), (0, .ref b)]) hx hb dL_law_1357 hl (k := 0) rfl (by rw [ex34]; rfl) (of_decide_eq_true rfl) rfl (fun ls hl => ?_)
            refine lv_goto (tgt := 18) hx hb dL_law_1360 (of_decide_eq_true rfl) ?_
            have I35 : jI2 σ28 := jI2_fr ((congrFun (f30 2 (of_decide_eq_true rfl)) 0).trans (congrFun (f20 2 (of_decide_eq_true rfl)) 0)) ((congrFun (f30 2 (of_decide_eq_true rfl)) 1).trans (congrFun (f20 2 (of_decide_eq_true rfl)) 1)) ((congrFun (f30 2 (of_decide_eq_true rfl)) 2).trans (congrFun (f20 2 (of_decide_eq_true rfl)) 2)) ((congrFun (f30 2 (of_decide_eq_true rfl)) 3).trans (congrFun (f20 2 (of_decide_eq_true rfl)) 3)) ((f30 6 (of_decide_eq_true rfl)).trans (f20 6 (of_decide_eq_true rfl))) hI2
            have I36 : jI9 σ28 := jI9_fr ((congrFun (f30 9 (of_decide_eq_true rfl)) 0).trans (congrFun (f20 9 (of_decide_eq_true rfl)) 0)) ((f30 10 (of_decide_eq_true rfl)).trans (f20 10 (of_decide_eq_true rfl))) ((f30 11 (of_decide_eq_true rfl)).trans (f20 11 (of_decide_eq_true rfl))) hI9
            have I37 : jI12 σ28 := jI12_fr ((congrFun (f30 12 (of_decide_eq_true rfl)) 0).trans (congrFun (f20 12 (of_decide_eq_true rfl)) 0)) ((f30 13 (of_decide_eq_true rfl)).trans (f20 13 (of_decide_eq_true rfl))) hI12
            have I38 : jI16 σ28 := jI16_fr ((congrFun (f30 16 (of_decide_eq_true rfl)) 0).trans (congrFun (f20 16 (of_decide_eq_true rfl)) 0)) ((congrFun (f30 16 (of_decide_eq_true rfl)) 1).trans (congrFun (f20 16 (of_decide_eq_true rfl)) 1)) ((congrFun (f30 16 (of_decide_eq_true rfl)) 2).trans (congrFun (f20 16 (of_decide_eq_true rfl)) 2)) ((f30 17 (of_decide_eq_true rfl)).trans (f20 17 (of_decide_eq_true rfl))) hI16
            have I39 : jI18 σ28 := jI18_fr ((congrFun (f30 18 (of_decide_eq_true rfl)) 0).trans (congrFun (f20 18 (of_decide_eq_true rfl)) 0)) ((f30 19 (of_decide_eq_true rfl)).trans (f20 19 (of_decide_eq_true rfl))) hI18
            have I40 : jI22 σ28 := jI22_fr ((congrFun (f30 22 (of_decide_eq_true rfl)) 0).trans (congrFun (f20 22 (of_decide_eq_true rfl)) 0)) ((f30 23 (of_decide_eq_true rfl)).trans (f20 23 (of_decide_eq_true rfl))) hI22
            have I41 : jI31 σ28 := jI31_fr ((congrFun (f30 31 (of_decide_eq_true rfl)) 8).trans (congrFun (f20 31 (of_decide_eq_true rfl)) 8)) ((f30 33 (of_decide_eq_true rfl)).trans (f20 33 (of_decide_eq_true rfl))) ((f30 36 (of_decide_eq_true rfl)).trans (f20 36 (of_decide_eq_true rfl))) hI31
            have I42 : jI38 σ28 := jI38_fr ((congrFun (f30 38 (of_decide_eq_true rfl)) 0).trans (congrFun (f20 38 (of_decide_eq_true rfl)) 0)) ((congrFun (f30 38 (of_decide_eq_true rfl)) 1).trans (congrFun (f20 38 (of_decide_eq_true rfl)) 1)) ((f30 39 (of_decide_eq_true rfl)).trans (f20 39 (of_decide_eq_true rfl))) hI38
            have I43 : jI43 σ28 := jI43_fr ((congrFun (f30 43 (of_decide_eq_true rfl)) 8).trans (congrFun (f20 43 (of_decide_eq_true rfl)) 8)) hI43
            have I44 : jI47 σ28 := jI47_fr ((congrFun (f30 47 (of_decide_eq_true rfl)) 0).trans (congrFun (f20 47 (of_decide_eq_true rfl)) 0)) ((f30 48 (of_decide_eq_true rfl)).trans (f20 48 (of_decide_eq_true rfl))) ((f30 49 (of_decide_eq_true rfl)).trans (f20 49 (of_decide_eq_true rfl))) hI47
            have I45 : jI50 σ28 := jI50_fr ((f30 52 (of_decide_eq_true rfl)).trans (f20 52 (of_decide_eq_true rfl))) hI50
            have I46 : jI101 σ28 := jI101_fr ((congrFun (f30 55 (of_decide_eq_true rfl)) 4).trans (congrFun (f20 55 (of_decide_eq_true rfl)) 4)) ((congrFun (f30 55 (of_decide_eq_true rfl)) 5).trans (congrFun (f20 55 (of_decide_eq_true rfl)) 5)) ((f30 56 (of_decide_eq_true rfl)).trans (f20 56 (of_decide_eq_true rfl))) ((f30 57 (of_decide_eq_true rfl)).trans (f20 57 (of_decide_eq_true rfl))) ((f30 58 (of_decide_eq_true rfl)).trans (f20 58 (of_decide_eq_true rfl))) ((f30 59 (of_decide_eq_true rfl)).trans (f20 59 (of_decide_eq_true rfl))) hI101
            have I47 : jI102 σ28 := jI102_fr ((congrFun (f30 55 (of_decide_eq_true rfl)) 6).trans (congrFun (f20 55 (of_decide_eq_true rfl)) 6)) ((f30 60 (of_decide_eq_true rfl)).trans (f20 60 (of_decide_eq_true rfl))) ((f30 61 (of_decide_eq_true rfl)).trans (f20 61 (of_decide_eq_true rfl))) hI102
            have I48 : jI103 σ28 := jI103_fr ((congrFun (f30 55 (of_decide_eq_true rfl)) 9).trans (congrFun (f20 55 (of_decide_eq_true rfl)) 9)) hI103
            have I49 : jI104 σ28 := jI104_fr ((congrFun (f30 55 (of_decide_eq_true rfl)) 10).trans (congrFun (f20 55 (of_decide_eq_true rfl)) 10)) ((congrFun (f30 55 (of_decide_eq_true rfl)) 12).trans (congrFun (f20 55 (of_decide_eq_true rfl)) 12)) ((congrFun (f30 55 (of_decide_eq_true rfl)) 13).trans (congrFun (f20 55 (of_decide_eq_true rfl)) 13)) ((f30 62 (of_decide_eq_true rfl)).trans (f20 62 (of_decide_eq_true rfl))) ((f30 67 (of_decide_eq_true rfl)).trans (f20 67 (of_decide_eq_true rfl))) hI104
            have I50 : jI105 σ28 := jI105_fr ((congrFun (f30 55 (of_decide_eq_true rfl)) 15).trans (congrFun (f20 55 (of_decide_eq_true rfl)) 15)) ((f30 65 (of_decide_eq_true rfl)).trans (f20 65 (of_decide_eq_true rfl))) hI105
            have I51 : jI106 σ28 := jI106_fr ((congrFun (f30 55 (of_decide_eq_true rfl)) 32).trans (congrFun (f20 55 (of_decide_eq_true rfl)) 32)) ((f30 70 (of_decide_eq_true rfl)).trans (f20 70 (of_decide_eq_true rfl))) ((f30 71 (of_decide_eq_true rfl)).trans (f20 71 (of_decide_eq_true rfl))) ((f30 72 (of_decide_eq_true rfl)).trans (f20 72 (of_decide_eq_true rfl))) hI106
            have I52 : jI107 σ28 := jI107_fr ((congrFun (f30 55 (of_decide_eq_true rfl)) 12).trans (congrFun (f20 55 (of_decide_eq_true rfl)) 12)) ((congrFun (f30 55 (of_decide_eq_true rfl)) 47).trans (congrFun (f20 55 (of_decide_eq_true rfl)) 47)) ((f30 80 (of_decide_eq_true rfl)).trans (f20 80 (of_decide_eq_true rfl))) hI107
            have I53 : jI109 σ28 := jI109_fr ((congrFun (f30 55 (of_decide_eq_true rfl)) 50).trans (congrFun (f20 55 (of_decide_eq_true rfl)) 50)) hI109
            have I54 : jI110 σ28 := jI110_fr (f30 86 (of_decide_eq_true rfl)) (f30 87 (of_decide_eq_true rfl)) I27
            have I55 : jI111 σ28 := jI111_fr ((f30 79 (of_decide_eq_true rfl)).trans (f20 79 (of_decide_eq_true rfl))) hI111
            have I56 : jI119 σ28 := jI119_fr ((f30 68 (of_decide_eq_true rfl)).trans (f20 68 (of_decide_eq_true rfl))) hI119
            have p57 : jKept σ28 := jKept.fr ((f30 75 (of_decide_eq_true rfl)).trans (f20 75 (of_decide_eq_true rfl))) ((f30 76 (of_decide_eq_true rfl)).trans (f20 76 (of_decide_eq_true rfl))) ((f30 77 (of_decide_eq_true rfl)).trans (f20 77 (of_decide_eq_true rfl))) hs_jKept
            have p58 : jBook σ28 := jBook.fr ((congrFun (f30 55 (of_decide_eq_true rfl)) 47).trans (congrFun (f20 55 (of_decide_eq_true rfl)) 47)) ((congrFun (f30 55 (of_decide_eq_true rfl)) 10).trans (congrFun (f20 55 (of_decide_eq_true rfl)) 10)) ((f30 81 (of_decide_eq_true rfl)).trans (f20 81 (of_decide_eq_true rfl))) hs_jBook
            have z59 : (σ28 9 0).toInt = (σ 9 0).toInt := (congrArg Int32.toInt (show σ28 9 0 = (σ 9 0) from ((congrFun (f30 9 (of_decide_eq_true rfl)) 0).trans (congrFun (f20 9 (of_decide_eq_true rfl)) 0))))
            have z60 : (σ28 55 15).toInt = (σ 55 15).toInt := (congrArg Int32.toInt (show σ28 55 15 = (σ 55 15) from ((congrFun (f30 55 (of_decide_eq_true rfl)) 15).trans (congrFun (f20 55 (of_decide_eq_true rfl)) 15))))
            exact by exact ih x34 σ28 τ28 _ _ ls (by have h9 := tx34; omega) ⟨I35, I36, I37, I38, I39, I40, I41, I42, I43, I44, I45, I46, I47, I48, I49, I50, I51, I52, I53, I54, I55, I56, p57, p58, (by omega), (show jTp (σ28 10) (σ28 63) (σ28 55 15).toInt by rw [show σ28 10 = σ 10 from ((f30 10 (of_decide_eq_true rfl)).trans (f20 10 (of_decide_eq_true rfl))), show σ28 63 = σ 63 from ((f30 63 (of_decide_eq_true rfl)).trans (f20 63 (of_decide_eq_true rfl)))]; exact hr0.le (by omega))⟩ hP hS (lv_sub hl [0, 1, 2, 3] rfl)
set_option maxHeartbeats 4000000 in
set_option maxRecDepth 100000 in
theorem law_case_33 {p : Program} {e : Env} {s : State} {m : MethodId} {below : List Frame} {meth : Method} {c : Code} (l : Launch) {b L : Nat} {xs : Nat → Int32} {D : va_G} {cI cL : ClassId} {ad zz : Nat → Nat} (C0 : lw_At p s m meth c b L xs) (hJ : jD ad) (hA : ∀ q, jA ad q → s.heap.size ≤ q) (hK : jK D cI cL s) (hZ : jZ zz (fun q : Nat => s.heap.size ≤ q) s s.heap) {x0 : Int32} (hx0 : 0 ≤ x0.toInt) (hxL : x0.toInt + 6 ≤ (L : Int)) (hL : L ≤ 384) {σ : Nat → Nat → Int32} {τ : Nat → Nat → Int64} {H : Heap} {locs : List Loc} (hS : va_S (fun q : Nat => s.heap.size ≤ q) s.heap H locs) {ls : Array Slot} (hAll : jAll σ τ) (hP : jH D cI cL ad σ τ H) (hl : lv_has ls 4 [(3, .int x0), (2, .ref (ad 55)), (1, .ref (ad 0)), (0, .ref b)]) (ih : ∀ (x1 : Int32) (σ : Nat → Nat → Int32) (τ : Nat → Nat → Int64) (H : Heap) (locs : List Loc) (ls : Array Slot), x1.toInt = x0.toInt + 6 → jAll σ τ → jH D cI cL ad σ τ H → va_S (fun q : Nat => s.heap.size ≤ q) s.heap H locs → lv_has ls 4 [(3, .int x1), (2, .ref (ad 55)), (1, .ref (ad 0)), (0, .ref b)] → W p l e room_1 s m #[Value.ref b] below meth c H locs 90 348600 (lw_Z below #[Value.ref b] s) (F0 m 18 ls [])) : W p l e room_1 s m #[Value.ref b] below meth c H locs 90 348600 (lw_Z below #[Value.ref b] s) (F0 m 1205 ls []) := by
  obtain ⟨hx, hb, hr, hml, hown, hts0, hX, hbl, hlocks, hgv⟩ := C0
  have hts : ∀ w ∈ wsL_law, w.before #[Value.ref b] s = true := fun w h => hts0 w (wsL_law_in w h)
  have hbA : ¬ (fun q : Nat => s.heap.size ≤ q) b := Nat.not_le.mpr hbl
  have hown : s.vm.findClass RL = some m.cls := hown
  obtain ⟨hI2, hI9, hI12, hI16, hI18, hI22, hI31, hI38, hI43, hI47, hI50, hI101, hI102, hI103, hI104, hI105, hI106, hI107, hI109, hI110, hI111, hI119, hs_jKept, hs_jBook, ht0, hr0⟩ := hAll
  have hL9 : (L : Int) ≤ 384 := by omega
  obtain ⟨i1, w2, w3⟩ : (0 ≤ (σ 9 0).toInt ∧ (σ 9 0).toInt ≤ 80) ∧ (∀ k : Nat, k < 80 → 0 ≤ (σ 10 k).toInt ∧ (σ 10 k).toInt ≤ 255) ∧ (∀ k : Nat, k < 8 → 0 ≤ (σ 11 k).toInt ∧ (σ 11 k).toInt ≤ 3) := id hI9
  obtain ⟨i4, w5⟩ : (0 ≤ (σ 55 15).toInt ∧ (σ 55 15).toInt ≤ 80) ∧ (∀ k : Nat, k < 2 → (-1) ≤ (σ 65 k).toInt ∧ (σ 65 k).toInt ≤ 80) := id hI105
  refine lv_aload_n hx hb dL_law_1205 rfl (lv_at hl 2 rfl) ?_
  refine lv_aload_n hx hb dL_law_1206 rfl (lv_at hl 3 rfl) ?_
  refine lv_iload_n hx hb dL_law_1207 rfl (lv_at hl 0 rfl) ?_
  refine lv_iconst (v := 1) hx hb dL_law_1208 (of_decide_eq_true rfl) ?_
  have g6 := jrg (rfl : x0.toInt = x0.toInt)
  refine lv_iadd hx hb dL_law_1209 ?_
  refine lv_topi (fun x7 ex7 => ?_)
  exact by
   have tx7 : x7.toInt = x0.toInt + 1 := (jadd ex7 rfl jz_1 (by omega) (by omega)).trans (by omega)
   refine va_sld hx hb hX hbl hbA hS (jin tx7 (by omega) (by omega)) dL_law_1210 ?_
   have g8 := jrg (rfl : (xs x7.toNatClampNeg).toInt = (xs x7.toNatClampNeg).toInt)
   refine lv_aload_n hx hb dL_law_1211 rfl (lv_at hl 3 rfl) ?_
   refine lv_iload_n hx hb dL_law_1212 rfl (lv_at hl 0 rfl) ?_
   refine lv_iconst (v := 2) hx hb dL_law_1213 (of_decide_eq_true rfl) ?_
   refine lv_iadd hx hb dL_law_1214 ?_
   refine lv_topi (fun x9 ex9 => ?_)
   have tx9 : x9.toInt = x0.toInt + 2 := (jadd ex9 rfl jz_2 (by omega) (by omega)).trans (by omega)
   exact by
    refine va_sld hx hb hX hbl hbA hS (jin tx9 (by omega) (by omega)) dL_law_1215 ?_
    have g10 := jrg (rfl : (xs x9.toNatClampNeg).toInt = (xs x9.toNatClampNeg).toInt)
    refine jcallVl (As := [.int (xs x7.toNatClampNeg), .int (xs x9.toNatClampNeg)]) (rest := []) ⟨hx, hb, hml, hown, hts⟩ hK hP hA hS hZ (c_X11_element l D cI cL ad zz hJ σ τ (xs x7.toNatClampNeg) ((xs x7.toNatClampNeg).toInt) rfl (xs x9.toNatClampNeg) ((xs x9.toNatClampNeg).toInt) rfl hI50) cw_RL_152 (jc_0 cI cL ad σ τ) rfl ⟨Nat.le_of_ble_eq_true rfl, Nat.le_of_ble_eq_true rfl⟩ rfl rfl rfl hl.1 rfl (Nat.le_of_ble_eq_true rfl) dL_law_1216 ⟨Nat.le_of_ble_eq_true rfl, Nat.le_of_ble_eq_true rfl⟩ (fun lxr12 σ11 τ11 H locs h11 hP hS => ?_)
    obtain ⟨⟨rfl, rfl⟩, w13, h11⟩ := h11
    refine lv_pop2_2 hx hb dL_law_1219 rfl ?_
    refine lv_aload_n hx hb dL_law_1220 rfl (lv_at hl 1 rfl) ?_
    refine lv_aload_n hx hb dL_law_1221 rfl (lv_at hl 3 rfl) ?_
    refine lv_iload_n hx hb dL_law_1222 rfl (lv_at hl 0 rfl) ?_
    refine lv_iconst (v := 1) hx hb dL_law_1223 (of_decide_eq_true rfl) ?_
    refine lv_iadd hx hb dL_law_1224 ?_
    refine jtopr ex7.symm ?_
    exact by
     refine va_sld hx hb hX hbl hbA hS (jin tx7 (by omega) (by omega)) dL_law_1225 ?_
     refine lv_aload_n hx hb dL_law_1226 rfl (lv_at hl 3 rfl) ?_
     refine lv_iload_n hx hb dL_law_1227 rfl (lv_at hl 0 rfl) ?_
     refine lv_iconst (v := 2) hx hb dL_law_1228 (of_decide_eq_true rfl) ?_
     refine lv_iadd hx hb dL_law_1229 ?_
     refine jtopr ex9.symm ?_
     refine va_sld hx hb hX hbl hbA hS (jin tx9 (by omega) (by omega)) dL_law_1230 ?_
     refine jcallVl (As := [.int (xs x7.toNatClampNeg), .int (xs x9.toNatClampNeg)]) (rest := []) ⟨hx, hb, hml, hown, hts⟩ hK hP hA hS hZ (c_X12_element l D cI cL ad zz hJ σ τ (xs x7.toNatClampNeg) ((xs x7.toNatClampNeg).toInt) rfl (xs x9.toNatClampNeg) ((xs x9.toNatClampNeg).toInt) rfl hI110) cw_RL_156 (jc_55 cI cL ad σ τ) rfl ⟨Nat.le_of_ble_eq_true rfl, Nat.le_of_ble_eq_true rfl⟩ rfl rfl rfl hl.1 rfl (Nat.le_of_ble_eq_true rfl) dL_law_1231 ⟨Nat.le_of_ble_eq_true rfl, Nat.le_of_ble_eq_true rfl⟩ (fun lxr15 σ14 τ14 H locs h14 hP hS => ?_)
     obtain ⟨⟨rfl, rfl⟩, w16, h14⟩ := h14
     exact by
      refine lv_pop2_2 hx hb dL_law_1234 rfl ?_
      refine lv_goto (tgt := 1357) hx hb dL_law_1235 (of_decide_eq_true rfl) ?_
      obtain ⟨x17, ex17⟩ : ∃ y : Int32, y = x0 + 6 := ⟨_, rfl⟩
      have tx17 : x17.toInt = x0.toInt + 6 := (jadd ex17 rfl jz_6 (by omega) (by omega)).trans (by omega)
      refine lv_iinc (v := x17) (lv' := [(3, .int x17), (2, .ref (ad 55)), (1, .ref (ad 0)), (0, .ref b)]) hx hb dL_law_1357 hl (k := 0) rfl (by rw [ex17]; rfl) (of_decide_eq_true rfl) rfl (fun ls hl => ?_)
      refine lv_goto (tgt := 18) hx hb dL_law_1360 (of_decide_eq_true rfl) ?_
      exact by exact ih x17 σ τ _ _ ls (by have h9 := tx17; omega) ⟨hI2, hI9, hI12, hI16, hI18, hI22, hI31, hI38, hI43, hI47, hI50, hI101, hI102, hI103, hI104, hI105, hI106, hI107, hI109, hI110, hI111, hI119, hs_jKept, hs_jBook, (by omega), hr0⟩ hP hS (lv_sub hl [0, 1, 2, 3] rfl)
set_option maxHeartbeats 4000000 in
set_option maxRecDepth 100000 in
theorem law_case_34 {p : Program} {e : Env} {s : State} {m : MethodId} {below : List Frame} {meth : Method} {c : Code} (l : Launch) {b L : Nat} {xs : Nat → Int32} {D : va_G} {cI cL : ClassId} {ad zz : Nat → Nat} (C0 : lw_At p s m meth c b L xs) (hJ : jD ad) (hA : ∀ q, jA ad q → s.heap.size ≤ q) (hK : jK D cI cL s) (hZ : jZ zz (fun q : Nat => s.heap.size ≤ q) s s.heap) {x0 : Int32} (hx0 : 0 ≤ x0.toInt) (hxL : x0.toInt + 6 ≤ (L : Int)) (hL : L ≤ 384) {σ : Nat → Nat → Int32} {τ : Nat → Nat → Int64} {H : Heap} {locs : List Loc} (hS : va_S (fun q : Nat => s.heap.size ≤ q) s.heap H locs) {ls : Array Slot} (hAll : jAll σ τ) (hP : jH D cI cL ad σ τ H) (hl : lv_has ls 4 [(3, .int x0), (2, .ref (ad 55)), (1, .ref (ad 0)), (0, .ref b)]) (ih : ∀ (x1 : Int32) (σ : Nat → Nat → Int32) (τ : Nat → Nat → Int64) (H : Heap) (locs : List Loc) (ls : Array Slot), x1.toInt = x0.toInt + 6 → jAll σ τ → jH D cI cL ad σ τ H → va_S (fun q : Nat => s.heap.size ≤ q) s.heap H locs → lv_has ls 4 [(3, .int x1), (2, .ref (ad 55)), (1, .ref (ad 0)), (0, .ref b)] → W p l e room_1 s m #[Value.ref b] below meth c H locs 90 348600 (lw_Z below #[Value.ref b] s) (F0 m 18 ls [])) : W p l e room_1 s m #[Value.ref b] below meth c H locs 90 348600 (lw_Z below #[Value.ref b] s) (F0 m 1238 ls []) := by
  obtain ⟨hx, hb, hr, hml, hown, hts0, hX, hbl, hlocks, hgv⟩ := C0
  have hts : ∀ w ∈ wsL_law, w.before #[Value.ref b] s = true := fun w h => hts0 w (wsL_law_in w h)
  have hbA : ¬ (fun q : Nat => s.heap.size ≤ q) b := Nat.not_le.mpr hbl
  have hown : s.vm.findClass RL = some m.cls := hown
  obtain ⟨hI2, hI9, hI12, hI16, hI18, hI22, hI31, hI38, hI43, hI47, hI50, hI101, hI102, hI103, hI104, hI105, hI106, hI107, hI109, hI110, hI111, hI119, hs_jKept, hs_jBook, ht0, hr0⟩ := hAll
  have hL9 : (L : Int) ≤ 384 := by omega
  obtain ⟨i1, w2, w3⟩ : (0 ≤ (σ 9 0).toInt ∧ (σ 9 0).toInt ≤ 80) ∧ (∀ k : Nat, k < 80 → 0 ≤ (σ 10 k).toInt ∧ (σ 10 k).toInt ≤ 255) ∧ (∀ k : Nat, k < 8 → 0 ≤ (σ 11 k).toInt ∧ (σ 11 k).toInt ≤ 3) := id hI9
  obtain ⟨i4, w5⟩ : (0 ≤ (σ 55 15).toInt ∧ (σ 55 15).toInt ≤ 80) ∧ (∀ k : Nat, k < 2 → (-1) ≤ (σ 65 k).toInt ∧ (σ 65 k).toInt ≤ 80) := id hI105
  refine lv_aload_n hx hb dL_law_1238 rfl (lv_at hl 2 rfl) ?_
  refine lv_aload_n hx hb dL_law_1239 rfl (lv_at hl 3 rfl) ?_
  refine lv_iload_n hx hb dL_law_1240 rfl (lv_at hl 0 rfl) ?_
  refine lv_iconst (v := 1) hx hb dL_law_1241 (of_decide_eq_true rfl) ?_
  have g6 := jrg (rfl : x0.toInt = x0.toInt)
  refine lv_iadd hx hb dL_law_1242 ?_
  refine lv_topi (fun x7 ex7 => ?_)
  exact by
   have tx7 : x7.toInt = x0.toInt + 1 := (jadd ex7 rfl jz_1 (by omega) (by omega)).trans (by omega)
   refine va_sld hx hb hX hbl hbA hS (jin tx7 (by omega) (by omega)) dL_law_1243 ?_
   have g8 := jrg (rfl : (xs x7.toNatClampNeg).toInt = (xs x7.toNatClampNeg).toInt)
   refine lv_aload_n hx hb dL_law_1244 rfl (lv_at hl 3 rfl) ?_
   refine lv_iload_n hx hb dL_law_1245 rfl (lv_at hl 0 rfl) ?_
   refine lv_iconst (v := 2) hx hb dL_law_1246 (of_decide_eq_true rfl) ?_
   refine lv_iadd hx hb dL_law_1247 ?_
   refine lv_topi (fun x9 ex9 => ?_)
   have tx9 : x9.toInt = x0.toInt + 2 := (jadd ex9 rfl jz_2 (by omega) (by omega)).trans (by omega)
   exact by
    refine va_sld hx hb hX hbl hbA hS (jin tx9 (by omega) (by omega)) dL_law_1248 ?_
    have g10 := jrg (rfl : (xs x9.toNatClampNeg).toInt = (xs x9.toNatClampNeg).toInt)
    refine lv_aload_n hx hb dL_law_1249 rfl (lv_at hl 3 rfl) ?_
    refine lv_iload_n hx hb dL_law_1250 rfl (lv_at hl 0 rfl) ?_
    refine lv_iconst (v := 3) hx hb dL_law_1251 (of_decide_eq_true rfl) ?_
    refine lv_iadd hx hb dL_law_1252 ?_
    refine lv_topi (fun x11 ex11 => ?_)
    have tx11 : x11.toInt = x0.toInt + 3 := (jadd ex11 rfl jz_3 (by omega) (by omega)).trans (by omega)
    refine va_sld hx hb hX hbl hbA hS (jin tx11 (by omega) (by omega)) dL_law_1253 ?_
    exact by
     have g12 := jrg (rfl : (xs x11.toNatClampNeg).toInt = (xs x11.toNatClampNeg).toInt)
     refine lv_aload_n hx hb dL_law_1254 rfl (lv_at hl 3 rfl) ?_
     refine lv_iload_n hx hb dL_law_1255 rfl (lv_at hl 0 rfl) ?_
     refine lv_iconst (v := 4) hx hb dL_law_1256 (of_decide_eq_true rfl) ?_
     refine lv_iadd hx hb dL_law_1257 ?_
     refine lv_topi (fun x13 ex13 => ?_)
     have tx13 : x13.toInt = x0.toInt + 4 := (jadd ex13 rfl jz_4 (by omega) (by omega)).trans (by omega)
     refine va_sld hx hb hX hbl hbA hS (jin tx13 (by omega) (by omega)) dL_law_1258 ?_
     have g14 := jrg (rfl : (xs x13.toNatClampNeg).toInt = (xs x13.toNatClampNeg).toInt)
     exact by
      refine lv_aload_n hx hb dL_law_1259 rfl (lv_at hl 3 rfl) ?_
      refine lv_iload_n hx hb dL_law_1260 rfl (lv_at hl 0 rfl) ?_
      refine lv_iconst (v := 5) hx hb dL_law_1261 (of_decide_eq_true rfl) ?_
      refine lv_iadd hx hb dL_law_1262 ?_
      refine lv_topi (fun x15 ex15 => ?_)
      have tx15 : x15.toInt = x0.toInt + 5 := (jadd ex15 rfl jz_5 (by omega) (by omega)).trans (by omega)
      refine va_sld hx hb hX hbl hbA hS (jin tx15 (by omega) (by omega)) dL_law_1263 ?_
      have g16 := jrg (rfl : (xs x15.toNatClampNeg).toInt = (xs x15.toNatClampNeg).toInt)
      refine jcallV (As := [.int (xs x7.toNatClampNeg), .int (xs x9.toNatClampNeg), .int (xs x11.toNatClampNeg), .int (xs x13.toNatClampNeg), .int (xs x15.toNatClampNeg)]) (rest := []) ⟨hx, hb, hml, hown, hts⟩ hK hP hA hS hZ (c_X11_shift l D cI cL ad zz hJ σ τ (xs x7.toNatClampNeg) ((xs x7.toNatClampNeg).toInt) rfl (xs x9.toNatClampNeg) ((xs x9.toNatClampNeg).toInt) rfl (xs x11.toNatClampNeg) ((xs x11.toNatClampNeg).toInt) rfl (xs x13.toNatClampNeg) ((xs x13.toNatClampNeg).toInt) rfl (xs x15.toNatClampNeg) ((xs x15.toNatClampNeg).toInt) rfl hI50) cw_RL_157 (jc_0 cI cL ad σ τ) rfl ⟨Nat.le_of_ble_eq_true rfl, Nat.le_of_ble_eq_true rfl⟩ rfl rfl rfl hl.1 rfl (Nat.le_of_ble_eq_true rfl) dL_law_1264 ⟨Nat.le_of_ble_eq_true rfl, Nat.le_of_ble_eq_true rfl⟩ (fun r18 σ17 τ17 H locs h17 hP hS => ?_)
      exact by
       obtain ⟨f22, f19, w20, w21, h17⟩ := h17
       refine lv_pop hx hb dL_law_1267 rfl ?_
       refine lv_aload_n hx hb dL_law_1268 rfl (lv_at hl 1 rfl) ?_
       refine lv_aload_n hx hb dL_law_1269 rfl (lv_at hl 3 rfl) ?_
       refine lv_iload_n hx hb dL_law_1270 rfl (lv_at hl 0 rfl) ?_
       refine lv_iconst (v := 1) hx hb dL_law_1271 (of_decide_eq_true rfl) ?_
       refine lv_iadd hx hb dL_law_1272 ?_
       refine jtopr ex7.symm ?_
       refine va_sld hx hb hX hbl hbA hS (jin tx7 (by omega) (by omega)) dL_law_1273 ?_
       exact by
        refine lv_aload_n hx hb dL_law_1274 rfl (lv_at hl 3 rfl) ?_
        refine lv_iload_n hx hb dL_law_1275 rfl (lv_at hl 0 rfl) ?_
        refine lv_iconst (v := 2) hx hb dL_law_1276 (of_decide_eq_true rfl) ?_
        refine lv_iadd hx hb dL_law_1277 ?_
        refine jtopr ex9.symm ?_
        refine va_sld hx hb hX hbl hbA hS (jin tx9 (by omega) (by omega)) dL_law_1278 ?_
        refine lv_aload_n hx hb dL_law_1279 rfl (lv_at hl 3 rfl) ?_
        refine lv_iload_n hx hb dL_law_1280 rfl (lv_at hl 0 rfl) ?_
        refine lv_iconst (v := 3) hx hb dL_law_1281 (of_decide_eq_true rfl) ?_
        exact by
         refine lv_iadd hx hb dL_law_1282 ?_
         refine jtopr ex11.symm ?_
         refine va_sld hx hb hX hbl hbA hS (jin tx11 (by omega) (by omega)) dL_law_1283 ?_
         refine lv_aload_n hx hb dL_law_1284 rfl (lv_at hl 3 rfl) ?_
         refine lv_iload_n hx hb dL_law_1285 rfl (lv_at hl 0 rfl) ?_
         refine lv_iconst (v := 4) hx hb dL_law_1286 (of_decide_eq_true rfl) ?_
         refine lv_iadd hx hb dL_law_1287 ?_
         refine jtopr ex13.symm ?_
         refine va_sld hx hb hX hbl hbA hS (jin tx13 (by omega) (by omega)) dL_law_1288 ?_
         exact by
          refine lv_aload_n hx hb dL_law_1289 rfl (lv_at hl 3 rfl) ?_
          refine lv_iload_n hx hb dL_law_1290 rfl (lv_at hl 0 rfl) ?_
          refine lv_iconst (v := 5) hx hb dL_law_1291 (of_decide_eq_true rfl) ?_
          refine lv_iadd hx hb dL_law_1292 ?_
          refine jtopr ex15.symm ?_
          refine va_sld hx hb hX hbl hbA hS (jin tx15 (by omega) (by omega)) dL_law_1293 ?_
          have I23 : jI110 σ17 := jI110_fr (f19 86 (of_decide_eq_true rfl)) (f19 87 (of_decide_eq_true rfl)) hI110
          refine jcallV (As := [.int (xs x7.toNatClampNeg), .int (xs x9.toNatClampNeg), .int (xs x11.toNatClampNeg), .int (xs x13.toNatClampNeg), .int (xs x15.toNatClampNeg)]) (rest := []) ⟨hx, hb, hml, hown, hts⟩ hK hP hA hS hZ (c_X12_shift l D cI cL ad zz hJ σ17 τ17 (xs x7.toNatClampNeg) ((xs x7.toNatClampNeg).toInt) rfl (xs x9.toNatClampNeg) ((xs x9.toNatClampNeg).toInt) rfl (xs x11.toNatClampNeg) ((xs x11.toNatClampNeg).toInt) rfl (xs x13.toNatClampNeg) ((xs x13.toNatClampNeg).toInt) rfl (xs x15.toNatClampNeg) ((xs x15.toNatClampNeg).toInt) rfl I23) cw_RL_161 (jc_55 cI cL ad σ17 τ17) rfl ⟨Nat.le_of_ble_eq_true rfl, Nat.le_of_ble_eq_true rfl⟩ rfl rfl rfl hl.1 rfl (Nat.le_of_ble_eq_true rfl) dL_law_1294 ⟨Nat.le_of_ble_eq_true rfl, Nat.le_of_ble_eq_true rfl⟩ (fun r25 σ24 τ24 H locs h24 hP hS => ?_)
          obtain ⟨f29, f26, w27, w28, h24⟩ := h24
          exact by
           refine lv_pop hx hb dL_law_1297 rfl ?_
           refine lv_goto (tgt := 1357) hx hb dL_law_1298 (of_decide_eq_true rfl) ?_
           obtain ⟨x30, ex30⟩ : ∃ y : Int32, y = x0 + 6 := ⟨_, rfl⟩
           have tx30 : x30.toInt = x0.toInt + 6 := (jadd ex30 rfl jz_6 (by omega) (by omega)).trans (by omega)
           refine lv_iinc (v := x30) (lv' := [(3, .int x30), (2, .ref (ad 55)), (1, .ref (ad 0)), (0, .ref b)]) hx hb dL_law_1357 hl (k := 0) rfl (by rw [ex30]; rfl) (of_decide_eq_true rfl) rfl (fun ls hl => ?_)
           refine lv_goto (tgt := 18) hx hb dL_law_1360 (of_decide_eq_true rfl) ?_
           have I31 : jI2 σ24 := jI2_fr ((congrFun (f26 2 (of_decide_eq_true rfl)) 0).trans (congrFun (f19 2 (of_decide_eq_true rfl)) 0)) ((congrFun (f26 2 (of_decide_eq_true rfl)) 1).trans (congrFun (f19 2 (of_decide_eq_true rfl)) 1)) ((congrFun (f26 2 (of_decide_eq_true rfl)) 2).trans (congrFun (f19 2 (of_decide_eq_true rfl)) 2)) ((congrFun (f26 2 (of_decide_eq_true rfl)) 3).trans (congrFun (f19 2 (of_decide_eq_true rfl)) 3)) ((f26 6 (of_decide_eq_true rfl)).trans (f19 6 (of_decide_eq_true rfl))) hI2
           have I32 : jI9 σ24 := jI9_fr ((congrFun (f26 9 (of_decide_eq_true rfl)) 0).trans (congrFun (f19 9 (of_decide_eq_true rfl)) 0)) ((f26 10 (of_decide_eq_true rfl)).trans (f19 10 (of_decide_eq_true rfl))) ((f26 11 (of_decide_eq_true rfl)).trans (f19 11 (of_decide_eq_true rfl))) hI9
           have I33 : jI12 σ24 := jI12_fr ((congrFun (f26 12 (of_decide_eq_true rfl)) 0).trans (congrFun (f19 12 (of_decide_eq_true rfl)) 0)) ((f26 13 (of_decide_eq_true rfl)).trans (f19 13 (of_decide_eq_true rfl))) hI12
           exact by
            have I34 : jI16 σ24 := jI16_fr ((congrFun (f26 16 (of_decide_eq_true rfl)) 0).trans (congrFun (f19 16 (of_decide_eq_true rfl)) 0)) ((congrFun (f26 16 (of_decide_eq_true rfl)) 1).trans (congrFun (f19 16 (of_decide_eq_true rfl)) 1)) ((congrFun (f26 16 (of_decide_eq_true rfl)) 2).trans (congrFun (f19 16 (of_decide_eq_true rfl)) 2)) ((f26 17 (of_decide_eq_true rfl)).trans (f19 17 (of_decide_eq_true rfl))) hI16
            have I35 : jI18 σ24 := jI18_fr ((congrFun (f26 18 (of_decide_eq_true rfl)) 0).trans (congrFun (f19 18 (of_decide_eq_true rfl)) 0)) ((f26 19 (of_decide_eq_true rfl)).trans (f19 19 (of_decide_eq_true rfl))) hI18
            have I36 : jI22 σ24 := jI22_fr ((congrFun (f26 22 (of_decide_eq_true rfl)) 0).trans (congrFun (f19 22 (of_decide_eq_true rfl)) 0)) ((f26 23 (of_decide_eq_true rfl)).trans (f19 23 (of_decide_eq_true rfl))) hI22
            have I37 : jI31 σ24 := jI31_fr ((congrFun (f26 31 (of_decide_eq_true rfl)) 8).trans (congrFun (f19 31 (of_decide_eq_true rfl)) 8)) ((f26 33 (of_decide_eq_true rfl)).trans (f19 33 (of_decide_eq_true rfl))) ((f26 36 (of_decide_eq_true rfl)).trans (f19 36 (of_decide_eq_true rfl))) hI31
            have I38 : jI38 σ24 := jI38_fr ((congrFun (f26 38 (of_decide_eq_true rfl)) 0).trans (congrFun (f19 38 (of_decide_eq_true rfl)) 0)) ((congrFun (f26 38 (of_decide_eq_true rfl)) 1).trans (congrFun (f19 38 (of_decide_eq_true rfl)) 1)) ((f26 39 (of_decide_eq_true rfl)).trans (f19 39 (of_decide_eq_true rfl))) hI38
            have I39 : jI43 σ24 := jI43_fr ((congrFun (f26 43 (of_decide_eq_true rfl)) 8).trans (congrFun (f19 43 (of_decide_eq_true rfl)) 8)) hI43
            have I40 : jI47 σ24 := jI47_fr ((congrFun (f26 47 (of_decide_eq_true rfl)) 0).trans (congrFun (f19 47 (of_decide_eq_true rfl)) 0)) ((f26 48 (of_decide_eq_true rfl)).trans (f19 48 (of_decide_eq_true rfl))) ((f26 49 (of_decide_eq_true rfl)).trans (f19 49 (of_decide_eq_true rfl))) hI47
            have I41 : jI50 σ24 := jI50_fr ((f26 52 (of_decide_eq_true rfl)).trans (f19 52 (of_decide_eq_true rfl))) hI50
            have I42 : jI101 σ24 := jI101_fr ((congrFun (f26 55 (of_decide_eq_true rfl)) 4).trans (congrFun (f19 55 (of_decide_eq_true rfl)) 4)) ((congrFun (f26 55 (of_decide_eq_true rfl)) 5).trans (congrFun (f19 55 (of_decide_eq_true rfl)) 5)) ((f26 56 (of_decide_eq_true rfl)).trans (f19 56 (of_decide_eq_true rfl))) ((f26 57 (of_decide_eq_true rfl)).trans (f19 57 (of_decide_eq_true rfl))) ((f26 58 (of_decide_eq_true rfl)).trans (f19 58 (of_decide_eq_true rfl))) ((f26 59 (of_decide_eq_true rfl)).trans (f19 59 (of_decide_eq_true rfl))) hI101
            have I43 : jI102 σ24 := jI102_fr ((congrFun (f26 55 (of_decide_eq_true rfl)) 6).trans (congrFun (f19 55 (of_decide_eq_true rfl)) 6)) ((f26 60 (of_decide_eq_true rfl)).trans (f19 60 (of_decide_eq_true rfl))) ((f26 61 (of_decide_eq_true rfl)).trans (f19 61 (of_decide_eq_true rfl))) hI102
            have I44 : jI103 σ24 := jI103_fr ((congrFun (f26 55 (of_decide_eq_true rfl)) 9).trans (congrFun (f19 55 (of_decide_eq_true rfl)) 9)) hI103
            have I45 : jI104 σ24 := jI104_fr ((congrFun (f26 55 (of_decide_eq_true rfl)) 10).trans (congrFun (f19 55 (of_decide_eq_true rfl)) 10)) ((congrFun (f26 55 (of_decide_eq_true rfl)) 12).trans (congrFun (f19 55 (of_decide_eq_true rfl)) 12)) ((congrFun (f26 55 (of_decide_eq_true rfl)) 13).trans (congrFun (f19 55 (of_decide_eq_true rfl)) 13)) ((f26 62 (of_decide_eq_true rfl)).trans (f19 62 (of_decide_eq_true rfl))) ((f26 67 (of_decide_eq_true rfl)).trans (f19 67 (of_decide_eq_true rfl))) hI104
            have I46 : jI105 σ24 := jI105_fr ((congrFun (f26 55 (of_decide_eq_true rfl)) 15).trans (congrFun (f19 55 (of_decide_eq_true rfl)) 15)) ((f26 65 (of_decide_eq_true rfl)).trans (f19 65 (of_decide_eq_true rfl))) hI105
            have I47 : jI106 σ24 := jI106_fr ((congrFun (f26 55 (of_decide_eq_true rfl)) 32).trans (congrFun (f19 55 (of_decide_eq_true rfl)) 32)) ((f26 70 (of_decide_eq_true rfl)).trans (f19 70 (of_decide_eq_true rfl))) ((f26 71 (of_decide_eq_true rfl)).trans (f19 71 (of_decide_eq_true rfl))) ((f26 72 (of_decide_eq_true rfl)).trans (f19 72 (of_decide_eq_true rfl))) hI106
            have I48 : jI107 σ24 := jI107_fr ((congrFun (f26 55 (of_decide_eq_true rfl)) 12).trans (congrFun (f19 55 (of_decide_eq_true rfl)) 12)) ((congrFun (f26 55 (of_decide_eq_true rfl)) 47).trans (congrFun (f19 55 (of_decide_eq_true rfl)) 47)) ((f26 80 (of_decide_eq_true rfl)).trans (f19 80 (of_decide_eq_true rfl))) hI107
            have I49 : jI109 σ24 := jI109_fr ((congrFun (f26 55 (of_decide_eq_true rfl)) 50).trans (congrFun (f19 55 (of_decide_eq_true rfl)) 50)) hI109
            have I50 : jI110 σ24 := jI110_fr (f26 86 (of_decide_eq_true rfl)) (f26 87 (of_decide_eq_true rfl)) I23
            have I51 : jI111 σ24 := jI111_fr ((f26 79 (of_decide_eq_true rfl)).trans (f19 79 (of_decide_eq_true rfl))) hI111
            have I52 : jI119 σ24 := jI119_fr ((f26 68 (of_decide_eq_true rfl)).trans (f19 68 (of_decide_eq_true rfl))) hI119
            have p53 : jKept σ24 := jKept.fr ((f26 75 (of_decide_eq_true rfl)).trans (f19 75 (of_decide_eq_true rfl))) ((f26 76 (of_decide_eq_true rfl)).trans (f19 76 (of_decide_eq_true rfl))) ((f26 77 (of_decide_eq_true rfl)).trans (f19 77 (of_decide_eq_true rfl))) hs_jKept
            have p54 : jBook σ24 := jBook.fr ((congrFun (f26 55 (of_decide_eq_true rfl)) 47).trans (congrFun (f19 55 (of_decide_eq_true rfl)) 47)) ((congrFun (f26 55 (of_decide_eq_true rfl)) 10).trans (congrFun (f19 55 (of_decide_eq_true rfl)) 10)) ((f26 81 (of_decide_eq_true rfl)).trans (f19 81 (of_decide_eq_true rfl))) hs_jBook
            have z55 : (σ24 9 0).toInt = (σ 9 0).toInt := (congrArg Int32.toInt (show σ24 9 0 = (σ 9 0) from ((congrFun (f26 9 (of_decide_eq_true rfl)) 0).trans (congrFun (f19 9 (of_decide_eq_true rfl)) 0))))
            have z56 : (σ24 55 15).toInt = (σ 55 15).toInt := (congrArg Int32.toInt (show σ24 55 15 = (σ 55 15) from ((congrFun (f26 55 (of_decide_eq_true rfl)) 15).trans (congrFun (f19 55 (of_decide_eq_true rfl)) 15))))
            exact by exact ih x30 σ24 τ24 _ _ ls (by have h9 := tx30; omega) ⟨I31, I32, I33, I34, I35, I36, I37, I38, I39, I40, I41, I42, I43, I44, I45, I46, I47, I48, I49, I50, I51, I52, p53, p54, (by omega), (show jTp (σ24 10) (σ24 63) (σ24 55 15).toInt by rw [show σ24 10 = σ 10 from ((f26 10 (of_decide_eq_true rfl)).trans (f19 10 (of_decide_eq_true rfl))), show σ24 63 = σ 63 from ((f26 63 (of_decide_eq_true rfl)).trans (f19 63 (of_decide_eq_true rfl)))]; exact hr0.le (by omega))⟩ hP hS (lv_sub hl [0, 1, 2, 3] rfl)
set_option maxHeartbeats 4000000 in
set_option maxRecDepth 100000 in
theorem law_case_35 {p : Program} {e : Env} {s : State} {m : MethodId} {below : List Frame} {meth : Method} {c : Code} (l : Launch) {b L : Nat} {xs : Nat → Int32} {D : va_G} {cI cL : ClassId} {ad zz : Nat → Nat} (C0 : lw_At p s m meth c b L xs) (hJ : jD ad) (hA : ∀ q, jA ad q → s.heap.size ≤ q) (hK : jK D cI cL s) (hZ : jZ zz (fun q : Nat => s.heap.size ≤ q) s s.heap) {x0 : Int32} (hx0 : 0 ≤ x0.toInt) (hxL : x0.toInt + 6 ≤ (L : Int)) (hL : L ≤ 384) {σ : Nat → Nat → Int32} {τ : Nat → Nat → Int64} {H : Heap} {locs : List Loc} (hS : va_S (fun q : Nat => s.heap.size ≤ q) s.heap H locs) {ls : Array Slot} (hAll : jAll σ τ) (hP : jH D cI cL ad σ τ H) (hl : lv_has ls 4 [(3, .int x0), (2, .ref (ad 55)), (1, .ref (ad 0)), (0, .ref b)]) (ih : ∀ (x1 : Int32) (σ : Nat → Nat → Int32) (τ : Nat → Nat → Int64) (H : Heap) (locs : List Loc) (ls : Array Slot), x1.toInt = x0.toInt + 6 → jAll σ τ → jH D cI cL ad σ τ H → va_S (fun q : Nat => s.heap.size ≤ q) s.heap H locs → lv_has ls 4 [(3, .int x1), (2, .ref (ad 55)), (1, .ref (ad 0)), (0, .ref b)] → W p l e room_1 s m #[Value.ref b] below meth c H locs 90 348600 (lw_Z below #[Value.ref b] s) (F0 m 18 ls [])) : W p l e room_1 s m #[Value.ref b] below meth c H locs 90 348600 (lw_Z below #[Value.ref b] s) (F0 m 1301 ls []) := by
  obtain ⟨hx, hb, hr, hml, hown, hts0, hX, hbl, hlocks, hgv⟩ := C0
  have hts : ∀ w ∈ wsL_law, w.before #[Value.ref b] s = true := fun w h => hts0 w (wsL_law_in w h)
  have hbA : ¬ (fun q : Nat => s.heap.size ≤ q) b := Nat.not_le.mpr hbl
  have hown : s.vm.findClass RL = some m.cls := hown
  obtain ⟨hI2, hI9, hI12, hI16, hI18, hI22, hI31, hI38, hI43, hI47, hI50, hI101, hI102, hI103, hI104, hI105, hI106, hI107, hI109, hI110, hI111, hI119, hs_jKept, hs_jBook, ht0, hr0⟩ := hAll
  have hL9 : (L : Int) ≤ 384 := by omega
  obtain ⟨i1, w2, w3⟩ : (0 ≤ (σ 9 0).toInt ∧ (σ 9 0).toInt ≤ 80) ∧ (∀ k : Nat, k < 80 → 0 ≤ (σ 10 k).toInt ∧ (σ 10 k).toInt ≤ 255) ∧ (∀ k : Nat, k < 8 → 0 ≤ (σ 11 k).toInt ∧ (σ 11 k).toInt ≤ 3) := id hI9
  obtain ⟨i4, w5⟩ : (0 ≤ (σ 55 15).toInt ∧ (σ 55 15).toInt ≤ 80) ∧ (∀ k : Nat, k < 2 → (-1) ≤ (σ 65 k).toInt ∧ (σ 65 k).toInt ≤ 80) := id hI105
  refine lv_aload_n hx hb dL_law_1301 rfl (lv_at hl 2 rfl) ?_
  refine lv_aload_n hx hb dL_law_1302 rfl (lv_at hl 3 rfl) ?_
  refine lv_iload_n hx hb dL_law_1303 rfl (lv_at hl 0 rfl) ?_
  refine lv_iconst (v := 1) hx hb dL_law_1304 (of_decide_eq_true rfl) ?_
  have g6 := jrg (rfl : x0.toInt = x0.toInt)
  refine lv_iadd hx hb dL_law_1305 ?_
  refine lv_topi (fun x7 ex7 => ?_)
  exact by
   have tx7 : x7.toInt = x0.toInt + 1 := (jadd ex7 rfl jz_1 (by omega) (by omega)).trans (by omega)
   refine va_sld hx hb hX hbl hbA hS (jin tx7 (by omega) (by omega)) dL_law_1306 ?_
   have g8 := jrg (rfl : (xs x7.toNatClampNeg).toInt = (xs x7.toNatClampNeg).toInt)
   refine lv_aload_n hx hb dL_law_1307 rfl (lv_at hl 3 rfl) ?_
   refine lv_iload_n hx hb dL_law_1308 rfl (lv_at hl 0 rfl) ?_
   refine lv_iconst (v := 2) hx hb dL_law_1309 (of_decide_eq_true rfl) ?_
   refine lv_iadd hx hb dL_law_1310 ?_
   refine lv_topi (fun x9 ex9 => ?_)
   have tx9 : x9.toInt = x0.toInt + 2 := (jadd ex9 rfl jz_2 (by omega) (by omega)).trans (by omega)
   exact by
    refine va_sld hx hb hX hbl hbA hS (jin tx9 (by omega) (by omega)) dL_law_1311 ?_
    have g10 := jrg (rfl : (xs x9.toNatClampNeg).toInt = (xs x9.toNatClampNeg).toInt)
    refine jcallV (As := [.int (xs x7.toNatClampNeg), .int (xs x9.toNatClampNeg)]) (rest := []) ⟨hx, hb, hml, hown, hts⟩ hK hP hA hS hZ (c_X11_taken l D cI cL ad zz hJ σ τ (xs x7.toNatClampNeg) ((xs x7.toNatClampNeg).toInt) rfl (xs x9.toNatClampNeg) ((xs x9.toNatClampNeg).toInt) rfl hI38) cw_RL_162 (jc_0 cI cL ad σ τ) rfl ⟨Nat.le_of_ble_eq_true rfl, Nat.le_of_ble_eq_true rfl⟩ rfl rfl rfl hl.1 rfl (Nat.le_of_ble_eq_true rfl) dL_law_1312 ⟨Nat.le_of_ble_eq_true rfl, Nat.le_of_ble_eq_true rfl⟩ (fun r12 σ11 τ11 H locs h11 hP hS => ?_)
    obtain ⟨⟨rfl, rfl⟩, w13, h11⟩ := h11
    refine lv_pop hx hb dL_law_1315 rfl ?_
    refine lv_aload_n hx hb dL_law_1316 rfl (lv_at hl 1 rfl) ?_
    refine lv_aload_n hx hb dL_law_1317 rfl (lv_at hl 3 rfl) ?_
    refine lv_iload_n hx hb dL_law_1318 rfl (lv_at hl 0 rfl) ?_
    refine lv_iconst (v := 1) hx hb dL_law_1319 (of_decide_eq_true rfl) ?_
    refine lv_iadd hx hb dL_law_1320 ?_
    refine jtopr ex7.symm ?_
    exact by
     refine va_sld hx hb hX hbl hbA hS (jin tx7 (by omega) (by omega)) dL_law_1321 ?_
     refine lv_aload_n hx hb dL_law_1322 rfl (lv_at hl 3 rfl) ?_
     refine lv_iload_n hx hb dL_law_1323 rfl (lv_at hl 0 rfl) ?_
     refine lv_iconst (v := 2) hx hb dL_law_1324 (of_decide_eq_true rfl) ?_
     refine lv_iadd hx hb dL_law_1325 ?_
     refine jtopr ex9.symm ?_
     refine va_sld hx hb hX hbl hbA hS (jin tx9 (by omega) (by omega)) dL_law_1326 ?_
     refine jcallV (As := [.int (xs x7.toNatClampNeg), .int (xs x9.toNatClampNeg)]) (rest := []) ⟨hx, hb, hml, hown, hts⟩ hK hP hA hS hZ (c_X12_taken l D cI cL ad zz hJ σ τ (xs x7.toNatClampNeg) ((xs x7.toNatClampNeg).toInt) rfl (xs x9.toNatClampNeg) ((xs x9.toNatClampNeg).toInt) rfl hI106 hI110) cw_RL_165 (jc_55 cI cL ad σ τ) rfl ⟨Nat.le_of_ble_eq_true rfl, Nat.le_of_ble_eq_true rfl⟩ rfl rfl rfl hl.1 rfl (Nat.le_of_ble_eq_true rfl) dL_law_1327 ⟨Nat.le_of_ble_eq_true rfl, Nat.le_of_ble_eq_true rfl⟩ (fun r15 σ14 τ14 H locs h14 hP hS => ?_)
     obtain ⟨⟨rfl, rfl⟩, w16, h14⟩ := h14
     exact by
      refine lv_pop hx hb dL_law_1330 rfl ?_
      refine lv_goto (tgt := 1357) hx hb dL_law_1331 (of_decide_eq_true rfl) ?_
      obtain ⟨x17, ex17⟩ : ∃ y : Int32, y = x0 + 6 := ⟨_, rfl⟩
      have tx17 : x17.toInt = x0.toInt + 6 := (jadd ex17 rfl jz_6 (by omega) (by omega)).trans (by omega)
      refine lv_iinc (v := x17) (lv' := [(3, .int x17), (2, .ref (ad 55)), (1, .ref (ad 0)), (0, .ref b)]) hx hb dL_law_1357 hl (k := 0) rfl (by rw [ex17]; rfl) (of_decide_eq_true rfl) rfl (fun ls hl => ?_)
      refine lv_goto (tgt := 18) hx hb dL_law_1360 (of_decide_eq_true rfl) ?_
      exact by exact ih x17 σ τ _ _ ls (by have h9 := tx17; omega) ⟨hI2, hI9, hI12, hI16, hI18, hI22, hI31, hI38, hI43, hI47, hI50, hI101, hI102, hI103, hI104, hI105, hI106, hI107, hI109, hI110, hI111, hI119, hs_jKept, hs_jBook, (by omega), hr0⟩ hP hS (lv_sub hl [0, 1, 2, 3] rfl)
set_option maxHeartbeats 4000000 in
set_option maxRecDepth 100000 in
theorem law_case_36 {p : Program} {e : Env} {s : State} {m : MethodId} {below : List Frame} {meth : Method} {c : Code} (l : Launch) {b L : Nat} {xs : Nat → Int32} {D : va_G} {cI cL : ClassId} {ad zz : Nat → Nat} (C0 : lw_At p s m meth c b L xs) (hJ : jD ad) (hA : ∀ q, jA ad q → s.heap.size ≤ q) (hK : jK D cI cL s) (hZ : jZ zz (fun q : Nat => s.heap.size ≤ q) s s.heap) {x0 : Int32} (hx0 : 0 ≤ x0.toInt) (hxL : x0.toInt + 6 ≤ (L : Int)) (hL : L ≤ 384) {σ : Nat → Nat → Int32} {τ : Nat → Nat → Int64} {H : Heap} {locs : List Loc} (hS : va_S (fun q : Nat => s.heap.size ≤ q) s.heap H locs) {ls : Array Slot} (hAll : jAll σ τ) (hP : jH D cI cL ad σ τ H) (hl : lv_has ls 4 [(3, .int x0), (2, .ref (ad 55)), (1, .ref (ad 0)), (0, .ref b)]) (ih : ∀ (x1 : Int32) (σ : Nat → Nat → Int32) (τ : Nat → Nat → Int64) (H : Heap) (locs : List Loc) (ls : Array Slot), x1.toInt = x0.toInt + 6 → jAll σ τ → jH D cI cL ad σ τ H → va_S (fun q : Nat => s.heap.size ≤ q) s.heap H locs → lv_has ls 4 [(3, .int x1), (2, .ref (ad 55)), (1, .ref (ad 0)), (0, .ref b)] → W p l e room_1 s m #[Value.ref b] below meth c H locs 90 348600 (lw_Z below #[Value.ref b] s) (F0 m 18 ls [])) : W p l e room_1 s m #[Value.ref b] below meth c H locs 90 348600 (lw_Z below #[Value.ref b] s) (F0 m 1334 ls []) := by
  obtain ⟨hx, hb, hr, hml, hown, hts0, hX, hbl, hlocks, hgv⟩ := C0
  have hts : ∀ w ∈ wsL_law, w.before #[Value.ref b] s = true := fun w h => hts0 w (wsL_law_in w h)
  have hbA : ¬ (fun q : Nat => s.heap.size ≤ q) b := Nat.not_le.mpr hbl
  have hown : s.vm.findClass RL = some m.cls := hown
  obtain ⟨hI2, hI9, hI12, hI16, hI18, hI22, hI31, hI38, hI43, hI47, hI50, hI101, hI102, hI103, hI104, hI105, hI106, hI107, hI109, hI110, hI111, hI119, hs_jKept, hs_jBook, ht0, hr0⟩ := hAll
  have hL9 : (L : Int) ≤ 384 := by omega
  obtain ⟨i1, w2, w3⟩ : (0 ≤ (σ 9 0).toInt ∧ (σ 9 0).toInt ≤ 80) ∧ (∀ k : Nat, k < 80 → 0 ≤ (σ 10 k).toInt ∧ (σ 10 k).toInt ≤ 255) ∧ (∀ k : Nat, k < 8 → 0 ≤ (σ 11 k).toInt ∧ (σ 11 k).toInt ≤ 3) := id hI9
  obtain ⟨i4, w5⟩ : (0 ≤ (σ 55 15).toInt ∧ (σ 55 15).toInt ≤ 80) ∧ (∀ k : Nat, k < 2 → (-1) ≤ (σ 65 k).toInt ∧ (σ 65 k).toInt ≤ 80) := id hI105
  refine lv_aload_n hx hb dL_law_1334 rfl (lv_at hl 2 rfl) ?_
  refine lv_aload_n hx hb dL_law_1335 rfl (lv_at hl 3 rfl) ?_
  refine lv_iload_n hx hb dL_law_1336 rfl (lv_at hl 0 rfl) ?_
  refine lv_iconst (v := 1) hx hb dL_law_1337 (of_decide_eq_true rfl) ?_
  have g6 := jrg (rfl : x0.toInt = x0.toInt)
  refine lv_iadd hx hb dL_law_1338 ?_
  refine lv_topi (fun x7 ex7 => ?_)
  exact by
   have tx7 : x7.toInt = x0.toInt + 1 := (jadd ex7 rfl jz_1 (by omega) (by omega)).trans (by omega)
   refine va_sld hx hb hX hbl hbA hS (jin tx7 (by omega) (by omega)) dL_law_1339 ?_
   have g8 := jrg (rfl : (xs x7.toNatClampNeg).toInt = (xs x7.toNatClampNeg).toInt)
   refine jcallV (As := [.int (xs x7.toNatClampNeg)]) (rest := []) ⟨hx, hb, hml, hown, hts⟩ hK hP hA hS hZ (c_X11_count l D cI cL ad zz hJ σ τ (xs x7.toNatClampNeg) ((xs x7.toNatClampNeg).toInt) rfl hI2 hI9 hI38 hI47) cw_RL_166 (jc_0 cI cL ad σ τ) rfl ⟨Nat.le_of_ble_eq_true rfl, Nat.le_of_ble_eq_true rfl⟩ rfl rfl rfl hl.1 rfl (Nat.le_of_ble_eq_true rfl) dL_law_1340 ⟨Nat.le_of_ble_eq_true rfl, Nat.le_of_ble_eq_true rfl⟩ (fun r10 σ9 τ9 H locs h9 hP hS => ?_)
   obtain ⟨⟨rfl, rfl⟩, h9⟩ := h9
   rcases h9 with h11 | h12 | h13 | h14 | h15 | h16 | h17
   · obtain ⟨q20, k18, k19⟩ := h11
     refine lv_pop hx hb dL_law_1343 rfl ?_
     refine lv_aload_n hx hb dL_law_1344 rfl (lv_at hl 1 rfl) ?_
     exact by
      refine lv_aload_n hx hb dL_law_1345 rfl (lv_at hl 3 rfl) ?_
      refine lv_iload_n hx hb dL_law_1346 rfl (lv_at hl 0 rfl) ?_
      refine lv_iconst (v := 1) hx hb dL_law_1347 (of_decide_eq_true rfl) ?_
      refine lv_iadd hx hb dL_law_1348 ?_
      refine jtopr ex7.symm ?_
      refine va_sld hx hb hX hbl hbA hS (jin tx7 (by omega) (by omega)) dL_law_1349 ?_
      refine jcallV (As := [.int (xs x7.toNatClampNeg)]) (rest := []) ⟨hx, hb, hml, hown, hts⟩ hK hP hA hS hZ (c_X12_count l D cI cL ad zz hJ σ τ (xs x7.toNatClampNeg) ((xs x7.toNatClampNeg).toInt) rfl hI101 hI102 hI105 hI106 hI107) cw_RL_169 (jc_55 cI cL ad σ τ) rfl ⟨Nat.le_of_ble_eq_true rfl, Nat.le_of_ble_eq_true rfl⟩ rfl rfl rfl hl.1 rfl (Nat.le_of_ble_eq_true rfl) dL_law_1350 ⟨Nat.le_of_ble_eq_true rfl, Nat.le_of_ble_eq_true rfl⟩ (fun r22 σ21 τ21 H locs h21 hP hS => ?_)
      obtain ⟨⟨rfl, rfl⟩, h21⟩ := h21
      rcases h21 with h23 | h24 | h25 | h26 | h27 | h28 | h29
      · exact by
         obtain ⟨q32, k30, k31⟩ := h23
         refine lv_pop hx hb dL_law_1353 rfl ?_
         refine lv_goto (tgt := 1357) hx hb dL_law_1354 (of_decide_eq_true rfl) ?_
         obtain ⟨x33, ex33⟩ : ∃ y : Int32, y = x0 + 6 := ⟨_, rfl⟩
         have tx33 : x33.toInt = x0.toInt + 6 := (jadd ex33 rfl jz_6 (by omega) (by omega)).trans (by omega)
         refine lv_iinc (v := x33) (lv' := [(3, .int x33), (2, .ref (ad 55)), (1, .ref (ad 0)), (0, .ref b)]) hx hb dL_law_1357 hl (k := 0) rfl (by rw [ex33]; rfl) (of_decide_eq_true rfl) rfl (fun ls hl => ?_)
         refine lv_goto (tgt := 18) hx hb dL_law_1360 (of_decide_eq_true rfl) ?_
         exact by exact ih x33 σ τ _ _ ls (by have h9 := tx33; omega) ⟨hI2, hI9, hI12, hI16, hI18, hI22, hI31, hI38, hI43, hI47, hI50, hI101, hI102, hI103, hI104, hI105, hI106, hI107, hI109, hI110, hI111, hI119, hs_jKept, hs_jBook, (by omega), hr0⟩ hP hS (lv_sub hl [0, 1, 2, 3] rfl)
      · obtain ⟨q36, k34, k35⟩ := h24
        exact absurd (by omega : False) id
      · exact by
         obtain ⟨q39, k37, k38⟩ := h25
         exact absurd (by omega : False) id
      · obtain ⟨q42, k40, k41⟩ := h26
        exact absurd (by omega : False) id
      · obtain ⟨q45, k43, k44⟩ := h27
        exact absurd (by omega : False) id
      · obtain ⟨q48, k46, k47⟩ := h28
        exact absurd (by omega : False) id
      · obtain ⟨q50, k49⟩ := h29
        exact absurd (by omega : False) id
   · obtain ⟨q53, k51, k52⟩ := h12
     refine lv_pop hx hb dL_law_1343 rfl ?_
     refine lv_aload_n hx hb dL_law_1344 rfl (lv_at hl 1 rfl) ?_
     refine lv_aload_n hx hb dL_law_1345 rfl (lv_at hl 3 rfl) ?_
     refine lv_iload_n hx hb dL_law_1346 rfl (lv_at hl 0 rfl) ?_
     refine lv_iconst (v := 1) hx hb dL_law_1347 (of_decide_eq_true rfl) ?_
     refine lv_iadd hx hb dL_law_1348 ?_
     refine jtopr ex7.symm ?_
     exact by
      refine va_sld hx hb hX hbl hbA hS (jin tx7 (by omega) (by omega)) dL_law_1349 ?_
      refine jcallV (As := [.int (xs x7.toNatClampNeg)]) (rest := []) ⟨hx, hb, hml, hown, hts⟩ hK hP hA hS hZ (c_X12_count l D cI cL ad zz hJ σ τ (xs x7.toNatClampNeg) ((xs x7.toNatClampNeg).toInt) rfl hI101 hI102 hI105 hI106 hI107) cw_RL_169 (jc_55 cI cL ad σ τ) rfl ⟨Nat.le_of_ble_eq_true rfl, Nat.le_of_ble_eq_true rfl⟩ rfl rfl rfl hl.1 rfl (Nat.le_of_ble_eq_true rfl) dL_law_1350 ⟨Nat.le_of_ble_eq_true rfl, Nat.le_of_ble_eq_true rfl⟩ (fun r55 σ54 τ54 H locs h54 hP hS => ?_)
      obtain ⟨⟨rfl, rfl⟩, h54⟩ := h54
      rcases h54 with h56 | h57 | h58 | h59 | h60 | h61 | h62
      · obtain ⟨q65, k63, k64⟩ := h56
        exact absurd (by omega : False) id
      · obtain ⟨q68, k66, k67⟩ := h57
        refine lv_pop hx hb dL_law_1353 rfl ?_
        refine lv_goto (tgt := 1357) hx hb dL_law_1354 (of_decide_eq_true rfl) ?_
        obtain ⟨x69, ex69⟩ : ∃ y : Int32, y = x0 + 6 := ⟨_, rfl⟩
        exact by
         have tx69 : x69.toInt = x0.toInt + 6 := (jadd ex69 rfl jz_6 (by omega) (by omega)).trans (by omega)
         refine lv_iinc (v := x69) (lv' := [(3, .int x69), (2, .ref (ad 55)), (1, .ref (ad 0)), (0, .ref b)]) hx hb dL_law_1357 hl (k := 0) rfl (by rw [ex69]; rfl) (of_decide_eq_true rfl) rfl (fun ls hl => ?_)
         refine lv_goto (tgt := 18) hx hb dL_law_1360 (of_decide_eq_true rfl) ?_
         exact by exact ih x69 σ τ _ _ ls (by have h9 := tx69; omega) ⟨hI2, hI9, hI12, hI16, hI18, hI22, hI31, hI38, hI43, hI47, hI50, hI101, hI102, hI103, hI104, hI105, hI106, hI107, hI109, hI110, hI111, hI119, hs_jKept, hs_jBook, (by omega), hr0⟩ hP hS (lv_sub hl [0, 1, 2, 3] rfl)
      · obtain ⟨q72, k70, k71⟩ := h58
        exact absurd (by omega : False) id
      · obtain ⟨q75, k73, k74⟩ := h59
        exact absurd (by omega : False) id
      · obtain ⟨q78, k76, k77⟩ := h60
        exact absurd (by omega : False) id
      · exact by
         obtain ⟨q81, k79, k80⟩ := h61
         exact absurd (by omega : False) id
      · obtain ⟨q83, k82⟩ := h62
        exact absurd (by omega : False) id
   · obtain ⟨q86, k84, k85⟩ := h13
     refine lv_pop hx hb dL_law_1343 rfl ?_
     refine lv_aload_n hx hb dL_law_1344 rfl (lv_at hl 1 rfl) ?_
     refine lv_aload_n hx hb dL_law_1345 rfl (lv_at hl 3 rfl) ?_
     refine lv_iload_n hx hb dL_law_1346 rfl (lv_at hl 0 rfl) ?_
     refine lv_iconst (v := 1) hx hb dL_law_1347 (of_decide_eq_true rfl) ?_
     refine lv_iadd hx hb dL_law_1348 ?_
     refine jtopr ex7.symm ?_
     exact by
      refine va_sld hx hb hX hbl hbA hS (jin tx7 (by omega) (by omega)) dL_law_1349 ?_
      refine jcallV (As := [.int (xs x7.toNatClampNeg)]) (rest := []) ⟨hx, hb, hml, hown, hts⟩ hK hP hA hS hZ (c_X12_count l D cI cL ad zz hJ σ τ (xs x7.toNatClampNeg) ((xs x7.toNatClampNeg).toInt) rfl hI101 hI102 hI105 hI106 hI107) cw_RL_169 (jc_55 cI cL ad σ τ) rfl ⟨Nat.le_of_ble_eq_true rfl, Nat.le_of_ble_eq_true rfl⟩ rfl rfl rfl hl.1 rfl (Nat.le_of_ble_eq_true rfl) dL_law_1350 ⟨Nat.le_of_ble_eq_true rfl, Nat.le_of_ble_eq_true rfl⟩ (fun r88 σ87 τ87 H locs h87 hP hS => ?_)
      obtain ⟨⟨rfl, rfl⟩, h87⟩ := h87
      rcases h87 with h89 | h90 | h91 | h92 | h93 | h94 | h95
      · obtain ⟨q98, k96, k97⟩ := h89
        exact absurd (by omega : False) id
      · obtain ⟨q101, k99, k100⟩ := h90
        exact absurd (by omega : False) id
      · obtain ⟨q104, k102, k103⟩ := h91
        refine lv_pop hx hb dL_law_1353 rfl ?_
        refine lv_goto (tgt := 1357) hx hb dL_law_1354 (of_decide_eq_true rfl) ?_
        obtain ⟨x105, ex105⟩ : ∃ y : Int32, y = x0 + 6 := ⟨_, rfl⟩
        exact by
         have tx105 : x105.toInt = x0.toInt + 6 := (jadd ex105 rfl jz_6 (by omega) (by omega)).trans (by omega)
         refine lv_iinc (v := x105) (lv' := [(3, .int x105), (2, .ref (ad 55)), (1, .ref (ad 0)), (0, .ref b)]) hx hb dL_law_1357 hl (k := 0) rfl (by rw [ex105]; rfl) (of_decide_eq_true rfl) rfl (fun ls hl => ?_)
         refine lv_goto (tgt := 18) hx hb dL_law_1360 (of_decide_eq_true rfl) ?_
         exact by exact ih x105 σ τ _ _ ls (by have h9 := tx105; omega) ⟨hI2, hI9, hI12, hI16, hI18, hI22, hI31, hI38, hI43, hI47, hI50, hI101, hI102, hI103, hI104, hI105, hI106, hI107, hI109, hI110, hI111, hI119, hs_jKept, hs_jBook, (by omega), hr0⟩ hP hS (lv_sub hl [0, 1, 2, 3] rfl)
      · obtain ⟨q108, k106, k107⟩ := h92
        exact absurd (by omega : False) id
      · obtain ⟨q111, k109, k110⟩ := h93
        exact absurd (by omega : False) id
      · obtain ⟨q114, k112, k113⟩ := h94
        exact absurd (by omega : False) id
      · exact by
         obtain ⟨q116, k115⟩ := h95
         exact absurd (by omega : False) id
   · obtain ⟨q119, k117, k118⟩ := h14
     refine lv_pop hx hb dL_law_1343 rfl ?_
     refine lv_aload_n hx hb dL_law_1344 rfl (lv_at hl 1 rfl) ?_
     refine lv_aload_n hx hb dL_law_1345 rfl (lv_at hl 3 rfl) ?_
     refine lv_iload_n hx hb dL_law_1346 rfl (lv_at hl 0 rfl) ?_
     refine lv_iconst (v := 1) hx hb dL_law_1347 (of_decide_eq_true rfl) ?_
     refine lv_iadd hx hb dL_law_1348 ?_
     refine jtopr ex7.symm ?_
     exact by
      refine va_sld hx hb hX hbl hbA hS (jin tx7 (by omega) (by omega)) dL_law_1349 ?_
      refine jcallV (As := [.int (xs x7.toNatClampNeg)]) (rest := []) ⟨hx, hb, hml, hown, hts⟩ hK hP hA hS hZ (c_X12_count l D cI cL ad zz hJ σ τ (xs x7.toNatClampNeg) ((xs x7.toNatClampNeg).toInt) rfl hI101 hI102 hI105 hI106 hI107) cw_RL_169 (jc_55 cI cL ad σ τ) rfl ⟨Nat.le_of_ble_eq_true rfl, Nat.le_of_ble_eq_true rfl⟩ rfl rfl rfl hl.1 rfl (Nat.le_of_ble_eq_true rfl) dL_law_1350 ⟨Nat.le_of_ble_eq_true rfl, Nat.le_of_ble_eq_true rfl⟩ (fun r121 σ120 τ120 H locs h120 hP hS => ?_)
      obtain ⟨⟨rfl, rfl⟩, h120⟩ := h120
      rcases h120 with h122 | h123 | h124 | h125 | h126 | h127 | h128
      · obtain ⟨q131, k129, k130⟩ := h122
        exact absurd (by omega : False) id
      · obtain ⟨q134, k132, k133⟩ := h123
        exact absurd (by omega : False) id
      · obtain ⟨q137, k135, k136⟩ := h124
        exact absurd (by omega : False) id
      · obtain ⟨q140, k138, k139⟩ := h125
        refine lv_pop hx hb dL_law_1353 rfl ?_
        refine lv_goto (tgt := 1357) hx hb dL_law_1354 (of_decide_eq_true rfl) ?_
        obtain ⟨x141, ex141⟩ : ∃ y : Int32, y = x0 + 6 := ⟨_, rfl⟩
        exact by
         have tx141 : x141.toInt = x0.toInt + 6 := (jadd ex141 rfl jz_6 (by omega) (by omega)).trans (by omega)
         refine lv_iinc (v := x141) (lv' := [(3, .int x141), (2, .ref (ad 55)), (1, .ref (ad 0)), (0, .ref b)]) hx hb dL_law_1357 hl (k := 0) rfl (by rw [ex141]; rfl) (of_decide_eq_true rfl) rfl (fun ls hl => ?_)
         refine lv_goto (tgt := 18) hx hb dL_law_1360 (of_decide_eq_true rfl) ?_
         exact by exact ih x141 σ τ _ _ ls (by have h9 := tx141; omega) ⟨hI2, hI9, hI12, hI16, hI18, hI22, hI31, hI38, hI43, hI47, hI50, hI101, hI102, hI103, hI104, hI105, hI106, hI107, hI109, hI110, hI111, hI119, hs_jKept, hs_jBook, (by omega), hr0⟩ hP hS (lv_sub hl [0, 1, 2, 3] rfl)
      · obtain ⟨q144, k142, k143⟩ := h126
        exact absurd (by omega : False) id
      · obtain ⟨q147, k145, k146⟩ := h127
        exact absurd (by omega : False) id
      · obtain ⟨q149, k148⟩ := h128
        exact absurd (by omega : False) id
   · exact by
      obtain ⟨q152, k150, k151⟩ := h15
      refine lv_pop hx hb dL_law_1343 rfl ?_
      refine lv_aload_n hx hb dL_law_1344 rfl (lv_at hl 1 rfl) ?_
      refine lv_aload_n hx hb dL_law_1345 rfl (lv_at hl 3 rfl) ?_
      refine lv_iload_n hx hb dL_law_1346 rfl (lv_at hl 0 rfl) ?_
      refine lv_iconst (v := 1) hx hb dL_law_1347 (of_decide_eq_true rfl) ?_
      refine lv_iadd hx hb dL_law_1348 ?_
      refine jtopr ex7.symm ?_
      refine va_sld hx hb hX hbl hbA hS (jin tx7 (by omega) (by omega)) dL_law_1349 ?_
      exact by
       refine jcallV (As := [.int (xs x7.toNatClampNeg)]) (rest := []) ⟨hx, hb, hml, hown, hts⟩ hK hP hA hS hZ (c_X12_count l D cI cL ad zz hJ σ τ (xs x7.toNatClampNeg) ((xs x7.toNatClampNeg).toInt) rfl hI101 hI102 hI105 hI106 hI107) cw_RL_169 (jc_55 cI cL ad σ τ) rfl ⟨Nat.le_of_ble_eq_true rfl, Nat.le_of_ble_eq_true rfl⟩ rfl rfl rfl hl.1 rfl (Nat.le_of_ble_eq_true rfl) dL_law_1350 ⟨Nat.le_of_ble_eq_true rfl, Nat.le_of_ble_eq_true rfl⟩ (fun r154 σ153 τ153 H locs h153 hP hS => ?_)
       obtain ⟨⟨rfl, rfl⟩, h153⟩ := h153
       rcases h153 with h155 | h156 | h157 | h158 | h159 | h160 | h161
       · obtain ⟨q164, k162, k163⟩ := h155
         exact absurd (by omega : False) id
       · obtain ⟨q167, k165, k166⟩ := h156
         exact absurd (by omega : False) id
       · obtain ⟨q170, k168, k169⟩ := h157
         exact absurd (by omega : False) id
       · obtain ⟨q173, k171, k172⟩ := h158
         exact absurd (by omega : False) id
       · obtain ⟨q176, k174, k175⟩ := h159
         refine lv_pop hx hb dL_law_1353 rfl ?_
         refine lv_goto (tgt := 1357) hx hb dL_law_1354 (of_decide_eq_true rfl) ?_
         obtain ⟨x177, ex177⟩ : ∃ y : Int32, y = x0 + 6 := ⟨_, rfl⟩
         exact by
          have tx177 : x177.toInt = x0.toInt + 6 := (jadd ex177 rfl jz_6 (by omega) (by omega)).trans (by omega)
          refine lv_iinc (v := x177) (lv' := [(3, .int x177), (2, .ref (ad 55)), (1, .ref (ad 0)), (0, .ref b)]) hx hb dL_law_1357 hl (k := 0) rfl (by rw [ex177]; rfl) (of_decide_eq_true rfl) rfl (fun ls hl => ?_)
          refine lv_goto (tgt := 18) hx hb dL_law_1360 (of_decide_eq_true rfl) ?_
          exact by exact ih x177 σ τ _ _ ls (by have h9 := tx177; omega) ⟨hI2, hI9, hI12, hI16, hI18, hI22, hI31, hI38, hI43, hI47, hI50, hI101, hI102, hI103, hI104, hI105, hI106, hI107, hI109, hI110, hI111, hI119, hs_jKept, hs_jBook, (by omega), hr0⟩ hP hS (lv_sub hl [0, 1, 2, 3] rfl)
       · obtain ⟨q180, k178, k179⟩ := h160
         exact absurd (by omega : False) id
       · obtain ⟨q182, k181⟩ := h161
         exact absurd (by omega : False) id
   · obtain ⟨q185, k183, k184⟩ := h16
     exact by
      refine lv_pop hx hb dL_law_1343 rfl ?_
      refine lv_aload_n hx hb dL_law_1344 rfl (lv_at hl 1 rfl) ?_
      refine lv_aload_n hx hb dL_law_1345 rfl (lv_at hl 3 rfl) ?_
      refine lv_iload_n hx hb dL_law_1346 rfl (lv_at hl 0 rfl) ?_
      refine lv_iconst (v := 1) hx hb dL_law_1347 (of_decide_eq_true rfl) ?_
      refine lv_iadd hx hb dL_law_1348 ?_
      refine jtopr ex7.symm ?_
      refine va_sld hx hb hX hbl hbA hS (jin tx7 (by omega) (by omega)) dL_law_1349 ?_
      refine jcallV (As := [.int (xs x7.toNatClampNeg)]) (rest := []) ⟨hx, hb, hml, hown, hts⟩ hK hP hA hS hZ (c_X12_count l D cI cL ad zz hJ σ τ (xs x7.toNatClampNeg) ((xs x7.toNatClampNeg).toInt) rfl hI101 hI102 hI105 hI106 hI107) cw_RL_169 (jc_55 cI cL ad σ τ) rfl ⟨Nat.le_of_ble_eq_true rfl, Nat.le_of_ble_eq_true rfl⟩ rfl rfl rfl hl.1 rfl (Nat.le_of_ble_eq_true rfl) dL_law_1350 ⟨Nat.le_of_ble_eq_true rfl, Nat.le_of_ble_eq_true rfl⟩ (fun r187 σ186 τ186 H locs h186 hP hS => ?_)
      exact by
       obtain ⟨⟨rfl, rfl⟩, h186⟩ := h186
       rcases h186 with h188 | h189 | h190 | h191 | h192 | h193 | h194
       · obtain ⟨q197, k195, k196⟩ := h188
         exact absurd (by omega : False) id
       · obtain ⟨q200, k198, k199⟩ := h189
         exact absurd (by omega : False) id
       · obtain ⟨q203, k201, k202⟩ := h190
         exact absurd (by omega : False) id
       · obtain ⟨q206, k204, k205⟩ := h191
         exact absurd (by omega : False) id
       · obtain ⟨q209, k207, k208⟩ := h192
         exact absurd (by omega : False) id
       · obtain ⟨q212, k210, k211⟩ := h193
         refine lv_pop hx hb dL_law_1353 rfl ?_
         refine lv_goto (tgt := 1357) hx hb dL_law_1354 (of_decide_eq_true rfl) ?_
         obtain ⟨x213, ex213⟩ : ∃ y : Int32, y = x0 + 6 := ⟨_, rfl⟩
         exact by
          have tx213 : x213.toInt = x0.toInt + 6 := (jadd ex213 rfl jz_6 (by omega) (by omega)).trans (by omega)
          refine lv_iinc (v := x213) (lv' := [(3, .int x213), (2, .ref (ad 55)), (1, .ref (ad 0)), (0, .ref b)]) hx hb dL_law_1357 hl (k := 0) rfl (by rw [ex213]; rfl) (of_decide_eq_true rfl) rfl (fun ls hl => ?_)
          refine lv_goto (tgt := 18) hx hb dL_law_1360 (of_decide_eq_true rfl) ?_
          exact by exact ih x213 σ τ _ _ ls (by have h9 := tx213; omega) ⟨hI2, hI9, hI12, hI16, hI18, hI22, hI31, hI38, hI43, hI47, hI50, hI101, hI102, hI103, hI104, hI105, hI106, hI107, hI109, hI110, hI111, hI119, hs_jKept, hs_jBook, (by omega), hr0⟩ hP hS (lv_sub hl [0, 1, 2, 3] rfl)
       · obtain ⟨q215, k214⟩ := h194
         exact absurd (by omega : False) id
   · obtain ⟨q217, k216⟩ := h17
     have q217 := q217.symm
     subst q217
     exact by
      refine lv_pop hx hb dL_law_1343 rfl ?_
      refine lv_aload_n hx hb dL_law_1344 rfl (lv_at hl 1 rfl) ?_
      refine lv_aload_n hx hb dL_law_1345 rfl (lv_at hl 3 rfl) ?_
      refine lv_iload_n hx hb dL_law_1346 rfl (lv_at hl 0 rfl) ?_
      refine lv_iconst (v := 1) hx hb dL_law_1347 (of_decide_eq_true rfl) ?_
      refine lv_iadd hx hb dL_law_1348 ?_
      refine jtopr ex7.symm ?_
      refine va_sld hx hb hX hbl hbA hS (jin tx7 (by omega) (by omega)) dL_law_1349 ?_
      refine jcallV (As := [.int (xs x7.toNatClampNeg)]) (rest := []) ⟨hx, hb, hml, hown, hts⟩ hK hP hA hS hZ (c_X12_count l D cI cL ad zz hJ σ τ (xs x7.toNatClampNeg) ((xs x7.toNatClampNeg).toInt) rfl hI101 hI102 hI105 hI106 hI107) cw_RL_169 (jc_55 cI cL ad σ τ) rfl ⟨Nat.le_of_ble_eq_true rfl, Nat.le_of_ble_eq_true rfl⟩ rfl rfl rfl hl.1 rfl (Nat.le_of_ble_eq_true rfl) dL_law_1350 ⟨Nat.le_of_ble_eq_true rfl, Nat.le_of_ble_eq_true rfl⟩ (fun r219 σ218 τ218 H locs h218 hP hS => ?_)
      exact by
       obtain ⟨⟨rfl, rfl⟩, h218⟩ := h218
       rcases h218 with h220 | h221 | h222 | h223 | h224 | h225 | h226
       · obtain ⟨q229, k227, k228⟩ := h220
         exact absurd (by omega : False) id
       · obtain ⟨q232, k230, k231⟩ := h221
         exact absurd (by omega : False) id
       · obtain ⟨q235, k233, k234⟩ := h222
         exact absurd (by omega : False) id
       · obtain ⟨q238, k236, k237⟩ := h223
         exact absurd (by omega : False) id
       · obtain ⟨q241, k239, k240⟩ := h224
         exact absurd (by omega : False) id
       · obtain ⟨q244, k242, k243⟩ := h225
         exact absurd (by omega : False) id
       · obtain ⟨q246, k245⟩ := h226
         have q246 := q246.symm
         subst q246
         refine lv_pop hx hb dL_law_1353 rfl ?_
         refine lv_goto (tgt := 1357) hx hb dL_law_1354 (of_decide_eq_true rfl) ?_
         obtain ⟨x247, ex247⟩ : ∃ y : Int32, y = x0 + 6 := ⟨_, rfl⟩
         exact by
          have tx247 : x247.toInt = x0.toInt + 6 := (jadd ex247 rfl jz_6 (by omega) (by omega)).trans (by omega)
          refine lv_iinc (v := x247) (lv' := [(3, .int x247), (2, .ref (ad 55)), (1, .ref (ad 0)), (0, .ref b)]) hx hb dL_law_1357 hl (k := 0) rfl (by rw [ex247]; rfl) (of_decide_eq_true rfl) rfl (fun ls hl => ?_)
          refine lv_goto (tgt := 18) hx hb dL_law_1360 (of_decide_eq_true rfl) ?_
          exact by exact ih x247 σ τ _ _ ls (by have h9 := tx247; omega) ⟨hI2, hI9, hI12, hI16, hI18, hI22, hI31, hI38, hI43, hI47, hI50, hI101, hI102, hI103, hI104, hI105, hI106, hI107, hI109, hI110, hI111, hI119, hs_jKept, hs_jBook, (by omega), hr0⟩ hP hS (lv_sub hl [0, 1, 2, 3] rfl)
set_option maxHeartbeats 4000000 in
set_option maxRecDepth 100000 in
theorem law_case_37 {p : Program} {e : Env} {s : State} {m : MethodId} {below : List Frame} {meth : Method} {c : Code} (l : Launch) {b L : Nat} {xs : Nat → Int32} {D : va_G} {cI cL : ClassId} {ad zz : Nat → Nat} (C0 : lw_At p s m meth c b L xs) (hJ : jD ad) (hA : ∀ q, jA ad q → s.heap.size ≤ q) (hK : jK D cI cL s) (hZ : jZ zz (fun q : Nat => s.heap.size ≤ q) s s.heap) {x0 : Int32} (hx0 : 0 ≤ x0.toInt) (hxL : x0.toInt + 6 ≤ (L : Int)) (hL : L ≤ 384) {σ : Nat → Nat → Int32} {τ : Nat → Nat → Int64} {H : Heap} {locs : List Loc} (hS : va_S (fun q : Nat => s.heap.size ≤ q) s.heap H locs) {ls : Array Slot} (hAll : jAll σ τ) (hP : jH D cI cL ad σ τ H) (hl : lv_has ls 4 [(3, .int x0), (2, .ref (ad 55)), (1, .ref (ad 0)), (0, .ref b)]) (ih : ∀ (x1 : Int32) (σ : Nat → Nat → Int32) (τ : Nat → Nat → Int64) (H : Heap) (locs : List Loc) (ls : Array Slot), x1.toInt = x0.toInt + 6 → jAll σ τ → jH D cI cL ad σ τ H → va_S (fun q : Nat => s.heap.size ≤ q) s.heap H locs → lv_has ls 4 [(3, .int x1), (2, .ref (ad 55)), (1, .ref (ad 0)), (0, .ref b)] → W p l e room_1 s m #[Value.ref b] below meth c H locs 90 348600 (lw_Z below #[Value.ref b] s) (F0 m 18 ls [])) : W p l e room_1 s m #[Value.ref b] below meth c H locs 90 348600 (lw_Z below #[Value.ref b] s) (F0 m 1357 ls []) := by
  obtain ⟨hx, hb, hr, hml, hown, hts0, hX, hbl, hlocks, hgv⟩ := C0
  have hts : ∀ w ∈ wsL_law, w.before #[Value.ref b] s = true := fun w h => hts0 w (wsL_law_in w h)
  have hbA : ¬ (fun q : Nat => s.heap.size ≤ q) b := Nat.not_le.mpr hbl
  have hown : s.vm.findClass RL = some m.cls := hown
  obtain ⟨hI2, hI9, hI12, hI16, hI18, hI22, hI31, hI38, hI43, hI47, hI50, hI101, hI102, hI103, hI104, hI105, hI106, hI107, hI109, hI110, hI111, hI119, hs_jKept, hs_jBook, ht0, hr0⟩ := hAll
  have hL9 : (L : Int) ≤ 384 := by omega
  obtain ⟨i1, w2, w3⟩ : (0 ≤ (σ 9 0).toInt ∧ (σ 9 0).toInt ≤ 80) ∧ (∀ k : Nat, k < 80 → 0 ≤ (σ 10 k).toInt ∧ (σ 10 k).toInt ≤ 255) ∧ (∀ k : Nat, k < 8 → 0 ≤ (σ 11 k).toInt ∧ (σ 11 k).toInt ≤ 3) := id hI9
  obtain ⟨i4, w5⟩ : (0 ≤ (σ 55 15).toInt ∧ (σ 55 15).toInt ≤ 80) ∧ (∀ k : Nat, k < 2 → (-1) ≤ (σ 65 k).toInt ∧ (σ 65 k).toInt ≤ 80) := id hI105
  obtain ⟨x6, ex6⟩ : ∃ y : Int32, y = x0 + 6 := ⟨_, rfl⟩
  exact by
   have tx6 : x6.toInt = x0.toInt + 6 := (jadd ex6 rfl jz_6 (by omega) (by omega)).trans (by omega)
   refine lv_iinc (v := x6) (lv' := [(3, .int x6), (2, .ref (ad 55)), (1, .ref (ad 0)), (0, .ref b)]) hx hb dL_law_1357 hl (k := 0) rfl (by rw [ex6]; rfl) (of_decide_eq_true rfl) rfl (fun ls hl => ?_)
   refine lv_goto (tgt := 18) hx hb dL_law_1360 (of_decide_eq_true rfl) ?_
   exact by exact ih x6 σ τ _ _ ls (by have h9 := tx6; omega) ⟨hI2, hI9, hI12, hI16, hI18, hI22, hI31, hI38, hI43, hI47, hI50, hI101, hI102, hI103, hI104, hI105, hI106, hI107, hI109, hI110, hI111, hI119, hs_jKept, hs_jBook, (by omega), hr0⟩ hP hS (lv_sub hl [0, 1, 2, 3] rfl)
