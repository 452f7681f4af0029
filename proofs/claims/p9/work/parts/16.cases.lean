set_option maxHeartbeats 4000000 in
set_option maxRecDepth 100000 in
theorem law_case_19 {p : Program} {e : Env} {s : State} {m : MethodId} {below : List Frame} {meth : Method} {c : Code} (l : Launch) {b L : Nat} {xs : Nat → Int32} {D : va_G} {cI cL : ClassId} {ad zz : Nat → Nat} (C0 : lw_At p s m meth c b L xs) (hJ : jD ad) (hA : ∀ q, jA ad q → s.heap.size ≤ q) (hK : jK D cI cL s) (hZ : jZ zz (fun q : Nat => s.heap.size ≤ q) s s.heap) {x0 : Int32} (hx0 : 0 ≤ x0.toInt) (hxL : x0.toInt + 6 ≤ (L : Int)) (hL : L ≤ 384) {σ : Nat → Nat → Int32} {τ : Nat → Nat → Int64} {H : Heap} {locs : List Loc} (hS : va_S (fun q : Nat => s.heap.size ≤ q) s.heap H locs) {ls : Array Slot} (hAll : jAll σ τ) (hP : jH D cI cL ad σ τ H) (hl : lv_has ls 4 [(3, .int x0), (2, .ref (ad 55)), (1, .ref (ad 0)), (0, .ref b)]) (ih : ∀ (x1 : Int32) (σ : Nat → Nat → Int32) (τ : Nat → Nat → Int64) (H : Heap) (locs : List Loc) (ls : Array Slot), x1.toInt = x0.toInt + 6 → jAll σ τ → jH D cI cL ad σ τ H → va_S (fun q : Nat => s.heap.size ≤ q) s.heap H locs → lv_has ls 4 [(3, .int x1), (2, .ref (ad 55)), (1, .ref (ad 0)), (0, .ref b)] → W p l e room_1 s m #[Value.ref b] below meth c H locs 90 348600 (lw_Z below #[Value.ref b] s) (F0 m 18 ls [])) : W p l e room_1 s m #[Value.ref b] below meth c H locs 90 348600 (lw_Z below #[Value.ref b] s) (F0 m 773 ls []) := by
  obtain ⟨hx, hb, hr, hml, hown, hts0, hX, hbl, hlocks, hgv⟩ := C0
  have hts : ∀ w ∈ wsL_law, w.before #[Value.ref b] s = true := fun w h => hts0 w (wsL_law_in w h)
  have hbA : ¬ (fun q : Nat => s.heap.size ≤ q) b := Nat.not_le.mpr hbl
  have hown : s.vm.findClass RL = some m.cls := hown
  obtain ⟨hI2, hI9, hI12, hI16, hI18, hI22, hI31, hI38, hI43, hI47, hI50, hI101, hI102, hI103, hI104, hI105, hI106, hI107, hI109, hI110, hI111, hI119, hs_jKept, hs_jBook, ht0, ht1, ht2, ht3, hr0, hr1⟩ := hAll
  have hL9 : (L : Int) ≤ 384 := by omega
  obtain ⟨i1, w2, w3⟩ : (0 ≤ (σ 9 0).toInt ∧ (σ 9 0).toInt ≤ 80) ∧ (∀ k : Nat, k < 80 → 0 ≤ (σ 10 k).toInt ∧ (σ 10 k).toInt ≤ 255) ∧ (∀ k : Nat, k < 8 → 0 ≤ (σ 11 k).toInt ∧ (σ 11 k).toInt ≤ 3) := id hI9
  obtain ⟨i4, i5, i6, w7⟩ : (1 ≤ (σ 16 0).toInt ∧ (σ 16 0).toInt ≤ 8) ∧ (1 ≤ (σ 16 1).toInt ∧ (σ 16 1).toInt ≤ 12) ∧ (0 ≤ (σ 16 2).toInt ∧ (σ 16 2).toInt ≤ 999) ∧ (∀ k : Nat, k < 8 → 0 ≤ (σ 17 k).toInt ∧ (σ 17 k).toInt ≤ 3) := id hI16
  obtain ⟨i8, i9, i10, w11, w12⟩ : (1 ≤ (σ 55 10).toInt ∧ (σ 55 10).toInt ≤ 8) ∧ (1 ≤ (σ 55 12).toInt ∧ (σ 55 12).toInt ≤ 12) ∧ (0 ≤ (σ 55 13).toInt ∧ (σ 55 13).toInt ≤ 999) ∧ (∀ k : Nat, k < 8 → 0 ≤ (σ 62 k).toInt ∧ (σ 62 k).toInt ≤ 3) ∧ (∀ k : Nat, k < 8 → 0 ≤ (σ 67 k).toInt ∧ (σ 67 k).toInt ≤ 3) := id hI104
  obtain ⟨i13, w14⟩ : (0 ≤ (σ 55 15).toInt ∧ (σ 55 15).toInt ≤ 80) ∧ (∀ k : Nat, k < 2 → (-1) ≤ (σ 65 k).toInt ∧ (σ 65 k).toInt ≤ 80) := id hI105
  refine lv_aload_n hx hb dL_law_773 rfl (lv_at hl 2 rfl) ?_
  refine lv_aload_n hx hb dL_law_774 rfl (lv_at hl 3 rfl) ?_
  refine lv_iload_n hx hb dL_law_775 rfl (lv_at hl 0 rfl) ?_
  refine lv_iconst (v := 1) hx hb dL_law_776 (of_decide_eq_true rfl) ?_
  have g15 := jrg (rfl : x0.toInt = x0.toInt)
  refine lv_iadd hx hb dL_law_777 ?_
  refine lv_topi (fun x16 ex16 => ?_)
  exact by
   have tx16 : x16.toInt = x0.toInt + 1 := (jadd ex16 rfl jz_1 (by omega) (by omega)).trans (by omega)
   refine va_sld hx hb hX hbl hbA hS (jin tx16 (by omega) (by omega)) dL_law_778 ?_
   have g17 := jrg (rfl : (xs x16.toNatClampNeg).toInt = (xs x16.toNatClampNeg).toInt)
   refine lv_aload_n hx hb dL_law_779 rfl (lv_at hl 3 rfl) ?_
   refine lv_iload_n hx hb dL_law_780 rfl (lv_at hl 0 rfl) ?_
   refine lv_iconst (v := 2) hx hb dL_law_781 (of_decide_eq_true rfl) ?_
   refine lv_iadd hx hb dL_law_782 ?_
   refine lv_topi (fun x18 ex18 => ?_)
   have tx18 : x18.toInt = x0.toInt + 2 := (jadd ex18 rfl jz_2 (by omega) (by omega)).trans (by omega)
   exact by
    refine va_sld hx hb hX hbl hbA hS (jin tx18 (by omega) (by omega)) dL_law_783 ?_
    have g19 := jrg (rfl : (xs x18.toNatClampNeg).toInt = (xs x18.toNatClampNeg).toInt)
    refine jcallV (As := [.int (xs x16.toNatClampNeg), .int (xs x18.toNatClampNeg)]) (rest := []) ⟨hx, hb, hml, hown, hts⟩ hK hP hA hS hZ (c_X11_book l D cI cL ad zz hJ σ τ (xs x16.toNatClampNeg) ((xs x16.toNatClampNeg).toInt) rfl (xs x18.toNatClampNeg) ((xs x18.toNatClampNeg).toInt) rfl hI2 hI16 hI47) cw_RL_93 (jc_0 cI cL ad σ τ) rfl ⟨Nat.le_of_ble_eq_true rfl, Nat.le_of_ble_eq_true rfl⟩ rfl rfl rfl hl.1 rfl (Nat.le_of_ble_eq_true rfl) dL_law_784 ⟨Nat.le_of_ble_eq_true rfl, Nat.le_of_ble_eq_true rfl⟩ (fun r21 σ20 τ20 H locs h20 hP hS => ?_)
    obtain ⟨rfl, f22, f23, I24, w25, h20⟩ := h20
    refine lv_pop hx hb dL_law_787 rfl ?_
    refine lv_aload_n hx hb dL_law_788 rfl (lv_at hl 1 rfl) ?_
    refine lv_aload_n hx hb dL_law_789 rfl (lv_at hl 3 rfl) ?_
    refine lv_iload_n hx hb dL_law_790 rfl (lv_at hl 0 rfl) ?_
    refine lv_iconst (v := 1) hx hb dL_law_791 (of_decide_eq_true rfl) ?_
    refine lv_iadd hx hb dL_law_792 ?_
    refine jtopr ex16.symm ?_
    exact by
     refine va_sld hx hb hX hbl hbA hS (jin tx16 (by omega) (by omega)) dL_law_793 ?_
     refine lv_aload_n hx hb dL_law_794 rfl (lv_at hl 3 rfl) ?_
     refine lv_iload_n hx hb dL_law_795 rfl (lv_at hl 0 rfl) ?_
     refine lv_iconst (v := 2) hx hb dL_law_796 (of_decide_eq_true rfl) ?_
     refine lv_iadd hx hb dL_law_797 ?_
     refine jtopr ex18.symm ?_
     refine va_sld hx hb hX hbl hbA hS (jin tx18 (by omega) (by omega)) dL_law_798 ?_
     have I27 : jI102 σ20 := jI102_fr (congrFun (f22 55 (of_decide_eq_true rfl)) 6) (f22 60 (of_decide_eq_true rfl)) (f22 61 (of_decide_eq_true rfl)) hI102
     have I28 : jI104 σ20 := jI104_fr (congrFun (f22 55 (of_decide_eq_true rfl)) 10) (congrFun (f22 55 (of_decide_eq_true rfl)) 12) (congrFun (f22 55 (of_decide_eq_true rfl)) 13) (f22 62 (of_decide_eq_true rfl)) (f22 67 (of_decide_eq_true rfl)) hI104
     exact by
      have I29 : jI107 σ20 := jI107_fr (congrFun (f22 55 (of_decide_eq_true rfl)) 12) (congrFun (f22 55 (of_decide_eq_true rfl)) 47) (f22 80 (of_decide_eq_true rfl)) hI107
      have w30 : ∀ k : Nat, k < 4 → 0 ≤ (σ 68 k).toInt ∧ (σ 68 k).toInt ≤ 3 := hI119
      have w31 : ∀ k : Nat, k < 4 → 0 ≤ (σ20 68 k).toInt ∧ (σ20 68 k).toInt ≤ 3 := (jrr_fr (f22 68 (of_decide_eq_true rfl)) w30)
      have p32 : jBook σ20 := jBook.fr (congrFun (f22 55 (of_decide_eq_true rfl)) 47) (congrFun (f22 55 (of_decide_eq_true rfl)) 10) (f22 81 (of_decide_eq_true rfl)) hs_jBook
      have z33 : (σ20 55 47).toInt = (σ 55 47).toInt := (congrArg Int32.toInt (show σ20 55 47 = (σ 55 47) from (congrFun (f22 55 (of_decide_eq_true rfl)) 47)))
      refine jcallV (As := [.int (xs x16.toNatClampNeg), .int (xs x18.toNatClampNeg)]) (rest := []) ⟨hx, hb, hml, hown, hts⟩ hK hP hA hS hZ (c_X12_book l D cI cL ad zz hJ σ20 τ (xs x16.toNatClampNeg) ((xs x16.toNatClampNeg).toInt) rfl (xs x18.toNatClampNeg) ((xs x18.toNatClampNeg).toInt) rfl I27 I28 I29 w31 p32) cw_RL_96 (jc_55 cI cL ad σ20 τ) rfl ⟨Nat.le_of_ble_eq_true rfl, Nat.le_of_ble_eq_true rfl⟩ rfl rfl rfl hl.1 rfl (Nat.le_of_ble_eq_true rfl) dL_law_799 ⟨Nat.le_of_ble_eq_true rfl, Nat.le_of_ble_eq_true rfl⟩ (fun r35 σ34 τ34 H locs h34 hP hS => ?_)
      obtain ⟨rfl, f36, f37, I38, w39, p40, w41, h34⟩ := h34
      rcases h34 with h43 | h44
      · obtain ⟨q47, k45, k46⟩ := h43
        refine lv_pop hx hb dL_law_802 rfl ?_
        refine lv_goto (tgt := 1357) hx hb dL_law_803 (of_decide_eq_true rfl) ?_
        obtain ⟨x48, ex48⟩ : ∃ y : Int32, y = x0 + 6 := ⟨_, rfl⟩
        exact by
         have tx48 : x48.toInt = x0.toInt + 6 := (jadd ex48 rfl jz_6 (by omega) (by omega)).trans (by omega)
         refine lv_iinc (v := x48) (lv' := [(3, .int x48), (2, .ref (ad 55)), (1, .ref (ad 0)), (0, .ref b)]) hx hb dL_law_1357 hl (k := 0) rfl (by rw [ex48]; rfl) (of_decide_eq_true rfl) rfl (fun ls hl => ?_)
         refine lv_goto (tgt := 18) hx hb dL_law_1360 (of_decide_eq_true rfl) ?_
         have I49 : jI2 σ34 := jI2_fr ((congrFun (f36 2 (of_decide_eq_true rfl)) 0).trans (congrFun (f22 2 (of_decide_eq_true rfl)) 0)) ((congrFun (f36 2 (of_decide_eq_true rfl)) 1).trans (congrFun (f22 2 (of_decide_eq_true rfl)) 1)) ((congrFun (f36 2 (of_decide_eq_true rfl)) 2).trans (congrFun (f22 2 (of_decide_eq_true rfl)) 2)) ((congrFun (f36 2 (of_decide_eq_true rfl)) 3).trans (congrFun (f22 2 (of_decide_eq_true rfl)) 3)) ((f36 6 (of_decide_eq_true rfl)).trans (f22 6 (of_decide_eq_true rfl))) hI2
         have I50 : jI9 σ34 := jI9_fr ((congrFun (f36 9 (of_decide_eq_true rfl)) 0).trans (congrFun (f22 9 (of_decide_eq_true rfl)) 0)) ((f36 10 (of_decide_eq_true rfl)).trans (f22 10 (of_decide_eq_true rfl))) ((f36 11 (of_decide_eq_true rfl)).trans (f22 11 (of_decide_eq_true rfl))) hI9
         have I51 : jI12 σ34 := jI12_fr ((congrFun (f36 12 (of_decide_eq_true rfl)) 0).trans (congrFun (f22 12 (of_decide_eq_true rfl)) 0)) ((f36 13 (of_decide_eq_true rfl)).trans (f22 13 (of_decide_eq_true rfl))) hI12
         have I52 : jI16 σ34 := jI16_fr ((congrFun (f36 16 (of_decide_eq_true rfl)) 0).trans (congrFun (f22 16 (of_decide_eq_true rfl)) 0)) ((congrFun (f36 16 (of_decide_eq_true rfl)) 1).trans (congrFun (f22 16 (of_decide_eq_true rfl)) 1)) ((congrFun (f36 16 (of_decide_eq_true rfl)) 2).trans (congrFun (f22 16 (of_decide_eq_true rfl)) 2)) ((f36 17 (of_decide_eq_true rfl)).trans (f22 17 (of_decide_eq_true rfl))) hI16
         have I53 : jI18 σ34 := jI18_fr ((congrFun (f36 18 (of_decide_eq_true rfl)) 0).trans (congrFun (f22 18 (of_decide_eq_true rfl)) 0)) ((f36 19 (of_decide_eq_true rfl)).trans (f22 19 (of_decide_eq_true rfl))) hI18
         have I54 : jI22 σ34 := jI22_fr ((congrFun (f36 22 (of_decide_eq_true rfl)) 0).trans (congrFun (f22 22 (of_decide_eq_true rfl)) 0)) ((f36 23 (of_decide_eq_true rfl)).trans (f22 23 (of_decide_eq_true rfl))) hI22
         exact by
          have I55 : jI31 σ34 := jI31_fr ((congrFun (f36 31 (of_decide_eq_true rfl)) 8).trans (congrFun (f22 31 (of_decide_eq_true rfl)) 8)) ((f36 33 (of_decide_eq_true rfl)).trans (f22 33 (of_decide_eq_true rfl))) ((f36 36 (of_decide_eq_true rfl)).trans (f22 36 (of_decide_eq_true rfl))) hI31
          have I56 : jI38 σ34 := jI38_fr ((congrFun (f36 38 (of_decide_eq_true rfl)) 0).trans (congrFun (f22 38 (of_decide_eq_true rfl)) 0)) ((congrFun (f36 38 (of_decide_eq_true rfl)) 1).trans (congrFun (f22 38 (of_decide_eq_true rfl)) 1)) ((f36 39 (of_decide_eq_true rfl)).trans (f22 39 (of_decide_eq_true rfl))) hI38
          have I57 : jI43 σ34 := jI43_fr ((congrFun (f36 43 (of_decide_eq_true rfl)) 8).trans (congrFun (f22 43 (of_decide_eq_true rfl)) 8)) hI43
          have I58 : jI47 σ34 := jI47_fr (congrFun (f36 47 (of_decide_eq_true rfl)) 0) (f36 48 (of_decide_eq_true rfl)) (f36 49 (of_decide_eq_true rfl)) I24
          have I59 : jI50 σ34 := jI50_fr ((f36 52 (of_decide_eq_true rfl)).trans (f22 52 (of_decide_eq_true rfl))) hI50
          have I60 : jI101 σ34 := jI101_fr ((f37 4 (of_decide_eq_true rfl)).trans (congrFun (f22 55 (of_decide_eq_true rfl)) 4)) ((f37 5 (of_decide_eq_true rfl)).trans (congrFun (f22 55 (of_decide_eq_true rfl)) 5)) ((f36 56 (of_decide_eq_true rfl)).trans (f22 56 (of_decide_eq_true rfl))) ((f36 57 (of_decide_eq_true rfl)).trans (f22 57 (of_decide_eq_true rfl))) ((f36 58 (of_decide_eq_true rfl)).trans (f22 58 (of_decide_eq_true rfl))) ((f36 59 (of_decide_eq_true rfl)).trans (f22 59 (of_decide_eq_true rfl))) hI101
          have I61 : jI102 σ34 := jI102_fr (f37 6 (of_decide_eq_true rfl)) (f36 60 (of_decide_eq_true rfl)) (f36 61 (of_decide_eq_true rfl)) I27
          have I62 : jI103 σ34 := jI103_fr ((f37 9 (of_decide_eq_true rfl)).trans (congrFun (f22 55 (of_decide_eq_true rfl)) 9)) hI103
          have I63 : jI104 σ34 := jI104_fr (f37 10 (of_decide_eq_true rfl)) (f37 12 (of_decide_eq_true rfl)) (f37 13 (of_decide_eq_true rfl)) (f36 62 (of_decide_eq_true rfl)) (f36 67 (of_decide_eq_true rfl)) I28
          have I64 : jI105 σ34 := jI105_fr ((f37 15 (of_decide_eq_true rfl)).trans (congrFun (f22 55 (of_decide_eq_true rfl)) 15)) ((f36 65 (of_decide_eq_true rfl)).trans (f22 65 (of_decide_eq_true rfl))) hI105
          have I65 : jI106 σ34 := jI106_fr ((f37 32 (of_decide_eq_true rfl)).trans (congrFun (f22 55 (of_decide_eq_true rfl)) 32)) ((f36 70 (of_decide_eq_true rfl)).trans (f22 70 (of_decide_eq_true rfl))) ((f36 71 (of_decide_eq_true rfl)).trans (f22 71 (of_decide_eq_true rfl))) ((f36 72 (of_decide_eq_true rfl)).trans (f22 72 (of_decide_eq_true rfl))) hI106
          have I66 : jI109 σ34 := jI109_fr ((f37 50 (of_decide_eq_true rfl)).trans (congrFun (f22 55 (of_decide_eq_true rfl)) 50)) hI109
          have I67 : jI110 σ34 := jI110_fr ((f36 86 (of_decide_eq_true rfl)).trans (f22 86 (of_decide_eq_true rfl))) ((f36 87 (of_decide_eq_true rfl)).trans (f22 87 (of_decide_eq_true rfl))) hI110
          have I68 : jI111 σ34 := jI111_fr ((f36 79 (of_decide_eq_true rfl)).trans (f22 79 (of_decide_eq_true rfl))) hI111
          have I69 : jI119 σ34 := w39
          have p70 : jKept σ34 := jKept.fr ((f36 75 (of_decide_eq_true rfl)).trans (f22 75 (of_decide_eq_true rfl))) ((f36 76 (of_decide_eq_true rfl)).trans (f22 76 (of_decide_eq_true rfl))) ((f36 77 (of_decide_eq_true rfl)).trans (f22 77 (of_decide_eq_true rfl))) hs_jKept
          have z71 : (σ34 9 0).toInt = (σ 9 0).toInt := (congrArg Int32.toInt (show σ34 9 0 = (σ 9 0) from ((congrFun (f36 9 (of_decide_eq_true rfl)) 0).trans (congrFun (f22 9 (of_decide_eq_true rfl)) 0))))
          have z72 : (σ34 55 15).toInt = (σ 55 15).toInt := (congrArg Int32.toInt (show σ34 55 15 = (σ 55 15) from ((f37 15 (of_decide_eq_true rfl)).trans (congrFun (f22 55 (of_decide_eq_true rfl)) 15))))
          have z73 : (σ34 16 0).toInt = (σ 16 0).toInt := (congrArg Int32.toInt (show σ34 16 0 = (σ 16 0) from ((congrFun (f36 16 (of_decide_eq_true rfl)) 0).trans (congrFun (f22 16 (of_decide_eq_true rfl)) 0))))
          have z74 : (σ34 55 10).toInt = (σ 55 10).toInt := (congrArg Int32.toInt (show σ34 55 10 = (σ 55 10) from ((f37 10 (of_decide_eq_true rfl)).trans (congrFun (f22 55 (of_decide_eq_true rfl)) 10))))
          have z75 : (σ34 16 1).toInt = (σ 16 1).toInt := (congrArg Int32.toInt (show σ34 16 1 = (σ 16 1) from ((congrFun (f36 16 (of_decide_eq_true rfl)) 1).trans (congrFun (f22 16 (of_decide_eq_true rfl)) 1))))
          have z76 : (σ34 55 12).toInt = (σ 55 12).toInt := (congrArg Int32.toInt (show σ34 55 12 = (σ 55 12) from ((f37 12 (of_decide_eq_true rfl)).trans (congrFun (f22 55 (of_decide_eq_true rfl)) 12))))
          have z77 : (σ34 16 2).toInt = (σ 16 2).toInt := (congrArg Int32.toInt (show σ34 16 2 = (σ 16 2) from ((congrFun (f36 16 (of_decide_eq_true rfl)) 2).trans (congrFun (f22 16 (of_decide_eq_true rfl)) 2))))
          have z78 : (σ34 55 13).toInt = (σ 55 13).toInt := (congrArg Int32.toInt (show σ34 55 13 = (σ 55 13) from ((f37 13 (of_decide_eq_true rfl)).trans (congrFun (f22 55 (of_decide_eq_true rfl)) 13))))
          exact by exact ih x48 σ34 τ _ _ ls (by have h9 := tx48; omega) ⟨I49, I50, I51, I52, I53, I54, I55, I56, I57, I58, I59, I60, I61, I62, I63, I64, I65, I38, I66, I67, I68, I69, p70, p40, (by omega), (by omega), (by omega), (by omega), (show jTp (σ34 10) (σ34 63) (σ34 55 15).toInt by rw [show σ34 10 = σ 10 from ((f36 10 (of_decide_eq_true rfl)).trans (f22 10 (of_decide_eq_true rfl))), show σ34 63 = σ 63 from ((f36 63 (of_decide_eq_true rfl)).trans (f22 63 (of_decide_eq_true rfl)))]; exact hr0.le (by omega)), (show jSo (σ34 17) (σ34 62) (σ34 16 0).toInt by rw [show σ34 17 = σ 17 from ((f36 17 (of_decide_eq_true rfl)).trans (f22 17 (of_decide_eq_true rfl))), show σ34 62 = σ 62 from ((f36 62 (of_decide_eq_true rfl)).trans (f22 62 (of_decide_eq_true rfl))), show (σ34 16 0).toInt = (σ 16 0).toInt from by omega]; exact hr1)⟩ hP hS (lv_sub hl [0, 1, 2, 3] rfl)
      · obtain ⟨q81, k79, k80⟩ := h44
        refine lv_pop hx hb dL_law_802 rfl ?_
        refine lv_goto (tgt := 1357) hx hb dL_law_803 (of_decide_eq_true rfl) ?_
        obtain ⟨x82, ex82⟩ : ∃ y : Int32, y = x0 + 6 := ⟨_, rfl⟩
        exact by
         have tx82 : x82.toInt = x0.toInt + 6 := (jadd ex82 rfl jz_6 (by omega) (by omega)).trans (by omega)
         refine lv_iinc (v := x82) (lv' := [(3, .int x82), (2, .ref (ad 55)), (1, .ref (ad 0)), (0, .ref b)]) hx hb dL_law_1357 hl (k := 0) rfl (by rw [ex82]; rfl) (of_decide_eq_true rfl) rfl (fun ls hl => ?_)
         refine lv_goto (tgt := 18) hx hb dL_law_1360 (of_decide_eq_true rfl) ?_
         have I83 : jI2 σ34 := jI2_fr ((congrFun (f36 2 (of_decide_eq_true rfl)) 0).trans (congrFun (f22 2 (of_decide_eq_true rfl)) 0)) ((congrFun (f36 2 (of_decide_eq_true rfl)) 1).trans (congrFun (f22 2 (of_decide_eq_true rfl)) 1)) ((congrFun (f36 2 (of_decide_eq_true rfl)) 2).trans (congrFun (f22 2 (of_decide_eq_true rfl)) 2)) ((congrFun (f36 2 (of_decide_eq_true rfl)) 3).trans (congrFun (f22 2 (of_decide_eq_true rfl)) 3)) ((f36 6 (of_decide_eq_true rfl)).trans (f22 6 (of_decide_eq_true rfl))) hI2
         have I84 : jI9 σ34 := jI9_fr ((congrFun (f36 9 (of_decide_eq_true rfl)) 0).trans (congrFun (f22 9 (of_decide_eq_true rfl)) 0)) ((f36 10 (of_decide_eq_true rfl)).trans (f22 10 (of_decide_eq_true rfl))) ((f36 11 (of_decide_eq_true rfl)).trans (f22 11 (of_decide_eq_true rfl))) hI9
         have I85 : jI12 σ34 := jI12_fr ((congrFun (f36 12 (of_decide_eq_true rfl)) 0).trans (congrFun (f22 12 (of_decide_eq_true rfl)) 0)) ((f36 13 (of_decide_eq_true rfl)).trans (f22 13 (of_decide_eq_true rfl))) hI12
         have I86 : jI16 σ34 := jI16_fr ((congrFun (f36 16 (of_decide_eq_true rfl)) 0).trans (congrFun (f22 16 (of_decide_eq_true rfl)) 0)) ((congrFun (f36 16 (of_decide_eq_true rfl)) 1).trans (congrFun (f22 16 (of_decide_eq_true rfl)) 1)) ((congrFun (f36 16 (of_decide_eq_true rfl)) 2).trans (congrFun (f22 16 (of_decide_eq_true rfl)) 2)) ((f36 17 (of_decide_eq_true rfl)).trans (f22 17 (of_decide_eq_true rfl))) hI16
         have I87 : jI18 σ34 := jI18_fr ((congrFun (f36 18 (of_decide_eq_true rfl)) 0).trans (congrFun (f22 18 (of_decide_eq_true rfl)) 0)) ((f36 19 (of_decide_eq_true rfl)).trans (f22 19 (of_decide_eq_true rfl))) hI18
         have I88 : jI22 σ34 := jI22_fr ((congrFun (f36 22 (of_decide_eq_true rfl)) 0).trans (congrFun (f22 22 (of_decide_eq_true rfl)) 0)) ((f36 23 (of_decide_eq_true rfl)).trans (f22 23 (of_decide_eq_true rfl))) hI22
         exact by
          have I89 : jI31 σ34 := jI31_fr ((congrFun (f36 31 (of_decide_eq_true rfl)) 8).trans (congrFun (f22 31 (of_decide_eq_true rfl)) 8)) ((f36 33 (of_decide_eq_true rfl)).trans (f22 33 (of_decide_eq_true rfl))) ((f36 36 (of_decide_eq_true rfl)).trans (f22 36 (of_decide_eq_true rfl))) hI31
          have I90 : jI38 σ34 := jI38_fr ((congrFun (f36 38 (of_decide_eq_true rfl)) 0).trans (congrFun (f22 38 (of_decide_eq_true rfl)) 0)) ((congrFun (f36 38 (of_decide_eq_true rfl)) 1).trans (congrFun (f22 38 (of_decide_eq_true rfl)) 1)) ((f36 39 (of_decide_eq_true rfl)).trans (f22 39 (of_decide_eq_true rfl))) hI38
          have I91 : jI43 σ34 := jI43_fr ((congrFun (f36 43 (of_decide_eq_true rfl)) 8).trans (congrFun (f22 43 (of_decide_eq_true rfl)) 8)) hI43
          have I92 : jI47 σ34 := jI47_fr (congrFun (f36 47 (of_decide_eq_true rfl)) 0) (f36 48 (of_decide_eq_true rfl)) (f36 49 (of_decide_eq_true rfl)) I24
          have I93 : jI50 σ34 := jI50_fr ((f36 52 (of_decide_eq_true rfl)).trans (f22 52 (of_decide_eq_true rfl))) hI50
          have I94 : jI101 σ34 := jI101_fr ((f37 4 (of_decide_eq_true rfl)).trans (congrFun (f22 55 (of_decide_eq_true rfl)) 4)) ((f37 5 (of_decide_eq_true rfl)).trans (congrFun (f22 55 (of_decide_eq_true rfl)) 5)) ((f36 56 (of_decide_eq_true rfl)).trans (f22 56 (of_decide_eq_true rfl))) ((f36 57 (of_decide_eq_true rfl)).trans (f22 57 (of_decide_eq_true rfl))) ((f36 58 (of_decide_eq_true rfl)).trans (f22 58 (of_decide_eq_true rfl))) ((f36 59 (of_decide_eq_true rfl)).trans (f22 59 (of_decide_eq_true rfl))) hI101
          have I95 : jI102 σ34 := jI102_fr (f37 6 (of_decide_eq_true rfl)) (f36 60 (of_decide_eq_true rfl)) (f36 61 (of_decide_eq_true rfl)) I27
          have I96 : jI103 σ34 := jI103_fr ((f37 9 (of_decide_eq_true rfl)).trans (congrFun (f22 55 (of_decide_eq_true rfl)) 9)) hI103
          have I97 : jI104 σ34 := jI104_fr (f37 10 (of_decide_eq_true rfl)) (f37 12 (of_decide_eq_true rfl)) (f37 13 (of_decide_eq_true rfl)) (f36 62 (of_decide_eq_true rfl)) (f36 67 (of_decide_eq_true rfl)) I28
          have I98 : jI105 σ34 := jI105_fr ((f37 15 (of_decide_eq_true rfl)).trans (congrFun (f22 55 (of_decide_eq_true rfl)) 15)) ((f36 65 (of_decide_eq_true rfl)).trans (f22 65 (of_decide_eq_true rfl))) hI105
          have I99 : jI106 σ34 := jI106_fr ((f37 32 (of_decide_eq_true rfl)).trans (congrFun (f22 55 (of_decide_eq_true rfl)) 32)) ((f36 70 (of_decide_eq_true rfl)).trans (f22 70 (of_decide_eq_true rfl))) ((f36 71 (of_decide_eq_true rfl)).trans (f22 71 (of_decide_eq_true rfl))) ((f36 72 (of_decide_eq_true rfl)).trans (f22 72 (of_decide_eq_true rfl))) hI106
          have I100 : jI109 σ34 := jI109_fr ((f37 50 (of_decide_eq_true rfl)).trans (congrFun (f22 55 (of_decide_eq_true rfl)) 50)) hI109
          have I101 : jI110 σ34 := jI110_fr ((f36 86 (of_decide_eq_true rfl)).trans (f22 86 (of_decide_eq_true rfl))) ((f36 87 (of_decide_eq_true rfl)).trans (f22 87 (of_decide_eq_true rfl))) hI110
          have I102 : jI111 σ34 := jI111_fr ((f36 79 (of_decide_eq_true rfl)).trans (f22 79 (of_decide_eq_true rfl))) hI111
          have I103 : jI119 σ34 := w39
          have p104 : jKept σ34 := jKept.fr ((f36 75 (of_decide_eq_true rfl)).trans (f22 75 (of_decide_eq_true rfl))) ((f36 76 (of_decide_eq_true rfl)).trans (f22 76 (of_decide_eq_true rfl))) ((f36 77 (of_decide_eq_true rfl)).trans (f22 77 (of_decide_eq_true rfl))) hs_jKept
          have z105 : (σ34 9 0).toInt = (σ 9 0).toInt := (congrArg Int32.toInt (show σ34 9 0 = (σ 9 0) from ((congrFun (f36 9 (of_decide_eq_true rfl)) 0).trans (congrFun (f22 9 (of_decide_eq_true rfl)) 0))))
          have z106 : (σ34 55 15).toInt = (σ 55 15).toInt := (congrArg Int32.toInt (show σ34 55 15 = (σ 55 15) from ((f37 15 (of_decide_eq_true rfl)).trans (congrFun (f22 55 (of_decide_eq_true rfl)) 15))))
          have z107 : (σ34 16 0).toInt = (σ 16 0).toInt := (congrArg Int32.toInt (show σ34 16 0 = (σ 16 0) from ((congrFun (f36 16 (of_decide_eq_true rfl)) 0).trans (congrFun (f22 16 (of_decide_eq_true rfl)) 0))))
          have z108 : (σ34 55 10).toInt = (σ 55 10).toInt := (congrArg Int32.toInt (show σ34 55 10 = (σ 55 10) from ((f37 10 (of_decide_eq_true rfl)).trans (congrFun (f22 55 (of_decide_eq_true rfl)) 10))))
          have z109 : (σ34 16 1).toInt = (σ 16 1).toInt := (congrArg Int32.toInt (show σ34 16 1 = (σ 16 1) from ((congrFun (f36 16 (of_decide_eq_true rfl)) 1).trans (congrFun (f22 16 (of_decide_eq_true rfl)) 1))))
          have z110 : (σ34 55 12).toInt = (σ 55 12).toInt := (congrArg Int32.toInt (show σ34 55 12 = (σ 55 12) from ((f37 12 (of_decide_eq_true rfl)).trans (congrFun (f22 55 (of_decide_eq_true rfl)) 12))))
          have z111 : (σ34 16 2).toInt = (σ 16 2).toInt := (congrArg Int32.toInt (show σ34 16 2 = (σ 16 2) from ((congrFun (f36 16 (of_decide_eq_true rfl)) 2).trans (congrFun (f22 16 (of_decide_eq_true rfl)) 2))))
          have z112 : (σ34 55 13).toInt = (σ 55 13).toInt := (congrArg Int32.toInt (show σ34 55 13 = (σ 55 13) from ((f37 13 (of_decide_eq_true rfl)).trans (congrFun (f22 55 (of_decide_eq_true rfl)) 13))))
          exact by exact ih x82 σ34 τ _ _ ls (by have h9 := tx82; omega) ⟨I83, I84, I85, I86, I87, I88, I89, I90, I91, I92, I93, I94, I95, I96, I97, I98, I99, I38, I100, I101, I102, I103, p104, p40, (by omega), (by omega), (by omega), (by omega), (show jTp (σ34 10) (σ34 63) (σ34 55 15).toInt by rw [show σ34 10 = σ 10 from ((f36 10 (of_decide_eq_true rfl)).trans (f22 10 (of_decide_eq_true rfl))), show σ34 63 = σ 63 from ((f36 63 (of_decide_eq_true rfl)).trans (f22 63 (of_decide_eq_true rfl)))]; exact hr0.le (by omega)), (show jSo (σ34 17) (σ34 62) (σ34 16 0).toInt by rw [show σ34 17 = σ 17 from ((f36 17 (of_decide_eq_true rfl)).trans (f22 17 (of_decide_eq_true rfl))), show σ34 62 = σ 62 from ((f36 62 (of_decide_eq_true rfl)).trans (f22 62 (of_decide_eq_true rfl))), show (σ34 16 0).toInt = (σ 16 0).toInt from by omega]; exact hr1)⟩ hP hS (lv_sub hl [0, 1, 2, 3] rfl)
set_option maxHeartbeats 4000000 in
set_option maxRecDepth 100000 in
theorem law_case_20 {p : Program} {e : Env} {s : State} {m : MethodId} {below : List Frame} {meth : Method} {c : Code} (l : Launch) {b L : Nat} {xs : Nat → Int32} {D : va_G} {cI cL : ClassId} {ad zz : Nat → Nat} (C0 : lw_At p s m meth c b L xs) (hJ : jD ad) (hA : ∀ q, jA ad q → s.heap.size ≤ q) (hK : jK D cI cL s) (hZ : jZ zz (fun q : Nat => s.heap.size ≤ q) s s.heap) {x0 : Int32} (hx0 : 0 ≤ x0.toInt) (hxL : x0.toInt + 6 ≤ (L : Int)) (hL : L ≤ 384) {σ : Nat → Nat → Int32} {τ : Nat → Nat → Int64} {H : Heap} {locs : List Loc} (hS : va_S (fun q : Nat => s.heap.size ≤ q) s.heap H locs) {ls : Array Slot} (hAll : jAll σ τ) (hP : jH D cI cL ad σ τ H) (hl : lv_has ls 4 [(3, .int x0), (2, .ref (ad 55)), (1, .ref (ad 0)), (0, .ref b)]) (ih : ∀ (x1 : Int32) (σ : Nat → Nat → Int32) (τ : Nat → Nat → Int64) (H : Heap) (locs : List Loc) (ls : Array Slot), x1.toInt = x0.toInt + 6 → jAll σ τ → jH D cI cL ad σ τ H → va_S (fun q : Nat => s.heap.size ≤ q) s.heap H locs → lv_has ls 4 [(3, .int x1), (2, .ref (ad 55)), (1, .ref (ad 0)), (0, .ref b)] → W p l e room_1 s m #[Value.ref b] below meth c H locs 90 348600 (lw_Z below #[Value.ref b] s) (F0 m 18 ls [])) : W p l e room_1 s m #[Value.ref b] below meth c H locs 90 348600 (lw_Z below #[Value.ref b] s) (F0 m 806 ls []) := by
  obtain ⟨hx, hb, hr, hml, hown, hts0, hX, hbl, hlocks, hgv⟩ := C0
  have hts : ∀ w ∈ wsL_law, w.before #[Value.ref b] s = true := fun w h => hts0 w (wsL_law_in w h)
  have hbA : ¬ (fun q : Nat => s.heap.size ≤ q) b := Nat.not_le.mpr hbl
  have hown : s.vm.findClass RL = some m.cls := hown
  obtain ⟨hI2, hI9, hI12, hI16, hI18, hI22, hI31, hI38, hI43, hI47, hI50, hI101, hI102, hI103, hI104, hI105, hI106, hI107, hI109, hI110, hI111, hI119, hs_jKept, hs_jBook, ht0, ht1, ht2, ht3, hr0, hr1⟩ := hAll
  have hL9 : (L : Int) ≤ 384 := by omega
  obtain ⟨i1, w2, w3⟩ : (0 ≤ (σ 9 0).toInt ∧ (σ 9 0).toInt ≤ 80) ∧ (∀ k : Nat, k < 80 → 0 ≤ (σ 10 k).toInt ∧ (σ 10 k).toInt ≤ 255) ∧ (∀ k : Nat, k < 8 → 0 ≤ (σ 11 k).toInt ∧ (σ 11 k).toInt ≤ 3) := id hI9
  obtain ⟨i4, i5, i6, w7⟩ : (1 ≤ (σ 16 0).toInt ∧ (σ 16 0).toInt ≤ 8) ∧ (1 ≤ (σ 16 1).toInt ∧ (σ 16 1).toInt ≤ 12) ∧ (0 ≤ (σ 16 2).toInt ∧ (σ 16 2).toInt ≤ 999) ∧ (∀ k : Nat, k < 8 → 0 ≤ (σ 17 k).toInt ∧ (σ 17 k).toInt ≤ 3) := id hI16
  obtain ⟨i8, i9, i10, w11, w12⟩ : (1 ≤ (σ 55 10).toInt ∧ (σ 55 10).toInt ≤ 8) ∧ (1 ≤ (σ 55 12).toInt ∧ (σ 55 12).toInt ≤ 12) ∧ (0 ≤ (σ 55 13).toInt ∧ (σ 55 13).toInt ≤ 999) ∧ (∀ k : Nat, k < 8 → 0 ≤ (σ 62 k).toInt ∧ (σ 62 k).toInt ≤ 3) ∧ (∀ k : Nat, k < 8 → 0 ≤ (σ 67 k).toInt ∧ (σ 67 k).toInt ≤ 3) := id hI104
  obtain ⟨i13, w14⟩ : (0 ≤ (σ 55 15).toInt ∧ (σ 55 15).toInt ≤ 80) ∧ (∀ k : Nat, k < 2 → (-1) ≤ (σ 65 k).toInt ∧ (σ 65 k).toInt ≤ 80) := id hI105
  refine lv_aload_n hx hb dL_law_806 rfl (lv_at hl 2 rfl) ?_
  refine lv_aload_n hx hb dL_law_807 rfl (lv_at hl 3 rfl) ?_
  refine lv_iload_n hx hb dL_law_808 rfl (lv_at hl 0 rfl) ?_
  refine lv_iconst (v := 1) hx hb dL_law_809 (of_decide_eq_true rfl) ?_
  have g15 := jrg (rfl : x0.toInt = x0.toInt)
  refine lv_iadd hx hb dL_law_810 ?_
  refine lv_topi (fun x16 ex16 => ?_)
  exact by
   have tx16 : x16.toInt = x0.toInt + 1 := (jadd ex16 rfl jz_1 (by omega) (by omega)).trans (by omega)
   refine va_sld hx hb hX hbl hbA hS (jin tx16 (by omega) (by omega)) dL_law_811 ?_
   have g17 := jrg (rfl : (xs x16.toNatClampNeg).toInt = (xs x16.toNatClampNeg).toInt)
   refine lv_aload_n hx hb dL_law_812 rfl (lv_at hl 3 rfl) ?_
   refine lv_iload_n hx hb dL_law_813 rfl (lv_at hl 0 rfl) ?_
   refine lv_iconst (v := 2) hx hb dL_law_814 (of_decide_eq_true rfl) ?_
   refine lv_iadd hx hb dL_law_815 ?_
   refine lv_topi (fun x18 ex18 => ?_)
   have tx18 : x18.toInt = x0.toInt + 2 := (jadd ex18 rfl jz_2 (by omega) (by omega)).trans (by omega)
   exact by
    refine va_sld hx hb hX hbl hbA hS (jin tx18 (by omega) (by omega)) dL_law_816 ?_
    have g19 := jrg (rfl : (xs x18.toNatClampNeg).toInt = (xs x18.toNatClampNeg).toInt)
    refine jcallV (As := [.int (xs x16.toNatClampNeg), .int (xs x18.toNatClampNeg)]) (rest := []) ⟨hx, hb, hml, hown, hts⟩ hK hP hA hS hZ (c_X11_books l D cI cL ad zz hJ σ τ (xs x16.toNatClampNeg) ((xs x16.toNatClampNeg).toInt) rfl (xs x18.toNatClampNeg) ((xs x18.toNatClampNeg).toInt) rfl hI2 hI16 hI47 hI50) cw_RL_97 (jc_0 cI cL ad σ τ) rfl ⟨Nat.le_of_ble_eq_true rfl, Nat.le_of_ble_eq_true rfl⟩ rfl rfl rfl hl.1 rfl (Nat.le_of_ble_eq_true rfl) dL_law_817 ⟨Nat.le_of_ble_eq_true rfl, Nat.le_of_ble_eq_true rfl⟩ (fun r21 σ20 τ20 H locs h20 hP hS => ?_)
    obtain ⟨rfl, f22, f23, I24, w25, h20⟩ := h20
    refine lv_pop hx hb dL_law_820 rfl ?_
    refine lv_aload_n hx hb dL_law_821 rfl (lv_at hl 1 rfl) ?_
    refine lv_aload_n hx hb dL_law_822 rfl (lv_at hl 3 rfl) ?_
    refine lv_iload_n hx hb dL_law_823 rfl (lv_at hl 0 rfl) ?_
    refine lv_iconst (v := 1) hx hb dL_law_824 (of_decide_eq_true rfl) ?_
    refine lv_iadd hx hb dL_law_825 ?_
    refine jtopr ex16.symm ?_
    exact by
     refine va_sld hx hb hX hbl hbA hS (jin tx16 (by omega) (by omega)) dL_law_826 ?_
     refine lv_aload_n hx hb dL_law_827 rfl (lv_at hl 3 rfl) ?_
     refine lv_iload_n hx hb dL_law_828 rfl (lv_at hl 0 rfl) ?_
     refine lv_iconst (v := 2) hx hb dL_law_829 (of_decide_eq_true rfl) ?_
     refine lv_iadd hx hb dL_law_830 ?_
     refine jtopr ex18.symm ?_
     refine va_sld hx hb hX hbl hbA hS (jin tx18 (by omega) (by omega)) dL_law_831 ?_
     have I27 : jI102 σ20 := jI102_fr (congrFun (f22 55 (of_decide_eq_true rfl)) 6) (f22 60 (of_decide_eq_true rfl)) (f22 61 (of_decide_eq_true rfl)) hI102
     have I28 : jI104 σ20 := jI104_fr (congrFun (f22 55 (of_decide_eq_true rfl)) 10) (congrFun (f22 55 (of_decide_eq_true rfl)) 12) (congrFun (f22 55 (of_decide_eq_true rfl)) 13) (f22 62 (of_decide_eq_true rfl)) (f22 67 (of_decide_eq_true rfl)) hI104
     exact by
      have I29 : jI107 σ20 := jI107_fr (congrFun (f22 55 (of_decide_eq_true rfl)) 12) (congrFun (f22 55 (of_decide_eq_true rfl)) 47) (f22 80 (of_decide_eq_true rfl)) hI107
      have I30 : jI110 σ20 := jI110_fr (f22 86 (of_decide_eq_true rfl)) (f22 87 (of_decide_eq_true rfl)) hI110
      have I31 : jI119 σ20 := jI119_fr (f22 68 (of_decide_eq_true rfl)) hI119
      have p32 : jBook σ20 := jBook.fr (congrFun (f22 55 (of_decide_eq_true rfl)) 47) (congrFun (f22 55 (of_decide_eq_true rfl)) 10) (f22 81 (of_decide_eq_true rfl)) hs_jBook
      refine jcallV (As := [.int (xs x16.toNatClampNeg), .int (xs x18.toNatClampNeg)]) (rest := []) ⟨hx, hb, hml, hown, hts⟩ hK hP hA hS hZ (c_X12_books l D cI cL ad zz hJ σ20 τ (xs x16.toNatClampNeg) ((xs x16.toNatClampNeg).toInt) rfl (xs x18.toNatClampNeg) ((xs x18.toNatClampNeg).toInt) rfl I27 I28 I29 I30 I31 p32) cw_RL_100 (jc_55 cI cL ad σ20 τ) rfl ⟨Nat.le_of_ble_eq_true rfl, Nat.le_of_ble_eq_true rfl⟩ rfl rfl rfl hl.1 rfl (Nat.le_of_ble_eq_true rfl) dL_law_832 ⟨Nat.le_of_ble_eq_true rfl, Nat.le_of_ble_eq_true rfl⟩ (fun r34 σ33 τ33 H locs h33 hP hS => ?_)
      obtain ⟨rfl, f35, f36, I37, I38, p39, w40, h33⟩ := h33
      refine lv_pop hx hb dL_law_835 rfl ?_
      refine lv_goto (tgt := 1357) hx hb dL_law_836 (of_decide_eq_true rfl) ?_
      obtain ⟨x42, ex42⟩ : ∃ y : Int32, y = x0 + 6 := ⟨_, rfl⟩
      exact by
       have tx42 : x42.toInt = x0.toInt + 6 := (jadd ex42 rfl jz_6 (by omega) (by omega)).trans (by omega)
       refine lv_iinc (v := x42) (lv' := [(3, .int x42), (2, .ref (ad 55)), (1, .ref (ad 0)), (0, .ref b)]) hx hb dL_law_1357 hl (k := 0) rfl (by rw [ex42]; rfl) (of_decide_eq_true rfl) rfl (fun ls hl => ?_)
       refine lv_goto (tgt := 18) hx hb dL_law_1360 (of_decide_eq_true rfl) ?_
       have I43 : jI2 σ33 := jI2_fr ((congrFun (f35 2 (of_decide_eq_true rfl)) 0).trans (congrFun (f22 2 (of_decide_eq_true rfl)) 0)) ((congrFun (f35 2 (of_decide_eq_true rfl)) 1).trans (congrFun (f22 2 (of_decide_eq_true rfl)) 1)) ((congrFun (f35 2 (of_decide_eq_true rfl)) 2).trans (congrFun (f22 2 (of_decide_eq_true rfl)) 2)) ((congrFun (f35 2 (of_decide_eq_true rfl)) 3).trans (congrFun (f22 2 (of_decide_eq_true rfl)) 3)) ((f35 6 (of_decide_eq_true rfl)).trans (f22 6 (of_decide_eq_true rfl))) hI2
       have I44 : jI9 σ33 := jI9_fr ((congrFun (f35 9 (of_decide_eq_true rfl)) 0).trans (congrFun (f22 9 (of_decide_eq_true rfl)) 0)) ((f35 10 (of_decide_eq_true rfl)).trans (f22 10 (of_decide_eq_true rfl))) ((f35 11 (of_decide_eq_true rfl)).trans (f22 11 (of_decide_eq_true rfl))) hI9
       have I45 : jI12 σ33 := jI12_fr ((congrFun (f35 12 (of_decide_eq_true rfl)) 0).trans (congrFun (f22 12 (of_decide_eq_true rfl)) 0)) ((f35 13 (of_decide_eq_true rfl)).trans (f22 13 (of_decide_eq_true rfl))) hI12
       have I46 : jI16 σ33 := jI16_fr ((congrFun (f35 16 (of_decide_eq_true rfl)) 0).trans (congrFun (f22 16 (of_decide_eq_true rfl)) 0)) ((congrFun (f35 16 (of_decide_eq_true rfl)) 1).trans (congrFun (f22 16 (of_decide_eq_true rfl)) 1)) ((congrFun (f35 16 (of_decide_eq_true rfl)) 2).trans (congrFun (f22 16 (of_decide_eq_true rfl)) 2)) ((f35 17 (of_decide_eq_true rfl)).trans (f22 17 (of_decide_eq_true rfl))) hI16
       have I47 : jI18 σ33 := jI18_fr ((congrFun (f35 18 (of_decide_eq_true rfl)) 0).trans (congrFun (f22 18 (of_decide_eq_true rfl)) 0)) ((f35 19 (of_decide_eq_true rfl)).trans (f22 19 (of_decide_eq_true rfl))) hI18
       have I48 : jI22 σ33 := jI22_fr ((congrFun (f35 22 (of_decide_eq_true rfl)) 0).trans (congrFun (f22 22 (of_decide_eq_true rfl)) 0)) ((f35 23 (of_decide_eq_true rfl)).trans (f22 23 (of_decide_eq_true rfl))) hI22
       exact by
        have I49 : jI31 σ33 := jI31_fr ((congrFun (f35 31 (of_decide_eq_true rfl)) 8).trans (congrFun (f22 31 (of_decide_eq_true rfl)) 8)) ((f35 33 (of_decide_eq_true rfl)).trans (f22 33 (of_decide_eq_true rfl))) ((f35 36 (of_decide_eq_true rfl)).trans (f22 36 (of_decide_eq_true rfl))) hI31
        have I50 : jI38 σ33 := jI38_fr ((congrFun (f35 38 (of_decide_eq_true rfl)) 0).trans (congrFun (f22 38 (of_decide_eq_true rfl)) 0)) ((congrFun (f35 38 (of_decide_eq_true rfl)) 1).trans (congrFun (f22 38 (of_decide_eq_true rfl)) 1)) ((f35 39 (of_decide_eq_true rfl)).trans (f22 39 (of_decide_eq_true rfl))) hI38
        have I51 : jI43 σ33 := jI43_fr ((congrFun (f35 43 (of_decide_eq_true rfl)) 8).trans (congrFun (f22 43 (of_decide_eq_true rfl)) 8)) hI43
        have I52 : jI47 σ33 := jI47_fr (congrFun (f35 47 (of_decide_eq_true rfl)) 0) (f35 48 (of_decide_eq_true rfl)) (f35 49 (of_decide_eq_true rfl)) I24
        have I53 : jI50 σ33 := jI50_fr ((f35 52 (of_decide_eq_true rfl)).trans (f22 52 (of_decide_eq_true rfl))) hI50
        have I54 : jI101 σ33 := jI101_fr ((f36 4 (of_decide_eq_true rfl)).trans (congrFun (f22 55 (of_decide_eq_true rfl)) 4)) ((f36 5 (of_decide_eq_true rfl)).trans (congrFun (f22 55 (of_decide_eq_true rfl)) 5)) ((f35 56 (of_decide_eq_true rfl)).trans (f22 56 (of_decide_eq_true rfl))) ((f35 57 (of_decide_eq_true rfl)).trans (f22 57 (of_decide_eq_true rfl))) ((f35 58 (of_decide_eq_true rfl)).trans (f22 58 (of_decide_eq_true rfl))) ((f35 59 (of_decide_eq_true rfl)).trans (f22 59 (of_decide_eq_true rfl))) hI101
        have I55 : jI102 σ33 := jI102_fr (f36 6 (of_decide_eq_true rfl)) (f35 60 (of_decide_eq_true rfl)) (f35 61 (of_decide_eq_true rfl)) I27
        have I56 : jI103 σ33 := jI103_fr ((f36 9 (of_decide_eq_true rfl)).trans (congrFun (f22 55 (of_decide_eq_true rfl)) 9)) hI103
        have I57 : jI104 σ33 := jI104_fr (f36 10 (of_decide_eq_true rfl)) (f36 12 (of_decide_eq_true rfl)) (f36 13 (of_decide_eq_true rfl)) (f35 62 (of_decide_eq_true rfl)) (f35 67 (of_decide_eq_true rfl)) I28
        have I58 : jI105 σ33 := jI105_fr ((f36 15 (of_decide_eq_true rfl)).trans (congrFun (f22 55 (of_decide_eq_true rfl)) 15)) ((f35 65 (of_decide_eq_true rfl)).trans (f22 65 (of_decide_eq_true rfl))) hI105
        have I59 : jI106 σ33 := jI106_fr ((f36 32 (of_decide_eq_true rfl)).trans (congrFun (f22 55 (of_decide_eq_true rfl)) 32)) ((f35 70 (of_decide_eq_true rfl)).trans (f22 70 (of_decide_eq_true rfl))) ((f35 71 (of_decide_eq_true rfl)).trans (f22 71 (of_decide_eq_true rfl))) ((f35 72 (of_decide_eq_true rfl)).trans (f22 72 (of_decide_eq_true rfl))) hI106
        have I60 : jI109 σ33 := jI109_fr ((f36 50 (of_decide_eq_true rfl)).trans (congrFun (f22 55 (of_decide_eq_true rfl)) 50)) hI109
        have I61 : jI110 σ33 := jI110_fr (f35 86 (of_decide_eq_true rfl)) (f35 87 (of_decide_eq_true rfl)) I30
        have I62 : jI111 σ33 := jI111_fr ((f35 79 (of_decide_eq_true rfl)).trans (f22 79 (of_decide_eq_true rfl))) hI111
        have p63 : jKept σ33 := jKept.fr ((f35 75 (of_decide_eq_true rfl)).trans (f22 75 (of_decide_eq_true rfl))) ((f35 76 (of_decide_eq_true rfl)).trans (f22 76 (of_decide_eq_true rfl))) ((f35 77 (of_decide_eq_true rfl)).trans (f22 77 (of_decide_eq_true rfl))) hs_jKept
        have z64 : (σ33 9 0).toInt = (σ 9 0).toInt := (congrArg Int32.toInt (show σ33 9 0 = (σ 9 0) from ((congrFun (f35 9 (of_decide_eq_true rfl)) 0).trans (congrFun (f22 9 (of_decide_eq_true rfl)) 0))))
        have z65 : (σ33 55 15).toInt = (σ 55 15).toInt := (congrArg Int32.toInt (show σ33 55 15 = (σ 55 15) from ((f36 15 (of_decide_eq_true rfl)).trans (congrFun (f22 55 (of_decide_eq_true rfl)) 15))))
        have z66 : (σ33 16 0).toInt = (σ 16 0).toInt := (congrArg Int32.toInt (show σ33 16 0 = (σ 16 0) from ((congrFun (f35 16 (of_decide_eq_true rfl)) 0).trans (congrFun (f22 16 (of_decide_eq_true rfl)) 0))))
        have z67 : (σ33 55 10).toInt = (σ 55 10).toInt := (congrArg Int32.toInt (show σ33 55 10 = (σ 55 10) from ((f36 10 (of_decide_eq_true rfl)).trans (congrFun (f22 55 (of_decide_eq_true rfl)) 10))))
        have z68 : (σ33 16 1).toInt = (σ 16 1).toInt := (congrArg Int32.toInt (show σ33 16 1 = (σ 16 1) from ((congrFun (f35 16 (of_decide_eq_true rfl)) 1).trans (congrFun (f22 16 (of_decide_eq_true rfl)) 1))))
        have z69 : (σ33 55 12).toInt = (σ 55 12).toInt := (congrArg Int32.toInt (show σ33 55 12 = (σ 55 12) from ((f36 12 (of_decide_eq_true rfl)).trans (congrFun (f22 55 (of_decide_eq_true rfl)) 12))))
        have z70 : (σ33 16 2).toInt = (σ 16 2).toInt := (congrArg Int32.toInt (show σ33 16 2 = (σ 16 2) from ((congrFun (f35 16 (of_decide_eq_true rfl)) 2).trans (congrFun (f22 16 (of_decide_eq_true rfl)) 2))))
        have z71 : (σ33 55 13).toInt = (σ 55 13).toInt := (congrArg Int32.toInt (show σ33 55 13 = (σ 55 13) from ((f36 13 (of_decide_eq_true rfl)).trans (congrFun (f22 55 (of_decide_eq_true rfl)) 13))))
        exact by exact ih x42 σ33 τ _ _ ls (by have h9 := tx42; omega) ⟨I43, I44, I45, I46, I47, I48, I49, I50, I51, I52, I53, I54, I55, I56, I57, I58, I59, I37, I60, I61, I62, I38, p63, p39, (by omega), (by omega), (by omega), (by omega), (show jTp (σ33 10) (σ33 63) (σ33 55 15).toInt by rw [show σ33 10 = σ 10 from ((f35 10 (of_decide_eq_true rfl)).trans (f22 10 (of_decide_eq_true rfl))), show σ33 63 = σ 63 from ((f35 63 (of_decide_eq_true rfl)).trans (f22 63 (of_decide_eq_true rfl)))]; exact hr0.le (by omega)), (show jSo (σ33 17) (σ33 62) (σ33 16 0).toInt by rw [show σ33 17 = σ 17 from ((f35 17 (of_decide_eq_true rfl)).trans (f22 17 (of_decide_eq_true rfl))), show σ33 62 = σ 62 from ((f35 62 (of_decide_eq_true rfl)).trans (f22 62 (of_decide_eq_true rfl))), show (σ33 16 0).toInt = (σ 16 0).toInt from by omega]; exact hr1)⟩ hP hS (lv_sub hl [0, 1, 2, 3] rfl)
set_option maxHeartbeats 4000000 in
set_option maxRecDepth 100000 in
theorem law_case_21 {p : Program} {e : Env} {s : State} {m : MethodId} {below : List Frame} {meth : Method} {c : Code} (l : Launch) {b L : Nat} {xs : Nat → Int32} {D : va_G} {cI cL : ClassId} {ad zz : Nat → Nat} (C0 : lw_At p s m meth c b L xs) (hJ : jD ad) (hA : ∀ q, jA ad q → s.heap.size ≤ q) (hK : jK D cI cL s) (hZ : jZ zz (fun q : Nat => s.heap.size ≤ q) s s.heap) {x0 : Int32} (hx0 : 0 ≤ x0.toInt) (hxL : x0.toInt + 6 ≤ (L : Int)) (hL : L ≤ 384) {σ : Nat → Nat → Int32} {τ : Nat → Nat → Int64} {H : Heap} {locs : List Loc} (hS : va_S (fun q : Nat => s.heap.size ≤ q) s.heap H locs) {ls : Array Slot} (hAll : jAll σ τ) (hP : jH D cI cL ad σ τ H) (hl : lv_has ls 4 [(3, .int x0), (2, .ref (ad 55)), (1, .ref (ad 0)), (0, .ref b)]) (ih : ∀ (x1 : Int32) (σ : Nat → Nat → Int32) (τ : Nat → Nat → Int64) (H : Heap) (locs : List Loc) (ls : Array Slot), x1.toInt = x0.toInt + 6 → jAll σ τ → jH D cI cL ad σ τ H → va_S (fun q : Nat => s.heap.size ≤ q) s.heap H locs → lv_has ls 4 [(3, .int x1), (2, .ref (ad 55)), (1, .ref (ad 0)), (0, .ref b)] → W p l e room_1 s m #[Value.ref b] below meth c H locs 90 348600 (lw_Z below #[Value.ref b] s) (F0 m 18 ls [])) : W p l e room_1 s m #[Value.ref b] below meth c H locs 90 348600 (lw_Z below #[Value.ref b] s) (F0 m 839 ls []) := by
  obtain ⟨hx, hb, hr, hml, hown, hts0, hX, hbl, hlocks, hgv⟩ := C0
  have hts : ∀ w ∈ wsL_law, w.before #[Value.ref b] s = true := fun w h => hts0 w (wsL_law_in w h)
  have hbA : ¬ (fun q : Nat => s.heap.size ≤ q) b := Nat.not_le.mpr hbl
  have hown : s.vm.findClass RL = some m.cls := hown
  obtain ⟨hI2, hI9, hI12, hI16, hI18, hI22, hI31, hI38, hI43, hI47, hI50, hI101, hI102, hI103, hI104, hI105, hI106, hI107, hI109, hI110, hI111, hI119, hs_jKept, hs_jBook, ht0, ht1, ht2, ht3, hr0, hr1⟩ := hAll
  have hL9 : (L : Int) ≤ 384 := by omega
  obtain ⟨i1, w2, w3⟩ : (0 ≤ (σ 9 0).toInt ∧ (σ 9 0).toInt ≤ 80) ∧ (∀ k : Nat, k < 80 → 0 ≤ (σ 10 k).toInt ∧ (σ 10 k).toInt ≤ 255) ∧ (∀ k : Nat, k < 8 → 0 ≤ (σ 11 k).toInt ∧ (σ 11 k).toInt ≤ 3) := id hI9
  obtain ⟨i4, i5, i6, w7⟩ : (1 ≤ (σ 16 0).toInt ∧ (σ 16 0).toInt ≤ 8) ∧ (1 ≤ (σ 16 1).toInt ∧ (σ 16 1).toInt ≤ 12) ∧ (0 ≤ (σ 16 2).toInt ∧ (σ 16 2).toInt ≤ 999) ∧ (∀ k : Nat, k < 8 → 0 ≤ (σ 17 k).toInt ∧ (σ 17 k).toInt ≤ 3) := id hI16
  obtain ⟨i8, i9, i10, w11, w12⟩ : (1 ≤ (σ 55 10).toInt ∧ (σ 55 10).toInt ≤ 8) ∧ (1 ≤ (σ 55 12).toInt ∧ (σ 55 12).toInt ≤ 12) ∧ (0 ≤ (σ 55 13).toInt ∧ (σ 55 13).toInt ≤ 999) ∧ (∀ k : Nat, k < 8 → 0 ≤ (σ 62 k).toInt ∧ (σ 62 k).toInt ≤ 3) ∧ (∀ k : Nat, k < 8 → 0 ≤ (σ 67 k).toInt ∧ (σ 67 k).toInt ≤ 3) := id hI104
  obtain ⟨i13, w14⟩ : (0 ≤ (σ 55 15).toInt ∧ (σ 55 15).toInt ≤ 80) ∧ (∀ k : Nat, k < 2 → (-1) ≤ (σ 65 k).toInt ∧ (σ 65 k).toInt ≤ 80) := id hI105
  refine lv_aload_n hx hb dL_law_839 rfl (lv_at hl 2 rfl) ?_
  refine jcallV (As := []) (rest := []) ⟨hx, hb, hml, hown, hts⟩ hK hP hA hS hZ (c_X11_close l D cI cL ad zz hJ σ τ hI47) cw_RL_101 (jc_0 cI cL ad σ τ) rfl ⟨Nat.le_of_ble_eq_true rfl, Nat.le_of_ble_eq_true rfl⟩ rfl rfl rfl hl.1 rfl (Nat.le_of_ble_eq_true rfl) dL_law_840 ⟨Nat.le_of_ble_eq_true rfl, Nat.le_of_ble_eq_true rfl⟩ (fun r16 σ15 τ15 H locs h15 hP hS => ?_)
  obtain ⟨rfl, f17, f18, I19, h15⟩ := h15
  have h21 := h15
  obtain ⟨q24, k22, k23⟩ := h21
  refine lv_pop hx hb dL_law_843 rfl ?_
  refine lv_aload_n hx hb dL_law_844 rfl (lv_at hl 1 rfl) ?_
  have I25 : jI104 σ15 := jI104_fr (congrFun (f17 55 (of_decide_eq_true rfl)) 10) (congrFun (f17 55 (of_decide_eq_true rfl)) 12) (congrFun (f17 55 (of_decide_eq_true rfl)) 13) (f17 62 (of_decide_eq_true rfl)) (f17 67 (of_decide_eq_true rfl)) hI104
  have I26 : jI107 σ15 := jI107_fr (congrFun (f17 55 (of_decide_eq_true rfl)) 12) (congrFun (f17 55 (of_decide_eq_true rfl)) 47) (f17 80 (of_decide_eq_true rfl)) hI107
  have p27 : jBook σ15 := jBook.fr (congrFun (f17 55 (of_decide_eq_true rfl)) 47) (congrFun (f17 55 (of_decide_eq_true rfl)) 10) (f17 81 (of_decide_eq_true rfl)) hs_jBook
  have z28 : (σ15 55 47).toInt = (σ 55 47).toInt := (congrArg Int32.toInt (show σ15 55 47 = (σ 55 47) from (congrFun (f17 55 (of_decide_eq_true rfl)) 47)))
  refine jcallV (As := []) (rest := []) ⟨hx, hb, hml, hown, hts⟩ hK hP hA hS hZ (c_X12_close l D cI cL ad zz hJ σ15 τ I25 I26 p27) cw_RL_104 (jc_55 cI cL ad σ15 τ) rfl ⟨Nat.le_of_ble_eq_true rfl, Nat.le_of_ble_eq_true rfl⟩ rfl rfl rfl hl.1 rfl (Nat.le_of_ble_eq_true rfl) dL_law_845 ⟨Nat.le_of_ble_eq_true rfl, Nat.le_of_ble_eq_true rfl⟩ (fun r30 σ29 τ29 H locs h29 hP hS => ?_)
  obtain ⟨rfl, f31, f32, I33, p34, h29⟩ := h29
  have h36 := h29
  obtain ⟨q39, k37, k38⟩ := h36
  refine lv_pop hx hb dL_law_848 rfl ?_
  refine lv_goto (tgt := 1357) hx hb dL_law_849 (of_decide_eq_true rfl) ?_
  obtain ⟨x40, ex40⟩ : ∃ y : Int32, y = x0 + 6 := ⟨_, rfl⟩
  exact by
   have tx40 : x40.toInt = x0.toInt + 6 := (jadd ex40 rfl jz_6 (by omega) (by omega)).trans (by omega)
   refine lv_iinc (v := x40) (lv' := [(3, .int x40), (2, .ref (ad 55)), (1, .ref (ad 0)), (0, .ref b)]) hx hb dL_law_1357 hl (k := 0) rfl (by rw [ex40]; rfl) (of_decide_eq_true rfl) rfl (fun ls hl => ?_)
   refine lv_goto (tgt := 18) hx hb dL_law_1360 (of_decide_eq_true rfl) ?_
   have I41 : jI2 σ29 := jI2_fr ((congrFun (f31 2 (of_decide_eq_true rfl)) 0).trans (congrFun (f17 2 (of_decide_eq_true rfl)) 0)) ((congrFun (f31 2 (of_decide_eq_true rfl)) 1).trans (congrFun (f17 2 (of_decide_eq_true rfl)) 1)) ((congrFun (f31 2 (of_decide_eq_true rfl)) 2).trans (congrFun (f17 2 (of_decide_eq_true rfl)) 2)) ((congrFun (f31 2 (of_decide_eq_true rfl)) 3).trans (congrFun (f17 2 (of_decide_eq_true rfl)) 3)) ((f31 6 (of_decide_eq_true rfl)).trans (f17 6 (of_decide_eq_true rfl))) hI2
   have I42 : jI9 σ29 := jI9_fr ((congrFun (f31 9 (of_decide_eq_true rfl)) 0).trans (congrFun (f17 9 (of_decide_eq_true rfl)) 0)) ((f31 10 (of_decide_eq_true rfl)).trans (f17 10 (of_decide_eq_true rfl))) ((f31 11 (of_decide_eq_true rfl)).trans (f17 11 (of_decide_eq_true rfl))) hI9
   have I43 : jI12 σ29 := jI12_fr ((congrFun (f31 12 (of_decide_eq_true rfl)) 0).trans (congrFun (f17 12 (of_decide_eq_true rfl)) 0)) ((f31 13 (of_decide_eq_true rfl)).trans (f17 13 (of_decide_eq_true rfl))) hI12
   have I44 : jI16 σ29 := jI16_fr ((congrFun (f31 16 (of_decide_eq_true rfl)) 0).trans (congrFun (f17 16 (of_decide_eq_true rfl)) 0)) ((congrFun (f31 16 (of_decide_eq_true rfl)) 1).trans (congrFun (f17 16 (of_decide_eq_true rfl)) 1)) ((congrFun (f31 16 (of_decide_eq_true rfl)) 2).trans (congrFun (f17 16 (of_decide_eq_true rfl)) 2)) ((f31 17 (of_decide_eq_true rfl)).trans (f17 17 (of_decide_eq_true rfl))) hI16
   have I45 : jI18 σ29 := jI18_fr ((congrFun (f31 18 (of_decide_eq_true rfl)) 0).trans (congrFun (f17 18 (of_decide_eq_true rfl)) 0)) ((f31 19 (of_decide_eq_true rfl)).trans (f17 19 (of_decide_eq_true rfl))) hI18
   have I46 : jI22 σ29 := jI22_fr ((congrFun (f31 22 (of_decide_eq_true rfl)) 0).trans (congrFun (f17 22 (of_decide_eq_true rfl)) 0)) ((f31 23 (of_decide_eq_true rfl)).trans (f17 23 (of_decide_eq_true rfl))) hI22
   exact by
    have I47 : jI31 σ29 := jI31_fr ((congrFun (f31 31 (of_decide_eq_true rfl)) 8).trans (congrFun (f17 31 (of_decide_eq_true rfl)) 8)) ((f31 33 (of_decide_eq_true rfl)).trans (f17 33 (of_decide_eq_true rfl))) ((f31 36 (of_decide_eq_true rfl)).trans (f17 36 (of_decide_eq_true rfl))) hI31
    have I48 : jI38 σ29 := jI38_fr ((congrFun (f31 38 (of_decide_eq_true rfl)) 0).trans (congrFun (f17 38 (of_decide_eq_true rfl)) 0)) ((congrFun (f31 38 (of_decide_eq_true rfl)) 1).trans (congrFun (f17 38 (of_decide_eq_true rfl)) 1)) ((f31 39 (of_decide_eq_true rfl)).trans (f17 39 (of_decide_eq_true rfl))) hI38
    have I49 : jI43 σ29 := jI43_fr ((congrFun (f31 43 (of_decide_eq_true rfl)) 8).trans (congrFun (f17 43 (of_decide_eq_true rfl)) 8)) hI43
    have I50 : jI47 σ29 := jI47_fr (congrFun (f31 47 (of_decide_eq_true rfl)) 0) (f31 48 (of_decide_eq_true rfl)) (f31 49 (of_decide_eq_true rfl)) I19
    have I51 : jI50 σ29 := jI50_fr ((f31 52 (of_decide_eq_true rfl)).trans (f17 52 (of_decide_eq_true rfl))) hI50
    have I52 : jI101 σ29 := jI101_fr ((f32 4 (of_decide_eq_true rfl)).trans (congrFun (f17 55 (of_decide_eq_true rfl)) 4)) ((f32 5 (of_decide_eq_true rfl)).trans (congrFun (f17 55 (of_decide_eq_true rfl)) 5)) ((f31 56 (of_decide_eq_true rfl)).trans (f17 56 (of_decide_eq_true rfl))) ((f31 57 (of_decide_eq_true rfl)).trans (f17 57 (of_decide_eq_true rfl))) ((f31 58 (of_decide_eq_true rfl)).trans (f17 58 (of_decide_eq_true rfl))) ((f31 59 (of_decide_eq_true rfl)).trans (f17 59 (of_decide_eq_true rfl))) hI101
    have I53 : jI102 σ29 := jI102_fr ((f32 6 (of_decide_eq_true rfl)).trans (congrFun (f17 55 (of_decide_eq_true rfl)) 6)) ((f31 60 (of_decide_eq_true rfl)).trans (f17 60 (of_decide_eq_true rfl))) ((f31 61 (of_decide_eq_true rfl)).trans (f17 61 (of_decide_eq_true rfl))) hI102
    have I54 : jI103 σ29 := jI103_fr ((f32 9 (of_decide_eq_true rfl)).trans (congrFun (f17 55 (of_decide_eq_true rfl)) 9)) hI103
    have I55 : jI104 σ29 := jI104_fr (f32 10 (of_decide_eq_true rfl)) (f32 12 (of_decide_eq_true rfl)) (f32 13 (of_decide_eq_true rfl)) (f31 62 (of_decide_eq_true rfl)) (f31 67 (of_decide_eq_true rfl)) I25
    have I56 : jI105 σ29 := jI105_fr ((f32 15 (of_decide_eq_true rfl)).trans (congrFun (f17 55 (of_decide_eq_true rfl)) 15)) ((f31 65 (of_decide_eq_true rfl)).trans (f17 65 (of_decide_eq_true rfl))) hI105
    have I57 : jI106 σ29 := jI106_fr ((f32 32 (of_decide_eq_true rfl)).trans (congrFun (f17 55 (of_decide_eq_true rfl)) 32)) ((f31 70 (of_decide_eq_true rfl)).trans (f17 70 (of_decide_eq_true rfl))) ((f31 71 (of_decide_eq_true rfl)).trans (f17 71 (of_decide_eq_true rfl))) ((f31 72 (of_decide_eq_true rfl)).trans (f17 72 (of_decide_eq_true rfl))) hI106
    have I58 : jI109 σ29 := jI109_fr ((f32 50 (of_decide_eq_true rfl)).trans (congrFun (f17 55 (of_decide_eq_true rfl)) 50)) hI109
    have I59 : jI110 σ29 := jI110_fr ((f31 86 (of_decide_eq_true rfl)).trans (f17 86 (of_decide_eq_true rfl))) ((f31 87 (of_decide_eq_true rfl)).trans (f17 87 (of_decide_eq_true rfl))) hI110
    have I60 : jI111 σ29 := jI111_fr ((f31 79 (of_decide_eq_true rfl)).trans (f17 79 (of_decide_eq_true rfl))) hI111
    have I61 : jI119 σ29 := jI119_fr ((f31 68 (of_decide_eq_true rfl)).trans (f17 68 (of_decide_eq_true rfl))) hI119
    have p62 : jKept σ29 := jKept.fr ((f31 75 (of_decide_eq_true rfl)).trans (f17 75 (of_decide_eq_true rfl))) ((f31 76 (of_decide_eq_true rfl)).trans (f17 76 (of_decide_eq_true rfl))) ((f31 77 (of_decide_eq_true rfl)).trans (f17 77 (of_decide_eq_true rfl))) hs_jKept
    have z63 : (σ29 9 0).toInt = (σ 9 0).toInt := (congrArg Int32.toInt (show σ29 9 0 = (σ 9 0) from ((congrFun (f31 9 (of_decide_eq_true rfl)) 0).trans (congrFun (f17 9 (of_decide_eq_true rfl)) 0))))
    have z64 : (σ29 55 15).toInt = (σ 55 15).toInt := (congrArg Int32.toInt (show σ29 55 15 = (σ 55 15) from ((f32 15 (of_decide_eq_true rfl)).trans (congrFun (f17 55 (of_decide_eq_true rfl)) 15))))
    have z65 : (σ29 16 0).toInt = (σ 16 0).toInt := (congrArg Int32.toInt (show σ29 16 0 = (σ 16 0) from ((congrFun (f31 16 (of_decide_eq_true rfl)) 0).trans (congrFun (f17 16 (of_decide_eq_true rfl)) 0))))
    have z66 : (σ29 55 10).toInt = (σ 55 10).toInt := (congrArg Int32.toInt (show σ29 55 10 = (σ 55 10) from ((f32 10 (of_decide_eq_true rfl)).trans (congrFun (f17 55 (of_decide_eq_true rfl)) 10))))
    have z67 : (σ29 16 1).toInt = (σ 16 1).toInt := (congrArg Int32.toInt (show σ29 16 1 = (σ 16 1) from ((congrFun (f31 16 (of_decide_eq_true rfl)) 1).trans (congrFun (f17 16 (of_decide_eq_true rfl)) 1))))
    have z68 : (σ29 55 12).toInt = (σ 55 12).toInt := (congrArg Int32.toInt (show σ29 55 12 = (σ 55 12) from ((f32 12 (of_decide_eq_true rfl)).trans (congrFun (f17 55 (of_decide_eq_true rfl)) 12))))
    have z69 : (σ29 16 2).toInt = (σ 16 2).toInt := (congrArg Int32.toInt (show σ29 16 2 = (σ 16 2) from ((congrFun (f31 16 (of_decide_eq_true rfl)) 2).trans (congrFun (f17 16 (of_decide_eq_true rfl)) 2))))
    have z70 : (σ29 55 13).toInt = (σ 55 13).toInt := (congrArg Int32.toInt (show σ29 55 13 = (σ 55 13) from ((f32 13 (of_decide_eq_true rfl)).trans (congrFun (f17 55 (of_decide_eq_true rfl)) 13))))
    exact by exact ih x40 σ29 τ _ _ ls (by have h9 := tx40; omega) ⟨I41, I42, I43, I44, I45, I46, I47, I48, I49, I50, I51, I52, I53, I54, I55, I56, I57, I33, I58, I59, I60, I61, p62, p34, (by omega), (by omega), (by omega), (by omega), (show jTp (σ29 10) (σ29 63) (σ29 55 15).toInt by rw [show σ29 10 = σ 10 from ((f31 10 (of_decide_eq_true rfl)).trans (f17 10 (of_decide_eq_true rfl))), show σ29 63 = σ 63 from ((f31 63 (of_decide_eq_true rfl)).trans (f17 63 (of_decide_eq_true rfl)))]; exact hr0.le (by omega)), (show jSo (σ29 17) (σ29 62) (σ29 16 0).toInt by rw [show σ29 17 = σ 17 from ((f31 17 (of_decide_eq_true rfl)).trans (f17 17 (of_decide_eq_true rfl))), show σ29 62 = σ 62 from ((f31 62 (of_decide_eq_true rfl)).trans (f17 62 (of_decide_eq_true rfl))), show (σ29 16 0).toInt = (σ 16 0).toInt from by omega]; exact hr1)⟩ hP hS (lv_sub hl [0, 1, 2, 3] rfl)
set_option maxHeartbeats 4000000 in
set_option maxRecDepth 100000 in
theorem law_case_22 {p : Program} {e : Env} {s : State} {m : MethodId} {below : List Frame} {meth : Method} {c : Code} (l : Launch) {b L : Nat} {xs : Nat → Int32} {D : va_G} {cI cL : ClassId} {ad zz : Nat → Nat} (C0 : lw_At p s m meth c b L xs) (hJ : jD ad) (hA : ∀ q, jA ad q → s.heap.size ≤ q) (hK : jK D cI cL s) (hZ : jZ zz (fun q : Nat => s.heap.size ≤ q) s s.heap) {x0 : Int32} (hx0 : 0 ≤ x0.toInt) (hxL : x0.toInt + 6 ≤ (L : Int)) (hL : L ≤ 384) {σ : Nat → Nat → Int32} {τ : Nat → Nat → Int64} {H : Heap} {locs : List Loc} (hS : va_S (fun q : Nat => s.heap.size ≤ q) s.heap H locs) {ls : Array Slot} (hAll : jAll σ τ) (hP : jH D cI cL ad σ τ H) (hl : lv_has ls 4 [(3, .int x0), (2, .ref (ad 55)), (1, .ref (ad 0)), (0, .ref b)]) (ih : ∀ (x1 : Int32) (σ : Nat → Nat → Int32) (τ : Nat → Nat → Int64) (H : Heap) (locs : List Loc) (ls : Array Slot), x1.toInt = x0.toInt + 6 → jAll σ τ → jH D cI cL ad σ τ H → va_S (fun q : Nat => s.heap.size ≤ q) s.heap H locs → lv_has ls 4 [(3, .int x1), (2, .ref (ad 55)), (1, .ref (ad 0)), (0, .ref b)] → W p l e room_1 s m #[Value.ref b] below meth c H locs 90 348600 (lw_Z below #[Value.ref b] s) (F0 m 18 ls [])) : W p l e room_1 s m #[Value.ref b] below meth c H locs 90 348600 (lw_Z below #[Value.ref b] s) (F0 m 852 ls []) := by
  obtain ⟨hx, hb, hr, hml, hown, hts0, hX, hbl, hlocks, hgv⟩ := C0
  have hts : ∀ w ∈ wsL_law, w.before #[Value.ref b] s = true := fun w h => hts0 w (wsL_law_in w h)
  have hbA : ¬ (fun q : Nat => s.heap.size ≤ q) b := Nat.not_le.mpr hbl
  have hown : s.vm.findClass RL = some m.cls := hown
  obtain ⟨hI2, hI9, hI12, hI16, hI18, hI22, hI31, hI38, hI43, hI47, hI50, hI101, hI102, hI103, hI104, hI105, hI106, hI107, hI109, hI110, hI111, hI119, hs_jKept, hs_jBook, ht0, ht1, ht2, ht3, hr0, hr1⟩ := hAll
  have hL9 : (L : Int) ≤ 384 := by omega
  obtain ⟨i1, w2, w3⟩ : (0 ≤ (σ 9 0).toInt ∧ (σ 9 0).toInt ≤ 80) ∧ (∀ k : Nat, k < 80 → 0 ≤ (σ 10 k).toInt ∧ (σ 10 k).toInt ≤ 255) ∧ (∀ k : Nat, k < 8 → 0 ≤ (σ 11 k).toInt ∧ (σ 11 k).toInt ≤ 3) := id hI9
  obtain ⟨i4, i5, i6, w7⟩ : (1 ≤ (σ 16 0).toInt ∧ (σ 16 0).toInt ≤ 8) ∧ (1 ≤ (σ 16 1).toInt ∧ (σ 16 1).toInt ≤ 12) ∧ (0 ≤ (σ 16 2).toInt ∧ (σ 16 2).toInt ≤ 999) ∧ (∀ k : Nat, k < 8 → 0 ≤ (σ 17 k).toInt ∧ (σ 17 k).toInt ≤ 3) := id hI16
  obtain ⟨i8, i9, i10, w11, w12⟩ : (1 ≤ (σ 55 10).toInt ∧ (σ 55 10).toInt ≤ 8) ∧ (1 ≤ (σ 55 12).toInt ∧ (σ 55 12).toInt ≤ 12) ∧ (0 ≤ (σ 55 13).toInt ∧ (σ 55 13).toInt ≤ 999) ∧ (∀ k : Nat, k < 8 → 0 ≤ (σ 62 k).toInt ∧ (σ 62 k).toInt ≤ 3) ∧ (∀ k : Nat, k < 8 → 0 ≤ (σ 67 k).toInt ∧ (σ 67 k).toInt ≤ 3) := id hI104
  obtain ⟨i13, w14⟩ : (0 ≤ (σ 55 15).toInt ∧ (σ 55 15).toInt ≤ 80) ∧ (∀ k : Nat, k < 2 → (-1) ≤ (σ 65 k).toInt ∧ (σ 65 k).toInt ≤ 80) := id hI105
  refine lv_aload_n hx hb dL_law_852 rfl (lv_at hl 2 rfl) ?_
  refine lv_aload_n hx hb dL_law_853 rfl (lv_at hl 3 rfl) ?_
  refine lv_iload_n hx hb dL_law_854 rfl (lv_at hl 0 rfl) ?_
  refine lv_iconst (v := 1) hx hb dL_law_855 (of_decide_eq_true rfl) ?_
  have g15 := jrg (rfl : x0.toInt = x0.toInt)
  refine lv_iadd hx hb dL_law_856 ?_
  refine lv_topi (fun x16 ex16 => ?_)
  exact by
   have tx16 : x16.toInt = x0.toInt + 1 := (jadd ex16 rfl jz_1 (by omega) (by omega)).trans (by omega)
   refine va_sld hx hb hX hbl hbA hS (jin tx16 (by omega) (by omega)) dL_law_857 ?_
   have g17 := jrg (rfl : (xs x16.toNatClampNeg).toInt = (xs x16.toNatClampNeg).toInt)
   refine jcallV (As := [.int (xs x16.toNatClampNeg)]) (rest := []) ⟨hx, hb, hml, hown, hts⟩ hK hP hA hS hZ (c_X11_cost l D cI cL ad zz hJ σ τ (xs x16.toNatClampNeg) ((xs x16.toNatClampNeg).toInt) rfl hI2 hI16 hI22 hI31 hI47) cw_RL_105 (jc_0 cI cL ad σ τ) rfl ⟨Nat.le_of_ble_eq_true rfl, Nat.le_of_ble_eq_true rfl⟩ rfl rfl rfl hl.1 rfl (Nat.le_of_ble_eq_true rfl) dL_law_858 ⟨Nat.le_of_ble_eq_true rfl, Nat.le_of_ble_eq_true rfl⟩ (fun r19 σ18 τ18 H locs h18 hP hS => ?_)
   obtain ⟨rfl, f20, f21, I22, h18⟩ := h18
   refine lv_pop hx hb dL_law_861 rfl ?_
   refine lv_aload_n hx hb dL_law_862 rfl (lv_at hl 1 rfl) ?_
   refine lv_aload_n hx hb dL_law_863 rfl (lv_at hl 3 rfl) ?_
   refine lv_iload_n hx hb dL_law_864 rfl (lv_at hl 0 rfl) ?_
   exact by
    refine lv_iconst (v := 1) hx hb dL_law_865 (of_decide_eq_true rfl) ?_
    refine lv_iadd hx hb dL_law_866 ?_
    refine jtopr ex16.symm ?_
    refine va_sld hx hb hX hbl hbA hS (jin tx16 (by omega) (by omega)) dL_law_867 ?_
    have I24 : jI101 σ18 := jI101_fr (congrFun (f20 55 (of_decide_eq_true rfl)) 4) (congrFun (f20 55 (of_decide_eq_true rfl)) 5) (f20 56 (of_decide_eq_true rfl)) (f20 57 (of_decide_eq_true rfl)) (f20 58 (of_decide_eq_true rfl)) (f20 59 (of_decide_eq_true rfl)) hI101
    have I25 : jI102 σ18 := jI102_fr (congrFun (f20 55 (of_decide_eq_true rfl)) 6) (f20 60 (of_decide_eq_true rfl)) (f20 61 (of_decide_eq_true rfl)) hI102
    have I26 : jI103 σ18 := jI103_fr (congrFun (f20 55 (of_decide_eq_true rfl)) 9) hI103
    have I27 : jI104 σ18 := jI104_fr (congrFun (f20 55 (of_decide_eq_true rfl)) 10) (congrFun (f20 55 (of_decide_eq_true rfl)) 12) (congrFun (f20 55 (of_decide_eq_true rfl)) 13) (f20 62 (of_decide_eq_true rfl)) (f20 67 (of_decide_eq_true rfl)) hI104
    have I28 : jI105 σ18 := jI105_fr (congrFun (f20 55 (of_decide_eq_true rfl)) 15) (f20 65 (of_decide_eq_true rfl)) hI105
    exact by
     have I29 : jI106 σ18 := jI106_fr (congrFun (f20 55 (of_decide_eq_true rfl)) 32) (f20 70 (of_decide_eq_true rfl)) (f20 71 (of_decide_eq_true rfl)) (f20 72 (of_decide_eq_true rfl)) hI106
     have I30 : jI107 σ18 := jI107_fr (congrFun (f20 55 (of_decide_eq_true rfl)) 12) (congrFun (f20 55 (of_decide_eq_true rfl)) 47) (f20 80 (of_decide_eq_true rfl)) hI107
     have I31 : jI119 σ18 := jI119_fr (f20 68 (of_decide_eq_true rfl)) hI119
     have p32 : jKept σ18 := jKept.fr (f20 75 (of_decide_eq_true rfl)) (f20 76 (of_decide_eq_true rfl)) (f20 77 (of_decide_eq_true rfl)) hs_jKept
     have p33 : jBook σ18 := jBook.fr (congrFun (f20 55 (of_decide_eq_true rfl)) 47) (congrFun (f20 55 (of_decide_eq_true rfl)) 10) (f20 81 (of_decide_eq_true rfl)) hs_jBook
     refine jcallV (As := [.int (xs x16.toNatClampNeg)]) (rest := []) ⟨hx, hb, hml, hown, hts⟩ hK hP hA hS hZ (c_X12_cost l D cI cL ad zz hJ σ18 τ (xs x16.toNatClampNeg) ((xs x16.toNatClampNeg).toInt) rfl I24 I25 I26 I27 I28 I29 I30 I31 p32 p33) cw_RL_108 (jc_55 cI cL ad σ18 τ) rfl ⟨Nat.le_of_ble_eq_true rfl, Nat.le_of_ble_eq_true rfl⟩ rfl rfl rfl hl.1 rfl (Nat.le_of_ble_eq_true rfl) dL_law_868 ⟨Nat.le_of_ble_eq_true rfl, Nat.le_of_ble_eq_true rfl⟩ (fun r35 σ34 τ34 H locs h34 hP hS => ?_)
     obtain ⟨rfl, f36, f37, I38, p39, p40, h34⟩ := h34
     refine lv_pop hx hb dL_law_871 rfl ?_
     refine lv_goto (tgt := 1357) hx hb dL_law_872 (of_decide_eq_true rfl) ?_
     obtain ⟨x42, ex42⟩ : ∃ y : Int32, y = x0 + 6 := ⟨_, rfl⟩
     exact by
      have tx42 : x42.toInt = x0.toInt + 6 := (jadd ex42 rfl jz_6 (by omega) (by omega)).trans (by omega)
      refine lv_iinc (v := x42) (lv' := [(3, .int x42), (2, .ref (ad 55)), (1, .ref (ad 0)), (0, .ref b)]) hx hb dL_law_1357 hl (k := 0) rfl (by rw [ex42]; rfl) (of_decide_eq_true rfl) rfl (fun ls hl => ?_)
      refine lv_goto (tgt := 18) hx hb dL_law_1360 (of_decide_eq_true rfl) ?_
      have I43 : jI2 σ34 := jI2_fr ((congrFun (f36 2 (of_decide_eq_true rfl)) 0).trans (congrFun (f20 2 (of_decide_eq_true rfl)) 0)) ((congrFun (f36 2 (of_decide_eq_true rfl)) 1).trans (congrFun (f20 2 (of_decide_eq_true rfl)) 1)) ((congrFun (f36 2 (of_decide_eq_true rfl)) 2).trans (congrFun (f20 2 (of_decide_eq_true rfl)) 2)) ((congrFun (f36 2 (of_decide_eq_true rfl)) 3).trans (congrFun (f20 2 (of_decide_eq_true rfl)) 3)) ((f36 6 (of_decide_eq_true rfl)).trans (f20 6 (of_decide_eq_true rfl))) hI2
      have I44 : jI9 σ34 := jI9_fr ((congrFun (f36 9 (of_decide_eq_true rfl)) 0).trans (congrFun (f20 9 (of_decide_eq_true rfl)) 0)) ((f36 10 (of_decide_eq_true rfl)).trans (f20 10 (of_decide_eq_true rfl))) ((f36 11 (of_decide_eq_true rfl)).trans (f20 11 (of_decide_eq_true rfl))) hI9
      have I45 : jI12 σ34 := jI12_fr ((congrFun (f36 12 (of_decide_eq_true rfl)) 0).trans (congrFun (f20 12 (of_decide_eq_true rfl)) 0)) ((f36 13 (of_decide_eq_true rfl)).trans (f20 13 (of_decide_eq_true rfl))) hI12
      have I46 : jI16 σ34 := jI16_fr ((congrFun (f36 16 (of_decide_eq_true rfl)) 0).trans (congrFun (f20 16 (of_decide_eq_true rfl)) 0)) ((congrFun (f36 16 (of_decide_eq_true rfl)) 1).trans (congrFun (f20 16 (of_decide_eq_true rfl)) 1)) ((congrFun (f36 16 (of_decide_eq_true rfl)) 2).trans (congrFun (f20 16 (of_decide_eq_true rfl)) 2)) ((f36 17 (of_decide_eq_true rfl)).trans (f20 17 (of_decide_eq_true rfl))) hI16
      have I47 : jI18 σ34 := jI18_fr ((congrFun (f36 18 (of_decide_eq_true rfl)) 0).trans (congrFun (f20 18 (of_decide_eq_true rfl)) 0)) ((f36 19 (of_decide_eq_true rfl)).trans (f20 19 (of_decide_eq_true rfl))) hI18
      have I48 : jI22 σ34 := jI22_fr ((congrFun (f36 22 (of_decide_eq_true rfl)) 0).trans (congrFun (f20 22 (of_decide_eq_true rfl)) 0)) ((f36 23 (of_decide_eq_true rfl)).trans (f20 23 (of_decide_eq_true rfl))) hI22
      exact by
       have I49 : jI31 σ34 := jI31_fr (congrFun (f36 31 (of_decide_eq_true rfl)) 8) (f36 33 (of_decide_eq_true rfl)) (f36 36 (of_decide_eq_true rfl)) I22
       have I50 : jI38 σ34 := jI38_fr ((congrFun (f36 38 (of_decide_eq_true rfl)) 0).trans (congrFun (f20 38 (of_decide_eq_true rfl)) 0)) ((congrFun (f36 38 (of_decide_eq_true rfl)) 1).trans (congrFun (f20 38 (of_decide_eq_true rfl)) 1)) ((f36 39 (of_decide_eq_true rfl)).trans (f20 39 (of_decide_eq_true rfl))) hI38
       have I51 : jI43 σ34 := jI43_fr ((congrFun (f36 43 (of_decide_eq_true rfl)) 8).trans (congrFun (f20 43 (of_decide_eq_true rfl)) 8)) hI43
       have I52 : jI47 σ34 := jI47_fr ((congrFun (f36 47 (of_decide_eq_true rfl)) 0).trans (congrFun (f20 47 (of_decide_eq_true rfl)) 0)) ((f36 48 (of_decide_eq_true rfl)).trans (f20 48 (of_decide_eq_true rfl))) ((f36 49 (of_decide_eq_true rfl)).trans (f20 49 (of_decide_eq_true rfl))) hI47
       have I53 : jI50 σ34 := jI50_fr ((f36 52 (of_decide_eq_true rfl)).trans (f20 52 (of_decide_eq_true rfl))) hI50
       have I54 : jI101 σ34 := jI101_fr (f37 4 (of_decide_eq_true rfl)) (f37 5 (of_decide_eq_true rfl)) (f36 56 (of_decide_eq_true rfl)) (f36 57 (of_decide_eq_true rfl)) (f36 58 (of_decide_eq_true rfl)) (f36 59 (of_decide_eq_true rfl)) I24
       have I55 : jI102 σ34 := jI102_fr (f37 6 (of_decide_eq_true rfl)) (f36 60 (of_decide_eq_true rfl)) (f36 61 (of_decide_eq_true rfl)) I25
       have I56 : jI103 σ34 := jI103_fr (f37 9 (of_decide_eq_true rfl)) I26
       have I57 : jI104 σ34 := jI104_fr (f37 10 (of_decide_eq_true rfl)) (f37 12 (of_decide_eq_true rfl)) (f37 13 (of_decide_eq_true rfl)) (f36 62 (of_decide_eq_true rfl)) (f36 67 (of_decide_eq_true rfl)) I27
       have I58 : jI105 σ34 := jI105_fr (f37 15 (of_decide_eq_true rfl)) (f36 65 (of_decide_eq_true rfl)) I28
       have I59 : jI106 σ34 := jI106_fr (f37 32 (of_decide_eq_true rfl)) (f36 70 (of_decide_eq_true rfl)) (f36 71 (of_decide_eq_true rfl)) (f36 72 (of_decide_eq_true rfl)) I29
       have I60 : jI107 σ34 := jI107_fr (f37 12 (of_decide_eq_true rfl)) (f37 47 (of_decide_eq_true rfl)) (f36 80 (of_decide_eq_true rfl)) I30
       have I61 : jI109 σ34 := jI109_fr ((f37 50 (of_decide_eq_true rfl)).trans (congrFun (f20 55 (of_decide_eq_true rfl)) 50)) hI109
       have I62 : jI110 σ34 := jI110_fr ((f36 86 (of_decide_eq_true rfl)).trans (f20 86 (of_decide_eq_true rfl))) ((f36 87 (of_decide_eq_true rfl)).trans (f20 87 (of_decide_eq_true rfl))) hI110
       have I63 : jI111 σ34 := jI111_fr ((f36 79 (of_decide_eq_true rfl)).trans (f20 79 (of_decide_eq_true rfl))) hI111
       have z64 : (σ34 9 0).toInt = (σ 9 0).toInt := (congrArg Int32.toInt (show σ34 9 0 = (σ 9 0) from ((congrFun (f36 9 (of_decide_eq_true rfl)) 0).trans (congrFun (f20 9 (of_decide_eq_true rfl)) 0))))
       have z65 : (σ34 55 15).toInt = (σ 55 15).toInt := (congrArg Int32.toInt (show σ34 55 15 = (σ 55 15) from ((f37 15 (of_decide_eq_true rfl)).trans (congrFun (f20 55 (of_decide_eq_true rfl)) 15))))
       have z66 : (σ34 16 0).toInt = (σ 16 0).toInt := (congrArg Int32.toInt (show σ34 16 0 = (σ 16 0) from ((congrFun (f36 16 (of_decide_eq_true rfl)) 0).trans (congrFun (f20 16 (of_decide_eq_true rfl)) 0))))
       have z67 : (σ34 55 10).toInt = (σ 55 10).toInt := (congrArg Int32.toInt (show σ34 55 10 = (σ 55 10) from ((f37 10 (of_decide_eq_true rfl)).trans (congrFun (f20 55 (of_decide_eq_true rfl)) 10))))
       have z68 : (σ34 16 1).toInt = (σ 16 1).toInt := (congrArg Int32.toInt (show σ34 16 1 = (σ 16 1) from ((congrFun (f36 16 (of_decide_eq_true rfl)) 1).trans (congrFun (f20 16 (of_decide_eq_true rfl)) 1))))
       have z69 : (σ34 55 12).toInt = (σ 55 12).toInt := (congrArg Int32.toInt (show σ34 55 12 = (σ 55 12) from ((f37 12 (of_decide_eq_true rfl)).trans (congrFun (f20 55 (of_decide_eq_true rfl)) 12))))
       have z70 : (σ34 16 2).toInt = (σ 16 2).toInt := (congrArg Int32.toInt (show σ34 16 2 = (σ 16 2) from ((congrFun (f36 16 (of_decide_eq_true rfl)) 2).trans (congrFun (f20 16 (of_decide_eq_true rfl)) 2))))
       have z71 : (σ34 55 13).toInt = (σ 55 13).toInt := (congrArg Int32.toInt (show σ34 55 13 = (σ 55 13) from ((f37 13 (of_decide_eq_true rfl)).trans (congrFun (f20 55 (of_decide_eq_true rfl)) 13))))
       exact by exact ih x42 σ34 τ _ _ ls (by have h9 := tx42; omega) ⟨I43, I44, I45, I46, I47, I48, I49, I50, I51, I52, I53, I54, I55, I56, I57, I58, I59, I60, I61, I62, I63, I38, p39, p40, (by omega), (by omega), (by omega), (by omega), (show jTp (σ34 10) (σ34 63) (σ34 55 15).toInt by rw [show σ34 10 = σ 10 from ((f36 10 (of_decide_eq_true rfl)).trans (f20 10 (of_decide_eq_true rfl))), show σ34 63 = σ 63 from ((f36 63 (of_decide_eq_true rfl)).trans (f20 63 (of_decide_eq_true rfl)))]; exact hr0.le (by omega)), (show jSo (σ34 17) (σ34 62) (σ34 16 0).toInt by rw [show σ34 17 = σ 17 from ((f36 17 (of_decide_eq_true rfl)).trans (f20 17 (of_decide_eq_true rfl))), show σ34 62 = σ 62 from ((f36 62 (of_decide_eq_true rfl)).trans (f20 62 (of_decide_eq_true rfl))), show (σ34 16 0).toInt = (σ 16 0).toInt from by omega]; exact hr1)⟩ hP hS (lv_sub hl [0, 1, 2, 3] rfl)
set_option maxHeartbeats 4000000 in
set_option maxRecDepth 100000 in
theorem law_case_23 {p : Program} {e : Env} {s : State} {m : MethodId} {below : List Frame} {meth : Method} {c : Code} (l : Launch) {b L : Nat} {xs : Nat → Int32} {D : va_G} {cI cL : ClassId} {ad zz : Nat → Nat} (C0 : lw_At p s m meth c b L xs) (hJ : jD ad) (hA : ∀ q, jA ad q → s.heap.size ≤ q) (hK : jK D cI cL s) (hZ : jZ zz (fun q : Nat => s.heap.size ≤ q) s s.heap) {x0 : Int32} (hx0 : 0 ≤ x0.toInt) (hxL : x0.toInt + 6 ≤ (L : Int)) (hL : L ≤ 384) {σ : Nat → Nat → Int32} {τ : Nat → Nat → Int64} {H : Heap} {locs : List Loc} (hS : va_S (fun q : Nat => s.heap.size ≤ q) s.heap H locs) {ls : Array Slot} (hAll : jAll σ τ) (hP : jH D cI cL ad σ τ H) (hl : lv_has ls 4 [(3, .int x0), (2, .ref (ad 55)), (1, .ref (ad 0)), (0, .ref b)]) (ih : ∀ (x1 : Int32) (σ : Nat → Nat → Int32) (τ : Nat → Nat → Int64) (H : Heap) (locs : List Loc) (ls : Array Slot), x1.toInt = x0.toInt + 6 → jAll σ τ → jH D cI cL ad σ τ H → va_S (fun q : Nat => s.heap.size ≤ q) s.heap H locs → lv_has ls 4 [(3, .int x1), (2, .ref (ad 55)), (1, .ref (ad 0)), (0, .ref b)] → W p l e room_1 s m #[Value.ref b] below meth c H locs 90 348600 (lw_Z below #[Value.ref b] s) (F0 m 18 ls [])) : W p l e room_1 s m #[Value.ref b] below meth c H locs 90 348600 (lw_Z below #[Value.ref b] s) (F0 m 875 ls []) := by
  obtain ⟨hx, hb, hr, hml, hown, hts0, hX, hbl, hlocks, hgv⟩ := C0
  have hts : ∀ w ∈ wsL_law, w.before #[Value.ref b] s = true := fun w h => hts0 w (wsL_law_in w h)
  have hbA : ¬ (fun q : Nat => s.heap.size ≤ q) b := Nat.not_le.mpr hbl
  have hown : s.vm.findClass RL = some m.cls := hown
  obtain ⟨hI2, hI9, hI12, hI16, hI18, hI22, hI31, hI38, hI43, hI47, hI50, hI101, hI102, hI103, hI104, hI105, hI106, hI107, hI109, hI110, hI111, hI119, hs_jKept, hs_jBook, ht0, ht1, ht2, ht3, hr0, hr1⟩ := hAll
  have hL9 : (L : Int) ≤ 384 := by omega
  obtain ⟨i1, w2, w3⟩ : (0 ≤ (σ 9 0).toInt ∧ (σ 9 0).toInt ≤ 80) ∧ (∀ k : Nat, k < 80 → 0 ≤ (σ 10 k).toInt ∧ (σ 10 k).toInt ≤ 255) ∧ (∀ k : Nat, k < 8 → 0 ≤ (σ 11 k).toInt ∧ (σ 11 k).toInt ≤ 3) := id hI9
  obtain ⟨i4, i5, i6, w7⟩ : (1 ≤ (σ 16 0).toInt ∧ (σ 16 0).toInt ≤ 8) ∧ (1 ≤ (σ 16 1).toInt ∧ (σ 16 1).toInt ≤ 12) ∧ (0 ≤ (σ 16 2).toInt ∧ (σ 16 2).toInt ≤ 999) ∧ (∀ k : Nat, k < 8 → 0 ≤ (σ 17 k).toInt ∧ (σ 17 k).toInt ≤ 3) := id hI16
  obtain ⟨i8, i9, i10, w11, w12⟩ : (1 ≤ (σ 55 10).toInt ∧ (σ 55 10).toInt ≤ 8) ∧ (1 ≤ (σ 55 12).toInt ∧ (σ 55 12).toInt ≤ 12) ∧ (0 ≤ (σ 55 13).toInt ∧ (σ 55 13).toInt ≤ 999) ∧ (∀ k : Nat, k < 8 → 0 ≤ (σ 62 k).toInt ∧ (σ 62 k).toInt ≤ 3) ∧ (∀ k : Nat, k < 8 → 0 ≤ (σ 67 k).toInt ∧ (σ 67 k).toInt ≤ 3) := id hI104
  obtain ⟨i13, w14⟩ : (0 ≤ (σ 55 15).toInt ∧ (σ 55 15).toInt ≤ 80) ∧ (∀ k : Nat, k < 2 → (-1) ≤ (σ 65 k).toInt ∧ (σ 65 k).toInt ≤ 80) := id hI105
  refine lv_aload_n hx hb dL_law_875 rfl (lv_at hl 2 rfl) ?_
  refine lv_aload_n hx hb dL_law_876 rfl (lv_at hl 3 rfl) ?_
  refine lv_iload_n hx hb dL_law_877 rfl (lv_at hl 0 rfl) ?_
  refine lv_iconst (v := 1) hx hb dL_law_878 (of_decide_eq_true rfl) ?_
  have g15 := jrg (rfl : x0.toInt = x0.toInt)
  refine lv_iadd hx hb dL_law_879 ?_
  refine lv_topi (fun x16 ex16 => ?_)
  exact by
   have tx16 : x16.toInt = x0.toInt + 1 := (jadd ex16 rfl jz_1 (by omega) (by omega)).trans (by omega)
   refine va_sld hx hb hX hbl hbA hS (jin tx16 (by omega) (by omega)) dL_law_880 ?_
   have g17 := jrg (rfl : (xs x16.toNatClampNeg).toInt = (xs x16.toNatClampNeg).toInt)
   refine jcallV (As := [.int (xs x16.toNatClampNeg)]) (rest := []) ⟨hx, hb, hml, hown, hts⟩ hK hP hA hS hZ (c_X11_lost l D cI cL ad zz hJ σ τ (xs x16.toNatClampNeg) ((xs x16.toNatClampNeg).toInt) rfl hI2 hI16 hI22 hI31 hI47) cw_RL_109 (jc_0 cI cL ad σ τ) rfl ⟨Nat.le_of_ble_eq_true rfl, Nat.le_of_ble_eq_true rfl⟩ rfl rfl rfl hl.1 rfl (Nat.le_of_ble_eq_true rfl) dL_law_881 ⟨Nat.le_of_ble_eq_true rfl, Nat.le_of_ble_eq_true rfl⟩ (fun r19 σ18 τ18 H locs h18 hP hS => ?_)
   obtain ⟨rfl, f20, f21, I22, h18⟩ := h18
   refine lv_pop hx hb dL_law_884 rfl ?_
   refine lv_aload_n hx hb dL_law_885 rfl (lv_at hl 1 rfl) ?_
   refine lv_aload_n hx hb dL_law_886 rfl (lv_at hl 3 rfl) ?_
   refine lv_iload_n hx hb dL_law_887 rfl (lv_at hl 0 rfl) ?_
   exact by
    refine lv_iconst (v := 1) hx hb dL_law_888 (of_decide_eq_true rfl) ?_
    refine lv_iadd hx hb dL_law_889 ?_
    refine jtopr ex16.symm ?_
    refine va_sld hx hb hX hbl hbA hS (jin tx16 (by omega) (by omega)) dL_law_890 ?_
    have I24 : jI101 σ18 := jI101_fr (congrFun (f20 55 (of_decide_eq_true rfl)) 4) (congrFun (f20 55 (of_decide_eq_true rfl)) 5) (f20 56 (of_decide_eq_true rfl)) (f20 57 (of_decide_eq_true rfl)) (f20 58 (of_decide_eq_true rfl)) (f20 59 (of_decide_eq_true rfl)) hI101
    have I25 : jI102 σ18 := jI102_fr (congrFun (f20 55 (of_decide_eq_true rfl)) 6) (f20 60 (of_decide_eq_true rfl)) (f20 61 (of_decide_eq_true rfl)) hI102
    have I26 : jI103 σ18 := jI103_fr (congrFun (f20 55 (of_decide_eq_true rfl)) 9) hI103
    have I27 : jI104 σ18 := jI104_fr (congrFun (f20 55 (of_decide_eq_true rfl)) 10) (congrFun (f20 55 (of_decide_eq_true rfl)) 12) (congrFun (f20 55 (of_decide_eq_true rfl)) 13) (f20 62 (of_decide_eq_true rfl)) (f20 67 (of_decide_eq_true rfl)) hI104
    have I28 : jI105 σ18 := jI105_fr (congrFun (f20 55 (of_decide_eq_true rfl)) 15) (f20 65 (of_decide_eq_true rfl)) hI105
    exact by
     have I29 : jI106 σ18 := jI106_fr (congrFun (f20 55 (of_decide_eq_true rfl)) 32) (f20 70 (of_decide_eq_true rfl)) (f20 71 (of_decide_eq_true rfl)) (f20 72 (of_decide_eq_true rfl)) hI106
     have I30 : jI107 σ18 := jI107_fr (congrFun (f20 55 (of_decide_eq_true rfl)) 12) (congrFun (f20 55 (of_decide_eq_true rfl)) 47) (f20 80 (of_decide_eq_true rfl)) hI107
     have I31 : jI119 σ18 := jI119_fr (f20 68 (of_decide_eq_true rfl)) hI119
     have p32 : jKept σ18 := jKept.fr (f20 75 (of_decide_eq_true rfl)) (f20 76 (of_decide_eq_true rfl)) (f20 77 (of_decide_eq_true rfl)) hs_jKept
     have p33 : jBook σ18 := jBook.fr (congrFun (f20 55 (of_decide_eq_true rfl)) 47) (congrFun (f20 55 (of_decide_eq_true rfl)) 10) (f20 81 (of_decide_eq_true rfl)) hs_jBook
     refine jcallV (As := [.int (xs x16.toNatClampNeg)]) (rest := []) ⟨hx, hb, hml, hown, hts⟩ hK hP hA hS hZ (c_X12_lost l D cI cL ad zz hJ σ18 τ (xs x16.toNatClampNeg) ((xs x16.toNatClampNeg).toInt) rfl I24 I25 I26 I27 I28 I29 I30 I31 p32 p33) cw_RL_112 (jc_55 cI cL ad σ18 τ) rfl ⟨Nat.le_of_ble_eq_true rfl, Nat.le_of_ble_eq_true rfl⟩ rfl rfl rfl hl.1 rfl (Nat.le_of_ble_eq_true rfl) dL_law_891 ⟨Nat.le_of_ble_eq_true rfl, Nat.le_of_ble_eq_true rfl⟩ (fun r35 σ34 τ34 H locs h34 hP hS => ?_)
     obtain ⟨rfl, f36, f37, I38, p39, p40, h34⟩ := h34
     refine lv_pop hx hb dL_law_894 rfl ?_
     refine lv_goto (tgt := 1357) hx hb dL_law_895 (of_decide_eq_true rfl) ?_
     obtain ⟨x42, ex42⟩ : ∃ y : Int32, y = x0 + 6 := ⟨_, rfl⟩
     exact by
      have tx42 : x42.toInt = x0.toInt + 6 := (jadd ex42 rfl jz_6 (by omega) (by omega)).trans (by omega)
      refine lv_iinc (v := x42) (lv' := [(3, .int x42), (2, .ref (ad 55)), (1, .ref (ad 0)), (0, .ref b)]) hx hb dL_law_1357 hl (k := 0) rfl (by rw [ex42]; rfl) (of_decide_eq_true rfl) rfl (fun ls hl => ?_)
      refine lv_goto (tgt := 18) hx hb dL_law_1360 (of_decide_eq_true rfl) ?_
      have I43 : jI2 σ34 := jI2_fr ((congrFun (f36 2 (of_decide_eq_true rfl)) 0).trans (congrFun (f20 2 (of_decide_eq_true rfl)) 0)) ((congrFun (f36 2 (of_decide_eq_true rfl)) 1).trans (congrFun (f20 2 (of_decide_eq_true rfl)) 1)) ((congrFun (f36 2 (of_decide_eq_true rfl)) 2).trans (congrFun (f20 2 (of_decide_eq_true rfl)) 2)) ((congrFun (f36 2 (of_decide_eq_true rfl)) 3).trans (congrFun (f20 2 (of_decide_eq_true rfl)) 3)) ((f36 6 (of_decide_eq_true rfl)).trans (f20 6 (of_decide_eq_true rfl))) hI2
      have I44 : jI9 σ34 := jI9_fr ((congrFun (f36 9 (of_decide_eq_true rfl)) 0).trans (congrFun (f20 9 (of_decide_eq_true rfl)) 0)) ((f36 10 (of_decide_eq_true rfl)).trans (f20 10 (of_decide_eq_true rfl))) ((f36 11 (of_decide_eq_true rfl)).trans (f20 11 (of_decide_eq_true rfl))) hI9
      have I45 : jI12 σ34 := jI12_fr ((congrFun (f36 12 (of_decide_eq_true rfl)) 0).trans (congrFun (f20 12 (of_decide_eq_true rfl)) 0)) ((f36 13 (of_decide_eq_true rfl)).trans (f20 13 (of_decide_eq_true rfl))) hI12
      have I46 : jI16 σ34 := jI16_fr ((congrFun (f36 16 (of_decide_eq_true rfl)) 0).trans (congrFun (f20 16 (of_decide_eq_true rfl)) 0)) ((congrFun (f36 16 (of_decide_eq_true rfl)) 1).trans (congrFun (f20 16 (of_decide_eq_true rfl)) 1)) ((congrFun (f36 16 (of_decide_eq_true rfl)) 2).trans (congrFun (f20 16 (of_decide_eq_true rfl)) 2)) ((f36 17 (of_decide_eq_true rfl)).trans (f20 17 (of_decide_eq_true rfl))) hI16
      have I47 : jI18 σ34 := jI18_fr ((congrFun (f36 18 (of_decide_eq_true rfl)) 0).trans (congrFun (f20 18 (of_decide_eq_true rfl)) 0)) ((f36 19 (of_decide_eq_true rfl)).trans (f20 19 (of_decide_eq_true rfl))) hI18
      have I48 : jI22 σ34 := jI22_fr ((congrFun (f36 22 (of_decide_eq_true rfl)) 0).trans (congrFun (f20 22 (of_decide_eq_true rfl)) 0)) ((f36 23 (of_decide_eq_true rfl)).trans (f20 23 (of_decide_eq_true rfl))) hI22
      exact by
       have I49 : jI31 σ34 := jI31_fr (congrFun (f36 31 (of_decide_eq_true rfl)) 8) (f36 33 (of_decide_eq_true rfl)) (f36 36 (of_decide_eq_true rfl)) I22
       have I50 : jI38 σ34 := jI38_fr ((congrFun (f36 38 (of_decide_eq_true rfl)) 0).trans (congrFun (f20 38 (of_decide_eq_true rfl)) 0)) ((congrFun (f36 38 (of_decide_eq_true rfl)) 1).trans (congrFun (f20 38 (of_decide_eq_true rfl)) 1)) ((f36 39 (of_decide_eq_true rfl)).trans (f20 39 (of_decide_eq_true rfl))) hI38
       have I51 : jI43 σ34 := jI43_fr ((congrFun (f36 43 (of_decide_eq_true rfl)) 8).trans (congrFun (f20 43 (of_decide_eq_true rfl)) 8)) hI43
       have I52 : jI47 σ34 := jI47_fr ((congrFun (f36 47 (of_decide_eq_true rfl)) 0).trans (congrFun (f20 47 (of_decide_eq_true rfl)) 0)) ((f36 48 (of_decide_eq_true rfl)).trans (f20 48 (of_decide_eq_true rfl))) ((f36 49 (of_decide_eq_true rfl)).trans (f20 49 (of_decide_eq_true rfl))) hI47
       have I53 : jI50 σ34 := jI50_fr ((f36 52 (of_decide_eq_true rfl)).trans (f20 52 (of_decide_eq_true rfl))) hI50
       have I54 : jI101 σ34 := jI101_fr (f37 4 (of_decide_eq_true rfl)) (f37 5 (of_decide_eq_true rfl)) (f36 56 (of_decide_eq_true rfl)) (f36 57 (of_decide_eq_true rfl)) (f36 58 (of_decide_eq_true rfl)) (f36 59 (of_decide_eq_true rfl)) I24
       have I55 : jI102 σ34 := jI102_fr (f37 6 (of_decide_eq_true rfl)) (f36 60 (of_decide_eq_true rfl)) (f36 61 (of_decide_eq_true rfl)) I25
       have I56 : jI103 σ34 := jI103_fr (f37 9 (of_decide_eq_true rfl)) I26
       have I57 : jI104 σ34 := jI104_fr (f37 10 (of_decide_eq_true rfl)) (f37 12 (of_decide_eq_true rfl)) (f37 13 (of_decide_eq_true rfl)) (f36 62 (of_decide_eq_true rfl)) (f36 67 (of_decide_eq_true rfl)) I27
       have I58 : jI105 σ34 := jI105_fr (f37 15 (of_decide_eq_true rfl)) (f36 65 (of_decide_eq_true rfl)) I28
       have I59 : jI106 σ34 := jI106_fr (f37 32 (of_decide_eq_true rfl)) (f36 70 (of_decide_eq_true rfl)) (f36 71 (of_decide_eq_true rfl)) (f36 72 (of_decide_eq_true rfl)) I29
       have I60 : jI107 σ34 := jI107_fr (f37 12 (of_decide_eq_true rfl)) (f37 47 (of_decide_eq_true rfl)) (f36 80 (of_decide_eq_true rfl)) I30
       have I61 : jI109 σ34 := jI109_fr ((f37 50 (of_decide_eq_true rfl)).trans (congrFun (f20 55 (of_decide_eq_true rfl)) 50)) hI109
       have I62 : jI110 σ34 := jI110_fr ((f36 86 (of_decide_eq_true rfl)).trans (f20 86 (of_decide_eq_true rfl))) ((f36 87 (of_decide_eq_true rfl)).trans (f20 87 (of_decide_eq_true rfl))) hI110
       have I63 : jI111 σ34 := jI111_fr ((f36 79 (of_decide_eq_true rfl)).trans (f20 79 (of_decide_eq_true rfl))) hI111
       have z64 : (σ34 9 0).toInt = (σ 9 0).toInt := (congrArg Int32.toInt (show σ34 9 0 = (σ 9 0) from ((congrFun (f36 9 (of_decide_eq_true rfl)) 0).trans (congrFun (f20 9 (of_decide_eq_true rfl)) 0))))
       have z65 : (σ34 55 15).toInt = (σ 55 15).toInt := (congrArg Int32.toInt (show σ34 55 15 = (σ 55 15) from ((f37 15 (of_decide_eq_true rfl)).trans (congrFun (f20 55 (of_decide_eq_true rfl)) 15))))
       have z66 : (σ34 16 0).toInt = (σ 16 0).toInt := (congrArg Int32.toInt (show σ34 16 0 = (σ 16 0) from ((congrFun (f36 16 (of_decide_eq_true rfl)) 0).trans (congrFun (f20 16 (of_decide_eq_true rfl)) 0))))
       have z67 : (σ34 55 10).toInt = (σ 55 10).toInt := (congrArg Int32.toInt (show σ34 55 10 = (σ 55 10) from ((f37 10 (of_decide_eq_true rfl)).trans (congrFun (f20 55 (of_decide_eq_true rfl)) 10))))
       have z68 : (σ34 16 1).toInt = (σ 16 1).toInt := (congrArg Int32.toInt (show σ34 16 1 = (σ 16 1) from ((congrFun (f36 16 (of_decide_eq_true rfl)) 1).trans (congrFun (f20 16 (of_decide_eq_true rfl)) 1))))
       have z69 : (σ34 55 12).toInt = (σ 55 12).toInt := (congrArg Int32.toInt (show σ34 55 12 = (σ 55 12) from ((f37 12 (of_decide_eq_true rfl)).trans (congrFun (f20 55 (of_decide_eq_true rfl)) 12))))
       have z70 : (σ34 16 2).toInt = (σ 16 2).toInt := (congrArg Int32.toInt (show σ34 16 2 = (σ 16 2) from ((congrFun (f36 16 (of_decide_eq_true rfl)) 2).trans (congrFun (f20 16 (of_decide_eq_true rfl)) 2))))
       have z71 : (σ34 55 13).toInt = (σ 55 13).toInt := (congrArg Int32.toInt (show σ34 55 13 = (σ 55 13) from ((f37 13 (of_decide_eq_true rfl)).trans (congrFun (f20 55 (of_decide_eq_true rfl)) 13))))
       exact by exact ih x42 σ34 τ _ _ ls (by have h9 := tx42; omega) ⟨I43, I44, I45, I46, I47, I48, I49, I50, I51, I52, I53, I54, I55, I56, I57, I58, I59, I60, I61, I62, I63, I38, p39, p40, (by omega), (by omega), (by omega), (by omega), (show jTp (σ34 10) (σ34 63) (σ34 55 15).toInt by rw [show σ34 10 = σ 10 from ((f36 10 (of_decide_eq_true rfl)).trans (f20 10 (of_decide_eq_true rfl))), show σ34 63 = σ 63 from ((f36 63 (of_decide_eq_true rfl)).trans (f20 63 (of_decide_eq_true rfl)))]; exact hr0.le (by omega)), (show jSo (σ34 17) (σ34 62) (σ34 16 0).toInt by rw [show σ34 17 = σ 17 from ((f36 17 (of_decide_eq_true rfl)).trans (f20 17 (of_decide_eq_true rfl))), show σ34 62 = σ 62 from ((f36 62 (of_decide_eq_true rfl)).trans (f20 62 (of_decide_eq_true rfl))), show (σ34 16 0).toInt = (σ 16 0).toInt from by omega]; exact hr1)⟩ hP hS (lv_sub hl [0, 1, 2, 3] rfl)
set_option maxHeartbeats 4000000 in
set_option maxRecDepth 100000 in
theorem law_case_24 {p : Program} {e : Env} {s : State} {m : MethodId} {below : List Frame} {meth : Method} {c : Code} (l : Launch) {b L : Nat} {xs : Nat → Int32} {D : va_G} {cI cL : ClassId} {ad zz : Nat → Nat} (C0 : lw_At p s m meth c b L xs) (hJ : jD ad) (hA : ∀ q, jA ad q → s.heap.size ≤ q) (hK : jK D cI cL s) (hZ : jZ zz (fun q : Nat => s.heap.size ≤ q) s s.heap) {x0 : Int32} (hx0 : 0 ≤ x0.toInt) (hxL : x0.toInt + 6 ≤ (L : Int)) (hL : L ≤ 384) {σ : Nat → Nat → Int32} {τ : Nat → Nat → Int64} {H : Heap} {locs : List Loc} (hS : va_S (fun q : Nat => s.heap.size ≤ q) s.heap H locs) {ls : Array Slot} (hAll : jAll σ τ) (hP : jH D cI cL ad σ τ H) (hl : lv_has ls 4 [(3, .int x0), (2, .ref (ad 55)), (1, .ref (ad 0)), (0, .ref b)]) (ih : ∀ (x1 : Int32) (σ : Nat → Nat → Int32) (τ : Nat → Nat → Int64) (H : Heap) (locs : List Loc) (ls : Array Slot), x1.toInt = x0.toInt + 6 → jAll σ τ → jH D cI cL ad σ τ H → va_S (fun q : Nat => s.heap.size ≤ q) s.heap H locs → lv_has ls 4 [(3, .int x1), (2, .ref (ad 55)), (1, .ref (ad 0)), (0, .ref b)] → W p l e room_1 s m #[Value.ref b] below meth c H locs 90 348600 (lw_Z below #[Value.ref b] s) (F0 m 18 ls [])) : W p l e room_1 s m #[Value.ref b] below meth c H locs 90 348600 (lw_Z below #[Value.ref b] s) (F0 m 898 ls []) := by
  obtain ⟨hx, hb, hr, hml, hown, hts0, hX, hbl, hlocks, hgv⟩ := C0
  have hts : ∀ w ∈ wsL_law, w.before #[Value.ref b] s = true := fun w h => hts0 w (wsL_law_in w h)
  have hbA : ¬ (fun q : Nat => s.heap.size ≤ q) b := Nat.not_le.mpr hbl
  have hown : s.vm.findClass RL = some m.cls := hown
  obtain ⟨hI2, hI9, hI12, hI16, hI18, hI22, hI31, hI38, hI43, hI47, hI50, hI101, hI102, hI103, hI104, hI105, hI106, hI107, hI109, hI110, hI111, hI119, hs_jKept, hs_jBook, ht0, ht1, ht2, ht3, hr0, hr1⟩ := hAll
  have hL9 : (L : Int) ≤ 384 := by omega
  obtain ⟨i1, w2, w3⟩ : (0 ≤ (σ 9 0).toInt ∧ (σ 9 0).toInt ≤ 80) ∧ (∀ k : Nat, k < 80 → 0 ≤ (σ 10 k).toInt ∧ (σ 10 k).toInt ≤ 255) ∧ (∀ k : Nat, k < 8 → 0 ≤ (σ 11 k).toInt ∧ (σ 11 k).toInt ≤ 3) := id hI9
  obtain ⟨i4, i5, i6, w7⟩ : (1 ≤ (σ 16 0).toInt ∧ (σ 16 0).toInt ≤ 8) ∧ (1 ≤ (σ 16 1).toInt ∧ (σ 16 1).toInt ≤ 12) ∧ (0 ≤ (σ 16 2).toInt ∧ (σ 16 2).toInt ≤ 999) ∧ (∀ k : Nat, k < 8 → 0 ≤ (σ 17 k).toInt ∧ (σ 17 k).toInt ≤ 3) := id hI16
  obtain ⟨i8, i9, i10, w11, w12⟩ : (1 ≤ (σ 55 10).toInt ∧ (σ 55 10).toInt ≤ 8) ∧ (1 ≤ (σ 55 12).toInt ∧ (σ 55 12).toInt ≤ 12) ∧ (0 ≤ (σ 55 13).toInt ∧ (σ 55 13).toInt ≤ 999) ∧ (∀ k : Nat, k < 8 → 0 ≤ (σ 62 k).toInt ∧ (σ 62 k).toInt ≤ 3) ∧ (∀ k : Nat, k < 8 → 0 ≤ (σ 67 k).toInt ∧ (σ 67 k).toInt ≤ 3) := id hI104
  obtain ⟨i13, w14⟩ : (0 ≤ (σ 55 15).toInt ∧ (σ 55 15).toInt ≤ 80) ∧ (∀ k : Nat, k < 2 → (-1) ≤ (σ 65 k).toInt ∧ (σ 65 k).toInt ≤ 80) := id hI105
  refine lv_aload_n hx hb dL_law_898 rfl (lv_at hl 2 rfl) ?_
  refine lv_aload_n hx hb dL_law_899 rfl (lv_at hl 3 rfl) ?_
  refine lv_iload_n hx hb dL_law_900 rfl (lv_at hl 0 rfl) ?_
  refine lv_iconst (v := 1) hx hb dL_law_901 (of_decide_eq_true rfl) ?_
  have g15 := jrg (rfl : x0.toInt = x0.toInt)
  refine lv_iadd hx hb dL_law_902 ?_
  refine lv_topi (fun x16 ex16 => ?_)
  exact by
   have tx16 : x16.toInt = x0.toInt + 1 := (jadd ex16 rfl jz_1 (by omega) (by omega)).trans (by omega)
   refine va_sld hx hb hX hbl hbA hS (jin tx16 (by omega) (by omega)) dL_law_903 ?_
   have g17 := jrg (rfl : (xs x16.toNatClampNeg).toInt = (xs x16.toNatClampNeg).toInt)
   refine lv_aload_n hx hb dL_law_904 rfl (lv_at hl 3 rfl) ?_
   refine lv_iload_n hx hb dL_law_905 rfl (lv_at hl 0 rfl) ?_
   refine lv_iconst (v := 2) hx hb dL_law_906 (of_decide_eq_true rfl) ?_
   refine lv_iadd hx hb dL_law_907 ?_
   refine lv_topi (fun x18 ex18 => ?_)
   have tx18 : x18.toInt = x0.toInt + 2 := (jadd ex18 rfl jz_2 (by omega) (by omega)).trans (by omega)
   exact by
    refine va_sld hx hb hX hbl hbA hS (jin tx18 (by omega) (by omega)) dL_law_908 ?_
    have g19 := jrg (rfl : (xs x18.toNatClampNeg).toInt = (xs x18.toNatClampNeg).toInt)
    refine jcallV (As := [.int (xs x16.toNatClampNeg), .int (xs x18.toNatClampNeg)]) (rest := []) ⟨hx, hb, hml, hown, hts⟩ hK hP hA hS hZ (c_X11_game l D cI cL ad zz hJ σ τ (xs x16.toNatClampNeg) ((xs x16.toNatClampNeg).toInt) rfl (xs x18.toNatClampNeg) ((xs x18.toNatClampNeg).toInt) rfl hI2 hI16 hI18 hI22 hI31 hI38 hI43) cw_RL_113 (jc_0 cI cL ad σ τ) rfl ⟨Nat.le_of_ble_eq_true rfl, Nat.le_of_ble_eq_true rfl⟩ rfl rfl rfl hl.1 rfl (Nat.le_of_ble_eq_true rfl) dL_law_909 ⟨Nat.le_of_ble_eq_true rfl, Nat.le_of_ble_eq_true rfl⟩ (fun r21 σ20 τ20 H locs h20 hP hS => ?_)
    obtain ⟨rfl, f22, f23, f24, I25, I26, h20⟩ := h20
    refine lv_pop hx hb dL_law_912 rfl ?_
    refine lv_aload_n hx hb dL_law_913 rfl (lv_at hl 1 rfl) ?_
    refine lv_aload_n hx hb dL_law_914 rfl (lv_at hl 3 rfl) ?_
    refine lv_iload_n hx hb dL_law_915 rfl (lv_at hl 0 rfl) ?_
    refine lv_iconst (v := 1) hx hb dL_law_916 (of_decide_eq_true rfl) ?_
    refine lv_iadd hx hb dL_law_917 ?_
    refine jtopr ex16.symm ?_
    exact by
     refine va_sld hx hb hX hbl hbA hS (jin tx16 (by omega) (by omega)) dL_law_918 ?_
     refine lv_aload_n hx hb dL_law_919 rfl (lv_at hl 3 rfl) ?_
     refine lv_iload_n hx hb dL_law_920 rfl (lv_at hl 0 rfl) ?_
     refine lv_iconst (v := 2) hx hb dL_law_921 (of_decide_eq_true rfl) ?_
     refine lv_iadd hx hb dL_law_922 ?_
     refine jtopr ex18.symm ?_
     refine va_sld hx hb hX hbl hbA hS (jin tx18 (by omega) (by omega)) dL_law_923 ?_
     have I28 : jI101 σ20 := jI101_fr (congrFun (f22 55 (of_decide_eq_true rfl)) 4) (congrFun (f22 55 (of_decide_eq_true rfl)) 5) (f22 56 (of_decide_eq_true rfl)) (f22 57 (of_decide_eq_true rfl)) (f22 58 (of_decide_eq_true rfl)) (f22 59 (of_decide_eq_true rfl)) hI101
     have I29 : jI102 σ20 := jI102_fr (congrFun (f22 55 (of_decide_eq_true rfl)) 6) (f22 60 (of_decide_eq_true rfl)) (f22 61 (of_decide_eq_true rfl)) hI102
     exact by
      have I30 : jI103 σ20 := jI103_fr (congrFun (f22 55 (of_decide_eq_true rfl)) 9) hI103
      have I31 : jI104 σ20 := jI104_fr (congrFun (f22 55 (of_decide_eq_true rfl)) 10) (congrFun (f22 55 (of_decide_eq_true rfl)) 12) (congrFun (f22 55 (of_decide_eq_true rfl)) 13) (f22 62 (of_decide_eq_true rfl)) (f22 67 (of_decide_eq_true rfl)) hI104
      have I32 : jI105 σ20 := jI105_fr (congrFun (f22 55 (of_decide_eq_true rfl)) 15) (f22 65 (of_decide_eq_true rfl)) hI105
      have I33 : jI106 σ20 := jI106_fr (congrFun (f22 55 (of_decide_eq_true rfl)) 32) (f22 70 (of_decide_eq_true rfl)) (f22 71 (of_decide_eq_true rfl)) (f22 72 (of_decide_eq_true rfl)) hI106
      have I34 : jI119 σ20 := jI119_fr (f22 68 (of_decide_eq_true rfl)) hI119
      have I35 : jI109 σ20 := jI109_fr (congrFun (f22 55 (of_decide_eq_true rfl)) 50) hI109
      have p36 : jKept σ20 := jKept.fr (f22 75 (of_decide_eq_true rfl)) (f22 76 (of_decide_eq_true rfl)) (f22 77 (of_decide_eq_true rfl)) hs_jKept
      refine jcallV (As := [.int (xs x16.toNatClampNeg), .int (xs x18.toNatClampNeg)]) (rest := []) ⟨hx, hb, hml, hown, hts⟩ hK hP hA hS hZ (c_X12_game l D cI cL ad zz hJ σ20 τ (xs x16.toNatClampNeg) ((xs x16.toNatClampNeg).toInt) rfl (xs x18.toNatClampNeg) ((xs x18.toNatClampNeg).toInt) rfl I28 I29 I30 I31 I32 I33 I34 I35 p36) cw_RL_116 (jc_55 cI cL ad σ20 τ) rfl ⟨Nat.le_of_ble_eq_true rfl, Nat.le_of_ble_eq_true rfl⟩ rfl rfl rfl hl.1 rfl (Nat.le_of_ble_eq_true rfl) dL_law_924 ⟨Nat.le_of_ble_eq_true rfl, Nat.le_of_ble_eq_true rfl⟩ (fun r38 σ37 τ37 H locs h37 hP hS => ?_)
      obtain ⟨rfl, f39, f40, I41, I42, p43, h37⟩ := h37
      refine lv_pop hx hb dL_law_927 rfl ?_
      refine lv_goto (tgt := 1357) hx hb dL_law_928 (of_decide_eq_true rfl) ?_
      obtain ⟨x45, ex45⟩ : ∃ y : Int32, y = x0 + 6 := ⟨_, rfl⟩
      exact by
       have tx45 : x45.toInt = x0.toInt + 6 := (jadd ex45 rfl jz_6 (by omega) (by omega)).trans (by omega)
       refine lv_iinc (v := x45) (lv' := [(3, .int x45), (2, .ref (ad 55)), (1, .ref (ad 0)), (0, .ref b)]) hx hb dL_law_1357 hl (k := 0) rfl (by rw [ex45]; rfl) (of_decide_eq_true rfl) rfl (fun ls hl => ?_)
       refine lv_goto (tgt := 18) hx hb dL_law_1360 (of_decide_eq_true rfl) ?_
       have I46 : jI2 σ37 := jI2_fr ((congrFun (f39 2 (of_decide_eq_true rfl)) 0).trans (congrFun (f22 2 (of_decide_eq_true rfl)) 0)) ((congrFun (f39 2 (of_decide_eq_true rfl)) 1).trans (congrFun (f22 2 (of_decide_eq_true rfl)) 1)) ((congrFun (f39 2 (of_decide_eq_true rfl)) 2).trans (congrFun (f22 2 (of_decide_eq_true rfl)) 2)) ((congrFun (f39 2 (of_decide_eq_true rfl)) 3).trans (congrFun (f22 2 (of_decide_eq_true rfl)) 3)) ((f39 6 (of_decide_eq_true rfl)).trans (f22 6 (of_decide_eq_true rfl))) hI2
       have I47 : jI9 σ37 := jI9_fr ((congrFun (f39 9 (of_decide_eq_true rfl)) 0).trans (congrFun (f22 9 (of_decide_eq_true rfl)) 0)) ((f39 10 (of_decide_eq_true rfl)).trans (f22 10 (of_decide_eq_true rfl))) ((f39 11 (of_decide_eq_true rfl)).trans (f22 11 (of_decide_eq_true rfl))) hI9
       have I48 : jI12 σ37 := jI12_fr ((congrFun (f39 12 (of_decide_eq_true rfl)) 0).trans (congrFun (f22 12 (of_decide_eq_true rfl)) 0)) ((f39 13 (of_decide_eq_true rfl)).trans (f22 13 (of_decide_eq_true rfl))) hI12
       have I49 : jI16 σ37 := jI16_fr ((congrFun (f39 16 (of_decide_eq_true rfl)) 0).trans (congrFun (f22 16 (of_decide_eq_true rfl)) 0)) ((congrFun (f39 16 (of_decide_eq_true rfl)) 1).trans (congrFun (f22 16 (of_decide_eq_true rfl)) 1)) ((congrFun (f39 16 (of_decide_eq_true rfl)) 2).trans (congrFun (f22 16 (of_decide_eq_true rfl)) 2)) ((f39 17 (of_decide_eq_true rfl)).trans (f22 17 (of_decide_eq_true rfl))) hI16
       have I50 : jI18 σ37 := jI18_fr ((congrFun (f39 18 (of_decide_eq_true rfl)) 0).trans (congrFun (f22 18 (of_decide_eq_true rfl)) 0)) ((f39 19 (of_decide_eq_true rfl)).trans (f22 19 (of_decide_eq_true rfl))) hI18
       have I51 : jI22 σ37 := jI22_fr ((congrFun (f39 22 (of_decide_eq_true rfl)) 0).trans (congrFun (f22 22 (of_decide_eq_true rfl)) 0)) ((f39 23 (of_decide_eq_true rfl)).trans (f22 23 (of_decide_eq_true rfl))) hI22
       exact by
        have I52 : jI31 σ37 := jI31_fr (congrFun (f39 31 (of_decide_eq_true rfl)) 8) (f39 33 (of_decide_eq_true rfl)) (f39 36 (of_decide_eq_true rfl)) I25
        have I53 : jI38 σ37 := jI38_fr ((congrFun (f39 38 (of_decide_eq_true rfl)) 0).trans (congrFun (f22 38 (of_decide_eq_true rfl)) 0)) ((congrFun (f39 38 (of_decide_eq_true rfl)) 1).trans (congrFun (f22 38 (of_decide_eq_true rfl)) 1)) ((f39 39 (of_decide_eq_true rfl)).trans (f22 39 (of_decide_eq_true rfl))) hI38
        have I54 : jI43 σ37 := jI43_fr (congrFun (f39 43 (of_decide_eq_true rfl)) 8) I26
        have I55 : jI47 σ37 := jI47_fr ((congrFun (f39 47 (of_decide_eq_true rfl)) 0).trans (congrFun (f22 47 (of_decide_eq_true rfl)) 0)) ((f39 48 (of_decide_eq_true rfl)).trans (f22 48 (of_decide_eq_true rfl))) ((f39 49 (of_decide_eq_true rfl)).trans (f22 49 (of_decide_eq_true rfl))) hI47
        have I56 : jI50 σ37 := jI50_fr ((f39 52 (of_decide_eq_true rfl)).trans (f22 52 (of_decide_eq_true rfl))) hI50
        have I57 : jI101 σ37 := jI101_fr (f40 4 (of_decide_eq_true rfl)) (f40 5 (of_decide_eq_true rfl)) (f39 56 (of_decide_eq_true rfl)) (f39 57 (of_decide_eq_true rfl)) (f39 58 (of_decide_eq_true rfl)) (f39 59 (of_decide_eq_true rfl)) I28
        have I58 : jI102 σ37 := jI102_fr (f40 6 (of_decide_eq_true rfl)) (f39 60 (of_decide_eq_true rfl)) (f39 61 (of_decide_eq_true rfl)) I29
        have I59 : jI103 σ37 := jI103_fr (f40 9 (of_decide_eq_true rfl)) I30
        have I60 : jI104 σ37 := jI104_fr (f40 10 (of_decide_eq_true rfl)) (f40 12 (of_decide_eq_true rfl)) (f40 13 (of_decide_eq_true rfl)) (f39 62 (of_decide_eq_true rfl)) (f39 67 (of_decide_eq_true rfl)) I31
        have I61 : jI105 σ37 := jI105_fr (f40 15 (of_decide_eq_true rfl)) (f39 65 (of_decide_eq_true rfl)) I32
        have I62 : jI106 σ37 := jI106_fr (f40 32 (of_decide_eq_true rfl)) (f39 70 (of_decide_eq_true rfl)) (f39 71 (of_decide_eq_true rfl)) (f39 72 (of_decide_eq_true rfl)) I33
        have I63 : jI107 σ37 := jI107_fr ((f40 12 (of_decide_eq_true rfl)).trans (congrFun (f22 55 (of_decide_eq_true rfl)) 12)) ((f40 47 (of_decide_eq_true rfl)).trans (congrFun (f22 55 (of_decide_eq_true rfl)) 47)) ((f39 80 (of_decide_eq_true rfl)).trans (f22 80 (of_decide_eq_true rfl))) hI107
        have I64 : jI110 σ37 := jI110_fr ((f39 86 (of_decide_eq_true rfl)).trans (f22 86 (of_decide_eq_true rfl))) ((f39 87 (of_decide_eq_true rfl)).trans (f22 87 (of_decide_eq_true rfl))) hI110
        have I65 : jI111 σ37 := jI111_fr ((f39 79 (of_decide_eq_true rfl)).trans (f22 79 (of_decide_eq_true rfl))) hI111
        have p66 : jBook σ37 := jBook.fr ((f40 47 (of_decide_eq_true rfl)).trans (congrFun (f22 55 (of_decide_eq_true rfl)) 47)) ((f40 10 (of_decide_eq_true rfl)).trans (congrFun (f22 55 (of_decide_eq_true rfl)) 10)) ((f39 81 (of_decide_eq_true rfl)).trans (f22 81 (of_decide_eq_true rfl))) hs_jBook
        have z67 : (σ37 9 0).toInt = (σ 9 0).toInt := (congrArg Int32.toInt (show σ37 9 0 = (σ 9 0) from ((congrFun (f39 9 (of_decide_eq_true rfl)) 0).trans (congrFun (f22 9 (of_decide_eq_true rfl)) 0))))
        have z68 : (σ37 55 15).toInt = (σ 55 15).toInt := (congrArg Int32.toInt (show σ37 55 15 = (σ 55 15) from ((f40 15 (of_decide_eq_true rfl)).trans (congrFun (f22 55 (of_decide_eq_true rfl)) 15))))
        have z69 : (σ37 16 0).toInt = (σ 16 0).toInt := (congrArg Int32.toInt (show σ37 16 0 = (σ 16 0) from ((congrFun (f39 16 (of_decide_eq_true rfl)) 0).trans (congrFun (f22 16 (of_decide_eq_true rfl)) 0))))
        have z70 : (σ37 55 10).toInt = (σ 55 10).toInt := (congrArg Int32.toInt (show σ37 55 10 = (σ 55 10) from ((f40 10 (of_decide_eq_true rfl)).trans (congrFun (f22 55 (of_decide_eq_true rfl)) 10))))
        have z71 : (σ37 16 1).toInt = (σ 16 1).toInt := (congrArg Int32.toInt (show σ37 16 1 = (σ 16 1) from ((congrFun (f39 16 (of_decide_eq_true rfl)) 1).trans (congrFun (f22 16 (of_decide_eq_true rfl)) 1))))
        have z72 : (σ37 55 12).toInt = (σ 55 12).toInt := (congrArg Int32.toInt (show σ37 55 12 = (σ 55 12) from ((f40 12 (of_decide_eq_true rfl)).trans (congrFun (f22 55 (of_decide_eq_true rfl)) 12))))
        have z73 : (σ37 16 2).toInt = (σ 16 2).toInt := (congrArg Int32.toInt (show σ37 16 2 = (σ 16 2) from ((congrFun (f39 16 (of_decide_eq_true rfl)) 2).trans (congrFun (f22 16 (of_decide_eq_true rfl)) 2))))
        have z74 : (σ37 55 13).toInt = (σ 55 13).toInt := (congrArg Int32.toInt (show σ37 55 13 = (σ 55 13) from ((f40 13 (of_decide_eq_true rfl)).trans (congrFun (f22 55 (of_decide_eq_true rfl)) 13))))
        exact by exact ih x45 σ37 τ _ _ ls (by have h9 := tx45; omega) ⟨I46, I47, I48, I49, I50, I51, I52, I53, I54, I55, I56, I57, I58, I59, I60, I61, I62, I63, I41, I64, I65, I42, p43, p66, (by omega), (by omega), (by omega), (by omega), (show jTp (σ37 10) (σ37 63) (σ37 55 15).toInt by rw [show σ37 10 = σ 10 from ((f39 10 (of_decide_eq_true rfl)).trans (f22 10 (of_decide_eq_true rfl))), show σ37 63 = σ 63 from ((f39 63 (of_decide_eq_true rfl)).trans (f22 63 (of_decide_eq_true rfl)))]; exact hr0.le (by omega)), (show jSo (σ37 17) (σ37 62) (σ37 16 0).toInt by rw [show σ37 17 = σ 17 from ((f39 17 (of_decide_eq_true rfl)).trans (f22 17 (of_decide_eq_true rfl))), show σ37 62 = σ 62 from ((f39 62 (of_decide_eq_true rfl)).trans (f22 62 (of_decide_eq_true rfl))), show (σ37 16 0).toInt = (σ 16 0).toInt from by omega]; exact hr1)⟩ hP hS (lv_sub hl [0, 1, 2, 3] rfl)
set_option maxHeartbeats 4000000 in
set_option maxRecDepth 100000 in
theorem law_case_25 {p : Program} {e : Env} {s : State} {m : MethodId} {below : List Frame} {meth : Method} {c : Code} (l : Launch) {b L : Nat} {xs : Nat → Int32} {D : va_G} {cI cL : ClassId} {ad zz : Nat → Nat} (C0 : lw_At p s m meth c b L xs) (hJ : jD ad) (hA : ∀ q, jA ad q → s.heap.size ≤ q) (hK : jK D cI cL s) (hZ : jZ zz (fun q : Nat => s.heap.size ≤ q) s s.heap) {x0 : Int32} (hx0 : 0 ≤ x0.toInt) (hxL : x0.toInt + 6 ≤ (L : Int)) (hL : L ≤ 384) {σ : Nat → Nat → Int32} {τ : Nat → Nat → Int64} {H : Heap} {locs : List Loc} (hS : va_S (fun q : Nat => s.heap.size ≤ q) s.heap H locs) {ls : Array Slot} (hAll : jAll σ τ) (hP : jH D cI cL ad σ τ H) (hl : lv_has ls 4 [(3, .int x0), (2, .ref (ad 55)), (1, .ref (ad 0)), (0, .ref b)]) (ih : ∀ (x1 : Int32) (σ : Nat → Nat → Int32) (τ : Nat → Nat → Int64) (H : Heap) (locs : List Loc) (ls : Array Slot), x1.toInt = x0.toInt + 6 → jAll σ τ → jH D cI cL ad σ τ H → va_S (fun q : Nat => s.heap.size ≤ q) s.heap H locs → lv_has ls 4 [(3, .int x1), (2, .ref (ad 55)), (1, .ref (ad 0)), (0, .ref b)] → W p l e room_1 s m #[Value.ref b] below meth c H locs 90 348600 (lw_Z below #[Value.ref b] s) (F0 m 18 ls [])) : W p l e room_1 s m #[Value.ref b] below meth c H locs 90 348600 (lw_Z below #[Value.ref b] s) (F0 m 931 ls []) := by
  obtain ⟨hx, hb, hr, hml, hown, hts0, hX, hbl, hlocks, hgv⟩ := C0
  have hts : ∀ w ∈ wsL_law, w.before #[Value.ref b] s = true := fun w h => hts0 w (wsL_law_in w h)
  have hbA : ¬ (fun q : Nat => s.heap.size ≤ q) b := Nat.not_le.mpr hbl
  have hown : s.vm.findClass RL = some m.cls := hown
  obtain ⟨hI2, hI9, hI12, hI16, hI18, hI22, hI31, hI38, hI43, hI47, hI50, hI101, hI102, hI103, hI104, hI105, hI106, hI107, hI109, hI110, hI111, hI119, hs_jKept, hs_jBook, ht0, ht1, ht2, ht3, hr0, hr1⟩ := hAll
  have hL9 : (L : Int) ≤ 384 := by omega
  obtain ⟨i1, w2, w3⟩ : (0 ≤ (σ 9 0).toInt ∧ (σ 9 0).toInt ≤ 80) ∧ (∀ k : Nat, k < 80 → 0 ≤ (σ 10 k).toInt ∧ (σ 10 k).toInt ≤ 255) ∧ (∀ k : Nat, k < 8 → 0 ≤ (σ 11 k).toInt ∧ (σ 11 k).toInt ≤ 3) := id hI9
  obtain ⟨i4, i5, i6, w7⟩ : (1 ≤ (σ 16 0).toInt ∧ (σ 16 0).toInt ≤ 8) ∧ (1 ≤ (σ 16 1).toInt ∧ (σ 16 1).toInt ≤ 12) ∧ (0 ≤ (σ 16 2).toInt ∧ (σ 16 2).toInt ≤ 999) ∧ (∀ k : Nat, k < 8 → 0 ≤ (σ 17 k).toInt ∧ (σ 17 k).toInt ≤ 3) := id hI16
  obtain ⟨i8, i9, i10, w11, w12⟩ : (1 ≤ (σ 55 10).toInt ∧ (σ 55 10).toInt ≤ 8) ∧ (1 ≤ (σ 55 12).toInt ∧ (σ 55 12).toInt ≤ 12) ∧ (0 ≤ (σ 55 13).toInt ∧ (σ 55 13).toInt ≤ 999) ∧ (∀ k : Nat, k < 8 → 0 ≤ (σ 62 k).toInt ∧ (σ 62 k).toInt ≤ 3) ∧ (∀ k : Nat, k < 8 → 0 ≤ (σ 67 k).toInt ∧ (σ 67 k).toInt ≤ 3) := id hI104
  obtain ⟨i13, w14⟩ : (0 ≤ (σ 55 15).toInt ∧ (σ 55 15).toInt ≤ 80) ∧ (∀ k : Nat, k < 2 → (-1) ≤ (σ 65 k).toInt ∧ (σ 65 k).toInt ≤ 80) := id hI105
  refine lv_aload_n hx hb dL_law_931 rfl (lv_at hl 2 rfl) ?_
  refine lv_aload_n hx hb dL_law_932 rfl (lv_at hl 3 rfl) ?_
  refine lv_iload_n hx hb dL_law_933 rfl (lv_at hl 0 rfl) ?_
  refine lv_iconst (v := 1) hx hb dL_law_934 (of_decide_eq_true rfl) ?_
  have g15 := jrg (rfl : x0.toInt = x0.toInt)
  refine lv_iadd hx hb dL_law_935 ?_
  refine lv_topi (fun x16 ex16 => ?_)
  exact by
   have tx16 : x16.toInt = x0.toInt + 1 := (jadd ex16 rfl jz_1 (by omega) (by omega)).trans (by omega)
   refine va_sld hx hb hX hbl hbA hS (jin tx16 (by omega) (by omega)) dL_law_936 ?_
   have g17 := jrg (rfl : (xs x16.toNatClampNeg).toInt = (xs x16.toNatClampNeg).toInt)
   refine lv_aload_n hx hb dL_law_937 rfl (lv_at hl 3 rfl) ?_
   refine lv_iload_n hx hb dL_law_938 rfl (lv_at hl 0 rfl) ?_
   refine lv_iconst (v := 2) hx hb dL_law_939 (of_decide_eq_true rfl) ?_
   refine lv_iadd hx hb dL_law_940 ?_
   refine lv_topi (fun x18 ex18 => ?_)
   have tx18 : x18.toInt = x0.toInt + 2 := (jadd ex18 rfl jz_2 (by omega) (by omega)).trans (by omega)
   exact by
    refine va_sld hx hb hX hbl hbA hS (jin tx18 (by omega) (by omega)) dL_law_941 ?_
    have g19 := jrg (rfl : (xs x18.toNatClampNeg).toInt = (xs x18.toNatClampNeg).toInt)
    refine jcallV (As := [.int (xs x16.toNatClampNeg), .int (xs x18.toNatClampNeg)]) (rest := []) ⟨hx, hb, hml, hown, hts⟩ hK hP hA hS hZ (c_X11_led l D cI cL ad zz hJ σ τ (xs x16.toNatClampNeg) ((xs x16.toNatClampNeg).toInt) rfl (xs x18.toNatClampNeg) ((xs x18.toNatClampNeg).toInt) rfl hI43) cw_RL_117 (jc_0 cI cL ad σ τ) rfl ⟨Nat.le_of_ble_eq_true rfl, Nat.le_of_ble_eq_true rfl⟩ rfl rfl rfl hl.1 rfl (Nat.le_of_ble_eq_true rfl) dL_law_942 ⟨Nat.le_of_ble_eq_true rfl, Nat.le_of_ble_eq_true rfl⟩ (fun r21 σ20 τ20 H locs h20 hP hS => ?_)
    obtain ⟨⟨rfl, rfl⟩, h20⟩ := h20
    refine lv_pop hx hb dL_law_945 rfl ?_
    refine lv_aload_n hx hb dL_law_946 rfl (lv_at hl 1 rfl) ?_
    refine lv_aload_n hx hb dL_law_947 rfl (lv_at hl 3 rfl) ?_
    refine lv_iload_n hx hb dL_law_948 rfl (lv_at hl 0 rfl) ?_
    refine lv_iconst (v := 1) hx hb dL_law_949 (of_decide_eq_true rfl) ?_
    refine lv_iadd hx hb dL_law_950 ?_
    refine jtopr ex16.symm ?_
    exact by
     refine va_sld hx hb hX hbl hbA hS (jin tx16 (by omega) (by omega)) dL_law_951 ?_
     refine lv_aload_n hx hb dL_law_952 rfl (lv_at hl 3 rfl) ?_
     refine lv_iload_n hx hb dL_law_953 rfl (lv_at hl 0 rfl) ?_
     refine lv_iconst (v := 2) hx hb dL_law_954 (of_decide_eq_true rfl) ?_
     refine lv_iadd hx hb dL_law_955 ?_
     refine jtopr ex18.symm ?_
     refine va_sld hx hb hX hbl hbA hS (jin tx18 (by omega) (by omega)) dL_law_956 ?_
     refine jcallV (As := [.int (xs x16.toNatClampNeg), .int (xs x18.toNatClampNeg)]) (rest := []) ⟨hx, hb, hml, hown, hts⟩ hK hP hA hS hZ (c_X12_led l D cI cL ad zz hJ σ τ (xs x16.toNatClampNeg) ((xs x16.toNatClampNeg).toInt) rfl (xs x18.toNatClampNeg) ((xs x18.toNatClampNeg).toInt) rfl hI109) cw_RL_120 (jc_55 cI cL ad σ τ) rfl ⟨Nat.le_of_ble_eq_true rfl, Nat.le_of_ble_eq_true rfl⟩ rfl rfl rfl hl.1 rfl (Nat.le_of_ble_eq_true rfl) dL_law_957 ⟨Nat.le_of_ble_eq_true rfl, Nat.le_of_ble_eq_true rfl⟩ (fun r23 σ22 τ22 H locs h22 hP hS => ?_)
     obtain ⟨⟨rfl, rfl⟩, h22⟩ := h22
     exact by
      refine lv_pop hx hb dL_law_960 rfl ?_
      refine lv_goto (tgt := 1357) hx hb dL_law_961 (of_decide_eq_true rfl) ?_
      obtain ⟨x24, ex24⟩ : ∃ y : Int32, y = x0 + 6 := ⟨_, rfl⟩
      have tx24 : x24.toInt = x0.toInt + 6 := (jadd ex24 rfl jz_6 (by omega) (by omega)).trans (by omega)
      refine lv_iinc (v := x24) (lv' := [(3, .int x24), (2, .ref (ad 55)), (1, .ref (ad 0)), (0, .ref b)]) hx hb dL_law_1357 hl (k := 0) rfl (by rw [ex24]; rfl) (of_decide_eq_true rfl) rfl (fun ls hl => ?_)
      refine lv_goto (tgt := 18) hx hb dL_law_1360 (of_decide_eq_true rfl) ?_
      exact by exact ih x24 σ τ _ _ ls (by have h9 := tx24; omega) ⟨hI2, hI9, hI12, hI16, hI18, hI22, hI31, hI38, hI43, hI47, hI50, hI101, hI102, hI103, hI104, hI105, hI106, hI107, hI109, hI110, hI111, hI119, hs_jKept, hs_jBook, (by omega), (by omega), (by omega), (by omega), hr0, hr1⟩ hP hS (lv_sub hl [0, 1, 2, 3] rfl)
set_option maxHeartbeats 4000000 in
set_option maxRecDepth 100000 in
theorem law_case_26 {p : Program} {e : Env} {s : State} {m : MethodId} {below : List Frame} {meth : Method} {c : Code} (l : Launch) {b L : Nat} {xs : Nat → Int32} {D : va_G} {cI cL : ClassId} {ad zz : Nat → Nat} (C0 : lw_At p s m meth c b L xs) (hJ : jD ad) (hA : ∀ q, jA ad q → s.heap.size ≤ q) (hK : jK D cI cL s) (hZ : jZ zz (fun q : Nat => s.heap.size ≤ q) s s.heap) {x0 : Int32} (hx0 : 0 ≤ x0.toInt) (hxL : x0.toInt + 6 ≤ (L : Int)) (hL : L ≤ 384) {σ : Nat → Nat → Int32} {τ : Nat → Nat → Int64} {H : Heap} {locs : List Loc} (hS : va_S (fun q : Nat => s.heap.size ≤ q) s.heap H locs) {ls : Array Slot} (hAll : jAll σ τ) (hP : jH D cI cL ad σ τ H) (hl : lv_has ls 4 [(3, .int x0), (2, .ref (ad 55)), (1, .ref (ad 0)), (0, .ref b)]) (ih : ∀ (x1 : Int32) (σ : Nat → Nat → Int32) (τ : Nat → Nat → Int64) (H : Heap) (locs : List Loc) (ls : Array Slot), x1.toInt = x0.toInt + 6 → jAll σ τ → jH D cI cL ad σ τ H → va_S (fun q : Nat => s.heap.size ≤ q) s.heap H locs → lv_has ls 4 [(3, .int x1), (2, .ref (ad 55)), (1, .ref (ad 0)), (0, .ref b)] → W p l e room_1 s m #[Value.ref b] below meth c H locs 90 348600 (lw_Z below #[Value.ref b] s) (F0 m 18 ls [])) : W p l e room_1 s m #[Value.ref b] below meth c H locs 90 348600 (lw_Z below #[Value.ref b] s) (F0 m 964 ls []) := by
  obtain ⟨hx, hb, hr, hml, hown, hts0, hX, hbl, hlocks, hgv⟩ := C0
  have hts : ∀ w ∈ wsL_law, w.before #[Value.ref b] s = true := fun w h => hts0 w (wsL_law_in w h)
  have hbA : ¬ (fun q : Nat => s.heap.size ≤ q) b := Nat.not_le.mpr hbl
  have hown : s.vm.findClass RL = some m.cls := hown
  obtain ⟨hI2, hI9, hI12, hI16, hI18, hI22, hI31, hI38, hI43, hI47, hI50, hI101, hI102, hI103, hI104, hI105, hI106, hI107, hI109, hI110, hI111, hI119, hs_jKept, hs_jBook, ht0, ht1, ht2, ht3, hr0, hr1⟩ := hAll
  have hL9 : (L : Int) ≤ 384 := by omega
  obtain ⟨i1, w2, w3⟩ : (0 ≤ (σ 9 0).toInt ∧ (σ 9 0).toInt ≤ 80) ∧ (∀ k : Nat, k < 80 → 0 ≤ (σ 10 k).toInt ∧ (σ 10 k).toInt ≤ 255) ∧ (∀ k : Nat, k < 8 → 0 ≤ (σ 11 k).toInt ∧ (σ 11 k).toInt ≤ 3) := id hI9
  obtain ⟨i4, i5, i6, w7⟩ : (1 ≤ (σ 16 0).toInt ∧ (σ 16 0).toInt ≤ 8) ∧ (1 ≤ (σ 16 1).toInt ∧ (σ 16 1).toInt ≤ 12) ∧ (0 ≤ (σ 16 2).toInt ∧ (σ 16 2).toInt ≤ 999) ∧ (∀ k : Nat, k < 8 → 0 ≤ (σ 17 k).toInt ∧ (σ 17 k).toInt ≤ 3) := id hI16
  obtain ⟨i8, i9, i10, w11, w12⟩ : (1 ≤ (σ 55 10).toInt ∧ (σ 55 10).toInt ≤ 8) ∧ (1 ≤ (σ 55 12).toInt ∧ (σ 55 12).toInt ≤ 12) ∧ (0 ≤ (σ 55 13).toInt ∧ (σ 55 13).toInt ≤ 999) ∧ (∀ k : Nat, k < 8 → 0 ≤ (σ 62 k).toInt ∧ (σ 62 k).toInt ≤ 3) ∧ (∀ k : Nat, k < 8 → 0 ≤ (σ 67 k).toInt ∧ (σ 67 k).toInt ≤ 3) := id hI104
  obtain ⟨i13, w14⟩ : (0 ≤ (σ 55 15).toInt ∧ (σ 55 15).toInt ≤ 80) ∧ (∀ k : Nat, k < 2 → (-1) ≤ (σ 65 k).toInt ∧ (σ 65 k).toInt ≤ 80) := id hI105
  refine lv_aload_n hx hb dL_law_964 rfl (lv_at hl 2 rfl) ?_
  refine jcallV (As := []) (rest := []) ⟨hx, hb, hml, hown, hts⟩ hK hP hA hS hZ (c_X11_undo l D cI cL ad zz hJ σ τ hI2) cw_RL_121 (jc_0 cI cL ad σ τ) rfl ⟨Nat.le_of_ble_eq_true rfl, Nat.le_of_ble_eq_true rfl⟩ rfl rfl rfl hl.1 rfl (Nat.le_of_ble_eq_true rfl) dL_law_965 ⟨Nat.le_of_ble_eq_true rfl, Nat.le_of_ble_eq_true rfl⟩ (fun r16 σ15 τ15 H locs h15 hP hS => ?_)
  obtain ⟨rfl, f17, f18, I19, h15⟩ := h15
  rcases h15 with h21 | h22
  · obtain ⟨q27, k23, k24, k25, k26⟩ := h21
    have q27 := q27.symm
    subst q27
    refine lv_pop hx hb dL_law_968 rfl ?_
    refine lv_aload_n hx hb dL_law_969 rfl (lv_at hl 1 rfl) ?_
    have I28 : jI101 σ15 := jI101_fr (congrFun (f17 55 (of_decide_eq_true rfl)) 4) (congrFun (f17 55 (of_decide_eq_true rfl)) 5) (f17 56 (of_decide_eq_true rfl)) (f17 57 (of_decide_eq_true rfl)) (f17 58 (of_decide_eq_true rfl)) (f17 59 (of_decide_eq_true rfl)) hI101
    have z29 : (σ15 55 5).toInt = (σ 55 5).toInt := (congrArg Int32.toInt (show σ15 55 5 = (σ 55 5) from (congrFun (f17 55 (of_decide_eq_true rfl)) 5)))
    refine jcallV (As := []) (rest := []) ⟨hx, hb, hml, hown, hts⟩ hK hP hA hS hZ (c_X12_undo l D cI cL ad zz hJ σ15 τ I28) cw_RL_124 (jc_55 cI cL ad σ15 τ) rfl ⟨Nat.le_of_ble_eq_true rfl, Nat.le_of_ble_eq_true rfl⟩ rfl rfl rfl hl.1 rfl (Nat.le_of_ble_eq_true rfl) dL_law_970 ⟨Nat.le_of_ble_eq_true rfl, Nat.le_of_ble_eq_true rfl⟩ (fun r31 σ30 τ30 H locs h30 hP hS => ?_)
    obtain ⟨rfl, f32, f33, I34, h30⟩ := h30
    rcases h30 with h36 | h37
    · obtain ⟨q41, k38, k39, k40⟩ := h36
      have q41 := q41.symm
      subst q41
      refine lv_pop hx hb dL_law_973 rfl ?_
      refine lv_goto (tgt := 1357) hx hb dL_law_974 (of_decide_eq_true rfl) ?_
      obtain ⟨x42, ex42⟩ : ∃ y : Int32, y = x0 + 6 := ⟨_, rfl⟩
      exact by
       have tx42 : x42.toInt = x0.toInt + 6 := (jadd ex42 rfl jz_6 (by omega) (by omega)).trans (by omega)
       refine lv_iinc (v := x42) (lv' := [(3, .int x42), (2, .ref (ad 55)), (1, .ref (ad 0)), (0, .ref b)]) hx hb dL_law_1357 hl (k := 0) rfl (by rw [ex42]; rfl) (of_decide_eq_true rfl) rfl (fun ls hl => ?_)
       refine lv_goto (tgt := 18) hx hb dL_law_1360 (of_decide_eq_true rfl) ?_
       have I43 : jI2 σ30 := jI2_fr (congrFun (f32 2 (of_decide_eq_true rfl)) 0) (congrFun (f32 2 (of_decide_eq_true rfl)) 1) (congrFun (f32 2 (of_decide_eq_true rfl)) 2) (congrFun (f32 2 (of_decide_eq_true rfl)) 3) (f32 6 (of_decide_eq_true rfl)) I19
       have I44 : jI9 σ30 := jI9_fr ((congrFun (f32 9 (of_decide_eq_true rfl)) 0).trans (congrFun (f17 9 (of_decide_eq_true rfl)) 0)) ((f32 10 (of_decide_eq_true rfl)).trans (f17 10 (of_decide_eq_true rfl))) ((f32 11 (of_decide_eq_true rfl)).trans (f17 11 (of_decide_eq_true rfl))) hI9
       have I45 : jI12 σ30 := jI12_fr ((congrFun (f32 12 (of_decide_eq_true rfl)) 0).trans (congrFun (f17 12 (of_decide_eq_true rfl)) 0)) ((f32 13 (of_decide_eq_true rfl)).trans (f17 13 (of_decide_eq_true rfl))) hI12
       have I46 : jI16 σ30 := jI16_fr ((congrFun (f32 16 (of_decide_eq_true rfl)) 0).trans (congrFun (f17 16 (of_decide_eq_true rfl)) 0)) ((congrFun (f32 16 (of_decide_eq_true rfl)) 1).trans (congrFun (f17 16 (of_decide_eq_true rfl)) 1)) ((congrFun (f32 16 (of_decide_eq_true rfl)) 2).trans (congrFun (f17 16 (of_decide_eq_true rfl)) 2)) ((f32 17 (of_decide_eq_true rfl)).trans (f17 17 (of_decide_eq_true rfl))) hI16
       have I47 : jI18 σ30 := jI18_fr ((congrFun (f32 18 (of_decide_eq_true rfl)) 0).trans (congrFun (f17 18 (of_decide_eq_true rfl)) 0)) ((f32 19 (of_decide_eq_true rfl)).trans (f17 19 (of_decide_eq_true rfl))) hI18
       have I48 : jI22 σ30 := jI22_fr ((congrFun (f32 22 (of_decide_eq_true rfl)) 0).trans (congrFun (f17 22 (of_decide_eq_true rfl)) 0)) ((f32 23 (of_decide_eq_true rfl)).trans (f17 23 (of_decide_eq_true rfl))) hI22
       exact by
        have I49 : jI31 σ30 := jI31_fr ((congrFun (f32 31 (of_decide_eq_true rfl)) 8).trans (congrFun (f17 31 (of_decide_eq_true rfl)) 8)) ((f32 33 (of_decide_eq_true rfl)).trans (f17 33 (of_decide_eq_true rfl))) ((f32 36 (of_decide_eq_true rfl)).trans (f17 36 (of_decide_eq_true rfl))) hI31
        have I50 : jI38 σ30 := jI38_fr ((congrFun (f32 38 (of_decide_eq_true rfl)) 0).trans (congrFun (f17 38 (of_decide_eq_true rfl)) 0)) ((congrFun (f32 38 (of_decide_eq_true rfl)) 1).trans (congrFun (f17 38 (of_decide_eq_true rfl)) 1)) ((f32 39 (of_decide_eq_true rfl)).trans (f17 39 (of_decide_eq_true rfl))) hI38
        have I51 : jI43 σ30 := jI43_fr ((congrFun (f32 43 (of_decide_eq_true rfl)) 8).trans (congrFun (f17 43 (of_decide_eq_true rfl)) 8)) hI43
        have I52 : jI47 σ30 := jI47_fr ((congrFun (f32 47 (of_decide_eq_true rfl)) 0).trans (congrFun (f17 47 (of_decide_eq_true rfl)) 0)) ((f32 48 (of_decide_eq_true rfl)).trans (f17 48 (of_decide_eq_true rfl))) ((f32 49 (of_decide_eq_true rfl)).trans (f17 49 (of_decide_eq_true rfl))) hI47
        have I53 : jI50 σ30 := jI50_fr ((f32 52 (of_decide_eq_true rfl)).trans (f17 52 (of_decide_eq_true rfl))) hI50
        have I54 : jI102 σ30 := jI102_fr ((f33 6 (of_decide_eq_true rfl)).trans (congrFun (f17 55 (of_decide_eq_true rfl)) 6)) ((f32 60 (of_decide_eq_true rfl)).trans (f17 60 (of_decide_eq_true rfl))) ((f32 61 (of_decide_eq_true rfl)).trans (f17 61 (of_decide_eq_true rfl))) hI102
        have I55 : jI103 σ30 := jI103_fr ((f33 9 (of_decide_eq_true rfl)).trans (congrFun (f17 55 (of_decide_eq_true rfl)) 9)) hI103
        have I56 : jI104 σ30 := jI104_fr ((f33 10 (of_decide_eq_true rfl)).trans (congrFun (f17 55 (of_decide_eq_true rfl)) 10)) ((f33 12 (of_decide_eq_true rfl)).trans (congrFun (f17 55 (of_decide_eq_true rfl)) 12)) ((f33 13 (of_decide_eq_true rfl)).trans (congrFun (f17 55 (of_decide_eq_true rfl)) 13)) ((f32 62 (of_decide_eq_true rfl)).trans (f17 62 (of_decide_eq_true rfl))) ((f32 67 (of_decide_eq_true rfl)).trans (f17 67 (of_decide_eq_true rfl))) hI104
        have I57 : jI105 σ30 := jI105_fr ((f33 15 (of_decide_eq_true rfl)).trans (congrFun (f17 55 (of_decide_eq_true rfl)) 15)) ((f32 65 (of_decide_eq_true rfl)).trans (f17 65 (of_decide_eq_true rfl))) hI105
        have I58 : jI106 σ30 := jI106_fr ((f33 32 (of_decide_eq_true rfl)).trans (congrFun (f17 55 (of_decide_eq_true rfl)) 32)) ((f32 70 (of_decide_eq_true rfl)).trans (f17 70 (of_decide_eq_true rfl))) ((f32 71 (of_decide_eq_true rfl)).trans (f17 71 (of_decide_eq_true rfl))) ((f32 72 (of_decide_eq_true rfl)).trans (f17 72 (of_decide_eq_true rfl))) hI106
        have I59 : jI107 σ30 := jI107_fr ((f33 12 (of_decide_eq_true rfl)).trans (congrFun (f17 55 (of_decide_eq_true rfl)) 12)) ((f33 47 (of_decide_eq_true rfl)).trans (congrFun (f17 55 (of_decide_eq_true rfl)) 47)) ((f32 80 (of_decide_eq_true rfl)).trans (f17 80 (of_decide_eq_true rfl))) hI107
        have I60 : jI109 σ30 := jI109_fr ((f33 50 (of_decide_eq_true rfl)).trans (congrFun (f17 55 (of_decide_eq_true rfl)) 50)) hI109
        have I61 : jI110 σ30 := jI110_fr ((f32 86 (of_decide_eq_true rfl)).trans (f17 86 (of_decide_eq_true rfl))) ((f32 87 (of_decide_eq_true rfl)).trans (f17 87 (of_decide_eq_true rfl))) hI110
        have I62 : jI111 σ30 := jI111_fr ((f32 79 (of_decide_eq_true rfl)).trans (f17 79 (of_decide_eq_true rfl))) hI111
        have I63 : jI119 σ30 := jI119_fr ((f32 68 (of_decide_eq_true rfl)).trans (f17 68 (of_decide_eq_true rfl))) hI119
        have p64 : jKept σ30 := jKept.fr ((f32 75 (of_decide_eq_true rfl)).trans (f17 75 (of_decide_eq_true rfl))) ((f32 76 (of_decide_eq_true rfl)).trans (f17 76 (of_decide_eq_true rfl))) ((f32 77 (of_decide_eq_true rfl)).trans (f17 77 (of_decide_eq_true rfl))) hs_jKept
        have p65 : jBook σ30 := jBook.fr ((f33 47 (of_decide_eq_true rfl)).trans (congrFun (f17 55 (of_decide_eq_true rfl)) 47)) ((f33 10 (of_decide_eq_true rfl)).trans (congrFun (f17 55 (of_decide_eq_true rfl)) 10)) ((f32 81 (of_decide_eq_true rfl)).trans (f17 81 (of_decide_eq_true rfl))) hs_jBook
        have z66 : (σ30 9 0).toInt = (σ 9 0).toInt := (congrArg Int32.toInt (show σ30 9 0 = (σ 9 0) from ((congrFun (f32 9 (of_decide_eq_true rfl)) 0).trans (congrFun (f17 9 (of_decide_eq_true rfl)) 0))))
        have z67 : (σ30 55 15).toInt = (σ 55 15).toInt := (congrArg Int32.toInt (show σ30 55 15 = (σ 55 15) from ((f33 15 (of_decide_eq_true rfl)).trans (congrFun (f17 55 (of_decide_eq_true rfl)) 15))))
        have z68 : (σ30 16 0).toInt = (σ 16 0).toInt := (congrArg Int32.toInt (show σ30 16 0 = (σ 16 0) from ((congrFun (f32 16 (of_decide_eq_true rfl)) 0).trans (congrFun (f17 16 (of_decide_eq_true rfl)) 0))))
        have z69 : (σ30 55 10).toInt = (σ 55 10).toInt := (congrArg Int32.toInt (show σ30 55 10 = (σ 55 10) from ((f33 10 (of_decide_eq_true rfl)).trans (congrFun (f17 55 (of_decide_eq_true rfl)) 10))))
        have z70 : (σ30 16 1).toInt = (σ 16 1).toInt := (congrArg Int32.toInt (show σ30 16 1 = (σ 16 1) from ((congrFun (f32 16 (of_decide_eq_true rfl)) 1).trans (congrFun (f17 16 (of_decide_eq_true rfl)) 1))))
        have z71 : (σ30 55 12).toInt = (σ 55 12).toInt := (congrArg Int32.toInt (show σ30 55 12 = (σ 55 12) from ((f33 12 (of_decide_eq_true rfl)).trans (congrFun (f17 55 (of_decide_eq_true rfl)) 12))))
        have z72 : (σ30 16 2).toInt = (σ 16 2).toInt := (congrArg Int32.toInt (show σ30 16 2 = (σ 16 2) from ((congrFun (f32 16 (of_decide_eq_true rfl)) 2).trans (congrFun (f17 16 (of_decide_eq_true rfl)) 2))))
        have z73 : (σ30 55 13).toInt = (σ 55 13).toInt := (congrArg Int32.toInt (show σ30 55 13 = (σ 55 13) from ((f33 13 (of_decide_eq_true rfl)).trans (congrFun (f17 55 (of_decide_eq_true rfl)) 13))))
        exact by exact ih x42 σ30 τ _ _ ls (by have h9 := tx42; omega) ⟨I43, I44, I45, I46, I47, I48, I49, I50, I51, I52, I53, I34, I54, I55, I56, I57, I58, I59, I60, I61, I62, I63, p64, p65, (by omega), (by omega), (by omega), (by omega), (show jTp (σ30 10) (σ30 63) (σ30 55 15).toInt by rw [show σ30 10 = σ 10 from ((f32 10 (of_decide_eq_true rfl)).trans (f17 10 (of_decide_eq_true rfl))), show σ30 63 = σ 63 from ((f32 63 (of_decide_eq_true rfl)).trans (f17 63 (of_decide_eq_true rfl)))]; exact hr0.le (by omega)), (show jSo (σ30 17) (σ30 62) (σ30 16 0).toInt by rw [show σ30 17 = σ 17 from ((f32 17 (of_decide_eq_true rfl)).trans (f17 17 (of_decide_eq_true rfl))), show σ30 62 = σ 62 from ((f32 62 (of_decide_eq_true rfl)).trans (f17 62 (of_decide_eq_true rfl))), show (σ30 16 0).toInt = (σ 16 0).toInt from by omega]; exact hr1)⟩ hP hS (lv_sub hl [0, 1, 2, 3] rfl)
    · obtain ⟨q79, k74, k75, k76, k77, k78⟩ := h37
      refine lv_pop hx hb dL_law_973 rfl ?_
      refine lv_goto (tgt := 1357) hx hb dL_law_974 (of_decide_eq_true rfl) ?_
      obtain ⟨x80, ex80⟩ : ∃ y : Int32, y = x0 + 6 := ⟨_, rfl⟩
      exact by
       have tx80 : x80.toInt = x0.toInt + 6 := (jadd ex80 rfl jz_6 (by omega) (by omega)).trans (by omega)
       refine lv_iinc (v := x80) (lv' := [(3, .int x80), (2, .ref (ad 55)), (1, .ref (ad 0)), (0, .ref b)]) hx hb dL_law_1357 hl (k := 0) rfl (by rw [ex80]; rfl) (of_decide_eq_true rfl) rfl (fun ls hl => ?_)
       refine lv_goto (tgt := 18) hx hb dL_law_1360 (of_decide_eq_true rfl) ?_
       have I81 : jI2 σ30 := jI2_fr (congrFun (f32 2 (of_decide_eq_true rfl)) 0) (congrFun (f32 2 (of_decide_eq_true rfl)) 1) (congrFun (f32 2 (of_decide_eq_true rfl)) 2) (congrFun (f32 2 (of_decide_eq_true rfl)) 3) (f32 6 (of_decide_eq_true rfl)) I19
       have I82 : jI9 σ30 := jI9_fr ((congrFun (f32 9 (of_decide_eq_true rfl)) 0).trans (congrFun (f17 9 (of_decide_eq_true rfl)) 0)) ((f32 10 (of_decide_eq_true rfl)).trans (f17 10 (of_decide_eq_true rfl))) ((f32 11 (of_decide_eq_true rfl)).trans (f17 11 (of_decide_eq_true rfl))) hI9
       have I83 : jI12 σ30 := jI12_fr ((congrFun (f32 12 (of_decide_eq_true rfl)) 0).trans (congrFun (f17 12 (of_decide_eq_true rfl)) 0)) ((f32 13 (of_decide_eq_true rfl)).trans (f17 13 (of_decide_eq_true rfl))) hI12
       have I84 : jI16 σ30 := jI16_fr ((congrFun (f32 16 (of_decide_eq_true rfl)) 0).trans (congrFun (f17 16 (of_decide_eq_true rfl)) 0)) ((congrFun (f32 16 (of_decide_eq_true rfl)) 1).trans (congrFun (f17 16 (of_decide_eq_true rfl)) 1)) ((congrFun (f32 16 (of_decide_eq_true rfl)) 2).trans (congrFun (f17 16 (of_decide_eq_true rfl)) 2)) ((f32 17 (of_decide_eq_true rfl)).trans (f17 17 (of_decide_eq_true rfl))) hI16
       have I85 : jI18 σ30 := jI18_fr ((congrFun (f32 18 (of_decide_eq_true rfl)) 0).trans (congrFun (f17 18 (of_decide_eq_true rfl)) 0)) ((f32 19 (of_decide_eq_true rfl)).trans (f17 19 (of_decide_eq_true rfl))) hI18
       have I86 : jI22 σ30 := jI22_fr ((congrFun (f32 22 (of_decide_eq_true rfl)) 0).trans (congrFun (f17 22 (of_decide_eq_true rfl)) 0)) ((f32 23 (of_decide_eq_true rfl)).trans (f17 23 (of_decide_eq_true rfl))) hI22
       exact by
        have I87 : jI31 σ30 := jI31_fr ((congrFun (f32 31 (of_decide_eq_true rfl)) 8).trans (congrFun (f17 31 (of_decide_eq_true rfl)) 8)) ((f32 33 (of_decide_eq_true rfl)).trans (f17 33 (of_decide_eq_true rfl))) ((f32 36 (of_decide_eq_true rfl)).trans (f17 36 (of_decide_eq_true rfl))) hI31
        have I88 : jI38 σ30 := jI38_fr ((congrFun (f32 38 (of_decide_eq_true rfl)) 0).trans (congrFun (f17 38 (of_decide_eq_true rfl)) 0)) ((congrFun (f32 38 (of_decide_eq_true rfl)) 1).trans (congrFun (f17 38 (of_decide_eq_true rfl)) 1)) ((f32 39 (of_decide_eq_true rfl)).trans (f17 39 (of_decide_eq_true rfl))) hI38
        have I89 : jI43 σ30 := jI43_fr ((congrFun (f32 43 (of_decide_eq_true rfl)) 8).trans (congrFun (f17 43 (of_decide_eq_true rfl)) 8)) hI43
        have I90 : jI47 σ30 := jI47_fr ((congrFun (f32 47 (of_decide_eq_true rfl)) 0).trans (congrFun (f17 47 (of_decide_eq_true rfl)) 0)) ((f32 48 (of_decide_eq_true rfl)).trans (f17 48 (of_decide_eq_true rfl))) ((f32 49 (of_decide_eq_true rfl)).trans (f17 49 (of_decide_eq_true rfl))) hI47
        have I91 : jI50 σ30 := jI50_fr ((f32 52 (of_decide_eq_true rfl)).trans (f17 52 (of_decide_eq_true rfl))) hI50
        have I92 : jI102 σ30 := jI102_fr ((f33 6 (of_decide_eq_true rfl)).trans (congrFun (f17 55 (of_decide_eq_true rfl)) 6)) ((f32 60 (of_decide_eq_true rfl)).trans (f17 60 (of_decide_eq_true rfl))) ((f32 61 (of_decide_eq_true rfl)).trans (f17 61 (of_decide_eq_true rfl))) hI102
        have I93 : jI103 σ30 := jI103_fr ((f33 9 (of_decide_eq_true rfl)).trans (congrFun (f17 55 (of_decide_eq_true rfl)) 9)) hI103
        have I94 : jI104 σ30 := jI104_fr ((f33 10 (of_decide_eq_true rfl)).trans (congrFun (f17 55 (of_decide_eq_true rfl)) 10)) ((f33 12 (of_decide_eq_true rfl)).trans (congrFun (f17 55 (of_decide_eq_true rfl)) 12)) ((f33 13 (of_decide_eq_true rfl)).trans (congrFun (f17 55 (of_decide_eq_true rfl)) 13)) ((f32 62 (of_decide_eq_true rfl)).trans (f17 62 (of_decide_eq_true rfl))) ((f32 67 (of_decide_eq_true rfl)).trans (f17 67 (of_decide_eq_true rfl))) hI104
        have I95 : jI105 σ30 := jI105_fr ((f33 15 (of_decide_eq_true rfl)).trans (congrFun (f17 55 (of_decide_eq_true rfl)) 15)) ((f32 65 (of_decide_eq_true rfl)).trans (f17 65 (of_decide_eq_true rfl))) hI105
        have I96 : jI106 σ30 := jI106_fr ((f33 32 (of_decide_eq_true rfl)).trans (congrFun (f17 55 (of_decide_eq_true rfl)) 32)) ((f32 70 (of_decide_eq_true rfl)).trans (f17 70 (of_decide_eq_true rfl))) ((f32 71 (of_decide_eq_true rfl)).trans (f17 71 (of_decide_eq_true rfl))) ((f32 72 (of_decide_eq_true rfl)).trans (f17 72 (of_decide_eq_true rfl))) hI106
        have I97 : jI107 σ30 := jI107_fr ((f33 12 (of_decide_eq_true rfl)).trans (congrFun (f17 55 (of_decide_eq_true rfl)) 12)) ((f33 47 (of_decide_eq_true rfl)).trans (congrFun (f17 55 (of_decide_eq_true rfl)) 47)) ((f32 80 (of_decide_eq_true rfl)).trans (f17 80 (of_decide_eq_true rfl))) hI107
        have I98 : jI109 σ30 := jI109_fr ((f33 50 (of_decide_eq_true rfl)).trans (congrFun (f17 55 (of_decide_eq_true rfl)) 50)) hI109
        have I99 : jI110 σ30 := jI110_fr ((f32 86 (of_decide_eq_true rfl)).trans (f17 86 (of_decide_eq_true rfl))) ((f32 87 (of_decide_eq_true rfl)).trans (f17 87 (of_decide_eq_true rfl))) hI110
        have I100 : jI111 σ30 := jI111_fr ((f32 79 (of_decide_eq_true rfl)).trans (f17 79 (of_decide_eq_true rfl))) hI111
        have I101 : jI119 σ30 := jI119_fr ((f32 68 (of_decide_eq_true rfl)).trans (f17 68 (of_decide_eq_true rfl))) hI119
        have p102 : jKept σ30 := jKept.fr ((f32 75 (of_decide_eq_true rfl)).trans (f17 75 (of_decide_eq_true rfl))) ((f32 76 (of_decide_eq_true rfl)).trans (f17 76 (of_decide_eq_true rfl))) ((f32 77 (of_decide_eq_true rfl)).trans (f17 77 (of_decide_eq_true rfl))) hs_jKept
        have p103 : jBook σ30 := jBook.fr ((f33 47 (of_decide_eq_true rfl)).trans (congrFun (f17 55 (of_decide_eq_true rfl)) 47)) ((f33 10 (of_decide_eq_true rfl)).trans (congrFun (f17 55 (of_decide_eq_true rfl)) 10)) ((f32 81 (of_decide_eq_true rfl)).trans (f17 81 (of_decide_eq_true rfl))) hs_jBook
        have z104 : (σ30 9 0).toInt = (σ 9 0).toInt := (congrArg Int32.toInt (show σ30 9 0 = (σ 9 0) from ((congrFun (f32 9 (of_decide_eq_true rfl)) 0).trans (congrFun (f17 9 (of_decide_eq_true rfl)) 0))))
        have z105 : (σ30 55 15).toInt = (σ 55 15).toInt := (congrArg Int32.toInt (show σ30 55 15 = (σ 55 15) from ((f33 15 (of_decide_eq_true rfl)).trans (congrFun (f17 55 (of_decide_eq_true rfl)) 15))))
        have z106 : (σ30 16 0).toInt = (σ 16 0).toInt := (congrArg Int32.toInt (show σ30 16 0 = (σ 16 0) from ((congrFun (f32 16 (of_decide_eq_true rfl)) 0).trans (congrFun (f17 16 (of_decide_eq_true rfl)) 0))))
        have z107 : (σ30 55 10).toInt = (σ 55 10).toInt := (congrArg Int32.toInt (show σ30 55 10 = (σ 55 10) from ((f33 10 (of_decide_eq_true rfl)).trans (congrFun (f17 55 (of_decide_eq_true rfl)) 10))))
        have z108 : (σ30 16 1).toInt = (σ 16 1).toInt := (congrArg Int32.toInt (show σ30 16 1 = (σ 16 1) from ((congrFun (f32 16 (of_decide_eq_true rfl)) 1).trans (congrFun (f17 16 (of_decide_eq_true rfl)) 1))))
        have z109 : (σ30 55 12).toInt = (σ 55 12).toInt := (congrArg Int32.toInt (show σ30 55 12 = (σ 55 12) from ((f33 12 (of_decide_eq_true rfl)).trans (congrFun (f17 55 (of_decide_eq_true rfl)) 12))))
        have z110 : (σ30 16 2).toInt = (σ 16 2).toInt := (congrArg Int32.toInt (show σ30 16 2 = (σ 16 2) from ((congrFun (f32 16 (of_decide_eq_true rfl)) 2).trans (congrFun (f17 16 (of_decide_eq_true rfl)) 2))))
        have z111 : (σ30 55 13).toInt = (σ 55 13).toInt := (congrArg Int32.toInt (show σ30 55 13 = (σ 55 13) from ((f33 13 (of_decide_eq_true rfl)).trans (congrFun (f17 55 (of_decide_eq_true rfl)) 13))))
        exact by exact ih x80 σ30 τ _ _ ls (by have h9 := tx80; omega) ⟨I81, I82, I83, I84, I85, I86, I87, I88, I89, I90, I91, I34, I92, I93, I94, I95, I96, I97, I98, I99, I100, I101, p102, p103, (by omega), (by omega), (by omega), (by omega), (show jTp (σ30 10) (σ30 63) (σ30 55 15).toInt by rw [show σ30 10 = σ 10 from ((f32 10 (of_decide_eq_true rfl)).trans (f17 10 (of_decide_eq_true rfl))), show σ30 63 = σ 63 from ((f32 63 (of_decide_eq_true rfl)).trans (f17 63 (of_decide_eq_true rfl)))]; exact hr0.le (by omega)), (show jSo (σ30 17) (σ30 62) (σ30 16 0).toInt by rw [show σ30 17 = σ 17 from ((f32 17 (of_decide_eq_true rfl)).trans (f17 17 (of_decide_eq_true rfl))), show σ30 62 = σ 62 from ((f32 62 (of_decide_eq_true rfl)).trans (f17 62 (of_decide_eq_true rfl))), show (σ30 16 0).toInt = (σ 16 0).toInt from by omega]; exact hr1)⟩ hP hS (lv_sub hl [0, 1, 2, 3] rfl)
  · obtain ⟨q118, k112, k113, k114, k115, k116, k117⟩ := h22
    refine lv_pop hx hb dL_law_968 rfl ?_
    refine lv_aload_n hx hb dL_law_969 rfl (lv_at hl 1 rfl) ?_
    have I119 : jI101 σ15 := jI101_fr (congrFun (f17 55 (of_decide_eq_true rfl)) 4) (congrFun (f17 55 (of_decide_eq_true rfl)) 5) (f17 56 (of_decide_eq_true rfl)) (f17 57 (of_decide_eq_true rfl)) (f17 58 (of_decide_eq_true rfl)) (f17 59 (of_decide_eq_true rfl)) hI101
    have z120 : (σ15 55 5).toInt = (σ 55 5).toInt := (congrArg Int32.toInt (show σ15 55 5 = (σ 55 5) from (congrFun (f17 55 (of_decide_eq_true rfl)) 5)))
    refine jcallV (As := []) (rest := []) ⟨hx, hb, hml, hown, hts⟩ hK hP hA hS hZ (c_X12_undo l D cI cL ad zz hJ σ15 τ I119) cw_RL_124 (jc_55 cI cL ad σ15 τ) rfl ⟨Nat.le_of_ble_eq_true rfl, Nat.le_of_ble_eq_true rfl⟩ rfl rfl rfl hl.1 rfl (Nat.le_of_ble_eq_true rfl) dL_law_970 ⟨Nat.le_of_ble_eq_true rfl, Nat.le_of_ble_eq_true rfl⟩ (fun r122 σ121 τ121 H locs h121 hP hS => ?_)
    obtain ⟨rfl, f123, f124, I125, h121⟩ := h121
    rcases h121 with h127 | h128
    · obtain ⟨q132, k129, k130, k131⟩ := h127
      have q132 := q132.symm
      subst q132
      refine lv_pop hx hb dL_law_973 rfl ?_
      refine lv_goto (tgt := 1357) hx hb dL_law_974 (of_decide_eq_true rfl) ?_
      obtain ⟨x133, ex133⟩ : ∃ y : Int32, y = x0 + 6 := ⟨_, rfl⟩
      exact by
       have tx133 : x133.toInt = x0.toInt + 6 := (jadd ex133 rfl jz_6 (by omega) (by omega)).trans (by omega)
       refine lv_iinc (v := x133) (lv' := [(3, .int x133), (2, .ref (ad 55)), (1, .ref (ad 0)), (0, .ref b)]) hx hb dL_law_1357 hl (k := 0) rfl (by rw [ex133]; rfl) (of_decide_eq_true rfl) rfl (fun ls hl => ?_)
       refine lv_goto (tgt := 18) hx hb dL_law_1360 (of_decide_eq_true rfl) ?_
       have I134 : jI2 σ121 := jI2_fr (congrFun (f123 2 (of_decide_eq_true rfl)) 0) (congrFun (f123 2 (of_decide_eq_true rfl)) 1) (congrFun (f123 2 (of_decide_eq_true rfl)) 2) (congrFun (f123 2 (of_decide_eq_true rfl)) 3) (f123 6 (of_decide_eq_true rfl)) I19
       have I135 : jI9 σ121 := jI9_fr ((congrFun (f123 9 (of_decide_eq_true rfl)) 0).trans (congrFun (f17 9 (of_decide_eq_true rfl)) 0)) ((f123 10 (of_decide_eq_true rfl)).trans (f17 10 (of_decide_eq_true rfl))) ((f123 11 (of_decide_eq_true rfl)).trans (f17 11 (of_decide_eq_true rfl))) hI9
       have I136 : jI12 σ121 := jI12_fr ((congrFun (f123 12 (of_decide_eq_true rfl)) 0).trans (congrFun (f17 12 (of_decide_eq_true rfl)) 0)) ((f123 13 (of_decide_eq_true rfl)).trans (f17 13 (of_decide_eq_true rfl))) hI12
       have I137 : jI16 σ121 := jI16_fr ((congrFun (f123 16 (of_decide_eq_true rfl)) 0).trans (congrFun (f17 16 (of_decide_eq_true rfl)) 0)) ((congrFun (f123 16 (of_decide_eq_true rfl)) 1).trans (congrFun (f17 16 (of_decide_eq_true rfl)) 1)) ((congrFun (f123 16 (of_decide_eq_true rfl)) 2).trans (congrFun (f17 16 (of_decide_eq_true rfl)) 2)) ((f123 17 (of_decide_eq_true rfl)).trans (f17 17 (of_decide_eq_true rfl))) hI16
       have I138 : jI18 σ121 := jI18_fr ((congrFun (f123 18 (of_decide_eq_true rfl)) 0).trans (congrFun (f17 18 (of_decide_eq_true rfl)) 0)) ((f123 19 (of_decide_eq_true rfl)).trans (f17 19 (of_decide_eq_true rfl))) hI18
       have I139 : jI22 σ121 := jI22_fr ((congrFun (f123 22 (of_decide_eq_true rfl)) 0).trans (congrFun (f17 22 (of_decide_eq_true rfl)) 0)) ((f123 23 (of_decide_eq_true rfl)).trans (f17 23 (of_decide_eq_true rfl))) hI22
       exact by
        have I140 : jI31 σ121 := jI31_fr ((congrFun (f123 31 (of_decide_eq_true rfl)) 8).trans (congrFun (f17 31 (of_decide_eq_true rfl)) 8)) ((f123 33 (of_decide_eq_true rfl)).trans (f17 33 (of_decide_eq_true rfl))) ((f123 36 (of_decide_eq_true rfl)).trans (f17 36 (of_decide_eq_true rfl))) hI31
        have I141 : jI38 σ121 := jI38_fr ((congrFun (f123 38 (of_decide_eq_true rfl)) 0).trans (congrFun (f17 38 (of_decide_eq_true rfl)) 0)) ((congrFun (f123 38 (of_decide_eq_true rfl)) 1).trans (congrFun (f17 38 (of_decide_eq_true rfl)) 1)) ((f123 39 (of_decide_eq_true rfl)).trans (f17 39 (of_decide_eq_true rfl))) hI38
        have I142 : jI43 σ121 := jI43_fr ((congrFun (f123 43 (of_decide_eq_true rfl)) 8).trans (congrFun (f17 43 (of_decide_eq_true rfl)) 8)) hI43
        have I143 : jI47 σ121 := jI47_fr ((congrFun (f123 47 (of_decide_eq_true rfl)) 0).trans (congrFun (f17 47 (of_decide_eq_true rfl)) 0)) ((f123 48 (of_decide_eq_true rfl)).trans (f17 48 (of_decide_eq_true rfl))) ((f123 49 (of_decide_eq_true rfl)).trans (f17 49 (of_decide_eq_true rfl))) hI47
        have I144 : jI50 σ121 := jI50_fr ((f123 52 (of_decide_eq_true rfl)).trans (f17 52 (of_decide_eq_true rfl))) hI50
        have I145 : jI102 σ121 := jI102_fr ((f124 6 (of_decide_eq_true rfl)).trans (congrFun (f17 55 (of_decide_eq_true rfl)) 6)) ((f123 60 (of_decide_eq_true rfl)).trans (f17 60 (of_decide_eq_true rfl))) ((f123 61 (of_decide_eq_true rfl)).trans (f17 61 (of_decide_eq_true rfl))) hI102
        have I146 : jI103 σ121 := jI103_fr ((f124 9 (of_decide_eq_true rfl)).trans (congrFun (f17 55 (of_decide_eq_true rfl)) 9)) hI103
        have I147 : jI104 σ121 := jI104_fr ((f124 10 (of_decide_eq_true rfl)).trans (congrFun (f17 55 (of_decide_eq_true rfl)) 10)) ((f124 12 (of_decide_eq_true rfl)).trans (congrFun (f17 55 (of_decide_eq_true rfl)) 12)) ((f124 13 (of_decide_eq_true rfl)).trans (congrFun (f17 55 (of_decide_eq_true rfl)) 13)) ((f123 62 (of_decide_eq_true rfl)).trans (f17 62 (of_decide_eq_true rfl))) ((f123 67 (of_decide_eq_true rfl)).trans (f17 67 (of_decide_eq_true rfl))) hI104
        have I148 : jI105 σ121 := jI105_fr ((f124 15 (of_decide_eq_true rfl)).trans (congrFun (f17 55 (of_decide_eq_true rfl)) 15)) ((f123 65 (of_decide_eq_true rfl)).trans (f17 65 (of_decide_eq_true rfl))) hI105
        have I149 : jI106 σ121 := jI106_fr ((f124 32 (of_decide_eq_true rfl)).trans (congrFun (f17 55 (of_decide_eq_true rfl)) 32)) ((f123 70 (of_decide_eq_true rfl)).trans (f17 70 (of_decide_eq_true rfl))) ((f123 71 (of_decide_eq_true rfl)).trans (f17 71 (of_decide_eq_true rfl))) ((f123 72 (of_decide_eq_true rfl)).trans (f17 72 (of_decide_eq_true rfl))) hI106
        have I150 : jI107 σ121 := jI107_fr ((f124 12 (of_decide_eq_true rfl)).trans (congrFun (f17 55 (of_decide_eq_true rfl)) 12)) ((f124 47 (of_decide_eq_true rfl)).trans (congrFun (f17 55 (of_decide_eq_true rfl)) 47)) ((f123 80 (of_decide_eq_true rfl)).trans (f17 80 (of_decide_eq_true rfl))) hI107
        have I151 : jI109 σ121 := jI109_fr ((f124 50 (of_decide_eq_true rfl)).trans (congrFun (f17 55 (of_decide_eq_true rfl)) 50)) hI109
        have I152 : jI110 σ121 := jI110_fr ((f123 86 (of_decide_eq_true rfl)).trans (f17 86 (of_decide_eq_true rfl))) ((f123 87 (of_decide_eq_true rfl)).trans (f17 87 (of_decide_eq_true rfl))) hI110
        have I153 : jI111 σ121 := jI111_fr ((f123 79 (of_decide_eq_true rfl)).trans (f17 79 (of_decide_eq_true rfl))) hI111
        have I154 : jI119 σ121 := jI119_fr ((f123 68 (of_decide_eq_true rfl)).trans (f17 68 (of_decide_eq_true rfl))) hI119
        have p155 : jKept σ121 := jKept.fr ((f123 75 (of_decide_eq_true rfl)).trans (f17 75 (of_decide_eq_true rfl))) ((f123 76 (of_decide_eq_true rfl)).trans (f17 76 (of_decide_eq_true rfl))) ((f123 77 (of_decide_eq_true rfl)).trans (f17 77 (of_decide_eq_true rfl))) hs_jKept
        have p156 : jBook σ121 := jBook.fr ((f124 47 (of_decide_eq_true rfl)).trans (congrFun (f17 55 (of_decide_eq_true rfl)) 47)) ((f124 10 (of_decide_eq_true rfl)).trans (congrFun (f17 55 (of_decide_eq_true rfl)) 10)) ((f123 81 (of_decide_eq_true rfl)).trans (f17 81 (of_decide_eq_true rfl))) hs_jBook
        have z157 : (σ121 9 0).toInt = (σ 9 0).toInt := (congrArg Int32.toInt (show σ121 9 0 = (σ 9 0) from ((congrFun (f123 9 (of_decide_eq_true rfl)) 0).trans (congrFun (f17 9 (of_decide_eq_true rfl)) 0))))
        have z158 : (σ121 55 15).toInt = (σ 55 15).toInt := (congrArg Int32.toInt (show σ121 55 15 = (σ 55 15) from ((f124 15 (of_decide_eq_true rfl)).trans (congrFun (f17 55 (of_decide_eq_true rfl)) 15))))
        have z159 : (σ121 16 0).toInt = (σ 16 0).toInt := (congrArg Int32.toInt (show σ121 16 0 = (σ 16 0) from ((congrFun (f123 16 (of_decide_eq_true rfl)) 0).trans (congrFun (f17 16 (of_decide_eq_true rfl)) 0))))
        have z160 : (σ121 55 10).toInt = (σ 55 10).toInt := (congrArg Int32.toInt (show σ121 55 10 = (σ 55 10) from ((f124 10 (of_decide_eq_true rfl)).trans (congrFun (f17 55 (of_decide_eq_true rfl)) 10))))
        have z161 : (σ121 16 1).toInt = (σ 16 1).toInt := (congrArg Int32.toInt (show σ121 16 1 = (σ 16 1) from ((congrFun (f123 16 (of_decide_eq_true rfl)) 1).trans (congrFun (f17 16 (of_decide_eq_true rfl)) 1))))
        have z162 : (σ121 55 12).toInt = (σ 55 12).toInt := (congrArg Int32.toInt (show σ121 55 12 = (σ 55 12) from ((f124 12 (of_decide_eq_true rfl)).trans (congrFun (f17 55 (of_decide_eq_true rfl)) 12))))
        have z163 : (σ121 16 2).toInt = (σ 16 2).toInt := (congrArg Int32.toInt (show σ121 16 2 = (σ 16 2) from ((congrFun (f123 16 (of_decide_eq_true rfl)) 2).trans (congrFun (f17 16 (of_decide_eq_true rfl)) 2))))
        have z164 : (σ121 55 13).toInt = (σ 55 13).toInt := (congrArg Int32.toInt (show σ121 55 13 = (σ 55 13) from ((f124 13 (of_decide_eq_true rfl)).trans (congrFun (f17 55 (of_decide_eq_true rfl)) 13))))
        exact by exact ih x133 σ121 τ _ _ ls (by have h9 := tx133; omega) ⟨I134, I135, I136, I137, I138, I139, I140, I141, I142, I143, I144, I125, I145, I146, I147, I148, I149, I150, I151, I152, I153, I154, p155, p156, (by omega), (by omega), (by omega), (by omega), (show jTp (σ121 10) (σ121 63) (σ121 55 15).toInt by rw [show σ121 10 = σ 10 from ((f123 10 (of_decide_eq_true rfl)).trans (f17 10 (of_decide_eq_true rfl))), show σ121 63 = σ 63 from ((f123 63 (of_decide_eq_true rfl)).trans (f17 63 (of_decide_eq_true rfl)))]; exact hr0.le (by omega)), (show jSo (σ121 17) (σ121 62) (σ121 16 0).toInt by rw [show σ121 17 = σ 17 from ((f123 17 (of_decide_eq_true rfl)).trans (f17 17 (of_decide_eq_true rfl))), show σ121 62 = σ 62 from ((f123 62 (of_decide_eq_true rfl)).trans (f17 62 (of_decide_eq_true rfl))), show (σ121 16 0).toInt = (σ 16 0).toInt from by omega]; exact hr1)⟩ hP hS (lv_sub hl [0, 1, 2, 3] rfl)
    · obtain ⟨q170, k165, k166, k167, k168, k169⟩ := h128
      refine lv_pop hx hb dL_law_973 rfl ?_
      refine lv_goto (tgt := 1357) hx hb dL_law_974 (of_decide_eq_true rfl) ?_
      obtain ⟨x171, ex171⟩ : ∃ y : Int32, y = x0 + 6 := ⟨_, rfl⟩
      exact by
       have tx171 : x171.toInt = x0.toInt + 6 := (jadd ex171 rfl jz_6 (by omega) (by omega)).trans (by omega)
       refine lv_iinc (v := x171) (lv' := [(3, .int x171), (2, .ref (ad 55)), (1, .ref (ad 0)), (0, .ref b)]) hx hb dL_law_1357 hl (k := 0) rfl (by rw [ex171]; rfl) (of_decide_eq_true rfl) rfl (fun ls hl => ?_)
       refine lv_goto (tgt := 18) hx hb dL_law_1360 (of_decide_eq_true rfl) ?_
       have I172 : jI2 σ121 := jI2_fr (congrFun (f123 2 (of_decide_eq_true rfl)) 0) (congrFun (f123 2 (of_decide_eq_true rfl)) 1) (congrFun (f123 2 (of_decide_eq_true rfl)) 2) (congrFun (f123 2 (of_decide_eq_true rfl)) 3) (f123 6 (of_decide_eq_true rfl)) I19
       have I173 : jI9 σ121 := jI9_fr ((congrFun (f123 9 (of_decide_eq_true rfl)) 0).trans (congrFun (f17 9 (of_decide_eq_true rfl)) 0)) ((f123 10 (of_decide_eq_true rfl)).trans (f17 10 (of_decide_eq_true rfl))) ((f123 11 (of_decide_eq_true rfl)).trans (f17 11 (of_decide_eq_true rfl))) hI9
       have I174 : jI12 σ121 := jI12_fr ((congrFun (f123 12 (of_decide_eq_true rfl)) 0).trans (congrFun (f17 12 (of_decide_eq_true rfl)) 0)) ((f123 13 (of_decide_eq_true rfl)).trans (f17 13 (of_decide_eq_true rfl))) hI12
       have I175 : jI16 σ121 := jI16_fr ((congrFun (f123 16 (of_decide_eq_true rfl)) 0).trans (congrFun (f17 16 (of_decide_eq_true rfl)) 0)) ((congrFun (f123 16 (of_decide_eq_true rfl)) 1).trans (congrFun (f17 16 (of_decide_eq_true rfl)) 1)) ((congrFun (f123 16 (of_decide_eq_true rfl)) 2).trans (congrFun (f17 16 (of_decide_eq_true rfl)) 2)) ((f123 17 (of_decide_eq_true rfl)).trans (f17 17 (of_decide_eq_true rfl))) hI16
       have I176 : jI18 σ121 := jI18_fr ((congrFun (f123 18 (of_decide_eq_true rfl)) 0).trans (congrFun (f17 18 (of_decide_eq_true rfl)) 0)) ((f123 19 (of_decide_eq_true rfl)).trans (f17 19 (of_decide_eq_true rfl))) hI18
       have I177 : jI22 σ121 := jI22_fr ((congrFun (f123 22 (of_decide_eq_true rfl)) 0).trans (congrFun (f17 22 (of_decide_eq_true rfl)) 0)) ((f123 23 (of_decide_eq_true rfl)).trans (f17 23 (of_decide_eq_true rfl))) hI22
       exact by
        have I178 : jI31 σ121 := jI31_fr ((congrFun (f123 31 (of_decide_eq_true rfl)) 8).trans (congrFun (f17 31 (of_decide_eq_true rfl)) 8)) ((f123 33 (of_decide_eq_true rfl)).trans (f17 33 (of_decide_eq_true rfl))) ((f123 36 (of_decide_eq_true rfl)).trans (f17 36 (of_decide_eq_true rfl))) hI31
        have I179 : jI38 σ121 := jI38_fr ((congrFun (f123 38 (of_decide_eq_true rfl)) 0).trans (congrFun (f17 38 (of_decide_eq_true rfl)) 0)) ((congrFun (f123 38 (of_decide_eq_true rfl)) 1).trans (congrFun (f17 38 (of_decide_eq_true rfl)) 1)) ((f123 39 (of_decide_eq_true rfl)).trans (f17 39 (of_decide_eq_true rfl))) hI38
        have I180 : jI43 σ121 := jI43_fr ((congrFun (f123 43 (of_decide_eq_true rfl)) 8).trans (congrFun (f17 43 (of_decide_eq_true rfl)) 8)) hI43
        have I181 : jI47 σ121 := jI47_fr ((congrFun (f123 47 (of_decide_eq_true rfl)) 0).trans (congrFun (f17 47 (of_decide_eq_true rfl)) 0)) ((f123 48 (of_decide_eq_true rfl)).trans (f17 48 (of_decide_eq_true rfl))) ((f123 49 (of_decide_eq_true rfl)).trans (f17 49 (of_decide_eq_true rfl))) hI47
        have I182 : jI50 σ121 := jI50_fr ((f123 52 (of_decide_eq_true rfl)).trans (f17 52 (of_decide_eq_true rfl))) hI50
        have I183 : jI102 σ121 := jI102_fr ((f124 6 (of_decide_eq_true rfl)).trans (congrFun (f17 55 (of_decide_eq_true rfl)) 6)) ((f123 60 (of_decide_eq_true rfl)).trans (f17 60 (of_decide_eq_true rfl))) ((f123 61 (of_decide_eq_true rfl)).trans (f17 61 (of_decide_eq_true rfl))) hI102
        have I184 : jI103 σ121 := jI103_fr ((f124 9 (of_decide_eq_true rfl)).trans (congrFun (f17 55 (of_decide_eq_true rfl)) 9)) hI103
        have I185 : jI104 σ121 := jI104_fr ((f124 10 (of_decide_eq_true rfl)).trans (congrFun (f17 55 (of_decide_eq_true rfl)) 10)) ((f124 12 (of_decide_eq_true rfl)).trans (congrFun (f17 55 (of_decide_eq_true rfl)) 12)) ((f124 13 (of_decide_eq_true rfl)).trans (congrFun (f17 55 (of_decide_eq_true rfl)) 13)) ((f123 62 (of_decide_eq_true rfl)).trans (f17 62 (of_decide_eq_true rfl))) ((f123 67 (of_decide_eq_true rfl)).trans (f17 67 (of_decide_eq_true rfl))) hI104
        have I186 : jI105 σ121 := jI105_fr ((f124 15 (of_decide_eq_true rfl)).trans (congrFun (f17 55 (of_decide_eq_true rfl)) 15)) ((f123 65 (of_decide_eq_true rfl)).trans (f17 65 (of_decide_eq_true rfl))) hI105
        have I187 : jI106 σ121 := jI106_fr ((f124 32 (of_decide_eq_true rfl)).trans (congrFun (f17 55 (of_decide_eq_true rfl)) 32)) ((f123 70 (of_decide_eq_true rfl)).trans (f17 70 (of_decide_eq_true rfl))) ((f123 71 (of_decide_eq_true rfl)).trans (f17 71 (of_decide_eq_true rfl))) ((f123 72 (of_decide_eq_true rfl)).trans (f17 72 (of_decide_eq_true rfl))) hI106
        have I188 : jI107 σ121 := jI107_fr ((f124 12 (of_decide_eq_true rfl)).trans (congrFun (f17 55 (of_decide_eq_true rfl)) 12)) ((f124 47 (of_decide_eq_true rfl)).trans (congrFun (f17 55 (of_decide_eq_true rfl)) 47)) ((f123 80 (of_decide_eq_true rfl)).trans (f17 80 (of_decide_eq_true rfl))) hI107
        have I189 : jI109 σ121 := jI109_fr ((f124 50 (of_decide_eq_true rfl)).trans (congrFun (f17 55 (of_decide_eq_true rfl)) 50)) hI109
        have I190 : jI110 σ121 := jI110_fr ((f123 86 (of_decide_eq_true rfl)).trans (f17 86 (of_decide_eq_true rfl))) ((f123 87 (of_decide_eq_true rfl)).trans (f17 87 (of_decide_eq_true rfl))) hI110
        have I191 : jI111 σ121 := jI111_fr ((f123 79 (of_decide_eq_true rfl)).trans (f17 79 (of_decide_eq_true rfl))) hI111
        have I192 : jI119 σ121 := jI119_fr ((f123 68 (of_decide_eq_true rfl)).trans (f17 68 (of_decide_eq_true rfl))) hI119
        have p193 : jKept σ121 := jKept.fr ((f123 75 (of_decide_eq_true rfl)).trans (f17 75 (of_decide_eq_true rfl))) ((f123 76 (of_decide_eq_true rfl)).trans (f17 76 (of_decide_eq_true rfl))) ((f123 77 (of_decide_eq_true rfl)).trans (f17 77 (of_decide_eq_true rfl))) hs_jKept
        have p194 : jBook σ121 := jBook.fr ((f124 47 (of_decide_eq_true rfl)).trans (congrFun (f17 55 (of_decide_eq_true rfl)) 47)) ((f124 10 (of_decide_eq_true rfl)).trans (congrFun (f17 55 (of_decide_eq_true rfl)) 10)) ((f123 81 (of_decide_eq_true rfl)).trans (f17 81 (of_decide_eq_true rfl))) hs_jBook
        have z195 : (σ121 9 0).toInt = (σ 9 0).toInt := (congrArg Int32.toInt (show σ121 9 0 = (σ 9 0) from ((congrFun (f123 9 (of_decide_eq_true rfl)) 0).trans (congrFun (f17 9 (of_decide_eq_true rfl)) 0))))
        have z196 : (σ121 55 15).toInt = (σ 55 15).toInt := (congrArg Int32.toInt (show σ121 55 15 = (σ 55 15) from ((f124 15 (of_decide_eq_true rfl)).trans (congrFun (f17 55 (of_decide_eq_true rfl)) 15))))
        have z197 : (σ121 16 0).toInt = (σ 16 0).toInt := (congrArg Int32.toInt (show σ121 16 0 = (σ 16 0) from ((congrFun (f123 16 (of_decide_eq_true rfl)) 0).trans (congrFun (f17 16 (of_decide_eq_true rfl)) 0))))
        have z198 : (σ121 55 10).toInt = (σ 55 10).toInt := (congrArg Int32.toInt (show σ121 55 10 = (σ 55 10) from ((f124 10 (of_decide_eq_true rfl)).trans (congrFun (f17 55 (of_decide_eq_true rfl)) 10))))
        have z199 : (σ121 16 1).toInt = (σ 16 1).toInt := (congrArg Int32.toInt (show σ121 16 1 = (σ 16 1) from ((congrFun (f123 16 (of_decide_eq_true rfl)) 1).trans (congrFun (f17 16 (of_decide_eq_true rfl)) 1))))
        have z200 : (σ121 55 12).toInt = (σ 55 12).toInt := (congrArg Int32.toInt (show σ121 55 12 = (σ 55 12) from ((f124 12 (of_decide_eq_true rfl)).trans (congrFun (f17 55 (of_decide_eq_true rfl)) 12))))
        have z201 : (σ121 16 2).toInt = (σ 16 2).toInt := (congrArg Int32.toInt (show σ121 16 2 = (σ 16 2) from ((congrFun (f123 16 (of_decide_eq_true rfl)) 2).trans (congrFun (f17 16 (of_decide_eq_true rfl)) 2))))
        have z202 : (σ121 55 13).toInt = (σ 55 13).toInt := (congrArg Int32.toInt (show σ121 55 13 = (σ 55 13) from ((f124 13 (of_decide_eq_true rfl)).trans (congrFun (f17 55 (of_decide_eq_true rfl)) 13))))
        exact by exact ih x171 σ121 τ _ _ ls (by have h9 := tx171; omega) ⟨I172, I173, I174, I175, I176, I177, I178, I179, I180, I181, I182, I125, I183, I184, I185, I186, I187, I188, I189, I190, I191, I192, p193, p194, (by omega), (by omega), (by omega), (by omega), (show jTp (σ121 10) (σ121 63) (σ121 55 15).toInt by rw [show σ121 10 = σ 10 from ((f123 10 (of_decide_eq_true rfl)).trans (f17 10 (of_decide_eq_true rfl))), show σ121 63 = σ 63 from ((f123 63 (of_decide_eq_true rfl)).trans (f17 63 (of_decide_eq_true rfl)))]; exact hr0.le (by omega)), (show jSo (σ121 17) (σ121 62) (σ121 16 0).toInt by rw [show σ121 17 = σ 17 from ((f123 17 (of_decide_eq_true rfl)).trans (f17 17 (of_decide_eq_true rfl))), show σ121 62 = σ 62 from ((f123 62 (of_decide_eq_true rfl)).trans (f17 62 (of_decide_eq_true rfl))), show (σ121 16 0).toInt = (σ 16 0).toInt from by omega]; exact hr1)⟩ hP hS (lv_sub hl [0, 1, 2, 3] rfl)
set_option maxHeartbeats 4000000 in
set_option maxRecDepth 100000 in
theorem law_case_27 {p : Program} {e : Env} {s : State} {m : MethodId} {below : List Frame} {meth : Method} {c : Code} (l : Launch) {b L : Nat} {xs : Nat → Int32} {D : va_G} {cI cL : ClassId} {ad zz : Nat → Nat} (C0 : lw_At p s m meth c b L xs) (hJ : jD ad) (hA : ∀ q, jA ad q → s.heap.size ≤ q) (hK : jK D cI cL s) (hZ : jZ zz (fun q : Nat => s.heap.size ≤ q) s s.heap) {x0 : Int32} (hx0 : 0 ≤ x0.toInt) (hxL : x0.toInt + 6 ≤ (L : Int)) (hL : L ≤ 384) {σ : Nat → Nat → Int32} {τ : Nat → Nat → Int64} {H : Heap} {locs : List Loc} (hS : va_S (fun q : Nat => s.heap.size ≤ q) s.heap H locs) {ls : Array Slot} (hAll : jAll σ τ) (hP : jH D cI cL ad σ τ H) (hl : lv_has ls 4 [(3, .int x0), (2, .ref (ad 55)), (1, .ref (ad 0)), (0, .ref b)]) (ih : ∀ (x1 : Int32) (σ : Nat → Nat → Int32) (τ : Nat → Nat → Int64) (H : Heap) (locs : List Loc) (ls : Array Slot), x1.toInt = x0.toInt + 6 → jAll σ τ → jH D cI cL ad σ τ H → va_S (fun q : Nat => s.heap.size ≤ q) s.heap H locs → lv_has ls 4 [(3, .int x1), (2, .ref (ad 55)), (1, .ref (ad 0)), (0, .ref b)] → W p l e room_1 s m #[Value.ref b] below meth c H locs 90 348600 (lw_Z below #[Value.ref b] s) (F0 m 18 ls [])) : W p l e room_1 s m #[Value.ref b] below meth c H locs 90 348600 (lw_Z below #[Value.ref b] s) (F0 m 977 ls []) := by
  obtain ⟨hx, hb, hr, hml, hown, hts0, hX, hbl, hlocks, hgv⟩ := C0
  have hts : ∀ w ∈ wsL_law, w.before #[Value.ref b] s = true := fun w h => hts0 w (wsL_law_in w h)
  have hbA : ¬ (fun q : Nat => s.heap.size ≤ q) b := Nat.not_le.mpr hbl
  have hown : s.vm.findClass RL = some m.cls := hown
  obtain ⟨hI2, hI9, hI12, hI16, hI18, hI22, hI31, hI38, hI43, hI47, hI50, hI101, hI102, hI103, hI104, hI105, hI106, hI107, hI109, hI110, hI111, hI119, hs_jKept, hs_jBook, ht0, ht1, ht2, ht3, hr0, hr1⟩ := hAll
  have hL9 : (L : Int) ≤ 384 := by omega
  obtain ⟨i1, w2, w3⟩ : (0 ≤ (σ 9 0).toInt ∧ (σ 9 0).toInt ≤ 80) ∧ (∀ k : Nat, k < 80 → 0 ≤ (σ 10 k).toInt ∧ (σ 10 k).toInt ≤ 255) ∧ (∀ k : Nat, k < 8 → 0 ≤ (σ 11 k).toInt ∧ (σ 11 k).toInt ≤ 3) := id hI9
  obtain ⟨i4, i5, i6, w7⟩ : (1 ≤ (σ 16 0).toInt ∧ (σ 16 0).toInt ≤ 8) ∧ (1 ≤ (σ 16 1).toInt ∧ (σ 16 1).toInt ≤ 12) ∧ (0 ≤ (σ 16 2).toInt ∧ (σ 16 2).toInt ≤ 999) ∧ (∀ k : Nat, k < 8 → 0 ≤ (σ 17 k).toInt ∧ (σ 17 k).toInt ≤ 3) := id hI16
  obtain ⟨i8, i9, i10, w11, w12⟩ : (1 ≤ (σ 55 10).toInt ∧ (σ 55 10).toInt ≤ 8) ∧ (1 ≤ (σ 55 12).toInt ∧ (σ 55 12).toInt ≤ 12) ∧ (0 ≤ (σ 55 13).toInt ∧ (σ 55 13).toInt ≤ 999) ∧ (∀ k : Nat, k < 8 → 0 ≤ (σ 62 k).toInt ∧ (σ 62 k).toInt ≤ 3) ∧ (∀ k : Nat, k < 8 → 0 ≤ (σ 67 k).toInt ∧ (σ 67 k).toInt ≤ 3) := id hI104
  obtain ⟨i13, w14⟩ : (0 ≤ (σ 55 15).toInt ∧ (σ 55 15).toInt ≤ 80) ∧ (∀ k : Nat, k < 2 → (-1) ≤ (σ 65 k).toInt ∧ (σ 65 k).toInt ≤ 80) := id hI105
  refine lv_aload_n hx hb dL_law_977 rfl (lv_at hl 2 rfl) ?_
  refine jcallV (As := []) (rest := []) ⟨hx, hb, hml, hown, hts⟩ hK hP hA hS hZ (c_X11_redo l D cI cL ad zz hJ σ τ hI2) cw_RL_125 (jc_0 cI cL ad σ τ) rfl ⟨Nat.le_of_ble_eq_true rfl, Nat.le_of_ble_eq_true rfl⟩ rfl rfl rfl hl.1 rfl (Nat.le_of_ble_eq_true rfl) dL_law_978 ⟨Nat.le_of_ble_eq_true rfl, Nat.le_of_ble_eq_true rfl⟩ (fun r16 σ15 τ15 H locs h15 hP hS => ?_)
  obtain ⟨rfl, f17, f18, I19, h15⟩ := h15
  rcases h15 with h21 | h22
  · obtain ⟨q27, k23, k24, k25, k26⟩ := h21
    have q27 := q27.symm
    subst q27
    refine lv_pop hx hb dL_law_981 rfl ?_
    refine lv_aload_n hx hb dL_law_982 rfl (lv_at hl 1 rfl) ?_
    have I28 : jI101 σ15 := jI101_fr (congrFun (f17 55 (of_decide_eq_true rfl)) 4) (congrFun (f17 55 (of_decide_eq_true rfl)) 5) (f17 56 (of_decide_eq_true rfl)) (f17 57 (of_decide_eq_true rfl)) (f17 58 (of_decide_eq_true rfl)) (f17 59 (of_decide_eq_true rfl)) hI101
    have z29 : (σ15 55 5).toInt = (σ 55 5).toInt := (congrArg Int32.toInt (show σ15 55 5 = (σ 55 5) from (congrFun (f17 55 (of_decide_eq_true rfl)) 5)))
    have z30 : (σ15 55 4).toInt = (σ 55 4).toInt := (congrArg Int32.toInt (show σ15 55 4 = (σ 55 4) from (congrFun (f17 55 (of_decide_eq_true rfl)) 4)))
    refine jcallV (As := []) (rest := []) ⟨hx, hb, hml, hown, hts⟩ hK hP hA hS hZ (c_X12_redo l D cI cL ad zz hJ σ15 τ I28) cw_RL_128 (jc_55 cI cL ad σ15 τ) rfl ⟨Nat.le_of_ble_eq_true rfl, Nat.le_of_ble_eq_true rfl⟩ rfl rfl rfl hl.1 rfl (Nat.le_of_ble_eq_true rfl) dL_law_983 ⟨Nat.le_of_ble_eq_true rfl, Nat.le_of_ble_eq_true rfl⟩ (fun r32 σ31 τ31 H locs h31 hP hS => ?_)
    obtain ⟨rfl, f33, f34, I35, h31⟩ := h31
    rcases h31 with h37 | h38
    · obtain ⟨q42, k39, k40, k41⟩ := h37
      have q42 := q42.symm
      subst q42
      refine lv_pop hx hb dL_law_986 rfl ?_
      refine lv_goto (tgt := 1357) hx hb dL_law_987 (of_decide_eq_true rfl) ?_
      obtain ⟨x43, ex43⟩ : ∃ y : Int32, y = x0 + 6 := ⟨_, rfl⟩
      exact by
       have tx43 : x43.toInt = x0.toInt + 6 := (jadd ex43 rfl jz_6 (by omega) (by omega)).trans (by omega)
       refine lv_iinc (v := x43) (lv' := [(3, .int x43), (2, .ref (ad 55)), (1, .ref (ad 0)), (0, .ref b)]) hx hb dL_law_1357 hl (k := 0) rfl (by rw [ex43]; rfl) (of_decide_eq_true rfl) rfl (fun ls hl => ?_)
       refine lv_goto (tgt := 18) hx hb dL_law_1360 (of_decide_eq_true rfl) ?_
       have I44 : jI2 σ31 := jI2_fr (congrFun (f33 2 (of_decide_eq_true rfl)) 0) (congrFun (f33 2 (of_decide_eq_true rfl)) 1) (congrFun (f33 2 (of_decide_eq_true rfl)) 2) (congrFun (f33 2 (of_decide_eq_true rfl)) 3) (f33 6 (of_decide_eq_true rfl)) I19
       have I45 : jI9 σ31 := jI9_fr ((congrFun (f33 9 (of_decide_eq_true rfl)) 0).trans (congrFun (f17 9 (of_decide_eq_true rfl)) 0)) ((f33 10 (of_decide_eq_true rfl)).trans (f17 10 (of_decide_eq_true rfl))) ((f33 11 (of_decide_eq_true rfl)).trans (f17 11 (of_decide_eq_true rfl))) hI9
       have I46 : jI12 σ31 := jI12_fr ((congrFun (f33 12 (of_decide_eq_true rfl)) 0).trans (congrFun (f17 12 (of_decide_eq_true rfl)) 0)) ((f33 13 (of_decide_eq_true rfl)).trans (f17 13 (of_decide_eq_true rfl))) hI12
       have I47 : jI16 σ31 := jI16_fr ((congrFun (f33 16 (of_decide_eq_true rfl)) 0).trans (congrFun (f17 16 (of_decide_eq_true rfl)) 0)) ((congrFun (f33 16 (of_decide_eq_true rfl)) 1).trans (congrFun (f17 16 (of_decide_eq_true rfl)) 1)) ((congrFun (f33 16 (of_decide_eq_true rfl)) 2).trans (congrFun (f17 16 (of_decide_eq_true rfl)) 2)) ((f33 17 (of_decide_eq_true rfl)).trans (f17 17 (of_decide_eq_true rfl))) hI16
       have I48 : jI18 σ31 := jI18_fr ((congrFun (f33 18 (of_decide_eq_true rfl)) 0).trans (congrFun (f17 18 (of_decide_eq_true rfl)) 0)) ((f33 19 (of_decide_eq_true rfl)).trans (f17 19 (of_decide_eq_true rfl))) hI18
       have I49 : jI22 σ31 := jI22_fr ((congrFun (f33 22 (of_decide_eq_true rfl)) 0).trans (congrFun (f17 22 (of_decide_eq_true rfl)) 0)) ((f33 23 (of_decide_eq_true rfl)).trans (f17 23 (of_decide_eq_true rfl))) hI22
       exact by
        have I50 : jI31 σ31 := jI31_fr ((congrFun (f33 31 (of_decide_eq_true rfl)) 8).trans (congrFun (f17 31 (of_decide_eq_true rfl)) 8)) ((f33 33 (of_decide_eq_true rfl)).trans (f17 33 (of_decide_eq_true rfl))) ((f33 36 (of_decide_eq_true rfl)).trans (f17 36 (of_decide_eq_true rfl))) hI31
        have I51 : jI38 σ31 := jI38_fr ((congrFun (f33 38 (of_decide_eq_true rfl)) 0).trans (congrFun (f17 38 (of_decide_eq_true rfl)) 0)) ((congrFun (f33 38 (of_decide_eq_true rfl)) 1).trans (congrFun (f17 38 (of_decide_eq_true rfl)) 1)) ((f33 39 (of_decide_eq_true rfl)).trans (f17 39 (of_decide_eq_true rfl))) hI38
        have I52 : jI43 σ31 := jI43_fr ((congrFun (f33 43 (of_decide_eq_true rfl)) 8).trans (congrFun (f17 43 (of_decide_eq_true rfl)) 8)) hI43
        have I53 : jI47 σ31 := jI47_fr ((congrFun (f33 47 (of_decide_eq_true rfl)) 0).trans (congrFun (f17 47 (of_decide_eq_true rfl)) 0)) ((f33 48 (of_decide_eq_true rfl)).trans (f17 48 (of_decide_eq_true rfl))) ((f33 49 (of_decide_eq_true rfl)).trans (f17 49 (of_decide_eq_true rfl))) hI47
        have I54 : jI50 σ31 := jI50_fr ((f33 52 (of_decide_eq_true rfl)).trans (f17 52 (of_decide_eq_true rfl))) hI50
        have I55 : jI102 σ31 := jI102_fr ((f34 6 (of_decide_eq_true rfl)).trans (congrFun (f17 55 (of_decide_eq_true rfl)) 6)) ((f33 60 (of_decide_eq_true rfl)).trans (f17 60 (of_decide_eq_true rfl))) ((f33 61 (of_decide_eq_true rfl)).trans (f17 61 (of_decide_eq_true rfl))) hI102
        have I56 : jI103 σ31 := jI103_fr ((f34 9 (of_decide_eq_true rfl)).trans (congrFun (f17 55 (of_decide_eq_true rfl)) 9)) hI103
        have I57 : jI104 σ31 := jI104_fr ((f34 10 (of_decide_eq_true rfl)).trans (congrFun (f17 55 (of_decide_eq_true rfl)) 10)) ((f34 12 (of_decide_eq_true rfl)).trans (congrFun (f17 55 (of_decide_eq_true rfl)) 12)) ((f34 13 (of_decide_eq_true rfl)).trans (congrFun (f17 55 (of_decide_eq_true rfl)) 13)) ((f33 62 (of_decide_eq_true rfl)).trans (f17 62 (of_decide_eq_true rfl))) ((f33 67 (of_decide_eq_true rfl)).trans (f17 67 (of_decide_eq_true rfl))) hI104
        have I58 : jI105 σ31 := jI105_fr ((f34 15 (of_decide_eq_true rfl)).trans (congrFun (f17 55 (of_decide_eq_true rfl)) 15)) ((f33 65 (of_decide_eq_true rfl)).trans (f17 65 (of_decide_eq_true rfl))) hI105
        have I59 : jI106 σ31 := jI106_fr ((f34 32 (of_decide_eq_true rfl)).trans (congrFun (f17 55 (of_decide_eq_true rfl)) 32)) ((f33 70 (of_decide_eq_true rfl)).trans (f17 70 (of_decide_eq_true rfl))) ((f33 71 (of_decide_eq_true rfl)).trans (f17 71 (of_decide_eq_true rfl))) ((f33 72 (of_decide_eq_true rfl)).trans (f17 72 (of_decide_eq_true rfl))) hI106
        have I60 : jI107 σ31 := jI107_fr ((f34 12 (of_decide_eq_true rfl)).trans (congrFun (f17 55 (of_decide_eq_true rfl)) 12)) ((f34 47 (of_decide_eq_true rfl)).trans (congrFun (f17 55 (of_decide_eq_true rfl)) 47)) ((f33 80 (of_decide_eq_true rfl)).trans (f17 80 (of_decide_eq_true rfl))) hI107
        have I61 : jI109 σ31 := jI109_fr ((f34 50 (of_decide_eq_true rfl)).trans (congrFun (f17 55 (of_decide_eq_true rfl)) 50)) hI109
        have I62 : jI110 σ31 := jI110_fr ((f33 86 (of_decide_eq_true rfl)).trans (f17 86 (of_decide_eq_true rfl))) ((f33 87 (of_decide_eq_true rfl)).trans (f17 87 (of_decide_eq_true rfl))) hI110
        have I63 : jI111 σ31 := jI111_fr ((f33 79 (of_decide_eq_true rfl)).trans (f17 79 (of_decide_eq_true rfl))) hI111
        have I64 : jI119 σ31 := jI119_fr ((f33 68 (of_decide_eq_true rfl)).trans (f17 68 (of_decide_eq_true rfl))) hI119
        have p65 : jKept σ31 := jKept.fr ((f33 75 (of_decide_eq_true rfl)).trans (f17 75 (of_decide_eq_true rfl))) ((f33 76 (of_decide_eq_true rfl)).trans (f17 76 (of_decide_eq_true rfl))) ((f33 77 (of_decide_eq_true rfl)).trans (f17 77 (of_decide_eq_true rfl))) hs_jKept
        have p66 : jBook σ31 := jBook.fr ((f34 47 (of_decide_eq_true rfl)).trans (congrFun (f17 55 (of_decide_eq_true rfl)) 47)) ((f34 10 (of_decide_eq_true rfl)).trans (congrFun (f17 55 (of_decide_eq_true rfl)) 10)) ((f33 81 (of_decide_eq_true rfl)).trans (f17 81 (of_decide_eq_true rfl))) hs_jBook
        have z67 : (σ31 9 0).toInt = (σ 9 0).toInt := (congrArg Int32.toInt (show σ31 9 0 = (σ 9 0) from ((congrFun (f33 9 (of_decide_eq_true rfl)) 0).trans (congrFun (f17 9 (of_decide_eq_true rfl)) 0))))
        have z68 : (σ31 55 15).toInt = (σ 55 15).toInt := (congrArg Int32.toInt (show σ31 55 15 = (σ 55 15) from ((f34 15 (of_decide_eq_true rfl)).trans (congrFun (f17 55 (of_decide_eq_true rfl)) 15))))
        have z69 : (σ31 16 0).toInt = (σ 16 0).toInt := (congrArg Int32.toInt (show σ31 16 0 = (σ 16 0) from ((congrFun (f33 16 (of_decide_eq_true rfl)) 0).trans (congrFun (f17 16 (of_decide_eq_true rfl)) 0))))
        have z70 : (σ31 55 10).toInt = (σ 55 10).toInt := (congrArg Int32.toInt (show σ31 55 10 = (σ 55 10) from ((f34 10 (of_decide_eq_true rfl)).trans (congrFun (f17 55 (of_decide_eq_true rfl)) 10))))
        have z71 : (σ31 16 1).toInt = (σ 16 1).toInt := (congrArg Int32.toInt (show σ31 16 1 = (σ 16 1) from ((congrFun (f33 16 (of_decide_eq_true rfl)) 1).trans (congrFun (f17 16 (of_decide_eq_true rfl)) 1))))
        have z72 : (σ31 55 12).toInt = (σ 55 12).toInt := (congrArg Int32.toInt (show σ31 55 12 = (σ 55 12) from ((f34 12 (of_decide_eq_true rfl)).trans (congrFun (f17 55 (of_decide_eq_true rfl)) 12))))
        have z73 : (σ31 16 2).toInt = (σ 16 2).toInt := (congrArg Int32.toInt (show σ31 16 2 = (σ 16 2) from ((congrFun (f33 16 (of_decide_eq_true rfl)) 2).trans (congrFun (f17 16 (of_decide_eq_true rfl)) 2))))
        have z74 : (σ31 55 13).toInt = (σ 55 13).toInt := (congrArg Int32.toInt (show σ31 55 13 = (σ 55 13) from ((f34 13 (of_decide_eq_true rfl)).trans (congrFun (f17 55 (of_decide_eq_true rfl)) 13))))
        exact by exact ih x43 σ31 τ _ _ ls (by have h9 := tx43; omega) ⟨I44, I45, I46, I47, I48, I49, I50, I51, I52, I53, I54, I35, I55, I56, I57, I58, I59, I60, I61, I62, I63, I64, p65, p66, (by omega), (by omega), (by omega), (by omega), (show jTp (σ31 10) (σ31 63) (σ31 55 15).toInt by rw [show σ31 10 = σ 10 from ((f33 10 (of_decide_eq_true rfl)).trans (f17 10 (of_decide_eq_true rfl))), show σ31 63 = σ 63 from ((f33 63 (of_decide_eq_true rfl)).trans (f17 63 (of_decide_eq_true rfl)))]; exact hr0.le (by omega)), (show jSo (σ31 17) (σ31 62) (σ31 16 0).toInt by rw [show σ31 17 = σ 17 from ((f33 17 (of_decide_eq_true rfl)).trans (f17 17 (of_decide_eq_true rfl))), show σ31 62 = σ 62 from ((f33 62 (of_decide_eq_true rfl)).trans (f17 62 (of_decide_eq_true rfl))), show (σ31 16 0).toInt = (σ 16 0).toInt from by omega]; exact hr1)⟩ hP hS (lv_sub hl [0, 1, 2, 3] rfl)
    · obtain ⟨q80, k75, k76, k77, k78, k79⟩ := h38
      refine lv_pop hx hb dL_law_986 rfl ?_
      refine lv_goto (tgt := 1357) hx hb dL_law_987 (of_decide_eq_true rfl) ?_
      obtain ⟨x81, ex81⟩ : ∃ y : Int32, y = x0 + 6 := ⟨_, rfl⟩
      exact by
       have tx81 : x81.toInt = x0.toInt + 6 := (jadd ex81 rfl jz_6 (by omega) (by omega)).trans (by omega)
       refine lv_iinc (v := x81) (lv' := [(3, .int x81), (2, .ref (ad 55)), (1, .ref (ad 0)), (0, .ref b)]) hx hb dL_law_1357 hl (k := 0) rfl (by rw [ex81]; rfl) (of_decide_eq_true rfl) rfl (fun ls hl => ?_)
       refine lv_goto (tgt := 18) hx hb dL_law_1360 (of_decide_eq_true rfl) ?_
       have I82 : jI2 σ31 := jI2_fr (congrFun (f33 2 (of_decide_eq_true rfl)) 0) (congrFun (f33 2 (of_decide_eq_true rfl)) 1) (congrFun (f33 2 (of_decide_eq_true rfl)) 2) (congrFun (f33 2 (of_decide_eq_true rfl)) 3) (f33 6 (of_decide_eq_true rfl)) I19
       have I83 : jI9 σ31 := jI9_fr ((congrFun (f33 9 (of_decide_eq_true rfl)) 0).trans (congrFun (f17 9 (of_decide_eq_true rfl)) 0)) ((f33 10 (of_decide_eq_true rfl)).trans (f17 10 (of_decide_eq_true rfl))) ((f33 11 (of_decide_eq_true rfl)).trans (f17 11 (of_decide_eq_true rfl))) hI9
       have I84 : jI12 σ31 := jI12_fr ((congrFun (f33 12 (of_decide_eq_true rfl)) 0).trans (congrFun (f17 12 (of_decide_eq_true rfl)) 0)) ((f33 13 (of_decide_eq_true rfl)).trans (f17 13 (of_decide_eq_true rfl))) hI12
       have I85 : jI16 σ31 := jI16_fr ((congrFun (f33 16 (of_decide_eq_true rfl)) 0).trans (congrFun (f17 16 (of_decide_eq_true rfl)) 0)) ((congrFun (f33 16 (of_decide_eq_true rfl)) 1).trans (congrFun (f17 16 (of_decide_eq_true rfl)) 1)) ((congrFun (f33 16 (of_decide_eq_true rfl)) 2).trans (congrFun (f17 16 (of_decide_eq_true rfl)) 2)) ((f33 17 (of_decide_eq_true rfl)).trans (f17 17 (of_decide_eq_true rfl))) hI16
       have I86 : jI18 σ31 := jI18_fr ((congrFun (f33 18 (of_decide_eq_true rfl)) 0).trans (congrFun (f17 18 (of_decide_eq_true rfl)) 0)) ((f33 19 (of_decide_eq_true rfl)).trans (f17 19 (of_decide_eq_true rfl))) hI18
       have I87 : jI22 σ31 := jI22_fr ((congrFun (f33 22 (of_decide_eq_true rfl)) 0).trans (congrFun (f17 22 (of_decide_eq_true rfl)) 0)) ((f33 23 (of_decide_eq_true rfl)).trans (f17 23 (of_decide_eq_true rfl))) hI22
       exact by
        have I88 : jI31 σ31 := jI31_fr ((congrFun (f33 31 (of_decide_eq_true rfl)) 8).trans (congrFun (f17 31 (of_decide_eq_true rfl)) 8)) ((f33 33 (of_decide_eq_true rfl)).trans (f17 33 (of_decide_eq_true rfl))) ((f33 36 (of_decide_eq_true rfl)).trans (f17 36 (of_decide_eq_true rfl))) hI31
        have I89 : jI38 σ31 := jI38_fr ((congrFun (f33 38 (of_decide_eq_true rfl)) 0).trans (congrFun (f17 38 (of_decide_eq_true rfl)) 0)) ((congrFun (f33 38 (of_decide_eq_true rfl)) 1).trans (congrFun (f17 38 (of_decide_eq_true rfl)) 1)) ((f33 39 (of_decide_eq_true rfl)).trans (f17 39 (of_decide_eq_true rfl))) hI38
        have I90 : jI43 σ31 := jI43_fr ((congrFun (f33 43 (of_decide_eq_true rfl)) 8).trans (congrFun (f17 43 (of_decide_eq_true rfl)) 8)) hI43
        have I91 : jI47 σ31 := jI47_fr ((congrFun (f33 47 (of_decide_eq_true rfl)) 0).trans (congrFun (f17 47 (of_decide_eq_true rfl)) 0)) ((f33 48 (of_decide_eq_true rfl)).trans (f17 48 (of_decide_eq_true rfl))) ((f33 49 (of_decide_eq_true rfl)).trans (f17 49 (of_decide_eq_true rfl))) hI47
        have I92 : jI50 σ31 := jI50_fr ((f33 52 (of_decide_eq_true rfl)).trans (f17 52 (of_decide_eq_true rfl))) hI50
        have I93 : jI102 σ31 := jI102_fr ((f34 6 (of_decide_eq_true rfl)).trans (congrFun (f17 55 (of_decide_eq_true rfl)) 6)) ((f33 60 (of_decide_eq_true rfl)).trans (f17 60 (of_decide_eq_true rfl))) ((f33 61 (of_decide_eq_true rfl)).trans (f17 61 (of_decide_eq_true rfl))) hI102
        have I94 : jI103 σ31 := jI103_fr ((f34 9 (of_decide_eq_true rfl)).trans (congrFun (f17 55 (of_decide_eq_true rfl)) 9)) hI103
        have I95 : jI104 σ31 := jI104_fr ((f34 10 (of_decide_eq_true rfl)).trans (congrFun (f17 55 (of_decide_eq_true rfl)) 10)) ((f34 12 (of_decide_eq_true rfl)).trans (congrFun (f17 55 (of_decide_eq_true rfl)) 12)) ((f34 13 (of_decide_eq_true rfl)).trans (congrFun (f17 55 (of_decide_eq_true rfl)) 13)) ((f33 62 (of_decide_eq_true rfl)).trans (f17 62 (of_decide_eq_true rfl))) ((f33 67 (of_decide_eq_true rfl)).trans (f17 67 (of_decide_eq_true rfl))) hI104
        have I96 : jI105 σ31 := jI105_fr ((f34 15 (of_decide_eq_true rfl)).trans (congrFun (f17 55 (of_decide_eq_true rfl)) 15)) ((f33 65 (of_decide_eq_true rfl)).trans (f17 65 (of_decide_eq_true rfl))) hI105
        have I97 : jI106 σ31 := jI106_fr ((f34 32 (of_decide_eq_true rfl)).trans (congrFun (f17 55 (of_decide_eq_true rfl)) 32)) ((f33 70 (of_decide_eq_true rfl)).trans (f17 70 (of_decide_eq_true rfl))) ((f33 71 (of_decide_eq_true rfl)).trans (f17 71 (of_decide_eq_true rfl))) ((f33 72 (of_decide_eq_true rfl)).trans (f17 72 (of_decide_eq_true rfl))) hI106
        have I98 : jI107 σ31 := jI107_fr ((f34 12 (of_decide_eq_true rfl)).trans (congrFun (f17 55 (of_decide_eq_true rfl)) 12)) ((f34 47 (of_decide_eq_true rfl)).trans (congrFun (f17 55 (of_decide_eq_true rfl)) 47)) ((f33 80 (of_decide_eq_true rfl)).trans (f17 80 (of_decide_eq_true rfl))) hI107
        have I99 : jI109 σ31 := jI109_fr ((f34 50 (of_decide_eq_true rfl)).trans (congrFun (f17 55 (of_decide_eq_true rfl)) 50)) hI109
        have I100 : jI110 σ31 := jI110_fr ((f33 86 (of_decide_eq_true rfl)).trans (f17 86 (of_decide_eq_true rfl))) ((f33 87 (of_decide_eq_true rfl)).trans (f17 87 (of_decide_eq_true rfl))) hI110
        have I101 : jI111 σ31 := jI111_fr ((f33 79 (of_decide_eq_true rfl)).trans (f17 79 (of_decide_eq_true rfl))) hI111
        have I102 : jI119 σ31 := jI119_fr ((f33 68 (of_decide_eq_true rfl)).trans (f17 68 (of_decide_eq_true rfl))) hI119
        have p103 : jKept σ31 := jKept.fr ((f33 75 (of_decide_eq_true rfl)).trans (f17 75 (of_decide_eq_true rfl))) ((f33 76 (of_decide_eq_true rfl)).trans (f17 76 (of_decide_eq_true rfl))) ((f33 77 (of_decide_eq_true rfl)).trans (f17 77 (of_decide_eq_true rfl))) hs_jKept
        have p104 : jBook σ31 := jBook.fr ((f34 47 (of_decide_eq_true rfl)).trans (congrFun (f17 55 (of_decide_eq_true rfl)) 47)) ((f34 10 (of_decide_eq_true rfl)).trans (congrFun (f17 55 (of_decide_eq_true rfl)) 10)) ((f33 81 (of_decide_eq_true rfl)).trans (f17 81 (of_decide_eq_true rfl))) hs_jBook
        have z105 : (σ31 9 0).toInt = (σ 9 0).toInt := (congrArg Int32.toInt (show σ31 9 0 = (σ 9 0) from ((congrFun (f33 9 (of_decide_eq_true rfl)) 0).trans (congrFun (f17 9 (of_decide_eq_true rfl)) 0))))
        have z106 : (σ31 55 15).toInt = (σ 55 15).toInt := (congrArg Int32.toInt (show σ31 55 15 = (σ 55 15) from ((f34 15 (of_decide_eq_true rfl)).trans (congrFun (f17 55 (of_decide_eq_true rfl)) 15))))
        have z107 : (σ31 16 0).toInt = (σ 16 0).toInt := (congrArg Int32.toInt (show σ31 16 0 = (σ 16 0) from ((congrFun (f33 16 (of_decide_eq_true rfl)) 0).trans (congrFun (f17 16 (of_decide_eq_true rfl)) 0))))
        have z108 : (σ31 55 10).toInt = (σ 55 10).toInt := (congrArg Int32.toInt (show σ31 55 10 = (σ 55 10) from ((f34 10 (of_decide_eq_true rfl)).trans (congrFun (f17 55 (of_decide_eq_true rfl)) 10))))
        have z109 : (σ31 16 1).toInt = (σ 16 1).toInt := (congrArg Int32.toInt (show σ31 16 1 = (σ 16 1) from ((congrFun (f33 16 (of_decide_eq_true rfl)) 1).trans (congrFun (f17 16 (of_decide_eq_true rfl)) 1))))
        have z110 : (σ31 55 12).toInt = (σ 55 12).toInt := (congrArg Int32.toInt (show σ31 55 12 = (σ 55 12) from ((f34 12 (of_decide_eq_true rfl)).trans (congrFun (f17 55 (of_decide_eq_true rfl)) 12))))
        have z111 : (σ31 16 2).toInt = (σ 16 2).toInt := (congrArg Int32.toInt (show σ31 16 2 = (σ 16 2) from ((congrFun (f33 16 (of_decide_eq_true rfl)) 2).trans (congrFun (f17 16 (of_decide_eq_true rfl)) 2))))
        have z112 : (σ31 55 13).toInt = (σ 55 13).toInt := (congrArg Int32.toInt (show σ31 55 13 = (σ 55 13) from ((f34 13 (of_decide_eq_true rfl)).trans (congrFun (f17 55 (of_decide_eq_true rfl)) 13))))
        exact by exact ih x81 σ31 τ _ _ ls (by have h9 := tx81; omega) ⟨I82, I83, I84, I85, I86, I87, I88, I89, I90, I91, I92, I35, I93, I94, I95, I96, I97, I98, I99, I100, I101, I102, p103, p104, (by omega), (by omega), (by omega), (by omega), (show jTp (σ31 10) (σ31 63) (σ31 55 15).toInt by rw [show σ31 10 = σ 10 from ((f33 10 (of_decide_eq_true rfl)).trans (f17 10 (of_decide_eq_true rfl))), show σ31 63 = σ 63 from ((f33 63 (of_decide_eq_true rfl)).trans (f17 63 (of_decide_eq_true rfl)))]; exact hr0.le (by omega)), (show jSo (σ31 17) (σ31 62) (σ31 16 0).toInt by rw [show σ31 17 = σ 17 from ((f33 17 (of_decide_eq_true rfl)).trans (f17 17 (of_decide_eq_true rfl))), show σ31 62 = σ 62 from ((f33 62 (of_decide_eq_true rfl)).trans (f17 62 (of_decide_eq_true rfl))), show (σ31 16 0).toInt = (σ 16 0).toInt from by omega]; exact hr1)⟩ hP hS (lv_sub hl [0, 1, 2, 3] rfl)
  · obtain ⟨q119, k113, k114, k115, k116, k117, k118⟩ := h22
    refine lv_pop hx hb dL_law_981 rfl ?_
    refine lv_aload_n hx hb dL_law_982 rfl (lv_at hl 1 rfl) ?_
    have I120 : jI101 σ15 := jI101_fr (congrFun (f17 55 (of_decide_eq_true rfl)) 4) (congrFun (f17 55 (of_decide_eq_true rfl)) 5) (f17 56 (of_decide_eq_true rfl)) (f17 57 (of_decide_eq_true rfl)) (f17 58 (of_decide_eq_true rfl)) (f17 59 (of_decide_eq_true rfl)) hI101
    have z121 : (σ15 55 5).toInt = (σ 55 5).toInt := (congrArg Int32.toInt (show σ15 55 5 = (σ 55 5) from (congrFun (f17 55 (of_decide_eq_true rfl)) 5)))
    have z122 : (σ15 55 4).toInt = (σ 55 4).toInt := (congrArg Int32.toInt (show σ15 55 4 = (σ 55 4) from (congrFun (f17 55 (of_decide_eq_true rfl)) 4)))
    refine jcallV (As := []) (rest := []) ⟨hx, hb, hml, hown, hts⟩ hK hP hA hS hZ (c_X12_redo l D cI cL ad zz hJ σ15 τ I120) cw_RL_128 (jc_55 cI cL ad σ15 τ) rfl ⟨Nat.le_of_ble_eq_true rfl, Nat.le_of_ble_eq_true rfl⟩ rfl rfl rfl hl.1 rfl (Nat.le_of_ble_eq_true rfl) dL_law_983 ⟨Nat.le_of_ble_eq_true rfl, Nat.le_of_ble_eq_true rfl⟩ (fun r124 σ123 τ123 H locs h123 hP hS => ?_)
    obtain ⟨rfl, f125, f126, I127, h123⟩ := h123
    rcases h123 with h129 | h130
    · obtain ⟨q134, k131, k132, k133⟩ := h129
      have q134 := q134.symm
      subst q134
      refine lv_pop hx hb dL_law_986 rfl ?_
      refine lv_goto (tgt := 1357) hx hb dL_law_987 (of_decide_eq_true rfl) ?_
      obtain ⟨x135, ex135⟩ : ∃ y : Int32, y = x0 + 6 := ⟨_, rfl⟩
      exact by
       have tx135 : x135.toInt = x0.toInt + 6 := (jadd ex135 rfl jz_6 (by omega) (by omega)).trans (by omega)
       refine lv_iinc (v := x135) (lv' := [(3, .int x135), (2, .ref (ad 55)), (1, .ref (ad 0)), (0, .ref b)]) hx hb dL_law_1357 hl (k := 0) rfl (by rw [ex135]; rfl) (of_decide_eq_true rfl) rfl (fun ls hl => ?_)
       refine lv_goto (tgt := 18) hx hb dL_law_1360 (of_decide_eq_true rfl) ?_
       have I136 : jI2 σ123 := jI2_fr (congrFun (f125 2 (of_decide_eq_true rfl)) 0) (congrFun (f125 2 (of_decide_eq_true rfl)) 1) (congrFun (f125 2 (of_decide_eq_true rfl)) 2) (congrFun (f125 2 (of_decide_eq_true rfl)) 3) (f125 6 (of_decide_eq_true rfl)) I19
       have I137 : jI9 σ123 := jI9_fr ((congrFun (f125 9 (of_decide_eq_true rfl)) 0).trans (congrFun (f17 9 (of_decide_eq_true rfl)) 0)) ((f125 10 (of_decide_eq_true rfl)).trans (f17 10 (of_decide_eq_true rfl))) ((f125 11 (of_decide_eq_true rfl)).trans (f17 11 (of_decide_eq_true rfl))) hI9
       have I138 : jI12 σ123 := jI12_fr ((congrFun (f125 12 (of_decide_eq_true rfl)) 0).trans (congrFun (f17 12 (of_decide_eq_true rfl)) 0)) ((f125 13 (of_decide_eq_true rfl)).trans (f17 13 (of_decide_eq_true rfl))) hI12
       have I139 : jI16 σ123 := jI16_fr ((congrFun (f125 16 (of_decide_eq_true rfl)) 0).trans (congrFun (f17 16 (of_decide_eq_true rfl)) 0)) ((congrFun (f125 16 (of_decide_eq_true rfl)) 1).trans (congrFun (f17 16 (of_decide_eq_true rfl)) 1)) ((congrFun (f125 16 (of_decide_eq_true rfl)) 2).trans (congrFun (f17 16 (of_decide_eq_true rfl)) 2)) ((f125 17 (of_decide_eq_true rfl)).trans (f17 17 (of_decide_eq_true rfl))) hI16
       have I140 : jI18 σ123 := jI18_fr ((congrFun (f125 18 (of_decide_eq_true rfl)) 0).trans (congrFun (f17 18 (of_decide_eq_true rfl)) 0)) ((f125 19 (of_decide_eq_true rfl)).trans (f17 19 (of_decide_eq_true rfl))) hI18
       have I141 : jI22 σ123 := jI22_fr ((congrFun (f125 22 (of_decide_eq_true rfl)) 0).trans (congrFun (f17 22 (of_decide_eq_true rfl)) 0)) ((f125 23 (of_decide_eq_true rfl)).trans (f17 23 (of_decide_eq_true rfl))) hI22
       exact by
        have I142 : jI31 σ123 := jI31_fr ((congrFun (f125 31 (of_decide_eq_true rfl)) 8).trans (congrFun (f17 31 (of_decide_eq_true rfl)) 8)) ((f125 33 (of_decide_eq_true rfl)).trans (f17 33 (of_decide_eq_true rfl))) ((f125 36 (of_decide_eq_true rfl)).trans (f17 36 (of_decide_eq_true rfl))) hI31
        have I143 : jI38 σ123 := jI38_fr ((congrFun (f125 38 (of_decide_eq_true rfl)) 0).trans (congrFun (f17 38 (of_decide_eq_true rfl)) 0)) ((congrFun (f125 38 (of_decide_eq_true rfl)) 1).trans (congrFun (f17 38 (of_decide_eq_true rfl)) 1)) ((f125 39 (of_decide_eq_true rfl)).trans (f17 39 (of_decide_eq_true rfl))) hI38
        have I144 : jI43 σ123 := jI43_fr ((congrFun (f125 43 (of_decide_eq_true rfl)) 8).trans (congrFun (f17 43 (of_decide_eq_true rfl)) 8)) hI43
        have I145 : jI47 σ123 := jI47_fr ((congrFun (f125 47 (of_decide_eq_true rfl)) 0).trans (congrFun (f17 47 (of_decide_eq_true rfl)) 0)) ((f125 48 (of_decide_eq_true rfl)).trans (f17 48 (of_decide_eq_true rfl))) ((f125 49 (of_decide_eq_true rfl)).trans (f17 49 (of_decide_eq_true rfl))) hI47
        have I146 : jI50 σ123 := jI50_fr ((f125 52 (of_decide_eq_true rfl)).trans (f17 52 (of_decide_eq_true rfl))) hI50
        have I147 : jI102 σ123 := jI102_fr ((f126 6 (of_decide_eq_true rfl)).trans (congrFun (f17 55 (of_decide_eq_true rfl)) 6)) ((f125 60 (of_decide_eq_true rfl)).trans (f17 60 (of_decide_eq_true rfl))) ((f125 61 (of_decide_eq_true rfl)).trans (f17 61 (of_decide_eq_true rfl))) hI102
        have I148 : jI103 σ123 := jI103_fr ((f126 9 (of_decide_eq_true rfl)).trans (congrFun (f17 55 (of_decide_eq_true rfl)) 9)) hI103
        have I149 : jI104 σ123 := jI104_fr ((f126 10 (of_decide_eq_true rfl)).trans (congrFun (f17 55 (of_decide_eq_true rfl)) 10)) ((f126 12 (of_decide_eq_true rfl)).trans (congrFun (f17 55 (of_decide_eq_true rfl)) 12)) ((f126 13 (of_decide_eq_true rfl)).trans (congrFun (f17 55 (of_decide_eq_true rfl)) 13)) ((f125 62 (of_decide_eq_true rfl)).trans (f17 62 (of_decide_eq_true rfl))) ((f125 67 (of_decide_eq_true rfl)).trans (f17 67 (of_decide_eq_true rfl))) hI104
        have I150 : jI105 σ123 := jI105_fr ((f126 15 (of_decide_eq_true rfl)).trans (congrFun (f17 55 (of_decide_eq_true rfl)) 15)) ((f125 65 (of_decide_eq_true rfl)).trans (f17 65 (of_decide_eq_true rfl))) hI105
        have I151 : jI106 σ123 := jI106_fr ((f126 32 (of_decide_eq_true rfl)).trans (congrFun (f17 55 (of_decide_eq_true rfl)) 32)) ((f125 70 (of_decide_eq_true rfl)).trans (f17 70 (of_decide_eq_true rfl))) ((f125 71 (of_decide_eq_true rfl)).trans (f17 71 (of_decide_eq_true rfl))) ((f125 72 (of_decide_eq_true rfl)).trans (f17 72 (of_decide_eq_true rfl))) hI106
        have I152 : jI107 σ123 := jI107_fr ((f126 12 (of_decide_eq_true rfl)).trans (congrFun (f17 55 (of_decide_eq_true rfl)) 12)) ((f126 47 (of_decide_eq_true rfl)).trans (congrFun (f17 55 (of_decide_eq_true rfl)) 47)) ((f125 80 (of_decide_eq_true rfl)).trans (f17 80 (of_decide_eq_true rfl))) hI107
        have I153 : jI109 σ123 := jI109_fr ((f126 50 (of_decide_eq_true rfl)).trans (congrFun (f17 55 (of_decide_eq_true rfl)) 50)) hI109
        have I154 : jI110 σ123 := jI110_fr ((f125 86 (of_decide_eq_true rfl)).trans (f17 86 (of_decide_eq_true rfl))) ((f125 87 (of_decide_eq_true rfl)).trans (f17 87 (of_decide_eq_true rfl))) hI110
        have I155 : jI111 σ123 := jI111_fr ((f125 79 (of_decide_eq_true rfl)).trans (f17 79 (of_decide_eq_true rfl))) hI111
        have I156 : jI119 σ123 := jI119_fr ((f125 68 (of_decide_eq_true rfl)).trans (f17 68 (of_decide_eq_true rfl))) hI119
        have p157 : jKept σ123 := jKept.fr ((f125 75 (of_decide_eq_true rfl)).trans (f17 75 (of_decide_eq_true rfl))) ((f125 76 (of_decide_eq_true rfl)).trans (f17 76 (of_decide_eq_true rfl))) ((f125 77 (of_decide_eq_true rfl)).trans (f17 77 (of_decide_eq_true rfl))) hs_jKept
        have p158 : jBook σ123 := jBook.fr ((f126 47 (of_decide_eq_true rfl)).trans (congrFun (f17 55 (of_decide_eq_true rfl)) 47)) ((f126 10 (of_decide_eq_true rfl)).trans (congrFun (f17 55 (of_decide_eq_true rfl)) 10)) ((f125 81 (of_decide_eq_true rfl)).trans (f17 81 (of_decide_eq_true rfl))) hs_jBook
        have z159 : (σ123 9 0).toInt = (σ 9 0).toInt := (congrArg Int32.toInt (show σ123 9 0 = (σ 9 0) from ((congrFun (f125 9 (of_decide_eq_true rfl)) 0).trans (congrFun (f17 9 (of_decide_eq_true rfl)) 0))))
        have z160 : (σ123 55 15).toInt = (σ 55 15).toInt := (congrArg Int32.toInt (show σ123 55 15 = (σ 55 15) from ((f126 15 (of_decide_eq_true rfl)).trans (congrFun (f17 55 (of_decide_eq_true rfl)) 15))))
        have z161 : (σ123 16 0).toInt = (σ 16 0).toInt := (congrArg Int32.toInt (show σ123 16 0 = (σ 16 0) from ((congrFun (f125 16 (of_decide_eq_true rfl)) 0).trans (congrFun (f17 16 (of_decide_eq_true rfl)) 0))))
        have z162 : (σ123 55 10).toInt = (σ 55 10).toInt := (congrArg Int32.toInt (show σ123 55 10 = (σ 55 10) from ((f126 10 (of_decide_eq_true rfl)).trans (congrFun (f17 55 (of_decide_eq_true rfl)) 10))))
        have z163 : (σ123 16 1).toInt = (σ 16 1).toInt := (congrArg Int32.toInt (show σ123 16 1 = (σ 16 1) from ((congrFun (f125 16 (of_decide_eq_true rfl)) 1).trans (congrFun (f17 16 (of_decide_eq_true rfl)) 1))))
        have z164 : (σ123 55 12).toInt = (σ 55 12).toInt := (congrArg Int32.toInt (show σ123 55 12 = (σ 55 12) from ((f126 12 (of_decide_eq_true rfl)).trans (congrFun (f17 55 (of_decide_eq_true rfl)) 12))))
        have z165 : (σ123 16 2).toInt = (σ 16 2).toInt := (congrArg Int32.toInt (show σ123 16 2 = (σ 16 2) from ((congrFun (f125 16 (of_decide_eq_true rfl)) 2).trans (congrFun (f17 16 (of_decide_eq_true rfl)) 2))))
        have z166 : (σ123 55 13).toInt = (σ 55 13).toInt := (congrArg Int32.toInt (show σ123 55 13 = (σ 55 13) from ((f126 13 (of_decide_eq_true rfl)).trans (congrFun (f17 55 (of_decide_eq_true rfl)) 13))))
        exact by exact ih x135 σ123 τ _ _ ls (by have h9 := tx135; omega) ⟨I136, I137, I138, I139, I140, I141, I142, I143, I144, I145, I146, I127, I147, I148, I149, I150, I151, I152, I153, I154, I155, I156, p157, p158, (by omega), (by omega), (by omega), (by omega), (show jTp (σ123 10) (σ123 63) (σ123 55 15).toInt by rw [show σ123 10 = σ 10 from ((f125 10 (of_decide_eq_true rfl)).trans (f17 10 (of_decide_eq_true rfl))), show σ123 63 = σ 63 from ((f125 63 (of_decide_eq_true rfl)).trans (f17 63 (of_decide_eq_true rfl)))]; exact hr0.le (by omega)), (show jSo (σ123 17) (σ123 62) (σ123 16 0).toInt by rw [show σ123 17 = σ 17 from ((f125 17 (of_decide_eq_true rfl)).trans (f17 17 (of_decide_eq_true rfl))), show σ123 62 = σ 62 from ((f125 62 (of_decide_eq_true rfl)).trans (f17 62 (of_decide_eq_true rfl))), show (σ123 16 0).toInt = (σ 16 0).toInt from by omega]; exact hr1)⟩ hP hS (lv_sub hl [0, 1, 2, 3] rfl)
    · obtain ⟨q172, k167, k168, k169, k170, k171⟩ := h130
      refine lv_pop hx hb dL_law_986 rfl ?_
      refine lv_goto (tgt := 1357) hx hb dL_law_987 (of_decide_eq_true rfl) ?_
      obtain ⟨x173, ex173⟩ : ∃ y : Int32, y = x0 + 6 := ⟨_, rfl⟩
      exact by
       have tx173 : x173.toInt = x0.toInt + 6 := (jadd ex173 rfl jz_6 (by omega) (by omega)).trans (by omega)
       refine lv_iinc (v := x173) (lv' := [(3, .int x173), (2, .ref (ad 55)), (1, .ref (ad 0)), (0, .ref b)]) hx hb dL_law_1357 hl (k := 0) rfl (by rw [ex173]; rfl) (of_decide_eq_true rfl) rfl (fun ls hl => ?_)
       refine lv_goto (tgt := 18) hx hb dL_law_1360 (of_decide_eq_true rfl) ?_
       have I174 : jI2 σ123 := jI2_fr (congrFun (f125 2 (of_decide_eq_true rfl)) 0) (congrFun (f125 2 (of_decide_eq_true rfl)) 1) (congrFun (f125 2 (of_decide_eq_true rfl)) 2) (congrFun (f125 2 (of_decide_eq_true rfl)) 3) (f125 6 (of_decide_eq_true rfl)) I19
       have I175 : jI9 σ123 := jI9_fr ((congrFun (f125 9 (of_decide_eq_true rfl)) 0).trans (congrFun (f17 9 (of_decide_eq_true rfl)) 0)) ((f125 10 (of_decide_eq_true rfl)).trans (f17 10 (of_decide_eq_true rfl))) ((f125 11 (of_decide_eq_true rfl)).trans (f17 11 (of_decide_eq_true rfl))) hI9
       have I176 : jI12 σ123 := jI12_fr ((congrFun (f125 12 (of_decide_eq_true rfl)) 0).trans (congrFun (f17 12 (of_decide_eq_true rfl)) 0)) ((f125 13 (of_decide_eq_true rfl)).trans (f17 13 (of_decide_eq_true rfl))) hI12
       have I177 : jI16 σ123 := jI16_fr ((congrFun (f125 16 (of_decide_eq_true rfl)) 0).trans (congrFun (f17 16 (of_decide_eq_true rfl)) 0)) ((congrFun (f125 16 (of_decide_eq_true rfl)) 1).trans (congrFun (f17 16 (of_decide_eq_true rfl)) 1)) ((congrFun (f125 16 (of_decide_eq_true rfl)) 2).trans (congrFun (f17 16 (of_decide_eq_true rfl)) 2)) ((f125 17 (of_decide_eq_true rfl)).trans (f17 17 (of_decide_eq_true rfl))) hI16
       have I178 : jI18 σ123 := jI18_fr ((congrFun (f125 18 (of_decide_eq_true rfl)) 0).trans (congrFun (f17 18 (of_decide_eq_true rfl)) 0)) ((f125 19 (of_decide_eq_true rfl)).trans (f17 19 (of_decide_eq_true rfl))) hI18
       have I179 : jI22 σ123 := jI22_fr ((congrFun (f125 22 (of_decide_eq_true rfl)) 0).trans (congrFun (f17 22 (of_decide_eq_true rfl)) 0)) ((f125 23 (of_decide_eq_true rfl)).trans (f17 23 (of_decide_eq_true rfl))) hI22
       exact by
        have I180 : jI31 σ123 := jI31_fr ((congrFun (f125 31 (of_decide_eq_true rfl)) 8).trans (congrFun (f17 31 (of_decide_eq_true rfl)) 8)) ((f125 33 (of_decide_eq_true rfl)).trans (f17 33 (of_decide_eq_true rfl))) ((f125 36 (of_decide_eq_true rfl)).trans (f17 36 (of_decide_eq_true rfl))) hI31
        have I181 : jI38 σ123 := jI38_fr ((congrFun (f125 38 (of_decide_eq_true rfl)) 0).trans (congrFun (f17 38 (of_decide_eq_true rfl)) 0)) ((congrFun (f125 38 (of_decide_eq_true rfl)) 1).trans (congrFun (f17 38 (of_decide_eq_true rfl)) 1)) ((f125 39 (of_decide_eq_true rfl)).trans (f17 39 (of_decide_eq_true rfl))) hI38
        have I182 : jI43 σ123 := jI43_fr ((congrFun (f125 43 (of_decide_eq_true rfl)) 8).trans (congrFun (f17 43 (of_decide_eq_true rfl)) 8)) hI43
        have I183 : jI47 σ123 := jI47_fr ((congrFun (f125 47 (of_decide_eq_true rfl)) 0).trans (congrFun (f17 47 (of_decide_eq_true rfl)) 0)) ((f125 48 (of_decide_eq_true rfl)).trans (f17 48 (of_decide_eq_true rfl))) ((f125 49 (of_decide_eq_true rfl)).trans (f17 49 (of_decide_eq_true rfl))) hI47
        have I184 : jI50 σ123 := jI50_fr ((f125 52 (of_decide_eq_true rfl)).trans (f17 52 (of_decide_eq_true rfl))) hI50
        have I185 : jI102 σ123 := jI102_fr ((f126 6 (of_decide_eq_true rfl)).trans (congrFun (f17 55 (of_decide_eq_true rfl)) 6)) ((f125 60 (of_decide_eq_true rfl)).trans (f17 60 (of_decide_eq_true rfl))) ((f125 61 (of_decide_eq_true rfl)).trans (f17 61 (of_decide_eq_true rfl))) hI102
        have I186 : jI103 σ123 := jI103_fr ((f126 9 (of_decide_eq_true rfl)).trans (congrFun (f17 55 (of_decide_eq_true rfl)) 9)) hI103
        have I187 : jI104 σ123 := jI104_fr ((f126 10 (of_decide_eq_true rfl)).trans (congrFun (f17 55 (of_decide_eq_true rfl)) 10)) ((f126 12 (of_decide_eq_true rfl)).trans (congrFun (f17 55 (of_decide_eq_true rfl)) 12)) ((f126 13 (of_decide_eq_true rfl)).trans (congrFun (f17 55 (of_decide_eq_true rfl)) 13)) ((f125 62 (of_decide_eq_true rfl)).trans (f17 62 (of_decide_eq_true rfl))) ((f125 67 (of_decide_eq_true rfl)).trans (f17 67 (of_decide_eq_true rfl))) hI104
        have I188 : jI105 σ123 := jI105_fr ((f126 15 (of_decide_eq_true rfl)).trans (congrFun (f17 55 (of_decide_eq_true rfl)) 15)) ((f125 65 (of_decide_eq_true rfl)).trans (f17 65 (of_decide_eq_true rfl))) hI105
        have I189 : jI106 σ123 := jI106_fr ((f126 32 (of_decide_eq_true rfl)).trans (congrFun (f17 55 (of_decide_eq_true rfl)) 32)) ((f125 70 (of_decide_eq_true rfl)).trans (f17 70 (of_decide_eq_true rfl))) ((f125 71 (of_decide_eq_true rfl)).trans (f17 71 (of_decide_eq_true rfl))) ((f125 72 (of_decide_eq_true rfl)).trans (f17 72 (of_decide_eq_true rfl))) hI106
        have I190 : jI107 σ123 := jI107_fr ((f126 12 (of_decide_eq_true rfl)).trans (congrFun (f17 55 (of_decide_eq_true rfl)) 12)) ((f126 47 (of_decide_eq_true rfl)).trans (congrFun (f17 55 (of_decide_eq_true rfl)) 47)) ((f125 80 (of_decide_eq_true rfl)).trans (f17 80 (of_decide_eq_true rfl))) hI107
        have I191 : jI109 σ123 := jI109_fr ((f126 50 (of_decide_eq_true rfl)).trans (congrFun (f17 55 (of_decide_eq_true rfl)) 50)) hI109
        have I192 : jI110 σ123 := jI110_fr ((f125 86 (of_decide_eq_true rfl)).trans (f17 86 (of_decide_eq_true rfl))) ((f125 87 (of_decide_eq_true rfl)).trans (f17 87 (of_decide_eq_true rfl))) hI110
        have I193 : jI111 σ123 := jI111_fr ((f125 79 (of_decide_eq_true rfl)).trans (f17 79 (of_decide_eq_true rfl))) hI111
        have I194 : jI119 σ123 := jI119_fr ((f125 68 (of_decide_eq_true rfl)).trans (f17 68 (of_decide_eq_true rfl))) hI119
        have p195 : jKept σ123 := jKept.fr ((f125 75 (of_decide_eq_true rfl)).trans (f17 75 (of_decide_eq_true rfl))) ((f125 76 (of_decide_eq_true rfl)).trans (f17 76 (of_decide_eq_true rfl))) ((f125 77 (of_decide_eq_true rfl)).trans (f17 77 (of_decide_eq_true rfl))) hs_jKept
        have p196 : jBook σ123 := jBook.fr ((f126 47 (of_decide_eq_true rfl)).trans (congrFun (f17 55 (of_decide_eq_true rfl)) 47)) ((f126 10 (of_decide_eq_true rfl)).trans (congrFun (f17 55 (of_decide_eq_true rfl)) 10)) ((f125 81 (of_decide_eq_true rfl)).trans (f17 81 (of_decide_eq_true rfl))) hs_jBook
        have z197 : (σ123 9 0).toInt = (σ 9 0).toInt := (congrArg Int32.toInt (show σ123 9 0 = (σ 9 0) from ((congrFun (f125 9 (of_decide_eq_true rfl)) 0).trans (congrFun (f17 9 (of_decide_eq_true rfl)) 0))))
        have z198 : (σ123 55 15).toInt = (σ 55 15).toInt := (congrArg Int32.toInt (show σ123 55 15 = (σ 55 15) from ((f126 15 (of_decide_eq_true rfl)).trans (congrFun (f17 55 (of_decide_eq_true rfl)) 15))))
        have z199 : (σ123 16 0).toInt = (σ 16 0).toInt := (congrArg Int32.toInt (show σ123 16 0 = (σ 16 0) from ((congrFun (f125 16 (of_decide_eq_true rfl)) 0).trans (congrFun (f17 16 (of_decide_eq_true rfl)) 0))))
        have z200 : (σ123 55 10).toInt = (σ 55 10).toInt := (congrArg Int32.toInt (show σ123 55 10 = (σ 55 10) from ((f126 10 (of_decide_eq_true rfl)).trans (congrFun (f17 55 (of_decide_eq_true rfl)) 10))))
        have z201 : (σ123 16 1).toInt = (σ 16 1).toInt := (congrArg Int32.toInt (show σ123 16 1 = (σ 16 1) from ((congrFun (f125 16 (of_decide_eq_true rfl)) 1).trans (congrFun (f17 16 (of_decide_eq_true rfl)) 1))))
        have z202 : (σ123 55 12).toInt = (σ 55 12).toInt := (congrArg Int32.toInt (show σ123 55 12 = (σ 55 12) from ((f126 12 (of_decide_eq_true rfl)).trans (congrFun (f17 55 (of_decide_eq_true rfl)) 12))))
        have z203 : (σ123 16 2).toInt = (σ 16 2).toInt := (congrArg Int32.toInt (show σ123 16 2 = (σ 16 2) from ((congrFun (f125 16 (of_decide_eq_true rfl)) 2).trans (congrFun (f17 16 (of_decide_eq_true rfl)) 2))))
        have z204 : (σ123 55 13).toInt = (σ 55 13).toInt := (congrArg Int32.toInt (show σ123 55 13 = (σ 55 13) from ((f126 13 (of_decide_eq_true rfl)).trans (congrFun (f17 55 (of_decide_eq_true rfl)) 13))))
        exact by exact ih x173 σ123 τ _ _ ls (by have h9 := tx173; omega) ⟨I174, I175, I176, I177, I178, I179, I180, I181, I182, I183, I184, I127, I185, I186, I187, I188, I189, I190, I191, I192, I193, I194, p195, p196, (by omega), (by omega), (by omega), (by omega), (show jTp (σ123 10) (σ123 63) (σ123 55 15).toInt by rw [show σ123 10 = σ 10 from ((f125 10 (of_decide_eq_true rfl)).trans (f17 10 (of_decide_eq_true rfl))), show σ123 63 = σ 63 from ((f125 63 (of_decide_eq_true rfl)).trans (f17 63 (of_decide_eq_true rfl)))]; exact hr0.le (by omega)), (show jSo (σ123 17) (σ123 62) (σ123 16 0).toInt by rw [show σ123 17 = σ 17 from ((f125 17 (of_decide_eq_true rfl)).trans (f17 17 (of_decide_eq_true rfl))), show σ123 62 = σ 62 from ((f125 62 (of_decide_eq_true rfl)).trans (f17 62 (of_decide_eq_true rfl))), show (σ123 16 0).toInt = (σ 16 0).toInt from by omega]; exact hr1)⟩ hP hS (lv_sub hl [0, 1, 2, 3] rfl)
set_option maxHeartbeats 4000000 in
set_option maxRecDepth 100000 in
theorem law_case_28 {p : Program} {e : Env} {s : State} {m : MethodId} {below : List Frame} {meth : Method} {c : Code} (l : Launch) {b L : Nat} {xs : Nat → Int32} {D : va_G} {cI cL : ClassId} {ad zz : Nat → Nat} (C0 : lw_At p s m meth c b L xs) (hJ : jD ad) (hA : ∀ q, jA ad q → s.heap.size ≤ q) (hK : jK D cI cL s) (hZ : jZ zz (fun q : Nat => s.heap.size ≤ q) s s.heap) {x0 : Int32} (hx0 : 0 ≤ x0.toInt) (hxL : x0.toInt + 6 ≤ (L : Int)) (hL : L ≤ 384) {σ : Nat → Nat → Int32} {τ : Nat → Nat → Int64} {H : Heap} {locs : List Loc} (hS : va_S (fun q : Nat => s.heap.size ≤ q) s.heap H locs) {ls : Array Slot} (hAll : jAll σ τ) (hP : jH D cI cL ad σ τ H) (hl : lv_has ls 4 [(3, .int x0), (2, .ref (ad 55)), (1, .ref (ad 0)), (0, .ref b)]) (ih : ∀ (x1 : Int32) (σ : Nat → Nat → Int32) (τ : Nat → Nat → Int64) (H : Heap) (locs : List Loc) (ls : Array Slot), x1.toInt = x0.toInt + 6 → jAll σ τ → jH D cI cL ad σ τ H → va_S (fun q : Nat => s.heap.size ≤ q) s.heap H locs → lv_has ls 4 [(3, .int x1), (2, .ref (ad 55)), (1, .ref (ad 0)), (0, .ref b)] → W p l e room_1 s m #[Value.ref b] below meth c H locs 90 348600 (lw_Z below #[Value.ref b] s) (F0 m 18 ls [])) : W p l e room_1 s m #[Value.ref b] below meth c H locs 90 348600 (lw_Z below #[Value.ref b] s) (F0 m 990 ls []) := by
  obtain ⟨hx, hb, hr, hml, hown, hts0, hX, hbl, hlocks, hgv⟩ := C0
  have hts : ∀ w ∈ wsL_law, w.before #[Value.ref b] s = true := fun w h => hts0 w (wsL_law_in w h)
  have hbA : ¬ (fun q : Nat => s.heap.size ≤ q) b := Nat.not_le.mpr hbl
  have hown : s.vm.findClass RL = some m.cls := hown
  obtain ⟨hI2, hI9, hI12, hI16, hI18, hI22, hI31, hI38, hI43, hI47, hI50, hI101, hI102, hI103, hI104, hI105, hI106, hI107, hI109, hI110, hI111, hI119, hs_jKept, hs_jBook, ht0, ht1, ht2, ht3, hr0, hr1⟩ := hAll
  have hL9 : (L : Int) ≤ 384 := by omega
  obtain ⟨i1, w2, w3⟩ : (0 ≤ (σ 9 0).toInt ∧ (σ 9 0).toInt ≤ 80) ∧ (∀ k : Nat, k < 80 → 0 ≤ (σ 10 k).toInt ∧ (σ 10 k).toInt ≤ 255) ∧ (∀ k : Nat, k < 8 → 0 ≤ (σ 11 k).toInt ∧ (σ 11 k).toInt ≤ 3) := id hI9
  obtain ⟨i4, i5, i6, w7⟩ : (1 ≤ (σ 16 0).toInt ∧ (σ 16 0).toInt ≤ 8) ∧ (1 ≤ (σ 16 1).toInt ∧ (σ 16 1).toInt ≤ 12) ∧ (0 ≤ (σ 16 2).toInt ∧ (σ 16 2).toInt ≤ 999) ∧ (∀ k : Nat, k < 8 → 0 ≤ (σ 17 k).toInt ∧ (σ 17 k).toInt ≤ 3) := id hI16
  obtain ⟨i8, i9, i10, w11, w12⟩ : (1 ≤ (σ 55 10).toInt ∧ (σ 55 10).toInt ≤ 8) ∧ (1 ≤ (σ 55 12).toInt ∧ (σ 55 12).toInt ≤ 12) ∧ (0 ≤ (σ 55 13).toInt ∧ (σ 55 13).toInt ≤ 999) ∧ (∀ k : Nat, k < 8 → 0 ≤ (σ 62 k).toInt ∧ (σ 62 k).toInt ≤ 3) ∧ (∀ k : Nat, k < 8 → 0 ≤ (σ 67 k).toInt ∧ (σ 67 k).toInt ≤ 3) := id hI104
  obtain ⟨i13, w14⟩ : (0 ≤ (σ 55 15).toInt ∧ (σ 55 15).toInt ≤ 80) ∧ (∀ k : Nat, k < 2 → (-1) ≤ (σ 65 k).toInt ∧ (σ 65 k).toInt ≤ 80) := id hI105
  refine lv_aload_n hx hb dL_law_990 rfl (lv_at hl 2 rfl) ?_
  refine lv_aload_n hx hb dL_law_991 rfl (lv_at hl 3 rfl) ?_
  refine lv_iload_n hx hb dL_law_992 rfl (lv_at hl 0 rfl) ?_
  refine lv_iconst (v := 1) hx hb dL_law_993 (of_decide_eq_true rfl) ?_
  have g15 := jrg (rfl : x0.toInt = x0.toInt)
  refine lv_iadd hx hb dL_law_994 ?_
  refine lv_topi (fun x16 ex16 => ?_)
  exact by
   have tx16 : x16.toInt = x0.toInt + 1 := (jadd ex16 rfl jz_1 (by omega) (by omega)).trans (by omega)
   refine va_sld hx hb hX hbl hbA hS (jin tx16 (by omega) (by omega)) dL_law_995 ?_
   have g17 := jrg (rfl : (xs x16.toNatClampNeg).toInt = (xs x16.toNatClampNeg).toInt)
   refine lv_aload_n hx hb dL_law_996 rfl (lv_at hl 3 rfl) ?_
   refine lv_iload_n hx hb dL_law_997 rfl (lv_at hl 0 rfl) ?_
   refine lv_iconst (v := 2) hx hb dL_law_998 (of_decide_eq_true rfl) ?_
   refine lv_iadd hx hb dL_law_999 ?_
   refine lv_topi (fun x18 ex18 => ?_)
   have tx18 : x18.toInt = x0.toInt + 2 := (jadd ex18 rfl jz_2 (by omega) (by omega)).trans (by omega)
   exact by
    refine va_sld hx hb hX hbl hbA hS (jin tx18 (by omega) (by omega)) dL_law_1000 ?_
    have g19 := jrg (rfl : (xs x18.toNatClampNeg).toInt = (xs x18.toNatClampNeg).toInt)
    refine lv_aload_n hx hb dL_law_1001 rfl (lv_at hl 3 rfl) ?_
    refine lv_iload_n hx hb dL_law_1002 rfl (lv_at hl 0 rfl) ?_
    refine lv_iconst (v := 3) hx hb dL_law_1003 (of_decide_eq_true rfl) ?_
    refine lv_iadd hx hb dL_law_1004 ?_
    refine lv_topi (fun x20 ex20 => ?_)
    have tx20 : x20.toInt = x0.toInt + 3 := (jadd ex20 rfl jz_3 (by omega) (by omega)).trans (by omega)
    refine va_sld hx hb hX hbl hbA hS (jin tx20 (by omega) (by omega)) dL_law_1005 ?_
    exact by
     have g21 := jrg (rfl : (xs x20.toNatClampNeg).toInt = (xs x20.toNatClampNeg).toInt)
     refine jcallV (As := [.int (xs x16.toNatClampNeg), .int (xs x18.toNatClampNeg), .int (xs x20.toNatClampNeg)]) (rest := []) ⟨hx, hb, hml, hown, hts⟩ hK hP hA hS hZ (c_X11_act l D cI cL ad zz hJ σ τ (xs x16.toNatClampNeg) ((xs x16.toNatClampNeg).toInt) rfl (xs x18.toNatClampNeg) ((xs x18.toNatClampNeg).toInt) rfl (xs x20.toNatClampNeg) ((xs x20.toNatClampNeg).toInt) rfl hI38) cw_RL_129 (jc_0 cI cL ad σ τ) rfl ⟨Nat.le_of_ble_eq_true rfl, Nat.le_of_ble_eq_true rfl⟩ rfl rfl rfl hl.1 rfl (Nat.le_of_ble_eq_true rfl) dL_law_1006 ⟨Nat.le_of_ble_eq_true rfl, Nat.le_of_ble_eq_true rfl⟩ (fun r23 σ22 τ22 H locs h22 hP hS => ?_)
     obtain ⟨rfl, f24, f25, I26, h22⟩ := h22
     rcases h22 with h28 | h29
     · obtain ⟨q32, k30, k31⟩ := h28
       have q32 := q32.symm
       subst q32
       refine lv_pop hx hb dL_law_1009 rfl ?_
       refine lv_aload_n hx hb dL_law_1010 rfl (lv_at hl 1 rfl) ?_
       refine lv_aload_n hx hb dL_law_1011 rfl (lv_at hl 3 rfl) ?_
       refine lv_iload_n hx hb dL_law_1012 rfl (lv_at hl 0 rfl) ?_
       refine lv_iconst (v := 1) hx hb dL_law_1013 (of_decide_eq_true rfl) ?_
       refine lv_iadd hx hb dL_law_1014 ?_
       refine jtopr ex16.symm ?_
       exact by
        refine va_sld hx hb hX hbl hbA hS (jin tx16 (by omega) (by omega)) dL_law_1015 ?_
        refine lv_aload_n hx hb dL_law_1016 rfl (lv_at hl 3 rfl) ?_
        refine lv_iload_n hx hb dL_law_1017 rfl (lv_at hl 0 rfl) ?_
        refine lv_iconst (v := 2) hx hb dL_law_1018 (of_decide_eq_true rfl) ?_
        refine lv_iadd hx hb dL_law_1019 ?_
        refine jtopr ex18.symm ?_
        refine va_sld hx hb hX hbl hbA hS (jin tx18 (by omega) (by omega)) dL_law_1020 ?_
        refine lv_aload_n hx hb dL_law_1021 rfl (lv_at hl 3 rfl) ?_
        refine lv_iload_n hx hb dL_law_1022 rfl (lv_at hl 0 rfl) ?_
        exact by
         refine lv_iconst (v := 3) hx hb dL_law_1023 (of_decide_eq_true rfl) ?_
         refine lv_iadd hx hb dL_law_1024 ?_
         refine jtopr ex20.symm ?_
         refine va_sld hx hb hX hbl hbA hS (jin tx20 (by omega) (by omega)) dL_law_1025 ?_
         have I33 : jI106 σ22 := jI106_fr (congrFun (f24 55 (of_decide_eq_true rfl)) 32) (f24 70 (of_decide_eq_true rfl)) (f24 71 (of_decide_eq_true rfl)) (f24 72 (of_decide_eq_true rfl)) hI106
         have z34 : (σ22 55 32).toInt = (σ 55 32).toInt := (congrArg Int32.toInt (show σ22 55 32 = (σ 55 32) from (congrFun (f24 55 (of_decide_eq_true rfl)) 32)))
         refine jcallV (As := [.int (xs x16.toNatClampNeg), .int (xs x18.toNatClampNeg), .int (xs x20.toNatClampNeg)]) (rest := []) ⟨hx, hb, hml, hown, hts⟩ hK hP hA hS hZ (c_X12_act l D cI cL ad zz hJ σ22 τ (xs x16.toNatClampNeg) ((xs x16.toNatClampNeg).toInt) rfl (xs x18.toNatClampNeg) ((xs x18.toNatClampNeg).toInt) rfl (xs x20.toNatClampNeg) ((xs x20.toNatClampNeg).toInt) rfl I33) cw_RL_132 (jc_55 cI cL ad σ22 τ) rfl ⟨Nat.le_of_ble_eq_true rfl, Nat.le_of_ble_eq_true rfl⟩ rfl rfl rfl hl.1 rfl (Nat.le_of_ble_eq_true rfl) dL_law_1026 ⟨Nat.le_of_ble_eq_true rfl, Nat.le_of_ble_eq_true rfl⟩ (fun r36 σ35 τ35 H locs h35 hP hS => ?_)
         obtain ⟨rfl, f37, f38, h35⟩ := h35
         rcases h35 with h40 | h41
         · exact by
            obtain ⟨q44, k42, k43⟩ := h40
            have q44 := q44.symm
            subst q44
            refine lv_pop hx hb dL_law_1029 rfl ?_
            refine lv_goto (tgt := 1357) hx hb dL_law_1030 (of_decide_eq_true rfl) ?_
            obtain ⟨x45, ex45⟩ : ∃ y : Int32, y = x0 + 6 := ⟨_, rfl⟩
            have tx45 : x45.toInt = x0.toInt + 6 := (jadd ex45 rfl jz_6 (by omega) (by omega)).trans (by omega)
            refine lv_iinc (v := x45) (lv' := [(3, .int x45), (2, .ref (ad 55)), (1, .ref (ad 0)), (0, .ref b)]) hx hb dL_law_1357 hl (k := 0) rfl (by rw [ex45]; rfl) (of_decide_eq_true rfl) rfl (fun ls hl => ?_)
            refine lv_goto (tgt := 18) hx hb dL_law_1360 (of_decide_eq_true rfl) ?_
            exact by
             have I46 : jI2 σ35 := jI2_fr ((congrFun (f37 2 (of_decide_eq_true rfl)) 0).trans (congrFun (f24 2 (of_decide_eq_true rfl)) 0)) ((congrFun (f37 2 (of_decide_eq_true rfl)) 1).trans (congrFun (f24 2 (of_decide_eq_true rfl)) 1)) ((congrFun (f37 2 (of_decide_eq_true rfl)) 2).trans (congrFun (f24 2 (of_decide_eq_true rfl)) 2)) ((congrFun (f37 2 (of_decide_eq_true rfl)) 3).trans (congrFun (f24 2 (of_decide_eq_true rfl)) 3)) ((f37 6 (of_decide_eq_true rfl)).trans (f24 6 (of_decide_eq_true rfl))) hI2
             have I47 : jI9 σ35 := jI9_fr ((congrFun (f37 9 (of_decide_eq_true rfl)) 0).trans (congrFun (f24 9 (of_decide_eq_true rfl)) 0)) ((f37 10 (of_decide_eq_true rfl)).trans (f24 10 (of_decide_eq_true rfl))) ((f37 11 (of_decide_eq_true rfl)).trans (f24 11 (of_decide_eq_true rfl))) hI9
             have I48 : jI12 σ35 := jI12_fr ((congrFun (f37 12 (of_decide_eq_true rfl)) 0).trans (congrFun (f24 12 (of_decide_eq_true rfl)) 0)) ((f37 13 (of_decide_eq_true rfl)).trans (f24 13 (of_decide_eq_true rfl))) hI12
             have I49 : jI16 σ35 := jI16_fr ((congrFun (f37 16 (of_decide_eq_true rfl)) 0).trans (congrFun (f24 16 (of_decide_eq_true rfl)) 0)) ((congrFun (f37 16 (of_decide_eq_true rfl)) 1).trans (congrFun (f24 16 (of_decide_eq_true rfl)) 1)) ((congrFun (f37 16 (of_decide_eq_true rfl)) 2).trans (congrFun (f24 16 (of_decide_eq_true rfl)) 2)) ((f37 17 (of_decide_eq_true rfl)).trans (f24 17 (of_decide_eq_true rfl))) hI16
             have I50 : jI18 σ35 := jI18_fr ((congrFun (f37 18 (of_decide_eq_true rfl)) 0).trans (congrFun (f24 18 (of_decide_eq_true rfl)) 0)) ((f37 19 (of_decide_eq_true rfl)).trans (f24 19 (of_decide_eq_true rfl))) hI18
             have I51 : jI22 σ35 := jI22_fr ((congrFun (f37 22 (of_decide_eq_true rfl)) 0).trans (congrFun (f24 22 (of_decide_eq_true rfl)) 0)) ((f37 23 (of_decide_eq_true rfl)).trans (f24 23 (of_decide_eq_true rfl))) hI22
             have I52 : jI31 σ35 := jI31_fr ((congrFun (f37 31 (of_decide_eq_true rfl)) 8).trans (congrFun (f24 31 (of_decide_eq_true rfl)) 8)) ((f37 33 (of_decide_eq_true rfl)).trans (f24 33 (of_decide_eq_true rfl))) ((f37 36 (of_decide_eq_true rfl)).trans (f24 36 (of_decide_eq_true rfl))) hI31
             have I53 : jI38 σ35 := jI38_fr (congrFun (f37 38 (of_decide_eq_true rfl)) 0) (congrFun (f37 38 (of_decide_eq_true rfl)) 1) (f37 39 (of_decide_eq_true rfl)) I26
             have I54 : jI43 σ35 := jI43_fr ((congrFun (f37 43 (of_decide_eq_true rfl)) 8).trans (congrFun (f24 43 (of_decide_eq_true rfl)) 8)) hI43
             have I55 : jI47 σ35 := jI47_fr ((congrFun (f37 47 (of_decide_eq_true rfl)) 0).trans (congrFun (f24 47 (of_decide_eq_true rfl)) 0)) ((f37 48 (of_decide_eq_true rfl)).trans (f24 48 (of_decide_eq_true rfl))) ((f37 49 (of_decide_eq_true rfl)).trans (f24 49 (of_decide_eq_true rfl))) hI47
             have I56 : jI50 σ35 := jI50_fr ((f37 52 (of_decide_eq_true rfl)).trans (f24 52 (of_decide_eq_true rfl))) hI50
             have I57 : jI101 σ35 := jI101_fr ((f38 4 (of_decide_eq_true rfl)).trans (congrFun (f24 55 (of_decide_eq_true rfl)) 4)) ((f38 5 (of_decide_eq_true rfl)).trans (congrFun (f24 55 (of_decide_eq_true rfl)) 5)) ((f37 56 (of_decide_eq_true rfl)).trans (f24 56 (of_decide_eq_true rfl))) ((f37 57 (of_decide_eq_true rfl)).trans (f24 57 (of_decide_eq_true rfl))) ((f37 58 (of_decide_eq_true rfl)).trans (f24 58 (of_decide_eq_true rfl))) ((f37 59 (of_decide_eq_true rfl)).trans (f24 59 (of_decide_eq_true rfl))) hI101
             have I58 : jI102 σ35 := jI102_fr ((f38 6 (of_decide_eq_true rfl)).trans (congrFun (f24 55 (of_decide_eq_true rfl)) 6)) ((f37 60 (of_decide_eq_true rfl)).trans (f24 60 (of_decide_eq_true rfl))) ((f37 61 (of_decide_eq_true rfl)).trans (f24 61 (of_decide_eq_true rfl))) hI102
             have I59 : jI103 σ35 := jI103_fr ((f38 9 (of_decide_eq_true rfl)).trans (congrFun (f24 55 (of_decide_eq_true rfl)) 9)) hI103
             have I60 : jI104 σ35 := jI104_fr ((f38 10 (of_decide_eq_true rfl)).trans (congrFun (f24 55 (of_decide_eq_true rfl)) 10)) ((f38 12 (of_decide_eq_true rfl)).trans (congrFun (f24 55 (of_decide_eq_true rfl)) 12)) ((f38 13 (of_decide_eq_true rfl)).trans (congrFun (f24 55 (of_decide_eq_true rfl)) 13)) ((f37 62 (of_decide_eq_true rfl)).trans (f24 62 (of_decide_eq_true rfl))) ((f37 67 (of_decide_eq_true rfl)).trans (f24 67 (of_decide_eq_true rfl))) hI104
             have I61 : jI105 σ35 := jI105_fr ((f38 15 (of_decide_eq_true rfl)).trans (congrFun (f24 55 (of_decide_eq_true rfl)) 15)) ((f37 65 (of_decide_eq_true rfl)).trans (f24 65 (of_decide_eq_true rfl))) hI105
             have I62 : jI106 σ35 := jI106_fr (f38 32 (of_decide_eq_true rfl)) (f37 70 (of_decide_eq_true rfl)) (f37 71 (of_decide_eq_true rfl)) (f37 72 (of_decide_eq_true rfl)) I33
             have I63 : jI107 σ35 := jI107_fr ((f38 12 (of_decide_eq_true rfl)).trans (congrFun (f24 55 (of_decide_eq_true rfl)) 12)) ((f38 47 (of_decide_eq_true rfl)).trans (congrFun (f24 55 (of_decide_eq_true rfl)) 47)) ((f37 80 (of_decide_eq_true rfl)).trans (f24 80 (of_decide_eq_true rfl))) hI107
             have I64 : jI109 σ35 := jI109_fr ((f38 50 (of_decide_eq_true rfl)).trans (congrFun (f24 55 (of_decide_eq_true rfl)) 50)) hI109
             have I65 : jI110 σ35 := jI110_fr ((f37 86 (of_decide_eq_true rfl)).trans (f24 86 (of_decide_eq_true rfl))) ((f37 87 (of_decide_eq_true rfl)).trans (f24 87 (of_decide_eq_true rfl))) hI110
             have I66 : jI111 σ35 := jI111_fr ((f37 79 (of_decide_eq_true rfl)).trans (f24 79 (of_decide_eq_true rfl))) hI111
             have I67 : jI119 σ35 := jI119_fr ((f37 68 (of_decide_eq_true rfl)).trans (f24 68 (of_decide_eq_true rfl))) hI119
             have p68 : jKept σ35 := jKept.fr ((f37 75 (of_decide_eq_true rfl)).trans (f24 75 (of_decide_eq_true rfl))) ((f37 76 (of_decide_eq_true rfl)).trans (f24 76 (of_decide_eq_true rfl))) ((f37 77 (of_decide_eq_true rfl)).trans (f24 77 (of_decide_eq_true rfl))) hs_jKept
             have p69 : jBook σ35 := jBook.fr ((f38 47 (of_decide_eq_true rfl)).trans (congrFun (f24 55 (of_decide_eq_true rfl)) 47)) ((f38 10 (of_decide_eq_true rfl)).trans (congrFun (f24 55 (of_decide_eq_true rfl)) 10)) ((f37 81 (of_decide_eq_true rfl)).trans (f24 81 (of_decide_eq_true rfl))) hs_jBook
             have z70 : (σ35 9 0).toInt = (σ 9 0).toInt := (congrArg Int32.toInt (show σ35 9 0 = (σ 9 0) from ((congrFun (f37 9 (of_decide_eq_true rfl)) 0).trans (congrFun (f24 9 (of_decide_eq_true rfl)) 0))))
             have z71 : (σ35 55 15).toInt = (σ 55 15).toInt := (congrArg Int32.toInt (show σ35 55 15 = (σ 55 15) from ((f38 15 (of_decide_eq_true rfl)).trans (congrFun (f24 55 (of_decide_eq_true rfl)) 15))))
             have z72 : (σ35 16 0).toInt = (σ 16 0).toInt := (congrArg Int32.toInt (show σ35 16 0 = (σ 16 0) from ((congrFun (f37 16 (of_decide_eq_true rfl)) 0).trans (congrFun (f24 16 (of_decide_eq_true rfl)) 0))))
             have z73 : (σ35 55 10).toInt = (σ 55 10).toInt := (congrArg Int32.toInt (show σ35 55 10 = (σ 55 10) from ((f38 10 (of_decide_eq_true rfl)).trans (congrFun (f24 55 (of_decide_eq_true rfl)) 10))))
             have z74 : (σ35 16 1).toInt = (σ 16 1).toInt := (congrArg Int32.toInt (show σ35 16 1 = (σ 16 1) from ((congrFun (f37 16 (of_decide_eq_true rfl)) 1).trans (congrFun (f24 16 (of_decide_eq_true rfl)) 1))))
             have z75 : (σ35 55 12).toInt = (σ 55 12).toInt := (congrArg Int32.toInt (show σ35 55 12 = (σ 55 12) from ((f38 12 (of_decide_eq_true rfl)).trans (congrFun (f24 55 (of_decide_eq_true rfl)) 12))))
             have z76 : (σ35 16 2).toInt = (σ 16 2).toInt := (congrArg Int32.toInt (show σ35 16 2 = (σ 16 2) from ((congrFun (f37 16 (of_decide_eq_true rfl)) 2).trans (congrFun (f24 16 (of_decide_eq_true rfl)) 2))))
             have z77 : (σ35 55 13).toInt = (σ 55 13).toInt := (congrArg Int32.toInt (show σ35 55 13 = (σ 55 13) from ((f38 13 (of_decide_eq_true rfl)).trans (congrFun (f24 55 (of_decide_eq_true rfl)) 13))))
             exact by exact ih x45 σ35 τ _ _ ls (by have h9 := tx45; omega) ⟨I46, I47, I48, I49, I50, I51, I52, I53, I54, I55, I56, I57, I58, I59, I60, I61, I62, I63, I64, I65, I66, I67, p68, p69, (by omega), (by omega), (by omega), (by omega), (show jTp (σ35 10) (σ35 63) (σ35 55 15).toInt by rw [show σ35 10 = σ 10 from ((f37 10 (of_decide_eq_true rfl)).trans (f24 10 (of_decide_eq_true rfl))), show σ35 63 = σ 63 from ((f37 63 (of_decide_eq_true rfl)).trans (f24 63 (of_decide_eq_true rfl)))]; exact hr0.le (by omega)), (show jSo (σ35 17) (σ35 62) (σ35 16 0).toInt by rw [show σ35 17 = σ 17 from ((f37 17 (of_decide_eq_true rfl)).trans (f24 17 (of_decide_eq_true rfl))), show σ35 62 = σ 62 from ((f37 62 (of_decide_eq_true rfl)).trans (f24 62 (of_decide_eq_true rfl))), show (σ35 16 0).toInt = (σ 16 0).toInt from by omega]; exact hr1)⟩ hP hS (lv_sub hl [0, 1, 2, 3] rfl)
         · obtain ⟨q82, k78, k79, k80, k81⟩ := h41
           refine lv_pop hx hb dL_law_1029 rfl ?_
           refine lv_goto (tgt := 1357) hx hb dL_law_1030 (of_decide_eq_true rfl) ?_
           obtain ⟨x83, ex83⟩ : ∃ y : Int32, y = x0 + 6 := ⟨_, rfl⟩
           exact by
            have tx83 : x83.toInt = x0.toInt + 6 := (jadd ex83 rfl jz_6 (by omega) (by omega)).trans (by omega)
            refine lv_iinc (v := x83) (lv' := [(3, .int x83), (2, .ref (ad 55)), (1, .ref (ad 0)), (0, .ref b)]) hx hb dL_law_1357 hl (k := 0) rfl (by rw [ex83]; rfl) (of_decide_eq_true rfl) rfl (fun ls hl => ?_)
            refine lv_goto (tgt := 18) hx hb dL_law_1360 (of_decide_eq_true rfl) ?_
            have I84 : jI2 σ35 := jI2_fr ((congrFun (f37 2 (of_decide_eq_true rfl)) 0).trans (congrFun (f24 2 (of_decide_eq_true rfl)) 0)) ((congrFun (f37 2 (of_decide_eq_true rfl)) 1).trans (congrFun (f24 2 (of_decide_eq_true rfl)) 1)) ((congrFun (f37 2 (of_decide_eq_true rfl)) 2).trans (congrFun (f24 2 (of_decide_eq_true rfl)) 2)) ((congrFun (f37 2 (of_decide_eq_true rfl)) 3).trans (congrFun (f24 2 (of_decide_eq_true rfl)) 3)) ((f37 6 (of_decide_eq_true rfl)).trans (f24 6 (of_decide_eq_true rfl))) hI2
            have I85 : jI9 σ35 := jI9_fr ((congrFun (f37 9 (of_decide_eq_true rfl)) 0).trans (congrFun (f24 9 (of_decide_eq_true rfl)) 0)) ((f37 10 (of_decide_eq_true rfl)).trans (f24 10 (of_decide_eq_true rfl))) ((f37 11 (of_decide_eq_true rfl)).trans (f24 11 (of_decide_eq_true rfl))) hI9
            have I86 : jI12 σ35 := jI12_fr ((congrFun (f37 12 (of_decide_eq_true rfl)) 0).trans (congrFun (f24 12 (of_decide_eq_true rfl)) 0)) ((f37 13 (of_decide_eq_true rfl)).trans (f24 13 (of_decide_eq_true rfl))) hI12
            have I87 : jI16 σ35 := jI16_fr ((congrFun (f37 16 (of_decide_eq_true rfl)) 0).trans (congrFun (f24 16 (of_decide_eq_true rfl)) 0)) ((congrFun (f37 16 (of_decide_eq_true rfl)) 1).trans (congrFun (f24 16 (of_decide_eq_true rfl)) 1)) ((congrFun (f37 16 (of_decide_eq_true rfl)) 2).trans (congrFun (f24 16 (of_decide_eq_true rfl)) 2)) ((f37 17 (of_decide_eq_true rfl)).trans (f24 17 (of_decide_eq_true rfl))) hI16
            have I88 : jI18 σ35 := jI18_fr ((congrFun (f37 18 (of_decide_eq_true rfl)) 0).trans (congrFun (f24 18 (of_decide_eq_true rfl)) 0)) ((f37 19 (of_decide_eq_true rfl)).trans (f24 19 (of_decide_eq_true rfl))) hI18
            have I89 : jI22 σ35 := jI22_fr ((congrFun (f37 22 (of_decide_eq_true rfl)) 0).trans (congrFun (f24 22 (of_decide_eq_true rfl)) 0)) ((f37 23 (of_decide_eq_true rfl)).trans (f24 23 (of_decide_eq_true rfl))) hI22
            exact by
             have I90 : jI31 σ35 := jI31_fr ((congrFun (f37 31 (of_decide_eq_true rfl)) 8).trans (congrFun (f24 31 (of_decide_eq_true rfl)) 8)) ((f37 33 (of_decide_eq_true rfl)).trans (f24 33 (of_decide_eq_true rfl))) ((f37 36 (of_decide_eq_true rfl)).trans (f24 36 (of_decide_eq_true rfl))) hI31
             have I91 : jI38 σ35 := jI38_fr (congrFun (f37 38 (of_decide_eq_true rfl)) 0) (congrFun (f37 38 (of_decide_eq_true rfl)) 1) (f37 39 (of_decide_eq_true rfl)) I26
             have I92 : jI43 σ35 := jI43_fr ((congrFun (f37 43 (of_decide_eq_true rfl)) 8).trans (congrFun (f24 43 (of_decide_eq_true rfl)) 8)) hI43
             have I93 : jI47 σ35 := jI47_fr ((congrFun (f37 47 (of_decide_eq_true rfl)) 0).trans (congrFun (f24 47 (of_decide_eq_true rfl)) 0)) ((f37 48 (of_decide_eq_true rfl)).trans (f24 48 (of_decide_eq_true rfl))) ((f37 49 (of_decide_eq_true rfl)).trans (f24 49 (of_decide_eq_true rfl))) hI47
             have I94 : jI50 σ35 := jI50_fr ((f37 52 (of_decide_eq_true rfl)).trans (f24 52 (of_decide_eq_true rfl))) hI50
             have I95 : jI101 σ35 := jI101_fr ((f38 4 (of_decide_eq_true rfl)).trans (congrFun (f24 55 (of_decide_eq_true rfl)) 4)) ((f38 5 (of_decide_eq_true rfl)).trans (congrFun (f24 55 (of_decide_eq_true rfl)) 5)) ((f37 56 (of_decide_eq_true rfl)).trans (f24 56 (of_decide_eq_true rfl))) ((f37 57 (of_decide_eq_true rfl)).trans (f24 57 (of_decide_eq_true rfl))) ((f37 58 (of_decide_eq_true rfl)).trans (f24 58 (of_decide_eq_true rfl))) ((f37 59 (of_decide_eq_true rfl)).trans (f24 59 (of_decide_eq_true rfl))) hI101
             have I96 : jI102 σ35 := jI102_fr ((f38 6 (of_decide_eq_true rfl)).trans (congrFun (f24 55 (of_decide_eq_true rfl)) 6)) ((f37 60 (of_decide_eq_true rfl)).trans (f24 60 (of_decide_eq_true rfl))) ((f37 61 (of_decide_eq_true rfl)).trans (f24 61 (of_decide_eq_true rfl))) hI102
             have I97 : jI103 σ35 := jI103_fr ((f38 9 (of_decide_eq_true rfl)).trans (congrFun (f24 55 (of_decide_eq_true rfl)) 9)) hI103
             have I98 : jI104 σ35 := jI104_fr ((f38 10 (of_decide_eq_true rfl)).trans (congrFun (f24 55 (of_decide_eq_true rfl)) 10)) ((f38 12 (of_decide_eq_true rfl)).trans (congrFun (f24 55 (of_decide_eq_true rfl)) 12)) ((f38 13 (of_decide_eq_true rfl)).trans (congrFun (f24 55 (of_decide_eq_true rfl)) 13)) ((f37 62 (of_decide_eq_true rfl)).trans (f24 62 (of_decide_eq_true rfl))) ((f37 67 (of_decide_eq_true rfl)).trans (f24 67 (of_decide_eq_true rfl))) hI104
             have I99 : jI105 σ35 := jI105_fr ((f38 15 (of_decide_eq_true rfl)).trans (congrFun (f24 55 (of_decide_eq_true rfl)) 15)) ((f37 65 (of_decide_eq_true rfl)).trans (f24 65 (of_decide_eq_true rfl))) hI105
             have I100 : jI106 σ35 := jI106_fr (f38 32 (of_decide_eq_true rfl)) (f37 70 (of_decide_eq_true rfl)) (f37 71 (of_decide_eq_true rfl)) (f37 72 (of_decide_eq_true rfl)) I33
             have I101 : jI107 σ35 := jI107_fr ((f38 12 (of_decide_eq_true rfl)).trans (congrFun (f24 55 (of_decide_eq_true rfl)) 12)) ((f38 47 (of_decide_eq_true rfl)).trans (congrFun (f24 55 (of_decide_eq_true rfl)) 47)) ((f37 80 (of_decide_eq_true rfl)).trans (f24 80 (of_decide_eq_true rfl))) hI107
             have I102 : jI109 σ35 := jI109_fr ((f38 50 (of_decide_eq_true rfl)).trans (congrFun (f24 55 (of_decide_eq_true rfl)) 50)) hI109
             have I103 : jI110 σ35 := jI110_fr ((f37 86 (of_decide_eq_true rfl)).trans (f24 86 (of_decide_eq_true rfl))) ((f37 87 (of_decide_eq_true rfl)).trans (f24 87 (of_decide_eq_true rfl))) hI110
             have I104 : jI111 σ35 := jI111_fr ((f37 79 (of_decide_eq_true rfl)).trans (f24 79 (of_decide_eq_true rfl))) hI111
             have I105 : jI119 σ35 := jI119_fr ((f37 68 (of_decide_eq_true rfl)).trans (f24 68 (of_decide_eq_true rfl))) hI119
             have p106 : jKept σ35 := jKept.fr ((f37 75 (of_decide_eq_true rfl)).trans (f24 75 (of_decide_eq_true rfl))) ((f37 76 (of_decide_eq_true rfl)).trans (f24 76 (of_decide_eq_true rfl))) ((f37 77 (of_decide_eq_true rfl)).trans (f24 77 (of_decide_eq_true rfl))) hs_jKept
             have p107 : jBook σ35 := jBook.fr ((f38 47 (of_decide_eq_true rfl)).trans (congrFun (f24 55 (of_decide_eq_true rfl)) 47)) ((f38 10 (of_decide_eq_true rfl)).trans (congrFun (f24 55 (of_decide_eq_true rfl)) 10)) ((f37 81 (of_decide_eq_true rfl)).trans (f24 81 (of_decide_eq_true rfl))) hs_jBook
             have z108 : (σ35 9 0).toInt = (σ 9 0).toInt := (congrArg Int32.toInt (show σ35 9 0 = (σ 9 0) from ((congrFun (f37 9 (of_decide_eq_true rfl)) 0).trans (congrFun (f24 9 (of_decide_eq_true rfl)) 0))))
             have z109 : (σ35 55 15).toInt = (σ 55 15).toInt := (congrArg Int32.toInt (show σ35 55 15 = (σ 55 15) from ((f38 15 (of_decide_eq_true rfl)).trans (congrFun (f24 55 (of_decide_eq_true rfl)) 15))))
             have z110 : (σ35 16 0).toInt = (σ 16 0).toInt := (congrArg Int32.toInt (show σ35 16 0 = (σ 16 0) from ((congrFun (f37 16 (of_decide_eq_true rfl)) 0).trans (congrFun (f24 16 (of_decide_eq_true rfl)) 0))))
             have z111 : (σ35 55 10).toInt = (σ 55 10).toInt := (congrArg Int32.toInt (show σ35 55 10 = (σ 55 10) from ((f38 10 (of_decide_eq_true rfl)).trans (congrFun (f24 55 (of_decide_eq_true rfl)) 10))))
             have z112 : (σ35 16 1).toInt = (σ 16 1).toInt := (congrArg Int32.toInt (show σ35 16 1 = (σ 16 1) from ((congrFun (f37 16 (of_decide_eq_true rfl)) 1).trans (congrFun (f24 16 (of_decide_eq_true rfl)) 1))))
             have z113 : (σ35 55 12).toInt = (σ 55 12).toInt := (congrArg Int32.toInt (show σ35 55 12 = (σ 55 12) from ((f38 12 (of_decide_eq_true rfl)).trans (congrFun (f24 55 (of_decide_eq_true rfl)) 12))))
             have z114 : (σ35 16 2).toInt = (σ 16 2).toInt := (congrArg Int32.toInt (show σ35 16 2 = (σ 16 2) from ((congrFun (f37 16 (of_decide_eq_true rfl)) 2).trans (congrFun (f24 16 (of_decide_eq_true rfl)) 2))))
             have z115 : (σ35 55 13).toInt = (σ 55 13).toInt := (congrArg Int32.toInt (show σ35 55 13 = (σ 55 13) from ((f38 13 (of_decide_eq_true rfl)).trans (congrFun (f24 55 (of_decide_eq_true rfl)) 13))))
             exact by exact ih x83 σ35 τ _ _ ls (by have h9 := tx83; omega) ⟨I84, I85, I86, I87, I88, I89, I90, I91, I92, I93, I94, I95, I96, I97, I98, I99, I100, I101, I102, I103, I104, I105, p106, p107, (by omega), (by omega), (by omega), (by omega), (show jTp (σ35 10) (σ35 63) (σ35 55 15).toInt by rw [show σ35 10 = σ 10 from ((f37 10 (of_decide_eq_true rfl)).trans (f24 10 (of_decide_eq_true rfl))), show σ35 63 = σ 63 from ((f37 63 (of_decide_eq_true rfl)).trans (f24 63 (of_decide_eq_true rfl)))]; exact hr0.le (by omega)), (show jSo (σ35 17) (σ35 62) (σ35 16 0).toInt by rw [show σ35 17 = σ 17 from ((f37 17 (of_decide_eq_true rfl)).trans (f24 17 (of_decide_eq_true rfl))), show σ35 62 = σ 62 from ((f37 62 (of_decide_eq_true rfl)).trans (f24 62 (of_decide_eq_true rfl))), show (σ35 16 0).toInt = (σ 16 0).toInt from by omega]; exact hr1)⟩ hP hS (lv_sub hl [0, 1, 2, 3] rfl)
     · obtain ⟨q120, k116, k117, k118, k119⟩ := h29
       refine lv_pop hx hb dL_law_1009 rfl ?_
       refine lv_aload_n hx hb dL_law_1010 rfl (lv_at hl 1 rfl) ?_
       refine lv_aload_n hx hb dL_law_1011 rfl (lv_at hl 3 rfl) ?_
       refine lv_iload_n hx hb dL_law_1012 rfl (lv_at hl 0 rfl) ?_
       refine lv_iconst (v := 1) hx hb dL_law_1013 (of_decide_eq_true rfl) ?_
       refine lv_iadd hx hb dL_law_1014 ?_
       refine jtopr ex16.symm ?_
       exact by
        refine va_sld hx hb hX hbl hbA hS (jin tx16 (by omega) (by omega)) dL_law_1015 ?_
        refine lv_aload_n hx hb dL_law_1016 rfl (lv_at hl 3 rfl) ?_
        refine lv_iload_n hx hb dL_law_1017 rfl (lv_at hl 0 rfl) ?_
        refine lv_iconst (v := 2) hx hb dL_law_1018 (of_decide_eq_true rfl) ?_
        refine lv_iadd hx hb dL_law_1019 ?_
        refine jtopr ex18.symm ?_
        refine va_sld hx hb hX hbl hbA hS (jin tx18 (by omega) (by omega)) dL_law_1020 ?_
        refine lv_aload_n hx hb dL_law_1021 rfl (lv_at hl 3 rfl) ?_
        refine lv_iload_n hx hb dL_law_1022 rfl (lv_at hl 0 rfl) ?_
        exact by
         refine lv_iconst (v := 3) hx hb dL_law_1023 (of_decide_eq_true rfl) ?_
         refine lv_iadd hx hb dL_law_1024 ?_
         refine jtopr ex20.symm ?_
         refine va_sld hx hb hX hbl hbA hS (jin tx20 (by omega) (by omega)) dL_law_1025 ?_
         have I121 : jI106 σ22 := jI106_fr (congrFun (f24 55 (of_decide_eq_true rfl)) 32) (f24 70 (of_decide_eq_true rfl)) (f24 71 (of_decide_eq_true rfl)) (f24 72 (of_decide_eq_true rfl)) hI106
         have z122 : (σ22 55 32).toInt = (σ 55 32).toInt := (congrArg Int32.toInt (show σ22 55 32 = (σ 55 32) from (congrFun (f24 55 (of_decide_eq_true rfl)) 32)))
         refine jcallV (As := [.int (xs x16.toNatClampNeg), .int (xs x18.toNatClampNeg), .int (xs x20.toNatClampNeg)]) (rest := []) ⟨hx, hb, hml, hown, hts⟩ hK hP hA hS hZ (c_X12_act l D cI cL ad zz hJ σ22 τ (xs x16.toNatClampNeg) ((xs x16.toNatClampNeg).toInt) rfl (xs x18.toNatClampNeg) ((xs x18.toNatClampNeg).toInt) rfl (xs x20.toNatClampNeg) ((xs x20.toNatClampNeg).toInt) rfl I121) cw_RL_132 (jc_55 cI cL ad σ22 τ) rfl ⟨Nat.le_of_ble_eq_true rfl, Nat.le_of_ble_eq_true rfl⟩ rfl rfl rfl hl.1 rfl (Nat.le_of_ble_eq_true rfl) dL_law_1026 ⟨Nat.le_of_ble_eq_true rfl, Nat.le_of_ble_eq_true rfl⟩ (fun r124 σ123 τ123 H locs h123 hP hS => ?_)
         obtain ⟨rfl, f125, f126, h123⟩ := h123
         rcases h123 with h128 | h129
         · exact by
            obtain ⟨q132, k130, k131⟩ := h128
            have q132 := q132.symm
            subst q132
            refine lv_pop hx hb dL_law_1029 rfl ?_
            refine lv_goto (tgt := 1357) hx hb dL_law_1030 (of_decide_eq_true rfl) ?_
            obtain ⟨x133, ex133⟩ : ∃ y : Int32, y = x0 + 6 := ⟨_, rfl⟩
            have tx133 : x133.toInt = x0.toInt + 6 := (jadd ex133 rfl jz_6 (by omega) (by omega)).trans (by omega)
            refine lv_iinc (v := x133) (lv' := [(3, .int x133), (2, .ref (ad 55)), (1, .ref (ad 0)), (0, .ref b)]) hx hb dL_law_1357 hl (k := 0) rfl (by rw [ex133]; rfl) (of_decide_eq_true rfl) rfl (fun ls hl => ?_)
            refine lv_goto (tgt := 18) hx hb dL_law_1360 (of_decide_eq_true rfl) ?_
            exact by
             have I134 : jI2 σ123 := jI2_fr ((congrFun (f125 2 (of_decide_eq_true rfl)) 0).trans (congrFun (f24 2 (of_decide_eq_true rfl)) 0)) ((congrFun (f125 2 (of_decide_eq_true rfl)) 1).trans (congrFun (f24 2 (of_decide_eq_true rfl)) 1)) ((congrFun (f125 2 (of_decide_eq_true rfl)) 2).trans (congrFun (f24 2 (of_decide_eq_true rfl)) 2)) ((congrFun (f125 2 (of_decide_eq_true rfl)) 3).trans (congrFun (f24 2 (of_decide_eq_true rfl)) 3)) ((f125 6 (of_decide_eq_true rfl)).trans (f24 6 (of_decide_eq_true rfl))) hI2
             have I135 : jI9 σ123 := jI9_fr ((congrFun (f125 9 (of_decide_eq_true rfl)) 0).trans (congrFun (f24 9 (of_decide_eq_true rfl)) 0)) ((f125 10 (of_decide_eq_true rfl)).trans (f24 10 (of_decide_eq_true rfl))) ((f125 11 (of_decide_eq_true rfl)).trans (f24 11 (of_decide_eq_true rfl))) hI9
             have I136 : jI12 σ123 := jI12_fr ((congrFun (f125 12 (of_decide_eq_true rfl)) 0).trans (congrFun (f24 12 (of_decide_eq_true rfl)) 0)) ((f125 13 (of_decide_eq_true rfl)).trans (f24 13 (of_decide_eq_true rfl))) hI12
             have I137 : jI16 σ123 := jI16_fr ((congrFun (f125 16 (of_decide_eq_true rfl)) 0).trans (congrFun (f24 16 (of_decide_eq_true rfl)) 0)) ((congrFun (f125 16 (of_decide_eq_true rfl)) 1).trans (congrFun (f24 16 (of_decide_eq_true rfl)) 1)) ((congrFun (f125 16 (of_decide_eq_true rfl)) 2).trans (congrFun (f24 16 (of_decide_eq_true rfl)) 2)) ((f125 17 (of_decide_eq_true rfl)).trans (f24 17 (of_decide_eq_true rfl))) hI16
             have I138 : jI18 σ123 := jI18_fr ((congrFun (f125 18 (of_decide_eq_true rfl)) 0).trans (congrFun (f24 18 (of_decide_eq_true rfl)) 0)) ((f125 19 (of_decide_eq_true rfl)).trans (f24 19 (of_decide_eq_true rfl))) hI18
             have I139 : jI22 σ123 := jI22_fr ((congrFun (f125 22 (of_decide_eq_true rfl)) 0).trans (congrFun (f24 22 (of_decide_eq_true rfl)) 0)) ((f125 23 (of_decide_eq_true rfl)).trans (f24 23 (of_decide_eq_true rfl))) hI22
             have I140 : jI31 σ123 := jI31_fr ((congrFun (f125 31 (of_decide_eq_true rfl)) 8).trans (congrFun (f24 31 (of_decide_eq_true rfl)) 8)) ((f125 33 (of_decide_eq_true rfl)).trans (f24 33 (of_decide_eq_true rfl))) ((f125 36 (of_decide_eq_true rfl)).trans (f24 36 (of_decide_eq_true rfl))) hI31
             have I141 : jI38 σ123 := jI38_fr (congrFun (f125 38 (of_decide_eq_true rfl)) 0) (congrFun (f125 38 (of_decide_eq_true rfl)) 1) (f125 39 (of_decide_eq_true rfl)) I26
             have I142 : jI43 σ123 := jI43_fr ((congrFun (f125 43 (of_decide_eq_true rfl)) 8).trans (congrFun (f24 43 (of_decide_eq_true rfl)) 8)) hI43
             have I143 : jI47 σ123 := jI47_fr ((congrFun (f125 47 (of_decide_eq_true rfl)) 0).trans (congrFun (f24 47 (of_decide_eq_true rfl)) 0)) ((f125 48 (of_decide_eq_true rfl)).trans (f24 48 (of_decide_eq_true rfl))) ((f125 49 (of_decide_eq_true rfl)).trans (f24 49 (of_decide_eq_true rfl))) hI47
             have I144 : jI50 σ123 := jI50_fr ((f125 52 (of_decide_eq_true rfl)).trans (f24 52 (of_decide_eq_true rfl))) hI50
             have I145 : jI101 σ123 := jI101_fr ((f126 4 (of_decide_eq_true rfl)).trans (congrFun (f24 55 (of_decide_eq_true rfl)) 4)) ((f126 5 (of_decide_eq_true rfl)).trans (congrFun (f24 55 (of_decide_eq_true rfl)) 5)) ((f125 56 (of_decide_eq_true rfl)).trans (f24 56 (of_decide_eq_true rfl))) ((f125 57 (of_decide_eq_true rfl)).trans (f24 57 (of_decide_eq_true rfl))) ((f125 58 (of_decide_eq_true rfl)).trans (f24 58 (of_decide_eq_true rfl))) ((f125 59 (of_decide_eq_true rfl)).trans (f24 59 (of_decide_eq_true rfl))) hI101
             have I146 : jI102 σ123 := jI102_fr ((f126 6 (of_decide_eq_true rfl)).trans (congrFun (f24 55 (of_decide_eq_true rfl)) 6)) ((f125 60 (of_decide_eq_true rfl)).trans (f24 60 (of_decide_eq_true rfl))) ((f125 61 (of_decide_eq_true rfl)).trans (f24 61 (of_decide_eq_true rfl))) hI102
             have I147 : jI103 σ123 := jI103_fr ((f126 9 (of_decide_eq_true rfl)).trans (congrFun (f24 55 (of_decide_eq_true rfl)) 9)) hI103
             have I148 : jI104 σ123 := jI104_fr ((f126 10 (of_decide_eq_true rfl)).trans (congrFun (f24 55 (of_decide_eq_true rfl)) 10)) ((f126 12 (of_decide_eq_true rfl)).trans (congrFun (f24 55 (of_decide_eq_true rfl)) 12)) ((f126 13 (of_decide_eq_true rfl)).trans (congrFun (f24 55 (of_decide_eq_true rfl)) 13)) ((f125 62 (of_decide_eq_true rfl)).trans (f24 62 (of_decide_eq_true rfl))) ((f125 67 (of_decide_eq_true rfl)).trans (f24 67 (of_decide_eq_true rfl))) hI104
             have I149 : jI105 σ123 := jI105_fr ((f126 15 (of_decide_eq_true rfl)).trans (congrFun (f24 55 (of_decide_eq_true rfl)) 15)) ((f125 65 (of_decide_eq_true rfl)).trans (f24 65 (of_decide_eq_true rfl))) hI105
             have I150 : jI106 σ123 := jI106_fr (f126 32 (of_decide_eq_true rfl)) (f125 70 (of_decide_eq_true rfl)) (f125 71 (of_decide_eq_true rfl)) (f125 72 (of_decide_eq_true rfl)) I121
             have I151 : jI107 σ123 := jI107_fr ((f126 12 (of_decide_eq_true rfl)).trans (congrFun (f24 55 (of_decide_eq_true rfl)) 12)) ((f126 47 (of_decide_eq_true rfl)).trans (congrFun (f24 55 (of_decide_eq_true rfl)) 47)) ((f125 80 (of_decide_eq_true rfl)).trans (f24 80 (of_decide_eq_true rfl))) hI107
             have I152 : jI109 σ123 := jI109_fr ((f126 50 (of_decide_eq_true rfl)).trans (congrFun (f24 55 (of_decide_eq_true rfl)) 50)) hI109
             have I153 : jI110 σ123 := jI110_fr ((f125 86 (of_decide_eq_true rfl)).trans (f24 86 (of_decide_eq_true rfl))) ((f125 87 (of_decide_eq_true rfl)).trans (f24 87 (of_decide_eq_true rfl))) hI110
             have I154 : jI111 σ123 := jI111_fr ((f125 79 (of_decide_eq_true rfl)).trans (f24 79 (of_decide_eq_true rfl))) hI111
             have I155 : jI119 σ123 := jI119_fr ((f125 68 (of_decide_eq_true rfl)).trans (f24 68 (of_decide_eq_true rfl))) hI119
             have p156 : jKept σ123 := jKept.fr ((f125 75 (of_decide_eq_true rfl)).trans (f24 75 (of_decide_eq_true rfl))) ((f125 76 (of_decide_eq_true rfl)).trans (f24 76 (of_decide_eq_true rfl))) ((f125 77 (of_decide_eq_true rfl)).trans (f24 77 (of_decide_eq_true rfl))) hs_jKept
             have p157 : jBook σ123 := jBook.fr ((f126 47 (of_decide_eq_true rfl)).trans (congrFun (f24 55 (of_decide_eq_true rfl)) 47)) ((f126 10 (of_decide_eq_true rfl)).trans (congrFun (f24 55 (of_decide_eq_true rfl)) 10)) ((f125 81 (of_decide_eq_true rfl)).trans (f24 81 (of_decide_eq_true rfl))) hs_jBook
             have z158 : (σ123 9 0).toInt = (σ 9 0).toInt := (congrArg Int32.toInt (show σ123 9 0 = (σ 9 0) from ((congrFun (f125 9 (of_decide_eq_true rfl)) 0).trans (congrFun (f24 9 (of_decide_eq_true rfl)) 0))))
             have z159 : (σ123 55 15).toInt = (σ 55 15).toInt := (congrArg Int32.toInt (show σ123 55 15 = (σ 55 15) from ((f126 15 (of_decide_eq_true rfl)).trans (congrFun (f24 55 (of_decide_eq_true rfl)) 15))))
             have z160 : (σ123 16 0).toInt = (σ 16 0).toInt := (congrArg Int32.toInt (show σ123 16 0 = (σ 16 0) from ((congrFun (f125 16 (of_decide_eq_true rfl)) 0).trans (congrFun (f24 16 (of_decide_eq_true rfl)) 0))))
             have z161 : (σ123 55 10).toInt = (σ 55 10).toInt := (congrArg Int32.toInt (show σ123 55 10 = (σ 55 10) from ((f126 10 (of_decide_eq_true rfl)).trans (congrFun (f24 55 (of_decide_eq_true rfl)) 10))))
             have z162 : (σ123 16 1).toInt = (σ 16 1).toInt := (congrArg Int32.toInt (show σ123 16 1 = (σ 16 1) from ((congrFun (f125 16 (of_decide_eq_true rfl)) 1).trans (congrFun (f24 16 (of_decide_eq_true rfl)) 1))))
             have z163 : (σ123 55 12).toInt = (σ 55 12).toInt := (congrArg Int32.toInt (show σ123 55 12 = (σ 55 12) from ((f126 12 (of_decide_eq_true rfl)).trans (congrFun (f24 55 (of_decide_eq_true rfl)) 12))))
             have z164 : (σ123 16 2).toInt = (σ 16 2).toInt := (congrArg Int32.toInt (show σ123 16 2 = (σ 16 2) from ((congrFun (f125 16 (of_decide_eq_true rfl)) 2).trans (congrFun (f24 16 (of_decide_eq_true rfl)) 2))))
             have z165 : (σ123 55 13).toInt = (σ 55 13).toInt := (congrArg Int32.toInt (show σ123 55 13 = (σ 55 13) from ((f126 13 (of_decide_eq_true rfl)).trans (congrFun (f24 55 (of_decide_eq_true rfl)) 13))))
             exact by exact ih x133 σ123 τ _ _ ls (by have h9 := tx133; omega) ⟨I134, I135, I136, I137, I138, I139, I140, I141, I142, I143, I144, I145, I146, I147, I148, I149, I150, I151, I152, I153, I154, I155, p156, p157, (by omega), (by omega), (by omega), (by omega), (show jTp (σ123 10) (σ123 63) (σ123 55 15).toInt by rw [show σ123 10 = σ 10 from ((f125 10 (of_decide_eq_true rfl)).trans (f24 10 (of_decide_eq_true rfl))), show σ123 63 = σ 63 from ((f125 63 (of_decide_eq_true rfl)).trans (f24 63 (of_decide_eq_true rfl)))]; exact hr0.le (by omega)), (show jSo (σ123 17) (σ123 62) (σ123 16 0).toInt by rw [show σ123 17 = σ 17 from ((f125 17 (of_decide_eq_true rfl)).trans (f24 17 (of_decide_eq_true rfl))), show σ123 62 = σ 62 from ((f125 62 (of_decide_eq_true rfl)).trans (f24 62 (of_decide_eq_true rfl))), show (σ123 16 0).toInt = (σ 16 0).toInt from by omega]; exact hr1)⟩ hP hS (lv_sub hl [0, 1, 2, 3] rfl)
         · obtain ⟨q170, k166, k167, k168, k169⟩ := h129
           refine lv_pop hx hb dL_law_1029 rfl ?_
           refine lv_goto (tgt := 1357) hx hb dL_law_1030 (of_decide_eq_true rfl) ?_
           obtain ⟨x171, ex171⟩ : ∃ y : Int32, y = x0 + 6 := ⟨_, rfl⟩
           exact by
            have tx171 : x171.toInt = x0.toInt + 6 := (jadd ex171 rfl jz_6 (by omega) (by omega)).trans (by omega)
            refine lv_iinc (v := x171) (lv' := [(3, .int x171), (2, .ref (ad 55)), (1, .ref (ad 0)), (0, .ref b)]) hx hb dL_law_1357 hl (k := 0) rfl (by rw [ex171]; rfl) (of_decide_eq_true rfl) rfl (fun ls hl => ?_)
            refine lv_goto (tgt := 18) hx hb dL_law_1360 (of_decide_eq_true rfl) ?_
            have I172 : jI2 σ123 := jI2_fr ((congrFun (f125 2 (of_decide_eq_true rfl)) 0).trans (congrFun (f24 2 (of_decide_eq_true rfl)) 0)) ((congrFun (f125 2 (of_decide_eq_true rfl)) 1).trans (congrFun (f24 2 (of_decide_eq_true rfl)) 1)) ((congrFun (f125 2 (of_decide_eq_true rfl)) 2).trans (congrFun (f24 2 (of_decide_eq_true rfl)) 2)) ((congrFun (f125 2 (of_decide_eq_true rfl)) 3).trans (congrFun (f24 2 (of_decide_eq_true rfl)) 3)) ((f125 6 (of_decide_eq_true rfl)).trans (f24 6 (of_decide_eq_true rfl))) hI2
            have I173 : jI9 σ123 := jI9_fr ((congrFun (f125 9 (of_decide_eq_true rfl)) 0).trans (congrFun (f24 9 (of_decide_eq_true rfl)) 0)) ((f125 10 (of_decide_eq_true rfl)).trans (f24 10 (of_decide_eq_true rfl))) ((f125 11 (of_decide_eq_true rfl)).trans (f24 11 (of_decide_eq_true rfl))) hI9
            have I174 : jI12 σ123 := jI12_fr ((congrFun (f125 12 (of_decide_eq_true rfl)) 0).trans (congrFun (f24 12 (of_decide_eq_true rfl)) 0)) ((f125 13 (of_decide_eq_true rfl)).trans (f24 13 (of_decide_eq_true rfl))) hI12
            have I175 : jI16 σ123 := jI16_fr ((congrFun (f125 16 (of_decide_eq_true rfl)) 0).trans (congrFun (f24 16 (of_decide_eq_true rfl)) 0)) ((congrFun (f125 16 (of_decide_eq_true rfl)) 1).trans (congrFun (f24 16 (of_decide_eq_true rfl)) 1)) ((congrFun (f125 16 (of_decide_eq_true rfl)) 2).trans (congrFun (f24 16 (of_decide_eq_true rfl)) 2)) ((f125 17 (of_decide_eq_true rfl)).trans (f24 17 (of_decide_eq_true rfl))) hI16
            have I176 : jI18 σ123 := jI18_fr ((congrFun (f125 18 (of_decide_eq_true rfl)) 0).trans (congrFun (f24 18 (of_decide_eq_true rfl)) 0)) ((f125 19 (of_decide_eq_true rfl)).trans (f24 19 (of_decide_eq_true rfl))) hI18
            have I177 : jI22 σ123 := jI22_fr ((congrFun (f125 22 (of_decide_eq_true rfl)) 0).trans (congrFun (f24 22 (of_decide_eq_true rfl)) 0)) ((f125 23 (of_decide_eq_true rfl)).trans (f24 23 (of_decide_eq_true rfl))) hI22
            exact by
             have I178 : jI31 σ123 := jI31_fr ((congrFun (f125 31 (of_decide_eq_true rfl)) 8).trans (congrFun (f24 31 (of_decide_eq_true rfl)) 8)) ((f125 33 (of_decide_eq_true rfl)).trans (f24 33 (of_decide_eq_true rfl))) ((f125 36 (of_decide_eq_true rfl)).trans (f24 36 (of_decide_eq_true rfl))) hI31
             have I179 : jI38 σ123 := jI38_fr (congrFun (f125 38 (of_decide_eq_true rfl)) 0) (congrFun (f125 38 (of_decide_eq_true rfl)) 1) (f125 39 (of_decide_eq_true rfl)) I26
             have I180 : jI43 σ123 := jI43_fr ((congrFun (f125 43 (of_decide_eq_true rfl)) 8).trans (congrFun (f24 43 (of_decide_eq_true rfl)) 8)) hI43
             have I181 : jI47 σ123 := jI47_fr ((congrFun (f125 47 (of_decide_eq_true rfl)) 0).trans (congrFun (f24 47 (of_decide_eq_true rfl)) 0)) ((f125 48 (of_decide_eq_true rfl)).trans (f24 48 (of_decide_eq_true rfl))) ((f125 49 (of_decide_eq_true rfl)).trans (f24 49 (of_decide_eq_true rfl))) hI47
             have I182 : jI50 σ123 := jI50_fr ((f125 52 (of_decide_eq_true rfl)).trans (f24 52 (of_decide_eq_true rfl))) hI50
             have I183 : jI101 σ123 := jI101_fr ((f126 4 (of_decide_eq_true rfl)).trans (congrFun (f24 55 (of_decide_eq_true rfl)) 4)) ((f126 5 (of_decide_eq_true rfl)).trans (congrFun (f24 55 (of_decide_eq_true rfl)) 5)) ((f125 56 (of_decide_eq_true rfl)).trans (f24 56 (of_decide_eq_true rfl))) ((f125 57 (of_decide_eq_true rfl)).trans (f24 57 (of_decide_eq_true rfl))) ((f125 58 (of_decide_eq_true rfl)).trans (f24 58 (of_decide_eq_true rfl))) ((f125 59 (of_decide_eq_true rfl)).trans (f24 59 (of_decide_eq_true rfl))) hI101
             have I184 : jI102 σ123 := jI102_fr ((f126 6 (of_decide_eq_true rfl)).trans (congrFun (f24 55 (of_decide_eq_true rfl)) 6)) ((f125 60 (of_decide_eq_true rfl)).trans (f24 60 (of_decide_eq_true rfl))) ((f125 61 (of_decide_eq_true rfl)).trans (f24 61 (of_decide_eq_true rfl))) hI102
             have I185 : jI103 σ123 := jI103_fr ((f126 9 (of_decide_eq_true rfl)).trans (congrFun (f24 55 (of_decide_eq_true rfl)) 9)) hI103
             have I186 : jI104 σ123 := jI104_fr ((f126 10 (of_decide_eq_true rfl)).trans (congrFun (f24 55 (of_decide_eq_true rfl)) 10)) ((f126 12 (of_decide_eq_true rfl)).trans (congrFun (f24 55 (of_decide_eq_true rfl)) 12)) ((f126 13 (of_decide_eq_true rfl)).trans (congrFun (f24 55 (of_decide_eq_true rfl)) 13)) ((f125 62 (of_decide_eq_true rfl)).trans (f24 62 (of_decide_eq_true rfl))) ((f125 67 (of_decide_eq_true rfl)).trans (f24 67 (of_decide_eq_true rfl))) hI104
             have I187 : jI105 σ123 := jI105_fr ((f126 15 (of_decide_eq_true rfl)).trans (congrFun (f24 55 (of_decide_eq_true rfl)) 15)) ((f125 65 (of_decide_eq_true rfl)).trans (f24 65 (of_decide_eq_true rfl))) hI105
             have I188 : jI106 σ123 := jI106_fr (f126 32 (of_decide_eq_true rfl)) (f125 70 (of_decide_eq_true rfl)) (f125 71 (of_decide_eq_true rfl)) (f125 72 (of_decide_eq_true rfl)) I121
             have I189 : jI107 σ123 := jI107_fr ((f126 12 (of_decide_eq_true rfl)).trans (congrFun (f24 55 (of_decide_eq_true rfl)) 12)) ((f126 47 (of_decide_eq_true rfl)).trans (congrFun (f24 55 (of_decide_eq_true rfl)) 47)) ((f125 80 (of_decide_eq_true rfl)).trans (f24 80 (of_decide_eq_true rfl))) hI107
             have I190 : jI109 σ123 := jI109_fr ((f126 50 (of_decide_eq_true rfl)).trans (congrFun (f24 55 (of_decide_eq_true rfl)) 50)) hI109
             have I191 : jI110 σ123 := jI110_fr ((f125 86 (of_decide_eq_true rfl)).trans (f24 86 (of_decide_eq_true rfl))) ((f125 87 (of_decide_eq_true rfl)).trans (f24 87 (of_decide_eq_true rfl))) hI110
             have I192 : jI111 σ123 := jI111_fr ((f125 79 (of_decide_eq_true rfl)).trans (f24 79 (of_decide_eq_true rfl))) hI111
             have I193 : jI119 σ123 := jI119_fr ((f125 68 (of_decide_eq_true rfl)).trans (f24 68 (of_decide_eq_true rfl))) hI119
             have p194 : jKept σ123 := jKept.fr ((f125 75 (of_decide_eq_true rfl)).trans (f24 75 (of_decide_eq_true rfl))) ((f125 76 (of_decide_eq_true rfl)).trans (f24 76 (of_decide_eq_true rfl))) ((f125 77 (of_decide_eq_true rfl)).trans (f24 77 (of_decide_eq_true rfl))) hs_jKept
             have p195 : jBook σ123 := jBook.fr ((f126 47 (of_decide_eq_true rfl)).trans (congrFun (f24 55 (of_decide_eq_true rfl)) 47)) ((f126 10 (of_decide_eq_true rfl)).trans (congrFun (f24 55 (of_decide_eq_true rfl)) 10)) ((f125 81 (of_decide_eq_true rfl)).trans (f24 81 (of_decide_eq_true rfl))) hs_jBook
             have z196 : (σ123 9 0).toInt = (σ 9 0).toInt := (congrArg Int32.toInt (show σ123 9 0 = (σ 9 0) from ((congrFun (f125 9 (of_decide_eq_true rfl)) 0).trans (congrFun (f24 9 (of_decide_eq_true rfl)) 0))))
             have z197 : (σ123 55 15).toInt = (σ 55 15).toInt := (congrArg Int32.toInt (show σ123 55 15 = (σ 55 15) from ((f126 15 (of_decide_eq_true rfl)).trans (congrFun (f24 55 (of_decide_eq_true rfl)) 15))))
             have z198 : (σ123 16 0).toInt = (σ 16 0).toInt := (congrArg Int32.toInt (show σ123 16 0 = (σ 16 0) from ((congrFun (f125 16 (of_decide_eq_true rfl)) 0).trans (congrFun (f24 16 (of_decide_eq_true rfl)) 0))))
             have z199 : (σ123 55 10).toInt = (σ 55 10).toInt := (congrArg Int32.toInt (show σ123 55 10 = (σ 55 10) from ((f126 10 (of_decide_eq_true rfl)).trans (congrFun (f24 55 (of_decide_eq_true rfl)) 10))))
             have z200 : (σ123 16 1).toInt = (σ 16 1).toInt := (congrArg Int32.toInt (show σ123 16 1 = (σ 16 1) from ((congrFun (f125 16 (of_decide_eq_true rfl)) 1).trans (congrFun (f24 16 (of_decide_eq_true rfl)) 1))))
             have z201 : (σ123 55 12).toInt = (σ 55 12).toInt := (congrArg Int32.toInt (show σ123 55 12 = (σ 55 12) from ((f126 12 (of_decide_eq_true rfl)).trans (congrFun (f24 55 (of_decide_eq_true rfl)) 12))))
             have z202 : (σ123 16 2).toInt = (σ 16 2).toInt := (congrArg Int32.toInt (show σ123 16 2 = (σ 16 2) from ((congrFun (f125 16 (of_decide_eq_true rfl)) 2).trans (congrFun (f24 16 (of_decide_eq_true rfl)) 2))))
             have z203 : (σ123 55 13).toInt = (σ 55 13).toInt := (congrArg Int32.toInt (show σ123 55 13 = (σ 55 13) from ((f126 13 (of_decide_eq_true rfl)).trans (congrFun (f24 55 (of_decide_eq_true rfl)) 13))))
             exact by exact ih x171 σ123 τ _ _ ls (by have h9 := tx171; omega) ⟨I172, I173, I174, I175, I176, I177, I178, I179, I180, I181, I182, I183, I184, I185, I186, I187, I188, I189, I190, I191, I192, I193, p194, p195, (by omega), (by omega), (by omega), (by omega), (show jTp (σ123 10) (σ123 63) (σ123 55 15).toInt by rw [show σ123 10 = σ 10 from ((f125 10 (of_decide_eq_true rfl)).trans (f24 10 (of_decide_eq_true rfl))), show σ123 63 = σ 63 from ((f125 63 (of_decide_eq_true rfl)).trans (f24 63 (of_decide_eq_true rfl)))]; exact hr0.le (by omega)), (show jSo (σ123 17) (σ123 62) (σ123 16 0).toInt by rw [show σ123 17 = σ 17 from ((f125 17 (of_decide_eq_true rfl)).trans (f24 17 (of_decide_eq_true rfl))), show σ123 62 = σ 62 from ((f125 62 (of_decide_eq_true rfl)).trans (f24 62 (of_decide_eq_true rfl))), show (σ123 16 0).toInt = (σ 16 0).toInt from by omega]; exact hr1)⟩ hP hS (lv_sub hl [0, 1, 2, 3] rfl)
set_option maxHeartbeats 4000000 in
set_option maxRecDepth 100000 in
theorem law_case_29 {p : Program} {e : Env} {s : State} {m : MethodId} {below : List Frame} {meth : Method} {c : Code} (l : Launch) {b L : Nat} {xs : Nat → Int32} {D : va_G} {cI cL : ClassId} {ad zz : Nat → Nat} (C0 : lw_At p s m meth c b L xs) (hJ : jD ad) (hA : ∀ q, jA ad q → s.heap.size ≤ q) (hK : jK D cI cL s) (hZ : jZ zz (fun q : Nat => s.heap.size ≤ q) s s.heap) {x0 : Int32} (hx0 : 0 ≤ x0.toInt) (hxL : x0.toInt + 6 ≤ (L : Int)) (hL : L ≤ 384) {σ : Nat → Nat → Int32} {τ : Nat → Nat → Int64} {H : Heap} {locs : List Loc} (hS : va_S (fun q : Nat => s.heap.size ≤ q) s.heap H locs) {ls : Array Slot} (hAll : jAll σ τ) (hP : jH D cI cL ad σ τ H) (hl : lv_has ls 4 [(3, .int x0), (2, .ref (ad 55)), (1, .ref (ad 0)), (0, .ref b)]) (ih : ∀ (x1 : Int32) (σ : Nat → Nat → Int32) (τ : Nat → Nat → Int64) (H : Heap) (locs : List Loc) (ls : Array Slot), x1.toInt = x0.toInt + 6 → jAll σ τ → jH D cI cL ad σ τ H → va_S (fun q : Nat => s.heap.size ≤ q) s.heap H locs → lv_has ls 4 [(3, .int x1), (2, .ref (ad 55)), (1, .ref (ad 0)), (0, .ref b)] → W p l e room_1 s m #[Value.ref b] below meth c H locs 90 348600 (lw_Z below #[Value.ref b] s) (F0 m 18 ls [])) : W p l e room_1 s m #[Value.ref b] below meth c H locs 90 348600 (lw_Z below #[Value.ref b] s) (F0 m 1033 ls []) := by
  obtain ⟨hx, hb, hr, hml, hown, hts0, hX, hbl, hlocks, hgv⟩ := C0
  have hts : ∀ w ∈ wsL_law, w.before #[Value.ref b] s = true := fun w h => hts0 w (wsL_law_in w h)
  have hbA : ¬ (fun q : Nat => s.heap.size ≤ q) b := Nat.not_le.mpr hbl
  have hown : s.vm.findClass RL = some m.cls := hown
  obtain ⟨hI2, hI9, hI12, hI16, hI18, hI22, hI31, hI38, hI43, hI47, hI50, hI101, hI102, hI103, hI104, hI105, hI106, hI107, hI109, hI110, hI111, hI119, hs_jKept, hs_jBook, ht0, ht1, ht2, ht3, hr0, hr1⟩ := hAll
  have hL9 : (L : Int) ≤ 384 := by omega
  obtain ⟨i1, w2, w3⟩ : (0 ≤ (σ 9 0).toInt ∧ (σ 9 0).toInt ≤ 80) ∧ (∀ k : Nat, k < 80 → 0 ≤ (σ 10 k).toInt ∧ (σ 10 k).toInt ≤ 255) ∧ (∀ k : Nat, k < 8 → 0 ≤ (σ 11 k).toInt ∧ (σ 11 k).toInt ≤ 3) := id hI9
  obtain ⟨i4, i5, i6, w7⟩ : (1 ≤ (σ 16 0).toInt ∧ (σ 16 0).toInt ≤ 8) ∧ (1 ≤ (σ 16 1).toInt ∧ (σ 16 1).toInt ≤ 12) ∧ (0 ≤ (σ 16 2).toInt ∧ (σ 16 2).toInt ≤ 999) ∧ (∀ k : Nat, k < 8 → 0 ≤ (σ 17 k).toInt ∧ (σ 17 k).toInt ≤ 3) := id hI16
  obtain ⟨i8, i9, i10, w11, w12⟩ : (1 ≤ (σ 55 10).toInt ∧ (σ 55 10).toInt ≤ 8) ∧ (1 ≤ (σ 55 12).toInt ∧ (σ 55 12).toInt ≤ 12) ∧ (0 ≤ (σ 55 13).toInt ∧ (σ 55 13).toInt ≤ 999) ∧ (∀ k : Nat, k < 8 → 0 ≤ (σ 62 k).toInt ∧ (σ 62 k).toInt ≤ 3) ∧ (∀ k : Nat, k < 8 → 0 ≤ (σ 67 k).toInt ∧ (σ 67 k).toInt ≤ 3) := id hI104
  obtain ⟨i13, w14⟩ : (0 ≤ (σ 55 15).toInt ∧ (σ 55 15).toInt ≤ 80) ∧ (∀ k : Nat, k < 2 → (-1) ≤ (σ 65 k).toInt ∧ (σ 65 k).toInt ≤ 80) := id hI105
  refine lv_aload_n hx hb dL_law_1033 rfl (lv_at hl 2 rfl) ?_
  refine lv_aload_n hx hb dL_law_1034 rfl (lv_at hl 3 rfl) ?_
  refine lv_iload_n hx hb dL_law_1035 rfl (lv_at hl 0 rfl) ?_
  refine lv_iconst (v := 1) hx hb dL_law_1036 (of_decide_eq_true rfl) ?_
  have g15 := jrg (rfl : x0.toInt = x0.toInt)
  refine lv_iadd hx hb dL_law_1037 ?_
  refine lv_topi (fun x16 ex16 => ?_)
  exact by
   have tx16 : x16.toInt = x0.toInt + 1 := (jadd ex16 rfl jz_1 (by omega) (by omega)).trans (by omega)
   refine va_sld hx hb hX hbl hbA hS (jin tx16 (by omega) (by omega)) dL_law_1038 ?_
   have g17 := jrg (rfl : (xs x16.toNatClampNeg).toInt = (xs x16.toNatClampNeg).toInt)
   refine jcallV (As := [.int (xs x16.toNatClampNeg)]) (rest := []) ⟨hx, hb, hml, hown, hts⟩ hK hP hA hS hZ (c_X11_trace l D cI cL ad zz hJ σ τ (xs x16.toNatClampNeg) ((xs x16.toNatClampNeg).toInt) rfl hI38) cw_RL_133 (jc_0 cI cL ad σ τ) rfl ⟨Nat.le_of_ble_eq_true rfl, Nat.le_of_ble_eq_true rfl⟩ rfl rfl rfl hl.1 rfl (Nat.le_of_ble_eq_true rfl) dL_law_1039 ⟨Nat.le_of_ble_eq_true rfl, Nat.le_of_ble_eq_true rfl⟩ (fun r19 σ18 τ18 H locs h18 hP hS => ?_)
   obtain ⟨⟨rfl, rfl⟩, h18⟩ := h18
   rcases h18 with h20 | h21
   · obtain ⟨q25, k22, k23, k24⟩ := h20
     have q26 : r19 = (σ 42 (xs x16.toNatClampNeg).toNatClampNeg) := q25.trans rfl
     have q26 := q26.symm
     exact by
      subst q26
      refine lv_pop hx hb dL_law_1042 rfl ?_
      refine lv_aload_n hx hb dL_law_1043 rfl (lv_at hl 1 rfl) ?_
      refine lv_aload_n hx hb dL_law_1044 rfl (lv_at hl 3 rfl) ?_
      refine lv_iload_n hx hb dL_law_1045 rfl (lv_at hl 0 rfl) ?_
      refine lv_iconst (v := 1) hx hb dL_law_1046 (of_decide_eq_true rfl) ?_
      refine lv_iadd hx hb dL_law_1047 ?_
      refine jtopr ex16.symm ?_
      refine va_sld hx hb hX hbl hbA hS (jin tx16 (by omega) (by omega)) dL_law_1048 ?_
      exact by
       refine jcallV (As := [.int (xs x16.toNatClampNeg)]) (rest := []) ⟨hx, hb, hml, hown, hts⟩ hK hP hA hS hZ (c_X12_trace l D cI cL ad zz hJ σ τ (xs x16.toNatClampNeg) ((xs x16.toNatClampNeg).toInt) rfl) cw_RL_136 (jc_55 cI cL ad σ τ) rfl ⟨Nat.le_of_ble_eq_true rfl, Nat.le_of_ble_eq_true rfl⟩ rfl rfl rfl hl.1 rfl (Nat.le_of_ble_eq_true rfl) dL_law_1049 ⟨Nat.le_of_ble_eq_true rfl, Nat.le_of_ble_eq_true rfl⟩ (fun r28 σ27 τ27 H locs h27 hP hS => ?_)
       obtain ⟨⟨rfl, rfl⟩, h27⟩ := h27
       rcases h27 with h29 | h30
       · obtain ⟨q34, k31, k32, k33⟩ := h29
         have q35 : r28 = (σ 85 (xs x16.toNatClampNeg).toNatClampNeg) := q34.trans rfl
         have q35 := q35.symm
         subst q35
         refine lv_pop hx hb dL_law_1052 rfl ?_
         refine lv_goto (tgt := 1357) hx hb dL_law_1053 (of_decide_eq_true rfl) ?_
         obtain ⟨x36, ex36⟩ : ∃ y : Int32, y = x0 + 6 := ⟨_, rfl⟩
         exact by
          have tx36 : x36.toInt = x0.toInt + 6 := (jadd ex36 rfl jz_6 (by omega) (by omega)).trans (by omega)
          refine lv_iinc (v := x36) (lv' := [(3, .int x36), (2, .ref (ad 55)), (1, .ref (ad 0)), (0, .ref b)]) hx hb dL_law_1357 hl (k := 0) rfl (by rw [ex36]; rfl) (of_decide_eq_true rfl) rfl (fun ls hl => ?_)
          refine lv_goto (tgt := 18) hx hb dL_law_1360 (of_decide_eq_true rfl) ?_
          exact by exact ih x36 σ τ _ _ ls (by have h9 := tx36; omega) ⟨hI2, hI9, hI12, hI16, hI18, hI22, hI31, hI38, hI43, hI47, hI50, hI101, hI102, hI103, hI104, hI105, hI106, hI107, hI109, hI110, hI111, hI119, hs_jKept, hs_jBook, (by omega), (by omega), (by omega), (by omega), hr0, hr1⟩ hP hS (lv_sub hl [0, 1, 2, 3] rfl)
       · obtain ⟨q38, k37⟩ := h30
         have q38 := q38.symm
         subst q38
         refine lv_pop hx hb dL_law_1052 rfl ?_
         refine lv_goto (tgt := 1357) hx hb dL_law_1053 (of_decide_eq_true rfl) ?_
         exact by
          obtain ⟨x39, ex39⟩ : ∃ y : Int32, y = x0 + 6 := ⟨_, rfl⟩
          have tx39 : x39.toInt = x0.toInt + 6 := (jadd ex39 rfl jz_6 (by omega) (by omega)).trans (by omega)
          refine lv_iinc (v := x39) (lv' := [(3, .int x39), (2, .ref (ad 55)), (1, .ref (ad 0)), (0, .ref b)]) hx hb dL_law_1357 hl (k := 0) rfl (by rw [ex39]; rfl) (of_decide_eq_true rfl) rfl (fun ls hl => ?_)
          refine lv_goto (tgt := 18) hx hb dL_law_1360 (of_decide_eq_true rfl) ?_
          exact by exact ih x39 σ τ _ _ ls (by have h9 := tx39; omega) ⟨hI2, hI9, hI12, hI16, hI18, hI22, hI31, hI38, hI43, hI47, hI50, hI101, hI102, hI103, hI104, hI105, hI106, hI107, hI109, hI110, hI111, hI119, hs_jKept, hs_jBook, (by omega), (by omega), (by omega), (by omega), hr0, hr1⟩ hP hS (lv_sub hl [0, 1, 2, 3] rfl)
   · obtain ⟨q41, k40⟩ := h21
     have q41 := q41.symm
     subst q41
     refine lv_pop hx hb dL_law_1042 rfl ?_
     exact by
      refine lv_aload_n hx hb dL_law_1043 rfl (lv_at hl 1 rfl) ?_
      refine lv_aload_n hx hb dL_law_1044 rfl (lv_at hl 3 rfl) ?_
      refine lv_iload_n hx hb dL_law_1045 rfl (lv_at hl 0 rfl) ?_
      refine lv_iconst (v := 1) hx hb dL_law_1046 (of_decide_eq_true rfl) ?_
      refine lv_iadd hx hb dL_law_1047 ?_
      refine jtopr ex16.symm ?_
      refine va_sld hx hb hX hbl hbA hS (jin tx16 (by omega) (by omega)) dL_law_1048 ?_
      refine jcallV (As := [.int (xs x16.toNatClampNeg)]) (rest := []) ⟨hx, hb, hml, hown, hts⟩ hK hP hA hS hZ (c_X12_trace l D cI cL ad zz hJ σ τ (xs x16.toNatClampNeg) ((xs x16.toNatClampNeg).toInt) rfl) cw_RL_136 (jc_55 cI cL ad σ τ) rfl ⟨Nat.le_of_ble_eq_true rfl, Nat.le_of_ble_eq_true rfl⟩ rfl rfl rfl hl.1 rfl (Nat.le_of_ble_eq_true rfl) dL_law_1049 ⟨Nat.le_of_ble_eq_true rfl, Nat.le_of_ble_eq_true rfl⟩ (fun r43 σ42 τ42 H locs h42 hP hS => ?_)
      obtain ⟨⟨rfl, rfl⟩, h42⟩ := h42
      exact by
       rcases h42 with h44 | h45
       · obtain ⟨q49, k46, k47, k48⟩ := h44
         have q50 : r43 = (σ 85 (xs x16.toNatClampNeg).toNatClampNeg) := q49.trans rfl
         have q50 := q50.symm
         subst q50
         refine lv_pop hx hb dL_law_1052 rfl ?_
         refine lv_goto (tgt := 1357) hx hb dL_law_1053 (of_decide_eq_true rfl) ?_
         obtain ⟨x51, ex51⟩ : ∃ y : Int32, y = x0 + 6 := ⟨_, rfl⟩
         have tx51 : x51.toInt = x0.toInt + 6 := (jadd ex51 rfl jz_6 (by omega) (by omega)).trans (by omega)
         exact by
          refine lv_iinc (v := x51) (lv' := [(3, .int x51), (2, .ref (ad 55)), (1, .ref (ad 0)), (0, .ref b)]) hx hb dL_law_1357 hl (k := 0) rfl (by rw [ex51]; rfl) (of_decide_eq_true rfl) rfl (fun ls hl => ?_)
          refine lv_goto (tgt := 18) hx hb dL_law_1360 (of_decide_eq_true rfl) ?_
          exact by exact ih x51 σ τ _ _ ls (by have h9 := tx51; omega) ⟨hI2, hI9, hI12, hI16, hI18, hI22, hI31, hI38, hI43, hI47, hI50, hI101, hI102, hI103, hI104, hI105, hI106, hI107, hI109, hI110, hI111, hI119, hs_jKept, hs_jBook, (by omega), (by omega), (by omega), (by omega), hr0, hr1⟩ hP hS (lv_sub hl [0, 1, 2, 3] rfl)
       · obtain ⟨q53, k52⟩ := h45
         have q53 := q53.symm
         subst q53
         refine lv_pop hx hb dL_law_1052 rfl ?_
         refine lv_goto (tgt := 1357) hx hb dL_law_1053 (of_decide_eq_true rfl) ?_
         obtain ⟨x54, ex54⟩ : ∃ y : Int32, y = x0 + 6 := ⟨_, rfl⟩
         exact by
          have tx54 : x54.toInt = x0.toInt + 6 := (jadd ex54 rfl jz_6 (by omega) (by omega)).trans (by omega)
          refine lv_iinc (v := x54) (lv' := [(3, .int x54), (2, .ref (ad 55)), (1, .ref (ad 0)), (0, .ref b)]) hx hb dL_law_1357 hl (k := 0) rfl (by rw [ex54]; rfl) (of_decide_eq_true rfl) rfl (fun ls hl => ?_)
          refine lv_goto (tgt := 18) hx hb dL_law_1360 (of_decide_eq_true rfl) ?_
          exact by exact ih x54 σ τ _ _ ls (by have h9 := tx54; omega) ⟨hI2, hI9, hI12, hI16, hI18, hI22, hI31, hI38, hI43, hI47, hI50, hI101, hI102, hI103, hI104, hI105, hI106, hI107, hI109, hI110, hI111, hI119, hs_jKept, hs_jBook, (by omega), (by omega), (by omega), (by omega), hr0, hr1⟩ hP hS (lv_sub hl [0, 1, 2, 3] rfl)
set_option maxHeartbeats 4000000 in
set_option maxRecDepth 100000 in
theorem law_case_30 {p : Program} {e : Env} {s : State} {m : MethodId} {below : List Frame} {meth : Method} {c : Code} (l : Launch) {b L : Nat} {xs : Nat → Int32} {D : va_G} {cI cL : ClassId} {ad zz : Nat → Nat} (C0 : lw_At p s m meth c b L xs) (hJ : jD ad) (hA : ∀ q, jA ad q → s.heap.size ≤ q) (hK : jK D cI cL s) (hZ : jZ zz (fun q : Nat => s.heap.size ≤ q) s s.heap) {x0 : Int32} (hx0 : 0 ≤ x0.toInt) (hxL : x0.toInt + 6 ≤ (L : Int)) (hL : L ≤ 384) {σ : Nat → Nat → Int32} {τ : Nat → Nat → Int64} {H : Heap} {locs : List Loc} (hS : va_S (fun q : Nat => s.heap.size ≤ q) s.heap H locs) {ls : Array Slot} (hAll : jAll σ τ) (hP : jH D cI cL ad σ τ H) (hl : lv_has ls 4 [(3, .int x0), (2, .ref (ad 55)), (1, .ref (ad 0)), (0, .ref b)]) (ih : ∀ (x1 : Int32) (σ : Nat → Nat → Int32) (τ : Nat → Nat → Int64) (H : Heap) (locs : List Loc) (ls : Array Slot), x1.toInt = x0.toInt + 6 → jAll σ τ → jH D cI cL ad σ τ H → va_S (fun q : Nat => s.heap.size ≤ q) s.heap H locs → lv_has ls 4 [(3, .int x1), (2, .ref (ad 55)), (1, .ref (ad 0)), (0, .ref b)] → W p l e room_1 s m #[Value.ref b] below meth c H locs 90 348600 (lw_Z below #[Value.ref b] s) (F0 m 18 ls [])) : W p l e room_1 s m #[Value.ref b] below meth c H locs 90 348600 (lw_Z below #[Value.ref b] s) (F0 m 1056 ls []) := by
  obtain ⟨hx, hb, hr, hml, hown, hts0, hX, hbl, hlocks, hgv⟩ := C0
  have hts : ∀ w ∈ wsL_law, w.before #[Value.ref b] s = true := fun w h => hts0 w (wsL_law_in w h)
  have hbA : ¬ (fun q : Nat => s.heap.size ≤ q) b := Nat.not_le.mpr hbl
  have hown : s.vm.findClass RL = some m.cls := hown
  obtain ⟨hI2, hI9, hI12, hI16, hI18, hI22, hI31, hI38, hI43, hI47, hI50, hI101, hI102, hI103, hI104, hI105, hI106, hI107, hI109, hI110, hI111, hI119, hs_jKept, hs_jBook, ht0, ht1, ht2, ht3, hr0, hr1⟩ := hAll
  have hL9 : (L : Int) ≤ 384 := by omega
  obtain ⟨i1, w2, w3⟩ : (0 ≤ (σ 9 0).toInt ∧ (σ 9 0).toInt ≤ 80) ∧ (∀ k : Nat, k < 80 → 0 ≤ (σ 10 k).toInt ∧ (σ 10 k).toInt ≤ 255) ∧ (∀ k : Nat, k < 8 → 0 ≤ (σ 11 k).toInt ∧ (σ 11 k).toInt ≤ 3) := id hI9
  obtain ⟨i4, i5, i6, w7⟩ : (1 ≤ (σ 16 0).toInt ∧ (σ 16 0).toInt ≤ 8) ∧ (1 ≤ (σ 16 1).toInt ∧ (σ 16 1).toInt ≤ 12) ∧ (0 ≤ (σ 16 2).toInt ∧ (σ 16 2).toInt ≤ 999) ∧ (∀ k : Nat, k < 8 → 0 ≤ (σ 17 k).toInt ∧ (σ 17 k).toInt ≤ 3) := id hI16
  obtain ⟨i8, i9, i10, w11, w12⟩ : (1 ≤ (σ 55 10).toInt ∧ (σ 55 10).toInt ≤ 8) ∧ (1 ≤ (σ 55 12).toInt ∧ (σ 55 12).toInt ≤ 12) ∧ (0 ≤ (σ 55 13).toInt ∧ (σ 55 13).toInt ≤ 999) ∧ (∀ k : Nat, k < 8 → 0 ≤ (σ 62 k).toInt ∧ (σ 62 k).toInt ≤ 3) ∧ (∀ k : Nat, k < 8 → 0 ≤ (σ 67 k).toInt ∧ (σ 67 k).toInt ≤ 3) := id hI104
  obtain ⟨i13, w14⟩ : (0 ≤ (σ 55 15).toInt ∧ (σ 55 15).toInt ≤ 80) ∧ (∀ k : Nat, k < 2 → (-1) ≤ (σ 65 k).toInt ∧ (σ 65 k).toInt ≤ 80) := id hI105
  refine lv_aload_n hx hb dL_law_1056 rfl (lv_at hl 2 rfl) ?_
  refine lv_aload_n hx hb dL_law_1057 rfl (lv_at hl 3 rfl) ?_
  refine lv_iload_n hx hb dL_law_1058 rfl (lv_at hl 0 rfl) ?_
  refine lv_iconst (v := 1) hx hb dL_law_1059 (of_decide_eq_true rfl) ?_
  have g15 := jrg (rfl : x0.toInt = x0.toInt)
  refine lv_iadd hx hb dL_law_1060 ?_
  refine lv_topi (fun x16 ex16 => ?_)
  exact by
   have tx16 : x16.toInt = x0.toInt + 1 := (jadd ex16 rfl jz_1 (by omega) (by omega)).trans (by omega)
   refine va_sld hx hb hX hbl hbA hS (jin tx16 (by omega) (by omega)) dL_law_1061 ?_
   have g17 := jrg (rfl : (xs x16.toNatClampNeg).toInt = (xs x16.toNatClampNeg).toInt)
   refine lv_aload_n hx hb dL_law_1062 rfl (lv_at hl 3 rfl) ?_
   refine lv_iload_n hx hb dL_law_1063 rfl (lv_at hl 0 rfl) ?_
   refine lv_iconst (v := 2) hx hb dL_law_1064 (of_decide_eq_true rfl) ?_
   refine lv_iadd hx hb dL_law_1065 ?_
   refine lv_topi (fun x18 ex18 => ?_)
   have tx18 : x18.toInt = x0.toInt + 2 := (jadd ex18 rfl jz_2 (by omega) (by omega)).trans (by omega)
   exact by
    refine va_sld hx hb hX hbl hbA hS (jin tx18 (by omega) (by omega)) dL_law_1066 ?_
    have g19 := jrg (rfl : (xs x18.toNatClampNeg).toInt = (xs x18.toNatClampNeg).toInt)
    refine jcallV (As := [.int (xs x16.toNatClampNeg), .int (xs x18.toNatClampNeg)]) (rest := []) ⟨hx, hb, hml, hown, hts⟩ hK hP hA hS hZ (c_X11_keep l D cI cL ad zz hJ σ τ (xs x16.toNatClampNeg) ((xs x16.toNatClampNeg).toInt) rfl (xs x18.toNatClampNeg) ((xs x18.toNatClampNeg).toInt) rfl hI38 hI50) cw_RL_137 (jc_0 cI cL ad σ τ) rfl ⟨Nat.le_of_ble_eq_true rfl, Nat.le_of_ble_eq_true rfl⟩ rfl rfl rfl hl.1 rfl (Nat.le_of_ble_eq_true rfl) dL_law_1067 ⟨Nat.le_of_ble_eq_true rfl, Nat.le_of_ble_eq_true rfl⟩ (fun r21 σ20 τ20 H locs h20 hP hS => ?_)
    obtain ⟨rfl, f22, I23, h20⟩ := h20
    rcases h20 with h25 | h26 | h27
    · obtain ⟨q31, k28, k29, k30⟩ := h25
      have q31 := q31.symm
      subst q31
      refine lv_pop hx hb dL_law_1070 rfl ?_
      refine lv_aload_n hx hb dL_law_1071 rfl (lv_at hl 1 rfl) ?_
      refine lv_aload_n hx hb dL_law_1072 rfl (lv_at hl 3 rfl) ?_
      refine lv_iload_n hx hb dL_law_1073 rfl (lv_at hl 0 rfl) ?_
      refine lv_iconst (v := 1) hx hb dL_law_1074 (of_decide_eq_true rfl) ?_
      refine lv_iadd hx hb dL_law_1075 ?_
      refine jtopr ex16.symm ?_
      exact by
       refine va_sld hx hb hX hbl hbA hS (jin tx16 (by omega) (by omega)) dL_law_1076 ?_
       refine lv_aload_n hx hb dL_law_1077 rfl (lv_at hl 3 rfl) ?_
       refine lv_iload_n hx hb dL_law_1078 rfl (lv_at hl 0 rfl) ?_
       refine lv_iconst (v := 2) hx hb dL_law_1079 (of_decide_eq_true rfl) ?_
       refine lv_iadd hx hb dL_law_1080 ?_
       refine jtopr ex18.symm ?_
       refine va_sld hx hb hX hbl hbA hS (jin tx18 (by omega) (by omega)) dL_law_1081 ?_
       have I32 : jI106 σ20 := jI106_fr (congrFun (f22 55 (of_decide_eq_true rfl)) 32) (f22 70 (of_decide_eq_true rfl)) (f22 71 (of_decide_eq_true rfl)) (f22 72 (of_decide_eq_true rfl)) hI106
       have I33 : jI110 σ20 := jI110_fr (f22 86 (of_decide_eq_true rfl)) (f22 87 (of_decide_eq_true rfl)) hI110
       exact by
        have z34 : (σ20 55 32).toInt = (σ 55 32).toInt := (congrArg Int32.toInt (show σ20 55 32 = (σ 55 32) from (congrFun (f22 55 (of_decide_eq_true rfl)) 32)))
        refine jcallV (As := [.int (xs x16.toNatClampNeg), .int (xs x18.toNatClampNeg)]) (rest := []) ⟨hx, hb, hml, hown, hts⟩ hK hP hA hS hZ (c_X12_keep l D cI cL ad zz hJ σ20 τ (xs x16.toNatClampNeg) ((xs x16.toNatClampNeg).toInt) rfl (xs x18.toNatClampNeg) ((xs x18.toNatClampNeg).toInt) rfl I32 I33) cw_RL_140 (jc_55 cI cL ad σ20 τ) rfl ⟨Nat.le_of_ble_eq_true rfl, Nat.le_of_ble_eq_true rfl⟩ rfl rfl rfl hl.1 rfl (Nat.le_of_ble_eq_true rfl) dL_law_1082 ⟨Nat.le_of_ble_eq_true rfl, Nat.le_of_ble_eq_true rfl⟩ (fun r36 σ35 τ35 H locs h35 hP hS => ?_)
        obtain ⟨rfl, f37, I38, h35⟩ := h35
        rcases h35 with h40 | h41 | h42
        · obtain ⟨q46, k43, k44, k45⟩ := h40
          have q46 := q46.symm
          subst q46
          refine lv_pop hx hb dL_law_1085 rfl ?_
          refine lv_goto (tgt := 1357) hx hb dL_law_1086 (of_decide_eq_true rfl) ?_
          obtain ⟨x47, ex47⟩ : ∃ y : Int32, y = x0 + 6 := ⟨_, rfl⟩
          exact by
           have tx47 : x47.toInt = x0.toInt + 6 := (jadd ex47 rfl jz_6 (by omega) (by omega)).trans (by omega)
           refine lv_iinc (v := x47) (lv' := [(3, .int x47), (2, .ref (ad 55)), (1, .ref (ad 0)), (0, .ref b)]) hx hb dL_law_1357 hl (k := 0) rfl (by rw [ex47]; rfl) (of_decide_eq_true rfl) rfl (fun ls hl => ?_)
           refine lv_goto (tgt := 18) hx hb dL_law_1360 (of_decide_eq_true rfl) ?_
           have I48 : jI2 σ35 := jI2_fr ((congrFun (f37 2 (of_decide_eq_true rfl)) 0).trans (congrFun (f22 2 (of_decide_eq_true rfl)) 0)) ((congrFun (f37 2 (of_decide_eq_true rfl)) 1).trans (congrFun (f22 2 (of_decide_eq_true rfl)) 1)) ((congrFun (f37 2 (of_decide_eq_true rfl)) 2).trans (congrFun (f22 2 (of_decide_eq_true rfl)) 2)) ((congrFun (f37 2 (of_decide_eq_true rfl)) 3).trans (congrFun (f22 2 (of_decide_eq_true rfl)) 3)) ((f37 6 (of_decide_eq_true rfl)).trans (f22 6 (of_decide_eq_true rfl))) hI2
           have I49 : jI9 σ35 := jI9_fr ((congrFun (f37 9 (of_decide_eq_true rfl)) 0).trans (congrFun (f22 9 (of_decide_eq_true rfl)) 0)) ((f37 10 (of_decide_eq_true rfl)).trans (f22 10 (of_decide_eq_true rfl))) ((f37 11 (of_decide_eq_true rfl)).trans (f22 11 (of_decide_eq_true rfl))) hI9
           have I50 : jI12 σ35 := jI12_fr ((congrFun (f37 12 (of_decide_eq_true rfl)) 0).trans (congrFun (f22 12 (of_decide_eq_true rfl)) 0)) ((f37 13 (of_decide_eq_true rfl)).trans (f22 13 (of_decide_eq_true rfl))) hI12
           have I51 : jI16 σ35 := jI16_fr ((congrFun (f37 16 (of_decide_eq_true rfl)) 0).trans (congrFun (f22 16 (of_decide_eq_true rfl)) 0)) ((congrFun (f37 16 (of_decide_eq_true rfl)) 1).trans (congrFun (f22 16 (of_decide_eq_true rfl)) 1)) ((congrFun (f37 16 (of_decide_eq_true rfl)) 2).trans (congrFun (f22 16 (of_decide_eq_true rfl)) 2)) ((f37 17 (of_decide_eq_true rfl)).trans (f22 17 (of_decide_eq_true rfl))) hI16
           have I52 : jI18 σ35 := jI18_fr ((congrFun (f37 18 (of_decide_eq_true rfl)) 0).trans (congrFun (f22 18 (of_decide_eq_true rfl)) 0)) ((f37 19 (of_decide_eq_true rfl)).trans (f22 19 (of_decide_eq_true rfl))) hI18
           have I53 : jI22 σ35 := jI22_fr ((congrFun (f37 22 (of_decide_eq_true rfl)) 0).trans (congrFun (f22 22 (of_decide_eq_true rfl)) 0)) ((f37 23 (of_decide_eq_true rfl)).trans (f22 23 (of_decide_eq_true rfl))) hI22
           exact by
            have I54 : jI31 σ35 := jI31_fr ((congrFun (f37 31 (of_decide_eq_true rfl)) 8).trans (congrFun (f22 31 (of_decide_eq_true rfl)) 8)) ((f37 33 (of_decide_eq_true rfl)).trans (f22 33 (of_decide_eq_true rfl))) ((f37 36 (of_decide_eq_true rfl)).trans (f22 36 (of_decide_eq_true rfl))) hI31
            have I55 : jI38 σ35 := jI38_fr ((congrFun (f37 38 (of_decide_eq_true rfl)) 0).trans (congrFun (f22 38 (of_decide_eq_true rfl)) 0)) ((congrFun (f37 38 (of_decide_eq_true rfl)) 1).trans (congrFun (f22 38 (of_decide_eq_true rfl)) 1)) ((f37 39 (of_decide_eq_true rfl)).trans (f22 39 (of_decide_eq_true rfl))) hI38
            have I56 : jI43 σ35 := jI43_fr ((congrFun (f37 43 (of_decide_eq_true rfl)) 8).trans (congrFun (f22 43 (of_decide_eq_true rfl)) 8)) hI43
            have I57 : jI47 σ35 := jI47_fr ((congrFun (f37 47 (of_decide_eq_true rfl)) 0).trans (congrFun (f22 47 (of_decide_eq_true rfl)) 0)) ((f37 48 (of_decide_eq_true rfl)).trans (f22 48 (of_decide_eq_true rfl))) ((f37 49 (of_decide_eq_true rfl)).trans (f22 49 (of_decide_eq_true rfl))) hI47
            have I58 : jI50 σ35 := jI50_fr (f37 52 (of_decide_eq_true rfl)) I23
            have I59 : jI101 σ35 := jI101_fr ((congrFun (f37 55 (of_decide_eq_true rfl)) 4).trans (congrFun (f22 55 (of_decide_eq_true rfl)) 4)) ((congrFun (f37 55 (of_decide_eq_true rfl)) 5).trans (congrFun (f22 55 (of_decide_eq_true rfl)) 5)) ((f37 56 (of_decide_eq_true rfl)).trans (f22 56 (of_decide_eq_true rfl))) ((f37 57 (of_decide_eq_true rfl)).trans (f22 57 (of_decide_eq_true rfl))) ((f37 58 (of_decide_eq_true rfl)).trans (f22 58 (of_decide_eq_true rfl))) ((f37 59 (of_decide_eq_true rfl)).trans (f22 59 (of_decide_eq_true rfl))) hI101
            have I60 : jI102 σ35 := jI102_fr ((congrFun (f37 55 (of_decide_eq_true rfl)) 6).trans (congrFun (f22 55 (of_decide_eq_true rfl)) 6)) ((f37 60 (of_decide_eq_true rfl)).trans (f22 60 (of_decide_eq_true rfl))) ((f37 61 (of_decide_eq_true rfl)).trans (f22 61 (of_decide_eq_true rfl))) hI102
            have I61 : jI103 σ35 := jI103_fr ((congrFun (f37 55 (of_decide_eq_true rfl)) 9).trans (congrFun (f22 55 (of_decide_eq_true rfl)) 9)) hI103
            have I62 : jI104 σ35 := jI104_fr ((congrFun (f37 55 (of_decide_eq_true rfl)) 10).trans (congrFun (f22 55 (of_decide_eq_true rfl)) 10)) ((congrFun (f37 55 (of_decide_eq_true rfl)) 12).trans (congrFun (f22 55 (of_decide_eq_true rfl)) 12)) ((congrFun (f37 55 (of_decide_eq_true rfl)) 13).trans (congrFun (f22 55 (of_decide_eq_true rfl)) 13)) ((f37 62 (of_decide_eq_true rfl)).trans (f22 62 (of_decide_eq_true rfl))) ((f37 67 (of_decide_eq_true rfl)).trans (f22 67 (of_decide_eq_true rfl))) hI104
            have I63 : jI105 σ35 := jI105_fr ((congrFun (f37 55 (of_decide_eq_true rfl)) 15).trans (congrFun (f22 55 (of_decide_eq_true rfl)) 15)) ((f37 65 (of_decide_eq_true rfl)).trans (f22 65 (of_decide_eq_true rfl))) hI105
            have I64 : jI106 σ35 := jI106_fr (congrFun (f37 55 (of_decide_eq_true rfl)) 32) (f37 70 (of_decide_eq_true rfl)) (f37 71 (of_decide_eq_true rfl)) (f37 72 (of_decide_eq_true rfl)) I32
            have I65 : jI107 σ35 := jI107_fr ((congrFun (f37 55 (of_decide_eq_true rfl)) 12).trans (congrFun (f22 55 (of_decide_eq_true rfl)) 12)) ((congrFun (f37 55 (of_decide_eq_true rfl)) 47).trans (congrFun (f22 55 (of_decide_eq_true rfl)) 47)) ((f37 80 (of_decide_eq_true rfl)).trans (f22 80 (of_decide_eq_true rfl))) hI107
            have I66 : jI109 σ35 := jI109_fr ((congrFun (f37 55 (of_decide_eq_true rfl)) 50).trans (congrFun (f22 55 (of_decide_eq_true rfl)) 50)) hI109
            have I67 : jI111 σ35 := jI111_fr ((f37 79 (of_decide_eq_true rfl)).trans (f22 79 (of_decide_eq_true rfl))) hI111
            have I68 : jI119 σ35 := jI119_fr ((f37 68 (of_decide_eq_true rfl)).trans (f22 68 (of_decide_eq_true rfl))) hI119
            have p69 : jKept σ35 := jKept.fr ((f37 75 (of_decide_eq_true rfl)).trans (f22 75 (of_decide_eq_true rfl))) ((f37 76 (of_decide_eq_true rfl)).trans (f22 76 (of_decide_eq_true rfl))) ((f37 77 (of_decide_eq_true rfl)).trans (f22 77 (of_decide_eq_true rfl))) hs_jKept
            have p70 : jBook σ35 := jBook.fr ((congrFun (f37 55 (of_decide_eq_true rfl)) 47).trans (congrFun (f22 55 (of_decide_eq_true rfl)) 47)) ((congrFun (f37 55 (of_decide_eq_true rfl)) 10).trans (congrFun (f22 55 (of_decide_eq_true rfl)) 10)) ((f37 81 (of_decide_eq_true rfl)).trans (f22 81 (of_decide_eq_true rfl))) hs_jBook
            have z71 : (σ35 9 0).toInt = (σ 9 0).toInt := (congrArg Int32.toInt (show σ35 9 0 = (σ 9 0) from ((congrFun (f37 9 (of_decide_eq_true rfl)) 0).trans (congrFun (f22 9 (of_decide_eq_true rfl)) 0))))
            have z72 : (σ35 55 15).toInt = (σ 55 15).toInt := (congrArg Int32.toInt (show σ35 55 15 = (σ 55 15) from ((congrFun (f37 55 (of_decide_eq_true rfl)) 15).trans (congrFun (f22 55 (of_decide_eq_true rfl)) 15))))
            have z73 : (σ35 16 0).toInt = (σ 16 0).toInt := (congrArg Int32.toInt (show σ35 16 0 = (σ 16 0) from ((congrFun (f37 16 (of_decide_eq_true rfl)) 0).trans (congrFun (f22 16 (of_decide_eq_true rfl)) 0))))
            have z74 : (σ35 55 10).toInt = (σ 55 10).toInt := (congrArg Int32.toInt (show σ35 55 10 = (σ 55 10) from ((congrFun (f37 55 (of_decide_eq_true rfl)) 10).trans (congrFun (f22 55 (of_decide_eq_true rfl)) 10))))
            have z75 : (σ35 16 1).toInt = (σ 16 1).toInt := (congrArg Int32.toInt (show σ35 16 1 = (σ 16 1) from ((congrFun (f37 16 (of_decide_eq_true rfl)) 1).trans (congrFun (f22 16 (of_decide_eq_true rfl)) 1))))
            have z76 : (σ35 55 12).toInt = (σ 55 12).toInt := (congrArg Int32.toInt (show σ35 55 12 = (σ 55 12) from ((congrFun (f37 55 (of_decide_eq_true rfl)) 12).trans (congrFun (f22 55 (of_decide_eq_true rfl)) 12))))
            have z77 : (σ35 16 2).toInt = (σ 16 2).toInt := (congrArg Int32.toInt (show σ35 16 2 = (σ 16 2) from ((congrFun (f37 16 (of_decide_eq_true rfl)) 2).trans (congrFun (f22 16 (of_decide_eq_true rfl)) 2))))
            have z78 : (σ35 55 13).toInt = (σ 55 13).toInt := (congrArg Int32.toInt (show σ35 55 13 = (σ 55 13) from ((congrFun (f37 55 (of_decide_eq_true rfl)) 13).trans (congrFun (f22 55 (of_decide_eq_true rfl)) 13))))
            exact by exact ih x47 σ35 τ _ _ ls (by have h9 := tx47; omega) ⟨I48, I49, I50, I51, I52, I53, I54, I55, I56, I57, I58, I59, I60, I61, I62, I63, I64, I65, I66, I38, I67, I68, p69, p70, (by omega), (by omega), (by omega), (by omega), (show jTp (σ35 10) (σ35 63) (σ35 55 15).toInt by rw [show σ35 10 = σ 10 from ((f37 10 (of_decide_eq_true rfl)).trans (f22 10 (of_decide_eq_true rfl))), show σ35 63 = σ 63 from ((f37 63 (of_decide_eq_true rfl)).trans (f22 63 (of_decide_eq_true rfl)))]; exact hr0.le (by omega)), (show jSo (σ35 17) (σ35 62) (σ35 16 0).toInt by rw [show σ35 17 = σ 17 from ((f37 17 (of_decide_eq_true rfl)).trans (f22 17 (of_decide_eq_true rfl))), show σ35 62 = σ 62 from ((f37 62 (of_decide_eq_true rfl)).trans (f22 62 (of_decide_eq_true rfl))), show (σ35 16 0).toInt = (σ 16 0).toInt from by omega]; exact hr1)⟩ hP hS (lv_sub hl [0, 1, 2, 3] rfl)
        · obtain ⟨q82, k79, k80, k81⟩ := h41
          exact absurd (by omega : False) id
        · obtain ⟨q85, k83, k84⟩ := h42
          exact absurd (by omega : False) id
    · obtain ⟨q89, k86, k87, k88⟩ := h26
      have q89 := q89.symm
      subst q89
      refine lv_pop hx hb dL_law_1070 rfl ?_
      refine lv_aload_n hx hb dL_law_1071 rfl (lv_at hl 1 rfl) ?_
      refine lv_aload_n hx hb dL_law_1072 rfl (lv_at hl 3 rfl) ?_
      refine lv_iload_n hx hb dL_law_1073 rfl (lv_at hl 0 rfl) ?_
      refine lv_iconst (v := 1) hx hb dL_law_1074 (of_decide_eq_true rfl) ?_
      refine lv_iadd hx hb dL_law_1075 ?_
      refine jtopr ex16.symm ?_
      exact by
       refine va_sld hx hb hX hbl hbA hS (jin tx16 (by omega) (by omega)) dL_law_1076 ?_
       refine lv_aload_n hx hb dL_law_1077 rfl (lv_at hl 3 rfl) ?_
       refine lv_iload_n hx hb dL_law_1078 rfl (lv_at hl 0 rfl) ?_
       refine lv_iconst (v := 2) hx hb dL_law_1079 (of_decide_eq_true rfl) ?_
       refine lv_iadd hx hb dL_law_1080 ?_
       refine jtopr ex18.symm ?_
       refine va_sld hx hb hX hbl hbA hS (jin tx18 (by omega) (by omega)) dL_law_1081 ?_
       have I90 : jI106 σ20 := jI106_fr (congrFun (f22 55 (of_decide_eq_true rfl)) 32) (f22 70 (of_decide_eq_true rfl)) (f22 71 (of_decide_eq_true rfl)) (f22 72 (of_decide_eq_true rfl)) hI106
       have I91 : jI110 σ20 := jI110_fr (f22 86 (of_decide_eq_true rfl)) (f22 87 (of_decide_eq_true rfl)) hI110
       exact by
        have z92 : (σ20 55 32).toInt = (σ 55 32).toInt := (congrArg Int32.toInt (show σ20 55 32 = (σ 55 32) from (congrFun (f22 55 (of_decide_eq_true rfl)) 32)))
        refine jcallV (As := [.int (xs x16.toNatClampNeg), .int (xs x18.toNatClampNeg)]) (rest := []) ⟨hx, hb, hml, hown, hts⟩ hK hP hA hS hZ (c_X12_keep l D cI cL ad zz hJ σ20 τ (xs x16.toNatClampNeg) ((xs x16.toNatClampNeg).toInt) rfl (xs x18.toNatClampNeg) ((xs x18.toNatClampNeg).toInt) rfl I90 I91) cw_RL_140 (jc_55 cI cL ad σ20 τ) rfl ⟨Nat.le_of_ble_eq_true rfl, Nat.le_of_ble_eq_true rfl⟩ rfl rfl rfl hl.1 rfl (Nat.le_of_ble_eq_true rfl) dL_law_1082 ⟨Nat.le_of_ble_eq_true rfl, Nat.le_of_ble_eq_true rfl⟩ (fun r94 σ93 τ93 H locs h93 hP hS => ?_)
        obtain ⟨rfl, f95, I96, h93⟩ := h93
        rcases h93 with h98 | h99 | h100
        · obtain ⟨q104, k101, k102, k103⟩ := h98
          exact absurd (by omega : False) id
        · obtain ⟨q108, k105, k106, k107⟩ := h99
          have q108 := q108.symm
          subst q108
          refine lv_pop hx hb dL_law_1085 rfl ?_
          refine lv_goto (tgt := 1357) hx hb dL_law_1086 (of_decide_eq_true rfl) ?_
          obtain ⟨x109, ex109⟩ : ∃ y : Int32, y = x0 + 6 := ⟨_, rfl⟩
          exact by
           have tx109 : x109.toInt = x0.toInt + 6 := (jadd ex109 rfl jz_6 (by omega) (by omega)).trans (by omega)
           refine lv_iinc (v := x109) (lv' := [(3, .int x109), (2, .ref (ad 55)), (1, .ref (ad 0)), (0, .ref b)]) hx hb dL_law_1357 hl (k := 0) rfl (by rw [ex109]; rfl) (of_decide_eq_true rfl) rfl (fun ls hl => ?_)
           refine lv_goto (tgt := 18) hx hb dL_law_1360 (of_decide_eq_true rfl) ?_
           have I110 : jI2 σ93 := jI2_fr ((congrFun (f95 2 (of_decide_eq_true rfl)) 0).trans (congrFun (f22 2 (of_decide_eq_true rfl)) 0)) ((congrFun (f95 2 (of_decide_eq_true rfl)) 1).trans (congrFun (f22 2 (of_decide_eq_true rfl)) 1)) ((congrFun (f95 2 (of_decide_eq_true rfl)) 2).trans (congrFun (f22 2 (of_decide_eq_true rfl)) 2)) ((congrFun (f95 2 (of_decide_eq_true rfl)) 3).trans (congrFun (f22 2 (of_decide_eq_true rfl)) 3)) ((f95 6 (of_decide_eq_true rfl)).trans (f22 6 (of_decide_eq_true rfl))) hI2
           have I111 : jI9 σ93 := jI9_fr ((congrFun (f95 9 (of_decide_eq_true rfl)) 0).trans (congrFun (f22 9 (of_decide_eq_true rfl)) 0)) ((f95 10 (of_decide_eq_true rfl)).trans (f22 10 (of_decide_eq_true rfl))) ((f95 11 (of_decide_eq_true rfl)).trans (f22 11 (of_decide_eq_true rfl))) hI9
           have I112 : jI12 σ93 := jI12_fr ((congrFun (f95 12 (of_decide_eq_true rfl)) 0).trans (congrFun (f22 12 (of_decide_eq_true rfl)) 0)) ((f95 13 (of_decide_eq_true rfl)).trans (f22 13 (of_decide_eq_true rfl))) hI12
           have I113 : jI16 σ93 := jI16_fr ((congrFun (f95 16 (of_decide_eq_true rfl)) 0).trans (congrFun (f22 16 (of_decide_eq_true rfl)) 0)) ((congrFun (f95 16 (of_decide_eq_true rfl)) 1).trans (congrFun (f22 16 (of_decide_eq_true rfl)) 1)) ((congrFun (f95 16 (of_decide_eq_true rfl)) 2).trans (congrFun (f22 16 (of_decide_eq_true rfl)) 2)) ((f95 17 (of_decide_eq_true rfl)).trans (f22 17 (of_decide_eq_true rfl))) hI16
           have I114 : jI18 σ93 := jI18_fr ((congrFun (f95 18 (of_decide_eq_true rfl)) 0).trans (congrFun (f22 18 (of_decide_eq_true rfl)) 0)) ((f95 19 (of_decide_eq_true rfl)).trans (f22 19 (of_decide_eq_true rfl))) hI18
           have I115 : jI22 σ93 := jI22_fr ((congrFun (f95 22 (of_decide_eq_true rfl)) 0).trans (congrFun (f22 22 (of_decide_eq_true rfl)) 0)) ((f95 23 (of_decide_eq_true rfl)).trans (f22 23 (of_decide_eq_true rfl))) hI22
           exact by
            have I116 : jI31 σ93 := jI31_fr ((congrFun (f95 31 (of_decide_eq_true rfl)) 8).trans (congrFun (f22 31 (of_decide_eq_true rfl)) 8)) ((f95 33 (of_decide_eq_true rfl)).trans (f22 33 (of_decide_eq_true rfl))) ((f95 36 (of_decide_eq_true rfl)).trans (f22 36 (of_decide_eq_true rfl))) hI31
            have I117 : jI38 σ93 := jI38_fr ((congrFun (f95 38 (of_decide_eq_true rfl)) 0).trans (congrFun (f22 38 (of_decide_eq_true rfl)) 0)) ((congrFun (f95 38 (of_decide_eq_true rfl)) 1).trans (congrFun (f22 38 (of_decide_eq_true rfl)) 1)) ((f95 39 (of_decide_eq_true rfl)).trans (f22 39 (of_decide_eq_true rfl))) hI38
            have I118 : jI43 σ93 := jI43_fr ((congrFun (f95 43 (of_decide_eq_true rfl)) 8).trans (congrFun (f22 43 (of_decide_eq_true rfl)) 8)) hI43
            have I119 : jI47 σ93 := jI47_fr ((congrFun (f95 47 (of_decide_eq_true rfl)) 0).trans (congrFun (f22 47 (of_decide_eq_true rfl)) 0)) ((f95 48 (of_decide_eq_true rfl)).trans (f22 48 (of_decide_eq_true rfl))) ((f95 49 (of_decide_eq_true rfl)).trans (f22 49 (of_decide_eq_true rfl))) hI47
            have I120 : jI50 σ93 := jI50_fr (f95 52 (of_decide_eq_true rfl)) I23
            have I121 : jI101 σ93 := jI101_fr ((congrFun (f95 55 (of_decide_eq_true rfl)) 4).trans (congrFun (f22 55 (of_decide_eq_true rfl)) 4)) ((congrFun (f95 55 (of_decide_eq_true rfl)) 5).trans (congrFun (f22 55 (of_decide_eq_true rfl)) 5)) ((f95 56 (of_decide_eq_true rfl)).trans (f22 56 (of_decide_eq_true rfl))) ((f95 57 (of_decide_eq_true rfl)).trans (f22 57 (of_decide_eq_true rfl))) ((f95 58 (of_decide_eq_true rfl)).trans (f22 58 (of_decide_eq_true rfl))) ((f95 59 (of_decide_eq_true rfl)).trans (f22 59 (of_decide_eq_true rfl))) hI101
            have I122 : jI102 σ93 := jI102_fr ((congrFun (f95 55 (of_decide_eq_true rfl)) 6).trans (congrFun (f22 55 (of_decide_eq_true rfl)) 6)) ((f95 60 (of_decide_eq_true rfl)).trans (f22 60 (of_decide_eq_true rfl))) ((f95 61 (of_decide_eq_true rfl)).trans (f22 61 (of_decide_eq_true rfl))) hI102
            have I123 : jI103 σ93 := jI103_fr ((congrFun (f95 55 (of_decide_eq_true rfl)) 9).trans (congrFun (f22 55 (of_decide_eq_true rfl)) 9)) hI103
            have I124 : jI104 σ93 := jI104_fr ((congrFun (f95 55 (of_decide_eq_true rfl)) 10).trans (congrFun (f22 55 (of_decide_eq_true rfl)) 10)) ((congrFun (f95 55 (of_decide_eq_true rfl)) 12).trans (congrFun (f22 55 (of_decide_eq_true rfl)) 12)) ((congrFun (f95 55 (of_decide_eq_true rfl)) 13).trans (congrFun (f22 55 (of_decide_eq_true rfl)) 13)) ((f95 62 (of_decide_eq_true rfl)).trans (f22 62 (of_decide_eq_true rfl))) ((f95 67 (of_decide_eq_true rfl)).trans (f22 67 (of_decide_eq_true rfl))) hI104
            have I125 : jI105 σ93 := jI105_fr ((congrFun (f95 55 (of_decide_eq_true rfl)) 15).trans (congrFun (f22 55 (of_decide_eq_true rfl)) 15)) ((f95 65 (of_decide_eq_true rfl)).trans (f22 65 (of_decide_eq_true rfl))) hI105
            have I126 : jI106 σ93 := jI106_fr (congrFun (f95 55 (of_decide_eq_true rfl)) 32) (f95 70 (of_decide_eq_true rfl)) (f95 71 (of_decide_eq_true rfl)) (f95 72 (of_decide_eq_true rfl)) I90
            have I127 : jI107 σ93 := jI107_fr ((congrFun (f95 55 (of_decide_eq_true rfl)) 12).trans (congrFun (f22 55 (of_decide_eq_true rfl)) 12)) ((congrFun (f95 55 (of_decide_eq_true rfl)) 47).trans (congrFun (f22 55 (of_decide_eq_true rfl)) 47)) ((f95 80 (of_decide_eq_true rfl)).trans (f22 80 (of_decide_eq_true rfl))) hI107
            have I128 : jI109 σ93 := jI109_fr ((congrFun (f95 55 (of_decide_eq_true rfl)) 50).trans (congrFun (f22 55 (of_decide_eq_true rfl)) 50)) hI109
            have I129 : jI111 σ93 := jI111_fr ((f95 79 (of_decide_eq_true rfl)).trans (f22 79 (of_decide_eq_true rfl))) hI111
            have I130 : jI119 σ93 := jI119_fr ((f95 68 (of_decide_eq_true rfl)).trans (f22 68 (of_decide_eq_true rfl))) hI119
            have p131 : jKept σ93 := jKept.fr ((f95 75 (of_decide_eq_true rfl)).trans (f22 75 (of_decide_eq_true rfl))) ((f95 76 (of_decide_eq_true rfl)).trans (f22 76 (of_decide_eq_true rfl))) ((f95 77 (of_decide_eq_true rfl)).trans (f22 77 (of_decide_eq_true rfl))) hs_jKept
            have p132 : jBook σ93 := jBook.fr ((congrFun (f95 55 (of_decide_eq_true rfl)) 47).trans (congrFun (f22 55 (of_decide_eq_true rfl)) 47)) ((congrFun (f95 55 (of_decide_eq_true rfl)) 10).trans (congrFun (f22 55 (of_decide_eq_true rfl)) 10)) ((f95 81 (of_decide_eq_true rfl)).trans (f22 81 (of_decide_eq_true rfl))) hs_jBook
            have z133 : (σ93 9 0).toInt = (σ 9 0).toInt := (congrArg Int32.toInt (show σ93 9 0 = (σ 9 0) from ((congrFun (f95 9 (of_decide_eq_true rfl)) 0).trans (congrFun (f22 9 (of_decide_eq_true rfl)) 0))))
            have z134 : (σ93 55 15).toInt = (σ 55 15).toInt := (congrArg Int32.toInt (show σ93 55 15 = (σ 55 15) from ((congrFun (f95 55 (of_decide_eq_true rfl)) 15).trans (congrFun (f22 55 (of_decide_eq_true rfl)) 15))))
            have z135 : (σ93 16 0).toInt = (σ 16 0).toInt := (congrArg Int32.toInt (show σ93 16 0 = (σ 16 0) from ((congrFun (f95 16 (of_decide_eq_true rfl)) 0).trans (congrFun (f22 16 (of_decide_eq_true rfl)) 0))))
            have z136 : (σ93 55 10).toInt = (σ 55 10).toInt := (congrArg Int32.toInt (show σ93 55 10 = (σ 55 10) from ((congrFun (f95 55 (of_decide_eq_true rfl)) 10).trans (congrFun (f22 55 (of_decide_eq_true rfl)) 10))))
            have z137 : (σ93 16 1).toInt = (σ 16 1).toInt := (congrArg Int32.toInt (show σ93 16 1 = (σ 16 1) from ((congrFun (f95 16 (of_decide_eq_true rfl)) 1).trans (congrFun (f22 16 (of_decide_eq_true rfl)) 1))))
            have z138 : (σ93 55 12).toInt = (σ 55 12).toInt := (congrArg Int32.toInt (show σ93 55 12 = (σ 55 12) from ((congrFun (f95 55 (of_decide_eq_true rfl)) 12).trans (congrFun (f22 55 (of_decide_eq_true rfl)) 12))))
            have z139 : (σ93 16 2).toInt = (σ 16 2).toInt := (congrArg Int32.toInt (show σ93 16 2 = (σ 16 2) from ((congrFun (f95 16 (of_decide_eq_true rfl)) 2).trans (congrFun (f22 16 (of_decide_eq_true rfl)) 2))))
            have z140 : (σ93 55 13).toInt = (σ 55 13).toInt := (congrArg Int32.toInt (show σ93 55 13 = (σ 55 13) from ((congrFun (f95 55 (of_decide_eq_true rfl)) 13).trans (congrFun (f22 55 (of_decide_eq_true rfl)) 13))))
            exact by exact ih x109 σ93 τ _ _ ls (by have h9 := tx109; omega) ⟨I110, I111, I112, I113, I114, I115, I116, I117, I118, I119, I120, I121, I122, I123, I124, I125, I126, I127, I128, I96, I129, I130, p131, p132, (by omega), (by omega), (by omega), (by omega), (show jTp (σ93 10) (σ93 63) (σ93 55 15).toInt by rw [show σ93 10 = σ 10 from ((f95 10 (of_decide_eq_true rfl)).trans (f22 10 (of_decide_eq_true rfl))), show σ93 63 = σ 63 from ((f95 63 (of_decide_eq_true rfl)).trans (f22 63 (of_decide_eq_true rfl)))]; exact hr0.le (by omega)), (show jSo (σ93 17) (σ93 62) (σ93 16 0).toInt by rw [show σ93 17 = σ 17 from ((f95 17 (of_decide_eq_true rfl)).trans (f22 17 (of_decide_eq_true rfl))), show σ93 62 = σ 62 from ((f95 62 (of_decide_eq_true rfl)).trans (f22 62 (of_decide_eq_true rfl))), show (σ93 16 0).toInt = (σ 16 0).toInt from by omega]; exact hr1)⟩ hP hS (lv_sub hl [0, 1, 2, 3] rfl)
        · obtain ⟨q143, k141, k142⟩ := h100
          have q143 := q143.symm
          subst q143
          refine lv_pop hx hb dL_law_1085 rfl ?_
          refine lv_goto (tgt := 1357) hx hb dL_law_1086 (of_decide_eq_true rfl) ?_
          obtain ⟨x144, ex144⟩ : ∃ y : Int32, y = x0 + 6 := ⟨_, rfl⟩
          exact by
           have tx144 : x144.toInt = x0.toInt + 6 := (jadd ex144 rfl jz_6 (by omega) (by omega)).trans (by omega)
           refine lv_iinc (v := x144) (lv' := [(3, .int x144), (2, .ref (ad 55)), (1, .ref (ad 0)), (0, .ref b)]) hx hb dL_law_1357 hl (k := 0) rfl (by rw [ex144]; rfl) (of_decide_eq_true rfl) rfl (fun ls hl => ?_)
           refine lv_goto (tgt := 18) hx hb dL_law_1360 (of_decide_eq_true rfl) ?_
           have I145 : jI2 σ93 := jI2_fr ((congrFun (f95 2 (of_decide_eq_true rfl)) 0).trans (congrFun (f22 2 (of_decide_eq_true rfl)) 0)) ((congrFun (f95 2 (of_decide_eq_true rfl)) 1).trans (congrFun (f22 2 (of_decide_eq_true rfl)) 1)) ((congrFun (f95 2 (of_decide_eq_true rfl)) 2).trans (congrFun (f22 2 (of_decide_eq_true rfl)) 2)) ((congrFun (f95 2 (of_decide_eq_true rfl)) 3).trans (congrFun (f22 2 (of_decide_eq_true rfl)) 3)) ((f95 6 (of_decide_eq_true rfl)).trans (f22 6 (of_decide_eq_true rfl))) hI2
           have I146 : jI9 σ93 := jI9_fr ((congrFun (f95 9 (of_decide_eq_true rfl)) 0).trans (congrFun (f22 9 (of_decide_eq_true rfl)) 0)) ((f95 10 (of_decide_eq_true rfl)).trans (f22 10 (of_decide_eq_true rfl))) ((f95 11 (of_decide_eq_true rfl)).trans (f22 11 (of_decide_eq_true rfl))) hI9
           have I147 : jI12 σ93 := jI12_fr ((congrFun (f95 12 (of_decide_eq_true rfl)) 0).trans (congrFun (f22 12 (of_decide_eq_true rfl)) 0)) ((f95 13 (of_decide_eq_true rfl)).trans (f22 13 (of_decide_eq_true rfl))) hI12
           have I148 : jI16 σ93 := jI16_fr ((congrFun (f95 16 (of_decide_eq_true rfl)) 0).trans (congrFun (f22 16 (of_decide_eq_true rfl)) 0)) ((congrFun (f95 16 (of_decide_eq_true rfl)) 1).trans (congrFun (f22 16 (of_decide_eq_true rfl)) 1)) ((congrFun (f95 16 (of_decide_eq_true rfl)) 2).trans (congrFun (f22 16 (of_decide_eq_true rfl)) 2)) ((f95 17 (of_decide_eq_true rfl)).trans (f22 17 (of_decide_eq_true rfl))) hI16
           have I149 : jI18 σ93 := jI18_fr ((congrFun (f95 18 (of_decide_eq_true rfl)) 0).trans (congrFun (f22 18 (of_decide_eq_true rfl)) 0)) ((f95 19 (of_decide_eq_true rfl)).trans (f22 19 (of_decide_eq_true rfl))) hI18
           have I150 : jI22 σ93 := jI22_fr ((congrFun (f95 22 (of_decide_eq_true rfl)) 0).trans (congrFun (f22 22 (of_decide_eq_true rfl)) 0)) ((f95 23 (of_decide_eq_true rfl)).trans (f22 23 (of_decide_eq_true rfl))) hI22
           exact by
            have I151 : jI31 σ93 := jI31_fr ((congrFun (f95 31 (of_decide_eq_true rfl)) 8).trans (congrFun (f22 31 (of_decide_eq_true rfl)) 8)) ((f95 33 (of_decide_eq_true rfl)).trans (f22 33 (of_decide_eq_true rfl))) ((f95 36 (of_decide_eq_true rfl)).trans (f22 36 (of_decide_eq_true rfl))) hI31
            have I152 : jI38 σ93 := jI38_fr ((congrFun (f95 38 (of_decide_eq_true rfl)) 0).trans (congrFun (f22 38 (of_decide_eq_true rfl)) 0)) ((congrFun (f95 38 (of_decide_eq_true rfl)) 1).trans (congrFun (f22 38 (of_decide_eq_true rfl)) 1)) ((f95 39 (of_decide_eq_true rfl)).trans (f22 39 (of_decide_eq_true rfl))) hI38
            have I153 : jI43 σ93 := jI43_fr ((congrFun (f95 43 (of_decide_eq_true rfl)) 8).trans (congrFun (f22 43 (of_decide_eq_true rfl)) 8)) hI43
            have I154 : jI47 σ93 := jI47_fr ((congrFun (f95 47 (of_decide_eq_true rfl)) 0).trans (congrFun (f22 47 (of_decide_eq_true rfl)) 0)) ((f95 48 (of_decide_eq_true rfl)).trans (f22 48 (of_decide_eq_true rfl))) ((f95 49 (of_decide_eq_true rfl)).trans (f22 49 (of_decide_eq_true rfl))) hI47
            have I155 : jI50 σ93 := jI50_fr (f95 52 (of_decide_eq_true rfl)) I23
            have I156 : jI101 σ93 := jI101_fr ((congrFun (f95 55 (of_decide_eq_true rfl)) 4).trans (congrFun (f22 55 (of_decide_eq_true rfl)) 4)) ((congrFun (f95 55 (of_decide_eq_true rfl)) 5).trans (congrFun (f22 55 (of_decide_eq_true rfl)) 5)) ((f95 56 (of_decide_eq_true rfl)).trans (f22 56 (of_decide_eq_true rfl))) ((f95 57 (of_decide_eq_true rfl)).trans (f22 57 (of_decide_eq_true rfl))) ((f95 58 (of_decide_eq_true rfl)).trans (f22 58 (of_decide_eq_true rfl))) ((f95 59 (of_decide_eq_true rfl)).trans (f22 59 (of_decide_eq_true rfl))) hI101
            have I157 : jI102 σ93 := jI102_fr ((congrFun (f95 55 (of_decide_eq_true rfl)) 6).trans (congrFun (f22 55 (of_decide_eq_true rfl)) 6)) ((f95 60 (of_decide_eq_true rfl)).trans (f22 60 (of_decide_eq_true rfl))) ((f95 61 (of_decide_eq_true rfl)).trans (f22 61 (of_decide_eq_true rfl))) hI102
            have I158 : jI103 σ93 := jI103_fr ((congrFun (f95 55 (of_decide_eq_true rfl)) 9).trans (congrFun (f22 55 (of_decide_eq_true rfl)) 9)) hI103
            have I159 : jI104 σ93 := jI104_fr ((congrFun (f95 55 (of_decide_eq_true rfl)) 10).trans (congrFun (f22 55 (of_decide_eq_true rfl)) 10)) ((congrFun (f95 55 (of_decide_eq_true rfl)) 12).trans (congrFun (f22 55 (of_decide_eq_true rfl)) 12)) ((congrFun (f95 55 (of_decide_eq_true rfl)) 13).trans (congrFun (f22 55 (of_decide_eq_true rfl)) 13)) ((f95 62 (of_decide_eq_true rfl)).trans (f22 62 (of_decide_eq_true rfl))) ((f95 67 (of_decide_eq_true rfl)).trans (f22 67 (of_decide_eq_true rfl))) hI104
            have I160 : jI105 σ93 := jI105_fr ((congrFun (f95 55 (of_decide_eq_true rfl)) 15).trans (congrFun (f22 55 (of_decide_eq_true rfl)) 15)) ((f95 65 (of_decide_eq_true rfl)).trans (f22 65 (of_decide_eq_true rfl))) hI105
            have I161 : jI106 σ93 := jI106_fr (congrFun (f95 55 (of_decide_eq_true rfl)) 32) (f95 70 (of_decide_eq_true rfl)) (f95 71 (of_decide_eq_true rfl)) (f95 72 (of_decide_eq_true rfl)) I90
            have I162 : jI107 σ93 := jI107_fr ((congrFun (f95 55 (of_decide_eq_true rfl)) 12).trans (congrFun (f22 55 (of_decide_eq_true rfl)) 12)) ((congrFun (f95 55 (of_decide_eq_true rfl)) 47).trans (congrFun (f22 55 (of_decide_eq_true rfl)) 47)) ((f95 80 (of_decide_eq_true rfl)).trans (f22 80 (of_decide_eq_true rfl))) hI107
            have I163 : jI109 σ93 := jI109_fr ((congrFun (f95 55 (of_decide_eq_true rfl)) 50).trans (congrFun (f22 55 (of_decide_eq_true rfl)) 50)) hI109
            have I164 : jI111 σ93 := jI111_fr ((f95 79 (of_decide_eq_true rfl)).trans (f22 79 (of_decide_eq_true rfl))) hI111
            have I165 : jI119 σ93 := jI119_fr ((f95 68 (of_decide_eq_true rfl)).trans (f22 68 (of_decide_eq_true rfl))) hI119
            have p166 : jKept σ93 := jKept.fr ((f95 75 (of_decide_eq_true rfl)).trans (f22 75 (of_decide_eq_true rfl))) ((f95 76 (of_decide_eq_true rfl)).trans (f22 76 (of_decide_eq_true rfl))) ((f95 77 (of_decide_eq_true rfl)).trans (f22 77 (of_decide_eq_true rfl))) hs_jKept
            have p167 : jBook σ93 := jBook.fr ((congrFun (f95 55 (of_decide_eq_true rfl)) 47).trans (congrFun (f22 55 (of_decide_eq_true rfl)) 47)) ((congrFun (f95 55 (of_decide_eq_true rfl)) 10).trans (congrFun (f22 55 (of_decide_eq_true rfl)) 10)) ((f95 81 (of_decide_eq_true rfl)).trans (f22 81 (of_decide_eq_true rfl))) hs_jBook
            have z168 : (σ93 9 0).toInt = (σ 9 0).toInt := (congrArg Int32.toInt (show σ93 9 0 = (σ 9 0) from ((congrFun (f95 9 (of_decide_eq_true rfl)) 0).trans (congrFun (f22 9 (of_decide_eq_true rfl)) 0))))
            have z169 : (σ93 55 15).toInt = (σ 55 15).toInt := (congrArg Int32.toInt (show σ93 55 15 = (σ 55 15) from ((congrFun (f95 55 (of_decide_eq_true rfl)) 15).trans (congrFun (f22 55 (of_decide_eq_true rfl)) 15))))
            have z170 : (σ93 16 0).toInt = (σ 16 0).toInt := (congrArg Int32.toInt (show σ93 16 0 = (σ 16 0) from ((congrFun (f95 16 (of_decide_eq_true rfl)) 0).trans (congrFun (f22 16 (of_decide_eq_true rfl)) 0))))
            have z171 : (σ93 55 10).toInt = (σ 55 10).toInt := (congrArg Int32.toInt (show σ93 55 10 = (σ 55 10) from ((congrFun (f95 55 (of_decide_eq_true rfl)) 10).trans (congrFun (f22 55 (of_decide_eq_true rfl)) 10))))
            have z172 : (σ93 16 1).toInt = (σ 16 1).toInt := (congrArg Int32.toInt (show σ93 16 1 = (σ 16 1) from ((congrFun (f95 16 (of_decide_eq_true rfl)) 1).trans (congrFun (f22 16 (of_decide_eq_true rfl)) 1))))
            have z173 : (σ93 55 12).toInt = (σ 55 12).toInt := (congrArg Int32.toInt (show σ93 55 12 = (σ 55 12) from ((congrFun (f95 55 (of_decide_eq_true rfl)) 12).trans (congrFun (f22 55 (of_decide_eq_true rfl)) 12))))
            have z174 : (σ93 16 2).toInt = (σ 16 2).toInt := (congrArg Int32.toInt (show σ93 16 2 = (σ 16 2) from ((congrFun (f95 16 (of_decide_eq_true rfl)) 2).trans (congrFun (f22 16 (of_decide_eq_true rfl)) 2))))
            have z175 : (σ93 55 13).toInt = (σ 55 13).toInt := (congrArg Int32.toInt (show σ93 55 13 = (σ 55 13) from ((congrFun (f95 55 (of_decide_eq_true rfl)) 13).trans (congrFun (f22 55 (of_decide_eq_true rfl)) 13))))
            exact by exact ih x144 σ93 τ _ _ ls (by have h9 := tx144; omega) ⟨I145, I146, I147, I148, I149, I150, I151, I152, I153, I154, I155, I156, I157, I158, I159, I160, I161, I162, I163, I96, I164, I165, p166, p167, (by omega), (by omega), (by omega), (by omega), (show jTp (σ93 10) (σ93 63) (σ93 55 15).toInt by rw [show σ93 10 = σ 10 from ((f95 10 (of_decide_eq_true rfl)).trans (f22 10 (of_decide_eq_true rfl))), show σ93 63 = σ 63 from ((f95 63 (of_decide_eq_true rfl)).trans (f22 63 (of_decide_eq_true rfl)))]; exact hr0.le (by omega)), (show jSo (σ93 17) (σ93 62) (σ93 16 0).toInt by rw [show σ93 17 = σ 17 from ((f95 17 (of_decide_eq_true rfl)).trans (f22 17 (of_decide_eq_true rfl))), show σ93 62 = σ 62 from ((f95 62 (of_decide_eq_true rfl)).trans (f22 62 (of_decide_eq_true rfl))), show (σ93 16 0).toInt = (σ 16 0).toInt from by omega]; exact hr1)⟩ hP hS (lv_sub hl [0, 1, 2, 3] rfl)
    · obtain ⟨q178, k176, k177⟩ := h27
      have q178 := q178.symm
      subst q178
      refine lv_pop hx hb dL_law_1070 rfl ?_
      refine lv_aload_n hx hb dL_law_1071 rfl (lv_at hl 1 rfl) ?_
      refine lv_aload_n hx hb dL_law_1072 rfl (lv_at hl 3 rfl) ?_
      refine lv_iload_n hx hb dL_law_1073 rfl (lv_at hl 0 rfl) ?_
      refine lv_iconst (v := 1) hx hb dL_law_1074 (of_decide_eq_true rfl) ?_
      refine lv_iadd hx hb dL_law_1075 ?_
      refine jtopr ex16.symm ?_
      exact by
       refine va_sld hx hb hX hbl hbA hS (jin tx16 (by omega) (by omega)) dL_law_1076 ?_
       refine lv_aload_n hx hb dL_law_1077 rfl (lv_at hl 3 rfl) ?_
       refine lv_iload_n hx hb dL_law_1078 rfl (lv_at hl 0 rfl) ?_
       refine lv_iconst (v := 2) hx hb dL_law_1079 (of_decide_eq_true rfl) ?_
       refine lv_iadd hx hb dL_law_1080 ?_
       refine jtopr ex18.symm ?_
       refine va_sld hx hb hX hbl hbA hS (jin tx18 (by omega) (by omega)) dL_law_1081 ?_
       have I179 : jI106 σ20 := jI106_fr (congrFun (f22 55 (of_decide_eq_true rfl)) 32) (f22 70 (of_decide_eq_true rfl)) (f22 71 (of_decide_eq_true rfl)) (f22 72 (of_decide_eq_true rfl)) hI106
       have I180 : jI110 σ20 := jI110_fr (f22 86 (of_decide_eq_true rfl)) (f22 87 (of_decide_eq_true rfl)) hI110
       exact by
        have z181 : (σ20 55 32).toInt = (σ 55 32).toInt := (congrArg Int32.toInt (show σ20 55 32 = (σ 55 32) from (congrFun (f22 55 (of_decide_eq_true rfl)) 32)))
        refine jcallV (As := [.int (xs x16.toNatClampNeg), .int (xs x18.toNatClampNeg)]) (rest := []) ⟨hx, hb, hml, hown, hts⟩ hK hP hA hS hZ (c_X12_keep l D cI cL ad zz hJ σ20 τ (xs x16.toNatClampNeg) ((xs x16.toNatClampNeg).toInt) rfl (xs x18.toNatClampNeg) ((xs x18.toNatClampNeg).toInt) rfl I179 I180) cw_RL_140 (jc_55 cI cL ad σ20 τ) rfl ⟨Nat.le_of_ble_eq_true rfl, Nat.le_of_ble_eq_true rfl⟩ rfl rfl rfl hl.1 rfl (Nat.le_of_ble_eq_true rfl) dL_law_1082 ⟨Nat.le_of_ble_eq_true rfl, Nat.le_of_ble_eq_true rfl⟩ (fun r183 σ182 τ182 H locs h182 hP hS => ?_)
        obtain ⟨rfl, f184, I185, h182⟩ := h182
        rcases h182 with h187 | h188 | h189
        · obtain ⟨q193, k190, k191, k192⟩ := h187
          exact absurd (by omega : False) id
        · obtain ⟨q197, k194, k195, k196⟩ := h188
          have q197 := q197.symm
          subst q197
          refine lv_pop hx hb dL_law_1085 rfl ?_
          refine lv_goto (tgt := 1357) hx hb dL_law_1086 (of_decide_eq_true rfl) ?_
          obtain ⟨x198, ex198⟩ : ∃ y : Int32, y = x0 + 6 := ⟨_, rfl⟩
          exact by
           have tx198 : x198.toInt = x0.toInt + 6 := (jadd ex198 rfl jz_6 (by omega) (by omega)).trans (by omega)
           refine lv_iinc (v := x198) (lv' := [(3, .int x198), (2, .ref (ad 55)), (1, .ref (ad 0)), (0, .ref b)]) hx hb dL_law_1357 hl (k := 0) rfl (by rw [ex198]; rfl) (of_decide_eq_true rfl) rfl (fun ls hl => ?_)
           refine lv_goto (tgt := 18) hx hb dL_law_1360 (of_decide_eq_true rfl) ?_
           have I199 : jI2 σ182 := jI2_fr ((congrFun (f184 2 (of_decide_eq_true rfl)) 0).trans (congrFun (f22 2 (of_decide_eq_true rfl)) 0)) ((congrFun (f184 2 (of_decide_eq_true rfl)) 1).trans (congrFun (f22 2 (of_decide_eq_true rfl)) 1)) ((congrFun (f184 2 (of_decide_eq_true rfl)) 2).trans (congrFun (f22 2 (of_decide_eq_true rfl)) 2)) ((congrFun (f184 2 (of_decide_eq_true rfl)) 3).trans (congrFun (f22 2 (of_decide_eq_true rfl)) 3)) ((f184 6 (of_decide_eq_true rfl)).trans (f22 6 (of_decide_eq_true rfl))) hI2
           have I200 : jI9 σ182 := jI9_fr ((congrFun (f184 9 (of_decide_eq_true rfl)) 0).trans (congrFun (f22 9 (of_decide_eq_true rfl)) 0)) ((f184 10 (of_decide_eq_true rfl)).trans (f22 10 (of_decide_eq_true rfl))) ((f184 11 (of_decide_eq_true rfl)).trans (f22 11 (of_decide_eq_true rfl))) hI9
           have I201 : jI12 σ182 := jI12_fr ((congrFun (f184 12 (of_decide_eq_true rfl)) 0).trans (congrFun (f22 12 (of_decide_eq_true rfl)) 0)) ((f184 13 (of_decide_eq_true rfl)).trans (f22 13 (of_decide_eq_true rfl))) hI12
           have I202 : jI16 σ182 := jI16_fr ((congrFun (f184 16 (of_decide_eq_true rfl)) 0).trans (congrFun (f22 16 (of_decide_eq_true rfl)) 0)) ((congrFun (f184 16 (of_decide_eq_true rfl)) 1).trans (congrFun (f22 16 (of_decide_eq_true rfl)) 1)) ((congrFun (f184 16 (of_decide_eq_true rfl)) 2).trans (congrFun (f22 16 (of_decide_eq_true rfl)) 2)) ((f184 17 (of_decide_eq_true rfl)).trans (f22 17 (of_decide_eq_true rfl))) hI16
           have I203 : jI18 σ182 := jI18_fr ((congrFun (f184 18 (of_decide_eq_true rfl)) 0).trans (congrFun (f22 18 (of_decide_eq_true rfl)) 0)) ((f184 19 (of_decide_eq_true rfl)).trans (f22 19 (of_decide_eq_true rfl))) hI18
           have I204 : jI22 σ182 := jI22_fr ((congrFun (f184 22 (of_decide_eq_true rfl)) 0).trans (congrFun (f22 22 (of_decide_eq_true rfl)) 0)) ((f184 23 (of_decide_eq_true rfl)).trans (f22 23 (of_decide_eq_true rfl))) hI22
           exact by
            have I205 : jI31 σ182 := jI31_fr ((congrFun (f184 31 (of_decide_eq_true rfl)) 8).trans (congrFun (f22 31 (of_decide_eq_true rfl)) 8)) ((f184 33 (of_decide_eq_true rfl)).trans (f22 33 (of_decide_eq_true rfl))) ((f184 36 (of_decide_eq_true rfl)).trans (f22 36 (of_decide_eq_true rfl))) hI31
            have I206 : jI38 σ182 := jI38_fr ((congrFun (f184 38 (of_decide_eq_true rfl)) 0).trans (congrFun (f22 38 (of_decide_eq_true rfl)) 0)) ((congrFun (f184 38 (of_decide_eq_true rfl)) 1).trans (congrFun (f22 38 (of_decide_eq_true rfl)) 1)) ((f184 39 (of_decide_eq_true rfl)).trans (f22 39 (of_decide_eq_true rfl))) hI38
            have I207 : jI43 σ182 := jI43_fr ((congrFun (f184 43 (of_decide_eq_true rfl)) 8).trans (congrFun (f22 43 (of_decide_eq_true rfl)) 8)) hI43
            have I208 : jI47 σ182 := jI47_fr ((congrFun (f184 47 (of_decide_eq_true rfl)) 0).trans (congrFun (f22 47 (of_decide_eq_true rfl)) 0)) ((f184 48 (of_decide_eq_true rfl)).trans (f22 48 (of_decide_eq_true rfl))) ((f184 49 (of_decide_eq_true rfl)).trans (f22 49 (of_decide_eq_true rfl))) hI47
            have I209 : jI50 σ182 := jI50_fr (f184 52 (of_decide_eq_true rfl)) I23
            have I210 : jI101 σ182 := jI101_fr ((congrFun (f184 55 (of_decide_eq_true rfl)) 4).trans (congrFun (f22 55 (of_decide_eq_true rfl)) 4)) ((congrFun (f184 55 (of_decide_eq_true rfl)) 5).trans (congrFun (f22 55 (of_decide_eq_true rfl)) 5)) ((f184 56 (of_decide_eq_true rfl)).trans (f22 56 (of_decide_eq_true rfl))) ((f184 57 (of_decide_eq_true rfl)).trans (f22 57 (of_decide_eq_true rfl))) ((f184 58 (of_decide_eq_true rfl)).trans (f22 58 (of_decide_eq_true rfl))) ((f184 59 (of_decide_eq_true rfl)).trans (f22 59 (of_decide_eq_true rfl))) hI101
            have I211 : jI102 σ182 := jI102_fr ((congrFun (f184 55 (of_decide_eq_true rfl)) 6).trans (congrFun (f22 55 (of_decide_eq_true rfl)) 6)) ((f184 60 (of_decide_eq_true rfl)).trans (f22 60 (of_decide_eq_true rfl))) ((f184 61 (of_decide_eq_true rfl)).trans (f22 61 (of_decide_eq_true rfl))) hI102
            have I212 : jI103 σ182 := jI103_fr ((congrFun (f184 55 (of_decide_eq_true rfl)) 9).trans (congrFun (f22 55 (of_decide_eq_true rfl)) 9)) hI103
            have I213 : jI104 σ182 := jI104_fr ((congrFun (f184 55 (of_decide_eq_true rfl)) 10).trans (congrFun (f22 55 (of_decide_eq_true rfl)) 10)) ((congrFun (f184 55 (of_decide_eq_true rfl)) 12).trans (congrFun (f22 55 (of_decide_eq_true rfl)) 12)) ((congrFun (f184 55 (of_decide_eq_true rfl)) 13).trans (congrFun (f22 55 (of_decide_eq_true rfl)) 13)) ((f184 62 (of_decide_eq_true rfl)).trans (f22 62 (of_decide_eq_true rfl))) ((f184 67 (of_decide_eq_true rfl)).trans (f22 67 (of_decide_eq_true rfl))) hI104
            have I214 : jI105 σ182 := jI105_fr ((congrFun (f184 55 (of_decide_eq_true rfl)) 15).trans (congrFun (f22 55 (of_decide_eq_true rfl)) 15)) ((f184 65 (of_decide_eq_true rfl)).trans (f22 65 (of_decide_eq_true rfl))) hI105
            have I215 : jI106 σ182 := jI106_fr (congrFun (f184 55 (of_decide_eq_true rfl)) 32) (f184 70 (of_decide_eq_true rfl)) (f184 71 (of_decide_eq_true rfl)) (f184 72 (of_decide_eq_true rfl)) I179
            have I216 : jI107 σ182 := jI107_fr ((congrFun (f184 55 (of_decide_eq_true rfl)) 12).trans (congrFun (f22 55 (of_decide_eq_true rfl)) 12)) ((congrFun (f184 55 (of_decide_eq_true rfl)) 47).trans (congrFun (f22 55 (of_decide_eq_true rfl)) 47)) ((f184 80 (of_decide_eq_true rfl)).trans (f22 80 (of_decide_eq_true rfl))) hI107
            have I217 : jI109 σ182 := jI109_fr ((congrFun (f184 55 (of_decide_eq_true rfl)) 50).trans (congrFun (f22 55 (of_decide_eq_true rfl)) 50)) hI109
            have I218 : jI111 σ182 := jI111_fr ((f184 79 (of_decide_eq_true rfl)).trans (f22 79 (of_decide_eq_true rfl))) hI111
            have I219 : jI119 σ182 := jI119_fr ((f184 68 (of_decide_eq_true rfl)).trans (f22 68 (of_decide_eq_true rfl))) hI119
            have p220 : jKept σ182 := jKept.fr ((f184 75 (of_decide_eq_true rfl)).trans (f22 75 (of_decide_eq_true rfl))) ((f184 76 (of_decide_eq_true rfl)).trans (f22 76 (of_decide_eq_true rfl))) ((f184 77 (of_decide_eq_true rfl)).trans (f22 77 (of_decide_eq_true rfl))) hs_jKept
            have p221 : jBook σ182 := jBook.fr ((congrFun (f184 55 (of_decide_eq_true rfl)) 47).trans (congrFun (f22 55 (of_decide_eq_true rfl)) 47)) ((congrFun (f184 55 (of_decide_eq_true rfl)) 10).trans (congrFun (f22 55 (of_decide_eq_true rfl)) 10)) ((f184 81 (of_decide_eq_true rfl)).trans (f22 81 (of_decide_eq_true rfl))) hs_jBook
            have z222 : (σ182 9 0).toInt = (σ 9 0).toInt := (congrArg Int32.toInt (show σ182 9 0 = (σ 9 0) from ((congrFun (f184 9 (of_decide_eq_true rfl)) 0).trans (congrFun (f22 9 (of_decide_eq_true rfl)) 0))))
            have z223 : (σ182 55 15).toInt = (σ 55 15).toInt := (congrArg Int32.toInt (show σ182 55 15 = (σ 55 15) from ((congrFun (f184 55 (of_decide_eq_true rfl)) 15).trans (congrFun (f22 55 (of_decide_eq_true rfl)) 15))))
            have z224 : (σ182 16 0).toInt = (σ 16 0).toInt := (congrArg Int32.toInt (show σ182 16 0 = (σ 16 0) from ((congrFun (f184 16 (of_decide_eq_true rfl)) 0).trans (congrFun (f22 16 (of_decide_eq_true rfl)) 0))))
            have z225 : (σ182 55 10).toInt = (σ 55 10).toInt := (congrArg Int32.toInt (show σ182 55 10 = (σ 55 10) from ((congrFun (f184 55 (of_decide_eq_true rfl)) 10).trans (congrFun (f22 55 (of_decide_eq_true rfl)) 10))))
            have z226 : (σ182 16 1).toInt = (σ 16 1).toInt := (congrArg Int32.toInt (show σ182 16 1 = (σ 16 1) from ((congrFun (f184 16 (of_decide_eq_true rfl)) 1).trans (congrFun (f22 16 (of_decide_eq_true rfl)) 1))))
            have z227 : (σ182 55 12).toInt = (σ 55 12).toInt := (congrArg Int32.toInt (show σ182 55 12 = (σ 55 12) from ((congrFun (f184 55 (of_decide_eq_true rfl)) 12).trans (congrFun (f22 55 (of_decide_eq_true rfl)) 12))))
            have z228 : (σ182 16 2).toInt = (σ 16 2).toInt := (congrArg Int32.toInt (show σ182 16 2 = (σ 16 2) from ((congrFun (f184 16 (of_decide_eq_true rfl)) 2).trans (congrFun (f22 16 (of_decide_eq_true rfl)) 2))))
            have z229 : (σ182 55 13).toInt = (σ 55 13).toInt := (congrArg Int32.toInt (show σ182 55 13 = (σ 55 13) from ((congrFun (f184 55 (of_decide_eq_true rfl)) 13).trans (congrFun (f22 55 (of_decide_eq_true rfl)) 13))))
            exact by exact ih x198 σ182 τ _ _ ls (by have h9 := tx198; omega) ⟨I199, I200, I201, I202, I203, I204, I205, I206, I207, I208, I209, I210, I211, I212, I213, I214, I215, I216, I217, I185, I218, I219, p220, p221, (by omega), (by omega), (by omega), (by omega), (show jTp (σ182 10) (σ182 63) (σ182 55 15).toInt by rw [show σ182 10 = σ 10 from ((f184 10 (of_decide_eq_true rfl)).trans (f22 10 (of_decide_eq_true rfl))), show σ182 63 = σ 63 from ((f184 63 (of_decide_eq_true rfl)).trans (f22 63 (of_decide_eq_true rfl)))]; exact hr0.le (by omega)), (show jSo (σ182 17) (σ182 62) (σ182 16 0).toInt by rw [show σ182 17 = σ 17 from ((f184 17 (of_decide_eq_true rfl)).trans (f22 17 (of_decide_eq_true rfl))), show σ182 62 = σ 62 from ((f184 62 (of_decide_eq_true rfl)).trans (f22 62 (of_decide_eq_true rfl))), show (σ182 16 0).toInt = (σ 16 0).toInt from by omega]; exact hr1)⟩ hP hS (lv_sub hl [0, 1, 2, 3] rfl)
        · obtain ⟨q232, k230, k231⟩ := h189
          have q232 := q232.symm
          subst q232
          refine lv_pop hx hb dL_law_1085 rfl ?_
          refine lv_goto (tgt := 1357) hx hb dL_law_1086 (of_decide_eq_true rfl) ?_
          obtain ⟨x233, ex233⟩ : ∃ y : Int32, y = x0 + 6 := ⟨_, rfl⟩
          exact by
           have tx233 : x233.toInt = x0.toInt + 6 := (jadd ex233 rfl jz_6 (by omega) (by omega)).trans (by omega)
           refine lv_iinc (v := x233) (lv' := [(3, .int x233), (2, .ref (ad 55)), (1, .ref (ad 0)), (0, .ref b)]) hx hb dL_law_1357 hl (k := 0) rfl (by rw [ex233]; rfl) (of_decide_eq_true rfl) rfl (fun ls hl => ?_)
           refine lv_goto (tgt := 18) hx hb dL_law_1360 (of_decide_eq_true rfl) ?_
           have I234 : jI2 σ182 := jI2_fr ((congrFun (f184 2 (of_decide_eq_true rfl)) 0).trans (congrFun (f22 2 (of_decide_eq_true rfl)) 0)) ((congrFun (f184 2 (of_decide_eq_true rfl)) 1).trans (congrFun (f22 2 (of_decide_eq_true rfl)) 1)) ((congrFun (f184 2 (of_decide_eq_true rfl)) 2).trans (congrFun (f22 2 (of_decide_eq_true rfl)) 2)) ((congrFun (f184 2 (of_decide_eq_true rfl)) 3).trans (congrFun (f22 2 (of_decide_eq_true rfl)) 3)) ((f184 6 (of_decide_eq_true rfl)).trans (f22 6 (of_decide_eq_true rfl))) hI2
           have I235 : jI9 σ182 := jI9_fr ((congrFun (f184 9 (of_decide_eq_true rfl)) 0).trans (congrFun (f22 9 (of_decide_eq_true rfl)) 0)) ((f184 10 (of_decide_eq_true rfl)).trans (f22 10 (of_decide_eq_true rfl))) ((f184 11 (of_decide_eq_true rfl)).trans (f22 11 (of_decide_eq_true rfl))) hI9
           have I236 : jI12 σ182 := jI12_fr ((congrFun (f184 12 (of_decide_eq_true rfl)) 0).trans (congrFun (f22 12 (of_decide_eq_true rfl)) 0)) ((f184 13 (of_decide_eq_true rfl)).trans (f22 13 (of_decide_eq_true rfl))) hI12
           have I237 : jI16 σ182 := jI16_fr ((congrFun (f184 16 (of_decide_eq_true rfl)) 0).trans (congrFun (f22 16 (of_decide_eq_true rfl)) 0)) ((congrFun (f184 16 (of_decide_eq_true rfl)) 1).trans (congrFun (f22 16 (of_decide_eq_true rfl)) 1)) ((congrFun (f184 16 (of_decide_eq_true rfl)) 2).trans (congrFun (f22 16 (of_decide_eq_true rfl)) 2)) ((f184 17 (of_decide_eq_true rfl)).trans (f22 17 (of_decide_eq_true rfl))) hI16
           have I238 : jI18 σ182 := jI18_fr ((congrFun (f184 18 (of_decide_eq_true rfl)) 0).trans (congrFun (f22 18 (of_decide_eq_true rfl)) 0)) ((f184 19 (of_decide_eq_true rfl)).trans (f22 19 (of_decide_eq_true rfl))) hI18
           have I239 : jI22 σ182 := jI22_fr ((congrFun (f184 22 (of_decide_eq_true rfl)) 0).trans (congrFun (f22 22 (of_decide_eq_true rfl)) 0)) ((f184 23 (of_decide_eq_true rfl)).trans (f22 23 (of_decide_eq_true rfl))) hI22
           exact by
            have I240 : jI31 σ182 := jI31_fr ((congrFun (f184 31 (of_decide_eq_true rfl)) 8).trans (congrFun (f22 31 (of_decide_eq_true rfl)) 8)) ((f184 33 (of_decide_eq_true rfl)).trans (f22 33 (of_decide_eq_true rfl))) ((f184 36 (of_decide_eq_true rfl)).trans (f22 36 (of_decide_eq_true rfl))) hI31
            have I241 : jI38 σ182 := jI38_fr ((congrFun (f184 38 (of_decide_eq_true rfl)) 0).trans (congrFun (f22 38 (of_decide_eq_true rfl)) 0)) ((congrFun (f184 38 (of_decide_eq_true rfl)) 1).trans (congrFun (f22 38 (of_decide_eq_true rfl)) 1)) ((f184 39 (of_decide_eq_true rfl)).trans (f22 39 (of_decide_eq_true rfl))) hI38
            have I242 : jI43 σ182 := jI43_fr ((congrFun (f184 43 (of_decide_eq_true rfl)) 8).trans (congrFun (f22 43 (of_decide_eq_true rfl)) 8)) hI43
            have I243 : jI47 σ182 := jI47_fr ((congrFun (f184 47 (of_decide_eq_true rfl)) 0).trans (congrFun (f22 47 (of_decide_eq_true rfl)) 0)) ((f184 48 (of_decide_eq_true rfl)).trans (f22 48 (of_decide_eq_true rfl))) ((f184 49 (of_decide_eq_true rfl)).trans (f22 49 (of_decide_eq_true rfl))) hI47
            have I244 : jI50 σ182 := jI50_fr (f184 52 (of_decide_eq_true rfl)) I23
            have I245 : jI101 σ182 := jI101_fr ((congrFun (f184 55 (of_decide_eq_true rfl)) 4).trans (congrFun (f22 55 (of_decide_eq_true rfl)) 4)) ((congrFun (f184 55 (of_decide_eq_true rfl)) 5).trans (congrFun (f22 55 (of_decide_eq_true rfl)) 5)) ((f184 56 (of_decide_eq_true rfl)).trans (f22 56 (of_decide_eq_true rfl))) ((f184 57 (of_decide_eq_true rfl)).trans (f22 57 (of_decide_eq_true rfl))) ((f184 58 (of_decide_eq_true rfl)).trans (f22 58 (of_decide_eq_true rfl))) ((f184 59 (of_decide_eq_true rfl)).trans (f22 59 (of_decide_eq_true rfl))) hI101
            have I246 : jI102 σ182 := jI102_fr ((congrFun (f184 55 (of_decide_eq_true rfl)) 6).trans (congrFun (f22 55 (of_decide_eq_true rfl)) 6)) ((f184 60 (of_decide_eq_true rfl)).trans (f22 60 (of_decide_eq_true rfl))) ((f184 61 (of_decide_eq_true rfl)).trans (f22 61 (of_decide_eq_true rfl))) hI102
            have I247 : jI103 σ182 := jI103_fr ((congrFun (f184 55 (of_decide_eq_true rfl)) 9).trans (congrFun (f22 55 (of_decide_eq_true rfl)) 9)) hI103
            have I248 : jI104 σ182 := jI104_fr ((congrFun (f184 55 (of_decide_eq_true rfl)) 10).trans (congrFun (f22 55 (of_decide_eq_true rfl)) 10)) ((congrFun (f184 55 (of_decide_eq_true rfl)) 12).trans (congrFun (f22 55 (of_decide_eq_true rfl)) 12)) ((congrFun (f184 55 (of_decide_eq_true rfl)) 13).trans (congrFun (f22 55 (of_decide_eq_true rfl)) 13)) ((f184 62 (of_decide_eq_true rfl)).trans (f22 62 (of_decide_eq_true rfl))) ((f184 67 (of_decide_eq_true rfl)).trans (f22 67 (of_decide_eq_true rfl))) hI104
            have I249 : jI105 σ182 := jI105_fr ((congrFun (f184 55 (of_decide_eq_true rfl)) 15).trans (congrFun (f22 55 (of_decide_eq_true rfl)) 15)) ((f184 65 (of_decide_eq_true rfl)).trans (f22 65 (of_decide_eq_true rfl))) hI105
            have I250 : jI106 σ182 := jI106_fr (congrFun (f184 55 (of_decide_eq_true rfl)) 32) (f184 70 (of_decide_eq_true rfl)) (f184 71 (of_decide_eq_true rfl)) (f184 72 (of_decide_eq_true rfl)) I179
            have I251 : jI107 σ182 := jI107_fr ((congrFun (f184 55 (of_decide_eq_true rfl)) 12).trans (congrFun (f22 55 (of_decide_eq_true rfl)) 12)) ((congrFun (f184 55 (of_decide_eq_true rfl)) 47).trans (congrFun (f22 55 (of_decide_eq_true rfl)) 47)) ((f184 80 (of_decide_eq_true rfl)).trans (f22 80 (of_decide_eq_true rfl))) hI107
            have I252 : jI109 σ182 := jI109_fr ((congrFun (f184 55 (of_decide_eq_true rfl)) 50).trans (congrFun (f22 55 (of_decide_eq_true rfl)) 50)) hI109
            have I253 : jI111 σ182 := jI111_fr ((f184 79 (of_decide_eq_true rfl)).trans (f22 79 (of_decide_eq_true rfl))) hI111
            have I254 : jI119 σ182 := jI119_fr ((f184 68 (of_decide_eq_true rfl)).trans (f22 68 (of_decide_eq_true rfl))) hI119
            have p255 : jKept σ182 := jKept.fr ((f184 75 (of_decide_eq_true rfl)).trans (f22 75 (of_decide_eq_true rfl))) ((f184 76 (of_decide_eq_true rfl)).trans (f22 76 (of_decide_eq_true rfl))) ((f184 77 (of_decide_eq_true rfl)).trans (f22 77 (of_decide_eq_true rfl))) hs_jKept
            have p256 : jBook σ182 := jBook.fr ((congrFun (f184 55 (of_decide_eq_true rfl)) 47).trans (congrFun (f22 55 (of_decide_eq_true rfl)) 47)) ((congrFun (f184 55 (of_decide_eq_true rfl)) 10).trans (congrFun (f22 55 (of_decide_eq_true rfl)) 10)) ((f184 81 (of_decide_eq_true rfl)).trans (f22 81 (of_decide_eq_true rfl))) hs_jBook
            have z257 : (σ182 9 0).toInt = (σ 9 0).toInt := (congrArg Int32.toInt (show σ182 9 0 = (σ 9 0) from ((congrFun (f184 9 (of_decide_eq_true rfl)) 0).trans (congrFun (f22 9 (of_decide_eq_true rfl)) 0))))
            have z258 : (σ182 55 15).toInt = (σ 55 15).toInt := (congrArg Int32.toInt (show σ182 55 15 = (σ 55 15) from ((congrFun (f184 55 (of_decide_eq_true rfl)) 15).trans (congrFun (f22 55 (of_decide_eq_true rfl)) 15))))
            have z259 : (σ182 16 0).toInt = (σ 16 0).toInt := (congrArg Int32.toInt (show σ182 16 0 = (σ 16 0) from ((congrFun (f184 16 (of_decide_eq_true rfl)) 0).trans (congrFun (f22 16 (of_decide_eq_true rfl)) 0))))
            have z260 : (σ182 55 10).toInt = (σ 55 10).toInt := (congrArg Int32.toInt (show σ182 55 10 = (σ 55 10) from ((congrFun (f184 55 (of_decide_eq_true rfl)) 10).trans (congrFun (f22 55 (of_decide_eq_true rfl)) 10))))
            have z261 : (σ182 16 1).toInt = (σ 16 1).toInt := (congrArg Int32.toInt (show σ182 16 1 = (σ 16 1) from ((congrFun (f184 16 (of_decide_eq_true rfl)) 1).trans (congrFun (f22 16 (of_decide_eq_true rfl)) 1))))
            have z262 : (σ182 55 12).toInt = (σ 55 12).toInt := (congrArg Int32.toInt (show σ182 55 12 = (σ 55 12) from ((congrFun (f184 55 (of_decide_eq_true rfl)) 12).trans (congrFun (f22 55 (of_decide_eq_true rfl)) 12))))
            have z263 : (σ182 16 2).toInt = (σ 16 2).toInt := (congrArg Int32.toInt (show σ182 16 2 = (σ 16 2) from ((congrFun (f184 16 (of_decide_eq_true rfl)) 2).trans (congrFun (f22 16 (of_decide_eq_true rfl)) 2))))
            have z264 : (σ182 55 13).toInt = (σ 55 13).toInt := (congrArg Int32.toInt (show σ182 55 13 = (σ 55 13) from ((congrFun (f184 55 (of_decide_eq_true rfl)) 13).trans (congrFun (f22 55 (of_decide_eq_true rfl)) 13))))
            exact by exact ih x233 σ182 τ _ _ ls (by have h9 := tx233; omega) ⟨I234, I235, I236, I237, I238, I239, I240, I241, I242, I243, I244, I245, I246, I247, I248, I249, I250, I251, I252, I185, I253, I254, p255, p256, (by omega), (by omega), (by omega), (by omega), (show jTp (σ182 10) (σ182 63) (σ182 55 15).toInt by rw [show σ182 10 = σ 10 from ((f184 10 (of_decide_eq_true rfl)).trans (f22 10 (of_decide_eq_true rfl))), show σ182 63 = σ 63 from ((f184 63 (of_decide_eq_true rfl)).trans (f22 63 (of_decide_eq_true rfl)))]; exact hr0.le (by omega)), (show jSo (σ182 17) (σ182 62) (σ182 16 0).toInt by rw [show σ182 17 = σ 17 from ((f184 17 (of_decide_eq_true rfl)).trans (f22 17 (of_decide_eq_true rfl))), show σ182 62 = σ 62 from ((f184 62 (of_decide_eq_true rfl)).trans (f22 62 (of_decide_eq_true rfl))), show (σ182 16 0).toInt = (σ 16 0).toInt from by omega]; exact hr1)⟩ hP hS (lv_sub hl [0, 1, 2, 3] rfl)
set_option maxHeartbeats 4000000 in
set_option maxRecDepth 100000 in
theorem law_case_31 {p : Program} {e : Env} {s : State} {m : MethodId} {below : List Frame} {meth : Method} {c : Code} (l : Launch) {b L : Nat} {xs : Nat → Int32} {D : va_G} {cI cL : ClassId} {ad zz : Nat → Nat} (C0 : lw_At p s m meth c b L xs) (hJ : jD ad) (hA : ∀ q, jA ad q → s.heap.size ≤ q) (hK : jK D cI cL s) (hZ : jZ zz (fun q : Nat => s.heap.size ≤ q) s s.heap) {x0 : Int32} (hx0 : 0 ≤ x0.toInt) (hxL : x0.toInt + 6 ≤ (L : Int)) (hL : L ≤ 384) {σ : Nat → Nat → Int32} {τ : Nat → Nat → Int64} {H : Heap} {locs : List Loc} (hS : va_S (fun q : Nat => s.heap.size ≤ q) s.heap H locs) {ls : Array Slot} (hAll : jAll σ τ) (hP : jH D cI cL ad σ τ H) (hl : lv_has ls 4 [(3, .int x0), (2, .ref (ad 55)), (1, .ref (ad 0)), (0, .ref b)]) (ih : ∀ (x1 : Int32) (σ : Nat → Nat → Int32) (τ : Nat → Nat → Int64) (H : Heap) (locs : List Loc) (ls : Array Slot), x1.toInt = x0.toInt + 6 → jAll σ τ → jH D cI cL ad σ τ H → va_S (fun q : Nat => s.heap.size ≤ q) s.heap H locs → lv_has ls 4 [(3, .int x1), (2, .ref (ad 55)), (1, .ref (ad 0)), (0, .ref b)] → W p l e room_1 s m #[Value.ref b] below meth c H locs 90 348600 (lw_Z below #[Value.ref b] s) (F0 m 18 ls [])) : W p l e room_1 s m #[Value.ref b] below meth c H locs 90 348600 (lw_Z below #[Value.ref b] s) (F0 m 1089 ls []) := by
  obtain ⟨hx, hb, hr, hml, hown, hts0, hX, hbl, hlocks, hgv⟩ := C0
  have hts : ∀ w ∈ wsL_law, w.before #[Value.ref b] s = true := fun w h => hts0 w (wsL_law_in w h)
  have hbA : ¬ (fun q : Nat => s.heap.size ≤ q) b := Nat.not_le.mpr hbl
  have hown : s.vm.findClass RL = some m.cls := hown
  obtain ⟨hI2, hI9, hI12, hI16, hI18, hI22, hI31, hI38, hI43, hI47, hI50, hI101, hI102, hI103, hI104, hI105, hI106, hI107, hI109, hI110, hI111, hI119, hs_jKept, hs_jBook, ht0, ht1, ht2, ht3, hr0, hr1⟩ := hAll
  have hL9 : (L : Int) ≤ 384 := by omega
  obtain ⟨i1, w2, w3⟩ : (0 ≤ (σ 9 0).toInt ∧ (σ 9 0).toInt ≤ 80) ∧ (∀ k : Nat, k < 80 → 0 ≤ (σ 10 k).toInt ∧ (σ 10 k).toInt ≤ 255) ∧ (∀ k : Nat, k < 8 → 0 ≤ (σ 11 k).toInt ∧ (σ 11 k).toInt ≤ 3) := id hI9
  obtain ⟨i4, i5, i6, w7⟩ : (1 ≤ (σ 16 0).toInt ∧ (σ 16 0).toInt ≤ 8) ∧ (1 ≤ (σ 16 1).toInt ∧ (σ 16 1).toInt ≤ 12) ∧ (0 ≤ (σ 16 2).toInt ∧ (σ 16 2).toInt ≤ 999) ∧ (∀ k : Nat, k < 8 → 0 ≤ (σ 17 k).toInt ∧ (σ 17 k).toInt ≤ 3) := id hI16
  obtain ⟨i8, i9, i10, w11, w12⟩ : (1 ≤ (σ 55 10).toInt ∧ (σ 55 10).toInt ≤ 8) ∧ (1 ≤ (σ 55 12).toInt ∧ (σ 55 12).toInt ≤ 12) ∧ (0 ≤ (σ 55 13).toInt ∧ (σ 55 13).toInt ≤ 999) ∧ (∀ k : Nat, k < 8 → 0 ≤ (σ 62 k).toInt ∧ (σ 62 k).toInt ≤ 3) ∧ (∀ k : Nat, k < 8 → 0 ≤ (σ 67 k).toInt ∧ (σ 67 k).toInt ≤ 3) := id hI104
  obtain ⟨i13, w14⟩ : (0 ≤ (σ 55 15).toInt ∧ (σ 55 15).toInt ≤ 80) ∧ (∀ k : Nat, k < 2 → (-1) ≤ (σ 65 k).toInt ∧ (σ 65 k).toInt ≤ 80) := id hI105
  refine lv_aload_n hx hb dL_law_1089 rfl (lv_at hl 2 rfl) ?_
  refine lv_aload_n hx hb dL_law_1090 rfl (lv_at hl 3 rfl) ?_
  refine lv_iload_n hx hb dL_law_1091 rfl (lv_at hl 0 rfl) ?_
  refine lv_iconst (v := 1) hx hb dL_law_1092 (of_decide_eq_true rfl) ?_
  have g15 := jrg (rfl : x0.toInt = x0.toInt)
  refine lv_iadd hx hb dL_law_1093 ?_
  refine lv_topi (fun x16 ex16 => ?_)
  exact by
   have tx16 : x16.toInt = x0.toInt + 1 := (jadd ex16 rfl jz_1 (by omega) (by omega)).trans (by omega)
   refine va_sld hx hb hX hbl hbA hS (jin tx16 (by omega) (by omega)) dL_law_1094 ?_
   have g17 := jrg (rfl : (xs x16.toNatClampNeg).toInt = (xs x16.toNatClampNeg).toInt)
   refine lv_aload_n hx hb dL_law_1095 rfl (lv_at hl 3 rfl) ?_
   refine lv_iload_n hx hb dL_law_1096 rfl (lv_at hl 0 rfl) ?_
   refine lv_iconst (v := 2) hx hb dL_law_1097 (of_decide_eq_true rfl) ?_
   refine lv_iadd hx hb dL_law_1098 ?_
   refine lv_topi (fun x18 ex18 => ?_)
   have tx18 : x18.toInt = x0.toInt + 2 := (jadd ex18 rfl jz_2 (by omega) (by omega)).trans (by omega)
   exact by
    refine va_sld hx hb hX hbl hbA hS (jin tx18 (by omega) (by omega)) dL_law_1099 ?_
    have g19 := jrg (rfl : (xs x18.toNatClampNeg).toInt = (xs x18.toNatClampNeg).toInt)
    refine lv_aload_n hx hb dL_law_1100 rfl (lv_at hl 3 rfl) ?_
    refine lv_iload_n hx hb dL_law_1101 rfl (lv_at hl 0 rfl) ?_
    refine lv_iconst (v := 3) hx hb dL_law_1102 (of_decide_eq_true rfl) ?_
    refine lv_iadd hx hb dL_law_1103 ?_
    refine lv_topi (fun x20 ex20 => ?_)
    have tx20 : x20.toInt = x0.toInt + 3 := (jadd ex20 rfl jz_3 (by omega) (by omega)).trans (by omega)
    refine va_sld hx hb hX hbl hbA hS (jin tx20 (by omega) (by omega)) dL_law_1104 ?_
    exact by
     have g21 := jrg (rfl : (xs x20.toNatClampNeg).toInt = (xs x20.toNatClampNeg).toInt)
     refine jcallV (As := [.int (xs x16.toNatClampNeg), .int (xs x18.toNatClampNeg), .int (xs x20.toNatClampNeg)]) (rest := []) ⟨hx, hb, hml, hown, hts⟩ hK hP hA hS hZ (c_X11_row l D cI cL ad zz hJ σ τ (xs x16.toNatClampNeg) ((xs x16.toNatClampNeg).toInt) rfl (xs x18.toNatClampNeg) ((xs x18.toNatClampNeg).toInt) rfl (xs x20.toNatClampNeg) ((xs x20.toNatClampNeg).toInt) rfl hI50) cw_RL_141 (jc_0 cI cL ad σ τ) rfl ⟨Nat.le_of_ble_eq_true rfl, Nat.le_of_ble_eq_true rfl⟩ rfl rfl rfl hl.1 rfl (Nat.le_of_ble_eq_true rfl) dL_law_1105 ⟨Nat.le_of_ble_eq_true rfl, Nat.le_of_ble_eq_true rfl⟩ (fun r23 σ22 τ22 H locs h22 hP hS => ?_)
     obtain ⟨f26, f24, I25, h22⟩ := h22
     rcases h22 with h27 | h28 | h29
     · obtain ⟨q33, k30, k31, k32⟩ := h27
       have q33 := q33.symm
       subst q33
       refine lv_pop hx hb dL_law_1108 rfl ?_
       refine lv_aload_n hx hb dL_law_1109 rfl (lv_at hl 1 rfl) ?_
       refine lv_aload_n hx hb dL_law_1110 rfl (lv_at hl 3 rfl) ?_
       refine lv_iload_n hx hb dL_law_1111 rfl (lv_at hl 0 rfl) ?_
       refine lv_iconst (v := 1) hx hb dL_law_1112 (of_decide_eq_true rfl) ?_
       refine lv_iadd hx hb dL_law_1113 ?_
       refine jtopr ex16.symm ?_
       exact by
        refine va_sld hx hb hX hbl hbA hS (jin tx16 (by omega) (by omega)) dL_law_1114 ?_
        refine lv_aload_n hx hb dL_law_1115 rfl (lv_at hl 3 rfl) ?_
        refine lv_iload_n hx hb dL_law_1116 rfl (lv_at hl 0 rfl) ?_
        refine lv_iconst (v := 2) hx hb dL_law_1117 (of_decide_eq_true rfl) ?_
        refine lv_iadd hx hb dL_law_1118 ?_
        refine jtopr ex18.symm ?_
        refine va_sld hx hb hX hbl hbA hS (jin tx18 (by omega) (by omega)) dL_law_1119 ?_
        refine lv_aload_n hx hb dL_law_1120 rfl (lv_at hl 3 rfl) ?_
        refine lv_iload_n hx hb dL_law_1121 rfl (lv_at hl 0 rfl) ?_
        exact by
         refine lv_iconst (v := 3) hx hb dL_law_1122 (of_decide_eq_true rfl) ?_
         refine lv_iadd hx hb dL_law_1123 ?_
         refine jtopr ex20.symm ?_
         refine va_sld hx hb hX hbl hbA hS (jin tx20 (by omega) (by omega)) dL_law_1124 ?_
         have I34 : jI110 σ22 := jI110_fr (f24 86 (of_decide_eq_true rfl)) (f24 87 (of_decide_eq_true rfl)) hI110
         refine jcallV (As := [.int (xs x16.toNatClampNeg), .int (xs x18.toNatClampNeg), .int (xs x20.toNatClampNeg)]) (rest := []) ⟨hx, hb, hml, hown, hts⟩ hK hP hA hS hZ (c_X12_row l D cI cL ad zz hJ σ22 τ22 (xs x16.toNatClampNeg) ((xs x16.toNatClampNeg).toInt) rfl (xs x18.toNatClampNeg) ((xs x18.toNatClampNeg).toInt) rfl (xs x20.toNatClampNeg) ((xs x20.toNatClampNeg).toInt) rfl I34) cw_RL_144 (jc_55 cI cL ad σ22 τ22) rfl ⟨Nat.le_of_ble_eq_true rfl, Nat.le_of_ble_eq_true rfl⟩ rfl rfl rfl hl.1 rfl (Nat.le_of_ble_eq_true rfl) dL_law_1125 ⟨Nat.le_of_ble_eq_true rfl, Nat.le_of_ble_eq_true rfl⟩ (fun r36 σ35 τ35 H locs h35 hP hS => ?_)
         obtain ⟨f39, f37, I38, h35⟩ := h35
         rcases h35 with h40 | h41 | h42
         · obtain ⟨q46, k43, k44, k45⟩ := h40
           exact by
            have q46 := q46.symm
            subst q46
            refine lv_pop hx hb dL_law_1128 rfl ?_
            refine lv_goto (tgt := 1357) hx hb dL_law_1129 (of_decide_eq_true rfl) ?_
            obtain ⟨x47, ex47⟩ : ∃ y : Int32, y = x0 + 6 := ⟨_, rfl⟩
            have tx47 : x47.toInt = x0.toInt + 6 := (jadd ex47 rfl jz_6 (by omega) (by omega)).trans (by omega)
            refine lv_iinc (v := x47) (lv' := [(3, .int x47), (2, .ref (ad 55)), (1, .ref (ad 0)), (0, .ref b)]) hx hb dL_law_1357 hl (k := 0) rfl (by rw [ex47]; rfl) (of_decide_eq_true rfl) rfl (fun ls hl => ?_)
            refine lv_goto (tgt := 18) hx hb dL_law_1360 (of_decide_eq_true rfl) ?_
            have I48 : jI2 σ35 := jI2_fr ((congrFun (f37 2 (of_decide_eq_true rfl)) 0).trans (congrFun (f24 2 (of_decide_eq_true rfl)) 0)) ((congrFun (f37 2 (of_decide_eq_true rfl)) 1).trans (congrFun (f24 2 (of_decide_eq_true rfl)) 1)) ((congrFun (f37 2 (of_decide_eq_true rfl)) 2).trans (congrFun (f24 2 (of_decide_eq_true rfl)) 2)) ((congrFun (f37 2 (of_decide_eq_true rfl)) 3).trans (congrFun (f24 2 (of_decide_eq_true rfl)) 3)) ((f37 6 (of_decide_eq_true rfl)).trans (f24 6 (of_decide_eq_true rfl))) hI2
            exact by
             have I49 : jI9 σ35 := jI9_fr ((congrFun (f37 9 (of_decide_eq_true rfl)) 0).trans (congrFun (f24 9 (of_decide_eq_true rfl)) 0)) ((f37 10 (of_decide_eq_true rfl)).trans (f24 10 (of_decide_eq_true rfl))) ((f37 11 (of_decide_eq_true rfl)).trans (f24 11 (of_decide_eq_true rfl))) hI9
             have I50 : jI12 σ35 := jI12_fr ((congrFun (f37 12 (of_decide_eq_true rfl)) 0).trans (congrFun (f24 12 (of_decide_eq_true rfl)) 0)) ((f37 13 (of_decide_eq_true rfl)).trans (f24 13 (of_decide_eq_true rfl))) hI12
             have I51 : jI16 σ35 := jI16_fr ((congrFun (f37 16 (of_decide_eq_true rfl)) 0).trans (congrFun (f24 16 (of_decide_eq_true rfl)) 0)) ((congrFun (f37 16 (of_decide_eq_true rfl)) 1).trans (congrFun (f24 16 (of_decide_eq_true rfl)) 1)) ((congrFun (f37 16 (of_decide_eq_true rfl)) 2).trans (congrFun (f24 16 (of_decide_eq_true rfl)) 2)) ((f37 17 (of_decide_eq_true rfl)).trans (f24 17 (of_decide_eq_true rfl))) hI16
             have I52 : jI18 σ35 := jI18_fr ((congrFun (f37 18 (of_decide_eq_true rfl)) 0).trans (congrFun (f24 18 (of_decide_eq_true rfl)) 0)) ((f37 19 (of_decide_eq_true rfl)).trans (f24 19 (of_decide_eq_true rfl))) hI18
             have I53 : jI22 σ35 := jI22_fr ((congrFun (f37 22 (of_decide_eq_true rfl)) 0).trans (congrFun (f24 22 (of_decide_eq_true rfl)) 0)) ((f37 23 (of_decide_eq_true rfl)).trans (f24 23 (of_decide_eq_true rfl))) hI22
             have I54 : jI31 σ35 := jI31_fr ((congrFun (f37 31 (of_decide_eq_true rfl)) 8).trans (congrFun (f24 31 (of_decide_eq_true rfl)) 8)) ((f37 33 (of_decide_eq_true rfl)).trans (f24 33 (of_decide_eq_true rfl))) ((f37 36 (of_decide_eq_true rfl)).trans (f24 36 (of_decide_eq_true rfl))) hI31
             have I55 : jI38 σ35 := jI38_fr ((congrFun (f37 38 (of_decide_eq_true rfl)) 0).trans (congrFun (f24 38 (of_decide_eq_true rfl)) 0)) ((congrFun (f37 38 (of_decide_eq_true rfl)) 1).trans (congrFun (f24 38 (of_decide_eq_true rfl)) 1)) ((f37 39 (of_decide_eq_true rfl)).trans (f24 39 (of_decide_eq_true rfl))) hI38
             have I56 : jI43 σ35 := jI43_fr ((congrFun (f37 43 (of_decide_eq_true rfl)) 8).trans (congrFun (f24 43 (of_decide_eq_true rfl)) 8)) hI43
             have I57 : jI47 σ35 := jI47_fr ((congrFun (f37 47 (of_decide_eq_true rfl)) 0).trans (congrFun (f24 47 (of_decide_eq_true rfl)) 0)) ((f37 48 (of_decide_eq_true rfl)).trans (f24 48 (of_decide_eq_true rfl))) ((f37 49 (of_decide_eq_true rfl)).trans (f24 49 (of_decide_eq_true rfl))) hI47
             have I58 : jI50 σ35 := jI50_fr (f37 52 (of_decide_eq_true rfl)) I25
             have I59 : jI101 σ35 := jI101_fr ((congrFun (f37 55 (of_decide_eq_true rfl)) 4).trans (congrFun (f24 55 (of_decide_eq_true rfl)) 4)) ((congrFun (f37 55 (of_decide_eq_true rfl)) 5).trans (congrFun (f24 55 (of_decide_eq_true rfl)) 5)) ((f37 56 (of_decide_eq_true rfl)).trans (f24 56 (of_decide_eq_true rfl))) ((f37 57 (of_decide_eq_true rfl)).trans (f24 57 (of_decide_eq_true rfl))) ((f37 58 (of_decide_eq_true rfl)).trans (f24 58 (of_decide_eq_true rfl))) ((f37 59 (of_decide_eq_true rfl)).trans (f24 59 (of_decide_eq_true rfl))) hI101
             have I60 : jI102 σ35 := jI102_fr ((congrFun (f37 55 (of_decide_eq_true rfl)) 6).trans (congrFun (f24 55 (of_decide_eq_true rfl)) 6)) ((f37 60 (of_decide_eq_true rfl)).trans (f24 60 (of_decide_eq_true rfl))) ((f37 61 (of_decide_eq_true rfl)).trans (f24 61 (of_decide_eq_true rfl))) hI102
             have I61 : jI103 σ35 := jI103_fr ((congrFun (f37 55 (of_decide_eq_true rfl)) 9).trans (congrFun (f24 55 (of_decide_eq_true rfl)) 9)) hI103
             have I62 : jI104 σ35 := jI104_fr ((congrFun (f37 55 (of_decide_eq_true rfl)) 10).trans (congrFun (f24 55 (of_decide_eq_true rfl)) 10)) ((congrFun (f37 55 (of_decide_eq_true rfl)) 12).trans (congrFun (f24 55 (of_decide_eq_true rfl)) 12)) ((congrFun (f37 55 (of_decide_eq_true rfl)) 13).trans (congrFun (f24 55 (of_decide_eq_true rfl)) 13)) ((f37 62 (of_decide_eq_true rfl)).trans (f24 62 (of_decide_eq_true rfl))) ((f37 67 (of_decide_eq_true rfl)).trans (f24 67 (of_decide_eq_true rfl))) hI104
             have I63 : jI105 σ35 := jI105_fr ((congrFun (f37 55 (of_decide_eq_true rfl)) 15).trans (congrFun (f24 55 (of_decide_eq_true rfl)) 15)) ((f37 65 (of_decide_eq_true rfl)).trans (f24 65 (of_decide_eq_true rfl))) hI105
             have I64 : jI106 σ35 := jI106_fr ((congrFun (f37 55 (of_decide_eq_true rfl)) 32).trans (congrFun (f24 55 (of_decide_eq_true rfl)) 32)) ((f37 70 (of_decide_eq_true rfl)).trans (f24 70 (of_decide_eq_true rfl))) ((f37 71 (of_decide_eq_true rfl)).trans (f24 71 (of_decide_eq_true rfl))) ((f37 72 (of_decide_eq_true rfl)).trans (f24 72 (of_decide_eq_true rfl))) hI106
             have I65 : jI107 σ35 := jI107_fr ((congrFun (f37 55 (of_decide_eq_true rfl)) 12).trans (congrFun (f24 55 (of_decide_eq_true rfl)) 12)) ((congrFun (f37 55 (of_decide_eq_true rfl)) 47).trans (congrFun (f24 55 (of_decide_eq_true rfl)) 47)) ((f37 80 (of_decide_eq_true rfl)).trans (f24 80 (of_decide_eq_true rfl))) hI107
             have I66 : jI109 σ35 := jI109_fr ((congrFun (f37 55 (of_decide_eq_true rfl)) 50).trans (congrFun (f24 55 (of_decide_eq_true rfl)) 50)) hI109
             have I67 : jI111 σ35 := jI111_fr ((f37 79 (of_decide_eq_true rfl)).trans (f24 79 (of_decide_eq_true rfl))) hI111
             have I68 : jI119 σ35 := jI119_fr ((f37 68 (of_decide_eq_true rfl)).trans (f24 68 (of_decide_eq_true rfl))) hI119
             have p69 : jKept σ35 := jKept.fr ((f37 75 (of_decide_eq_true rfl)).trans (f24 75 (of_decide_eq_true rfl))) ((f37 76 (of_decide_eq_true rfl)).trans (f24 76 (of_decide_eq_true rfl))) ((f37 77 (of_decide_eq_true rfl)).trans (f24 77 (of_decide_eq_true rfl))) hs_jKept
             have p70 : jBook σ35 := jBook.fr ((congrFun (f37 55 (of_decide_eq_true rfl)) 47).trans (congrFun (f24 55 (of_decide_eq_true rfl)) 47)) ((congrFun (f37 55 (of_decide_eq_true rfl)) 10).trans (congrFun (f24 55 (of_decide_eq_true rfl)) 10)) ((f37 81 (of_decide_eq_true rfl)).trans (f24 81 (of_decide_eq_true rfl))) hs_jBook
             have z71 : (σ35 9 0).toInt = (σ 9 0).toInt := (congrArg Int32.toInt (show σ35 9 0 = (σ 9 0) from ((congrFun (f37 9 (of_decide_eq_true rfl)) 0).trans (congrFun (f24 9 (of_decide_eq_true rfl)) 0))))
             have z72 : (σ35 55 15).toInt = (σ 55 15).toInt := (congrArg Int32.toInt (show σ35 55 15 = (σ 55 15) from ((congrFun (f37 55 (of_decide_eq_true rfl)) 15).trans (congrFun (f24 55 (of_decide_eq_true rfl)) 15))))
             have z73 : (σ35 16 0).toInt = (σ 16 0).toInt := (congrArg Int32.toInt (show σ35 16 0 = (σ 16 0) from ((congrFun (f37 16 (of_decide_eq_true rfl)) 0).trans (congrFun (f24 16 (of_decide_eq_true rfl)) 0))))
             have z74 : (σ35 55 10).toInt = (σ 55 10).toInt := (congrArg Int32.toInt (show σ35 55 10 = (σ 55 10) from ((congrFun (f37 55 (of_decide_eq_true rfl)) 10).trans (congrFun (f24 55 (of_decide_eq_true rfl)) 10))))
             have z75 : (σ35 16 1).toInt = (σ 16 1).toInt := (congrArg Int32.toInt (show σ35 16 1 = (σ 16 1) from ((congrFun (f37 16 (of_decide_eq_true rfl)) 1).trans (congrFun (f24 16 (of_decide_eq_true rfl)) 1))))
             have z76 : (σ35 55 12).toInt = (σ 55 12).toInt := (congrArg Int32.toInt (show σ35 55 12 = (σ 55 12) from ((congrFun (f37 55 (of_decide_eq_true rfl)) 12).trans (congrFun (f24 55 (of_decide_eq_true rfl)) 12))))
             have z77 : (σ35 16 2).toInt = (σ 16 2).toInt := (congrArg Int32.toInt (show σ35 16 2 = (σ 16 2) from ((congrFun (f37 16 (of_decide_eq_true rfl)) 2).trans (congrFun (f24 16 (of_decide_eq_true rfl)) 2))))
             have z78 : (σ35 55 13).toInt = (σ 55 13).toInt := (congrArg Int32.toInt (show σ35 55 13 = (σ 55 13) from ((congrFun (f37 55 (of_decide_eq_true rfl)) 13).trans (congrFun (f24 55 (of_decide_eq_true rfl)) 13))))
             exact by exact ih x47 σ35 τ35 _ _ ls (by have h9 := tx47; omega) ⟨I48, I49, I50, I51, I52, I53, I54, I55, I56, I57, I58, I59, I60, I61, I62, I63, I64, I65, I66, I38, I67, I68, p69, p70, (by omega), (by omega), (by omega), (by omega), (show jTp (σ35 10) (σ35 63) (σ35 55 15).toInt by rw [show σ35 10 = σ 10 from ((f37 10 (of_decide_eq_true rfl)).trans (f24 10 (of_decide_eq_true rfl))), show σ35 63 = σ 63 from ((f37 63 (of_decide_eq_true rfl)).trans (f24 63 (of_decide_eq_true rfl)))]; exact hr0.le (by omega)), (show jSo (σ35 17) (σ35 62) (σ35 16 0).toInt by rw [show σ35 17 = σ 17 from ((f37 17 (of_decide_eq_true rfl)).trans (f24 17 (of_decide_eq_true rfl))), show σ35 62 = σ 62 from ((f37 62 (of_decide_eq_true rfl)).trans (f24 62 (of_decide_eq_true rfl))), show (σ35 16 0).toInt = (σ 16 0).toInt from by omega]; exact hr1)⟩ hP hS (lv_sub hl [0, 1, 2, 3] rfl)
         · obtain ⟨q84, k79, k80, k81, k82, k83⟩ := h41
           exact absurd (by omega : False) id
         · obtain ⟨q90, k85, k86, k87, k88, k89⟩ := h42
           exact absurd (by omega : False) id
     · obtain ⟨q96, k91, k92, k93, k94, k95⟩ := h28
       have q96 := q96.symm
       subst q96
       refine lv_pop hx hb dL_law_1108 rfl ?_
       refine lv_aload_n hx hb dL_law_1109 rfl (lv_at hl 1 rfl) ?_
       refine lv_aload_n hx hb dL_law_1110 rfl (lv_at hl 3 rfl) ?_
       refine lv_iload_n hx hb dL_law_1111 rfl (lv_at hl 0 rfl) ?_
       refine lv_iconst (v := 1) hx hb dL_law_1112 (of_decide_eq_true rfl) ?_
       refine lv_iadd hx hb dL_law_1113 ?_
       refine jtopr ex16.symm ?_
       exact by
        refine va_sld hx hb hX hbl hbA hS (jin tx16 (by omega) (by omega)) dL_law_1114 ?_
        refine lv_aload_n hx hb dL_law_1115 rfl (lv_at hl 3 rfl) ?_
        refine lv_iload_n hx hb dL_law_1116 rfl (lv_at hl 0 rfl) ?_
        refine lv_iconst (v := 2) hx hb dL_law_1117 (of_decide_eq_true rfl) ?_
        refine lv_iadd hx hb dL_law_1118 ?_
        refine jtopr ex18.symm ?_
        refine va_sld hx hb hX hbl hbA hS (jin tx18 (by omega) (by omega)) dL_law_1119 ?_
        refine lv_aload_n hx hb dL_law_1120 rfl (lv_at hl 3 rfl) ?_
        refine lv_iload_n hx hb dL_law_1121 rfl (lv_at hl 0 rfl) ?_
        exact by
         refine lv_iconst (v := 3) hx hb dL_law_1122 (of_decide_eq_true rfl) ?_
         refine lv_iadd hx hb dL_law_1123 ?_
         refine jtopr ex20.symm ?_
         refine va_sld hx hb hX hbl hbA hS (jin tx20 (by omega) (by omega)) dL_law_1124 ?_
         have I97 : jI110 σ22 := jI110_fr (f24 86 (of_decide_eq_true rfl)) (f24 87 (of_decide_eq_true rfl)) hI110
         refine jcallV (As := [.int (xs x16.toNatClampNeg), .int (xs x18.toNatClampNeg), .int (xs x20.toNatClampNeg)]) (rest := []) ⟨hx, hb, hml, hown, hts⟩ hK hP hA hS hZ (c_X12_row l D cI cL ad zz hJ σ22 τ22 (xs x16.toNatClampNeg) ((xs x16.toNatClampNeg).toInt) rfl (xs x18.toNatClampNeg) ((xs x18.toNatClampNeg).toInt) rfl (xs x20.toNatClampNeg) ((xs x20.toNatClampNeg).toInt) rfl I97) cw_RL_144 (jc_55 cI cL ad σ22 τ22) rfl ⟨Nat.le_of_ble_eq_true rfl, Nat.le_of_ble_eq_true rfl⟩ rfl rfl rfl hl.1 rfl (Nat.le_of_ble_eq_true rfl) dL_law_1125 ⟨Nat.le_of_ble_eq_true rfl, Nat.le_of_ble_eq_true rfl⟩ (fun r99 σ98 τ98 H locs h98 hP hS => ?_)
         obtain ⟨f102, f100, I101, h98⟩ := h98
         rcases h98 with h103 | h104 | h105
         · obtain ⟨q109, k106, k107, k108⟩ := h103
           exact absurd (by omega : False) id
         · exact by
            obtain ⟨q115, k110, k111, k112, k113, k114⟩ := h104
            have q115 := q115.symm
            subst q115
            refine lv_pop hx hb dL_law_1128 rfl ?_
            refine lv_goto (tgt := 1357) hx hb dL_law_1129 (of_decide_eq_true rfl) ?_
            obtain ⟨x116, ex116⟩ : ∃ y : Int32, y = x0 + 6 := ⟨_, rfl⟩
            have tx116 : x116.toInt = x0.toInt + 6 := (jadd ex116 rfl jz_6 (by omega) (by omega)).trans (by omega)
            refine lv_iinc (v := x116) (lv' := [(3, .int x116), (2, .ref (ad 55)), (1, .ref (ad 0)), (0, .ref b)]) hx hb dL_law_1357 hl (k := 0) rfl (by rw [ex116]; rfl) (of_decide_eq_true rfl) rfl (fun ls hl => ?_)
            refine lv_goto (tgt := 18) hx hb dL_law_1360 (of_decide_eq_true rfl) ?_
            exact by
             have I117 : jI2 σ98 := jI2_fr ((congrFun (f100 2 (of_decide_eq_true rfl)) 0).trans (congrFun (f24 2 (of_decide_eq_true rfl)) 0)) ((congrFun (f100 2 (of_decide_eq_true rfl)) 1).trans (congrFun (f24 2 (of_decide_eq_true rfl)) 1)) ((congrFun (f100 2 (of_decide_eq_true rfl)) 2).trans (congrFun (f24 2 (of_decide_eq_true rfl)) 2)) ((congrFun (f100 2 (of_decide_eq_true rfl)) 3).trans (congrFun (f24 2 (of_decide_eq_true rfl)) 3)) ((f100 6 (of_decide_eq_true rfl)).trans (f24 6 (of_decide_eq_true rfl))) hI2
             have I118 : jI9 σ98 := jI9_fr ((congrFun (f100 9 (of_decide_eq_true rfl)) 0).trans (congrFun (f24 9 (of_decide_eq_true rfl)) 0)) ((f100 10 (of_decide_eq_true rfl)).trans (f24 10 (of_decide_eq_true rfl))) ((f100 11 (of_decide_eq_true rfl)).trans (f24 11 (of_decide_eq_true rfl))) hI9
             have I119 : jI12 σ98 := jI12_fr ((congrFun (f100 12 (of_decide_eq_true rfl)) 0).trans (congrFun (f24 12 (of_decide_eq_true rfl)) 0)) ((f100 13 (of_decide_eq_true rfl)).trans (f24 13 (of_decide_eq_true rfl))) hI12
             have I120 : jI16 σ98 := jI16_fr ((congrFun (f100 16 (of_decide_eq_true rfl)) 0).trans (congrFun (f24 16 (of_decide_eq_true rfl)) 0)) ((congrFun (f100 16 (of_decide_eq_true rfl)) 1).trans (congrFun (f24 16 (of_decide_eq_true rfl)) 1)) ((congrFun (f100 16 (of_decide_eq_true rfl)) 2).trans (congrFun (f24 16 (of_decide_eq_true rfl)) 2)) ((f100 17 (of_decide_eq_true rfl)).trans (f24 17 (of_decide_eq_true rfl))) hI16
             have I121 : jI18 σ98 := jI18_fr ((congrFun (f100 18 (of_decide_eq_true rfl)) 0).trans (congrFun (f24 18 (of_decide_eq_true rfl)) 0)) ((f100 19 (of_decide_eq_true rfl)).trans (f24 19 (of_decide_eq_true rfl))) hI18
             have I122 : jI22 σ98 := jI22_fr ((congrFun (f100 22 (of_decide_eq_true rfl)) 0).trans (congrFun (f24 22 (of_decide_eq_true rfl)) 0)) ((f100 23 (of_decide_eq_true rfl)).trans (f24 23 (of_decide_eq_true rfl))) hI22
             have I123 : jI31 σ98 := jI31_fr ((congrFun (f100 31 (of_decide_eq_true rfl)) 8).trans (congrFun (f24 31 (of_decide_eq_true rfl)) 8)) ((f100 33 (of_decide_eq_true rfl)).trans (f24 33 (of_decide_eq_true rfl))) ((f100 36 (of_decide_eq_true rfl)).trans (f24 36 (of_decide_eq_true rfl))) hI31
             have I124 : jI38 σ98 := jI38_fr ((congrFun (f100 38 (of_decide_eq_true rfl)) 0).trans (congrFun (f24 38 (of_decide_eq_true rfl)) 0)) ((congrFun (f100 38 (of_decide_eq_true rfl)) 1).trans (congrFun (f24 38 (of_decide_eq_true rfl)) 1)) ((f100 39 (of_decide_eq_true rfl)).trans (f24 39 (of_decide_eq_true rfl))) hI38
             have I125 : jI43 σ98 := jI43_fr ((congrFun (f100 43 (of_decide_eq_true rfl)) 8).trans (congrFun (f24 43 (of_decide_eq_true rfl)) 8)) hI43
             have I126 : jI47 σ98 := jI47_fr ((congrFun (f100 47 (of_decide_eq_true rfl)) 0).trans (congrFun (f24 47 (of_decide_eq_true rfl)) 0)) ((f100 48 (of_decide_eq_true rfl)).trans (f24 48 (of_decide_eq_true rfl))) ((f100 49 (of_decide_eq_true rfl)).trans (f24 49 (of_decide_eq_true rfl))) hI47
             have I127 : jI50 σ98 := jI50_fr (f100 52 (of_decide_eq_true rfl)) I25
             have I128 : jI101 σ98 := jI101_fr ((congrFun (f100 55 (of_decide_eq_true rfl)) 4).trans (congrFun (f24 55 (of_decide_eq_true rfl)) 4)) ((congrFun (f100 55 (of_decide_eq_true rfl)) 5).trans (congrFun (f24 55 (of_decide_eq_true rfl)) 5)) ((f100 56 (of_decide_eq_true rfl)).trans (f24 56 (of_decide_eq_true rfl))) ((f100 57 (of_decide_eq_true rfl)).trans (f24 57 (of_decide_eq_true rfl))) ((f100 58 (of_decide_eq_true rfl)).trans (f24 58 (of_decide_eq_true rfl))) ((f100 59 (of_decide_eq_true rfl)).trans (f24 59 (of_decide_eq_true rfl))) hI101
             have I129 : jI102 σ98 := jI102_fr ((congrFun (f100 55 (of_decide_eq_true rfl)) 6).trans (congrFun (f24 55 (of_decide_eq_true rfl)) 6)) ((f100 60 (of_decide_eq_true rfl)).trans (f24 60 (of_decide_eq_true rfl))) ((f100 61 (of_decide_eq_true rfl)).trans (f24 61 (of_decide_eq_true rfl))) hI102
             have I130 : jI103 σ98 := jI103_fr ((congrFun (f100 55 (of_decide_eq_true rfl)) 9).trans (congrFun (f24 55 (of_decide_eq_true rfl)) 9)) hI103
             have I131 : jI104 σ98 := jI104_fr ((congrFun (f100 55 (of_decide_eq_true rfl)) 10).trans (congrFun (f24 55 (of_decide_eq_true rfl)) 10)) ((congrFun (f100 55 (of_decide_eq_true rfl)) 12).trans (congrFun (f24 55 (of_decide_eq_true rfl)) 12)) ((congrFun (f100 55 (of_decide_eq_true rfl)) 13).trans (congrFun (f24 55 (of_decide_eq_true rfl)) 13)) ((f100 62 (of_decide_eq_true rfl)).trans (f24 62 (of_decide_eq_true rfl))) ((f100 67 (of_decide_eq_true rfl)).trans (f24 67 (of_decide_eq_true rfl))) hI104
             have I132 : jI105 σ98 := jI105_fr ((congrFun (f100 55 (of_decide_eq_true rfl)) 15).trans (congrFun (f24 55 (of_decide_eq_true rfl)) 15)) ((f100 65 (of_decide_eq_true rfl)).trans (f24 65 (of_decide_eq_true rfl))) hI105
             have I133 : jI106 σ98 := jI106_fr ((congrFun (f100 55 (of_decide_eq_true rfl)) 32).trans (congrFun (f24 55 (of_decide_eq_true rfl)) 32)) ((f100 70 (of_decide_eq_true rfl)).trans (f24 70 (of_decide_eq_true rfl))) ((f100 71 (of_decide_eq_true rfl)).trans (f24 71 (of_decide_eq_true rfl))) ((f100 72 (of_decide_eq_true rfl)).trans (f24 72 (of_decide_eq_true rfl))) hI106
             have I134 : jI107 σ98 := jI107_fr ((congrFun (f100 55 (of_decide_eq_true rfl)) 12).trans (congrFun (f24 55 (of_decide_eq_true rfl)) 12)) ((congrFun (f100 55 (of_decide_eq_true rfl)) 47).trans (congrFun (f24 55 (of_decide_eq_true rfl)) 47)) ((f100 80 (of_decide_eq_true rfl)).trans (f24 80 (of_decide_eq_true rfl))) hI107
             have I135 : jI109 σ98 := jI109_fr ((congrFun (f100 55 (of_decide_eq_true rfl)) 50).trans (congrFun (f24 55 (of_decide_eq_true rfl)) 50)) hI109
             have I136 : jI111 σ98 := jI111_fr ((f100 79 (of_decide_eq_true rfl)).trans (f24 79 (of_decide_eq_true rfl))) hI111
             have I137 : jI119 σ98 := jI119_fr ((f100 68 (of_decide_eq_true rfl)).trans (f24 68 (of_decide_eq_true rfl))) hI119
             have p138 : jKept σ98 := jKept.fr ((f100 75 (of_decide_eq_true rfl)).trans (f24 75 (of_decide_eq_true rfl))) ((f100 76 (of_decide_eq_true rfl)).trans (f24 76 (of_decide_eq_true rfl))) ((f100 77 (of_decide_eq_true rfl)).trans (f24 77 (of_decide_eq_true rfl))) hs_jKept
             have p139 : jBook σ98 := jBook.fr ((congrFun (f100 55 (of_decide_eq_true rfl)) 47).trans (congrFun (f24 55 (of_decide_eq_true rfl)) 47)) ((congrFun (f100 55 (of_decide_eq_true rfl)) 10).trans (congrFun (f24 55 (of_decide_eq_true rfl)) 10)) ((f100 81 (of_decide_eq_true rfl)).trans (f24 81 (of_decide_eq_true rfl))) hs_jBook
             have z140 : (σ98 9 0).toInt = (σ 9 0).toInt := (congrArg Int32.toInt (show σ98 9 0 = (σ 9 0) from ((congrFun (f100 9 (of_decide_eq_true rfl)) 0).trans (congrFun (f24 9 (of_decide_eq_true rfl)) 0))))
             have z141 : (σ98 55 15).toInt = (σ 55 15).toInt := (congrArg Int32.toInt (show σ98 55 15 = (σ 55 15) from ((congrFun (f100 55 (of_decide_eq_true rfl)) 15).trans (congrFun (f24 55 (of_decide_eq_true rfl)) 15))))
             have z142 : (σ98 16 0).toInt = (σ 16 0).toInt := (congrArg Int32.toInt (show σ98 16 0 = (σ 16 0) from ((congrFun (f100 16 (of_decide_eq_true rfl)) 0).trans (congrFun (f24 16 (of_decide_eq_true rfl)) 0))))
             have z143 : (σ98 55 10).toInt = (σ 55 10).toInt := (congrArg Int32.toInt (show σ98 55 10 = (σ 55 10) from ((congrFun (f100 55 (of_decide_eq_true rfl)) 10).trans (congrFun (f24 55 (of_decide_eq_true rfl)) 10))))
             have z144 : (σ98 16 1).toInt = (σ 16 1).toInt := (congrArg Int32.toInt (show σ98 16 1 = (σ 16 1) from ((congrFun (f100 16 (of_decide_eq_true rfl)) 1).trans (congrFun (f24 16 (of_decide_eq_true rfl)) 1))))
             have z145 : (σ98 55 12).toInt = (σ 55 12).toInt := (congrArg Int32.toInt (show σ98 55 12 = (σ 55 12) from ((congrFun (f100 55 (of_decide_eq_true rfl)) 12).trans (congrFun (f24 55 (of_decide_eq_true rfl)) 12))))
             have z146 : (σ98 16 2).toInt = (σ 16 2).toInt := (congrArg Int32.toInt (show σ98 16 2 = (σ 16 2) from ((congrFun (f100 16 (of_decide_eq_true rfl)) 2).trans (congrFun (f24 16 (of_decide_eq_true rfl)) 2))))
             have z147 : (σ98 55 13).toInt = (σ 55 13).toInt := (congrArg Int32.toInt (show σ98 55 13 = (σ 55 13) from ((congrFun (f100 55 (of_decide_eq_true rfl)) 13).trans (congrFun (f24 55 (of_decide_eq_true rfl)) 13))))
             exact by exact ih x116 σ98 τ98 _ _ ls (by have h9 := tx116; omega) ⟨I117, I118, I119, I120, I121, I122, I123, I124, I125, I126, I127, I128, I129, I130, I131, I132, I133, I134, I135, I101, I136, I137, p138, p139, (by omega), (by omega), (by omega), (by omega), (show jTp (σ98 10) (σ98 63) (σ98 55 15).toInt by rw [show σ98 10 = σ 10 from ((f100 10 (of_decide_eq_true rfl)).trans (f24 10 (of_decide_eq_true rfl))), show σ98 63 = σ 63 from ((f100 63 (of_decide_eq_true rfl)).trans (f24 63 (of_decide_eq_true rfl)))]; exact hr0.le (by omega)), (show jSo (σ98 17) (σ98 62) (σ98 16 0).toInt by rw [show σ98 17 = σ 17 from ((f100 17 (of_decide_eq_true rfl)).trans (f24 17 (of_decide_eq_true rfl))), show σ98 62 = σ 62 from ((f100 62 (of_decide_eq_true rfl)).trans (f24 62 (of_decide_eq_true rfl))), show (σ98 16 0).toInt = (σ 16 0).toInt from by omega]; exact hr1)⟩ hP hS (lv_sub hl [0, 1, 2, 3] rfl)
         · obtain ⟨q153, k148, k149, k150, k151, k152⟩ := h105
           exact absurd (by omega : False) id
     · obtain ⟨q159, k154, k155, k156, k157, k158⟩ := h29
       have q159 := q159.symm
       subst q159
       refine lv_pop hx hb dL_law_1108 rfl ?_
       refine lv_aload_n hx hb dL_law_1109 rfl (lv_at hl 1 rfl) ?_
       refine lv_aload_n hx hb dL_law_1110 rfl (lv_at hl 3 rfl) ?_
       refine lv_iload_n hx hb dL_law_1111 rfl (lv_at hl 0 rfl) ?_
       refine lv_iconst (v := 1) hx hb dL_law_1112 (of_decide_eq_true rfl) ?_
       refine lv_iadd hx hb dL_law_1113 ?_
       refine jtopr ex16.symm ?_
       exact by
        refine va_sld hx hb hX hbl hbA hS (jin tx16 (by omega) (by omega)) dL_law_1114 ?_
        refine lv_aload_n hx hb dL_law_1115 rfl (lv_at hl 3 rfl) ?_
        refine lv_iload_n hx hb dL_law_1116 rfl (lv_at hl 0 rfl) ?_
        refine lv_iconst (v := 2) hx hb dL_law_1117 (of_decide_eq_true rfl) ?_
        refine lv_iadd hx hb dL_law_1118 ?_
        refine jtopr ex18.symm ?_
        refine va_sld hx hb hX hbl hbA hS (jin tx18 (by omega) (by omega)) dL_law_1119 ?_
        refine lv_aload_n hx hb dL_law_1120 rfl (lv_at hl 3 rfl) ?_
        refine lv_iload_n hx hb dL_law_1121 rfl (lv_at hl 0 rfl) ?_
        exact by
         refine lv_iconst (v := 3) hx hb dL_law_1122 (of_decide_eq_true rfl) ?_
         refine lv_iadd hx hb dL_law_1123 ?_
         refine jtopr ex20.symm ?_
         refine va_sld hx hb hX hbl hbA hS (jin tx20 (by omega) (by omega)) dL_law_1124 ?_
         have I160 : jI110 σ22 := jI110_fr (f24 86 (of_decide_eq_true rfl)) (f24 87 (of_decide_eq_true rfl)) hI110
         refine jcallV (As := [.int (xs x16.toNatClampNeg), .int (xs x18.toNatClampNeg), .int (xs x20.toNatClampNeg)]) (rest := []) ⟨hx, hb, hml, hown, hts⟩ hK hP hA hS hZ (c_X12_row l D cI cL ad zz hJ σ22 τ22 (xs x16.toNatClampNeg) ((xs x16.toNatClampNeg).toInt) rfl (xs x18.toNatClampNeg) ((xs x18.toNatClampNeg).toInt) rfl (xs x20.toNatClampNeg) ((xs x20.toNatClampNeg).toInt) rfl I160) cw_RL_144 (jc_55 cI cL ad σ22 τ22) rfl ⟨Nat.le_of_ble_eq_true rfl, Nat.le_of_ble_eq_true rfl⟩ rfl rfl rfl hl.1 rfl (Nat.le_of_ble_eq_true rfl) dL_law_1125 ⟨Nat.le_of_ble_eq_true rfl, Nat.le_of_ble_eq_true rfl⟩ (fun r162 σ161 τ161 H locs h161 hP hS => ?_)
         obtain ⟨f165, f163, I164, h161⟩ := h161
         rcases h161 with h166 | h167 | h168
         · obtain ⟨q172, k169, k170, k171⟩ := h166
           exact absurd (by omega : False) id
         · exact by
            obtain ⟨q178, k173, k174, k175, k176, k177⟩ := h167
            exact absurd (by omega : False) id
         · obtain ⟨q184, k179, k180, k181, k182, k183⟩ := h168
           have q184 := q184.symm
           subst q184
           refine lv_pop hx hb dL_law_1128 rfl ?_
           refine lv_goto (tgt := 1357) hx hb dL_law_1129 (of_decide_eq_true rfl) ?_
           obtain ⟨x185, ex185⟩ : ∃ y : Int32, y = x0 + 6 := ⟨_, rfl⟩
           have tx185 : x185.toInt = x0.toInt + 6 := (jadd ex185 rfl jz_6 (by omega) (by omega)).trans (by omega)
           exact by
            refine lv_iinc (v := x185) (lv' := [(3, .int x185), (2, .ref (ad 55)), (1, .ref (ad 0)), (0, .ref b)]) hx hb dL_law_1357 hl (k := 0) rfl (by rw [ex185]; rfl) (of_decide_eq_true rfl) rfl (fun ls hl => ?_)
            refine lv_goto (tgt := 18) hx hb dL_law_1360 (of_decide_eq_true rfl) ?_
            have I186 : jI2 σ161 := jI2_fr ((congrFun (f163 2 (of_decide_eq_true rfl)) 0).trans (congrFun (f24 2 (of_decide_eq_true rfl)) 0)) ((congrFun (f163 2 (of_decide_eq_true rfl)) 1).trans (congrFun (f24 2 (of_decide_eq_true rfl)) 1)) ((congrFun (f163 2 (of_decide_eq_true rfl)) 2).trans (congrFun (f24 2 (of_decide_eq_true rfl)) 2)) ((congrFun (f163 2 (of_decide_eq_true rfl)) 3).trans (congrFun (f24 2 (of_decide_eq_true rfl)) 3)) ((f163 6 (of_decide_eq_true rfl)).trans (f24 6 (of_decide_eq_true rfl))) hI2
            have I187 : jI9 σ161 := jI9_fr ((congrFun (f163 9 (of_decide_eq_true rfl)) 0).trans (congrFun (f24 9 (of_decide_eq_true rfl)) 0)) ((f163 10 (of_decide_eq_true rfl)).trans (f24 10 (of_decide_eq_true rfl))) ((f163 11 (of_decide_eq_true rfl)).trans (f24 11 (of_decide_eq_true rfl))) hI9
            have I188 : jI12 σ161 := jI12_fr ((congrFun (f163 12 (of_decide_eq_true rfl)) 0).trans (congrFun (f24 12 (of_decide_eq_true rfl)) 0)) ((f163 13 (of_decide_eq_true rfl)).trans (f24 13 (of_decide_eq_true rfl))) hI12
            have I189 : jI16 σ161 := jI16_fr ((congrFun (f163 16 (of_decide_eq_true rfl)) 0).trans (congrFun (f24 16 (of_decide_eq_true rfl)) 0)) ((congrFun (f163 16 (of_decide_eq_true rfl)) 1).trans (congrFun (f24 16 (of_decide_eq_true rfl)) 1)) ((congrFun (f163 16 (of_decide_eq_true rfl)) 2).trans (congrFun (f24 16 (of_decide_eq_true rfl)) 2)) ((f163 17 (of_decide_eq_true rfl)).trans (f24 17 (of_decide_eq_true rfl))) hI16
            have I190 : jI18 σ161 := jI18_fr ((congrFun (f163 18 (of_decide_eq_true rfl)) 0).trans (congrFun (f24 18 (of_decide_eq_true rfl)) 0)) ((f163 19 (of_decide_eq_true rfl)).trans (f24 19 (of_decide_eq_true rfl))) hI18
            have I191 : jI22 σ161 := jI22_fr ((congrFun (f163 22 (of_decide_eq_true rfl)) 0).trans (congrFun (f24 22 (of_decide_eq_true rfl)) 0)) ((f163 23 (of_decide_eq_true rfl)).trans (f24 23 (of_decide_eq_true rfl))) hI22
            have I192 : jI31 σ161 := jI31_fr ((congrFun (f163 31 (of_decide_eq_true rfl)) 8).trans (congrFun (f24 31 (of_decide_eq_true rfl)) 8)) ((f163 33 (of_decide_eq_true rfl)).trans (f24 33 (of_decide_eq_true rfl))) ((f163 36 (of_decide_eq_true rfl)).trans (f24 36 (of_decide_eq_true rfl))) hI31
            have I193 : jI38 σ161 := jI38_fr ((congrFun (f163 38 (of_decide_eq_true rfl)) 0).trans (congrFun (f24 38 (of_decide_eq_true rfl)) 0)) ((congrFun (f163 38 (of_decide_eq_true rfl)) 1).trans (congrFun (f24 38 (of_decide_eq_true rfl)) 1)) ((f163 39 (of_decide_eq_true rfl)).trans (f24 39 (of_decide_eq_true rfl))) hI38
            have I194 : jI43 σ161 := jI43_fr ((congrFun (f163 43 (of_decide_eq_true rfl)) 8).trans (congrFun (f24 43 (of_decide_eq_true rfl)) 8)) hI43
            have I195 : jI47 σ161 := jI47_fr ((congrFun (f163 47 (of_decide_eq_true rfl)) 0).trans (congrFun (f24 47 (of_decide_eq_true rfl)) 0)) ((f163 48 (of_decide_eq_true rfl)).trans (f24 48 (of_decide_eq_true rfl))) ((f163 49 (of_decide_eq_true rfl)).trans (f24 49 (of_decide_eq_true rfl))) hI47
            have I196 : jI50 σ161 := jI50_fr (f163 52 (of_decide_eq_true rfl)) I25
            have I197 : jI101 σ161 := jI101_fr ((congrFun (f163 55 (of_decide_eq_true rfl)) 4).trans (congrFun (f24 55 (of_decide_eq_true rfl)) 4)) ((congrFun (f163 55 (of_decide_eq_true rfl)) 5).trans (congrFun (f24 55 (of_decide_eq_true rfl)) 5)) ((f163 56 (of_decide_eq_true rfl)).trans (f24 56 (of_decide_eq_true rfl))) ((f163 57 (of_decide_eq_true rfl)).trans (f24 57 (of_decide_eq_true rfl))) ((f163 58 (of_decide_eq_true rfl)).trans (f24 58 (of_decide_eq_true rfl))) ((f163 59 (of_decide_eq_true rfl)).trans (f24 59 (of_decide_eq_true rfl))) hI101
            have I198 : jI102 σ161 := jI102_fr ((congrFun (f163 55 (of_decide_eq_true rfl)) 6).trans (congrFun (f24 55 (of_decide_eq_true rfl)) 6)) ((f163 60 (of_decide_eq_true rfl)).trans (f24 60 (of_decide_eq_true rfl))) ((f163 61 (of_decide_eq_true rfl)).trans (f24 61 (of_decide_eq_true rfl))) hI102
            have I199 : jI103 σ161 := jI103_fr ((congrFun (f163 55 (of_decide_eq_true rfl)) 9).trans (congrFun (f24 55 (of_decide_eq_true rfl)) 9)) hI103
            have I200 : jI104 σ161 := jI104_fr ((congrFun (f163 55 (of_decide_eq_true rfl)) 10).trans (congrFun (f24 55 (of_decide_eq_true rfl)) 10)) ((congrFun (f163 55 (of_decide_eq_true rfl)) 12).trans (congrFun (f24 55 (of_decide_eq_true rfl)) 12)) ((congrFun (f163 55 (of_decide_eq_true rfl)) 13).trans (congrFun (f24 55 (of_decide_eq_true rfl)) 13)) ((f163 62 (of_decide_eq_true rfl)).trans (f24 62 (of_decide_eq_true rfl))) ((f163 67 (of_decide_eq_true rfl)).trans (f24 67 (of_decide_eq_true rfl))) hI104
            have I201 : jI105 σ161 := jI105_fr ((congrFun (f163 55 (of_decide_eq_true rfl)) 15).trans (congrFun (f24 55 (of_decide_eq_true rfl)) 15)) ((f163 65 (of_decide_eq_true rfl)).trans (f24 65 (of_decide_eq_true rfl))) hI105
            have I202 : jI106 σ161 := jI106_fr ((congrFun (f163 55 (of_decide_eq_true rfl)) 32).trans (congrFun (f24 55 (of_decide_eq_true rfl)) 32)) ((f163 70 (of_decide_eq_true rfl)).trans (f24 70 (of_decide_eq_true rfl))) ((f163 71 (of_decide_eq_true rfl)).trans (f24 71 (of_decide_eq_true rfl))) ((f163 72 (of_decide_eq_true rfl)).trans (f24 72 (of_decide_eq_true rfl))) hI106
            have I203 : jI107 σ161 := jI107_fr ((congrFun (f163 55 (of_decide_eq_true rfl)) 12).trans (congrFun (f24 55 (of_decide_eq_true rfl)) 12)) ((congrFun (f163 55 (of_decide_eq_true rfl)) 47).trans (congrFun (f24 55 (of_decide_eq_true rfl)) 47)) ((f163 80 (of_decide_eq_true rfl)).trans (f24 80 (of_decide_eq_true rfl))) hI107
            have I204 : jI109 σ161 := jI109_fr ((congrFun (f163 55 (of_decide_eq_true rfl)) 50).trans (congrFun (f24 55 (of_decide_eq_true rfl)) 50)) hI109
            have I205 : jI111 σ161 := jI111_fr ((f163 79 (of_decide_eq_true rfl)).trans (f24 79 (of_decide_eq_true rfl))) hI111
            have I206 : jI119 σ161 := jI119_fr ((f163 68 (of_decide_eq_true rfl)).trans (f24 68 (of_decide_eq_true rfl))) hI119
            have p207 : jKept σ161 := jKept.fr ((f163 75 (of_decide_eq_true rfl)).trans (f24 75 (of_decide_eq_true rfl))) ((f163 76 (of_decide_eq_true rfl)).trans (f24 76 (of_decide_eq_true rfl))) ((f163 77 (of_decide_eq_true rfl)).trans (f24 77 (of_decide_eq_true rfl))) hs_jKept
            have p208 : jBook σ161 := jBook.fr ((congrFun (f163 55 (of_decide_eq_true rfl)) 47).trans (congrFun (f24 55 (of_decide_eq_true rfl)) 47)) ((congrFun (f163 55 (of_decide_eq_true rfl)) 10).trans (congrFun (f24 55 (of_decide_eq_true rfl)) 10)) ((f163 81 (of_decide_eq_true rfl)).trans (f24 81 (of_decide_eq_true rfl))) hs_jBook
            have z209 : (σ161 9 0).toInt = (σ 9 0).toInt := (congrArg Int32.toInt (show σ161 9 0 = (σ 9 0) from ((congrFun (f163 9 (of_decide_eq_true rfl)) 0).trans (congrFun (f24 9 (of_decide_eq_true rfl)) 0))))
            have z210 : (σ161 55 15).toInt = (σ 55 15).toInt := (congrArg Int32.toInt (show σ161 55 15 = (σ 55 15) from ((congrFun (f163 55 (of_decide_eq_true rfl)) 15).trans (congrFun (f24 55 (of_decide_eq_true rfl)) 15))))
            have z211 : (σ161 16 0).toInt = (σ 16 0).toInt := (congrArg Int32.toInt (show σ161 16 0 = (σ 16 0) from ((congrFun (f163 16 (of_decide_eq_true rfl)) 0).trans (congrFun (f24 16 (of_decide_eq_true rfl)) 0))))
            have z212 : (σ161 55 10).toInt = (σ 55 10).toInt := (congrArg Int32.toInt (show σ161 55 10 = (σ 55 10) from ((congrFun (f163 55 (of_decide_eq_true rfl)) 10).trans (congrFun (f24 55 (of_decide_eq_true rfl)) 10))))
            have z213 : (σ161 16 1).toInt = (σ 16 1).toInt := (congrArg Int32.toInt (show σ161 16 1 = (σ 16 1) from ((congrFun (f163 16 (of_decide_eq_true rfl)) 1).trans (congrFun (f24 16 (of_decide_eq_true rfl)) 1))))
            have z214 : (σ161 55 12).toInt = (σ 55 12).toInt := (congrArg Int32.toInt (show σ161 55 12 = (σ 55 12) from ((congrFun (f163 55 (of_decide_eq_true rfl)) 12).trans (congrFun (f24 55 (of_decide_eq_true rfl)) 12))))
            have z215 : (σ161 16 2).toInt = (σ 16 2).toInt := (congrArg Int32.toInt (show σ161 16 2 = (σ 16 2) from ((congrFun (f163 16 (of_decide_eq_true rfl)) 2).trans (congrFun (f24 16 (of_decide_eq_true rfl)) 2))))
            have z216 : (σ161 55 13).toInt = (σ 55 13).toInt := (congrArg Int32.toInt (show σ161 55 13 = (σ 55 13) from ((congrFun (f163 55 (of_decide_eq_true rfl)) 13).trans (congrFun (f24 55 (of_decide_eq_true rfl)) 13))))
            exact by exact ih x185 σ161 τ161 _ _ ls (by have h9 := tx185; omega) ⟨I186, I187, I188, I189, I190, I191, I192, I193, I194, I195, I196, I197, I198, I199, I200, I201, I202, I203, I204, I164, I205, I206, p207, p208, (by omega), (by omega), (by omega), (by omega), (show jTp (σ161 10) (σ161 63) (σ161 55 15).toInt by rw [show σ161 10 = σ 10 from ((f163 10 (of_decide_eq_true rfl)).trans (f24 10 (of_decide_eq_true rfl))), show σ161 63 = σ 63 from ((f163 63 (of_decide_eq_true rfl)).trans (f24 63 (of_decide_eq_true rfl)))]; exact hr0.le (by omega)), (show jSo (σ161 17) (σ161 62) (σ161 16 0).toInt by rw [show σ161 17 = σ 17 from ((f163 17 (of_decide_eq_true rfl)).trans (f24 17 (of_decide_eq_true rfl))), show σ161 62 = σ 62 from ((f163 62 (of_decide_eq_true rfl)).trans (f24 62 (of_decide_eq_true rfl))), show (σ161 16 0).toInt = (σ 16 0).toInt from by omega]; exact hr1)⟩ hP hS (lv_sub hl [0, 1, 2, 3] rfl)
set_option maxHeartbeats 4000000 in
set_option maxRecDepth 100000 in
theorem law_case_32 {p : Program} {e : Env} {s : State} {m : MethodId} {below : List Frame} {meth : Method} {c : Code} (l : Launch) {b L : Nat} {xs : Nat → Int32} {D : va_G} {cI cL : ClassId} {ad zz : Nat → Nat} (C0 : lw_At p s m meth c b L xs) (hJ : jD ad) (hA : ∀ q, jA ad q → s.heap.size ≤ q) (hK : jK D cI cL s) (hZ : jZ zz (fun q : Nat => s.heap.size ≤ q) s s.heap) {x0 : Int32} (hx0 : 0 ≤ x0.toInt) (hxL : x0.toInt + 6 ≤ (L : Int)) (hL : L ≤ 384) {σ : Nat → Nat → Int32} {τ : Nat → Nat → Int64} {H : Heap} {locs : List Loc} (hS : va_S (fun q : Nat => s.heap.size ≤ q) s.heap H locs) {ls : Array Slot} (hAll : jAll σ τ) (hP : jH D cI cL ad σ τ H) (hl : lv_has ls 4 [(3, .int x0), (2, .ref (ad 55)), (1, .ref (ad 0)), (0, .ref b)]) (ih : ∀ (x1 : Int32) (σ : Nat → Nat → Int32) (τ : Nat → Nat → Int64) (H : Heap) (locs : List Loc) (ls : Array Slot), x1.toInt = x0.toInt + 6 → jAll σ τ → jH D cI cL ad σ τ H → va_S (fun q : Nat => s.heap.size ≤ q) s.heap H locs → lv_has ls 4 [(3, .int x1), (2, .ref (ad 55)), (1, .ref (ad 0)), (0, .ref b)] → W p l e room_1 s m #[Value.ref b] below meth c H locs 90 348600 (lw_Z below #[Value.ref b] s) (F0 m 18 ls [])) : W p l e room_1 s m #[Value.ref b] below meth c H locs 90 348600 (lw_Z below #[Value.ref b] s) (F0 m 1132 ls []) := by
  obtain ⟨hx, hb, hr, hml, hown, hts0, hX, hbl, hlocks, hgv⟩ := C0
  have hts : ∀ w ∈ wsL_law, w.before #[Value.ref b] s = true := fun w h => hts0 w (wsL_law_in w h)
  have hbA : ¬ (fun q : Nat => s.heap.size ≤ q) b := Nat.not_le.mpr hbl
  have hown : s.vm.findClass RL = some m.cls := hown
  obtain ⟨hI2, hI9, hI12, hI16, hI18, hI22, hI31, hI38, hI43, hI47, hI50, hI101, hI102, hI103, hI104, hI105, hI106, hI107, hI109, hI110, hI111, hI119, hs_jKept, hs_jBook, ht0, ht1, ht2, ht3, hr0, hr1⟩ := hAll
  have hL9 : (L : Int) ≤ 384 := by omega
  obtain ⟨i1, w2, w3⟩ : (0 ≤ (σ 9 0).toInt ∧ (σ 9 0).toInt ≤ 80) ∧ (∀ k : Nat, k < 80 → 0 ≤ (σ 10 k).toInt ∧ (σ 10 k).toInt ≤ 255) ∧ (∀ k : Nat, k < 8 → 0 ≤ (σ 11 k).toInt ∧ (σ 11 k).toInt ≤ 3) := id hI9
  obtain ⟨i4, i5, i6, w7⟩ : (1 ≤ (σ 16 0).toInt ∧ (σ 16 0).toInt ≤ 8) ∧ (1 ≤ (σ 16 1).toInt ∧ (σ 16 1).toInt ≤ 12) ∧ (0 ≤ (σ 16 2).toInt ∧ (σ 16 2).toInt ≤ 999) ∧ (∀ k : Nat, k < 8 → 0 ≤ (σ 17 k).toInt ∧ (σ 17 k).toInt ≤ 3) := id hI16
  obtain ⟨i8, i9, i10, w11, w12⟩ : (1 ≤ (σ 55 10).toInt ∧ (σ 55 10).toInt ≤ 8) ∧ (1 ≤ (σ 55 12).toInt ∧ (σ 55 12).toInt ≤ 12) ∧ (0 ≤ (σ 55 13).toInt ∧ (σ 55 13).toInt ≤ 999) ∧ (∀ k : Nat, k < 8 → 0 ≤ (σ 62 k).toInt ∧ (σ 62 k).toInt ≤ 3) ∧ (∀ k : Nat, k < 8 → 0 ≤ (σ 67 k).toInt ∧ (σ 67 k).toInt ≤ 3) := id hI104
  obtain ⟨i13, w14⟩ : (0 ≤ (σ 55 15).toInt ∧ (σ 55 15).toInt ≤ 80) ∧ (∀ k : Nat, k < 2 → (-1) ≤ (σ 65 k).toInt ∧ (σ 65 k).toInt ≤ 80) := id hI105
  refine lv_aload_n hx hb dL_law_1132 rfl (lv_at hl 2 rfl) ?_
  refine lv_aload_n hx hb dL_law_1133 rfl (lv_at hl 3 rfl) ?_
  refine lv_iload_n hx hb dL_law_1134 rfl (lv_at hl 0 rfl) ?_
  refine lv_iconst (v := 1) hx hb dL_law_1135 (of_decide_eq_true rfl) ?_
  have g15 := jrg (rfl : x0.toInt = x0.toInt)
  refine lv_iadd hx hb dL_law_1136 ?_
  refine lv_topi (fun x16 ex16 => ?_)
  exact by
   have tx16 : x16.toInt = x0.toInt + 1 := (jadd ex16 rfl jz_1 (by omega) (by omega)).trans (by omega)
   refine va_sld hx hb hX hbl hbA hS (jin tx16 (by omega) (by omega)) dL_law_1137 ?_
   have g17 := jrg (rfl : (xs x16.toNatClampNeg).toInt = (xs x16.toNatClampNeg).toInt)
   refine lv_aload_n hx hb dL_law_1138 rfl (lv_at hl 3 rfl) ?_
   refine lv_iload_n hx hb dL_law_1139 rfl (lv_at hl 0 rfl) ?_
   refine lv_iconst (v := 2) hx hb dL_law_1140 (of_decide_eq_true rfl) ?_
   refine lv_iadd hx hb dL_law_1141 ?_
   refine lv_topi (fun x18 ex18 => ?_)
   have tx18 : x18.toInt = x0.toInt + 2 := (jadd ex18 rfl jz_2 (by omega) (by omega)).trans (by omega)
   exact by
    refine va_sld hx hb hX hbl hbA hS (jin tx18 (by omega) (by omega)) dL_law_1142 ?_
    have g19 := jrg (rfl : (xs x18.toNatClampNeg).toInt = (xs x18.toNatClampNeg).toInt)
    refine lv_aload_n hx hb dL_law_1143 rfl (lv_at hl 3 rfl) ?_
    refine lv_iload_n hx hb dL_law_1144 rfl (lv_at hl 0 rfl) ?_
    refine lv_iconst (v := 3) hx hb dL_law_1145 (of_decide_eq_true rfl) ?_
    refine lv_iadd hx hb dL_law_1146 ?_
    refine lv_topi (fun x20 ex20 => ?_)
    have tx20 : x20.toInt = x0.toInt + 3 := (jadd ex20 rfl jz_3 (by omega) (by omega)).trans (by omega)
    refine va_sld hx hb hX hbl hbA hS (jin tx20 (by omega) (by omega)) dL_law_1147 ?_
    exact by
     have g21 := jrg (rfl : (xs x20.toNatClampNeg).toInt = (xs x20.toNatClampNeg).toInt)
     refine lv_i2l (v := (xs x20.toNatClampNeg).toInt64) hx hb dL_law_1148 rfl ?_
     refine lv_bipush (v := 32) hx hb dL_law_1149 (of_decide_eq_true rfl) ?_
     refine lv_lshl hx hb dL_law_1151 rfl ?_
     refine lv_topl (fun lx22 elx22 => ?_)
     refine lv_aload_n hx hb dL_law_1152 rfl (lv_at hl 3 rfl) ?_
     refine lv_iload_n hx hb dL_law_1153 rfl (lv_at hl 0 rfl) ?_
     refine lv_iconst (v := 4) hx hb dL_law_1154 (of_decide_eq_true rfl) ?_
     refine lv_iadd hx hb dL_law_1155 ?_
     refine lv_topi (fun x23 ex23 => ?_)
     exact by
      have tx23 : x23.toInt = x0.toInt + 4 := (jadd ex23 rfl jz_4 (by omega) (by omega)).trans (by omega)
      refine va_sld hx hb hX hbl hbA hS (jin tx23 (by omega) (by omega)) dL_law_1156 ?_
      have g24 := jrg (rfl : (xs x23.toNatClampNeg).toInt = (xs x23.toNatClampNeg).toInt)
      refine lv_i2l (v := (xs x23.toNatClampNeg).toInt64) hx hb dL_law_1157 rfl ?_
      refine lv_ldc2 (v := 4294967295) hx hb hown (hts _ kw_1_6) dL_law_1158 ?_
      refine lv_land hx hb dL_law_1161 ?_
      refine lv_topl (fun lx25 elx25 => ?_)
      refine lv_lor hx hb dL_law_1162 ?_
      refine lv_topl (fun lx26 elx26 => ?_)
      exact by
       refine jcallV (As := [.int (xs x16.toNatClampNeg), .int (xs x18.toNatClampNeg), .long lx26]) (rest := []) ⟨hx, hb, hml, hown, hts⟩ hK hP hA hS hZ (c_X11_put l D cI cL ad zz hJ σ τ (xs x16.toNatClampNeg) ((xs x16.toNatClampNeg).toInt) rfl (xs x18.toNatClampNeg) ((xs x18.toNatClampNeg).toInt) rfl lx26 (lx26.toInt) rfl hI50) cw_RL_147 (jc_0 cI cL ad σ τ) rfl ⟨Nat.le_of_ble_eq_true rfl, Nat.le_of_ble_eq_true rfl⟩ rfl rfl rfl hl.1 rfl (Nat.le_of_ble_eq_true rfl) dL_law_1163 ⟨Nat.le_of_ble_eq_true rfl, Nat.le_of_ble_eq_true rfl⟩ (fun r28 σ27 τ27 H locs h27 hP hS => ?_)
       obtain ⟨f32, f29, w30, w31, h27⟩ := h27
       refine lv_pop hx hb dL_law_1166 rfl ?_
       refine lv_aload_n hx hb dL_law_1167 rfl (lv_at hl 1 rfl) ?_
       refine lv_aload_n hx hb dL_law_1168 rfl (lv_at hl 3 rfl) ?_
       refine lv_iload_n hx hb dL_law_1169 rfl (lv_at hl 0 rfl) ?_
       refine lv_iconst (v := 1) hx hb dL_law_1170 (of_decide_eq_true rfl) ?_
       refine lv_iadd hx hb dL_law_1171 ?_
       refine jtopr ex16.symm ?_
       exact by
        refine va_sld hx hb hX hbl hbA hS (jin tx16 (by omega) (by omega)) dL_law_1172 ?_
        refine lv_aload_n hx hb dL_law_1173 rfl (lv_at hl 3 rfl) ?_
        refine lv_iload_n hx hb dL_law_1174 rfl (lv_at hl 0 rfl) ?_
        refine lv_iconst (v := 2) hx hb dL_law_1175 (of_decide_eq_true rfl) ?_
        refine lv_iadd hx hb dL_law_1176 ?_
        refine jtopr ex18.symm ?_
        refine va_sld hx hb hX hbl hbA hS (jin tx18 (by omega) (by omega)) dL_law_1177 ?_
        refine lv_aload_n hx hb dL_law_1178 rfl (lv_at hl 3 rfl) ?_
        refine lv_iload_n hx hb dL_law_1179 rfl (lv_at hl 0 rfl) ?_
        exact by
         refine lv_iconst (v := 3) hx hb dL_law_1180 (of_decide_eq_true rfl) ?_
         refine lv_iadd hx hb dL_law_1181 ?_
         refine jtopr ex20.symm ?_
         refine va_sld hx hb hX hbl hbA hS (jin tx20 (by omega) (by omega)) dL_law_1182 ?_
         refine lv_i2l (v := (xs x20.toNatClampNeg).toInt64) hx hb dL_law_1183 rfl ?_
         refine lv_bipush (v := 32) hx hb dL_law_1184 (of_decide_eq_true rfl) ?_
         refine lv_lshl hx hb dL_law_1186 rfl ?_
         refine lv_topl (fun lx33 elx33 => ?_)
         refine lv_aload_n hx hb dL_law_1187 rfl (lv_at hl 3 rfl) ?_
         exact by
          refine lv_iload_n hx hb dL_law_1188 rfl (lv_at hl 0 rfl) ?_
          refine lv_iconst (v := 4) hx hb dL_law_1189 (of_decide_eq_true rfl) ?_
          refine lv_iadd hx hb dL_law_1190 ?_
          refine jtopr ex23.symm ?_
          refine va_sld hx hb hX hbl hbA hS (jin tx23 (by omega) (by omega)) dL_law_1191 ?_
          refine lv_i2l (v := (xs x23.toNatClampNeg).toInt64) hx hb dL_law_1192 rfl ?_
          refine lv_ldc2 (v := 4294967295) hx hb hown (hts _ kw_1_6) dL_law_1193 ?_
          refine lv_land hx hb dL_law_1196 ?_
          refine lv_topl (fun lx34 elx34 => ?_)
          exact by
           refine lv_lor hx hb dL_law_1197 ?_
           refine lv_topl (fun lx35 elx35 => ?_)
           have I36 : jI110 σ27 := jI110_fr (f29 86 (of_decide_eq_true rfl)) (f29 87 (of_decide_eq_true rfl)) hI110
           refine jcallV (As := [.int (xs x16.toNatClampNeg), .int (xs x18.toNatClampNeg), .long lx35]) (rest := []) ⟨hx, hb, hml, hown, hts⟩ hK hP hA hS hZ (c_X12_put l D cI cL ad zz hJ σ27 τ27 (xs x16.toNatClampNeg) ((xs x16.toNatClampNeg).toInt) rfl (xs x18.toNatClampNeg) ((xs x18.toNatClampNeg).toInt) rfl lx35 (lx35.toInt) rfl I36) cw_RL_151 (jc_55 cI cL ad σ27 τ27) rfl ⟨Nat.le_of_ble_eq_true rfl, Nat.le_of_ble_eq_true rfl⟩ rfl rfl rfl hl.1 rfl (Nat.le_of_ble_eq_true rfl) dL_law_1198 ⟨Nat.le_of_ble_eq_true rfl, Nat.le_of_ble_eq_true rfl⟩ (fun r38 σ37 τ37 H locs h37 hP hS => ?_)
           obtain ⟨f42, f39, w40, w41, h37⟩ := h37
           refine lv_pop hx hb dL_law_1201 rfl ?_
           refine lv_goto (tgt := 1357) hx hb dL_law_1202 (of_decide_eq_true rfl) ?_
           obtain ⟨x43, ex43⟩ : ∃ y : Int32, y = x0 + 6 := ⟨_, rfl⟩
           have tx43 : x43.toInt = x0.toInt + 6 := (jadd ex43 rfl jz_6 (by omega) (by omega)).trans (by omega)
           exact by
            refine lv_iinc (v := x43) (lv' := [(3, .int x43), (2, .ref (ad 55)), (1, .ref (ad 0)), (0, .ref b)]) hx hb dL_law_1357 hl (k := 0) rfl (by rw [ex43]; rfl) (of_decide_eq_true rfl) rfl (fun ls hl => ?_)
            refine lv_goto (tgt := 18) hx hb dL_law_1360 (of_decide_eq_true rfl) ?_
            have I44 : jI2 σ37 := jI2_fr ((congrFun (f39 2 (of_decide_eq_true rfl)) 0).trans (congrFun (f29 2 (of_decide_eq_true rfl)) 0)) ((congrFun (f39 2 (of_decide_eq_true rfl)) 1).trans (congrFun (f29 2 (of_decide_eq_true rfl)) 1)) ((congrFun (f39 2 (of_decide_eq_true rfl)) 2).trans (congrFun (f29 2 (of_decide_eq_true rfl)) 2)) ((congrFun (f39 2 (of_decide_eq_true rfl)) 3).trans (congrFun (f29 2 (of_decide_eq_true rfl)) 3)) ((f39 6 (of_decide_eq_true rfl)).trans (f29 6 (of_decide_eq_true rfl))) hI2
            have I45 : jI9 σ37 := jI9_fr ((congrFun (f39 9 (of_decide_eq_true rfl)) 0).trans (congrFun (f29 9 (of_decide_eq_true rfl)) 0)) ((f39 10 (of_decide_eq_true rfl)).trans (f29 10 (of_decide_eq_true rfl))) ((f39 11 (of_decide_eq_true rfl)).trans (f29 11 (of_decide_eq_true rfl))) hI9
            have I46 : jI12 σ37 := jI12_fr ((congrFun (f39 12 (of_decide_eq_true rfl)) 0).trans (congrFun (f29 12 (of_decide_eq_true rfl)) 0)) ((f39 13 (of_decide_eq_true rfl)).trans (f29 13 (of_decide_eq_true rfl))) hI12
            have I47 : jI16 σ37 := jI16_fr ((congrFun (f39 16 (of_decide_eq_true rfl)) 0).trans (congrFun (f29 16 (of_decide_eq_true rfl)) 0)) ((congrFun (f39 16 (of_decide_eq_true rfl)) 1).trans (congrFun (f29 16 (of_decide_eq_true rfl)) 1)) ((congrFun (f39 16 (of_decide_eq_true rfl)) 2).trans (congrFun (f29 16 (of_decide_eq_true rfl)) 2)) ((f39 17 (of_decide_eq_true rfl)).trans (f29 17 (of_decide_eq_true rfl))) hI16
            have I48 : jI18 σ37 := jI18_fr ((congrFun (f39 18 (of_decide_eq_true rfl)) 0).trans (congrFun (f29 18 (of_decide_eq_true rfl)) 0)) ((f39 19 (of_decide_eq_true rfl)).trans (f29 19 (of_decide_eq_true rfl))) hI18
            have I49 : jI22 σ37 := jI22_fr ((congrFun (f39 22 (of_decide_eq_true rfl)) 0).trans (congrFun (f29 22 (of_decide_eq_true rfl)) 0)) ((f39 23 (of_decide_eq_true rfl)).trans (f29 23 (of_decide_eq_true rfl))) hI22
            have I50 : jI31 σ37 := jI31_fr ((congrFun (f39 31 (of_decide_eq_true rfl)) 8).trans (congrFun (f29 31 (of_decide_eq_true rfl)) 8)) ((f39 33 (of_decide_eq_true rfl)).trans (f29 33 (of_decide_eq_true rfl))) ((f39 36 (of_decide_eq_true rfl)).trans (f29 36 (of_decide_eq_true rfl))) hI31
            have I51 : jI38 σ37 := jI38_fr ((congrFun (f39 38 (of_decide_eq_true rfl)) 0).trans (congrFun (f29 38 (of_decide_eq_true rfl)) 0)) ((congrFun (f39 38 (of_decide_eq_true rfl)) 1).trans (congrFun (f29 38 (of_decide_eq_true rfl)) 1)) ((f39 39 (of_decide_eq_true rfl)).trans (f29 39 (of_decide_eq_true rfl))) hI38
            have I52 : jI43 σ37 := jI43_fr ((congrFun (f39 43 (of_decide_eq_true rfl)) 8).trans (congrFun (f29 43 (of_decide_eq_true rfl)) 8)) hI43
            have I53 : jI47 σ37 := jI47_fr ((congrFun (f39 47 (of_decide_eq_true rfl)) 0).trans (congrFun (f29 47 (of_decide_eq_true rfl)) 0)) ((f39 48 (of_decide_eq_true rfl)).trans (f29 48 (of_decide_eq_true rfl))) ((f39 49 (of_decide_eq_true rfl)).trans (f29 49 (of_decide_eq_true rfl))) hI47
            have I54 : jI50 σ37 := jI50_fr ((f39 52 (of_decide_eq_true rfl)).trans (f29 52 (of_decide_eq_true rfl))) hI50
            have I55 : jI101 σ37 := jI101_fr ((congrFun (f39 55 (of_decide_eq_true rfl)) 4).trans (congrFun (f29 55 (of_decide_eq_true rfl)) 4)) ((congrFun (f39 55 (of_decide_eq_true rfl)) 5).trans (congrFun (f29 55 (of_decide_eq_true rfl)) 5)) ((f39 56 (of_decide_eq_true rfl)).trans (f29 56 (of_decide_eq_true rfl))) ((f39 57 (of_decide_eq_true rfl)).trans (f29 57 (of_decide_eq_true rfl))) ((f39 58 (of_decide_eq_true rfl)).trans (f29 58 (of_decide_eq_true rfl))) ((f39 59 (of_decide_eq_true rfl)).trans (f29 59 (of_decide_eq_true rfl))) hI101
            have I56 : jI102 σ37 := jI102_fr ((congrFun (f39 55 (of_decide_eq_true rfl)) 6).trans (congrFun (f29 55 (of_decide_eq_true rfl)) 6)) ((f39 60 (of_decide_eq_true rfl)).trans (f29 60 (of_decide_eq_true rfl))) ((f39 61 (of_decide_eq_true rfl)).trans (f29 61 (of_decide_eq_true rfl))) hI102
            have I57 : jI103 σ37 := jI103_fr ((congrFun (f39 55 (of_decide_eq_true rfl)) 9).trans (congrFun (f29 55 (of_decide_eq_true rfl)) 9)) hI103
            have I58 : jI104 σ37 := jI104_fr ((congrFun (f39 55 (of_decide_eq_true rfl)) 10).trans (congrFun (f29 55 (of_decide_eq_true rfl)) 10)) ((congrFun (f39 55 (of_decide_eq_true rfl)) 12).trans (congrFun (f29 55 (of_decide_eq_true rfl)) 12)) ((congrFun (f39 55 (of_decide_eq_true rfl)) 13).trans (congrFun (f29 55 (of_decide_eq_true rfl)) 13)) ((f39 62 (of_decide_eq_true rfl)).trans (f29 62 (of_decide_eq_true rfl))) ((f39 67 (of_decide_eq_true rfl)).trans (f29 67 (of_decide_eq_true rfl))) hI104
            have I59 : jI105 σ37 := jI105_fr ((congrFun (f39 55 (of_decide_eq_true rfl)) 15).trans (congrFun (f29 55 (of_decide_eq_true rfl)) 15)) ((f39 65 (of_decide_eq_true rfl)).trans (f29 65 (of_decide_eq_true rfl))) hI105
            have I60 : jI106 σ37 := jI106_fr ((congrFun (f39 55 (of_decide_eq_true rfl)) 32).trans (congrFun (f29 55 (of_decide_eq_true rfl)) 32)) ((f39 70 (of_decide_eq_true rfl)).trans (f29 70 (of_decide_eq_true rfl))) ((f39 71 (of_decide_eq_true rfl)).trans (f29 71 (of_decide_eq_true rfl))) ((f39 72 (of_decide_eq_true rfl)).trans (f29 72 (of_decide_eq_true rfl))) hI106
            have I61 : jI107 σ37 := jI107_fr ((congrFun (f39 55 (of_decide_eq_true rfl)) 12).trans (congrFun (f29 55 (of_decide_eq_true rfl)) 12)) ((congrFun (f39 55 (of_decide_eq_true rfl)) 47).trans (congrFun (f29 55 (of_decide_eq_true rfl)) 47)) ((f39 80 (of_decide_eq_true rfl)).trans (f29 80 (of_decide_eq_true rfl))) hI107
            have I62 : jI109 σ37 := jI109_fr ((congrFun (f39 55 (of_decide_eq_true rfl)) 50).trans (congrFun (f29 55 (of_decide_eq_true rfl)) 50)) hI109
            have I63 : jI110 σ37 := jI110_fr (f39 86 (of_decide_eq_true rfl)) (f39 87 (of_decide_eq_true rfl)) I36
            have I64 : jI111 σ37 := jI111_fr ((f39 79 (of_decide_eq_true rfl)).trans (f29 79 (of_decide_eq_true rfl))) hI111
            have I65 : jI119 σ37 := jI119_fr ((f39 68 (of_decide_eq_true rfl)).trans (f29 68 (of_decide_eq_true rfl))) hI119
            have p66 : jKept σ37 := jKept.fr ((f39 75 (of_decide_eq_true rfl)).trans (f29 75 (of_decide_eq_true rfl))) ((f39 76 (of_decide_eq_true rfl)).trans (f29 76 (of_decide_eq_true rfl))) ((f39 77 (of_decide_eq_true rfl)).trans (f29 77 (of_decide_eq_true rfl))) hs_jKept
            have p67 : jBook σ37 := jBook.fr ((congrFun (f39 55 (of_decide_eq_true rfl)) 47).trans (congrFun (f29 55 (of_decide_eq_true rfl)) 47)) ((congrFun (f39 55 (of_decide_eq_true rfl)) 10).trans (congrFun (f29 55 (of_decide_eq_true rfl)) 10)) ((f39 81 (of_decide_eq_true rfl)).trans (f29 81 (of_decide_eq_true rfl))) hs_jBook
            have z68 : (σ37 9 0).toInt = (σ 9 0).toInt := (congrArg Int32.toInt (show σ37 9 0 = (σ 9 0) from ((congrFun (f39 9 (of_decide_eq_true rfl)) 0).trans (congrFun (f29 9 (of_decide_eq_true rfl)) 0))))
            have z69 : (σ37 55 15).toInt = (σ 55 15).toInt := (congrArg Int32.toInt (show σ37 55 15 = (σ 55 15) from ((congrFun (f39 55 (of_decide_eq_true rfl)) 15).trans (congrFun (f29 55 (of_decide_eq_true rfl)) 15))))
            have z70 : (σ37 16 0).toInt = (σ 16 0).toInt := (congrArg Int32.toInt (show σ37 16 0 = (σ 16 0) from ((congrFun (f39 16 (of_decide_eq_true rfl)) 0).trans (congrFun (f29 16 (of_decide_eq_true rfl)) 0))))
            have z71 : (σ37 55 10).toInt = (σ 55 10).toInt := (congrArg Int32.toInt (show σ37 55 10 = (σ 55 10) from ((congrFun (f39 55 (of_decide_eq_true rfl)) 10).trans (congrFun (f29 55 (of_decide_eq_true rfl)) 10))))
            have z72 : (σ37 16 1).toInt = (σ 16 1).toInt := (congrArg Int32.toInt (show σ37 16 1 = (σ 16 1) from ((congrFun (f39 16 (of_decide_eq_true rfl)) 1).trans (congrFun (f29 16 (of_decide_eq_true rfl)) 1))))
            have z73 : (σ37 55 12).toInt = (σ 55 12).toInt := (congrArg Int32.toInt (show σ37 55 12 = (σ 55 12) from ((congrFun (f39 55 (of_decide_eq_true rfl)) 12).trans (congrFun (f29 55 (of_decide_eq_true rfl)) 12))))
            have z74 : (σ37 16 2).toInt = (σ 16 2).toInt := (congrArg Int32.toInt (show σ37 16 2 = (σ 16 2) from ((congrFun (f39 16 (of_decide_eq_true rfl)) 2).trans (congrFun (f29 16 (of_decide_eq_true rfl)) 2))))
            have z75 : (σ37 55 13).toInt = (σ 55 13).toInt := (congrArg Int32.toInt (show σ37 55 13 = (σ 55 13) from ((congrFun (f39 55 (of_decide_eq_true rfl)) 13).trans (congrFun (f29 55 (of_decide_eq_true rfl)) 13))))
            exact by exact ih x43 σ37 τ37 _ _ ls (by have h9 := tx43; omega) ⟨I44, I45, I46, I47, I48, I49, I50, I51, I52, I53, I54, I55, I56, I57, I58, I59, I60, I61, I62, I63, I64, I65, p66, p67, (by omega), (by omega), (by omega), (by omega), (show jTp (σ37 10) (σ37 63) (σ37 55 15).toInt by rw [show σ37 10 = σ 10 from ((f39 10 (of_decide_eq_true rfl)).trans (f29 10 (of_decide_eq_true rfl))), show σ37 63 = σ 63 from ((f39 63 (of_decide_eq_true rfl)).trans (f29 63 (of_decide_eq_true rfl)))]; exact hr0.le (by omega)), (show jSo (σ37 17) (σ37 62) (σ37 16 0).toInt by rw [show σ37 17 = σ 17 from ((f39 17 (of_decide_eq_true rfl)).trans (f29 17 (of_decide_eq_true rfl))), show σ37 62 = σ 62 from ((f39 62 (of_decide_eq_true rfl)).trans (f29 62 (of_decide_eq_true rfl))), show (σ37 16 0).toInt = (σ 16 0).toInt from by omega]; exact hr1)⟩ hP hS (lv_sub hl [0, 1, 2, 3] rfl)
set_option maxHeartbeats 4000000 in
set_option maxRecDepth 100000 in
theorem law_case_33 {p : Program} {e : Env} {s : State} {m : MethodId} {below : List Frame} {meth : Method} {c : Code} (l : Launch) {b L : Nat} {xs : Nat → Int32} {D : va_G} {cI cL : ClassId} {ad zz : Nat → Nat} (C0 : lw_At p s m meth c b L xs) (hJ : jD ad) (hA : ∀ q, jA ad q → s.heap.size ≤ q) (hK : jK D cI cL s) (hZ : jZ zz (fun q : Nat => s.heap.size ≤ q) s s.heap) {x0 : Int32} (hx0 : 0 ≤ x0.toInt) (hxL : x0.toInt + 6 ≤ (L : Int)) (hL : L ≤ 384) {σ : Nat → Nat → Int32} {τ : Nat → Nat → Int64} {H : Heap} {locs : List Loc} (hS : va_S (fun q : Nat => s.heap.size ≤ q) s.heap H locs) {ls : Array Slot} (hAll : jAll σ τ) (hP : jH D cI cL ad σ τ H) (hl : lv_has ls 4 [(3, .int x0), (2, .ref (ad 55)), (1, .ref (ad 0)), (0, .ref b)]) (ih : ∀ (x1 : Int32) (σ : Nat → Nat → Int32) (τ : Nat → Nat → Int64) (H : Heap) (locs : List Loc) (ls : Array Slot), x1.toInt = x0.toInt + 6 → jAll σ τ → jH D cI cL ad σ τ H → va_S (fun q : Nat => s.heap.size ≤ q) s.heap H locs → lv_has ls 4 [(3, .int x1), (2, .ref (ad 55)), (1, .ref (ad 0)), (0, .ref b)] → W p l e room_1 s m #[Value.ref b] below meth c H locs 90 348600 (lw_Z below #[Value.ref b] s) (F0 m 18 ls [])) : W p l e room_1 s m #[Value.ref b] below meth c H locs 90 348600 (lw_Z below #[Value.ref b] s) (F0 m 1205 ls []) := by
  obtain ⟨hx, hb, hr, hml, hown, hts0, hX, hbl, hlocks, hgv⟩ := C0
  have hts : ∀ w ∈ wsL_law, w.before #[Value.ref b] s = true := fun w h => hts0 w (wsL_law_in w h)
  have hbA : ¬ (fun q : Nat => s.heap.size ≤ q) b := Nat.not_le.mpr hbl
  have hown : s.vm.findClass RL = some m.cls := hown
  obtain ⟨hI2, hI9, hI12, hI16, hI18, hI22, hI31, hI38, hI43, hI47, hI50, hI101, hI102, hI103, hI104, hI105, hI106, hI107, hI109, hI110, hI111, hI119, hs_jKept, hs_jBook, ht0, ht1, ht2, ht3, hr0, hr1⟩ := hAll
  have hL9 : (L : Int) ≤ 384 := by omega
  obtain ⟨i1, w2, w3⟩ : (0 ≤ (σ 9 0).toInt ∧ (σ 9 0).toInt ≤ 80) ∧ (∀ k : Nat, k < 80 → 0 ≤ (σ 10 k).toInt ∧ (σ 10 k).toInt ≤ 255) ∧ (∀ k : Nat, k < 8 → 0 ≤ (σ 11 k).toInt ∧ (σ 11 k).toInt ≤ 3) := id hI9
  obtain ⟨i4, i5, i6, w7⟩ : (1 ≤ (σ 16 0).toInt ∧ (σ 16 0).toInt ≤ 8) ∧ (1 ≤ (σ 16 1).toInt ∧ (σ 16 1).toInt ≤ 12) ∧ (0 ≤ (σ 16 2).toInt ∧ (σ 16 2).toInt ≤ 999) ∧ (∀ k : Nat, k < 8 → 0 ≤ (σ 17 k).toInt ∧ (σ 17 k).toInt ≤ 3) := id hI16
  obtain ⟨i8, i9, i10, w11, w12⟩ : (1 ≤ (σ 55 10).toInt ∧ (σ 55 10).toInt ≤ 8) ∧ (1 ≤ (σ 55 12).toInt ∧ (σ 55 12).toInt ≤ 12) ∧ (0 ≤ (σ 55 13).toInt ∧ (σ 55 13).toInt ≤ 999) ∧ (∀ k : Nat, k < 8 → 0 ≤ (σ 62 k).toInt ∧ (σ 62 k).toInt ≤ 3) ∧ (∀ k : Nat, k < 8 → 0 ≤ (σ 67 k).toInt ∧ (σ 67 k).toInt ≤ 3) := id hI104
  obtain ⟨i13, w14⟩ : (0 ≤ (σ 55 15).toInt ∧ (σ 55 15).toInt ≤ 80) ∧ (∀ k : Nat, k < 2 → (-1) ≤ (σ 65 k).toInt ∧ (σ 65 k).toInt ≤ 80) := id hI105
  refine lv_aload_n hx hb dL_law_1205 rfl (lv_at hl 2 rfl) ?_
  refine lv_aload_n hx hb dL_law_1206 rfl (lv_at hl 3 rfl) ?_
  refine lv_iload_n hx hb dL_law_1207 rfl (lv_at hl 0 rfl) ?_
  refine lv_iconst (v := 1) hx hb dL_law_1208 (of_decide_eq_true rfl) ?_
  have g15 := jrg (rfl : x0.toInt = x0.toInt)
  refine lv_iadd hx hb dL_law_1209 ?_
  refine lv_topi (fun x16 ex16 => ?_)
  exact by
   have tx16 : x16.toInt = x0.toInt + 1 := (jadd ex16 rfl jz_1 (by omega) (by omega)).trans (by omega)
   refine va_sld hx hb hX hbl hbA hS (jin tx16 (by omega) (by omega)) dL_law_1210 ?_
   have g17 := jrg (rfl : (xs x16.toNatClampNeg).toInt = (xs x16.toNatClampNeg).toInt)
   refine lv_aload_n hx hb dL_law_1211 rfl (lv_at hl 3 rfl) ?_
   refine lv_iload_n hx hb dL_law_1212 rfl (lv_at hl 0 rfl) ?_
   refine lv_iconst (v := 2) hx hb dL_law_1213 (of_decide_eq_true rfl) ?_
   refine lv_iadd hx hb dL_law_1214 ?_
   refine lv_topi (fun x18 ex18 => ?_)
   have tx18 : x18.toInt = x0.toInt + 2 := (jadd ex18 rfl jz_2 (by omega) (by omega)).trans (by omega)
   exact by
    refine va_sld hx hb hX hbl hbA hS (jin tx18 (by omega) (by omega)) dL_law_1215 ?_
    have g19 := jrg (rfl : (xs x18.toNatClampNeg).toInt = (xs x18.toNatClampNeg).toInt)
    refine jcallVl (As := [.int (xs x16.toNatClampNeg), .int (xs x18.toNatClampNeg)]) (rest := []) ⟨hx, hb, hml, hown, hts⟩ hK hP hA hS hZ (c_X11_element l D cI cL ad zz hJ σ τ (xs x16.toNatClampNeg) ((xs x16.toNatClampNeg).toInt) rfl (xs x18.toNatClampNeg) ((xs x18.toNatClampNeg).toInt) rfl hI50) cw_RL_152 (jc_0 cI cL ad σ τ) rfl ⟨Nat.le_of_ble_eq_true rfl, Nat.le_of_ble_eq_true rfl⟩ rfl rfl rfl hl.1 rfl (Nat.le_of_ble_eq_true rfl) dL_law_1216 ⟨Nat.le_of_ble_eq_true rfl, Nat.le_of_ble_eq_true rfl⟩ (fun lxr21 σ20 τ20 H locs h20 hP hS => ?_)
    obtain ⟨⟨rfl, rfl⟩, w22, h20⟩ := h20
    refine lv_pop2_2 hx hb dL_law_1219 rfl ?_
    refine lv_aload_n hx hb dL_law_1220 rfl (lv_at hl 1 rfl) ?_
    refine lv_aload_n hx hb dL_law_1221 rfl (lv_at hl 3 rfl) ?_
    refine lv_iload_n hx hb dL_law_1222 rfl (lv_at hl 0 rfl) ?_
    refine lv_iconst (v := 1) hx hb dL_law_1223 (of_decide_eq_true rfl) ?_
    refine lv_iadd hx hb dL_law_1224 ?_
    refine jtopr ex16.symm ?_
    exact by
     refine va_sld hx hb hX hbl hbA hS (jin tx16 (by omega) (by omega)) dL_law_1225 ?_
     refine lv_aload_n hx hb dL_law_1226 rfl (lv_at hl 3 rfl) ?_
     refine lv_iload_n hx hb dL_law_1227 rfl (lv_at hl 0 rfl) ?_
     refine lv_iconst (v := 2) hx hb dL_law_1228 (of_decide_eq_true rfl) ?_
     refine lv_iadd hx hb dL_law_1229 ?_
     refine jtopr ex18.symm ?_
     refine va_sld hx hb hX hbl hbA hS (jin tx18 (by omega) (by omega)) dL_law_1230 ?_
     refine jcallVl (As := [.int (xs x16.toNatClampNeg), .int (xs x18.toNatClampNeg)]) (rest := []) ⟨hx, hb, hml, hown, hts⟩ hK hP hA hS hZ (c_X12_element l D cI cL ad zz hJ σ τ (xs x16.toNatClampNeg) ((xs x16.toNatClampNeg).toInt) rfl (xs x18.toNatClampNeg) ((xs x18.toNatClampNeg).toInt) rfl hI110) cw_RL_156 (jc_55 cI cL ad σ τ) rfl ⟨Nat.le_of_ble_eq_true rfl, Nat.le_of_ble_eq_true rfl⟩ rfl rfl rfl hl.1 rfl (Nat.le_of_ble_eq_true rfl) dL_law_1231 ⟨Nat.le_of_ble_eq_true rfl, Nat.le_of_ble_eq_true rfl⟩ (fun lxr24 σ23 τ23 H locs h23 hP hS => ?_)
     obtain ⟨⟨rfl, rfl⟩, w25, h23⟩ := h23
     exact by
      refine lv_pop2_2 hx hb dL_law_1234 rfl ?_
      refine lv_goto (tgt := 1357) hx hb dL_law_1235 (of_decide_eq_true rfl) ?_
      obtain ⟨x26, ex26⟩ : ∃ y : Int32, y = x0 + 6 := ⟨_, rfl⟩
      have tx26 : x26.toInt = x0.toInt + 6 := (jadd ex26 rfl jz_6 (by omega) (by omega)).trans (by omega)
      refine lv_iinc (v := x26) (lv' := [(3, .int x26), (2, .ref (ad 55)), (1, .ref (ad 0)), (0, .ref b)]) hx hb dL_law_1357 hl (k := 0) rfl (by rw [ex26]; rfl) (of_decide_eq_true rfl) rfl (fun ls hl => ?_)
      refine lv_goto (tgt := 18) hx hb dL_law_1360 (of_decide_eq_true rfl) ?_
      exact by exact ih x26 σ τ _ _ ls (by have h9 := tx26; omega) ⟨hI2, hI9, hI12, hI16, hI18, hI22, hI31, hI38, hI43, hI47, hI50, hI101, hI102, hI103, hI104, hI105, hI106, hI107, hI109, hI110, hI111, hI119, hs_jKept, hs_jBook, (by omega), (by omega), (by omega), (by omega), hr0, hr1⟩ hP hS (lv_sub hl [0, 1, 2, 3] rfl)
set_option maxHeartbeats 4000000 in
set_option maxRecDepth 100000 in
theorem law_case_34 {p : Program} {e : Env} {s : State} {m : MethodId} {below : List Frame} {meth : Method} {c : Code} (l : Launch) {b L : Nat} {xs : Nat → Int32} {D : va_G} {cI cL : ClassId} {ad zz : Nat → Nat} (C0 : lw_At p s m meth c b L xs) (hJ : jD ad) (hA : ∀ q, jA ad q → s.heap.size ≤ q) (hK : jK D cI cL s) (hZ : jZ zz (fun q : Nat => s.heap.size ≤ q) s s.heap) {x0 : Int32} (hx0 : 0 ≤ x0.toInt) (hxL : x0.toInt + 6 ≤ (L : Int)) (hL : L ≤ 384) {σ : Nat → Nat → Int32} {τ : Nat → Nat → Int64} {H : Heap} {locs : List Loc} (hS : va_S (fun q : Nat => s.heap.size ≤ q) s.heap H locs) {ls : Array Slot} (hAll : jAll σ τ) (hP : jH D cI cL ad σ τ H) (hl : lv_has ls 4 [(3, .int x0), (2, .ref (ad 55)), (1, .ref (ad 0)), (0, .ref b)]) (ih : ∀ (x1 : Int32) (σ : Nat → Nat → Int32) (τ : Nat → Nat → Int64) (H : Heap) (locs : List Loc) (ls : Array Slot), x1.toInt = x0.toInt + 6 → jAll σ τ → jH D cI cL ad σ τ H → va_S (fun q : Nat => s.heap.size ≤ q) s.heap H locs → lv_has ls 4 [(3, .int x1), (2, .ref (ad 55)), (1, .ref (ad 0)), (0, .ref b)] → W p l e room_1 s m #[Value.ref b] below meth c H locs 90 348600 (lw_Z below #[Value.ref b] s) (F0 m 18 ls [])) : W p l e room_1 s m #[Value.ref b] below meth c H locs 90 348600 (lw_Z below #[Value.ref b] s) (F0 m 1238 ls []) := by
  obtain ⟨hx, hb, hr, hml, hown, hts0, hX, hbl, hlocks, hgv⟩ := C0
  have hts : ∀ w ∈ wsL_law, w.before #[Value.ref b] s = true := fun w h => hts0 w (wsL_law_in w h)
  have hbA : ¬ (fun q : Nat => s.heap.size ≤ q) b := Nat.not_le.mpr hbl
  have hown : s.vm.findClass RL = some m.cls := hown
  obtain ⟨hI2, hI9, hI12, hI16, hI18, hI22, hI31, hI38, hI43, hI47, hI50, hI101, hI102, hI103, hI104, hI105, hI106, hI107, hI109, hI110, hI111, hI119, hs_jKept, hs_jBook, ht0, ht1, ht2, ht3, hr0, hr1⟩ := hAll
  have hL9 : (L : Int) ≤ 384 := by omega
  obtain ⟨i1, w2, w3⟩ : (0 ≤ (σ 9 0).toInt ∧ (σ 9 0).toInt ≤ 80) ∧ (∀ k : Nat, k < 80 → 0 ≤ (σ 10 k).toInt ∧ (σ 10 k).toInt ≤ 255) ∧ (∀ k : Nat, k < 8 → 0 ≤ (σ 11 k).toInt ∧ (σ 11 k).toInt ≤ 3) := id hI9
  obtain ⟨i4, i5, i6, w7⟩ : (1 ≤ (σ 16 0).toInt ∧ (σ 16 0).toInt ≤ 8) ∧ (1 ≤ (σ 16 1).toInt ∧ (σ 16 1).toInt ≤ 12) ∧ (0 ≤ (σ 16 2).toInt ∧ (σ 16 2).toInt ≤ 999) ∧ (∀ k : Nat, k < 8 → 0 ≤ (σ 17 k).toInt ∧ (σ 17 k).toInt ≤ 3) := id hI16
  obtain ⟨i8, i9, i10, w11, w12⟩ : (1 ≤ (σ 55 10).toInt ∧ (σ 55 10).toInt ≤ 8) ∧ (1 ≤ (σ 55 12).toInt ∧ (σ 55 12).toInt ≤ 12) ∧ (0 ≤ (σ 55 13).toInt ∧ (σ 55 13).toInt ≤ 999) ∧ (∀ k : Nat, k < 8 → 0 ≤ (σ 62 k).toInt ∧ (σ 62 k).toInt ≤ 3) ∧ (∀ k : Nat, k < 8 → 0 ≤ (σ 67 k).toInt ∧ (σ 67 k).toInt ≤ 3) := id hI104
  obtain ⟨i13, w14⟩ : (0 ≤ (σ 55 15).toInt ∧ (σ 55 15).toInt ≤ 80) ∧ (∀ k : Nat, k < 2 → (-1) ≤ (σ 65 k).toInt ∧ (σ 65 k).toInt ≤ 80) := id hI105
  refine lv_aload_n hx hb dL_law_1238 rfl (lv_at hl 2 rfl) ?_
  refine lv_aload_n hx hb dL_law_1239 rfl (lv_at hl 3 rfl) ?_
  refine lv_iload_n hx hb dL_law_1240 rfl (lv_at hl 0 rfl) ?_
  refine lv_iconst (v := 1) hx hb dL_law_1241 (of_decide_eq_true rfl) ?_
  have g15 := jrg (rfl : x0.toInt = x0.toInt)
  refine lv_iadd hx hb dL_law_1242 ?_
  refine lv_topi (fun x16 ex16 => ?_)
  exact by
   have tx16 : x16.toInt = x0.toInt + 1 := (jadd ex16 rfl jz_1 (by omega) (by omega)).trans (by omega)
   refine va_sld hx hb hX hbl hbA hS (jin tx16 (by omega) (by omega)) dL_law_1243 ?_
   have g17 := jrg (rfl : (xs x16.toNatClampNeg).toInt = (xs x16.toNatClampNeg).toInt)
   refine lv_aload_n hx hb dL_law_1244 rfl (lv_at hl 3 rfl) ?_
   refine lv_iload_n hx hb dL_law_1245 rfl (lv_at hl 0 rfl) ?_
   refine lv_iconst (v := 2) hx hb dL_law_1246 (of_decide_eq_true rfl) ?_
   refine lv_iadd hx hb dL_law_1247 ?_
   refine lv_topi (fun x18 ex18 => ?_)
   have tx18 : x18.toInt = x0.toInt + 2 := (jadd ex18 rfl jz_2 (by omega) (by omega)).trans (by omega)
   exact by
    refine va_sld hx hb hX hbl hbA hS (jin tx18 (by omega) (by omega)) dL_law_1248 ?_
    have g19 := jrg (rfl : (xs x18.toNatClampNeg).toInt = (xs x18.toNatClampNeg).toInt)
    refine lv_aload_n hx hb dL_law_1249 rfl (lv_at hl 3 rfl) ?_
    refine lv_iload_n hx hb dL_law_1250 rfl (lv_at hl 0 rfl) ?_
    refine lv_iconst (v := 3) hx hb dL_law_1251 (of_decide_eq_true rfl) ?_
    refine lv_iadd hx hb dL_law_1252 ?_
    refine lv_topi (fun x20 ex20 => ?_)
    have tx20 : x20.toInt = x0.toInt + 3 := (jadd ex20 rfl jz_3 (by omega) (by omega)).trans (by omega)
    refine va_sld hx hb hX hbl hbA hS (jin tx20 (by omega) (by omega)) dL_law_1253 ?_
    exact by
     have g21 := jrg (rfl : (xs x20.toNatClampNeg).toInt = (xs x20.toNatClampNeg).toInt)
     refine lv_aload_n hx hb dL_law_1254 rfl (lv_at hl 3 rfl) ?_
     refine lv_iload_n hx hb dL_law_1255 rfl (lv_at hl 0 rfl) ?_
     refine lv_iconst (v := 4) hx hb dL_law_1256 (of_decide_eq_true rfl) ?_
     refine lv_iadd hx hb dL_law_1257 ?_
     refine lv_topi (fun x22 ex22 => ?_)
     have tx22 : x22.toInt = x0.toInt + 4 := (jadd ex22 rfl jz_4 (by omega) (by omega)).trans (by omega)
     refine va_sld hx hb hX hbl hbA hS (jin tx22 (by omega) (by omega)) dL_law_1258 ?_
     have g23 := jrg (rfl : (xs x22.toNatClampNeg).toInt = (xs x22.toNatClampNeg).toInt)
     exact by
      refine lv_aload_n hx hb dL_law_1259 rfl (lv_at hl 3 rfl) ?_
      refine lv_iload_n hx hb dL_law_1260 rfl (lv_at hl 0 rfl) ?_
      refine lv_iconst (v := 5) hx hb dL_law_1261 (of_decide_eq_true rfl) ?_
      refine lv_iadd hx hb dL_law_1262 ?_
      refine lv_topi (fun x24 ex24 => ?_)
      have tx24 : x24.toInt = x0.toInt + 5 := (jadd ex24 rfl jz_5 (by omega) (by omega)).trans (by omega)
      refine va_sld hx hb hX hbl hbA hS (jin tx24 (by omega) (by omega)) dL_law_1263 ?_
      have g25 := jrg (rfl : (xs x24.toNatClampNeg).toInt = (xs x24.toNatClampNeg).toInt)
      refine jcallV (As := [.int (xs x16.toNatClampNeg), .int (xs x18.toNatClampNeg), .int (xs x20.toNatClampNeg), .int (xs x22.toNatClampNeg), .int (xs x24.toNatClampNeg)]) (rest := []) ⟨hx, hb, hml, hown, hts⟩ hK hP hA hS hZ (c_X11_shift l D cI cL ad zz hJ σ τ (xs x16.toNatClampNeg) ((xs x16.toNatClampNeg).toInt) rfl (xs x18.toNatClampNeg) ((xs x18.toNatClampNeg).toInt) rfl (xs x20.toNatClampNeg) ((xs x20.toNatClampNeg).toInt) rfl (xs x22.toNatClampNeg) ((xs x22.toNatClampNeg).toInt) rfl (xs x24.toNatClampNeg) ((xs x24.toNatClampNeg).toInt) rfl hI50) cw_RL_157 (jc_0 cI cL ad σ τ) rfl ⟨Nat.le_of_ble_eq_true rfl, Nat.le_of_ble_eq_true rfl⟩ rfl rfl rfl hl.1 rfl (Nat.le_of_ble_eq_true rfl) dL_law_1264 ⟨Nat.le_of_ble_eq_true rfl, Nat.le_of_ble_eq_true rfl⟩ (fun r27 σ26 τ26 H locs h26 hP hS => ?_)
      exact by
       obtain ⟨f31, f28, w29, w30, h26⟩ := h26
       refine lv_pop hx hb dL_law_1267 rfl ?_
       refine lv_aload_n hx hb dL_law_1268 rfl (lv_at hl 1 rfl) ?_
       refine lv_aload_n hx hb dL_law_1269 rfl (lv_at hl 3 rfl) ?_
       refine lv_iload_n hx hb dL_law_1270 rfl (lv_at hl 0 rfl) ?_
       refine lv_iconst (v := 1) hx hb dL_law_1271 (of_decide_eq_true rfl) ?_
       refine lv_iadd hx hb dL_law_1272 ?_
       refine jtopr ex16.symm ?_
       refine va_sld hx hb hX hbl hbA hS (jin tx16 (by omega) (by omega)) dL_law_1273 ?_
       exact by
        refine lv_aload_n hx hb dL_law_1274 rfl (lv_at hl 3 rfl) ?_
        refine lv_iload_n hx hb dL_law_1275 rfl (lv_at hl 0 rfl) ?_
        refine lv_iconst (v := 2) hx hb dL_law_1276 (of_decide_eq_true rfl) ?_
        refine lv_iadd hx hb dL_law_1277 ?_
        refine jtopr ex18.symm ?_
        refine va_sld hx hb hX hbl hbA hS (jin tx18 (by omega) (by omega)) dL_law_1278 ?_
        refine lv_aload_n hx hb dL_law_1279 rfl (lv_at hl 3 rfl) ?_
        refine lv_iload_n hx hb dL_law_1280 rfl (lv_at hl 0 rfl) ?_
        refine lv_iconst (v := 3) hx hb dL_law_1281 (of_decide_eq_true rfl) ?_
        exact by
         refine lv_iadd hx hb dL_law_1282 ?_
         refine jtopr ex20.symm ?_
         refine va_sld hx hb hX hbl hbA hS (jin tx20 (by omega) (by omega)) dL_law_1283 ?_
         refine lv_aload_n hx hb dL_law_1284 rfl (lv_at hl 3 rfl) ?_
         refine lv_iload_n hx hb dL_law_1285 rfl (lv_at hl 0 rfl) ?_
         refine lv_iconst (v := 4) hx hb dL_law_1286 (of_decide_eq_true rfl) ?_
         refine lv_iadd hx hb dL_law_1287 ?_
         refine jtopr ex22.symm ?_
         refine va_sld hx hb hX hbl hbA hS (jin tx22 (by omega) (by omega)) dL_law_1288 ?_
         exact by
          refine lv_aload_n hx hb dL_law_1289 rfl (lv_at hl 3 rfl) ?_
          refine lv_iload_n hx hb dL_law_1290 rfl (lv_at hl 0 rfl) ?_
          refine lv_iconst (v := 5) hx hb dL_law_1291 (of_decide_eq_true rfl) ?_
          refine lv_iadd hx hb dL_law_1292 ?_
          refine jtopr ex24.symm ?_
          refine va_sld hx hb hX hbl hbA hS (jin tx24 (by omega) (by omega)) dL_law_1293 ?_
          have I32 : jI110 σ26 := jI110_fr (f28 86 (of_decide_eq_true rfl)) (f28 87 (of_decide_eq_true rfl)) hI110
          refine jcallV (As := [.int (xs x16.toNatClampNeg), .int (xs x18.toNatClampNeg), .int (xs x20.toNatClampNeg), .int (xs x22.toNatClampNeg), .int (xs x24.toNatClampNeg)]) (rest := []) ⟨hx, hb, hml, hown, hts⟩ hK hP hA hS hZ (c_X12_shift l D cI cL ad zz hJ σ26 τ26 (xs x16.toNatClampNeg) ((xs x16.toNatClampNeg).toInt) rfl (xs x18.toNatClampNeg) ((xs x18.toNatClampNeg).toInt) rfl (xs x20.toNatClampNeg) ((xs x20.toNatClampNeg).toInt) rfl (xs x22.toNatClampNeg) ((xs x22.toNatClampNeg).toInt) rfl (xs x24.toNatClampNeg) ((xs x24.toNatClampNeg).toInt) rfl I32) cw_RL_161 (jc_55 cI cL ad σ26 τ26) rfl ⟨Nat.le_of_ble_eq_true rfl, Nat.le_of_ble_eq_true rfl⟩ rfl rfl rfl hl.1 rfl (Nat.le_of_ble_eq_true rfl) dL_law_1294 ⟨Nat.le_of_ble_eq_true rfl, Nat.le_of_ble_eq_true rfl⟩ (fun r34 σ33 τ33 H locs h33 hP hS => ?_)
          obtain ⟨f38, f35, w36, w37, h33⟩ := h33
          exact by
           refine lv_pop hx hb dL_law_1297 rfl ?_
           refine lv_goto (tgt := 1357) hx hb dL_law_1298 (of_decide_eq_true rfl) ?_
           obtain ⟨x39, ex39⟩ : ∃ y : Int32, y = x0 + 6 := ⟨_, rfl⟩
           have tx39 : x39.toInt = x0.toInt + 6 := (jadd ex39 rfl jz_6 (by omega) (by omega)).trans (by omega)
           refine lv_iinc (v := x39) (lv' := [(3, .int x39), (2, .ref (ad 55)), (1, .ref (ad 0)), (0, .ref b)]) hx hb dL_law_1357 hl (k := 0) rfl (by rw [ex39]; rfl) (of_decide_eq_true rfl) rfl (fun ls hl => ?_)
           refine lv_goto (tgt := 18) hx hb dL_law_1360 (of_decide_eq_true rfl) ?_
           have I40 : jI2 σ33 := jI2_fr ((congrFun (f35 2 (of_decide_eq_true rfl)) 0).trans (congrFun (f28 2 (of_decide_eq_true rfl)) 0)) ((congrFun (f35 2 (of_decide_eq_true rfl)) 1).trans (congrFun (f28 2 (of_decide_eq_true rfl)) 1)) ((congrFun (f35 2 (of_decide_eq_true rfl)) 2).trans (congrFun (f28 2 (of_decide_eq_true rfl)) 2)) ((congrFun (f35 2 (of_decide_eq_true rfl)) 3).trans (congrFun (f28 2 (of_decide_eq_true rfl)) 3)) ((f35 6 (of_decide_eq_true rfl)).trans (f28 6 (of_decide_eq_true rfl))) hI2
           have I41 : jI9 σ33 := jI9_fr ((congrFun (f35 9 (of_decide_eq_true rfl)) 0).trans (congrFun (f28 9 (of_decide_eq_true rfl)) 0)) ((f35 10 (of_decide_eq_true rfl)).trans (f28 10 (of_decide_eq_true rfl))) ((f35 11 (of_decide_eq_true rfl)).trans (f28 11 (of_decide_eq_true rfl))) hI9
           have I42 : jI12 σ33 := jI12_fr ((congrFun (f35 12 (of_decide_eq_true rfl)) 0).trans (congrFun (f28 12 (of_decide_eq_true rfl)) 0)) ((f35 13 (of_decide_eq_true rfl)).trans (f28 13 (of_decide_eq_true rfl))) hI12
           exact by
            have I43 : jI16 σ33 := jI16_fr ((congrFun (f35 16 (of_decide_eq_true rfl)) 0).trans (congrFun (f28 16 (of_decide_eq_true rfl)) 0)) ((congrFun (f35 16 (of_decide_eq_true rfl)) 1).trans (congrFun (f28 16 (of_decide_eq_true rfl)) 1)) ((congrFun (f35 16 (of_decide_eq_true rfl)) 2).trans (congrFun (f28 16 (of_decide_eq_true rfl)) 2)) ((f35 17 (of_decide_eq_true rfl)).trans (f28 17 (of_decide_eq_true rfl))) hI16
            have I44 : jI18 σ33 := jI18_fr ((congrFun (f35 18 (of_decide_eq_true rfl)) 0).trans (congrFun (f28 18 (of_decide_eq_true rfl)) 0)) ((f35 19 (of_decide_eq_true rfl)).trans (f28 19 (of_decide_eq_true rfl))) hI18
            have I45 : jI22 σ33 := jI22_fr ((congrFun (f35 22 (of_decide_eq_true rfl)) 0).trans (congrFun (f28 22 (of_decide_eq_true rfl)) 0)) ((f35 23 (of_decide_eq_true rfl)).trans (f28 23 (of_decide_eq_true rfl))) hI22
            have I46 : jI31 σ33 := jI31_fr ((congrFun (f35 31 (of_decide_eq_true rfl)) 8).trans (congrFun (f28 31 (of_decide_eq_true rfl)) 8)) ((f35 33 (of_decide_eq_true rfl)).trans (f28 33 (of_decide_eq_true rfl))) ((f35 36 (of_decide_eq_true rfl)).trans (f28 36 (of_decide_eq_true rfl))) hI31
            have I47 : jI38 σ33 := jI38_fr ((congrFun (f35 38 (of_decide_eq_true rfl)) 0).trans (congrFun (f28 38 (of_decide_eq_true rfl)) 0)) ((congrFun (f35 38 (of_decide_eq_true rfl)) 1).trans (congrFun (f28 38 (of_decide_eq_true rfl)) 1)) ((f35 39 (of_decide_eq_true rfl)).trans (f28 39 (of_decide_eq_true rfl))) hI38
            have I48 : jI43 σ33 := jI43_fr ((congrFun (f35 43 (of_decide_eq_true rfl)) 8).trans (congrFun (f28 43 (of_decide_eq_true rfl)) 8)) hI43
            have I49 : jI47 σ33 := jI47_fr ((congrFun (f35 47 (of_decide_eq_true rfl)) 0).trans (congrFun (f28 47 (of_decide_eq_true rfl)) 0)) ((f35 48 (of_decide_eq_true rfl)).trans (f28 48 (of_decide_eq_true rfl))) ((f35 49 (of_decide_eq_true rfl)).trans (f28 49 (of_decide_eq_true rfl))) hI47
            have I50 : jI50 σ33 := jI50_fr ((f35 52 (of_decide_eq_true rfl)).trans (f28 52 (of_decide_eq_true rfl))) hI50
            have I51 : jI101 σ33 := jI101_fr ((congrFun (f35 55 (of_decide_eq_true rfl)) 4).trans (congrFun (f28 55 (of_decide_eq_true rfl)) 4)) ((congrFun (f35 55 (of_decide_eq_true rfl)) 5).trans (congrFun (f28 55 (of_decide_eq_true rfl)) 5)) ((f35 56 (of_decide_eq_true rfl)).trans (f28 56 (of_decide_eq_true rfl))) ((f35 57 (of_decide_eq_true rfl)).trans (f28 57 (of_decide_eq_true rfl))) ((f35 58 (of_decide_eq_true rfl)).trans (f28 58 (of_decide_eq_true rfl))) ((f35 59 (of_decide_eq_true rfl)).trans (f28 59 (of_decide_eq_true rfl))) hI101
            have I52 : jI102 σ33 := jI102_fr ((congrFun (f35 55 (of_decide_eq_true rfl)) 6).trans (congrFun (f28 55 (of_decide_eq_true rfl)) 6)) ((f35 60 (of_decide_eq_true rfl)).trans (f28 60 (of_decide_eq_true rfl))) ((f35 61 (of_decide_eq_true rfl)).trans (f28 61 (of_decide_eq_true rfl))) hI102
            have I53 : jI103 σ33 := jI103_fr ((congrFun (f35 55 (of_decide_eq_true rfl)) 9).trans (congrFun (f28 55 (of_decide_eq_true rfl)) 9)) hI103
            have I54 : jI104 σ33 := jI104_fr ((congrFun (f35 55 (of_decide_eq_true rfl)) 10).trans (congrFun (f28 55 (of_decide_eq_true rfl)) 10)) ((congrFun (f35 55 (of_decide_eq_true rfl)) 12).trans (congrFun (f28 55 (of_decide_eq_true rfl)) 12)) ((congrFun (f35 55 (of_decide_eq_true rfl)) 13).trans (congrFun (f28 55 (of_decide_eq_true rfl)) 13)) ((f35 62 (of_decide_eq_true rfl)).trans (f28 62 (of_decide_eq_true rfl))) ((f35 67 (of_decide_eq_true rfl)).trans (f28 67 (of_decide_eq_true rfl))) hI104
            have I55 : jI105 σ33 := jI105_fr ((congrFun (f35 55 (of_decide_eq_true rfl)) 15).trans (congrFun (f28 55 (of_decide_eq_true rfl)) 15)) ((f35 65 (of_decide_eq_true rfl)).trans (f28 65 (of_decide_eq_true rfl))) hI105
            have I56 : jI106 σ33 := jI106_fr ((congrFun (f35 55 (of_decide_eq_true rfl)) 32).trans (congrFun (f28 55 (of_decide_eq_true rfl)) 32)) ((f35 70 (of_decide_eq_true rfl)).trans (f28 70 (of_decide_eq_true rfl))) ((f35 71 (of_decide_eq_true rfl)).trans (f28 71 (of_decide_eq_true rfl))) ((f35 72 (of_decide_eq_true rfl)).trans (f28 72 (of_decide_eq_true rfl))) hI106
            have I57 : jI107 σ33 := jI107_fr ((congrFun (f35 55 (of_decide_eq_true rfl)) 12).trans (congrFun (f28 55 (of_decide_eq_true rfl)) 12)) ((congrFun (f35 55 (of_decide_eq_true rfl)) 47).trans (congrFun (f28 55 (of_decide_eq_true rfl)) 47)) ((f35 80 (of_decide_eq_true rfl)).trans (f28 80 (of_decide_eq_true rfl))) hI107
            have I58 : jI109 σ33 := jI109_fr ((congrFun (f35 55 (of_decide_eq_true rfl)) 50).trans (congrFun (f28 55 (of_decide_eq_true rfl)) 50)) hI109
            have I59 : jI110 σ33 := jI110_fr (f35 86 (of_decide_eq_true rfl)) (f35 87 (of_decide_eq_true rfl)) I32
            have I60 : jI111 σ33 := jI111_fr ((f35 79 (of_decide_eq_true rfl)).trans (f28 79 (of_decide_eq_true rfl))) hI111
            have I61 : jI119 σ33 := jI119_fr ((f35 68 (of_decide_eq_true rfl)).trans (f28 68 (of_decide_eq_true rfl))) hI119
            have p62 : jKept σ33 := jKept.fr ((f35 75 (of_decide_eq_true rfl)).trans (f28 75 (of_decide_eq_true rfl))) ((f35 76 (of_decide_eq_true rfl)).trans (f28 76 (of_decide_eq_true rfl))) ((f35 77 (of_decide_eq_true rfl)).trans (f28 77 (of_decide_eq_true rfl))) hs_jKept
            have p63 : jBook σ33 := jBook.fr ((congrFun (f35 55 (of_decide_eq_true rfl)) 47).trans (congrFun (f28 55 (of_decide_eq_true rfl)) 47)) ((congrFun (f35 55 (of_decide_eq_true rfl)) 10).trans (congrFun (f28 55 (of_decide_eq_true rfl)) 10)) ((f35 81 (of_decide_eq_true rfl)).trans (f28 81 (of_decide_eq_true rfl))) hs_jBook
            have z64 : (σ33 9 0).toInt = (σ 9 0).toInt := (congrArg Int32.toInt (show σ33 9 0 = (σ 9 0) from ((congrFun (f35 9 (of_decide_eq_true rfl)) 0).trans (congrFun (f28 9 (of_decide_eq_true rfl)) 0))))
            have z65 : (σ33 55 15).toInt = (σ 55 15).toInt := (congrArg Int32.toInt (show σ33 55 15 = (σ 55 15) from ((congrFun (f35 55 (of_decide_eq_true rfl)) 15).trans (congrFun (f28 55 (of_decide_eq_true rfl)) 15))))
            have z66 : (σ33 16 0).toInt = (σ 16 0).toInt := (congrArg Int32.toInt (show σ33 16 0 = (σ 16 0) from ((congrFun (f35 16 (of_decide_eq_true rfl)) 0).trans (congrFun (f28 16 (of_decide_eq_true rfl)) 0))))
            have z67 : (σ33 55 10).toInt = (σ 55 10).toInt := (congrArg Int32.toInt (show σ33 55 10 = (σ 55 10) from ((congrFun (f35 55 (of_decide_eq_true rfl)) 10).trans (congrFun (f28 55 (of_decide_eq_true rfl)) 10))))
            have z68 : (σ33 16 1).toInt = (σ 16 1).toInt := (congrArg Int32.toInt (show σ33 16 1 = (σ 16 1) from ((congrFun (f35 16 (of_decide_eq_true rfl)) 1).trans (congrFun (f28 16 (of_decide_eq_true rfl)) 1))))
            have z69 : (σ33 55 12).toInt = (σ 55 12).toInt := (congrArg Int32.toInt (show σ33 55 12 = (σ 55 12) from ((congrFun (f35 55 (of_decide_eq_true rfl)) 12).trans (congrFun (f28 55 (of_decide_eq_true rfl)) 12))))
            have z70 : (σ33 16 2).toInt = (σ 16 2).toInt := (congrArg Int32.toInt (show σ33 16 2 = (σ 16 2) from ((congrFun (f35 16 (of_decide_eq_true rfl)) 2).trans (congrFun (f28 16 (of_decide_eq_true rfl)) 2))))
            have z71 : (σ33 55 13).toInt = (σ 55 13).toInt := (congrArg Int32.toInt (show σ33 55 13 = (σ 55 13) from ((congrFun (f35 55 (of_decide_eq_true rfl)) 13).trans (congrFun (f28 55 (of_decide_eq_true rfl)) 13))))
            exact by exact ih x39 σ33 τ33 _ _ ls (by have h9 := tx39; omega) ⟨I40, I41, I42, I43, I44, I45, I46, I47, I48, I49, I50, I51, I52, I53, I54, I55, I56, I57, I58, I59, I60, I61, p62, p63, (by omega), (by omega), (by omega), (by omega), (show jTp (σ33 10) (σ33 63) (σ33 55 15).toInt by rw [show σ33 10 = σ 10 from ((f35 10 (of_decide_eq_true rfl)).trans (f28 10 (of_decide_eq_true rfl))), show σ33 63 = σ 63 from ((f35 63 (of_decide_eq_true rfl)).trans (f28 63 (of_decide_eq_true rfl)))]; exact hr0.le (by omega)), (show jSo (σ33 17) (σ33 62) (σ33 16 0).toInt by rw [show σ33 17 = σ 17 from ((f35 17 (of_decide_eq_true rfl)).trans (f28 17 (of_decide_eq_true rfl))), show σ33 62 = σ 62 from ((f35 62 (of_decide_eq_true rfl)).trans (f28 62 (of_decide_eq_true rfl))), show (σ33 16 0).toInt = (σ 16 0).toInt from by omega]; exact hr1)⟩ hP hS (lv_sub hl [0, 1, 2, 3] rfl)
set_option maxHeartbeats 4000000 in
set_option maxRecDepth 100000 in
theorem law_case_35 {p : Program} {e : Env} {s : State} {m : MethodId} {below : List Frame} {meth : Method} {c : Code} (l : Launch) {b L : Nat} {xs : Nat → Int32} {D : va_G} {cI cL : ClassId} {ad zz : Nat → Nat} (C0 : lw_At p s m meth c b L xs) (hJ : jD ad) (hA : ∀ q, jA ad q → s.heap.size ≤ q) (hK : jK D cI cL s) (hZ : jZ zz (fun q : Nat => s.heap.size ≤ q) s s.heap) {x0 : Int32} (hx0 : 0 ≤ x0.toInt) (hxL : x0.toInt + 6 ≤ (L : Int)) (hL : L ≤ 384) {σ : Nat → Nat → Int32} {τ : Nat → Nat → Int64} {H : Heap} {locs : List Loc} (hS : va_S (fun q : Nat => s.heap.size ≤ q) s.heap H locs) {ls : Array Slot} (hAll : jAll σ τ) (hP : jH D cI cL ad σ τ H) (hl : lv_has ls 4 [(3, .int x0), (2, .ref (ad 55)), (1, .ref (ad 0)), (0, .ref b)]) (ih : ∀ (x1 : Int32) (σ : Nat → Nat → Int32) (τ : Nat → Nat → Int64) (H : Heap) (locs : List Loc) (ls : Array Slot), x1.toInt = x0.toInt + 6 → jAll σ τ → jH D cI cL ad σ τ H → va_S (fun q : Nat => s.heap.size ≤ q) s.heap H locs → lv_has ls 4 [(3, .int x1), (2, .ref (ad 55)), (1, .ref (ad 0)), (0, .ref b)] → W p l e room_1 s m #[Value.ref b] below meth c H locs 90 348600 (lw_Z below #[Value.ref b] s) (F0 m 18 ls [])) : W p l e room_1 s m #[Value.ref b] below meth c H locs 90 348600 (lw_Z below #[Value.ref b] s) (F0 m 1301 ls []) := by
  obtain ⟨hx, hb, hr, hml, hown, hts0, hX, hbl, hlocks, hgv⟩ := C0
  have hts : ∀ w ∈ wsL_law, w.before #[Value.ref b] s = true := fun w h => hts0 w (wsL_law_in w h)
  have hbA : ¬ (fun q : Nat => s.heap.size ≤ q) b := Nat.not_le.mpr hbl
  have hown : s.vm.findClass RL = some m.cls := hown
  obtain ⟨hI2, hI9, hI12, hI16, hI18, hI22, hI31, hI38, hI43, hI47, hI50, hI101, hI102, hI103, hI104, hI105, hI106, hI107, hI109, hI110, hI111, hI119, hs_jKept, hs_jBook, ht0, ht1, ht2, ht3, hr0, hr1⟩ := hAll
  have hL9 : (L : Int) ≤ 384 := by omega
  obtain ⟨i1, w2, w3⟩ : (0 ≤ (σ 9 0).toInt ∧ (σ 9 0).toInt ≤ 80) ∧ (∀ k : Nat, k < 80 → 0 ≤ (σ 10 k).toInt ∧ (σ 10 k).toInt ≤ 255) ∧ (∀ k : Nat, k < 8 → 0 ≤ (σ 11 k).toInt ∧ (σ 11 k).toInt ≤ 3) := id hI9
  obtain ⟨i4, i5, i6, w7⟩ : (1 ≤ (σ 16 0).toInt ∧ (σ 16 0).toInt ≤ 8) ∧ (1 ≤ (σ 16 1).toInt ∧ (σ 16 1).toInt ≤ 12) ∧ (0 ≤ (σ 16 2).toInt ∧ (σ 16 2).toInt ≤ 999) ∧ (∀ k : Nat, k < 8 → 0 ≤ (σ 17 k).toInt ∧ (σ 17 k).toInt ≤ 3) := id hI16
  obtain ⟨i8, i9, i10, w11, w12⟩ : (1 ≤ (σ 55 10).toInt ∧ (σ 55 10).toInt ≤ 8) ∧ (1 ≤ (σ 55 12).toInt ∧ (σ 55 12).toInt ≤ 12) ∧ (0 ≤ (σ 55 13).toInt ∧ (σ 55 13).toInt ≤ 999) ∧ (∀ k : Nat, k < 8 → 0 ≤ (σ 62 k).toInt ∧ (σ 62 k).toInt ≤ 3) ∧ (∀ k : Nat, k < 8 → 0 ≤ (σ 67 k).toInt ∧ (σ 67 k).toInt ≤ 3) := id hI104
  obtain ⟨i13, w14⟩ : (0 ≤ (σ 55 15).toInt ∧ (σ 55 15).toInt ≤ 80) ∧ (∀ k : Nat, k < 2 → (-1) ≤ (σ 65 k).toInt ∧ (σ 65 k).toInt ≤ 80) := id hI105
  refine lv_aload_n hx hb dL_law_1301 rfl (lv_at hl 2 rfl) ?_
  refine lv_aload_n hx hb dL_law_1302 rfl (lv_at hl 3 rfl) ?_
  refine lv_iload_n hx hb dL_law_1303 rfl (lv_at hl 0 rfl) ?_
  refine lv_iconst (v := 1) hx hb dL_law_1304 (of_decide_eq_true rfl) ?_
  have g15 := jrg (rfl : x0.toInt = x0.toInt)
  refine lv_iadd hx hb dL_law_1305 ?_
  refine lv_topi (fun x16 ex16 => ?_)
  exact by
   have tx16 : x16.toInt = x0.toInt + 1 := (jadd ex16 rfl jz_1 (by omega) (by omega)).trans (by omega)
   refine va_sld hx hb hX hbl hbA hS (jin tx16 (by omega) (by omega)) dL_law_1306 ?_
   have g17 := jrg (rfl : (xs x16.toNatClampNeg).toInt = (xs x16.toNatClampNeg).toInt)
   refine lv_aload_n hx hb dL_law_1307 rfl (lv_at hl 3 rfl) ?_
   refine lv_iload_n hx hb dL_law_1308 rfl (lv_at hl 0 rfl) ?_
   refine lv_iconst (v := 2) hx hb dL_law_1309 (of_decide_eq_true rfl) ?_
   refine lv_iadd hx hb dL_law_1310 ?_
   refine lv_topi (fun x18 ex18 => ?_)
   have tx18 : x18.toInt = x0.toInt + 2 := (jadd ex18 rfl jz_2 (by omega) (by omega)).trans (by omega)
   exact by
    refine va_sld hx hb hX hbl hbA hS (jin tx18 (by omega) (by omega)) dL_law_1311 ?_
    have g19 := jrg (rfl : (xs x18.toNatClampNeg).toInt = (xs x18.toNatClampNeg).toInt)
    refine jcallV (As := [.int (xs x16.toNatClampNeg), .int (xs x18.toNatClampNeg)]) (rest := []) ⟨hx, hb, hml, hown, hts⟩ hK hP hA hS hZ (c_X11_taken l D cI cL ad zz hJ σ τ (xs x16.toNatClampNeg) ((xs x16.toNatClampNeg).toInt) rfl (xs x18.toNatClampNeg) ((xs x18.toNatClampNeg).toInt) rfl hI38) cw_RL_162 (jc_0 cI cL ad σ τ) rfl ⟨Nat.le_of_ble_eq_true rfl, Nat.le_of_ble_eq_true rfl⟩ rfl rfl rfl hl.1 rfl (Nat.le_of_ble_eq_true rfl) dL_law_1312 ⟨Nat.le_of_ble_eq_true rfl, Nat.le_of_ble_eq_true rfl⟩ (fun r21 σ20 τ20 H locs h20 hP hS => ?_)
    obtain ⟨⟨rfl, rfl⟩, w22, h20⟩ := h20
    refine lv_pop hx hb dL_law_1315 rfl ?_
    refine lv_aload_n hx hb dL_law_1316 rfl (lv_at hl 1 rfl) ?_
    refine lv_aload_n hx hb dL_law_1317 rfl (lv_at hl 3 rfl) ?_
    refine lv_iload_n hx hb dL_law_1318 rfl (lv_at hl 0 rfl) ?_
    refine lv_iconst (v := 1) hx hb dL_law_1319 (of_decide_eq_true rfl) ?_
    refine lv_iadd hx hb dL_law_1320 ?_
    refine jtopr ex16.symm ?_
    exact by
     refine va_sld hx hb hX hbl hbA hS (jin tx16 (by omega) (by omega)) dL_law_1321 ?_
     refine lv_aload_n hx hb dL_law_1322 rfl (lv_at hl 3 rfl) ?_
     refine lv_iload_n hx hb dL_law_1323 rfl (lv_at hl 0 rfl) ?_
     refine lv_iconst (v := 2) hx hb dL_law_1324 (of_decide_eq_true rfl) ?_
     refine lv_iadd hx hb dL_law_1325 ?_
     refine jtopr ex18.symm ?_
     refine va_sld hx hb hX hbl hbA hS (jin tx18 (by omega) (by omega)) dL_law_1326 ?_
     refine jcallV (As := [.int (xs x16.toNatClampNeg), .int (xs x18.toNatClampNeg)]) (rest := []) ⟨hx, hb, hml, hown, hts⟩ hK hP hA hS hZ (c_X12_taken l D cI cL ad zz hJ σ τ (xs x16.toNatClampNeg) ((xs x16.toNatClampNeg).toInt) rfl (xs x18.toNatClampNeg) ((xs x18.toNatClampNeg).toInt) rfl hI106 hI110) cw_RL_165 (jc_55 cI cL ad σ τ) rfl ⟨Nat.le_of_ble_eq_true rfl, Nat.le_of_ble_eq_true rfl⟩ rfl rfl rfl hl.1 rfl (Nat.le_of_ble_eq_true rfl) dL_law_1327 ⟨Nat.le_of_ble_eq_true rfl, Nat.le_of_ble_eq_true rfl⟩ (fun r24 σ23 τ23 H locs h23 hP hS => ?_)
     obtain ⟨⟨rfl, rfl⟩, w25, h23⟩ := h23
     exact by
      refine lv_pop hx hb dL_law_1330 rfl ?_
      refine lv_goto (tgt := 1357) hx hb dL_law_1331 (of_decide_eq_true rfl) ?_
      obtain ⟨x26, ex26⟩ : ∃ y : Int32, y = x0 + 6 := ⟨_, rfl⟩
      have tx26 : x26.toInt = x0.toInt + 6 := (jadd ex26 rfl jz_6 (by omega) (by omega)).trans (by omega)
      refine lv_iinc (v := x26) (lv' := [(3, .int x26), (2, .ref (ad 55)), (1, .ref (ad 0)), (0, .ref b)]) hx hb dL_law_1357 hl (k := 0) rfl (by rw [ex26]; rfl) (of_decide_eq_true rfl) rfl (fun ls hl => ?_)
      refine lv_goto (tgt := 18) hx hb dL_law_1360 (of_decide_eq_true rfl) ?_
      exact by exact ih x26 σ τ _ _ ls (by have h9 := tx26; omega) ⟨hI2, hI9, hI12, hI16, hI18, hI22, hI31, hI38, hI43, hI47, hI50, hI101, hI102, hI103, hI104, hI105, hI106, hI107, hI109, hI110, hI111, hI119, hs_jKept, hs_jBook, (by omega), (by omega), (by omega), (by omega), hr0, hr1⟩ hP hS (lv_sub hl [0, 1, 2, 3] rfl)
set_option maxHeartbeats 4000000 in
set_option maxRecDepth 100000 in
theorem law_case_36 {p : Program} {e : Env} {s : State} {m : MethodId} {below : List Frame} {meth : Method} {c : Code} (l : Launch) {b L : Nat} {xs : Nat → Int32} {D : va_G} {cI cL : ClassId} {ad zz : Nat → Nat} (C0 : lw_At p s m meth c b L xs) (hJ : jD ad) (hA : ∀ q, jA ad q → s.heap.size ≤ q) (hK : jK D cI cL s) (hZ : jZ zz (fun q : Nat => s.heap.size ≤ q) s s.heap) {x0 : Int32} (hx0 : 0 ≤ x0.toInt) (hxL : x0.toInt + 6 ≤ (L : Int)) (hL : L ≤ 384) {σ : Nat → Nat → Int32} {τ : Nat → Nat → Int64} {H : Heap} {locs : List Loc} (hS : va_S (fun q : Nat => s.heap.size ≤ q) s.heap H locs) {ls : Array Slot} (hAll : jAll σ τ) (hP : jH D cI cL ad σ τ H) (hl : lv_has ls 4 [(3, .int x0), (2, .ref (ad 55)), (1, .ref (ad 0)), (0, .ref b)]) (ih : ∀ (x1 : Int32) (σ : Nat → Nat → Int32) (τ : Nat → Nat → Int64) (H : Heap) (locs : List Loc) (ls : Array Slot), x1.toInt = x0.toInt + 6 → jAll σ τ → jH D cI cL ad σ τ H → va_S (fun q : Nat => s.heap.size ≤ q) s.heap H locs → lv_has ls 4 [(3, .int x1), (2, .ref (ad 55)), (1, .ref (ad 0)), (0, .ref b)] → W p l e room_1 s m #[Value.ref b] below meth c H locs 90 348600 (lw_Z below #[Value.ref b] s) (F0 m 18 ls [])) : W p l e room_1 s m #[Value.ref b] below meth c H locs 90 348600 (lw_Z below #[Value.ref b] s) (F0 m 1334 ls []) := by
  obtain ⟨hx, hb, hr, hml, hown, hts0, hX, hbl, hlocks, hgv⟩ := C0
  have hts : ∀ w ∈ wsL_law, w.before #[Value.ref b] s = true := fun w h => hts0 w (wsL_law_in w h)
  have hbA : ¬ (fun q : Nat => s.heap.size ≤ q) b := Nat.not_le.mpr hbl
  have hown : s.vm.findClass RL = some m.cls := hown
  obtain ⟨hI2, hI9, hI12, hI16, hI18, hI22, hI31, hI38, hI43, hI47, hI50, hI101, hI102, hI103, hI104, hI105, hI106, hI107, hI109, hI110, hI111, hI119, hs_jKept, hs_jBook, ht0, ht1, ht2, ht3, hr0, hr1⟩ := hAll
  have hL9 : (L : Int) ≤ 384 := by omega
  obtain ⟨i1, w2, w3⟩ : (0 ≤ (σ 9 0).toInt ∧ (σ 9 0).toInt ≤ 80) ∧ (∀ k : Nat, k < 80 → 0 ≤ (σ 10 k).toInt ∧ (σ 10 k).toInt ≤ 255) ∧ (∀ k : Nat, k < 8 → 0 ≤ (σ 11 k).toInt ∧ (σ 11 k).toInt ≤ 3) := id hI9
  obtain ⟨i4, i5, i6, w7⟩ : (1 ≤ (σ 16 0).toInt ∧ (σ 16 0).toInt ≤ 8) ∧ (1 ≤ (σ 16 1).toInt ∧ (σ 16 1).toInt ≤ 12) ∧ (0 ≤ (σ 16 2).toInt ∧ (σ 16 2).toInt ≤ 999) ∧ (∀ k : Nat, k < 8 → 0 ≤ (σ 17 k).toInt ∧ (σ 17 k).toInt ≤ 3) := id hI16
  obtain ⟨i8, i9, i10, w11, w12⟩ : (1 ≤ (σ 55 10).toInt ∧ (σ 55 10).toInt ≤ 8) ∧ (1 ≤ (σ 55 12).toInt ∧ (σ 55 12).toInt ≤ 12) ∧ (0 ≤ (σ 55 13).toInt ∧ (σ 55 13).toInt ≤ 999) ∧ (∀ k : Nat, k < 8 → 0 ≤ (σ 62 k).toInt ∧ (σ 62 k).toInt ≤ 3) ∧ (∀ k : Nat, k < 8 → 0 ≤ (σ 67 k).toInt ∧ (σ 67 k).toInt ≤ 3) := id hI104
  obtain ⟨i13, w14⟩ : (0 ≤ (σ 55 15).toInt ∧ (σ 55 15).toInt ≤ 80) ∧ (∀ k : Nat, k < 2 → (-1) ≤ (σ 65 k).toInt ∧ (σ 65 k).toInt ≤ 80) := id hI105
  refine lv_aload_n hx hb dL_law_1334 rfl (lv_at hl 2 rfl) ?_
  refine lv_aload_n hx hb dL_law_1335 rfl (lv_at hl 3 rfl) ?_
  refine lv_iload_n hx hb dL_law_1336 rfl (lv_at hl 0 rfl) ?_
  refine lv_iconst (v := 1) hx hb dL_law_1337 (of_decide_eq_true rfl) ?_
  have g15 := jrg (rfl : x0.toInt = x0.toInt)
  refine lv_iadd hx hb dL_law_1338 ?_
  refine lv_topi (fun x16 ex16 => ?_)
  exact by
   have tx16 : x16.toInt = x0.toInt + 1 := (jadd ex16 rfl jz_1 (by omega) (by omega)).trans (by omega)
   refine va_sld hx hb hX hbl hbA hS (jin tx16 (by omega) (by omega)) dL_law_1339 ?_
   have g17 := jrg (rfl : (xs x16.toNatClampNeg).toInt = (xs x16.toNatClampNeg).toInt)
   refine jcallV (As := [.int (xs x16.toNatClampNeg)]) (rest := []) ⟨hx, hb, hml, hown, hts⟩ hK hP hA hS hZ (c_X11_count l D cI cL ad zz hJ σ τ (xs x16.toNatClampNeg) ((xs x16.toNatClampNeg).toInt) rfl hI2 hI9 hI38 hI47) cw_RL_166 (jc_0 cI cL ad σ τ) rfl ⟨Nat.le_of_ble_eq_true rfl, Nat.le_of_ble_eq_true rfl⟩ rfl rfl rfl hl.1 rfl (Nat.le_of_ble_eq_true rfl) dL_law_1340 ⟨Nat.le_of_ble_eq_true rfl, Nat.le_of_ble_eq_true rfl⟩ (fun r19 σ18 τ18 H locs h18 hP hS => ?_)
   obtain ⟨⟨rfl, rfl⟩, h18⟩ := h18
   rcases h18 with h20 | h21 | h22 | h23 | h24 | h25 | h26
   · obtain ⟨q29, k27, k28⟩ := h20
     refine lv_pop hx hb dL_law_1343 rfl ?_
     refine lv_aload_n hx hb dL_law_1344 rfl (lv_at hl 1 rfl) ?_
     exact by
      refine lv_aload_n hx hb dL_law_1345 rfl (lv_at hl 3 rfl) ?_
      refine lv_iload_n hx hb dL_law_1346 rfl (lv_at hl 0 rfl) ?_
      refine lv_iconst (v := 1) hx hb dL_law_1347 (of_decide_eq_true rfl) ?_
      refine lv_iadd hx hb dL_law_1348 ?_
      refine jtopr ex16.symm ?_
      refine va_sld hx hb hX hbl hbA hS (jin tx16 (by omega) (by omega)) dL_law_1349 ?_
      refine jcallV (As := [.int (xs x16.toNatClampNeg)]) (rest := []) ⟨hx, hb, hml, hown, hts⟩ hK hP hA hS hZ (c_X12_count l D cI cL ad zz hJ σ τ (xs x16.toNatClampNeg) ((xs x16.toNatClampNeg).toInt) rfl hI101 hI102 hI105 hI106 hI107) cw_RL_169 (jc_55 cI cL ad σ τ) rfl ⟨Nat.le_of_ble_eq_true rfl, Nat.le_of_ble_eq_true rfl⟩ rfl rfl rfl hl.1 rfl (Nat.le_of_ble_eq_true rfl) dL_law_1350 ⟨Nat.le_of_ble_eq_true rfl, Nat.le_of_ble_eq_true rfl⟩ (fun r31 σ30 τ30 H locs h30 hP hS => ?_)
      obtain ⟨⟨rfl, rfl⟩, h30⟩ := h30
      rcases h30 with h32 | h33 | h34 | h35 | h36 | h37 | h38
      · exact by
         obtain ⟨q41, k39, k40⟩ := h32
         refine lv_pop hx hb dL_law_1353 rfl ?_
         refine lv_goto (tgt := 1357) hx hb dL_law_1354 (of_decide_eq_true rfl) ?_
         obtain ⟨x42, ex42⟩ : ∃ y : Int32, y = x0 + 6 := ⟨_, rfl⟩
         have tx42 : x42.toInt = x0.toInt + 6 := (jadd ex42 rfl jz_6 (by omega) (by omega)).trans (by omega)
         refine lv_iinc (v := x42) (lv' := [(3, .int x42), (2, .ref (ad 55)), (1, .ref (ad 0)), (0, .ref b)]) hx hb dL_law_1357 hl (k := 0) rfl (by rw [ex42]; rfl) (of_decide_eq_true rfl) rfl (fun ls hl => ?_)
         refine lv_goto (tgt := 18) hx hb dL_law_1360 (of_decide_eq_true rfl) ?_
         exact by exact ih x42 σ τ _ _ ls (by have h9 := tx42; omega) ⟨hI2, hI9, hI12, hI16, hI18, hI22, hI31, hI38, hI43, hI47, hI50, hI101, hI102, hI103, hI104, hI105, hI106, hI107, hI109, hI110, hI111, hI119, hs_jKept, hs_jBook, (by omega), (by omega), (by omega), (by omega), hr0, hr1⟩ hP hS (lv_sub hl [0, 1, 2, 3] rfl)
      · obtain ⟨q45, k43, k44⟩ := h33
        exact absurd (by omega : False) id
      · exact by
         obtain ⟨q48, k46, k47⟩ := h34
         exact absurd (by omega : False) id
      · obtain ⟨q51, k49, k50⟩ := h35
        exact absurd (by omega : False) id
      · obtain ⟨q54, k52, k53⟩ := h36
        exact absurd (by omega : False) id
      · obtain ⟨q57, k55, k56⟩ := h37
        exact absurd (by omega : False) id
      · obtain ⟨q59, k58⟩ := h38
        exact absurd (by omega : False) id
   · obtain ⟨q62, k60, k61⟩ := h21
     refine lv_pop hx hb dL_law_1343 rfl ?_
     refine lv_aload_n hx hb dL_law_1344 rfl (lv_at hl 1 rfl) ?_
     refine lv_aload_n hx hb dL_law_1345 rfl (lv_at hl 3 rfl) ?_
     refine lv_iload_n hx hb dL_law_1346 rfl (lv_at hl 0 rfl) ?_
     refine lv_iconst (v := 1) hx hb dL_law_1347 (of_decide_eq_true rfl) ?_
     refine lv_iadd hx hb dL_law_1348 ?_
     refine jtopr ex16.symm ?_
     exact by
      refine va_sld hx hb hX hbl hbA hS (jin tx16 (by omega) (by omega)) dL_law_1349 ?_
      refine jcallV (As := [.int (xs x16.toNatClampNeg)]) (rest := []) ⟨hx, hb, hml, hown, hts⟩ hK hP hA hS hZ (c_X12_count l D cI cL ad zz hJ σ τ (xs x16.toNatClampNeg) ((xs x16.toNatClampNeg).toInt) rfl hI101 hI102 hI105 hI106 hI107) cw_RL_169 (jc_55 cI cL ad σ τ) rfl ⟨Nat.le_of_ble_eq_true rfl, Nat.le_of_ble_eq_true rfl⟩ rfl rfl rfl hl.1 rfl (Nat.le_of_ble_eq_true rfl) dL_law_1350 ⟨Nat.le_of_ble_eq_true rfl, Nat.le_of_ble_eq_true rfl⟩ (fun r64 σ63 τ63 H locs h63 hP hS => ?_)
      obtain ⟨⟨rfl, rfl⟩, h63⟩ := h63
      rcases h63 with h65 | h66 | h67 | h68 | h69 | h70 | h71
      · obtain ⟨q74, k72, k73⟩ := h65
        exact absurd (by omega : False) id
      · obtain ⟨q77, k75, k76⟩ := h66
        refine lv_pop hx hb dL_law_1353 rfl ?_
        refine lv_goto (tgt := 1357) hx hb dL_law_1354 (of_decide_eq_true rfl) ?_
        obtain ⟨x78, ex78⟩ : ∃ y : Int32, y = x0 + 6 := ⟨_, rfl⟩
        exact by
         have tx78 : x78.toInt = x0.toInt + 6 := (jadd ex78 rfl jz_6 (by omega) (by omega)).trans (by omega)
         refine lv_iinc (v := x78) (lv' := [(3, .int x78), (2, .ref (ad 55)), (1, .ref (ad 0)), (0, .ref b)]) hx hb dL_law_1357 hl (k := 0) rfl (by rw [ex78]; rfl) (of_decide_eq_true rfl) rfl (fun ls hl => ?_)
         refine lv_goto (tgt := 18) hx hb dL_law_1360 (of_decide_eq_true rfl) ?_
         exact by exact ih x78 σ τ _ _ ls (by have h9 := tx78; omega) ⟨hI2, hI9, hI12, hI16, hI18, hI22, hI31, hI38, hI43, hI47, hI50, hI101, hI102, hI103, hI104, hI105, hI106, hI107, hI109, hI110, hI111, hI119, hs_jKept, hs_jBook, (by omega), (by omega), (by omega), (by omega), hr0, hr1⟩ hP hS (lv_sub hl [0, 1, 2, 3] rfl)
      · obtain ⟨q81, k79, k80⟩ := h67
        exact absurd (by omega : False) id
      · obtain ⟨q84, k82, k83⟩ := h68
        exact absurd (by omega : False) id
      · obtain ⟨q87, k85, k86⟩ := h69
        exact absurd (by omega : False) id
      · exact by
         obtain ⟨q90, k88, k89⟩ := h70
         exact absurd (by omega : False) id
      · obtain ⟨q92, k91⟩ := h71
        exact absurd (by omega : False) id
   · obtain ⟨q95, k93, k94⟩ := h22
     refine lv_pop hx hb dL_law_1343 rfl ?_
     refine lv_aload_n hx hb dL_law_1344 rfl (lv_at hl 1 rfl) ?_
     refine lv_aload_n hx hb dL_law_1345 rfl (lv_at hl 3 rfl) ?_
     refine lv_iload_n hx hb dL_law_1346 rfl (lv_at hl 0 rfl) ?_
     refine lv_iconst (v := 1) hx hb dL_law_1347 (of_decide_eq_true rfl) ?_
     refine lv_iadd hx hb dL_law_1348 ?_
     refine jtopr ex16.symm ?_
     exact by
      refine va_sld hx hb hX hbl hbA hS (jin tx16 (by omega) (by omega)) dL_law_1349 ?_
      refine jcallV (As := [.int (xs x16.toNatClampNeg)]) (rest := []) ⟨hx, hb, hml, hown, hts⟩ hK hP hA hS hZ (c_X12_count l D cI cL ad zz hJ σ τ (xs x16.toNatClampNeg) ((xs x16.toNatClampNeg).toInt) rfl hI101 hI102 hI105 hI106 hI107) cw_RL_169 (jc_55 cI cL ad σ τ) rfl ⟨Nat.le_of_ble_eq_true rfl, Nat.le_of_ble_eq_true rfl⟩ rfl rfl rfl hl.1 rfl (Nat.le_of_ble_eq_true rfl) dL_law_1350 ⟨Nat.le_of_ble_eq_true rfl, Nat.le_of_ble_eq_true rfl⟩ (fun r97 σ96 τ96 H locs h96 hP hS => ?_)
      obtain ⟨⟨rfl, rfl⟩, h96⟩ := h96
      rcases h96 with h98 | h99 | h100 | h101 | h102 | h103 | h104
      · obtain ⟨q107, k105, k106⟩ := h98
        exact absurd (by omega : False) id
      · obtain ⟨q110, k108, k109⟩ := h99
        exact absurd (by omega : False) id
      · obtain ⟨q113, k111, k112⟩ := h100
        refine lv_pop hx hb dL_law_1353 rfl ?_
        refine lv_goto (tgt := 1357) hx hb dL_law_1354 (of_decide_eq_true rfl) ?_
        obtain ⟨x114, ex114⟩ : ∃ y : Int32, y = x0 + 6 := ⟨_, rfl⟩
        exact by
         have tx114 : x114.toInt = x0.toInt + 6 := (jadd ex114 rfl jz_6 (by omega) (by omega)).trans (by omega)
         refine lv_iinc (v := x114) (lv' := [(3, .int x114), (2, .ref (ad 55)), (1, .ref (ad 0)), (0, .ref b)]) hx hb dL_law_1357 hl (k := 0) rfl (by rw [ex114]; rfl) (of_decide_eq_true rfl) rfl (fun ls hl => ?_)
         refine lv_goto (tgt := 18) hx hb dL_law_1360 (of_decide_eq_true rfl) ?_
         exact by exact ih x114 σ τ _ _ ls (by have h9 := tx114; omega) ⟨hI2, hI9, hI12, hI16, hI18, hI22, hI31, hI38, hI43, hI47, hI50, hI101, hI102, hI103, hI104, hI105, hI106, hI107, hI109, hI110, hI111, hI119, hs_jKept, hs_jBook, (by omega), (by omega), (by omega), (by omega), hr0, hr1⟩ hP hS (lv_sub hl [0, 1, 2, 3] rfl)
      · obtain ⟨q117, k115, k116⟩ := h101
        exact absurd (by omega : False) id
      · obtain ⟨q120, k118, k119⟩ := h102
        exact absurd (by omega : False) id
      · obtain ⟨q123, k121, k122⟩ := h103
        exact absurd (by omega : False) id
      · exact by
         obtain ⟨q125, k124⟩ := h104
         exact absurd (by omega : False) id
   · obtain ⟨q128, k126, k127⟩ := h23
     refine lv_pop hx hb dL_law_1343 rfl ?_
     refine lv_aload_n hx hb dL_law_1344 rfl (lv_at hl 1 rfl) ?_
     refine lv_aload_n hx hb dL_law_1345 rfl (lv_at hl 3 rfl) ?_
     refine lv_iload_n hx hb dL_law_1346 rfl (lv_at hl 0 rfl) ?_
     refine lv_iconst (v := 1) hx hb dL_law_1347 (of_decide_eq_true rfl) ?_
     refine lv_iadd hx hb dL_law_1348 ?_
     refine jtopr ex16.symm ?_
     exact by
      refine va_sld hx hb hX hbl hbA hS (jin tx16 (by omega) (by omega)) dL_law_1349 ?_
      refine jcallV (As := [.int (xs x16.toNatClampNeg)]) (rest := []) ⟨hx, hb, hml, hown, hts⟩ hK hP hA hS hZ (c_X12_count l D cI cL ad zz hJ σ τ (xs x16.toNatClampNeg) ((xs x16.toNatClampNeg).toInt) rfl hI101 hI102 hI105 hI106 hI107) cw_RL_169 (jc_55 cI cL ad σ τ) rfl ⟨Nat.le_of_ble_eq_true rfl, Nat.le_of_ble_eq_true rfl⟩ rfl rfl rfl hl.1 rfl (Nat.le_of_ble_eq_true rfl) dL_law_1350 ⟨Nat.le_of_ble_eq_true rfl, Nat.le_of_ble_eq_true rfl⟩ (fun r130 σ129 τ129 H locs h129 hP hS => ?_)
      obtain ⟨⟨rfl, rfl⟩, h129⟩ := h129
      rcases h129 with h131 | h132 | h133 | h134 | h135 | h136 | h137
      · obtain ⟨q140, k138, k139⟩ := h131
        exact absurd (by omega : False) id
      · obtain ⟨q143, k141, k142⟩ := h132
        exact absurd (by omega : False) id
      · obtain ⟨q146, k144, k145⟩ := h133
        exact absurd (by omega : False) id
      · obtain ⟨q149, k147, k148⟩ := h134
        refine lv_pop hx hb dL_law_1353 rfl ?_
        refine lv_goto (tgt := 1357) hx hb dL_law_1354 (of_decide_eq_true rfl) ?_
        obtain ⟨x150, ex150⟩ : ∃ y : Int32, y = x0 + 6 := ⟨_, rfl⟩
        exact by
         have tx150 : x150.toInt = x0.toInt + 6 := (jadd ex150 rfl jz_6 (by omega) (by omega)).trans (by omega)
         refine lv_iinc (v := x150) (lv' := [(3, .int x150), (2, .ref (ad 55)), (1, .ref (ad 0)), (0, .ref b)]) hx hb dL_law_1357 hl (k := 0) rfl (by rw [ex150]; rfl) (of_decide_eq_true rfl) rfl (fun ls hl => ?_)
         refine lv_goto (tgt := 18) hx hb dL_law_1360 (of_decide_eq_true rfl) ?_
         exact by exact ih x150 σ τ _ _ ls (by have h9 := tx150; omega) ⟨hI2, hI9, hI12, hI16, hI18, hI22, hI31, hI38, hI43, hI47, hI50, hI101, hI102, hI103, hI104, hI105, hI106, hI107, hI109, hI110, hI111, hI119, hs_jKept, hs_jBook, (by omega), (by omega), (by omega), (by omega), hr0, hr1⟩ hP hS (lv_sub hl [0, 1, 2, 3] rfl)
      · obtain ⟨q153, k151, k152⟩ := h135
        exact absurd (by omega : False) id
      · obtain ⟨q156, k154, k155⟩ := h136
        exact absurd (by omega : False) id
      · obtain ⟨q158, k157⟩ := h137
        exact absurd (by omega : False) id
   · exact by
      obtain ⟨q161, k159, k160⟩ := h24
      refine lv_pop hx hb dL_law_1343 rfl ?_
      refine lv_aload_n hx hb dL_law_1344 rfl (lv_at hl 1 rfl) ?_
      refine lv_aload_n hx hb dL_law_1345 rfl (lv_at hl 3 rfl) ?_
      refine lv_iload_n hx hb dL_law_1346 rfl (lv_at hl 0 rfl) ?_
      refine lv_iconst (v := 1) hx hb dL_law_1347 (of_decide_eq_true rfl) ?_
      refine lv_iadd hx hb dL_law_1348 ?_
      refine jtopr ex16.symm ?_
      refine va_sld hx hb hX hbl hbA hS (jin tx16 (by omega) (by omega)) dL_law_1349 ?_
      exact by
       refine jcallV (As := [.int (xs x16.toNatClampNeg)]) (rest := []) ⟨hx, hb, hml, hown, hts⟩ hK hP hA hS hZ (c_X12_count l D cI cL ad zz hJ σ τ (xs x16.toNatClampNeg) ((xs x16.toNatClampNeg).toInt) rfl hI101 hI102 hI105 hI106 hI107) cw_RL_169 (jc_55 cI cL ad σ τ) rfl ⟨Nat.le_of_ble_eq_true rfl, Nat.le_of_ble_eq_true rfl⟩ rfl rfl rfl hl.1 rfl (Nat.le_of_ble_eq_true rfl) dL_law_1350 ⟨Nat.le_of_ble_eq_true rfl, Nat.le_of_ble_eq_true rfl⟩ (fun r163 σ162 τ162 H locs h162 hP hS => ?_)
       obtain ⟨⟨rfl, rfl⟩, h162⟩ := h162
       rcases h162 with h164 | h165 | h166 | h167 | h168 | h169 | h170
       · obtain ⟨q173, k171, k172⟩ := h164
         exact absurd (by omega : False) id
       · obtain ⟨q176, k174, k175⟩ := h165
         exact absurd (by omega : False) id
       · obtain ⟨q179, k177, k178⟩ := h166
         exact absurd (by omega : False) id
       · obtain ⟨q182, k180, k181⟩ := h167
         exact absurd (by omega : False) id
       · obtain ⟨q185, k183, k184⟩ := h168
         refine lv_pop hx hb dL_law_1353 rfl ?_
         refine lv_goto (tgt := 1357) hx hb dL_law_1354 (of_decide_eq_true rfl) ?_
         obtain ⟨x186, ex186⟩ : ∃ y : Int32, y = x0 + 6 := ⟨_, rfl⟩
         exact by
          have tx186 : x186.toInt = x0.toInt + 6 := (jadd ex186 rfl jz_6 (by omega) (by omega)).trans (by omega)
          refine lv_iinc (v := x186) (lv' := [(3, .int x186), (2, .ref (ad 55)), (1, .ref (ad 0)), (0, .ref b)]) hx hb dL_law_1357 hl (k := 0) rfl (by rw [ex186]; rfl) (of_decide_eq_true rfl) rfl (fun ls hl => ?_)
          refine lv_goto (tgt := 18) hx hb dL_law_1360 (of_decide_eq_true rfl) ?_
          exact by exact ih x186 σ τ _ _ ls (by have h9 := tx186; omega) ⟨hI2, hI9, hI12, hI16, hI18, hI22, hI31, hI38, hI43, hI47, hI50, hI101, hI102, hI103, hI104, hI105, hI106, hI107, hI109, hI110, hI111, hI119, hs_jKept, hs_jBook, (by omega), (by omega), (by omega), (by omega), hr0, hr1⟩ hP hS (lv_sub hl [0, 1, 2, 3] rfl)
       · obtain ⟨q189, k187, k188⟩ := h169
         exact absurd (by omega : False) id
       · obtain ⟨q191, k190⟩ := h170
         exact absurd (by omega : False) id
   · obtain ⟨q194, k192, k193⟩ := h25
     exact by
      refine lv_pop hx hb dL_law_1343 rfl ?_
      refine lv_aload_n hx hb dL_law_1344 rfl (lv_at hl 1 rfl) ?_
      refine lv_aload_n hx hb dL_law_1345 rfl (lv_at hl 3 rfl) ?_
      refine lv_iload_n hx hb dL_law_1346 rfl (lv_at hl 0 rfl) ?_
      refine lv_iconst (v := 1) hx hb dL_law_1347 (of_decide_eq_true rfl) ?_
      refine lv_iadd hx hb dL_law_1348 ?_
      refine jtopr ex16.symm ?_
      refine va_sld hx hb hX hbl hbA hS (jin tx16 (by omega) (by omega)) dL_law_1349 ?_
      refine jcallV (As := [.int (xs x16.toNatClampNeg)]) (rest := []) ⟨hx, hb, hml, hown, hts⟩ hK hP hA hS hZ (c_X12_count l D cI cL ad zz hJ σ τ (xs x16.toNatClampNeg) ((xs x16.toNatClampNeg).toInt) rfl hI101 hI102 hI105 hI106 hI107) cw_RL_169 (jc_55 cI cL ad σ τ) rfl ⟨Nat.le_of_ble_eq_true rfl, Nat.le_of_ble_eq_true rfl⟩ rfl rfl rfl hl.1 rfl (Nat.le_of_ble_eq_true rfl) dL_law_1350 ⟨Nat.le_of_ble_eq_true rfl, Nat.le_of_ble_eq_true rfl⟩ (fun r196 σ195 τ195 H locs h195 hP hS => ?_)
      exact by
       obtain ⟨⟨rfl, rfl⟩, h195⟩ := h195
       rcases h195 with h197 | h198 | h199 | h200 | h201 | h202 | h203
       · obtain ⟨q206, k204, k205⟩ := h197
         exact absurd (by omega : False) id
       · obtain ⟨q209, k207, k208⟩ := h198
         exact absurd (by omega : False) id
       · obtain ⟨q212, k210, k211⟩ := h199
         exact absurd (by omega : False) id
       · obtain ⟨q215, k213, k214⟩ := h200
         exact absurd (by omega : False) id
       · obtain ⟨q218, k216, k217⟩ := h201
         exact absurd (by omega : False) id
       · obtain ⟨q221, k219, k220⟩ := h202
         refine lv_pop hx hb dL_law_1353 rfl ?_
         refine lv_goto (tgt := 1357) hx hb dL_law_1354 (of_decide_eq_true rfl) ?_
         obtain ⟨x222, ex222⟩ : ∃ y : Int32, y = x0 + 6 := ⟨_, rfl⟩
         exact by
          have tx222 : x222.toInt = x0.toInt + 6 := (jadd ex222 rfl jz_6 (by omega) (by omega)).trans (by omega)
          refine lv_iinc (v := x222) (lv' := [(3, .int x222), (2, .ref (ad 55)), (1, .ref (ad 0)), (0, .ref b)]) hx hb dL_law_1357 hl (k := 0) rfl (by rw [ex222]; rfl) (of_decide_eq_true rfl) rfl (fun ls hl => ?_)
          refine lv_goto (tgt := 18) hx hb dL_law_1360 (of_decide_eq_true rfl) ?_
          exact by exact ih x222 σ τ _ _ ls (by have h9 := tx222; omega) ⟨hI2, hI9, hI12, hI16, hI18, hI22, hI31, hI38, hI43, hI47, hI50, hI101, hI102, hI103, hI104, hI105, hI106, hI107, hI109, hI110, hI111, hI119, hs_jKept, hs_jBook, (by omega), (by omega), (by omega), (by omega), hr0, hr1⟩ hP hS (lv_sub hl [0, 1, 2, 3] rfl)
       · obtain ⟨q224, k223⟩ := h203
         exact absurd (by omega : False) id
   · obtain ⟨q226, k225⟩ := h26
     have q226 := q226.symm
     subst q226
     exact by
      refine lv_pop hx hb dL_law_1343 rfl ?_
      refine lv_aload_n hx hb dL_law_1344 rfl (lv_at hl 1 rfl) ?_
      refine lv_aload_n hx hb dL_law_1345 rfl (lv_at hl 3 rfl) ?_
      refine lv_iload_n hx hb dL_law_1346 rfl (lv_at hl 0 rfl) ?_
      refine lv_iconst (v := 1) hx hb dL_law_1347 (of_decide_eq_true rfl) ?_
      refine lv_iadd hx hb dL_law_1348 ?_
      refine jtopr ex16.symm ?_
      refine va_sld hx hb hX hbl hbA hS (jin tx16 (by omega) (by omega)) dL_law_1349 ?_
      refine jcallV (As := [.int (xs x16.toNatClampNeg)]) (rest := []) ⟨hx, hb, hml, hown, hts⟩ hK hP hA hS hZ (c_X12_count l D cI cL ad zz hJ σ τ (xs x16.toNatClampNeg) ((xs x16.toNatClampNeg).toInt) rfl hI101 hI102 hI105 hI106 hI107) cw_RL_169 (jc_55 cI cL ad σ τ) rfl ⟨Nat.le_of_ble_eq_true rfl, Nat.le_of_ble_eq_true rfl⟩ rfl rfl rfl hl.1 rfl (Nat.le_of_ble_eq_true rfl) dL_law_1350 ⟨Nat.le_of_ble_eq_true rfl, Nat.le_of_ble_eq_true rfl⟩ (fun r228 σ227 τ227 H locs h227 hP hS => ?_)
      exact by
       obtain ⟨⟨rfl, rfl⟩, h227⟩ := h227
       rcases h227 with h229 | h230 | h231 | h232 | h233 | h234 | h235
       · obtain ⟨q238, k236, k237⟩ := h229
         exact absurd (by omega : False) id
       · obtain ⟨q241, k239, k240⟩ := h230
         exact absurd (by omega : False) id
       · obtain ⟨q244, k242, k243⟩ := h231
         exact absurd (by omega : False) id
       · obtain ⟨q247, k245, k246⟩ := h232
         exact absurd (by omega : False) id
       · obtain ⟨q250, k248, k249⟩ := h233
         exact absurd (by omega : False) id
       · obtain ⟨q253, k251, k252⟩ := h234
         exact absurd (by omega : False) id
       · obtain ⟨q255, k254⟩ := h235
         have q255 := q255.symm
         subst q255
         refine lv_pop hx hb dL_law_1353 rfl ?_
         refine lv_goto (tgt := 1357) hx hb dL_law_1354 (of_decide_eq_true rfl) ?_
         obtain ⟨x256, ex256⟩ : ∃ y : Int32, y = x0 + 6 := ⟨_, rfl⟩
         exact by
          have tx256 : x256.toInt = x0.toInt + 6 := (jadd ex256 rfl jz_6 (by omega) (by omega)).trans (by omega)
          refine lv_iinc (v := x256) (lv' := [(3, .int x256), (2, .ref (ad 55)), (1, .ref (ad 0)), (0, .ref b)]) hx hb dL_law_1357 hl (k := 0) rfl (by rw [ex256]; rfl) (of_decide_eq_true rfl) rfl (fun ls hl => ?_)
          refine lv_goto (tgt := 18) hx hb dL_law_1360 (of_decide_eq_true rfl) ?_
          exact by exact ih x256 σ τ _ _ ls (by have h9 := tx256; omega) ⟨hI2, hI9, hI12, hI16, hI18, hI22, hI31, hI38, hI43, hI47, hI50, hI101, hI102, hI103, hI104, hI105, hI106, hI107, hI109, hI110, hI111, hI119, hs_jKept, hs_jBook, (by omega), (by omega), (by omega), (by omega), hr0, hr1⟩ hP hS (lv_sub hl [0, 1, 2, 3] rfl)
set_option maxHeartbeats 4000000 in
set_option maxRecDepth 100000 in
theorem law_case_37 {p : Program} {e : Env} {s : State} {m : MethodId} {below : List Frame} {meth : Method} {c : Code} (l : Launch) {b L : Nat} {xs : Nat → Int32} {D : va_G} {cI cL : ClassId} {ad zz : Nat → Nat} (C0 : lw_At p s m meth c b L xs) (hJ : jD ad) (hA : ∀ q, jA ad q → s.heap.size ≤ q) (hK : jK D cI cL s) (hZ : jZ zz (fun q : Nat => s.heap.size ≤ q) s s.heap) {x0 : Int32} (hx0 : 0 ≤ x0.toInt) (hxL : x0.toInt + 6 ≤ (L : Int)) (hL : L ≤ 384) {σ : Nat → Nat → Int32} {τ : Nat → Nat → Int64} {H : Heap} {locs : List Loc} (hS : va_S (fun q : Nat => s.heap.size ≤ q) s.heap H locs) {ls : Array Slot} (hAll : jAll σ τ) (hP : jH D cI cL ad σ τ H) (hl : lv_has ls 4 [(3, .int x0), (2, .ref (ad 55)), (1, .ref (ad 0)), (0, .ref b)]) (ih : ∀ (x1 : Int32) (σ : Nat → Nat → Int32) (τ : Nat → Nat → Int64) (H : Heap) (locs : List Loc) (ls : Array Slot), x1.toInt = x0.toInt + 6 → jAll σ τ → jH D cI cL ad σ τ H → va_S (fun q : Nat => s.heap.size ≤ q) s.heap H locs → lv_has ls 4 [(3, .int x1), (2, .ref (ad 55)), (1, .ref (ad 0)), (0, .ref b)] → W p l e room_1 s m #[Value.ref b] below meth c H locs 90 348600 (lw_Z below #[Value.ref b] s) (F0 m 18 ls [])) : W p l e room_1 s m #[Value.ref b] below meth c H locs 90 348600 (lw_Z below #[Value.ref b] s) (F0 m 1357 ls []) := by
  obtain ⟨hx, hb, hr, hml, hown, hts0, hX, hbl, hlocks, hgv⟩ := C0
  have hts : ∀ w ∈ wsL_law, w.before #[Value.ref b] s = true := fun w h => hts0 w (wsL_law_in w h)
  have hbA : ¬ (fun q : Nat => s.heap.size ≤ q) b := Nat.not_le.mpr hbl
  have hown : s.vm.findClass RL = some m.cls := hown
  obtain ⟨hI2, hI9, hI12, hI16, hI18, hI22, hI31, hI38, hI43, hI47, hI50, hI101, hI102, hI103, hI104, hI105, hI106, hI107, hI109, hI110, hI111, hI119, hs_jKept, hs_jBook, ht0, ht1, ht2, ht3, hr0, hr1⟩ := hAll
  have hL9 : (L : Int) ≤ 384 := by omega
  obtain ⟨i1, w2, w3⟩ : (0 ≤ (σ 9 0).toInt ∧ (σ 9 0).toInt ≤ 80) ∧ (∀ k : Nat, k < 80 → 0 ≤ (σ 10 k).toInt ∧ (σ 10 k).toInt ≤ 255) ∧ (∀ k : Nat, k < 8 → 0 ≤ (σ 11 k).toInt ∧ (σ 11 k).toInt ≤ 3) := id hI9
  obtain ⟨i4, i5, i6, w7⟩ : (1 ≤ (σ 16 0).toInt ∧ (σ 16 0).toInt ≤ 8) ∧ (1 ≤ (σ 16 1).toInt ∧ (σ 16 1).toInt ≤ 12) ∧ (0 ≤ (σ 16 2).toInt ∧ (σ 16 2).toInt ≤ 999) ∧ (∀ k : Nat, k < 8 → 0 ≤ (σ 17 k).toInt ∧ (σ 17 k).toInt ≤ 3) := id hI16
  obtain ⟨i8, i9, i10, w11, w12⟩ : (1 ≤ (σ 55 10).toInt ∧ (σ 55 10).toInt ≤ 8) ∧ (1 ≤ (σ 55 12).toInt ∧ (σ 55 12).toInt ≤ 12) ∧ (0 ≤ (σ 55 13).toInt ∧ (σ 55 13).toInt ≤ 999) ∧ (∀ k : Nat, k < 8 → 0 ≤ (σ 62 k).toInt ∧ (σ 62 k).toInt ≤ 3) ∧ (∀ k : Nat, k < 8 → 0 ≤ (σ 67 k).toInt ∧ (σ 67 k).toInt ≤ 3) := id hI104
  obtain ⟨i13, w14⟩ : (0 ≤ (σ 55 15).toInt ∧ (σ 55 15).toInt ≤ 80) ∧ (∀ k : Nat, k < 2 → (-1) ≤ (σ 65 k).toInt ∧ (σ 65 k).toInt ≤ 80) := id hI105
  obtain ⟨x15, ex15⟩ : ∃ y : Int32, y = x0 + 6 := ⟨_, rfl⟩
  exact by
   have tx15 : x15.toInt = x0.toInt + 6 := (jadd ex15 rfl jz_6 (by omega) (by omega)).trans (by omega)
   refine lv_iinc (v := x15) (lv' := [(3, .int x15), (2, .ref (ad 55)), (1, .ref (ad 0)), (0, .ref b)]) hx hb dL_law_1357 hl (k := 0) rfl (by rw [ex15]; rfl) (of_decide_eq_true rfl) rfl (fun ls hl => ?_)
   refine lv_goto (tgt := 18) hx hb dL_law_1360 (of_decide_eq_true rfl) ?_
   exact by exact ih x15 σ τ _ _ ls (by have h9 := tx15; omega) ⟨hI2, hI9, hI12, hI16, hI18, hI22, hI31, hI38, hI43, hI47, hI50, hI101, hI102, hI103, hI104, hI105, hI106, hI107, hI109, hI110, hI111, hI119, hs_jKept, hs_jBook, (by omega), (by omega), (by omega), (by omega), hr0, hr1⟩ hP hS (lv_sub hl [0, 1, 2, 3] rfl)
