set_option maxHeartbeats 4000000 in
set_option maxRecDepth 100000 in
theorem law_case_0 {p : Program} {e : Env} {s : State} {m : MethodId} {below : List Frame} {meth : Method} {c : Code} (l : Launch) {b L : Nat} {xs : Nat → Int32} {D : va_G} {cI cL : ClassId} {ad zz : Nat → Nat} (C0 : lw_At p s m meth c b L xs) (hJ : jD ad) (hA : ∀ q, jA ad q → s.heap.size ≤ q) (hK : jK D cI cL s) (hZ : jZ zz (fun q : Nat => s.heap.size ≤ q) s s.heap) {x0 : Int32} (hx0 : 0 ≤ x0.toInt) (hxL : x0.toInt + 6 ≤ (L : Int)) (hL : L ≤ 384) {σ : Nat → Nat → Int32} {τ : Nat → Nat → Int64} {H : Heap} {locs : List Loc} (hS : va_S (fun q : Nat => s.heap.size ≤ q) s.heap H locs) {ls : Array Slot} (hAll : jAll x0.toInt σ τ) (hP : jH D cI cL ad σ τ H) (hl : lv_has ls 4 [(3, .int x0), (2, .ref (ad 55)), (1, .ref (ad 0)), (0, .ref b)]) (ih : ∀ (x1 : Int32) (σ : Nat → Nat → Int32) (τ : Nat → Nat → Int64) (H : Heap) (locs : List Loc) (ls : Array Slot), x1.toInt = x0.toInt + 6 → jAll x1.toInt σ τ → jH D cI cL ad σ τ H → va_S (fun q : Nat => s.heap.size ≤ q) s.heap H locs → lv_has ls 4 [(3, .int x1), (2, .ref (ad 55)), (1, .ref (ad 0)), (0, .ref b)] → W p l e room_1 s m #[Value.ref b] below meth c H locs 90 348600 (lw_Z below #[Value.ref b] s) (F0 m 18 ls [])) : W p l e room_1 s m #[Value.ref b] below meth c H locs 90 348600 (lw_Z below #[Value.ref b] s) (F0 m 196 ls []) := by
  obtain ⟨hx, hb, hr, hml, hown, hts0, hX, hbl, hlocks, hgv⟩ := C0
  have hts : ∀ w ∈ wsL_law, w.before #[Value.ref b] s = true := fun w h => hts0 w (wsL_law_in w h)
  have hbA : ¬ (fun q : Nat => s.heap.size ≤ q) b := Nat.not_le.mpr hbl
  have hown : s.vm.findClass RL = some m.cls := hown
  obtain ⟨hI2, hI9, hI12, hI16, hI18, hI22, hI31, hI38, hI43, hI47, hI50, hI0, hI26, hI101, hI102, hI103, hI104, hI105, hI106, hI107, hI109, hI110, hI111, hI119, hs_jKept, hs_jBook, hs_jNd12, hs_jN67, hs_jBl, hs_jKb, hs_jTR, hs_jKh, hs_jKg, hs_jNz, hs_jqSt, ht0, ht1, ht2, ht3, ht4, ht5, ht6, ht7, ht8, ht9, ht10, ht11, ht12, ht13, ht14, ht15, hr0, hr1, hr2, hr3, hr4, hr5, hr6, hr7, hr8, hr9, hr10, hr11, hr12, hr13, hr14⟩ := hAll
  have hL9 : (L : Int) ≤ 384 := by omega
  obtain ⟨i1, i2, i3, i4, i5, w6, w7⟩ : (0 ≤ (σ 2 0).toInt ∧ (σ 2 0).toInt ≤ 4) ∧ (0 ≤ (σ 2 1).toInt ∧ (σ 2 1).toInt ≤ 3) ∧ (0 ≤ (σ 2 2).toInt) ∧ (0 ≤ (σ 2 3).toInt) ∧ ((σ 2 2).toInt + (σ 2 3).toInt ≤ 40) ∧ (∀ k : Nat, k < 40 → 0 ≤ (σ 6 k).toInt ∧ (σ 6 k).toInt ≤ 67) ∧ (∀ k : Nat, k < 4 → 0 ≤ (σ 5 k).toInt ∧ (σ 5 k).toInt ≤ 20) := id hI2
  obtain ⟨i8, w9, w10⟩ : (0 ≤ (σ 9 0).toInt ∧ (σ 9 0).toInt ≤ 80) ∧ (∀ k : Nat, k < 80 → 0 ≤ (σ 10 k).toInt ∧ (σ 10 k).toInt ≤ 255) ∧ (∀ k : Nat, k < 8 → 0 ≤ (σ 11 k).toInt ∧ (σ 11 k).toInt ≤ 3) := id hI9
  obtain ⟨i11, i12, i13, w14⟩ : (1 ≤ (σ 16 0).toInt ∧ (σ 16 0).toInt ≤ 8) ∧ (1 ≤ (σ 16 1).toInt ∧ (σ 16 1).toInt ≤ 12) ∧ (0 ≤ (σ 16 2).toInt ∧ (σ 16 2).toInt ≤ 999) ∧ (∀ k : Nat, k < 8 → 0 ≤ (σ 17 k).toInt ∧ (σ 17 k).toInt ≤ 3) := id hI16
  obtain ⟨i15, i16, w17⟩ : (0 ≤ (σ 38 0).toInt ∧ (σ 38 0).toInt ≤ 20) ∧ (0 ≤ (σ 38 1).toInt ∧ (σ 38 1).toInt ≤ 1000) ∧ (∀ k : Nat, k < 20 → 0 ≤ (σ 39 k).toInt ∧ (σ 39 k).toInt ≤ 6) := id hI38
  obtain ⟨i18, w19, w20⟩ : (0 ≤ (σ 47 0).toInt ∧ (σ 47 0).toInt ≤ 12) ∧ (∀ k : Nat, k < 12 → 0 ≤ (σ 48 k).toInt ∧ (σ 48 k).toInt ≤ 3) ∧ (∀ k : Nat, k < 12 → 0 ≤ (σ 49 k).toInt ∧ (σ 49 k).toInt ≤ 1) := id hI47
  have w21 : ∀ k : Nat, k < 6 → 0 ≤ (σ 52 k).toInt ∧ (σ 52 k).toInt ≤ 60 := hI50
  have i22 : 1 ≤ (σ 26 6).toInt ∧ (σ 26 6).toInt ≤ 8000 := hI26
  obtain ⟨i23, i24, i25, w26, w27, w28, w29⟩ : (0 ≤ (σ 55 5).toInt) ∧ ((σ 55 5).toInt ≤ (σ 55 4).toInt) ∧ ((σ 55 4).toInt ≤ 40) ∧ (∀ k : Nat, k < 68 → (-200) ≤ (σ 56 k).toInt ∧ (σ 56 k).toInt ≤ 500) ∧ (∀ k : Nat, k < 40 → 0 ≤ (σ 57 k).toInt ∧ (σ 57 k).toInt ≤ 67) ∧ (∀ k : Nat, k < 40 → (-200) ≤ (σ 58 k).toInt ∧ (σ 58 k).toInt ≤ 500) ∧ (∀ k : Nat, k < 40 → (-200) ≤ (σ 59 k).toInt ∧ (σ 59 k).toInt ≤ 500) := id hI101
  obtain ⟨i30, w31, w32⟩ : (0 ≤ (σ 55 6).toInt ∧ (σ 55 6).toInt ≤ 4) ∧ (∀ k : Nat, k < 4 → 0 ≤ (σ 60 k).toInt ∧ (σ 60 k).toInt ≤ 50) ∧ (∀ k : Nat, k < 4 → 0 ≤ (σ 61 k).toInt ∧ (σ 61 k).toInt ≤ 20) := id hI102
  have i33 : 0 ≤ (σ 55 9).toInt ∧ (σ 55 9).toInt ≤ 3 := hI103
  obtain ⟨i34, i35, i36, w37, w38⟩ : (1 ≤ (σ 55 10).toInt ∧ (σ 55 10).toInt ≤ 8) ∧ (1 ≤ (σ 55 12).toInt ∧ (σ 55 12).toInt ≤ 12) ∧ (0 ≤ (σ 55 13).toInt ∧ (σ 55 13).toInt ≤ 999) ∧ (∀ k : Nat, k < 8 → 0 ≤ (σ 62 k).toInt ∧ (σ 62 k).toInt ≤ 3) ∧ (∀ k : Nat, k < 8 → 0 ≤ (σ 67 k).toInt ∧ (σ 67 k).toInt ≤ 3) := id hI104
  obtain ⟨i39, w40⟩ : (0 ≤ (σ 55 15).toInt ∧ (σ 55 15).toInt ≤ 80) ∧ (∀ k : Nat, k < 2 → (-1) ≤ (σ 65 k).toInt ∧ (σ 65 k).toInt ≤ 80) := id hI105
  obtain ⟨i41, w42, w43, w44⟩ : (0 ≤ (σ 55 32).toInt ∧ (σ 55 32).toInt ≤ 20) ∧ (∀ k : Nat, k < 20 → 0 ≤ (σ 70 k).toInt ∧ (σ 70 k).toInt ≤ 6) ∧ (∀ k : Nat, k < 20 → 0 ≤ (σ 71 k).toInt ∧ (σ 71 k).toInt ≤ 8) ∧ (∀ k : Nat, k < 160 → 0 ≤ (σ 72 k).toInt ∧ (σ 72 k).toInt ≤ 3) := id hI106
  obtain ⟨i45, i46, w47⟩ : (0 ≤ (σ 55 47).toInt ∧ (σ 55 47).toInt ≤ 12) ∧ ((σ 55 47).toInt ≤ (σ 55 12).toInt) ∧ (∀ k : Nat, k < 12 → 0 ≤ (σ 80 k).toInt ∧ (σ 80 k).toInt ≤ 3) := id hI107
  have hs_jOk3 : jOk3 σ := hr0.ok hr1.1
  refine lv_aload_n hx hb dL_law_196 rfl (lv_at hl 2 rfl) ?_
  refine lv_aload_n hx hb dL_law_197 rfl (lv_at hl 3 rfl) ?_
  refine lv_iload_n hx hb dL_law_198 rfl (lv_at hl 0 rfl) ?_
  refine lv_iconst (v := 1) hx hb dL_law_199 (by decide) ?_
  have g48 := jrg (rfl : x0.toInt = x0.toInt)
  refine lv_iadd hx hb dL_law_200 ?_
  refine lv_topi (fun x49 ex49 => ?_)
  exact by
   have tx49 : x49.toInt = x0.toInt + 1 := (jadd ex49 rfl jz_1 (by omega) (by omega)).trans (by omega)
   refine va_sld hx hb hX hbl hbA hS (jin tx49 (by omega) (by omega)) dL_law_201 ?_
   have g50 := jrg (rfl : (xs x49.toNatClampNeg).toInt = (xs x49.toNatClampNeg).toInt)
   refine lv_aload_n hx hb dL_law_202 rfl (lv_at hl 3 rfl) ?_
   refine lv_iload_n hx hb dL_law_203 rfl (lv_at hl 0 rfl) ?_
   refine lv_iconst (v := 2) hx hb dL_law_204 (by decide) ?_
   refine lv_iadd hx hb dL_law_205 ?_
   refine lv_topi (fun x51 ex51 => ?_)
   have tx51 : x51.toInt = x0.toInt + 2 := (jadd ex51 rfl jz_2 (by omega) (by omega)).trans (by omega)
   exact by
    refine va_sld hx hb hX hbl hbA hS (jin tx51 (by omega) (by omega)) dL_law_206 ?_
    have g52 := jrg (rfl : (xs x51.toNatClampNeg).toInt = (xs x51.toNatClampNeg).toInt)
    refine lv_aload_n hx hb dL_law_207 rfl (lv_at hl 3 rfl) ?_
    refine lv_iload_n hx hb dL_law_208 rfl (lv_at hl 0 rfl) ?_
    refine lv_iconst (v := 3) hx hb dL_law_209 (by decide) ?_
    refine lv_iadd hx hb dL_law_210 ?_
    refine lv_topi (fun x53 ex53 => ?_)
    have tx53 : x53.toInt = x0.toInt + 3 := (jadd ex53 rfl jz_3 (by omega) (by omega)).trans (by omega)
    refine va_sld hx hb hX hbl hbA hS (jin tx53 (by omega) (by omega)) dL_law_211 ?_
    exact by
     have g54 := jrg (rfl : (xs x53.toNatClampNeg).toInt = (xs x53.toNatClampNeg).toInt)
     refine jcallV (As := [.int (xs x49.toNatClampNeg), .int (xs x51.toNatClampNeg), .int (xs x53.toNatClampNeg)]) (rest := []) ⟨hx, hb, hml, hown, hts⟩ hK hP hA hS hZ (c_X11_bowler l D cI cL ad zz hJ σ τ (xs x49.toNatClampNeg) ((xs x49.toNatClampNeg).toInt) rfl (xs x51.toNatClampNeg) ((xs x51.toNatClampNeg).toInt) rfl (xs x53.toNatClampNeg) ((xs x53.toNatClampNeg).toInt) rfl hI2) cw_RL_13 (jc_0 cI cL ad σ τ) rfl ⟨Nat.le_of_ble_eq_true rfl, Nat.le_of_ble_eq_true rfl⟩ rfl rfl rfl hl.1 rfl (Nat.le_of_ble_eq_true rfl) dL_law_212 ⟨Nat.le_of_ble_eq_true rfl, Nat.le_of_ble_eq_true rfl⟩ (fun r56 σ55 τ55 H locs h55 hP hS => ?_)
     obtain ⟨rfl, f57, f58, I59, h55⟩ := h55
     obtain ⟨i61, i62, i63, i64, i65, w66, w67⟩ : (0 ≤ (σ55 2 0).toInt ∧ (σ55 2 0).toInt ≤ 4) ∧ (0 ≤ (σ55 2 1).toInt ∧ (σ55 2 1).toInt ≤ 3) ∧ (0 ≤ (σ55 2 2).toInt) ∧ (0 ≤ (σ55 2 3).toInt) ∧ ((σ55 2 2).toInt + (σ55 2 3).toInt ≤ 40) ∧ (∀ k : Nat, k < 40 → 0 ≤ (σ55 6 k).toInt ∧ (σ55 6 k).toInt ≤ 67) ∧ (∀ k : Nat, k < 4 → 0 ≤ (σ55 5 k).toInt ∧ (σ55 5 k).toInt ≤ 20) := id I59
     have z68 : (σ55 2 1).toInt = (σ 2 1).toInt := (congrArg Int32.toInt (show σ55 2 1 = (σ 2 1) from (f58 1 (by decide))))
     have z69 : (σ55 2 2).toInt = (σ 2 2).toInt := (congrArg Int32.toInt (show σ55 2 2 = (σ 2 2) from (f58 2 (by decide))))
     have z70 : (σ55 2 3).toInt = (σ 2 3).toInt := (congrArg Int32.toInt (show σ55 2 3 = (σ 2 3) from (f58 3 (by decide))))
     rcases h55 with h71 | h72 | h73
     · obtain ⟨q77, k74, k75, k76⟩ := h71
       have q77 := q77.symm
       subst q77
       refine lv_pop hx hb dL_law_215 rfl ?_
       refine lv_aload_n hx hb dL_law_216 rfl (lv_at hl 1 rfl) ?_
       refine lv_aload_n hx hb dL_law_217 rfl (lv_at hl 3 rfl) ?_
       refine lv_iload_n hx hb dL_law_218 rfl (lv_at hl 0 rfl) ?_
       refine lv_iconst (v := 1) hx hb dL_law_219 (by decide) ?_
       refine lv_iadd hx hb dL_law_220 ?_
       refine jtopr ex49.symm ?_
       exact by
        refine va_sld hx hb hX hbl hbA hS (jin tx49 (by omega) (by omega)) dL_law_221 ?_
        refine lv_aload_n hx hb dL_law_222 rfl (lv_at hl 3 rfl) ?_
        refine lv_iload_n hx hb dL_law_223 rfl (lv_at hl 0 rfl) ?_
        refine lv_iconst (v := 2) hx hb dL_law_224 (by decide) ?_
        refine lv_iadd hx hb dL_law_225 ?_
        refine jtopr ex51.symm ?_
        refine va_sld hx hb hX hbl hbA hS (jin tx51 (by omega) (by omega)) dL_law_226 ?_
        refine lv_aload_n hx hb dL_law_227 rfl (lv_at hl 3 rfl) ?_
        refine lv_iload_n hx hb dL_law_228 rfl (lv_at hl 0 rfl) ?_
        exact by
         refine lv_iconst (v := 3) hx hb dL_law_229 (by decide) ?_
         refine lv_iadd hx hb dL_law_230 ?_
         refine jtopr ex53.symm ?_
         refine va_sld hx hb hX hbl hbA hS (jin tx53 (by omega) (by omega)) dL_law_231 ?_
         have I78 : jI101 σ55 := jI101_fr (congrFun (f57 55 (by decide)) 4) (congrFun (f57 55 (by decide)) 5) (f57 56 (by decide)) (f57 57 (by decide)) (f57 58 (by decide)) (f57 59 (by decide)) hI101
         have I79 : jI102 σ55 := jI102_fr (congrFun (f57 55 (by decide)) 6) (f57 60 (by decide)) (f57 61 (by decide)) hI102
         have z80 : (σ55 55 6).toInt = (σ 55 6).toInt := (congrArg Int32.toInt (show σ55 55 6 = (σ 55 6) from (congrFun (f57 55 (by decide)) 6)))
         refine jcallV (As := [.int (xs x49.toNatClampNeg), .int (xs x51.toNatClampNeg), .int (xs x53.toNatClampNeg)]) (rest := []) ⟨hx, hb, hml, hown, hts⟩ hK hP hA hS hZ (c_X12_bowler l D cI cL ad zz hJ σ55 τ (xs x49.toNatClampNeg) ((xs x49.toNatClampNeg).toInt) rfl (xs x51.toNatClampNeg) ((xs x51.toNatClampNeg).toInt) rfl (xs x53.toNatClampNeg) ((xs x53.toNatClampNeg).toInt) rfl I78 I79) cw_RL_17 (jc_55 cI cL ad σ55 τ) rfl ⟨Nat.le_of_ble_eq_true rfl, Nat.le_of_ble_eq_true rfl⟩ rfl rfl rfl hl.1 rfl (Nat.le_of_ble_eq_true rfl) dL_law_232 ⟨Nat.le_of_ble_eq_true rfl, Nat.le_of_ble_eq_true rfl⟩ (fun r82 σ81 τ81 H locs h81 hP hS => ?_)
         obtain ⟨rfl, f83, f84, I85, I86, h81⟩ := h81
         exact by
          obtain ⟨i88, i89, i90, w91, w92, w93, w94⟩ : (0 ≤ (σ81 55 5).toInt) ∧ ((σ81 55 5).toInt ≤ (σ81 55 4).toInt) ∧ ((σ81 55 4).toInt ≤ 40) ∧ (∀ k : Nat, k < 68 → (-200) ≤ (σ81 56 k).toInt ∧ (σ81 56 k).toInt ≤ 500) ∧ (∀ k : Nat, k < 40 → 0 ≤ (σ81 57 k).toInt ∧ (σ81 57 k).toInt ≤ 67) ∧ (∀ k : Nat, k < 40 → (-200) ≤ (σ81 58 k).toInt ∧ (σ81 58 k).toInt ≤ 500) ∧ (∀ k : Nat, k < 40 → (-200) ≤ (σ81 59 k).toInt ∧ (σ81 59 k).toInt ≤ 500) := id I85
          obtain ⟨i95, w96, w97⟩ : (0 ≤ (σ81 55 6).toInt ∧ (σ81 55 6).toInt ≤ 4) ∧ (∀ k : Nat, k < 4 → 0 ≤ (σ81 60 k).toInt ∧ (σ81 60 k).toInt ≤ 50) ∧ (∀ k : Nat, k < 4 → 0 ≤ (σ81 61 k).toInt ∧ (σ81 61 k).toInt ≤ 20) := id I86
          have z98 : (σ81 55 5).toInt = (σ 55 5).toInt := (congrArg Int32.toInt (show σ81 55 5 = (σ 55 5) from ((f84 5 (by decide)).trans (congrFun (f57 55 (by decide)) 5))))
          have z99 : (σ81 55 4).toInt = (σ 55 4).toInt := (congrArg Int32.toInt (show σ81 55 4 = (σ 55 4) from ((f84 4 (by decide)).trans (congrFun (f57 55 (by decide)) 4))))
          rcases h81 with h100 | h101 | h102
          · obtain ⟨q106, k103, k104, k105⟩ := h100
            have q106 := q106.symm
            subst q106
            refine lv_pop hx hb dL_law_235 rfl ?_
            refine lv_goto (tgt := 1357) hx hb dL_law_236 (by decide) ?_
            obtain ⟨x107, ex107⟩ : ∃ y : Int32, y = x0 + 6 := ⟨_, rfl⟩
            exact by
             have tx107 : x107.toInt = x0.toInt + 6 := (jadd ex107 rfl jz_6 (by omega) (by omega)).trans (by omega)
             refine lv_iinc (v := x107) (lv' := [(3, .int x107), (2, .ref (ad 55)), (1, .ref (ad 0)), (0, .ref b)]) hx hb dL_law_1357 hl (k := 0) rfl (by rw [ex107]; rfl) (by decide) rfl (fun ls hl => ?_)
             refine lv_goto (tgt := 18) hx hb dL_law_1360 (by decide) ?_
             have I108 : jI2 σ81 := jI2_fr (congrFun (f83 2 (by decide)) 0) (congrFun (f83 2 (by decide)) 1) (congrFun (f83 2 (by decide)) 2) (congrFun (f83 2 (by decide)) 3) (f83 6 (by decide)) (f83 5 (by decide)) I59
             have I109 : jI9 σ81 := jI9_fr ((congrFun (f83 9 (by decide)) 0).trans (congrFun (f57 9 (by decide)) 0)) ((f83 10 (by decide)).trans (f57 10 (by decide))) ((f83 11 (by decide)).trans (f57 11 (by decide))) hI9
             have I110 : jI12 σ81 := jI12_fr ((congrFun (f83 12 (by decide)) 0).trans (congrFun (f57 12 (by decide)) 0)) ((f83 13 (by decide)).trans (f57 13 (by decide))) hI12
             have I111 : jI16 σ81 := jI16_fr ((congrFun (f83 16 (by decide)) 0).trans (congrFun (f57 16 (by decide)) 0)) ((congrFun (f83 16 (by decide)) 1).trans (congrFun (f57 16 (by decide)) 1)) ((congrFun (f83 16 (by decide)) 2).trans (congrFun (f57 16 (by decide)) 2)) ((f83 17 (by decide)).trans (f57 17 (by decide))) hI16
             have I112 : jI18 σ81 := jI18_fr ((congrFun (f83 18 (by decide)) 0).trans (congrFun (f57 18 (by decide)) 0)) ((f83 19 (by decide)).trans (f57 19 (by decide))) hI18
             have I113 : jI22 σ81 := jI22_fr ((congrFun (f83 22 (by decide)) 0).trans (congrFun (f57 22 (by decide)) 0)) ((f83 23 (by decide)).trans (f57 23 (by decide))) hI22
             exact by
              have I114 : jI31 σ81 := jI31_fr ((congrFun (f83 31 (by decide)) 8).trans (congrFun (f57 31 (by decide)) 8)) ((congrFun (f83 31 (by decide)) 10).trans (congrFun (f57 31 (by decide)) 10)) ((congrFun (f83 31 (by decide)) 11).trans (congrFun (f57 31 (by decide)) 11)) ((f83 33 (by decide)).trans (f57 33 (by decide))) ((f83 35 (by decide)).trans (f57 35 (by decide))) ((f83 36 (by decide)).trans (f57 36 (by decide))) hI31
              have I115 : jI38 σ81 := jI38_fr ((congrFun (f83 38 (by decide)) 0).trans (congrFun (f57 38 (by decide)) 0)) ((congrFun (f83 38 (by decide)) 1).trans (congrFun (f57 38 (by decide)) 1)) ((f83 39 (by decide)).trans (f57 39 (by decide))) hI38
              have I116 : jI43 σ81 := jI43_fr ((congrFun (f83 43 (by decide)) 8).trans (congrFun (f57 43 (by decide)) 8)) hI43
              have I117 : jI47 σ81 := jI47_fr ((congrFun (f83 47 (by decide)) 0).trans (congrFun (f57 47 (by decide)) 0)) ((f83 48 (by decide)).trans (f57 48 (by decide))) ((f83 49 (by decide)).trans (f57 49 (by decide))) hI47
              have I118 : jI50 σ81 := jI50_fr ((f83 52 (by decide)).trans (f57 52 (by decide))) hI50
              have I119 : jI0 σ81 := jI0_fr ((f83 1 (by decide)).trans (f57 1 (by decide))) hI0
              have I120 : jI26 σ81 := jI26_fr ((congrFun (f83 26 (by decide)) 6).trans (congrFun (f57 26 (by decide)) 6)) hI26
              have I121 : jI103 σ81 := jI103_fr ((f84 9 (by decide)).trans (congrFun (f57 55 (by decide)) 9)) hI103
              have I122 : jI104 σ81 := jI104_fr ((f84 10 (by decide)).trans (congrFun (f57 55 (by decide)) 10)) ((f84 12 (by decide)).trans (congrFun (f57 55 (by decide)) 12)) ((f84 13 (by decide)).trans (congrFun (f57 55 (by decide)) 13)) ((f83 62 (by decide)).trans (f57 62 (by decide))) ((f83 67 (by decide)).trans (f57 67 (by decide))) hI104
              have I123 : jI105 σ81 := jI105_fr ((f84 15 (by decide)).trans (congrFun (f57 55 (by decide)) 15)) ((f83 65 (by decide)).trans (f57 65 (by decide))) hI105
              have I124 : jI106 σ81 := jI106_fr ((f84 32 (by decide)).trans (congrFun (f57 55 (by decide)) 32)) ((f83 70 (by decide)).trans (f57 70 (by decide))) ((f83 71 (by decide)).trans (f57 71 (by decide))) ((f83 72 (by decide)).trans (f57 72 (by decide))) hI106
              have I125 : jI107 σ81 := jI107_fr ((f84 12 (by decide)).trans (congrFun (f57 55 (by decide)) 12)) ((f84 47 (by decide)).trans (congrFun (f57 55 (by decide)) 47)) ((f83 80 (by decide)).trans (f57 80 (by decide))) hI107
              have I126 : jI109 σ81 := jI109_fr ((f84 50 (by decide)).trans (congrFun (f57 55 (by decide)) 50)) hI109
              have I127 : jI110 σ81 := jI110_fr ((f83 86 (by decide)).trans (f57 86 (by decide))) ((f83 87 (by decide)).trans (f57 87 (by decide))) hI110
              have I128 : jI111 σ81 := jI111_fr ((f83 79 (by decide)).trans (f57 79 (by decide))) hI111
              have I129 : jI119 σ81 := jI119_fr ((f83 68 (by decide)).trans (f57 68 (by decide))) hI119
              have p130 : jKept σ81 := jKept.fr ((f83 75 (by decide)).trans (f57 75 (by decide))) ((f83 76 (by decide)).trans (f57 76 (by decide))) ((f83 77 (by decide)).trans (f57 77 (by decide))) hs_jKept
              have p131 : jBook σ81 := jBook.fr ((f84 47 (by decide)).trans (congrFun (f57 55 (by decide)) 47)) ((f84 10 (by decide)).trans (congrFun (f57 55 (by decide)) 10)) ((f83 81 (by decide)).trans (f57 81 (by decide))) hs_jBook
              have p132 : jNd12 σ81 := jNd12.fr ((congrFun (f83 12 (by decide)) 0).trans (congrFun (f57 12 (by decide)) 0)) ((congrFun (f83 12 (by decide)) 1).trans (congrFun (f57 12 (by decide)) 1)) ((f83 13 (by decide)).trans (f57 13 (by decide))) hs_jNd12
              have p133 : jN67 σ81 := jN67.fr ((f83 24 (by decide)).trans (f57 24 (by decide))) hs_jN67
              have p134 : jBl σ81 := jBl.fr ((congrFun (f83 22 (by decide)) 0).trans (congrFun (f57 22 (by decide)) 0)) ((congrFun (f83 22 (by decide)) 1).trans (congrFun (f57 22 (by decide)) 1)) ((f83 23 (by decide)).trans (f57 23 (by decide))) ((congrFun (f83 26 (by decide)) 6).trans (congrFun (f57 26 (by decide)) 6)) ((congrFun (f83 26 (by decide)) 7).trans (congrFun (f57 26 (by decide)) 7)) ((f83 29 (by decide)).trans (f57 29 (by decide))) ((f83 30 (by decide)).trans (f57 30 (by decide))) hs_jBl
              have p135 : jKb σ81 := jKb.fr ((congrFun (f83 31 (by decide)) 8).trans (congrFun (f57 31 (by decide)) 8)) ((congrFun (f83 31 (by decide)) 11).trans (congrFun (f57 31 (by decide)) 11)) ((f83 32 (by decide)).trans (f57 32 (by decide))) hs_jKb
              have p136 : jTR σ81 := jTR.fr ((f83 64 (by decide)).trans (f57 64 (by decide))) ((f83 65 (by decide)).trans (f57 65 (by decide))) hs_jTR
              have p137 : jKh σ81 := jKh.fr ((congrFun (f83 31 (by decide)) 8).trans (congrFun (f57 31 (by decide)) 8)) ((f83 32 (by decide)).trans (f57 32 (by decide))) ((f83 36 (by decide)).trans (f57 36 (by decide))) ((f83 37 (by decide)).trans (f57 37 (by decide))) hs_jKh
              have p138 : jKg σ81 := jKg.fr ((congrFun (f83 31 (by decide)) 8).trans (congrFun (f57 31 (by decide)) 8)) ((congrFun (f83 31 (by decide)) 9).trans (congrFun (f57 31 (by decide)) 9)) ((congrFun (f83 31 (by decide)) 11).trans (congrFun (f57 31 (by decide)) 11)) ((congrFun (f83 31 (by decide)) 12).trans (congrFun (f57 31 (by decide)) 12)) ((f83 32 (by decide)).trans (f57 32 (by decide))) ((f83 33 (by decide)).trans (f57 33 (by decide))) hs_jKg
              have p139 : jNz σ81 := jNz.fr ((f83 34 (by decide)).trans (f57 34 (by decide))) hs_jNz
              have p140 : jqSt σ81 := jqSt.fr ((f83 78 (by decide)).trans (f57 78 (by decide))) ((f84 42 (by decide)).trans (congrFun (f57 55 (by decide)) 42)) hs_jqSt
              have z141 : (σ81 2 0).toInt = (σ55 2 0).toInt := (congrArg Int32.toInt (show σ81 2 0 = (σ55 2 0) from (congrFun (f83 2 (by decide)) 0)))
              have z142 : (σ81 2 2).toInt = (σ 2 2).toInt := (congrArg Int32.toInt (show σ81 2 2 = (σ 2 2) from ((congrFun (f83 2 (by decide)) 2).trans (f58 2 (by decide)))))
              have z143 : (σ81 2 3).toInt = (σ 2 3).toInt := (congrArg Int32.toInt (show σ81 2 3 = (σ 2 3) from ((congrFun (f83 2 (by decide)) 3).trans (f58 3 (by decide)))))
              have z144 : (σ81 9 0).toInt = (σ 9 0).toInt := (congrArg Int32.toInt (show σ81 9 0 = (σ 9 0) from ((congrFun (f83 9 (by decide)) 0).trans (congrFun (f57 9 (by decide)) 0))))
              have z145 : (σ81 55 15).toInt = (σ 55 15).toInt := (congrArg Int32.toInt (show σ81 55 15 = (σ 55 15) from ((f84 15 (by decide)).trans (congrFun (f57 55 (by decide)) 15))))
              have z146 : (σ81 16 0).toInt = (σ 16 0).toInt := (congrArg Int32.toInt (show σ81 16 0 = (σ 16 0) from ((congrFun (f83 16 (by decide)) 0).trans (congrFun (f57 16 (by decide)) 0))))
              have z147 : (σ81 55 10).toInt = (σ 55 10).toInt := (congrArg Int32.toInt (show σ81 55 10 = (σ 55 10) from ((f84 10 (by decide)).trans (congrFun (f57 55 (by decide)) 10))))
              have z148 : (σ81 16 1).toInt = (σ 16 1).toInt := (congrArg Int32.toInt (show σ81 16 1 = (σ 16 1) from ((congrFun (f83 16 (by decide)) 1).trans (congrFun (f57 16 (by decide)) 1))))
              have z149 : (σ81 55 12).toInt = (σ 55 12).toInt := (congrArg Int32.toInt (show σ81 55 12 = (σ 55 12) from ((f84 12 (by decide)).trans (congrFun (f57 55 (by decide)) 12))))
              have z150 : (σ81 16 2).toInt = (σ 16 2).toInt := (congrArg Int32.toInt (show σ81 16 2 = (σ 16 2) from ((congrFun (f83 16 (by decide)) 2).trans (congrFun (f57 16 (by decide)) 2))))
              have z151 : (σ81 55 13).toInt = (σ 55 13).toInt := (congrArg Int32.toInt (show σ81 55 13 = (σ 55 13) from ((f84 13 (by decide)).trans (congrFun (f57 55 (by decide)) 13))))
              have z152 : (σ81 38 0).toInt = (σ 38 0).toInt := (congrArg Int32.toInt (show σ81 38 0 = (σ 38 0) from ((congrFun (f83 38 (by decide)) 0).trans (congrFun (f57 38 (by decide)) 0))))
              have z153 : (σ81 55 32).toInt = (σ 55 32).toInt := (congrArg Int32.toInt (show σ81 55 32 = (σ 55 32) from ((f84 32 (by decide)).trans (congrFun (f57 55 (by decide)) 32))))
              have z154 : (σ81 38 1).toInt = (σ 38 1).toInt := (congrArg Int32.toInt (show σ81 38 1 = (σ 38 1) from ((congrFun (f83 38 (by decide)) 1).trans (congrFun (f57 38 (by decide)) 1))))
              have z155 : (σ81 55 55).toInt = (σ 55 55).toInt := (congrArg Int32.toInt (show σ81 55 55 = (σ 55 55) from ((f84 55 (by decide)).trans (congrFun (f57 55 (by decide)) 55))))
              have z156 : (σ81 47 0).toInt = (σ 47 0).toInt := (congrArg Int32.toInt (show σ81 47 0 = (σ 47 0) from ((congrFun (f83 47 (by decide)) 0).trans (congrFun (f57 47 (by decide)) 0))))
              have z157 : (σ81 55 47).toInt = (σ 55 47).toInt := (congrArg Int32.toInt (show σ81 55 47 = (σ 55 47) from ((f84 47 (by decide)).trans (congrFun (f57 55 (by decide)) 47))))
              have z158 : (σ81 55 30).toInt = (σ 55 30).toInt := (congrArg Int32.toInt (show σ81 55 30 = (σ 55 30) from ((f84 30 (by decide)).trans (congrFun (f57 55 (by decide)) 30))))
              have z159 : (σ81 55 31).toInt = (σ 55 31).toInt := (congrArg Int32.toInt (show σ81 55 31 = (σ 55 31) from ((f84 31 (by decide)).trans (congrFun (f57 55 (by decide)) 31))))
              have z160 : (σ81 2 1).toInt = (σ 2 1).toInt := (congrArg Int32.toInt (show σ81 2 1 = (σ 2 1) from ((congrFun (f83 2 (by decide)) 1).trans (f58 1 (by decide)))))
              have z161 : (σ81 55 9).toInt = (σ 55 9).toInt := (congrArg Int32.toInt (show σ81 55 9 = (σ 55 9) from ((f84 9 (by decide)).trans (congrFun (f57 55 (by decide)) 9))))
              have z162 : (σ81 55 42).toInt = (σ 55 42).toInt := (congrArg Int32.toInt (show σ81 55 42 = (σ 55 42) from ((f84 42 (by decide)).trans (congrFun (f57 55 (by decide)) 42))))
              have z163 : (σ81 26 6).toInt = (σ 26 6).toInt := (congrArg Int32.toInt (show σ81 26 6 = (σ 26 6) from ((congrFun (f83 26 (by decide)) 6).trans (congrFun (f57 26 (by decide)) 6))))
              have z165 : (σ81 18 0).toInt = (σ 18 0).toInt := (congrArg Int32.toInt (show σ81 18 0 = (σ 18 0) from ((congrFun (f83 18 (by decide)) 0).trans (congrFun (f57 18 (by decide)) 0))))
              have z166 : (σ81 22 0).toInt = (σ 22 0).toInt := (congrArg Int32.toInt (show σ81 22 0 = (σ 22 0) from ((congrFun (f83 22 (by decide)) 0).trans (congrFun (f57 22 (by decide)) 0))))
              exact by exact ih x107 σ81 τ _ _ ls (by have h9 := tx107; omega) ⟨I108, I109, I110, I111, I112, I113, I114, I115, I116, I117, I118, I119, I120, I85, I86, I121, I122, I123, I124, I125, I126, I127, I128, I129, p130, p131, p132, p133, p134, p135, p136, p137, p138, p139, p140, (by omega), (by rw [z142, z98]; exact ht1), (by rw [z142, z143, z99]; exact ht2), (by rw [z144, z145]; exact ht3), (by rw [z146, z147]; exact ht4), (by rw [z148, z149]; exact ht5), (by rw [z150, z151]; exact ht6), (by rw [z152, z153]; exact ht7), (by rw [z154, z155]; exact ht8), (by rw [z156, z157]; exact ht9), (by rw [z158]; exact ht10), (by rw [z159]; exact ht11), (by rw [z160, z161]; exact ht12), (by rw [z162]; exact ht13), (by have h9 := tx107; omega), (by have h9 := tx107; omega), (show jNumP (σ81 3) (σ81 56) (σ81 6) (σ81 57) (σ81 7) (σ81 58) (σ81 8) (σ81 59) (σ81 55 6).toInt (σ81 55 4).toInt by rw [show σ81 3 = σ 3 from ((f83 3 (by decide)).trans k76.1), show σ81 56 = σ 56 from (k105.1.trans (f57 56 (by decide))), show σ81 6 = σ 6 from ((f83 6 (by decide)).trans (f57 6 (by decide))), show σ81 57 = σ 57 from ((f83 57 (by decide)).trans (f57 57 (by decide))), show σ81 7 = σ 7 from ((f83 7 (by decide)).trans (f57 7 (by decide))), show σ81 58 = σ 58 from ((f83 58 (by decide)).trans (f57 58 (by decide))), show σ81 8 = σ 8 from ((f83 8 (by decide)).trans (f57 8 (by decide))), show σ81 59 = σ 59 from ((f83 59 (by decide)).trans (f57 59 (by decide))), show (σ81 55 6).toInt = (σ 55 6).toInt from by omega, show (σ81 55 4).toInt = (σ 55 4).toInt from z99]; exact hr0), (show jOvP (σ81 56) (σ81 57) (σ81 58) (σ81 59) (σ81 55 4).toInt by rw [show σ81 56 = σ 56 from (k105.1.trans (f57 56 (by decide))), show σ81 57 = σ 57 from ((f83 57 (by decide)).trans (f57 57 (by decide))), show σ81 58 = σ 58 from ((f83 58 (by decide)).trans (f57 58 (by decide))), show σ81 59 = σ 59 from ((f83 59 (by decide)).trans (f57 59 (by decide))), show (σ81 55 4).toInt = (σ 55 4).toInt from z99]; exact hr1), (show jTp (σ81 10) (σ81 63) (σ81 55 15).toInt by rw [show σ81 10 = σ 10 from ((f83 10 (by decide)).trans (f57 10 (by decide))), show σ81 63 = σ 63 from ((f83 63 (by decide)).trans (f57 63 (by decide)))]; exact hr2.le (by omega)), (show jSo (σ81 17) (σ81 62) (σ81 16 0).toInt by rw [show σ81 17 = σ 17 from ((f83 17 (by decide)).trans (f57 17 (by decide))), show σ81 62 = σ 62 from ((f83 62 (by decide)).trans (f57 62 (by decide))), show (σ81 16 0).toInt = (σ 16 0).toInt from z146]; exact hr3), (show jShP (σ81 51) (σ81 52) (σ81 53) (σ81 86) (σ81 87) (σ81 55 32).toInt by rw [show σ81 51 = σ 51 from ((f83 51 (by decide)).trans (f57 51 (by decide))), show σ81 52 = σ 52 from ((f83 52 (by decide)).trans (f57 52 (by decide))), show σ81 53 = σ 53 from ((f83 53 (by decide)).trans (f57 53 (by decide))), show σ81 86 = σ 86 from ((f83 86 (by decide)).trans (f57 86 (by decide))), show σ81 87 = σ 87 from ((f83 87 (by decide)).trans (f57 87 (by decide)))]; exact (hr4.up (by omega) (by omega))), (show jEl (σ81 51) (σ81 52) (τ 54) (τ 88) by rw [show σ81 51 = σ 51 from ((f83 51 (by decide)).trans (f57 51 (by decide))), show σ81 52 = σ 52 from ((f83 52 (by decide)).trans (f57 52 (by decide)))]; exact hr5), (show jByP (σ81 51) (σ81 52) (τ 54) by rw [show σ81 51 = σ 51 from ((f83 51 (by decide)).trans (f57 51 (by decide))), show σ81 52 = σ 52 from ((f83 52 (by decide)).trans (f57 52 (by decide)))]; exact hr6), (show jBk (σ81 48) (σ81 80) (σ81 49) (σ81 81) (σ81 55 47).toInt by rw [show σ81 48 = σ 48 from ((f83 48 (by decide)).trans (f57 48 (by decide))), show σ81 49 = σ 49 from ((f83 49 (by decide)).trans (f57 49 (by decide))), show σ81 80 = σ 80 from ((f83 80 (by decide)).trans (f57 80 (by decide))), show σ81 81 = σ 81 from ((f83 81 (by decide)).trans (f57 81 (by decide))), show (σ81 55 47).toInt = (σ 55 47).toInt from z157]; exact hr7), (show jKd (σ81 39) (σ81 70) (σ81 55 32).toInt by rw [show σ81 39 = σ 39 from ((f83 39 (by decide)).trans (f57 39 (by decide))), show σ81 70 = σ 70 from ((f83 70 (by decide)).trans (f57 70 (by decide))), show (σ81 55 32).toInt = (σ 55 32).toInt from z153]; exact hr8), (show jTt (σ81 42) (σ81 85) (σ81 55 55).toInt by rw [show σ81 42 = σ 42 from ((f83 42 (by decide)).trans (f57 42 (by decide))), show σ81 85 = σ 85 from ((f83 85 (by decide)).trans (f57 85 (by decide))), show (σ81 55 55).toInt = (σ 55 55).toInt from z155]; exact hr9), (fun k hk => by rw [show σ81 4 = σ 4 from ((f83 4 (by decide)).trans k76.2.1), show σ81 5 = σ 5 from ((f83 5 (by decide)).trans k76.2.2), show σ81 60 = σ 60 from (k105.2.1.trans (f57 60 (by decide))), show σ81 61 = σ 61 from (k105.2.2.trans (f57 61 (by decide)))]; exact hr10 k (by omega)), (fun nm => by rw [show σ81 19 = σ 19 from ((f83 19 (by decide)).trans (f57 19 (by decide))), show σ81 64 = σ 64 from ((f83 64 (by decide)).trans (f57 64 (by decide))), show σ81 65 = σ 65 from ((f83 65 (by decide)).trans (f57 65 (by decide))), show (σ81 18 0).toInt = (σ 18 0).toInt from z165]; exact hr11 nm), (fun nm => by rw [show σ81 23 = σ 23 from ((f83 23 (by decide)).trans (f57 23 (by decide))), show σ81 64 = σ 64 from ((f83 64 (by decide)).trans (f57 64 (by decide))), show σ81 65 = σ 65 from ((f83 65 (by decide)).trans (f57 65 (by decide))), show (σ81 22 0).toInt = (σ 22 0).toInt from z166]; exact hr12 nm), (show jAlP (σ81 56) (σ81 57) (σ81 58) (σ81 59) (σ81 55 4).toInt by rw [show σ81 56 = σ 56 from (k105.1.trans (f57 56 (by decide))), show σ81 57 = σ 57 from ((f83 57 (by decide)).trans (f57 57 (by decide))), show σ81 58 = σ 58 from ((f83 58 (by decide)).trans (f57 58 (by decide))), show σ81 59 = σ 59 from ((f83 59 (by decide)).trans (f57 59 (by decide))), show (σ81 55 4).toInt = (σ 55 4).toInt from z99]; exact hr13), (show jqbN (σ81 80) (σ81 55 47).toInt by rw [show σ81 80 = σ 80 from ((f83 80 (by decide)).trans (f57 80 (by decide))), show (σ81 55 47).toInt = (σ 55 47).toInt from z157]; exact hr14)⟩ hP hS (lv_sub hl [0, 1, 2, 3] rfl)
          · obtain ⟨q173, k167, k168, k169, k170, k171, k172⟩ := h101
            exact absurd (by omega : False) id
          · obtain ⟨q182, k174, k175, k176, k177, k178, k179, k180, k181⟩ := h102
            exact absurd (by omega : False) id
     · obtain ⟨q189, k183, k184, k185, k186, k187, k188⟩ := h72
       have q189 := q189.symm
       subst q189
       refine lv_pop hx hb dL_law_215 rfl ?_
       refine lv_aload_n hx hb dL_law_216 rfl (lv_at hl 1 rfl) ?_
       refine lv_aload_n hx hb dL_law_217 rfl (lv_at hl 3 rfl) ?_
       refine lv_iload_n hx hb dL_law_218 rfl (lv_at hl 0 rfl) ?_
       refine lv_iconst (v := 1) hx hb dL_law_219 (by decide) ?_
       refine lv_iadd hx hb dL_law_220 ?_
       refine jtopr ex49.symm ?_
       exact by
        refine va_sld hx hb hX hbl hbA hS (jin tx49 (by omega) (by omega)) dL_law_221 ?_
        refine lv_aload_n hx hb dL_law_222 rfl (lv_at hl 3 rfl) ?_
        refine lv_iload_n hx hb dL_law_223 rfl (lv_at hl 0 rfl) ?_
        refine lv_iconst (v := 2) hx hb dL_law_224 (by decide) ?_
        refine lv_iadd hx hb dL_law_225 ?_
        refine jtopr ex51.symm ?_
        refine va_sld hx hb hX hbl hbA hS (jin tx51 (by omega) (by omega)) dL_law_226 ?_
        refine lv_aload_n hx hb dL_law_227 rfl (lv_at hl 3 rfl) ?_
        refine lv_iload_n hx hb dL_law_228 rfl (lv_at hl 0 rfl) ?_
        exact by
         refine lv_iconst (v := 3) hx hb dL_law_229 (by decide) ?_
         refine lv_iadd hx hb dL_law_230 ?_
         refine jtopr ex53.symm ?_
         refine va_sld hx hb hX hbl hbA hS (jin tx53 (by omega) (by omega)) dL_law_231 ?_
         have I190 : jI101 σ55 := jI101_fr (congrFun (f57 55 (by decide)) 4) (congrFun (f57 55 (by decide)) 5) (f57 56 (by decide)) (f57 57 (by decide)) (f57 58 (by decide)) (f57 59 (by decide)) hI101
         have I191 : jI102 σ55 := jI102_fr (congrFun (f57 55 (by decide)) 6) (f57 60 (by decide)) (f57 61 (by decide)) hI102
         have z192 : (σ55 55 6).toInt = (σ 55 6).toInt := (congrArg Int32.toInt (show σ55 55 6 = (σ 55 6) from (congrFun (f57 55 (by decide)) 6)))
         refine jcallV (As := [.int (xs x49.toNatClampNeg), .int (xs x51.toNatClampNeg), .int (xs x53.toNatClampNeg)]) (rest := []) ⟨hx, hb, hml, hown, hts⟩ hK hP hA hS hZ (c_X12_bowler l D cI cL ad zz hJ σ55 τ (xs x49.toNatClampNeg) ((xs x49.toNatClampNeg).toInt) rfl (xs x51.toNatClampNeg) ((xs x51.toNatClampNeg).toInt) rfl (xs x53.toNatClampNeg) ((xs x53.toNatClampNeg).toInt) rfl I190 I191) cw_RL_17 (jc_55 cI cL ad σ55 τ) rfl ⟨Nat.le_of_ble_eq_true rfl, Nat.le_of_ble_eq_true rfl⟩ rfl rfl rfl hl.1 rfl (Nat.le_of_ble_eq_true rfl) dL_law_232 ⟨Nat.le_of_ble_eq_true rfl, Nat.le_of_ble_eq_true rfl⟩ (fun r194 σ193 τ193 H locs h193 hP hS => ?_)
         obtain ⟨rfl, f195, f196, I197, I198, h193⟩ := h193
         exact by
          obtain ⟨i200, i201, i202, w203, w204, w205, w206⟩ : (0 ≤ (σ193 55 5).toInt) ∧ ((σ193 55 5).toInt ≤ (σ193 55 4).toInt) ∧ ((σ193 55 4).toInt ≤ 40) ∧ (∀ k : Nat, k < 68 → (-200) ≤ (σ193 56 k).toInt ∧ (σ193 56 k).toInt ≤ 500) ∧ (∀ k : Nat, k < 40 → 0 ≤ (σ193 57 k).toInt ∧ (σ193 57 k).toInt ≤ 67) ∧ (∀ k : Nat, k < 40 → (-200) ≤ (σ193 58 k).toInt ∧ (σ193 58 k).toInt ≤ 500) ∧ (∀ k : Nat, k < 40 → (-200) ≤ (σ193 59 k).toInt ∧ (σ193 59 k).toInt ≤ 500) := id I197
          obtain ⟨i207, w208, w209⟩ : (0 ≤ (σ193 55 6).toInt ∧ (σ193 55 6).toInt ≤ 4) ∧ (∀ k : Nat, k < 4 → 0 ≤ (σ193 60 k).toInt ∧ (σ193 60 k).toInt ≤ 50) ∧ (∀ k : Nat, k < 4 → 0 ≤ (σ193 61 k).toInt ∧ (σ193 61 k).toInt ≤ 20) := id I198
          have z210 : (σ193 55 5).toInt = (σ 55 5).toInt := (congrArg Int32.toInt (show σ193 55 5 = (σ 55 5) from ((f196 5 (by decide)).trans (congrFun (f57 55 (by decide)) 5))))
          have z211 : (σ193 55 4).toInt = (σ 55 4).toInt := (congrArg Int32.toInt (show σ193 55 4 = (σ 55 4) from ((f196 4 (by decide)).trans (congrFun (f57 55 (by decide)) 4))))
          rcases h193 with h212 | h213 | h214
          · obtain ⟨q218, k215, k216, k217⟩ := h212
            exact absurd (by omega : False) id
          · obtain ⟨q225, k219, k220, k221, k222, k223, k224⟩ := h213
            have q225 := q225.symm
            subst q225
            refine lv_pop hx hb dL_law_235 rfl ?_
            refine lv_goto (tgt := 1357) hx hb dL_law_236 (by decide) ?_
            obtain ⟨x226, ex226⟩ : ∃ y : Int32, y = x0 + 6 := ⟨_, rfl⟩
            exact by
             have tx226 : x226.toInt = x0.toInt + 6 := (jadd ex226 rfl jz_6 (by omega) (by omega)).trans (by omega)
             refine lv_iinc (v := x226) (lv' := [(3, .int x226), (2, .ref (ad 55)), (1, .ref (ad 0)), (0, .ref b)]) hx hb dL_law_1357 hl (k := 0) rfl (by rw [ex226]; rfl) (by decide) rfl (fun ls hl => ?_)
             refine lv_goto (tgt := 18) hx hb dL_law_1360 (by decide) ?_
             have I227 : jI2 σ193 := jI2_fr (congrFun (f195 2 (by decide)) 0) (congrFun (f195 2 (by decide)) 1) (congrFun (f195 2 (by decide)) 2) (congrFun (f195 2 (by decide)) 3) (f195 6 (by decide)) (f195 5 (by decide)) I59
             have I228 : jI9 σ193 := jI9_fr ((congrFun (f195 9 (by decide)) 0).trans (congrFun (f57 9 (by decide)) 0)) ((f195 10 (by decide)).trans (f57 10 (by decide))) ((f195 11 (by decide)).trans (f57 11 (by decide))) hI9
             have I229 : jI12 σ193 := jI12_fr ((congrFun (f195 12 (by decide)) 0).trans (congrFun (f57 12 (by decide)) 0)) ((f195 13 (by decide)).trans (f57 13 (by decide))) hI12
             have I230 : jI16 σ193 := jI16_fr ((congrFun (f195 16 (by decide)) 0).trans (congrFun (f57 16 (by decide)) 0)) ((congrFun (f195 16 (by decide)) 1).trans (congrFun (f57 16 (by decide)) 1)) ((congrFun (f195 16 (by decide)) 2).trans (congrFun (f57 16 (by decide)) 2)) ((f195 17 (by decide)).trans (f57 17 (by decide))) hI16
             have I231 : jI18 σ193 := jI18_fr ((congrFun (f195 18 (by decide)) 0).trans (congrFun (f57 18 (by decide)) 0)) ((f195 19 (by decide)).trans (f57 19 (by decide))) hI18
             have I232 : jI22 σ193 := jI22_fr ((congrFun (f195 22 (by decide)) 0).trans (congrFun (f57 22 (by decide)) 0)) ((f195 23 (by decide)).trans (f57 23 (by decide))) hI22
             exact by
              have I233 : jI31 σ193 := jI31_fr ((congrFun (f195 31 (by decide)) 8).trans (congrFun (f57 31 (by decide)) 8)) ((congrFun (f195 31 (by decide)) 10).trans (congrFun (f57 31 (by decide)) 10)) ((congrFun (f195 31 (by decide)) 11).trans (congrFun (f57 31 (by decide)) 11)) ((f195 33 (by decide)).trans (f57 33 (by decide))) ((f195 35 (by decide)).trans (f57 35 (by decide))) ((f195 36 (by decide)).trans (f57 36 (by decide))) hI31
              have I234 : jI38 σ193 := jI38_fr ((congrFun (f195 38 (by decide)) 0).trans (congrFun (f57 38 (by decide)) 0)) ((congrFun (f195 38 (by decide)) 1).trans (congrFun (f57 38 (by decide)) 1)) ((f195 39 (by decide)).trans (f57 39 (by decide))) hI38
              have I235 : jI43 σ193 := jI43_fr ((congrFun (f195 43 (by decide)) 8).trans (congrFun (f57 43 (by decide)) 8)) hI43
              have I236 : jI47 σ193 := jI47_fr ((congrFun (f195 47 (by decide)) 0).trans (congrFun (f57 47 (by decide)) 0)) ((f195 48 (by decide)).trans (f57 48 (by decide))) ((f195 49 (by decide)).trans (f57 49 (by decide))) hI47
              have I237 : jI50 σ193 := jI50_fr ((f195 52 (by decide)).trans (f57 52 (by decide))) hI50
              have I238 : jI0 σ193 := jI0_fr ((f195 1 (by decide)).trans (f57 1 (by decide))) hI0
              have I239 : jI26 σ193 := jI26_fr ((congrFun (f195 26 (by decide)) 6).trans (congrFun (f57 26 (by decide)) 6)) hI26
              have I240 : jI103 σ193 := jI103_fr ((f196 9 (by decide)).trans (congrFun (f57 55 (by decide)) 9)) hI103
              have I241 : jI104 σ193 := jI104_fr ((f196 10 (by decide)).trans (congrFun (f57 55 (by decide)) 10)) ((f196 12 (by decide)).trans (congrFun (f57 55 (by decide)) 12)) ((f196 13 (by decide)).trans (congrFun (f57 55 (by decide)) 13)) ((f195 62 (by decide)).trans (f57 62 (by decide))) ((f195 67 (by decide)).trans (f57 67 (by decide))) hI104
              have I242 : jI105 σ193 := jI105_fr ((f196 15 (by decide)).trans (congrFun (f57 55 (by decide)) 15)) ((f195 65 (by decide)).trans (f57 65 (by decide))) hI105
              have I243 : jI106 σ193 := jI106_fr ((f196 32 (by decide)).trans (congrFun (f57 55 (by decide)) 32)) ((f195 70 (by decide)).trans (f57 70 (by decide))) ((f195 71 (by decide)).trans (f57 71 (by decide))) ((f195 72 (by decide)).trans (f57 72 (by decide))) hI106
              have I244 : jI107 σ193 := jI107_fr ((f196 12 (by decide)).trans (congrFun (f57 55 (by decide)) 12)) ((f196 47 (by decide)).trans (congrFun (f57 55 (by decide)) 47)) ((f195 80 (by decide)).trans (f57 80 (by decide))) hI107
              have I245 : jI109 σ193 := jI109_fr ((f196 50 (by decide)).trans (congrFun (f57 55 (by decide)) 50)) hI109
              have I246 : jI110 σ193 := jI110_fr ((f195 86 (by decide)).trans (f57 86 (by decide))) ((f195 87 (by decide)).trans (f57 87 (by decide))) hI110
              have I247 : jI111 σ193 := jI111_fr ((f195 79 (by decide)).trans (f57 79 (by decide))) hI111
              have I248 : jI119 σ193 := jI119_fr ((f195 68 (by decide)).trans (f57 68 (by decide))) hI119
              have p249 : jKept σ193 := jKept.fr ((f195 75 (by decide)).trans (f57 75 (by decide))) ((f195 76 (by decide)).trans (f57 76 (by decide))) ((f195 77 (by decide)).trans (f57 77 (by decide))) hs_jKept
              have p250 : jBook σ193 := jBook.fr ((f196 47 (by decide)).trans (congrFun (f57 55 (by decide)) 47)) ((f196 10 (by decide)).trans (congrFun (f57 55 (by decide)) 10)) ((f195 81 (by decide)).trans (f57 81 (by decide))) hs_jBook
              have p251 : jNd12 σ193 := jNd12.fr ((congrFun (f195 12 (by decide)) 0).trans (congrFun (f57 12 (by decide)) 0)) ((congrFun (f195 12 (by decide)) 1).trans (congrFun (f57 12 (by decide)) 1)) ((f195 13 (by decide)).trans (f57 13 (by decide))) hs_jNd12
              have p252 : jN67 σ193 := jN67.fr ((f195 24 (by decide)).trans (f57 24 (by decide))) hs_jN67
              have p253 : jBl σ193 := jBl.fr ((congrFun (f195 22 (by decide)) 0).trans (congrFun (f57 22 (by decide)) 0)) ((congrFun (f195 22 (by decide)) 1).trans (congrFun (f57 22 (by decide)) 1)) ((f195 23 (by decide)).trans (f57 23 (by decide))) ((congrFun (f195 26 (by decide)) 6).trans (congrFun (f57 26 (by decide)) 6)) ((congrFun (f195 26 (by decide)) 7).trans (congrFun (f57 26 (by decide)) 7)) ((f195 29 (by decide)).trans (f57 29 (by decide))) ((f195 30 (by decide)).trans (f57 30 (by decide))) hs_jBl
              have p254 : jKb σ193 := jKb.fr ((congrFun (f195 31 (by decide)) 8).trans (congrFun (f57 31 (by decide)) 8)) ((congrFun (f195 31 (by decide)) 11).trans (congrFun (f57 31 (by decide)) 11)) ((f195 32 (by decide)).trans (f57 32 (by decide))) hs_jKb
              have p255 : jTR σ193 := jTR.fr ((f195 64 (by decide)).trans (f57 64 (by decide))) ((f195 65 (by decide)).trans (f57 65 (by decide))) hs_jTR
              have p256 : jKh σ193 := jKh.fr ((congrFun (f195 31 (by decide)) 8).trans (congrFun (f57 31 (by decide)) 8)) ((f195 32 (by decide)).trans (f57 32 (by decide))) ((f195 36 (by decide)).trans (f57 36 (by decide))) ((f195 37 (by decide)).trans (f57 37 (by decide))) hs_jKh
              have p257 : jKg σ193 := jKg.fr ((congrFun (f195 31 (by decide)) 8).trans (congrFun (f57 31 (by decide)) 8)) ((congrFun (f195 31 (by decide)) 9).trans (congrFun (f57 31 (by decide)) 9)) ((congrFun (f195 31 (by decide)) 11).trans (congrFun (f57 31 (by decide)) 11)) ((congrFun (f195 31 (by decide)) 12).trans (congrFun (f57 31 (by decide)) 12)) ((f195 32 (by decide)).trans (f57 32 (by decide))) ((f195 33 (by decide)).trans (f57 33 (by decide))) hs_jKg
              have p258 : jNz σ193 := jNz.fr ((f195 34 (by decide)).trans (f57 34 (by decide))) hs_jNz
              have p259 : jqSt σ193 := jqSt.fr ((f195 78 (by decide)).trans (f57 78 (by decide))) ((f196 42 (by decide)).trans (congrFun (f57 55 (by decide)) 42)) hs_jqSt
              have z260 : (σ193 2 0).toInt = (σ55 2 0).toInt := (congrArg Int32.toInt (show σ193 2 0 = (σ55 2 0) from (congrFun (f195 2 (by decide)) 0)))
              have z261 : (σ193 2 2).toInt = (σ 2 2).toInt := (congrArg Int32.toInt (show σ193 2 2 = (σ 2 2) from ((congrFun (f195 2 (by decide)) 2).trans (f58 2 (by decide)))))
              have z262 : (σ193 2 3).toInt = (σ 2 3).toInt := (congrArg Int32.toInt (show σ193 2 3 = (σ 2 3) from ((congrFun (f195 2 (by decide)) 3).trans (f58 3 (by decide)))))
              have z263 : (σ193 9 0).toInt = (σ 9 0).toInt := (congrArg Int32.toInt (show σ193 9 0 = (σ 9 0) from ((congrFun (f195 9 (by decide)) 0).trans (congrFun (f57 9 (by decide)) 0))))
              have z264 : (σ193 55 15).toInt = (σ 55 15).toInt := (congrArg Int32.toInt (show σ193 55 15 = (σ 55 15) from ((f196 15 (by decide)).trans (congrFun (f57 55 (by decide)) 15))))
              have z265 : (σ193 16 0).toInt = (σ 16 0).toInt := (congrArg Int32.toInt (show σ193 16 0 = (σ 16 0) from ((congrFun (f195 16 (by decide)) 0).trans (congrFun (f57 16 (by decide)) 0))))
              have z266 : (σ193 55 10).toInt = (σ 55 10).toInt := (congrArg Int32.toInt (show σ193 55 10 = (σ 55 10) from ((f196 10 (by decide)).trans (congrFun (f57 55 (by decide)) 10))))
              have z267 : (σ193 16 1).toInt = (σ 16 1).toInt := (congrArg Int32.toInt (show σ193 16 1 = (σ 16 1) from ((congrFun (f195 16 (by decide)) 1).trans (congrFun (f57 16 (by decide)) 1))))
              have z268 : (σ193 55 12).toInt = (σ 55 12).toInt := (congrArg Int32.toInt (show σ193 55 12 = (σ 55 12) from ((f196 12 (by decide)).trans (congrFun (f57 55 (by decide)) 12))))
              have z269 : (σ193 16 2).toInt = (σ 16 2).toInt := (congrArg Int32.toInt (show σ193 16 2 = (σ 16 2) from ((congrFun (f195 16 (by decide)) 2).trans (congrFun (f57 16 (by decide)) 2))))
              have z270 : (σ193 55 13).toInt = (σ 55 13).toInt := (congrArg Int32.toInt (show σ193 55 13 = (σ 55 13) from ((f196 13 (by decide)).trans (congrFun (f57 55 (by decide)) 13))))
              have z271 : (σ193 38 0).toInt = (σ 38 0).toInt := (congrArg Int32.toInt (show σ193 38 0 = (σ 38 0) from ((congrFun (f195 38 (by decide)) 0).trans (congrFun (f57 38 (by decide)) 0))))
              have z272 : (σ193 55 32).toInt = (σ 55 32).toInt := (congrArg Int32.toInt (show σ193 55 32 = (σ 55 32) from ((f196 32 (by decide)).trans (congrFun (f57 55 (by decide)) 32))))
              have z273 : (σ193 38 1).toInt = (σ 38 1).toInt := (congrArg Int32.toInt (show σ193 38 1 = (σ 38 1) from ((congrFun (f195 38 (by decide)) 1).trans (congrFun (f57 38 (by decide)) 1))))
              have z274 : (σ193 55 55).toInt = (σ 55 55).toInt := (congrArg Int32.toInt (show σ193 55 55 = (σ 55 55) from ((f196 55 (by decide)).trans (congrFun (f57 55 (by decide)) 55))))
              have z275 : (σ193 47 0).toInt = (σ 47 0).toInt := (congrArg Int32.toInt (show σ193 47 0 = (σ 47 0) from ((congrFun (f195 47 (by decide)) 0).trans (congrFun (f57 47 (by decide)) 0))))
              have z276 : (σ193 55 47).toInt = (σ 55 47).toInt := (congrArg Int32.toInt (show σ193 55 47 = (σ 55 47) from ((f196 47 (by decide)).trans (congrFun (f57 55 (by decide)) 47))))
              have z277 : (σ193 55 30).toInt = (σ 55 30).toInt := (congrArg Int32.toInt (show σ193 55 30 = (σ 55 30) from ((f196 30 (by decide)).trans (congrFun (f57 55 (by decide)) 30))))
              have z278 : (σ193 55 31).toInt = (σ 55 31).toInt := (congrArg Int32.toInt (show σ193 55 31 = (σ 55 31) from ((f196 31 (by decide)).trans (congrFun (f57 55 (by decide)) 31))))
              have z279 : (σ193 2 1).toInt = (σ 2 1).toInt := (congrArg Int32.toInt (show σ193 2 1 = (σ 2 1) from ((congrFun (f195 2 (by decide)) 1).trans (f58 1 (by decide)))))
              have z280 : (σ193 55 9).toInt = (σ 55 9).toInt := (congrArg Int32.toInt (show σ193 55 9 = (σ 55 9) from ((f196 9 (by decide)).trans (congrFun (f57 55 (by decide)) 9))))
              have z281 : (σ193 55 42).toInt = (σ 55 42).toInt := (congrArg Int32.toInt (show σ193 55 42 = (σ 55 42) from ((f196 42 (by decide)).trans (congrFun (f57 55 (by decide)) 42))))
              have z282 : (σ193 26 6).toInt = (σ 26 6).toInt := (congrArg Int32.toInt (show σ193 26 6 = (σ 26 6) from ((congrFun (f195 26 (by decide)) 6).trans (congrFun (f57 26 (by decide)) 6))))
              have z284 : (σ193 18 0).toInt = (σ 18 0).toInt := (congrArg Int32.toInt (show σ193 18 0 = (σ 18 0) from ((congrFun (f195 18 (by decide)) 0).trans (congrFun (f57 18 (by decide)) 0))))
              have z285 : (σ193 22 0).toInt = (σ 22 0).toInt := (congrArg Int32.toInt (show σ193 22 0 = (σ 22 0) from ((congrFun (f195 22 (by decide)) 0).trans (congrFun (f57 22 (by decide)) 0))))
              exact by exact ih x226 σ193 τ _ _ ls (by have h9 := tx226; omega) ⟨I227, I228, I229, I230, I231, I232, I233, I234, I235, I236, I237, I238, I239, I197, I198, I240, I241, I242, I243, I244, I245, I246, I247, I248, p249, p250, p251, p252, p253, p254, p255, p256, p257, p258, p259, (by omega), (by rw [z261, z210]; exact ht1), (by rw [z261, z262, z211]; exact ht2), (by rw [z263, z264]; exact ht3), (by rw [z265, z266]; exact ht4), (by rw [z267, z268]; exact ht5), (by rw [z269, z270]; exact ht6), (by rw [z271, z272]; exact ht7), (by rw [z273, z274]; exact ht8), (by rw [z275, z276]; exact ht9), (by rw [z277]; exact ht10), (by rw [z278]; exact ht11), (by rw [z279, z280]; exact ht12), (by rw [z281]; exact ht13), (by have h9 := tx226; omega), (by have h9 := tx226; omega), (show jNumP (σ193 3) (σ193 56) (σ193 6) (σ193 57) (σ193 7) (σ193 58) (σ193 8) (σ193 59) (σ193 55 6).toInt (σ193 55 4).toInt by rw [show σ193 3 = σ 3 from ((f195 3 (by decide)).trans k188.1), show σ193 56 = σ 56 from (k224.1.trans (f57 56 (by decide))), show σ193 6 = σ 6 from ((f195 6 (by decide)).trans (f57 6 (by decide))), show σ193 57 = σ 57 from ((f195 57 (by decide)).trans (f57 57 (by decide))), show σ193 7 = σ 7 from ((f195 7 (by decide)).trans (f57 7 (by decide))), show σ193 58 = σ 58 from ((f195 58 (by decide)).trans (f57 58 (by decide))), show σ193 8 = σ 8 from ((f195 8 (by decide)).trans (f57 8 (by decide))), show σ193 59 = σ 59 from ((f195 59 (by decide)).trans (f57 59 (by decide))), show (σ193 55 6).toInt = (σ 55 6).toInt from by omega, show (σ193 55 4).toInt = (σ 55 4).toInt from z211]; exact hr0), (show jOvP (σ193 56) (σ193 57) (σ193 58) (σ193 59) (σ193 55 4).toInt by rw [show σ193 56 = σ 56 from (k224.1.trans (f57 56 (by decide))), show σ193 57 = σ 57 from ((f195 57 (by decide)).trans (f57 57 (by decide))), show σ193 58 = σ 58 from ((f195 58 (by decide)).trans (f57 58 (by decide))), show σ193 59 = σ 59 from ((f195 59 (by decide)).trans (f57 59 (by decide))), show (σ193 55 4).toInt = (σ 55 4).toInt from z211]; exact hr1), (show jTp (σ193 10) (σ193 63) (σ193 55 15).toInt by rw [show σ193 10 = σ 10 from ((f195 10 (by decide)).trans (f57 10 (by decide))), show σ193 63 = σ 63 from ((f195 63 (by decide)).trans (f57 63 (by decide)))]; exact hr2.le (by omega)), (show jSo (σ193 17) (σ193 62) (σ193 16 0).toInt by rw [show σ193 17 = σ 17 from ((f195 17 (by decide)).trans (f57 17 (by decide))), show σ193 62 = σ 62 from ((f195 62 (by decide)).trans (f57 62 (by decide))), show (σ193 16 0).toInt = (σ 16 0).toInt from z265]; exact hr3), (show jShP (σ193 51) (σ193 52) (σ193 53) (σ193 86) (σ193 87) (σ193 55 32).toInt by rw [show σ193 51 = σ 51 from ((f195 51 (by decide)).trans (f57 51 (by decide))), show σ193 52 = σ 52 from ((f195 52 (by decide)).trans (f57 52 (by decide))), show σ193 53 = σ 53 from ((f195 53 (by decide)).trans (f57 53 (by decide))), show σ193 86 = σ 86 from ((f195 86 (by decide)).trans (f57 86 (by decide))), show σ193 87 = σ 87 from ((f195 87 (by decide)).trans (f57 87 (by decide)))]; exact (hr4.up (by omega) (by omega))), (show jEl (σ193 51) (σ193 52) (τ 54) (τ 88) by rw [show σ193 51 = σ 51 from ((f195 51 (by decide)).trans (f57 51 (by decide))), show σ193 52 = σ 52 from ((f195 52 (by decide)).trans (f57 52 (by decide)))]; exact hr5), (show jByP (σ193 51) (σ193 52) (τ 54) by rw [show σ193 51 = σ 51 from ((f195 51 (by decide)).trans (f57 51 (by decide))), show σ193 52 = σ 52 from ((f195 52 (by decide)).trans (f57 52 (by decide)))]; exact hr6), (show jBk (σ193 48) (σ193 80) (σ193 49) (σ193 81) (σ193 55 47).toInt by rw [show σ193 48 = σ 48 from ((f195 48 (by decide)).trans (f57 48 (by decide))), show σ193 49 = σ 49 from ((f195 49 (by decide)).trans (f57 49 (by decide))), show σ193 80 = σ 80 from ((f195 80 (by decide)).trans (f57 80 (by decide))), show σ193 81 = σ 81 from ((f195 81 (by decide)).trans (f57 81 (by decide))), show (σ193 55 47).toInt = (σ 55 47).toInt from z276]; exact hr7), (show jKd (σ193 39) (σ193 70) (σ193 55 32).toInt by rw [show σ193 39 = σ 39 from ((f195 39 (by decide)).trans (f57 39 (by decide))), show σ193 70 = σ 70 from ((f195 70 (by decide)).trans (f57 70 (by decide))), show (σ193 55 32).toInt = (σ 55 32).toInt from z272]; exact hr8), (show jTt (σ193 42) (σ193 85) (σ193 55 55).toInt by rw [show σ193 42 = σ 42 from ((f195 42 (by decide)).trans (f57 42 (by decide))), show σ193 85 = σ 85 from ((f195 85 (by decide)).trans (f57 85 (by decide))), show (σ193 55 55).toInt = (σ 55 55).toInt from z274]; exact hr9), (fun k hk => by rw [show σ193 4 = σ 4 from ((f195 4 (by decide)).trans k188.2.1), show σ193 5 = σ 5 from ((f195 5 (by decide)).trans k188.2.2), show σ193 60 = σ 60 from (k224.2.1.trans (f57 60 (by decide))), show σ193 61 = σ 61 from (k224.2.2.trans (f57 61 (by decide)))]; exact hr10 k (by omega)), (fun nm => by rw [show σ193 19 = σ 19 from ((f195 19 (by decide)).trans (f57 19 (by decide))), show σ193 64 = σ 64 from ((f195 64 (by decide)).trans (f57 64 (by decide))), show σ193 65 = σ 65 from ((f195 65 (by decide)).trans (f57 65 (by decide))), show (σ193 18 0).toInt = (σ 18 0).toInt from z284]; exact hr11 nm), (fun nm => by rw [show σ193 23 = σ 23 from ((f195 23 (by decide)).trans (f57 23 (by decide))), show σ193 64 = σ 64 from ((f195 64 (by decide)).trans (f57 64 (by decide))), show σ193 65 = σ 65 from ((f195 65 (by decide)).trans (f57 65 (by decide))), show (σ193 22 0).toInt = (σ 22 0).toInt from z285]; exact hr12 nm), (show jAlP (σ193 56) (σ193 57) (σ193 58) (σ193 59) (σ193 55 4).toInt by rw [show σ193 56 = σ 56 from (k224.1.trans (f57 56 (by decide))), show σ193 57 = σ 57 from ((f195 57 (by decide)).trans (f57 57 (by decide))), show σ193 58 = σ 58 from ((f195 58 (by decide)).trans (f57 58 (by decide))), show σ193 59 = σ 59 from ((f195 59 (by decide)).trans (f57 59 (by decide))), show (σ193 55 4).toInt = (σ 55 4).toInt from z211]; exact hr13), (show jqbN (σ193 80) (σ193 55 47).toInt by rw [show σ193 80 = σ 80 from ((f195 80 (by decide)).trans (f57 80 (by decide))), show (σ193 55 47).toInt = (σ 55 47).toInt from z276]; exact hr14)⟩ hP hS (lv_sub hl [0, 1, 2, 3] rfl)
          · obtain ⟨q294, k286, k287, k288, k289, k290, k291, k292, k293⟩ := h214
            exact absurd (by omega : False) id
     · obtain ⟨q303, k295, k296, k297, k298, k299, k300, k301, k302⟩ := h73
       refine lv_pop hx hb dL_law_215 rfl ?_
       refine lv_aload_n hx hb dL_law_216 rfl (lv_at hl 1 rfl) ?_
       refine lv_aload_n hx hb dL_law_217 rfl (lv_at hl 3 rfl) ?_
       refine lv_iload_n hx hb dL_law_218 rfl (lv_at hl 0 rfl) ?_
       refine lv_iconst (v := 1) hx hb dL_law_219 (by decide) ?_
       refine lv_iadd hx hb dL_law_220 ?_
       refine jtopr ex49.symm ?_
       exact by
        refine va_sld hx hb hX hbl hbA hS (jin tx49 (by omega) (by omega)) dL_law_221 ?_
        refine lv_aload_n hx hb dL_law_222 rfl (lv_at hl 3 rfl) ?_
        refine lv_iload_n hx hb dL_law_223 rfl (lv_at hl 0 rfl) ?_
        refine lv_iconst (v := 2) hx hb dL_law_224 (by decide) ?_
        refine lv_iadd hx hb dL_law_225 ?_
        refine jtopr ex51.symm ?_
        refine va_sld hx hb hX hbl hbA hS (jin tx51 (by omega) (by omega)) dL_law_226 ?_
        refine lv_aload_n hx hb dL_law_227 rfl (lv_at hl 3 rfl) ?_
        refine lv_iload_n hx hb dL_law_228 rfl (lv_at hl 0 rfl) ?_
        exact by
         refine lv_iconst (v := 3) hx hb dL_law_229 (by decide) ?_
         refine lv_iadd hx hb dL_law_230 ?_
         refine jtopr ex53.symm ?_
         refine va_sld hx hb hX hbl hbA hS (jin tx53 (by omega) (by omega)) dL_law_231 ?_
         have I304 : jI101 σ55 := jI101_fr (congrFun (f57 55 (by decide)) 4) (congrFun (f57 55 (by decide)) 5) (f57 56 (by decide)) (f57 57 (by decide)) (f57 58 (by decide)) (f57 59 (by decide)) hI101
         have I305 : jI102 σ55 := jI102_fr (congrFun (f57 55 (by decide)) 6) (f57 60 (by decide)) (f57 61 (by decide)) hI102
         have z306 : (σ55 55 6).toInt = (σ 55 6).toInt := (congrArg Int32.toInt (show σ55 55 6 = (σ 55 6) from (congrFun (f57 55 (by decide)) 6)))
         refine jcallV (As := [.int (xs x49.toNatClampNeg), .int (xs x51.toNatClampNeg), .int (xs x53.toNatClampNeg)]) (rest := []) ⟨hx, hb, hml, hown, hts⟩ hK hP hA hS hZ (c_X12_bowler l D cI cL ad zz hJ σ55 τ (xs x49.toNatClampNeg) ((xs x49.toNatClampNeg).toInt) rfl (xs x51.toNatClampNeg) ((xs x51.toNatClampNeg).toInt) rfl (xs x53.toNatClampNeg) ((xs x53.toNatClampNeg).toInt) rfl I304 I305) cw_RL_17 (jc_55 cI cL ad σ55 τ) rfl ⟨Nat.le_of_ble_eq_true rfl, Nat.le_of_ble_eq_true rfl⟩ rfl rfl rfl hl.1 rfl (Nat.le_of_ble_eq_true rfl) dL_law_232 ⟨Nat.le_of_ble_eq_true rfl, Nat.le_of_ble_eq_true rfl⟩ (fun r308 σ307 τ307 H locs h307 hP hS => ?_)
         obtain ⟨rfl, f309, f310, I311, I312, h307⟩ := h307
         exact by
          obtain ⟨i314, i315, i316, w317, w318, w319, w320⟩ : (0 ≤ (σ307 55 5).toInt) ∧ ((σ307 55 5).toInt ≤ (σ307 55 4).toInt) ∧ ((σ307 55 4).toInt ≤ 40) ∧ (∀ k : Nat, k < 68 → (-200) ≤ (σ307 56 k).toInt ∧ (σ307 56 k).toInt ≤ 500) ∧ (∀ k : Nat, k < 40 → 0 ≤ (σ307 57 k).toInt ∧ (σ307 57 k).toInt ≤ 67) ∧ (∀ k : Nat, k < 40 → (-200) ≤ (σ307 58 k).toInt ∧ (σ307 58 k).toInt ≤ 500) ∧ (∀ k : Nat, k < 40 → (-200) ≤ (σ307 59 k).toInt ∧ (σ307 59 k).toInt ≤ 500) := id I311
          obtain ⟨i321, w322, w323⟩ : (0 ≤ (σ307 55 6).toInt ∧ (σ307 55 6).toInt ≤ 4) ∧ (∀ k : Nat, k < 4 → 0 ≤ (σ307 60 k).toInt ∧ (σ307 60 k).toInt ≤ 50) ∧ (∀ k : Nat, k < 4 → 0 ≤ (σ307 61 k).toInt ∧ (σ307 61 k).toInt ≤ 20) := id I312
          have z324 : (σ307 55 5).toInt = (σ 55 5).toInt := (congrArg Int32.toInt (show σ307 55 5 = (σ 55 5) from ((f310 5 (by decide)).trans (congrFun (f57 55 (by decide)) 5))))
          have z325 : (σ307 55 4).toInt = (σ 55 4).toInt := (congrArg Int32.toInt (show σ307 55 4 = (σ 55 4) from ((f310 4 (by decide)).trans (congrFun (f57 55 (by decide)) 4))))
          rcases h307 with h326 | h327 | h328
          · obtain ⟨q332, k329, k330, k331⟩ := h326
            exact absurd (by omega : False) id
          · obtain ⟨q339, k333, k334, k335, k336, k337, k338⟩ := h327
            exact absurd (by omega : False) id
          · obtain ⟨q348, k340, k341, k342, k343, k344, k345, k346, k347⟩ := h328
            refine lv_pop hx hb dL_law_235 rfl ?_
            refine lv_goto (tgt := 1357) hx hb dL_law_236 (by decide) ?_
            obtain ⟨x349, ex349⟩ : ∃ y : Int32, y = x0 + 6 := ⟨_, rfl⟩
            exact by
             have tx349 : x349.toInt = x0.toInt + 6 := (jadd ex349 rfl jz_6 (by omega) (by omega)).trans (by omega)
             refine lv_iinc (v := x349) (lv' := [(3, .int x349), (2, .ref (ad 55)), (1, .ref (ad 0)), (0, .ref b)]) hx hb dL_law_1357 hl (k := 0) rfl (by rw [ex349]; rfl) (by decide) rfl (fun ls hl => ?_)
             refine lv_goto (tgt := 18) hx hb dL_law_1360 (by decide) ?_
             have I350 : jI2 σ307 := jI2_fr (congrFun (f309 2 (by decide)) 0) (congrFun (f309 2 (by decide)) 1) (congrFun (f309 2 (by decide)) 2) (congrFun (f309 2 (by decide)) 3) (f309 6 (by decide)) (f309 5 (by decide)) I59
             have I351 : jI9 σ307 := jI9_fr ((congrFun (f309 9 (by decide)) 0).trans (congrFun (f57 9 (by decide)) 0)) ((f309 10 (by decide)).trans (f57 10 (by decide))) ((f309 11 (by decide)).trans (f57 11 (by decide))) hI9
             have I352 : jI12 σ307 := jI12_fr ((congrFun (f309 12 (by decide)) 0).trans (congrFun (f57 12 (by decide)) 0)) ((f309 13 (by decide)).trans (f57 13 (by decide))) hI12
             have I353 : jI16 σ307 := jI16_fr ((congrFun (f309 16 (by decide)) 0).trans (congrFun (f57 16 (by decide)) 0)) ((congrFun (f309 16 (by decide)) 1).trans (congrFun (f57 16 (by decide)) 1)) ((congrFun (f309 16 (by decide)) 2).trans (congrFun (f57 16 (by decide)) 2)) ((f309 17 (by decide)).trans (f57 17 (by decide))) hI16
             have I354 : jI18 σ307 := jI18_fr ((congrFun (f309 18 (by decide)) 0).trans (congrFun (f57 18 (by decide)) 0)) ((f309 19 (by decide)).trans (f57 19 (by decide))) hI18
             have I355 : jI22 σ307 := jI22_fr ((congrFun (f309 22 (by decide)) 0).trans (congrFun (f57 22 (by decide)) 0)) ((f309 23 (by decide)).trans (f57 23 (by decide))) hI22
             exact by
              have I356 : jI31 σ307 := jI31_fr ((congrFun (f309 31 (by decide)) 8).trans (congrFun (f57 31 (by decide)) 8)) ((congrFun (f309 31 (by decide)) 10).trans (congrFun (f57 31 (by decide)) 10)) ((congrFun (f309 31 (by decide)) 11).trans (congrFun (f57 31 (by decide)) 11)) ((f309 33 (by decide)).trans (f57 33 (by decide))) ((f309 35 (by decide)).trans (f57 35 (by decide))) ((f309 36 (by decide)).trans (f57 36 (by decide))) hI31
              have I357 : jI38 σ307 := jI38_fr ((congrFun (f309 38 (by decide)) 0).trans (congrFun (f57 38 (by decide)) 0)) ((congrFun (f309 38 (by decide)) 1).trans (congrFun (f57 38 (by decide)) 1)) ((f309 39 (by decide)).trans (f57 39 (by decide))) hI38
              have I358 : jI43 σ307 := jI43_fr ((congrFun (f309 43 (by decide)) 8).trans (congrFun (f57 43 (by decide)) 8)) hI43
              have I359 : jI47 σ307 := jI47_fr ((congrFun (f309 47 (by decide)) 0).trans (congrFun (f57 47 (by decide)) 0)) ((f309 48 (by decide)).trans (f57 48 (by decide))) ((f309 49 (by decide)).trans (f57 49 (by decide))) hI47
              have I360 : jI50 σ307 := jI50_fr ((f309 52 (by decide)).trans (f57 52 (by decide))) hI50
              have I361 : jI0 σ307 := jI0_fr ((f309 1 (by decide)).trans (f57 1 (by decide))) hI0
              have I362 : jI26 σ307 := jI26_fr ((congrFun (f309 26 (by decide)) 6).trans (congrFun (f57 26 (by decide)) 6)) hI26
              have I363 : jI103 σ307 := jI103_fr ((f310 9 (by decide)).trans (congrFun (f57 55 (by decide)) 9)) hI103
              have I364 : jI104 σ307 := jI104_fr ((f310 10 (by decide)).trans (congrFun (f57 55 (by decide)) 10)) ((f310 12 (by decide)).trans (congrFun (f57 55 (by decide)) 12)) ((f310 13 (by decide)).trans (congrFun (f57 55 (by decide)) 13)) ((f309 62 (by decide)).trans (f57 62 (by decide))) ((f309 67 (by decide)).trans (f57 67 (by decide))) hI104
              have I365 : jI105 σ307 := jI105_fr ((f310 15 (by decide)).trans (congrFun (f57 55 (by decide)) 15)) ((f309 65 (by decide)).trans (f57 65 (by decide))) hI105
              have I366 : jI106 σ307 := jI106_fr ((f310 32 (by decide)).trans (congrFun (f57 55 (by decide)) 32)) ((f309 70 (by decide)).trans (f57 70 (by decide))) ((f309 71 (by decide)).trans (f57 71 (by decide))) ((f309 72 (by decide)).trans (f57 72 (by decide))) hI106
              have I367 : jI107 σ307 := jI107_fr ((f310 12 (by decide)).trans (congrFun (f57 55 (by decide)) 12)) ((f310 47 (by decide)).trans (congrFun (f57 55 (by decide)) 47)) ((f309 80 (by decide)).trans (f57 80 (by decide))) hI107
              have I368 : jI109 σ307 := jI109_fr ((f310 50 (by decide)).trans (congrFun (f57 55 (by decide)) 50)) hI109
              have I369 : jI110 σ307 := jI110_fr ((f309 86 (by decide)).trans (f57 86 (by decide))) ((f309 87 (by decide)).trans (f57 87 (by decide))) hI110
              have I370 : jI111 σ307 := jI111_fr ((f309 79 (by decide)).trans (f57 79 (by decide))) hI111
              have I371 : jI119 σ307 := jI119_fr ((f309 68 (by decide)).trans (f57 68 (by decide))) hI119
              have p372 : jKept σ307 := jKept.fr ((f309 75 (by decide)).trans (f57 75 (by decide))) ((f309 76 (by decide)).trans (f57 76 (by decide))) ((f309 77 (by decide)).trans (f57 77 (by decide))) hs_jKept
              have p373 : jBook σ307 := jBook.fr ((f310 47 (by decide)).trans (congrFun (f57 55 (by decide)) 47)) ((f310 10 (by decide)).trans (congrFun (f57 55 (by decide)) 10)) ((f309 81 (by decide)).trans (f57 81 (by decide))) hs_jBook
              have p374 : jNd12 σ307 := jNd12.fr ((congrFun (f309 12 (by decide)) 0).trans (congrFun (f57 12 (by decide)) 0)) ((congrFun (f309 12 (by decide)) 1).trans (congrFun (f57 12 (by decide)) 1)) ((f309 13 (by decide)).trans (f57 13 (by decide))) hs_jNd12
              have p375 : jN67 σ307 := jN67.fr ((f309 24 (by decide)).trans (f57 24 (by decide))) hs_jN67
              have p376 : jBl σ307 := jBl.fr ((congrFun (f309 22 (by decide)) 0).trans (congrFun (f57 22 (by decide)) 0)) ((congrFun (f309 22 (by decide)) 1).trans (congrFun (f57 22 (by decide)) 1)) ((f309 23 (by decide)).trans (f57 23 (by decide))) ((congrFun (f309 26 (by decide)) 6).trans (congrFun (f57 26 (by decide)) 6)) ((congrFun (f309 26 (by decide)) 7).trans (congrFun (f57 26 (by decide)) 7)) ((f309 29 (by decide)).trans (f57 29 (by decide))) ((f309 30 (by decide)).trans (f57 30 (by decide))) hs_jBl
              have p377 : jKb σ307 := jKb.fr ((congrFun (f309 31 (by decide)) 8).trans (congrFun (f57 31 (by decide)) 8)) ((congrFun (f309 31 (by decide)) 11).trans (congrFun (f57 31 (by decide)) 11)) ((f309 32 (by decide)).trans (f57 32 (by decide))) hs_jKb
              have p378 : jTR σ307 := jTR.fr ((f309 64 (by decide)).trans (f57 64 (by decide))) ((f309 65 (by decide)).trans (f57 65 (by decide))) hs_jTR
              have p379 : jKh σ307 := jKh.fr ((congrFun (f309 31 (by decide)) 8).trans (congrFun (f57 31 (by decide)) 8)) ((f309 32 (by decide)).trans (f57 32 (by decide))) ((f309 36 (by decide)).trans (f57 36 (by decide))) ((f309 37 (by decide)).trans (f57 37 (by decide))) hs_jKh
              have p380 : jKg σ307 := jKg.fr ((congrFun (f309 31 (by decide)) 8).trans (congrFun (f57 31 (by decide)) 8)) ((congrFun (f309 31 (by decide)) 9).trans (congrFun (f57 31 (by decide)) 9)) ((congrFun (f309 31 (by decide)) 11).trans (congrFun (f57 31 (by decide)) 11)) ((congrFun (f309 31 (by decide)) 12).trans (congrFun (f57 31 (by decide)) 12)) ((f309 32 (by decide)).trans (f57 32 (by decide))) ((f309 33 (by decide)).trans (f57 33 (by decide))) hs_jKg
              have p381 : jNz σ307 := jNz.fr ((f309 34 (by decide)).trans (f57 34 (by decide))) hs_jNz
              have p382 : jqSt σ307 := jqSt.fr ((f309 78 (by decide)).trans (f57 78 (by decide))) ((f310 42 (by decide)).trans (congrFun (f57 55 (by decide)) 42)) hs_jqSt
              have z383 : (σ307 2 0).toInt = (σ55 2 0).toInt := (congrArg Int32.toInt (show σ307 2 0 = (σ55 2 0) from (congrFun (f309 2 (by decide)) 0)))
              have z384 : (σ307 2 2).toInt = (σ 2 2).toInt := (congrArg Int32.toInt (show σ307 2 2 = (σ 2 2) from ((congrFun (f309 2 (by decide)) 2).trans (f58 2 (by decide)))))
              have z385 : (σ307 2 3).toInt = (σ 2 3).toInt := (congrArg Int32.toInt (show σ307 2 3 = (σ 2 3) from ((congrFun (f309 2 (by decide)) 3).trans (f58 3 (by decide)))))
              have z386 : (σ307 9 0).toInt = (σ 9 0).toInt := (congrArg Int32.toInt (show σ307 9 0 = (σ 9 0) from ((congrFun (f309 9 (by decide)) 0).trans (congrFun (f57 9 (by decide)) 0))))
              have z387 : (σ307 55 15).toInt = (σ 55 15).toInt := (congrArg Int32.toInt (show σ307 55 15 = (σ 55 15) from ((f310 15 (by decide)).trans (congrFun (f57 55 (by decide)) 15))))
              have z388 : (σ307 16 0).toInt = (σ 16 0).toInt := (congrArg Int32.toInt (show σ307 16 0 = (σ 16 0) from ((congrFun (f309 16 (by decide)) 0).trans (congrFun (f57 16 (by decide)) 0))))
              have z389 : (σ307 55 10).toInt = (σ 55 10).toInt := (congrArg Int32.toInt (show σ307 55 10 = (σ 55 10) from ((f310 10 (by decide)).trans (congrFun (f57 55 (by decide)) 10))))
              have z390 : (σ307 16 1).toInt = (σ 16 1).toInt := (congrArg Int32.toInt (show σ307 16 1 = (σ 16 1) from ((congrFun (f309 16 (by decide)) 1).trans (congrFun (f57 16 (by decide)) 1))))
              have z391 : (σ307 55 12).toInt = (σ 55 12).toInt := (congrArg Int32.toInt (show σ307 55 12 = (σ 55 12) from ((f310 12 (by decide)).trans (congrFun (f57 55 (by decide)) 12))))
              have z392 : (σ307 16 2).toInt = (σ 16 2).toInt := (congrArg Int32.toInt (show σ307 16 2 = (σ 16 2) from ((congrFun (f309 16 (by decide)) 2).trans (congrFun (f57 16 (by decide)) 2))))
              have z393 : (σ307 55 13).toInt = (σ 55 13).toInt := (congrArg Int32.toInt (show σ307 55 13 = (σ 55 13) from ((f310 13 (by decide)).trans (congrFun (f57 55 (by decide)) 13))))
              have z394 : (σ307 38 0).toInt = (σ 38 0).toInt := (congrArg Int32.toInt (show σ307 38 0 = (σ 38 0) from ((congrFun (f309 38 (by decide)) 0).trans (congrFun (f57 38 (by decide)) 0))))
              have z395 : (σ307 55 32).toInt = (σ 55 32).toInt := (congrArg Int32.toInt (show σ307 55 32 = (σ 55 32) from ((f310 32 (by decide)).trans (congrFun (f57 55 (by decide)) 32))))
              have z396 : (σ307 38 1).toInt = (σ 38 1).toInt := (congrArg Int32.toInt (show σ307 38 1 = (σ 38 1) from ((congrFun (f309 38 (by decide)) 1).trans (congrFun (f57 38 (by decide)) 1))))
              have z397 : (σ307 55 55).toInt = (σ 55 55).toInt := (congrArg Int32.toInt (show σ307 55 55 = (σ 55 55) from ((f310 55 (by decide)).trans (congrFun (f57 55 (by decide)) 55))))
              have z398 : (σ307 47 0).toInt = (σ 47 0).toInt := (congrArg Int32.toInt (show σ307 47 0 = (σ 47 0) from ((congrFun (f309 47 (by decide)) 0).trans (congrFun (f57 47 (by decide)) 0))))
              have z399 : (σ307 55 47).toInt = (σ 55 47).toInt := (congrArg Int32.toInt (show σ307 55 47 = (σ 55 47) from ((f310 47 (by decide)).trans (congrFun (f57 55 (by decide)) 47))))
              have z400 : (σ307 55 30).toInt = (σ 55 30).toInt := (congrArg Int32.toInt (show σ307 55 30 = (σ 55 30) from ((f310 30 (by decide)).trans (congrFun (f57 55 (by decide)) 30))))
              have z401 : (σ307 55 31).toInt = (σ 55 31).toInt := (congrArg Int32.toInt (show σ307 55 31 = (σ 55 31) from ((f310 31 (by decide)).trans (congrFun (f57 55 (by decide)) 31))))
              have z402 : (σ307 2 1).toInt = (σ 2 1).toInt := (congrArg Int32.toInt (show σ307 2 1 = (σ 2 1) from ((congrFun (f309 2 (by decide)) 1).trans (f58 1 (by decide)))))
              have z403 : (σ307 55 9).toInt = (σ 55 9).toInt := (congrArg Int32.toInt (show σ307 55 9 = (σ 55 9) from ((f310 9 (by decide)).trans (congrFun (f57 55 (by decide)) 9))))
              have z404 : (σ307 55 42).toInt = (σ 55 42).toInt := (congrArg Int32.toInt (show σ307 55 42 = (σ 55 42) from ((f310 42 (by decide)).trans (congrFun (f57 55 (by decide)) 42))))
              have z405 : (σ307 26 6).toInt = (σ 26 6).toInt := (congrArg Int32.toInt (show σ307 26 6 = (σ 26 6) from ((congrFun (f309 26 (by decide)) 6).trans (congrFun (f57 26 (by decide)) 6))))
              rw [show (σ 2 0).toInt = (σ 55 6).toInt from by omega] at k301
              rw [show σ55 56 = σ 56 from (f57 56 (by decide)), show (σ55 55 6).toInt = (σ 55 6).toInt from z306] at k346
              exact by
               have p406 := hr0.bowler k301 k346 (by omega) (by omega) (show (σ307 55 6).toInt = (σ 55 6).toInt + 1 from by omega)
               rw [show (σ 2 0).toInt = (σ 55 6).toInt from by omega] at k302
               rw [show (σ55 55 6).toInt = (σ 55 6).toInt from z306, show σ55 60 = σ 60 from (f57 60 (by decide)), show σ55 61 = σ 61 from (f57 61 (by decide))] at k347
               have z408 : (σ307 18 0).toInt = (σ 18 0).toInt := (congrArg Int32.toInt (show σ307 18 0 = (σ 18 0) from ((congrFun (f309 18 (by decide)) 0).trans (congrFun (f57 18 (by decide)) 0))))
               have z409 : (σ307 22 0).toInt = (σ 22 0).toInt := (congrArg Int32.toInt (show σ307 22 0 = (σ 22 0) from ((congrFun (f309 22 (by decide)) 0).trans (congrFun (f57 22 (by decide)) 0))))
               exact by exact ih x349 σ307 τ _ _ ls (by have h9 := tx349; omega) ⟨I350, I351, I352, I353, I354, I355, I356, I357, I358, I359, I360, I361, I362, I311, I312, I363, I364, I365, I366, I367, I368, I369, I370, I371, p372, p373, p374, p375, p376, p377, p378, p379, p380, p381, p382, (by omega), (by rw [z384, z324]; exact ht1), (by rw [z384, z385, z325]; exact ht2), (by rw [z386, z387]; exact ht3), (by rw [z388, z389]; exact ht4), (by rw [z390, z391]; exact ht5), (by rw [z392, z393]; exact ht6), (by rw [z394, z395]; exact ht7), (by rw [z396, z397]; exact ht8), (by rw [z398, z399]; exact ht9), (by rw [z400]; exact ht10), (by rw [z401]; exact ht11), (by rw [z402, z403]; exact ht12), (by rw [z404]; exact ht13), (by have h9 := tx349; omega), (by have h9 := tx349; omega), (show jNumP (σ307 3) (σ307 56) (σ307 6) (σ307 57) (σ307 7) (σ307 58) (σ307 8) (σ307 59) (σ307 55 6).toInt (σ307 55 4).toInt by rw [show σ307 3 = σ55 3 from (f309 3 (by decide)), show σ307 6 = σ 6 from ((f309 6 (by decide)).trans (f57 6 (by decide))), show σ307 57 = σ 57 from ((f309 57 (by decide)).trans (f57 57 (by decide))), show σ307 7 = σ 7 from ((f309 7 (by decide)).trans (f57 7 (by decide))), show σ307 58 = σ 58 from ((f309 58 (by decide)).trans (f57 58 (by decide))), show σ307 8 = σ 8 from ((f309 8 (by decide)).trans (f57 8 (by decide))), show σ307 59 = σ 59 from ((f309 59 (by decide)).trans (f57 59 (by decide))), show (σ307 55 4).toInt = (σ 55 4).toInt from z325]; exact p406), (show jOvP (σ307 56) (σ307 57) (σ307 58) (σ307 59) (σ307 55 4).toInt by rw [show σ307 57 = σ 57 from ((f309 57 (by decide)).trans (f57 57 (by decide))), show σ307 58 = σ 58 from ((f309 58 (by decide)).trans (f57 58 (by decide))), show σ307 59 = σ 59 from ((f309 59 (by decide)).trans (f57 59 (by decide))), show (σ307 55 4).toInt = (σ 55 4).toInt from z325]; exact (hr1.bowler k346 (by omega) ⟨by omega, by omega⟩)), (show jTp (σ307 10) (σ307 63) (σ307 55 15).toInt by rw [show σ307 10 = σ 10 from ((f309 10 (by decide)).trans (f57 10 (by decide))), show σ307 63 = σ 63 from ((f309 63 (by decide)).trans (f57 63 (by decide)))]; exact hr2.le (by omega)), (show jSo (σ307 17) (σ307 62) (σ307 16 0).toInt by rw [show σ307 17 = σ 17 from ((f309 17 (by decide)).trans (f57 17 (by decide))), show σ307 62 = σ 62 from ((f309 62 (by decide)).trans (f57 62 (by decide))), show (σ307 16 0).toInt = (σ 16 0).toInt from z388]; exact hr3), (show jShP (σ307 51) (σ307 52) (σ307 53) (σ307 86) (σ307 87) (σ307 55 32).toInt by rw [show σ307 51 = σ 51 from ((f309 51 (by decide)).trans (f57 51 (by decide))), show σ307 52 = σ 52 from ((f309 52 (by decide)).trans (f57 52 (by decide))), show σ307 53 = σ 53 from ((f309 53 (by decide)).trans (f57 53 (by decide))), show σ307 86 = σ 86 from ((f309 86 (by decide)).trans (f57 86 (by decide))), show σ307 87 = σ 87 from ((f309 87 (by decide)).trans (f57 87 (by decide)))]; exact (hr4.up (by omega) (by omega))), (show jEl (σ307 51) (σ307 52) (τ 54) (τ 88) by rw [show σ307 51 = σ 51 from ((f309 51 (by decide)).trans (f57 51 (by decide))), show σ307 52 = σ 52 from ((f309 52 (by decide)).trans (f57 52 (by decide)))]; exact hr5), (show jByP (σ307 51) (σ307 52) (τ 54) by rw [show σ307 51 = σ 51 from ((f309 51 (by decide)).trans (f57 51 (by decide))), show σ307 52 = σ 52 from ((f309 52 (by decide)).trans (f57 52 (by decide)))]; exact hr6), (show jBk (σ307 48) (σ307 80) (σ307 49) (σ307 81) (σ307 55 47).toInt by rw [show σ307 48 = σ 48 from ((f309 48 (by decide)).trans (f57 48 (by decide))), show σ307 49 = σ 49 from ((f309 49 (by decide)).trans (f57 49 (by decide))), show σ307 80 = σ 80 from ((f309 80 (by decide)).trans (f57 80 (by decide))), show σ307 81 = σ 81 from ((f309 81 (by decide)).trans (f57 81 (by decide))), show (σ307 55 47).toInt = (σ 55 47).toInt from z399]; exact hr7), (show jKd (σ307 39) (σ307 70) (σ307 55 32).toInt by rw [show σ307 39 = σ 39 from ((f309 39 (by decide)).trans (f57 39 (by decide))), show σ307 70 = σ 70 from ((f309 70 (by decide)).trans (f57 70 (by decide))), show (σ307 55 32).toInt = (σ 55 32).toInt from z395]; exact hr8), (show jTt (σ307 42) (σ307 85) (σ307 55 55).toInt by rw [show σ307 42 = σ 42 from ((f309 42 (by decide)).trans (f57 42 (by decide))), show σ307 85 = σ 85 from ((f309 85 (by decide)).trans (f57 85 (by decide))), show (σ307 55 55).toInt = (σ 55 55).toInt from z397]; exact hr9), (jTc_on hr10 ⟨((show σ307 4 = σ55 4 from (f309 4 (by decide))).trans k302.1), ((show σ307 5 = σ55 5 from (f309 5 (by decide))).trans k302.2)⟩ k347 (show (σ307 55 6).toInt = (σ 55 6).toInt + 1 from by omega) (by omega)), (fun nm => by rw [show σ307 19 = σ 19 from ((f309 19 (by decide)).trans (f57 19 (by decide))), show σ307 64 = σ 64 from ((f309 64 (by decide)).trans (f57 64 (by decide))), show σ307 65 = σ 65 from ((f309 65 (by decide)).trans (f57 65 (by decide))), show (σ307 18 0).toInt = (σ 18 0).toInt from z408]; exact hr11 nm), (fun nm => by rw [show σ307 23 = σ 23 from ((f309 23 (by decide)).trans (f57 23 (by decide))), show σ307 64 = σ 64 from ((f309 64 (by decide)).trans (f57 64 (by decide))), show σ307 65 = σ 65 from ((f309 65 (by decide)).trans (f57 65 (by decide))), show (σ307 22 0).toInt = (σ 22 0).toInt from z409]; exact hr12 nm), (show jAlP (σ307 56) (σ307 57) (σ307 58) (σ307 59) (σ307 55 4).toInt by rw [show σ307 57 = σ 57 from ((f309 57 (by decide)).trans (f57 57 (by decide))), show σ307 58 = σ 58 from ((f309 58 (by decide)).trans (f57 58 (by decide))), show σ307 59 = σ 59 from ((f309 59 (by decide)).trans (f57 59 (by decide))), show (σ307 55 4).toInt = (σ 55 4).toInt from z325]; exact (hr13.bowler k346 (by omega) (by omega))), (show jqbN (σ307 80) (σ307 55 47).toInt by rw [show σ307 80 = σ 80 from ((f309 80 (by decide)).trans (f57 80 (by decide))), show (σ307 55 47).toInt = (σ 55 47).toInt from z399]; exact hr14)⟩ hP hS (lv_sub hl [0, 1, 2, 3] rfl)
set_option maxHeartbeats 4000000 in
set_option maxRecDepth 100000 in
theorem law_case_1 {p : Program} {e : Env} {s : State} {m : MethodId} {below : List Frame} {meth : Method} {c : Code} (l : Launch) {b L : Nat} {xs : Nat → Int32} {D : va_G} {cI cL : ClassId} {ad zz : Nat → Nat} (C0 : lw_At p s m meth c b L xs) (hJ : jD ad) (hA : ∀ q, jA ad q → s.heap.size ≤ q) (hK : jK D cI cL s) (hZ : jZ zz (fun q : Nat => s.heap.size ≤ q) s s.heap) {x0 : Int32} (hx0 : 0 ≤ x0.toInt) (hxL : x0.toInt + 6 ≤ (L : Int)) (hL : L ≤ 384) {σ : Nat → Nat → Int32} {τ : Nat → Nat → Int64} {H : Heap} {locs : List Loc} (hS : va_S (fun q : Nat => s.heap.size ≤ q) s.heap H locs) {ls : Array Slot} (hAll : jAll x0.toInt σ τ) (hP : jH D cI cL ad σ τ H) (hl : lv_has ls 4 [(3, .int x0), (2, .ref (ad 55)), (1, .ref (ad 0)), (0, .ref b)]) (ih : ∀ (x1 : Int32) (σ : Nat → Nat → Int32) (τ : Nat → Nat → Int64) (H : Heap) (locs : List Loc) (ls : Array Slot), x1.toInt = x0.toInt + 6 → jAll x1.toInt σ τ → jH D cI cL ad σ τ H → va_S (fun q : Nat => s.heap.size ≤ q) s.heap H locs → lv_has ls 4 [(3, .int x1), (2, .ref (ad 55)), (1, .ref (ad 0)), (0, .ref b)] → W p l e room_1 s m #[Value.ref b] below meth c H locs 90 348600 (lw_Z below #[Value.ref b] s) (F0 m 18 ls [])) : W p l e room_1 s m #[Value.ref b] below meth c H locs 90 348600 (lw_Z below #[Value.ref b] s) (F0 m 239 ls []) := by
  obtain ⟨hx, hb, hr, hml, hown, hts0, hX, hbl, hlocks, hgv⟩ := C0
  have hts : ∀ w ∈ wsL_law, w.before #[Value.ref b] s = true := fun w h => hts0 w (wsL_law_in w h)
  have hbA : ¬ (fun q : Nat => s.heap.size ≤ q) b := Nat.not_le.mpr hbl
  have hown : s.vm.findClass RL = some m.cls := hown
  obtain ⟨hI2, hI9, hI12, hI16, hI18, hI22, hI31, hI38, hI43, hI47, hI50, hI0, hI26, hI101, hI102, hI103, hI104, hI105, hI106, hI107, hI109, hI110, hI111, hI119, hs_jKept, hs_jBook, hs_jNd12, hs_jN67, hs_jBl, hs_jKb, hs_jTR, hs_jKh, hs_jKg, hs_jNz, hs_jqSt, ht0, ht1, ht2, ht3, ht4, ht5, ht6, ht7, ht8, ht9, ht10, ht11, ht12, ht13, ht14, ht15, hr0, hr1, hr2, hr3, hr4, hr5, hr6, hr7, hr8, hr9, hr10, hr11, hr12, hr13, hr14⟩ := hAll
  have hL9 : (L : Int) ≤ 384 := by omega
  obtain ⟨i1, i2, i3, i4, i5, w6, w7⟩ : (0 ≤ (σ 2 0).toInt ∧ (σ 2 0).toInt ≤ 4) ∧ (0 ≤ (σ 2 1).toInt ∧ (σ 2 1).toInt ≤ 3) ∧ (0 ≤ (σ 2 2).toInt) ∧ (0 ≤ (σ 2 3).toInt) ∧ ((σ 2 2).toInt + (σ 2 3).toInt ≤ 40) ∧ (∀ k : Nat, k < 40 → 0 ≤ (σ 6 k).toInt ∧ (σ 6 k).toInt ≤ 67) ∧ (∀ k : Nat, k < 4 → 0 ≤ (σ 5 k).toInt ∧ (σ 5 k).toInt ≤ 20) := id hI2
  obtain ⟨i8, w9, w10⟩ : (0 ≤ (σ 9 0).toInt ∧ (σ 9 0).toInt ≤ 80) ∧ (∀ k : Nat, k < 80 → 0 ≤ (σ 10 k).toInt ∧ (σ 10 k).toInt ≤ 255) ∧ (∀ k : Nat, k < 8 → 0 ≤ (σ 11 k).toInt ∧ (σ 11 k).toInt ≤ 3) := id hI9
  obtain ⟨i11, i12, i13, w14⟩ : (1 ≤ (σ 16 0).toInt ∧ (σ 16 0).toInt ≤ 8) ∧ (1 ≤ (σ 16 1).toInt ∧ (σ 16 1).toInt ≤ 12) ∧ (0 ≤ (σ 16 2).toInt ∧ (σ 16 2).toInt ≤ 999) ∧ (∀ k : Nat, k < 8 → 0 ≤ (σ 17 k).toInt ∧ (σ 17 k).toInt ≤ 3) := id hI16
  obtain ⟨i15, i16, w17⟩ : (0 ≤ (σ 38 0).toInt ∧ (σ 38 0).toInt ≤ 20) ∧ (0 ≤ (σ 38 1).toInt ∧ (σ 38 1).toInt ≤ 1000) ∧ (∀ k : Nat, k < 20 → 0 ≤ (σ 39 k).toInt ∧ (σ 39 k).toInt ≤ 6) := id hI38
  obtain ⟨i18, w19, w20⟩ : (0 ≤ (σ 47 0).toInt ∧ (σ 47 0).toInt ≤ 12) ∧ (∀ k : Nat, k < 12 → 0 ≤ (σ 48 k).toInt ∧ (σ 48 k).toInt ≤ 3) ∧ (∀ k : Nat, k < 12 → 0 ≤ (σ 49 k).toInt ∧ (σ 49 k).toInt ≤ 1) := id hI47
  have w21 : ∀ k : Nat, k < 6 → 0 ≤ (σ 52 k).toInt ∧ (σ 52 k).toInt ≤ 60 := hI50
  have i22 : 1 ≤ (σ 26 6).toInt ∧ (σ 26 6).toInt ≤ 8000 := hI26
  obtain ⟨i23, i24, i25, w26, w27, w28, w29⟩ : (0 ≤ (σ 55 5).toInt) ∧ ((σ 55 5).toInt ≤ (σ 55 4).toInt) ∧ ((σ 55 4).toInt ≤ 40) ∧ (∀ k : Nat, k < 68 → (-200) ≤ (σ 56 k).toInt ∧ (σ 56 k).toInt ≤ 500) ∧ (∀ k : Nat, k < 40 → 0 ≤ (σ 57 k).toInt ∧ (σ 57 k).toInt ≤ 67) ∧ (∀ k : Nat, k < 40 → (-200) ≤ (σ 58 k).toInt ∧ (σ 58 k).toInt ≤ 500) ∧ (∀ k : Nat, k < 40 → (-200) ≤ (σ 59 k).toInt ∧ (σ 59 k).toInt ≤ 500) := id hI101
  obtain ⟨i30, w31, w32⟩ : (0 ≤ (σ 55 6).toInt ∧ (σ 55 6).toInt ≤ 4) ∧ (∀ k : Nat, k < 4 → 0 ≤ (σ 60 k).toInt ∧ (σ 60 k).toInt ≤ 50) ∧ (∀ k : Nat, k < 4 → 0 ≤ (σ 61 k).toInt ∧ (σ 61 k).toInt ≤ 20) := id hI102
  have i33 : 0 ≤ (σ 55 9).toInt ∧ (σ 55 9).toInt ≤ 3 := hI103
  obtain ⟨i34, i35, i36, w37, w38⟩ : (1 ≤ (σ 55 10).toInt ∧ (σ 55 10).toInt ≤ 8) ∧ (1 ≤ (σ 55 12).toInt ∧ (σ 55 12).toInt ≤ 12) ∧ (0 ≤ (σ 55 13).toInt ∧ (σ 55 13).toInt ≤ 999) ∧ (∀ k : Nat, k < 8 → 0 ≤ (σ 62 k).toInt ∧ (σ 62 k).toInt ≤ 3) ∧ (∀ k : Nat, k < 8 → 0 ≤ (σ 67 k).toInt ∧ (σ 67 k).toInt ≤ 3) := id hI104
  obtain ⟨i39, w40⟩ : (0 ≤ (σ 55 15).toInt ∧ (σ 55 15).toInt ≤ 80) ∧ (∀ k : Nat, k < 2 → (-1) ≤ (σ 65 k).toInt ∧ (σ 65 k).toInt ≤ 80) := id hI105
  obtain ⟨i41, w42, w43, w44⟩ : (0 ≤ (σ 55 32).toInt ∧ (σ 55 32).toInt ≤ 20) ∧ (∀ k : Nat, k < 20 → 0 ≤ (σ 70 k).toInt ∧ (σ 70 k).toInt ≤ 6) ∧ (∀ k : Nat, k < 20 → 0 ≤ (σ 71 k).toInt ∧ (σ 71 k).toInt ≤ 8) ∧ (∀ k : Nat, k < 160 → 0 ≤ (σ 72 k).toInt ∧ (σ 72 k).toInt ≤ 3) := id hI106
  obtain ⟨i45, i46, w47⟩ : (0 ≤ (σ 55 47).toInt ∧ (σ 55 47).toInt ≤ 12) ∧ ((σ 55 47).toInt ≤ (σ 55 12).toInt) ∧ (∀ k : Nat, k < 12 → 0 ≤ (σ 80 k).toInt ∧ (σ 80 k).toInt ≤ 3) := id hI107
  have hs_jOk3 : jOk3 σ := hr0.ok hr1.1
  refine lv_aload_n hx hb dL_law_239 rfl (lv_at hl 2 rfl) ?_
  refine lv_aload_n hx hb dL_law_240 rfl (lv_at hl 3 rfl) ?_
  refine lv_iload_n hx hb dL_law_241 rfl (lv_at hl 0 rfl) ?_
  refine lv_iconst (v := 1) hx hb dL_law_242 (by decide) ?_
  have g48 := jrg (rfl : x0.toInt = x0.toInt)
  refine lv_iadd hx hb dL_law_243 ?_
  refine lv_topi (fun x49 ex49 => ?_)
  exact by
   have tx49 : x49.toInt = x0.toInt + 1 := (jadd ex49 rfl jz_1 (by omega) (by omega)).trans (by omega)
   refine va_sld hx hb hX hbl hbA hS (jin tx49 (by omega) (by omega)) dL_law_244 ?_
   have g50 := jrg (rfl : (xs x49.toNatClampNeg).toInt = (xs x49.toNatClampNeg).toInt)
   refine lv_aload_n hx hb dL_law_245 rfl (lv_at hl 3 rfl) ?_
   refine lv_iload_n hx hb dL_law_246 rfl (lv_at hl 0 rfl) ?_
   refine lv_iconst (v := 2) hx hb dL_law_247 (by decide) ?_
   refine lv_iadd hx hb dL_law_248 ?_
   refine lv_topi (fun x51 ex51 => ?_)
   have tx51 : x51.toInt = x0.toInt + 2 := (jadd ex51 rfl jz_2 (by omega) (by omega)).trans (by omega)
   exact by
    refine va_sld hx hb hX hbl hbA hS (jin tx51 (by omega) (by omega)) dL_law_249 ?_
    have g52 := jrg (rfl : (xs x51.toNatClampNeg).toInt = (xs x51.toNatClampNeg).toInt)
    refine lv_aload_n hx hb dL_law_250 rfl (lv_at hl 3 rfl) ?_
    refine lv_iload_n hx hb dL_law_251 rfl (lv_at hl 0 rfl) ?_
    refine lv_iconst (v := 3) hx hb dL_law_252 (by decide) ?_
    refine lv_iadd hx hb dL_law_253 ?_
    refine lv_topi (fun x53 ex53 => ?_)
    have tx53 : x53.toInt = x0.toInt + 3 := (jadd ex53 rfl jz_3 (by omega) (by omega)).trans (by omega)
    refine va_sld hx hb hX hbl hbA hS (jin tx53 (by omega) (by omega)) dL_law_254 ?_
    exact by
     have g54 := jrg (rfl : (xs x53.toNatClampNeg).toInt = (xs x53.toNatClampNeg).toInt)
     refine jcallV (As := [.int (xs x49.toNatClampNeg), .int (xs x51.toNatClampNeg), .int (xs x53.toNatClampNeg)]) (rest := []) ⟨hx, hb, hml, hown, hts⟩ hK hP hA hS hZ (c_X11_edge l D cI cL ad zz hJ σ τ (xs x49.toNatClampNeg) ((xs x49.toNatClampNeg).toInt) rfl (xs x51.toNatClampNeg) ((xs x51.toNatClampNeg).toInt) rfl (xs x53.toNatClampNeg) ((xs x53.toNatClampNeg).toInt) rfl hI2) cw_RL_18 (jc_0 cI cL ad σ τ) rfl ⟨Nat.le_of_ble_eq_true rfl, Nat.le_of_ble_eq_true rfl⟩ rfl rfl rfl hl.1 rfl (Nat.le_of_ble_eq_true rfl) dL_law_255 ⟨Nat.le_of_ble_eq_true rfl, Nat.le_of_ble_eq_true rfl⟩ (fun r56 σ55 τ55 H locs h55 hP hS => ?_)
     obtain ⟨rfl, f57, f58, I59, h55⟩ := h55
     obtain ⟨i61, i62, i63, i64, i65, w66, w67⟩ : (0 ≤ (σ55 2 0).toInt ∧ (σ55 2 0).toInt ≤ 4) ∧ (0 ≤ (σ55 2 1).toInt ∧ (σ55 2 1).toInt ≤ 3) ∧ (0 ≤ (σ55 2 2).toInt) ∧ (0 ≤ (σ55 2 3).toInt) ∧ ((σ55 2 2).toInt + (σ55 2 3).toInt ≤ 40) ∧ (∀ k : Nat, k < 40 → 0 ≤ (σ55 6 k).toInt ∧ (σ55 6 k).toInt ≤ 67) ∧ (∀ k : Nat, k < 4 → 0 ≤ (σ55 5 k).toInt ∧ (σ55 5 k).toInt ≤ 20) := id I59
     have z68 : (σ55 2 0).toInt = (σ 2 0).toInt := (congrArg Int32.toInt (show σ55 2 0 = (σ 2 0) from (f58 0 (by decide))))
     have z69 : (σ55 2 1).toInt = (σ 2 1).toInt := (congrArg Int32.toInt (show σ55 2 1 = (σ 2 1) from (f58 1 (by decide))))
     rcases h55 with h70 | h71
     · obtain ⟨q76, k72, k73, k74, k75⟩ := h70
       have q76 := q76.symm
       subst q76
       refine lv_pop hx hb dL_law_258 rfl ?_
       refine lv_aload_n hx hb dL_law_259 rfl (lv_at hl 1 rfl) ?_
       refine lv_aload_n hx hb dL_law_260 rfl (lv_at hl 3 rfl) ?_
       refine lv_iload_n hx hb dL_law_261 rfl (lv_at hl 0 rfl) ?_
       refine lv_iconst (v := 1) hx hb dL_law_262 (by decide) ?_
       refine lv_iadd hx hb dL_law_263 ?_
       refine jtopr ex49.symm ?_
       exact by
        refine va_sld hx hb hX hbl hbA hS (jin tx49 (by omega) (by omega)) dL_law_264 ?_
        refine lv_aload_n hx hb dL_law_265 rfl (lv_at hl 3 rfl) ?_
        refine lv_iload_n hx hb dL_law_266 rfl (lv_at hl 0 rfl) ?_
        refine lv_iconst (v := 2) hx hb dL_law_267 (by decide) ?_
        refine lv_iadd hx hb dL_law_268 ?_
        refine jtopr ex51.symm ?_
        refine va_sld hx hb hX hbl hbA hS (jin tx51 (by omega) (by omega)) dL_law_269 ?_
        refine lv_aload_n hx hb dL_law_270 rfl (lv_at hl 3 rfl) ?_
        refine lv_iload_n hx hb dL_law_271 rfl (lv_at hl 0 rfl) ?_
        exact by
         refine lv_iconst (v := 3) hx hb dL_law_272 (by decide) ?_
         refine lv_iadd hx hb dL_law_273 ?_
         refine jtopr ex53.symm ?_
         refine va_sld hx hb hX hbl hbA hS (jin tx53 (by omega) (by omega)) dL_law_274 ?_
         have I77 : jI101 σ55 := jI101_fr (congrFun (f57 55 (by decide)) 4) (congrFun (f57 55 (by decide)) 5) (f57 56 (by decide)) (f57 57 (by decide)) (f57 58 (by decide)) (f57 59 (by decide)) hI101
         have I78 : jI102 σ55 := jI102_fr (congrFun (f57 55 (by decide)) 6) (f57 60 (by decide)) (f57 61 (by decide)) hI102
         have z79 : (σ55 55 5).toInt = (σ 55 5).toInt := (congrArg Int32.toInt (show σ55 55 5 = (σ 55 5) from (congrFun (f57 55 (by decide)) 5)))
         have z80 : (σ55 55 4).toInt = (σ 55 4).toInt := (congrArg Int32.toInt (show σ55 55 4 = (σ 55 4) from (congrFun (f57 55 (by decide)) 4)))
         refine jcallV (As := [.int (xs x49.toNatClampNeg), .int (xs x51.toNatClampNeg), .int (xs x53.toNatClampNeg)]) (rest := []) ⟨hx, hb, hml, hown, hts⟩ hK hP hA hS hZ (c_X12_edge l D cI cL ad zz hJ σ55 τ (xs x49.toNatClampNeg) ((xs x49.toNatClampNeg).toInt) rfl (xs x51.toNatClampNeg) ((xs x51.toNatClampNeg).toInt) rfl (xs x53.toNatClampNeg) ((xs x53.toNatClampNeg).toInt) rfl I77 I78) cw_RL_21 (jc_55 cI cL ad σ55 τ) rfl ⟨Nat.le_of_ble_eq_true rfl, Nat.le_of_ble_eq_true rfl⟩ rfl rfl rfl hl.1 rfl (Nat.le_of_ble_eq_true rfl) dL_law_275 ⟨Nat.le_of_ble_eq_true rfl, Nat.le_of_ble_eq_true rfl⟩ (fun r82 σ81 τ81 H locs h81 hP hS => ?_)
         exact by
          obtain ⟨rfl, f83, f84, I85, h81⟩ := h81
          obtain ⟨i87, i88, i89, w90, w91, w92, w93⟩ : (0 ≤ (σ81 55 5).toInt) ∧ ((σ81 55 5).toInt ≤ (σ81 55 4).toInt) ∧ ((σ81 55 4).toInt ≤ 40) ∧ (∀ k : Nat, k < 68 → (-200) ≤ (σ81 56 k).toInt ∧ (σ81 56 k).toInt ≤ 500) ∧ (∀ k : Nat, k < 40 → 0 ≤ (σ81 57 k).toInt ∧ (σ81 57 k).toInt ≤ 67) ∧ (∀ k : Nat, k < 40 → (-200) ≤ (σ81 58 k).toInt ∧ (σ81 58 k).toInt ≤ 500) ∧ (∀ k : Nat, k < 40 → (-200) ≤ (σ81 59 k).toInt ∧ (σ81 59 k).toInt ≤ 500) := id I85
          rcases h81 with h94 | h95
          · obtain ⟨q100, k96, k97, k98, k99⟩ := h94
            have q100 := q100.symm
            subst q100
            have z101 : (σ55 55 6).toInt = (σ 55 6).toInt := (congrArg Int32.toInt (show σ55 55 6 = (σ 55 6) from (congrFun (f57 55 (by decide)) 6)))
            rw [show (σ55 55 6).toInt = (σ 2 0).toInt from by omega] at k98
            refine lv_pop hx hb dL_law_278 rfl ?_
            refine lv_goto (tgt := 1357) hx hb dL_law_279 (by decide) ?_
            obtain ⟨x102, ex102⟩ : ∃ y : Int32, y = x0 + 6 := ⟨_, rfl⟩
            exact by
             have tx102 : x102.toInt = x0.toInt + 6 := (jadd ex102 rfl jz_6 (by omega) (by omega)).trans (by omega)
             refine lv_iinc (v := x102) (lv' := [(3, .int x102), (2, .ref (ad 55)), (1, .ref (ad 0)), (0, .ref b)]) hx hb dL_law_1357 hl (k := 0) rfl (by rw [ex102]; rfl) (by decide) rfl (fun ls hl => ?_)
             refine lv_goto (tgt := 18) hx hb dL_law_1360 (by decide) ?_
             have I103 : jI2 σ81 := jI2_fr (congrFun (f83 2 (by decide)) 0) (congrFun (f83 2 (by decide)) 1) (congrFun (f83 2 (by decide)) 2) (congrFun (f83 2 (by decide)) 3) (f83 6 (by decide)) (f83 5 (by decide)) I59
             have I104 : jI9 σ81 := jI9_fr ((congrFun (f83 9 (by decide)) 0).trans (congrFun (f57 9 (by decide)) 0)) ((f83 10 (by decide)).trans (f57 10 (by decide))) ((f83 11 (by decide)).trans (f57 11 (by decide))) hI9
             have I105 : jI12 σ81 := jI12_fr ((congrFun (f83 12 (by decide)) 0).trans (congrFun (f57 12 (by decide)) 0)) ((f83 13 (by decide)).trans (f57 13 (by decide))) hI12
             have I106 : jI16 σ81 := jI16_fr ((congrFun (f83 16 (by decide)) 0).trans (congrFun (f57 16 (by decide)) 0)) ((congrFun (f83 16 (by decide)) 1).trans (congrFun (f57 16 (by decide)) 1)) ((congrFun (f83 16 (by decide)) 2).trans (congrFun (f57 16 (by decide)) 2)) ((f83 17 (by decide)).trans (f57 17 (by decide))) hI16
             have I107 : jI18 σ81 := jI18_fr ((congrFun (f83 18 (by decide)) 0).trans (congrFun (f57 18 (by decide)) 0)) ((f83 19 (by decide)).trans (f57 19 (by decide))) hI18
             have I108 : jI22 σ81 := jI22_fr ((congrFun (f83 22 (by decide)) 0).trans (congrFun (f57 22 (by decide)) 0)) ((f83 23 (by decide)).trans (f57 23 (by decide))) hI22
             exact by
              have I109 : jI31 σ81 := jI31_fr ((congrFun (f83 31 (by decide)) 8).trans (congrFun (f57 31 (by decide)) 8)) ((congrFun (f83 31 (by decide)) 10).trans (congrFun (f57 31 (by decide)) 10)) ((congrFun (f83 31 (by decide)) 11).trans (congrFun (f57 31 (by decide)) 11)) ((f83 33 (by decide)).trans (f57 33 (by decide))) ((f83 35 (by decide)).trans (f57 35 (by decide))) ((f83 36 (by decide)).trans (f57 36 (by decide))) hI31
              have I110 : jI38 σ81 := jI38_fr ((congrFun (f83 38 (by decide)) 0).trans (congrFun (f57 38 (by decide)) 0)) ((congrFun (f83 38 (by decide)) 1).trans (congrFun (f57 38 (by decide)) 1)) ((f83 39 (by decide)).trans (f57 39 (by decide))) hI38
              have I111 : jI43 σ81 := jI43_fr ((congrFun (f83 43 (by decide)) 8).trans (congrFun (f57 43 (by decide)) 8)) hI43
              have I112 : jI47 σ81 := jI47_fr ((congrFun (f83 47 (by decide)) 0).trans (congrFun (f57 47 (by decide)) 0)) ((f83 48 (by decide)).trans (f57 48 (by decide))) ((f83 49 (by decide)).trans (f57 49 (by decide))) hI47
              have I113 : jI50 σ81 := jI50_fr ((f83 52 (by decide)).trans (f57 52 (by decide))) hI50
              have I114 : jI0 σ81 := jI0_fr ((f83 1 (by decide)).trans (f57 1 (by decide))) hI0
              have I115 : jI26 σ81 := jI26_fr ((congrFun (f83 26 (by decide)) 6).trans (congrFun (f57 26 (by decide)) 6)) hI26
              have I116 : jI102 σ81 := jI102_fr (f84 6 (by decide)) (f83 60 (by decide)) (f83 61 (by decide)) I78
              have I117 : jI103 σ81 := jI103_fr ((f84 9 (by decide)).trans (congrFun (f57 55 (by decide)) 9)) hI103
              have I118 : jI104 σ81 := jI104_fr ((f84 10 (by decide)).trans (congrFun (f57 55 (by decide)) 10)) ((f84 12 (by decide)).trans (congrFun (f57 55 (by decide)) 12)) ((f84 13 (by decide)).trans (congrFun (f57 55 (by decide)) 13)) ((f83 62 (by decide)).trans (f57 62 (by decide))) ((f83 67 (by decide)).trans (f57 67 (by decide))) hI104
              have I119 : jI105 σ81 := jI105_fr ((f84 15 (by decide)).trans (congrFun (f57 55 (by decide)) 15)) ((f83 65 (by decide)).trans (f57 65 (by decide))) hI105
              have I120 : jI106 σ81 := jI106_fr ((f84 32 (by decide)).trans (congrFun (f57 55 (by decide)) 32)) ((f83 70 (by decide)).trans (f57 70 (by decide))) ((f83 71 (by decide)).trans (f57 71 (by decide))) ((f83 72 (by decide)).trans (f57 72 (by decide))) hI106
              have I121 : jI107 σ81 := jI107_fr ((f84 12 (by decide)).trans (congrFun (f57 55 (by decide)) 12)) ((f84 47 (by decide)).trans (congrFun (f57 55 (by decide)) 47)) ((f83 80 (by decide)).trans (f57 80 (by decide))) hI107
              have I122 : jI109 σ81 := jI109_fr ((f84 50 (by decide)).trans (congrFun (f57 55 (by decide)) 50)) hI109
              have I123 : jI110 σ81 := jI110_fr ((f83 86 (by decide)).trans (f57 86 (by decide))) ((f83 87 (by decide)).trans (f57 87 (by decide))) hI110
              have I124 : jI111 σ81 := jI111_fr ((f83 79 (by decide)).trans (f57 79 (by decide))) hI111
              have I125 : jI119 σ81 := jI119_fr ((f83 68 (by decide)).trans (f57 68 (by decide))) hI119
              have p126 : jKept σ81 := jKept.fr ((f83 75 (by decide)).trans (f57 75 (by decide))) ((f83 76 (by decide)).trans (f57 76 (by decide))) ((f83 77 (by decide)).trans (f57 77 (by decide))) hs_jKept
              have p127 : jBook σ81 := jBook.fr ((f84 47 (by decide)).trans (congrFun (f57 55 (by decide)) 47)) ((f84 10 (by decide)).trans (congrFun (f57 55 (by decide)) 10)) ((f83 81 (by decide)).trans (f57 81 (by decide))) hs_jBook
              have p128 : jNd12 σ81 := jNd12.fr ((congrFun (f83 12 (by decide)) 0).trans (congrFun (f57 12 (by decide)) 0)) ((congrFun (f83 12 (by decide)) 1).trans (congrFun (f57 12 (by decide)) 1)) ((f83 13 (by decide)).trans (f57 13 (by decide))) hs_jNd12
              have p129 : jN67 σ81 := jN67.fr ((f83 24 (by decide)).trans (f57 24 (by decide))) hs_jN67
              have p130 : jBl σ81 := jBl.fr ((congrFun (f83 22 (by decide)) 0).trans (congrFun (f57 22 (by decide)) 0)) ((congrFun (f83 22 (by decide)) 1).trans (congrFun (f57 22 (by decide)) 1)) ((f83 23 (by decide)).trans (f57 23 (by decide))) ((congrFun (f83 26 (by decide)) 6).trans (congrFun (f57 26 (by decide)) 6)) ((congrFun (f83 26 (by decide)) 7).trans (congrFun (f57 26 (by decide)) 7)) ((f83 29 (by decide)).trans (f57 29 (by decide))) ((f83 30 (by decide)).trans (f57 30 (by decide))) hs_jBl
              have p131 : jKb σ81 := jKb.fr ((congrFun (f83 31 (by decide)) 8).trans (congrFun (f57 31 (by decide)) 8)) ((congrFun (f83 31 (by decide)) 11).trans (congrFun (f57 31 (by decide)) 11)) ((f83 32 (by decide)).trans (f57 32 (by decide))) hs_jKb
              have p132 : jTR σ81 := jTR.fr ((f83 64 (by decide)).trans (f57 64 (by decide))) ((f83 65 (by decide)).trans (f57 65 (by decide))) hs_jTR
              have p133 : jKh σ81 := jKh.fr ((congrFun (f83 31 (by decide)) 8).trans (congrFun (f57 31 (by decide)) 8)) ((f83 32 (by decide)).trans (f57 32 (by decide))) ((f83 36 (by decide)).trans (f57 36 (by decide))) ((f83 37 (by decide)).trans (f57 37 (by decide))) hs_jKh
              have p134 : jKg σ81 := jKg.fr ((congrFun (f83 31 (by decide)) 8).trans (congrFun (f57 31 (by decide)) 8)) ((congrFun (f83 31 (by decide)) 9).trans (congrFun (f57 31 (by decide)) 9)) ((congrFun (f83 31 (by decide)) 11).trans (congrFun (f57 31 (by decide)) 11)) ((congrFun (f83 31 (by decide)) 12).trans (congrFun (f57 31 (by decide)) 12)) ((f83 32 (by decide)).trans (f57 32 (by decide))) ((f83 33 (by decide)).trans (f57 33 (by decide))) hs_jKg
              have p135 : jNz σ81 := jNz.fr ((f83 34 (by decide)).trans (f57 34 (by decide))) hs_jNz
              have p136 : jqSt σ81 := jqSt.fr ((f83 78 (by decide)).trans (f57 78 (by decide))) ((f84 42 (by decide)).trans (congrFun (f57 55 (by decide)) 42)) hs_jqSt
              have z137 : (σ81 2 0).toInt = (σ 2 0).toInt := (congrArg Int32.toInt (show σ81 2 0 = (σ 2 0) from ((congrFun (f83 2 (by decide)) 0).trans (f58 0 (by decide)))))
              have z138 : (σ81 55 6).toInt = (σ 55 6).toInt := (congrArg Int32.toInt (show σ81 55 6 = (σ 55 6) from ((f84 6 (by decide)).trans (congrFun (f57 55 (by decide)) 6))))
              have z139 : (σ81 2 2).toInt = (σ55 2 2).toInt := (congrArg Int32.toInt (show σ81 2 2 = (σ55 2 2) from (congrFun (f83 2 (by decide)) 2)))
              have z140 : (σ81 2 3).toInt = (σ55 2 3).toInt := (congrArg Int32.toInt (show σ81 2 3 = (σ55 2 3) from (congrFun (f83 2 (by decide)) 3)))
              have z141 : (σ81 9 0).toInt = (σ 9 0).toInt := (congrArg Int32.toInt (show σ81 9 0 = (σ 9 0) from ((congrFun (f83 9 (by decide)) 0).trans (congrFun (f57 9 (by decide)) 0))))
              have z142 : (σ81 55 15).toInt = (σ 55 15).toInt := (congrArg Int32.toInt (show σ81 55 15 = (σ 55 15) from ((f84 15 (by decide)).trans (congrFun (f57 55 (by decide)) 15))))
              have z143 : (σ81 16 0).toInt = (σ 16 0).toInt := (congrArg Int32.toInt (show σ81 16 0 = (σ 16 0) from ((congrFun (f83 16 (by decide)) 0).trans (congrFun (f57 16 (by decide)) 0))))
              have z144 : (σ81 55 10).toInt = (σ 55 10).toInt := (congrArg Int32.toInt (show σ81 55 10 = (σ 55 10) from ((f84 10 (by decide)).trans (congrFun (f57 55 (by decide)) 10))))
              have z145 : (σ81 16 1).toInt = (σ 16 1).toInt := (congrArg Int32.toInt (show σ81 16 1 = (σ 16 1) from ((congrFun (f83 16 (by decide)) 1).trans (congrFun (f57 16 (by decide)) 1))))
              have z146 : (σ81 55 12).toInt = (σ 55 12).toInt := (congrArg Int32.toInt (show σ81 55 12 = (σ 55 12) from ((f84 12 (by decide)).trans (congrFun (f57 55 (by decide)) 12))))
              have z147 : (σ81 16 2).toInt = (σ 16 2).toInt := (congrArg Int32.toInt (show σ81 16 2 = (σ 16 2) from ((congrFun (f83 16 (by decide)) 2).trans (congrFun (f57 16 (by decide)) 2))))
              have z148 : (σ81 55 13).toInt = (σ 55 13).toInt := (congrArg Int32.toInt (show σ81 55 13 = (σ 55 13) from ((f84 13 (by decide)).trans (congrFun (f57 55 (by decide)) 13))))
              have z149 : (σ81 38 0).toInt = (σ 38 0).toInt := (congrArg Int32.toInt (show σ81 38 0 = (σ 38 0) from ((congrFun (f83 38 (by decide)) 0).trans (congrFun (f57 38 (by decide)) 0))))
              have z150 : (σ81 55 32).toInt = (σ 55 32).toInt := (congrArg Int32.toInt (show σ81 55 32 = (σ 55 32) from ((f84 32 (by decide)).trans (congrFun (f57 55 (by decide)) 32))))
              have z151 : (σ81 38 1).toInt = (σ 38 1).toInt := (congrArg Int32.toInt (show σ81 38 1 = (σ 38 1) from ((congrFun (f83 38 (by decide)) 1).trans (congrFun (f57 38 (by decide)) 1))))
              have z152 : (σ81 55 55).toInt = (σ 55 55).toInt := (congrArg Int32.toInt (show σ81 55 55 = (σ 55 55) from ((f84 55 (by decide)).trans (congrFun (f57 55 (by decide)) 55))))
              have z153 : (σ81 47 0).toInt = (σ 47 0).toInt := (congrArg Int32.toInt (show σ81 47 0 = (σ 47 0) from ((congrFun (f83 47 (by decide)) 0).trans (congrFun (f57 47 (by decide)) 0))))
              have z154 : (σ81 55 47).toInt = (σ 55 47).toInt := (congrArg Int32.toInt (show σ81 55 47 = (σ 55 47) from ((f84 47 (by decide)).trans (congrFun (f57 55 (by decide)) 47))))
              have z155 : (σ81 55 30).toInt = (σ 55 30).toInt := (congrArg Int32.toInt (show σ81 55 30 = (σ 55 30) from ((f84 30 (by decide)).trans (congrFun (f57 55 (by decide)) 30))))
              have z156 : (σ81 55 31).toInt = (σ 55 31).toInt := (congrArg Int32.toInt (show σ81 55 31 = (σ 55 31) from ((f84 31 (by decide)).trans (congrFun (f57 55 (by decide)) 31))))
              have z157 : (σ81 2 1).toInt = (σ 2 1).toInt := (congrArg Int32.toInt (show σ81 2 1 = (σ 2 1) from ((congrFun (f83 2 (by decide)) 1).trans (f58 1 (by decide)))))
              have z158 : (σ81 55 9).toInt = (σ 55 9).toInt := (congrArg Int32.toInt (show σ81 55 9 = (σ 55 9) from ((f84 9 (by decide)).trans (congrFun (f57 55 (by decide)) 9))))
              have z159 : (σ81 55 42).toInt = (σ 55 42).toInt := (congrArg Int32.toInt (show σ81 55 42 = (σ 55 42) from ((f84 42 (by decide)).trans (congrFun (f57 55 (by decide)) 42))))
              have z160 : (σ81 26 6).toInt = (σ 26 6).toInt := (congrArg Int32.toInt (show σ81 26 6 = (σ 26 6) from ((congrFun (f83 26 (by decide)) 6).trans (congrFun (f57 26 (by decide)) 6))))
              have z162 : (σ81 18 0).toInt = (σ 18 0).toInt := (congrArg Int32.toInt (show σ81 18 0 = (σ 18 0) from ((congrFun (f83 18 (by decide)) 0).trans (congrFun (f57 18 (by decide)) 0))))
              have z163 : (σ81 22 0).toInt = (σ 22 0).toInt := (congrArg Int32.toInt (show σ81 22 0 = (σ 22 0) from ((congrFun (f83 22 (by decide)) 0).trans (congrFun (f57 22 (by decide)) 0))))
              exact by exact ih x102 σ81 τ _ _ ls (by have h9 := tx102; omega) ⟨I103, I104, I105, I106, I107, I108, I109, I110, I111, I112, I113, I114, I115, I85, I116, I117, I118, I119, I120, I121, I122, I123, I124, I125, p126, p127, p128, p129, p130, p131, p132, p133, p134, p135, p136, (by rw [z137, z138]; exact ht0), (by omega), (by omega), (by rw [z141, z142]; exact ht3), (by rw [z143, z144]; exact ht4), (by rw [z145, z146]; exact ht5), (by rw [z147, z148]; exact ht6), (by rw [z149, z150]; exact ht7), (by rw [z151, z152]; exact ht8), (by rw [z153, z154]; exact ht9), (by rw [z155]; exact ht10), (by rw [z156]; exact ht11), (by rw [z157, z158]; exact ht12), (by rw [z159]; exact ht13), (by have h9 := tx102; omega), (by have h9 := tx102; omega), (show jNumP (σ81 3) (σ81 56) (σ81 6) (σ81 57) (σ81 7) (σ81 58) (σ81 8) (σ81 59) (σ81 55 6).toInt (σ81 55 4).toInt by rw [show σ81 3 = σ 3 from ((f83 3 (by decide)).trans k75.1), show σ81 56 = σ 56 from (k99.1.trans (f57 56 (by decide))), show σ81 6 = σ 6 from ((f83 6 (by decide)).trans k75.2.1), show σ81 57 = σ 57 from (k99.2.1.trans (f57 57 (by decide))), show σ81 7 = σ 7 from ((f83 7 (by decide)).trans k75.2.2.1), show σ81 58 = σ 58 from (k99.2.2.1.trans (f57 58 (by decide))), show σ81 8 = σ 8 from ((f83 8 (by decide)).trans k75.2.2.2), show σ81 59 = σ 59 from (k99.2.2.2.trans (f57 59 (by decide))), show (σ81 55 6).toInt = (σ 55 6).toInt from z138, show (σ81 55 4).toInt = (σ 55 4).toInt from by omega]; exact hr0), (show jOvP (σ81 56) (σ81 57) (σ81 58) (σ81 59) (σ81 55 4).toInt by rw [show σ81 56 = σ 56 from (k99.1.trans (f57 56 (by decide))), show σ81 57 = σ 57 from (k99.2.1.trans (f57 57 (by decide))), show σ81 58 = σ 58 from (k99.2.2.1.trans (f57 58 (by decide))), show σ81 59 = σ 59 from (k99.2.2.2.trans (f57 59 (by decide))), show (σ81 55 4).toInt = (σ 55 4).toInt from by omega]; exact hr1), (show jTp (σ81 10) (σ81 63) (σ81 55 15).toInt by rw [show σ81 10 = σ 10 from ((f83 10 (by decide)).trans (f57 10 (by decide))), show σ81 63 = σ 63 from ((f83 63 (by decide)).trans (f57 63 (by decide)))]; exact hr2.le (by omega)), (show jSo (σ81 17) (σ81 62) (σ81 16 0).toInt by rw [show σ81 17 = σ 17 from ((f83 17 (by decide)).trans (f57 17 (by decide))), show σ81 62 = σ 62 from ((f83 62 (by decide)).trans (f57 62 (by decide))), show (σ81 16 0).toInt = (σ 16 0).toInt from z143]; exact hr3), (show jShP (σ81 51) (σ81 52) (σ81 53) (σ81 86) (σ81 87) (σ81 55 32).toInt by rw [show σ81 51 = σ 51 from ((f83 51 (by decide)).trans (f57 51 (by decide))), show σ81 52 = σ 52 from ((f83 52 (by decide)).trans (f57 52 (by decide))), show σ81 53 = σ 53 from ((f83 53 (by decide)).trans (f57 53 (by decide))), show σ81 86 = σ 86 from ((f83 86 (by decide)).trans (f57 86 (by decide))), show σ81 87 = σ 87 from ((f83 87 (by decide)).trans (f57 87 (by decide)))]; exact (hr4.up (by omega) (by omega))), (show jEl (σ81 51) (σ81 52) (τ 54) (τ 88) by rw [show σ81 51 = σ 51 from ((f83 51 (by decide)).trans (f57 51 (by decide))), show σ81 52 = σ 52 from ((f83 52 (by decide)).trans (f57 52 (by decide)))]; exact hr5), (show jByP (σ81 51) (σ81 52) (τ 54) by rw [show σ81 51 = σ 51 from ((f83 51 (by decide)).trans (f57 51 (by decide))), show σ81 52 = σ 52 from ((f83 52 (by decide)).trans (f57 52 (by decide)))]; exact hr6), (show jBk (σ81 48) (σ81 80) (σ81 49) (σ81 81) (σ81 55 47).toInt by rw [show σ81 48 = σ 48 from ((f83 48 (by decide)).trans (f57 48 (by decide))), show σ81 49 = σ 49 from ((f83 49 (by decide)).trans (f57 49 (by decide))), show σ81 80 = σ 80 from ((f83 80 (by decide)).trans (f57 80 (by decide))), show σ81 81 = σ 81 from ((f83 81 (by decide)).trans (f57 81 (by decide))), show (σ81 55 47).toInt = (σ 55 47).toInt from z154]; exact hr7), (show jKd (σ81 39) (σ81 70) (σ81 55 32).toInt by rw [show σ81 39 = σ 39 from ((f83 39 (by decide)).trans (f57 39 (by decide))), show σ81 70 = σ 70 from ((f83 70 (by decide)).trans (f57 70 (by decide))), show (σ81 55 32).toInt = (σ 55 32).toInt from z150]; exact hr8), (show jTt (σ81 42) (σ81 85) (σ81 55 55).toInt by rw [show σ81 42 = σ 42 from ((f83 42 (by decide)).trans (f57 42 (by decide))), show σ81 85 = σ 85 from ((f83 85 (by decide)).trans (f57 85 (by decide))), show (σ81 55 55).toInt = (σ 55 55).toInt from z152]; exact hr9), (fun k hk => by rw [show σ81 4 = σ 4 from ((f83 4 (by decide)).trans (f57 4 (by decide))), show σ81 5 = σ 5 from ((f83 5 (by decide)).trans (f57 5 (by decide))), show σ81 60 = σ 60 from ((f83 60 (by decide)).trans (f57 60 (by decide))), show σ81 61 = σ 61 from ((f83 61 (by decide)).trans (f57 61 (by decide)))]; exact hr10 k (by omega)), (fun nm => by rw [show σ81 19 = σ 19 from ((f83 19 (by decide)).trans (f57 19 (by decide))), show σ81 64 = σ 64 from ((f83 64 (by decide)).trans (f57 64 (by decide))), show σ81 65 = σ 65 from ((f83 65 (by decide)).trans (f57 65 (by decide))), show (σ81 18 0).toInt = (σ 18 0).toInt from z162]; exact hr11 nm), (fun nm => by rw [show σ81 23 = σ 23 from ((f83 23 (by decide)).trans (f57 23 (by decide))), show σ81 64 = σ 64 from ((f83 64 (by decide)).trans (f57 64 (by decide))), show σ81 65 = σ 65 from ((f83 65 (by decide)).trans (f57 65 (by decide))), show (σ81 22 0).toInt = (σ 22 0).toInt from z163]; exact hr12 nm), (show jAlP (σ81 56) (σ81 57) (σ81 58) (σ81 59) (σ81 55 4).toInt by rw [show σ81 56 = σ 56 from (k99.1.trans (f57 56 (by decide))), show σ81 57 = σ 57 from (k99.2.1.trans (f57 57 (by decide))), show σ81 58 = σ 58 from (k99.2.2.1.trans (f57 58 (by decide))), show σ81 59 = σ 59 from (k99.2.2.2.trans (f57 59 (by decide))), show (σ81 55 4).toInt = (σ 55 4).toInt from by omega]; exact hr13), (show jqbN (σ81 80) (σ81 55 47).toInt by rw [show σ81 80 = σ 80 from ((f83 80 (by decide)).trans (f57 80 (by decide))), show (σ81 55 47).toInt = (σ 55 47).toInt from z154]; exact hr14)⟩ hP hS (lv_sub hl [0, 1, 2, 3] rfl)
          · obtain ⟨q165, k164⟩ := h95
            have z166 : (σ55 55 6).toInt = (σ 55 6).toInt := (congrArg Int32.toInt (show σ55 55 6 = (σ 55 6) from (congrFun (f57 55 (by decide)) 6)))
            rw [show (σ55 55 6).toInt = (σ 2 0).toInt from by omega] at k164
            exact absurd k164.1 k74
     · obtain ⟨q168, k167⟩ := h71
       refine lv_pop hx hb dL_law_258 rfl ?_
       refine lv_aload_n hx hb dL_law_259 rfl (lv_at hl 1 rfl) ?_
       refine lv_aload_n hx hb dL_law_260 rfl (lv_at hl 3 rfl) ?_
       refine lv_iload_n hx hb dL_law_261 rfl (lv_at hl 0 rfl) ?_
       refine lv_iconst (v := 1) hx hb dL_law_262 (by decide) ?_
       refine lv_iadd hx hb dL_law_263 ?_
       refine jtopr ex49.symm ?_
       exact by
        refine va_sld hx hb hX hbl hbA hS (jin tx49 (by omega) (by omega)) dL_law_264 ?_
        refine lv_aload_n hx hb dL_law_265 rfl (lv_at hl 3 rfl) ?_
        refine lv_iload_n hx hb dL_law_266 rfl (lv_at hl 0 rfl) ?_
        refine lv_iconst (v := 2) hx hb dL_law_267 (by decide) ?_
        refine lv_iadd hx hb dL_law_268 ?_
        refine jtopr ex51.symm ?_
        refine va_sld hx hb hX hbl hbA hS (jin tx51 (by omega) (by omega)) dL_law_269 ?_
        refine lv_aload_n hx hb dL_law_270 rfl (lv_at hl 3 rfl) ?_
        refine lv_iload_n hx hb dL_law_271 rfl (lv_at hl 0 rfl) ?_
        exact by
         refine lv_iconst (v := 3) hx hb dL_law_272 (by decide) ?_
         refine lv_iadd hx hb dL_law_273 ?_
         refine jtopr ex53.symm ?_
         refine va_sld hx hb hX hbl hbA hS (jin tx53 (by omega) (by omega)) dL_law_274 ?_
         have I169 : jI101 σ55 := jI101_fr (congrFun (f57 55 (by decide)) 4) (congrFun (f57 55 (by decide)) 5) (f57 56 (by decide)) (f57 57 (by decide)) (f57 58 (by decide)) (f57 59 (by decide)) hI101
         have I170 : jI102 σ55 := jI102_fr (congrFun (f57 55 (by decide)) 6) (f57 60 (by decide)) (f57 61 (by decide)) hI102
         have z171 : (σ55 55 5).toInt = (σ 55 5).toInt := (congrArg Int32.toInt (show σ55 55 5 = (σ 55 5) from (congrFun (f57 55 (by decide)) 5)))
         have z172 : (σ55 55 4).toInt = (σ 55 4).toInt := (congrArg Int32.toInt (show σ55 55 4 = (σ 55 4) from (congrFun (f57 55 (by decide)) 4)))
         refine jcallV (As := [.int (xs x49.toNatClampNeg), .int (xs x51.toNatClampNeg), .int (xs x53.toNatClampNeg)]) (rest := []) ⟨hx, hb, hml, hown, hts⟩ hK hP hA hS hZ (c_X12_edge l D cI cL ad zz hJ σ55 τ (xs x49.toNatClampNeg) ((xs x49.toNatClampNeg).toInt) rfl (xs x51.toNatClampNeg) ((xs x51.toNatClampNeg).toInt) rfl (xs x53.toNatClampNeg) ((xs x53.toNatClampNeg).toInt) rfl I169 I170) cw_RL_21 (jc_55 cI cL ad σ55 τ) rfl ⟨Nat.le_of_ble_eq_true rfl, Nat.le_of_ble_eq_true rfl⟩ rfl rfl rfl hl.1 rfl (Nat.le_of_ble_eq_true rfl) dL_law_275 ⟨Nat.le_of_ble_eq_true rfl, Nat.le_of_ble_eq_true rfl⟩ (fun r174 σ173 τ173 H locs h173 hP hS => ?_)
         exact by
          obtain ⟨rfl, f175, f176, I177, h173⟩ := h173
          obtain ⟨i179, i180, i181, w182, w183, w184, w185⟩ : (0 ≤ (σ173 55 5).toInt) ∧ ((σ173 55 5).toInt ≤ (σ173 55 4).toInt) ∧ ((σ173 55 4).toInt ≤ 40) ∧ (∀ k : Nat, k < 68 → (-200) ≤ (σ173 56 k).toInt ∧ (σ173 56 k).toInt ≤ 500) ∧ (∀ k : Nat, k < 40 → 0 ≤ (σ173 57 k).toInt ∧ (σ173 57 k).toInt ≤ 67) ∧ (∀ k : Nat, k < 40 → (-200) ≤ (σ173 58 k).toInt ∧ (σ173 58 k).toInt ≤ 500) ∧ (∀ k : Nat, k < 40 → (-200) ≤ (σ173 59 k).toInt ∧ (σ173 59 k).toInt ≤ 500) := id I177
          rcases h173 with h186 | h187
          · obtain ⟨q192, k188, k189, k190, k191⟩ := h186
            have q192 := q192.symm
            subst q192
            have z193 : (σ55 55 6).toInt = (σ 55 6).toInt := (congrArg Int32.toInt (show σ55 55 6 = (σ 55 6) from (congrFun (f57 55 (by decide)) 6)))
            rw [show (σ55 55 6).toInt = (σ 2 0).toInt from by omega] at k190
            exact absurd k167.1 k190
          · obtain ⟨q195, k194⟩ := h187
            have z196 : (σ55 55 6).toInt = (σ 55 6).toInt := (congrArg Int32.toInt (show σ55 55 6 = (σ 55 6) from (congrFun (f57 55 (by decide)) 6)))
            rw [show (σ55 55 6).toInt = (σ 2 0).toInt from by omega] at k194
            obtain ⟨e197, q198, l199, c200⟩ := k167
            obtain ⟨-, q201, l202, c203⟩ := k194
            exact by
             have p204 := jEdge_pl (by omega) e197 l199 l202
             rw [show σ55 56 = σ 56 from (f57 56 (by decide)), show σ55 57 = σ 57 from (f57 57 (by decide)), show σ55 58 = σ 58 from (f57 58 (by decide)), show σ55 59 = σ 59 from (f57 59 (by decide)), show (σ55 55 4).toInt = (σ 55 4).toInt from by omega] at c203
             have r208 := hr0.res p204.1 (by have h9 := p204.2.1; omega) c200 c203 p204.2.2
             have k207 := hr0.chg p204.1 (by have h9 := p204.2.1; omega) c200 c203 p204.2.2 (by omega) (by omega) (by omega)
             have k205 := k207.2.1
             have k206 := k207.2.2
             have o209 : 32 ≤ q201 → q201 ≤ 35 → 0 ≤ (xs x53.toNatClampNeg).toInt ∧ (xs x53.toNatClampNeg).toInt ≤ 8 := fun x y => by
               have e := e197
               have l := l202
               unfold jEok at e; unfold jEpl at l; omega
             exact by
              refine lv_pop hx hb dL_law_278 rfl ?_
              refine lv_goto (tgt := 1357) hx hb dL_law_279 (by decide) ?_
              obtain ⟨x210, ex210⟩ : ∃ y : Int32, y = x0 + 6 := ⟨_, rfl⟩
              have tx210 : x210.toInt = x0.toInt + 6 := (jadd ex210 rfl jz_6 (by omega) (by omega)).trans (by omega)
              refine lv_iinc (v := x210) (lv' := [(3, .int x210), (2, .ref (ad 55)), (1, .ref (ad 0)), (0, .ref b)]) hx hb dL_law_1357 hl (k := 0) rfl (by rw [ex210]; rfl) (by decide) rfl (fun ls hl => ?_)
              refine lv_goto (tgt := 18) hx hb dL_law_1360 (by decide) ?_
              have I211 : jI2 σ173 := jI2_fr (congrFun (f175 2 (by decide)) 0) (congrFun (f175 2 (by decide)) 1) (congrFun (f175 2 (by decide)) 2) (congrFun (f175 2 (by decide)) 3) (f175 6 (by decide)) (f175 5 (by decide)) I59
              have I212 : jI9 σ173 := jI9_fr ((congrFun (f175 9 (by decide)) 0).trans (congrFun (f57 9 (by decide)) 0)) ((f175 10 (by decide)).trans (f57 10 (by decide))) ((f175 11 (by decide)).trans (f57 11 (by decide))) hI9
              have I213 : jI12 σ173 := jI12_fr ((congrFun (f175 12 (by decide)) 0).trans (congrFun (f57 12 (by decide)) 0)) ((f175 13 (by decide)).trans (f57 13 (by decide))) hI12
              exact by
               have I214 : jI16 σ173 := jI16_fr ((congrFun (f175 16 (by decide)) 0).trans (congrFun (f57 16 (by decide)) 0)) ((congrFun (f175 16 (by decide)) 1).trans (congrFun (f57 16 (by decide)) 1)) ((congrFun (f175 16 (by decide)) 2).trans (congrFun (f57 16 (by decide)) 2)) ((f175 17 (by decide)).trans (f57 17 (by decide))) hI16
               have I215 : jI18 σ173 := jI18_fr ((congrFun (f175 18 (by decide)) 0).trans (congrFun (f57 18 (by decide)) 0)) ((f175 19 (by decide)).trans (f57 19 (by decide))) hI18
               have I216 : jI22 σ173 := jI22_fr ((congrFun (f175 22 (by decide)) 0).trans (congrFun (f57 22 (by decide)) 0)) ((f175 23 (by decide)).trans (f57 23 (by decide))) hI22
               have I217 : jI31 σ173 := jI31_fr ((congrFun (f175 31 (by decide)) 8).trans (congrFun (f57 31 (by decide)) 8)) ((congrFun (f175 31 (by decide)) 10).trans (congrFun (f57 31 (by decide)) 10)) ((congrFun (f175 31 (by decide)) 11).trans (congrFun (f57 31 (by decide)) 11)) ((f175 33 (by decide)).trans (f57 33 (by decide))) ((f175 35 (by decide)).trans (f57 35 (by decide))) ((f175 36 (by decide)).trans (f57 36 (by decide))) hI31
               have I218 : jI38 σ173 := jI38_fr ((congrFun (f175 38 (by decide)) 0).trans (congrFun (f57 38 (by decide)) 0)) ((congrFun (f175 38 (by decide)) 1).trans (congrFun (f57 38 (by decide)) 1)) ((f175 39 (by decide)).trans (f57 39 (by decide))) hI38
               have I219 : jI43 σ173 := jI43_fr ((congrFun (f175 43 (by decide)) 8).trans (congrFun (f57 43 (by decide)) 8)) hI43
               have I220 : jI47 σ173 := jI47_fr ((congrFun (f175 47 (by decide)) 0).trans (congrFun (f57 47 (by decide)) 0)) ((f175 48 (by decide)).trans (f57 48 (by decide))) ((f175 49 (by decide)).trans (f57 49 (by decide))) hI47
               have I221 : jI50 σ173 := jI50_fr ((f175 52 (by decide)).trans (f57 52 (by decide))) hI50
               have I222 : jI0 σ173 := jI0_fr ((f175 1 (by decide)).trans (f57 1 (by decide))) hI0
               have I223 : jI26 σ173 := jI26_fr ((congrFun (f175 26 (by decide)) 6).trans (congrFun (f57 26 (by decide)) 6)) hI26
               have I224 : jI102 σ173 := jI102_fr (f176 6 (by decide)) (f175 60 (by decide)) (f175 61 (by decide)) I170
               have I225 : jI103 σ173 := jI103_fr ((f176 9 (by decide)).trans (congrFun (f57 55 (by decide)) 9)) hI103
               have I226 : jI104 σ173 := jI104_fr ((f176 10 (by decide)).trans (congrFun (f57 55 (by decide)) 10)) ((f176 12 (by decide)).trans (congrFun (f57 55 (by decide)) 12)) ((f176 13 (by decide)).trans (congrFun (f57 55 (by decide)) 13)) ((f175 62 (by decide)).trans (f57 62 (by decide))) ((f175 67 (by decide)).trans (f57 67 (by decide))) hI104
               have I227 : jI105 σ173 := jI105_fr ((f176 15 (by decide)).trans (congrFun (f57 55 (by decide)) 15)) ((f175 65 (by decide)).trans (f57 65 (by decide))) hI105
               have I228 : jI106 σ173 := jI106_fr ((f176 32 (by decide)).trans (congrFun (f57 55 (by decide)) 32)) ((f175 70 (by decide)).trans (f57 70 (by decide))) ((f175 71 (by decide)).trans (f57 71 (by decide))) ((f175 72 (by decide)).trans (f57 72 (by decide))) hI106
               have I229 : jI107 σ173 := jI107_fr ((f176 12 (by decide)).trans (congrFun (f57 55 (by decide)) 12)) ((f176 47 (by decide)).trans (congrFun (f57 55 (by decide)) 47)) ((f175 80 (by decide)).trans (f57 80 (by decide))) hI107
               have I230 : jI109 σ173 := jI109_fr ((f176 50 (by decide)).trans (congrFun (f57 55 (by decide)) 50)) hI109
               have I231 : jI110 σ173 := jI110_fr ((f175 86 (by decide)).trans (f57 86 (by decide))) ((f175 87 (by decide)).trans (f57 87 (by decide))) hI110
               have I232 : jI111 σ173 := jI111_fr ((f175 79 (by decide)).trans (f57 79 (by decide))) hI111
               have I233 : jI119 σ173 := jI119_fr ((f175 68 (by decide)).trans (f57 68 (by decide))) hI119
               have p234 : jKept σ173 := jKept.fr ((f175 75 (by decide)).trans (f57 75 (by decide))) ((f175 76 (by decide)).trans (f57 76 (by decide))) ((f175 77 (by decide)).trans (f57 77 (by decide))) hs_jKept
               have p235 : jBook σ173 := jBook.fr ((f176 47 (by decide)).trans (congrFun (f57 55 (by decide)) 47)) ((f176 10 (by decide)).trans (congrFun (f57 55 (by decide)) 10)) ((f175 81 (by decide)).trans (f57 81 (by decide))) hs_jBook
               have p236 : jNd12 σ173 := jNd12.fr ((congrFun (f175 12 (by decide)) 0).trans (congrFun (f57 12 (by decide)) 0)) ((congrFun (f175 12 (by decide)) 1).trans (congrFun (f57 12 (by decide)) 1)) ((f175 13 (by decide)).trans (f57 13 (by decide))) hs_jNd12
               have p237 : jN67 σ173 := jN67.fr ((f175 24 (by decide)).trans (f57 24 (by decide))) hs_jN67
               have p238 : jBl σ173 := jBl.fr ((congrFun (f175 22 (by decide)) 0).trans (congrFun (f57 22 (by decide)) 0)) ((congrFun (f175 22 (by decide)) 1).trans (congrFun (f57 22 (by decide)) 1)) ((f175 23 (by decide)).trans (f57 23 (by decide))) ((congrFun (f175 26 (by decide)) 6).trans (congrFun (f57 26 (by decide)) 6)) ((congrFun (f175 26 (by decide)) 7).trans (congrFun (f57 26 (by decide)) 7)) ((f175 29 (by decide)).trans (f57 29 (by decide))) ((f175 30 (by decide)).trans (f57 30 (by decide))) hs_jBl
               have p239 : jKb σ173 := jKb.fr ((congrFun (f175 31 (by decide)) 8).trans (congrFun (f57 31 (by decide)) 8)) ((congrFun (f175 31 (by decide)) 11).trans (congrFun (f57 31 (by decide)) 11)) ((f175 32 (by decide)).trans (f57 32 (by decide))) hs_jKb
               have p240 : jTR σ173 := jTR.fr ((f175 64 (by decide)).trans (f57 64 (by decide))) ((f175 65 (by decide)).trans (f57 65 (by decide))) hs_jTR
               have p241 : jKh σ173 := jKh.fr ((congrFun (f175 31 (by decide)) 8).trans (congrFun (f57 31 (by decide)) 8)) ((f175 32 (by decide)).trans (f57 32 (by decide))) ((f175 36 (by decide)).trans (f57 36 (by decide))) ((f175 37 (by decide)).trans (f57 37 (by decide))) hs_jKh
               have p242 : jKg σ173 := jKg.fr ((congrFun (f175 31 (by decide)) 8).trans (congrFun (f57 31 (by decide)) 8)) ((congrFun (f175 31 (by decide)) 9).trans (congrFun (f57 31 (by decide)) 9)) ((congrFun (f175 31 (by decide)) 11).trans (congrFun (f57 31 (by decide)) 11)) ((congrFun (f175 31 (by decide)) 12).trans (congrFun (f57 31 (by decide)) 12)) ((f175 32 (by decide)).trans (f57 32 (by decide))) ((f175 33 (by decide)).trans (f57 33 (by decide))) hs_jKg
               have p243 : jNz σ173 := jNz.fr ((f175 34 (by decide)).trans (f57 34 (by decide))) hs_jNz
               have p244 : jqSt σ173 := jqSt.fr ((f175 78 (by decide)).trans (f57 78 (by decide))) ((f176 42 (by decide)).trans (congrFun (f57 55 (by decide)) 42)) hs_jqSt
               have z245 : (σ173 2 0).toInt = (σ 2 0).toInt := (congrArg Int32.toInt (show σ173 2 0 = (σ 2 0) from ((congrFun (f175 2 (by decide)) 0).trans (f58 0 (by decide)))))
               have z246 : (σ173 55 6).toInt = (σ 55 6).toInt := (congrArg Int32.toInt (show σ173 55 6 = (σ 55 6) from ((f176 6 (by decide)).trans (congrFun (f57 55 (by decide)) 6))))
               have z247 : (σ173 2 2).toInt = (σ55 2 2).toInt := (congrArg Int32.toInt (show σ173 2 2 = (σ55 2 2) from (congrFun (f175 2 (by decide)) 2)))
               have z248 : (σ173 2 3).toInt = (σ55 2 3).toInt := (congrArg Int32.toInt (show σ173 2 3 = (σ55 2 3) from (congrFun (f175 2 (by decide)) 3)))
               have z249 : (σ173 9 0).toInt = (σ 9 0).toInt := (congrArg Int32.toInt (show σ173 9 0 = (σ 9 0) from ((congrFun (f175 9 (by decide)) 0).trans (congrFun (f57 9 (by decide)) 0))))
               have z250 : (σ173 55 15).toInt = (σ 55 15).toInt := (congrArg Int32.toInt (show σ173 55 15 = (σ 55 15) from ((f176 15 (by decide)).trans (congrFun (f57 55 (by decide)) 15))))
               have z251 : (σ173 16 0).toInt = (σ 16 0).toInt := (congrArg Int32.toInt (show σ173 16 0 = (σ 16 0) from ((congrFun (f175 16 (by decide)) 0).trans (congrFun (f57 16 (by decide)) 0))))
               have z252 : (σ173 55 10).toInt = (σ 55 10).toInt := (congrArg Int32.toInt (show σ173 55 10 = (σ 55 10) from ((f176 10 (by decide)).trans (congrFun (f57 55 (by decide)) 10))))
               have z253 : (σ173 16 1).toInt = (σ 16 1).toInt := (congrArg Int32.toInt (show σ173 16 1 = (σ 16 1) from ((congrFun (f175 16 (by decide)) 1).trans (congrFun (f57 16 (by decide)) 1))))
               have z254 : (σ173 55 12).toInt = (σ 55 12).toInt := (congrArg Int32.toInt (show σ173 55 12 = (σ 55 12) from ((f176 12 (by decide)).trans (congrFun (f57 55 (by decide)) 12))))
               have z255 : (σ173 16 2).toInt = (σ 16 2).toInt := (congrArg Int32.toInt (show σ173 16 2 = (σ 16 2) from ((congrFun (f175 16 (by decide)) 2).trans (congrFun (f57 16 (by decide)) 2))))
               have z256 : (σ173 55 13).toInt = (σ 55 13).toInt := (congrArg Int32.toInt (show σ173 55 13 = (σ 55 13) from ((f176 13 (by decide)).trans (congrFun (f57 55 (by decide)) 13))))
               have z257 : (σ173 38 0).toInt = (σ 38 0).toInt := (congrArg Int32.toInt (show σ173 38 0 = (σ 38 0) from ((congrFun (f175 38 (by decide)) 0).trans (congrFun (f57 38 (by decide)) 0))))
               have z258 : (σ173 55 32).toInt = (σ 55 32).toInt := (congrArg Int32.toInt (show σ173 55 32 = (σ 55 32) from ((f176 32 (by decide)).trans (congrFun (f57 55 (by decide)) 32))))
               have z259 : (σ173 38 1).toInt = (σ 38 1).toInt := (congrArg Int32.toInt (show σ173 38 1 = (σ 38 1) from ((congrFun (f175 38 (by decide)) 1).trans (congrFun (f57 38 (by decide)) 1))))
               have z260 : (σ173 55 55).toInt = (σ 55 55).toInt := (congrArg Int32.toInt (show σ173 55 55 = (σ 55 55) from ((f176 55 (by decide)).trans (congrFun (f57 55 (by decide)) 55))))
               have z261 : (σ173 47 0).toInt = (σ 47 0).toInt := (congrArg Int32.toInt (show σ173 47 0 = (σ 47 0) from ((congrFun (f175 47 (by decide)) 0).trans (congrFun (f57 47 (by decide)) 0))))
               have z262 : (σ173 55 47).toInt = (σ 55 47).toInt := (congrArg Int32.toInt (show σ173 55 47 = (σ 55 47) from ((f176 47 (by decide)).trans (congrFun (f57 55 (by decide)) 47))))
               have z263 : (σ173 55 30).toInt = (σ 55 30).toInt := (congrArg Int32.toInt (show σ173 55 30 = (σ 55 30) from ((f176 30 (by decide)).trans (congrFun (f57 55 (by decide)) 30))))
               have z264 : (σ173 55 31).toInt = (σ 55 31).toInt := (congrArg Int32.toInt (show σ173 55 31 = (σ 55 31) from ((f176 31 (by decide)).trans (congrFun (f57 55 (by decide)) 31))))
               have z265 : (σ173 2 1).toInt = (σ 2 1).toInt := (congrArg Int32.toInt (show σ173 2 1 = (σ 2 1) from ((congrFun (f175 2 (by decide)) 1).trans (f58 1 (by decide)))))
               have z266 : (σ173 55 9).toInt = (σ 55 9).toInt := (congrArg Int32.toInt (show σ173 55 9 = (σ 55 9) from ((f176 9 (by decide)).trans (congrFun (f57 55 (by decide)) 9))))
               have z267 : (σ173 55 42).toInt = (σ 55 42).toInt := (congrArg Int32.toInt (show σ173 55 42 = (σ 55 42) from ((f176 42 (by decide)).trans (congrFun (f57 55 (by decide)) 42))))
               have z268 : (σ173 26 6).toInt = (σ 26 6).toInt := (congrArg Int32.toInt (show σ173 26 6 = (σ 26 6) from ((congrFun (f175 26 (by decide)) 6).trans (congrFun (f57 26 (by decide)) 6))))
               have z270 : (σ173 18 0).toInt = (σ 18 0).toInt := (congrArg Int32.toInt (show σ173 18 0 = (σ 18 0) from ((congrFun (f175 18 (by decide)) 0).trans (congrFun (f57 18 (by decide)) 0))))
               have z271 : (σ173 22 0).toInt = (σ 22 0).toInt := (congrArg Int32.toInt (show σ173 22 0 = (σ 22 0) from ((congrFun (f175 22 (by decide)) 0).trans (congrFun (f57 22 (by decide)) 0))))
               exact by exact ih x210 σ173 τ _ _ ls (by have h9 := tx210; omega) ⟨I211, I212, I213, I214, I215, I216, I217, I218, I219, I220, I221, I222, I223, I177, I224, I225, I226, I227, I228, I229, I230, I231, I232, I233, p234, p235, p236, p237, p238, p239, p240, p241, p242, p243, p244, (by rw [z245, z246]; exact ht0), (by omega), (by omega), (by rw [z249, z250]; exact ht3), (by rw [z251, z252]; exact ht4), (by rw [z253, z254]; exact ht5), (by rw [z255, z256]; exact ht6), (by rw [z257, z258]; exact ht7), (by rw [z259, z260]; exact ht8), (by rw [z261, z262]; exact ht9), (by rw [z263]; exact ht10), (by rw [z264]; exact ht11), (by rw [z265, z266]; exact ht12), (by rw [z267]; exact ht13), (by have h9 := tx210; omega), (by have h9 := tx210; omega), (show jNumP (σ173 3) (σ173 56) (σ173 6) (σ173 57) (σ173 7) (σ173 58) (σ173 8) (σ173 59) (σ173 55 6).toInt (σ173 55 4).toInt by rw [show σ173 3 = σ55 3 from (f175 3 (by decide)), show σ173 6 = σ55 6 from (f175 6 (by decide)), show σ173 7 = σ55 7 from (f175 7 (by decide)), show σ173 8 = σ55 8 from (f175 8 (by decide)), show (σ173 55 6).toInt = (σ 55 6).toInt from z246]; exact k207.1), (hr1.chg c203 (by have h8 := p204.1; have h9 := p204.2.2; omega) (by omega) o209), (show jTp (σ173 10) (σ173 63) (σ173 55 15).toInt by rw [show σ173 10 = σ 10 from ((f175 10 (by decide)).trans (f57 10 (by decide))), show σ173 63 = σ 63 from ((f175 63 (by decide)).trans (f57 63 (by decide)))]; exact hr2.le (by omega)), (show jSo (σ173 17) (σ173 62) (σ173 16 0).toInt by rw [show σ173 17 = σ 17 from ((f175 17 (by decide)).trans (f57 17 (by decide))), show σ173 62 = σ 62 from ((f175 62 (by decide)).trans (f57 62 (by decide))), show (σ173 16 0).toInt = (σ 16 0).toInt from z251]; exact hr3), (show jShP (σ173 51) (σ173 52) (σ173 53) (σ173 86) (σ173 87) (σ173 55 32).toInt by rw [show σ173 51 = σ 51 from ((f175 51 (by decide)).trans (f57 51 (by decide))), show σ173 52 = σ 52 from ((f175 52 (by decide)).trans (f57 52 (by decide))), show σ173 53 = σ 53 from ((f175 53 (by decide)).trans (f57 53 (by decide))), show σ173 86 = σ 86 from ((f175 86 (by decide)).trans (f57 86 (by decide))), show σ173 87 = σ 87 from ((f175 87 (by decide)).trans (f57 87 (by decide)))]; exact (hr4.up (by omega) (by omega))), (show jEl (σ173 51) (σ173 52) (τ 54) (τ 88) by rw [show σ173 51 = σ 51 from ((f175 51 (by decide)).trans (f57 51 (by decide))), show σ173 52 = σ 52 from ((f175 52 (by decide)).trans (f57 52 (by decide)))]; exact hr5), (show jByP (σ173 51) (σ173 52) (τ 54) by rw [show σ173 51 = σ 51 from ((f175 51 (by decide)).trans (f57 51 (by decide))), show σ173 52 = σ 52 from ((f175 52 (by decide)).trans (f57 52 (by decide)))]; exact hr6), (show jBk (σ173 48) (σ173 80) (σ173 49) (σ173 81) (σ173 55 47).toInt by rw [show σ173 48 = σ 48 from ((f175 48 (by decide)).trans (f57 48 (by decide))), show σ173 49 = σ 49 from ((f175 49 (by decide)).trans (f57 49 (by decide))), show σ173 80 = σ 80 from ((f175 80 (by decide)).trans (f57 80 (by decide))), show σ173 81 = σ 81 from ((f175 81 (by decide)).trans (f57 81 (by decide))), show (σ173 55 47).toInt = (σ 55 47).toInt from z262]; exact hr7), (show jKd (σ173 39) (σ173 70) (σ173 55 32).toInt by rw [show σ173 39 = σ 39 from ((f175 39 (by decide)).trans (f57 39 (by decide))), show σ173 70 = σ 70 from ((f175 70 (by decide)).trans (f57 70 (by decide))), show (σ173 55 32).toInt = (σ 55 32).toInt from z258]; exact hr8), (show jTt (σ173 42) (σ173 85) (σ173 55 55).toInt by rw [show σ173 42 = σ 42 from ((f175 42 (by decide)).trans (f57 42 (by decide))), show σ173 85 = σ 85 from ((f175 85 (by decide)).trans (f57 85 (by decide))), show (σ173 55 55).toInt = (σ 55 55).toInt from z260]; exact hr9), (fun k hk => by rw [show σ173 4 = σ 4 from ((f175 4 (by decide)).trans (f57 4 (by decide))), show σ173 5 = σ 5 from ((f175 5 (by decide)).trans (f57 5 (by decide))), show σ173 60 = σ 60 from ((f175 60 (by decide)).trans (f57 60 (by decide))), show σ173 61 = σ 61 from ((f175 61 (by decide)).trans (f57 61 (by decide)))]; exact hr10 k (by omega)), (fun nm => by rw [show σ173 19 = σ 19 from ((f175 19 (by decide)).trans (f57 19 (by decide))), show σ173 64 = σ 64 from ((f175 64 (by decide)).trans (f57 64 (by decide))), show σ173 65 = σ 65 from ((f175 65 (by decide)).trans (f57 65 (by decide))), show (σ173 18 0).toInt = (σ 18 0).toInt from z270]; exact hr11 nm), (fun nm => by rw [show σ173 23 = σ 23 from ((f175 23 (by decide)).trans (f57 23 (by decide))), show σ173 64 = σ 64 from ((f175 64 (by decide)).trans (f57 64 (by decide))), show σ173 65 = σ 65 from ((f175 65 (by decide)).trans (f57 65 (by decide))), show (σ173 22 0).toInt = (σ 22 0).toInt from z271]; exact hr12 nm), (hr13.chg c203 (by have h8 := p204.1; have h9 := p204.2.2; omega) (by omega) (fun x => by have e := e197; have l := l202; unfold jEok at e; unfold jEpl at l; unfold jPl at x; unfold jR9; omega)), (show jqbN (σ173 80) (σ173 55 47).toInt by rw [show σ173 80 = σ 80 from ((f175 80 (by decide)).trans (f57 80 (by decide))), show (σ173 55 47).toInt = (σ 55 47).toInt from z262]; exact hr14)⟩ hP hS (lv_sub hl [0, 1, 2, 3] rfl)
set_option maxHeartbeats 4000000 in
set_option maxRecDepth 100000 in
theorem law_case_2 {p : Program} {e : Env} {s : State} {m : MethodId} {below : List Frame} {meth : Method} {c : Code} (l : Launch) {b L : Nat} {xs : Nat → Int32} {D : va_G} {cI cL : ClassId} {ad zz : Nat → Nat} (C0 : lw_At p s m meth c b L xs) (hJ : jD ad) (hA : ∀ q, jA ad q → s.heap.size ≤ q) (hK : jK D cI cL s) (hZ : jZ zz (fun q : Nat => s.heap.size ≤ q) s s.heap) {x0 : Int32} (hx0 : 0 ≤ x0.toInt) (hxL : x0.toInt + 6 ≤ (L : Int)) (hL : L ≤ 384) {σ : Nat → Nat → Int32} {τ : Nat → Nat → Int64} {H : Heap} {locs : List Loc} (hS : va_S (fun q : Nat => s.heap.size ≤ q) s.heap H locs) {ls : Array Slot} (hAll : jAll x0.toInt σ τ) (hP : jH D cI cL ad σ τ H) (hl : lv_has ls 4 [(3, .int x0), (2, .ref (ad 55)), (1, .ref (ad 0)), (0, .ref b)]) (ih : ∀ (x1 : Int32) (σ : Nat → Nat → Int32) (τ : Nat → Nat → Int64) (H : Heap) (locs : List Loc) (ls : Array Slot), x1.toInt = x0.toInt + 6 → jAll x1.toInt σ τ → jH D cI cL ad σ τ H → va_S (fun q : Nat => s.heap.size ≤ q) s.heap H locs → lv_has ls 4 [(3, .int x1), (2, .ref (ad 55)), (1, .ref (ad 0)), (0, .ref b)] → W p l e room_1 s m #[Value.ref b] below meth c H locs 90 348600 (lw_Z below #[Value.ref b] s) (F0 m 18 ls [])) : W p l e room_1 s m #[Value.ref b] below meth c H locs 90 348600 (lw_Z below #[Value.ref b] s) (F0 m 282 ls []) := by
  obtain ⟨hx, hb, hr, hml, hown, hts0, hX, hbl, hlocks, hgv⟩ := C0
  have hts : ∀ w ∈ wsL_law, w.before #[Value.ref b] s = true := fun w h => hts0 w (wsL_law_in w h)
  have hbA : ¬ (fun q : Nat => s.heap.size ≤ q) b := Nat.not_le.mpr hbl
  have hown : s.vm.findClass RL = some m.cls := hown
  obtain ⟨hI2, hI9, hI12, hI16, hI18, hI22, hI31, hI38, hI43, hI47, hI50, hI0, hI26, hI101, hI102, hI103, hI104, hI105, hI106, hI107, hI109, hI110, hI111, hI119, hs_jKept, hs_jBook, hs_jNd12, hs_jN67, hs_jBl, hs_jKb, hs_jTR, hs_jKh, hs_jKg, hs_jNz, hs_jqSt, ht0, ht1, ht2, ht3, ht4, ht5, ht6, ht7, ht8, ht9, ht10, ht11, ht12, ht13, ht14, ht15, hr0, hr1, hr2, hr3, hr4, hr5, hr6, hr7, hr8, hr9, hr10, hr11, hr12, hr13, hr14⟩ := hAll
  have hL9 : (L : Int) ≤ 384 := by omega
  obtain ⟨i1, i2, i3, i4, i5, w6, w7⟩ : (0 ≤ (σ 2 0).toInt ∧ (σ 2 0).toInt ≤ 4) ∧ (0 ≤ (σ 2 1).toInt ∧ (σ 2 1).toInt ≤ 3) ∧ (0 ≤ (σ 2 2).toInt) ∧ (0 ≤ (σ 2 3).toInt) ∧ ((σ 2 2).toInt + (σ 2 3).toInt ≤ 40) ∧ (∀ k : Nat, k < 40 → 0 ≤ (σ 6 k).toInt ∧ (σ 6 k).toInt ≤ 67) ∧ (∀ k : Nat, k < 4 → 0 ≤ (σ 5 k).toInt ∧ (σ 5 k).toInt ≤ 20) := id hI2
  obtain ⟨i8, w9, w10⟩ : (0 ≤ (σ 9 0).toInt ∧ (σ 9 0).toInt ≤ 80) ∧ (∀ k : Nat, k < 80 → 0 ≤ (σ 10 k).toInt ∧ (σ 10 k).toInt ≤ 255) ∧ (∀ k : Nat, k < 8 → 0 ≤ (σ 11 k).toInt ∧ (σ 11 k).toInt ≤ 3) := id hI9
  obtain ⟨i11, i12, i13, w14⟩ : (1 ≤ (σ 16 0).toInt ∧ (σ 16 0).toInt ≤ 8) ∧ (1 ≤ (σ 16 1).toInt ∧ (σ 16 1).toInt ≤ 12) ∧ (0 ≤ (σ 16 2).toInt ∧ (σ 16 2).toInt ≤ 999) ∧ (∀ k : Nat, k < 8 → 0 ≤ (σ 17 k).toInt ∧ (σ 17 k).toInt ≤ 3) := id hI16
  obtain ⟨i15, i16, w17⟩ : (0 ≤ (σ 38 0).toInt ∧ (σ 38 0).toInt ≤ 20) ∧ (0 ≤ (σ 38 1).toInt ∧ (σ 38 1).toInt ≤ 1000) ∧ (∀ k : Nat, k < 20 → 0 ≤ (σ 39 k).toInt ∧ (σ 39 k).toInt ≤ 6) := id hI38
  obtain ⟨i18, w19, w20⟩ : (0 ≤ (σ 47 0).toInt ∧ (σ 47 0).toInt ≤ 12) ∧ (∀ k : Nat, k < 12 → 0 ≤ (σ 48 k).toInt ∧ (σ 48 k).toInt ≤ 3) ∧ (∀ k : Nat, k < 12 → 0 ≤ (σ 49 k).toInt ∧ (σ 49 k).toInt ≤ 1) := id hI47
  have w21 : ∀ k : Nat, k < 6 → 0 ≤ (σ 52 k).toInt ∧ (σ 52 k).toInt ≤ 60 := hI50
  have i22 : 1 ≤ (σ 26 6).toInt ∧ (σ 26 6).toInt ≤ 8000 := hI26
  obtain ⟨i23, i24, i25, w26, w27, w28, w29⟩ : (0 ≤ (σ 55 5).toInt) ∧ ((σ 55 5).toInt ≤ (σ 55 4).toInt) ∧ ((σ 55 4).toInt ≤ 40) ∧ (∀ k : Nat, k < 68 → (-200) ≤ (σ 56 k).toInt ∧ (σ 56 k).toInt ≤ 500) ∧ (∀ k : Nat, k < 40 → 0 ≤ (σ 57 k).toInt ∧ (σ 57 k).toInt ≤ 67) ∧ (∀ k : Nat, k < 40 → (-200) ≤ (σ 58 k).toInt ∧ (σ 58 k).toInt ≤ 500) ∧ (∀ k : Nat, k < 40 → (-200) ≤ (σ 59 k).toInt ∧ (σ 59 k).toInt ≤ 500) := id hI101
  obtain ⟨i30, w31, w32⟩ : (0 ≤ (σ 55 6).toInt ∧ (σ 55 6).toInt ≤ 4) ∧ (∀ k : Nat, k < 4 → 0 ≤ (σ 60 k).toInt ∧ (σ 60 k).toInt ≤ 50) ∧ (∀ k : Nat, k < 4 → 0 ≤ (σ 61 k).toInt ∧ (σ 61 k).toInt ≤ 20) := id hI102
  have i33 : 0 ≤ (σ 55 9).toInt ∧ (σ 55 9).toInt ≤ 3 := hI103
  obtain ⟨i34, i35, i36, w37, w38⟩ : (1 ≤ (σ 55 10).toInt ∧ (σ 55 10).toInt ≤ 8) ∧ (1 ≤ (σ 55 12).toInt ∧ (σ 55 12).toInt ≤ 12) ∧ (0 ≤ (σ 55 13).toInt ∧ (σ 55 13).toInt ≤ 999) ∧ (∀ k : Nat, k < 8 → 0 ≤ (σ 62 k).toInt ∧ (σ 62 k).toInt ≤ 3) ∧ (∀ k : Nat, k < 8 → 0 ≤ (σ 67 k).toInt ∧ (σ 67 k).toInt ≤ 3) := id hI104
  obtain ⟨i39, w40⟩ : (0 ≤ (σ 55 15).toInt ∧ (σ 55 15).toInt ≤ 80) ∧ (∀ k : Nat, k < 2 → (-1) ≤ (σ 65 k).toInt ∧ (σ 65 k).toInt ≤ 80) := id hI105
  obtain ⟨i41, w42, w43, w44⟩ : (0 ≤ (σ 55 32).toInt ∧ (σ 55 32).toInt ≤ 20) ∧ (∀ k : Nat, k < 20 → 0 ≤ (σ 70 k).toInt ∧ (σ 70 k).toInt ≤ 6) ∧ (∀ k : Nat, k < 20 → 0 ≤ (σ 71 k).toInt ∧ (σ 71 k).toInt ≤ 8) ∧ (∀ k : Nat, k < 160 → 0 ≤ (σ 72 k).toInt ∧ (σ 72 k).toInt ≤ 3) := id hI106
  obtain ⟨i45, i46, w47⟩ : (0 ≤ (σ 55 47).toInt ∧ (σ 55 47).toInt ≤ 12) ∧ ((σ 55 47).toInt ≤ (σ 55 12).toInt) ∧ (∀ k : Nat, k < 12 → 0 ≤ (σ 80 k).toInt ∧ (σ 80 k).toInt ≤ 3) := id hI107
  have hs_jOk3 : jOk3 σ := hr0.ok hr1.1
  refine lv_aload_n hx hb dL_law_282 rfl (lv_at hl 2 rfl) ?_
  refine lv_aload_n hx hb dL_law_283 rfl (lv_at hl 3 rfl) ?_
  refine lv_iload_n hx hb dL_law_284 rfl (lv_at hl 0 rfl) ?_
  refine lv_iconst (v := 1) hx hb dL_law_285 (by decide) ?_
  have g48 := jrg (rfl : x0.toInt = x0.toInt)
  refine lv_iadd hx hb dL_law_286 ?_
  refine lv_topi (fun x49 ex49 => ?_)
  exact by
   have tx49 : x49.toInt = x0.toInt + 1 := (jadd ex49 rfl jz_1 (by omega) (by omega)).trans (by omega)
   refine va_sld hx hb hX hbl hbA hS (jin tx49 (by omega) (by omega)) dL_law_287 ?_
   have g50 := jrg (rfl : (xs x49.toNatClampNeg).toInt = (xs x49.toNatClampNeg).toInt)
   refine lv_aload_n hx hb dL_law_288 rfl (lv_at hl 3 rfl) ?_
   refine lv_iload_n hx hb dL_law_289 rfl (lv_at hl 0 rfl) ?_
   refine lv_iconst (v := 2) hx hb dL_law_290 (by decide) ?_
   refine lv_iadd hx hb dL_law_291 ?_
   refine lv_topi (fun x51 ex51 => ?_)
   have tx51 : x51.toInt = x0.toInt + 2 := (jadd ex51 rfl jz_2 (by omega) (by omega)).trans (by omega)
   exact by
    refine va_sld hx hb hX hbl hbA hS (jin tx51 (by omega) (by omega)) dL_law_292 ?_
    have g52 := jrg (rfl : (xs x51.toNatClampNeg).toInt = (xs x51.toNatClampNeg).toInt)
    refine lv_aload_n hx hb dL_law_293 rfl (lv_at hl 3 rfl) ?_
    refine lv_iload_n hx hb dL_law_294 rfl (lv_at hl 0 rfl) ?_
    refine lv_iconst (v := 3) hx hb dL_law_295 (by decide) ?_
    refine lv_iadd hx hb dL_law_296 ?_
    refine lv_topi (fun x53 ex53 => ?_)
    have tx53 : x53.toInt = x0.toInt + 3 := (jadd ex53 rfl jz_3 (by omega) (by omega)).trans (by omega)
    refine va_sld hx hb hX hbl hbA hS (jin tx53 (by omega) (by omega)) dL_law_297 ?_
    exact by
     have g54 := jrg (rfl : (xs x53.toNatClampNeg).toInt = (xs x53.toNatClampNeg).toInt)
     refine jcallV (As := [.int (xs x49.toNatClampNeg), .int (xs x51.toNatClampNeg), .int (xs x53.toNatClampNeg)]) (rest := []) ⟨hx, hb, hml, hown, hts⟩ hK hP hA hS hZ (c_X11_field l D cI cL ad zz hJ σ τ (xs x49.toNatClampNeg) ((xs x49.toNatClampNeg).toInt) rfl (xs x51.toNatClampNeg) ((xs x51.toNatClampNeg).toInt) rfl (xs x53.toNatClampNeg) ((xs x53.toNatClampNeg).toInt) rfl hI2) cw_RL_22 (jc_0 cI cL ad σ τ) rfl ⟨Nat.le_of_ble_eq_true rfl, Nat.le_of_ble_eq_true rfl⟩ rfl rfl rfl hl.1 rfl (Nat.le_of_ble_eq_true rfl) dL_law_298 ⟨Nat.le_of_ble_eq_true rfl, Nat.le_of_ble_eq_true rfl⟩ (fun r56 σ55 τ55 H locs h55 hP hS => ?_)
     obtain ⟨rfl, f57, f58, I59, h55⟩ := h55
     obtain ⟨i61, i62, i63, i64, i65, w66, w67⟩ : (0 ≤ (σ55 2 0).toInt ∧ (σ55 2 0).toInt ≤ 4) ∧ (0 ≤ (σ55 2 1).toInt ∧ (σ55 2 1).toInt ≤ 3) ∧ (0 ≤ (σ55 2 2).toInt) ∧ (0 ≤ (σ55 2 3).toInt) ∧ ((σ55 2 2).toInt + (σ55 2 3).toInt ≤ 40) ∧ (∀ k : Nat, k < 40 → 0 ≤ (σ55 6 k).toInt ∧ (σ55 6 k).toInt ≤ 67) ∧ (∀ k : Nat, k < 4 → 0 ≤ (σ55 5 k).toInt ∧ (σ55 5 k).toInt ≤ 20) := id I59
     have z68 : (σ55 2 0).toInt = (σ 2 0).toInt := (congrArg Int32.toInt (show σ55 2 0 = (σ 2 0) from (f58 0 (by decide))))
     have z69 : (σ55 2 1).toInt = (σ 2 1).toInt := (congrArg Int32.toInt (show σ55 2 1 = (σ 2 1) from (f58 1 (by decide))))
     rcases h55 with h70 | h71
     · obtain ⟨q76, k72, k73, k74, k75⟩ := h70
       have q76 := q76.symm
       subst q76
       refine lv_pop hx hb dL_law_301 rfl ?_
       refine lv_aload_n hx hb dL_law_302 rfl (lv_at hl 1 rfl) ?_
       refine lv_aload_n hx hb dL_law_303 rfl (lv_at hl 3 rfl) ?_
       refine lv_iload_n hx hb dL_law_304 rfl (lv_at hl 0 rfl) ?_
       refine lv_iconst (v := 1) hx hb dL_law_305 (by decide) ?_
       refine lv_iadd hx hb dL_law_306 ?_
       refine jtopr ex49.symm ?_
       exact by
        refine va_sld hx hb hX hbl hbA hS (jin tx49 (by omega) (by omega)) dL_law_307 ?_
        refine lv_aload_n hx hb dL_law_308 rfl (lv_at hl 3 rfl) ?_
        refine lv_iload_n hx hb dL_law_309 rfl (lv_at hl 0 rfl) ?_
        refine lv_iconst (v := 2) hx hb dL_law_310 (by decide) ?_
        refine lv_iadd hx hb dL_law_311 ?_
        refine jtopr ex51.symm ?_
        refine va_sld hx hb hX hbl hbA hS (jin tx51 (by omega) (by omega)) dL_law_312 ?_
        refine lv_aload_n hx hb dL_law_313 rfl (lv_at hl 3 rfl) ?_
        refine lv_iload_n hx hb dL_law_314 rfl (lv_at hl 0 rfl) ?_
        exact by
         refine lv_iconst (v := 3) hx hb dL_law_315 (by decide) ?_
         refine lv_iadd hx hb dL_law_316 ?_
         refine jtopr ex53.symm ?_
         refine va_sld hx hb hX hbl hbA hS (jin tx53 (by omega) (by omega)) dL_law_317 ?_
         have I77 : jI101 σ55 := jI101_fr (congrFun (f57 55 (by decide)) 4) (congrFun (f57 55 (by decide)) 5) (f57 56 (by decide)) (f57 57 (by decide)) (f57 58 (by decide)) (f57 59 (by decide)) hI101
         have z78 : (σ55 55 5).toInt = (σ 55 5).toInt := (congrArg Int32.toInt (show σ55 55 5 = (σ 55 5) from (congrFun (f57 55 (by decide)) 5)))
         have z79 : (σ55 55 4).toInt = (σ 55 4).toInt := (congrArg Int32.toInt (show σ55 55 4 = (σ 55 4) from (congrFun (f57 55 (by decide)) 4)))
         refine jcallV (As := [.int (xs x49.toNatClampNeg), .int (xs x51.toNatClampNeg), .int (xs x53.toNatClampNeg)]) (rest := []) ⟨hx, hb, hml, hown, hts⟩ hK hP hA hS hZ (c_X12_field l D cI cL ad zz hJ σ55 τ (xs x49.toNatClampNeg) ((xs x49.toNatClampNeg).toInt) rfl (xs x51.toNatClampNeg) ((xs x51.toNatClampNeg).toInt) rfl (xs x53.toNatClampNeg) ((xs x53.toNatClampNeg).toInt) rfl I77) cw_RL_25 (jc_55 cI cL ad σ55 τ) rfl ⟨Nat.le_of_ble_eq_true rfl, Nat.le_of_ble_eq_true rfl⟩ rfl rfl rfl hl.1 rfl (Nat.le_of_ble_eq_true rfl) dL_law_318 ⟨Nat.le_of_ble_eq_true rfl, Nat.le_of_ble_eq_true rfl⟩ (fun r81 σ80 τ80 H locs h80 hP hS => ?_)
         obtain ⟨rfl, f82, f83, I84, h80⟩ := h80
         exact by
          obtain ⟨i86, i87, i88, w89, w90, w91, w92⟩ : (0 ≤ (σ80 55 5).toInt) ∧ ((σ80 55 5).toInt ≤ (σ80 55 4).toInt) ∧ ((σ80 55 4).toInt ≤ 40) ∧ (∀ k : Nat, k < 68 → (-200) ≤ (σ80 56 k).toInt ∧ (σ80 56 k).toInt ≤ 500) ∧ (∀ k : Nat, k < 40 → 0 ≤ (σ80 57 k).toInt ∧ (σ80 57 k).toInt ≤ 67) ∧ (∀ k : Nat, k < 40 → (-200) ≤ (σ80 58 k).toInt ∧ (σ80 58 k).toInt ≤ 500) ∧ (∀ k : Nat, k < 40 → (-200) ≤ (σ80 59 k).toInt ∧ (σ80 59 k).toInt ≤ 500) := id I84
          rcases h80 with h93 | h94
          · obtain ⟨q99, k95, k96, k97, k98⟩ := h93
            have q99 := q99.symm
            subst q99
            have z100 : (σ55 55 6).toInt = (σ 55 6).toInt := (congrArg Int32.toInt (show σ55 55 6 = (σ 55 6) from (congrFun (f57 55 (by decide)) 6)))
            rw [show (σ55 55 6).toInt = (σ 2 0).toInt from by omega] at k97
            refine lv_pop hx hb dL_law_321 rfl ?_
            refine lv_goto (tgt := 1357) hx hb dL_law_322 (by decide) ?_
            obtain ⟨x101, ex101⟩ : ∃ y : Int32, y = x0 + 6 := ⟨_, rfl⟩
            exact by
             have tx101 : x101.toInt = x0.toInt + 6 := (jadd ex101 rfl jz_6 (by omega) (by omega)).trans (by omega)
             refine lv_iinc (v := x101) (lv' := [(3, .int x101), (2, .ref (ad 55)), (1, .ref (ad 0)), (0, .ref b)]) hx hb dL_law_1357 hl (k := 0) rfl (by rw [ex101]; rfl) (by decide) rfl (fun ls hl => ?_)
             refine lv_goto (tgt := 18) hx hb dL_law_1360 (by decide) ?_
             have I102 : jI2 σ80 := jI2_fr (congrFun (f82 2 (by decide)) 0) (congrFun (f82 2 (by decide)) 1) (congrFun (f82 2 (by decide)) 2) (congrFun (f82 2 (by decide)) 3) (f82 6 (by decide)) (f82 5 (by decide)) I59
             have I103 : jI9 σ80 := jI9_fr ((congrFun (f82 9 (by decide)) 0).trans (congrFun (f57 9 (by decide)) 0)) ((f82 10 (by decide)).trans (f57 10 (by decide))) ((f82 11 (by decide)).trans (f57 11 (by decide))) hI9
             have I104 : jI12 σ80 := jI12_fr ((congrFun (f82 12 (by decide)) 0).trans (congrFun (f57 12 (by decide)) 0)) ((f82 13 (by decide)).trans (f57 13 (by decide))) hI12
             have I105 : jI16 σ80 := jI16_fr ((congrFun (f82 16 (by decide)) 0).trans (congrFun (f57 16 (by decide)) 0)) ((congrFun (f82 16 (by decide)) 1).trans (congrFun (f57 16 (by decide)) 1)) ((congrFun (f82 16 (by decide)) 2).trans (congrFun (f57 16 (by decide)) 2)) ((f82 17 (by decide)).trans (f57 17 (by decide))) hI16
             have I106 : jI18 σ80 := jI18_fr ((congrFun (f82 18 (by decide)) 0).trans (congrFun (f57 18 (by decide)) 0)) ((f82 19 (by decide)).trans (f57 19 (by decide))) hI18
             have I107 : jI22 σ80 := jI22_fr ((congrFun (f82 22 (by decide)) 0).trans (congrFun (f57 22 (by decide)) 0)) ((f82 23 (by decide)).trans (f57 23 (by decide))) hI22
             exact by
              have I108 : jI31 σ80 := jI31_fr ((congrFun (f82 31 (by decide)) 8).trans (congrFun (f57 31 (by decide)) 8)) ((congrFun (f82 31 (by decide)) 10).trans (congrFun (f57 31 (by decide)) 10)) ((congrFun (f82 31 (by decide)) 11).trans (congrFun (f57 31 (by decide)) 11)) ((f82 33 (by decide)).trans (f57 33 (by decide))) ((f82 35 (by decide)).trans (f57 35 (by decide))) ((f82 36 (by decide)).trans (f57 36 (by decide))) hI31
              have I109 : jI38 σ80 := jI38_fr ((congrFun (f82 38 (by decide)) 0).trans (congrFun (f57 38 (by decide)) 0)) ((congrFun (f82 38 (by decide)) 1).trans (congrFun (f57 38 (by decide)) 1)) ((f82 39 (by decide)).trans (f57 39 (by decide))) hI38
              have I110 : jI43 σ80 := jI43_fr ((congrFun (f82 43 (by decide)) 8).trans (congrFun (f57 43 (by decide)) 8)) hI43
              have I111 : jI47 σ80 := jI47_fr ((congrFun (f82 47 (by decide)) 0).trans (congrFun (f57 47 (by decide)) 0)) ((f82 48 (by decide)).trans (f57 48 (by decide))) ((f82 49 (by decide)).trans (f57 49 (by decide))) hI47
              have I112 : jI50 σ80 := jI50_fr ((f82 52 (by decide)).trans (f57 52 (by decide))) hI50
              have I113 : jI0 σ80 := jI0_fr ((f82 1 (by decide)).trans (f57 1 (by decide))) hI0
              have I114 : jI26 σ80 := jI26_fr ((congrFun (f82 26 (by decide)) 6).trans (congrFun (f57 26 (by decide)) 6)) hI26
              have I115 : jI102 σ80 := jI102_fr ((f83 6 (by decide)).trans (congrFun (f57 55 (by decide)) 6)) ((f82 60 (by decide)).trans (f57 60 (by decide))) ((f82 61 (by decide)).trans (f57 61 (by decide))) hI102
              have I116 : jI103 σ80 := jI103_fr ((f83 9 (by decide)).trans (congrFun (f57 55 (by decide)) 9)) hI103
              have I117 : jI104 σ80 := jI104_fr ((f83 10 (by decide)).trans (congrFun (f57 55 (by decide)) 10)) ((f83 12 (by decide)).trans (congrFun (f57 55 (by decide)) 12)) ((f83 13 (by decide)).trans (congrFun (f57 55 (by decide)) 13)) ((f82 62 (by decide)).trans (f57 62 (by decide))) ((f82 67 (by decide)).trans (f57 67 (by decide))) hI104
              have I118 : jI105 σ80 := jI105_fr ((f83 15 (by decide)).trans (congrFun (f57 55 (by decide)) 15)) ((f82 65 (by decide)).trans (f57 65 (by decide))) hI105
              have I119 : jI106 σ80 := jI106_fr ((f83 32 (by decide)).trans (congrFun (f57 55 (by decide)) 32)) ((f82 70 (by decide)).trans (f57 70 (by decide))) ((f82 71 (by decide)).trans (f57 71 (by decide))) ((f82 72 (by decide)).trans (f57 72 (by decide))) hI106
              have I120 : jI107 σ80 := jI107_fr ((f83 12 (by decide)).trans (congrFun (f57 55 (by decide)) 12)) ((f83 47 (by decide)).trans (congrFun (f57 55 (by decide)) 47)) ((f82 80 (by decide)).trans (f57 80 (by decide))) hI107
              have I121 : jI109 σ80 := jI109_fr ((f83 50 (by decide)).trans (congrFun (f57 55 (by decide)) 50)) hI109
              have I122 : jI110 σ80 := jI110_fr ((f82 86 (by decide)).trans (f57 86 (by decide))) ((f82 87 (by decide)).trans (f57 87 (by decide))) hI110
              have I123 : jI111 σ80 := jI111_fr ((f82 79 (by decide)).trans (f57 79 (by decide))) hI111
              have I124 : jI119 σ80 := jI119_fr ((f82 68 (by decide)).trans (f57 68 (by decide))) hI119
              have p125 : jKept σ80 := jKept.fr ((f82 75 (by decide)).trans (f57 75 (by decide))) ((f82 76 (by decide)).trans (f57 76 (by decide))) ((f82 77 (by decide)).trans (f57 77 (by decide))) hs_jKept
              have p126 : jBook σ80 := jBook.fr ((f83 47 (by decide)).trans (congrFun (f57 55 (by decide)) 47)) ((f83 10 (by decide)).trans (congrFun (f57 55 (by decide)) 10)) ((f82 81 (by decide)).trans (f57 81 (by decide))) hs_jBook
              have p127 : jNd12 σ80 := jNd12.fr ((congrFun (f82 12 (by decide)) 0).trans (congrFun (f57 12 (by decide)) 0)) ((congrFun (f82 12 (by decide)) 1).trans (congrFun (f57 12 (by decide)) 1)) ((f82 13 (by decide)).trans (f57 13 (by decide))) hs_jNd12
              have p128 : jN67 σ80 := jN67.fr ((f82 24 (by decide)).trans (f57 24 (by decide))) hs_jN67
              have p129 : jBl σ80 := jBl.fr ((congrFun (f82 22 (by decide)) 0).trans (congrFun (f57 22 (by decide)) 0)) ((congrFun (f82 22 (by decide)) 1).trans (congrFun (f57 22 (by decide)) 1)) ((f82 23 (by decide)).trans (f57 23 (by decide))) ((congrFun (f82 26 (by decide)) 6).trans (congrFun (f57 26 (by decide)) 6)) ((congrFun (f82 26 (by decide)) 7).trans (congrFun (f57 26 (by decide)) 7)) ((f82 29 (by decide)).trans (f57 29 (by decide))) ((f82 30 (by decide)).trans (f57 30 (by decide))) hs_jBl
              have p130 : jKb σ80 := jKb.fr ((congrFun (f82 31 (by decide)) 8).trans (congrFun (f57 31 (by decide)) 8)) ((congrFun (f82 31 (by decide)) 11).trans (congrFun (f57 31 (by decide)) 11)) ((f82 32 (by decide)).trans (f57 32 (by decide))) hs_jKb
              have p131 : jTR σ80 := jTR.fr ((f82 64 (by decide)).trans (f57 64 (by decide))) ((f82 65 (by decide)).trans (f57 65 (by decide))) hs_jTR
              have p132 : jKh σ80 := jKh.fr ((congrFun (f82 31 (by decide)) 8).trans (congrFun (f57 31 (by decide)) 8)) ((f82 32 (by decide)).trans (f57 32 (by decide))) ((f82 36 (by decide)).trans (f57 36 (by decide))) ((f82 37 (by decide)).trans (f57 37 (by decide))) hs_jKh
              have p133 : jKg σ80 := jKg.fr ((congrFun (f82 31 (by decide)) 8).trans (congrFun (f57 31 (by decide)) 8)) ((congrFun (f82 31 (by decide)) 9).trans (congrFun (f57 31 (by decide)) 9)) ((congrFun (f82 31 (by decide)) 11).trans (congrFun (f57 31 (by decide)) 11)) ((congrFun (f82 31 (by decide)) 12).trans (congrFun (f57 31 (by decide)) 12)) ((f82 32 (by decide)).trans (f57 32 (by decide))) ((f82 33 (by decide)).trans (f57 33 (by decide))) hs_jKg
              have p134 : jNz σ80 := jNz.fr ((f82 34 (by decide)).trans (f57 34 (by decide))) hs_jNz
              have p135 : jqSt σ80 := jqSt.fr ((f82 78 (by decide)).trans (f57 78 (by decide))) ((f83 42 (by decide)).trans (congrFun (f57 55 (by decide)) 42)) hs_jqSt
              have z136 : (σ80 2 0).toInt = (σ 2 0).toInt := (congrArg Int32.toInt (show σ80 2 0 = (σ 2 0) from ((congrFun (f82 2 (by decide)) 0).trans (f58 0 (by decide)))))
              have z137 : (σ80 55 6).toInt = (σ 55 6).toInt := (congrArg Int32.toInt (show σ80 55 6 = (σ 55 6) from ((f83 6 (by decide)).trans (congrFun (f57 55 (by decide)) 6))))
              have z138 : (σ80 2 2).toInt = (σ55 2 2).toInt := (congrArg Int32.toInt (show σ80 2 2 = (σ55 2 2) from (congrFun (f82 2 (by decide)) 2)))
              have z139 : (σ80 2 3).toInt = (σ55 2 3).toInt := (congrArg Int32.toInt (show σ80 2 3 = (σ55 2 3) from (congrFun (f82 2 (by decide)) 3)))
              have z140 : (σ80 9 0).toInt = (σ 9 0).toInt := (congrArg Int32.toInt (show σ80 9 0 = (σ 9 0) from ((congrFun (f82 9 (by decide)) 0).trans (congrFun (f57 9 (by decide)) 0))))
              have z141 : (σ80 55 15).toInt = (σ 55 15).toInt := (congrArg Int32.toInt (show σ80 55 15 = (σ 55 15) from ((f83 15 (by decide)).trans (congrFun (f57 55 (by decide)) 15))))
              have z142 : (σ80 16 0).toInt = (σ 16 0).toInt := (congrArg Int32.toInt (show σ80 16 0 = (σ 16 0) from ((congrFun (f82 16 (by decide)) 0).trans (congrFun (f57 16 (by decide)) 0))))
              have z143 : (σ80 55 10).toInt = (σ 55 10).toInt := (congrArg Int32.toInt (show σ80 55 10 = (σ 55 10) from ((f83 10 (by decide)).trans (congrFun (f57 55 (by decide)) 10))))
              have z144 : (σ80 16 1).toInt = (σ 16 1).toInt := (congrArg Int32.toInt (show σ80 16 1 = (σ 16 1) from ((congrFun (f82 16 (by decide)) 1).trans (congrFun (f57 16 (by decide)) 1))))
              have z145 : (σ80 55 12).toInt = (σ 55 12).toInt := (congrArg Int32.toInt (show σ80 55 12 = (σ 55 12) from ((f83 12 (by decide)).trans (congrFun (f57 55 (by decide)) 12))))
              have z146 : (σ80 16 2).toInt = (σ 16 2).toInt := (congrArg Int32.toInt (show σ80 16 2 = (σ 16 2) from ((congrFun (f82 16 (by decide)) 2).trans (congrFun (f57 16 (by decide)) 2))))
              have z147 : (σ80 55 13).toInt = (σ 55 13).toInt := (congrArg Int32.toInt (show σ80 55 13 = (σ 55 13) from ((f83 13 (by decide)).trans (congrFun (f57 55 (by decide)) 13))))
              have z148 : (σ80 38 0).toInt = (σ 38 0).toInt := (congrArg Int32.toInt (show σ80 38 0 = (σ 38 0) from ((congrFun (f82 38 (by decide)) 0).trans (congrFun (f57 38 (by decide)) 0))))
              have z149 : (σ80 55 32).toInt = (σ 55 32).toInt := (congrArg Int32.toInt (show σ80 55 32 = (σ 55 32) from ((f83 32 (by decide)).trans (congrFun (f57 55 (by decide)) 32))))
              have z150 : (σ80 38 1).toInt = (σ 38 1).toInt := (congrArg Int32.toInt (show σ80 38 1 = (σ 38 1) from ((congrFun (f82 38 (by decide)) 1).trans (congrFun (f57 38 (by decide)) 1))))
              have z151 : (σ80 55 55).toInt = (σ 55 55).toInt := (congrArg Int32.toInt (show σ80 55 55 = (σ 55 55) from ((f83 55 (by decide)).trans (congrFun (f57 55 (by decide)) 55))))
              have z152 : (σ80 47 0).toInt = (σ 47 0).toInt := (congrArg Int32.toInt (show σ80 47 0 = (σ 47 0) from ((congrFun (f82 47 (by decide)) 0).trans (congrFun (f57 47 (by decide)) 0))))
              have z153 : (σ80 55 47).toInt = (σ 55 47).toInt := (congrArg Int32.toInt (show σ80 55 47 = (σ 55 47) from ((f83 47 (by decide)).trans (congrFun (f57 55 (by decide)) 47))))
              have z154 : (σ80 55 30).toInt = (σ 55 30).toInt := (congrArg Int32.toInt (show σ80 55 30 = (σ 55 30) from ((f83 30 (by decide)).trans (congrFun (f57 55 (by decide)) 30))))
              have z155 : (σ80 55 31).toInt = (σ 55 31).toInt := (congrArg Int32.toInt (show σ80 55 31 = (σ 55 31) from ((f83 31 (by decide)).trans (congrFun (f57 55 (by decide)) 31))))
              have z156 : (σ80 2 1).toInt = (σ 2 1).toInt := (congrArg Int32.toInt (show σ80 2 1 = (σ 2 1) from ((congrFun (f82 2 (by decide)) 1).trans (f58 1 (by decide)))))
              have z157 : (σ80 55 9).toInt = (σ 55 9).toInt := (congrArg Int32.toInt (show σ80 55 9 = (σ 55 9) from ((f83 9 (by decide)).trans (congrFun (f57 55 (by decide)) 9))))
              have z158 : (σ80 55 42).toInt = (σ 55 42).toInt := (congrArg Int32.toInt (show σ80 55 42 = (σ 55 42) from ((f83 42 (by decide)).trans (congrFun (f57 55 (by decide)) 42))))
              have z159 : (σ80 26 6).toInt = (σ 26 6).toInt := (congrArg Int32.toInt (show σ80 26 6 = (σ 26 6) from ((congrFun (f82 26 (by decide)) 6).trans (congrFun (f57 26 (by decide)) 6))))
              have z161 : (σ80 18 0).toInt = (σ 18 0).toInt := (congrArg Int32.toInt (show σ80 18 0 = (σ 18 0) from ((congrFun (f82 18 (by decide)) 0).trans (congrFun (f57 18 (by decide)) 0))))
              have z162 : (σ80 22 0).toInt = (σ 22 0).toInt := (congrArg Int32.toInt (show σ80 22 0 = (σ 22 0) from ((congrFun (f82 22 (by decide)) 0).trans (congrFun (f57 22 (by decide)) 0))))
              exact by exact ih x101 σ80 τ _ _ ls (by have h9 := tx101; omega) ⟨I102, I103, I104, I105, I106, I107, I108, I109, I110, I111, I112, I113, I114, I84, I115, I116, I117, I118, I119, I120, I121, I122, I123, I124, p125, p126, p127, p128, p129, p130, p131, p132, p133, p134, p135, (by rw [z136, z137]; exact ht0), (by omega), (by omega), (by rw [z140, z141]; exact ht3), (by rw [z142, z143]; exact ht4), (by rw [z144, z145]; exact ht5), (by rw [z146, z147]; exact ht6), (by rw [z148, z149]; exact ht7), (by rw [z150, z151]; exact ht8), (by rw [z152, z153]; exact ht9), (by rw [z154]; exact ht10), (by rw [z155]; exact ht11), (by rw [z156, z157]; exact ht12), (by rw [z158]; exact ht13), (by have h9 := tx101; omega), (by have h9 := tx101; omega), (show jNumP (σ80 3) (σ80 56) (σ80 6) (σ80 57) (σ80 7) (σ80 58) (σ80 8) (σ80 59) (σ80 55 6).toInt (σ80 55 4).toInt by rw [show σ80 3 = σ 3 from ((f82 3 (by decide)).trans k75.1), show σ80 56 = σ 56 from (k98.1.trans (f57 56 (by decide))), show σ80 6 = σ 6 from ((f82 6 (by decide)).trans k75.2.1), show σ80 57 = σ 57 from (k98.2.1.trans (f57 57 (by decide))), show σ80 7 = σ 7 from ((f82 7 (by decide)).trans k75.2.2.1), show σ80 58 = σ 58 from (k98.2.2.1.trans (f57 58 (by decide))), show σ80 8 = σ 8 from ((f82 8 (by decide)).trans k75.2.2.2), show σ80 59 = σ 59 from (k98.2.2.2.trans (f57 59 (by decide))), show (σ80 55 6).toInt = (σ 55 6).toInt from z137, show (σ80 55 4).toInt = (σ 55 4).toInt from by omega]; exact hr0), (show jOvP (σ80 56) (σ80 57) (σ80 58) (σ80 59) (σ80 55 4).toInt by rw [show σ80 56 = σ 56 from (k98.1.trans (f57 56 (by decide))), show σ80 57 = σ 57 from (k98.2.1.trans (f57 57 (by decide))), show σ80 58 = σ 58 from (k98.2.2.1.trans (f57 58 (by decide))), show σ80 59 = σ 59 from (k98.2.2.2.trans (f57 59 (by decide))), show (σ80 55 4).toInt = (σ 55 4).toInt from by omega]; exact hr1), (show jTp (σ80 10) (σ80 63) (σ80 55 15).toInt by rw [show σ80 10 = σ 10 from ((f82 10 (by decide)).trans (f57 10 (by decide))), show σ80 63 = σ 63 from ((f82 63 (by decide)).trans (f57 63 (by decide)))]; exact hr2.le (by omega)), (show jSo (σ80 17) (σ80 62) (σ80 16 0).toInt by rw [show σ80 17 = σ 17 from ((f82 17 (by decide)).trans (f57 17 (by decide))), show σ80 62 = σ 62 from ((f82 62 (by decide)).trans (f57 62 (by decide))), show (σ80 16 0).toInt = (σ 16 0).toInt from z142]; exact hr3), (show jShP (σ80 51) (σ80 52) (σ80 53) (σ80 86) (σ80 87) (σ80 55 32).toInt by rw [show σ80 51 = σ 51 from ((f82 51 (by decide)).trans (f57 51 (by decide))), show σ80 52 = σ 52 from ((f82 52 (by decide)).trans (f57 52 (by decide))), show σ80 53 = σ 53 from ((f82 53 (by decide)).trans (f57 53 (by decide))), show σ80 86 = σ 86 from ((f82 86 (by decide)).trans (f57 86 (by decide))), show σ80 87 = σ 87 from ((f82 87 (by decide)).trans (f57 87 (by decide)))]; exact (hr4.up (by omega) (by omega))), (show jEl (σ80 51) (σ80 52) (τ 54) (τ 88) by rw [show σ80 51 = σ 51 from ((f82 51 (by decide)).trans (f57 51 (by decide))), show σ80 52 = σ 52 from ((f82 52 (by decide)).trans (f57 52 (by decide)))]; exact hr5), (show jByP (σ80 51) (σ80 52) (τ 54) by rw [show σ80 51 = σ 51 from ((f82 51 (by decide)).trans (f57 51 (by decide))), show σ80 52 = σ 52 from ((f82 52 (by decide)).trans (f57 52 (by decide)))]; exact hr6), (show jBk (σ80 48) (σ80 80) (σ80 49) (σ80 81) (σ80 55 47).toInt by rw [show σ80 48 = σ 48 from ((f82 48 (by decide)).trans (f57 48 (by decide))), show σ80 49 = σ 49 from ((f82 49 (by decide)).trans (f57 49 (by decide))), show σ80 80 = σ 80 from ((f82 80 (by decide)).trans (f57 80 (by decide))), show σ80 81 = σ 81 from ((f82 81 (by decide)).trans (f57 81 (by decide))), show (σ80 55 47).toInt = (σ 55 47).toInt from z153]; exact hr7), (show jKd (σ80 39) (σ80 70) (σ80 55 32).toInt by rw [show σ80 39 = σ 39 from ((f82 39 (by decide)).trans (f57 39 (by decide))), show σ80 70 = σ 70 from ((f82 70 (by decide)).trans (f57 70 (by decide))), show (σ80 55 32).toInt = (σ 55 32).toInt from z149]; exact hr8), (show jTt (σ80 42) (σ80 85) (σ80 55 55).toInt by rw [show σ80 42 = σ 42 from ((f82 42 (by decide)).trans (f57 42 (by decide))), show σ80 85 = σ 85 from ((f82 85 (by decide)).trans (f57 85 (by decide))), show (σ80 55 55).toInt = (σ 55 55).toInt from z151]; exact hr9), (fun k hk => by rw [show σ80 4 = σ 4 from ((f82 4 (by decide)).trans (f57 4 (by decide))), show σ80 5 = σ 5 from ((f82 5 (by decide)).trans (f57 5 (by decide))), show σ80 60 = σ 60 from ((f82 60 (by decide)).trans (f57 60 (by decide))), show σ80 61 = σ 61 from ((f82 61 (by decide)).trans (f57 61 (by decide)))]; exact hr10 k (by omega)), (fun nm => by rw [show σ80 19 = σ 19 from ((f82 19 (by decide)).trans (f57 19 (by decide))), show σ80 64 = σ 64 from ((f82 64 (by decide)).trans (f57 64 (by decide))), show σ80 65 = σ 65 from ((f82 65 (by decide)).trans (f57 65 (by decide))), show (σ80 18 0).toInt = (σ 18 0).toInt from z161]; exact hr11 nm), (fun nm => by rw [show σ80 23 = σ 23 from ((f82 23 (by decide)).trans (f57 23 (by decide))), show σ80 64 = σ 64 from ((f82 64 (by decide)).trans (f57 64 (by decide))), show σ80 65 = σ 65 from ((f82 65 (by decide)).trans (f57 65 (by decide))), show (σ80 22 0).toInt = (σ 22 0).toInt from z162]; exact hr12 nm), (show jAlP (σ80 56) (σ80 57) (σ80 58) (σ80 59) (σ80 55 4).toInt by rw [show σ80 56 = σ 56 from (k98.1.trans (f57 56 (by decide))), show σ80 57 = σ 57 from (k98.2.1.trans (f57 57 (by decide))), show σ80 58 = σ 58 from (k98.2.2.1.trans (f57 58 (by decide))), show σ80 59 = σ 59 from (k98.2.2.2.trans (f57 59 (by decide))), show (σ80 55 4).toInt = (σ 55 4).toInt from by omega]; exact hr13), (show jqbN (σ80 80) (σ80 55 47).toInt by rw [show σ80 80 = σ 80 from ((f82 80 (by decide)).trans (f57 80 (by decide))), show (σ80 55 47).toInt = (σ 55 47).toInt from z153]; exact hr14)⟩ hP hS (lv_sub hl [0, 1, 2, 3] rfl)
          · obtain ⟨q164, k163⟩ := h94
            have z165 : (σ55 55 6).toInt = (σ 55 6).toInt := (congrArg Int32.toInt (show σ55 55 6 = (σ 55 6) from (congrFun (f57 55 (by decide)) 6)))
            rw [show (σ55 55 6).toInt = (σ 2 0).toInt from by omega] at k163
            exact absurd k163.1 k74
     · obtain ⟨q167, k166⟩ := h71
       refine lv_pop hx hb dL_law_301 rfl ?_
       refine lv_aload_n hx hb dL_law_302 rfl (lv_at hl 1 rfl) ?_
       refine lv_aload_n hx hb dL_law_303 rfl (lv_at hl 3 rfl) ?_
       refine lv_iload_n hx hb dL_law_304 rfl (lv_at hl 0 rfl) ?_
       refine lv_iconst (v := 1) hx hb dL_law_305 (by decide) ?_
       refine lv_iadd hx hb dL_law_306 ?_
       refine jtopr ex49.symm ?_
       exact by
        refine va_sld hx hb hX hbl hbA hS (jin tx49 (by omega) (by omega)) dL_law_307 ?_
        refine lv_aload_n hx hb dL_law_308 rfl (lv_at hl 3 rfl) ?_
        refine lv_iload_n hx hb dL_law_309 rfl (lv_at hl 0 rfl) ?_
        refine lv_iconst (v := 2) hx hb dL_law_310 (by decide) ?_
        refine lv_iadd hx hb dL_law_311 ?_
        refine jtopr ex51.symm ?_
        refine va_sld hx hb hX hbl hbA hS (jin tx51 (by omega) (by omega)) dL_law_312 ?_
        refine lv_aload_n hx hb dL_law_313 rfl (lv_at hl 3 rfl) ?_
        refine lv_iload_n hx hb dL_law_314 rfl (lv_at hl 0 rfl) ?_
        exact by
         refine lv_iconst (v := 3) hx hb dL_law_315 (by decide) ?_
         refine lv_iadd hx hb dL_law_316 ?_
         refine jtopr ex53.symm ?_
         refine va_sld hx hb hX hbl hbA hS (jin tx53 (by omega) (by omega)) dL_law_317 ?_
         have I168 : jI101 σ55 := jI101_fr (congrFun (f57 55 (by decide)) 4) (congrFun (f57 55 (by decide)) 5) (f57 56 (by decide)) (f57 57 (by decide)) (f57 58 (by decide)) (f57 59 (by decide)) hI101
         have z169 : (σ55 55 5).toInt = (σ 55 5).toInt := (congrArg Int32.toInt (show σ55 55 5 = (σ 55 5) from (congrFun (f57 55 (by decide)) 5)))
         have z170 : (σ55 55 4).toInt = (σ 55 4).toInt := (congrArg Int32.toInt (show σ55 55 4 = (σ 55 4) from (congrFun (f57 55 (by decide)) 4)))
         refine jcallV (As := [.int (xs x49.toNatClampNeg), .int (xs x51.toNatClampNeg), .int (xs x53.toNatClampNeg)]) (rest := []) ⟨hx, hb, hml, hown, hts⟩ hK hP hA hS hZ (c_X12_field l D cI cL ad zz hJ σ55 τ (xs x49.toNatClampNeg) ((xs x49.toNatClampNeg).toInt) rfl (xs x51.toNatClampNeg) ((xs x51.toNatClampNeg).toInt) rfl (xs x53.toNatClampNeg) ((xs x53.toNatClampNeg).toInt) rfl I168) cw_RL_25 (jc_55 cI cL ad σ55 τ) rfl ⟨Nat.le_of_ble_eq_true rfl, Nat.le_of_ble_eq_true rfl⟩ rfl rfl rfl hl.1 rfl (Nat.le_of_ble_eq_true rfl) dL_law_318 ⟨Nat.le_of_ble_eq_true rfl, Nat.le_of_ble_eq_true rfl⟩ (fun r172 σ171 τ171 H locs h171 hP hS => ?_)
         obtain ⟨rfl, f173, f174, I175, h171⟩ := h171
         exact by
          obtain ⟨i177, i178, i179, w180, w181, w182, w183⟩ : (0 ≤ (σ171 55 5).toInt) ∧ ((σ171 55 5).toInt ≤ (σ171 55 4).toInt) ∧ ((σ171 55 4).toInt ≤ 40) ∧ (∀ k : Nat, k < 68 → (-200) ≤ (σ171 56 k).toInt ∧ (σ171 56 k).toInt ≤ 500) ∧ (∀ k : Nat, k < 40 → 0 ≤ (σ171 57 k).toInt ∧ (σ171 57 k).toInt ≤ 67) ∧ (∀ k : Nat, k < 40 → (-200) ≤ (σ171 58 k).toInt ∧ (σ171 58 k).toInt ≤ 500) ∧ (∀ k : Nat, k < 40 → (-200) ≤ (σ171 59 k).toInt ∧ (σ171 59 k).toInt ≤ 500) := id I175
          rcases h171 with h184 | h185
          · obtain ⟨q190, k186, k187, k188, k189⟩ := h184
            have q190 := q190.symm
            subst q190
            have z191 : (σ55 55 6).toInt = (σ 55 6).toInt := (congrArg Int32.toInt (show σ55 55 6 = (σ 55 6) from (congrFun (f57 55 (by decide)) 6)))
            rw [show (σ55 55 6).toInt = (σ 2 0).toInt from by omega] at k188
            exact absurd k166.1 k188
          · obtain ⟨q193, k192⟩ := h185
            have z194 : (σ55 55 6).toInt = (σ 55 6).toInt := (congrArg Int32.toInt (show σ55 55 6 = (σ 55 6) from (congrFun (f57 55 (by decide)) 6)))
            rw [show (σ55 55 6).toInt = (σ 2 0).toInt from by omega] at k192
            obtain ⟨e195, q196, l197, c198⟩ := k166
            obtain ⟨-, q199, l200, c201⟩ := k192
            exact by
             have p202 := jField_pl (by omega) e195 l197 l200
             rw [show σ55 56 = σ 56 from (f57 56 (by decide)), show σ55 57 = σ 57 from (f57 57 (by decide)), show σ55 58 = σ 58 from (f57 58 (by decide)), show σ55 59 = σ 59 from (f57 59 (by decide)), show (σ55 55 4).toInt = (σ 55 4).toInt from by omega] at c201
             have r206 := hr0.res p202.1 (by have h9 := p202.2.1; omega) c198 c201 p202.2.2
             have k205 := hr0.chg p202.1 (by have h9 := p202.2.1; omega) c198 c201 p202.2.2 (by omega) (by omega) (by omega)
             have k203 := k205.2.1
             have k204 := k205.2.2
             have o207 : 32 ≤ q199 → q199 ≤ 35 → 0 ≤ (xs x53.toNatClampNeg).toInt ∧ (xs x53.toNatClampNeg).toInt ≤ 8 := fun x y => by
               have e := e195
               have l := l200
               unfold jFok at e; unfold jFpl at l; omega
             exact by
              refine lv_pop hx hb dL_law_321 rfl ?_
              refine lv_goto (tgt := 1357) hx hb dL_law_322 (by decide) ?_
              obtain ⟨x208, ex208⟩ : ∃ y : Int32, y = x0 + 6 := ⟨_, rfl⟩
              have tx208 : x208.toInt = x0.toInt + 6 := (jadd ex208 rfl jz_6 (by omega) (by omega)).trans (by omega)
              refine lv_iinc (v := x208) (lv' := [(3, .int x208), (2, .ref (ad 55)), (1, .ref (ad 0)), (0, .ref b)]) hx hb dL_law_1357 hl (k := 0) rfl (by rw [ex208]; rfl) (by decide) rfl (fun ls hl => ?_)
              refine lv_goto (tgt := 18) hx hb dL_law_1360 (by decide) ?_
              have I209 : jI2 σ171 := jI2_fr (congrFun (f173 2 (by decide)) 0) (congrFun (f173 2 (by decide)) 1) (congrFun (f173 2 (by decide)) 2) (congrFun (f173 2 (by decide)) 3) (f173 6 (by decide)) (f173 5 (by decide)) I59
              have I210 : jI9 σ171 := jI9_fr ((congrFun (f173 9 (by decide)) 0).trans (congrFun (f57 9 (by decide)) 0)) ((f173 10 (by decide)).trans (f57 10 (by decide))) ((f173 11 (by decide)).trans (f57 11 (by decide))) hI9
              have I211 : jI12 σ171 := jI12_fr ((congrFun (f173 12 (by decide)) 0).trans (congrFun (f57 12 (by decide)) 0)) ((f173 13 (by decide)).trans (f57 13 (by decide))) hI12
              exact by
               have I212 : jI16 σ171 := jI16_fr ((congrFun (f173 16 (by decide)) 0).trans (congrFun (f57 16 (by decide)) 0)) ((congrFun (f173 16 (by decide)) 1).trans (congrFun (f57 16 (by decide)) 1)) ((congrFun (f173 16 (by decide)) 2).trans (congrFun (f57 16 (by decide)) 2)) ((f173 17 (by decide)).trans (f57 17 (by decide))) hI16
               have I213 : jI18 σ171 := jI18_fr ((congrFun (f173 18 (by decide)) 0).trans (congrFun (f57 18 (by decide)) 0)) ((f173 19 (by decide)).trans (f57 19 (by decide))) hI18
               have I214 : jI22 σ171 := jI22_fr ((congrFun (f173 22 (by decide)) 0).trans (congrFun (f57 22 (by decide)) 0)) ((f173 23 (by decide)).trans (f57 23 (by decide))) hI22
               have I215 : jI31 σ171 := jI31_fr ((congrFun (f173 31 (by decide)) 8).trans (congrFun (f57 31 (by decide)) 8)) ((congrFun (f173 31 (by decide)) 10).trans (congrFun (f57 31 (by decide)) 10)) ((congrFun (f173 31 (by decide)) 11).trans (congrFun (f57 31 (by decide)) 11)) ((f173 33 (by decide)).trans (f57 33 (by decide))) ((f173 35 (by decide)).trans (f57 35 (by decide))) ((f173 36 (by decide)).trans (f57 36 (by decide))) hI31
               have I216 : jI38 σ171 := jI38_fr ((congrFun (f173 38 (by decide)) 0).trans (congrFun (f57 38 (by decide)) 0)) ((congrFun (f173 38 (by decide)) 1).trans (congrFun (f57 38 (by decide)) 1)) ((f173 39 (by decide)).trans (f57 39 (by decide))) hI38
               have I217 : jI43 σ171 := jI43_fr ((congrFun (f173 43 (by decide)) 8).trans (congrFun (f57 43 (by decide)) 8)) hI43
               have I218 : jI47 σ171 := jI47_fr ((congrFun (f173 47 (by decide)) 0).trans (congrFun (f57 47 (by decide)) 0)) ((f173 48 (by decide)).trans (f57 48 (by decide))) ((f173 49 (by decide)).trans (f57 49 (by decide))) hI47
               have I219 : jI50 σ171 := jI50_fr ((f173 52 (by decide)).trans (f57 52 (by decide))) hI50
               have I220 : jI0 σ171 := jI0_fr ((f173 1 (by decide)).trans (f57 1 (by decide))) hI0
               have I221 : jI26 σ171 := jI26_fr ((congrFun (f173 26 (by decide)) 6).trans (congrFun (f57 26 (by decide)) 6)) hI26
               have I222 : jI102 σ171 := jI102_fr ((f174 6 (by decide)).trans (congrFun (f57 55 (by decide)) 6)) ((f173 60 (by decide)).trans (f57 60 (by decide))) ((f173 61 (by decide)).trans (f57 61 (by decide))) hI102
               have I223 : jI103 σ171 := jI103_fr ((f174 9 (by decide)).trans (congrFun (f57 55 (by decide)) 9)) hI103
               have I224 : jI104 σ171 := jI104_fr ((f174 10 (by decide)).trans (congrFun (f57 55 (by decide)) 10)) ((f174 12 (by decide)).trans (congrFun (f57 55 (by decide)) 12)) ((f174 13 (by decide)).trans (congrFun (f57 55 (by decide)) 13)) ((f173 62 (by decide)).trans (f57 62 (by decide))) ((f173 67 (by decide)).trans (f57 67 (by decide))) hI104
               have I225 : jI105 σ171 := jI105_fr ((f174 15 (by decide)).trans (congrFun (f57 55 (by decide)) 15)) ((f173 65 (by decide)).trans (f57 65 (by decide))) hI105
               have I226 : jI106 σ171 := jI106_fr ((f174 32 (by decide)).trans (congrFun (f57 55 (by decide)) 32)) ((f173 70 (by decide)).trans (f57 70 (by decide))) ((f173 71 (by decide)).trans (f57 71 (by decide))) ((f173 72 (by decide)).trans (f57 72 (by decide))) hI106
               have I227 : jI107 σ171 := jI107_fr ((f174 12 (by decide)).trans (congrFun (f57 55 (by decide)) 12)) ((f174 47 (by decide)).trans (congrFun (f57 55 (by decide)) 47)) ((f173 80 (by decide)).trans (f57 80 (by decide))) hI107
               have I228 : jI109 σ171 := jI109_fr ((f174 50 (by decide)).trans (congrFun (f57 55 (by decide)) 50)) hI109
               have I229 : jI110 σ171 := jI110_fr ((f173 86 (by decide)).trans (f57 86 (by decide))) ((f173 87 (by decide)).trans (f57 87 (by decide))) hI110
               have I230 : jI111 σ171 := jI111_fr ((f173 79 (by decide)).trans (f57 79 (by decide))) hI111
               have I231 : jI119 σ171 := jI119_fr ((f173 68 (by decide)).trans (f57 68 (by decide))) hI119
               have p232 : jKept σ171 := jKept.fr ((f173 75 (by decide)).trans (f57 75 (by decide))) ((f173 76 (by decide)).trans (f57 76 (by decide))) ((f173 77 (by decide)).trans (f57 77 (by decide))) hs_jKept
               have p233 : jBook σ171 := jBook.fr ((f174 47 (by decide)).trans (congrFun (f57 55 (by decide)) 47)) ((f174 10 (by decide)).trans (congrFun (f57 55 (by decide)) 10)) ((f173 81 (by decide)).trans (f57 81 (by decide))) hs_jBook
               have p234 : jNd12 σ171 := jNd12.fr ((congrFun (f173 12 (by decide)) 0).trans (congrFun (f57 12 (by decide)) 0)) ((congrFun (f173 12 (by decide)) 1).trans (congrFun (f57 12 (by decide)) 1)) ((f173 13 (by decide)).trans (f57 13 (by decide))) hs_jNd12
               have p235 : jN67 σ171 := jN67.fr ((f173 24 (by decide)).trans (f57 24 (by decide))) hs_jN67
               have p236 : jBl σ171 := jBl.fr ((congrFun (f173 22 (by decide)) 0).trans (congrFun (f57 22 (by decide)) 0)) ((congrFun (f173 22 (by decide)) 1).trans (congrFun (f57 22 (by decide)) 1)) ((f173 23 (by decide)).trans (f57 23 (by decide))) ((congrFun (f173 26 (by decide)) 6).trans (congrFun (f57 26 (by decide)) 6)) ((congrFun (f173 26 (by decide)) 7).trans (congrFun (f57 26 (by decide)) 7)) ((f173 29 (by decide)).trans (f57 29 (by decide))) ((f173 30 (by decide)).trans (f57 30 (by decide))) hs_jBl
               have p237 : jKb σ171 := jKb.fr ((congrFun (f173 31 (by decide)) 8).trans (congrFun (f57 31 (by decide)) 8)) ((congrFun (f173 31 (by decide)) 11).trans (congrFun (f57 31 (by decide)) 11)) ((f173 32 (by decide)).trans (f57 32 (by decide))) hs_jKb
               have p238 : jTR σ171 := jTR.fr ((f173 64 (by decide)).trans (f57 64 (by decide))) ((f173 65 (by decide)).trans (f57 65 (by decide))) hs_jTR
               have p239 : jKh σ171 := jKh.fr ((congrFun (f173 31 (by decide)) 8).trans (congrFun (f57 31 (by decide)) 8)) ((f173 32 (by decide)).trans (f57 32 (by decide))) ((f173 36 (by decide)).trans (f57 36 (by decide))) ((f173 37 (by decide)).trans (f57 37 (by decide))) hs_jKh
               have p240 : jKg σ171 := jKg.fr ((congrFun (f173 31 (by decide)) 8).trans (congrFun (f57 31 (by decide)) 8)) ((congrFun (f173 31 (by decide)) 9).trans (congrFun (f57 31 (by decide)) 9)) ((congrFun (f173 31 (by decide)) 11).trans (congrFun (f57 31 (by decide)) 11)) ((congrFun (f173 31 (by decide)) 12).trans (congrFun (f57 31 (by decide)) 12)) ((f173 32 (by decide)).trans (f57 32 (by decide))) ((f173 33 (by decide)).trans (f57 33 (by decide))) hs_jKg
               have p241 : jNz σ171 := jNz.fr ((f173 34 (by decide)).trans (f57 34 (by decide))) hs_jNz
               have p242 : jqSt σ171 := jqSt.fr ((f173 78 (by decide)).trans (f57 78 (by decide))) ((f174 42 (by decide)).trans (congrFun (f57 55 (by decide)) 42)) hs_jqSt
               have z243 : (σ171 2 0).toInt = (σ 2 0).toInt := (congrArg Int32.toInt (show σ171 2 0 = (σ 2 0) from ((congrFun (f173 2 (by decide)) 0).trans (f58 0 (by decide)))))
               have z244 : (σ171 55 6).toInt = (σ 55 6).toInt := (congrArg Int32.toInt (show σ171 55 6 = (σ 55 6) from ((f174 6 (by decide)).trans (congrFun (f57 55 (by decide)) 6))))
               have z245 : (σ171 2 2).toInt = (σ55 2 2).toInt := (congrArg Int32.toInt (show σ171 2 2 = (σ55 2 2) from (congrFun (f173 2 (by decide)) 2)))
               have z246 : (σ171 2 3).toInt = (σ55 2 3).toInt := (congrArg Int32.toInt (show σ171 2 3 = (σ55 2 3) from (congrFun (f173 2 (by decide)) 3)))
               have z247 : (σ171 9 0).toInt = (σ 9 0).toInt := (congrArg Int32.toInt (show σ171 9 0 = (σ 9 0) from ((congrFun (f173 9 (by decide)) 0).trans (congrFun (f57 9 (by decide)) 0))))
               have z248 : (σ171 55 15).toInt = (σ 55 15).toInt := (congrArg Int32.toInt (show σ171 55 15 = (σ 55 15) from ((f174 15 (by decide)).trans (congrFun (f57 55 (by decide)) 15))))
               have z249 : (σ171 16 0).toInt = (σ 16 0).toInt := (congrArg Int32.toInt (show σ171 16 0 = (σ 16 0) from ((congrFun (f173 16 (by decide)) 0).trans (congrFun (f57 16 (by decide)) 0))))
               have z250 : (σ171 55 10).toInt = (σ 55 10).toInt := (congrArg Int32.toInt (show σ171 55 10 = (σ 55 10) from ((f174 10 (by decide)).trans (congrFun (f57 55 (by decide)) 10))))
               have z251 : (σ171 16 1).toInt = (σ 16 1).toInt := (congrArg Int32.toInt (show σ171 16 1 = (σ 16 1) from ((congrFun (f173 16 (by decide)) 1).trans (congrFun (f57 16 (by decide)) 1))))
               have z252 : (σ171 55 12).toInt = (σ 55 12).toInt := (congrArg Int32.toInt (show σ171 55 12 = (σ 55 12) from ((f174 12 (by decide)).trans (congrFun (f57 55 (by decide)) 12))))
               have z253 : (σ171 16 2).toInt = (σ 16 2).toInt := (congrArg Int32.toInt (show σ171 16 2 = (σ 16 2) from ((congrFun (f173 16 (by decide)) 2).trans (congrFun (f57 16 (by decide)) 2))))
               have z254 : (σ171 55 13).toInt = (σ 55 13).toInt := (congrArg Int32.toInt (show σ171 55 13 = (σ 55 13) from ((f174 13 (by decide)).trans (congrFun (f57 55 (by decide)) 13))))
               have z255 : (σ171 38 0).toInt = (σ 38 0).toInt := (congrArg Int32.toInt (show σ171 38 0 = (σ 38 0) from ((congrFun (f173 38 (by decide)) 0).trans (congrFun (f57 38 (by decide)) 0))))
               have z256 : (σ171 55 32).toInt = (σ 55 32).toInt := (congrArg Int32.toInt (show σ171 55 32 = (σ 55 32) from ((f174 32 (by decide)).trans (congrFun (f57 55 (by decide)) 32))))
               have z257 : (σ171 38 1).toInt = (σ 38 1).toInt := (congrArg Int32.toInt (show σ171 38 1 = (σ 38 1) from ((congrFun (f173 38 (by decide)) 1).trans (congrFun (f57 38 (by decide)) 1))))
               have z258 : (σ171 55 55).toInt = (σ 55 55).toInt := (congrArg Int32.toInt (show σ171 55 55 = (σ 55 55) from ((f174 55 (by decide)).trans (congrFun (f57 55 (by decide)) 55))))
               have z259 : (σ171 47 0).toInt = (σ 47 0).toInt := (congrArg Int32.toInt (show σ171 47 0 = (σ 47 0) from ((congrFun (f173 47 (by decide)) 0).trans (congrFun (f57 47 (by decide)) 0))))
               have z260 : (σ171 55 47).toInt = (σ 55 47).toInt := (congrArg Int32.toInt (show σ171 55 47 = (σ 55 47) from ((f174 47 (by decide)).trans (congrFun (f57 55 (by decide)) 47))))
               have z261 : (σ171 55 30).toInt = (σ 55 30).toInt := (congrArg Int32.toInt (show σ171 55 30 = (σ 55 30) from ((f174 30 (by decide)).trans (congrFun (f57 55 (by decide)) 30))))
               have z262 : (σ171 55 31).toInt = (σ 55 31).toInt := (congrArg Int32.toInt (show σ171 55 31 = (σ 55 31) from ((f174 31 (by decide)).trans (congrFun (f57 55 (by decide)) 31))))
               have z263 : (σ171 2 1).toInt = (σ 2 1).toInt := (congrArg Int32.toInt (show σ171 2 1 = (σ 2 1) from ((congrFun (f173 2 (by decide)) 1).trans (f58 1 (by decide)))))
               have z264 : (σ171 55 9).toInt = (σ 55 9).toInt := (congrArg Int32.toInt (show σ171 55 9 = (σ 55 9) from ((f174 9 (by decide)).trans (congrFun (f57 55 (by decide)) 9))))
               have z265 : (σ171 55 42).toInt = (σ 55 42).toInt := (congrArg Int32.toInt (show σ171 55 42 = (σ 55 42) from ((f174 42 (by decide)).trans (congrFun (f57 55 (by decide)) 42))))
               have z266 : (σ171 26 6).toInt = (σ 26 6).toInt := (congrArg Int32.toInt (show σ171 26 6 = (σ 26 6) from ((congrFun (f173 26 (by decide)) 6).trans (congrFun (f57 26 (by decide)) 6))))
               have z268 : (σ171 18 0).toInt = (σ 18 0).toInt := (congrArg Int32.toInt (show σ171 18 0 = (σ 18 0) from ((congrFun (f173 18 (by decide)) 0).trans (congrFun (f57 18 (by decide)) 0))))
               have z269 : (σ171 22 0).toInt = (σ 22 0).toInt := (congrArg Int32.toInt (show σ171 22 0 = (σ 22 0) from ((congrFun (f173 22 (by decide)) 0).trans (congrFun (f57 22 (by decide)) 0))))
               exact by exact ih x208 σ171 τ _ _ ls (by have h9 := tx208; omega) ⟨I209, I210, I211, I212, I213, I214, I215, I216, I217, I218, I219, I220, I221, I175, I222, I223, I224, I225, I226, I227, I228, I229, I230, I231, p232, p233, p234, p235, p236, p237, p238, p239, p240, p241, p242, (by rw [z243, z244]; exact ht0), (by omega), (by omega), (by rw [z247, z248]; exact ht3), (by rw [z249, z250]; exact ht4), (by rw [z251, z252]; exact ht5), (by rw [z253, z254]; exact ht6), (by rw [z255, z256]; exact ht7), (by rw [z257, z258]; exact ht8), (by rw [z259, z260]; exact ht9), (by rw [z261]; exact ht10), (by rw [z262]; exact ht11), (by rw [z263, z264]; exact ht12), (by rw [z265]; exact ht13), (by have h9 := tx208; omega), (by have h9 := tx208; omega), (show jNumP (σ171 3) (σ171 56) (σ171 6) (σ171 57) (σ171 7) (σ171 58) (σ171 8) (σ171 59) (σ171 55 6).toInt (σ171 55 4).toInt by rw [show σ171 3 = σ55 3 from (f173 3 (by decide)), show σ171 6 = σ55 6 from (f173 6 (by decide)), show σ171 7 = σ55 7 from (f173 7 (by decide)), show σ171 8 = σ55 8 from (f173 8 (by decide)), show (σ171 55 6).toInt = (σ 55 6).toInt from z244]; exact k205.1), (hr1.chg c201 (by have h8 := p202.1; have h9 := p202.2.2; omega) (by omega) o207), (show jTp (σ171 10) (σ171 63) (σ171 55 15).toInt by rw [show σ171 10 = σ 10 from ((f173 10 (by decide)).trans (f57 10 (by decide))), show σ171 63 = σ 63 from ((f173 63 (by decide)).trans (f57 63 (by decide)))]; exact hr2.le (by omega)), (show jSo (σ171 17) (σ171 62) (σ171 16 0).toInt by rw [show σ171 17 = σ 17 from ((f173 17 (by decide)).trans (f57 17 (by decide))), show σ171 62 = σ 62 from ((f173 62 (by decide)).trans (f57 62 (by decide))), show (σ171 16 0).toInt = (σ 16 0).toInt from z249]; exact hr3), (show jShP (σ171 51) (σ171 52) (σ171 53) (σ171 86) (σ171 87) (σ171 55 32).toInt by rw [show σ171 51 = σ 51 from ((f173 51 (by decide)).trans (f57 51 (by decide))), show σ171 52 = σ 52 from ((f173 52 (by decide)).trans (f57 52 (by decide))), show σ171 53 = σ 53 from ((f173 53 (by decide)).trans (f57 53 (by decide))), show σ171 86 = σ 86 from ((f173 86 (by decide)).trans (f57 86 (by decide))), show σ171 87 = σ 87 from ((f173 87 (by decide)).trans (f57 87 (by decide)))]; exact (hr4.up (by omega) (by omega))), (show jEl (σ171 51) (σ171 52) (τ 54) (τ 88) by rw [show σ171 51 = σ 51 from ((f173 51 (by decide)).trans (f57 51 (by decide))), show σ171 52 = σ 52 from ((f173 52 (by decide)).trans (f57 52 (by decide)))]; exact hr5), (show jByP (σ171 51) (σ171 52) (τ 54) by rw [show σ171 51 = σ 51 from ((f173 51 (by decide)).trans (f57 51 (by decide))), show σ171 52 = σ 52 from ((f173 52 (by decide)).trans (f57 52 (by decide)))]; exact hr6), (show jBk (σ171 48) (σ171 80) (σ171 49) (σ171 81) (σ171 55 47).toInt by rw [show σ171 48 = σ 48 from ((f173 48 (by decide)).trans (f57 48 (by decide))), show σ171 49 = σ 49 from ((f173 49 (by decide)).trans (f57 49 (by decide))), show σ171 80 = σ 80 from ((f173 80 (by decide)).trans (f57 80 (by decide))), show σ171 81 = σ 81 from ((f173 81 (by decide)).trans (f57 81 (by decide))), show (σ171 55 47).toInt = (σ 55 47).toInt from z260]; exact hr7), (show jKd (σ171 39) (σ171 70) (σ171 55 32).toInt by rw [show σ171 39 = σ 39 from ((f173 39 (by decide)).trans (f57 39 (by decide))), show σ171 70 = σ 70 from ((f173 70 (by decide)).trans (f57 70 (by decide))), show (σ171 55 32).toInt = (σ 55 32).toInt from z256]; exact hr8), (show jTt (σ171 42) (σ171 85) (σ171 55 55).toInt by rw [show σ171 42 = σ 42 from ((f173 42 (by decide)).trans (f57 42 (by decide))), show σ171 85 = σ 85 from ((f173 85 (by decide)).trans (f57 85 (by decide))), show (σ171 55 55).toInt = (σ 55 55).toInt from z258]; exact hr9), (fun k hk => by rw [show σ171 4 = σ 4 from ((f173 4 (by decide)).trans (f57 4 (by decide))), show σ171 5 = σ 5 from ((f173 5 (by decide)).trans (f57 5 (by decide))), show σ171 60 = σ 60 from ((f173 60 (by decide)).trans (f57 60 (by decide))), show σ171 61 = σ 61 from ((f173 61 (by decide)).trans (f57 61 (by decide)))]; exact hr10 k (by omega)), (fun nm => by rw [show σ171 19 = σ 19 from ((f173 19 (by decide)).trans (f57 19 (by decide))), show σ171 64 = σ 64 from ((f173 64 (by decide)).trans (f57 64 (by decide))), show σ171 65 = σ 65 from ((f173 65 (by decide)).trans (f57 65 (by decide))), show (σ171 18 0).toInt = (σ 18 0).toInt from z268]; exact hr11 nm), (fun nm => by rw [show σ171 23 = σ 23 from ((f173 23 (by decide)).trans (f57 23 (by decide))), show σ171 64 = σ 64 from ((f173 64 (by decide)).trans (f57 64 (by decide))), show σ171 65 = σ 65 from ((f173 65 (by decide)).trans (f57 65 (by decide))), show (σ171 22 0).toInt = (σ 22 0).toInt from z269]; exact hr12 nm), (hr13.chg c201 (by have h8 := p202.1; have h9 := p202.2.2; omega) (by omega) (fun x => by have e := e195; have l := l200; unfold jFok at e; unfold jFpl at l; unfold jPl at x; unfold jR9; omega)), (show jqbN (σ171 80) (σ171 55 47).toInt by rw [show σ171 80 = σ 80 from ((f173 80 (by decide)).trans (f57 80 (by decide))), show (σ171 55 47).toInt = (σ 55 47).toInt from z260]; exact hr14)⟩ hP hS (lv_sub hl [0, 1, 2, 3] rfl)
set_option maxHeartbeats 4000000 in
set_option maxRecDepth 100000 in
theorem law_case_3 {p : Program} {e : Env} {s : State} {m : MethodId} {below : List Frame} {meth : Method} {c : Code} (l : Launch) {b L : Nat} {xs : Nat → Int32} {D : va_G} {cI cL : ClassId} {ad zz : Nat → Nat} (C0 : lw_At p s m meth c b L xs) (hJ : jD ad) (hA : ∀ q, jA ad q → s.heap.size ≤ q) (hK : jK D cI cL s) (hZ : jZ zz (fun q : Nat => s.heap.size ≤ q) s s.heap) {x0 : Int32} (hx0 : 0 ≤ x0.toInt) (hxL : x0.toInt + 6 ≤ (L : Int)) (hL : L ≤ 384) {σ : Nat → Nat → Int32} {τ : Nat → Nat → Int64} {H : Heap} {locs : List Loc} (hS : va_S (fun q : Nat => s.heap.size ≤ q) s.heap H locs) {ls : Array Slot} (hAll : jAll x0.toInt σ τ) (hP : jH D cI cL ad σ τ H) (hl : lv_has ls 4 [(3, .int x0), (2, .ref (ad 55)), (1, .ref (ad 0)), (0, .ref b)]) (ih : ∀ (x1 : Int32) (σ : Nat → Nat → Int32) (τ : Nat → Nat → Int64) (H : Heap) (locs : List Loc) (ls : Array Slot), x1.toInt = x0.toInt + 6 → jAll x1.toInt σ τ → jH D cI cL ad σ τ H → va_S (fun q : Nat => s.heap.size ≤ q) s.heap H locs → lv_has ls 4 [(3, .int x1), (2, .ref (ad 55)), (1, .ref (ad 0)), (0, .ref b)] → W p l e room_1 s m #[Value.ref b] below meth c H locs 90 348600 (lw_Z below #[Value.ref b] s) (F0 m 18 ls [])) : W p l e room_1 s m #[Value.ref b] below meth c H locs 90 348600 (lw_Z below #[Value.ref b] s) (F0 m 325 ls []) := by
  obtain ⟨hx, hb, hr, hml, hown, hts0, hX, hbl, hlocks, hgv⟩ := C0
  have hts : ∀ w ∈ wsL_law, w.before #[Value.ref b] s = true := fun w h => hts0 w (wsL_law_in w h)
  have hbA : ¬ (fun q : Nat => s.heap.size ≤ q) b := Nat.not_le.mpr hbl
  have hown : s.vm.findClass RL = some m.cls := hown
  obtain ⟨hI2, hI9, hI12, hI16, hI18, hI22, hI31, hI38, hI43, hI47, hI50, hI0, hI26, hI101, hI102, hI103, hI104, hI105, hI106, hI107, hI109, hI110, hI111, hI119, hs_jKept, hs_jBook, hs_jNd12, hs_jN67, hs_jBl, hs_jKb, hs_jTR, hs_jKh, hs_jKg, hs_jNz, hs_jqSt, ht0, ht1, ht2, ht3, ht4, ht5, ht6, ht7, ht8, ht9, ht10, ht11, ht12, ht13, ht14, ht15, hr0, hr1, hr2, hr3, hr4, hr5, hr6, hr7, hr8, hr9, hr10, hr11, hr12, hr13, hr14⟩ := hAll
  have hL9 : (L : Int) ≤ 384 := by omega
  obtain ⟨i1, i2, i3, i4, i5, w6, w7⟩ : (0 ≤ (σ 2 0).toInt ∧ (σ 2 0).toInt ≤ 4) ∧ (0 ≤ (σ 2 1).toInt ∧ (σ 2 1).toInt ≤ 3) ∧ (0 ≤ (σ 2 2).toInt) ∧ (0 ≤ (σ 2 3).toInt) ∧ ((σ 2 2).toInt + (σ 2 3).toInt ≤ 40) ∧ (∀ k : Nat, k < 40 → 0 ≤ (σ 6 k).toInt ∧ (σ 6 k).toInt ≤ 67) ∧ (∀ k : Nat, k < 4 → 0 ≤ (σ 5 k).toInt ∧ (σ 5 k).toInt ≤ 20) := id hI2
  obtain ⟨i8, w9, w10⟩ : (0 ≤ (σ 9 0).toInt ∧ (σ 9 0).toInt ≤ 80) ∧ (∀ k : Nat, k < 80 → 0 ≤ (σ 10 k).toInt ∧ (σ 10 k).toInt ≤ 255) ∧ (∀ k : Nat, k < 8 → 0 ≤ (σ 11 k).toInt ∧ (σ 11 k).toInt ≤ 3) := id hI9
  obtain ⟨i11, i12, i13, w14⟩ : (1 ≤ (σ 16 0).toInt ∧ (σ 16 0).toInt ≤ 8) ∧ (1 ≤ (σ 16 1).toInt ∧ (σ 16 1).toInt ≤ 12) ∧ (0 ≤ (σ 16 2).toInt ∧ (σ 16 2).toInt ≤ 999) ∧ (∀ k : Nat, k < 8 → 0 ≤ (σ 17 k).toInt ∧ (σ 17 k).toInt ≤ 3) := id hI16
  obtain ⟨i15, i16, w17⟩ : (0 ≤ (σ 38 0).toInt ∧ (σ 38 0).toInt ≤ 20) ∧ (0 ≤ (σ 38 1).toInt ∧ (σ 38 1).toInt ≤ 1000) ∧ (∀ k : Nat, k < 20 → 0 ≤ (σ 39 k).toInt ∧ (σ 39 k).toInt ≤ 6) := id hI38
  obtain ⟨i18, w19, w20⟩ : (0 ≤ (σ 47 0).toInt ∧ (σ 47 0).toInt ≤ 12) ∧ (∀ k : Nat, k < 12 → 0 ≤ (σ 48 k).toInt ∧ (σ 48 k).toInt ≤ 3) ∧ (∀ k : Nat, k < 12 → 0 ≤ (σ 49 k).toInt ∧ (σ 49 k).toInt ≤ 1) := id hI47
  have w21 : ∀ k : Nat, k < 6 → 0 ≤ (σ 52 k).toInt ∧ (σ 52 k).toInt ≤ 60 := hI50
  have i22 : 1 ≤ (σ 26 6).toInt ∧ (σ 26 6).toInt ≤ 8000 := hI26
  obtain ⟨i23, i24, i25, w26, w27, w28, w29⟩ : (0 ≤ (σ 55 5).toInt) ∧ ((σ 55 5).toInt ≤ (σ 55 4).toInt) ∧ ((σ 55 4).toInt ≤ 40) ∧ (∀ k : Nat, k < 68 → (-200) ≤ (σ 56 k).toInt ∧ (σ 56 k).toInt ≤ 500) ∧ (∀ k : Nat, k < 40 → 0 ≤ (σ 57 k).toInt ∧ (σ 57 k).toInt ≤ 67) ∧ (∀ k : Nat, k < 40 → (-200) ≤ (σ 58 k).toInt ∧ (σ 58 k).toInt ≤ 500) ∧ (∀ k : Nat, k < 40 → (-200) ≤ (σ 59 k).toInt ∧ (σ 59 k).toInt ≤ 500) := id hI101
  obtain ⟨i30, w31, w32⟩ : (0 ≤ (σ 55 6).toInt ∧ (σ 55 6).toInt ≤ 4) ∧ (∀ k : Nat, k < 4 → 0 ≤ (σ 60 k).toInt ∧ (σ 60 k).toInt ≤ 50) ∧ (∀ k : Nat, k < 4 → 0 ≤ (σ 61 k).toInt ∧ (σ 61 k).toInt ≤ 20) := id hI102
  have i33 : 0 ≤ (σ 55 9).toInt ∧ (σ 55 9).toInt ≤ 3 := hI103
  obtain ⟨i34, i35, i36, w37, w38⟩ : (1 ≤ (σ 55 10).toInt ∧ (σ 55 10).toInt ≤ 8) ∧ (1 ≤ (σ 55 12).toInt ∧ (σ 55 12).toInt ≤ 12) ∧ (0 ≤ (σ 55 13).toInt ∧ (σ 55 13).toInt ≤ 999) ∧ (∀ k : Nat, k < 8 → 0 ≤ (σ 62 k).toInt ∧ (σ 62 k).toInt ≤ 3) ∧ (∀ k : Nat, k < 8 → 0 ≤ (σ 67 k).toInt ∧ (σ 67 k).toInt ≤ 3) := id hI104
  obtain ⟨i39, w40⟩ : (0 ≤ (σ 55 15).toInt ∧ (σ 55 15).toInt ≤ 80) ∧ (∀ k : Nat, k < 2 → (-1) ≤ (σ 65 k).toInt ∧ (σ 65 k).toInt ≤ 80) := id hI105
  obtain ⟨i41, w42, w43, w44⟩ : (0 ≤ (σ 55 32).toInt ∧ (σ 55 32).toInt ≤ 20) ∧ (∀ k : Nat, k < 20 → 0 ≤ (σ 70 k).toInt ∧ (σ 70 k).toInt ≤ 6) ∧ (∀ k : Nat, k < 20 → 0 ≤ (σ 71 k).toInt ∧ (σ 71 k).toInt ≤ 8) ∧ (∀ k : Nat, k < 160 → 0 ≤ (σ 72 k).toInt ∧ (σ 72 k).toInt ≤ 3) := id hI106
  obtain ⟨i45, i46, w47⟩ : (0 ≤ (σ 55 47).toInt ∧ (σ 55 47).toInt ≤ 12) ∧ ((σ 55 47).toInt ≤ (σ 55 12).toInt) ∧ (∀ k : Nat, k < 12 → 0 ≤ (σ 80 k).toInt ∧ (σ 80 k).toInt ≤ 3) := id hI107
  have hs_jOk3 : jOk3 σ := hr0.ok hr1.1
  refine lv_aload_n hx hb dL_law_325 rfl (lv_at hl 2 rfl) ?_
  refine lv_aload_n hx hb dL_law_326 rfl (lv_at hl 3 rfl) ?_
  refine lv_iload_n hx hb dL_law_327 rfl (lv_at hl 0 rfl) ?_
  refine lv_iconst (v := 1) hx hb dL_law_328 (by decide) ?_
  have g48 := jrg (rfl : x0.toInt = x0.toInt)
  refine lv_iadd hx hb dL_law_329 ?_
  refine lv_topi (fun x49 ex49 => ?_)
  exact by
   have tx49 : x49.toInt = x0.toInt + 1 := (jadd ex49 rfl jz_1 (by omega) (by omega)).trans (by omega)
   refine va_sld hx hb hX hbl hbA hS (jin tx49 (by omega) (by omega)) dL_law_330 ?_
   have g50 := jrg (rfl : (xs x49.toNatClampNeg).toInt = (xs x49.toNatClampNeg).toInt)
   refine jcallV (As := [.int (xs x49.toNatClampNeg)]) (rest := []) ⟨hx, hb, hml, hown, hts⟩ hK hP hA hS hZ (c_X11_set l D cI cL ad zz hJ σ τ (xs x49.toNatClampNeg) ((xs x49.toNatClampNeg).toInt) rfl hI2) cw_RL_26 (jc_0 cI cL ad σ τ) rfl ⟨Nat.le_of_ble_eq_true rfl, Nat.le_of_ble_eq_true rfl⟩ rfl rfl rfl hl.1 rfl (Nat.le_of_ble_eq_true rfl) dL_law_331 ⟨Nat.le_of_ble_eq_true rfl, Nat.le_of_ble_eq_true rfl⟩ (fun r52 σ51 τ51 H locs h51 hP hS => ?_)
   obtain ⟨rfl, f53, f54, I55, h51⟩ := h51
   obtain ⟨i57, i58, i59, i60, i61, w62, w63⟩ : (0 ≤ (σ51 2 0).toInt ∧ (σ51 2 0).toInt ≤ 4) ∧ (0 ≤ (σ51 2 1).toInt ∧ (σ51 2 1).toInt ≤ 3) ∧ (0 ≤ (σ51 2 2).toInt) ∧ (0 ≤ (σ51 2 3).toInt) ∧ ((σ51 2 2).toInt + (σ51 2 3).toInt ≤ 40) ∧ (∀ k : Nat, k < 40 → 0 ≤ (σ51 6 k).toInt ∧ (σ51 6 k).toInt ≤ 67) ∧ (∀ k : Nat, k < 4 → 0 ≤ (σ51 5 k).toInt ∧ (σ51 5 k).toInt ≤ 20) := id I55
   have z64 : (σ51 2 0).toInt = (σ 2 0).toInt := (congrArg Int32.toInt (show σ51 2 0 = (σ 2 0) from (f54 0 (by decide))))
   have z65 : (σ51 2 2).toInt = (σ 2 2).toInt := (congrArg Int32.toInt (show σ51 2 2 = (σ 2 2) from (f54 2 (by decide))))
   have z66 : (σ51 2 3).toInt = (σ 2 3).toInt := (congrArg Int32.toInt (show σ51 2 3 = (σ 2 3) from (f54 3 (by decide))))
   exact by
    rcases h51 with h67 | h68
    · obtain ⟨q72, k69, k70, k71⟩ := h67
      refine lv_pop hx hb dL_law_334 rfl ?_
      refine lv_aload_n hx hb dL_law_335 rfl (lv_at hl 1 rfl) ?_
      refine lv_aload_n hx hb dL_law_336 rfl (lv_at hl 3 rfl) ?_
      refine lv_iload_n hx hb dL_law_337 rfl (lv_at hl 0 rfl) ?_
      refine lv_iconst (v := 1) hx hb dL_law_338 (by decide) ?_
      refine lv_iadd hx hb dL_law_339 ?_
      refine jtopr ex49.symm ?_
      exact by
       refine va_sld hx hb hX hbl hbA hS (jin tx49 (by omega) (by omega)) dL_law_340 ?_
       have I73 : jI103 σ51 := jI103_fr (congrFun (f53 55 (by decide)) 9) hI103
       have z74 : (σ51 55 9).toInt = (σ 55 9).toInt := (congrArg Int32.toInt (show σ51 55 9 = (σ 55 9) from (congrFun (f53 55 (by decide)) 9)))
       refine jcallV (As := [.int (xs x49.toNatClampNeg)]) (rest := []) ⟨hx, hb, hml, hown, hts⟩ hK hP hA hS hZ (c_X12_set l D cI cL ad zz hJ σ51 τ (xs x49.toNatClampNeg) ((xs x49.toNatClampNeg).toInt) rfl I73) cw_RL_30 (jc_55 cI cL ad σ51 τ) rfl ⟨Nat.le_of_ble_eq_true rfl, Nat.le_of_ble_eq_true rfl⟩ rfl rfl rfl hl.1 rfl (Nat.le_of_ble_eq_true rfl) dL_law_341 ⟨Nat.le_of_ble_eq_true rfl, Nat.le_of_ble_eq_true rfl⟩ (fun r76 σ75 τ75 H locs h75 hP hS => ?_)
       obtain ⟨rfl, f77, f78, I79, h75⟩ := h75
       have i81 : 0 ≤ (σ75 55 9).toInt ∧ (σ75 55 9).toInt ≤ 3 := I79
       rcases h75 with h82 | h83
       · obtain ⟨q87, k84, k85, k86⟩ := h82
         refine lv_pop hx hb dL_law_344 rfl ?_
         refine lv_goto (tgt := 1357) hx hb dL_law_345 (by decide) ?_
         obtain ⟨x88, ex88⟩ : ∃ y : Int32, y = x0 + 6 := ⟨_, rfl⟩
         exact by
          have tx88 : x88.toInt = x0.toInt + 6 := (jadd ex88 rfl jz_6 (by omega) (by omega)).trans (by omega)
          refine lv_iinc (v := x88) (lv' := [(3, .int x88), (2, .ref (ad 55)), (1, .ref (ad 0)), (0, .ref b)]) hx hb dL_law_1357 hl (k := 0) rfl (by rw [ex88]; rfl) (by decide) rfl (fun ls hl => ?_)
          refine lv_goto (tgt := 18) hx hb dL_law_1360 (by decide) ?_
          have I89 : jI2 σ75 := jI2_fr (congrFun (f77 2 (by decide)) 0) (congrFun (f77 2 (by decide)) 1) (congrFun (f77 2 (by decide)) 2) (congrFun (f77 2 (by decide)) 3) (f77 6 (by decide)) (f77 5 (by decide)) I55
          have I90 : jI9 σ75 := jI9_fr ((congrFun (f77 9 (by decide)) 0).trans (congrFun (f53 9 (by decide)) 0)) ((f77 10 (by decide)).trans (f53 10 (by decide))) ((f77 11 (by decide)).trans (f53 11 (by decide))) hI9
          have I91 : jI12 σ75 := jI12_fr ((congrFun (f77 12 (by decide)) 0).trans (congrFun (f53 12 (by decide)) 0)) ((f77 13 (by decide)).trans (f53 13 (by decide))) hI12
          have I92 : jI16 σ75 := jI16_fr ((congrFun (f77 16 (by decide)) 0).trans (congrFun (f53 16 (by decide)) 0)) ((congrFun (f77 16 (by decide)) 1).trans (congrFun (f53 16 (by decide)) 1)) ((congrFun (f77 16 (by decide)) 2).trans (congrFun (f53 16 (by decide)) 2)) ((f77 17 (by decide)).trans (f53 17 (by decide))) hI16
          have I93 : jI18 σ75 := jI18_fr ((congrFun (f77 18 (by decide)) 0).trans (congrFun (f53 18 (by decide)) 0)) ((f77 19 (by decide)).trans (f53 19 (by decide))) hI18
          have I94 : jI22 σ75 := jI22_fr ((congrFun (f77 22 (by decide)) 0).trans (congrFun (f53 22 (by decide)) 0)) ((f77 23 (by decide)).trans (f53 23 (by decide))) hI22
          exact by
           have I95 : jI31 σ75 := jI31_fr ((congrFun (f77 31 (by decide)) 8).trans (congrFun (f53 31 (by decide)) 8)) ((congrFun (f77 31 (by decide)) 10).trans (congrFun (f53 31 (by decide)) 10)) ((congrFun (f77 31 (by decide)) 11).trans (congrFun (f53 31 (by decide)) 11)) ((f77 33 (by decide)).trans (f53 33 (by decide))) ((f77 35 (by decide)).trans (f53 35 (by decide))) ((f77 36 (by decide)).trans (f53 36 (by decide))) hI31
           have I96 : jI38 σ75 := jI38_fr ((congrFun (f77 38 (by decide)) 0).trans (congrFun (f53 38 (by decide)) 0)) ((congrFun (f77 38 (by decide)) 1).trans (congrFun (f53 38 (by decide)) 1)) ((f77 39 (by decide)).trans (f53 39 (by decide))) hI38
           have I97 : jI43 σ75 := jI43_fr ((congrFun (f77 43 (by decide)) 8).trans (congrFun (f53 43 (by decide)) 8)) hI43
           have I98 : jI47 σ75 := jI47_fr ((congrFun (f77 47 (by decide)) 0).trans (congrFun (f53 47 (by decide)) 0)) ((f77 48 (by decide)).trans (f53 48 (by decide))) ((f77 49 (by decide)).trans (f53 49 (by decide))) hI47
           have I99 : jI50 σ75 := jI50_fr ((f77 52 (by decide)).trans (f53 52 (by decide))) hI50
           have I100 : jI0 σ75 := jI0_fr ((f77 1 (by decide)).trans (f53 1 (by decide))) hI0
           have I101 : jI26 σ75 := jI26_fr ((congrFun (f77 26 (by decide)) 6).trans (congrFun (f53 26 (by decide)) 6)) hI26
           have I102 : jI101 σ75 := jI101_fr ((f78 4 (by decide)).trans (congrFun (f53 55 (by decide)) 4)) ((f78 5 (by decide)).trans (congrFun (f53 55 (by decide)) 5)) ((f77 56 (by decide)).trans (f53 56 (by decide))) ((f77 57 (by decide)).trans (f53 57 (by decide))) ((f77 58 (by decide)).trans (f53 58 (by decide))) ((f77 59 (by decide)).trans (f53 59 (by decide))) hI101
           have I103 : jI102 σ75 := jI102_fr ((f78 6 (by decide)).trans (congrFun (f53 55 (by decide)) 6)) ((f77 60 (by decide)).trans (f53 60 (by decide))) ((f77 61 (by decide)).trans (f53 61 (by decide))) hI102
           have I104 : jI104 σ75 := jI104_fr ((f78 10 (by decide)).trans (congrFun (f53 55 (by decide)) 10)) ((f78 12 (by decide)).trans (congrFun (f53 55 (by decide)) 12)) ((f78 13 (by decide)).trans (congrFun (f53 55 (by decide)) 13)) ((f77 62 (by decide)).trans (f53 62 (by decide))) ((f77 67 (by decide)).trans (f53 67 (by decide))) hI104
           have I105 : jI105 σ75 := jI105_fr ((f78 15 (by decide)).trans (congrFun (f53 55 (by decide)) 15)) ((f77 65 (by decide)).trans (f53 65 (by decide))) hI105
           have I106 : jI106 σ75 := jI106_fr ((f78 32 (by decide)).trans (congrFun (f53 55 (by decide)) 32)) ((f77 70 (by decide)).trans (f53 70 (by decide))) ((f77 71 (by decide)).trans (f53 71 (by decide))) ((f77 72 (by decide)).trans (f53 72 (by decide))) hI106
           have I107 : jI107 σ75 := jI107_fr ((f78 12 (by decide)).trans (congrFun (f53 55 (by decide)) 12)) ((f78 47 (by decide)).trans (congrFun (f53 55 (by decide)) 47)) ((f77 80 (by decide)).trans (f53 80 (by decide))) hI107
           have I108 : jI109 σ75 := jI109_fr ((f78 50 (by decide)).trans (congrFun (f53 55 (by decide)) 50)) hI109
           have I109 : jI110 σ75 := jI110_fr ((f77 86 (by decide)).trans (f53 86 (by decide))) ((f77 87 (by decide)).trans (f53 87 (by decide))) hI110
           have I110 : jI111 σ75 := jI111_fr ((f77 79 (by decide)).trans (f53 79 (by decide))) hI111
           have I111 : jI119 σ75 := jI119_fr ((f77 68 (by decide)).trans (f53 68 (by decide))) hI119
           have p112 : jKept σ75 := jKept.fr ((f77 75 (by decide)).trans (f53 75 (by decide))) ((f77 76 (by decide)).trans (f53 76 (by decide))) ((f77 77 (by decide)).trans (f53 77 (by decide))) hs_jKept
           have p113 : jBook σ75 := jBook.fr ((f78 47 (by decide)).trans (congrFun (f53 55 (by decide)) 47)) ((f78 10 (by decide)).trans (congrFun (f53 55 (by decide)) 10)) ((f77 81 (by decide)).trans (f53 81 (by decide))) hs_jBook
           have p114 : jNd12 σ75 := jNd12.fr ((congrFun (f77 12 (by decide)) 0).trans (congrFun (f53 12 (by decide)) 0)) ((congrFun (f77 12 (by decide)) 1).trans (congrFun (f53 12 (by decide)) 1)) ((f77 13 (by decide)).trans (f53 13 (by decide))) hs_jNd12
           have p115 : jN67 σ75 := jN67.fr ((f77 24 (by decide)).trans (f53 24 (by decide))) hs_jN67
           have p116 : jBl σ75 := jBl.fr ((congrFun (f77 22 (by decide)) 0).trans (congrFun (f53 22 (by decide)) 0)) ((congrFun (f77 22 (by decide)) 1).trans (congrFun (f53 22 (by decide)) 1)) ((f77 23 (by decide)).trans (f53 23 (by decide))) ((congrFun (f77 26 (by decide)) 6).trans (congrFun (f53 26 (by decide)) 6)) ((congrFun (f77 26 (by decide)) 7).trans (congrFun (f53 26 (by decide)) 7)) ((f77 29 (by decide)).trans (f53 29 (by decide))) ((f77 30 (by decide)).trans (f53 30 (by decide))) hs_jBl
           have p117 : jKb σ75 := jKb.fr ((congrFun (f77 31 (by decide)) 8).trans (congrFun (f53 31 (by decide)) 8)) ((congrFun (f77 31 (by decide)) 11).trans (congrFun (f53 31 (by decide)) 11)) ((f77 32 (by decide)).trans (f53 32 (by decide))) hs_jKb
           have p118 : jTR σ75 := jTR.fr ((f77 64 (by decide)).trans (f53 64 (by decide))) ((f77 65 (by decide)).trans (f53 65 (by decide))) hs_jTR
           have p119 : jKh σ75 := jKh.fr ((congrFun (f77 31 (by decide)) 8).trans (congrFun (f53 31 (by decide)) 8)) ((f77 32 (by decide)).trans (f53 32 (by decide))) ((f77 36 (by decide)).trans (f53 36 (by decide))) ((f77 37 (by decide)).trans (f53 37 (by decide))) hs_jKh
           have p120 : jKg σ75 := jKg.fr ((congrFun (f77 31 (by decide)) 8).trans (congrFun (f53 31 (by decide)) 8)) ((congrFun (f77 31 (by decide)) 9).trans (congrFun (f53 31 (by decide)) 9)) ((congrFun (f77 31 (by decide)) 11).trans (congrFun (f53 31 (by decide)) 11)) ((congrFun (f77 31 (by decide)) 12).trans (congrFun (f53 31 (by decide)) 12)) ((f77 32 (by decide)).trans (f53 32 (by decide))) ((f77 33 (by decide)).trans (f53 33 (by decide))) hs_jKg
           have p121 : jNz σ75 := jNz.fr ((f77 34 (by decide)).trans (f53 34 (by decide))) hs_jNz
           have p122 : jqSt σ75 := jqSt.fr ((f77 78 (by decide)).trans (f53 78 (by decide))) ((f78 42 (by decide)).trans (congrFun (f53 55 (by decide)) 42)) hs_jqSt
           have z123 : (σ75 2 0).toInt = (σ 2 0).toInt := (congrArg Int32.toInt (show σ75 2 0 = (σ 2 0) from ((congrFun (f77 2 (by decide)) 0).trans (f54 0 (by decide)))))
           have z124 : (σ75 55 6).toInt = (σ 55 6).toInt := (congrArg Int32.toInt (show σ75 55 6 = (σ 55 6) from ((f78 6 (by decide)).trans (congrFun (f53 55 (by decide)) 6))))
           have z125 : (σ75 2 2).toInt = (σ 2 2).toInt := (congrArg Int32.toInt (show σ75 2 2 = (σ 2 2) from ((congrFun (f77 2 (by decide)) 2).trans (f54 2 (by decide)))))
           have z126 : (σ75 55 5).toInt = (σ 55 5).toInt := (congrArg Int32.toInt (show σ75 55 5 = (σ 55 5) from ((f78 5 (by decide)).trans (congrFun (f53 55 (by decide)) 5))))
           have z127 : (σ75 2 3).toInt = (σ 2 3).toInt := (congrArg Int32.toInt (show σ75 2 3 = (σ 2 3) from ((congrFun (f77 2 (by decide)) 3).trans (f54 3 (by decide)))))
           have z128 : (σ75 55 4).toInt = (σ 55 4).toInt := (congrArg Int32.toInt (show σ75 55 4 = (σ 55 4) from ((f78 4 (by decide)).trans (congrFun (f53 55 (by decide)) 4))))
           have z129 : (σ75 9 0).toInt = (σ 9 0).toInt := (congrArg Int32.toInt (show σ75 9 0 = (σ 9 0) from ((congrFun (f77 9 (by decide)) 0).trans (congrFun (f53 9 (by decide)) 0))))
           have z130 : (σ75 55 15).toInt = (σ 55 15).toInt := (congrArg Int32.toInt (show σ75 55 15 = (σ 55 15) from ((f78 15 (by decide)).trans (congrFun (f53 55 (by decide)) 15))))
           have z131 : (σ75 16 0).toInt = (σ 16 0).toInt := (congrArg Int32.toInt (show σ75 16 0 = (σ 16 0) from ((congrFun (f77 16 (by decide)) 0).trans (congrFun (f53 16 (by decide)) 0))))
           have z132 : (σ75 55 10).toInt = (σ 55 10).toInt := (congrArg Int32.toInt (show σ75 55 10 = (σ 55 10) from ((f78 10 (by decide)).trans (congrFun (f53 55 (by decide)) 10))))
           have z133 : (σ75 16 1).toInt = (σ 16 1).toInt := (congrArg Int32.toInt (show σ75 16 1 = (σ 16 1) from ((congrFun (f77 16 (by decide)) 1).trans (congrFun (f53 16 (by decide)) 1))))
           have z134 : (σ75 55 12).toInt = (σ 55 12).toInt := (congrArg Int32.toInt (show σ75 55 12 = (σ 55 12) from ((f78 12 (by decide)).trans (congrFun (f53 55 (by decide)) 12))))
           have z135 : (σ75 16 2).toInt = (σ 16 2).toInt := (congrArg Int32.toInt (show σ75 16 2 = (σ 16 2) from ((congrFun (f77 16 (by decide)) 2).trans (congrFun (f53 16 (by decide)) 2))))
           have z136 : (σ75 55 13).toInt = (σ 55 13).toInt := (congrArg Int32.toInt (show σ75 55 13 = (σ 55 13) from ((f78 13 (by decide)).trans (congrFun (f53 55 (by decide)) 13))))
           have z137 : (σ75 38 0).toInt = (σ 38 0).toInt := (congrArg Int32.toInt (show σ75 38 0 = (σ 38 0) from ((congrFun (f77 38 (by decide)) 0).trans (congrFun (f53 38 (by decide)) 0))))
           have z138 : (σ75 55 32).toInt = (σ 55 32).toInt := (congrArg Int32.toInt (show σ75 55 32 = (σ 55 32) from ((f78 32 (by decide)).trans (congrFun (f53 55 (by decide)) 32))))
           have z139 : (σ75 38 1).toInt = (σ 38 1).toInt := (congrArg Int32.toInt (show σ75 38 1 = (σ 38 1) from ((congrFun (f77 38 (by decide)) 1).trans (congrFun (f53 38 (by decide)) 1))))
           have z140 : (σ75 55 55).toInt = (σ 55 55).toInt := (congrArg Int32.toInt (show σ75 55 55 = (σ 55 55) from ((f78 55 (by decide)).trans (congrFun (f53 55 (by decide)) 55))))
           have z141 : (σ75 47 0).toInt = (σ 47 0).toInt := (congrArg Int32.toInt (show σ75 47 0 = (σ 47 0) from ((congrFun (f77 47 (by decide)) 0).trans (congrFun (f53 47 (by decide)) 0))))
           have z142 : (σ75 55 47).toInt = (σ 55 47).toInt := (congrArg Int32.toInt (show σ75 55 47 = (σ 55 47) from ((f78 47 (by decide)).trans (congrFun (f53 55 (by decide)) 47))))
           have z143 : (σ75 55 30).toInt = (σ 55 30).toInt := (congrArg Int32.toInt (show σ75 55 30 = (σ 55 30) from ((f78 30 (by decide)).trans (congrFun (f53 55 (by decide)) 30))))
           have z144 : (σ75 55 31).toInt = (σ 55 31).toInt := (congrArg Int32.toInt (show σ75 55 31 = (σ 55 31) from ((f78 31 (by decide)).trans (congrFun (f53 55 (by decide)) 31))))
           have z145 : (σ75 2 1).toInt = (σ51 2 1).toInt := (congrArg Int32.toInt (show σ75 2 1 = (σ51 2 1) from (congrFun (f77 2 (by decide)) 1)))
           have z146 : (σ75 55 42).toInt = (σ 55 42).toInt := (congrArg Int32.toInt (show σ75 55 42 = (σ 55 42) from ((f78 42 (by decide)).trans (congrFun (f53 55 (by decide)) 42))))
           have z147 : (σ75 26 6).toInt = (σ 26 6).toInt := (congrArg Int32.toInt (show σ75 26 6 = (σ 26 6) from ((congrFun (f77 26 (by decide)) 6).trans (congrFun (f53 26 (by decide)) 6))))
           have z149 : (σ75 18 0).toInt = (σ 18 0).toInt := (congrArg Int32.toInt (show σ75 18 0 = (σ 18 0) from ((congrFun (f77 18 (by decide)) 0).trans (congrFun (f53 18 (by decide)) 0))))
           have z150 : (σ75 22 0).toInt = (σ 22 0).toInt := (congrArg Int32.toInt (show σ75 22 0 = (σ 22 0) from ((congrFun (f77 22 (by decide)) 0).trans (congrFun (f53 22 (by decide)) 0))))
           exact by exact ih x88 σ75 τ _ _ ls (by have h9 := tx88; omega) ⟨I89, I90, I91, I92, I93, I94, I95, I96, I97, I98, I99, I100, I101, I102, I103, I79, I104, I105, I106, I107, I108, I109, I110, I111, p112, p113, p114, p115, p116, p117, p118, p119, p120, p121, p122, (by rw [z123, z124]; exact ht0), (by rw [z125, z126]; exact ht1), (by rw [z125, z127, z128]; exact ht2), (by rw [z129, z130]; exact ht3), (by rw [z131, z132]; exact ht4), (by rw [z133, z134]; exact ht5), (by rw [z135, z136]; exact ht6), (by rw [z137, z138]; exact ht7), (by rw [z139, z140]; exact ht8), (by rw [z141, z142]; exact ht9), (by rw [z143]; exact ht10), (by rw [z144]; exact ht11), (by omega), (by rw [z146]; exact ht13), (by have h9 := tx88; omega), (by have h9 := tx88; omega), (show jNumP (σ75 3) (σ75 56) (σ75 6) (σ75 57) (σ75 7) (σ75 58) (σ75 8) (σ75 59) (σ75 55 6).toInt (σ75 55 4).toInt by rw [show σ75 3 = σ 3 from ((f77 3 (by decide)).trans (f53 3 (by decide))), show σ75 56 = σ 56 from ((f77 56 (by decide)).trans (f53 56 (by decide))), show σ75 6 = σ 6 from ((f77 6 (by decide)).trans (f53 6 (by decide))), show σ75 57 = σ 57 from ((f77 57 (by decide)).trans (f53 57 (by decide))), show σ75 7 = σ 7 from ((f77 7 (by decide)).trans (f53 7 (by decide))), show σ75 58 = σ 58 from ((f77 58 (by decide)).trans (f53 58 (by decide))), show σ75 8 = σ 8 from ((f77 8 (by decide)).trans (f53 8 (by decide))), show σ75 59 = σ 59 from ((f77 59 (by decide)).trans (f53 59 (by decide))), show (σ75 55 6).toInt = (σ 55 6).toInt from z124, show (σ75 55 4).toInt = (σ 55 4).toInt from z128]; exact hr0), (show jOvP (σ75 56) (σ75 57) (σ75 58) (σ75 59) (σ75 55 4).toInt by rw [show σ75 56 = σ 56 from ((f77 56 (by decide)).trans (f53 56 (by decide))), show σ75 57 = σ 57 from ((f77 57 (by decide)).trans (f53 57 (by decide))), show σ75 58 = σ 58 from ((f77 58 (by decide)).trans (f53 58 (by decide))), show σ75 59 = σ 59 from ((f77 59 (by decide)).trans (f53 59 (by decide))), show (σ75 55 4).toInt = (σ 55 4).toInt from z128]; exact hr1), (show jTp (σ75 10) (σ75 63) (σ75 55 15).toInt by rw [show σ75 10 = σ 10 from ((f77 10 (by decide)).trans (f53 10 (by decide))), show σ75 63 = σ 63 from ((f77 63 (by decide)).trans (f53 63 (by decide)))]; exact hr2.le (by omega)), (show jSo (σ75 17) (σ75 62) (σ75 16 0).toInt by rw [show σ75 17 = σ 17 from ((f77 17 (by decide)).trans (f53 17 (by decide))), show σ75 62 = σ 62 from ((f77 62 (by decide)).trans (f53 62 (by decide))), show (σ75 16 0).toInt = (σ 16 0).toInt from z131]; exact hr3), (show jShP (σ75 51) (σ75 52) (σ75 53) (σ75 86) (σ75 87) (σ75 55 32).toInt by rw [show σ75 51 = σ 51 from ((f77 51 (by decide)).trans (f53 51 (by decide))), show σ75 52 = σ 52 from ((f77 52 (by decide)).trans (f53 52 (by decide))), show σ75 53 = σ 53 from ((f77 53 (by decide)).trans (f53 53 (by decide))), show σ75 86 = σ 86 from ((f77 86 (by decide)).trans (f53 86 (by decide))), show σ75 87 = σ 87 from ((f77 87 (by decide)).trans (f53 87 (by decide)))]; exact (hr4.up (by omega) (by omega))), (show jEl (σ75 51) (σ75 52) (τ 54) (τ 88) by rw [show σ75 51 = σ 51 from ((f77 51 (by decide)).trans (f53 51 (by decide))), show σ75 52 = σ 52 from ((f77 52 (by decide)).trans (f53 52 (by decide)))]; exact hr5), (show jByP (σ75 51) (σ75 52) (τ 54) by rw [show σ75 51 = σ 51 from ((f77 51 (by decide)).trans (f53 51 (by decide))), show σ75 52 = σ 52 from ((f77 52 (by decide)).trans (f53 52 (by decide)))]; exact hr6), (show jBk (σ75 48) (σ75 80) (σ75 49) (σ75 81) (σ75 55 47).toInt by rw [show σ75 48 = σ 48 from ((f77 48 (by decide)).trans (f53 48 (by decide))), show σ75 49 = σ 49 from ((f77 49 (by decide)).trans (f53 49 (by decide))), show σ75 80 = σ 80 from ((f77 80 (by decide)).trans (f53 80 (by decide))), show σ75 81 = σ 81 from ((f77 81 (by decide)).trans (f53 81 (by decide))), show (σ75 55 47).toInt = (σ 55 47).toInt from z142]; exact hr7), (show jKd (σ75 39) (σ75 70) (σ75 55 32).toInt by rw [show σ75 39 = σ 39 from ((f77 39 (by decide)).trans (f53 39 (by decide))), show σ75 70 = σ 70 from ((f77 70 (by decide)).trans (f53 70 (by decide))), show (σ75 55 32).toInt = (σ 55 32).toInt from z138]; exact hr8), (show jTt (σ75 42) (σ75 85) (σ75 55 55).toInt by rw [show σ75 42 = σ 42 from ((f77 42 (by decide)).trans (f53 42 (by decide))), show σ75 85 = σ 85 from ((f77 85 (by decide)).trans (f53 85 (by decide))), show (σ75 55 55).toInt = (σ 55 55).toInt from z140]; exact hr9), (fun k hk => by rw [show σ75 4 = σ 4 from ((f77 4 (by decide)).trans (f53 4 (by decide))), show σ75 5 = σ 5 from ((f77 5 (by decide)).trans (f53 5 (by decide))), show σ75 60 = σ 60 from ((f77 60 (by decide)).trans (f53 60 (by decide))), show σ75 61 = σ 61 from ((f77 61 (by decide)).trans (f53 61 (by decide)))]; exact hr10 k (by omega)), (fun nm => by rw [show σ75 19 = σ 19 from ((f77 19 (by decide)).trans (f53 19 (by decide))), show σ75 64 = σ 64 from ((f77 64 (by decide)).trans (f53 64 (by decide))), show σ75 65 = σ 65 from ((f77 65 (by decide)).trans (f53 65 (by decide))), show (σ75 18 0).toInt = (σ 18 0).toInt from z149]; exact hr11 nm), (fun nm => by rw [show σ75 23 = σ 23 from ((f77 23 (by decide)).trans (f53 23 (by decide))), show σ75 64 = σ 64 from ((f77 64 (by decide)).trans (f53 64 (by decide))), show σ75 65 = σ 65 from ((f77 65 (by decide)).trans (f53 65 (by decide))), show (σ75 22 0).toInt = (σ 22 0).toInt from z150]; exact hr12 nm), (show jAlP (σ75 56) (σ75 57) (σ75 58) (σ75 59) (σ75 55 4).toInt by rw [show σ75 56 = σ 56 from ((f77 56 (by decide)).trans (f53 56 (by decide))), show σ75 57 = σ 57 from ((f77 57 (by decide)).trans (f53 57 (by decide))), show σ75 58 = σ 58 from ((f77 58 (by decide)).trans (f53 58 (by decide))), show σ75 59 = σ 59 from ((f77 59 (by decide)).trans (f53 59 (by decide))), show (σ75 55 4).toInt = (σ 55 4).toInt from z128]; exact hr13), (show jqbN (σ75 80) (σ75 55 47).toInt by rw [show σ75 80 = σ 80 from ((f77 80 (by decide)).trans (f53 80 (by decide))), show (σ75 55 47).toInt = (σ 55 47).toInt from z142]; exact hr14)⟩ hP hS (lv_sub hl [0, 1, 2, 3] rfl)
       · obtain ⟨q153, k151, k152⟩ := h83
         exact absurd (by omega : False) id
    · obtain ⟨q156, k154, k155⟩ := h68
      have q156 := q156.symm
      subst q156
      refine lv_pop hx hb dL_law_334 rfl ?_
      refine lv_aload_n hx hb dL_law_335 rfl (lv_at hl 1 rfl) ?_
      refine lv_aload_n hx hb dL_law_336 rfl (lv_at hl 3 rfl) ?_
      refine lv_iload_n hx hb dL_law_337 rfl (lv_at hl 0 rfl) ?_
      refine lv_iconst (v := 1) hx hb dL_law_338 (by decide) ?_
      refine lv_iadd hx hb dL_law_339 ?_
      refine jtopr ex49.symm ?_
      exact by
       refine va_sld hx hb hX hbl hbA hS (jin tx49 (by omega) (by omega)) dL_law_340 ?_
       have I157 : jI103 σ51 := jI103_fr (congrFun (f53 55 (by decide)) 9) hI103
       have z158 : (σ51 55 9).toInt = (σ 55 9).toInt := (congrArg Int32.toInt (show σ51 55 9 = (σ 55 9) from (congrFun (f53 55 (by decide)) 9)))
       refine jcallV (As := [.int (xs x49.toNatClampNeg)]) (rest := []) ⟨hx, hb, hml, hown, hts⟩ hK hP hA hS hZ (c_X12_set l D cI cL ad zz hJ σ51 τ (xs x49.toNatClampNeg) ((xs x49.toNatClampNeg).toInt) rfl I157) cw_RL_30 (jc_55 cI cL ad σ51 τ) rfl ⟨Nat.le_of_ble_eq_true rfl, Nat.le_of_ble_eq_true rfl⟩ rfl rfl rfl hl.1 rfl (Nat.le_of_ble_eq_true rfl) dL_law_341 ⟨Nat.le_of_ble_eq_true rfl, Nat.le_of_ble_eq_true rfl⟩ (fun r160 σ159 τ159 H locs h159 hP hS => ?_)
       obtain ⟨rfl, f161, f162, I163, h159⟩ := h159
       have i165 : 0 ≤ (σ159 55 9).toInt ∧ (σ159 55 9).toInt ≤ 3 := I163
       rcases h159 with h166 | h167
       · obtain ⟨q171, k168, k169, k170⟩ := h166
         exact absurd (by omega : False) id
       · obtain ⟨q174, k172, k173⟩ := h167
         have q174 := q174.symm
         subst q174
         refine lv_pop hx hb dL_law_344 rfl ?_
         refine lv_goto (tgt := 1357) hx hb dL_law_345 (by decide) ?_
         obtain ⟨x175, ex175⟩ : ∃ y : Int32, y = x0 + 6 := ⟨_, rfl⟩
         exact by
          have tx175 : x175.toInt = x0.toInt + 6 := (jadd ex175 rfl jz_6 (by omega) (by omega)).trans (by omega)
          refine lv_iinc (v := x175) (lv' := [(3, .int x175), (2, .ref (ad 55)), (1, .ref (ad 0)), (0, .ref b)]) hx hb dL_law_1357 hl (k := 0) rfl (by rw [ex175]; rfl) (by decide) rfl (fun ls hl => ?_)
          refine lv_goto (tgt := 18) hx hb dL_law_1360 (by decide) ?_
          have I176 : jI2 σ159 := jI2_fr (congrFun (f161 2 (by decide)) 0) (congrFun (f161 2 (by decide)) 1) (congrFun (f161 2 (by decide)) 2) (congrFun (f161 2 (by decide)) 3) (f161 6 (by decide)) (f161 5 (by decide)) I55
          have I177 : jI9 σ159 := jI9_fr ((congrFun (f161 9 (by decide)) 0).trans (congrFun (f53 9 (by decide)) 0)) ((f161 10 (by decide)).trans (f53 10 (by decide))) ((f161 11 (by decide)).trans (f53 11 (by decide))) hI9
          have I178 : jI12 σ159 := jI12_fr ((congrFun (f161 12 (by decide)) 0).trans (congrFun (f53 12 (by decide)) 0)) ((f161 13 (by decide)).trans (f53 13 (by decide))) hI12
          have I179 : jI16 σ159 := jI16_fr ((congrFun (f161 16 (by decide)) 0).trans (congrFun (f53 16 (by decide)) 0)) ((congrFun (f161 16 (by decide)) 1).trans (congrFun (f53 16 (by decide)) 1)) ((congrFun (f161 16 (by decide)) 2).trans (congrFun (f53 16 (by decide)) 2)) ((f161 17 (by decide)).trans (f53 17 (by decide))) hI16
          have I180 : jI18 σ159 := jI18_fr ((congrFun (f161 18 (by decide)) 0).trans (congrFun (f53 18 (by decide)) 0)) ((f161 19 (by decide)).trans (f53 19 (by decide))) hI18
          have I181 : jI22 σ159 := jI22_fr ((congrFun (f161 22 (by decide)) 0).trans (congrFun (f53 22 (by decide)) 0)) ((f161 23 (by decide)).trans (f53 23 (by decide))) hI22
          exact by
           have I182 : jI31 σ159 := jI31_fr ((congrFun (f161 31 (by decide)) 8).trans (congrFun (f53 31 (by decide)) 8)) ((congrFun (f161 31 (by decide)) 10).trans (congrFun (f53 31 (by decide)) 10)) ((congrFun (f161 31 (by decide)) 11).trans (congrFun (f53 31 (by decide)) 11)) ((f161 33 (by decide)).trans (f53 33 (by decide))) ((f161 35 (by decide)).trans (f53 35 (by decide))) ((f161 36 (by decide)).trans (f53 36 (by decide))) hI31
           have I183 : jI38 σ159 := jI38_fr ((congrFun (f161 38 (by decide)) 0).trans (congrFun (f53 38 (by decide)) 0)) ((congrFun (f161 38 (by decide)) 1).trans (congrFun (f53 38 (by decide)) 1)) ((f161 39 (by decide)).trans (f53 39 (by decide))) hI38
           have I184 : jI43 σ159 := jI43_fr ((congrFun (f161 43 (by decide)) 8).trans (congrFun (f53 43 (by decide)) 8)) hI43
           have I185 : jI47 σ159 := jI47_fr ((congrFun (f161 47 (by decide)) 0).trans (congrFun (f53 47 (by decide)) 0)) ((f161 48 (by decide)).trans (f53 48 (by decide))) ((f161 49 (by decide)).trans (f53 49 (by decide))) hI47
           have I186 : jI50 σ159 := jI50_fr ((f161 52 (by decide)).trans (f53 52 (by decide))) hI50
           have I187 : jI0 σ159 := jI0_fr ((f161 1 (by decide)).trans (f53 1 (by decide))) hI0
           have I188 : jI26 σ159 := jI26_fr ((congrFun (f161 26 (by decide)) 6).trans (congrFun (f53 26 (by decide)) 6)) hI26
           have I189 : jI101 σ159 := jI101_fr ((f162 4 (by decide)).trans (congrFun (f53 55 (by decide)) 4)) ((f162 5 (by decide)).trans (congrFun (f53 55 (by decide)) 5)) ((f161 56 (by decide)).trans (f53 56 (by decide))) ((f161 57 (by decide)).trans (f53 57 (by decide))) ((f161 58 (by decide)).trans (f53 58 (by decide))) ((f161 59 (by decide)).trans (f53 59 (by decide))) hI101
           have I190 : jI102 σ159 := jI102_fr ((f162 6 (by decide)).trans (congrFun (f53 55 (by decide)) 6)) ((f161 60 (by decide)).trans (f53 60 (by decide))) ((f161 61 (by decide)).trans (f53 61 (by decide))) hI102
           have I191 : jI104 σ159 := jI104_fr ((f162 10 (by decide)).trans (congrFun (f53 55 (by decide)) 10)) ((f162 12 (by decide)).trans (congrFun (f53 55 (by decide)) 12)) ((f162 13 (by decide)).trans (congrFun (f53 55 (by decide)) 13)) ((f161 62 (by decide)).trans (f53 62 (by decide))) ((f161 67 (by decide)).trans (f53 67 (by decide))) hI104
           have I192 : jI105 σ159 := jI105_fr ((f162 15 (by decide)).trans (congrFun (f53 55 (by decide)) 15)) ((f161 65 (by decide)).trans (f53 65 (by decide))) hI105
           have I193 : jI106 σ159 := jI106_fr ((f162 32 (by decide)).trans (congrFun (f53 55 (by decide)) 32)) ((f161 70 (by decide)).trans (f53 70 (by decide))) ((f161 71 (by decide)).trans (f53 71 (by decide))) ((f161 72 (by decide)).trans (f53 72 (by decide))) hI106
           have I194 : jI107 σ159 := jI107_fr ((f162 12 (by decide)).trans (congrFun (f53 55 (by decide)) 12)) ((f162 47 (by decide)).trans (congrFun (f53 55 (by decide)) 47)) ((f161 80 (by decide)).trans (f53 80 (by decide))) hI107
           have I195 : jI109 σ159 := jI109_fr ((f162 50 (by decide)).trans (congrFun (f53 55 (by decide)) 50)) hI109
           have I196 : jI110 σ159 := jI110_fr ((f161 86 (by decide)).trans (f53 86 (by decide))) ((f161 87 (by decide)).trans (f53 87 (by decide))) hI110
           have I197 : jI111 σ159 := jI111_fr ((f161 79 (by decide)).trans (f53 79 (by decide))) hI111
           have I198 : jI119 σ159 := jI119_fr ((f161 68 (by decide)).trans (f53 68 (by decide))) hI119
           have p199 : jKept σ159 := jKept.fr ((f161 75 (by decide)).trans (f53 75 (by decide))) ((f161 76 (by decide)).trans (f53 76 (by decide))) ((f161 77 (by decide)).trans (f53 77 (by decide))) hs_jKept
           have p200 : jBook σ159 := jBook.fr ((f162 47 (by decide)).trans (congrFun (f53 55 (by decide)) 47)) ((f162 10 (by decide)).trans (congrFun (f53 55 (by decide)) 10)) ((f161 81 (by decide)).trans (f53 81 (by decide))) hs_jBook
           have p201 : jNd12 σ159 := jNd12.fr ((congrFun (f161 12 (by decide)) 0).trans (congrFun (f53 12 (by decide)) 0)) ((congrFun (f161 12 (by decide)) 1).trans (congrFun (f53 12 (by decide)) 1)) ((f161 13 (by decide)).trans (f53 13 (by decide))) hs_jNd12
           have p202 : jN67 σ159 := jN67.fr ((f161 24 (by decide)).trans (f53 24 (by decide))) hs_jN67
           have p203 : jBl σ159 := jBl.fr ((congrFun (f161 22 (by decide)) 0).trans (congrFun (f53 22 (by decide)) 0)) ((congrFun (f161 22 (by decide)) 1).trans (congrFun (f53 22 (by decide)) 1)) ((f161 23 (by decide)).trans (f53 23 (by decide))) ((congrFun (f161 26 (by decide)) 6).trans (congrFun (f53 26 (by decide)) 6)) ((congrFun (f161 26 (by decide)) 7).trans (congrFun (f53 26 (by decide)) 7)) ((f161 29 (by decide)).trans (f53 29 (by decide))) ((f161 30 (by decide)).trans (f53 30 (by decide))) hs_jBl
           have p204 : jKb σ159 := jKb.fr ((congrFun (f161 31 (by decide)) 8).trans (congrFun (f53 31 (by decide)) 8)) ((congrFun (f161 31 (by decide)) 11).trans (congrFun (f53 31 (by decide)) 11)) ((f161 32 (by decide)).trans (f53 32 (by decide))) hs_jKb
           have p205 : jTR σ159 := jTR.fr ((f161 64 (by decide)).trans (f53 64 (by decide))) ((f161 65 (by decide)).trans (f53 65 (by decide))) hs_jTR
           have p206 : jKh σ159 := jKh.fr ((congrFun (f161 31 (by decide)) 8).trans (congrFun (f53 31 (by decide)) 8)) ((f161 32 (by decide)).trans (f53 32 (by decide))) ((f161 36 (by decide)).trans (f53 36 (by decide))) ((f161 37 (by decide)).trans (f53 37 (by decide))) hs_jKh
           have p207 : jKg σ159 := jKg.fr ((congrFun (f161 31 (by decide)) 8).trans (congrFun (f53 31 (by decide)) 8)) ((congrFun (f161 31 (by decide)) 9).trans (congrFun (f53 31 (by decide)) 9)) ((congrFun (f161 31 (by decide)) 11).trans (congrFun (f53 31 (by decide)) 11)) ((congrFun (f161 31 (by decide)) 12).trans (congrFun (f53 31 (by decide)) 12)) ((f161 32 (by decide)).trans (f53 32 (by decide))) ((f161 33 (by decide)).trans (f53 33 (by decide))) hs_jKg
           have p208 : jNz σ159 := jNz.fr ((f161 34 (by decide)).trans (f53 34 (by decide))) hs_jNz
           have p209 : jqSt σ159 := jqSt.fr ((f161 78 (by decide)).trans (f53 78 (by decide))) ((f162 42 (by decide)).trans (congrFun (f53 55 (by decide)) 42)) hs_jqSt
           have z210 : (σ159 2 0).toInt = (σ 2 0).toInt := (congrArg Int32.toInt (show σ159 2 0 = (σ 2 0) from ((congrFun (f161 2 (by decide)) 0).trans (f54 0 (by decide)))))
           have z211 : (σ159 55 6).toInt = (σ 55 6).toInt := (congrArg Int32.toInt (show σ159 55 6 = (σ 55 6) from ((f162 6 (by decide)).trans (congrFun (f53 55 (by decide)) 6))))
           have z212 : (σ159 2 2).toInt = (σ 2 2).toInt := (congrArg Int32.toInt (show σ159 2 2 = (σ 2 2) from ((congrFun (f161 2 (by decide)) 2).trans (f54 2 (by decide)))))
           have z213 : (σ159 55 5).toInt = (σ 55 5).toInt := (congrArg Int32.toInt (show σ159 55 5 = (σ 55 5) from ((f162 5 (by decide)).trans (congrFun (f53 55 (by decide)) 5))))
           have z214 : (σ159 2 3).toInt = (σ 2 3).toInt := (congrArg Int32.toInt (show σ159 2 3 = (σ 2 3) from ((congrFun (f161 2 (by decide)) 3).trans (f54 3 (by decide)))))
           have z215 : (σ159 55 4).toInt = (σ 55 4).toInt := (congrArg Int32.toInt (show σ159 55 4 = (σ 55 4) from ((f162 4 (by decide)).trans (congrFun (f53 55 (by decide)) 4))))
           have z216 : (σ159 9 0).toInt = (σ 9 0).toInt := (congrArg Int32.toInt (show σ159 9 0 = (σ 9 0) from ((congrFun (f161 9 (by decide)) 0).trans (congrFun (f53 9 (by decide)) 0))))
           have z217 : (σ159 55 15).toInt = (σ 55 15).toInt := (congrArg Int32.toInt (show σ159 55 15 = (σ 55 15) from ((f162 15 (by decide)).trans (congrFun (f53 55 (by decide)) 15))))
           have z218 : (σ159 16 0).toInt = (σ 16 0).toInt := (congrArg Int32.toInt (show σ159 16 0 = (σ 16 0) from ((congrFun (f161 16 (by decide)) 0).trans (congrFun (f53 16 (by decide)) 0))))
           have z219 : (σ159 55 10).toInt = (σ 55 10).toInt := (congrArg Int32.toInt (show σ159 55 10 = (σ 55 10) from ((f162 10 (by decide)).trans (congrFun (f53 55 (by decide)) 10))))
           have z220 : (σ159 16 1).toInt = (σ 16 1).toInt := (congrArg Int32.toInt (show σ159 16 1 = (σ 16 1) from ((congrFun (f161 16 (by decide)) 1).trans (congrFun (f53 16 (by decide)) 1))))
           have z221 : (σ159 55 12).toInt = (σ 55 12).toInt := (congrArg Int32.toInt (show σ159 55 12 = (σ 55 12) from ((f162 12 (by decide)).trans (congrFun (f53 55 (by decide)) 12))))
           have z222 : (σ159 16 2).toInt = (σ 16 2).toInt := (congrArg Int32.toInt (show σ159 16 2 = (σ 16 2) from ((congrFun (f161 16 (by decide)) 2).trans (congrFun (f53 16 (by decide)) 2))))
           have z223 : (σ159 55 13).toInt = (σ 55 13).toInt := (congrArg Int32.toInt (show σ159 55 13 = (σ 55 13) from ((f162 13 (by decide)).trans (congrFun (f53 55 (by decide)) 13))))
           have z224 : (σ159 38 0).toInt = (σ 38 0).toInt := (congrArg Int32.toInt (show σ159 38 0 = (σ 38 0) from ((congrFun (f161 38 (by decide)) 0).trans (congrFun (f53 38 (by decide)) 0))))
           have z225 : (σ159 55 32).toInt = (σ 55 32).toInt := (congrArg Int32.toInt (show σ159 55 32 = (σ 55 32) from ((f162 32 (by decide)).trans (congrFun (f53 55 (by decide)) 32))))
           have z226 : (σ159 38 1).toInt = (σ 38 1).toInt := (congrArg Int32.toInt (show σ159 38 1 = (σ 38 1) from ((congrFun (f161 38 (by decide)) 1).trans (congrFun (f53 38 (by decide)) 1))))
           have z227 : (σ159 55 55).toInt = (σ 55 55).toInt := (congrArg Int32.toInt (show σ159 55 55 = (σ 55 55) from ((f162 55 (by decide)).trans (congrFun (f53 55 (by decide)) 55))))
           have z228 : (σ159 47 0).toInt = (σ 47 0).toInt := (congrArg Int32.toInt (show σ159 47 0 = (σ 47 0) from ((congrFun (f161 47 (by decide)) 0).trans (congrFun (f53 47 (by decide)) 0))))
           have z229 : (σ159 55 47).toInt = (σ 55 47).toInt := (congrArg Int32.toInt (show σ159 55 47 = (σ 55 47) from ((f162 47 (by decide)).trans (congrFun (f53 55 (by decide)) 47))))
           have z230 : (σ159 55 30).toInt = (σ 55 30).toInt := (congrArg Int32.toInt (show σ159 55 30 = (σ 55 30) from ((f162 30 (by decide)).trans (congrFun (f53 55 (by decide)) 30))))
           have z231 : (σ159 55 31).toInt = (σ 55 31).toInt := (congrArg Int32.toInt (show σ159 55 31 = (σ 55 31) from ((f162 31 (by decide)).trans (congrFun (f53 55 (by decide)) 31))))
           have z232 : (σ159 2 1).toInt = (σ51 2 1).toInt := (congrArg Int32.toInt (show σ159 2 1 = (σ51 2 1) from (congrFun (f161 2 (by decide)) 1)))
           have z233 : (σ159 55 42).toInt = (σ 55 42).toInt := (congrArg Int32.toInt (show σ159 55 42 = (σ 55 42) from ((f162 42 (by decide)).trans (congrFun (f53 55 (by decide)) 42))))
           have z234 : (σ159 26 6).toInt = (σ 26 6).toInt := (congrArg Int32.toInt (show σ159 26 6 = (σ 26 6) from ((congrFun (f161 26 (by decide)) 6).trans (congrFun (f53 26 (by decide)) 6))))
           have z236 : (σ159 18 0).toInt = (σ 18 0).toInt := (congrArg Int32.toInt (show σ159 18 0 = (σ 18 0) from ((congrFun (f161 18 (by decide)) 0).trans (congrFun (f53 18 (by decide)) 0))))
           have z237 : (σ159 22 0).toInt = (σ 22 0).toInt := (congrArg Int32.toInt (show σ159 22 0 = (σ 22 0) from ((congrFun (f161 22 (by decide)) 0).trans (congrFun (f53 22 (by decide)) 0))))
           exact by exact ih x175 σ159 τ _ _ ls (by have h9 := tx175; omega) ⟨I176, I177, I178, I179, I180, I181, I182, I183, I184, I185, I186, I187, I188, I189, I190, I163, I191, I192, I193, I194, I195, I196, I197, I198, p199, p200, p201, p202, p203, p204, p205, p206, p207, p208, p209, (by rw [z210, z211]; exact ht0), (by rw [z212, z213]; exact ht1), (by rw [z212, z214, z215]; exact ht2), (by rw [z216, z217]; exact ht3), (by rw [z218, z219]; exact ht4), (by rw [z220, z221]; exact ht5), (by rw [z222, z223]; exact ht6), (by rw [z224, z225]; exact ht7), (by rw [z226, z227]; exact ht8), (by rw [z228, z229]; exact ht9), (by rw [z230]; exact ht10), (by rw [z231]; exact ht11), (by omega), (by rw [z233]; exact ht13), (by have h9 := tx175; omega), (by have h9 := tx175; omega), (show jNumP (σ159 3) (σ159 56) (σ159 6) (σ159 57) (σ159 7) (σ159 58) (σ159 8) (σ159 59) (σ159 55 6).toInt (σ159 55 4).toInt by rw [show σ159 3 = σ 3 from ((f161 3 (by decide)).trans (f53 3 (by decide))), show σ159 56 = σ 56 from ((f161 56 (by decide)).trans (f53 56 (by decide))), show σ159 6 = σ 6 from ((f161 6 (by decide)).trans (f53 6 (by decide))), show σ159 57 = σ 57 from ((f161 57 (by decide)).trans (f53 57 (by decide))), show σ159 7 = σ 7 from ((f161 7 (by decide)).trans (f53 7 (by decide))), show σ159 58 = σ 58 from ((f161 58 (by decide)).trans (f53 58 (by decide))), show σ159 8 = σ 8 from ((f161 8 (by decide)).trans (f53 8 (by decide))), show σ159 59 = σ 59 from ((f161 59 (by decide)).trans (f53 59 (by decide))), show (σ159 55 6).toInt = (σ 55 6).toInt from z211, show (σ159 55 4).toInt = (σ 55 4).toInt from z215]; exact hr0), (show jOvP (σ159 56) (σ159 57) (σ159 58) (σ159 59) (σ159 55 4).toInt by rw [show σ159 56 = σ 56 from ((f161 56 (by decide)).trans (f53 56 (by decide))), show σ159 57 = σ 57 from ((f161 57 (by decide)).trans (f53 57 (by decide))), show σ159 58 = σ 58 from ((f161 58 (by decide)).trans (f53 58 (by decide))), show σ159 59 = σ 59 from ((f161 59 (by decide)).trans (f53 59 (by decide))), show (σ159 55 4).toInt = (σ 55 4).toInt from z215]; exact hr1), (show jTp (σ159 10) (σ159 63) (σ159 55 15).toInt by rw [show σ159 10 = σ 10 from ((f161 10 (by decide)).trans (f53 10 (by decide))), show σ159 63 = σ 63 from ((f161 63 (by decide)).trans (f53 63 (by decide)))]; exact hr2.le (by omega)), (show jSo (σ159 17) (σ159 62) (σ159 16 0).toInt by rw [show σ159 17 = σ 17 from ((f161 17 (by decide)).trans (f53 17 (by decide))), show σ159 62 = σ 62 from ((f161 62 (by decide)).trans (f53 62 (by decide))), show (σ159 16 0).toInt = (σ 16 0).toInt from z218]; exact hr3), (show jShP (σ159 51) (σ159 52) (σ159 53) (σ159 86) (σ159 87) (σ159 55 32).toInt by rw [show σ159 51 = σ 51 from ((f161 51 (by decide)).trans (f53 51 (by decide))), show σ159 52 = σ 52 from ((f161 52 (by decide)).trans (f53 52 (by decide))), show σ159 53 = σ 53 from ((f161 53 (by decide)).trans (f53 53 (by decide))), show σ159 86 = σ 86 from ((f161 86 (by decide)).trans (f53 86 (by decide))), show σ159 87 = σ 87 from ((f161 87 (by decide)).trans (f53 87 (by decide)))]; exact (hr4.up (by omega) (by omega))), (show jEl (σ159 51) (σ159 52) (τ 54) (τ 88) by rw [show σ159 51 = σ 51 from ((f161 51 (by decide)).trans (f53 51 (by decide))), show σ159 52 = σ 52 from ((f161 52 (by decide)).trans (f53 52 (by decide)))]; exact hr5), (show jByP (σ159 51) (σ159 52) (τ 54) by rw [show σ159 51 = σ 51 from ((f161 51 (by decide)).trans (f53 51 (by decide))), show σ159 52 = σ 52 from ((f161 52 (by decide)).trans (f53 52 (by decide)))]; exact hr6), (show jBk (σ159 48) (σ159 80) (σ159 49) (σ159 81) (σ159 55 47).toInt by rw [show σ159 48 = σ 48 from ((f161 48 (by decide)).trans (f53 48 (by decide))), show σ159 49 = σ 49 from ((f161 49 (by decide)).trans (f53 49 (by decide))), show σ159 80 = σ 80 from ((f161 80 (by decide)).trans (f53 80 (by decide))), show σ159 81 = σ 81 from ((f161 81 (by decide)).trans (f53 81 (by decide))), show (σ159 55 47).toInt = (σ 55 47).toInt from z229]; exact hr7), (show jKd (σ159 39) (σ159 70) (σ159 55 32).toInt by rw [show σ159 39 = σ 39 from ((f161 39 (by decide)).trans (f53 39 (by decide))), show σ159 70 = σ 70 from ((f161 70 (by decide)).trans (f53 70 (by decide))), show (σ159 55 32).toInt = (σ 55 32).toInt from z225]; exact hr8), (show jTt (σ159 42) (σ159 85) (σ159 55 55).toInt by rw [show σ159 42 = σ 42 from ((f161 42 (by decide)).trans (f53 42 (by decide))), show σ159 85 = σ 85 from ((f161 85 (by decide)).trans (f53 85 (by decide))), show (σ159 55 55).toInt = (σ 55 55).toInt from z227]; exact hr9), (fun k hk => by rw [show σ159 4 = σ 4 from ((f161 4 (by decide)).trans (f53 4 (by decide))), show σ159 5 = σ 5 from ((f161 5 (by decide)).trans (f53 5 (by decide))), show σ159 60 = σ 60 from ((f161 60 (by decide)).trans (f53 60 (by decide))), show σ159 61 = σ 61 from ((f161 61 (by decide)).trans (f53 61 (by decide)))]; exact hr10 k (by omega)), (fun nm => by rw [show σ159 19 = σ 19 from ((f161 19 (by decide)).trans (f53 19 (by decide))), show σ159 64 = σ 64 from ((f161 64 (by decide)).trans (f53 64 (by decide))), show σ159 65 = σ 65 from ((f161 65 (by decide)).trans (f53 65 (by decide))), show (σ159 18 0).toInt = (σ 18 0).toInt from z236]; exact hr11 nm), (fun nm => by rw [show σ159 23 = σ 23 from ((f161 23 (by decide)).trans (f53 23 (by decide))), show σ159 64 = σ 64 from ((f161 64 (by decide)).trans (f53 64 (by decide))), show σ159 65 = σ 65 from ((f161 65 (by decide)).trans (f53 65 (by decide))), show (σ159 22 0).toInt = (σ 22 0).toInt from z237]; exact hr12 nm), (show jAlP (σ159 56) (σ159 57) (σ159 58) (σ159 59) (σ159 55 4).toInt by rw [show σ159 56 = σ 56 from ((f161 56 (by decide)).trans (f53 56 (by decide))), show σ159 57 = σ 57 from ((f161 57 (by decide)).trans (f53 57 (by decide))), show σ159 58 = σ 58 from ((f161 58 (by decide)).trans (f53 58 (by decide))), show σ159 59 = σ 59 from ((f161 59 (by decide)).trans (f53 59 (by decide))), show (σ159 55 4).toInt = (σ 55 4).toInt from z215]; exact hr13), (show jqbN (σ159 80) (σ159 55 47).toInt by rw [show σ159 80 = σ 80 from ((f161 80 (by decide)).trans (f53 80 (by decide))), show (σ159 55 47).toInt = (σ 55 47).toInt from z229]; exact hr14)⟩ hP hS (lv_sub hl [0, 1, 2, 3] rfl)
set_option maxHeartbeats 4000000 in
set_option maxRecDepth 100000 in
theorem law_case_4 {p : Program} {e : Env} {s : State} {m : MethodId} {below : List Frame} {meth : Method} {c : Code} (l : Launch) {b L : Nat} {xs : Nat → Int32} {D : va_G} {cI cL : ClassId} {ad zz : Nat → Nat} (C0 : lw_At p s m meth c b L xs) (hJ : jD ad) (hA : ∀ q, jA ad q → s.heap.size ≤ q) (hK : jK D cI cL s) (hZ : jZ zz (fun q : Nat => s.heap.size ≤ q) s s.heap) {x0 : Int32} (hx0 : 0 ≤ x0.toInt) (hxL : x0.toInt + 6 ≤ (L : Int)) (hL : L ≤ 384) {σ : Nat → Nat → Int32} {τ : Nat → Nat → Int64} {H : Heap} {locs : List Loc} (hS : va_S (fun q : Nat => s.heap.size ≤ q) s.heap H locs) {ls : Array Slot} (hAll : jAll x0.toInt σ τ) (hP : jH D cI cL ad σ τ H) (hl : lv_has ls 4 [(3, .int x0), (2, .ref (ad 55)), (1, .ref (ad 0)), (0, .ref b)]) (ih : ∀ (x1 : Int32) (σ : Nat → Nat → Int32) (τ : Nat → Nat → Int64) (H : Heap) (locs : List Loc) (ls : Array Slot), x1.toInt = x0.toInt + 6 → jAll x1.toInt σ τ → jH D cI cL ad σ τ H → va_S (fun q : Nat => s.heap.size ≤ q) s.heap H locs → lv_has ls 4 [(3, .int x1), (2, .ref (ad 55)), (1, .ref (ad 0)), (0, .ref b)] → W p l e room_1 s m #[Value.ref b] below meth c H locs 90 348600 (lw_Z below #[Value.ref b] s) (F0 m 18 ls [])) : W p l e room_1 s m #[Value.ref b] below meth c H locs 90 348600 (lw_Z below #[Value.ref b] s) (F0 m 348 ls []) := by
  obtain ⟨hx, hb, hr, hml, hown, hts0, hX, hbl, hlocks, hgv⟩ := C0
  have hts : ∀ w ∈ wsL_law, w.before #[Value.ref b] s = true := fun w h => hts0 w (wsL_law_in w h)
  have hbA : ¬ (fun q : Nat => s.heap.size ≤ q) b := Nat.not_le.mpr hbl
  have hown : s.vm.findClass RL = some m.cls := hown
  obtain ⟨hI2, hI9, hI12, hI16, hI18, hI22, hI31, hI38, hI43, hI47, hI50, hI0, hI26, hI101, hI102, hI103, hI104, hI105, hI106, hI107, hI109, hI110, hI111, hI119, hs_jKept, hs_jBook, hs_jNd12, hs_jN67, hs_jBl, hs_jKb, hs_jTR, hs_jKh, hs_jKg, hs_jNz, hs_jqSt, ht0, ht1, ht2, ht3, ht4, ht5, ht6, ht7, ht8, ht9, ht10, ht11, ht12, ht13, ht14, ht15, hr0, hr1, hr2, hr3, hr4, hr5, hr6, hr7, hr8, hr9, hr10, hr11, hr12, hr13, hr14⟩ := hAll
  have hL9 : (L : Int) ≤ 384 := by omega
  obtain ⟨i1, i2, i3, i4, i5, w6, w7⟩ : (0 ≤ (σ 2 0).toInt ∧ (σ 2 0).toInt ≤ 4) ∧ (0 ≤ (σ 2 1).toInt ∧ (σ 2 1).toInt ≤ 3) ∧ (0 ≤ (σ 2 2).toInt) ∧ (0 ≤ (σ 2 3).toInt) ∧ ((σ 2 2).toInt + (σ 2 3).toInt ≤ 40) ∧ (∀ k : Nat, k < 40 → 0 ≤ (σ 6 k).toInt ∧ (σ 6 k).toInt ≤ 67) ∧ (∀ k : Nat, k < 4 → 0 ≤ (σ 5 k).toInt ∧ (σ 5 k).toInt ≤ 20) := id hI2
  obtain ⟨i8, w9, w10⟩ : (0 ≤ (σ 9 0).toInt ∧ (σ 9 0).toInt ≤ 80) ∧ (∀ k : Nat, k < 80 → 0 ≤ (σ 10 k).toInt ∧ (σ 10 k).toInt ≤ 255) ∧ (∀ k : Nat, k < 8 → 0 ≤ (σ 11 k).toInt ∧ (σ 11 k).toInt ≤ 3) := id hI9
  obtain ⟨i11, i12, i13, w14⟩ : (1 ≤ (σ 16 0).toInt ∧ (σ 16 0).toInt ≤ 8) ∧ (1 ≤ (σ 16 1).toInt ∧ (σ 16 1).toInt ≤ 12) ∧ (0 ≤ (σ 16 2).toInt ∧ (σ 16 2).toInt ≤ 999) ∧ (∀ k : Nat, k < 8 → 0 ≤ (σ 17 k).toInt ∧ (σ 17 k).toInt ≤ 3) := id hI16
  obtain ⟨i15, i16, w17⟩ : (0 ≤ (σ 38 0).toInt ∧ (σ 38 0).toInt ≤ 20) ∧ (0 ≤ (σ 38 1).toInt ∧ (σ 38 1).toInt ≤ 1000) ∧ (∀ k : Nat, k < 20 → 0 ≤ (σ 39 k).toInt ∧ (σ 39 k).toInt ≤ 6) := id hI38
  obtain ⟨i18, w19, w20⟩ : (0 ≤ (σ 47 0).toInt ∧ (σ 47 0).toInt ≤ 12) ∧ (∀ k : Nat, k < 12 → 0 ≤ (σ 48 k).toInt ∧ (σ 48 k).toInt ≤ 3) ∧ (∀ k : Nat, k < 12 → 0 ≤ (σ 49 k).toInt ∧ (σ 49 k).toInt ≤ 1) := id hI47
  have w21 : ∀ k : Nat, k < 6 → 0 ≤ (σ 52 k).toInt ∧ (σ 52 k).toInt ≤ 60 := hI50
  have i22 : 1 ≤ (σ 26 6).toInt ∧ (σ 26 6).toInt ≤ 8000 := hI26
  obtain ⟨i23, i24, i25, w26, w27, w28, w29⟩ : (0 ≤ (σ 55 5).toInt) ∧ ((σ 55 5).toInt ≤ (σ 55 4).toInt) ∧ ((σ 55 4).toInt ≤ 40) ∧ (∀ k : Nat, k < 68 → (-200) ≤ (σ 56 k).toInt ∧ (σ 56 k).toInt ≤ 500) ∧ (∀ k : Nat, k < 40 → 0 ≤ (σ 57 k).toInt ∧ (σ 57 k).toInt ≤ 67) ∧ (∀ k : Nat, k < 40 → (-200) ≤ (σ 58 k).toInt ∧ (σ 58 k).toInt ≤ 500) ∧ (∀ k : Nat, k < 40 → (-200) ≤ (σ 59 k).toInt ∧ (σ 59 k).toInt ≤ 500) := id hI101
  obtain ⟨i30, w31, w32⟩ : (0 ≤ (σ 55 6).toInt ∧ (σ 55 6).toInt ≤ 4) ∧ (∀ k : Nat, k < 4 → 0 ≤ (σ 60 k).toInt ∧ (σ 60 k).toInt ≤ 50) ∧ (∀ k : Nat, k < 4 → 0 ≤ (σ 61 k).toInt ∧ (σ 61 k).toInt ≤ 20) := id hI102
  have i33 : 0 ≤ (σ 55 9).toInt ∧ (σ 55 9).toInt ≤ 3 := hI103
  obtain ⟨i34, i35, i36, w37, w38⟩ : (1 ≤ (σ 55 10).toInt ∧ (σ 55 10).toInt ≤ 8) ∧ (1 ≤ (σ 55 12).toInt ∧ (σ 55 12).toInt ≤ 12) ∧ (0 ≤ (σ 55 13).toInt ∧ (σ 55 13).toInt ≤ 999) ∧ (∀ k : Nat, k < 8 → 0 ≤ (σ 62 k).toInt ∧ (σ 62 k).toInt ≤ 3) ∧ (∀ k : Nat, k < 8 → 0 ≤ (σ 67 k).toInt ∧ (σ 67 k).toInt ≤ 3) := id hI104
  obtain ⟨i39, w40⟩ : (0 ≤ (σ 55 15).toInt ∧ (σ 55 15).toInt ≤ 80) ∧ (∀ k : Nat, k < 2 → (-1) ≤ (σ 65 k).toInt ∧ (σ 65 k).toInt ≤ 80) := id hI105
  obtain ⟨i41, w42, w43, w44⟩ : (0 ≤ (σ 55 32).toInt ∧ (σ 55 32).toInt ≤ 20) ∧ (∀ k : Nat, k < 20 → 0 ≤ (σ 70 k).toInt ∧ (σ 70 k).toInt ≤ 6) ∧ (∀ k : Nat, k < 20 → 0 ≤ (σ 71 k).toInt ∧ (σ 71 k).toInt ≤ 8) ∧ (∀ k : Nat, k < 160 → 0 ≤ (σ 72 k).toInt ∧ (σ 72 k).toInt ≤ 3) := id hI106
  obtain ⟨i45, i46, w47⟩ : (0 ≤ (σ 55 47).toInt ∧ (σ 55 47).toInt ≤ 12) ∧ ((σ 55 47).toInt ≤ (σ 55 12).toInt) ∧ (∀ k : Nat, k < 12 → 0 ≤ (σ 80 k).toInt ∧ (σ 80 k).toInt ≤ 3) := id hI107
  have hs_jOk3 : jOk3 σ := hr0.ok hr1.1
  refine lv_aload_n hx hb dL_law_348 rfl (lv_at hl 2 rfl) ?_
  refine lv_aload_n hx hb dL_law_349 rfl (lv_at hl 3 rfl) ?_
  refine lv_iload_n hx hb dL_law_350 rfl (lv_at hl 0 rfl) ?_
  refine lv_iconst (v := 1) hx hb dL_law_351 (by decide) ?_
  have g48 := jrg (rfl : x0.toInt = x0.toInt)
  refine lv_iadd hx hb dL_law_352 ?_
  refine lv_topi (fun x49 ex49 => ?_)
  exact by
   have tx49 : x49.toInt = x0.toInt + 1 := (jadd ex49 rfl jz_1 (by omega) (by omega)).trans (by omega)
   refine va_sld hx hb hX hbl hbA hS (jin tx49 (by omega) (by omega)) dL_law_353 ?_
   have g50 := jrg (rfl : (xs x49.toNatClampNeg).toInt = (xs x49.toNatClampNeg).toInt)
   refine lv_aload_n hx hb dL_law_354 rfl (lv_at hl 3 rfl) ?_
   refine lv_iload_n hx hb dL_law_355 rfl (lv_at hl 0 rfl) ?_
   refine lv_iconst (v := 2) hx hb dL_law_356 (by decide) ?_
   refine lv_iadd hx hb dL_law_357 ?_
   refine lv_topi (fun x51 ex51 => ?_)
   have tx51 : x51.toInt = x0.toInt + 2 := (jadd ex51 rfl jz_2 (by omega) (by omega)).trans (by omega)
   exact by
    refine va_sld hx hb hX hbl hbA hS (jin tx51 (by omega) (by omega)) dL_law_358 ?_
    have g52 := jrg (rfl : (xs x51.toNatClampNeg).toInt = (xs x51.toNatClampNeg).toInt)
    refine jcallV (As := [.int (xs x49.toNatClampNeg), .int (xs x51.toNatClampNeg)]) (rest := []) ⟨hx, hb, hml, hown, hts⟩ hK hP hA hS hZ (c_X11_feed l D cI cL ad zz hJ σ τ (xs x49.toNatClampNeg) ((xs x49.toNatClampNeg).toInt) rfl (xs x51.toNatClampNeg) ((xs x51.toNatClampNeg).toInt) rfl hI9) cw_RL_31 (jc_0 cI cL ad σ τ) rfl ⟨Nat.le_of_ble_eq_true rfl, Nat.le_of_ble_eq_true rfl⟩ rfl rfl rfl hl.1 rfl (Nat.le_of_ble_eq_true rfl) dL_law_359 ⟨Nat.le_of_ble_eq_true rfl, Nat.le_of_ble_eq_true rfl⟩ (fun r54 σ53 τ53 H locs h53 hP hS => ?_)
    obtain ⟨rfl, f55, f56, I57, h53⟩ := h53
    obtain ⟨i59, w60, w61⟩ : (0 ≤ (σ53 9 0).toInt ∧ (σ53 9 0).toInt ≤ 80) ∧ (∀ k : Nat, k < 80 → 0 ≤ (σ53 10 k).toInt ∧ (σ53 10 k).toInt ≤ 255) ∧ (∀ k : Nat, k < 8 → 0 ≤ (σ53 11 k).toInt ∧ (σ53 11 k).toInt ≤ 3) := id I57
    rcases h53 with h62 | h63 | h64
    · obtain ⟨q68, k65, k66, k67⟩ := h62
      have q68 := q68.symm
      subst q68
      refine lv_pop hx hb dL_law_362 rfl ?_
      refine lv_aload_n hx hb dL_law_363 rfl (lv_at hl 1 rfl) ?_
      refine lv_aload_n hx hb dL_law_364 rfl (lv_at hl 3 rfl) ?_
      refine lv_iload_n hx hb dL_law_365 rfl (lv_at hl 0 rfl) ?_
      refine lv_iconst (v := 1) hx hb dL_law_366 (by decide) ?_
      refine lv_iadd hx hb dL_law_367 ?_
      refine jtopr ex49.symm ?_
      exact by
       refine va_sld hx hb hX hbl hbA hS (jin tx49 (by omega) (by omega)) dL_law_368 ?_
       refine lv_aload_n hx hb dL_law_369 rfl (lv_at hl 3 rfl) ?_
       refine lv_iload_n hx hb dL_law_370 rfl (lv_at hl 0 rfl) ?_
       refine lv_iconst (v := 2) hx hb dL_law_371 (by decide) ?_
       refine lv_iadd hx hb dL_law_372 ?_
       refine jtopr ex51.symm ?_
       refine va_sld hx hb hX hbl hbA hS (jin tx51 (by omega) (by omega)) dL_law_373 ?_
       have I69 : jI105 σ53 := jI105_fr (congrFun (f55 55 (by decide)) 15) (f55 65 (by decide)) hI105
       have z70 : (σ53 55 15).toInt = (σ 55 15).toInt := (congrArg Int32.toInt (show σ53 55 15 = (σ 55 15) from (congrFun (f55 55 (by decide)) 15)))
       exact by
        refine jcallV (As := [.int (xs x49.toNatClampNeg), .int (xs x51.toNatClampNeg)]) (rest := []) ⟨hx, hb, hml, hown, hts⟩ hK hP hA hS hZ (c_X12_feed l D cI cL ad zz hJ σ53 τ (xs x49.toNatClampNeg) ((xs x49.toNatClampNeg).toInt) rfl (xs x51.toNatClampNeg) ((xs x51.toNatClampNeg).toInt) rfl I69) cw_RL_35 (jc_55 cI cL ad σ53 τ) rfl ⟨Nat.le_of_ble_eq_true rfl, Nat.le_of_ble_eq_true rfl⟩ rfl rfl rfl hl.1 rfl (Nat.le_of_ble_eq_true rfl) dL_law_374 ⟨Nat.le_of_ble_eq_true rfl, Nat.le_of_ble_eq_true rfl⟩ (fun r72 σ71 τ71 H locs h71 hP hS => ?_)
        obtain ⟨rfl, f73, f74, I75, h71⟩ := h71
        obtain ⟨i77, w78⟩ : (0 ≤ (σ71 55 15).toInt ∧ (σ71 55 15).toInt ≤ 80) ∧ (∀ k : Nat, k < 2 → (-1) ≤ (σ71 65 k).toInt ∧ (σ71 65 k).toInt ≤ 80) := id I75
        rcases h71 with h79 | h80 | h81
        · obtain ⟨q85, k82, k83, k84⟩ := h79
          have q85 := q85.symm
          subst q85
          refine lv_pop hx hb dL_law_377 rfl ?_
          refine lv_goto (tgt := 1357) hx hb dL_law_378 (by decide) ?_
          obtain ⟨x86, ex86⟩ : ∃ y : Int32, y = x0 + 6 := ⟨_, rfl⟩
          exact by
           have tx86 : x86.toInt = x0.toInt + 6 := (jadd ex86 rfl jz_6 (by omega) (by omega)).trans (by omega)
           refine lv_iinc (v := x86) (lv' := [(3, .int x86), (2, .ref (ad 55)), (1, .ref (ad 0)), (0, .ref b)]) hx hb dL_law_1357 hl (k := 0) rfl (by rw [ex86]; rfl) (by decide) rfl (fun ls hl => ?_)
           refine lv_goto (tgt := 18) hx hb dL_law_1360 (by decide) ?_
           have I87 : jI2 σ71 := jI2_fr ((congrFun (f73 2 (by decide)) 0).trans (congrFun (f55 2 (by decide)) 0)) ((congrFun (f73 2 (by decide)) 1).trans (congrFun (f55 2 (by decide)) 1)) ((congrFun (f73 2 (by decide)) 2).trans (congrFun (f55 2 (by decide)) 2)) ((congrFun (f73 2 (by decide)) 3).trans (congrFun (f55 2 (by decide)) 3)) ((f73 6 (by decide)).trans (f55 6 (by decide))) ((f73 5 (by decide)).trans (f55 5 (by decide))) hI2
           have I88 : jI9 σ71 := jI9_fr (congrFun (f73 9 (by decide)) 0) (f73 10 (by decide)) (f73 11 (by decide)) I57
           have I89 : jI12 σ71 := jI12_fr ((congrFun (f73 12 (by decide)) 0).trans (congrFun (f55 12 (by decide)) 0)) ((f73 13 (by decide)).trans (f55 13 (by decide))) hI12
           have I90 : jI16 σ71 := jI16_fr ((congrFun (f73 16 (by decide)) 0).trans (congrFun (f55 16 (by decide)) 0)) ((congrFun (f73 16 (by decide)) 1).trans (congrFun (f55 16 (by decide)) 1)) ((congrFun (f73 16 (by decide)) 2).trans (congrFun (f55 16 (by decide)) 2)) ((f73 17 (by decide)).trans (f55 17 (by decide))) hI16
           have I91 : jI18 σ71 := jI18_fr ((congrFun (f73 18 (by decide)) 0).trans (congrFun (f55 18 (by decide)) 0)) ((f73 19 (by decide)).trans (f55 19 (by decide))) hI18
           have I92 : jI22 σ71 := jI22_fr ((congrFun (f73 22 (by decide)) 0).trans (congrFun (f55 22 (by decide)) 0)) ((f73 23 (by decide)).trans (f55 23 (by decide))) hI22
           exact by
            have I93 : jI31 σ71 := jI31_fr ((congrFun (f73 31 (by decide)) 8).trans (congrFun (f55 31 (by decide)) 8)) ((congrFun (f73 31 (by decide)) 10).trans (congrFun (f55 31 (by decide)) 10)) ((congrFun (f73 31 (by decide)) 11).trans (congrFun (f55 31 (by decide)) 11)) ((f73 33 (by decide)).trans (f55 33 (by decide))) ((f73 35 (by decide)).trans (f55 35 (by decide))) ((f73 36 (by decide)).trans (f55 36 (by decide))) hI31
            have I94 : jI38 σ71 := jI38_fr ((congrFun (f73 38 (by decide)) 0).trans (congrFun (f55 38 (by decide)) 0)) ((congrFun (f73 38 (by decide)) 1).trans (congrFun (f55 38 (by decide)) 1)) ((f73 39 (by decide)).trans (f55 39 (by decide))) hI38
            have I95 : jI43 σ71 := jI43_fr ((congrFun (f73 43 (by decide)) 8).trans (congrFun (f55 43 (by decide)) 8)) hI43
            have I96 : jI47 σ71 := jI47_fr ((congrFun (f73 47 (by decide)) 0).trans (congrFun (f55 47 (by decide)) 0)) ((f73 48 (by decide)).trans (f55 48 (by decide))) ((f73 49 (by decide)).trans (f55 49 (by decide))) hI47
            have I97 : jI50 σ71 := jI50_fr ((f73 52 (by decide)).trans (f55 52 (by decide))) hI50
            have I98 : jI0 σ71 := jI0_fr ((f73 1 (by decide)).trans (f55 1 (by decide))) hI0
            have I99 : jI26 σ71 := jI26_fr ((congrFun (f73 26 (by decide)) 6).trans (congrFun (f55 26 (by decide)) 6)) hI26
            have I100 : jI101 σ71 := jI101_fr ((f74 4 (by decide)).trans (congrFun (f55 55 (by decide)) 4)) ((f74 5 (by decide)).trans (congrFun (f55 55 (by decide)) 5)) ((f73 56 (by decide)).trans (f55 56 (by decide))) ((f73 57 (by decide)).trans (f55 57 (by decide))) ((f73 58 (by decide)).trans (f55 58 (by decide))) ((f73 59 (by decide)).trans (f55 59 (by decide))) hI101
            have I101 : jI102 σ71 := jI102_fr ((f74 6 (by decide)).trans (congrFun (f55 55 (by decide)) 6)) ((f73 60 (by decide)).trans (f55 60 (by decide))) ((f73 61 (by decide)).trans (f55 61 (by decide))) hI102
            have I102 : jI103 σ71 := jI103_fr ((f74 9 (by decide)).trans (congrFun (f55 55 (by decide)) 9)) hI103
            have I103 : jI104 σ71 := jI104_fr ((f74 10 (by decide)).trans (congrFun (f55 55 (by decide)) 10)) ((f74 12 (by decide)).trans (congrFun (f55 55 (by decide)) 12)) ((f74 13 (by decide)).trans (congrFun (f55 55 (by decide)) 13)) ((f73 62 (by decide)).trans (f55 62 (by decide))) ((f73 67 (by decide)).trans (f55 67 (by decide))) hI104
            have I104 : jI106 σ71 := jI106_fr ((f74 32 (by decide)).trans (congrFun (f55 55 (by decide)) 32)) ((f73 70 (by decide)).trans (f55 70 (by decide))) ((f73 71 (by decide)).trans (f55 71 (by decide))) ((f73 72 (by decide)).trans (f55 72 (by decide))) hI106
            have I105 : jI107 σ71 := jI107_fr ((f74 12 (by decide)).trans (congrFun (f55 55 (by decide)) 12)) ((f74 47 (by decide)).trans (congrFun (f55 55 (by decide)) 47)) ((f73 80 (by decide)).trans (f55 80 (by decide))) hI107
            have I106 : jI109 σ71 := jI109_fr ((f74 50 (by decide)).trans (congrFun (f55 55 (by decide)) 50)) hI109
            have I107 : jI110 σ71 := jI110_fr ((f73 86 (by decide)).trans (f55 86 (by decide))) ((f73 87 (by decide)).trans (f55 87 (by decide))) hI110
            have I108 : jI111 σ71 := jI111_fr ((f73 79 (by decide)).trans (f55 79 (by decide))) hI111
            have I109 : jI119 σ71 := jI119_fr ((f73 68 (by decide)).trans (f55 68 (by decide))) hI119
            have p110 : jKept σ71 := jKept.fr ((f73 75 (by decide)).trans (f55 75 (by decide))) ((f73 76 (by decide)).trans (f55 76 (by decide))) ((f73 77 (by decide)).trans (f55 77 (by decide))) hs_jKept
            have p111 : jBook σ71 := jBook.fr ((f74 47 (by decide)).trans (congrFun (f55 55 (by decide)) 47)) ((f74 10 (by decide)).trans (congrFun (f55 55 (by decide)) 10)) ((f73 81 (by decide)).trans (f55 81 (by decide))) hs_jBook
            have p112 : jNd12 σ71 := jNd12.fr ((congrFun (f73 12 (by decide)) 0).trans (congrFun (f55 12 (by decide)) 0)) ((congrFun (f73 12 (by decide)) 1).trans (congrFun (f55 12 (by decide)) 1)) ((f73 13 (by decide)).trans (f55 13 (by decide))) hs_jNd12
            have p113 : jN67 σ71 := jN67.fr ((f73 24 (by decide)).trans (f55 24 (by decide))) hs_jN67
            have p114 : jBl σ71 := jBl.fr ((congrFun (f73 22 (by decide)) 0).trans (congrFun (f55 22 (by decide)) 0)) ((congrFun (f73 22 (by decide)) 1).trans (congrFun (f55 22 (by decide)) 1)) ((f73 23 (by decide)).trans (f55 23 (by decide))) ((congrFun (f73 26 (by decide)) 6).trans (congrFun (f55 26 (by decide)) 6)) ((congrFun (f73 26 (by decide)) 7).trans (congrFun (f55 26 (by decide)) 7)) ((f73 29 (by decide)).trans (f55 29 (by decide))) ((f73 30 (by decide)).trans (f55 30 (by decide))) hs_jBl
            have p115 : jKb σ71 := jKb.fr ((congrFun (f73 31 (by decide)) 8).trans (congrFun (f55 31 (by decide)) 8)) ((congrFun (f73 31 (by decide)) 11).trans (congrFun (f55 31 (by decide)) 11)) ((f73 32 (by decide)).trans (f55 32 (by decide))) hs_jKb
            have p116 : jTR σ71 := jTR.fr ((f73 64 (by decide)).trans (f55 64 (by decide))) ((f73 65 (by decide)).trans (f55 65 (by decide))) hs_jTR
            have p117 : jKh σ71 := jKh.fr ((congrFun (f73 31 (by decide)) 8).trans (congrFun (f55 31 (by decide)) 8)) ((f73 32 (by decide)).trans (f55 32 (by decide))) ((f73 36 (by decide)).trans (f55 36 (by decide))) ((f73 37 (by decide)).trans (f55 37 (by decide))) hs_jKh
            have p118 : jKg σ71 := jKg.fr ((congrFun (f73 31 (by decide)) 8).trans (congrFun (f55 31 (by decide)) 8)) ((congrFun (f73 31 (by decide)) 9).trans (congrFun (f55 31 (by decide)) 9)) ((congrFun (f73 31 (by decide)) 11).trans (congrFun (f55 31 (by decide)) 11)) ((congrFun (f73 31 (by decide)) 12).trans (congrFun (f55 31 (by decide)) 12)) ((f73 32 (by decide)).trans (f55 32 (by decide))) ((f73 33 (by decide)).trans (f55 33 (by decide))) hs_jKg
            have p119 : jNz σ71 := jNz.fr ((f73 34 (by decide)).trans (f55 34 (by decide))) hs_jNz
            have p120 : jqSt σ71 := jqSt.fr ((f73 78 (by decide)).trans (f55 78 (by decide))) ((f74 42 (by decide)).trans (congrFun (f55 55 (by decide)) 42)) hs_jqSt
            have z121 : (σ71 2 0).toInt = (σ 2 0).toInt := (congrArg Int32.toInt (show σ71 2 0 = (σ 2 0) from ((congrFun (f73 2 (by decide)) 0).trans (congrFun (f55 2 (by decide)) 0))))
            have z122 : (σ71 55 6).toInt = (σ 55 6).toInt := (congrArg Int32.toInt (show σ71 55 6 = (σ 55 6) from ((f74 6 (by decide)).trans (congrFun (f55 55 (by decide)) 6))))
            have z123 : (σ71 2 2).toInt = (σ 2 2).toInt := (congrArg Int32.toInt (show σ71 2 2 = (σ 2 2) from ((congrFun (f73 2 (by decide)) 2).trans (congrFun (f55 2 (by decide)) 2))))
            have z124 : (σ71 55 5).toInt = (σ 55 5).toInt := (congrArg Int32.toInt (show σ71 55 5 = (σ 55 5) from ((f74 5 (by decide)).trans (congrFun (f55 55 (by decide)) 5))))
            have z125 : (σ71 2 3).toInt = (σ 2 3).toInt := (congrArg Int32.toInt (show σ71 2 3 = (σ 2 3) from ((congrFun (f73 2 (by decide)) 3).trans (congrFun (f55 2 (by decide)) 3))))
            have z126 : (σ71 55 4).toInt = (σ 55 4).toInt := (congrArg Int32.toInt (show σ71 55 4 = (σ 55 4) from ((f74 4 (by decide)).trans (congrFun (f55 55 (by decide)) 4))))
            have z127 : (σ71 9 0).toInt = (σ53 9 0).toInt := (congrArg Int32.toInt (show σ71 9 0 = (σ53 9 0) from (congrFun (f73 9 (by decide)) 0)))
            have z128 : (σ71 16 0).toInt = (σ 16 0).toInt := (congrArg Int32.toInt (show σ71 16 0 = (σ 16 0) from ((congrFun (f73 16 (by decide)) 0).trans (congrFun (f55 16 (by decide)) 0))))
            have z129 : (σ71 55 10).toInt = (σ 55 10).toInt := (congrArg Int32.toInt (show σ71 55 10 = (σ 55 10) from ((f74 10 (by decide)).trans (congrFun (f55 55 (by decide)) 10))))
            have z130 : (σ71 16 1).toInt = (σ 16 1).toInt := (congrArg Int32.toInt (show σ71 16 1 = (σ 16 1) from ((congrFun (f73 16 (by decide)) 1).trans (congrFun (f55 16 (by decide)) 1))))
            have z131 : (σ71 55 12).toInt = (σ 55 12).toInt := (congrArg Int32.toInt (show σ71 55 12 = (σ 55 12) from ((f74 12 (by decide)).trans (congrFun (f55 55 (by decide)) 12))))
            have z132 : (σ71 16 2).toInt = (σ 16 2).toInt := (congrArg Int32.toInt (show σ71 16 2 = (σ 16 2) from ((congrFun (f73 16 (by decide)) 2).trans (congrFun (f55 16 (by decide)) 2))))
            have z133 : (σ71 55 13).toInt = (σ 55 13).toInt := (congrArg Int32.toInt (show σ71 55 13 = (σ 55 13) from ((f74 13 (by decide)).trans (congrFun (f55 55 (by decide)) 13))))
            have z134 : (σ71 38 0).toInt = (σ 38 0).toInt := (congrArg Int32.toInt (show σ71 38 0 = (σ 38 0) from ((congrFun (f73 38 (by decide)) 0).trans (congrFun (f55 38 (by decide)) 0))))
            have z135 : (σ71 55 32).toInt = (σ 55 32).toInt := (congrArg Int32.toInt (show σ71 55 32 = (σ 55 32) from ((f74 32 (by decide)).trans (congrFun (f55 55 (by decide)) 32))))
            have z136 : (σ71 38 1).toInt = (σ 38 1).toInt := (congrArg Int32.toInt (show σ71 38 1 = (σ 38 1) from ((congrFun (f73 38 (by decide)) 1).trans (congrFun (f55 38 (by decide)) 1))))
            have z137 : (σ71 55 55).toInt = (σ 55 55).toInt := (congrArg Int32.toInt (show σ71 55 55 = (σ 55 55) from ((f74 55 (by decide)).trans (congrFun (f55 55 (by decide)) 55))))
            have z138 : (σ71 47 0).toInt = (σ 47 0).toInt := (congrArg Int32.toInt (show σ71 47 0 = (σ 47 0) from ((congrFun (f73 47 (by decide)) 0).trans (congrFun (f55 47 (by decide)) 0))))
            have z139 : (σ71 55 47).toInt = (σ 55 47).toInt := (congrArg Int32.toInt (show σ71 55 47 = (σ 55 47) from ((f74 47 (by decide)).trans (congrFun (f55 55 (by decide)) 47))))
            have z140 : (σ71 55 30).toInt = (σ 55 30).toInt := (congrArg Int32.toInt (show σ71 55 30 = (σ 55 30) from ((f74 30 (by decide)).trans (congrFun (f55 55 (by decide)) 30))))
            have z141 : (σ71 55 31).toInt = (σ 55 31).toInt := (congrArg Int32.toInt (show σ71 55 31 = (σ 55 31) from ((f74 31 (by decide)).trans (congrFun (f55 55 (by decide)) 31))))
            have z142 : (σ71 2 1).toInt = (σ 2 1).toInt := (congrArg Int32.toInt (show σ71 2 1 = (σ 2 1) from ((congrFun (f73 2 (by decide)) 1).trans (congrFun (f55 2 (by decide)) 1))))
            have z143 : (σ71 55 9).toInt = (σ 55 9).toInt := (congrArg Int32.toInt (show σ71 55 9 = (σ 55 9) from ((f74 9 (by decide)).trans (congrFun (f55 55 (by decide)) 9))))
            have z144 : (σ71 55 42).toInt = (σ 55 42).toInt := (congrArg Int32.toInt (show σ71 55 42 = (σ 55 42) from ((f74 42 (by decide)).trans (congrFun (f55 55 (by decide)) 42))))
            have z145 : (σ71 26 6).toInt = (σ 26 6).toInt := (congrArg Int32.toInt (show σ71 26 6 = (σ 26 6) from ((congrFun (f73 26 (by decide)) 6).trans (congrFun (f55 26 (by decide)) 6))))
            have z147 : (σ71 18 0).toInt = (σ 18 0).toInt := (congrArg Int32.toInt (show σ71 18 0 = (σ 18 0) from ((congrFun (f73 18 (by decide)) 0).trans (congrFun (f55 18 (by decide)) 0))))
            have z148 : (σ71 22 0).toInt = (σ 22 0).toInt := (congrArg Int32.toInt (show σ71 22 0 = (σ 22 0) from ((congrFun (f73 22 (by decide)) 0).trans (congrFun (f55 22 (by decide)) 0))))
            exact by exact ih x86 σ71 τ _ _ ls (by have h9 := tx86; omega) ⟨I87, I88, I89, I90, I91, I92, I93, I94, I95, I96, I97, I98, I99, I100, I101, I102, I103, I75, I104, I105, I106, I107, I108, I109, p110, p111, p112, p113, p114, p115, p116, p117, p118, p119, p120, (by rw [z121, z122]; exact ht0), (by rw [z123, z124]; exact ht1), (by rw [z123, z125, z126]; exact ht2), (by omega), (by rw [z128, z129]; exact ht4), (by rw [z130, z131]; exact ht5), (by rw [z132, z133]; exact ht6), (by rw [z134, z135]; exact ht7), (by rw [z136, z137]; exact ht8), (by rw [z138, z139]; exact ht9), (by rw [z140]; exact ht10), (by rw [z141]; exact ht11), (by rw [z142, z143]; exact ht12), (by rw [z144]; exact ht13), (by have h9 := tx86; omega), (by have h9 := tx86; omega), (show jNumP (σ71 3) (σ71 56) (σ71 6) (σ71 57) (σ71 7) (σ71 58) (σ71 8) (σ71 59) (σ71 55 6).toInt (σ71 55 4).toInt by rw [show σ71 3 = σ 3 from ((f73 3 (by decide)).trans (f55 3 (by decide))), show σ71 56 = σ 56 from ((f73 56 (by decide)).trans (f55 56 (by decide))), show σ71 6 = σ 6 from ((f73 6 (by decide)).trans (f55 6 (by decide))), show σ71 57 = σ 57 from ((f73 57 (by decide)).trans (f55 57 (by decide))), show σ71 7 = σ 7 from ((f73 7 (by decide)).trans (f55 7 (by decide))), show σ71 58 = σ 58 from ((f73 58 (by decide)).trans (f55 58 (by decide))), show σ71 8 = σ 8 from ((f73 8 (by decide)).trans (f55 8 (by decide))), show σ71 59 = σ 59 from ((f73 59 (by decide)).trans (f55 59 (by decide))), show (σ71 55 6).toInt = (σ 55 6).toInt from z122, show (σ71 55 4).toInt = (σ 55 4).toInt from z126]; exact hr0), (show jOvP (σ71 56) (σ71 57) (σ71 58) (σ71 59) (σ71 55 4).toInt by rw [show σ71 56 = σ 56 from ((f73 56 (by decide)).trans (f55 56 (by decide))), show σ71 57 = σ 57 from ((f73 57 (by decide)).trans (f55 57 (by decide))), show σ71 58 = σ 58 from ((f73 58 (by decide)).trans (f55 58 (by decide))), show σ71 59 = σ 59 from ((f73 59 (by decide)).trans (f55 59 (by decide))), show (σ71 55 4).toInt = (σ 55 4).toInt from z126]; exact hr1), (show jTp (σ71 10) (σ71 63) (σ71 55 15).toInt by rw [show σ71 10 = σ 10 from ((f73 10 (by decide)).trans k67), show σ71 63 = σ 63 from (k84.trans (f55 63 (by decide)))]; exact hr2.le (by omega)), (show jSo (σ71 17) (σ71 62) (σ71 16 0).toInt by rw [show σ71 17 = σ 17 from ((f73 17 (by decide)).trans (f55 17 (by decide))), show σ71 62 = σ 62 from ((f73 62 (by decide)).trans (f55 62 (by decide))), show (σ71 16 0).toInt = (σ 16 0).toInt from z128]; exact hr3), (show jShP (σ71 51) (σ71 52) (σ71 53) (σ71 86) (σ71 87) (σ71 55 32).toInt by rw [show σ71 51 = σ 51 from ((f73 51 (by decide)).trans (f55 51 (by decide))), show σ71 52 = σ 52 from ((f73 52 (by decide)).trans (f55 52 (by decide))), show σ71 53 = σ 53 from ((f73 53 (by decide)).trans (f55 53 (by decide))), show σ71 86 = σ 86 from ((f73 86 (by decide)).trans (f55 86 (by decide))), show σ71 87 = σ 87 from ((f73 87 (by decide)).trans (f55 87 (by decide)))]; exact (hr4.up (by omega) (by omega))), (show jEl (σ71 51) (σ71 52) (τ 54) (τ 88) by rw [show σ71 51 = σ 51 from ((f73 51 (by decide)).trans (f55 51 (by decide))), show σ71 52 = σ 52 from ((f73 52 (by decide)).trans (f55 52 (by decide)))]; exact hr5), (show jByP (σ71 51) (σ71 52) (τ 54) by rw [show σ71 51 = σ 51 from ((f73 51 (by decide)).trans (f55 51 (by decide))), show σ71 52 = σ 52 from ((f73 52 (by decide)).trans (f55 52 (by decide)))]; exact hr6), (show jBk (σ71 48) (σ71 80) (σ71 49) (σ71 81) (σ71 55 47).toInt by rw [show σ71 48 = σ 48 from ((f73 48 (by decide)).trans (f55 48 (by decide))), show σ71 49 = σ 49 from ((f73 49 (by decide)).trans (f55 49 (by decide))), show σ71 80 = σ 80 from ((f73 80 (by decide)).trans (f55 80 (by decide))), show σ71 81 = σ 81 from ((f73 81 (by decide)).trans (f55 81 (by decide))), show (σ71 55 47).toInt = (σ 55 47).toInt from z139]; exact hr7), (show jKd (σ71 39) (σ71 70) (σ71 55 32).toInt by rw [show σ71 39 = σ 39 from ((f73 39 (by decide)).trans (f55 39 (by decide))), show σ71 70 = σ 70 from ((f73 70 (by decide)).trans (f55 70 (by decide))), show (σ71 55 32).toInt = (σ 55 32).toInt from z135]; exact hr8), (show jTt (σ71 42) (σ71 85) (σ71 55 55).toInt by rw [show σ71 42 = σ 42 from ((f73 42 (by decide)).trans (f55 42 (by decide))), show σ71 85 = σ 85 from ((f73 85 (by decide)).trans (f55 85 (by decide))), show (σ71 55 55).toInt = (σ 55 55).toInt from z137]; exact hr9), (fun k hk => by rw [show σ71 4 = σ 4 from ((f73 4 (by decide)).trans (f55 4 (by decide))), show σ71 5 = σ 5 from ((f73 5 (by decide)).trans (f55 5 (by decide))), show σ71 60 = σ 60 from ((f73 60 (by decide)).trans (f55 60 (by decide))), show σ71 61 = σ 61 from ((f73 61 (by decide)).trans (f55 61 (by decide)))]; exact hr10 k (by omega)), (fun nm => by rw [show σ71 19 = σ 19 from ((f73 19 (by decide)).trans (f55 19 (by decide))), show σ71 64 = σ 64 from ((f73 64 (by decide)).trans (f55 64 (by decide))), show σ71 65 = σ 65 from ((f73 65 (by decide)).trans (f55 65 (by decide))), show (σ71 18 0).toInt = (σ 18 0).toInt from z147]; exact hr11 nm), (fun nm => by rw [show σ71 23 = σ 23 from ((f73 23 (by decide)).trans (f55 23 (by decide))), show σ71 64 = σ 64 from ((f73 64 (by decide)).trans (f55 64 (by decide))), show σ71 65 = σ 65 from ((f73 65 (by decide)).trans (f55 65 (by decide))), show (σ71 22 0).toInt = (σ 22 0).toInt from z148]; exact hr12 nm), (show jAlP (σ71 56) (σ71 57) (σ71 58) (σ71 59) (σ71 55 4).toInt by rw [show σ71 56 = σ 56 from ((f73 56 (by decide)).trans (f55 56 (by decide))), show σ71 57 = σ 57 from ((f73 57 (by decide)).trans (f55 57 (by decide))), show σ71 58 = σ 58 from ((f73 58 (by decide)).trans (f55 58 (by decide))), show σ71 59 = σ 59 from ((f73 59 (by decide)).trans (f55 59 (by decide))), show (σ71 55 4).toInt = (σ 55 4).toInt from z126]; exact hr13), (show jqbN (σ71 80) (σ71 55 47).toInt by rw [show σ71 80 = σ 80 from ((f73 80 (by decide)).trans (f55 80 (by decide))), show (σ71 55 47).toInt = (σ 55 47).toInt from z139]; exact hr14)⟩ hP hS (lv_sub hl [0, 1, 2, 3] rfl)
        · obtain ⟨q153, k149, k150, k151, k152⟩ := h80
          exact absurd (by omega : False) id
        · obtain ⟨q159, k154, k155, k156, k157, k158⟩ := h81
          exact absurd (by omega : False) id
    · obtain ⟨q164, k160, k161, k162, k163⟩ := h63
      have q164 := q164.symm
      subst q164
      refine lv_pop hx hb dL_law_362 rfl ?_
      refine lv_aload_n hx hb dL_law_363 rfl (lv_at hl 1 rfl) ?_
      refine lv_aload_n hx hb dL_law_364 rfl (lv_at hl 3 rfl) ?_
      refine lv_iload_n hx hb dL_law_365 rfl (lv_at hl 0 rfl) ?_
      refine lv_iconst (v := 1) hx hb dL_law_366 (by decide) ?_
      refine lv_iadd hx hb dL_law_367 ?_
      refine jtopr ex49.symm ?_
      exact by
       refine va_sld hx hb hX hbl hbA hS (jin tx49 (by omega) (by omega)) dL_law_368 ?_
       refine lv_aload_n hx hb dL_law_369 rfl (lv_at hl 3 rfl) ?_
       refine lv_iload_n hx hb dL_law_370 rfl (lv_at hl 0 rfl) ?_
       refine lv_iconst (v := 2) hx hb dL_law_371 (by decide) ?_
       refine lv_iadd hx hb dL_law_372 ?_
       refine jtopr ex51.symm ?_
       refine va_sld hx hb hX hbl hbA hS (jin tx51 (by omega) (by omega)) dL_law_373 ?_
       have I165 : jI105 σ53 := jI105_fr (congrFun (f55 55 (by decide)) 15) (f55 65 (by decide)) hI105
       have z166 : (σ53 55 15).toInt = (σ 55 15).toInt := (congrArg Int32.toInt (show σ53 55 15 = (σ 55 15) from (congrFun (f55 55 (by decide)) 15)))
       exact by
        refine jcallV (As := [.int (xs x49.toNatClampNeg), .int (xs x51.toNatClampNeg)]) (rest := []) ⟨hx, hb, hml, hown, hts⟩ hK hP hA hS hZ (c_X12_feed l D cI cL ad zz hJ σ53 τ (xs x49.toNatClampNeg) ((xs x49.toNatClampNeg).toInt) rfl (xs x51.toNatClampNeg) ((xs x51.toNatClampNeg).toInt) rfl I165) cw_RL_35 (jc_55 cI cL ad σ53 τ) rfl ⟨Nat.le_of_ble_eq_true rfl, Nat.le_of_ble_eq_true rfl⟩ rfl rfl rfl hl.1 rfl (Nat.le_of_ble_eq_true rfl) dL_law_374 ⟨Nat.le_of_ble_eq_true rfl, Nat.le_of_ble_eq_true rfl⟩ (fun r168 σ167 τ167 H locs h167 hP hS => ?_)
        obtain ⟨rfl, f169, f170, I171, h167⟩ := h167
        obtain ⟨i173, w174⟩ : (0 ≤ (σ167 55 15).toInt ∧ (σ167 55 15).toInt ≤ 80) ∧ (∀ k : Nat, k < 2 → (-1) ≤ (σ167 65 k).toInt ∧ (σ167 65 k).toInt ≤ 80) := id I171
        rcases h167 with h175 | h176 | h177
        · obtain ⟨q181, k178, k179, k180⟩ := h175
          exact absurd (by omega : False) id
        · obtain ⟨q186, k182, k183, k184, k185⟩ := h176
          have q186 := q186.symm
          subst q186
          refine lv_pop hx hb dL_law_377 rfl ?_
          refine lv_goto (tgt := 1357) hx hb dL_law_378 (by decide) ?_
          obtain ⟨x187, ex187⟩ : ∃ y : Int32, y = x0 + 6 := ⟨_, rfl⟩
          exact by
           have tx187 : x187.toInt = x0.toInt + 6 := (jadd ex187 rfl jz_6 (by omega) (by omega)).trans (by omega)
           refine lv_iinc (v := x187) (lv' := [(3, .int x187), (2, .ref (ad 55)), (1, .ref (ad 0)), (0, .ref b)]) hx hb dL_law_1357 hl (k := 0) rfl (by rw [ex187]; rfl) (by decide) rfl (fun ls hl => ?_)
           refine lv_goto (tgt := 18) hx hb dL_law_1360 (by decide) ?_
           have I188 : jI2 σ167 := jI2_fr ((congrFun (f169 2 (by decide)) 0).trans (congrFun (f55 2 (by decide)) 0)) ((congrFun (f169 2 (by decide)) 1).trans (congrFun (f55 2 (by decide)) 1)) ((congrFun (f169 2 (by decide)) 2).trans (congrFun (f55 2 (by decide)) 2)) ((congrFun (f169 2 (by decide)) 3).trans (congrFun (f55 2 (by decide)) 3)) ((f169 6 (by decide)).trans (f55 6 (by decide))) ((f169 5 (by decide)).trans (f55 5 (by decide))) hI2
           have I189 : jI9 σ167 := jI9_fr (congrFun (f169 9 (by decide)) 0) (f169 10 (by decide)) (f169 11 (by decide)) I57
           have I190 : jI12 σ167 := jI12_fr ((congrFun (f169 12 (by decide)) 0).trans (congrFun (f55 12 (by decide)) 0)) ((f169 13 (by decide)).trans (f55 13 (by decide))) hI12
           have I191 : jI16 σ167 := jI16_fr ((congrFun (f169 16 (by decide)) 0).trans (congrFun (f55 16 (by decide)) 0)) ((congrFun (f169 16 (by decide)) 1).trans (congrFun (f55 16 (by decide)) 1)) ((congrFun (f169 16 (by decide)) 2).trans (congrFun (f55 16 (by decide)) 2)) ((f169 17 (by decide)).trans (f55 17 (by decide))) hI16
           have I192 : jI18 σ167 := jI18_fr ((congrFun (f169 18 (by decide)) 0).trans (congrFun (f55 18 (by decide)) 0)) ((f169 19 (by decide)).trans (f55 19 (by decide))) hI18
           have I193 : jI22 σ167 := jI22_fr ((congrFun (f169 22 (by decide)) 0).trans (congrFun (f55 22 (by decide)) 0)) ((f169 23 (by decide)).trans (f55 23 (by decide))) hI22
           exact by
            have I194 : jI31 σ167 := jI31_fr ((congrFun (f169 31 (by decide)) 8).trans (congrFun (f55 31 (by decide)) 8)) ((congrFun (f169 31 (by decide)) 10).trans (congrFun (f55 31 (by decide)) 10)) ((congrFun (f169 31 (by decide)) 11).trans (congrFun (f55 31 (by decide)) 11)) ((f169 33 (by decide)).trans (f55 33 (by decide))) ((f169 35 (by decide)).trans (f55 35 (by decide))) ((f169 36 (by decide)).trans (f55 36 (by decide))) hI31
            have I195 : jI38 σ167 := jI38_fr ((congrFun (f169 38 (by decide)) 0).trans (congrFun (f55 38 (by decide)) 0)) ((congrFun (f169 38 (by decide)) 1).trans (congrFun (f55 38 (by decide)) 1)) ((f169 39 (by decide)).trans (f55 39 (by decide))) hI38
            have I196 : jI43 σ167 := jI43_fr ((congrFun (f169 43 (by decide)) 8).trans (congrFun (f55 43 (by decide)) 8)) hI43
            have I197 : jI47 σ167 := jI47_fr ((congrFun (f169 47 (by decide)) 0).trans (congrFun (f55 47 (by decide)) 0)) ((f169 48 (by decide)).trans (f55 48 (by decide))) ((f169 49 (by decide)).trans (f55 49 (by decide))) hI47
            have I198 : jI50 σ167 := jI50_fr ((f169 52 (by decide)).trans (f55 52 (by decide))) hI50
            have I199 : jI0 σ167 := jI0_fr ((f169 1 (by decide)).trans (f55 1 (by decide))) hI0
            have I200 : jI26 σ167 := jI26_fr ((congrFun (f169 26 (by decide)) 6).trans (congrFun (f55 26 (by decide)) 6)) hI26
            have I201 : jI101 σ167 := jI101_fr ((f170 4 (by decide)).trans (congrFun (f55 55 (by decide)) 4)) ((f170 5 (by decide)).trans (congrFun (f55 55 (by decide)) 5)) ((f169 56 (by decide)).trans (f55 56 (by decide))) ((f169 57 (by decide)).trans (f55 57 (by decide))) ((f169 58 (by decide)).trans (f55 58 (by decide))) ((f169 59 (by decide)).trans (f55 59 (by decide))) hI101
            have I202 : jI102 σ167 := jI102_fr ((f170 6 (by decide)).trans (congrFun (f55 55 (by decide)) 6)) ((f169 60 (by decide)).trans (f55 60 (by decide))) ((f169 61 (by decide)).trans (f55 61 (by decide))) hI102
            have I203 : jI103 σ167 := jI103_fr ((f170 9 (by decide)).trans (congrFun (f55 55 (by decide)) 9)) hI103
            have I204 : jI104 σ167 := jI104_fr ((f170 10 (by decide)).trans (congrFun (f55 55 (by decide)) 10)) ((f170 12 (by decide)).trans (congrFun (f55 55 (by decide)) 12)) ((f170 13 (by decide)).trans (congrFun (f55 55 (by decide)) 13)) ((f169 62 (by decide)).trans (f55 62 (by decide))) ((f169 67 (by decide)).trans (f55 67 (by decide))) hI104
            have I205 : jI106 σ167 := jI106_fr ((f170 32 (by decide)).trans (congrFun (f55 55 (by decide)) 32)) ((f169 70 (by decide)).trans (f55 70 (by decide))) ((f169 71 (by decide)).trans (f55 71 (by decide))) ((f169 72 (by decide)).trans (f55 72 (by decide))) hI106
            have I206 : jI107 σ167 := jI107_fr ((f170 12 (by decide)).trans (congrFun (f55 55 (by decide)) 12)) ((f170 47 (by decide)).trans (congrFun (f55 55 (by decide)) 47)) ((f169 80 (by decide)).trans (f55 80 (by decide))) hI107
            have I207 : jI109 σ167 := jI109_fr ((f170 50 (by decide)).trans (congrFun (f55 55 (by decide)) 50)) hI109
            have I208 : jI110 σ167 := jI110_fr ((f169 86 (by decide)).trans (f55 86 (by decide))) ((f169 87 (by decide)).trans (f55 87 (by decide))) hI110
            have I209 : jI111 σ167 := jI111_fr ((f169 79 (by decide)).trans (f55 79 (by decide))) hI111
            have I210 : jI119 σ167 := jI119_fr ((f169 68 (by decide)).trans (f55 68 (by decide))) hI119
            have p211 : jKept σ167 := jKept.fr ((f169 75 (by decide)).trans (f55 75 (by decide))) ((f169 76 (by decide)).trans (f55 76 (by decide))) ((f169 77 (by decide)).trans (f55 77 (by decide))) hs_jKept
            have p212 : jBook σ167 := jBook.fr ((f170 47 (by decide)).trans (congrFun (f55 55 (by decide)) 47)) ((f170 10 (by decide)).trans (congrFun (f55 55 (by decide)) 10)) ((f169 81 (by decide)).trans (f55 81 (by decide))) hs_jBook
            have p213 : jNd12 σ167 := jNd12.fr ((congrFun (f169 12 (by decide)) 0).trans (congrFun (f55 12 (by decide)) 0)) ((congrFun (f169 12 (by decide)) 1).trans (congrFun (f55 12 (by decide)) 1)) ((f169 13 (by decide)).trans (f55 13 (by decide))) hs_jNd12
            have p214 : jN67 σ167 := jN67.fr ((f169 24 (by decide)).trans (f55 24 (by decide))) hs_jN67
            have p215 : jBl σ167 := jBl.fr ((congrFun (f169 22 (by decide)) 0).trans (congrFun (f55 22 (by decide)) 0)) ((congrFun (f169 22 (by decide)) 1).trans (congrFun (f55 22 (by decide)) 1)) ((f169 23 (by decide)).trans (f55 23 (by decide))) ((congrFun (f169 26 (by decide)) 6).trans (congrFun (f55 26 (by decide)) 6)) ((congrFun (f169 26 (by decide)) 7).trans (congrFun (f55 26 (by decide)) 7)) ((f169 29 (by decide)).trans (f55 29 (by decide))) ((f169 30 (by decide)).trans (f55 30 (by decide))) hs_jBl
            have p216 : jKb σ167 := jKb.fr ((congrFun (f169 31 (by decide)) 8).trans (congrFun (f55 31 (by decide)) 8)) ((congrFun (f169 31 (by decide)) 11).trans (congrFun (f55 31 (by decide)) 11)) ((f169 32 (by decide)).trans (f55 32 (by decide))) hs_jKb
            have p217 : jTR σ167 := jTR.fr ((f169 64 (by decide)).trans (f55 64 (by decide))) ((f169 65 (by decide)).trans (f55 65 (by decide))) hs_jTR
            have p218 : jKh σ167 := jKh.fr ((congrFun (f169 31 (by decide)) 8).trans (congrFun (f55 31 (by decide)) 8)) ((f169 32 (by decide)).trans (f55 32 (by decide))) ((f169 36 (by decide)).trans (f55 36 (by decide))) ((f169 37 (by decide)).trans (f55 37 (by decide))) hs_jKh
            have p219 : jKg σ167 := jKg.fr ((congrFun (f169 31 (by decide)) 8).trans (congrFun (f55 31 (by decide)) 8)) ((congrFun (f169 31 (by decide)) 9).trans (congrFun (f55 31 (by decide)) 9)) ((congrFun (f169 31 (by decide)) 11).trans (congrFun (f55 31 (by decide)) 11)) ((congrFun (f169 31 (by decide)) 12).trans (congrFun (f55 31 (by decide)) 12)) ((f169 32 (by decide)).trans (f55 32 (by decide))) ((f169 33 (by decide)).trans (f55 33 (by decide))) hs_jKg
            have p220 : jNz σ167 := jNz.fr ((f169 34 (by decide)).trans (f55 34 (by decide))) hs_jNz
            have p221 : jqSt σ167 := jqSt.fr ((f169 78 (by decide)).trans (f55 78 (by decide))) ((f170 42 (by decide)).trans (congrFun (f55 55 (by decide)) 42)) hs_jqSt
            have z222 : (σ167 2 0).toInt = (σ 2 0).toInt := (congrArg Int32.toInt (show σ167 2 0 = (σ 2 0) from ((congrFun (f169 2 (by decide)) 0).trans (congrFun (f55 2 (by decide)) 0))))
            have z223 : (σ167 55 6).toInt = (σ 55 6).toInt := (congrArg Int32.toInt (show σ167 55 6 = (σ 55 6) from ((f170 6 (by decide)).trans (congrFun (f55 55 (by decide)) 6))))
            have z224 : (σ167 2 2).toInt = (σ 2 2).toInt := (congrArg Int32.toInt (show σ167 2 2 = (σ 2 2) from ((congrFun (f169 2 (by decide)) 2).trans (congrFun (f55 2 (by decide)) 2))))
            have z225 : (σ167 55 5).toInt = (σ 55 5).toInt := (congrArg Int32.toInt (show σ167 55 5 = (σ 55 5) from ((f170 5 (by decide)).trans (congrFun (f55 55 (by decide)) 5))))
            have z226 : (σ167 2 3).toInt = (σ 2 3).toInt := (congrArg Int32.toInt (show σ167 2 3 = (σ 2 3) from ((congrFun (f169 2 (by decide)) 3).trans (congrFun (f55 2 (by decide)) 3))))
            have z227 : (σ167 55 4).toInt = (σ 55 4).toInt := (congrArg Int32.toInt (show σ167 55 4 = (σ 55 4) from ((f170 4 (by decide)).trans (congrFun (f55 55 (by decide)) 4))))
            have z228 : (σ167 9 0).toInt = (σ53 9 0).toInt := (congrArg Int32.toInt (show σ167 9 0 = (σ53 9 0) from (congrFun (f169 9 (by decide)) 0)))
            have z229 : (σ167 16 0).toInt = (σ 16 0).toInt := (congrArg Int32.toInt (show σ167 16 0 = (σ 16 0) from ((congrFun (f169 16 (by decide)) 0).trans (congrFun (f55 16 (by decide)) 0))))
            have z230 : (σ167 55 10).toInt = (σ 55 10).toInt := (congrArg Int32.toInt (show σ167 55 10 = (σ 55 10) from ((f170 10 (by decide)).trans (congrFun (f55 55 (by decide)) 10))))
            have z231 : (σ167 16 1).toInt = (σ 16 1).toInt := (congrArg Int32.toInt (show σ167 16 1 = (σ 16 1) from ((congrFun (f169 16 (by decide)) 1).trans (congrFun (f55 16 (by decide)) 1))))
            have z232 : (σ167 55 12).toInt = (σ 55 12).toInt := (congrArg Int32.toInt (show σ167 55 12 = (σ 55 12) from ((f170 12 (by decide)).trans (congrFun (f55 55 (by decide)) 12))))
            have z233 : (σ167 16 2).toInt = (σ 16 2).toInt := (congrArg Int32.toInt (show σ167 16 2 = (σ 16 2) from ((congrFun (f169 16 (by decide)) 2).trans (congrFun (f55 16 (by decide)) 2))))
            have z234 : (σ167 55 13).toInt = (σ 55 13).toInt := (congrArg Int32.toInt (show σ167 55 13 = (σ 55 13) from ((f170 13 (by decide)).trans (congrFun (f55 55 (by decide)) 13))))
            have z235 : (σ167 38 0).toInt = (σ 38 0).toInt := (congrArg Int32.toInt (show σ167 38 0 = (σ 38 0) from ((congrFun (f169 38 (by decide)) 0).trans (congrFun (f55 38 (by decide)) 0))))
            have z236 : (σ167 55 32).toInt = (σ 55 32).toInt := (congrArg Int32.toInt (show σ167 55 32 = (σ 55 32) from ((f170 32 (by decide)).trans (congrFun (f55 55 (by decide)) 32))))
            have z237 : (σ167 38 1).toInt = (σ 38 1).toInt := (congrArg Int32.toInt (show σ167 38 1 = (σ 38 1) from ((congrFun (f169 38 (by decide)) 1).trans (congrFun (f55 38 (by decide)) 1))))
            have z238 : (σ167 55 55).toInt = (σ 55 55).toInt := (congrArg Int32.toInt (show σ167 55 55 = (σ 55 55) from ((f170 55 (by decide)).trans (congrFun (f55 55 (by decide)) 55))))
            have z239 : (σ167 47 0).toInt = (σ 47 0).toInt := (congrArg Int32.toInt (show σ167 47 0 = (σ 47 0) from ((congrFun (f169 47 (by decide)) 0).trans (congrFun (f55 47 (by decide)) 0))))
            have z240 : (σ167 55 47).toInt = (σ 55 47).toInt := (congrArg Int32.toInt (show σ167 55 47 = (σ 55 47) from ((f170 47 (by decide)).trans (congrFun (f55 55 (by decide)) 47))))
            have z241 : (σ167 55 30).toInt = (σ 55 30).toInt := (congrArg Int32.toInt (show σ167 55 30 = (σ 55 30) from ((f170 30 (by decide)).trans (congrFun (f55 55 (by decide)) 30))))
            have z242 : (σ167 55 31).toInt = (σ 55 31).toInt := (congrArg Int32.toInt (show σ167 55 31 = (σ 55 31) from ((f170 31 (by decide)).trans (congrFun (f55 55 (by decide)) 31))))
            have z243 : (σ167 2 1).toInt = (σ 2 1).toInt := (congrArg Int32.toInt (show σ167 2 1 = (σ 2 1) from ((congrFun (f169 2 (by decide)) 1).trans (congrFun (f55 2 (by decide)) 1))))
            have z244 : (σ167 55 9).toInt = (σ 55 9).toInt := (congrArg Int32.toInt (show σ167 55 9 = (σ 55 9) from ((f170 9 (by decide)).trans (congrFun (f55 55 (by decide)) 9))))
            have z245 : (σ167 55 42).toInt = (σ 55 42).toInt := (congrArg Int32.toInt (show σ167 55 42 = (σ 55 42) from ((f170 42 (by decide)).trans (congrFun (f55 55 (by decide)) 42))))
            have z246 : (σ167 26 6).toInt = (σ 26 6).toInt := (congrArg Int32.toInt (show σ167 26 6 = (σ 26 6) from ((congrFun (f169 26 (by decide)) 6).trans (congrFun (f55 26 (by decide)) 6))))
            have z248 : (σ167 18 0).toInt = (σ 18 0).toInt := (congrArg Int32.toInt (show σ167 18 0 = (σ 18 0) from ((congrFun (f169 18 (by decide)) 0).trans (congrFun (f55 18 (by decide)) 0))))
            have z249 : (σ167 22 0).toInt = (σ 22 0).toInt := (congrArg Int32.toInt (show σ167 22 0 = (σ 22 0) from ((congrFun (f169 22 (by decide)) 0).trans (congrFun (f55 22 (by decide)) 0))))
            exact by exact ih x187 σ167 τ _ _ ls (by have h9 := tx187; omega) ⟨I188, I189, I190, I191, I192, I193, I194, I195, I196, I197, I198, I199, I200, I201, I202, I203, I204, I171, I205, I206, I207, I208, I209, I210, p211, p212, p213, p214, p215, p216, p217, p218, p219, p220, p221, (by rw [z222, z223]; exact ht0), (by rw [z224, z225]; exact ht1), (by rw [z224, z226, z227]; exact ht2), (by omega), (by rw [z229, z230]; exact ht4), (by rw [z231, z232]; exact ht5), (by rw [z233, z234]; exact ht6), (by rw [z235, z236]; exact ht7), (by rw [z237, z238]; exact ht8), (by rw [z239, z240]; exact ht9), (by rw [z241]; exact ht10), (by rw [z242]; exact ht11), (by rw [z243, z244]; exact ht12), (by rw [z245]; exact ht13), (by have h9 := tx187; omega), (by have h9 := tx187; omega), (show jNumP (σ167 3) (σ167 56) (σ167 6) (σ167 57) (σ167 7) (σ167 58) (σ167 8) (σ167 59) (σ167 55 6).toInt (σ167 55 4).toInt by rw [show σ167 3 = σ 3 from ((f169 3 (by decide)).trans (f55 3 (by decide))), show σ167 56 = σ 56 from ((f169 56 (by decide)).trans (f55 56 (by decide))), show σ167 6 = σ 6 from ((f169 6 (by decide)).trans (f55 6 (by decide))), show σ167 57 = σ 57 from ((f169 57 (by decide)).trans (f55 57 (by decide))), show σ167 7 = σ 7 from ((f169 7 (by decide)).trans (f55 7 (by decide))), show σ167 58 = σ 58 from ((f169 58 (by decide)).trans (f55 58 (by decide))), show σ167 8 = σ 8 from ((f169 8 (by decide)).trans (f55 8 (by decide))), show σ167 59 = σ 59 from ((f169 59 (by decide)).trans (f55 59 (by decide))), show (σ167 55 6).toInt = (σ 55 6).toInt from z223, show (σ167 55 4).toInt = (σ 55 4).toInt from z227]; exact hr0), (show jOvP (σ167 56) (σ167 57) (σ167 58) (σ167 59) (σ167 55 4).toInt by rw [show σ167 56 = σ 56 from ((f169 56 (by decide)).trans (f55 56 (by decide))), show σ167 57 = σ 57 from ((f169 57 (by decide)).trans (f55 57 (by decide))), show σ167 58 = σ 58 from ((f169 58 (by decide)).trans (f55 58 (by decide))), show σ167 59 = σ 59 from ((f169 59 (by decide)).trans (f55 59 (by decide))), show (σ167 55 4).toInt = (σ 55 4).toInt from z227]; exact hr1), (show jTp (σ167 10) (σ167 63) (σ167 55 15).toInt by rw [show σ167 10 = σ 10 from ((f169 10 (by decide)).trans k163), show σ167 63 = σ 63 from (k185.trans (f55 63 (by decide)))]; exact hr2.le (by omega)), (show jSo (σ167 17) (σ167 62) (σ167 16 0).toInt by rw [show σ167 17 = σ 17 from ((f169 17 (by decide)).trans (f55 17 (by decide))), show σ167 62 = σ 62 from ((f169 62 (by decide)).trans (f55 62 (by decide))), show (σ167 16 0).toInt = (σ 16 0).toInt from z229]; exact hr3), (show jShP (σ167 51) (σ167 52) (σ167 53) (σ167 86) (σ167 87) (σ167 55 32).toInt by rw [show σ167 51 = σ 51 from ((f169 51 (by decide)).trans (f55 51 (by decide))), show σ167 52 = σ 52 from ((f169 52 (by decide)).trans (f55 52 (by decide))), show σ167 53 = σ 53 from ((f169 53 (by decide)).trans (f55 53 (by decide))), show σ167 86 = σ 86 from ((f169 86 (by decide)).trans (f55 86 (by decide))), show σ167 87 = σ 87 from ((f169 87 (by decide)).trans (f55 87 (by decide)))]; exact (hr4.up (by omega) (by omega))), (show jEl (σ167 51) (σ167 52) (τ 54) (τ 88) by rw [show σ167 51 = σ 51 from ((f169 51 (by decide)).trans (f55 51 (by decide))), show σ167 52 = σ 52 from ((f169 52 (by decide)).trans (f55 52 (by decide)))]; exact hr5), (show jByP (σ167 51) (σ167 52) (τ 54) by rw [show σ167 51 = σ 51 from ((f169 51 (by decide)).trans (f55 51 (by decide))), show σ167 52 = σ 52 from ((f169 52 (by decide)).trans (f55 52 (by decide)))]; exact hr6), (show jBk (σ167 48) (σ167 80) (σ167 49) (σ167 81) (σ167 55 47).toInt by rw [show σ167 48 = σ 48 from ((f169 48 (by decide)).trans (f55 48 (by decide))), show σ167 49 = σ 49 from ((f169 49 (by decide)).trans (f55 49 (by decide))), show σ167 80 = σ 80 from ((f169 80 (by decide)).trans (f55 80 (by decide))), show σ167 81 = σ 81 from ((f169 81 (by decide)).trans (f55 81 (by decide))), show (σ167 55 47).toInt = (σ 55 47).toInt from z240]; exact hr7), (show jKd (σ167 39) (σ167 70) (σ167 55 32).toInt by rw [show σ167 39 = σ 39 from ((f169 39 (by decide)).trans (f55 39 (by decide))), show σ167 70 = σ 70 from ((f169 70 (by decide)).trans (f55 70 (by decide))), show (σ167 55 32).toInt = (σ 55 32).toInt from z236]; exact hr8), (show jTt (σ167 42) (σ167 85) (σ167 55 55).toInt by rw [show σ167 42 = σ 42 from ((f169 42 (by decide)).trans (f55 42 (by decide))), show σ167 85 = σ 85 from ((f169 85 (by decide)).trans (f55 85 (by decide))), show (σ167 55 55).toInt = (σ 55 55).toInt from z238]; exact hr9), (fun k hk => by rw [show σ167 4 = σ 4 from ((f169 4 (by decide)).trans (f55 4 (by decide))), show σ167 5 = σ 5 from ((f169 5 (by decide)).trans (f55 5 (by decide))), show σ167 60 = σ 60 from ((f169 60 (by decide)).trans (f55 60 (by decide))), show σ167 61 = σ 61 from ((f169 61 (by decide)).trans (f55 61 (by decide)))]; exact hr10 k (by omega)), (fun nm => by rw [show σ167 19 = σ 19 from ((f169 19 (by decide)).trans (f55 19 (by decide))), show σ167 64 = σ 64 from ((f169 64 (by decide)).trans (f55 64 (by decide))), show σ167 65 = σ 65 from ((f169 65 (by decide)).trans (f55 65 (by decide))), show (σ167 18 0).toInt = (σ 18 0).toInt from z248]; exact hr11 nm), (fun nm => by rw [show σ167 23 = σ 23 from ((f169 23 (by decide)).trans (f55 23 (by decide))), show σ167 64 = σ 64 from ((f169 64 (by decide)).trans (f55 64 (by decide))), show σ167 65 = σ 65 from ((f169 65 (by decide)).trans (f55 65 (by decide))), show (σ167 22 0).toInt = (σ 22 0).toInt from z249]; exact hr12 nm), (show jAlP (σ167 56) (σ167 57) (σ167 58) (σ167 59) (σ167 55 4).toInt by rw [show σ167 56 = σ 56 from ((f169 56 (by decide)).trans (f55 56 (by decide))), show σ167 57 = σ 57 from ((f169 57 (by decide)).trans (f55 57 (by decide))), show σ167 58 = σ 58 from ((f169 58 (by decide)).trans (f55 58 (by decide))), show σ167 59 = σ 59 from ((f169 59 (by decide)).trans (f55 59 (by decide))), show (σ167 55 4).toInt = (σ 55 4).toInt from z227]; exact hr13), (show jqbN (σ167 80) (σ167 55 47).toInt by rw [show σ167 80 = σ 80 from ((f169 80 (by decide)).trans (f55 80 (by decide))), show (σ167 55 47).toInt = (σ 55 47).toInt from z240]; exact hr14)⟩ hP hS (lv_sub hl [0, 1, 2, 3] rfl)
        · obtain ⟨q255, k250, k251, k252, k253, k254⟩ := h177
          exact absurd (by omega : False) id
    · obtain ⟨q261, k256, k257, k258, k259, k260⟩ := h64
      refine lv_pop hx hb dL_law_362 rfl ?_
      refine lv_aload_n hx hb dL_law_363 rfl (lv_at hl 1 rfl) ?_
      refine lv_aload_n hx hb dL_law_364 rfl (lv_at hl 3 rfl) ?_
      refine lv_iload_n hx hb dL_law_365 rfl (lv_at hl 0 rfl) ?_
      refine lv_iconst (v := 1) hx hb dL_law_366 (by decide) ?_
      refine lv_iadd hx hb dL_law_367 ?_
      refine jtopr ex49.symm ?_
      exact by
       refine va_sld hx hb hX hbl hbA hS (jin tx49 (by omega) (by omega)) dL_law_368 ?_
       refine lv_aload_n hx hb dL_law_369 rfl (lv_at hl 3 rfl) ?_
       refine lv_iload_n hx hb dL_law_370 rfl (lv_at hl 0 rfl) ?_
       refine lv_iconst (v := 2) hx hb dL_law_371 (by decide) ?_
       refine lv_iadd hx hb dL_law_372 ?_
       refine jtopr ex51.symm ?_
       refine va_sld hx hb hX hbl hbA hS (jin tx51 (by omega) (by omega)) dL_law_373 ?_
       have I262 : jI105 σ53 := jI105_fr (congrFun (f55 55 (by decide)) 15) (f55 65 (by decide)) hI105
       have z263 : (σ53 55 15).toInt = (σ 55 15).toInt := (congrArg Int32.toInt (show σ53 55 15 = (σ 55 15) from (congrFun (f55 55 (by decide)) 15)))
       exact by
        refine jcallV (As := [.int (xs x49.toNatClampNeg), .int (xs x51.toNatClampNeg)]) (rest := []) ⟨hx, hb, hml, hown, hts⟩ hK hP hA hS hZ (c_X12_feed l D cI cL ad zz hJ σ53 τ (xs x49.toNatClampNeg) ((xs x49.toNatClampNeg).toInt) rfl (xs x51.toNatClampNeg) ((xs x51.toNatClampNeg).toInt) rfl I262) cw_RL_35 (jc_55 cI cL ad σ53 τ) rfl ⟨Nat.le_of_ble_eq_true rfl, Nat.le_of_ble_eq_true rfl⟩ rfl rfl rfl hl.1 rfl (Nat.le_of_ble_eq_true rfl) dL_law_374 ⟨Nat.le_of_ble_eq_true rfl, Nat.le_of_ble_eq_true rfl⟩ (fun r265 σ264 τ264 H locs h264 hP hS => ?_)
        obtain ⟨rfl, f266, f267, I268, h264⟩ := h264
        obtain ⟨i270, w271⟩ : (0 ≤ (σ264 55 15).toInt ∧ (σ264 55 15).toInt ≤ 80) ∧ (∀ k : Nat, k < 2 → (-1) ≤ (σ264 65 k).toInt ∧ (σ264 65 k).toInt ≤ 80) := id I268
        rcases h264 with h272 | h273 | h274
        · obtain ⟨q278, k275, k276, k277⟩ := h272
          exact absurd (by omega : False) id
        · obtain ⟨q283, k279, k280, k281, k282⟩ := h273
          exact absurd (by omega : False) id
        · obtain ⟨q289, k284, k285, k286, k287, k288⟩ := h274
          refine lv_pop hx hb dL_law_377 rfl ?_
          refine lv_goto (tgt := 1357) hx hb dL_law_378 (by decide) ?_
          obtain ⟨x290, ex290⟩ : ∃ y : Int32, y = x0 + 6 := ⟨_, rfl⟩
          exact by
           have tx290 : x290.toInt = x0.toInt + 6 := (jadd ex290 rfl jz_6 (by omega) (by omega)).trans (by omega)
           refine lv_iinc (v := x290) (lv' := [(3, .int x290), (2, .ref (ad 55)), (1, .ref (ad 0)), (0, .ref b)]) hx hb dL_law_1357 hl (k := 0) rfl (by rw [ex290]; rfl) (by decide) rfl (fun ls hl => ?_)
           refine lv_goto (tgt := 18) hx hb dL_law_1360 (by decide) ?_
           have I291 : jI2 σ264 := jI2_fr ((congrFun (f266 2 (by decide)) 0).trans (congrFun (f55 2 (by decide)) 0)) ((congrFun (f266 2 (by decide)) 1).trans (congrFun (f55 2 (by decide)) 1)) ((congrFun (f266 2 (by decide)) 2).trans (congrFun (f55 2 (by decide)) 2)) ((congrFun (f266 2 (by decide)) 3).trans (congrFun (f55 2 (by decide)) 3)) ((f266 6 (by decide)).trans (f55 6 (by decide))) ((f266 5 (by decide)).trans (f55 5 (by decide))) hI2
           have I292 : jI9 σ264 := jI9_fr (congrFun (f266 9 (by decide)) 0) (f266 10 (by decide)) (f266 11 (by decide)) I57
           have I293 : jI12 σ264 := jI12_fr ((congrFun (f266 12 (by decide)) 0).trans (congrFun (f55 12 (by decide)) 0)) ((f266 13 (by decide)).trans (f55 13 (by decide))) hI12
           have I294 : jI16 σ264 := jI16_fr ((congrFun (f266 16 (by decide)) 0).trans (congrFun (f55 16 (by decide)) 0)) ((congrFun (f266 16 (by decide)) 1).trans (congrFun (f55 16 (by decide)) 1)) ((congrFun (f266 16 (by decide)) 2).trans (congrFun (f55 16 (by decide)) 2)) ((f266 17 (by decide)).trans (f55 17 (by decide))) hI16
           have I295 : jI18 σ264 := jI18_fr ((congrFun (f266 18 (by decide)) 0).trans (congrFun (f55 18 (by decide)) 0)) ((f266 19 (by decide)).trans (f55 19 (by decide))) hI18
           have I296 : jI22 σ264 := jI22_fr ((congrFun (f266 22 (by decide)) 0).trans (congrFun (f55 22 (by decide)) 0)) ((f266 23 (by decide)).trans (f55 23 (by decide))) hI22
           exact by
            have I297 : jI31 σ264 := jI31_fr ((congrFun (f266 31 (by decide)) 8).trans (congrFun (f55 31 (by decide)) 8)) ((congrFun (f266 31 (by decide)) 10).trans (congrFun (f55 31 (by decide)) 10)) ((congrFun (f266 31 (by decide)) 11).trans (congrFun (f55 31 (by decide)) 11)) ((f266 33 (by decide)).trans (f55 33 (by decide))) ((f266 35 (by decide)).trans (f55 35 (by decide))) ((f266 36 (by decide)).trans (f55 36 (by decide))) hI31
            have I298 : jI38 σ264 := jI38_fr ((congrFun (f266 38 (by decide)) 0).trans (congrFun (f55 38 (by decide)) 0)) ((congrFun (f266 38 (by decide)) 1).trans (congrFun (f55 38 (by decide)) 1)) ((f266 39 (by decide)).trans (f55 39 (by decide))) hI38
            have I299 : jI43 σ264 := jI43_fr ((congrFun (f266 43 (by decide)) 8).trans (congrFun (f55 43 (by decide)) 8)) hI43
            have I300 : jI47 σ264 := jI47_fr ((congrFun (f266 47 (by decide)) 0).trans (congrFun (f55 47 (by decide)) 0)) ((f266 48 (by decide)).trans (f55 48 (by decide))) ((f266 49 (by decide)).trans (f55 49 (by decide))) hI47
            have I301 : jI50 σ264 := jI50_fr ((f266 52 (by decide)).trans (f55 52 (by decide))) hI50
            have I302 : jI0 σ264 := jI0_fr ((f266 1 (by decide)).trans (f55 1 (by decide))) hI0
            have I303 : jI26 σ264 := jI26_fr ((congrFun (f266 26 (by decide)) 6).trans (congrFun (f55 26 (by decide)) 6)) hI26
            have I304 : jI101 σ264 := jI101_fr ((f267 4 (by decide)).trans (congrFun (f55 55 (by decide)) 4)) ((f267 5 (by decide)).trans (congrFun (f55 55 (by decide)) 5)) ((f266 56 (by decide)).trans (f55 56 (by decide))) ((f266 57 (by decide)).trans (f55 57 (by decide))) ((f266 58 (by decide)).trans (f55 58 (by decide))) ((f266 59 (by decide)).trans (f55 59 (by decide))) hI101
            have I305 : jI102 σ264 := jI102_fr ((f267 6 (by decide)).trans (congrFun (f55 55 (by decide)) 6)) ((f266 60 (by decide)).trans (f55 60 (by decide))) ((f266 61 (by decide)).trans (f55 61 (by decide))) hI102
            have I306 : jI103 σ264 := jI103_fr ((f267 9 (by decide)).trans (congrFun (f55 55 (by decide)) 9)) hI103
            have I307 : jI104 σ264 := jI104_fr ((f267 10 (by decide)).trans (congrFun (f55 55 (by decide)) 10)) ((f267 12 (by decide)).trans (congrFun (f55 55 (by decide)) 12)) ((f267 13 (by decide)).trans (congrFun (f55 55 (by decide)) 13)) ((f266 62 (by decide)).trans (f55 62 (by decide))) ((f266 67 (by decide)).trans (f55 67 (by decide))) hI104
            have I308 : jI106 σ264 := jI106_fr ((f267 32 (by decide)).trans (congrFun (f55 55 (by decide)) 32)) ((f266 70 (by decide)).trans (f55 70 (by decide))) ((f266 71 (by decide)).trans (f55 71 (by decide))) ((f266 72 (by decide)).trans (f55 72 (by decide))) hI106
            have I309 : jI107 σ264 := jI107_fr ((f267 12 (by decide)).trans (congrFun (f55 55 (by decide)) 12)) ((f267 47 (by decide)).trans (congrFun (f55 55 (by decide)) 47)) ((f266 80 (by decide)).trans (f55 80 (by decide))) hI107
            have I310 : jI109 σ264 := jI109_fr ((f267 50 (by decide)).trans (congrFun (f55 55 (by decide)) 50)) hI109
            have I311 : jI110 σ264 := jI110_fr ((f266 86 (by decide)).trans (f55 86 (by decide))) ((f266 87 (by decide)).trans (f55 87 (by decide))) hI110
            have I312 : jI111 σ264 := jI111_fr ((f266 79 (by decide)).trans (f55 79 (by decide))) hI111
            have I313 : jI119 σ264 := jI119_fr ((f266 68 (by decide)).trans (f55 68 (by decide))) hI119
            have p314 : jKept σ264 := jKept.fr ((f266 75 (by decide)).trans (f55 75 (by decide))) ((f266 76 (by decide)).trans (f55 76 (by decide))) ((f266 77 (by decide)).trans (f55 77 (by decide))) hs_jKept
            have p315 : jBook σ264 := jBook.fr ((f267 47 (by decide)).trans (congrFun (f55 55 (by decide)) 47)) ((f267 10 (by decide)).trans (congrFun (f55 55 (by decide)) 10)) ((f266 81 (by decide)).trans (f55 81 (by decide))) hs_jBook
            have p316 : jNd12 σ264 := jNd12.fr ((congrFun (f266 12 (by decide)) 0).trans (congrFun (f55 12 (by decide)) 0)) ((congrFun (f266 12 (by decide)) 1).trans (congrFun (f55 12 (by decide)) 1)) ((f266 13 (by decide)).trans (f55 13 (by decide))) hs_jNd12
            have p317 : jN67 σ264 := jN67.fr ((f266 24 (by decide)).trans (f55 24 (by decide))) hs_jN67
            have p318 : jBl σ264 := jBl.fr ((congrFun (f266 22 (by decide)) 0).trans (congrFun (f55 22 (by decide)) 0)) ((congrFun (f266 22 (by decide)) 1).trans (congrFun (f55 22 (by decide)) 1)) ((f266 23 (by decide)).trans (f55 23 (by decide))) ((congrFun (f266 26 (by decide)) 6).trans (congrFun (f55 26 (by decide)) 6)) ((congrFun (f266 26 (by decide)) 7).trans (congrFun (f55 26 (by decide)) 7)) ((f266 29 (by decide)).trans (f55 29 (by decide))) ((f266 30 (by decide)).trans (f55 30 (by decide))) hs_jBl
            have p319 : jKb σ264 := jKb.fr ((congrFun (f266 31 (by decide)) 8).trans (congrFun (f55 31 (by decide)) 8)) ((congrFun (f266 31 (by decide)) 11).trans (congrFun (f55 31 (by decide)) 11)) ((f266 32 (by decide)).trans (f55 32 (by decide))) hs_jKb
            have p320 : jTR σ264 := jTR.fr ((f266 64 (by decide)).trans (f55 64 (by decide))) ((f266 65 (by decide)).trans (f55 65 (by decide))) hs_jTR
            have p321 : jKh σ264 := jKh.fr ((congrFun (f266 31 (by decide)) 8).trans (congrFun (f55 31 (by decide)) 8)) ((f266 32 (by decide)).trans (f55 32 (by decide))) ((f266 36 (by decide)).trans (f55 36 (by decide))) ((f266 37 (by decide)).trans (f55 37 (by decide))) hs_jKh
            have p322 : jKg σ264 := jKg.fr ((congrFun (f266 31 (by decide)) 8).trans (congrFun (f55 31 (by decide)) 8)) ((congrFun (f266 31 (by decide)) 9).trans (congrFun (f55 31 (by decide)) 9)) ((congrFun (f266 31 (by decide)) 11).trans (congrFun (f55 31 (by decide)) 11)) ((congrFun (f266 31 (by decide)) 12).trans (congrFun (f55 31 (by decide)) 12)) ((f266 32 (by decide)).trans (f55 32 (by decide))) ((f266 33 (by decide)).trans (f55 33 (by decide))) hs_jKg
            have p323 : jNz σ264 := jNz.fr ((f266 34 (by decide)).trans (f55 34 (by decide))) hs_jNz
            have p324 : jqSt σ264 := jqSt.fr ((f266 78 (by decide)).trans (f55 78 (by decide))) ((f267 42 (by decide)).trans (congrFun (f55 55 (by decide)) 42)) hs_jqSt
            have z325 : (σ264 2 0).toInt = (σ 2 0).toInt := (congrArg Int32.toInt (show σ264 2 0 = (σ 2 0) from ((congrFun (f266 2 (by decide)) 0).trans (congrFun (f55 2 (by decide)) 0))))
            have z326 : (σ264 55 6).toInt = (σ 55 6).toInt := (congrArg Int32.toInt (show σ264 55 6 = (σ 55 6) from ((f267 6 (by decide)).trans (congrFun (f55 55 (by decide)) 6))))
            have z327 : (σ264 2 2).toInt = (σ 2 2).toInt := (congrArg Int32.toInt (show σ264 2 2 = (σ 2 2) from ((congrFun (f266 2 (by decide)) 2).trans (congrFun (f55 2 (by decide)) 2))))
            have z328 : (σ264 55 5).toInt = (σ 55 5).toInt := (congrArg Int32.toInt (show σ264 55 5 = (σ 55 5) from ((f267 5 (by decide)).trans (congrFun (f55 55 (by decide)) 5))))
            have z329 : (σ264 2 3).toInt = (σ 2 3).toInt := (congrArg Int32.toInt (show σ264 2 3 = (σ 2 3) from ((congrFun (f266 2 (by decide)) 3).trans (congrFun (f55 2 (by decide)) 3))))
            have z330 : (σ264 55 4).toInt = (σ 55 4).toInt := (congrArg Int32.toInt (show σ264 55 4 = (σ 55 4) from ((f267 4 (by decide)).trans (congrFun (f55 55 (by decide)) 4))))
            have z331 : (σ264 9 0).toInt = (σ53 9 0).toInt := (congrArg Int32.toInt (show σ264 9 0 = (σ53 9 0) from (congrFun (f266 9 (by decide)) 0)))
            have z332 : (σ264 16 0).toInt = (σ 16 0).toInt := (congrArg Int32.toInt (show σ264 16 0 = (σ 16 0) from ((congrFun (f266 16 (by decide)) 0).trans (congrFun (f55 16 (by decide)) 0))))
            have z333 : (σ264 55 10).toInt = (σ 55 10).toInt := (congrArg Int32.toInt (show σ264 55 10 = (σ 55 10) from ((f267 10 (by decide)).trans (congrFun (f55 55 (by decide)) 10))))
            have z334 : (σ264 16 1).toInt = (σ 16 1).toInt := (congrArg Int32.toInt (show σ264 16 1 = (σ 16 1) from ((congrFun (f266 16 (by decide)) 1).trans (congrFun (f55 16 (by decide)) 1))))
            have z335 : (σ264 55 12).toInt = (σ 55 12).toInt := (congrArg Int32.toInt (show σ264 55 12 = (σ 55 12) from ((f267 12 (by decide)).trans (congrFun (f55 55 (by decide)) 12))))
            have z336 : (σ264 16 2).toInt = (σ 16 2).toInt := (congrArg Int32.toInt (show σ264 16 2 = (σ 16 2) from ((congrFun (f266 16 (by decide)) 2).trans (congrFun (f55 16 (by decide)) 2))))
            have z337 : (σ264 55 13).toInt = (σ 55 13).toInt := (congrArg Int32.toInt (show σ264 55 13 = (σ 55 13) from ((f267 13 (by decide)).trans (congrFun (f55 55 (by decide)) 13))))
            have z338 : (σ264 38 0).toInt = (σ 38 0).toInt := (congrArg Int32.toInt (show σ264 38 0 = (σ 38 0) from ((congrFun (f266 38 (by decide)) 0).trans (congrFun (f55 38 (by decide)) 0))))
            have z339 : (σ264 55 32).toInt = (σ 55 32).toInt := (congrArg Int32.toInt (show σ264 55 32 = (σ 55 32) from ((f267 32 (by decide)).trans (congrFun (f55 55 (by decide)) 32))))
            have z340 : (σ264 38 1).toInt = (σ 38 1).toInt := (congrArg Int32.toInt (show σ264 38 1 = (σ 38 1) from ((congrFun (f266 38 (by decide)) 1).trans (congrFun (f55 38 (by decide)) 1))))
            have z341 : (σ264 55 55).toInt = (σ 55 55).toInt := (congrArg Int32.toInt (show σ264 55 55 = (σ 55 55) from ((f267 55 (by decide)).trans (congrFun (f55 55 (by decide)) 55))))
            have z342 : (σ264 47 0).toInt = (σ 47 0).toInt := (congrArg Int32.toInt (show σ264 47 0 = (σ 47 0) from ((congrFun (f266 47 (by decide)) 0).trans (congrFun (f55 47 (by decide)) 0))))
            have z343 : (σ264 55 47).toInt = (σ 55 47).toInt := (congrArg Int32.toInt (show σ264 55 47 = (σ 55 47) from ((f267 47 (by decide)).trans (congrFun (f55 55 (by decide)) 47))))
            have z344 : (σ264 55 30).toInt = (σ 55 30).toInt := (congrArg Int32.toInt (show σ264 55 30 = (σ 55 30) from ((f267 30 (by decide)).trans (congrFun (f55 55 (by decide)) 30))))
            have z345 : (σ264 55 31).toInt = (σ 55 31).toInt := (congrArg Int32.toInt (show σ264 55 31 = (σ 55 31) from ((f267 31 (by decide)).trans (congrFun (f55 55 (by decide)) 31))))
            have z346 : (σ264 2 1).toInt = (σ 2 1).toInt := (congrArg Int32.toInt (show σ264 2 1 = (σ 2 1) from ((congrFun (f266 2 (by decide)) 1).trans (congrFun (f55 2 (by decide)) 1))))
            have z347 : (σ264 55 9).toInt = (σ 55 9).toInt := (congrArg Int32.toInt (show σ264 55 9 = (σ 55 9) from ((f267 9 (by decide)).trans (congrFun (f55 55 (by decide)) 9))))
            have z348 : (σ264 55 42).toInt = (σ 55 42).toInt := (congrArg Int32.toInt (show σ264 55 42 = (σ 55 42) from ((f267 42 (by decide)).trans (congrFun (f55 55 (by decide)) 42))))
            have z349 : (σ264 26 6).toInt = (σ 26 6).toInt := (congrArg Int32.toInt (show σ264 26 6 = (σ 26 6) from ((congrFun (f266 26 (by decide)) 6).trans (congrFun (f55 26 (by decide)) 6))))
            rw [show (σ 9 0).toInt = (σ 55 15).toInt from by omega] at k260
            rw [show (σ53 55 15).toInt = (σ 55 15).toInt from z263, show σ53 63 = σ 63 from (f55 63 (by decide))] at k288
            have z351 : (σ264 18 0).toInt = (σ 18 0).toInt := (congrArg Int32.toInt (show σ264 18 0 = (σ 18 0) from ((congrFun (f266 18 (by decide)) 0).trans (congrFun (f55 18 (by decide)) 0))))
            have z352 : (σ264 22 0).toInt = (σ 22 0).toInt := (congrArg Int32.toInt (show σ264 22 0 = (σ 22 0) from ((congrFun (f266 22 (by decide)) 0).trans (congrFun (f55 22 (by decide)) 0))))
            exact by exact ih x290 σ264 τ _ _ ls (by have h9 := tx290; omega) ⟨I291, I292, I293, I294, I295, I296, I297, I298, I299, I300, I301, I302, I303, I304, I305, I306, I307, I268, I308, I309, I310, I311, I312, I313, p314, p315, p316, p317, p318, p319, p320, p321, p322, p323, p324, (by rw [z325, z326]; exact ht0), (by rw [z327, z328]; exact ht1), (by rw [z327, z329, z330]; exact ht2), (by omega), (by rw [z332, z333]; exact ht4), (by rw [z334, z335]; exact ht5), (by rw [z336, z337]; exact ht6), (by rw [z338, z339]; exact ht7), (by rw [z340, z341]; exact ht8), (by rw [z342, z343]; exact ht9), (by rw [z344]; exact ht10), (by rw [z345]; exact ht11), (by rw [z346, z347]; exact ht12), (by rw [z348]; exact ht13), (by have h9 := tx290; omega), (by have h9 := tx290; omega), (show jNumP (σ264 3) (σ264 56) (σ264 6) (σ264 57) (σ264 7) (σ264 58) (σ264 8) (σ264 59) (σ264 55 6).toInt (σ264 55 4).toInt by rw [show σ264 3 = σ 3 from ((f266 3 (by decide)).trans (f55 3 (by decide))), show σ264 56 = σ 56 from ((f266 56 (by decide)).trans (f55 56 (by decide))), show σ264 6 = σ 6 from ((f266 6 (by decide)).trans (f55 6 (by decide))), show σ264 57 = σ 57 from ((f266 57 (by decide)).trans (f55 57 (by decide))), show σ264 7 = σ 7 from ((f266 7 (by decide)).trans (f55 7 (by decide))), show σ264 58 = σ 58 from ((f266 58 (by decide)).trans (f55 58 (by decide))), show σ264 8 = σ 8 from ((f266 8 (by decide)).trans (f55 8 (by decide))), show σ264 59 = σ 59 from ((f266 59 (by decide)).trans (f55 59 (by decide))), show (σ264 55 6).toInt = (σ 55 6).toInt from z326, show (σ264 55 4).toInt = (σ 55 4).toInt from z330]; exact hr0), (show jOvP (σ264 56) (σ264 57) (σ264 58) (σ264 59) (σ264 55 4).toInt by rw [show σ264 56 = σ 56 from ((f266 56 (by decide)).trans (f55 56 (by decide))), show σ264 57 = σ 57 from ((f266 57 (by decide)).trans (f55 57 (by decide))), show σ264 58 = σ 58 from ((f266 58 (by decide)).trans (f55 58 (by decide))), show σ264 59 = σ 59 from ((f266 59 (by decide)).trans (f55 59 (by decide))), show (σ264 55 4).toInt = (σ 55 4).toInt from z330]; exact hr1), (show jTp (σ264 10) (σ264 63) (σ264 55 15).toInt by rw [show σ264 10 = σ53 10 from (f266 10 (by decide))]; exact hr2.feed k260 k288 (by omega) (by omega) (by omega)), (show jSo (σ264 17) (σ264 62) (σ264 16 0).toInt by rw [show σ264 17 = σ 17 from ((f266 17 (by decide)).trans (f55 17 (by decide))), show σ264 62 = σ 62 from ((f266 62 (by decide)).trans (f55 62 (by decide))), show (σ264 16 0).toInt = (σ 16 0).toInt from z332]; exact hr3), (show jShP (σ264 51) (σ264 52) (σ264 53) (σ264 86) (σ264 87) (σ264 55 32).toInt by rw [show σ264 51 = σ 51 from ((f266 51 (by decide)).trans (f55 51 (by decide))), show σ264 52 = σ 52 from ((f266 52 (by decide)).trans (f55 52 (by decide))), show σ264 53 = σ 53 from ((f266 53 (by decide)).trans (f55 53 (by decide))), show σ264 86 = σ 86 from ((f266 86 (by decide)).trans (f55 86 (by decide))), show σ264 87 = σ 87 from ((f266 87 (by decide)).trans (f55 87 (by decide)))]; exact (hr4.up (by omega) (by omega))), (show jEl (σ264 51) (σ264 52) (τ 54) (τ 88) by rw [show σ264 51 = σ 51 from ((f266 51 (by decide)).trans (f55 51 (by decide))), show σ264 52 = σ 52 from ((f266 52 (by decide)).trans (f55 52 (by decide)))]; exact hr5), (show jByP (σ264 51) (σ264 52) (τ 54) by rw [show σ264 51 = σ 51 from ((f266 51 (by decide)).trans (f55 51 (by decide))), show σ264 52 = σ 52 from ((f266 52 (by decide)).trans (f55 52 (by decide)))]; exact hr6), (show jBk (σ264 48) (σ264 80) (σ264 49) (σ264 81) (σ264 55 47).toInt by rw [show σ264 48 = σ 48 from ((f266 48 (by decide)).trans (f55 48 (by decide))), show σ264 49 = σ 49 from ((f266 49 (by decide)).trans (f55 49 (by decide))), show σ264 80 = σ 80 from ((f266 80 (by decide)).trans (f55 80 (by decide))), show σ264 81 = σ 81 from ((f266 81 (by decide)).trans (f55 81 (by decide))), show (σ264 55 47).toInt = (σ 55 47).toInt from z343]; exact hr7), (show jKd (σ264 39) (σ264 70) (σ264 55 32).toInt by rw [show σ264 39 = σ 39 from ((f266 39 (by decide)).trans (f55 39 (by decide))), show σ264 70 = σ 70 from ((f266 70 (by decide)).trans (f55 70 (by decide))), show (σ264 55 32).toInt = (σ 55 32).toInt from z339]; exact hr8), (show jTt (σ264 42) (σ264 85) (σ264 55 55).toInt by rw [show σ264 42 = σ 42 from ((f266 42 (by decide)).trans (f55 42 (by decide))), show σ264 85 = σ 85 from ((f266 85 (by decide)).trans (f55 85 (by decide))), show (σ264 55 55).toInt = (σ 55 55).toInt from z341]; exact hr9), (fun k hk => by rw [show σ264 4 = σ 4 from ((f266 4 (by decide)).trans (f55 4 (by decide))), show σ264 5 = σ 5 from ((f266 5 (by decide)).trans (f55 5 (by decide))), show σ264 60 = σ 60 from ((f266 60 (by decide)).trans (f55 60 (by decide))), show σ264 61 = σ 61 from ((f266 61 (by decide)).trans (f55 61 (by decide)))]; exact hr10 k (by omega)), (fun nm => by rw [show σ264 19 = σ 19 from ((f266 19 (by decide)).trans (f55 19 (by decide))), show σ264 64 = σ 64 from ((f266 64 (by decide)).trans (f55 64 (by decide))), show σ264 65 = σ 65 from ((f266 65 (by decide)).trans (f55 65 (by decide))), show (σ264 18 0).toInt = (σ 18 0).toInt from z351]; exact hr11 nm), (fun nm => by rw [show σ264 23 = σ 23 from ((f266 23 (by decide)).trans (f55 23 (by decide))), show σ264 64 = σ 64 from ((f266 64 (by decide)).trans (f55 64 (by decide))), show σ264 65 = σ 65 from ((f266 65 (by decide)).trans (f55 65 (by decide))), show (σ264 22 0).toInt = (σ 22 0).toInt from z352]; exact hr12 nm), (show jAlP (σ264 56) (σ264 57) (σ264 58) (σ264 59) (σ264 55 4).toInt by rw [show σ264 56 = σ 56 from ((f266 56 (by decide)).trans (f55 56 (by decide))), show σ264 57 = σ 57 from ((f266 57 (by decide)).trans (f55 57 (by decide))), show σ264 58 = σ 58 from ((f266 58 (by decide)).trans (f55 58 (by decide))), show σ264 59 = σ 59 from ((f266 59 (by decide)).trans (f55 59 (by decide))), show (σ264 55 4).toInt = (σ 55 4).toInt from z330]; exact hr13), (show jqbN (σ264 80) (σ264 55 47).toInt by rw [show σ264 80 = σ 80 from ((f266 80 (by decide)).trans (f55 80 (by decide))), show (σ264 55 47).toInt = (σ 55 47).toInt from z343]; exact hr14)⟩ hP hS (lv_sub hl [0, 1, 2, 3] rfl)
set_option maxHeartbeats 4000000 in
set_option maxRecDepth 100000 in
theorem law_case_5 {p : Program} {e : Env} {s : State} {m : MethodId} {below : List Frame} {meth : Method} {c : Code} (l : Launch) {b L : Nat} {xs : Nat → Int32} {D : va_G} {cI cL : ClassId} {ad zz : Nat → Nat} (C0 : lw_At p s m meth c b L xs) (hJ : jD ad) (hA : ∀ q, jA ad q → s.heap.size ≤ q) (hK : jK D cI cL s) (hZ : jZ zz (fun q : Nat => s.heap.size ≤ q) s s.heap) {x0 : Int32} (hx0 : 0 ≤ x0.toInt) (hxL : x0.toInt + 6 ≤ (L : Int)) (hL : L ≤ 384) {σ : Nat → Nat → Int32} {τ : Nat → Nat → Int64} {H : Heap} {locs : List Loc} (hS : va_S (fun q : Nat => s.heap.size ≤ q) s.heap H locs) {ls : Array Slot} (hAll : jAll x0.toInt σ τ) (hP : jH D cI cL ad σ τ H) (hl : lv_has ls 4 [(3, .int x0), (2, .ref (ad 55)), (1, .ref (ad 0)), (0, .ref b)]) (ih : ∀ (x1 : Int32) (σ : Nat → Nat → Int32) (τ : Nat → Nat → Int64) (H : Heap) (locs : List Loc) (ls : Array Slot), x1.toInt = x0.toInt + 6 → jAll x1.toInt σ τ → jH D cI cL ad σ τ H → va_S (fun q : Nat => s.heap.size ≤ q) s.heap H locs → lv_has ls 4 [(3, .int x1), (2, .ref (ad 55)), (1, .ref (ad 0)), (0, .ref b)] → W p l e room_1 s m #[Value.ref b] below meth c H locs 90 348600 (lw_Z below #[Value.ref b] s) (F0 m 18 ls [])) : W p l e room_1 s m #[Value.ref b] below meth c H locs 90 348600 (lw_Z below #[Value.ref b] s) (F0 m 381 ls []) := by
  obtain ⟨hx, hb, hr, hml, hown, hts0, hX, hbl, hlocks, hgv⟩ := C0
  have hts : ∀ w ∈ wsL_law, w.before #[Value.ref b] s = true := fun w h => hts0 w (wsL_law_in w h)
  have hbA : ¬ (fun q : Nat => s.heap.size ≤ q) b := Nat.not_le.mpr hbl
  have hown : s.vm.findClass RL = some m.cls := hown
  obtain ⟨hI2, hI9, hI12, hI16, hI18, hI22, hI31, hI38, hI43, hI47, hI50, hI0, hI26, hI101, hI102, hI103, hI104, hI105, hI106, hI107, hI109, hI110, hI111, hI119, hs_jKept, hs_jBook, hs_jNd12, hs_jN67, hs_jBl, hs_jKb, hs_jTR, hs_jKh, hs_jKg, hs_jNz, hs_jqSt, ht0, ht1, ht2, ht3, ht4, ht5, ht6, ht7, ht8, ht9, ht10, ht11, ht12, ht13, ht14, ht15, hr0, hr1, hr2, hr3, hr4, hr5, hr6, hr7, hr8, hr9, hr10, hr11, hr12, hr13, hr14⟩ := hAll
  have hL9 : (L : Int) ≤ 384 := by omega
  obtain ⟨i1, i2, i3, i4, i5, w6, w7⟩ : (0 ≤ (σ 2 0).toInt ∧ (σ 2 0).toInt ≤ 4) ∧ (0 ≤ (σ 2 1).toInt ∧ (σ 2 1).toInt ≤ 3) ∧ (0 ≤ (σ 2 2).toInt) ∧ (0 ≤ (σ 2 3).toInt) ∧ ((σ 2 2).toInt + (σ 2 3).toInt ≤ 40) ∧ (∀ k : Nat, k < 40 → 0 ≤ (σ 6 k).toInt ∧ (σ 6 k).toInt ≤ 67) ∧ (∀ k : Nat, k < 4 → 0 ≤ (σ 5 k).toInt ∧ (σ 5 k).toInt ≤ 20) := id hI2
  obtain ⟨i8, w9, w10⟩ : (0 ≤ (σ 9 0).toInt ∧ (σ 9 0).toInt ≤ 80) ∧ (∀ k : Nat, k < 80 → 0 ≤ (σ 10 k).toInt ∧ (σ 10 k).toInt ≤ 255) ∧ (∀ k : Nat, k < 8 → 0 ≤ (σ 11 k).toInt ∧ (σ 11 k).toInt ≤ 3) := id hI9
  obtain ⟨i11, i12, i13, w14⟩ : (1 ≤ (σ 16 0).toInt ∧ (σ 16 0).toInt ≤ 8) ∧ (1 ≤ (σ 16 1).toInt ∧ (σ 16 1).toInt ≤ 12) ∧ (0 ≤ (σ 16 2).toInt ∧ (σ 16 2).toInt ≤ 999) ∧ (∀ k : Nat, k < 8 → 0 ≤ (σ 17 k).toInt ∧ (σ 17 k).toInt ≤ 3) := id hI16
  obtain ⟨i15, i16, w17⟩ : (0 ≤ (σ 38 0).toInt ∧ (σ 38 0).toInt ≤ 20) ∧ (0 ≤ (σ 38 1).toInt ∧ (σ 38 1).toInt ≤ 1000) ∧ (∀ k : Nat, k < 20 → 0 ≤ (σ 39 k).toInt ∧ (σ 39 k).toInt ≤ 6) := id hI38
  obtain ⟨i18, w19, w20⟩ : (0 ≤ (σ 47 0).toInt ∧ (σ 47 0).toInt ≤ 12) ∧ (∀ k : Nat, k < 12 → 0 ≤ (σ 48 k).toInt ∧ (σ 48 k).toInt ≤ 3) ∧ (∀ k : Nat, k < 12 → 0 ≤ (σ 49 k).toInt ∧ (σ 49 k).toInt ≤ 1) := id hI47
  have w21 : ∀ k : Nat, k < 6 → 0 ≤ (σ 52 k).toInt ∧ (σ 52 k).toInt ≤ 60 := hI50
  have i22 : 1 ≤ (σ 26 6).toInt ∧ (σ 26 6).toInt ≤ 8000 := hI26
  obtain ⟨i23, i24, i25, w26, w27, w28, w29⟩ : (0 ≤ (σ 55 5).toInt) ∧ ((σ 55 5).toInt ≤ (σ 55 4).toInt) ∧ ((σ 55 4).toInt ≤ 40) ∧ (∀ k : Nat, k < 68 → (-200) ≤ (σ 56 k).toInt ∧ (σ 56 k).toInt ≤ 500) ∧ (∀ k : Nat, k < 40 → 0 ≤ (σ 57 k).toInt ∧ (σ 57 k).toInt ≤ 67) ∧ (∀ k : Nat, k < 40 → (-200) ≤ (σ 58 k).toInt ∧ (σ 58 k).toInt ≤ 500) ∧ (∀ k : Nat, k < 40 → (-200) ≤ (σ 59 k).toInt ∧ (σ 59 k).toInt ≤ 500) := id hI101
  obtain ⟨i30, w31, w32⟩ : (0 ≤ (σ 55 6).toInt ∧ (σ 55 6).toInt ≤ 4) ∧ (∀ k : Nat, k < 4 → 0 ≤ (σ 60 k).toInt ∧ (σ 60 k).toInt ≤ 50) ∧ (∀ k : Nat, k < 4 → 0 ≤ (σ 61 k).toInt ∧ (σ 61 k).toInt ≤ 20) := id hI102
  have i33 : 0 ≤ (σ 55 9).toInt ∧ (σ 55 9).toInt ≤ 3 := hI103
  obtain ⟨i34, i35, i36, w37, w38⟩ : (1 ≤ (σ 55 10).toInt ∧ (σ 55 10).toInt ≤ 8) ∧ (1 ≤ (σ 55 12).toInt ∧ (σ 55 12).toInt ≤ 12) ∧ (0 ≤ (σ 55 13).toInt ∧ (σ 55 13).toInt ≤ 999) ∧ (∀ k : Nat, k < 8 → 0 ≤ (σ 62 k).toInt ∧ (σ 62 k).toInt ≤ 3) ∧ (∀ k : Nat, k < 8 → 0 ≤ (σ 67 k).toInt ∧ (σ 67 k).toInt ≤ 3) := id hI104
  obtain ⟨i39, w40⟩ : (0 ≤ (σ 55 15).toInt ∧ (σ 55 15).toInt ≤ 80) ∧ (∀ k : Nat, k < 2 → (-1) ≤ (σ 65 k).toInt ∧ (σ 65 k).toInt ≤ 80) := id hI105
  obtain ⟨i41, w42, w43, w44⟩ : (0 ≤ (σ 55 32).toInt ∧ (σ 55 32).toInt ≤ 20) ∧ (∀ k : Nat, k < 20 → 0 ≤ (σ 70 k).toInt ∧ (σ 70 k).toInt ≤ 6) ∧ (∀ k : Nat, k < 20 → 0 ≤ (σ 71 k).toInt ∧ (σ 71 k).toInt ≤ 8) ∧ (∀ k : Nat, k < 160 → 0 ≤ (σ 72 k).toInt ∧ (σ 72 k).toInt ≤ 3) := id hI106
  obtain ⟨i45, i46, w47⟩ : (0 ≤ (σ 55 47).toInt ∧ (σ 55 47).toInt ≤ 12) ∧ ((σ 55 47).toInt ≤ (σ 55 12).toInt) ∧ (∀ k : Nat, k < 12 → 0 ≤ (σ 80 k).toInt ∧ (σ 80 k).toInt ≤ 3) := id hI107
  have hs_jOk3 : jOk3 σ := hr0.ok hr1.1
  refine lv_aload_n hx hb dL_law_381 rfl (lv_at hl 2 rfl) ?_
  refine jcallV (As := []) (rest := []) ⟨hx, hb, hml, hown, hts⟩ hK hP hA hS hZ (c_X11_order l D cI cL ad zz hJ σ τ hI9 hI16 hI47) cw_RL_36 (jc_0 cI cL ad σ τ) rfl ⟨Nat.le_of_ble_eq_true rfl, Nat.le_of_ble_eq_true rfl⟩ rfl rfl rfl hl.1 rfl (Nat.le_of_ble_eq_true rfl) dL_law_382 ⟨Nat.le_of_ble_eq_true rfl, Nat.le_of_ble_eq_true rfl⟩ (fun r49 σ48 τ48 H locs h48 hP hS => ?_)
  obtain ⟨rfl, f50, f51, f52, f53, I54, I55, I56, w57, h48⟩ := h48
  obtain ⟨i59, w60, w61⟩ : (0 ≤ (σ48 9 0).toInt ∧ (σ48 9 0).toInt ≤ 80) ∧ (∀ k : Nat, k < 80 → 0 ≤ (σ48 10 k).toInt ∧ (σ48 10 k).toInt ≤ 255) ∧ (∀ k : Nat, k < 8 → 0 ≤ (σ48 11 k).toInt ∧ (σ48 11 k).toInt ≤ 3) := id I54
  obtain ⟨i62, i63, i64, w65⟩ : (1 ≤ (σ48 16 0).toInt ∧ (σ48 16 0).toInt ≤ 8) ∧ (1 ≤ (σ48 16 1).toInt ∧ (σ48 16 1).toInt ≤ 12) ∧ (0 ≤ (σ48 16 2).toInt ∧ (σ48 16 2).toInt ≤ 999) ∧ (∀ k : Nat, k < 8 → 0 ≤ (σ48 17 k).toInt ∧ (σ48 17 k).toInt ≤ 3) := id I55
  obtain ⟨i66, w67, w68⟩ : (0 ≤ (σ48 47 0).toInt ∧ (σ48 47 0).toInt ≤ 12) ∧ (∀ k : Nat, k < 12 → 0 ≤ (σ48 48 k).toInt ∧ (σ48 48 k).toInt ≤ 3) ∧ (∀ k : Nat, k < 12 → 0 ≤ (σ48 49 k).toInt ∧ (σ48 49 k).toInt ≤ 1) := id I56
  obtain ⟨k69, h48⟩ := h48
  rcases h48 with h70 | h71
  · obtain ⟨q74, k72, k73⟩ := h70
    refine lv_pop hx hb dL_law_385 rfl ?_
    refine lv_aload_n hx hb dL_law_386 rfl (lv_at hl 1 rfl) ?_
    have I75 : jI104 σ48 := jI104_fr (congrFun (f50 55 (by decide)) 10) (congrFun (f50 55 (by decide)) 12) (congrFun (f50 55 (by decide)) 13) (f50 62 (by decide)) (f50 67 (by decide)) hI104
    have I76 : jI105 σ48 := jI105_fr (congrFun (f50 55 (by decide)) 15) (f50 65 (by decide)) hI105
    have I77 : jI107 σ48 := jI107_fr (congrFun (f50 55 (by decide)) 12) (congrFun (f50 55 (by decide)) 47) (f50 80 (by decide)) hI107
    have p78 : jBook σ48 := jBook.fr (congrFun (f50 55 (by decide)) 47) (congrFun (f50 55 (by decide)) 10) (f50 81 (by decide)) hs_jBook
    have z79 : (σ48 55 47).toInt = (σ 55 47).toInt := (congrArg Int32.toInt (show σ48 55 47 = (σ 55 47) from (congrFun (f50 55 (by decide)) 47)))
    refine jcallV (As := []) (rest := []) ⟨hx, hb, hml, hown, hts⟩ hK hP hA hS hZ (c_X12_order l D cI cL ad zz hJ σ48 τ I75 I76 I77 p78) cw_RL_40 (jc_55 cI cL ad σ48 τ) rfl ⟨Nat.le_of_ble_eq_true rfl, Nat.le_of_ble_eq_true rfl⟩ rfl rfl rfl hl.1 rfl (Nat.le_of_ble_eq_true rfl) dL_law_387 ⟨Nat.le_of_ble_eq_true rfl, Nat.le_of_ble_eq_true rfl⟩ (fun r81 σ80 τ80 H locs h80 hP hS => ?_)
    obtain ⟨rfl, f82, f83, I84, I85, I86, p87, w88, h80⟩ := h80
    obtain ⟨i90, i91, i92, w93, w94⟩ : (1 ≤ (σ80 55 10).toInt ∧ (σ80 55 10).toInt ≤ 8) ∧ (1 ≤ (σ80 55 12).toInt ∧ (σ80 55 12).toInt ≤ 12) ∧ (0 ≤ (σ80 55 13).toInt ∧ (σ80 55 13).toInt ≤ 999) ∧ (∀ k : Nat, k < 8 → 0 ≤ (σ80 62 k).toInt ∧ (σ80 62 k).toInt ≤ 3) ∧ (∀ k : Nat, k < 8 → 0 ≤ (σ80 67 k).toInt ∧ (σ80 67 k).toInt ≤ 3) := id I84
    obtain ⟨i95, w96⟩ : (0 ≤ (σ80 55 15).toInt ∧ (σ80 55 15).toInt ≤ 80) ∧ (∀ k : Nat, k < 2 → (-1) ≤ (σ80 65 k).toInt ∧ (σ80 65 k).toInt ≤ 80) := id I85
    obtain ⟨i97, i98, w99⟩ : (0 ≤ (σ80 55 47).toInt ∧ (σ80 55 47).toInt ≤ 12) ∧ ((σ80 55 47).toInt ≤ (σ80 55 12).toInt) ∧ (∀ k : Nat, k < 12 → 0 ≤ (σ80 80 k).toInt ∧ (σ80 80 k).toInt ≤ 3) := id I86
    have z100 : (σ48 55 10).toInt = (σ 55 10).toInt := (congrArg Int32.toInt (show σ48 55 10 = (σ 55 10) from (congrFun (f50 55 (by decide)) 10)))
    have z101 : (σ48 55 12).toInt = (σ 55 12).toInt := (congrArg Int32.toInt (show σ48 55 12 = (σ 55 12) from (congrFun (f50 55 (by decide)) 12)))
    have z102 : (σ48 55 13).toInt = (σ 55 13).toInt := (congrArg Int32.toInt (show σ48 55 13 = (σ 55 13) from (congrFun (f50 55 (by decide)) 13)))
    have z103 : (σ48 55 15).toInt = (σ 55 15).toInt := (congrArg Int32.toInt (show σ48 55 15 = (σ 55 15) from (congrFun (f50 55 (by decide)) 15)))
    rw [show (σ48 55 10).toInt = (σ 55 10).toInt from by omega, show (σ48 55 12).toInt = (σ 55 12).toInt from by omega, show (σ48 55 13).toInt = (σ 55 13).toInt from by omega, show (σ48 55 15).toInt = (σ 55 15).toInt from by omega, show σ48 63 = σ 63 from (f50 63 (by decide)), show σ48 62 = σ 62 from (f50 62 (by decide))] at w88
    rw [show (σ 9 0).toInt = (σ 55 15).toInt from by omega] at w57
    exact by
     have p104 := hr2 |> fun h => jOrA.det h w57 w88 (by omega) (by omega) (by omega) hr3
     obtain ⟨k105, k106, k107, k108, p104⟩ := p104
     obtain ⟨k109, h80⟩ := h80
     rcases h80 with h110 | h111
     · obtain ⟨q114, k112, k113⟩ := h110
       refine lv_pop hx hb dL_law_390 rfl ?_
       refine lv_goto (tgt := 1357) hx hb dL_law_391 (by decide) ?_
       obtain ⟨x115, ex115⟩ : ∃ y : Int32, y = x0 + 6 := ⟨_, rfl⟩
       have tx115 : x115.toInt = x0.toInt + 6 := (jadd ex115 rfl jz_6 (by omega) (by omega)).trans (by omega)
       exact by
        refine lv_iinc (v := x115) (lv' := [(3, .int x115), (2, .ref (ad 55)), (1, .ref (ad 0)), (0, .ref b)]) hx hb dL_law_1357 hl (k := 0) rfl (by rw [ex115]; rfl) (by decide) rfl (fun ls hl => ?_)
        refine lv_goto (tgt := 18) hx hb dL_law_1360 (by decide) ?_
        have I116 : jI2 σ80 := jI2_fr ((congrFun (f82 2 (by decide)) 0).trans (congrFun (f50 2 (by decide)) 0)) ((congrFun (f82 2 (by decide)) 1).trans (congrFun (f50 2 (by decide)) 1)) ((congrFun (f82 2 (by decide)) 2).trans (congrFun (f50 2 (by decide)) 2)) ((congrFun (f82 2 (by decide)) 3).trans (congrFun (f50 2 (by decide)) 3)) ((f82 6 (by decide)).trans (f50 6 (by decide))) ((f82 5 (by decide)).trans (f50 5 (by decide))) hI2
        have I117 : jI9 σ80 := jI9_fr (congrFun (f82 9 (by decide)) 0) (f82 10 (by decide)) (f82 11 (by decide)) I54
        have I118 : jI12 σ80 := jI12_fr ((congrFun (f82 12 (by decide)) 0).trans (congrFun (f50 12 (by decide)) 0)) ((f82 13 (by decide)).trans (f50 13 (by decide))) hI12
        have I119 : jI16 σ80 := jI16_fr (congrFun (f82 16 (by decide)) 0) (congrFun (f82 16 (by decide)) 1) (congrFun (f82 16 (by decide)) 2) (f82 17 (by decide)) I55
        have I120 : jI18 σ80 := jI18_fr ((congrFun (f82 18 (by decide)) 0).trans (congrFun (f50 18 (by decide)) 0)) ((f82 19 (by decide)).trans (f50 19 (by decide))) hI18
        have I121 : jI22 σ80 := jI22_fr ((congrFun (f82 22 (by decide)) 0).trans (congrFun (f50 22 (by decide)) 0)) ((f82 23 (by decide)).trans (f50 23 (by decide))) hI22
        have I122 : jI31 σ80 := jI31_fr ((congrFun (f82 31 (by decide)) 8).trans (congrFun (f50 31 (by decide)) 8)) ((congrFun (f82 31 (by decide)) 10).trans (congrFun (f50 31 (by decide)) 10)) ((congrFun (f82 31 (by decide)) 11).trans (congrFun (f50 31 (by decide)) 11)) ((f82 33 (by decide)).trans (f50 33 (by decide))) ((f82 35 (by decide)).trans (f50 35 (by decide))) ((f82 36 (by decide)).trans (f50 36 (by decide))) hI31
        have I123 : jI38 σ80 := jI38_fr ((congrFun (f82 38 (by decide)) 0).trans (congrFun (f50 38 (by decide)) 0)) ((congrFun (f82 38 (by decide)) 1).trans (congrFun (f50 38 (by decide)) 1)) ((f82 39 (by decide)).trans (f50 39 (by decide))) hI38
        have I124 : jI43 σ80 := jI43_fr ((congrFun (f82 43 (by decide)) 8).trans (congrFun (f50 43 (by decide)) 8)) hI43
        have I125 : jI47 σ80 := jI47_fr (congrFun (f82 47 (by decide)) 0) (f82 48 (by decide)) (f82 49 (by decide)) I56
        have I126 : jI50 σ80 := jI50_fr ((f82 52 (by decide)).trans (f50 52 (by decide))) hI50
        have I127 : jI0 σ80 := jI0_fr ((f82 1 (by decide)).trans (f50 1 (by decide))) hI0
        have I128 : jI26 σ80 := jI26_fr ((congrFun (f82 26 (by decide)) 6).trans (congrFun (f50 26 (by decide)) 6)) hI26
        have I129 : jI101 σ80 := jI101_fr ((f83 4 (by decide)).trans (congrFun (f50 55 (by decide)) 4)) ((f83 5 (by decide)).trans (congrFun (f50 55 (by decide)) 5)) ((f82 56 (by decide)).trans (f50 56 (by decide))) ((f82 57 (by decide)).trans (f50 57 (by decide))) ((f82 58 (by decide)).trans (f50 58 (by decide))) ((f82 59 (by decide)).trans (f50 59 (by decide))) hI101
        have I130 : jI102 σ80 := jI102_fr ((f83 6 (by decide)).trans (congrFun (f50 55 (by decide)) 6)) ((f82 60 (by decide)).trans (f50 60 (by decide))) ((f82 61 (by decide)).trans (f50 61 (by decide))) hI102
        have I131 : jI103 σ80 := jI103_fr ((f83 9 (by decide)).trans (congrFun (f50 55 (by decide)) 9)) hI103
        have I132 : jI106 σ80 := jI106_fr ((f83 32 (by decide)).trans (congrFun (f50 55 (by decide)) 32)) ((f82 70 (by decide)).trans (f50 70 (by decide))) ((f82 71 (by decide)).trans (f50 71 (by decide))) ((f82 72 (by decide)).trans (f50 72 (by decide))) hI106
        have I133 : jI109 σ80 := jI109_fr ((f83 50 (by decide)).trans (congrFun (f50 55 (by decide)) 50)) hI109
        have I134 : jI110 σ80 := jI110_fr ((f82 86 (by decide)).trans (f50 86 (by decide))) ((f82 87 (by decide)).trans (f50 87 (by decide))) hI110
        have I135 : jI111 σ80 := jI111_fr ((f82 79 (by decide)).trans (f50 79 (by decide))) hI111
        have I136 : jI119 σ80 := jI119_fr ((f82 68 (by decide)).trans (f50 68 (by decide))) hI119
        have p137 : jKept σ80 := jKept.fr ((f82 75 (by decide)).trans (f50 75 (by decide))) ((f82 76 (by decide)).trans (f50 76 (by decide))) ((f82 77 (by decide)).trans (f50 77 (by decide))) hs_jKept
        have p138 : jNd12 σ80 := jNd12.fr ((congrFun (f82 12 (by decide)) 0).trans (congrFun (f50 12 (by decide)) 0)) ((congrFun (f82 12 (by decide)) 1).trans (congrFun (f50 12 (by decide)) 1)) ((f82 13 (by decide)).trans (f50 13 (by decide))) hs_jNd12
        have p139 : jN67 σ80 := jN67.fr ((f82 24 (by decide)).trans (f50 24 (by decide))) hs_jN67
        have p140 : jBl σ80 := jBl.fr ((congrFun (f82 22 (by decide)) 0).trans (congrFun (f50 22 (by decide)) 0)) ((congrFun (f82 22 (by decide)) 1).trans (congrFun (f50 22 (by decide)) 1)) ((f82 23 (by decide)).trans (f50 23 (by decide))) ((congrFun (f82 26 (by decide)) 6).trans (congrFun (f50 26 (by decide)) 6)) ((congrFun (f82 26 (by decide)) 7).trans (congrFun (f50 26 (by decide)) 7)) ((f82 29 (by decide)).trans (f50 29 (by decide))) ((f82 30 (by decide)).trans (f50 30 (by decide))) hs_jBl
        have p141 : jKb σ80 := jKb.fr ((congrFun (f82 31 (by decide)) 8).trans (congrFun (f50 31 (by decide)) 8)) ((congrFun (f82 31 (by decide)) 11).trans (congrFun (f50 31 (by decide)) 11)) ((f82 32 (by decide)).trans (f50 32 (by decide))) hs_jKb
        have p142 : jTR σ80 := jTR.fr ((f82 64 (by decide)).trans (f50 64 (by decide))) ((f82 65 (by decide)).trans (f50 65 (by decide))) hs_jTR
        have p143 : jKh σ80 := jKh.fr ((congrFun (f82 31 (by decide)) 8).trans (congrFun (f50 31 (by decide)) 8)) ((f82 32 (by decide)).trans (f50 32 (by decide))) ((f82 36 (by decide)).trans (f50 36 (by decide))) ((f82 37 (by decide)).trans (f50 37 (by decide))) hs_jKh
        have p144 : jKg σ80 := jKg.fr ((congrFun (f82 31 (by decide)) 8).trans (congrFun (f50 31 (by decide)) 8)) ((congrFun (f82 31 (by decide)) 9).trans (congrFun (f50 31 (by decide)) 9)) ((congrFun (f82 31 (by decide)) 11).trans (congrFun (f50 31 (by decide)) 11)) ((congrFun (f82 31 (by decide)) 12).trans (congrFun (f50 31 (by decide)) 12)) ((f82 32 (by decide)).trans (f50 32 (by decide))) ((f82 33 (by decide)).trans (f50 33 (by decide))) hs_jKg
        have p145 : jNz σ80 := jNz.fr ((f82 34 (by decide)).trans (f50 34 (by decide))) hs_jNz
        have p146 : jqSt σ80 := jqSt.fr ((f82 78 (by decide)).trans (f50 78 (by decide))) ((f83 42 (by decide)).trans (congrFun (f50 55 (by decide)) 42)) hs_jqSt
        have z147 : (σ80 2 0).toInt = (σ 2 0).toInt := (congrArg Int32.toInt (show σ80 2 0 = (σ 2 0) from ((congrFun (f82 2 (by decide)) 0).trans (congrFun (f50 2 (by decide)) 0))))
        have z148 : (σ80 55 6).toInt = (σ 55 6).toInt := (congrArg Int32.toInt (show σ80 55 6 = (σ 55 6) from ((f83 6 (by decide)).trans (congrFun (f50 55 (by decide)) 6))))
        have z149 : (σ80 2 2).toInt = (σ 2 2).toInt := (congrArg Int32.toInt (show σ80 2 2 = (σ 2 2) from ((congrFun (f82 2 (by decide)) 2).trans (congrFun (f50 2 (by decide)) 2))))
        have z150 : (σ80 55 5).toInt = (σ 55 5).toInt := (congrArg Int32.toInt (show σ80 55 5 = (σ 55 5) from ((f83 5 (by decide)).trans (congrFun (f50 55 (by decide)) 5))))
        have z151 : (σ80 2 3).toInt = (σ 2 3).toInt := (congrArg Int32.toInt (show σ80 2 3 = (σ 2 3) from ((congrFun (f82 2 (by decide)) 3).trans (congrFun (f50 2 (by decide)) 3))))
        have z152 : (σ80 55 4).toInt = (σ 55 4).toInt := (congrArg Int32.toInt (show σ80 55 4 = (σ 55 4) from ((f83 4 (by decide)).trans (congrFun (f50 55 (by decide)) 4))))
        have z153 : (σ80 9 0).toInt = (σ48 9 0).toInt := (congrArg Int32.toInt (show σ80 9 0 = (σ48 9 0) from (congrFun (f82 9 (by decide)) 0)))
        have z154 : (σ80 16 0).toInt = (σ48 16 0).toInt := (congrArg Int32.toInt (show σ80 16 0 = (σ48 16 0) from (congrFun (f82 16 (by decide)) 0)))
        have z155 : (σ80 16 1).toInt = (σ48 16 1).toInt := (congrArg Int32.toInt (show σ80 16 1 = (σ48 16 1) from (congrFun (f82 16 (by decide)) 1)))
        have z156 : (σ80 16 2).toInt = (σ48 16 2).toInt := (congrArg Int32.toInt (show σ80 16 2 = (σ48 16 2) from (congrFun (f82 16 (by decide)) 2)))
        have z157 : (σ80 38 0).toInt = (σ 38 0).toInt := (congrArg Int32.toInt (show σ80 38 0 = (σ 38 0) from ((congrFun (f82 38 (by decide)) 0).trans (congrFun (f50 38 (by decide)) 0))))
        have z158 : (σ80 55 32).toInt = (σ 55 32).toInt := (congrArg Int32.toInt (show σ80 55 32 = (σ 55 32) from ((f83 32 (by decide)).trans (congrFun (f50 55 (by decide)) 32))))
        have z159 : (σ80 38 1).toInt = (σ 38 1).toInt := (congrArg Int32.toInt (show σ80 38 1 = (σ 38 1) from ((congrFun (f82 38 (by decide)) 1).trans (congrFun (f50 38 (by decide)) 1))))
        have z160 : (σ80 55 55).toInt = (σ 55 55).toInt := (congrArg Int32.toInt (show σ80 55 55 = (σ 55 55) from ((f83 55 (by decide)).trans (congrFun (f50 55 (by decide)) 55))))
        have z161 : (σ80 47 0).toInt = (σ48 47 0).toInt := (congrArg Int32.toInt (show σ80 47 0 = (σ48 47 0) from (congrFun (f82 47 (by decide)) 0)))
        have z162 : (σ80 55 30).toInt = (σ 55 30).toInt := (congrArg Int32.toInt (show σ80 55 30 = (σ 55 30) from ((f83 30 (by decide)).trans (congrFun (f50 55 (by decide)) 30))))
        have z163 : (σ80 55 31).toInt = (σ 55 31).toInt := (congrArg Int32.toInt (show σ80 55 31 = (σ 55 31) from ((f83 31 (by decide)).trans (congrFun (f50 55 (by decide)) 31))))
        have z164 : (σ80 2 1).toInt = (σ 2 1).toInt := (congrArg Int32.toInt (show σ80 2 1 = (σ 2 1) from ((congrFun (f82 2 (by decide)) 1).trans (congrFun (f50 2 (by decide)) 1))))
        have z165 : (σ80 55 9).toInt = (σ 55 9).toInt := (congrArg Int32.toInt (show σ80 55 9 = (σ 55 9) from ((f83 9 (by decide)).trans (congrFun (f50 55 (by decide)) 9))))
        have z166 : (σ80 55 42).toInt = (σ 55 42).toInt := (congrArg Int32.toInt (show σ80 55 42 = (σ 55 42) from ((f83 42 (by decide)).trans (congrFun (f50 55 (by decide)) 42))))
        have z167 : (σ80 26 6).toInt = (σ 26 6).toInt := (congrArg Int32.toInt (show σ80 26 6 = (σ 26 6) from ((congrFun (f82 26 (by decide)) 6).trans (congrFun (f50 26 (by decide)) 6))))
        have z169 : (σ80 18 0).toInt = (σ 18 0).toInt := (congrArg Int32.toInt (show σ80 18 0 = (σ 18 0) from ((congrFun (f82 18 (by decide)) 0).trans (congrFun (f50 18 (by decide)) 0))))
        have z170 : (σ80 22 0).toInt = (σ 22 0).toInt := (congrArg Int32.toInt (show σ80 22 0 = (σ 22 0) from ((congrFun (f82 22 (by decide)) 0).trans (congrFun (f50 22 (by decide)) 0))))
        exact by exact ih x115 σ80 τ _ _ ls (by have h9 := tx115; omega) ⟨I116, I117, I118, I119, I120, I121, I122, I123, I124, I125, I126, I127, I128, I129, I130, I131, I84, I85, I132, I86, I133, I134, I135, I136, p137, p87, p138, p139, p140, p141, p142, p143, p144, p145, p146, (by rw [z147, z148]; exact ht0), (by rw [z149, z150]; exact ht1), (by rw [z149, z151, z152]; exact ht2), (by omega), (by omega), (by omega), (by omega), (by rw [z157, z158]; exact ht7), (by rw [z159, z160]; exact ht8), (by omega), (by rw [z162]; exact ht10), (by rw [z163]; exact ht11), (by rw [z164, z165]; exact ht12), (by rw [z166]; exact ht13), (by have h9 := tx115; omega), (by have h9 := tx115; omega), (show jNumP (σ80 3) (σ80 56) (σ80 6) (σ80 57) (σ80 7) (σ80 58) (σ80 8) (σ80 59) (σ80 55 6).toInt (σ80 55 4).toInt by rw [show σ80 3 = σ 3 from ((f82 3 (by decide)).trans (f50 3 (by decide))), show σ80 56 = σ 56 from ((f82 56 (by decide)).trans (f50 56 (by decide))), show σ80 6 = σ 6 from ((f82 6 (by decide)).trans (f50 6 (by decide))), show σ80 57 = σ 57 from ((f82 57 (by decide)).trans (f50 57 (by decide))), show σ80 7 = σ 7 from ((f82 7 (by decide)).trans (f50 7 (by decide))), show σ80 58 = σ 58 from ((f82 58 (by decide)).trans (f50 58 (by decide))), show σ80 8 = σ 8 from ((f82 8 (by decide)).trans (f50 8 (by decide))), show σ80 59 = σ 59 from ((f82 59 (by decide)).trans (f50 59 (by decide))), show (σ80 55 6).toInt = (σ 55 6).toInt from z148, show (σ80 55 4).toInt = (σ 55 4).toInt from z152]; exact hr0), (show jOvP (σ80 56) (σ80 57) (σ80 58) (σ80 59) (σ80 55 4).toInt by rw [show σ80 56 = σ 56 from ((f82 56 (by decide)).trans (f50 56 (by decide))), show σ80 57 = σ 57 from ((f82 57 (by decide)).trans (f50 57 (by decide))), show σ80 58 = σ 58 from ((f82 58 (by decide)).trans (f50 58 (by decide))), show σ80 59 = σ 59 from ((f82 59 (by decide)).trans (f50 59 (by decide))), show (σ80 55 4).toInt = (σ 55 4).toInt from z152]; exact hr1), (show jTp (σ80 10) (σ80 63) (σ80 55 15).toInt by rw [show σ80 10 = σ 10 from ((f82 10 (by decide)).trans (f50 10 (by decide))), show σ80 63 = σ 63 from ((f82 63 (by decide)).trans (f50 63 (by decide)))]; exact hr2.le (by omega)), (show jSo (σ80 17) (σ80 62) (σ80 16 0).toInt by rw [show σ80 17 = σ48 17 from (f82 17 (by decide)), show (σ80 16 0).toInt = (σ48 16 0).toInt from by omega]; exact p104), (show jShP (σ80 51) (σ80 52) (σ80 53) (σ80 86) (σ80 87) (σ80 55 32).toInt by rw [show σ80 51 = σ 51 from ((f82 51 (by decide)).trans (f50 51 (by decide))), show σ80 52 = σ 52 from ((f82 52 (by decide)).trans (f50 52 (by decide))), show σ80 53 = σ 53 from ((f82 53 (by decide)).trans (f50 53 (by decide))), show σ80 86 = σ 86 from ((f82 86 (by decide)).trans (f50 86 (by decide))), show σ80 87 = σ 87 from ((f82 87 (by decide)).trans (f50 87 (by decide)))]; exact (hr4.up (by omega) (by omega))), (show jEl (σ80 51) (σ80 52) (τ 54) (τ 88) by rw [show σ80 51 = σ 51 from ((f82 51 (by decide)).trans (f50 51 (by decide))), show σ80 52 = σ 52 from ((f82 52 (by decide)).trans (f50 52 (by decide)))]; exact hr5), (show jByP (σ80 51) (σ80 52) (τ 54) by rw [show σ80 51 = σ 51 from ((f82 51 (by decide)).trans (f50 51 (by decide))), show σ80 52 = σ 52 from ((f82 52 (by decide)).trans (f50 52 (by decide)))]; exact hr6), (show jBk (σ80 48) (σ80 80) (σ80 49) (σ80 81) (σ80 55 47).toInt from (Or.elim (show (σ80 55 47).toInt = (σ 55 47).toInt ∨ (σ80 55 47).toInt ≤ 0 by omega) (fun z => by rw [show σ80 48 = σ 48 from ((f82 48 (by decide)).trans (f50 48 (by decide))), show σ80 49 = σ 49 from ((f82 49 (by decide)).trans (f50 49 (by decide))), show σ80 80 = σ 80 from ((f82 80 (by decide)).trans (f50 80 (by decide))), show σ80 81 = σ 81 from ((f82 81 (by decide)).trans (f50 81 (by decide))), z]; exact hr7) (fun z => jBk.nil z))), (show jKd (σ80 39) (σ80 70) (σ80 55 32).toInt by rw [show σ80 39 = σ 39 from ((f82 39 (by decide)).trans (f50 39 (by decide))), show σ80 70 = σ 70 from ((f82 70 (by decide)).trans (f50 70 (by decide))), show (σ80 55 32).toInt = (σ 55 32).toInt from z158]; exact hr8), (show jTt (σ80 42) (σ80 85) (σ80 55 55).toInt by rw [show σ80 42 = σ 42 from ((f82 42 (by decide)).trans (f50 42 (by decide))), show σ80 85 = σ 85 from ((f82 85 (by decide)).trans (f50 85 (by decide))), show (σ80 55 55).toInt = (σ 55 55).toInt from z160]; exact hr9), (fun k hk => by rw [show σ80 4 = σ 4 from ((f82 4 (by decide)).trans (f50 4 (by decide))), show σ80 5 = σ 5 from ((f82 5 (by decide)).trans (f50 5 (by decide))), show σ80 60 = σ 60 from ((f82 60 (by decide)).trans (f50 60 (by decide))), show σ80 61 = σ 61 from ((f82 61 (by decide)).trans (f50 61 (by decide)))]; exact hr10 k (by omega)), (fun nm => by rw [show σ80 19 = σ 19 from ((f82 19 (by decide)).trans (f50 19 (by decide))), show σ80 64 = σ 64 from ((f82 64 (by decide)).trans (f50 64 (by decide))), show σ80 65 = σ 65 from ((f82 65 (by decide)).trans (f50 65 (by decide))), show (σ80 18 0).toInt = (σ 18 0).toInt from z169]; exact hr11 nm), (fun nm => by rw [show σ80 23 = σ 23 from ((f82 23 (by decide)).trans (f50 23 (by decide))), show σ80 64 = σ 64 from ((f82 64 (by decide)).trans (f50 64 (by decide))), show σ80 65 = σ 65 from ((f82 65 (by decide)).trans (f50 65 (by decide))), show (σ80 22 0).toInt = (σ 22 0).toInt from z170]; exact hr12 nm), (show jAlP (σ80 56) (σ80 57) (σ80 58) (σ80 59) (σ80 55 4).toInt by rw [show σ80 56 = σ 56 from ((f82 56 (by decide)).trans (f50 56 (by decide))), show σ80 57 = σ 57 from ((f82 57 (by decide)).trans (f50 57 (by decide))), show σ80 58 = σ 58 from ((f82 58 (by decide)).trans (f50 58 (by decide))), show σ80 59 = σ 59 from ((f82 59 (by decide)).trans (f50 59 (by decide))), show (σ80 55 4).toInt = (σ 55 4).toInt from z152]; exact hr13), (show jqbN (σ80 80) (σ80 55 47).toInt from (Or.elim (show (σ80 55 47).toInt = (σ 55 47).toInt ∨ (σ80 55 47).toInt ≤ 0 by omega) (fun z => by rw [show σ80 80 = σ 80 from ((f82 80 (by decide)).trans (f50 80 (by decide))), z]; exact hr14) (fun z => jqbN.nil z)))⟩ hP hS (lv_sub hl [0, 1, 2, 3] rfl)
     · obtain ⟨q173, k171, k172⟩ := h111
       exact absurd (by omega : False) id
  · obtain ⟨q176, k174, k175⟩ := h71
    refine lv_pop hx hb dL_law_385 rfl ?_
    refine lv_aload_n hx hb dL_law_386 rfl (lv_at hl 1 rfl) ?_
    have I177 : jI104 σ48 := jI104_fr (congrFun (f50 55 (by decide)) 10) (congrFun (f50 55 (by decide)) 12) (congrFun (f50 55 (by decide)) 13) (f50 62 (by decide)) (f50 67 (by decide)) hI104
    have I178 : jI105 σ48 := jI105_fr (congrFun (f50 55 (by decide)) 15) (f50 65 (by decide)) hI105
    have I179 : jI107 σ48 := jI107_fr (congrFun (f50 55 (by decide)) 12) (congrFun (f50 55 (by decide)) 47) (f50 80 (by decide)) hI107
    have p180 : jBook σ48 := jBook.fr (congrFun (f50 55 (by decide)) 47) (congrFun (f50 55 (by decide)) 10) (f50 81 (by decide)) hs_jBook
    have z181 : (σ48 55 47).toInt = (σ 55 47).toInt := (congrArg Int32.toInt (show σ48 55 47 = (σ 55 47) from (congrFun (f50 55 (by decide)) 47)))
    refine jcallV (As := []) (rest := []) ⟨hx, hb, hml, hown, hts⟩ hK hP hA hS hZ (c_X12_order l D cI cL ad zz hJ σ48 τ I177 I178 I179 p180) cw_RL_40 (jc_55 cI cL ad σ48 τ) rfl ⟨Nat.le_of_ble_eq_true rfl, Nat.le_of_ble_eq_true rfl⟩ rfl rfl rfl hl.1 rfl (Nat.le_of_ble_eq_true rfl) dL_law_387 ⟨Nat.le_of_ble_eq_true rfl, Nat.le_of_ble_eq_true rfl⟩ (fun r183 σ182 τ182 H locs h182 hP hS => ?_)
    obtain ⟨rfl, f184, f185, I186, I187, I188, p189, w190, h182⟩ := h182
    obtain ⟨i192, i193, i194, w195, w196⟩ : (1 ≤ (σ182 55 10).toInt ∧ (σ182 55 10).toInt ≤ 8) ∧ (1 ≤ (σ182 55 12).toInt ∧ (σ182 55 12).toInt ≤ 12) ∧ (0 ≤ (σ182 55 13).toInt ∧ (σ182 55 13).toInt ≤ 999) ∧ (∀ k : Nat, k < 8 → 0 ≤ (σ182 62 k).toInt ∧ (σ182 62 k).toInt ≤ 3) ∧ (∀ k : Nat, k < 8 → 0 ≤ (σ182 67 k).toInt ∧ (σ182 67 k).toInt ≤ 3) := id I186
    obtain ⟨i197, w198⟩ : (0 ≤ (σ182 55 15).toInt ∧ (σ182 55 15).toInt ≤ 80) ∧ (∀ k : Nat, k < 2 → (-1) ≤ (σ182 65 k).toInt ∧ (σ182 65 k).toInt ≤ 80) := id I187
    obtain ⟨i199, i200, w201⟩ : (0 ≤ (σ182 55 47).toInt ∧ (σ182 55 47).toInt ≤ 12) ∧ ((σ182 55 47).toInt ≤ (σ182 55 12).toInt) ∧ (∀ k : Nat, k < 12 → 0 ≤ (σ182 80 k).toInt ∧ (σ182 80 k).toInt ≤ 3) := id I188
    have z202 : (σ48 55 10).toInt = (σ 55 10).toInt := (congrArg Int32.toInt (show σ48 55 10 = (σ 55 10) from (congrFun (f50 55 (by decide)) 10)))
    have z203 : (σ48 55 12).toInt = (σ 55 12).toInt := (congrArg Int32.toInt (show σ48 55 12 = (σ 55 12) from (congrFun (f50 55 (by decide)) 12)))
    have z204 : (σ48 55 13).toInt = (σ 55 13).toInt := (congrArg Int32.toInt (show σ48 55 13 = (σ 55 13) from (congrFun (f50 55 (by decide)) 13)))
    have z205 : (σ48 55 15).toInt = (σ 55 15).toInt := (congrArg Int32.toInt (show σ48 55 15 = (σ 55 15) from (congrFun (f50 55 (by decide)) 15)))
    rw [show (σ48 55 10).toInt = (σ 55 10).toInt from by omega, show (σ48 55 12).toInt = (σ 55 12).toInt from by omega, show (σ48 55 13).toInt = (σ 55 13).toInt from by omega, show (σ48 55 15).toInt = (σ 55 15).toInt from by omega, show σ48 63 = σ 63 from (f50 63 (by decide)), show σ48 62 = σ 62 from (f50 62 (by decide))] at w190
    rw [show (σ 9 0).toInt = (σ 55 15).toInt from by omega] at w57
    exact by
     have p206 := hr2 |> fun h => jOrA.det h w57 w190 (by omega) (by omega) (by omega) hr3
     obtain ⟨k207, k208, k209, k210, p206⟩ := p206
     obtain ⟨k211, h182⟩ := h182
     rcases h182 with h212 | h213
     · obtain ⟨q216, k214, k215⟩ := h212
       exact absurd (by omega : False) id
     · obtain ⟨q219, k217, k218⟩ := h213
       refine lv_pop hx hb dL_law_390 rfl ?_
       refine lv_goto (tgt := 1357) hx hb dL_law_391 (by decide) ?_
       obtain ⟨x220, ex220⟩ : ∃ y : Int32, y = x0 + 6 := ⟨_, rfl⟩
       exact by
        have tx220 : x220.toInt = x0.toInt + 6 := (jadd ex220 rfl jz_6 (by omega) (by omega)).trans (by omega)
        refine lv_iinc (v := x220) (lv' := [(3, .int x220), (2, .ref (ad 55)), (1, .ref (ad 0)), (0, .ref b)]) hx hb dL_law_1357 hl (k := 0) rfl (by rw [ex220]; rfl) (by decide) rfl (fun ls hl => ?_)
        refine lv_goto (tgt := 18) hx hb dL_law_1360 (by decide) ?_
        have I221 : jI2 σ182 := jI2_fr ((congrFun (f184 2 (by decide)) 0).trans (congrFun (f50 2 (by decide)) 0)) ((congrFun (f184 2 (by decide)) 1).trans (congrFun (f50 2 (by decide)) 1)) ((congrFun (f184 2 (by decide)) 2).trans (congrFun (f50 2 (by decide)) 2)) ((congrFun (f184 2 (by decide)) 3).trans (congrFun (f50 2 (by decide)) 3)) ((f184 6 (by decide)).trans (f50 6 (by decide))) ((f184 5 (by decide)).trans (f50 5 (by decide))) hI2
        have I222 : jI9 σ182 := jI9_fr (congrFun (f184 9 (by decide)) 0) (f184 10 (by decide)) (f184 11 (by decide)) I54
        have I223 : jI12 σ182 := jI12_fr ((congrFun (f184 12 (by decide)) 0).trans (congrFun (f50 12 (by decide)) 0)) ((f184 13 (by decide)).trans (f50 13 (by decide))) hI12
        have I224 : jI16 σ182 := jI16_fr (congrFun (f184 16 (by decide)) 0) (congrFun (f184 16 (by decide)) 1) (congrFun (f184 16 (by decide)) 2) (f184 17 (by decide)) I55
        have I225 : jI18 σ182 := jI18_fr ((congrFun (f184 18 (by decide)) 0).trans (congrFun (f50 18 (by decide)) 0)) ((f184 19 (by decide)).trans (f50 19 (by decide))) hI18
        have I226 : jI22 σ182 := jI22_fr ((congrFun (f184 22 (by decide)) 0).trans (congrFun (f50 22 (by decide)) 0)) ((f184 23 (by decide)).trans (f50 23 (by decide))) hI22
        exact by
         have I227 : jI31 σ182 := jI31_fr ((congrFun (f184 31 (by decide)) 8).trans (congrFun (f50 31 (by decide)) 8)) ((congrFun (f184 31 (by decide)) 10).trans (congrFun (f50 31 (by decide)) 10)) ((congrFun (f184 31 (by decide)) 11).trans (congrFun (f50 31 (by decide)) 11)) ((f184 33 (by decide)).trans (f50 33 (by decide))) ((f184 35 (by decide)).trans (f50 35 (by decide))) ((f184 36 (by decide)).trans (f50 36 (by decide))) hI31
         have I228 : jI38 σ182 := jI38_fr ((congrFun (f184 38 (by decide)) 0).trans (congrFun (f50 38 (by decide)) 0)) ((congrFun (f184 38 (by decide)) 1).trans (congrFun (f50 38 (by decide)) 1)) ((f184 39 (by decide)).trans (f50 39 (by decide))) hI38
         have I229 : jI43 σ182 := jI43_fr ((congrFun (f184 43 (by decide)) 8).trans (congrFun (f50 43 (by decide)) 8)) hI43
         have I230 : jI47 σ182 := jI47_fr (congrFun (f184 47 (by decide)) 0) (f184 48 (by decide)) (f184 49 (by decide)) I56
         have I231 : jI50 σ182 := jI50_fr ((f184 52 (by decide)).trans (f50 52 (by decide))) hI50
         have I232 : jI0 σ182 := jI0_fr ((f184 1 (by decide)).trans (f50 1 (by decide))) hI0
         have I233 : jI26 σ182 := jI26_fr ((congrFun (f184 26 (by decide)) 6).trans (congrFun (f50 26 (by decide)) 6)) hI26
         have I234 : jI101 σ182 := jI101_fr ((f185 4 (by decide)).trans (congrFun (f50 55 (by decide)) 4)) ((f185 5 (by decide)).trans (congrFun (f50 55 (by decide)) 5)) ((f184 56 (by decide)).trans (f50 56 (by decide))) ((f184 57 (by decide)).trans (f50 57 (by decide))) ((f184 58 (by decide)).trans (f50 58 (by decide))) ((f184 59 (by decide)).trans (f50 59 (by decide))) hI101
         have I235 : jI102 σ182 := jI102_fr ((f185 6 (by decide)).trans (congrFun (f50 55 (by decide)) 6)) ((f184 60 (by decide)).trans (f50 60 (by decide))) ((f184 61 (by decide)).trans (f50 61 (by decide))) hI102
         have I236 : jI103 σ182 := jI103_fr ((f185 9 (by decide)).trans (congrFun (f50 55 (by decide)) 9)) hI103
         have I237 : jI106 σ182 := jI106_fr ((f185 32 (by decide)).trans (congrFun (f50 55 (by decide)) 32)) ((f184 70 (by decide)).trans (f50 70 (by decide))) ((f184 71 (by decide)).trans (f50 71 (by decide))) ((f184 72 (by decide)).trans (f50 72 (by decide))) hI106
         have I238 : jI109 σ182 := jI109_fr ((f185 50 (by decide)).trans (congrFun (f50 55 (by decide)) 50)) hI109
         have I239 : jI110 σ182 := jI110_fr ((f184 86 (by decide)).trans (f50 86 (by decide))) ((f184 87 (by decide)).trans (f50 87 (by decide))) hI110
         have I240 : jI111 σ182 := jI111_fr ((f184 79 (by decide)).trans (f50 79 (by decide))) hI111
         have I241 : jI119 σ182 := jI119_fr ((f184 68 (by decide)).trans (f50 68 (by decide))) hI119
         have p242 : jKept σ182 := jKept.fr ((f184 75 (by decide)).trans (f50 75 (by decide))) ((f184 76 (by decide)).trans (f50 76 (by decide))) ((f184 77 (by decide)).trans (f50 77 (by decide))) hs_jKept
         have p243 : jNd12 σ182 := jNd12.fr ((congrFun (f184 12 (by decide)) 0).trans (congrFun (f50 12 (by decide)) 0)) ((congrFun (f184 12 (by decide)) 1).trans (congrFun (f50 12 (by decide)) 1)) ((f184 13 (by decide)).trans (f50 13 (by decide))) hs_jNd12
         have p244 : jN67 σ182 := jN67.fr ((f184 24 (by decide)).trans (f50 24 (by decide))) hs_jN67
         have p245 : jBl σ182 := jBl.fr ((congrFun (f184 22 (by decide)) 0).trans (congrFun (f50 22 (by decide)) 0)) ((congrFun (f184 22 (by decide)) 1).trans (congrFun (f50 22 (by decide)) 1)) ((f184 23 (by decide)).trans (f50 23 (by decide))) ((congrFun (f184 26 (by decide)) 6).trans (congrFun (f50 26 (by decide)) 6)) ((congrFun (f184 26 (by decide)) 7).trans (congrFun (f50 26 (by decide)) 7)) ((f184 29 (by decide)).trans (f50 29 (by decide))) ((f184 30 (by decide)).trans (f50 30 (by decide))) hs_jBl
         have p246 : jKb σ182 := jKb.fr ((congrFun (f184 31 (by decide)) 8).trans (congrFun (f50 31 (by decide)) 8)) ((congrFun (f184 31 (by decide)) 11).trans (congrFun (f50 31 (by decide)) 11)) ((f184 32 (by decide)).trans (f50 32 (by decide))) hs_jKb
         have p247 : jTR σ182 := jTR.fr ((f184 64 (by decide)).trans (f50 64 (by decide))) ((f184 65 (by decide)).trans (f50 65 (by decide))) hs_jTR
         have p248 : jKh σ182 := jKh.fr ((congrFun (f184 31 (by decide)) 8).trans (congrFun (f50 31 (by decide)) 8)) ((f184 32 (by decide)).trans (f50 32 (by decide))) ((f184 36 (by decide)).trans (f50 36 (by decide))) ((f184 37 (by decide)).trans (f50 37 (by decide))) hs_jKh
         have p249 : jKg σ182 := jKg.fr ((congrFun (f184 31 (by decide)) 8).trans (congrFun (f50 31 (by decide)) 8)) ((congrFun (f184 31 (by decide)) 9).trans (congrFun (f50 31 (by decide)) 9)) ((congrFun (f184 31 (by decide)) 11).trans (congrFun (f50 31 (by decide)) 11)) ((congrFun (f184 31 (by decide)) 12).trans (congrFun (f50 31 (by decide)) 12)) ((f184 32 (by decide)).trans (f50 32 (by decide))) ((f184 33 (by decide)).trans (f50 33 (by decide))) hs_jKg
         have p250 : jNz σ182 := jNz.fr ((f184 34 (by decide)).trans (f50 34 (by decide))) hs_jNz
         have p251 : jqSt σ182 := jqSt.fr ((f184 78 (by decide)).trans (f50 78 (by decide))) ((f185 42 (by decide)).trans (congrFun (f50 55 (by decide)) 42)) hs_jqSt
         have z252 : (σ182 2 0).toInt = (σ 2 0).toInt := (congrArg Int32.toInt (show σ182 2 0 = (σ 2 0) from ((congrFun (f184 2 (by decide)) 0).trans (congrFun (f50 2 (by decide)) 0))))
         have z253 : (σ182 55 6).toInt = (σ 55 6).toInt := (congrArg Int32.toInt (show σ182 55 6 = (σ 55 6) from ((f185 6 (by decide)).trans (congrFun (f50 55 (by decide)) 6))))
         have z254 : (σ182 2 2).toInt = (σ 2 2).toInt := (congrArg Int32.toInt (show σ182 2 2 = (σ 2 2) from ((congrFun (f184 2 (by decide)) 2).trans (congrFun (f50 2 (by decide)) 2))))
         have z255 : (σ182 55 5).toInt = (σ 55 5).toInt := (congrArg Int32.toInt (show σ182 55 5 = (σ 55 5) from ((f185 5 (by decide)).trans (congrFun (f50 55 (by decide)) 5))))
         have z256 : (σ182 2 3).toInt = (σ 2 3).toInt := (congrArg Int32.toInt (show σ182 2 3 = (σ 2 3) from ((congrFun (f184 2 (by decide)) 3).trans (congrFun (f50 2 (by decide)) 3))))
         have z257 : (σ182 55 4).toInt = (σ 55 4).toInt := (congrArg Int32.toInt (show σ182 55 4 = (σ 55 4) from ((f185 4 (by decide)).trans (congrFun (f50 55 (by decide)) 4))))
         have z258 : (σ182 9 0).toInt = (σ48 9 0).toInt := (congrArg Int32.toInt (show σ182 9 0 = (σ48 9 0) from (congrFun (f184 9 (by decide)) 0)))
         have z259 : (σ182 16 0).toInt = (σ48 16 0).toInt := (congrArg Int32.toInt (show σ182 16 0 = (σ48 16 0) from (congrFun (f184 16 (by decide)) 0)))
         have z260 : (σ182 16 1).toInt = (σ48 16 1).toInt := (congrArg Int32.toInt (show σ182 16 1 = (σ48 16 1) from (congrFun (f184 16 (by decide)) 1)))
         have z261 : (σ182 16 2).toInt = (σ48 16 2).toInt := (congrArg Int32.toInt (show σ182 16 2 = (σ48 16 2) from (congrFun (f184 16 (by decide)) 2)))
         have z262 : (σ182 38 0).toInt = (σ 38 0).toInt := (congrArg Int32.toInt (show σ182 38 0 = (σ 38 0) from ((congrFun (f184 38 (by decide)) 0).trans (congrFun (f50 38 (by decide)) 0))))
         have z263 : (σ182 55 32).toInt = (σ 55 32).toInt := (congrArg Int32.toInt (show σ182 55 32 = (σ 55 32) from ((f185 32 (by decide)).trans (congrFun (f50 55 (by decide)) 32))))
         have z264 : (σ182 38 1).toInt = (σ 38 1).toInt := (congrArg Int32.toInt (show σ182 38 1 = (σ 38 1) from ((congrFun (f184 38 (by decide)) 1).trans (congrFun (f50 38 (by decide)) 1))))
         have z265 : (σ182 55 55).toInt = (σ 55 55).toInt := (congrArg Int32.toInt (show σ182 55 55 = (σ 55 55) from ((f185 55 (by decide)).trans (congrFun (f50 55 (by decide)) 55))))
         have z266 : (σ182 47 0).toInt = (σ48 47 0).toInt := (congrArg Int32.toInt (show σ182 47 0 = (σ48 47 0) from (congrFun (f184 47 (by decide)) 0)))
         have z267 : (σ182 55 30).toInt = (σ 55 30).toInt := (congrArg Int32.toInt (show σ182 55 30 = (σ 55 30) from ((f185 30 (by decide)).trans (congrFun (f50 55 (by decide)) 30))))
         have z268 : (σ182 55 31).toInt = (σ 55 31).toInt := (congrArg Int32.toInt (show σ182 55 31 = (σ 55 31) from ((f185 31 (by decide)).trans (congrFun (f50 55 (by decide)) 31))))
         have z269 : (σ182 2 1).toInt = (σ 2 1).toInt := (congrArg Int32.toInt (show σ182 2 1 = (σ 2 1) from ((congrFun (f184 2 (by decide)) 1).trans (congrFun (f50 2 (by decide)) 1))))
         have z270 : (σ182 55 9).toInt = (σ 55 9).toInt := (congrArg Int32.toInt (show σ182 55 9 = (σ 55 9) from ((f185 9 (by decide)).trans (congrFun (f50 55 (by decide)) 9))))
         have z271 : (σ182 55 42).toInt = (σ 55 42).toInt := (congrArg Int32.toInt (show σ182 55 42 = (σ 55 42) from ((f185 42 (by decide)).trans (congrFun (f50 55 (by decide)) 42))))
         have z272 : (σ182 26 6).toInt = (σ 26 6).toInt := (congrArg Int32.toInt (show σ182 26 6 = (σ 26 6) from ((congrFun (f184 26 (by decide)) 6).trans (congrFun (f50 26 (by decide)) 6))))
         have z274 : (σ182 18 0).toInt = (σ 18 0).toInt := (congrArg Int32.toInt (show σ182 18 0 = (σ 18 0) from ((congrFun (f184 18 (by decide)) 0).trans (congrFun (f50 18 (by decide)) 0))))
         have z275 : (σ182 22 0).toInt = (σ 22 0).toInt := (congrArg Int32.toInt (show σ182 22 0 = (σ 22 0) from ((congrFun (f184 22 (by decide)) 0).trans (congrFun (f50 22 (by decide)) 0))))
         exact by exact ih x220 σ182 τ _ _ ls (by have h9 := tx220; omega) ⟨I221, I222, I223, I224, I225, I226, I227, I228, I229, I230, I231, I232, I233, I234, I235, I236, I186, I187, I237, I188, I238, I239, I240, I241, p242, p189, p243, p244, p245, p246, p247, p248, p249, p250, p251, (by rw [z252, z253]; exact ht0), (by rw [z254, z255]; exact ht1), (by rw [z254, z256, z257]; exact ht2), (by omega), (by omega), (by omega), (by omega), (by rw [z262, z263]; exact ht7), (by rw [z264, z265]; exact ht8), (by omega), (by rw [z267]; exact ht10), (by rw [z268]; exact ht11), (by rw [z269, z270]; exact ht12), (by rw [z271]; exact ht13), (by have h9 := tx220; omega), (by have h9 := tx220; omega), (show jNumP (σ182 3) (σ182 56) (σ182 6) (σ182 57) (σ182 7) (σ182 58) (σ182 8) (σ182 59) (σ182 55 6).toInt (σ182 55 4).toInt by rw [show σ182 3 = σ 3 from ((f184 3 (by decide)).trans (f50 3 (by decide))), show σ182 56 = σ 56 from ((f184 56 (by decide)).trans (f50 56 (by decide))), show σ182 6 = σ 6 from ((f184 6 (by decide)).trans (f50 6 (by decide))), show σ182 57 = σ 57 from ((f184 57 (by decide)).trans (f50 57 (by decide))), show σ182 7 = σ 7 from ((f184 7 (by decide)).trans (f50 7 (by decide))), show σ182 58 = σ 58 from ((f184 58 (by decide)).trans (f50 58 (by decide))), show σ182 8 = σ 8 from ((f184 8 (by decide)).trans (f50 8 (by decide))), show σ182 59 = σ 59 from ((f184 59 (by decide)).trans (f50 59 (by decide))), show (σ182 55 6).toInt = (σ 55 6).toInt from z253, show (σ182 55 4).toInt = (σ 55 4).toInt from z257]; exact hr0), (show jOvP (σ182 56) (σ182 57) (σ182 58) (σ182 59) (σ182 55 4).toInt by rw [show σ182 56 = σ 56 from ((f184 56 (by decide)).trans (f50 56 (by decide))), show σ182 57 = σ 57 from ((f184 57 (by decide)).trans (f50 57 (by decide))), show σ182 58 = σ 58 from ((f184 58 (by decide)).trans (f50 58 (by decide))), show σ182 59 = σ 59 from ((f184 59 (by decide)).trans (f50 59 (by decide))), show (σ182 55 4).toInt = (σ 55 4).toInt from z257]; exact hr1), (show jTp (σ182 10) (σ182 63) (σ182 55 15).toInt by rw [show σ182 10 = σ 10 from ((f184 10 (by decide)).trans (f50 10 (by decide))), show σ182 63 = σ 63 from ((f184 63 (by decide)).trans (f50 63 (by decide)))]; exact hr2.le (by omega)), (show jSo (σ182 17) (σ182 62) (σ182 16 0).toInt by rw [show σ182 17 = σ48 17 from (f184 17 (by decide)), show (σ182 16 0).toInt = (σ48 16 0).toInt from by omega]; exact p206), (show jShP (σ182 51) (σ182 52) (σ182 53) (σ182 86) (σ182 87) (σ182 55 32).toInt by rw [show σ182 51 = σ 51 from ((f184 51 (by decide)).trans (f50 51 (by decide))), show σ182 52 = σ 52 from ((f184 52 (by decide)).trans (f50 52 (by decide))), show σ182 53 = σ 53 from ((f184 53 (by decide)).trans (f50 53 (by decide))), show σ182 86 = σ 86 from ((f184 86 (by decide)).trans (f50 86 (by decide))), show σ182 87 = σ 87 from ((f184 87 (by decide)).trans (f50 87 (by decide)))]; exact (hr4.up (by omega) (by omega))), (show jEl (σ182 51) (σ182 52) (τ 54) (τ 88) by rw [show σ182 51 = σ 51 from ((f184 51 (by decide)).trans (f50 51 (by decide))), show σ182 52 = σ 52 from ((f184 52 (by decide)).trans (f50 52 (by decide)))]; exact hr5), (show jByP (σ182 51) (σ182 52) (τ 54) by rw [show σ182 51 = σ 51 from ((f184 51 (by decide)).trans (f50 51 (by decide))), show σ182 52 = σ 52 from ((f184 52 (by decide)).trans (f50 52 (by decide)))]; exact hr6), (jBk.nil (by omega)), (show jKd (σ182 39) (σ182 70) (σ182 55 32).toInt by rw [show σ182 39 = σ 39 from ((f184 39 (by decide)).trans (f50 39 (by decide))), show σ182 70 = σ 70 from ((f184 70 (by decide)).trans (f50 70 (by decide))), show (σ182 55 32).toInt = (σ 55 32).toInt from z263]; exact hr8), (show jTt (σ182 42) (σ182 85) (σ182 55 55).toInt by rw [show σ182 42 = σ 42 from ((f184 42 (by decide)).trans (f50 42 (by decide))), show σ182 85 = σ 85 from ((f184 85 (by decide)).trans (f50 85 (by decide))), show (σ182 55 55).toInt = (σ 55 55).toInt from z265]; exact hr9), (fun k hk => by rw [show σ182 4 = σ 4 from ((f184 4 (by decide)).trans (f50 4 (by decide))), show σ182 5 = σ 5 from ((f184 5 (by decide)).trans (f50 5 (by decide))), show σ182 60 = σ 60 from ((f184 60 (by decide)).trans (f50 60 (by decide))), show σ182 61 = σ 61 from ((f184 61 (by decide)).trans (f50 61 (by decide)))]; exact hr10 k (by omega)), (fun nm => by rw [show σ182 19 = σ 19 from ((f184 19 (by decide)).trans (f50 19 (by decide))), show σ182 64 = σ 64 from ((f184 64 (by decide)).trans (f50 64 (by decide))), show σ182 65 = σ 65 from ((f184 65 (by decide)).trans (f50 65 (by decide))), show (σ182 18 0).toInt = (σ 18 0).toInt from z274]; exact hr11 nm), (fun nm => by rw [show σ182 23 = σ 23 from ((f184 23 (by decide)).trans (f50 23 (by decide))), show σ182 64 = σ 64 from ((f184 64 (by decide)).trans (f50 64 (by decide))), show σ182 65 = σ 65 from ((f184 65 (by decide)).trans (f50 65 (by decide))), show (σ182 22 0).toInt = (σ 22 0).toInt from z275]; exact hr12 nm), (show jAlP (σ182 56) (σ182 57) (σ182 58) (σ182 59) (σ182 55 4).toInt by rw [show σ182 56 = σ 56 from ((f184 56 (by decide)).trans (f50 56 (by decide))), show σ182 57 = σ 57 from ((f184 57 (by decide)).trans (f50 57 (by decide))), show σ182 58 = σ 58 from ((f184 58 (by decide)).trans (f50 58 (by decide))), show σ182 59 = σ 59 from ((f184 59 (by decide)).trans (f50 59 (by decide))), show (σ182 55 4).toInt = (σ 55 4).toInt from z257]; exact hr13), (jqbN.nil (by omega))⟩ hP hS (lv_sub hl [0, 1, 2, 3] rfl)
set_option maxHeartbeats 4000000 in
set_option maxRecDepth 100000 in
theorem law_case_6 {p : Program} {e : Env} {s : State} {m : MethodId} {below : List Frame} {meth : Method} {c : Code} (l : Launch) {b L : Nat} {xs : Nat → Int32} {D : va_G} {cI cL : ClassId} {ad zz : Nat → Nat} (C0 : lw_At p s m meth c b L xs) (hJ : jD ad) (hA : ∀ q, jA ad q → s.heap.size ≤ q) (hK : jK D cI cL s) (hZ : jZ zz (fun q : Nat => s.heap.size ≤ q) s s.heap) {x0 : Int32} (hx0 : 0 ≤ x0.toInt) (hxL : x0.toInt + 6 ≤ (L : Int)) (hL : L ≤ 384) {σ : Nat → Nat → Int32} {τ : Nat → Nat → Int64} {H : Heap} {locs : List Loc} (hS : va_S (fun q : Nat => s.heap.size ≤ q) s.heap H locs) {ls : Array Slot} (hAll : jAll x0.toInt σ τ) (hP : jH D cI cL ad σ τ H) (hl : lv_has ls 4 [(3, .int x0), (2, .ref (ad 55)), (1, .ref (ad 0)), (0, .ref b)]) (ih : ∀ (x1 : Int32) (σ : Nat → Nat → Int32) (τ : Nat → Nat → Int64) (H : Heap) (locs : List Loc) (ls : Array Slot), x1.toInt = x0.toInt + 6 → jAll x1.toInt σ τ → jH D cI cL ad σ τ H → va_S (fun q : Nat => s.heap.size ≤ q) s.heap H locs → lv_has ls 4 [(3, .int x1), (2, .ref (ad 55)), (1, .ref (ad 0)), (0, .ref b)] → W p l e room_1 s m #[Value.ref b] below meth c H locs 90 348600 (lw_Z below #[Value.ref b] s) (F0 m 18 ls [])) : W p l e room_1 s m #[Value.ref b] below meth c H locs 90 348600 (lw_Z below #[Value.ref b] s) (F0 m 394 ls []) := by
  obtain ⟨hx, hb, hr, hml, hown, hts0, hX, hbl, hlocks, hgv⟩ := C0
  have hts : ∀ w ∈ wsL_law, w.before #[Value.ref b] s = true := fun w h => hts0 w (wsL_law_in w h)
  have hbA : ¬ (fun q : Nat => s.heap.size ≤ q) b := Nat.not_le.mpr hbl
  have hown : s.vm.findClass RL = some m.cls := hown
  obtain ⟨hI2, hI9, hI12, hI16, hI18, hI22, hI31, hI38, hI43, hI47, hI50, hI0, hI26, hI101, hI102, hI103, hI104, hI105, hI106, hI107, hI109, hI110, hI111, hI119, hs_jKept, hs_jBook, hs_jNd12, hs_jN67, hs_jBl, hs_jKb, hs_jTR, hs_jKh, hs_jKg, hs_jNz, hs_jqSt, ht0, ht1, ht2, ht3, ht4, ht5, ht6, ht7, ht8, ht9, ht10, ht11, ht12, ht13, ht14, ht15, hr0, hr1, hr2, hr3, hr4, hr5, hr6, hr7, hr8, hr9, hr10, hr11, hr12, hr13, hr14⟩ := hAll
  have hL9 : (L : Int) ≤ 384 := by omega
  obtain ⟨i1, i2, i3, i4, i5, w6, w7⟩ : (0 ≤ (σ 2 0).toInt ∧ (σ 2 0).toInt ≤ 4) ∧ (0 ≤ (σ 2 1).toInt ∧ (σ 2 1).toInt ≤ 3) ∧ (0 ≤ (σ 2 2).toInt) ∧ (0 ≤ (σ 2 3).toInt) ∧ ((σ 2 2).toInt + (σ 2 3).toInt ≤ 40) ∧ (∀ k : Nat, k < 40 → 0 ≤ (σ 6 k).toInt ∧ (σ 6 k).toInt ≤ 67) ∧ (∀ k : Nat, k < 4 → 0 ≤ (σ 5 k).toInt ∧ (σ 5 k).toInt ≤ 20) := id hI2
  obtain ⟨i8, w9, w10⟩ : (0 ≤ (σ 9 0).toInt ∧ (σ 9 0).toInt ≤ 80) ∧ (∀ k : Nat, k < 80 → 0 ≤ (σ 10 k).toInt ∧ (σ 10 k).toInt ≤ 255) ∧ (∀ k : Nat, k < 8 → 0 ≤ (σ 11 k).toInt ∧ (σ 11 k).toInt ≤ 3) := id hI9
  obtain ⟨i11, i12, i13, w14⟩ : (1 ≤ (σ 16 0).toInt ∧ (σ 16 0).toInt ≤ 8) ∧ (1 ≤ (σ 16 1).toInt ∧ (σ 16 1).toInt ≤ 12) ∧ (0 ≤ (σ 16 2).toInt ∧ (σ 16 2).toInt ≤ 999) ∧ (∀ k : Nat, k < 8 → 0 ≤ (σ 17 k).toInt ∧ (σ 17 k).toInt ≤ 3) := id hI16
  obtain ⟨i15, i16, w17⟩ : (0 ≤ (σ 38 0).toInt ∧ (σ 38 0).toInt ≤ 20) ∧ (0 ≤ (σ 38 1).toInt ∧ (σ 38 1).toInt ≤ 1000) ∧ (∀ k : Nat, k < 20 → 0 ≤ (σ 39 k).toInt ∧ (σ 39 k).toInt ≤ 6) := id hI38
  obtain ⟨i18, w19, w20⟩ : (0 ≤ (σ 47 0).toInt ∧ (σ 47 0).toInt ≤ 12) ∧ (∀ k : Nat, k < 12 → 0 ≤ (σ 48 k).toInt ∧ (σ 48 k).toInt ≤ 3) ∧ (∀ k : Nat, k < 12 → 0 ≤ (σ 49 k).toInt ∧ (σ 49 k).toInt ≤ 1) := id hI47
  have w21 : ∀ k : Nat, k < 6 → 0 ≤ (σ 52 k).toInt ∧ (σ 52 k).toInt ≤ 60 := hI50
  have i22 : 1 ≤ (σ 26 6).toInt ∧ (σ 26 6).toInt ≤ 8000 := hI26
  obtain ⟨i23, i24, i25, w26, w27, w28, w29⟩ : (0 ≤ (σ 55 5).toInt) ∧ ((σ 55 5).toInt ≤ (σ 55 4).toInt) ∧ ((σ 55 4).toInt ≤ 40) ∧ (∀ k : Nat, k < 68 → (-200) ≤ (σ 56 k).toInt ∧ (σ 56 k).toInt ≤ 500) ∧ (∀ k : Nat, k < 40 → 0 ≤ (σ 57 k).toInt ∧ (σ 57 k).toInt ≤ 67) ∧ (∀ k : Nat, k < 40 → (-200) ≤ (σ 58 k).toInt ∧ (σ 58 k).toInt ≤ 500) ∧ (∀ k : Nat, k < 40 → (-200) ≤ (σ 59 k).toInt ∧ (σ 59 k).toInt ≤ 500) := id hI101
  obtain ⟨i30, w31, w32⟩ : (0 ≤ (σ 55 6).toInt ∧ (σ 55 6).toInt ≤ 4) ∧ (∀ k : Nat, k < 4 → 0 ≤ (σ 60 k).toInt ∧ (σ 60 k).toInt ≤ 50) ∧ (∀ k : Nat, k < 4 → 0 ≤ (σ 61 k).toInt ∧ (σ 61 k).toInt ≤ 20) := id hI102
  have i33 : 0 ≤ (σ 55 9).toInt ∧ (σ 55 9).toInt ≤ 3 := hI103
  obtain ⟨i34, i35, i36, w37, w38⟩ : (1 ≤ (σ 55 10).toInt ∧ (σ 55 10).toInt ≤ 8) ∧ (1 ≤ (σ 55 12).toInt ∧ (σ 55 12).toInt ≤ 12) ∧ (0 ≤ (σ 55 13).toInt ∧ (σ 55 13).toInt ≤ 999) ∧ (∀ k : Nat, k < 8 → 0 ≤ (σ 62 k).toInt ∧ (σ 62 k).toInt ≤ 3) ∧ (∀ k : Nat, k < 8 → 0 ≤ (σ 67 k).toInt ∧ (σ 67 k).toInt ≤ 3) := id hI104
  obtain ⟨i39, w40⟩ : (0 ≤ (σ 55 15).toInt ∧ (σ 55 15).toInt ≤ 80) ∧ (∀ k : Nat, k < 2 → (-1) ≤ (σ 65 k).toInt ∧ (σ 65 k).toInt ≤ 80) := id hI105
  obtain ⟨i41, w42, w43, w44⟩ : (0 ≤ (σ 55 32).toInt ∧ (σ 55 32).toInt ≤ 20) ∧ (∀ k : Nat, k < 20 → 0 ≤ (σ 70 k).toInt ∧ (σ 70 k).toInt ≤ 6) ∧ (∀ k : Nat, k < 20 → 0 ≤ (σ 71 k).toInt ∧ (σ 71 k).toInt ≤ 8) ∧ (∀ k : Nat, k < 160 → 0 ≤ (σ 72 k).toInt ∧ (σ 72 k).toInt ≤ 3) := id hI106
  obtain ⟨i45, i46, w47⟩ : (0 ≤ (σ 55 47).toInt ∧ (σ 55 47).toInt ≤ 12) ∧ ((σ 55 47).toInt ≤ (σ 55 12).toInt) ∧ (∀ k : Nat, k < 12 → 0 ≤ (σ 80 k).toInt ∧ (σ 80 k).toInt ≤ 3) := id hI107
  have hs_jOk3 : jOk3 σ := hr0.ok hr1.1
  refine lv_aload_n hx hb dL_law_394 rfl (lv_at hl 2 rfl) ?_
  refine lv_aload_n hx hb dL_law_395 rfl (lv_at hl 3 rfl) ?_
  refine lv_iload_n hx hb dL_law_396 rfl (lv_at hl 0 rfl) ?_
  refine lv_iconst (v := 1) hx hb dL_law_397 (by decide) ?_
  have g48 := jrg (rfl : x0.toInt = x0.toInt)
  refine lv_iadd hx hb dL_law_398 ?_
  refine lv_topi (fun x49 ex49 => ?_)
  exact by
   have tx49 : x49.toInt = x0.toInt + 1 := (jadd ex49 rfl jz_1 (by omega) (by omega)).trans (by omega)
   refine va_sld hx hb hX hbl hbA hS (jin tx49 (by omega) (by omega)) dL_law_399 ?_
   have g50 := jrg (rfl : (xs x49.toNatClampNeg).toInt = (xs x49.toNatClampNeg).toInt)
   refine jcallV (As := [.int (xs x49.toNatClampNeg)]) (rest := []) ⟨hx, hb, hml, hown, hts⟩ hK hP hA hS hZ (c_X11_text l D cI cL ad zz hJ σ τ (xs x49.toNatClampNeg) ((xs x49.toNatClampNeg).toInt) rfl hI9 hI12 hI18 hI22 hI26 hs_jNd12 hs_jBl (by omega)) cw_RL_41 (jc_0 cI cL ad σ τ) rfl ⟨Nat.le_of_ble_eq_true rfl, Nat.le_of_ble_eq_true rfl⟩ rfl rfl rfl hl.1 rfl (Nat.le_of_ble_eq_true rfl) dL_law_400 ⟨Nat.le_of_ble_eq_true rfl, Nat.le_of_ble_eq_true rfl⟩ (fun r52 σ51 τ51 H locs h51 hP hS => ?_)
   obtain ⟨rfl, f53, f54, f55, f56, f57, f58, I59, I60, I61, I62, I63, p64, p65, w66, w67, h51⟩ := h51
   obtain ⟨i69, w70, w71⟩ : (0 ≤ (σ51 9 0).toInt ∧ (σ51 9 0).toInt ≤ 80) ∧ (∀ k : Nat, k < 80 → 0 ≤ (σ51 10 k).toInt ∧ (σ51 10 k).toInt ≤ 255) ∧ (∀ k : Nat, k < 8 → 0 ≤ (σ51 11 k).toInt ∧ (σ51 11 k).toInt ≤ 3) := id I59
   have i72 : 1 ≤ (σ51 26 6).toInt ∧ (σ51 26 6).toInt ≤ 8000 := I63
   obtain ⟨k73, k74, h51⟩ := h51
   refine lv_pop hx hb dL_law_403 rfl ?_
   exact by
    refine lv_aload_n hx hb dL_law_404 rfl (lv_at hl 1 rfl) ?_
    refine lv_aload_n hx hb dL_law_405 rfl (lv_at hl 3 rfl) ?_
    refine lv_iload_n hx hb dL_law_406 rfl (lv_at hl 0 rfl) ?_
    refine lv_iconst (v := 1) hx hb dL_law_407 (by decide) ?_
    refine lv_iadd hx hb dL_law_408 ?_
    refine jtopr ex49.symm ?_
    refine va_sld hx hb hX hbl hbA hS (jin tx49 (by omega) (by omega)) dL_law_409 ?_
    have I75 : jI105 σ51 := jI105_fr (congrFun (f53 55 (by decide)) 15) (f53 65 (by decide)) hI105
    have p76 : jTR σ51 := jTR.fr (f53 64 (by decide)) (f53 65 (by decide)) hs_jTR
    exact by
     have z77 : (σ51 55 15).toInt = (σ 55 15).toInt := (congrArg Int32.toInt (show σ51 55 15 = (σ 55 15) from (congrFun (f53 55 (by decide)) 15)))
     refine jcallV (As := [.int (xs x49.toNatClampNeg)]) (rest := []) ⟨hx, hb, hml, hown, hts⟩ hK hP hA hS hZ (c_X12_text l D cI cL ad zz hJ σ51 τ (xs x49.toNatClampNeg) ((xs x49.toNatClampNeg).toInt) rfl I75 p76) cw_RL_44 (jc_55 cI cL ad σ51 τ) rfl ⟨Nat.le_of_ble_eq_true rfl, Nat.le_of_ble_eq_true rfl⟩ rfl rfl rfl hl.1 rfl (Nat.le_of_ble_eq_true rfl) dL_law_410 ⟨Nat.le_of_ble_eq_true rfl, Nat.le_of_ble_eq_true rfl⟩ (fun r79 σ78 τ78 H locs h78 hP hS => ?_)
     obtain ⟨rfl, f80, f81, I82, p83, w84, w85, h78⟩ := h78
     obtain ⟨i87, w88⟩ : (0 ≤ (σ78 55 15).toInt ∧ (σ78 55 15).toInt ≤ 80) ∧ (∀ k : Nat, k < 2 → (-1) ≤ (σ78 65 k).toInt ∧ (σ78 65 k).toInt ≤ 80) := id I82
     obtain ⟨k89, h78⟩ := h78
     refine lv_pop hx hb dL_law_413 rfl ?_
     refine lv_goto (tgt := 1357) hx hb dL_law_414 (by decide) ?_
     obtain ⟨x90, ex90⟩ : ∃ y : Int32, y = x0 + 6 := ⟨_, rfl⟩
     have tx90 : x90.toInt = x0.toInt + 6 := (jadd ex90 rfl jz_6 (by omega) (by omega)).trans (by omega)
     exact by
      refine lv_iinc (v := x90) (lv' := [(3, .int x90), (2, .ref (ad 55)), (1, .ref (ad 0)), (0, .ref b)]) hx hb dL_law_1357 hl (k := 0) rfl (by rw [ex90]; rfl) (by decide) rfl (fun ls hl => ?_)
      refine lv_goto (tgt := 18) hx hb dL_law_1360 (by decide) ?_
      have I91 : jI2 σ78 := jI2_fr ((congrFun (f80 2 (by decide)) 0).trans (congrFun (f53 2 (by decide)) 0)) ((congrFun (f80 2 (by decide)) 1).trans (congrFun (f53 2 (by decide)) 1)) ((congrFun (f80 2 (by decide)) 2).trans (congrFun (f53 2 (by decide)) 2)) ((congrFun (f80 2 (by decide)) 3).trans (congrFun (f53 2 (by decide)) 3)) ((f80 6 (by decide)).trans (f53 6 (by decide))) ((f80 5 (by decide)).trans (f53 5 (by decide))) hI2
      have I92 : jI9 σ78 := jI9_fr (congrFun (f80 9 (by decide)) 0) (f80 10 (by decide)) (f80 11 (by decide)) I59
      have I93 : jI12 σ78 := jI12_fr (congrFun (f80 12 (by decide)) 0) (f80 13 (by decide)) I60
      have I94 : jI16 σ78 := jI16_fr ((congrFun (f80 16 (by decide)) 0).trans (congrFun (f53 16 (by decide)) 0)) ((congrFun (f80 16 (by decide)) 1).trans (congrFun (f53 16 (by decide)) 1)) ((congrFun (f80 16 (by decide)) 2).trans (congrFun (f53 16 (by decide)) 2)) ((f80 17 (by decide)).trans (f53 17 (by decide))) hI16
      have I95 : jI18 σ78 := jI18_fr (congrFun (f80 18 (by decide)) 0) (f80 19 (by decide)) I61
      have I96 : jI22 σ78 := jI22_fr (congrFun (f80 22 (by decide)) 0) (f80 23 (by decide)) I62
      have I97 : jI31 σ78 := jI31_fr ((congrFun (f80 31 (by decide)) 8).trans (congrFun (f53 31 (by decide)) 8)) ((congrFun (f80 31 (by decide)) 10).trans (congrFun (f53 31 (by decide)) 10)) ((congrFun (f80 31 (by decide)) 11).trans (congrFun (f53 31 (by decide)) 11)) ((f80 33 (by decide)).trans (f53 33 (by decide))) ((f80 35 (by decide)).trans (f53 35 (by decide))) ((f80 36 (by decide)).trans (f53 36 (by decide))) hI31
      have I98 : jI38 σ78 := jI38_fr ((congrFun (f80 38 (by decide)) 0).trans (congrFun (f53 38 (by decide)) 0)) ((congrFun (f80 38 (by decide)) 1).trans (congrFun (f53 38 (by decide)) 1)) ((f80 39 (by decide)).trans (f53 39 (by decide))) hI38
      have I99 : jI43 σ78 := jI43_fr ((congrFun (f80 43 (by decide)) 8).trans (congrFun (f53 43 (by decide)) 8)) hI43
      have I100 : jI47 σ78 := jI47_fr ((congrFun (f80 47 (by decide)) 0).trans (congrFun (f53 47 (by decide)) 0)) ((f80 48 (by decide)).trans (f53 48 (by decide))) ((f80 49 (by decide)).trans (f53 49 (by decide))) hI47
      have I101 : jI50 σ78 := jI50_fr ((f80 52 (by decide)).trans (f53 52 (by decide))) hI50
      have I102 : jI0 σ78 := jI0_fr ((f80 1 (by decide)).trans (f53 1 (by decide))) hI0
      have I103 : jI26 σ78 := jI26_fr (congrFun (f80 26 (by decide)) 6) I63
      have I104 : jI101 σ78 := jI101_fr ((f81 4 (by decide)).trans (congrFun (f53 55 (by decide)) 4)) ((f81 5 (by decide)).trans (congrFun (f53 55 (by decide)) 5)) ((f80 56 (by decide)).trans (f53 56 (by decide))) ((f80 57 (by decide)).trans (f53 57 (by decide))) ((f80 58 (by decide)).trans (f53 58 (by decide))) ((f80 59 (by decide)).trans (f53 59 (by decide))) hI101
      have I105 : jI102 σ78 := jI102_fr ((f81 6 (by decide)).trans (congrFun (f53 55 (by decide)) 6)) ((f80 60 (by decide)).trans (f53 60 (by decide))) ((f80 61 (by decide)).trans (f53 61 (by decide))) hI102
      have I106 : jI103 σ78 := jI103_fr ((f81 9 (by decide)).trans (congrFun (f53 55 (by decide)) 9)) hI103
      have I107 : jI104 σ78 := jI104_fr ((f81 10 (by decide)).trans (congrFun (f53 55 (by decide)) 10)) ((f81 12 (by decide)).trans (congrFun (f53 55 (by decide)) 12)) ((f81 13 (by decide)).trans (congrFun (f53 55 (by decide)) 13)) ((f80 62 (by decide)).trans (f53 62 (by decide))) ((f80 67 (by decide)).trans (f53 67 (by decide))) hI104
      have I108 : jI106 σ78 := jI106_fr ((f81 32 (by decide)).trans (congrFun (f53 55 (by decide)) 32)) ((f80 70 (by decide)).trans (f53 70 (by decide))) ((f80 71 (by decide)).trans (f53 71 (by decide))) ((f80 72 (by decide)).trans (f53 72 (by decide))) hI106
      have I109 : jI107 σ78 := jI107_fr ((f81 12 (by decide)).trans (congrFun (f53 55 (by decide)) 12)) ((f81 47 (by decide)).trans (congrFun (f53 55 (by decide)) 47)) ((f80 80 (by decide)).trans (f53 80 (by decide))) hI107
      have I110 : jI109 σ78 := jI109_fr ((f81 50 (by decide)).trans (congrFun (f53 55 (by decide)) 50)) hI109
      have I111 : jI110 σ78 := jI110_fr ((f80 86 (by decide)).trans (f53 86 (by decide))) ((f80 87 (by decide)).trans (f53 87 (by decide))) hI110
      have I112 : jI111 σ78 := jI111_fr ((f80 79 (by decide)).trans (f53 79 (by decide))) hI111
      have I113 : jI119 σ78 := jI119_fr ((f80 68 (by decide)).trans (f53 68 (by decide))) hI119
      have p114 : jKept σ78 := jKept.fr ((f80 75 (by decide)).trans (f53 75 (by decide))) ((f80 76 (by decide)).trans (f53 76 (by decide))) ((f80 77 (by decide)).trans (f53 77 (by decide))) hs_jKept
      have p115 : jBook σ78 := jBook.fr ((f81 47 (by decide)).trans (congrFun (f53 55 (by decide)) 47)) ((f81 10 (by decide)).trans (congrFun (f53 55 (by decide)) 10)) ((f80 81 (by decide)).trans (f53 81 (by decide))) hs_jBook
      have p116 : jNd12 σ78 := jNd12.fr (congrFun (f80 12 (by decide)) 0) (congrFun (f80 12 (by decide)) 1) (f80 13 (by decide)) p64
      have p117 : jN67 σ78 := jN67.fr ((f80 24 (by decide)).trans (f53 24 (by decide))) hs_jN67
      have p118 : jBl σ78 := jBl.fr (congrFun (f80 22 (by decide)) 0) (congrFun (f80 22 (by decide)) 1) (f80 23 (by decide)) (congrFun (f80 26 (by decide)) 6) (congrFun (f80 26 (by decide)) 7) (f80 29 (by decide)) (f80 30 (by decide)) p65
      have p119 : jKb σ78 := jKb.fr ((congrFun (f80 31 (by decide)) 8).trans (congrFun (f53 31 (by decide)) 8)) ((congrFun (f80 31 (by decide)) 11).trans (congrFun (f53 31 (by decide)) 11)) ((f80 32 (by decide)).trans (f53 32 (by decide))) hs_jKb
      have p120 : jKh σ78 := jKh.fr ((congrFun (f80 31 (by decide)) 8).trans (congrFun (f53 31 (by decide)) 8)) ((f80 32 (by decide)).trans (f53 32 (by decide))) ((f80 36 (by decide)).trans (f53 36 (by decide))) ((f80 37 (by decide)).trans (f53 37 (by decide))) hs_jKh
      have p121 : jKg σ78 := jKg.fr ((congrFun (f80 31 (by decide)) 8).trans (congrFun (f53 31 (by decide)) 8)) ((congrFun (f80 31 (by decide)) 9).trans (congrFun (f53 31 (by decide)) 9)) ((congrFun (f80 31 (by decide)) 11).trans (congrFun (f53 31 (by decide)) 11)) ((congrFun (f80 31 (by decide)) 12).trans (congrFun (f53 31 (by decide)) 12)) ((f80 32 (by decide)).trans (f53 32 (by decide))) ((f80 33 (by decide)).trans (f53 33 (by decide))) hs_jKg
      have p122 : jNz σ78 := jNz.fr ((f80 34 (by decide)).trans (f53 34 (by decide))) hs_jNz
      have p123 : jqSt σ78 := jqSt.fr ((f80 78 (by decide)).trans (f53 78 (by decide))) ((f81 42 (by decide)).trans (congrFun (f53 55 (by decide)) 42)) hs_jqSt
      have z124 : (σ78 2 0).toInt = (σ 2 0).toInt := (congrArg Int32.toInt (show σ78 2 0 = (σ 2 0) from ((congrFun (f80 2 (by decide)) 0).trans (congrFun (f53 2 (by decide)) 0))))
      have z125 : (σ78 55 6).toInt = (σ 55 6).toInt := (congrArg Int32.toInt (show σ78 55 6 = (σ 55 6) from ((f81 6 (by decide)).trans (congrFun (f53 55 (by decide)) 6))))
      have z126 : (σ78 2 2).toInt = (σ 2 2).toInt := (congrArg Int32.toInt (show σ78 2 2 = (σ 2 2) from ((congrFun (f80 2 (by decide)) 2).trans (congrFun (f53 2 (by decide)) 2))))
      have z127 : (σ78 55 5).toInt = (σ 55 5).toInt := (congrArg Int32.toInt (show σ78 55 5 = (σ 55 5) from ((f81 5 (by decide)).trans (congrFun (f53 55 (by decide)) 5))))
      have z128 : (σ78 2 3).toInt = (σ 2 3).toInt := (congrArg Int32.toInt (show σ78 2 3 = (σ 2 3) from ((congrFun (f80 2 (by decide)) 3).trans (congrFun (f53 2 (by decide)) 3))))
      have z129 : (σ78 55 4).toInt = (σ 55 4).toInt := (congrArg Int32.toInt (show σ78 55 4 = (σ 55 4) from ((f81 4 (by decide)).trans (congrFun (f53 55 (by decide)) 4))))
      have z130 : (σ78 9 0).toInt = (σ51 9 0).toInt := (congrArg Int32.toInt (show σ78 9 0 = (σ51 9 0) from (congrFun (f80 9 (by decide)) 0)))
      have z131 : (σ78 16 0).toInt = (σ 16 0).toInt := (congrArg Int32.toInt (show σ78 16 0 = (σ 16 0) from ((congrFun (f80 16 (by decide)) 0).trans (congrFun (f53 16 (by decide)) 0))))
      have z132 : (σ78 55 10).toInt = (σ 55 10).toInt := (congrArg Int32.toInt (show σ78 55 10 = (σ 55 10) from ((f81 10 (by decide)).trans (congrFun (f53 55 (by decide)) 10))))
      have z133 : (σ78 16 1).toInt = (σ 16 1).toInt := (congrArg Int32.toInt (show σ78 16 1 = (σ 16 1) from ((congrFun (f80 16 (by decide)) 1).trans (congrFun (f53 16 (by decide)) 1))))
      have z134 : (σ78 55 12).toInt = (σ 55 12).toInt := (congrArg Int32.toInt (show σ78 55 12 = (σ 55 12) from ((f81 12 (by decide)).trans (congrFun (f53 55 (by decide)) 12))))
      have z135 : (σ78 16 2).toInt = (σ 16 2).toInt := (congrArg Int32.toInt (show σ78 16 2 = (σ 16 2) from ((congrFun (f80 16 (by decide)) 2).trans (congrFun (f53 16 (by decide)) 2))))
      have z136 : (σ78 55 13).toInt = (σ 55 13).toInt := (congrArg Int32.toInt (show σ78 55 13 = (σ 55 13) from ((f81 13 (by decide)).trans (congrFun (f53 55 (by decide)) 13))))
      have z137 : (σ78 38 0).toInt = (σ 38 0).toInt := (congrArg Int32.toInt (show σ78 38 0 = (σ 38 0) from ((congrFun (f80 38 (by decide)) 0).trans (congrFun (f53 38 (by decide)) 0))))
      have z138 : (σ78 55 32).toInt = (σ 55 32).toInt := (congrArg Int32.toInt (show σ78 55 32 = (σ 55 32) from ((f81 32 (by decide)).trans (congrFun (f53 55 (by decide)) 32))))
      have z139 : (σ78 38 1).toInt = (σ 38 1).toInt := (congrArg Int32.toInt (show σ78 38 1 = (σ 38 1) from ((congrFun (f80 38 (by decide)) 1).trans (congrFun (f53 38 (by decide)) 1))))
      have z140 : (σ78 55 55).toInt = (σ 55 55).toInt := (congrArg Int32.toInt (show σ78 55 55 = (σ 55 55) from ((f81 55 (by decide)).trans (congrFun (f53 55 (by decide)) 55))))
      have z141 : (σ78 47 0).toInt = (σ 47 0).toInt := (congrArg Int32.toInt (show σ78 47 0 = (σ 47 0) from ((congrFun (f80 47 (by decide)) 0).trans (congrFun (f53 47 (by decide)) 0))))
      have z142 : (σ78 55 47).toInt = (σ 55 47).toInt := (congrArg Int32.toInt (show σ78 55 47 = (σ 55 47) from ((f81 47 (by decide)).trans (congrFun (f53 55 (by decide)) 47))))
      have z143 : (σ78 55 30).toInt = (σ 55 30).toInt := (congrArg Int32.toInt (show σ78 55 30 = (σ 55 30) from ((f81 30 (by decide)).trans (congrFun (f53 55 (by decide)) 30))))
      have z144 : (σ78 55 31).toInt = (σ 55 31).toInt := (congrArg Int32.toInt (show σ78 55 31 = (σ 55 31) from ((f81 31 (by decide)).trans (congrFun (f53 55 (by decide)) 31))))
      have z145 : (σ78 2 1).toInt = (σ 2 1).toInt := (congrArg Int32.toInt (show σ78 2 1 = (σ 2 1) from ((congrFun (f80 2 (by decide)) 1).trans (congrFun (f53 2 (by decide)) 1))))
      have z146 : (σ78 55 9).toInt = (σ 55 9).toInt := (congrArg Int32.toInt (show σ78 55 9 = (σ 55 9) from ((f81 9 (by decide)).trans (congrFun (f53 55 (by decide)) 9))))
      have z147 : (σ78 55 42).toInt = (σ 55 42).toInt := (congrArg Int32.toInt (show σ78 55 42 = (σ 55 42) from ((f81 42 (by decide)).trans (congrFun (f53 55 (by decide)) 42))))
      have z148 : (σ78 26 6).toInt = (σ51 26 6).toInt := (congrArg Int32.toInt (show σ78 26 6 = (σ51 26 6) from (congrFun (f80 26 (by decide)) 6)))
      have z150 : (σ78 18 0).toInt = (σ51 18 0).toInt := (congrArg Int32.toInt (show σ78 18 0 = (σ51 18 0) from (congrFun (f80 18 (by decide)) 0)))
      rw [show (σ51 55 15).toInt = (σ 55 15).toInt from z77, show σ51 63 = σ 63 from (f53 63 (by decide))] at w84
      rw [show σ51 55 15 = σ 55 15 from (congrFun (f53 55 (by decide)) 15), show σ51 63 = σ 63 from (f53 63 (by decide)), show σ51 64 = σ 64 from (f53 64 (by decide)), show σ51 65 = σ 65 from (f53 65 (by decide))] at w85
      rw [show (σ 9 0).toInt = (σ 55 15).toInt from by omega] at w66
      rw [show (σ 9 0).toInt = (σ 55 15).toInt from by omega] at w67
      have e151 := jXt w66 w84 hr2 rfl
      exact by
       have p152 := jTxE w67 w85 e151 hr2 rfl (by omega) (by omega) w40 hr11 hr12
       have z153 : (σ78 22 0).toInt = (σ51 22 0).toInt := (congrArg Int32.toInt (show σ78 22 0 = (σ51 22 0) from (congrFun (f80 22 (by decide)) 0)))
       exact by exact ih x90 σ78 τ _ _ ls (by have h9 := tx90; omega) ⟨I91, I92, I93, I94, I95, I96, I97, I98, I99, I100, I101, I102, I103, I104, I105, I106, I107, I82, I108, I109, I110, I111, I112, I113, p114, p115, p116, p117, p118, p119, p83, p120, p121, p122, p123, (by rw [z124, z125]; exact ht0), (by rw [z126, z127]; exact ht1), (by rw [z126, z128, z129]; exact ht2), (by omega), (by rw [z131, z132]; exact ht4), (by rw [z133, z134]; exact ht5), (by rw [z135, z136]; exact ht6), (by rw [z137, z138]; exact ht7), (by rw [z139, z140]; exact ht8), (by rw [z141, z142]; exact ht9), (by rw [z143]; exact ht10), (by rw [z144]; exact ht11), (by rw [z145, z146]; exact ht12), (by rw [z147]; exact ht13), (by have h9 := tx90; omega), (by have h9 := tx90; omega), (show jNumP (σ78 3) (σ78 56) (σ78 6) (σ78 57) (σ78 7) (σ78 58) (σ78 8) (σ78 59) (σ78 55 6).toInt (σ78 55 4).toInt by rw [show σ78 3 = σ 3 from ((f80 3 (by decide)).trans (f53 3 (by decide))), show σ78 56 = σ 56 from ((f80 56 (by decide)).trans (f53 56 (by decide))), show σ78 6 = σ 6 from ((f80 6 (by decide)).trans (f53 6 (by decide))), show σ78 57 = σ 57 from ((f80 57 (by decide)).trans (f53 57 (by decide))), show σ78 7 = σ 7 from ((f80 7 (by decide)).trans (f53 7 (by decide))), show σ78 58 = σ 58 from ((f80 58 (by decide)).trans (f53 58 (by decide))), show σ78 8 = σ 8 from ((f80 8 (by decide)).trans (f53 8 (by decide))), show σ78 59 = σ 59 from ((f80 59 (by decide)).trans (f53 59 (by decide))), show (σ78 55 6).toInt = (σ 55 6).toInt from z125, show (σ78 55 4).toInt = (σ 55 4).toInt from z129]; exact hr0), (show jOvP (σ78 56) (σ78 57) (σ78 58) (σ78 59) (σ78 55 4).toInt by rw [show σ78 56 = σ 56 from ((f80 56 (by decide)).trans (f53 56 (by decide))), show σ78 57 = σ 57 from ((f80 57 (by decide)).trans (f53 57 (by decide))), show σ78 58 = σ 58 from ((f80 58 (by decide)).trans (f53 58 (by decide))), show σ78 59 = σ 59 from ((f80 59 (by decide)).trans (f53 59 (by decide))), show (σ78 55 4).toInt = (σ 55 4).toInt from z129]; exact hr1), (show jTp (σ78 10) (σ78 63) (σ78 55 15).toInt by rw [show σ78 10 = σ 10 from ((f80 10 (by decide)).trans (f53 10 (by decide))), show σ78 63 = σ 63 from ((f80 63 (by decide)).trans (f53 63 (by decide)))]; exact hr2.le (by omega)), (show jSo (σ78 17) (σ78 62) (σ78 16 0).toInt by rw [show σ78 17 = σ 17 from ((f80 17 (by decide)).trans (f53 17 (by decide))), show σ78 62 = σ 62 from ((f80 62 (by decide)).trans (f53 62 (by decide))), show (σ78 16 0).toInt = (σ 16 0).toInt from z131]; exact hr3), (show jShP (σ78 51) (σ78 52) (σ78 53) (σ78 86) (σ78 87) (σ78 55 32).toInt by rw [show σ78 51 = σ 51 from ((f80 51 (by decide)).trans (f53 51 (by decide))), show σ78 52 = σ 52 from ((f80 52 (by decide)).trans (f53 52 (by decide))), show σ78 53 = σ 53 from ((f80 53 (by decide)).trans (f53 53 (by decide))), show σ78 86 = σ 86 from ((f80 86 (by decide)).trans (f53 86 (by decide))), show σ78 87 = σ 87 from ((f80 87 (by decide)).trans (f53 87 (by decide)))]; exact (hr4.up (by omega) (by omega))), (show jEl (σ78 51) (σ78 52) (τ 54) (τ 88) by rw [show σ78 51 = σ 51 from ((f80 51 (by decide)).trans (f53 51 (by decide))), show σ78 52 = σ 52 from ((f80 52 (by decide)).trans (f53 52 (by decide)))]; exact hr5), (show jByP (σ78 51) (σ78 52) (τ 54) by rw [show σ78 51 = σ 51 from ((f80 51 (by decide)).trans (f53 51 (by decide))), show σ78 52 = σ 52 from ((f80 52 (by decide)).trans (f53 52 (by decide)))]; exact hr6), (show jBk (σ78 48) (σ78 80) (σ78 49) (σ78 81) (σ78 55 47).toInt by rw [show σ78 48 = σ 48 from ((f80 48 (by decide)).trans (f53 48 (by decide))), show σ78 49 = σ 49 from ((f80 49 (by decide)).trans (f53 49 (by decide))), show σ78 80 = σ 80 from ((f80 80 (by decide)).trans (f53 80 (by decide))), show σ78 81 = σ 81 from ((f80 81 (by decide)).trans (f53 81 (by decide))), show (σ78 55 47).toInt = (σ 55 47).toInt from z142]; exact hr7), (show jKd (σ78 39) (σ78 70) (σ78 55 32).toInt by rw [show σ78 39 = σ 39 from ((f80 39 (by decide)).trans (f53 39 (by decide))), show σ78 70 = σ 70 from ((f80 70 (by decide)).trans (f53 70 (by decide))), show (σ78 55 32).toInt = (σ 55 32).toInt from z138]; exact hr8), (show jTt (σ78 42) (σ78 85) (σ78 55 55).toInt by rw [show σ78 42 = σ 42 from ((f80 42 (by decide)).trans (f53 42 (by decide))), show σ78 85 = σ 85 from ((f80 85 (by decide)).trans (f53 85 (by decide))), show (σ78 55 55).toInt = (σ 55 55).toInt from z140]; exact hr9), (fun k hk => by rw [show σ78 4 = σ 4 from ((f80 4 (by decide)).trans (f53 4 (by decide))), show σ78 5 = σ 5 from ((f80 5 (by decide)).trans (f53 5 (by decide))), show σ78 60 = σ 60 from ((f80 60 (by decide)).trans (f53 60 (by decide))), show σ78 61 = σ 61 from ((f80 61 (by decide)).trans (f53 61 (by decide)))]; exact hr10 k (by omega)), (fun nm => by rw [show σ78 19 = σ51 19 from (f80 19 (by decide)), show (σ78 18 0).toInt = (σ51 18 0).toInt from by omega]; exact p152.1 nm), (fun nm => by rw [show σ78 23 = σ51 23 from (f80 23 (by decide)), show (σ78 22 0).toInt = (σ51 22 0).toInt from by omega]; exact p152.2 nm), (show jAlP (σ78 56) (σ78 57) (σ78 58) (σ78 59) (σ78 55 4).toInt by rw [show σ78 56 = σ 56 from ((f80 56 (by decide)).trans (f53 56 (by decide))), show σ78 57 = σ 57 from ((f80 57 (by decide)).trans (f53 57 (by decide))), show σ78 58 = σ 58 from ((f80 58 (by decide)).trans (f53 58 (by decide))), show σ78 59 = σ 59 from ((f80 59 (by decide)).trans (f53 59 (by decide))), show (σ78 55 4).toInt = (σ 55 4).toInt from z129]; exact hr13), (show jqbN (σ78 80) (σ78 55 47).toInt by rw [show σ78 80 = σ 80 from ((f80 80 (by decide)).trans (f53 80 (by decide))), show (σ78 55 47).toInt = (σ 55 47).toInt from z142]; exact hr14)⟩ hP hS (lv_sub hl [0, 1, 2, 3] rfl)
set_option maxHeartbeats 4000000 in
set_option maxRecDepth 100000 in
theorem law_case_7 {p : Program} {e : Env} {s : State} {m : MethodId} {below : List Frame} {meth : Method} {c : Code} (l : Launch) {b L : Nat} {xs : Nat → Int32} {D : va_G} {cI cL : ClassId} {ad zz : Nat → Nat} (C0 : lw_At p s m meth c b L xs) (hJ : jD ad) (hA : ∀ q, jA ad q → s.heap.size ≤ q) (hK : jK D cI cL s) (hZ : jZ zz (fun q : Nat => s.heap.size ≤ q) s s.heap) {x0 : Int32} (hx0 : 0 ≤ x0.toInt) (hxL : x0.toInt + 6 ≤ (L : Int)) (hL : L ≤ 384) {σ : Nat → Nat → Int32} {τ : Nat → Nat → Int64} {H : Heap} {locs : List Loc} (hS : va_S (fun q : Nat => s.heap.size ≤ q) s.heap H locs) {ls : Array Slot} (hAll : jAll x0.toInt σ τ) (hP : jH D cI cL ad σ τ H) (hl : lv_has ls 4 [(3, .int x0), (2, .ref (ad 55)), (1, .ref (ad 0)), (0, .ref b)]) (ih : ∀ (x1 : Int32) (σ : Nat → Nat → Int32) (τ : Nat → Nat → Int64) (H : Heap) (locs : List Loc) (ls : Array Slot), x1.toInt = x0.toInt + 6 → jAll x1.toInt σ τ → jH D cI cL ad σ τ H → va_S (fun q : Nat => s.heap.size ≤ q) s.heap H locs → lv_has ls 4 [(3, .int x1), (2, .ref (ad 55)), (1, .ref (ad 0)), (0, .ref b)] → W p l e room_1 s m #[Value.ref b] below meth c H locs 90 348600 (lw_Z below #[Value.ref b] s) (F0 m 18 ls [])) : W p l e room_1 s m #[Value.ref b] below meth c H locs 90 348600 (lw_Z below #[Value.ref b] s) (F0 m 417 ls []) := by
  obtain ⟨hx, hb, hr, hml, hown, hts0, hX, hbl, hlocks, hgv⟩ := C0
  have hts : ∀ w ∈ wsL_law, w.before #[Value.ref b] s = true := fun w h => hts0 w (wsL_law_in w h)
  have hbA : ¬ (fun q : Nat => s.heap.size ≤ q) b := Nat.not_le.mpr hbl
  have hown : s.vm.findClass RL = some m.cls := hown
  obtain ⟨hI2, hI9, hI12, hI16, hI18, hI22, hI31, hI38, hI43, hI47, hI50, hI0, hI26, hI101, hI102, hI103, hI104, hI105, hI106, hI107, hI109, hI110, hI111, hI119, hs_jKept, hs_jBook, hs_jNd12, hs_jN67, hs_jBl, hs_jKb, hs_jTR, hs_jKh, hs_jKg, hs_jNz, hs_jqSt, ht0, ht1, ht2, ht3, ht4, ht5, ht6, ht7, ht8, ht9, ht10, ht11, ht12, ht13, ht14, ht15, hr0, hr1, hr2, hr3, hr4, hr5, hr6, hr7, hr8, hr9, hr10, hr11, hr12, hr13, hr14⟩ := hAll
  have hL9 : (L : Int) ≤ 384 := by omega
  obtain ⟨i1, i2, i3, i4, i5, w6, w7⟩ : (0 ≤ (σ 2 0).toInt ∧ (σ 2 0).toInt ≤ 4) ∧ (0 ≤ (σ 2 1).toInt ∧ (σ 2 1).toInt ≤ 3) ∧ (0 ≤ (σ 2 2).toInt) ∧ (0 ≤ (σ 2 3).toInt) ∧ ((σ 2 2).toInt + (σ 2 3).toInt ≤ 40) ∧ (∀ k : Nat, k < 40 → 0 ≤ (σ 6 k).toInt ∧ (σ 6 k).toInt ≤ 67) ∧ (∀ k : Nat, k < 4 → 0 ≤ (σ 5 k).toInt ∧ (σ 5 k).toInt ≤ 20) := id hI2
  obtain ⟨i8, w9, w10⟩ : (0 ≤ (σ 9 0).toInt ∧ (σ 9 0).toInt ≤ 80) ∧ (∀ k : Nat, k < 80 → 0 ≤ (σ 10 k).toInt ∧ (σ 10 k).toInt ≤ 255) ∧ (∀ k : Nat, k < 8 → 0 ≤ (σ 11 k).toInt ∧ (σ 11 k).toInt ≤ 3) := id hI9
  obtain ⟨i11, i12, i13, w14⟩ : (1 ≤ (σ 16 0).toInt ∧ (σ 16 0).toInt ≤ 8) ∧ (1 ≤ (σ 16 1).toInt ∧ (σ 16 1).toInt ≤ 12) ∧ (0 ≤ (σ 16 2).toInt ∧ (σ 16 2).toInt ≤ 999) ∧ (∀ k : Nat, k < 8 → 0 ≤ (σ 17 k).toInt ∧ (σ 17 k).toInt ≤ 3) := id hI16
  obtain ⟨i15, i16, w17⟩ : (0 ≤ (σ 38 0).toInt ∧ (σ 38 0).toInt ≤ 20) ∧ (0 ≤ (σ 38 1).toInt ∧ (σ 38 1).toInt ≤ 1000) ∧ (∀ k : Nat, k < 20 → 0 ≤ (σ 39 k).toInt ∧ (σ 39 k).toInt ≤ 6) := id hI38
  obtain ⟨i18, w19, w20⟩ : (0 ≤ (σ 47 0).toInt ∧ (σ 47 0).toInt ≤ 12) ∧ (∀ k : Nat, k < 12 → 0 ≤ (σ 48 k).toInt ∧ (σ 48 k).toInt ≤ 3) ∧ (∀ k : Nat, k < 12 → 0 ≤ (σ 49 k).toInt ∧ (σ 49 k).toInt ≤ 1) := id hI47
  have w21 : ∀ k : Nat, k < 6 → 0 ≤ (σ 52 k).toInt ∧ (σ 52 k).toInt ≤ 60 := hI50
  have i22 : 1 ≤ (σ 26 6).toInt ∧ (σ 26 6).toInt ≤ 8000 := hI26
  obtain ⟨i23, i24, i25, w26, w27, w28, w29⟩ : (0 ≤ (σ 55 5).toInt) ∧ ((σ 55 5).toInt ≤ (σ 55 4).toInt) ∧ ((σ 55 4).toInt ≤ 40) ∧ (∀ k : Nat, k < 68 → (-200) ≤ (σ 56 k).toInt ∧ (σ 56 k).toInt ≤ 500) ∧ (∀ k : Nat, k < 40 → 0 ≤ (σ 57 k).toInt ∧ (σ 57 k).toInt ≤ 67) ∧ (∀ k : Nat, k < 40 → (-200) ≤ (σ 58 k).toInt ∧ (σ 58 k).toInt ≤ 500) ∧ (∀ k : Nat, k < 40 → (-200) ≤ (σ 59 k).toInt ∧ (σ 59 k).toInt ≤ 500) := id hI101
  obtain ⟨i30, w31, w32⟩ : (0 ≤ (σ 55 6).toInt ∧ (σ 55 6).toInt ≤ 4) ∧ (∀ k : Nat, k < 4 → 0 ≤ (σ 60 k).toInt ∧ (σ 60 k).toInt ≤ 50) ∧ (∀ k : Nat, k < 4 → 0 ≤ (σ 61 k).toInt ∧ (σ 61 k).toInt ≤ 20) := id hI102
  have i33 : 0 ≤ (σ 55 9).toInt ∧ (σ 55 9).toInt ≤ 3 := hI103
  obtain ⟨i34, i35, i36, w37, w38⟩ : (1 ≤ (σ 55 10).toInt ∧ (σ 55 10).toInt ≤ 8) ∧ (1 ≤ (σ 55 12).toInt ∧ (σ 55 12).toInt ≤ 12) ∧ (0 ≤ (σ 55 13).toInt ∧ (σ 55 13).toInt ≤ 999) ∧ (∀ k : Nat, k < 8 → 0 ≤ (σ 62 k).toInt ∧ (σ 62 k).toInt ≤ 3) ∧ (∀ k : Nat, k < 8 → 0 ≤ (σ 67 k).toInt ∧ (σ 67 k).toInt ≤ 3) := id hI104
  obtain ⟨i39, w40⟩ : (0 ≤ (σ 55 15).toInt ∧ (σ 55 15).toInt ≤ 80) ∧ (∀ k : Nat, k < 2 → (-1) ≤ (σ 65 k).toInt ∧ (σ 65 k).toInt ≤ 80) := id hI105
  obtain ⟨i41, w42, w43, w44⟩ : (0 ≤ (σ 55 32).toInt ∧ (σ 55 32).toInt ≤ 20) ∧ (∀ k : Nat, k < 20 → 0 ≤ (σ 70 k).toInt ∧ (σ 70 k).toInt ≤ 6) ∧ (∀ k : Nat, k < 20 → 0 ≤ (σ 71 k).toInt ∧ (σ 71 k).toInt ≤ 8) ∧ (∀ k : Nat, k < 160 → 0 ≤ (σ 72 k).toInt ∧ (σ 72 k).toInt ≤ 3) := id hI106
  obtain ⟨i45, i46, w47⟩ : (0 ≤ (σ 55 47).toInt ∧ (σ 55 47).toInt ≤ 12) ∧ ((σ 55 47).toInt ≤ (σ 55 12).toInt) ∧ (∀ k : Nat, k < 12 → 0 ≤ (σ 80 k).toInt ∧ (σ 80 k).toInt ≤ 3) := id hI107
  have hs_jOk3 : jOk3 σ := hr0.ok hr1.1
  refine lv_aload_n hx hb dL_law_417 rfl (lv_at hl 2 rfl) ?_
  refine lv_aload_n hx hb dL_law_418 rfl (lv_at hl 3 rfl) ?_
  refine lv_iload_n hx hb dL_law_419 rfl (lv_at hl 0 rfl) ?_
  refine lv_iconst (v := 1) hx hb dL_law_420 (by decide) ?_
  have g48 := jrg (rfl : x0.toInt = x0.toInt)
  refine lv_iadd hx hb dL_law_421 ?_
  refine lv_topi (fun x49 ex49 => ?_)
  exact by
   have tx49 : x49.toInt = x0.toInt + 1 := (jadd ex49 rfl jz_1 (by omega) (by omega)).trans (by omega)
   refine va_sld hx hb hX hbl hbA hS (jin tx49 (by omega) (by omega)) dL_law_422 ?_
   have g50 := jrg (rfl : (xs x49.toNatClampNeg).toInt = (xs x49.toNatClampNeg).toInt)
   refine jcallV (As := [.int (xs x49.toNatClampNeg)]) (rest := []) ⟨hx, hb, hml, hown, hts⟩ hK hP hA hS hZ (c_X11_of l D cI cL ad zz hJ σ τ (xs x49.toNatClampNeg) ((xs x49.toNatClampNeg).toInt) rfl hI16) cw_RL_45 (jc_0 cI cL ad σ τ) rfl ⟨Nat.le_of_ble_eq_true rfl, Nat.le_of_ble_eq_true rfl⟩ rfl rfl rfl hl.1 rfl (Nat.le_of_ble_eq_true rfl) dL_law_423 ⟨Nat.le_of_ble_eq_true rfl, Nat.le_of_ble_eq_true rfl⟩ (fun r52 σ51 τ51 H locs h51 hP hS => ?_)
   obtain ⟨⟨rfl, rfl⟩, h51⟩ := h51
   rcases h51 with h53 | h54 | h55 | h56 | h57
   · obtain ⟨q60, k58, k59⟩ := h53
     refine lv_pop hx hb dL_law_426 rfl ?_
     refine lv_aload_n hx hb dL_law_427 rfl (lv_at hl 1 rfl) ?_
     exact by
      refine lv_aload_n hx hb dL_law_428 rfl (lv_at hl 3 rfl) ?_
      refine lv_iload_n hx hb dL_law_429 rfl (lv_at hl 0 rfl) ?_
      refine lv_iconst (v := 1) hx hb dL_law_430 (by decide) ?_
      refine lv_iadd hx hb dL_law_431 ?_
      refine jtopr ex49.symm ?_
      refine va_sld hx hb hX hbl hbA hS (jin tx49 (by omega) (by omega)) dL_law_432 ?_
      refine jcallV (As := [.int (xs x49.toNatClampNeg)]) (rest := []) ⟨hx, hb, hml, hown, hts⟩ hK hP hA hS hZ (c_X12_of l D cI cL ad zz hJ σ τ (xs x49.toNatClampNeg) ((xs x49.toNatClampNeg).toInt) rfl hI104 hI107) cw_RL_48 (jc_55 cI cL ad σ τ) rfl ⟨Nat.le_of_ble_eq_true rfl, Nat.le_of_ble_eq_true rfl⟩ rfl rfl rfl hl.1 rfl (Nat.le_of_ble_eq_true rfl) dL_law_433 ⟨Nat.le_of_ble_eq_true rfl, Nat.le_of_ble_eq_true rfl⟩ (fun r62 σ61 τ61 H locs h61 hP hS => ?_)
      obtain ⟨⟨rfl, rfl⟩, h61⟩ := h61
      rcases h61 with h63 | h64 | h65 | h66 | h67
      · exact by
         obtain ⟨q70, k68, k69⟩ := h63
         refine lv_pop hx hb dL_law_436 rfl ?_
         refine lv_goto (tgt := 1357) hx hb dL_law_437 (by decide) ?_
         obtain ⟨x71, ex71⟩ : ∃ y : Int32, y = x0 + 6 := ⟨_, rfl⟩
         have tx71 : x71.toInt = x0.toInt + 6 := (jadd ex71 rfl jz_6 (by omega) (by omega)).trans (by omega)
         refine lv_iinc (v := x71) (lv' := [(3, .int x71), (2, .ref (ad 55)), (1, .ref (ad 0)), (0, .ref b)]) hx hb dL_law_1357 hl (k := 0) rfl (by rw [ex71]; rfl) (by decide) rfl (fun ls hl => ?_)
         refine lv_goto (tgt := 18) hx hb dL_law_1360 (by decide) ?_
         exact by exact ih x71 σ τ _ _ ls (by have h9 := tx71; omega) ⟨hI2, hI9, hI12, hI16, hI18, hI22, hI31, hI38, hI43, hI47, hI50, hI0, hI26, hI101, hI102, hI103, hI104, hI105, hI106, hI107, hI109, hI110, hI111, hI119, hs_jKept, hs_jBook, hs_jNd12, hs_jN67, hs_jBl, hs_jKb, hs_jTR, hs_jKh, hs_jKg, hs_jNz, hs_jqSt, ht0, ht1, ht2, ht3, ht4, ht5, ht6, ht7, ht8, ht9, ht10, ht11, ht12, ht13, (by have h9 := tx71; omega), (by have h9 := tx71; omega), hr0, hr1, hr2, hr3, hr4, hr5, hr6, hr7, hr8, hr9, hr10, hr11, hr12, hr13, hr14⟩ hP hS (lv_sub hl [0, 1, 2, 3] rfl)
      · obtain ⟨q74, k72, k73⟩ := h64
        exact absurd (by omega : False) id
      · exact by
         obtain ⟨q77, k75, k76⟩ := h65
         exact absurd (by omega : False) id
      · obtain ⟨q81, k78, k79, k80⟩ := h66
        exact absurd (by omega : False) id
      · obtain ⟨q83, k82⟩ := h67
        exact absurd (by omega : False) id
   · obtain ⟨q86, k84, k85⟩ := h54
     refine lv_pop hx hb dL_law_426 rfl ?_
     refine lv_aload_n hx hb dL_law_427 rfl (lv_at hl 1 rfl) ?_
     refine lv_aload_n hx hb dL_law_428 rfl (lv_at hl 3 rfl) ?_
     refine lv_iload_n hx hb dL_law_429 rfl (lv_at hl 0 rfl) ?_
     refine lv_iconst (v := 1) hx hb dL_law_430 (by decide) ?_
     refine lv_iadd hx hb dL_law_431 ?_
     refine jtopr ex49.symm ?_
     exact by
      refine va_sld hx hb hX hbl hbA hS (jin tx49 (by omega) (by omega)) dL_law_432 ?_
      refine jcallV (As := [.int (xs x49.toNatClampNeg)]) (rest := []) ⟨hx, hb, hml, hown, hts⟩ hK hP hA hS hZ (c_X12_of l D cI cL ad zz hJ σ τ (xs x49.toNatClampNeg) ((xs x49.toNatClampNeg).toInt) rfl hI104 hI107) cw_RL_48 (jc_55 cI cL ad σ τ) rfl ⟨Nat.le_of_ble_eq_true rfl, Nat.le_of_ble_eq_true rfl⟩ rfl rfl rfl hl.1 rfl (Nat.le_of_ble_eq_true rfl) dL_law_433 ⟨Nat.le_of_ble_eq_true rfl, Nat.le_of_ble_eq_true rfl⟩ (fun r88 σ87 τ87 H locs h87 hP hS => ?_)
      obtain ⟨⟨rfl, rfl⟩, h87⟩ := h87
      rcases h87 with h89 | h90 | h91 | h92 | h93
      · obtain ⟨q96, k94, k95⟩ := h89
        exact absurd (by omega : False) id
      · obtain ⟨q99, k97, k98⟩ := h90
        refine lv_pop hx hb dL_law_436 rfl ?_
        refine lv_goto (tgt := 1357) hx hb dL_law_437 (by decide) ?_
        obtain ⟨x100, ex100⟩ : ∃ y : Int32, y = x0 + 6 := ⟨_, rfl⟩
        exact by
         have tx100 : x100.toInt = x0.toInt + 6 := (jadd ex100 rfl jz_6 (by omega) (by omega)).trans (by omega)
         refine lv_iinc (v := x100) (lv' := [(3, .int x100), (2, .ref (ad 55)), (1, .ref (ad 0)), (0, .ref b)]) hx hb dL_law_1357 hl (k := 0) rfl (by rw [ex100]; rfl) (by decide) rfl (fun ls hl => ?_)
         refine lv_goto (tgt := 18) hx hb dL_law_1360 (by decide) ?_
         exact by exact ih x100 σ τ _ _ ls (by have h9 := tx100; omega) ⟨hI2, hI9, hI12, hI16, hI18, hI22, hI31, hI38, hI43, hI47, hI50, hI0, hI26, hI101, hI102, hI103, hI104, hI105, hI106, hI107, hI109, hI110, hI111, hI119, hs_jKept, hs_jBook, hs_jNd12, hs_jN67, hs_jBl, hs_jKb, hs_jTR, hs_jKh, hs_jKg, hs_jNz, hs_jqSt, ht0, ht1, ht2, ht3, ht4, ht5, ht6, ht7, ht8, ht9, ht10, ht11, ht12, ht13, (by have h9 := tx100; omega), (by have h9 := tx100; omega), hr0, hr1, hr2, hr3, hr4, hr5, hr6, hr7, hr8, hr9, hr10, hr11, hr12, hr13, hr14⟩ hP hS (lv_sub hl [0, 1, 2, 3] rfl)
      · obtain ⟨q103, k101, k102⟩ := h91
        exact absurd (by omega : False) id
      · obtain ⟨q107, k104, k105, k106⟩ := h92
        exact absurd (by omega : False) id
      · obtain ⟨q109, k108⟩ := h93
        exact absurd (by omega : False) id
   · exact by
      obtain ⟨q112, k110, k111⟩ := h55
      refine lv_pop hx hb dL_law_426 rfl ?_
      refine lv_aload_n hx hb dL_law_427 rfl (lv_at hl 1 rfl) ?_
      refine lv_aload_n hx hb dL_law_428 rfl (lv_at hl 3 rfl) ?_
      refine lv_iload_n hx hb dL_law_429 rfl (lv_at hl 0 rfl) ?_
      refine lv_iconst (v := 1) hx hb dL_law_430 (by decide) ?_
      refine lv_iadd hx hb dL_law_431 ?_
      refine jtopr ex49.symm ?_
      refine va_sld hx hb hX hbl hbA hS (jin tx49 (by omega) (by omega)) dL_law_432 ?_
      exact by
       refine jcallV (As := [.int (xs x49.toNatClampNeg)]) (rest := []) ⟨hx, hb, hml, hown, hts⟩ hK hP hA hS hZ (c_X12_of l D cI cL ad zz hJ σ τ (xs x49.toNatClampNeg) ((xs x49.toNatClampNeg).toInt) rfl hI104 hI107) cw_RL_48 (jc_55 cI cL ad σ τ) rfl ⟨Nat.le_of_ble_eq_true rfl, Nat.le_of_ble_eq_true rfl⟩ rfl rfl rfl hl.1 rfl (Nat.le_of_ble_eq_true rfl) dL_law_433 ⟨Nat.le_of_ble_eq_true rfl, Nat.le_of_ble_eq_true rfl⟩ (fun r114 σ113 τ113 H locs h113 hP hS => ?_)
       obtain ⟨⟨rfl, rfl⟩, h113⟩ := h113
       rcases h113 with h115 | h116 | h117 | h118 | h119
       · obtain ⟨q122, k120, k121⟩ := h115
         exact absurd (by omega : False) id
       · obtain ⟨q125, k123, k124⟩ := h116
         exact absurd (by omega : False) id
       · obtain ⟨q128, k126, k127⟩ := h117
         refine lv_pop hx hb dL_law_436 rfl ?_
         refine lv_goto (tgt := 1357) hx hb dL_law_437 (by decide) ?_
         obtain ⟨x129, ex129⟩ : ∃ y : Int32, y = x0 + 6 := ⟨_, rfl⟩
         exact by
          have tx129 : x129.toInt = x0.toInt + 6 := (jadd ex129 rfl jz_6 (by omega) (by omega)).trans (by omega)
          refine lv_iinc (v := x129) (lv' := [(3, .int x129), (2, .ref (ad 55)), (1, .ref (ad 0)), (0, .ref b)]) hx hb dL_law_1357 hl (k := 0) rfl (by rw [ex129]; rfl) (by decide) rfl (fun ls hl => ?_)
          refine lv_goto (tgt := 18) hx hb dL_law_1360 (by decide) ?_
          exact by exact ih x129 σ τ _ _ ls (by have h9 := tx129; omega) ⟨hI2, hI9, hI12, hI16, hI18, hI22, hI31, hI38, hI43, hI47, hI50, hI0, hI26, hI101, hI102, hI103, hI104, hI105, hI106, hI107, hI109, hI110, hI111, hI119, hs_jKept, hs_jBook, hs_jNd12, hs_jN67, hs_jBl, hs_jKb, hs_jTR, hs_jKh, hs_jKg, hs_jNz, hs_jqSt, ht0, ht1, ht2, ht3, ht4, ht5, ht6, ht7, ht8, ht9, ht10, ht11, ht12, ht13, (by have h9 := tx129; omega), (by have h9 := tx129; omega), hr0, hr1, hr2, hr3, hr4, hr5, hr6, hr7, hr8, hr9, hr10, hr11, hr12, hr13, hr14⟩ hP hS (lv_sub hl [0, 1, 2, 3] rfl)
       · obtain ⟨q133, k130, k131, k132⟩ := h118
         exact absurd (by omega : False) id
       · obtain ⟨q135, k134⟩ := h119
         exact absurd (by omega : False) id
   · obtain ⟨q139, k136, k137, k138⟩ := h56
     exact by
      refine lv_pop hx hb dL_law_426 rfl ?_
      refine lv_aload_n hx hb dL_law_427 rfl (lv_at hl 1 rfl) ?_
      refine lv_aload_n hx hb dL_law_428 rfl (lv_at hl 3 rfl) ?_
      refine lv_iload_n hx hb dL_law_429 rfl (lv_at hl 0 rfl) ?_
      refine lv_iconst (v := 1) hx hb dL_law_430 (by decide) ?_
      refine lv_iadd hx hb dL_law_431 ?_
      refine jtopr ex49.symm ?_
      refine va_sld hx hb hX hbl hbA hS (jin tx49 (by omega) (by omega)) dL_law_432 ?_
      refine jcallV (As := [.int (xs x49.toNatClampNeg)]) (rest := []) ⟨hx, hb, hml, hown, hts⟩ hK hP hA hS hZ (c_X12_of l D cI cL ad zz hJ σ τ (xs x49.toNatClampNeg) ((xs x49.toNatClampNeg).toInt) rfl hI104 hI107) cw_RL_48 (jc_55 cI cL ad σ τ) rfl ⟨Nat.le_of_ble_eq_true rfl, Nat.le_of_ble_eq_true rfl⟩ rfl rfl rfl hl.1 rfl (Nat.le_of_ble_eq_true rfl) dL_law_433 ⟨Nat.le_of_ble_eq_true rfl, Nat.le_of_ble_eq_true rfl⟩ (fun r141 σ140 τ140 H locs h140 hP hS => ?_)
      exact by
       obtain ⟨⟨rfl, rfl⟩, h140⟩ := h140
       rcases h140 with h142 | h143 | h144 | h145 | h146
       · obtain ⟨q149, k147, k148⟩ := h142
         exact absurd (by omega : False) id
       · obtain ⟨q152, k150, k151⟩ := h143
         exact absurd (by omega : False) id
       · obtain ⟨q155, k153, k154⟩ := h144
         exact absurd (by omega : False) id
       · obtain ⟨q159, k156, k157, k158⟩ := h145
         refine lv_pop hx hb dL_law_436 rfl ?_
         refine lv_goto (tgt := 1357) hx hb dL_law_437 (by decide) ?_
         obtain ⟨x160, ex160⟩ : ∃ y : Int32, y = x0 + 6 := ⟨_, rfl⟩
         exact by
          have tx160 : x160.toInt = x0.toInt + 6 := (jadd ex160 rfl jz_6 (by omega) (by omega)).trans (by omega)
          refine lv_iinc (v := x160) (lv' := [(3, .int x160), (2, .ref (ad 55)), (1, .ref (ad 0)), (0, .ref b)]) hx hb dL_law_1357 hl (k := 0) rfl (by rw [ex160]; rfl) (by decide) rfl (fun ls hl => ?_)
          refine lv_goto (tgt := 18) hx hb dL_law_1360 (by decide) ?_
          exact by exact ih x160 σ τ _ _ ls (by have h9 := tx160; omega) ⟨hI2, hI9, hI12, hI16, hI18, hI22, hI31, hI38, hI43, hI47, hI50, hI0, hI26, hI101, hI102, hI103, hI104, hI105, hI106, hI107, hI109, hI110, hI111, hI119, hs_jKept, hs_jBook, hs_jNd12, hs_jN67, hs_jBl, hs_jKb, hs_jTR, hs_jKh, hs_jKg, hs_jNz, hs_jqSt, ht0, ht1, ht2, ht3, ht4, ht5, ht6, ht7, ht8, ht9, ht10, ht11, ht12, ht13, (by have h9 := tx160; omega), (by have h9 := tx160; omega), hr0, hr1, hr2, hr3, hr4, hr5, hr6, hr7, hr8, hr9, hr10, hr11, hr12, hr13, hr14⟩ hP hS (lv_sub hl [0, 1, 2, 3] rfl)
       · obtain ⟨q162, k161⟩ := h146
         exact absurd (by omega : False) id
   · obtain ⟨q164, k163⟩ := h57
     have q164 := q164.symm
     subst q164
     exact by
      refine lv_pop hx hb dL_law_426 rfl ?_
      refine lv_aload_n hx hb dL_law_427 rfl (lv_at hl 1 rfl) ?_
      refine lv_aload_n hx hb dL_law_428 rfl (lv_at hl 3 rfl) ?_
      refine lv_iload_n hx hb dL_law_429 rfl (lv_at hl 0 rfl) ?_
      refine lv_iconst (v := 1) hx hb dL_law_430 (by decide) ?_
      refine lv_iadd hx hb dL_law_431 ?_
      refine jtopr ex49.symm ?_
      refine va_sld hx hb hX hbl hbA hS (jin tx49 (by omega) (by omega)) dL_law_432 ?_
      refine jcallV (As := [.int (xs x49.toNatClampNeg)]) (rest := []) ⟨hx, hb, hml, hown, hts⟩ hK hP hA hS hZ (c_X12_of l D cI cL ad zz hJ σ τ (xs x49.toNatClampNeg) ((xs x49.toNatClampNeg).toInt) rfl hI104 hI107) cw_RL_48 (jc_55 cI cL ad σ τ) rfl ⟨Nat.le_of_ble_eq_true rfl, Nat.le_of_ble_eq_true rfl⟩ rfl rfl rfl hl.1 rfl (Nat.le_of_ble_eq_true rfl) dL_law_433 ⟨Nat.le_of_ble_eq_true rfl, Nat.le_of_ble_eq_true rfl⟩ (fun r166 σ165 τ165 H locs h165 hP hS => ?_)
      exact by
       obtain ⟨⟨rfl, rfl⟩, h165⟩ := h165
       rcases h165 with h167 | h168 | h169 | h170 | h171
       · obtain ⟨q174, k172, k173⟩ := h167
         exact absurd (by omega : False) id
       · obtain ⟨q177, k175, k176⟩ := h168
         exact absurd (by omega : False) id
       · obtain ⟨q180, k178, k179⟩ := h169
         exact absurd (by omega : False) id
       · obtain ⟨q184, k181, k182, k183⟩ := h170
         exact absurd (by omega : False) id
       · obtain ⟨q186, k185⟩ := h171
         have q186 := q186.symm
         subst q186
         refine lv_pop hx hb dL_law_436 rfl ?_
         refine lv_goto (tgt := 1357) hx hb dL_law_437 (by decide) ?_
         obtain ⟨x187, ex187⟩ : ∃ y : Int32, y = x0 + 6 := ⟨_, rfl⟩
         exact by
          have tx187 : x187.toInt = x0.toInt + 6 := (jadd ex187 rfl jz_6 (by omega) (by omega)).trans (by omega)
          refine lv_iinc (v := x187) (lv' := [(3, .int x187), (2, .ref (ad 55)), (1, .ref (ad 0)), (0, .ref b)]) hx hb dL_law_1357 hl (k := 0) rfl (by rw [ex187]; rfl) (by decide) rfl (fun ls hl => ?_)
          refine lv_goto (tgt := 18) hx hb dL_law_1360 (by decide) ?_
          exact by exact ih x187 σ τ _ _ ls (by have h9 := tx187; omega) ⟨hI2, hI9, hI12, hI16, hI18, hI22, hI31, hI38, hI43, hI47, hI50, hI0, hI26, hI101, hI102, hI103, hI104, hI105, hI106, hI107, hI109, hI110, hI111, hI119, hs_jKept, hs_jBook, hs_jNd12, hs_jN67, hs_jBl, hs_jKb, hs_jTR, hs_jKh, hs_jKg, hs_jNz, hs_jqSt, ht0, ht1, ht2, ht3, ht4, ht5, ht6, ht7, ht8, ht9, ht10, ht11, ht12, ht13, (by have h9 := tx187; omega), (by have h9 := tx187; omega), hr0, hr1, hr2, hr3, hr4, hr5, hr6, hr7, hr8, hr9, hr10, hr11, hr12, hr13, hr14⟩ hP hS (lv_sub hl [0, 1, 2, 3] rfl)
set_option maxHeartbeats 4000000 in
set_option maxRecDepth 100000 in
theorem law_case_8 {p : Program} {e : Env} {s : State} {m : MethodId} {below : List Frame} {meth : Method} {c : Code} (l : Launch) {b L : Nat} {xs : Nat → Int32} {D : va_G} {cI cL : ClassId} {ad zz : Nat → Nat} (C0 : lw_At p s m meth c b L xs) (hJ : jD ad) (hA : ∀ q, jA ad q → s.heap.size ≤ q) (hK : jK D cI cL s) (hZ : jZ zz (fun q : Nat => s.heap.size ≤ q) s s.heap) {x0 : Int32} (hx0 : 0 ≤ x0.toInt) (hxL : x0.toInt + 6 ≤ (L : Int)) (hL : L ≤ 384) {σ : Nat → Nat → Int32} {τ : Nat → Nat → Int64} {H : Heap} {locs : List Loc} (hS : va_S (fun q : Nat => s.heap.size ≤ q) s.heap H locs) {ls : Array Slot} (hAll : jAll x0.toInt σ τ) (hP : jH D cI cL ad σ τ H) (hl : lv_has ls 4 [(3, .int x0), (2, .ref (ad 55)), (1, .ref (ad 0)), (0, .ref b)]) (ih : ∀ (x1 : Int32) (σ : Nat → Nat → Int32) (τ : Nat → Nat → Int64) (H : Heap) (locs : List Loc) (ls : Array Slot), x1.toInt = x0.toInt + 6 → jAll x1.toInt σ τ → jH D cI cL ad σ τ H → va_S (fun q : Nat => s.heap.size ≤ q) s.heap H locs → lv_has ls 4 [(3, .int x1), (2, .ref (ad 55)), (1, .ref (ad 0)), (0, .ref b)] → W p l e room_1 s m #[Value.ref b] below meth c H locs 90 348600 (lw_Z below #[Value.ref b] s) (F0 m 18 ls [])) : W p l e room_1 s m #[Value.ref b] below meth c H locs 90 348600 (lw_Z below #[Value.ref b] s) (F0 m 440 ls []) := by
  obtain ⟨hx, hb, hr, hml, hown, hts0, hX, hbl, hlocks, hgv⟩ := C0
  have hts : ∀ w ∈ wsL_law, w.before #[Value.ref b] s = true := fun w h => hts0 w (wsL_law_in w h)
  have hbA : ¬ (fun q : Nat => s.heap.size ≤ q) b := Nat.not_le.mpr hbl
  have hown : s.vm.findClass RL = some m.cls := hown
  obtain ⟨hI2, hI9, hI12, hI16, hI18, hI22, hI31, hI38, hI43, hI47, hI50, hI0, hI26, hI101, hI102, hI103, hI104, hI105, hI106, hI107, hI109, hI110, hI111, hI119, hs_jKept, hs_jBook, hs_jNd12, hs_jN67, hs_jBl, hs_jKb, hs_jTR, hs_jKh, hs_jKg, hs_jNz, hs_jqSt, ht0, ht1, ht2, ht3, ht4, ht5, ht6, ht7, ht8, ht9, ht10, ht11, ht12, ht13, ht14, ht15, hr0, hr1, hr2, hr3, hr4, hr5, hr6, hr7, hr8, hr9, hr10, hr11, hr12, hr13, hr14⟩ := hAll
  have hL9 : (L : Int) ≤ 384 := by omega
  obtain ⟨i1, i2, i3, i4, i5, w6, w7⟩ : (0 ≤ (σ 2 0).toInt ∧ (σ 2 0).toInt ≤ 4) ∧ (0 ≤ (σ 2 1).toInt ∧ (σ 2 1).toInt ≤ 3) ∧ (0 ≤ (σ 2 2).toInt) ∧ (0 ≤ (σ 2 3).toInt) ∧ ((σ 2 2).toInt + (σ 2 3).toInt ≤ 40) ∧ (∀ k : Nat, k < 40 → 0 ≤ (σ 6 k).toInt ∧ (σ 6 k).toInt ≤ 67) ∧ (∀ k : Nat, k < 4 → 0 ≤ (σ 5 k).toInt ∧ (σ 5 k).toInt ≤ 20) := id hI2
  obtain ⟨i8, w9, w10⟩ : (0 ≤ (σ 9 0).toInt ∧ (σ 9 0).toInt ≤ 80) ∧ (∀ k : Nat, k < 80 → 0 ≤ (σ 10 k).toInt ∧ (σ 10 k).toInt ≤ 255) ∧ (∀ k : Nat, k < 8 → 0 ≤ (σ 11 k).toInt ∧ (σ 11 k).toInt ≤ 3) := id hI9
  obtain ⟨i11, i12, i13, w14⟩ : (1 ≤ (σ 16 0).toInt ∧ (σ 16 0).toInt ≤ 8) ∧ (1 ≤ (σ 16 1).toInt ∧ (σ 16 1).toInt ≤ 12) ∧ (0 ≤ (σ 16 2).toInt ∧ (σ 16 2).toInt ≤ 999) ∧ (∀ k : Nat, k < 8 → 0 ≤ (σ 17 k).toInt ∧ (σ 17 k).toInt ≤ 3) := id hI16
  obtain ⟨i15, i16, w17⟩ : (0 ≤ (σ 38 0).toInt ∧ (σ 38 0).toInt ≤ 20) ∧ (0 ≤ (σ 38 1).toInt ∧ (σ 38 1).toInt ≤ 1000) ∧ (∀ k : Nat, k < 20 → 0 ≤ (σ 39 k).toInt ∧ (σ 39 k).toInt ≤ 6) := id hI38
  obtain ⟨i18, w19, w20⟩ : (0 ≤ (σ 47 0).toInt ∧ (σ 47 0).toInt ≤ 12) ∧ (∀ k : Nat, k < 12 → 0 ≤ (σ 48 k).toInt ∧ (σ 48 k).toInt ≤ 3) ∧ (∀ k : Nat, k < 12 → 0 ≤ (σ 49 k).toInt ∧ (σ 49 k).toInt ≤ 1) := id hI47
  have w21 : ∀ k : Nat, k < 6 → 0 ≤ (σ 52 k).toInt ∧ (σ 52 k).toInt ≤ 60 := hI50
  have i22 : 1 ≤ (σ 26 6).toInt ∧ (σ 26 6).toInt ≤ 8000 := hI26
  obtain ⟨i23, i24, i25, w26, w27, w28, w29⟩ : (0 ≤ (σ 55 5).toInt) ∧ ((σ 55 5).toInt ≤ (σ 55 4).toInt) ∧ ((σ 55 4).toInt ≤ 40) ∧ (∀ k : Nat, k < 68 → (-200) ≤ (σ 56 k).toInt ∧ (σ 56 k).toInt ≤ 500) ∧ (∀ k : Nat, k < 40 → 0 ≤ (σ 57 k).toInt ∧ (σ 57 k).toInt ≤ 67) ∧ (∀ k : Nat, k < 40 → (-200) ≤ (σ 58 k).toInt ∧ (σ 58 k).toInt ≤ 500) ∧ (∀ k : Nat, k < 40 → (-200) ≤ (σ 59 k).toInt ∧ (σ 59 k).toInt ≤ 500) := id hI101
  obtain ⟨i30, w31, w32⟩ : (0 ≤ (σ 55 6).toInt ∧ (σ 55 6).toInt ≤ 4) ∧ (∀ k : Nat, k < 4 → 0 ≤ (σ 60 k).toInt ∧ (σ 60 k).toInt ≤ 50) ∧ (∀ k : Nat, k < 4 → 0 ≤ (σ 61 k).toInt ∧ (σ 61 k).toInt ≤ 20) := id hI102
  have i33 : 0 ≤ (σ 55 9).toInt ∧ (σ 55 9).toInt ≤ 3 := hI103
  obtain ⟨i34, i35, i36, w37, w38⟩ : (1 ≤ (σ 55 10).toInt ∧ (σ 55 10).toInt ≤ 8) ∧ (1 ≤ (σ 55 12).toInt ∧ (σ 55 12).toInt ≤ 12) ∧ (0 ≤ (σ 55 13).toInt ∧ (σ 55 13).toInt ≤ 999) ∧ (∀ k : Nat, k < 8 → 0 ≤ (σ 62 k).toInt ∧ (σ 62 k).toInt ≤ 3) ∧ (∀ k : Nat, k < 8 → 0 ≤ (σ 67 k).toInt ∧ (σ 67 k).toInt ≤ 3) := id hI104
  obtain ⟨i39, w40⟩ : (0 ≤ (σ 55 15).toInt ∧ (σ 55 15).toInt ≤ 80) ∧ (∀ k : Nat, k < 2 → (-1) ≤ (σ 65 k).toInt ∧ (σ 65 k).toInt ≤ 80) := id hI105
  obtain ⟨i41, w42, w43, w44⟩ : (0 ≤ (σ 55 32).toInt ∧ (σ 55 32).toInt ≤ 20) ∧ (∀ k : Nat, k < 20 → 0 ≤ (σ 70 k).toInt ∧ (σ 70 k).toInt ≤ 6) ∧ (∀ k : Nat, k < 20 → 0 ≤ (σ 71 k).toInt ∧ (σ 71 k).toInt ≤ 8) ∧ (∀ k : Nat, k < 160 → 0 ≤ (σ 72 k).toInt ∧ (σ 72 k).toInt ≤ 3) := id hI106
  obtain ⟨i45, i46, w47⟩ : (0 ≤ (σ 55 47).toInt ∧ (σ 55 47).toInt ≤ 12) ∧ ((σ 55 47).toInt ≤ (σ 55 12).toInt) ∧ (∀ k : Nat, k < 12 → 0 ≤ (σ 80 k).toInt ∧ (σ 80 k).toInt ≤ 3) := id hI107
  have hs_jOk3 : jOk3 σ := hr0.ok hr1.1
  refine lv_aload_n hx hb dL_law_440 rfl (lv_at hl 2 rfl) ?_
  refine lv_aload_n hx hb dL_law_441 rfl (lv_at hl 3 rfl) ?_
  refine lv_iload_n hx hb dL_law_442 rfl (lv_at hl 0 rfl) ?_
  refine lv_iconst (v := 1) hx hb dL_law_443 (by decide) ?_
  have g48 := jrg (rfl : x0.toInt = x0.toInt)
  refine lv_iadd hx hb dL_law_444 ?_
  refine lv_topi (fun x49 ex49 => ?_)
  exact by
   have tx49 : x49.toInt = x0.toInt + 1 := (jadd ex49 rfl jz_1 (by omega) (by omega)).trans (by omega)
   refine va_sld hx hb hX hbl hbA hS (jin tx49 (by omega) (by omega)) dL_law_445 ?_
   have g50 := jrg (rfl : (xs x49.toNatClampNeg).toInt = (xs x49.toNatClampNeg).toInt)
   refine lv_aload_n hx hb dL_law_446 rfl (lv_at hl 3 rfl) ?_
   refine lv_iload_n hx hb dL_law_447 rfl (lv_at hl 0 rfl) ?_
   refine lv_iconst (v := 2) hx hb dL_law_448 (by decide) ?_
   refine lv_iadd hx hb dL_law_449 ?_
   refine lv_topi (fun x51 ex51 => ?_)
   have tx51 : x51.toInt = x0.toInt + 2 := (jadd ex51 rfl jz_2 (by omega) (by omega)).trans (by omega)
   exact by
    refine va_sld hx hb hX hbl hbA hS (jin tx51 (by omega) (by omega)) dL_law_450 ?_
    have g52 := jrg (rfl : (xs x51.toNatClampNeg).toInt = (xs x51.toNatClampNeg).toInt)
    refine lv_aload_n hx hb dL_law_451 rfl (lv_at hl 3 rfl) ?_
    refine lv_iload_n hx hb dL_law_452 rfl (lv_at hl 0 rfl) ?_
    refine lv_iconst (v := 3) hx hb dL_law_453 (by decide) ?_
    refine lv_iadd hx hb dL_law_454 ?_
    refine lv_topi (fun x53 ex53 => ?_)
    have tx53 : x53.toInt = x0.toInt + 3 := (jadd ex53 rfl jz_3 (by omega) (by omega)).trans (by omega)
    refine va_sld hx hb hX hbl hbA hS (jin tx53 (by omega) (by omega)) dL_law_455 ?_
    exact by
     have g54 := jrg (rfl : (xs x53.toNatClampNeg).toInt = (xs x53.toNatClampNeg).toInt)
     refine jcallV (As := [.int (xs x49.toNatClampNeg), .int (xs x51.toNatClampNeg), .int (xs x53.toNatClampNeg)]) (rest := []) ⟨hx, hb, hml, hown, hts⟩ hK hP hA hS hZ (c_X11_over l D cI cL ad zz hJ σ τ (xs x49.toNatClampNeg) ((xs x49.toNatClampNeg).toInt) rfl (xs x51.toNatClampNeg) ((xs x51.toNatClampNeg).toInt) rfl (xs x53.toNatClampNeg) ((xs x53.toNatClampNeg).toInt) rfl hI2 hI22 hI26 hs_jOk3 hs_jN67 hs_jBl) cw_RL_49 (jc_0 cI cL ad σ τ) rfl ⟨Nat.le_of_ble_eq_true rfl, Nat.le_of_ble_eq_true rfl⟩ rfl rfl rfl hl.1 rfl (Nat.le_of_ble_eq_true rfl) dL_law_456 ⟨Nat.le_of_ble_eq_true rfl, Nat.le_of_ble_eq_true rfl⟩ (fun r56 σ55 τ55 H locs h55 hP hS => ?_)
     obtain ⟨rfl, f57, p58, p59, p60, w61, h55⟩ := h55
     refine lv_pop hx hb dL_law_459 rfl ?_
     refine lv_aload_n hx hb dL_law_460 rfl (lv_at hl 1 rfl) ?_
     refine lv_aload_n hx hb dL_law_461 rfl (lv_at hl 3 rfl) ?_
     refine lv_iload_n hx hb dL_law_462 rfl (lv_at hl 0 rfl) ?_
     refine lv_iconst (v := 1) hx hb dL_law_463 (by decide) ?_
     refine lv_iadd hx hb dL_law_464 ?_
     refine jtopr ex49.symm ?_
     exact by
      refine va_sld hx hb hX hbl hbA hS (jin tx49 (by omega) (by omega)) dL_law_465 ?_
      refine lv_aload_n hx hb dL_law_466 rfl (lv_at hl 3 rfl) ?_
      refine lv_iload_n hx hb dL_law_467 rfl (lv_at hl 0 rfl) ?_
      refine lv_iconst (v := 2) hx hb dL_law_468 (by decide) ?_
      refine lv_iadd hx hb dL_law_469 ?_
      refine jtopr ex51.symm ?_
      refine va_sld hx hb hX hbl hbA hS (jin tx51 (by omega) (by omega)) dL_law_470 ?_
      refine lv_aload_n hx hb dL_law_471 rfl (lv_at hl 3 rfl) ?_
      refine lv_iload_n hx hb dL_law_472 rfl (lv_at hl 0 rfl) ?_
      exact by
       refine lv_iconst (v := 3) hx hb dL_law_473 (by decide) ?_
       refine lv_iadd hx hb dL_law_474 ?_
       refine jtopr ex53.symm ?_
       refine va_sld hx hb hX hbl hbA hS (jin tx53 (by omega) (by omega)) dL_law_475 ?_
       have I63 : jI101 σ55 := jI101_fr (congrFun (f57 55 (by decide)) 4) (congrFun (f57 55 (by decide)) 5) (f57 56 (by decide)) (f57 57 (by decide)) (f57 58 (by decide)) (f57 59 (by decide)) hI101
       have I64 : jI102 σ55 := jI102_fr (congrFun (f57 55 (by decide)) 6) (f57 60 (by decide)) (f57 61 (by decide)) hI102
       have I65 : jI103 σ55 := jI103_fr (congrFun (f57 55 (by decide)) 9) hI103
       have I66 : jI104 σ55 := jI104_fr (congrFun (f57 55 (by decide)) 10) (congrFun (f57 55 (by decide)) 12) (congrFun (f57 55 (by decide)) 13) (f57 62 (by decide)) (f57 67 (by decide)) hI104
       have I67 : jI105 σ55 := jI105_fr (congrFun (f57 55 (by decide)) 15) (f57 65 (by decide)) hI105
       exact by
        have I68 : jI119 σ55 := jI119_fr (f57 68 (by decide)) hI119
        have p69 : jTR σ55 := jTR.fr (f57 64 (by decide)) (f57 65 (by decide)) hs_jTR
        refine jcallV (As := [.int (xs x49.toNatClampNeg), .int (xs x51.toNatClampNeg), .int (xs x53.toNatClampNeg)]) (rest := []) ⟨hx, hb, hml, hown, hts⟩ hK hP hA hS hZ (c_X12_over l D cI cL ad zz hJ σ55 τ (xs x49.toNatClampNeg) ((xs x49.toNatClampNeg).toInt) rfl (xs x51.toNatClampNeg) ((xs x51.toNatClampNeg).toInt) rfl (xs x53.toNatClampNeg) ((xs x53.toNatClampNeg).toInt) rfl I63 I64 I65 I66 I67 I68 p69) cw_RL_52 (jc_55 cI cL ad σ55 τ) rfl ⟨Nat.le_of_ble_eq_true rfl, Nat.le_of_ble_eq_true rfl⟩ rfl rfl rfl hl.1 rfl (Nat.le_of_ble_eq_true rfl) dL_law_476 ⟨Nat.le_of_ble_eq_true rfl, Nat.le_of_ble_eq_true rfl⟩ (fun r71 σ70 τ70 H locs h70 hP hS => ?_)
        obtain ⟨rfl, f72, f73, I74, p75, w76, h70⟩ := h70
        refine lv_pop hx hb dL_law_479 rfl ?_
        refine lv_goto (tgt := 1357) hx hb dL_law_480 (by decide) ?_
        obtain ⟨x78, ex78⟩ : ∃ y : Int32, y = x0 + 6 := ⟨_, rfl⟩
        have tx78 : x78.toInt = x0.toInt + 6 := (jadd ex78 rfl jz_6 (by omega) (by omega)).trans (by omega)
        refine lv_iinc (v := x78) (lv' := [(3, .int x78), (2, .ref (ad 55)), (1, .ref (ad 0)), (0, .ref b)]) hx hb dL_law_1357 hl (k := 0) rfl (by rw [ex78]; rfl) (by decide) rfl (fun ls hl => ?_)
        exact by
         refine lv_goto (tgt := 18) hx hb dL_law_1360 (by decide) ?_
         have I79 : jI2 σ70 := jI2_fr ((congrFun (f72 2 (by decide)) 0).trans (congrFun (f57 2 (by decide)) 0)) ((congrFun (f72 2 (by decide)) 1).trans (congrFun (f57 2 (by decide)) 1)) ((congrFun (f72 2 (by decide)) 2).trans (congrFun (f57 2 (by decide)) 2)) ((congrFun (f72 2 (by decide)) 3).trans (congrFun (f57 2 (by decide)) 3)) ((f72 6 (by decide)).trans (f57 6 (by decide))) ((f72 5 (by decide)).trans (f57 5 (by decide))) hI2
         have I80 : jI9 σ70 := jI9_fr ((congrFun (f72 9 (by decide)) 0).trans (congrFun (f57 9 (by decide)) 0)) ((f72 10 (by decide)).trans (f57 10 (by decide))) ((f72 11 (by decide)).trans (f57 11 (by decide))) hI9
         have I81 : jI12 σ70 := jI12_fr ((congrFun (f72 12 (by decide)) 0).trans (congrFun (f57 12 (by decide)) 0)) ((f72 13 (by decide)).trans (f57 13 (by decide))) hI12
         have I82 : jI16 σ70 := jI16_fr ((congrFun (f72 16 (by decide)) 0).trans (congrFun (f57 16 (by decide)) 0)) ((congrFun (f72 16 (by decide)) 1).trans (congrFun (f57 16 (by decide)) 1)) ((congrFun (f72 16 (by decide)) 2).trans (congrFun (f57 16 (by decide)) 2)) ((f72 17 (by decide)).trans (f57 17 (by decide))) hI16
         have I83 : jI18 σ70 := jI18_fr ((congrFun (f72 18 (by decide)) 0).trans (congrFun (f57 18 (by decide)) 0)) ((f72 19 (by decide)).trans (f57 19 (by decide))) hI18
         have I84 : jI22 σ70 := jI22_fr ((congrFun (f72 22 (by decide)) 0).trans (congrFun (f57 22 (by decide)) 0)) ((f72 23 (by decide)).trans (f57 23 (by decide))) hI22
         have I85 : jI31 σ70 := jI31_fr ((congrFun (f72 31 (by decide)) 8).trans (congrFun (f57 31 (by decide)) 8)) ((congrFun (f72 31 (by decide)) 10).trans (congrFun (f57 31 (by decide)) 10)) ((congrFun (f72 31 (by decide)) 11).trans (congrFun (f57 31 (by decide)) 11)) ((f72 33 (by decide)).trans (f57 33 (by decide))) ((f72 35 (by decide)).trans (f57 35 (by decide))) ((f72 36 (by decide)).trans (f57 36 (by decide))) hI31
         have I86 : jI38 σ70 := jI38_fr ((congrFun (f72 38 (by decide)) 0).trans (congrFun (f57 38 (by decide)) 0)) ((congrFun (f72 38 (by decide)) 1).trans (congrFun (f57 38 (by decide)) 1)) ((f72 39 (by decide)).trans (f57 39 (by decide))) hI38
         have I87 : jI43 σ70 := jI43_fr ((congrFun (f72 43 (by decide)) 8).trans (congrFun (f57 43 (by decide)) 8)) hI43
         have I88 : jI47 σ70 := jI47_fr ((congrFun (f72 47 (by decide)) 0).trans (congrFun (f57 47 (by decide)) 0)) ((f72 48 (by decide)).trans (f57 48 (by decide))) ((f72 49 (by decide)).trans (f57 49 (by decide))) hI47
         have I89 : jI50 σ70 := jI50_fr ((f72 52 (by decide)).trans (f57 52 (by decide))) hI50
         have I90 : jI0 σ70 := jI0_fr ((f72 1 (by decide)).trans (f57 1 (by decide))) hI0
         have I91 : jI26 σ70 := jI26_fr ((congrFun (f72 26 (by decide)) 6).trans (congrFun (f57 26 (by decide)) 6)) hI26
         have I92 : jI101 σ70 := jI101_fr (f73 4 (by decide)) (f73 5 (by decide)) (f72 56 (by decide)) (f72 57 (by decide)) (f72 58 (by decide)) (f72 59 (by decide)) I63
         have I93 : jI102 σ70 := jI102_fr (f73 6 (by decide)) (f72 60 (by decide)) (f72 61 (by decide)) I64
         have I94 : jI103 σ70 := jI103_fr (f73 9 (by decide)) I65
         have I95 : jI104 σ70 := jI104_fr (f73 10 (by decide)) (f73 12 (by decide)) (f73 13 (by decide)) (f72 62 (by decide)) (f72 67 (by decide)) I66
         have I96 : jI105 σ70 := jI105_fr (f73 15 (by decide)) (f72 65 (by decide)) I67
         have I97 : jI106 σ70 := jI106_fr ((f73 32 (by decide)).trans (congrFun (f57 55 (by decide)) 32)) ((f72 70 (by decide)).trans (f57 70 (by decide))) ((f72 71 (by decide)).trans (f57 71 (by decide))) ((f72 72 (by decide)).trans (f57 72 (by decide))) hI106
         have I98 : jI107 σ70 := jI107_fr ((f73 12 (by decide)).trans (congrFun (f57 55 (by decide)) 12)) ((f73 47 (by decide)).trans (congrFun (f57 55 (by decide)) 47)) ((f72 80 (by decide)).trans (f57 80 (by decide))) hI107
         have I99 : jI109 σ70 := jI109_fr ((f73 50 (by decide)).trans (congrFun (f57 55 (by decide)) 50)) hI109
         have I100 : jI110 σ70 := jI110_fr ((f72 86 (by decide)).trans (f57 86 (by decide))) ((f72 87 (by decide)).trans (f57 87 (by decide))) hI110
         have I101 : jI111 σ70 := jI111_fr ((f72 79 (by decide)).trans (f57 79 (by decide))) hI111
         have p102 : jKept σ70 := jKept.fr ((f72 75 (by decide)).trans (f57 75 (by decide))) ((f72 76 (by decide)).trans (f57 76 (by decide))) ((f72 77 (by decide)).trans (f57 77 (by decide))) hs_jKept
         have p103 : jBook σ70 := jBook.fr ((f73 47 (by decide)).trans (congrFun (f57 55 (by decide)) 47)) ((f73 10 (by decide)).trans (congrFun (f57 55 (by decide)) 10)) ((f72 81 (by decide)).trans (f57 81 (by decide))) hs_jBook
         have p104 : jNd12 σ70 := jNd12.fr ((congrFun (f72 12 (by decide)) 0).trans (congrFun (f57 12 (by decide)) 0)) ((congrFun (f72 12 (by decide)) 1).trans (congrFun (f57 12 (by decide)) 1)) ((f72 13 (by decide)).trans (f57 13 (by decide))) hs_jNd12
         have p105 : jN67 σ70 := jN67.fr (f72 24 (by decide)) p59
         have p106 : jBl σ70 := jBl.fr (congrFun (f72 22 (by decide)) 0) (congrFun (f72 22 (by decide)) 1) (f72 23 (by decide)) (congrFun (f72 26 (by decide)) 6) (congrFun (f72 26 (by decide)) 7) (f72 29 (by decide)) (f72 30 (by decide)) p60
         have p107 : jKb σ70 := jKb.fr ((congrFun (f72 31 (by decide)) 8).trans (congrFun (f57 31 (by decide)) 8)) ((congrFun (f72 31 (by decide)) 11).trans (congrFun (f57 31 (by decide)) 11)) ((f72 32 (by decide)).trans (f57 32 (by decide))) hs_jKb
         have p108 : jKh σ70 := jKh.fr ((congrFun (f72 31 (by decide)) 8).trans (congrFun (f57 31 (by decide)) 8)) ((f72 32 (by decide)).trans (f57 32 (by decide))) ((f72 36 (by decide)).trans (f57 36 (by decide))) ((f72 37 (by decide)).trans (f57 37 (by decide))) hs_jKh
         have p109 : jKg σ70 := jKg.fr ((congrFun (f72 31 (by decide)) 8).trans (congrFun (f57 31 (by decide)) 8)) ((congrFun (f72 31 (by decide)) 9).trans (congrFun (f57 31 (by decide)) 9)) ((congrFun (f72 31 (by decide)) 11).trans (congrFun (f57 31 (by decide)) 11)) ((congrFun (f72 31 (by decide)) 12).trans (congrFun (f57 31 (by decide)) 12)) ((f72 32 (by decide)).trans (f57 32 (by decide))) ((f72 33 (by decide)).trans (f57 33 (by decide))) hs_jKg
         have p110 : jNz σ70 := jNz.fr ((f72 34 (by decide)).trans (f57 34 (by decide))) hs_jNz
         have p111 : jqSt σ70 := jqSt.fr ((f72 78 (by decide)).trans (f57 78 (by decide))) ((f73 42 (by decide)).trans (congrFun (f57 55 (by decide)) 42)) hs_jqSt
         have z112 : (σ70 2 0).toInt = (σ 2 0).toInt := (congrArg Int32.toInt (show σ70 2 0 = (σ 2 0) from ((congrFun (f72 2 (by decide)) 0).trans (congrFun (f57 2 (by decide)) 0))))
         have z113 : (σ70 55 6).toInt = (σ 55 6).toInt := (congrArg Int32.toInt (show σ70 55 6 = (σ 55 6) from ((f73 6 (by decide)).trans (congrFun (f57 55 (by decide)) 6))))
         have z114 : (σ70 2 2).toInt = (σ 2 2).toInt := (congrArg Int32.toInt (show σ70 2 2 = (σ 2 2) from ((congrFun (f72 2 (by decide)) 2).trans (congrFun (f57 2 (by decide)) 2))))
         have z115 : (σ70 55 5).toInt = (σ 55 5).toInt := (congrArg Int32.toInt (show σ70 55 5 = (σ 55 5) from ((f73 5 (by decide)).trans (congrFun (f57 55 (by decide)) 5))))
         have z116 : (σ70 2 3).toInt = (σ 2 3).toInt := (congrArg Int32.toInt (show σ70 2 3 = (σ 2 3) from ((congrFun (f72 2 (by decide)) 3).trans (congrFun (f57 2 (by decide)) 3))))
         have z117 : (σ70 55 4).toInt = (σ 55 4).toInt := (congrArg Int32.toInt (show σ70 55 4 = (σ 55 4) from ((f73 4 (by decide)).trans (congrFun (f57 55 (by decide)) 4))))
         have z118 : (σ70 9 0).toInt = (σ 9 0).toInt := (congrArg Int32.toInt (show σ70 9 0 = (σ 9 0) from ((congrFun (f72 9 (by decide)) 0).trans (congrFun (f57 9 (by decide)) 0))))
         have z119 : (σ70 55 15).toInt = (σ 55 15).toInt := (congrArg Int32.toInt (show σ70 55 15 = (σ 55 15) from ((f73 15 (by decide)).trans (congrFun (f57 55 (by decide)) 15))))
         have z120 : (σ70 16 0).toInt = (σ 16 0).toInt := (congrArg Int32.toInt (show σ70 16 0 = (σ 16 0) from ((congrFun (f72 16 (by decide)) 0).trans (congrFun (f57 16 (by decide)) 0))))
         have z121 : (σ70 55 10).toInt = (σ 55 10).toInt := (congrArg Int32.toInt (show σ70 55 10 = (σ 55 10) from ((f73 10 (by decide)).trans (congrFun (f57 55 (by decide)) 10))))
         have z122 : (σ70 16 1).toInt = (σ 16 1).toInt := (congrArg Int32.toInt (show σ70 16 1 = (σ 16 1) from ((congrFun (f72 16 (by decide)) 1).trans (congrFun (f57 16 (by decide)) 1))))
         have z123 : (σ70 55 12).toInt = (σ 55 12).toInt := (congrArg Int32.toInt (show σ70 55 12 = (σ 55 12) from ((f73 12 (by decide)).trans (congrFun (f57 55 (by decide)) 12))))
         have z124 : (σ70 16 2).toInt = (σ 16 2).toInt := (congrArg Int32.toInt (show σ70 16 2 = (σ 16 2) from ((congrFun (f72 16 (by decide)) 2).trans (congrFun (f57 16 (by decide)) 2))))
         have z125 : (σ70 55 13).toInt = (σ 55 13).toInt := (congrArg Int32.toInt (show σ70 55 13 = (σ 55 13) from ((f73 13 (by decide)).trans (congrFun (f57 55 (by decide)) 13))))
         have z126 : (σ70 38 0).toInt = (σ 38 0).toInt := (congrArg Int32.toInt (show σ70 38 0 = (σ 38 0) from ((congrFun (f72 38 (by decide)) 0).trans (congrFun (f57 38 (by decide)) 0))))
         have z127 : (σ70 55 32).toInt = (σ 55 32).toInt := (congrArg Int32.toInt (show σ70 55 32 = (σ 55 32) from ((f73 32 (by decide)).trans (congrFun (f57 55 (by decide)) 32))))
         have z128 : (σ70 38 1).toInt = (σ 38 1).toInt := (congrArg Int32.toInt (show σ70 38 1 = (σ 38 1) from ((congrFun (f72 38 (by decide)) 1).trans (congrFun (f57 38 (by decide)) 1))))
         have z129 : (σ70 55 55).toInt = (σ 55 55).toInt := (congrArg Int32.toInt (show σ70 55 55 = (σ 55 55) from ((f73 55 (by decide)).trans (congrFun (f57 55 (by decide)) 55))))
         have z130 : (σ70 47 0).toInt = (σ 47 0).toInt := (congrArg Int32.toInt (show σ70 47 0 = (σ 47 0) from ((congrFun (f72 47 (by decide)) 0).trans (congrFun (f57 47 (by decide)) 0))))
         have z131 : (σ70 55 47).toInt = (σ 55 47).toInt := (congrArg Int32.toInt (show σ70 55 47 = (σ 55 47) from ((f73 47 (by decide)).trans (congrFun (f57 55 (by decide)) 47))))
         have z132 : (σ70 55 30).toInt = (σ 55 30).toInt := (congrArg Int32.toInt (show σ70 55 30 = (σ 55 30) from ((f73 30 (by decide)).trans (congrFun (f57 55 (by decide)) 30))))
         have z133 : (σ70 55 31).toInt = (σ 55 31).toInt := (congrArg Int32.toInt (show σ70 55 31 = (σ 55 31) from ((f73 31 (by decide)).trans (congrFun (f57 55 (by decide)) 31))))
         have z134 : (σ70 2 1).toInt = (σ 2 1).toInt := (congrArg Int32.toInt (show σ70 2 1 = (σ 2 1) from ((congrFun (f72 2 (by decide)) 1).trans (congrFun (f57 2 (by decide)) 1))))
         have z135 : (σ70 55 9).toInt = (σ 55 9).toInt := (congrArg Int32.toInt (show σ70 55 9 = (σ 55 9) from ((f73 9 (by decide)).trans (congrFun (f57 55 (by decide)) 9))))
         have z136 : (σ70 55 42).toInt = (σ 55 42).toInt := (congrArg Int32.toInt (show σ70 55 42 = (σ 55 42) from ((f73 42 (by decide)).trans (congrFun (f57 55 (by decide)) 42))))
         have z137 : (σ70 26 6).toInt = (σ 26 6).toInt := (congrArg Int32.toInt (show σ70 26 6 = (σ 26 6) from ((congrFun (f72 26 (by decide)) 6).trans (congrFun (f57 26 (by decide)) 6))))
         have z139 : (σ70 18 0).toInt = (σ 18 0).toInt := (congrArg Int32.toInt (show σ70 18 0 = (σ 18 0) from ((congrFun (f72 18 (by decide)) 0).trans (congrFun (f57 18 (by decide)) 0))))
         have z140 : (σ70 22 0).toInt = (σ 22 0).toInt := (congrArg Int32.toInt (show σ70 22 0 = (σ 22 0) from ((congrFun (f72 22 (by decide)) 0).trans (congrFun (f57 22 (by decide)) 0))))
         exact by exact ih x78 σ70 τ _ _ ls (by have h9 := tx78; omega) ⟨I79, I80, I81, I82, I83, I84, I85, I86, I87, I88, I89, I90, I91, I92, I93, I94, I95, I96, I97, I98, I99, I100, I101, I74, p102, p103, p104, p105, p106, p107, p75, p108, p109, p110, p111, (by rw [z112, z113]; exact ht0), (by rw [z114, z115]; exact ht1), (by rw [z114, z116, z117]; exact ht2), (by rw [z118, z119]; exact ht3), (by rw [z120, z121]; exact ht4), (by rw [z122, z123]; exact ht5), (by rw [z124, z125]; exact ht6), (by rw [z126, z127]; exact ht7), (by rw [z128, z129]; exact ht8), (by rw [z130, z131]; exact ht9), (by rw [z132]; exact ht10), (by rw [z133]; exact ht11), (by rw [z134, z135]; exact ht12), (by rw [z136]; exact ht13), (by have h9 := tx78; omega), (by have h9 := tx78; omega), (show jNumP (σ70 3) (σ70 56) (σ70 6) (σ70 57) (σ70 7) (σ70 58) (σ70 8) (σ70 59) (σ70 55 6).toInt (σ70 55 4).toInt by rw [show σ70 3 = σ 3 from ((f72 3 (by decide)).trans (f57 3 (by decide))), show σ70 56 = σ 56 from ((f72 56 (by decide)).trans (f57 56 (by decide))), show σ70 6 = σ 6 from ((f72 6 (by decide)).trans (f57 6 (by decide))), show σ70 57 = σ 57 from ((f72 57 (by decide)).trans (f57 57 (by decide))), show σ70 7 = σ 7 from ((f72 7 (by decide)).trans (f57 7 (by decide))), show σ70 58 = σ 58 from ((f72 58 (by decide)).trans (f57 58 (by decide))), show σ70 8 = σ 8 from ((f72 8 (by decide)).trans (f57 8 (by decide))), show σ70 59 = σ 59 from ((f72 59 (by decide)).trans (f57 59 (by decide))), show (σ70 55 6).toInt = (σ 55 6).toInt from z113, show (σ70 55 4).toInt = (σ 55 4).toInt from z117]; exact hr0), (show jOvP (σ70 56) (σ70 57) (σ70 58) (σ70 59) (σ70 55 4).toInt by rw [show σ70 56 = σ 56 from ((f72 56 (by decide)).trans (f57 56 (by decide))), show σ70 57 = σ 57 from ((f72 57 (by decide)).trans (f57 57 (by decide))), show σ70 58 = σ 58 from ((f72 58 (by decide)).trans (f57 58 (by decide))), show σ70 59 = σ 59 from ((f72 59 (by decide)).trans (f57 59 (by decide))), show (σ70 55 4).toInt = (σ 55 4).toInt from z117]; exact hr1), (show jTp (σ70 10) (σ70 63) (σ70 55 15).toInt by rw [show σ70 10 = σ 10 from ((f72 10 (by decide)).trans (f57 10 (by decide))), show σ70 63 = σ 63 from ((f72 63 (by decide)).trans (f57 63 (by decide)))]; exact hr2.le (by omega)), (show jSo (σ70 17) (σ70 62) (σ70 16 0).toInt by rw [show σ70 17 = σ 17 from ((f72 17 (by decide)).trans (f57 17 (by decide))), show σ70 62 = σ 62 from ((f72 62 (by decide)).trans (f57 62 (by decide))), show (σ70 16 0).toInt = (σ 16 0).toInt from z120]; exact hr3), (show jShP (σ70 51) (σ70 52) (σ70 53) (σ70 86) (σ70 87) (σ70 55 32).toInt by rw [show σ70 51 = σ 51 from ((f72 51 (by decide)).trans (f57 51 (by decide))), show σ70 52 = σ 52 from ((f72 52 (by decide)).trans (f57 52 (by decide))), show σ70 53 = σ 53 from ((f72 53 (by decide)).trans (f57 53 (by decide))), show σ70 86 = σ 86 from ((f72 86 (by decide)).trans (f57 86 (by decide))), show σ70 87 = σ 87 from ((f72 87 (by decide)).trans (f57 87 (by decide)))]; exact (hr4.up (by omega) (by omega))), (show jEl (σ70 51) (σ70 52) (τ 54) (τ 88) by rw [show σ70 51 = σ 51 from ((f72 51 (by decide)).trans (f57 51 (by decide))), show σ70 52 = σ 52 from ((f72 52 (by decide)).trans (f57 52 (by decide)))]; exact hr5), (show jByP (σ70 51) (σ70 52) (τ 54) by rw [show σ70 51 = σ 51 from ((f72 51 (by decide)).trans (f57 51 (by decide))), show σ70 52 = σ 52 from ((f72 52 (by decide)).trans (f57 52 (by decide)))]; exact hr6), (show jBk (σ70 48) (σ70 80) (σ70 49) (σ70 81) (σ70 55 47).toInt by rw [show σ70 48 = σ 48 from ((f72 48 (by decide)).trans (f57 48 (by decide))), show σ70 49 = σ 49 from ((f72 49 (by decide)).trans (f57 49 (by decide))), show σ70 80 = σ 80 from ((f72 80 (by decide)).trans (f57 80 (by decide))), show σ70 81 = σ 81 from ((f72 81 (by decide)).trans (f57 81 (by decide))), show (σ70 55 47).toInt = (σ 55 47).toInt from z131]; exact hr7), (show jKd (σ70 39) (σ70 70) (σ70 55 32).toInt by rw [show σ70 39 = σ 39 from ((f72 39 (by decide)).trans (f57 39 (by decide))), show σ70 70 = σ 70 from ((f72 70 (by decide)).trans (f57 70 (by decide))), show (σ70 55 32).toInt = (σ 55 32).toInt from z127]; exact hr8), (show jTt (σ70 42) (σ70 85) (σ70 55 55).toInt by rw [show σ70 42 = σ 42 from ((f72 42 (by decide)).trans (f57 42 (by decide))), show σ70 85 = σ 85 from ((f72 85 (by decide)).trans (f57 85 (by decide))), show (σ70 55 55).toInt = (σ 55 55).toInt from z129]; exact hr9), (fun k hk => by rw [show σ70 4 = σ 4 from ((f72 4 (by decide)).trans (f57 4 (by decide))), show σ70 5 = σ 5 from ((f72 5 (by decide)).trans (f57 5 (by decide))), show σ70 60 = σ 60 from ((f72 60 (by decide)).trans (f57 60 (by decide))), show σ70 61 = σ 61 from ((f72 61 (by decide)).trans (f57 61 (by decide)))]; exact hr10 k (by omega)), (fun nm => by rw [show σ70 19 = σ 19 from ((f72 19 (by decide)).trans (f57 19 (by decide))), show σ70 64 = σ 64 from ((f72 64 (by decide)).trans (f57 64 (by decide))), show σ70 65 = σ 65 from ((f72 65 (by decide)).trans (f57 65 (by decide))), show (σ70 18 0).toInt = (σ 18 0).toInt from z139]; exact hr11 nm), (fun nm => by rw [show σ70 23 = σ 23 from ((f72 23 (by decide)).trans (f57 23 (by decide))), show σ70 64 = σ 64 from ((f72 64 (by decide)).trans (f57 64 (by decide))), show σ70 65 = σ 65 from ((f72 65 (by decide)).trans (f57 65 (by decide))), show (σ70 22 0).toInt = (σ 22 0).toInt from z140]; exact hr12 nm), (show jAlP (σ70 56) (σ70 57) (σ70 58) (σ70 59) (σ70 55 4).toInt by rw [show σ70 56 = σ 56 from ((f72 56 (by decide)).trans (f57 56 (by decide))), show σ70 57 = σ 57 from ((f72 57 (by decide)).trans (f57 57 (by decide))), show σ70 58 = σ 58 from ((f72 58 (by decide)).trans (f57 58 (by decide))), show σ70 59 = σ 59 from ((f72 59 (by decide)).trans (f57 59 (by decide))), show (σ70 55 4).toInt = (σ 55 4).toInt from z117]; exact hr13), (show jqbN (σ70 80) (σ70 55 47).toInt by rw [show σ70 80 = σ 80 from ((f72 80 (by decide)).trans (f57 80 (by decide))), show (σ70 55 47).toInt = (σ 55 47).toInt from z131]; exact hr14)⟩ hP hS (lv_sub hl [0, 1, 2, 3] rfl)
set_option maxHeartbeats 4000000 in
set_option maxRecDepth 100000 in
theorem law_case_9 {p : Program} {e : Env} {s : State} {m : MethodId} {below : List Frame} {meth : Method} {c : Code} (l : Launch) {b L : Nat} {xs : Nat → Int32} {D : va_G} {cI cL : ClassId} {ad zz : Nat → Nat} (C0 : lw_At p s m meth c b L xs) (hJ : jD ad) (hA : ∀ q, jA ad q → s.heap.size ≤ q) (hK : jK D cI cL s) (hZ : jZ zz (fun q : Nat => s.heap.size ≤ q) s s.heap) {x0 : Int32} (hx0 : 0 ≤ x0.toInt) (hxL : x0.toInt + 6 ≤ (L : Int)) (hL : L ≤ 384) {σ : Nat → Nat → Int32} {τ : Nat → Nat → Int64} {H : Heap} {locs : List Loc} (hS : va_S (fun q : Nat => s.heap.size ≤ q) s.heap H locs) {ls : Array Slot} (hAll : jAll x0.toInt σ τ) (hP : jH D cI cL ad σ τ H) (hl : lv_has ls 4 [(3, .int x0), (2, .ref (ad 55)), (1, .ref (ad 0)), (0, .ref b)]) (ih : ∀ (x1 : Int32) (σ : Nat → Nat → Int32) (τ : Nat → Nat → Int64) (H : Heap) (locs : List Loc) (ls : Array Slot), x1.toInt = x0.toInt + 6 → jAll x1.toInt σ τ → jH D cI cL ad σ τ H → va_S (fun q : Nat => s.heap.size ≤ q) s.heap H locs → lv_has ls 4 [(3, .int x1), (2, .ref (ad 55)), (1, .ref (ad 0)), (0, .ref b)] → W p l e room_1 s m #[Value.ref b] below meth c H locs 90 348600 (lw_Z below #[Value.ref b] s) (F0 m 18 ls [])) : W p l e room_1 s m #[Value.ref b] below meth c H locs 90 348600 (lw_Z below #[Value.ref b] s) (F0 m 483 ls []) := by
  obtain ⟨hx, hb, hr, hml, hown, hts0, hX, hbl, hlocks, hgv⟩ := C0
  have hts : ∀ w ∈ wsL_law, w.before #[Value.ref b] s = true := fun w h => hts0 w (wsL_law_in w h)
  have hbA : ¬ (fun q : Nat => s.heap.size ≤ q) b := Nat.not_le.mpr hbl
  have hown : s.vm.findClass RL = some m.cls := hown
  obtain ⟨hI2, hI9, hI12, hI16, hI18, hI22, hI31, hI38, hI43, hI47, hI50, hI0, hI26, hI101, hI102, hI103, hI104, hI105, hI106, hI107, hI109, hI110, hI111, hI119, hs_jKept, hs_jBook, hs_jNd12, hs_jN67, hs_jBl, hs_jKb, hs_jTR, hs_jKh, hs_jKg, hs_jNz, hs_jqSt, ht0, ht1, ht2, ht3, ht4, ht5, ht6, ht7, ht8, ht9, ht10, ht11, ht12, ht13, ht14, ht15, hr0, hr1, hr2, hr3, hr4, hr5, hr6, hr7, hr8, hr9, hr10, hr11, hr12, hr13, hr14⟩ := hAll
  have hL9 : (L : Int) ≤ 384 := by omega
  obtain ⟨i1, i2, i3, i4, i5, w6, w7⟩ : (0 ≤ (σ 2 0).toInt ∧ (σ 2 0).toInt ≤ 4) ∧ (0 ≤ (σ 2 1).toInt ∧ (σ 2 1).toInt ≤ 3) ∧ (0 ≤ (σ 2 2).toInt) ∧ (0 ≤ (σ 2 3).toInt) ∧ ((σ 2 2).toInt + (σ 2 3).toInt ≤ 40) ∧ (∀ k : Nat, k < 40 → 0 ≤ (σ 6 k).toInt ∧ (σ 6 k).toInt ≤ 67) ∧ (∀ k : Nat, k < 4 → 0 ≤ (σ 5 k).toInt ∧ (σ 5 k).toInt ≤ 20) := id hI2
  obtain ⟨i8, w9, w10⟩ : (0 ≤ (σ 9 0).toInt ∧ (σ 9 0).toInt ≤ 80) ∧ (∀ k : Nat, k < 80 → 0 ≤ (σ 10 k).toInt ∧ (σ 10 k).toInt ≤ 255) ∧ (∀ k : Nat, k < 8 → 0 ≤ (σ 11 k).toInt ∧ (σ 11 k).toInt ≤ 3) := id hI9
  obtain ⟨i11, i12, i13, w14⟩ : (1 ≤ (σ 16 0).toInt ∧ (σ 16 0).toInt ≤ 8) ∧ (1 ≤ (σ 16 1).toInt ∧ (σ 16 1).toInt ≤ 12) ∧ (0 ≤ (σ 16 2).toInt ∧ (σ 16 2).toInt ≤ 999) ∧ (∀ k : Nat, k < 8 → 0 ≤ (σ 17 k).toInt ∧ (σ 17 k).toInt ≤ 3) := id hI16
  obtain ⟨i15, i16, w17⟩ : (0 ≤ (σ 38 0).toInt ∧ (σ 38 0).toInt ≤ 20) ∧ (0 ≤ (σ 38 1).toInt ∧ (σ 38 1).toInt ≤ 1000) ∧ (∀ k : Nat, k < 20 → 0 ≤ (σ 39 k).toInt ∧ (σ 39 k).toInt ≤ 6) := id hI38
  obtain ⟨i18, w19, w20⟩ : (0 ≤ (σ 47 0).toInt ∧ (σ 47 0).toInt ≤ 12) ∧ (∀ k : Nat, k < 12 → 0 ≤ (σ 48 k).toInt ∧ (σ 48 k).toInt ≤ 3) ∧ (∀ k : Nat, k < 12 → 0 ≤ (σ 49 k).toInt ∧ (σ 49 k).toInt ≤ 1) := id hI47
  have w21 : ∀ k : Nat, k < 6 → 0 ≤ (σ 52 k).toInt ∧ (σ 52 k).toInt ≤ 60 := hI50
  have i22 : 1 ≤ (σ 26 6).toInt ∧ (σ 26 6).toInt ≤ 8000 := hI26
  obtain ⟨i23, i24, i25, w26, w27, w28, w29⟩ : (0 ≤ (σ 55 5).toInt) ∧ ((σ 55 5).toInt ≤ (σ 55 4).toInt) ∧ ((σ 55 4).toInt ≤ 40) ∧ (∀ k : Nat, k < 68 → (-200) ≤ (σ 56 k).toInt ∧ (σ 56 k).toInt ≤ 500) ∧ (∀ k : Nat, k < 40 → 0 ≤ (σ 57 k).toInt ∧ (σ 57 k).toInt ≤ 67) ∧ (∀ k : Nat, k < 40 → (-200) ≤ (σ 58 k).toInt ∧ (σ 58 k).toInt ≤ 500) ∧ (∀ k : Nat, k < 40 → (-200) ≤ (σ 59 k).toInt ∧ (σ 59 k).toInt ≤ 500) := id hI101
  obtain ⟨i30, w31, w32⟩ : (0 ≤ (σ 55 6).toInt ∧ (σ 55 6).toInt ≤ 4) ∧ (∀ k : Nat, k < 4 → 0 ≤ (σ 60 k).toInt ∧ (σ 60 k).toInt ≤ 50) ∧ (∀ k : Nat, k < 4 → 0 ≤ (σ 61 k).toInt ∧ (σ 61 k).toInt ≤ 20) := id hI102
  have i33 : 0 ≤ (σ 55 9).toInt ∧ (σ 55 9).toInt ≤ 3 := hI103
  obtain ⟨i34, i35, i36, w37, w38⟩ : (1 ≤ (σ 55 10).toInt ∧ (σ 55 10).toInt ≤ 8) ∧ (1 ≤ (σ 55 12).toInt ∧ (σ 55 12).toInt ≤ 12) ∧ (0 ≤ (σ 55 13).toInt ∧ (σ 55 13).toInt ≤ 999) ∧ (∀ k : Nat, k < 8 → 0 ≤ (σ 62 k).toInt ∧ (σ 62 k).toInt ≤ 3) ∧ (∀ k : Nat, k < 8 → 0 ≤ (σ 67 k).toInt ∧ (σ 67 k).toInt ≤ 3) := id hI104
  obtain ⟨i39, w40⟩ : (0 ≤ (σ 55 15).toInt ∧ (σ 55 15).toInt ≤ 80) ∧ (∀ k : Nat, k < 2 → (-1) ≤ (σ 65 k).toInt ∧ (σ 65 k).toInt ≤ 80) := id hI105
  obtain ⟨i41, w42, w43, w44⟩ : (0 ≤ (σ 55 32).toInt ∧ (σ 55 32).toInt ≤ 20) ∧ (∀ k : Nat, k < 20 → 0 ≤ (σ 70 k).toInt ∧ (σ 70 k).toInt ≤ 6) ∧ (∀ k : Nat, k < 20 → 0 ≤ (σ 71 k).toInt ∧ (σ 71 k).toInt ≤ 8) ∧ (∀ k : Nat, k < 160 → 0 ≤ (σ 72 k).toInt ∧ (σ 72 k).toInt ≤ 3) := id hI106
  obtain ⟨i45, i46, w47⟩ : (0 ≤ (σ 55 47).toInt ∧ (σ 55 47).toInt ≤ 12) ∧ ((σ 55 47).toInt ≤ (σ 55 12).toInt) ∧ (∀ k : Nat, k < 12 → 0 ≤ (σ 80 k).toInt ∧ (σ 80 k).toInt ≤ 3) := id hI107
  have hs_jOk3 : jOk3 σ := hr0.ok hr1.1
  refine lv_aload_n hx hb dL_law_483 rfl (lv_at hl 2 rfl) ?_
  refine lv_aload_n hx hb dL_law_484 rfl (lv_at hl 3 rfl) ?_
  refine lv_iload_n hx hb dL_law_485 rfl (lv_at hl 0 rfl) ?_
  refine lv_iconst (v := 1) hx hb dL_law_486 (by decide) ?_
  have g48 := jrg (rfl : x0.toInt = x0.toInt)
  refine lv_iadd hx hb dL_law_487 ?_
  refine lv_topi (fun x49 ex49 => ?_)
  exact by
   have tx49 : x49.toInt = x0.toInt + 1 := (jadd ex49 rfl jz_1 (by omega) (by omega)).trans (by omega)
   refine va_sld hx hb hX hbl hbA hS (jin tx49 (by omega) (by omega)) dL_law_488 ?_
   have g50 := jrg (rfl : (xs x49.toNatClampNeg).toInt = (xs x49.toNatClampNeg).toInt)
   refine lv_aload_n hx hb dL_law_489 rfl (lv_at hl 3 rfl) ?_
   refine lv_iload_n hx hb dL_law_490 rfl (lv_at hl 0 rfl) ?_
   refine lv_iconst (v := 2) hx hb dL_law_491 (by decide) ?_
   refine lv_iadd hx hb dL_law_492 ?_
   refine lv_topi (fun x51 ex51 => ?_)
   have tx51 : x51.toInt = x0.toInt + 2 := (jadd ex51 rfl jz_2 (by omega) (by omega)).trans (by omega)
   exact by
    refine va_sld hx hb hX hbl hbA hS (jin tx51 (by omega) (by omega)) dL_law_493 ?_
    have g52 := jrg (rfl : (xs x51.toNatClampNeg).toInt = (xs x51.toNatClampNeg).toInt)
    refine lv_aload_n hx hb dL_law_494 rfl (lv_at hl 3 rfl) ?_
    refine lv_iload_n hx hb dL_law_495 rfl (lv_at hl 0 rfl) ?_
    refine lv_iconst (v := 3) hx hb dL_law_496 (by decide) ?_
    refine lv_iadd hx hb dL_law_497 ?_
    refine lv_topi (fun x53 ex53 => ?_)
    have tx53 : x53.toInt = x0.toInt + 3 := (jadd ex53 rfl jz_3 (by omega) (by omega)).trans (by omega)
    refine va_sld hx hb hX hbl hbA hS (jin tx53 (by omega) (by omega)) dL_law_498 ?_
    exact by
     have g54 := jrg (rfl : (xs x53.toNatClampNeg).toInt = (xs x53.toNatClampNeg).toInt)
     refine jcallV (As := [.int (xs x49.toNatClampNeg), .int (xs x51.toNatClampNeg), .int (xs x53.toNatClampNeg)]) (rest := []) ⟨hx, hb, hml, hown, hts⟩ hK hP hA hS hZ (c_X11_rule l D cI cL ad zz hJ σ τ (xs x49.toNatClampNeg) ((xs x49.toNatClampNeg).toInt) rfl (xs x51.toNatClampNeg) ((xs x51.toNatClampNeg).toInt) rfl (xs x53.toNatClampNeg) ((xs x53.toNatClampNeg).toInt) rfl hI38) cw_RL_53 (jc_0 cI cL ad σ τ) rfl ⟨Nat.le_of_ble_eq_true rfl, Nat.le_of_ble_eq_true rfl⟩ rfl rfl rfl hl.1 rfl (Nat.le_of_ble_eq_true rfl) dL_law_499 ⟨Nat.le_of_ble_eq_true rfl, Nat.le_of_ble_eq_true rfl⟩ (fun r56 σ55 τ55 H locs h55 hP hS => ?_)
     obtain ⟨rfl, f57, f58, I59, h55⟩ := h55
     obtain ⟨i61, i62, w63⟩ : (0 ≤ (σ55 38 0).toInt ∧ (σ55 38 0).toInt ≤ 20) ∧ (0 ≤ (σ55 38 1).toInt ∧ (σ55 38 1).toInt ≤ 1000) ∧ (∀ k : Nat, k < 20 → 0 ≤ (σ55 39 k).toInt ∧ (σ55 39 k).toInt ≤ 6) := id I59
     have z64 : (σ55 38 1).toInt = (σ 38 1).toInt := (congrArg Int32.toInt (show σ55 38 1 = (σ 38 1) from (f58 1 (by decide))))
     rcases h55 with h65 | h66 | h67
     · obtain ⟨q71, k68, k69, k70⟩ := h65
       have q71 := q71.symm
       subst q71
       refine lv_pop hx hb dL_law_502 rfl ?_
       refine lv_aload_n hx hb dL_law_503 rfl (lv_at hl 1 rfl) ?_
       refine lv_aload_n hx hb dL_law_504 rfl (lv_at hl 3 rfl) ?_
       refine lv_iload_n hx hb dL_law_505 rfl (lv_at hl 0 rfl) ?_
       refine lv_iconst (v := 1) hx hb dL_law_506 (by decide) ?_
       refine lv_iadd hx hb dL_law_507 ?_
       refine jtopr ex49.symm ?_
       exact by
        refine va_sld hx hb hX hbl hbA hS (jin tx49 (by omega) (by omega)) dL_law_508 ?_
        refine lv_aload_n hx hb dL_law_509 rfl (lv_at hl 3 rfl) ?_
        refine lv_iload_n hx hb dL_law_510 rfl (lv_at hl 0 rfl) ?_
        refine lv_iconst (v := 2) hx hb dL_law_511 (by decide) ?_
        refine lv_iadd hx hb dL_law_512 ?_
        refine jtopr ex51.symm ?_
        refine va_sld hx hb hX hbl hbA hS (jin tx51 (by omega) (by omega)) dL_law_513 ?_
        refine lv_aload_n hx hb dL_law_514 rfl (lv_at hl 3 rfl) ?_
        refine lv_iload_n hx hb dL_law_515 rfl (lv_at hl 0 rfl) ?_
        exact by
         refine lv_iconst (v := 3) hx hb dL_law_516 (by decide) ?_
         refine lv_iadd hx hb dL_law_517 ?_
         refine jtopr ex53.symm ?_
         refine va_sld hx hb hX hbl hbA hS (jin tx53 (by omega) (by omega)) dL_law_518 ?_
         have I72 : jI106 σ55 := jI106_fr (congrFun (f57 55 (by decide)) 32) (f57 70 (by decide)) (f57 71 (by decide)) (f57 72 (by decide)) hI106
         have z73 : (σ55 55 32).toInt = (σ 55 32).toInt := (congrArg Int32.toInt (show σ55 55 32 = (σ 55 32) from (congrFun (f57 55 (by decide)) 32)))
         refine jcallV (As := [.int (xs x49.toNatClampNeg), .int (xs x51.toNatClampNeg), .int (xs x53.toNatClampNeg)]) (rest := []) ⟨hx, hb, hml, hown, hts⟩ hK hP hA hS hZ (c_X12_rule l D cI cL ad zz hJ σ55 τ (xs x49.toNatClampNeg) ((xs x49.toNatClampNeg).toInt) rfl (xs x51.toNatClampNeg) ((xs x51.toNatClampNeg).toInt) rfl (xs x53.toNatClampNeg) ((xs x53.toNatClampNeg).toInt) rfl I72) cw_RL_56 (jc_55 cI cL ad σ55 τ) rfl ⟨Nat.le_of_ble_eq_true rfl, Nat.le_of_ble_eq_true rfl⟩ rfl rfl rfl hl.1 rfl (Nat.le_of_ble_eq_true rfl) dL_law_519 ⟨Nat.le_of_ble_eq_true rfl, Nat.le_of_ble_eq_true rfl⟩ (fun r75 σ74 τ74 H locs h74 hP hS => ?_)
         obtain ⟨rfl, f76, f77, I78, h74⟩ := h74
         obtain ⟨i80, w81, w82, w83⟩ : (0 ≤ (σ74 55 32).toInt ∧ (σ74 55 32).toInt ≤ 20) ∧ (∀ k : Nat, k < 20 → 0 ≤ (σ74 70 k).toInt ∧ (σ74 70 k).toInt ≤ 6) ∧ (∀ k : Nat, k < 20 → 0 ≤ (σ74 71 k).toInt ∧ (σ74 71 k).toInt ≤ 8) ∧ (∀ k : Nat, k < 160 → 0 ≤ (σ74 72 k).toInt ∧ (σ74 72 k).toInt ≤ 3) := id I78
         exact by
          rcases h74 with h84 | h85 | h86
          · obtain ⟨q90, k87, k88, k89⟩ := h84
            have q90 := q90.symm
            subst q90
            refine lv_pop hx hb dL_law_522 rfl ?_
            refine lv_goto (tgt := 1357) hx hb dL_law_523 (by decide) ?_
            obtain ⟨x91, ex91⟩ : ∃ y : Int32, y = x0 + 6 := ⟨_, rfl⟩
            have tx91 : x91.toInt = x0.toInt + 6 := (jadd ex91 rfl jz_6 (by omega) (by omega)).trans (by omega)
            refine lv_iinc (v := x91) (lv' := [(3, .int x91), (2, .ref (ad 55)), (1, .ref (ad 0)), (0, .ref b)]) hx hb dL_law_1357 hl (k := 0) rfl (by rw [ex91]; rfl) (by decide) rfl (fun ls hl => ?_)
            exact by
             refine lv_goto (tgt := 18) hx hb dL_law_1360 (by decide) ?_
             have I92 : jI2 σ74 := jI2_fr ((congrFun (f76 2 (by decide)) 0).trans (congrFun (f57 2 (by decide)) 0)) ((congrFun (f76 2 (by decide)) 1).trans (congrFun (f57 2 (by decide)) 1)) ((congrFun (f76 2 (by decide)) 2).trans (congrFun (f57 2 (by decide)) 2)) ((congrFun (f76 2 (by decide)) 3).trans (congrFun (f57 2 (by decide)) 3)) ((f76 6 (by decide)).trans (f57 6 (by decide))) ((f76 5 (by decide)).trans (f57 5 (by decide))) hI2
             have I93 : jI9 σ74 := jI9_fr ((congrFun (f76 9 (by decide)) 0).trans (congrFun (f57 9 (by decide)) 0)) ((f76 10 (by decide)).trans (f57 10 (by decide))) ((f76 11 (by decide)).trans (f57 11 (by decide))) hI9
             have I94 : jI12 σ74 := jI12_fr ((congrFun (f76 12 (by decide)) 0).trans (congrFun (f57 12 (by decide)) 0)) ((f76 13 (by decide)).trans (f57 13 (by decide))) hI12
             have I95 : jI16 σ74 := jI16_fr ((congrFun (f76 16 (by decide)) 0).trans (congrFun (f57 16 (by decide)) 0)) ((congrFun (f76 16 (by decide)) 1).trans (congrFun (f57 16 (by decide)) 1)) ((congrFun (f76 16 (by decide)) 2).trans (congrFun (f57 16 (by decide)) 2)) ((f76 17 (by decide)).trans (f57 17 (by decide))) hI16
             have I96 : jI18 σ74 := jI18_fr ((congrFun (f76 18 (by decide)) 0).trans (congrFun (f57 18 (by decide)) 0)) ((f76 19 (by decide)).trans (f57 19 (by decide))) hI18
             have I97 : jI22 σ74 := jI22_fr ((congrFun (f76 22 (by decide)) 0).trans (congrFun (f57 22 (by decide)) 0)) ((f76 23 (by decide)).trans (f57 23 (by decide))) hI22
             have I98 : jI31 σ74 := jI31_fr ((congrFun (f76 31 (by decide)) 8).trans (congrFun (f57 31 (by decide)) 8)) ((congrFun (f76 31 (by decide)) 10).trans (congrFun (f57 31 (by decide)) 10)) ((congrFun (f76 31 (by decide)) 11).trans (congrFun (f57 31 (by decide)) 11)) ((f76 33 (by decide)).trans (f57 33 (by decide))) ((f76 35 (by decide)).trans (f57 35 (by decide))) ((f76 36 (by decide)).trans (f57 36 (by decide))) hI31
             have I99 : jI38 σ74 := jI38_fr (congrFun (f76 38 (by decide)) 0) (congrFun (f76 38 (by decide)) 1) (f76 39 (by decide)) I59
             have I100 : jI43 σ74 := jI43_fr ((congrFun (f76 43 (by decide)) 8).trans (congrFun (f57 43 (by decide)) 8)) hI43
             have I101 : jI47 σ74 := jI47_fr ((congrFun (f76 47 (by decide)) 0).trans (congrFun (f57 47 (by decide)) 0)) ((f76 48 (by decide)).trans (f57 48 (by decide))) ((f76 49 (by decide)).trans (f57 49 (by decide))) hI47
             have I102 : jI50 σ74 := jI50_fr ((f76 52 (by decide)).trans (f57 52 (by decide))) hI50
             have I103 : jI0 σ74 := jI0_fr ((f76 1 (by decide)).trans (f57 1 (by decide))) hI0
             have I104 : jI26 σ74 := jI26_fr ((congrFun (f76 26 (by decide)) 6).trans (congrFun (f57 26 (by decide)) 6)) hI26
             have I105 : jI101 σ74 := jI101_fr ((f77 4 (by decide)).trans (congrFun (f57 55 (by decide)) 4)) ((f77 5 (by decide)).trans (congrFun (f57 55 (by decide)) 5)) ((f76 56 (by decide)).trans (f57 56 (by decide))) ((f76 57 (by decide)).trans (f57 57 (by decide))) ((f76 58 (by decide)).trans (f57 58 (by decide))) ((f76 59 (by decide)).trans (f57 59 (by decide))) hI101
             have I106 : jI102 σ74 := jI102_fr ((f77 6 (by decide)).trans (congrFun (f57 55 (by decide)) 6)) ((f76 60 (by decide)).trans (f57 60 (by decide))) ((f76 61 (by decide)).trans (f57 61 (by decide))) hI102
             have I107 : jI103 σ74 := jI103_fr ((f77 9 (by decide)).trans (congrFun (f57 55 (by decide)) 9)) hI103
             have I108 : jI104 σ74 := jI104_fr ((f77 10 (by decide)).trans (congrFun (f57 55 (by decide)) 10)) ((f77 12 (by decide)).trans (congrFun (f57 55 (by decide)) 12)) ((f77 13 (by decide)).trans (congrFun (f57 55 (by decide)) 13)) ((f76 62 (by decide)).trans (f57 62 (by decide))) ((f76 67 (by decide)).trans (f57 67 (by decide))) hI104
             have I109 : jI105 σ74 := jI105_fr ((f77 15 (by decide)).trans (congrFun (f57 55 (by decide)) 15)) ((f76 65 (by decide)).trans (f57 65 (by decide))) hI105
             have I110 : jI107 σ74 := jI107_fr ((f77 12 (by decide)).trans (congrFun (f57 55 (by decide)) 12)) ((f77 47 (by decide)).trans (congrFun (f57 55 (by decide)) 47)) ((f76 80 (by decide)).trans (f57 80 (by decide))) hI107
             have I111 : jI109 σ74 := jI109_fr ((f77 50 (by decide)).trans (congrFun (f57 55 (by decide)) 50)) hI109
             have I112 : jI110 σ74 := jI110_fr ((f76 86 (by decide)).trans (f57 86 (by decide))) ((f76 87 (by decide)).trans (f57 87 (by decide))) hI110
             have I113 : jI111 σ74 := jI111_fr ((f76 79 (by decide)).trans (f57 79 (by decide))) hI111
             have I114 : jI119 σ74 := jI119_fr ((f76 68 (by decide)).trans (f57 68 (by decide))) hI119
             have p115 : jKept σ74 := jKept.fr ((f76 75 (by decide)).trans (f57 75 (by decide))) ((f76 76 (by decide)).trans (f57 76 (by decide))) ((f76 77 (by decide)).trans (f57 77 (by decide))) hs_jKept
             have p116 : jBook σ74 := jBook.fr ((f77 47 (by decide)).trans (congrFun (f57 55 (by decide)) 47)) ((f77 10 (by decide)).trans (congrFun (f57 55 (by decide)) 10)) ((f76 81 (by decide)).trans (f57 81 (by decide))) hs_jBook
             have p117 : jNd12 σ74 := jNd12.fr ((congrFun (f76 12 (by decide)) 0).trans (congrFun (f57 12 (by decide)) 0)) ((congrFun (f76 12 (by decide)) 1).trans (congrFun (f57 12 (by decide)) 1)) ((f76 13 (by decide)).trans (f57 13 (by decide))) hs_jNd12
             have p118 : jN67 σ74 := jN67.fr ((f76 24 (by decide)).trans (f57 24 (by decide))) hs_jN67
             have p119 : jBl σ74 := jBl.fr ((congrFun (f76 22 (by decide)) 0).trans (congrFun (f57 22 (by decide)) 0)) ((congrFun (f76 22 (by decide)) 1).trans (congrFun (f57 22 (by decide)) 1)) ((f76 23 (by decide)).trans (f57 23 (by decide))) ((congrFun (f76 26 (by decide)) 6).trans (congrFun (f57 26 (by decide)) 6)) ((congrFun (f76 26 (by decide)) 7).trans (congrFun (f57 26 (by decide)) 7)) ((f76 29 (by decide)).trans (f57 29 (by decide))) ((f76 30 (by decide)).trans (f57 30 (by decide))) hs_jBl
             have p120 : jKb σ74 := jKb.fr ((congrFun (f76 31 (by decide)) 8).trans (congrFun (f57 31 (by decide)) 8)) ((congrFun (f76 31 (by decide)) 11).trans (congrFun (f57 31 (by decide)) 11)) ((f76 32 (by decide)).trans (f57 32 (by decide))) hs_jKb
             have p121 : jTR σ74 := jTR.fr ((f76 64 (by decide)).trans (f57 64 (by decide))) ((f76 65 (by decide)).trans (f57 65 (by decide))) hs_jTR
             have p122 : jKh σ74 := jKh.fr ((congrFun (f76 31 (by decide)) 8).trans (congrFun (f57 31 (by decide)) 8)) ((f76 32 (by decide)).trans (f57 32 (by decide))) ((f76 36 (by decide)).trans (f57 36 (by decide))) ((f76 37 (by decide)).trans (f57 37 (by decide))) hs_jKh
             have p123 : jKg σ74 := jKg.fr ((congrFun (f76 31 (by decide)) 8).trans (congrFun (f57 31 (by decide)) 8)) ((congrFun (f76 31 (by decide)) 9).trans (congrFun (f57 31 (by decide)) 9)) ((congrFun (f76 31 (by decide)) 11).trans (congrFun (f57 31 (by decide)) 11)) ((congrFun (f76 31 (by decide)) 12).trans (congrFun (f57 31 (by decide)) 12)) ((f76 32 (by decide)).trans (f57 32 (by decide))) ((f76 33 (by decide)).trans (f57 33 (by decide))) hs_jKg
             have p124 : jNz σ74 := jNz.fr ((f76 34 (by decide)).trans (f57 34 (by decide))) hs_jNz
             have p125 : jqSt σ74 := jqSt.fr ((f76 78 (by decide)).trans (f57 78 (by decide))) ((f77 42 (by decide)).trans (congrFun (f57 55 (by decide)) 42)) hs_jqSt
             have z126 : (σ74 2 0).toInt = (σ 2 0).toInt := (congrArg Int32.toInt (show σ74 2 0 = (σ 2 0) from ((congrFun (f76 2 (by decide)) 0).trans (congrFun (f57 2 (by decide)) 0))))
             have z127 : (σ74 55 6).toInt = (σ 55 6).toInt := (congrArg Int32.toInt (show σ74 55 6 = (σ 55 6) from ((f77 6 (by decide)).trans (congrFun (f57 55 (by decide)) 6))))
             have z128 : (σ74 2 2).toInt = (σ 2 2).toInt := (congrArg Int32.toInt (show σ74 2 2 = (σ 2 2) from ((congrFun (f76 2 (by decide)) 2).trans (congrFun (f57 2 (by decide)) 2))))
             have z129 : (σ74 55 5).toInt = (σ 55 5).toInt := (congrArg Int32.toInt (show σ74 55 5 = (σ 55 5) from ((f77 5 (by decide)).trans (congrFun (f57 55 (by decide)) 5))))
             have z130 : (σ74 2 3).toInt = (σ 2 3).toInt := (congrArg Int32.toInt (show σ74 2 3 = (σ 2 3) from ((congrFun (f76 2 (by decide)) 3).trans (congrFun (f57 2 (by decide)) 3))))
             have z131 : (σ74 55 4).toInt = (σ 55 4).toInt := (congrArg Int32.toInt (show σ74 55 4 = (σ 55 4) from ((f77 4 (by decide)).trans (congrFun (f57 55 (by decide)) 4))))
             have z132 : (σ74 9 0).toInt = (σ 9 0).toInt := (congrArg Int32.toInt (show σ74 9 0 = (σ 9 0) from ((congrFun (f76 9 (by decide)) 0).trans (congrFun (f57 9 (by decide)) 0))))
             have z133 : (σ74 55 15).toInt = (σ 55 15).toInt := (congrArg Int32.toInt (show σ74 55 15 = (σ 55 15) from ((f77 15 (by decide)).trans (congrFun (f57 55 (by decide)) 15))))
             have z134 : (σ74 16 0).toInt = (σ 16 0).toInt := (congrArg Int32.toInt (show σ74 16 0 = (σ 16 0) from ((congrFun (f76 16 (by decide)) 0).trans (congrFun (f57 16 (by decide)) 0))))
             have z135 : (σ74 55 10).toInt = (σ 55 10).toInt := (congrArg Int32.toInt (show σ74 55 10 = (σ 55 10) from ((f77 10 (by decide)).trans (congrFun (f57 55 (by decide)) 10))))
             have z136 : (σ74 16 1).toInt = (σ 16 1).toInt := (congrArg Int32.toInt (show σ74 16 1 = (σ 16 1) from ((congrFun (f76 16 (by decide)) 1).trans (congrFun (f57 16 (by decide)) 1))))
             have z137 : (σ74 55 12).toInt = (σ 55 12).toInt := (congrArg Int32.toInt (show σ74 55 12 = (σ 55 12) from ((f77 12 (by decide)).trans (congrFun (f57 55 (by decide)) 12))))
             have z138 : (σ74 16 2).toInt = (σ 16 2).toInt := (congrArg Int32.toInt (show σ74 16 2 = (σ 16 2) from ((congrFun (f76 16 (by decide)) 2).trans (congrFun (f57 16 (by decide)) 2))))
             have z139 : (σ74 55 13).toInt = (σ 55 13).toInt := (congrArg Int32.toInt (show σ74 55 13 = (σ 55 13) from ((f77 13 (by decide)).trans (congrFun (f57 55 (by decide)) 13))))
             have z140 : (σ74 38 0).toInt = (σ55 38 0).toInt := (congrArg Int32.toInt (show σ74 38 0 = (σ55 38 0) from (congrFun (f76 38 (by decide)) 0)))
             have z141 : (σ74 38 1).toInt = (σ 38 1).toInt := (congrArg Int32.toInt (show σ74 38 1 = (σ 38 1) from ((congrFun (f76 38 (by decide)) 1).trans (f58 1 (by decide)))))
             have z142 : (σ74 55 55).toInt = (σ 55 55).toInt := (congrArg Int32.toInt (show σ74 55 55 = (σ 55 55) from ((f77 55 (by decide)).trans (congrFun (f57 55 (by decide)) 55))))
             have z143 : (σ74 47 0).toInt = (σ 47 0).toInt := (congrArg Int32.toInt (show σ74 47 0 = (σ 47 0) from ((congrFun (f76 47 (by decide)) 0).trans (congrFun (f57 47 (by decide)) 0))))
             have z144 : (σ74 55 47).toInt = (σ 55 47).toInt := (congrArg Int32.toInt (show σ74 55 47 = (σ 55 47) from ((f77 47 (by decide)).trans (congrFun (f57 55 (by decide)) 47))))
             have z145 : (σ74 55 30).toInt = (σ 55 30).toInt := (congrArg Int32.toInt (show σ74 55 30 = (σ 55 30) from ((f77 30 (by decide)).trans (congrFun (f57 55 (by decide)) 30))))
             have z146 : (σ74 55 31).toInt = (σ 55 31).toInt := (congrArg Int32.toInt (show σ74 55 31 = (σ 55 31) from ((f77 31 (by decide)).trans (congrFun (f57 55 (by decide)) 31))))
             have z147 : (σ74 2 1).toInt = (σ 2 1).toInt := (congrArg Int32.toInt (show σ74 2 1 = (σ 2 1) from ((congrFun (f76 2 (by decide)) 1).trans (congrFun (f57 2 (by decide)) 1))))
             have z148 : (σ74 55 9).toInt = (σ 55 9).toInt := (congrArg Int32.toInt (show σ74 55 9 = (σ 55 9) from ((f77 9 (by decide)).trans (congrFun (f57 55 (by decide)) 9))))
             have z149 : (σ74 55 42).toInt = (σ 55 42).toInt := (congrArg Int32.toInt (show σ74 55 42 = (σ 55 42) from ((f77 42 (by decide)).trans (congrFun (f57 55 (by decide)) 42))))
             have z150 : (σ74 26 6).toInt = (σ 26 6).toInt := (congrArg Int32.toInt (show σ74 26 6 = (σ 26 6) from ((congrFun (f76 26 (by decide)) 6).trans (congrFun (f57 26 (by decide)) 6))))
             have z152 : (σ74 18 0).toInt = (σ 18 0).toInt := (congrArg Int32.toInt (show σ74 18 0 = (σ 18 0) from ((congrFun (f76 18 (by decide)) 0).trans (congrFun (f57 18 (by decide)) 0))))
             have z153 : (σ74 22 0).toInt = (σ 22 0).toInt := (congrArg Int32.toInt (show σ74 22 0 = (σ 22 0) from ((congrFun (f76 22 (by decide)) 0).trans (congrFun (f57 22 (by decide)) 0))))
             exact by exact ih x91 σ74 τ _ _ ls (by have h9 := tx91; omega) ⟨I92, I93, I94, I95, I96, I97, I98, I99, I100, I101, I102, I103, I104, I105, I106, I107, I108, I109, I78, I110, I111, I112, I113, I114, p115, p116, p117, p118, p119, p120, p121, p122, p123, p124, p125, (by rw [z126, z127]; exact ht0), (by rw [z128, z129]; exact ht1), (by rw [z128, z130, z131]; exact ht2), (by rw [z132, z133]; exact ht3), (by rw [z134, z135]; exact ht4), (by rw [z136, z137]; exact ht5), (by rw [z138, z139]; exact ht6), (by omega), (by rw [z141, z142]; exact ht8), (by rw [z143, z144]; exact ht9), (by rw [z145]; exact ht10), (by rw [z146]; exact ht11), (by rw [z147, z148]; exact ht12), (by rw [z149]; exact ht13), (by have h9 := tx91; omega), (by have h9 := tx91; omega), (show jNumP (σ74 3) (σ74 56) (σ74 6) (σ74 57) (σ74 7) (σ74 58) (σ74 8) (σ74 59) (σ74 55 6).toInt (σ74 55 4).toInt by rw [show σ74 3 = σ 3 from ((f76 3 (by decide)).trans (f57 3 (by decide))), show σ74 56 = σ 56 from ((f76 56 (by decide)).trans (f57 56 (by decide))), show σ74 6 = σ 6 from ((f76 6 (by decide)).trans (f57 6 (by decide))), show σ74 57 = σ 57 from ((f76 57 (by decide)).trans (f57 57 (by decide))), show σ74 7 = σ 7 from ((f76 7 (by decide)).trans (f57 7 (by decide))), show σ74 58 = σ 58 from ((f76 58 (by decide)).trans (f57 58 (by decide))), show σ74 8 = σ 8 from ((f76 8 (by decide)).trans (f57 8 (by decide))), show σ74 59 = σ 59 from ((f76 59 (by decide)).trans (f57 59 (by decide))), show (σ74 55 6).toInt = (σ 55 6).toInt from z127, show (σ74 55 4).toInt = (σ 55 4).toInt from z131]; exact hr0), (show jOvP (σ74 56) (σ74 57) (σ74 58) (σ74 59) (σ74 55 4).toInt by rw [show σ74 56 = σ 56 from ((f76 56 (by decide)).trans (f57 56 (by decide))), show σ74 57 = σ 57 from ((f76 57 (by decide)).trans (f57 57 (by decide))), show σ74 58 = σ 58 from ((f76 58 (by decide)).trans (f57 58 (by decide))), show σ74 59 = σ 59 from ((f76 59 (by decide)).trans (f57 59 (by decide))), show (σ74 55 4).toInt = (σ 55 4).toInt from z131]; exact hr1), (show jTp (σ74 10) (σ74 63) (σ74 55 15).toInt by rw [show σ74 10 = σ 10 from ((f76 10 (by decide)).trans (f57 10 (by decide))), show σ74 63 = σ 63 from ((f76 63 (by decide)).trans (f57 63 (by decide)))]; exact hr2.le (by omega)), (show jSo (σ74 17) (σ74 62) (σ74 16 0).toInt by rw [show σ74 17 = σ 17 from ((f76 17 (by decide)).trans (f57 17 (by decide))), show σ74 62 = σ 62 from ((f76 62 (by decide)).trans (f57 62 (by decide))), show (σ74 16 0).toInt = (σ 16 0).toInt from z134]; exact hr3), (show jShP (σ74 51) (σ74 52) (σ74 53) (σ74 86) (σ74 87) (σ74 55 32).toInt by rw [show σ74 51 = σ 51 from ((f76 51 (by decide)).trans (f57 51 (by decide))), show σ74 52 = σ 52 from ((f76 52 (by decide)).trans (f57 52 (by decide))), show σ74 53 = σ 53 from ((f76 53 (by decide)).trans (f57 53 (by decide))), show σ74 86 = σ 86 from ((f76 86 (by decide)).trans (f57 86 (by decide))), show σ74 87 = σ 87 from ((f76 87 (by decide)).trans (f57 87 (by decide)))]; exact (hr4.up (by omega) (by omega))), (show jEl (σ74 51) (σ74 52) (τ 54) (τ 88) by rw [show σ74 51 = σ 51 from ((f76 51 (by decide)).trans (f57 51 (by decide))), show σ74 52 = σ 52 from ((f76 52 (by decide)).trans (f57 52 (by decide)))]; exact hr5), (show jByP (σ74 51) (σ74 52) (τ 54) by rw [show σ74 51 = σ 51 from ((f76 51 (by decide)).trans (f57 51 (by decide))), show σ74 52 = σ 52 from ((f76 52 (by decide)).trans (f57 52 (by decide)))]; exact hr6), (show jBk (σ74 48) (σ74 80) (σ74 49) (σ74 81) (σ74 55 47).toInt by rw [show σ74 48 = σ 48 from ((f76 48 (by decide)).trans (f57 48 (by decide))), show σ74 49 = σ 49 from ((f76 49 (by decide)).trans (f57 49 (by decide))), show σ74 80 = σ 80 from ((f76 80 (by decide)).trans (f57 80 (by decide))), show σ74 81 = σ 81 from ((f76 81 (by decide)).trans (f57 81 (by decide))), show (σ74 55 47).toInt = (σ 55 47).toInt from z144]; exact hr7), (show jKd (σ74 39) (σ74 70) (σ74 55 32).toInt by rw [show σ74 39 = σ 39 from ((f76 39 (by decide)).trans k70.1), show σ74 70 = σ 70 from (k89.1.trans (f57 70 (by decide))), show (σ74 55 32).toInt = (σ 55 32).toInt from by omega]; exact hr8), (show jTt (σ74 42) (σ74 85) (σ74 55 55).toInt by rw [show σ74 42 = σ 42 from ((f76 42 (by decide)).trans (f57 42 (by decide))), show σ74 85 = σ 85 from ((f76 85 (by decide)).trans (f57 85 (by decide))), show (σ74 55 55).toInt = (σ 55 55).toInt from z142]; exact hr9), (fun k hk => by rw [show σ74 4 = σ 4 from ((f76 4 (by decide)).trans (f57 4 (by decide))), show σ74 5 = σ 5 from ((f76 5 (by decide)).trans (f57 5 (by decide))), show σ74 60 = σ 60 from ((f76 60 (by decide)).trans (f57 60 (by decide))), show σ74 61 = σ 61 from ((f76 61 (by decide)).trans (f57 61 (by decide)))]; exact hr10 k (by omega)), (fun nm => by rw [show σ74 19 = σ 19 from ((f76 19 (by decide)).trans (f57 19 (by decide))), show σ74 64 = σ 64 from ((f76 64 (by decide)).trans (f57 64 (by decide))), show σ74 65 = σ 65 from ((f76 65 (by decide)).trans (f57 65 (by decide))), show (σ74 18 0).toInt = (σ 18 0).toInt from z152]; exact hr11 nm), (fun nm => by rw [show σ74 23 = σ 23 from ((f76 23 (by decide)).trans (f57 23 (by decide))), show σ74 64 = σ 64 from ((f76 64 (by decide)).trans (f57 64 (by decide))), show σ74 65 = σ 65 from ((f76 65 (by decide)).trans (f57 65 (by decide))), show (σ74 22 0).toInt = (σ 22 0).toInt from z153]; exact hr12 nm), (show jAlP (σ74 56) (σ74 57) (σ74 58) (σ74 59) (σ74 55 4).toInt by rw [show σ74 56 = σ 56 from ((f76 56 (by decide)).trans (f57 56 (by decide))), show σ74 57 = σ 57 from ((f76 57 (by decide)).trans (f57 57 (by decide))), show σ74 58 = σ 58 from ((f76 58 (by decide)).trans (f57 58 (by decide))), show σ74 59 = σ 59 from ((f76 59 (by decide)).trans (f57 59 (by decide))), show (σ74 55 4).toInt = (σ 55 4).toInt from z131]; exact hr13), (show jqbN (σ74 80) (σ74 55 47).toInt by rw [show σ74 80 = σ 80 from ((f76 80 (by decide)).trans (f57 80 (by decide))), show (σ74 55 47).toInt = (σ 55 47).toInt from z144]; exact hr14)⟩ hP hS (lv_sub hl [0, 1, 2, 3] rfl)
          · obtain ⟨q158, k154, k155, k156, k157⟩ := h85
            have q158 := q158.symm
            subst q158
            exact absurd k156 k69
          · obtain ⟨q165, k159, k160, k161, k162, k163, k164⟩ := h86
            exact absurd k162 k69
     · obtain ⟨q170, k166, k167, k168, k169⟩ := h66
       have q170 := q170.symm
       subst q170
       refine lv_pop hx hb dL_law_502 rfl ?_
       refine lv_aload_n hx hb dL_law_503 rfl (lv_at hl 1 rfl) ?_
       refine lv_aload_n hx hb dL_law_504 rfl (lv_at hl 3 rfl) ?_
       refine lv_iload_n hx hb dL_law_505 rfl (lv_at hl 0 rfl) ?_
       refine lv_iconst (v := 1) hx hb dL_law_506 (by decide) ?_
       refine lv_iadd hx hb dL_law_507 ?_
       refine jtopr ex49.symm ?_
       exact by
        refine va_sld hx hb hX hbl hbA hS (jin tx49 (by omega) (by omega)) dL_law_508 ?_
        refine lv_aload_n hx hb dL_law_509 rfl (lv_at hl 3 rfl) ?_
        refine lv_iload_n hx hb dL_law_510 rfl (lv_at hl 0 rfl) ?_
        refine lv_iconst (v := 2) hx hb dL_law_511 (by decide) ?_
        refine lv_iadd hx hb dL_law_512 ?_
        refine jtopr ex51.symm ?_
        refine va_sld hx hb hX hbl hbA hS (jin tx51 (by omega) (by omega)) dL_law_513 ?_
        refine lv_aload_n hx hb dL_law_514 rfl (lv_at hl 3 rfl) ?_
        refine lv_iload_n hx hb dL_law_515 rfl (lv_at hl 0 rfl) ?_
        exact by
         refine lv_iconst (v := 3) hx hb dL_law_516 (by decide) ?_
         refine lv_iadd hx hb dL_law_517 ?_
         refine jtopr ex53.symm ?_
         refine va_sld hx hb hX hbl hbA hS (jin tx53 (by omega) (by omega)) dL_law_518 ?_
         have I171 : jI106 σ55 := jI106_fr (congrFun (f57 55 (by decide)) 32) (f57 70 (by decide)) (f57 71 (by decide)) (f57 72 (by decide)) hI106
         have z172 : (σ55 55 32).toInt = (σ 55 32).toInt := (congrArg Int32.toInt (show σ55 55 32 = (σ 55 32) from (congrFun (f57 55 (by decide)) 32)))
         refine jcallV (As := [.int (xs x49.toNatClampNeg), .int (xs x51.toNatClampNeg), .int (xs x53.toNatClampNeg)]) (rest := []) ⟨hx, hb, hml, hown, hts⟩ hK hP hA hS hZ (c_X12_rule l D cI cL ad zz hJ σ55 τ (xs x49.toNatClampNeg) ((xs x49.toNatClampNeg).toInt) rfl (xs x51.toNatClampNeg) ((xs x51.toNatClampNeg).toInt) rfl (xs x53.toNatClampNeg) ((xs x53.toNatClampNeg).toInt) rfl I171) cw_RL_56 (jc_55 cI cL ad σ55 τ) rfl ⟨Nat.le_of_ble_eq_true rfl, Nat.le_of_ble_eq_true rfl⟩ rfl rfl rfl hl.1 rfl (Nat.le_of_ble_eq_true rfl) dL_law_519 ⟨Nat.le_of_ble_eq_true rfl, Nat.le_of_ble_eq_true rfl⟩ (fun r174 σ173 τ173 H locs h173 hP hS => ?_)
         obtain ⟨rfl, f175, f176, I177, h173⟩ := h173
         obtain ⟨i179, w180, w181, w182⟩ : (0 ≤ (σ173 55 32).toInt ∧ (σ173 55 32).toInt ≤ 20) ∧ (∀ k : Nat, k < 20 → 0 ≤ (σ173 70 k).toInt ∧ (σ173 70 k).toInt ≤ 6) ∧ (∀ k : Nat, k < 20 → 0 ≤ (σ173 71 k).toInt ∧ (σ173 71 k).toInt ≤ 8) ∧ (∀ k : Nat, k < 160 → 0 ≤ (σ173 72 k).toInt ∧ (σ173 72 k).toInt ≤ 3) := id I177
         exact by
          rcases h173 with h183 | h184 | h185
          · obtain ⟨q189, k186, k187, k188⟩ := h183
            have q189 := q189.symm
            subst q189
            exact absurd k168 k187
          · obtain ⟨q194, k190, k191, k192, k193⟩ := h184
            have q194 := q194.symm
            subst q194
            refine lv_pop hx hb dL_law_522 rfl ?_
            refine lv_goto (tgt := 1357) hx hb dL_law_523 (by decide) ?_
            obtain ⟨x195, ex195⟩ : ∃ y : Int32, y = x0 + 6 := ⟨_, rfl⟩
            exact by
             have tx195 : x195.toInt = x0.toInt + 6 := (jadd ex195 rfl jz_6 (by omega) (by omega)).trans (by omega)
             refine lv_iinc (v := x195) (lv' := [(3, .int x195), (2, .ref (ad 55)), (1, .ref (ad 0)), (0, .ref b)]) hx hb dL_law_1357 hl (k := 0) rfl (by rw [ex195]; rfl) (by decide) rfl (fun ls hl => ?_)
             refine lv_goto (tgt := 18) hx hb dL_law_1360 (by decide) ?_
             have I196 : jI2 σ173 := jI2_fr ((congrFun (f175 2 (by decide)) 0).trans (congrFun (f57 2 (by decide)) 0)) ((congrFun (f175 2 (by decide)) 1).trans (congrFun (f57 2 (by decide)) 1)) ((congrFun (f175 2 (by decide)) 2).trans (congrFun (f57 2 (by decide)) 2)) ((congrFun (f175 2 (by decide)) 3).trans (congrFun (f57 2 (by decide)) 3)) ((f175 6 (by decide)).trans (f57 6 (by decide))) ((f175 5 (by decide)).trans (f57 5 (by decide))) hI2
             have I197 : jI9 σ173 := jI9_fr ((congrFun (f175 9 (by decide)) 0).trans (congrFun (f57 9 (by decide)) 0)) ((f175 10 (by decide)).trans (f57 10 (by decide))) ((f175 11 (by decide)).trans (f57 11 (by decide))) hI9
             have I198 : jI12 σ173 := jI12_fr ((congrFun (f175 12 (by decide)) 0).trans (congrFun (f57 12 (by decide)) 0)) ((f175 13 (by decide)).trans (f57 13 (by decide))) hI12
             have I199 : jI16 σ173 := jI16_fr ((congrFun (f175 16 (by decide)) 0).trans (congrFun (f57 16 (by decide)) 0)) ((congrFun (f175 16 (by decide)) 1).trans (congrFun (f57 16 (by decide)) 1)) ((congrFun (f175 16 (by decide)) 2).trans (congrFun (f57 16 (by decide)) 2)) ((f175 17 (by decide)).trans (f57 17 (by decide))) hI16
             have I200 : jI18 σ173 := jI18_fr ((congrFun (f175 18 (by decide)) 0).trans (congrFun (f57 18 (by decide)) 0)) ((f175 19 (by decide)).trans (f57 19 (by decide))) hI18
             have I201 : jI22 σ173 := jI22_fr ((congrFun (f175 22 (by decide)) 0).trans (congrFun (f57 22 (by decide)) 0)) ((f175 23 (by decide)).trans (f57 23 (by decide))) hI22
             exact by
              have I202 : jI31 σ173 := jI31_fr ((congrFun (f175 31 (by decide)) 8).trans (congrFun (f57 31 (by decide)) 8)) ((congrFun (f175 31 (by decide)) 10).trans (congrFun (f57 31 (by decide)) 10)) ((congrFun (f175 31 (by decide)) 11).trans (congrFun (f57 31 (by decide)) 11)) ((f175 33 (by decide)).trans (f57 33 (by decide))) ((f175 35 (by decide)).trans (f57 35 (by decide))) ((f175 36 (by decide)).trans (f57 36 (by decide))) hI31
              have I203 : jI38 σ173 := jI38_fr (congrFun (f175 38 (by decide)) 0) (congrFun (f175 38 (by decide)) 1) (f175 39 (by decide)) I59
              have I204 : jI43 σ173 := jI43_fr ((congrFun (f175 43 (by decide)) 8).trans (congrFun (f57 43 (by decide)) 8)) hI43
              have I205 : jI47 σ173 := jI47_fr ((congrFun (f175 47 (by decide)) 0).trans (congrFun (f57 47 (by decide)) 0)) ((f175 48 (by decide)).trans (f57 48 (by decide))) ((f175 49 (by decide)).trans (f57 49 (by decide))) hI47
              have I206 : jI50 σ173 := jI50_fr ((f175 52 (by decide)).trans (f57 52 (by decide))) hI50
              have I207 : jI0 σ173 := jI0_fr ((f175 1 (by decide)).trans (f57 1 (by decide))) hI0
              have I208 : jI26 σ173 := jI26_fr ((congrFun (f175 26 (by decide)) 6).trans (congrFun (f57 26 (by decide)) 6)) hI26
              have I209 : jI101 σ173 := jI101_fr ((f176 4 (by decide)).trans (congrFun (f57 55 (by decide)) 4)) ((f176 5 (by decide)).trans (congrFun (f57 55 (by decide)) 5)) ((f175 56 (by decide)).trans (f57 56 (by decide))) ((f175 57 (by decide)).trans (f57 57 (by decide))) ((f175 58 (by decide)).trans (f57 58 (by decide))) ((f175 59 (by decide)).trans (f57 59 (by decide))) hI101
              have I210 : jI102 σ173 := jI102_fr ((f176 6 (by decide)).trans (congrFun (f57 55 (by decide)) 6)) ((f175 60 (by decide)).trans (f57 60 (by decide))) ((f175 61 (by decide)).trans (f57 61 (by decide))) hI102
              have I211 : jI103 σ173 := jI103_fr ((f176 9 (by decide)).trans (congrFun (f57 55 (by decide)) 9)) hI103
              have I212 : jI104 σ173 := jI104_fr ((f176 10 (by decide)).trans (congrFun (f57 55 (by decide)) 10)) ((f176 12 (by decide)).trans (congrFun (f57 55 (by decide)) 12)) ((f176 13 (by decide)).trans (congrFun (f57 55 (by decide)) 13)) ((f175 62 (by decide)).trans (f57 62 (by decide))) ((f175 67 (by decide)).trans (f57 67 (by decide))) hI104
              have I213 : jI105 σ173 := jI105_fr ((f176 15 (by decide)).trans (congrFun (f57 55 (by decide)) 15)) ((f175 65 (by decide)).trans (f57 65 (by decide))) hI105
              have I214 : jI107 σ173 := jI107_fr ((f176 12 (by decide)).trans (congrFun (f57 55 (by decide)) 12)) ((f176 47 (by decide)).trans (congrFun (f57 55 (by decide)) 47)) ((f175 80 (by decide)).trans (f57 80 (by decide))) hI107
              have I215 : jI109 σ173 := jI109_fr ((f176 50 (by decide)).trans (congrFun (f57 55 (by decide)) 50)) hI109
              have I216 : jI110 σ173 := jI110_fr ((f175 86 (by decide)).trans (f57 86 (by decide))) ((f175 87 (by decide)).trans (f57 87 (by decide))) hI110
              have I217 : jI111 σ173 := jI111_fr ((f175 79 (by decide)).trans (f57 79 (by decide))) hI111
              have I218 : jI119 σ173 := jI119_fr ((f175 68 (by decide)).trans (f57 68 (by decide))) hI119
              have p219 : jKept σ173 := jKept.fr ((f175 75 (by decide)).trans (f57 75 (by decide))) ((f175 76 (by decide)).trans (f57 76 (by decide))) ((f175 77 (by decide)).trans (f57 77 (by decide))) hs_jKept
              have p220 : jBook σ173 := jBook.fr ((f176 47 (by decide)).trans (congrFun (f57 55 (by decide)) 47)) ((f176 10 (by decide)).trans (congrFun (f57 55 (by decide)) 10)) ((f175 81 (by decide)).trans (f57 81 (by decide))) hs_jBook
              have p221 : jNd12 σ173 := jNd12.fr ((congrFun (f175 12 (by decide)) 0).trans (congrFun (f57 12 (by decide)) 0)) ((congrFun (f175 12 (by decide)) 1).trans (congrFun (f57 12 (by decide)) 1)) ((f175 13 (by decide)).trans (f57 13 (by decide))) hs_jNd12
              have p222 : jN67 σ173 := jN67.fr ((f175 24 (by decide)).trans (f57 24 (by decide))) hs_jN67
              have p223 : jBl σ173 := jBl.fr ((congrFun (f175 22 (by decide)) 0).trans (congrFun (f57 22 (by decide)) 0)) ((congrFun (f175 22 (by decide)) 1).trans (congrFun (f57 22 (by decide)) 1)) ((f175 23 (by decide)).trans (f57 23 (by decide))) ((congrFun (f175 26 (by decide)) 6).trans (congrFun (f57 26 (by decide)) 6)) ((congrFun (f175 26 (by decide)) 7).trans (congrFun (f57 26 (by decide)) 7)) ((f175 29 (by decide)).trans (f57 29 (by decide))) ((f175 30 (by decide)).trans (f57 30 (by decide))) hs_jBl
              have p224 : jKb σ173 := jKb.fr ((congrFun (f175 31 (by decide)) 8).trans (congrFun (f57 31 (by decide)) 8)) ((congrFun (f175 31 (by decide)) 11).trans (congrFun (f57 31 (by decide)) 11)) ((f175 32 (by decide)).trans (f57 32 (by decide))) hs_jKb
              have p225 : jTR σ173 := jTR.fr ((f175 64 (by decide)).trans (f57 64 (by decide))) ((f175 65 (by decide)).trans (f57 65 (by decide))) hs_jTR
              have p226 : jKh σ173 := jKh.fr ((congrFun (f175 31 (by decide)) 8).trans (congrFun (f57 31 (by decide)) 8)) ((f175 32 (by decide)).trans (f57 32 (by decide))) ((f175 36 (by decide)).trans (f57 36 (by decide))) ((f175 37 (by decide)).trans (f57 37 (by decide))) hs_jKh
              have p227 : jKg σ173 := jKg.fr ((congrFun (f175 31 (by decide)) 8).trans (congrFun (f57 31 (by decide)) 8)) ((congrFun (f175 31 (by decide)) 9).trans (congrFun (f57 31 (by decide)) 9)) ((congrFun (f175 31 (by decide)) 11).trans (congrFun (f57 31 (by decide)) 11)) ((congrFun (f175 31 (by decide)) 12).trans (congrFun (f57 31 (by decide)) 12)) ((f175 32 (by decide)).trans (f57 32 (by decide))) ((f175 33 (by decide)).trans (f57 33 (by decide))) hs_jKg
              have p228 : jNz σ173 := jNz.fr ((f175 34 (by decide)).trans (f57 34 (by decide))) hs_jNz
              have p229 : jqSt σ173 := jqSt.fr ((f175 78 (by decide)).trans (f57 78 (by decide))) ((f176 42 (by decide)).trans (congrFun (f57 55 (by decide)) 42)) hs_jqSt
              have z230 : (σ173 2 0).toInt = (σ 2 0).toInt := (congrArg Int32.toInt (show σ173 2 0 = (σ 2 0) from ((congrFun (f175 2 (by decide)) 0).trans (congrFun (f57 2 (by decide)) 0))))
              have z231 : (σ173 55 6).toInt = (σ 55 6).toInt := (congrArg Int32.toInt (show σ173 55 6 = (σ 55 6) from ((f176 6 (by decide)).trans (congrFun (f57 55 (by decide)) 6))))
              have z232 : (σ173 2 2).toInt = (σ 2 2).toInt := (congrArg Int32.toInt (show σ173 2 2 = (σ 2 2) from ((congrFun (f175 2 (by decide)) 2).trans (congrFun (f57 2 (by decide)) 2))))
              have z233 : (σ173 55 5).toInt = (σ 55 5).toInt := (congrArg Int32.toInt (show σ173 55 5 = (σ 55 5) from ((f176 5 (by decide)).trans (congrFun (f57 55 (by decide)) 5))))
              have z234 : (σ173 2 3).toInt = (σ 2 3).toInt := (congrArg Int32.toInt (show σ173 2 3 = (σ 2 3) from ((congrFun (f175 2 (by decide)) 3).trans (congrFun (f57 2 (by decide)) 3))))
              have z235 : (σ173 55 4).toInt = (σ 55 4).toInt := (congrArg Int32.toInt (show σ173 55 4 = (σ 55 4) from ((f176 4 (by decide)).trans (congrFun (f57 55 (by decide)) 4))))
              have z236 : (σ173 9 0).toInt = (σ 9 0).toInt := (congrArg Int32.toInt (show σ173 9 0 = (σ 9 0) from ((congrFun (f175 9 (by decide)) 0).trans (congrFun (f57 9 (by decide)) 0))))
              have z237 : (σ173 55 15).toInt = (σ 55 15).toInt := (congrArg Int32.toInt (show σ173 55 15 = (σ 55 15) from ((f176 15 (by decide)).trans (congrFun (f57 55 (by decide)) 15))))
              have z238 : (σ173 16 0).toInt = (σ 16 0).toInt := (congrArg Int32.toInt (show σ173 16 0 = (σ 16 0) from ((congrFun (f175 16 (by decide)) 0).trans (congrFun (f57 16 (by decide)) 0))))
              have z239 : (σ173 55 10).toInt = (σ 55 10).toInt := (congrArg Int32.toInt (show σ173 55 10 = (σ 55 10) from ((f176 10 (by decide)).trans (congrFun (f57 55 (by decide)) 10))))
              have z240 : (σ173 16 1).toInt = (σ 16 1).toInt := (congrArg Int32.toInt (show σ173 16 1 = (σ 16 1) from ((congrFun (f175 16 (by decide)) 1).trans (congrFun (f57 16 (by decide)) 1))))
              have z241 : (σ173 55 12).toInt = (σ 55 12).toInt := (congrArg Int32.toInt (show σ173 55 12 = (σ 55 12) from ((f176 12 (by decide)).trans (congrFun (f57 55 (by decide)) 12))))
              have z242 : (σ173 16 2).toInt = (σ 16 2).toInt := (congrArg Int32.toInt (show σ173 16 2 = (σ 16 2) from ((congrFun (f175 16 (by decide)) 2).trans (congrFun (f57 16 (by decide)) 2))))
              have z243 : (σ173 55 13).toInt = (σ 55 13).toInt := (congrArg Int32.toInt (show σ173 55 13 = (σ 55 13) from ((f176 13 (by decide)).trans (congrFun (f57 55 (by decide)) 13))))
              have z244 : (σ173 38 0).toInt = (σ55 38 0).toInt := (congrArg Int32.toInt (show σ173 38 0 = (σ55 38 0) from (congrFun (f175 38 (by decide)) 0)))
              have z245 : (σ173 38 1).toInt = (σ 38 1).toInt := (congrArg Int32.toInt (show σ173 38 1 = (σ 38 1) from ((congrFun (f175 38 (by decide)) 1).trans (f58 1 (by decide)))))
              have z246 : (σ173 55 55).toInt = (σ 55 55).toInt := (congrArg Int32.toInt (show σ173 55 55 = (σ 55 55) from ((f176 55 (by decide)).trans (congrFun (f57 55 (by decide)) 55))))
              have z247 : (σ173 47 0).toInt = (σ 47 0).toInt := (congrArg Int32.toInt (show σ173 47 0 = (σ 47 0) from ((congrFun (f175 47 (by decide)) 0).trans (congrFun (f57 47 (by decide)) 0))))
              have z248 : (σ173 55 47).toInt = (σ 55 47).toInt := (congrArg Int32.toInt (show σ173 55 47 = (σ 55 47) from ((f176 47 (by decide)).trans (congrFun (f57 55 (by decide)) 47))))
              have z249 : (σ173 55 30).toInt = (σ 55 30).toInt := (congrArg Int32.toInt (show σ173 55 30 = (σ 55 30) from ((f176 30 (by decide)).trans (congrFun (f57 55 (by decide)) 30))))
              have z250 : (σ173 55 31).toInt = (σ 55 31).toInt := (congrArg Int32.toInt (show σ173 55 31 = (σ 55 31) from ((f176 31 (by decide)).trans (congrFun (f57 55 (by decide)) 31))))
              have z251 : (σ173 2 1).toInt = (σ 2 1).toInt := (congrArg Int32.toInt (show σ173 2 1 = (σ 2 1) from ((congrFun (f175 2 (by decide)) 1).trans (congrFun (f57 2 (by decide)) 1))))
              have z252 : (σ173 55 9).toInt = (σ 55 9).toInt := (congrArg Int32.toInt (show σ173 55 9 = (σ 55 9) from ((f176 9 (by decide)).trans (congrFun (f57 55 (by decide)) 9))))
              have z253 : (σ173 55 42).toInt = (σ 55 42).toInt := (congrArg Int32.toInt (show σ173 55 42 = (σ 55 42) from ((f176 42 (by decide)).trans (congrFun (f57 55 (by decide)) 42))))
              have z254 : (σ173 26 6).toInt = (σ 26 6).toInt := (congrArg Int32.toInt (show σ173 26 6 = (σ 26 6) from ((congrFun (f175 26 (by decide)) 6).trans (congrFun (f57 26 (by decide)) 6))))
              have z256 : (σ173 18 0).toInt = (σ 18 0).toInt := (congrArg Int32.toInt (show σ173 18 0 = (σ 18 0) from ((congrFun (f175 18 (by decide)) 0).trans (congrFun (f57 18 (by decide)) 0))))
              have z257 : (σ173 22 0).toInt = (σ 22 0).toInt := (congrArg Int32.toInt (show σ173 22 0 = (σ 22 0) from ((congrFun (f175 22 (by decide)) 0).trans (congrFun (f57 22 (by decide)) 0))))
              exact by exact ih x195 σ173 τ _ _ ls (by have h9 := tx195; omega) ⟨I196, I197, I198, I199, I200, I201, I202, I203, I204, I205, I206, I207, I208, I209, I210, I211, I212, I213, I177, I214, I215, I216, I217, I218, p219, p220, p221, p222, p223, p224, p225, p226, p227, p228, p229, (by rw [z230, z231]; exact ht0), (by rw [z232, z233]; exact ht1), (by rw [z232, z234, z235]; exact ht2), (by rw [z236, z237]; exact ht3), (by rw [z238, z239]; exact ht4), (by rw [z240, z241]; exact ht5), (by rw [z242, z243]; exact ht6), (by omega), (by rw [z245, z246]; exact ht8), (by rw [z247, z248]; exact ht9), (by rw [z249]; exact ht10), (by rw [z250]; exact ht11), (by rw [z251, z252]; exact ht12), (by rw [z253]; exact ht13), (by have h9 := tx195; omega), (by have h9 := tx195; omega), (show jNumP (σ173 3) (σ173 56) (σ173 6) (σ173 57) (σ173 7) (σ173 58) (σ173 8) (σ173 59) (σ173 55 6).toInt (σ173 55 4).toInt by rw [show σ173 3 = σ 3 from ((f175 3 (by decide)).trans (f57 3 (by decide))), show σ173 56 = σ 56 from ((f175 56 (by decide)).trans (f57 56 (by decide))), show σ173 6 = σ 6 from ((f175 6 (by decide)).trans (f57 6 (by decide))), show σ173 57 = σ 57 from ((f175 57 (by decide)).trans (f57 57 (by decide))), show σ173 7 = σ 7 from ((f175 7 (by decide)).trans (f57 7 (by decide))), show σ173 58 = σ 58 from ((f175 58 (by decide)).trans (f57 58 (by decide))), show σ173 8 = σ 8 from ((f175 8 (by decide)).trans (f57 8 (by decide))), show σ173 59 = σ 59 from ((f175 59 (by decide)).trans (f57 59 (by decide))), show (σ173 55 6).toInt = (σ 55 6).toInt from z231, show (σ173 55 4).toInt = (σ 55 4).toInt from z235]; exact hr0), (show jOvP (σ173 56) (σ173 57) (σ173 58) (σ173 59) (σ173 55 4).toInt by rw [show σ173 56 = σ 56 from ((f175 56 (by decide)).trans (f57 56 (by decide))), show σ173 57 = σ 57 from ((f175 57 (by decide)).trans (f57 57 (by decide))), show σ173 58 = σ 58 from ((f175 58 (by decide)).trans (f57 58 (by decide))), show σ173 59 = σ 59 from ((f175 59 (by decide)).trans (f57 59 (by decide))), show (σ173 55 4).toInt = (σ 55 4).toInt from z235]; exact hr1), (show jTp (σ173 10) (σ173 63) (σ173 55 15).toInt by rw [show σ173 10 = σ 10 from ((f175 10 (by decide)).trans (f57 10 (by decide))), show σ173 63 = σ 63 from ((f175 63 (by decide)).trans (f57 63 (by decide)))]; exact hr2.le (by omega)), (show jSo (σ173 17) (σ173 62) (σ173 16 0).toInt by rw [show σ173 17 = σ 17 from ((f175 17 (by decide)).trans (f57 17 (by decide))), show σ173 62 = σ 62 from ((f175 62 (by decide)).trans (f57 62 (by decide))), show (σ173 16 0).toInt = (σ 16 0).toInt from z238]; exact hr3), (show jShP (σ173 51) (σ173 52) (σ173 53) (σ173 86) (σ173 87) (σ173 55 32).toInt by rw [show σ173 51 = σ 51 from ((f175 51 (by decide)).trans (f57 51 (by decide))), show σ173 52 = σ 52 from ((f175 52 (by decide)).trans (f57 52 (by decide))), show σ173 53 = σ 53 from ((f175 53 (by decide)).trans (f57 53 (by decide))), show σ173 86 = σ 86 from ((f175 86 (by decide)).trans (f57 86 (by decide))), show σ173 87 = σ 87 from ((f175 87 (by decide)).trans (f57 87 (by decide)))]; exact (hr4.up (by omega) (by omega))), (show jEl (σ173 51) (σ173 52) (τ 54) (τ 88) by rw [show σ173 51 = σ 51 from ((f175 51 (by decide)).trans (f57 51 (by decide))), show σ173 52 = σ 52 from ((f175 52 (by decide)).trans (f57 52 (by decide)))]; exact hr5), (show jByP (σ173 51) (σ173 52) (τ 54) by rw [show σ173 51 = σ 51 from ((f175 51 (by decide)).trans (f57 51 (by decide))), show σ173 52 = σ 52 from ((f175 52 (by decide)).trans (f57 52 (by decide)))]; exact hr6), (show jBk (σ173 48) (σ173 80) (σ173 49) (σ173 81) (σ173 55 47).toInt by rw [show σ173 48 = σ 48 from ((f175 48 (by decide)).trans (f57 48 (by decide))), show σ173 49 = σ 49 from ((f175 49 (by decide)).trans (f57 49 (by decide))), show σ173 80 = σ 80 from ((f175 80 (by decide)).trans (f57 80 (by decide))), show σ173 81 = σ 81 from ((f175 81 (by decide)).trans (f57 81 (by decide))), show (σ173 55 47).toInt = (σ 55 47).toInt from z248]; exact hr7), (show jKd (σ173 39) (σ173 70) (σ173 55 32).toInt by rw [show σ173 39 = σ 39 from ((f175 39 (by decide)).trans k169.1), show σ173 70 = σ 70 from (k193.1.trans (f57 70 (by decide))), show (σ173 55 32).toInt = (σ 55 32).toInt from by omega]; exact hr8), (show jTt (σ173 42) (σ173 85) (σ173 55 55).toInt by rw [show σ173 42 = σ 42 from ((f175 42 (by decide)).trans (f57 42 (by decide))), show σ173 85 = σ 85 from ((f175 85 (by decide)).trans (f57 85 (by decide))), show (σ173 55 55).toInt = (σ 55 55).toInt from z246]; exact hr9), (fun k hk => by rw [show σ173 4 = σ 4 from ((f175 4 (by decide)).trans (f57 4 (by decide))), show σ173 5 = σ 5 from ((f175 5 (by decide)).trans (f57 5 (by decide))), show σ173 60 = σ 60 from ((f175 60 (by decide)).trans (f57 60 (by decide))), show σ173 61 = σ 61 from ((f175 61 (by decide)).trans (f57 61 (by decide)))]; exact hr10 k (by omega)), (fun nm => by rw [show σ173 19 = σ 19 from ((f175 19 (by decide)).trans (f57 19 (by decide))), show σ173 64 = σ 64 from ((f175 64 (by decide)).trans (f57 64 (by decide))), show σ173 65 = σ 65 from ((f175 65 (by decide)).trans (f57 65 (by decide))), show (σ173 18 0).toInt = (σ 18 0).toInt from z256]; exact hr11 nm), (fun nm => by rw [show σ173 23 = σ 23 from ((f175 23 (by decide)).trans (f57 23 (by decide))), show σ173 64 = σ 64 from ((f175 64 (by decide)).trans (f57 64 (by decide))), show σ173 65 = σ 65 from ((f175 65 (by decide)).trans (f57 65 (by decide))), show (σ173 22 0).toInt = (σ 22 0).toInt from z257]; exact hr12 nm), (show jAlP (σ173 56) (σ173 57) (σ173 58) (σ173 59) (σ173 55 4).toInt by rw [show σ173 56 = σ 56 from ((f175 56 (by decide)).trans (f57 56 (by decide))), show σ173 57 = σ 57 from ((f175 57 (by decide)).trans (f57 57 (by decide))), show σ173 58 = σ 58 from ((f175 58 (by decide)).trans (f57 58 (by decide))), show σ173 59 = σ 59 from ((f175 59 (by decide)).trans (f57 59 (by decide))), show (σ173 55 4).toInt = (σ 55 4).toInt from z235]; exact hr13), (show jqbN (σ173 80) (σ173 55 47).toInt by rw [show σ173 80 = σ 80 from ((f175 80 (by decide)).trans (f57 80 (by decide))), show (σ173 55 47).toInt = (σ 55 47).toInt from z248]; exact hr14)⟩ hP hS (lv_sub hl [0, 1, 2, 3] rfl)
          · obtain ⟨q264, k258, k259, k260, k261, k262, k263⟩ := h185
            exact absurd (by omega : False) id
     · obtain ⟨q271, k265, k266, k267, k268, k269, k270⟩ := h67
       refine lv_pop hx hb dL_law_502 rfl ?_
       refine lv_aload_n hx hb dL_law_503 rfl (lv_at hl 1 rfl) ?_
       refine lv_aload_n hx hb dL_law_504 rfl (lv_at hl 3 rfl) ?_
       refine lv_iload_n hx hb dL_law_505 rfl (lv_at hl 0 rfl) ?_
       refine lv_iconst (v := 1) hx hb dL_law_506 (by decide) ?_
       refine lv_iadd hx hb dL_law_507 ?_
       refine jtopr ex49.symm ?_
       exact by
        refine va_sld hx hb hX hbl hbA hS (jin tx49 (by omega) (by omega)) dL_law_508 ?_
        refine lv_aload_n hx hb dL_law_509 rfl (lv_at hl 3 rfl) ?_
        refine lv_iload_n hx hb dL_law_510 rfl (lv_at hl 0 rfl) ?_
        refine lv_iconst (v := 2) hx hb dL_law_511 (by decide) ?_
        refine lv_iadd hx hb dL_law_512 ?_
        refine jtopr ex51.symm ?_
        refine va_sld hx hb hX hbl hbA hS (jin tx51 (by omega) (by omega)) dL_law_513 ?_
        refine lv_aload_n hx hb dL_law_514 rfl (lv_at hl 3 rfl) ?_
        refine lv_iload_n hx hb dL_law_515 rfl (lv_at hl 0 rfl) ?_
        exact by
         refine lv_iconst (v := 3) hx hb dL_law_516 (by decide) ?_
         refine lv_iadd hx hb dL_law_517 ?_
         refine jtopr ex53.symm ?_
         refine va_sld hx hb hX hbl hbA hS (jin tx53 (by omega) (by omega)) dL_law_518 ?_
         have I272 : jI106 σ55 := jI106_fr (congrFun (f57 55 (by decide)) 32) (f57 70 (by decide)) (f57 71 (by decide)) (f57 72 (by decide)) hI106
         have z273 : (σ55 55 32).toInt = (σ 55 32).toInt := (congrArg Int32.toInt (show σ55 55 32 = (σ 55 32) from (congrFun (f57 55 (by decide)) 32)))
         refine jcallV (As := [.int (xs x49.toNatClampNeg), .int (xs x51.toNatClampNeg), .int (xs x53.toNatClampNeg)]) (rest := []) ⟨hx, hb, hml, hown, hts⟩ hK hP hA hS hZ (c_X12_rule l D cI cL ad zz hJ σ55 τ (xs x49.toNatClampNeg) ((xs x49.toNatClampNeg).toInt) rfl (xs x51.toNatClampNeg) ((xs x51.toNatClampNeg).toInt) rfl (xs x53.toNatClampNeg) ((xs x53.toNatClampNeg).toInt) rfl I272) cw_RL_56 (jc_55 cI cL ad σ55 τ) rfl ⟨Nat.le_of_ble_eq_true rfl, Nat.le_of_ble_eq_true rfl⟩ rfl rfl rfl hl.1 rfl (Nat.le_of_ble_eq_true rfl) dL_law_519 ⟨Nat.le_of_ble_eq_true rfl, Nat.le_of_ble_eq_true rfl⟩ (fun r275 σ274 τ274 H locs h274 hP hS => ?_)
         obtain ⟨rfl, f276, f277, I278, h274⟩ := h274
         obtain ⟨i280, w281, w282, w283⟩ : (0 ≤ (σ274 55 32).toInt ∧ (σ274 55 32).toInt ≤ 20) ∧ (∀ k : Nat, k < 20 → 0 ≤ (σ274 70 k).toInt ∧ (σ274 70 k).toInt ≤ 6) ∧ (∀ k : Nat, k < 20 → 0 ≤ (σ274 71 k).toInt ∧ (σ274 71 k).toInt ≤ 8) ∧ (∀ k : Nat, k < 160 → 0 ≤ (σ274 72 k).toInt ∧ (σ274 72 k).toInt ≤ 3) := id I278
         exact by
          rcases h274 with h284 | h285 | h286
          · obtain ⟨q290, k287, k288, k289⟩ := h284
            have q290 := q290.symm
            subst q290
            exact absurd k268 k288
          · obtain ⟨q295, k291, k292, k293, k294⟩ := h285
            exact absurd (by omega : False) id
          · obtain ⟨q302, k296, k297, k298, k299, k300, k301⟩ := h286
            refine lv_pop hx hb dL_law_522 rfl ?_
            refine lv_goto (tgt := 1357) hx hb dL_law_523 (by decide) ?_
            obtain ⟨x303, ex303⟩ : ∃ y : Int32, y = x0 + 6 := ⟨_, rfl⟩
            exact by
             have tx303 : x303.toInt = x0.toInt + 6 := (jadd ex303 rfl jz_6 (by omega) (by omega)).trans (by omega)
             refine lv_iinc (v := x303) (lv' := [(3, .int x303), (2, .ref (ad 55)), (1, .ref (ad 0)), (0, .ref b)]) hx hb dL_law_1357 hl (k := 0) rfl (by rw [ex303]; rfl) (by decide) rfl (fun ls hl => ?_)
             refine lv_goto (tgt := 18) hx hb dL_law_1360 (by decide) ?_
             have I304 : jI2 σ274 := jI2_fr ((congrFun (f276 2 (by decide)) 0).trans (congrFun (f57 2 (by decide)) 0)) ((congrFun (f276 2 (by decide)) 1).trans (congrFun (f57 2 (by decide)) 1)) ((congrFun (f276 2 (by decide)) 2).trans (congrFun (f57 2 (by decide)) 2)) ((congrFun (f276 2 (by decide)) 3).trans (congrFun (f57 2 (by decide)) 3)) ((f276 6 (by decide)).trans (f57 6 (by decide))) ((f276 5 (by decide)).trans (f57 5 (by decide))) hI2
             have I305 : jI9 σ274 := jI9_fr ((congrFun (f276 9 (by decide)) 0).trans (congrFun (f57 9 (by decide)) 0)) ((f276 10 (by decide)).trans (f57 10 (by decide))) ((f276 11 (by decide)).trans (f57 11 (by decide))) hI9
             have I306 : jI12 σ274 := jI12_fr ((congrFun (f276 12 (by decide)) 0).trans (congrFun (f57 12 (by decide)) 0)) ((f276 13 (by decide)).trans (f57 13 (by decide))) hI12
             have I307 : jI16 σ274 := jI16_fr ((congrFun (f276 16 (by decide)) 0).trans (congrFun (f57 16 (by decide)) 0)) ((congrFun (f276 16 (by decide)) 1).trans (congrFun (f57 16 (by decide)) 1)) ((congrFun (f276 16 (by decide)) 2).trans (congrFun (f57 16 (by decide)) 2)) ((f276 17 (by decide)).trans (f57 17 (by decide))) hI16
             have I308 : jI18 σ274 := jI18_fr ((congrFun (f276 18 (by decide)) 0).trans (congrFun (f57 18 (by decide)) 0)) ((f276 19 (by decide)).trans (f57 19 (by decide))) hI18
             have I309 : jI22 σ274 := jI22_fr ((congrFun (f276 22 (by decide)) 0).trans (congrFun (f57 22 (by decide)) 0)) ((f276 23 (by decide)).trans (f57 23 (by decide))) hI22
             exact by
              have I310 : jI31 σ274 := jI31_fr ((congrFun (f276 31 (by decide)) 8).trans (congrFun (f57 31 (by decide)) 8)) ((congrFun (f276 31 (by decide)) 10).trans (congrFun (f57 31 (by decide)) 10)) ((congrFun (f276 31 (by decide)) 11).trans (congrFun (f57 31 (by decide)) 11)) ((f276 33 (by decide)).trans (f57 33 (by decide))) ((f276 35 (by decide)).trans (f57 35 (by decide))) ((f276 36 (by decide)).trans (f57 36 (by decide))) hI31
              have I311 : jI38 σ274 := jI38_fr (congrFun (f276 38 (by decide)) 0) (congrFun (f276 38 (by decide)) 1) (f276 39 (by decide)) I59
              have I312 : jI43 σ274 := jI43_fr ((congrFun (f276 43 (by decide)) 8).trans (congrFun (f57 43 (by decide)) 8)) hI43
              have I313 : jI47 σ274 := jI47_fr ((congrFun (f276 47 (by decide)) 0).trans (congrFun (f57 47 (by decide)) 0)) ((f276 48 (by decide)).trans (f57 48 (by decide))) ((f276 49 (by decide)).trans (f57 49 (by decide))) hI47
              have I314 : jI50 σ274 := jI50_fr ((f276 52 (by decide)).trans (f57 52 (by decide))) hI50
              have I315 : jI0 σ274 := jI0_fr ((f276 1 (by decide)).trans (f57 1 (by decide))) hI0
              have I316 : jI26 σ274 := jI26_fr ((congrFun (f276 26 (by decide)) 6).trans (congrFun (f57 26 (by decide)) 6)) hI26
              have I317 : jI101 σ274 := jI101_fr ((f277 4 (by decide)).trans (congrFun (f57 55 (by decide)) 4)) ((f277 5 (by decide)).trans (congrFun (f57 55 (by decide)) 5)) ((f276 56 (by decide)).trans (f57 56 (by decide))) ((f276 57 (by decide)).trans (f57 57 (by decide))) ((f276 58 (by decide)).trans (f57 58 (by decide))) ((f276 59 (by decide)).trans (f57 59 (by decide))) hI101
              have I318 : jI102 σ274 := jI102_fr ((f277 6 (by decide)).trans (congrFun (f57 55 (by decide)) 6)) ((f276 60 (by decide)).trans (f57 60 (by decide))) ((f276 61 (by decide)).trans (f57 61 (by decide))) hI102
              have I319 : jI103 σ274 := jI103_fr ((f277 9 (by decide)).trans (congrFun (f57 55 (by decide)) 9)) hI103
              have I320 : jI104 σ274 := jI104_fr ((f277 10 (by decide)).trans (congrFun (f57 55 (by decide)) 10)) ((f277 12 (by decide)).trans (congrFun (f57 55 (by decide)) 12)) ((f277 13 (by decide)).trans (congrFun (f57 55 (by decide)) 13)) ((f276 62 (by decide)).trans (f57 62 (by decide))) ((f276 67 (by decide)).trans (f57 67 (by decide))) hI104
              have I321 : jI105 σ274 := jI105_fr ((f277 15 (by decide)).trans (congrFun (f57 55 (by decide)) 15)) ((f276 65 (by decide)).trans (f57 65 (by decide))) hI105
              have I322 : jI107 σ274 := jI107_fr ((f277 12 (by decide)).trans (congrFun (f57 55 (by decide)) 12)) ((f277 47 (by decide)).trans (congrFun (f57 55 (by decide)) 47)) ((f276 80 (by decide)).trans (f57 80 (by decide))) hI107
              have I323 : jI109 σ274 := jI109_fr ((f277 50 (by decide)).trans (congrFun (f57 55 (by decide)) 50)) hI109
              have I324 : jI110 σ274 := jI110_fr ((f276 86 (by decide)).trans (f57 86 (by decide))) ((f276 87 (by decide)).trans (f57 87 (by decide))) hI110
              have I325 : jI111 σ274 := jI111_fr ((f276 79 (by decide)).trans (f57 79 (by decide))) hI111
              have I326 : jI119 σ274 := jI119_fr ((f276 68 (by decide)).trans (f57 68 (by decide))) hI119
              have p327 : jKept σ274 := jKept.fr ((f276 75 (by decide)).trans (f57 75 (by decide))) ((f276 76 (by decide)).trans (f57 76 (by decide))) ((f276 77 (by decide)).trans (f57 77 (by decide))) hs_jKept
              have p328 : jBook σ274 := jBook.fr ((f277 47 (by decide)).trans (congrFun (f57 55 (by decide)) 47)) ((f277 10 (by decide)).trans (congrFun (f57 55 (by decide)) 10)) ((f276 81 (by decide)).trans (f57 81 (by decide))) hs_jBook
              have p329 : jNd12 σ274 := jNd12.fr ((congrFun (f276 12 (by decide)) 0).trans (congrFun (f57 12 (by decide)) 0)) ((congrFun (f276 12 (by decide)) 1).trans (congrFun (f57 12 (by decide)) 1)) ((f276 13 (by decide)).trans (f57 13 (by decide))) hs_jNd12
              have p330 : jN67 σ274 := jN67.fr ((f276 24 (by decide)).trans (f57 24 (by decide))) hs_jN67
              have p331 : jBl σ274 := jBl.fr ((congrFun (f276 22 (by decide)) 0).trans (congrFun (f57 22 (by decide)) 0)) ((congrFun (f276 22 (by decide)) 1).trans (congrFun (f57 22 (by decide)) 1)) ((f276 23 (by decide)).trans (f57 23 (by decide))) ((congrFun (f276 26 (by decide)) 6).trans (congrFun (f57 26 (by decide)) 6)) ((congrFun (f276 26 (by decide)) 7).trans (congrFun (f57 26 (by decide)) 7)) ((f276 29 (by decide)).trans (f57 29 (by decide))) ((f276 30 (by decide)).trans (f57 30 (by decide))) hs_jBl
              have p332 : jKb σ274 := jKb.fr ((congrFun (f276 31 (by decide)) 8).trans (congrFun (f57 31 (by decide)) 8)) ((congrFun (f276 31 (by decide)) 11).trans (congrFun (f57 31 (by decide)) 11)) ((f276 32 (by decide)).trans (f57 32 (by decide))) hs_jKb
              have p333 : jTR σ274 := jTR.fr ((f276 64 (by decide)).trans (f57 64 (by decide))) ((f276 65 (by decide)).trans (f57 65 (by decide))) hs_jTR
              have p334 : jKh σ274 := jKh.fr ((congrFun (f276 31 (by decide)) 8).trans (congrFun (f57 31 (by decide)) 8)) ((f276 32 (by decide)).trans (f57 32 (by decide))) ((f276 36 (by decide)).trans (f57 36 (by decide))) ((f276 37 (by decide)).trans (f57 37 (by decide))) hs_jKh
              have p335 : jKg σ274 := jKg.fr ((congrFun (f276 31 (by decide)) 8).trans (congrFun (f57 31 (by decide)) 8)) ((congrFun (f276 31 (by decide)) 9).trans (congrFun (f57 31 (by decide)) 9)) ((congrFun (f276 31 (by decide)) 11).trans (congrFun (f57 31 (by decide)) 11)) ((congrFun (f276 31 (by decide)) 12).trans (congrFun (f57 31 (by decide)) 12)) ((f276 32 (by decide)).trans (f57 32 (by decide))) ((f276 33 (by decide)).trans (f57 33 (by decide))) hs_jKg
              have p336 : jNz σ274 := jNz.fr ((f276 34 (by decide)).trans (f57 34 (by decide))) hs_jNz
              have p337 : jqSt σ274 := jqSt.fr ((f276 78 (by decide)).trans (f57 78 (by decide))) ((f277 42 (by decide)).trans (congrFun (f57 55 (by decide)) 42)) hs_jqSt
              have z338 : (σ274 2 0).toInt = (σ 2 0).toInt := (congrArg Int32.toInt (show σ274 2 0 = (σ 2 0) from ((congrFun (f276 2 (by decide)) 0).trans (congrFun (f57 2 (by decide)) 0))))
              have z339 : (σ274 55 6).toInt = (σ 55 6).toInt := (congrArg Int32.toInt (show σ274 55 6 = (σ 55 6) from ((f277 6 (by decide)).trans (congrFun (f57 55 (by decide)) 6))))
              have z340 : (σ274 2 2).toInt = (σ 2 2).toInt := (congrArg Int32.toInt (show σ274 2 2 = (σ 2 2) from ((congrFun (f276 2 (by decide)) 2).trans (congrFun (f57 2 (by decide)) 2))))
              have z341 : (σ274 55 5).toInt = (σ 55 5).toInt := (congrArg Int32.toInt (show σ274 55 5 = (σ 55 5) from ((f277 5 (by decide)).trans (congrFun (f57 55 (by decide)) 5))))
              have z342 : (σ274 2 3).toInt = (σ 2 3).toInt := (congrArg Int32.toInt (show σ274 2 3 = (σ 2 3) from ((congrFun (f276 2 (by decide)) 3).trans (congrFun (f57 2 (by decide)) 3))))
              have z343 : (σ274 55 4).toInt = (σ 55 4).toInt := (congrArg Int32.toInt (show σ274 55 4 = (σ 55 4) from ((f277 4 (by decide)).trans (congrFun (f57 55 (by decide)) 4))))
              have z344 : (σ274 9 0).toInt = (σ 9 0).toInt := (congrArg Int32.toInt (show σ274 9 0 = (σ 9 0) from ((congrFun (f276 9 (by decide)) 0).trans (congrFun (f57 9 (by decide)) 0))))
              have z345 : (σ274 55 15).toInt = (σ 55 15).toInt := (congrArg Int32.toInt (show σ274 55 15 = (σ 55 15) from ((f277 15 (by decide)).trans (congrFun (f57 55 (by decide)) 15))))
              have z346 : (σ274 16 0).toInt = (σ 16 0).toInt := (congrArg Int32.toInt (show σ274 16 0 = (σ 16 0) from ((congrFun (f276 16 (by decide)) 0).trans (congrFun (f57 16 (by decide)) 0))))
              have z347 : (σ274 55 10).toInt = (σ 55 10).toInt := (congrArg Int32.toInt (show σ274 55 10 = (σ 55 10) from ((f277 10 (by decide)).trans (congrFun (f57 55 (by decide)) 10))))
              have z348 : (σ274 16 1).toInt = (σ 16 1).toInt := (congrArg Int32.toInt (show σ274 16 1 = (σ 16 1) from ((congrFun (f276 16 (by decide)) 1).trans (congrFun (f57 16 (by decide)) 1))))
              have z349 : (σ274 55 12).toInt = (σ 55 12).toInt := (congrArg Int32.toInt (show σ274 55 12 = (σ 55 12) from ((f277 12 (by decide)).trans (congrFun (f57 55 (by decide)) 12))))
              have z350 : (σ274 16 2).toInt = (σ 16 2).toInt := (congrArg Int32.toInt (show σ274 16 2 = (σ 16 2) from ((congrFun (f276 16 (by decide)) 2).trans (congrFun (f57 16 (by decide)) 2))))
              have z351 : (σ274 55 13).toInt = (σ 55 13).toInt := (congrArg Int32.toInt (show σ274 55 13 = (σ 55 13) from ((f277 13 (by decide)).trans (congrFun (f57 55 (by decide)) 13))))
              have z352 : (σ274 38 0).toInt = (σ55 38 0).toInt := (congrArg Int32.toInt (show σ274 38 0 = (σ55 38 0) from (congrFun (f276 38 (by decide)) 0)))
              have z353 : (σ274 38 1).toInt = (σ 38 1).toInt := (congrArg Int32.toInt (show σ274 38 1 = (σ 38 1) from ((congrFun (f276 38 (by decide)) 1).trans (f58 1 (by decide)))))
              have z354 : (σ274 55 55).toInt = (σ 55 55).toInt := (congrArg Int32.toInt (show σ274 55 55 = (σ 55 55) from ((f277 55 (by decide)).trans (congrFun (f57 55 (by decide)) 55))))
              have z355 : (σ274 47 0).toInt = (σ 47 0).toInt := (congrArg Int32.toInt (show σ274 47 0 = (σ 47 0) from ((congrFun (f276 47 (by decide)) 0).trans (congrFun (f57 47 (by decide)) 0))))
              have z356 : (σ274 55 47).toInt = (σ 55 47).toInt := (congrArg Int32.toInt (show σ274 55 47 = (σ 55 47) from ((f277 47 (by decide)).trans (congrFun (f57 55 (by decide)) 47))))
              have z357 : (σ274 55 30).toInt = (σ 55 30).toInt := (congrArg Int32.toInt (show σ274 55 30 = (σ 55 30) from ((f277 30 (by decide)).trans (congrFun (f57 55 (by decide)) 30))))
              have z358 : (σ274 55 31).toInt = (σ 55 31).toInt := (congrArg Int32.toInt (show σ274 55 31 = (σ 55 31) from ((f277 31 (by decide)).trans (congrFun (f57 55 (by decide)) 31))))
              have z359 : (σ274 2 1).toInt = (σ 2 1).toInt := (congrArg Int32.toInt (show σ274 2 1 = (σ 2 1) from ((congrFun (f276 2 (by decide)) 1).trans (congrFun (f57 2 (by decide)) 1))))
              have z360 : (σ274 55 9).toInt = (σ 55 9).toInt := (congrArg Int32.toInt (show σ274 55 9 = (σ 55 9) from ((f277 9 (by decide)).trans (congrFun (f57 55 (by decide)) 9))))
              have z361 : (σ274 55 42).toInt = (σ 55 42).toInt := (congrArg Int32.toInt (show σ274 55 42 = (σ 55 42) from ((f277 42 (by decide)).trans (congrFun (f57 55 (by decide)) 42))))
              have z362 : (σ274 26 6).toInt = (σ 26 6).toInt := (congrArg Int32.toInt (show σ274 26 6 = (σ 26 6) from ((congrFun (f276 26 (by decide)) 6).trans (congrFun (f57 26 (by decide)) 6))))
              rw [show (σ 38 0).toInt = (σ 55 32).toInt from by omega] at k269
              rw [show (σ55 55 32).toInt = (σ 55 32).toInt from z273, show σ55 70 = σ 70 from (f57 70 (by decide))] at k300
              exact by
               have p364 : jKd (σ274 39) (σ274 70) (σ274 55 32).toInt := hr8.on (by rw [show σ274 39 = σ55 39 from (f276 39 (by decide))]; exact k269) k300 (by omega) (by omega)
               have z365 : (σ274 18 0).toInt = (σ 18 0).toInt := (congrArg Int32.toInt (show σ274 18 0 = (σ 18 0) from ((congrFun (f276 18 (by decide)) 0).trans (congrFun (f57 18 (by decide)) 0))))
               have z366 : (σ274 22 0).toInt = (σ 22 0).toInt := (congrArg Int32.toInt (show σ274 22 0 = (σ 22 0) from ((congrFun (f276 22 (by decide)) 0).trans (congrFun (f57 22 (by decide)) 0))))
               exact by exact ih x303 σ274 τ _ _ ls (by have h9 := tx303; omega) ⟨I304, I305, I306, I307, I308, I309, I310, I311, I312, I313, I314, I315, I316, I317, I318, I319, I320, I321, I278, I322, I323, I324, I325, I326, p327, p328, p329, p330, p331, p332, p333, p334, p335, p336, p337, (by rw [z338, z339]; exact ht0), (by rw [z340, z341]; exact ht1), (by rw [z340, z342, z343]; exact ht2), (by rw [z344, z345]; exact ht3), (by rw [z346, z347]; exact ht4), (by rw [z348, z349]; exact ht5), (by rw [z350, z351]; exact ht6), (by omega), (by rw [z353, z354]; exact ht8), (by rw [z355, z356]; exact ht9), (by rw [z357]; exact ht10), (by rw [z358]; exact ht11), (by rw [z359, z360]; exact ht12), (by rw [z361]; exact ht13), (by have h9 := tx303; omega), (by have h9 := tx303; omega), (show jNumP (σ274 3) (σ274 56) (σ274 6) (σ274 57) (σ274 7) (σ274 58) (σ274 8) (σ274 59) (σ274 55 6).toInt (σ274 55 4).toInt by rw [show σ274 3 = σ 3 from ((f276 3 (by decide)).trans (f57 3 (by decide))), show σ274 56 = σ 56 from ((f276 56 (by decide)).trans (f57 56 (by decide))), show σ274 6 = σ 6 from ((f276 6 (by decide)).trans (f57 6 (by decide))), show σ274 57 = σ 57 from ((f276 57 (by decide)).trans (f57 57 (by decide))), show σ274 7 = σ 7 from ((f276 7 (by decide)).trans (f57 7 (by decide))), show σ274 58 = σ 58 from ((f276 58 (by decide)).trans (f57 58 (by decide))), show σ274 8 = σ 8 from ((f276 8 (by decide)).trans (f57 8 (by decide))), show σ274 59 = σ 59 from ((f276 59 (by decide)).trans (f57 59 (by decide))), show (σ274 55 6).toInt = (σ 55 6).toInt from z339, show (σ274 55 4).toInt = (σ 55 4).toInt from z343]; exact hr0), (show jOvP (σ274 56) (σ274 57) (σ274 58) (σ274 59) (σ274 55 4).toInt by rw [show σ274 56 = σ 56 from ((f276 56 (by decide)).trans (f57 56 (by decide))), show σ274 57 = σ 57 from ((f276 57 (by decide)).trans (f57 57 (by decide))), show σ274 58 = σ 58 from ((f276 58 (by decide)).trans (f57 58 (by decide))), show σ274 59 = σ 59 from ((f276 59 (by decide)).trans (f57 59 (by decide))), show (σ274 55 4).toInt = (σ 55 4).toInt from z343]; exact hr1), (show jTp (σ274 10) (σ274 63) (σ274 55 15).toInt by rw [show σ274 10 = σ 10 from ((f276 10 (by decide)).trans (f57 10 (by decide))), show σ274 63 = σ 63 from ((f276 63 (by decide)).trans (f57 63 (by decide)))]; exact hr2.le (by omega)), (show jSo (σ274 17) (σ274 62) (σ274 16 0).toInt by rw [show σ274 17 = σ 17 from ((f276 17 (by decide)).trans (f57 17 (by decide))), show σ274 62 = σ 62 from ((f276 62 (by decide)).trans (f57 62 (by decide))), show (σ274 16 0).toInt = (σ 16 0).toInt from z346]; exact hr3), (show jShP (σ274 51) (σ274 52) (σ274 53) (σ274 86) (σ274 87) (σ274 55 32).toInt by rw [show σ274 51 = σ 51 from ((f276 51 (by decide)).trans (f57 51 (by decide))), show σ274 52 = σ 52 from ((f276 52 (by decide)).trans (f57 52 (by decide))), show σ274 53 = σ 53 from ((f276 53 (by decide)).trans (f57 53 (by decide))), show σ274 86 = σ 86 from ((f276 86 (by decide)).trans (f57 86 (by decide))), show σ274 87 = σ 87 from ((f276 87 (by decide)).trans (f57 87 (by decide)))]; exact (hr4.up (by omega) (by omega))), (show jEl (σ274 51) (σ274 52) (τ 54) (τ 88) by rw [show σ274 51 = σ 51 from ((f276 51 (by decide)).trans (f57 51 (by decide))), show σ274 52 = σ 52 from ((f276 52 (by decide)).trans (f57 52 (by decide)))]; exact hr5), (show jByP (σ274 51) (σ274 52) (τ 54) by rw [show σ274 51 = σ 51 from ((f276 51 (by decide)).trans (f57 51 (by decide))), show σ274 52 = σ 52 from ((f276 52 (by decide)).trans (f57 52 (by decide)))]; exact hr6), (show jBk (σ274 48) (σ274 80) (σ274 49) (σ274 81) (σ274 55 47).toInt by rw [show σ274 48 = σ 48 from ((f276 48 (by decide)).trans (f57 48 (by decide))), show σ274 49 = σ 49 from ((f276 49 (by decide)).trans (f57 49 (by decide))), show σ274 80 = σ 80 from ((f276 80 (by decide)).trans (f57 80 (by decide))), show σ274 81 = σ 81 from ((f276 81 (by decide)).trans (f57 81 (by decide))), show (σ274 55 47).toInt = (σ 55 47).toInt from z356]; exact hr7), p364, (show jTt (σ274 42) (σ274 85) (σ274 55 55).toInt by rw [show σ274 42 = σ 42 from ((f276 42 (by decide)).trans (f57 42 (by decide))), show σ274 85 = σ 85 from ((f276 85 (by decide)).trans (f57 85 (by decide))), show (σ274 55 55).toInt = (σ 55 55).toInt from z354]; exact hr9), (fun k hk => by rw [show σ274 4 = σ 4 from ((f276 4 (by decide)).trans (f57 4 (by decide))), show σ274 5 = σ 5 from ((f276 5 (by decide)).trans (f57 5 (by decide))), show σ274 60 = σ 60 from ((f276 60 (by decide)).trans (f57 60 (by decide))), show σ274 61 = σ 61 from ((f276 61 (by decide)).trans (f57 61 (by decide)))]; exact hr10 k (by omega)), (fun nm => by rw [show σ274 19 = σ 19 from ((f276 19 (by decide)).trans (f57 19 (by decide))), show σ274 64 = σ 64 from ((f276 64 (by decide)).trans (f57 64 (by decide))), show σ274 65 = σ 65 from ((f276 65 (by decide)).trans (f57 65 (by decide))), show (σ274 18 0).toInt = (σ 18 0).toInt from z365]; exact hr11 nm), (fun nm => by rw [show σ274 23 = σ 23 from ((f276 23 (by decide)).trans (f57 23 (by decide))), show σ274 64 = σ 64 from ((f276 64 (by decide)).trans (f57 64 (by decide))), show σ274 65 = σ 65 from ((f276 65 (by decide)).trans (f57 65 (by decide))), show (σ274 22 0).toInt = (σ 22 0).toInt from z366]; exact hr12 nm), (show jAlP (σ274 56) (σ274 57) (σ274 58) (σ274 59) (σ274 55 4).toInt by rw [show σ274 56 = σ 56 from ((f276 56 (by decide)).trans (f57 56 (by decide))), show σ274 57 = σ 57 from ((f276 57 (by decide)).trans (f57 57 (by decide))), show σ274 58 = σ 58 from ((f276 58 (by decide)).trans (f57 58 (by decide))), show σ274 59 = σ 59 from ((f276 59 (by decide)).trans (f57 59 (by decide))), show (σ274 55 4).toInt = (σ 55 4).toInt from z343]; exact hr13), (show jqbN (σ274 80) (σ274 55 47).toInt by rw [show σ274 80 = σ 80 from ((f276 80 (by decide)).trans (f57 80 (by decide))), show (σ274 55 47).toInt = (σ 55 47).toInt from z356]; exact hr14)⟩ hP hS (lv_sub hl [0, 1, 2, 3] rfl)
set_option maxHeartbeats 4000000 in
set_option maxRecDepth 100000 in
theorem law_case_10 {p : Program} {e : Env} {s : State} {m : MethodId} {below : List Frame} {meth : Method} {c : Code} (l : Launch) {b L : Nat} {xs : Nat → Int32} {D : va_G} {cI cL : ClassId} {ad zz : Nat → Nat} (C0 : lw_At p s m meth c b L xs) (hJ : jD ad) (hA : ∀ q, jA ad q → s.heap.size ≤ q) (hK : jK D cI cL s) (hZ : jZ zz (fun q : Nat => s.heap.size ≤ q) s s.heap) {x0 : Int32} (hx0 : 0 ≤ x0.toInt) (hxL : x0.toInt + 6 ≤ (L : Int)) (hL : L ≤ 384) {σ : Nat → Nat → Int32} {τ : Nat → Nat → Int64} {H : Heap} {locs : List Loc} (hS : va_S (fun q : Nat => s.heap.size ≤ q) s.heap H locs) {ls : Array Slot} (hAll : jAll x0.toInt σ τ) (hP : jH D cI cL ad σ τ H) (hl : lv_has ls 4 [(3, .int x0), (2, .ref (ad 55)), (1, .ref (ad 0)), (0, .ref b)]) (ih : ∀ (x1 : Int32) (σ : Nat → Nat → Int32) (τ : Nat → Nat → Int64) (H : Heap) (locs : List Loc) (ls : Array Slot), x1.toInt = x0.toInt + 6 → jAll x1.toInt σ τ → jH D cI cL ad σ τ H → va_S (fun q : Nat => s.heap.size ≤ q) s.heap H locs → lv_has ls 4 [(3, .int x1), (2, .ref (ad 55)), (1, .ref (ad 0)), (0, .ref b)] → W p l e room_1 s m #[Value.ref b] below meth c H locs 90 348600 (lw_Z below #[Value.ref b] s) (F0 m 18 ls [])) : W p l e room_1 s m #[Value.ref b] below meth c H locs 90 348600 (lw_Z below #[Value.ref b] s) (F0 m 526 ls []) := by
  obtain ⟨hx, hb, hr, hml, hown, hts0, hX, hbl, hlocks, hgv⟩ := C0
  have hts : ∀ w ∈ wsL_law, w.before #[Value.ref b] s = true := fun w h => hts0 w (wsL_law_in w h)
  have hbA : ¬ (fun q : Nat => s.heap.size ≤ q) b := Nat.not_le.mpr hbl
  have hown : s.vm.findClass RL = some m.cls := hown
  obtain ⟨hI2, hI9, hI12, hI16, hI18, hI22, hI31, hI38, hI43, hI47, hI50, hI0, hI26, hI101, hI102, hI103, hI104, hI105, hI106, hI107, hI109, hI110, hI111, hI119, hs_jKept, hs_jBook, hs_jNd12, hs_jN67, hs_jBl, hs_jKb, hs_jTR, hs_jKh, hs_jKg, hs_jNz, hs_jqSt, ht0, ht1, ht2, ht3, ht4, ht5, ht6, ht7, ht8, ht9, ht10, ht11, ht12, ht13, ht14, ht15, hr0, hr1, hr2, hr3, hr4, hr5, hr6, hr7, hr8, hr9, hr10, hr11, hr12, hr13, hr14⟩ := hAll
  have hL9 : (L : Int) ≤ 384 := by omega
  obtain ⟨i1, i2, i3, i4, i5, w6, w7⟩ : (0 ≤ (σ 2 0).toInt ∧ (σ 2 0).toInt ≤ 4) ∧ (0 ≤ (σ 2 1).toInt ∧ (σ 2 1).toInt ≤ 3) ∧ (0 ≤ (σ 2 2).toInt) ∧ (0 ≤ (σ 2 3).toInt) ∧ ((σ 2 2).toInt + (σ 2 3).toInt ≤ 40) ∧ (∀ k : Nat, k < 40 → 0 ≤ (σ 6 k).toInt ∧ (σ 6 k).toInt ≤ 67) ∧ (∀ k : Nat, k < 4 → 0 ≤ (σ 5 k).toInt ∧ (σ 5 k).toInt ≤ 20) := id hI2
  obtain ⟨i8, w9, w10⟩ : (0 ≤ (σ 9 0).toInt ∧ (σ 9 0).toInt ≤ 80) ∧ (∀ k : Nat, k < 80 → 0 ≤ (σ 10 k).toInt ∧ (σ 10 k).toInt ≤ 255) ∧ (∀ k : Nat, k < 8 → 0 ≤ (σ 11 k).toInt ∧ (σ 11 k).toInt ≤ 3) := id hI9
  obtain ⟨i11, i12, i13, w14⟩ : (1 ≤ (σ 16 0).toInt ∧ (σ 16 0).toInt ≤ 8) ∧ (1 ≤ (σ 16 1).toInt ∧ (σ 16 1).toInt ≤ 12) ∧ (0 ≤ (σ 16 2).toInt ∧ (σ 16 2).toInt ≤ 999) ∧ (∀ k : Nat, k < 8 → 0 ≤ (σ 17 k).toInt ∧ (σ 17 k).toInt ≤ 3) := id hI16
  obtain ⟨i15, i16, w17⟩ : (0 ≤ (σ 38 0).toInt ∧ (σ 38 0).toInt ≤ 20) ∧ (0 ≤ (σ 38 1).toInt ∧ (σ 38 1).toInt ≤ 1000) ∧ (∀ k : Nat, k < 20 → 0 ≤ (σ 39 k).toInt ∧ (σ 39 k).toInt ≤ 6) := id hI38
  obtain ⟨i18, w19, w20⟩ : (0 ≤ (σ 47 0).toInt ∧ (σ 47 0).toInt ≤ 12) ∧ (∀ k : Nat, k < 12 → 0 ≤ (σ 48 k).toInt ∧ (σ 48 k).toInt ≤ 3) ∧ (∀ k : Nat, k < 12 → 0 ≤ (σ 49 k).toInt ∧ (σ 49 k).toInt ≤ 1) := id hI47
  have w21 : ∀ k : Nat, k < 6 → 0 ≤ (σ 52 k).toInt ∧ (σ 52 k).toInt ≤ 60 := hI50
  have i22 : 1 ≤ (σ 26 6).toInt ∧ (σ 26 6).toInt ≤ 8000 := hI26
  obtain ⟨i23, i24, i25, w26, w27, w28, w29⟩ : (0 ≤ (σ 55 5).toInt) ∧ ((σ 55 5).toInt ≤ (σ 55 4).toInt) ∧ ((σ 55 4).toInt ≤ 40) ∧ (∀ k : Nat, k < 68 → (-200) ≤ (σ 56 k).toInt ∧ (σ 56 k).toInt ≤ 500) ∧ (∀ k : Nat, k < 40 → 0 ≤ (σ 57 k).toInt ∧ (σ 57 k).toInt ≤ 67) ∧ (∀ k : Nat, k < 40 → (-200) ≤ (σ 58 k).toInt ∧ (σ 58 k).toInt ≤ 500) ∧ (∀ k : Nat, k < 40 → (-200) ≤ (σ 59 k).toInt ∧ (σ 59 k).toInt ≤ 500) := id hI101
  obtain ⟨i30, w31, w32⟩ : (0 ≤ (σ 55 6).toInt ∧ (σ 55 6).toInt ≤ 4) ∧ (∀ k : Nat, k < 4 → 0 ≤ (σ 60 k).toInt ∧ (σ 60 k).toInt ≤ 50) ∧ (∀ k : Nat, k < 4 → 0 ≤ (σ 61 k).toInt ∧ (σ 61 k).toInt ≤ 20) := id hI102
  have i33 : 0 ≤ (σ 55 9).toInt ∧ (σ 55 9).toInt ≤ 3 := hI103
  obtain ⟨i34, i35, i36, w37, w38⟩ : (1 ≤ (σ 55 10).toInt ∧ (σ 55 10).toInt ≤ 8) ∧ (1 ≤ (σ 55 12).toInt ∧ (σ 55 12).toInt ≤ 12) ∧ (0 ≤ (σ 55 13).toInt ∧ (σ 55 13).toInt ≤ 999) ∧ (∀ k : Nat, k < 8 → 0 ≤ (σ 62 k).toInt ∧ (σ 62 k).toInt ≤ 3) ∧ (∀ k : Nat, k < 8 → 0 ≤ (σ 67 k).toInt ∧ (σ 67 k).toInt ≤ 3) := id hI104
  obtain ⟨i39, w40⟩ : (0 ≤ (σ 55 15).toInt ∧ (σ 55 15).toInt ≤ 80) ∧ (∀ k : Nat, k < 2 → (-1) ≤ (σ 65 k).toInt ∧ (σ 65 k).toInt ≤ 80) := id hI105
  obtain ⟨i41, w42, w43, w44⟩ : (0 ≤ (σ 55 32).toInt ∧ (σ 55 32).toInt ≤ 20) ∧ (∀ k : Nat, k < 20 → 0 ≤ (σ 70 k).toInt ∧ (σ 70 k).toInt ≤ 6) ∧ (∀ k : Nat, k < 20 → 0 ≤ (σ 71 k).toInt ∧ (σ 71 k).toInt ≤ 8) ∧ (∀ k : Nat, k < 160 → 0 ≤ (σ 72 k).toInt ∧ (σ 72 k).toInt ≤ 3) := id hI106
  obtain ⟨i45, i46, w47⟩ : (0 ≤ (σ 55 47).toInt ∧ (σ 55 47).toInt ≤ 12) ∧ ((σ 55 47).toInt ≤ (σ 55 12).toInt) ∧ (∀ k : Nat, k < 12 → 0 ≤ (σ 80 k).toInt ∧ (σ 80 k).toInt ≤ 3) := id hI107
  have hs_jOk3 : jOk3 σ := hr0.ok hr1.1
  refine lv_aload_n hx hb dL_law_526 rfl (lv_at hl 2 rfl) ?_
  refine lv_aload_n hx hb dL_law_527 rfl (lv_at hl 3 rfl) ?_
  refine lv_iload_n hx hb dL_law_528 rfl (lv_at hl 0 rfl) ?_
  refine lv_iconst (v := 1) hx hb dL_law_529 (by decide) ?_
  have g48 := jrg (rfl : x0.toInt = x0.toInt)
  refine lv_iadd hx hb dL_law_530 ?_
  refine lv_topi (fun x49 ex49 => ?_)
  exact by
   have tx49 : x49.toInt = x0.toInt + 1 := (jadd ex49 rfl jz_1 (by omega) (by omega)).trans (by omega)
   refine va_sld hx hb hX hbl hbA hS (jin tx49 (by omega) (by omega)) dL_law_531 ?_
   have g50 := jrg (rfl : (xs x49.toNatClampNeg).toInt = (xs x49.toNatClampNeg).toInt)
   refine jcallV (As := [.int (xs x49.toNatClampNeg)]) (rest := []) ⟨hx, hb, hml, hown, hts⟩ hK hP hA hS hZ (c_X11_puts l D cI cL ad zz hJ σ τ (xs x49.toNatClampNeg) ((xs x49.toNatClampNeg).toInt) rfl hI2 hI16 hI18 hI22 hI31 hI38 hI47 hI26 hs_jN67 hs_jBl hs_jKb hs_jKh hs_jKg hs_jNz hs_jKh) cw_RL_57 (jc_0 cI cL ad σ τ) rfl ⟨Nat.le_of_ble_eq_true rfl, Nat.le_of_ble_eq_true rfl⟩ rfl rfl rfl hl.1 rfl (Nat.le_of_ble_eq_true rfl) dL_law_532 ⟨Nat.le_of_ble_eq_true rfl, Nat.le_of_ble_eq_true rfl⟩ (fun r52 σ51 τ51 H locs h51 hP hS => ?_)
   obtain ⟨rfl, f53, f54, I55, p56, p57, p58, p59, p60, p61, p62, w63, h51⟩ := h51
   refine lv_pop hx hb dL_law_535 rfl ?_
   refine lv_aload_n hx hb dL_law_536 rfl (lv_at hl 1 rfl) ?_
   refine lv_aload_n hx hb dL_law_537 rfl (lv_at hl 3 rfl) ?_
   refine lv_iload_n hx hb dL_law_538 rfl (lv_at hl 0 rfl) ?_
   exact by
    refine lv_iconst (v := 1) hx hb dL_law_539 (by decide) ?_
    refine lv_iadd hx hb dL_law_540 ?_
    refine jtopr ex49.symm ?_
    refine va_sld hx hb hX hbl hbA hS (jin tx49 (by omega) (by omega)) dL_law_541 ?_
    have I65 : jI101 σ51 := jI101_fr (congrFun (f53 55 (by decide)) 4) (congrFun (f53 55 (by decide)) 5) (f53 56 (by decide)) (f53 57 (by decide)) (f53 58 (by decide)) (f53 59 (by decide)) hI101
    have I66 : jI102 σ51 := jI102_fr (congrFun (f53 55 (by decide)) 6) (f53 60 (by decide)) (f53 61 (by decide)) hI102
    have I67 : jI103 σ51 := jI103_fr (congrFun (f53 55 (by decide)) 9) hI103
    have I68 : jI104 σ51 := jI104_fr (congrFun (f53 55 (by decide)) 10) (congrFun (f53 55 (by decide)) 12) (congrFun (f53 55 (by decide)) 13) (f53 62 (by decide)) (f53 67 (by decide)) hI104
    have I69 : jI105 σ51 := jI105_fr (congrFun (f53 55 (by decide)) 15) (f53 65 (by decide)) hI105
    exact by
     have I70 : jI106 σ51 := jI106_fr (congrFun (f53 55 (by decide)) 32) (f53 70 (by decide)) (f53 71 (by decide)) (f53 72 (by decide)) hI106
     have I71 : jI107 σ51 := jI107_fr (congrFun (f53 55 (by decide)) 12) (congrFun (f53 55 (by decide)) 47) (f53 80 (by decide)) hI107
     have I72 : jI119 σ51 := jI119_fr (f53 68 (by decide)) hI119
     have p73 : jKept σ51 := jKept.fr (f53 75 (by decide)) (f53 76 (by decide)) (f53 77 (by decide)) hs_jKept
     have p74 : jBook σ51 := jBook.fr (congrFun (f53 55 (by decide)) 47) (congrFun (f53 55 (by decide)) 10) (f53 81 (by decide)) hs_jBook
     have p75 : jTR σ51 := jTR.fr (f53 64 (by decide)) (f53 65 (by decide)) hs_jTR
     have p76 : jqSt σ51 := jqSt.fr (f53 78 (by decide)) (congrFun (f53 55 (by decide)) 42) hs_jqSt
     have z77 : (σ51 55 42).toInt = (σ 55 42).toInt := (congrArg Int32.toInt (show σ51 55 42 = (σ 55 42) from (congrFun (f53 55 (by decide)) 42)))
     refine jcallV (As := [.int (xs x49.toNatClampNeg)]) (rest := []) ⟨hx, hb, hml, hown, hts⟩ hK hP hA hS hZ (c_X12_puts l D cI cL ad zz hJ σ51 τ (xs x49.toNatClampNeg) ((xs x49.toNatClampNeg).toInt) rfl I65 I66 I67 I68 I69 I70 I71 I72 p73 p74 p75 p76 (by omega)) cw_RL_60 (jc_55 cI cL ad σ51 τ) rfl ⟨Nat.le_of_ble_eq_true rfl, Nat.le_of_ble_eq_true rfl⟩ rfl rfl rfl hl.1 rfl (Nat.le_of_ble_eq_true rfl) dL_law_542 ⟨Nat.le_of_ble_eq_true rfl, Nat.le_of_ble_eq_true rfl⟩ (fun r79 σ78 τ78 H locs h78 hP hS => ?_)
     exact by
      obtain ⟨rfl, f80, f81, I82, p83, p84, p85, p86, w87, h78⟩ := h78
      obtain ⟨k89, k90, h78⟩ := h78
      refine lv_pop hx hb dL_law_545 rfl ?_
      refine lv_goto (tgt := 1357) hx hb dL_law_546 (by decide) ?_
      obtain ⟨x91, ex91⟩ : ∃ y : Int32, y = x0 + 6 := ⟨_, rfl⟩
      have tx91 : x91.toInt = x0.toInt + 6 := (jadd ex91 rfl jz_6 (by omega) (by omega)).trans (by omega)
      refine lv_iinc (v := x91) (lv' := [(3, .int x91), (2, .ref (ad 55)), (1, .ref (ad 0)), (0, .ref b)]) hx hb dL_law_1357 hl (k := 0) rfl (by rw [ex91]; rfl) (by decide) rfl (fun ls hl => ?_)
      refine lv_goto (tgt := 18) hx hb dL_law_1360 (by decide) ?_
      have I92 : jI2 σ78 := jI2_fr ((congrFun (f80 2 (by decide)) 0).trans (congrFun (f53 2 (by decide)) 0)) ((congrFun (f80 2 (by decide)) 1).trans (congrFun (f53 2 (by decide)) 1)) ((congrFun (f80 2 (by decide)) 2).trans (congrFun (f53 2 (by decide)) 2)) ((congrFun (f80 2 (by decide)) 3).trans (congrFun (f53 2 (by decide)) 3)) ((f80 6 (by decide)).trans (f53 6 (by decide))) ((f80 5 (by decide)).trans (f53 5 (by decide))) hI2
      exact by
       have I93 : jI9 σ78 := jI9_fr ((congrFun (f80 9 (by decide)) 0).trans (congrFun (f53 9 (by decide)) 0)) ((f80 10 (by decide)).trans (f53 10 (by decide))) ((f80 11 (by decide)).trans (f53 11 (by decide))) hI9
       have I94 : jI12 σ78 := jI12_fr ((congrFun (f80 12 (by decide)) 0).trans (congrFun (f53 12 (by decide)) 0)) ((f80 13 (by decide)).trans (f53 13 (by decide))) hI12
       have I95 : jI16 σ78 := jI16_fr ((congrFun (f80 16 (by decide)) 0).trans (congrFun (f53 16 (by decide)) 0)) ((congrFun (f80 16 (by decide)) 1).trans (congrFun (f53 16 (by decide)) 1)) ((congrFun (f80 16 (by decide)) 2).trans (congrFun (f53 16 (by decide)) 2)) ((f80 17 (by decide)).trans (f53 17 (by decide))) hI16
       have I96 : jI18 σ78 := jI18_fr ((congrFun (f80 18 (by decide)) 0).trans (congrFun (f53 18 (by decide)) 0)) ((f80 19 (by decide)).trans (f53 19 (by decide))) hI18
       have I97 : jI22 σ78 := jI22_fr ((congrFun (f80 22 (by decide)) 0).trans (congrFun (f53 22 (by decide)) 0)) ((f80 23 (by decide)).trans (f53 23 (by decide))) hI22
       have I98 : jI31 σ78 := jI31_fr (congrFun (f80 31 (by decide)) 8) (congrFun (f80 31 (by decide)) 10) (congrFun (f80 31 (by decide)) 11) (f80 33 (by decide)) (f80 35 (by decide)) (f80 36 (by decide)) I55
       have I99 : jI38 σ78 := jI38_fr ((congrFun (f80 38 (by decide)) 0).trans (congrFun (f53 38 (by decide)) 0)) ((congrFun (f80 38 (by decide)) 1).trans (congrFun (f53 38 (by decide)) 1)) ((f80 39 (by decide)).trans (f53 39 (by decide))) hI38
       have I100 : jI43 σ78 := jI43_fr ((congrFun (f80 43 (by decide)) 8).trans (congrFun (f53 43 (by decide)) 8)) hI43
       have I101 : jI47 σ78 := jI47_fr ((congrFun (f80 47 (by decide)) 0).trans (congrFun (f53 47 (by decide)) 0)) ((f80 48 (by decide)).trans (f53 48 (by decide))) ((f80 49 (by decide)).trans (f53 49 (by decide))) hI47
       have I102 : jI50 σ78 := jI50_fr ((f80 52 (by decide)).trans (f53 52 (by decide))) hI50
       have I103 : jI0 σ78 := jI0_fr ((f80 1 (by decide)).trans (f53 1 (by decide))) hI0
       have I104 : jI26 σ78 := jI26_fr ((congrFun (f80 26 (by decide)) 6).trans (congrFun (f53 26 (by decide)) 6)) hI26
       have I105 : jI101 σ78 := jI101_fr (f81 4 (by decide)) (f81 5 (by decide)) (f80 56 (by decide)) (f80 57 (by decide)) (f80 58 (by decide)) (f80 59 (by decide)) I65
       have I106 : jI102 σ78 := jI102_fr (f81 6 (by decide)) (f80 60 (by decide)) (f80 61 (by decide)) I66
       have I107 : jI103 σ78 := jI103_fr (f81 9 (by decide)) I67
       have I108 : jI104 σ78 := jI104_fr (f81 10 (by decide)) (f81 12 (by decide)) (f81 13 (by decide)) (f80 62 (by decide)) (f80 67 (by decide)) I68
       have I109 : jI105 σ78 := jI105_fr (f81 15 (by decide)) (f80 65 (by decide)) I69
       have I110 : jI106 σ78 := jI106_fr (f81 32 (by decide)) (f80 70 (by decide)) (f80 71 (by decide)) (f80 72 (by decide)) I70
       have I111 : jI107 σ78 := jI107_fr (f81 12 (by decide)) (f81 47 (by decide)) (f80 80 (by decide)) I71
       have I112 : jI109 σ78 := jI109_fr ((f81 50 (by decide)).trans (congrFun (f53 55 (by decide)) 50)) hI109
       have I113 : jI110 σ78 := jI110_fr ((f80 86 (by decide)).trans (f53 86 (by decide))) ((f80 87 (by decide)).trans (f53 87 (by decide))) hI110
       have I114 : jI111 σ78 := jI111_fr ((f80 79 (by decide)).trans (f53 79 (by decide))) hI111
       have p115 : jNd12 σ78 := jNd12.fr ((congrFun (f80 12 (by decide)) 0).trans (congrFun (f53 12 (by decide)) 0)) ((congrFun (f80 12 (by decide)) 1).trans (congrFun (f53 12 (by decide)) 1)) ((f80 13 (by decide)).trans (f53 13 (by decide))) hs_jNd12
       have p116 : jN67 σ78 := jN67.fr (f80 24 (by decide)) p56
       have p117 : jBl σ78 := jBl.fr (congrFun (f80 22 (by decide)) 0) (congrFun (f80 22 (by decide)) 1) (f80 23 (by decide)) (congrFun (f80 26 (by decide)) 6) (congrFun (f80 26 (by decide)) 7) (f80 29 (by decide)) (f80 30 (by decide)) p57
       have p118 : jKb σ78 := jKb.fr (congrFun (f80 31 (by decide)) 8) (congrFun (f80 31 (by decide)) 11) (f80 32 (by decide)) p58
       have p119 : jKh σ78 := jKh.fr (congrFun (f80 31 (by decide)) 8) (f80 32 (by decide)) (f80 36 (by decide)) (f80 37 (by decide)) p62
       have p120 : jKg σ78 := jKg.fr (congrFun (f80 31 (by decide)) 8) (congrFun (f80 31 (by decide)) 9) (congrFun (f80 31 (by decide)) 11) (congrFun (f80 31 (by decide)) 12) (f80 32 (by decide)) (f80 33 (by decide)) p60
       have p121 : jNz σ78 := jNz.fr (f80 34 (by decide)) p61
       have z122 : (σ78 2 0).toInt = (σ 2 0).toInt := (congrArg Int32.toInt (show σ78 2 0 = (σ 2 0) from ((congrFun (f80 2 (by decide)) 0).trans (congrFun (f53 2 (by decide)) 0))))
       have z123 : (σ78 55 6).toInt = (σ 55 6).toInt := (congrArg Int32.toInt (show σ78 55 6 = (σ 55 6) from ((f81 6 (by decide)).trans (congrFun (f53 55 (by decide)) 6))))
       have z124 : (σ78 2 2).toInt = (σ 2 2).toInt := (congrArg Int32.toInt (show σ78 2 2 = (σ 2 2) from ((congrFun (f80 2 (by decide)) 2).trans (congrFun (f53 2 (by decide)) 2))))
       have z125 : (σ78 55 5).toInt = (σ 55 5).toInt := (congrArg Int32.toInt (show σ78 55 5 = (σ 55 5) from ((f81 5 (by decide)).trans (congrFun (f53 55 (by decide)) 5))))
       have z126 : (σ78 2 3).toInt = (σ 2 3).toInt := (congrArg Int32.toInt (show σ78 2 3 = (σ 2 3) from ((congrFun (f80 2 (by decide)) 3).trans (congrFun (f53 2 (by decide)) 3))))
       have z127 : (σ78 55 4).toInt = (σ 55 4).toInt := (congrArg Int32.toInt (show σ78 55 4 = (σ 55 4) from ((f81 4 (by decide)).trans (congrFun (f53 55 (by decide)) 4))))
       have z128 : (σ78 9 0).toInt = (σ 9 0).toInt := (congrArg Int32.toInt (show σ78 9 0 = (σ 9 0) from ((congrFun (f80 9 (by decide)) 0).trans (congrFun (f53 9 (by decide)) 0))))
       have z129 : (σ78 55 15).toInt = (σ 55 15).toInt := (congrArg Int32.toInt (show σ78 55 15 = (σ 55 15) from ((f81 15 (by decide)).trans (congrFun (f53 55 (by decide)) 15))))
       have z130 : (σ78 16 0).toInt = (σ 16 0).toInt := (congrArg Int32.toInt (show σ78 16 0 = (σ 16 0) from ((congrFun (f80 16 (by decide)) 0).trans (congrFun (f53 16 (by decide)) 0))))
       have z131 : (σ78 55 10).toInt = (σ 55 10).toInt := (congrArg Int32.toInt (show σ78 55 10 = (σ 55 10) from ((f81 10 (by decide)).trans (congrFun (f53 55 (by decide)) 10))))
       have z132 : (σ78 16 1).toInt = (σ 16 1).toInt := (congrArg Int32.toInt (show σ78 16 1 = (σ 16 1) from ((congrFun (f80 16 (by decide)) 1).trans (congrFun (f53 16 (by decide)) 1))))
       have z133 : (σ78 55 12).toInt = (σ 55 12).toInt := (congrArg Int32.toInt (show σ78 55 12 = (σ 55 12) from ((f81 12 (by decide)).trans (congrFun (f53 55 (by decide)) 12))))
       have z134 : (σ78 16 2).toInt = (σ 16 2).toInt := (congrArg Int32.toInt (show σ78 16 2 = (σ 16 2) from ((congrFun (f80 16 (by decide)) 2).trans (congrFun (f53 16 (by decide)) 2))))
       have z135 : (σ78 55 13).toInt = (σ 55 13).toInt := (congrArg Int32.toInt (show σ78 55 13 = (σ 55 13) from ((f81 13 (by decide)).trans (congrFun (f53 55 (by decide)) 13))))
       have z136 : (σ78 38 0).toInt = (σ 38 0).toInt := (congrArg Int32.toInt (show σ78 38 0 = (σ 38 0) from ((congrFun (f80 38 (by decide)) 0).trans (congrFun (f53 38 (by decide)) 0))))
       have z137 : (σ78 55 32).toInt = (σ 55 32).toInt := (congrArg Int32.toInt (show σ78 55 32 = (σ 55 32) from ((f81 32 (by decide)).trans (congrFun (f53 55 (by decide)) 32))))
       have z138 : (σ78 38 1).toInt = (σ 38 1).toInt := (congrArg Int32.toInt (show σ78 38 1 = (σ 38 1) from ((congrFun (f80 38 (by decide)) 1).trans (congrFun (f53 38 (by decide)) 1))))
       have z139 : (σ78 55 55).toInt = (σ 55 55).toInt := (congrArg Int32.toInt (show σ78 55 55 = (σ 55 55) from ((f81 55 (by decide)).trans (congrFun (f53 55 (by decide)) 55))))
       have z140 : (σ78 47 0).toInt = (σ 47 0).toInt := (congrArg Int32.toInt (show σ78 47 0 = (σ 47 0) from ((congrFun (f80 47 (by decide)) 0).trans (congrFun (f53 47 (by decide)) 0))))
       have z141 : (σ78 55 47).toInt = (σ 55 47).toInt := (congrArg Int32.toInt (show σ78 55 47 = (σ 55 47) from ((f81 47 (by decide)).trans (congrFun (f53 55 (by decide)) 47))))
       have z142 : (σ78 55 30).toInt = (σ 55 30).toInt := (congrArg Int32.toInt (show σ78 55 30 = (σ 55 30) from ((f81 30 (by decide)).trans (congrFun (f53 55 (by decide)) 30))))
       have z143 : (σ78 55 31).toInt = (σ 55 31).toInt := (congrArg Int32.toInt (show σ78 55 31 = (σ 55 31) from ((f81 31 (by decide)).trans (congrFun (f53 55 (by decide)) 31))))
       have z144 : (σ78 2 1).toInt = (σ 2 1).toInt := (congrArg Int32.toInt (show σ78 2 1 = (σ 2 1) from ((congrFun (f80 2 (by decide)) 1).trans (congrFun (f53 2 (by decide)) 1))))
       have z145 : (σ78 55 9).toInt = (σ 55 9).toInt := (congrArg Int32.toInt (show σ78 55 9 = (σ 55 9) from ((f81 9 (by decide)).trans (congrFun (f53 55 (by decide)) 9))))
       have z146 : (σ78 26 6).toInt = (σ 26 6).toInt := (congrArg Int32.toInt (show σ78 26 6 = (σ 26 6) from ((congrFun (f80 26 (by decide)) 6).trans (congrFun (f53 26 (by decide)) 6))))
       have z148 : (σ78 18 0).toInt = (σ 18 0).toInt := (congrArg Int32.toInt (show σ78 18 0 = (σ 18 0) from ((congrFun (f80 18 (by decide)) 0).trans (congrFun (f53 18 (by decide)) 0))))
       have z149 : (σ78 22 0).toInt = (σ 22 0).toInt := (congrArg Int32.toInt (show σ78 22 0 = (σ 22 0) from ((congrFun (f80 22 (by decide)) 0).trans (congrFun (f53 22 (by decide)) 0))))
       exact by exact ih x91 σ78 τ _ _ ls (by have h9 := tx91; omega) ⟨I92, I93, I94, I95, I96, I97, I98, I99, I100, I101, I102, I103, I104, I105, I106, I107, I108, I109, I110, I111, I112, I113, I114, I82, p83, p84, p115, p116, p117, p118, p85, p119, p120, p121, p86, (by rw [z122, z123]; exact ht0), (by rw [z124, z125]; exact ht1), (by rw [z124, z126, z127]; exact ht2), (by rw [z128, z129]; exact ht3), (by rw [z130, z131]; exact ht4), (by rw [z132, z133]; exact ht5), (by rw [z134, z135]; exact ht6), (by rw [z136, z137]; exact ht7), (by rw [z138, z139]; exact ht8), (by rw [z140, z141]; exact ht9), (by rw [z142]; exact ht10), (by rw [z143]; exact ht11), (by rw [z144, z145]; exact ht12), (by omega), (by have h9 := tx91; omega), (by have h9 := tx91; omega), (show jNumP (σ78 3) (σ78 56) (σ78 6) (σ78 57) (σ78 7) (σ78 58) (σ78 8) (σ78 59) (σ78 55 6).toInt (σ78 55 4).toInt by rw [show σ78 3 = σ 3 from ((f80 3 (by decide)).trans (f53 3 (by decide))), show σ78 56 = σ 56 from ((f80 56 (by decide)).trans (f53 56 (by decide))), show σ78 6 = σ 6 from ((f80 6 (by decide)).trans (f53 6 (by decide))), show σ78 57 = σ 57 from ((f80 57 (by decide)).trans (f53 57 (by decide))), show σ78 7 = σ 7 from ((f80 7 (by decide)).trans (f53 7 (by decide))), show σ78 58 = σ 58 from ((f80 58 (by decide)).trans (f53 58 (by decide))), show σ78 8 = σ 8 from ((f80 8 (by decide)).trans (f53 8 (by decide))), show σ78 59 = σ 59 from ((f80 59 (by decide)).trans (f53 59 (by decide))), show (σ78 55 6).toInt = (σ 55 6).toInt from z123, show (σ78 55 4).toInt = (σ 55 4).toInt from z127]; exact hr0), (show jOvP (σ78 56) (σ78 57) (σ78 58) (σ78 59) (σ78 55 4).toInt by rw [show σ78 56 = σ 56 from ((f80 56 (by decide)).trans (f53 56 (by decide))), show σ78 57 = σ 57 from ((f80 57 (by decide)).trans (f53 57 (by decide))), show σ78 58 = σ 58 from ((f80 58 (by decide)).trans (f53 58 (by decide))), show σ78 59 = σ 59 from ((f80 59 (by decide)).trans (f53 59 (by decide))), show (σ78 55 4).toInt = (σ 55 4).toInt from z127]; exact hr1), (show jTp (σ78 10) (σ78 63) (σ78 55 15).toInt by rw [show σ78 10 = σ 10 from ((f80 10 (by decide)).trans (f53 10 (by decide))), show σ78 63 = σ 63 from ((f80 63 (by decide)).trans (f53 63 (by decide)))]; exact hr2.le (by omega)), (show jSo (σ78 17) (σ78 62) (σ78 16 0).toInt by rw [show σ78 17 = σ 17 from ((f80 17 (by decide)).trans (f53 17 (by decide))), show σ78 62 = σ 62 from ((f80 62 (by decide)).trans (f53 62 (by decide))), show (σ78 16 0).toInt = (σ 16 0).toInt from z130]; exact hr3), (show jShP (σ78 51) (σ78 52) (σ78 53) (σ78 86) (σ78 87) (σ78 55 32).toInt by rw [show σ78 51 = σ 51 from ((f80 51 (by decide)).trans (f53 51 (by decide))), show σ78 52 = σ 52 from ((f80 52 (by decide)).trans (f53 52 (by decide))), show σ78 53 = σ 53 from ((f80 53 (by decide)).trans (f53 53 (by decide))), show σ78 86 = σ 86 from ((f80 86 (by decide)).trans (f53 86 (by decide))), show σ78 87 = σ 87 from ((f80 87 (by decide)).trans (f53 87 (by decide)))]; exact (hr4.up (by omega) (by omega))), (show jEl (σ78 51) (σ78 52) (τ 54) (τ 88) by rw [show σ78 51 = σ 51 from ((f80 51 (by decide)).trans (f53 51 (by decide))), show σ78 52 = σ 52 from ((f80 52 (by decide)).trans (f53 52 (by decide)))]; exact hr5), (show jByP (σ78 51) (σ78 52) (τ 54) by rw [show σ78 51 = σ 51 from ((f80 51 (by decide)).trans (f53 51 (by decide))), show σ78 52 = σ 52 from ((f80 52 (by decide)).trans (f53 52 (by decide)))]; exact hr6), (show jBk (σ78 48) (σ78 80) (σ78 49) (σ78 81) (σ78 55 47).toInt by rw [show σ78 48 = σ 48 from ((f80 48 (by decide)).trans (f53 48 (by decide))), show σ78 49 = σ 49 from ((f80 49 (by decide)).trans (f53 49 (by decide))), show σ78 80 = σ 80 from ((f80 80 (by decide)).trans (f53 80 (by decide))), show σ78 81 = σ 81 from ((f80 81 (by decide)).trans (f53 81 (by decide))), show (σ78 55 47).toInt = (σ 55 47).toInt from z141]; exact hr7), (show jKd (σ78 39) (σ78 70) (σ78 55 32).toInt by rw [show σ78 39 = σ 39 from ((f80 39 (by decide)).trans (f53 39 (by decide))), show σ78 70 = σ 70 from ((f80 70 (by decide)).trans (f53 70 (by decide))), show (σ78 55 32).toInt = (σ 55 32).toInt from z137]; exact hr8), (show jTt (σ78 42) (σ78 85) (σ78 55 55).toInt by rw [show σ78 42 = σ 42 from ((f80 42 (by decide)).trans (f53 42 (by decide))), show σ78 85 = σ 85 from ((f80 85 (by decide)).trans (f53 85 (by decide))), show (σ78 55 55).toInt = (σ 55 55).toInt from z139]; exact hr9), (fun k hk => by rw [show σ78 4 = σ 4 from ((f80 4 (by decide)).trans (f53 4 (by decide))), show σ78 5 = σ 5 from ((f80 5 (by decide)).trans (f53 5 (by decide))), show σ78 60 = σ 60 from ((f80 60 (by decide)).trans (f53 60 (by decide))), show σ78 61 = σ 61 from ((f80 61 (by decide)).trans (f53 61 (by decide)))]; exact hr10 k (by omega)), (fun nm => by rw [show σ78 19 = σ 19 from ((f80 19 (by decide)).trans (f53 19 (by decide))), show σ78 64 = σ 64 from ((f80 64 (by decide)).trans (f53 64 (by decide))), show σ78 65 = σ 65 from ((f80 65 (by decide)).trans (f53 65 (by decide))), show (σ78 18 0).toInt = (σ 18 0).toInt from z148]; exact hr11 nm), (fun nm => by rw [show σ78 23 = σ 23 from ((f80 23 (by decide)).trans (f53 23 (by decide))), show σ78 64 = σ 64 from ((f80 64 (by decide)).trans (f53 64 (by decide))), show σ78 65 = σ 65 from ((f80 65 (by decide)).trans (f53 65 (by decide))), show (σ78 22 0).toInt = (σ 22 0).toInt from z149]; exact hr12 nm), (show jAlP (σ78 56) (σ78 57) (σ78 58) (σ78 59) (σ78 55 4).toInt by rw [show σ78 56 = σ 56 from ((f80 56 (by decide)).trans (f53 56 (by decide))), show σ78 57 = σ 57 from ((f80 57 (by decide)).trans (f53 57 (by decide))), show σ78 58 = σ 58 from ((f80 58 (by decide)).trans (f53 58 (by decide))), show σ78 59 = σ 59 from ((f80 59 (by decide)).trans (f53 59 (by decide))), show (σ78 55 4).toInt = (σ 55 4).toInt from z127]; exact hr13), (show jqbN (σ78 80) (σ78 55 47).toInt by rw [show σ78 80 = σ 80 from ((f80 80 (by decide)).trans (f53 80 (by decide))), show (σ78 55 47).toInt = (σ 55 47).toInt from z141]; exact hr14)⟩ hP hS (lv_sub hl [0, 1, 2, 3] rfl)
set_option maxHeartbeats 4000000 in
set_option maxRecDepth 100000 in
theorem law_case_11 {p : Program} {e : Env} {s : State} {m : MethodId} {below : List Frame} {meth : Method} {c : Code} (l : Launch) {b L : Nat} {xs : Nat → Int32} {D : va_G} {cI cL : ClassId} {ad zz : Nat → Nat} (C0 : lw_At p s m meth c b L xs) (hJ : jD ad) (hA : ∀ q, jA ad q → s.heap.size ≤ q) (hK : jK D cI cL s) (hZ : jZ zz (fun q : Nat => s.heap.size ≤ q) s s.heap) {x0 : Int32} (hx0 : 0 ≤ x0.toInt) (hxL : x0.toInt + 6 ≤ (L : Int)) (hL : L ≤ 384) {σ : Nat → Nat → Int32} {τ : Nat → Nat → Int64} {H : Heap} {locs : List Loc} (hS : va_S (fun q : Nat => s.heap.size ≤ q) s.heap H locs) {ls : Array Slot} (hAll : jAll x0.toInt σ τ) (hP : jH D cI cL ad σ τ H) (hl : lv_has ls 4 [(3, .int x0), (2, .ref (ad 55)), (1, .ref (ad 0)), (0, .ref b)]) (ih : ∀ (x1 : Int32) (σ : Nat → Nat → Int32) (τ : Nat → Nat → Int64) (H : Heap) (locs : List Loc) (ls : Array Slot), x1.toInt = x0.toInt + 6 → jAll x1.toInt σ τ → jH D cI cL ad σ τ H → va_S (fun q : Nat => s.heap.size ≤ q) s.heap H locs → lv_has ls 4 [(3, .int x1), (2, .ref (ad 55)), (1, .ref (ad 0)), (0, .ref b)] → W p l e room_1 s m #[Value.ref b] below meth c H locs 90 348600 (lw_Z below #[Value.ref b] s) (F0 m 18 ls [])) : W p l e room_1 s m #[Value.ref b] below meth c H locs 90 348600 (lw_Z below #[Value.ref b] s) (F0 m 549 ls []) := by
  obtain ⟨hx, hb, hr, hml, hown, hts0, hX, hbl, hlocks, hgv⟩ := C0
  have hts : ∀ w ∈ wsL_law, w.before #[Value.ref b] s = true := fun w h => hts0 w (wsL_law_in w h)
  have hbA : ¬ (fun q : Nat => s.heap.size ≤ q) b := Nat.not_le.mpr hbl
  have hown : s.vm.findClass RL = some m.cls := hown
  obtain ⟨hI2, hI9, hI12, hI16, hI18, hI22, hI31, hI38, hI43, hI47, hI50, hI0, hI26, hI101, hI102, hI103, hI104, hI105, hI106, hI107, hI109, hI110, hI111, hI119, hs_jKept, hs_jBook, hs_jNd12, hs_jN67, hs_jBl, hs_jKb, hs_jTR, hs_jKh, hs_jKg, hs_jNz, hs_jqSt, ht0, ht1, ht2, ht3, ht4, ht5, ht6, ht7, ht8, ht9, ht10, ht11, ht12, ht13, ht14, ht15, hr0, hr1, hr2, hr3, hr4, hr5, hr6, hr7, hr8, hr9, hr10, hr11, hr12, hr13, hr14⟩ := hAll
  have hL9 : (L : Int) ≤ 384 := by omega
  obtain ⟨i1, i2, i3, i4, i5, w6, w7⟩ : (0 ≤ (σ 2 0).toInt ∧ (σ 2 0).toInt ≤ 4) ∧ (0 ≤ (σ 2 1).toInt ∧ (σ 2 1).toInt ≤ 3) ∧ (0 ≤ (σ 2 2).toInt) ∧ (0 ≤ (σ 2 3).toInt) ∧ ((σ 2 2).toInt + (σ 2 3).toInt ≤ 40) ∧ (∀ k : Nat, k < 40 → 0 ≤ (σ 6 k).toInt ∧ (σ 6 k).toInt ≤ 67) ∧ (∀ k : Nat, k < 4 → 0 ≤ (σ 5 k).toInt ∧ (σ 5 k).toInt ≤ 20) := id hI2
  obtain ⟨i8, w9, w10⟩ : (0 ≤ (σ 9 0).toInt ∧ (σ 9 0).toInt ≤ 80) ∧ (∀ k : Nat, k < 80 → 0 ≤ (σ 10 k).toInt ∧ (σ 10 k).toInt ≤ 255) ∧ (∀ k : Nat, k < 8 → 0 ≤ (σ 11 k).toInt ∧ (σ 11 k).toInt ≤ 3) := id hI9
  obtain ⟨i11, i12, i13, w14⟩ : (1 ≤ (σ 16 0).toInt ∧ (σ 16 0).toInt ≤ 8) ∧ (1 ≤ (σ 16 1).toInt ∧ (σ 16 1).toInt ≤ 12) ∧ (0 ≤ (σ 16 2).toInt ∧ (σ 16 2).toInt ≤ 999) ∧ (∀ k : Nat, k < 8 → 0 ≤ (σ 17 k).toInt ∧ (σ 17 k).toInt ≤ 3) := id hI16
  obtain ⟨i15, i16, w17⟩ : (0 ≤ (σ 38 0).toInt ∧ (σ 38 0).toInt ≤ 20) ∧ (0 ≤ (σ 38 1).toInt ∧ (σ 38 1).toInt ≤ 1000) ∧ (∀ k : Nat, k < 20 → 0 ≤ (σ 39 k).toInt ∧ (σ 39 k).toInt ≤ 6) := id hI38
  obtain ⟨i18, w19, w20⟩ : (0 ≤ (σ 47 0).toInt ∧ (σ 47 0).toInt ≤ 12) ∧ (∀ k : Nat, k < 12 → 0 ≤ (σ 48 k).toInt ∧ (σ 48 k).toInt ≤ 3) ∧ (∀ k : Nat, k < 12 → 0 ≤ (σ 49 k).toInt ∧ (σ 49 k).toInt ≤ 1) := id hI47
  have w21 : ∀ k : Nat, k < 6 → 0 ≤ (σ 52 k).toInt ∧ (σ 52 k).toInt ≤ 60 := hI50
  have i22 : 1 ≤ (σ 26 6).toInt ∧ (σ 26 6).toInt ≤ 8000 := hI26
  obtain ⟨i23, i24, i25, w26, w27, w28, w29⟩ : (0 ≤ (σ 55 5).toInt) ∧ ((σ 55 5).toInt ≤ (σ 55 4).toInt) ∧ ((σ 55 4).toInt ≤ 40) ∧ (∀ k : Nat, k < 68 → (-200) ≤ (σ 56 k).toInt ∧ (σ 56 k).toInt ≤ 500) ∧ (∀ k : Nat, k < 40 → 0 ≤ (σ 57 k).toInt ∧ (σ 57 k).toInt ≤ 67) ∧ (∀ k : Nat, k < 40 → (-200) ≤ (σ 58 k).toInt ∧ (σ 58 k).toInt ≤ 500) ∧ (∀ k : Nat, k < 40 → (-200) ≤ (σ 59 k).toInt ∧ (σ 59 k).toInt ≤ 500) := id hI101
  obtain ⟨i30, w31, w32⟩ : (0 ≤ (σ 55 6).toInt ∧ (σ 55 6).toInt ≤ 4) ∧ (∀ k : Nat, k < 4 → 0 ≤ (σ 60 k).toInt ∧ (σ 60 k).toInt ≤ 50) ∧ (∀ k : Nat, k < 4 → 0 ≤ (σ 61 k).toInt ∧ (σ 61 k).toInt ≤ 20) := id hI102
  have i33 : 0 ≤ (σ 55 9).toInt ∧ (σ 55 9).toInt ≤ 3 := hI103
  obtain ⟨i34, i35, i36, w37, w38⟩ : (1 ≤ (σ 55 10).toInt ∧ (σ 55 10).toInt ≤ 8) ∧ (1 ≤ (σ 55 12).toInt ∧ (σ 55 12).toInt ≤ 12) ∧ (0 ≤ (σ 55 13).toInt ∧ (σ 55 13).toInt ≤ 999) ∧ (∀ k : Nat, k < 8 → 0 ≤ (σ 62 k).toInt ∧ (σ 62 k).toInt ≤ 3) ∧ (∀ k : Nat, k < 8 → 0 ≤ (σ 67 k).toInt ∧ (σ 67 k).toInt ≤ 3) := id hI104
  obtain ⟨i39, w40⟩ : (0 ≤ (σ 55 15).toInt ∧ (σ 55 15).toInt ≤ 80) ∧ (∀ k : Nat, k < 2 → (-1) ≤ (σ 65 k).toInt ∧ (σ 65 k).toInt ≤ 80) := id hI105
  obtain ⟨i41, w42, w43, w44⟩ : (0 ≤ (σ 55 32).toInt ∧ (σ 55 32).toInt ≤ 20) ∧ (∀ k : Nat, k < 20 → 0 ≤ (σ 70 k).toInt ∧ (σ 70 k).toInt ≤ 6) ∧ (∀ k : Nat, k < 20 → 0 ≤ (σ 71 k).toInt ∧ (σ 71 k).toInt ≤ 8) ∧ (∀ k : Nat, k < 160 → 0 ≤ (σ 72 k).toInt ∧ (σ 72 k).toInt ≤ 3) := id hI106
  obtain ⟨i45, i46, w47⟩ : (0 ≤ (σ 55 47).toInt ∧ (σ 55 47).toInt ≤ 12) ∧ ((σ 55 47).toInt ≤ (σ 55 12).toInt) ∧ (∀ k : Nat, k < 12 → 0 ≤ (σ 80 k).toInt ∧ (σ 80 k).toInt ≤ 3) := id hI107
  have hs_jOk3 : jOk3 σ := hr0.ok hr1.1
  refine lv_aload_n hx hb dL_law_549 rfl (lv_at hl 2 rfl) ?_
  refine lv_aload_n hx hb dL_law_550 rfl (lv_at hl 3 rfl) ?_
  refine lv_iload_n hx hb dL_law_551 rfl (lv_at hl 0 rfl) ?_
  refine lv_iconst (v := 1) hx hb dL_law_552 (by decide) ?_
  have g48 := jrg (rfl : x0.toInt = x0.toInt)
  refine lv_iadd hx hb dL_law_553 ?_
  refine lv_topi (fun x49 ex49 => ?_)
  exact by
   have tx49 : x49.toInt = x0.toInt + 1 := (jadd ex49 rfl jz_1 (by omega) (by omega)).trans (by omega)
   refine va_sld hx hb hX hbl hbA hS (jin tx49 (by omega) (by omega)) dL_law_554 ?_
   have g50 := jrg (rfl : (xs x49.toNatClampNeg).toInt = (xs x49.toNatClampNeg).toInt)
   refine jcallV (As := [.int (xs x49.toNatClampNeg)]) (rest := []) ⟨hx, hb, hml, hown, hts⟩ hK hP hA hS hZ (c_X11_mean l D cI cL ad zz hJ σ τ (xs x49.toNatClampNeg) ((xs x49.toNatClampNeg).toInt) rfl hI2 hI16 hI18 hI22 hI31 hI38 hI26 hs_jN67 hs_jBl hs_jKb hs_jKh hs_jKg hs_jNz hs_jKh) cw_RL_61 (jc_0 cI cL ad σ τ) rfl ⟨Nat.le_of_ble_eq_true rfl, Nat.le_of_ble_eq_true rfl⟩ rfl rfl rfl hl.1 rfl (Nat.le_of_ble_eq_true rfl) dL_law_555 ⟨Nat.le_of_ble_eq_true rfl, Nat.le_of_ble_eq_true rfl⟩ (fun r52 σ51 τ51 H locs h51 hP hS => ?_)
   obtain ⟨rfl, f53, f54, I55, p56, p57, p58, p59, p60, p61, p62, w63, h51⟩ := h51
   refine lv_pop hx hb dL_law_558 rfl ?_
   refine lv_aload_n hx hb dL_law_559 rfl (lv_at hl 1 rfl) ?_
   refine lv_aload_n hx hb dL_law_560 rfl (lv_at hl 3 rfl) ?_
   refine lv_iload_n hx hb dL_law_561 rfl (lv_at hl 0 rfl) ?_
   exact by
    refine lv_iconst (v := 1) hx hb dL_law_562 (by decide) ?_
    refine lv_iadd hx hb dL_law_563 ?_
    refine jtopr ex49.symm ?_
    refine va_sld hx hb hX hbl hbA hS (jin tx49 (by omega) (by omega)) dL_law_564 ?_
    have I65 : jI101 σ51 := jI101_fr (congrFun (f53 55 (by decide)) 4) (congrFun (f53 55 (by decide)) 5) (f53 56 (by decide)) (f53 57 (by decide)) (f53 58 (by decide)) (f53 59 (by decide)) hI101
    have I66 : jI102 σ51 := jI102_fr (congrFun (f53 55 (by decide)) 6) (f53 60 (by decide)) (f53 61 (by decide)) hI102
    have I67 : jI103 σ51 := jI103_fr (congrFun (f53 55 (by decide)) 9) hI103
    have I68 : jI104 σ51 := jI104_fr (congrFun (f53 55 (by decide)) 10) (congrFun (f53 55 (by decide)) 12) (congrFun (f53 55 (by decide)) 13) (f53 62 (by decide)) (f53 67 (by decide)) hI104
    have I69 : jI105 σ51 := jI105_fr (congrFun (f53 55 (by decide)) 15) (f53 65 (by decide)) hI105
    exact by
     have I70 : jI106 σ51 := jI106_fr (congrFun (f53 55 (by decide)) 32) (f53 70 (by decide)) (f53 71 (by decide)) (f53 72 (by decide)) hI106
     have I71 : jI119 σ51 := jI119_fr (f53 68 (by decide)) hI119
     have p72 : jKept σ51 := jKept.fr (f53 75 (by decide)) (f53 76 (by decide)) (f53 77 (by decide)) hs_jKept
     have p73 : jTR σ51 := jTR.fr (f53 64 (by decide)) (f53 65 (by decide)) hs_jTR
     have p74 : jqSt σ51 := jqSt.fr (f53 78 (by decide)) (congrFun (f53 55 (by decide)) 42) hs_jqSt
     have z75 : (σ51 55 42).toInt = (σ 55 42).toInt := (congrArg Int32.toInt (show σ51 55 42 = (σ 55 42) from (congrFun (f53 55 (by decide)) 42)))
     refine jcallV (As := [.int (xs x49.toNatClampNeg)]) (rest := []) ⟨hx, hb, hml, hown, hts⟩ hK hP hA hS hZ (c_X12_mean l D cI cL ad zz hJ σ51 τ (xs x49.toNatClampNeg) ((xs x49.toNatClampNeg).toInt) rfl I65 I66 I67 I68 I69 I70 I71 p72 p73 p74 (by omega)) cw_RL_64 (jc_55 cI cL ad σ51 τ) rfl ⟨Nat.le_of_ble_eq_true rfl, Nat.le_of_ble_eq_true rfl⟩ rfl rfl rfl hl.1 rfl (Nat.le_of_ble_eq_true rfl) dL_law_565 ⟨Nat.le_of_ble_eq_true rfl, Nat.le_of_ble_eq_true rfl⟩ (fun r77 σ76 τ76 H locs h76 hP hS => ?_)
     obtain ⟨rfl, f78, f79, I80, p81, p82, p83, w84, h76⟩ := h76
     obtain ⟨k86, k87, h76⟩ := h76
     exact by
      refine lv_pop hx hb dL_law_568 rfl ?_
      refine lv_goto (tgt := 1357) hx hb dL_law_569 (by decide) ?_
      obtain ⟨x88, ex88⟩ : ∃ y : Int32, y = x0 + 6 := ⟨_, rfl⟩
      have tx88 : x88.toInt = x0.toInt + 6 := (jadd ex88 rfl jz_6 (by omega) (by omega)).trans (by omega)
      refine lv_iinc (v := x88) (lv' := [(3, .int x88), (2, .ref (ad 55)), (1, .ref (ad 0)), (0, .ref b)]) hx hb dL_law_1357 hl (k := 0) rfl (by rw [ex88]; rfl) (by decide) rfl (fun ls hl => ?_)
      refine lv_goto (tgt := 18) hx hb dL_law_1360 (by decide) ?_
      have I89 : jI2 σ76 := jI2_fr ((congrFun (f78 2 (by decide)) 0).trans (congrFun (f53 2 (by decide)) 0)) ((congrFun (f78 2 (by decide)) 1).trans (congrFun (f53 2 (by decide)) 1)) ((congrFun (f78 2 (by decide)) 2).trans (congrFun (f53 2 (by decide)) 2)) ((congrFun (f78 2 (by decide)) 3).trans (congrFun (f53 2 (by decide)) 3)) ((f78 6 (by decide)).trans (f53 6 (by decide))) ((f78 5 (by decide)).trans (f53 5 (by decide))) hI2
      have I90 : jI9 σ76 := jI9_fr ((congrFun (f78 9 (by decide)) 0).trans (congrFun (f53 9 (by decide)) 0)) ((f78 10 (by decide)).trans (f53 10 (by decide))) ((f78 11 (by decide)).trans (f53 11 (by decide))) hI9
      have I91 : jI12 σ76 := jI12_fr ((congrFun (f78 12 (by decide)) 0).trans (congrFun (f53 12 (by decide)) 0)) ((f78 13 (by decide)).trans (f53 13 (by decide))) hI12
      exact by
       have I92 : jI16 σ76 := jI16_fr ((congrFun (f78 16 (by decide)) 0).trans (congrFun (f53 16 (by decide)) 0)) ((congrFun (f78 16 (by decide)) 1).trans (congrFun (f53 16 (by decide)) 1)) ((congrFun (f78 16 (by decide)) 2).trans (congrFun (f53 16 (by decide)) 2)) ((f78 17 (by decide)).trans (f53 17 (by decide))) hI16
       have I93 : jI18 σ76 := jI18_fr ((congrFun (f78 18 (by decide)) 0).trans (congrFun (f53 18 (by decide)) 0)) ((f78 19 (by decide)).trans (f53 19 (by decide))) hI18
       have I94 : jI22 σ76 := jI22_fr ((congrFun (f78 22 (by decide)) 0).trans (congrFun (f53 22 (by decide)) 0)) ((f78 23 (by decide)).trans (f53 23 (by decide))) hI22
       have I95 : jI31 σ76 := jI31_fr (congrFun (f78 31 (by decide)) 8) (congrFun (f78 31 (by decide)) 10) (congrFun (f78 31 (by decide)) 11) (f78 33 (by decide)) (f78 35 (by decide)) (f78 36 (by decide)) I55
       have I96 : jI38 σ76 := jI38_fr ((congrFun (f78 38 (by decide)) 0).trans (congrFun (f53 38 (by decide)) 0)) ((congrFun (f78 38 (by decide)) 1).trans (congrFun (f53 38 (by decide)) 1)) ((f78 39 (by decide)).trans (f53 39 (by decide))) hI38
       have I97 : jI43 σ76 := jI43_fr ((congrFun (f78 43 (by decide)) 8).trans (congrFun (f53 43 (by decide)) 8)) hI43
       have I98 : jI47 σ76 := jI47_fr ((congrFun (f78 47 (by decide)) 0).trans (congrFun (f53 47 (by decide)) 0)) ((f78 48 (by decide)).trans (f53 48 (by decide))) ((f78 49 (by decide)).trans (f53 49 (by decide))) hI47
       have I99 : jI50 σ76 := jI50_fr ((f78 52 (by decide)).trans (f53 52 (by decide))) hI50
       have I100 : jI0 σ76 := jI0_fr ((f78 1 (by decide)).trans (f53 1 (by decide))) hI0
       have I101 : jI26 σ76 := jI26_fr ((congrFun (f78 26 (by decide)) 6).trans (congrFun (f53 26 (by decide)) 6)) hI26
       have I102 : jI101 σ76 := jI101_fr (f79 4 (by decide)) (f79 5 (by decide)) (f78 56 (by decide)) (f78 57 (by decide)) (f78 58 (by decide)) (f78 59 (by decide)) I65
       have I103 : jI102 σ76 := jI102_fr (f79 6 (by decide)) (f78 60 (by decide)) (f78 61 (by decide)) I66
       have I104 : jI103 σ76 := jI103_fr (f79 9 (by decide)) I67
       have I105 : jI104 σ76 := jI104_fr (f79 10 (by decide)) (f79 12 (by decide)) (f79 13 (by decide)) (f78 62 (by decide)) (f78 67 (by decide)) I68
       have I106 : jI105 σ76 := jI105_fr (f79 15 (by decide)) (f78 65 (by decide)) I69
       have I107 : jI106 σ76 := jI106_fr (f79 32 (by decide)) (f78 70 (by decide)) (f78 71 (by decide)) (f78 72 (by decide)) I70
       have I108 : jI107 σ76 := jI107_fr ((f79 12 (by decide)).trans (congrFun (f53 55 (by decide)) 12)) ((f79 47 (by decide)).trans (congrFun (f53 55 (by decide)) 47)) ((f78 80 (by decide)).trans (f53 80 (by decide))) hI107
       have I109 : jI109 σ76 := jI109_fr ((f79 50 (by decide)).trans (congrFun (f53 55 (by decide)) 50)) hI109
       have I110 : jI110 σ76 := jI110_fr ((f78 86 (by decide)).trans (f53 86 (by decide))) ((f78 87 (by decide)).trans (f53 87 (by decide))) hI110
       have I111 : jI111 σ76 := jI111_fr ((f78 79 (by decide)).trans (f53 79 (by decide))) hI111
       have p112 : jBook σ76 := jBook.fr ((f79 47 (by decide)).trans (congrFun (f53 55 (by decide)) 47)) ((f79 10 (by decide)).trans (congrFun (f53 55 (by decide)) 10)) ((f78 81 (by decide)).trans (f53 81 (by decide))) hs_jBook
       have p113 : jNd12 σ76 := jNd12.fr ((congrFun (f78 12 (by decide)) 0).trans (congrFun (f53 12 (by decide)) 0)) ((congrFun (f78 12 (by decide)) 1).trans (congrFun (f53 12 (by decide)) 1)) ((f78 13 (by decide)).trans (f53 13 (by decide))) hs_jNd12
       have p114 : jN67 σ76 := jN67.fr (f78 24 (by decide)) p56
       have p115 : jBl σ76 := jBl.fr (congrFun (f78 22 (by decide)) 0) (congrFun (f78 22 (by decide)) 1) (f78 23 (by decide)) (congrFun (f78 26 (by decide)) 6) (congrFun (f78 26 (by decide)) 7) (f78 29 (by decide)) (f78 30 (by decide)) p57
       have p116 : jKb σ76 := jKb.fr (congrFun (f78 31 (by decide)) 8) (congrFun (f78 31 (by decide)) 11) (f78 32 (by decide)) p58
       have p117 : jKh σ76 := jKh.fr (congrFun (f78 31 (by decide)) 8) (f78 32 (by decide)) (f78 36 (by decide)) (f78 37 (by decide)) p62
       have p118 : jKg σ76 := jKg.fr (congrFun (f78 31 (by decide)) 8) (congrFun (f78 31 (by decide)) 9) (congrFun (f78 31 (by decide)) 11) (congrFun (f78 31 (by decide)) 12) (f78 32 (by decide)) (f78 33 (by decide)) p60
       have p119 : jNz σ76 := jNz.fr (f78 34 (by decide)) p61
       have z120 : (σ76 2 0).toInt = (σ 2 0).toInt := (congrArg Int32.toInt (show σ76 2 0 = (σ 2 0) from ((congrFun (f78 2 (by decide)) 0).trans (congrFun (f53 2 (by decide)) 0))))
       have z121 : (σ76 55 6).toInt = (σ 55 6).toInt := (congrArg Int32.toInt (show σ76 55 6 = (σ 55 6) from ((f79 6 (by decide)).trans (congrFun (f53 55 (by decide)) 6))))
       have z122 : (σ76 2 2).toInt = (σ 2 2).toInt := (congrArg Int32.toInt (show σ76 2 2 = (σ 2 2) from ((congrFun (f78 2 (by decide)) 2).trans (congrFun (f53 2 (by decide)) 2))))
       have z123 : (σ76 55 5).toInt = (σ 55 5).toInt := (congrArg Int32.toInt (show σ76 55 5 = (σ 55 5) from ((f79 5 (by decide)).trans (congrFun (f53 55 (by decide)) 5))))
       have z124 : (σ76 2 3).toInt = (σ 2 3).toInt := (congrArg Int32.toInt (show σ76 2 3 = (σ 2 3) from ((congrFun (f78 2 (by decide)) 3).trans (congrFun (f53 2 (by decide)) 3))))
       have z125 : (σ76 55 4).toInt = (σ 55 4).toInt := (congrArg Int32.toInt (show σ76 55 4 = (σ 55 4) from ((f79 4 (by decide)).trans (congrFun (f53 55 (by decide)) 4))))
       have z126 : (σ76 9 0).toInt = (σ 9 0).toInt := (congrArg Int32.toInt (show σ76 9 0 = (σ 9 0) from ((congrFun (f78 9 (by decide)) 0).trans (congrFun (f53 9 (by decide)) 0))))
       have z127 : (σ76 55 15).toInt = (σ 55 15).toInt := (congrArg Int32.toInt (show σ76 55 15 = (σ 55 15) from ((f79 15 (by decide)).trans (congrFun (f53 55 (by decide)) 15))))
       have z128 : (σ76 16 0).toInt = (σ 16 0).toInt := (congrArg Int32.toInt (show σ76 16 0 = (σ 16 0) from ((congrFun (f78 16 (by decide)) 0).trans (congrFun (f53 16 (by decide)) 0))))
       have z129 : (σ76 55 10).toInt = (σ 55 10).toInt := (congrArg Int32.toInt (show σ76 55 10 = (σ 55 10) from ((f79 10 (by decide)).trans (congrFun (f53 55 (by decide)) 10))))
       have z130 : (σ76 16 1).toInt = (σ 16 1).toInt := (congrArg Int32.toInt (show σ76 16 1 = (σ 16 1) from ((congrFun (f78 16 (by decide)) 1).trans (congrFun (f53 16 (by decide)) 1))))
       have z131 : (σ76 55 12).toInt = (σ 55 12).toInt := (congrArg Int32.toInt (show σ76 55 12 = (σ 55 12) from ((f79 12 (by decide)).trans (congrFun (f53 55 (by decide)) 12))))
       have z132 : (σ76 16 2).toInt = (σ 16 2).toInt := (congrArg Int32.toInt (show σ76 16 2 = (σ 16 2) from ((congrFun (f78 16 (by decide)) 2).trans (congrFun (f53 16 (by decide)) 2))))
       have z133 : (σ76 55 13).toInt = (σ 55 13).toInt := (congrArg Int32.toInt (show σ76 55 13 = (σ 55 13) from ((f79 13 (by decide)).trans (congrFun (f53 55 (by decide)) 13))))
       have z134 : (σ76 38 0).toInt = (σ 38 0).toInt := (congrArg Int32.toInt (show σ76 38 0 = (σ 38 0) from ((congrFun (f78 38 (by decide)) 0).trans (congrFun (f53 38 (by decide)) 0))))
       have z135 : (σ76 55 32).toInt = (σ 55 32).toInt := (congrArg Int32.toInt (show σ76 55 32 = (σ 55 32) from ((f79 32 (by decide)).trans (congrFun (f53 55 (by decide)) 32))))
       have z136 : (σ76 38 1).toInt = (σ 38 1).toInt := (congrArg Int32.toInt (show σ76 38 1 = (σ 38 1) from ((congrFun (f78 38 (by decide)) 1).trans (congrFun (f53 38 (by decide)) 1))))
       have z137 : (σ76 55 55).toInt = (σ 55 55).toInt := (congrArg Int32.toInt (show σ76 55 55 = (σ 55 55) from ((f79 55 (by decide)).trans (congrFun (f53 55 (by decide)) 55))))
       have z138 : (σ76 47 0).toInt = (σ 47 0).toInt := (congrArg Int32.toInt (show σ76 47 0 = (σ 47 0) from ((congrFun (f78 47 (by decide)) 0).trans (congrFun (f53 47 (by decide)) 0))))
       have z139 : (σ76 55 47).toInt = (σ 55 47).toInt := (congrArg Int32.toInt (show σ76 55 47 = (σ 55 47) from ((f79 47 (by decide)).trans (congrFun (f53 55 (by decide)) 47))))
       have z140 : (σ76 55 30).toInt = (σ 55 30).toInt := (congrArg Int32.toInt (show σ76 55 30 = (σ 55 30) from ((f79 30 (by decide)).trans (congrFun (f53 55 (by decide)) 30))))
       have z141 : (σ76 55 31).toInt = (σ 55 31).toInt := (congrArg Int32.toInt (show σ76 55 31 = (σ 55 31) from ((f79 31 (by decide)).trans (congrFun (f53 55 (by decide)) 31))))
       have z142 : (σ76 2 1).toInt = (σ 2 1).toInt := (congrArg Int32.toInt (show σ76 2 1 = (σ 2 1) from ((congrFun (f78 2 (by decide)) 1).trans (congrFun (f53 2 (by decide)) 1))))
       have z143 : (σ76 55 9).toInt = (σ 55 9).toInt := (congrArg Int32.toInt (show σ76 55 9 = (σ 55 9) from ((f79 9 (by decide)).trans (congrFun (f53 55 (by decide)) 9))))
       have z144 : (σ76 26 6).toInt = (σ 26 6).toInt := (congrArg Int32.toInt (show σ76 26 6 = (σ 26 6) from ((congrFun (f78 26 (by decide)) 6).trans (congrFun (f53 26 (by decide)) 6))))
       have z146 : (σ76 18 0).toInt = (σ 18 0).toInt := (congrArg Int32.toInt (show σ76 18 0 = (σ 18 0) from ((congrFun (f78 18 (by decide)) 0).trans (congrFun (f53 18 (by decide)) 0))))
       have z147 : (σ76 22 0).toInt = (σ 22 0).toInt := (congrArg Int32.toInt (show σ76 22 0 = (σ 22 0) from ((congrFun (f78 22 (by decide)) 0).trans (congrFun (f53 22 (by decide)) 0))))
       exact by exact ih x88 σ76 τ _ _ ls (by have h9 := tx88; omega) ⟨I89, I90, I91, I92, I93, I94, I95, I96, I97, I98, I99, I100, I101, I102, I103, I104, I105, I106, I107, I108, I109, I110, I111, I80, p81, p112, p113, p114, p115, p116, p82, p117, p118, p119, p83, (by rw [z120, z121]; exact ht0), (by rw [z122, z123]; exact ht1), (by rw [z122, z124, z125]; exact ht2), (by rw [z126, z127]; exact ht3), (by rw [z128, z129]; exact ht4), (by rw [z130, z131]; exact ht5), (by rw [z132, z133]; exact ht6), (by rw [z134, z135]; exact ht7), (by rw [z136, z137]; exact ht8), (by rw [z138, z139]; exact ht9), (by rw [z140]; exact ht10), (by rw [z141]; exact ht11), (by rw [z142, z143]; exact ht12), (by omega), (by have h9 := tx88; omega), (by have h9 := tx88; omega), (show jNumP (σ76 3) (σ76 56) (σ76 6) (σ76 57) (σ76 7) (σ76 58) (σ76 8) (σ76 59) (σ76 55 6).toInt (σ76 55 4).toInt by rw [show σ76 3 = σ 3 from ((f78 3 (by decide)).trans (f53 3 (by decide))), show σ76 56 = σ 56 from ((f78 56 (by decide)).trans (f53 56 (by decide))), show σ76 6 = σ 6 from ((f78 6 (by decide)).trans (f53 6 (by decide))), show σ76 57 = σ 57 from ((f78 57 (by decide)).trans (f53 57 (by decide))), show σ76 7 = σ 7 from ((f78 7 (by decide)).trans (f53 7 (by decide))), show σ76 58 = σ 58 from ((f78 58 (by decide)).trans (f53 58 (by decide))), show σ76 8 = σ 8 from ((f78 8 (by decide)).trans (f53 8 (by decide))), show σ76 59 = σ 59 from ((f78 59 (by decide)).trans (f53 59 (by decide))), show (σ76 55 6).toInt = (σ 55 6).toInt from z121, show (σ76 55 4).toInt = (σ 55 4).toInt from z125]; exact hr0), (show jOvP (σ76 56) (σ76 57) (σ76 58) (σ76 59) (σ76 55 4).toInt by rw [show σ76 56 = σ 56 from ((f78 56 (by decide)).trans (f53 56 (by decide))), show σ76 57 = σ 57 from ((f78 57 (by decide)).trans (f53 57 (by decide))), show σ76 58 = σ 58 from ((f78 58 (by decide)).trans (f53 58 (by decide))), show σ76 59 = σ 59 from ((f78 59 (by decide)).trans (f53 59 (by decide))), show (σ76 55 4).toInt = (σ 55 4).toInt from z125]; exact hr1), (show jTp (σ76 10) (σ76 63) (σ76 55 15).toInt by rw [show σ76 10 = σ 10 from ((f78 10 (by decide)).trans (f53 10 (by decide))), show σ76 63 = σ 63 from ((f78 63 (by decide)).trans (f53 63 (by decide)))]; exact hr2.le (by omega)), (show jSo (σ76 17) (σ76 62) (σ76 16 0).toInt by rw [show σ76 17 = σ 17 from ((f78 17 (by decide)).trans (f53 17 (by decide))), show σ76 62 = σ 62 from ((f78 62 (by decide)).trans (f53 62 (by decide))), show (σ76 16 0).toInt = (σ 16 0).toInt from z128]; exact hr3), (show jShP (σ76 51) (σ76 52) (σ76 53) (σ76 86) (σ76 87) (σ76 55 32).toInt by rw [show σ76 51 = σ 51 from ((f78 51 (by decide)).trans (f53 51 (by decide))), show σ76 52 = σ 52 from ((f78 52 (by decide)).trans (f53 52 (by decide))), show σ76 53 = σ 53 from ((f78 53 (by decide)).trans (f53 53 (by decide))), show σ76 86 = σ 86 from ((f78 86 (by decide)).trans (f53 86 (by decide))), show σ76 87 = σ 87 from ((f78 87 (by decide)).trans (f53 87 (by decide)))]; exact (hr4.up (by omega) (by omega))), (show jEl (σ76 51) (σ76 52) (τ 54) (τ 88) by rw [show σ76 51 = σ 51 from ((f78 51 (by decide)).trans (f53 51 (by decide))), show σ76 52 = σ 52 from ((f78 52 (by decide)).trans (f53 52 (by decide)))]; exact hr5), (show jByP (σ76 51) (σ76 52) (τ 54) by rw [show σ76 51 = σ 51 from ((f78 51 (by decide)).trans (f53 51 (by decide))), show σ76 52 = σ 52 from ((f78 52 (by decide)).trans (f53 52 (by decide)))]; exact hr6), (show jBk (σ76 48) (σ76 80) (σ76 49) (σ76 81) (σ76 55 47).toInt by rw [show σ76 48 = σ 48 from ((f78 48 (by decide)).trans (f53 48 (by decide))), show σ76 49 = σ 49 from ((f78 49 (by decide)).trans (f53 49 (by decide))), show σ76 80 = σ 80 from ((f78 80 (by decide)).trans (f53 80 (by decide))), show σ76 81 = σ 81 from ((f78 81 (by decide)).trans (f53 81 (by decide))), show (σ76 55 47).toInt = (σ 55 47).toInt from z139]; exact hr7), (show jKd (σ76 39) (σ76 70) (σ76 55 32).toInt by rw [show σ76 39 = σ 39 from ((f78 39 (by decide)).trans (f53 39 (by decide))), show σ76 70 = σ 70 from ((f78 70 (by decide)).trans (f53 70 (by decide))), show (σ76 55 32).toInt = (σ 55 32).toInt from z135]; exact hr8), (show jTt (σ76 42) (σ76 85) (σ76 55 55).toInt by rw [show σ76 42 = σ 42 from ((f78 42 (by decide)).trans (f53 42 (by decide))), show σ76 85 = σ 85 from ((f78 85 (by decide)).trans (f53 85 (by decide))), show (σ76 55 55).toInt = (σ 55 55).toInt from z137]; exact hr9), (fun k hk => by rw [show σ76 4 = σ 4 from ((f78 4 (by decide)).trans (f53 4 (by decide))), show σ76 5 = σ 5 from ((f78 5 (by decide)).trans (f53 5 (by decide))), show σ76 60 = σ 60 from ((f78 60 (by decide)).trans (f53 60 (by decide))), show σ76 61 = σ 61 from ((f78 61 (by decide)).trans (f53 61 (by decide)))]; exact hr10 k (by omega)), (fun nm => by rw [show σ76 19 = σ 19 from ((f78 19 (by decide)).trans (f53 19 (by decide))), show σ76 64 = σ 64 from ((f78 64 (by decide)).trans (f53 64 (by decide))), show σ76 65 = σ 65 from ((f78 65 (by decide)).trans (f53 65 (by decide))), show (σ76 18 0).toInt = (σ 18 0).toInt from z146]; exact hr11 nm), (fun nm => by rw [show σ76 23 = σ 23 from ((f78 23 (by decide)).trans (f53 23 (by decide))), show σ76 64 = σ 64 from ((f78 64 (by decide)).trans (f53 64 (by decide))), show σ76 65 = σ 65 from ((f78 65 (by decide)).trans (f53 65 (by decide))), show (σ76 22 0).toInt = (σ 22 0).toInt from z147]; exact hr12 nm), (show jAlP (σ76 56) (σ76 57) (σ76 58) (σ76 59) (σ76 55 4).toInt by rw [show σ76 56 = σ 56 from ((f78 56 (by decide)).trans (f53 56 (by decide))), show σ76 57 = σ 57 from ((f78 57 (by decide)).trans (f53 57 (by decide))), show σ76 58 = σ 58 from ((f78 58 (by decide)).trans (f53 58 (by decide))), show σ76 59 = σ 59 from ((f78 59 (by decide)).trans (f53 59 (by decide))), show (σ76 55 4).toInt = (σ 55 4).toInt from z125]; exact hr13), (show jqbN (σ76 80) (σ76 55 47).toInt by rw [show σ76 80 = σ 80 from ((f78 80 (by decide)).trans (f53 80 (by decide))), show (σ76 55 47).toInt = (σ 55 47).toInt from z139]; exact hr14)⟩ hP hS (lv_sub hl [0, 1, 2, 3] rfl)
set_option maxHeartbeats 4000000 in
set_option maxRecDepth 100000 in
theorem law_case_12 {p : Program} {e : Env} {s : State} {m : MethodId} {below : List Frame} {meth : Method} {c : Code} (l : Launch) {b L : Nat} {xs : Nat → Int32} {D : va_G} {cI cL : ClassId} {ad zz : Nat → Nat} (C0 : lw_At p s m meth c b L xs) (hJ : jD ad) (hA : ∀ q, jA ad q → s.heap.size ≤ q) (hK : jK D cI cL s) (hZ : jZ zz (fun q : Nat => s.heap.size ≤ q) s s.heap) {x0 : Int32} (hx0 : 0 ≤ x0.toInt) (hxL : x0.toInt + 6 ≤ (L : Int)) (hL : L ≤ 384) {σ : Nat → Nat → Int32} {τ : Nat → Nat → Int64} {H : Heap} {locs : List Loc} (hS : va_S (fun q : Nat => s.heap.size ≤ q) s.heap H locs) {ls : Array Slot} (hAll : jAll x0.toInt σ τ) (hP : jH D cI cL ad σ τ H) (hl : lv_has ls 4 [(3, .int x0), (2, .ref (ad 55)), (1, .ref (ad 0)), (0, .ref b)]) (ih : ∀ (x1 : Int32) (σ : Nat → Nat → Int32) (τ : Nat → Nat → Int64) (H : Heap) (locs : List Loc) (ls : Array Slot), x1.toInt = x0.toInt + 6 → jAll x1.toInt σ τ → jH D cI cL ad σ τ H → va_S (fun q : Nat => s.heap.size ≤ q) s.heap H locs → lv_has ls 4 [(3, .int x1), (2, .ref (ad 55)), (1, .ref (ad 0)), (0, .ref b)] → W p l e room_1 s m #[Value.ref b] below meth c H locs 90 348600 (lw_Z below #[Value.ref b] s) (F0 m 18 ls [])) : W p l e room_1 s m #[Value.ref b] below meth c H locs 90 348600 (lw_Z below #[Value.ref b] s) (F0 m 572 ls []) := by
  obtain ⟨hx, hb, hr, hml, hown, hts0, hX, hbl, hlocks, hgv⟩ := C0
  have hts : ∀ w ∈ wsL_law, w.before #[Value.ref b] s = true := fun w h => hts0 w (wsL_law_in w h)
  have hbA : ¬ (fun q : Nat => s.heap.size ≤ q) b := Nat.not_le.mpr hbl
  have hown : s.vm.findClass RL = some m.cls := hown
  obtain ⟨hI2, hI9, hI12, hI16, hI18, hI22, hI31, hI38, hI43, hI47, hI50, hI0, hI26, hI101, hI102, hI103, hI104, hI105, hI106, hI107, hI109, hI110, hI111, hI119, hs_jKept, hs_jBook, hs_jNd12, hs_jN67, hs_jBl, hs_jKb, hs_jTR, hs_jKh, hs_jKg, hs_jNz, hs_jqSt, ht0, ht1, ht2, ht3, ht4, ht5, ht6, ht7, ht8, ht9, ht10, ht11, ht12, ht13, ht14, ht15, hr0, hr1, hr2, hr3, hr4, hr5, hr6, hr7, hr8, hr9, hr10, hr11, hr12, hr13, hr14⟩ := hAll
  have hL9 : (L : Int) ≤ 384 := by omega
  obtain ⟨i1, i2, i3, i4, i5, w6, w7⟩ : (0 ≤ (σ 2 0).toInt ∧ (σ 2 0).toInt ≤ 4) ∧ (0 ≤ (σ 2 1).toInt ∧ (σ 2 1).toInt ≤ 3) ∧ (0 ≤ (σ 2 2).toInt) ∧ (0 ≤ (σ 2 3).toInt) ∧ ((σ 2 2).toInt + (σ 2 3).toInt ≤ 40) ∧ (∀ k : Nat, k < 40 → 0 ≤ (σ 6 k).toInt ∧ (σ 6 k).toInt ≤ 67) ∧ (∀ k : Nat, k < 4 → 0 ≤ (σ 5 k).toInt ∧ (σ 5 k).toInt ≤ 20) := id hI2
  obtain ⟨i8, w9, w10⟩ : (0 ≤ (σ 9 0).toInt ∧ (σ 9 0).toInt ≤ 80) ∧ (∀ k : Nat, k < 80 → 0 ≤ (σ 10 k).toInt ∧ (σ 10 k).toInt ≤ 255) ∧ (∀ k : Nat, k < 8 → 0 ≤ (σ 11 k).toInt ∧ (σ 11 k).toInt ≤ 3) := id hI9
  obtain ⟨i11, i12, i13, w14⟩ : (1 ≤ (σ 16 0).toInt ∧ (σ 16 0).toInt ≤ 8) ∧ (1 ≤ (σ 16 1).toInt ∧ (σ 16 1).toInt ≤ 12) ∧ (0 ≤ (σ 16 2).toInt ∧ (σ 16 2).toInt ≤ 999) ∧ (∀ k : Nat, k < 8 → 0 ≤ (σ 17 k).toInt ∧ (σ 17 k).toInt ≤ 3) := id hI16
  obtain ⟨i15, i16, w17⟩ : (0 ≤ (σ 38 0).toInt ∧ (σ 38 0).toInt ≤ 20) ∧ (0 ≤ (σ 38 1).toInt ∧ (σ 38 1).toInt ≤ 1000) ∧ (∀ k : Nat, k < 20 → 0 ≤ (σ 39 k).toInt ∧ (σ 39 k).toInt ≤ 6) := id hI38
  obtain ⟨i18, w19, w20⟩ : (0 ≤ (σ 47 0).toInt ∧ (σ 47 0).toInt ≤ 12) ∧ (∀ k : Nat, k < 12 → 0 ≤ (σ 48 k).toInt ∧ (σ 48 k).toInt ≤ 3) ∧ (∀ k : Nat, k < 12 → 0 ≤ (σ 49 k).toInt ∧ (σ 49 k).toInt ≤ 1) := id hI47
  have w21 : ∀ k : Nat, k < 6 → 0 ≤ (σ 52 k).toInt ∧ (σ 52 k).toInt ≤ 60 := hI50
  have i22 : 1 ≤ (σ 26 6).toInt ∧ (σ 26 6).toInt ≤ 8000 := hI26
  obtain ⟨i23, i24, i25, w26, w27, w28, w29⟩ : (0 ≤ (σ 55 5).toInt) ∧ ((σ 55 5).toInt ≤ (σ 55 4).toInt) ∧ ((σ 55 4).toInt ≤ 40) ∧ (∀ k : Nat, k < 68 → (-200) ≤ (σ 56 k).toInt ∧ (σ 56 k).toInt ≤ 500) ∧ (∀ k : Nat, k < 40 → 0 ≤ (σ 57 k).toInt ∧ (σ 57 k).toInt ≤ 67) ∧ (∀ k : Nat, k < 40 → (-200) ≤ (σ 58 k).toInt ∧ (σ 58 k).toInt ≤ 500) ∧ (∀ k : Nat, k < 40 → (-200) ≤ (σ 59 k).toInt ∧ (σ 59 k).toInt ≤ 500) := id hI101
  obtain ⟨i30, w31, w32⟩ : (0 ≤ (σ 55 6).toInt ∧ (σ 55 6).toInt ≤ 4) ∧ (∀ k : Nat, k < 4 → 0 ≤ (σ 60 k).toInt ∧ (σ 60 k).toInt ≤ 50) ∧ (∀ k : Nat, k < 4 → 0 ≤ (σ 61 k).toInt ∧ (σ 61 k).toInt ≤ 20) := id hI102
  have i33 : 0 ≤ (σ 55 9).toInt ∧ (σ 55 9).toInt ≤ 3 := hI103
  obtain ⟨i34, i35, i36, w37, w38⟩ : (1 ≤ (σ 55 10).toInt ∧ (σ 55 10).toInt ≤ 8) ∧ (1 ≤ (σ 55 12).toInt ∧ (σ 55 12).toInt ≤ 12) ∧ (0 ≤ (σ 55 13).toInt ∧ (σ 55 13).toInt ≤ 999) ∧ (∀ k : Nat, k < 8 → 0 ≤ (σ 62 k).toInt ∧ (σ 62 k).toInt ≤ 3) ∧ (∀ k : Nat, k < 8 → 0 ≤ (σ 67 k).toInt ∧ (σ 67 k).toInt ≤ 3) := id hI104
  obtain ⟨i39, w40⟩ : (0 ≤ (σ 55 15).toInt ∧ (σ 55 15).toInt ≤ 80) ∧ (∀ k : Nat, k < 2 → (-1) ≤ (σ 65 k).toInt ∧ (σ 65 k).toInt ≤ 80) := id hI105
  obtain ⟨i41, w42, w43, w44⟩ : (0 ≤ (σ 55 32).toInt ∧ (σ 55 32).toInt ≤ 20) ∧ (∀ k : Nat, k < 20 → 0 ≤ (σ 70 k).toInt ∧ (σ 70 k).toInt ≤ 6) ∧ (∀ k : Nat, k < 20 → 0 ≤ (σ 71 k).toInt ∧ (σ 71 k).toInt ≤ 8) ∧ (∀ k : Nat, k < 160 → 0 ≤ (σ 72 k).toInt ∧ (σ 72 k).toInt ≤ 3) := id hI106
  obtain ⟨i45, i46, w47⟩ : (0 ≤ (σ 55 47).toInt ∧ (σ 55 47).toInt ≤ 12) ∧ ((σ 55 47).toInt ≤ (σ 55 12).toInt) ∧ (∀ k : Nat, k < 12 → 0 ≤ (σ 80 k).toInt ∧ (σ 80 k).toInt ≤ 3) := id hI107
  have hs_jOk3 : jOk3 σ := hr0.ok hr1.1
  refine lv_aload_n hx hb dL_law_572 rfl (lv_at hl 2 rfl) ?_
  refine lv_aload_n hx hb dL_law_573 rfl (lv_at hl 3 rfl) ?_
  refine lv_iload_n hx hb dL_law_574 rfl (lv_at hl 0 rfl) ?_
  refine lv_iconst (v := 1) hx hb dL_law_575 (by decide) ?_
  have g48 := jrg (rfl : x0.toInt = x0.toInt)
  refine lv_iadd hx hb dL_law_576 ?_
  refine lv_topi (fun x49 ex49 => ?_)
  exact by
   have tx49 : x49.toInt = x0.toInt + 1 := (jadd ex49 rfl jz_1 (by omega) (by omega)).trans (by omega)
   refine va_sld hx hb hX hbl hbA hS (jin tx49 (by omega) (by omega)) dL_law_577 ?_
   have g50 := jrg (rfl : (xs x49.toNatClampNeg).toInt = (xs x49.toNatClampNeg).toInt)
   refine lv_aload_n hx hb dL_law_578 rfl (lv_at hl 3 rfl) ?_
   refine lv_iload_n hx hb dL_law_579 rfl (lv_at hl 0 rfl) ?_
   refine lv_iconst (v := 2) hx hb dL_law_580 (by decide) ?_
   refine lv_iadd hx hb dL_law_581 ?_
   refine lv_topi (fun x51 ex51 => ?_)
   have tx51 : x51.toInt = x0.toInt + 2 := (jadd ex51 rfl jz_2 (by omega) (by omega)).trans (by omega)
   exact by
    refine va_sld hx hb hX hbl hbA hS (jin tx51 (by omega) (by omega)) dL_law_582 ?_
    have g52 := jrg (rfl : (xs x51.toNatClampNeg).toInt = (xs x51.toNatClampNeg).toInt)
    refine jcallV (As := [.int (xs x49.toNatClampNeg), .int (xs x51.toNatClampNeg)]) (rest := []) ⟨hx, hb, hml, hown, hts⟩ hK hP hA hS hZ (c_X11_likely l D cI cL ad zz hJ σ τ (xs x49.toNatClampNeg) ((xs x49.toNatClampNeg).toInt) rfl (xs x51.toNatClampNeg) ((xs x51.toNatClampNeg).toInt) rfl hI2 hI16 hI18 hI22 hI31 hI38 hI26 hs_jN67 hs_jBl hs_jKb hs_jKh hs_jKg hs_jNz hs_jKh) cw_RL_65 (jc_0 cI cL ad σ τ) rfl ⟨Nat.le_of_ble_eq_true rfl, Nat.le_of_ble_eq_true rfl⟩ rfl rfl rfl hl.1 rfl (Nat.le_of_ble_eq_true rfl) dL_law_583 ⟨Nat.le_of_ble_eq_true rfl, Nat.le_of_ble_eq_true rfl⟩ (fun r54 σ53 τ53 H locs h53 hP hS => ?_)
    obtain ⟨rfl, f55, f56, I57, p58, p59, p60, p61, p62, p63, p64, w65, h53⟩ := h53
    refine lv_pop hx hb dL_law_586 rfl ?_
    refine lv_aload_n hx hb dL_law_587 rfl (lv_at hl 1 rfl) ?_
    refine lv_aload_n hx hb dL_law_588 rfl (lv_at hl 3 rfl) ?_
    refine lv_iload_n hx hb dL_law_589 rfl (lv_at hl 0 rfl) ?_
    refine lv_iconst (v := 1) hx hb dL_law_590 (by decide) ?_
    refine lv_iadd hx hb dL_law_591 ?_
    refine jtopr ex49.symm ?_
    exact by
     refine va_sld hx hb hX hbl hbA hS (jin tx49 (by omega) (by omega)) dL_law_592 ?_
     refine lv_aload_n hx hb dL_law_593 rfl (lv_at hl 3 rfl) ?_
     refine lv_iload_n hx hb dL_law_594 rfl (lv_at hl 0 rfl) ?_
     refine lv_iconst (v := 2) hx hb dL_law_595 (by decide) ?_
     refine lv_iadd hx hb dL_law_596 ?_
     refine jtopr ex51.symm ?_
     refine va_sld hx hb hX hbl hbA hS (jin tx51 (by omega) (by omega)) dL_law_597 ?_
     have I67 : jI101 σ53 := jI101_fr (congrFun (f55 55 (by decide)) 4) (congrFun (f55 55 (by decide)) 5) (f55 56 (by decide)) (f55 57 (by decide)) (f55 58 (by decide)) (f55 59 (by decide)) hI101
     have I68 : jI102 σ53 := jI102_fr (congrFun (f55 55 (by decide)) 6) (f55 60 (by decide)) (f55 61 (by decide)) hI102
     exact by
      have I69 : jI103 σ53 := jI103_fr (congrFun (f55 55 (by decide)) 9) hI103
      have I70 : jI104 σ53 := jI104_fr (congrFun (f55 55 (by decide)) 10) (congrFun (f55 55 (by decide)) 12) (congrFun (f55 55 (by decide)) 13) (f55 62 (by decide)) (f55 67 (by decide)) hI104
      have I71 : jI105 σ53 := jI105_fr (congrFun (f55 55 (by decide)) 15) (f55 65 (by decide)) hI105
      have I72 : jI106 σ53 := jI106_fr (congrFun (f55 55 (by decide)) 32) (f55 70 (by decide)) (f55 71 (by decide)) (f55 72 (by decide)) hI106
      have I73 : jI119 σ53 := jI119_fr (f55 68 (by decide)) hI119
      have p74 : jKept σ53 := jKept.fr (f55 75 (by decide)) (f55 76 (by decide)) (f55 77 (by decide)) hs_jKept
      have p75 : jTR σ53 := jTR.fr (f55 64 (by decide)) (f55 65 (by decide)) hs_jTR
      have p76 : jqSt σ53 := jqSt.fr (f55 78 (by decide)) (congrFun (f55 55 (by decide)) 42) hs_jqSt
      have z77 : (σ53 55 42).toInt = (σ 55 42).toInt := (congrArg Int32.toInt (show σ53 55 42 = (σ 55 42) from (congrFun (f55 55 (by decide)) 42)))
      exact by
       refine jcallV (As := [.int (xs x49.toNatClampNeg), .int (xs x51.toNatClampNeg)]) (rest := []) ⟨hx, hb, hml, hown, hts⟩ hK hP hA hS hZ (c_X12_likely l D cI cL ad zz hJ σ53 τ (xs x49.toNatClampNeg) ((xs x49.toNatClampNeg).toInt) rfl (xs x51.toNatClampNeg) ((xs x51.toNatClampNeg).toInt) rfl I67 I68 I69 I70 I71 I72 I73 p74 p75 p76 (by omega)) cw_RL_68 (jc_55 cI cL ad σ53 τ) rfl ⟨Nat.le_of_ble_eq_true rfl, Nat.le_of_ble_eq_true rfl⟩ rfl rfl rfl hl.1 rfl (Nat.le_of_ble_eq_true rfl) dL_law_598 ⟨Nat.le_of_ble_eq_true rfl, Nat.le_of_ble_eq_true rfl⟩ (fun r79 σ78 τ78 H locs h78 hP hS => ?_)
       obtain ⟨rfl, f80, f81, I82, p83, p84, p85, w86, h78⟩ := h78
       obtain ⟨k88, k89, h78⟩ := h78
       refine lv_pop hx hb dL_law_601 rfl ?_
       refine lv_goto (tgt := 1357) hx hb dL_law_602 (by decide) ?_
       obtain ⟨x90, ex90⟩ : ∃ y : Int32, y = x0 + 6 := ⟨_, rfl⟩
       have tx90 : x90.toInt = x0.toInt + 6 := (jadd ex90 rfl jz_6 (by omega) (by omega)).trans (by omega)
       refine lv_iinc (v := x90) (lv' := [(3, .int x90), (2, .ref (ad 55)), (1, .ref (ad 0)), (0, .ref b)]) hx hb dL_law_1357 hl (k := 0) rfl (by rw [ex90]; rfl) (by decide) rfl (fun ls hl => ?_)
       refine lv_goto (tgt := 18) hx hb dL_law_1360 (by decide) ?_
       exact by
        have I91 : jI2 σ78 := jI2_fr ((congrFun (f80 2 (by decide)) 0).trans (congrFun (f55 2 (by decide)) 0)) ((congrFun (f80 2 (by decide)) 1).trans (congrFun (f55 2 (by decide)) 1)) ((congrFun (f80 2 (by decide)) 2).trans (congrFun (f55 2 (by decide)) 2)) ((congrFun (f80 2 (by decide)) 3).trans (congrFun (f55 2 (by decide)) 3)) ((f80 6 (by decide)).trans (f55 6 (by decide))) ((f80 5 (by decide)).trans (f55 5 (by decide))) hI2
        have I92 : jI9 σ78 := jI9_fr ((congrFun (f80 9 (by decide)) 0).trans (congrFun (f55 9 (by decide)) 0)) ((f80 10 (by decide)).trans (f55 10 (by decide))) ((f80 11 (by decide)).trans (f55 11 (by decide))) hI9
        have I93 : jI12 σ78 := jI12_fr ((congrFun (f80 12 (by decide)) 0).trans (congrFun (f55 12 (by decide)) 0)) ((f80 13 (by decide)).trans (f55 13 (by decide))) hI12
        have I94 : jI16 σ78 := jI16_fr ((congrFun (f80 16 (by decide)) 0).trans (congrFun (f55 16 (by decide)) 0)) ((congrFun (f80 16 (by decide)) 1).trans (congrFun (f55 16 (by decide)) 1)) ((congrFun (f80 16 (by decide)) 2).trans (congrFun (f55 16 (by decide)) 2)) ((f80 17 (by decide)).trans (f55 17 (by decide))) hI16
        have I95 : jI18 σ78 := jI18_fr ((congrFun (f80 18 (by decide)) 0).trans (congrFun (f55 18 (by decide)) 0)) ((f80 19 (by decide)).trans (f55 19 (by decide))) hI18
        have I96 : jI22 σ78 := jI22_fr ((congrFun (f80 22 (by decide)) 0).trans (congrFun (f55 22 (by decide)) 0)) ((f80 23 (by decide)).trans (f55 23 (by decide))) hI22
        have I97 : jI31 σ78 := jI31_fr (congrFun (f80 31 (by decide)) 8) (congrFun (f80 31 (by decide)) 10) (congrFun (f80 31 (by decide)) 11) (f80 33 (by decide)) (f80 35 (by decide)) (f80 36 (by decide)) I57
        have I98 : jI38 σ78 := jI38_fr ((congrFun (f80 38 (by decide)) 0).trans (congrFun (f55 38 (by decide)) 0)) ((congrFun (f80 38 (by decide)) 1).trans (congrFun (f55 38 (by decide)) 1)) ((f80 39 (by decide)).trans (f55 39 (by decide))) hI38
        have I99 : jI43 σ78 := jI43_fr ((congrFun (f80 43 (by decide)) 8).trans (congrFun (f55 43 (by decide)) 8)) hI43
        have I100 : jI47 σ78 := jI47_fr ((congrFun (f80 47 (by decide)) 0).trans (congrFun (f55 47 (by decide)) 0)) ((f80 48 (by decide)).trans (f55 48 (by decide))) ((f80 49 (by decide)).trans (f55 49 (by decide))) hI47
        have I101 : jI50 σ78 := jI50_fr ((f80 52 (by decide)).trans (f55 52 (by decide))) hI50
        have I102 : jI0 σ78 := jI0_fr ((f80 1 (by decide)).trans (f55 1 (by decide))) hI0
        have I103 : jI26 σ78 := jI26_fr ((congrFun (f80 26 (by decide)) 6).trans (congrFun (f55 26 (by decide)) 6)) hI26
        have I104 : jI101 σ78 := jI101_fr (f81 4 (by decide)) (f81 5 (by decide)) (f80 56 (by decide)) (f80 57 (by decide)) (f80 58 (by decide)) (f80 59 (by decide)) I67
        have I105 : jI102 σ78 := jI102_fr (f81 6 (by decide)) (f80 60 (by decide)) (f80 61 (by decide)) I68
        have I106 : jI103 σ78 := jI103_fr (f81 9 (by decide)) I69
        have I107 : jI104 σ78 := jI104_fr (f81 10 (by decide)) (f81 12 (by decide)) (f81 13 (by decide)) (f80 62 (by decide)) (f80 67 (by decide)) I70
        have I108 : jI105 σ78 := jI105_fr (f81 15 (by decide)) (f80 65 (by decide)) I71
        have I109 : jI106 σ78 := jI106_fr (f81 32 (by decide)) (f80 70 (by decide)) (f80 71 (by decide)) (f80 72 (by decide)) I72
        have I110 : jI107 σ78 := jI107_fr ((f81 12 (by decide)).trans (congrFun (f55 55 (by decide)) 12)) ((f81 47 (by decide)).trans (congrFun (f55 55 (by decide)) 47)) ((f80 80 (by decide)).trans (f55 80 (by decide))) hI107
        have I111 : jI109 σ78 := jI109_fr ((f81 50 (by decide)).trans (congrFun (f55 55 (by decide)) 50)) hI109
        have I112 : jI110 σ78 := jI110_fr ((f80 86 (by decide)).trans (f55 86 (by decide))) ((f80 87 (by decide)).trans (f55 87 (by decide))) hI110
        have I113 : jI111 σ78 := jI111_fr ((f80 79 (by decide)).trans (f55 79 (by decide))) hI111
        have p114 : jBook σ78 := jBook.fr ((f81 47 (by decide)).trans (congrFun (f55 55 (by decide)) 47)) ((f81 10 (by decide)).trans (congrFun (f55 55 (by decide)) 10)) ((f80 81 (by decide)).trans (f55 81 (by decide))) hs_jBook
        have p115 : jNd12 σ78 := jNd12.fr ((congrFun (f80 12 (by decide)) 0).trans (congrFun (f55 12 (by decide)) 0)) ((congrFun (f80 12 (by decide)) 1).trans (congrFun (f55 12 (by decide)) 1)) ((f80 13 (by decide)).trans (f55 13 (by decide))) hs_jNd12
        have p116 : jN67 σ78 := jN67.fr (f80 24 (by decide)) p58
        have p117 : jBl σ78 := jBl.fr (congrFun (f80 22 (by decide)) 0) (congrFun (f80 22 (by decide)) 1) (f80 23 (by decide)) (congrFun (f80 26 (by decide)) 6) (congrFun (f80 26 (by decide)) 7) (f80 29 (by decide)) (f80 30 (by decide)) p59
        have p118 : jKb σ78 := jKb.fr (congrFun (f80 31 (by decide)) 8) (congrFun (f80 31 (by decide)) 11) (f80 32 (by decide)) p60
        have p119 : jKh σ78 := jKh.fr (congrFun (f80 31 (by decide)) 8) (f80 32 (by decide)) (f80 36 (by decide)) (f80 37 (by decide)) p64
        have p120 : jKg σ78 := jKg.fr (congrFun (f80 31 (by decide)) 8) (congrFun (f80 31 (by decide)) 9) (congrFun (f80 31 (by decide)) 11) (congrFun (f80 31 (by decide)) 12) (f80 32 (by decide)) (f80 33 (by decide)) p62
        have p121 : jNz σ78 := jNz.fr (f80 34 (by decide)) p63
        have z122 : (σ78 2 0).toInt = (σ 2 0).toInt := (congrArg Int32.toInt (show σ78 2 0 = (σ 2 0) from ((congrFun (f80 2 (by decide)) 0).trans (congrFun (f55 2 (by decide)) 0))))
        have z123 : (σ78 55 6).toInt = (σ 55 6).toInt := (congrArg Int32.toInt (show σ78 55 6 = (σ 55 6) from ((f81 6 (by decide)).trans (congrFun (f55 55 (by decide)) 6))))
        have z124 : (σ78 2 2).toInt = (σ 2 2).toInt := (congrArg Int32.toInt (show σ78 2 2 = (σ 2 2) from ((congrFun (f80 2 (by decide)) 2).trans (congrFun (f55 2 (by decide)) 2))))
        have z125 : (σ78 55 5).toInt = (σ 55 5).toInt := (congrArg Int32.toInt (show σ78 55 5 = (σ 55 5) from ((f81 5 (by decide)).trans (congrFun (f55 55 (by decide)) 5))))
        have z126 : (σ78 2 3).toInt = (σ 2 3).toInt := (congrArg Int32.toInt (show σ78 2 3 = (σ 2 3) from ((congrFun (f80 2 (by decide)) 3).trans (congrFun (f55 2 (by decide)) 3))))
        have z127 : (σ78 55 4).toInt = (σ 55 4).toInt := (congrArg Int32.toInt (show σ78 55 4 = (σ 55 4) from ((f81 4 (by decide)).trans (congrFun (f55 55 (by decide)) 4))))
        have z128 : (σ78 9 0).toInt = (σ 9 0).toInt := (congrArg Int32.toInt (show σ78 9 0 = (σ 9 0) from ((congrFun (f80 9 (by decide)) 0).trans (congrFun (f55 9 (by decide)) 0))))
        have z129 : (σ78 55 15).toInt = (σ 55 15).toInt := (congrArg Int32.toInt (show σ78 55 15 = (σ 55 15) from ((f81 15 (by decide)).trans (congrFun (f55 55 (by decide)) 15))))
        have z130 : (σ78 16 0).toInt = (σ 16 0).toInt := (congrArg Int32.toInt (show σ78 16 0 = (σ 16 0) from ((congrFun (f80 16 (by decide)) 0).trans (congrFun (f55 16 (by decide)) 0))))
        have z131 : (σ78 55 10).toInt = (σ 55 10).toInt := (congrArg Int32.toInt (show σ78 55 10 = (σ 55 10) from ((f81 10 (by decide)).trans (congrFun (f55 55 (by decide)) 10))))
        have z132 : (σ78 16 1).toInt = (σ 16 1).toInt := (congrArg Int32.toInt (show σ78 16 1 = (σ 16 1) from ((congrFun (f80 16 (by decide)) 1).trans (congrFun (f55 16 (by decide)) 1))))
        have z133 : (σ78 55 12).toInt = (σ 55 12).toInt := (congrArg Int32.toInt (show σ78 55 12 = (σ 55 12) from ((f81 12 (by decide)).trans (congrFun (f55 55 (by decide)) 12))))
        have z134 : (σ78 16 2).toInt = (σ 16 2).toInt := (congrArg Int32.toInt (show σ78 16 2 = (σ 16 2) from ((congrFun (f80 16 (by decide)) 2).trans (congrFun (f55 16 (by decide)) 2))))
        have z135 : (σ78 55 13).toInt = (σ 55 13).toInt := (congrArg Int32.toInt (show σ78 55 13 = (σ 55 13) from ((f81 13 (by decide)).trans (congrFun (f55 55 (by decide)) 13))))
        have z136 : (σ78 38 0).toInt = (σ 38 0).toInt := (congrArg Int32.toInt (show σ78 38 0 = (σ 38 0) from ((congrFun (f80 38 (by decide)) 0).trans (congrFun (f55 38 (by decide)) 0))))
        have z137 : (σ78 55 32).toInt = (σ 55 32).toInt := (congrArg Int32.toInt (show σ78 55 32 = (σ 55 32) from ((f81 32 (by decide)).trans (congrFun (f55 55 (by decide)) 32))))
        have z138 : (σ78 38 1).toInt = (σ 38 1).toInt := (congrArg Int32.toInt (show σ78 38 1 = (σ 38 1) from ((congrFun (f80 38 (by decide)) 1).trans (congrFun (f55 38 (by decide)) 1))))
        have z139 : (σ78 55 55).toInt = (σ 55 55).toInt := (congrArg Int32.toInt (show σ78 55 55 = (σ 55 55) from ((f81 55 (by decide)).trans (congrFun (f55 55 (by decide)) 55))))
        have z140 : (σ78 47 0).toInt = (σ 47 0).toInt := (congrArg Int32.toInt (show σ78 47 0 = (σ 47 0) from ((congrFun (f80 47 (by decide)) 0).trans (congrFun (f55 47 (by decide)) 0))))
        have z141 : (σ78 55 47).toInt = (σ 55 47).toInt := (congrArg Int32.toInt (show σ78 55 47 = (σ 55 47) from ((f81 47 (by decide)).trans (congrFun (f55 55 (by decide)) 47))))
        have z142 : (σ78 55 30).toInt = (σ 55 30).toInt := (congrArg Int32.toInt (show σ78 55 30 = (σ 55 30) from ((f81 30 (by decide)).trans (congrFun (f55 55 (by decide)) 30))))
        have z143 : (σ78 55 31).toInt = (σ 55 31).toInt := (congrArg Int32.toInt (show σ78 55 31 = (σ 55 31) from ((f81 31 (by decide)).trans (congrFun (f55 55 (by decide)) 31))))
        have z144 : (σ78 2 1).toInt = (σ 2 1).toInt := (congrArg Int32.toInt (show σ78 2 1 = (σ 2 1) from ((congrFun (f80 2 (by decide)) 1).trans (congrFun (f55 2 (by decide)) 1))))
        have z145 : (σ78 55 9).toInt = (σ 55 9).toInt := (congrArg Int32.toInt (show σ78 55 9 = (σ 55 9) from ((f81 9 (by decide)).trans (congrFun (f55 55 (by decide)) 9))))
        have z146 : (σ78 26 6).toInt = (σ 26 6).toInt := (congrArg Int32.toInt (show σ78 26 6 = (σ 26 6) from ((congrFun (f80 26 (by decide)) 6).trans (congrFun (f55 26 (by decide)) 6))))
        have z148 : (σ78 18 0).toInt = (σ 18 0).toInt := (congrArg Int32.toInt (show σ78 18 0 = (σ 18 0) from ((congrFun (f80 18 (by decide)) 0).trans (congrFun (f55 18 (by decide)) 0))))
        have z149 : (σ78 22 0).toInt = (σ 22 0).toInt := (congrArg Int32.toInt (show σ78 22 0 = (σ 22 0) from ((congrFun (f80 22 (by decide)) 0).trans (congrFun (f55 22 (by decide)) 0))))
        exact by exact ih x90 σ78 τ _ _ ls (by have h9 := tx90; omega) ⟨I91, I92, I93, I94, I95, I96, I97, I98, I99, I100, I101, I102, I103, I104, I105, I106, I107, I108, I109, I110, I111, I112, I113, I82, p83, p114, p115, p116, p117, p118, p84, p119, p120, p121, p85, (by rw [z122, z123]; exact ht0), (by rw [z124, z125]; exact ht1), (by rw [z124, z126, z127]; exact ht2), (by rw [z128, z129]; exact ht3), (by rw [z130, z131]; exact ht4), (by rw [z132, z133]; exact ht5), (by rw [z134, z135]; exact ht6), (by rw [z136, z137]; exact ht7), (by rw [z138, z139]; exact ht8), (by rw [z140, z141]; exact ht9), (by rw [z142]; exact ht10), (by rw [z143]; exact ht11), (by rw [z144, z145]; exact ht12), (by omega), (by have h9 := tx90; omega), (by have h9 := tx90; omega), (show jNumP (σ78 3) (σ78 56) (σ78 6) (σ78 57) (σ78 7) (σ78 58) (σ78 8) (σ78 59) (σ78 55 6).toInt (σ78 55 4).toInt by rw [show σ78 3 = σ 3 from ((f80 3 (by decide)).trans (f55 3 (by decide))), show σ78 56 = σ 56 from ((f80 56 (by decide)).trans (f55 56 (by decide))), show σ78 6 = σ 6 from ((f80 6 (by decide)).trans (f55 6 (by decide))), show σ78 57 = σ 57 from ((f80 57 (by decide)).trans (f55 57 (by decide))), show σ78 7 = σ 7 from ((f80 7 (by decide)).trans (f55 7 (by decide))), show σ78 58 = σ 58 from ((f80 58 (by decide)).trans (f55 58 (by decide))), show σ78 8 = σ 8 from ((f80 8 (by decide)).trans (f55 8 (by decide))), show σ78 59 = σ 59 from ((f80 59 (by decide)).trans (f55 59 (by decide))), show (σ78 55 6).toInt = (σ 55 6).toInt from z123, show (σ78 55 4).toInt = (σ 55 4).toInt from z127]; exact hr0), (show jOvP (σ78 56) (σ78 57) (σ78 58) (σ78 59) (σ78 55 4).toInt by rw [show σ78 56 = σ 56 from ((f80 56 (by decide)).trans (f55 56 (by decide))), show σ78 57 = σ 57 from ((f80 57 (by decide)).trans (f55 57 (by decide))), show σ78 58 = σ 58 from ((f80 58 (by decide)).trans (f55 58 (by decide))), show σ78 59 = σ 59 from ((f80 59 (by decide)).trans (f55 59 (by decide))), show (σ78 55 4).toInt = (σ 55 4).toInt from z127]; exact hr1), (show jTp (σ78 10) (σ78 63) (σ78 55 15).toInt by rw [show σ78 10 = σ 10 from ((f80 10 (by decide)).trans (f55 10 (by decide))), show σ78 63 = σ 63 from ((f80 63 (by decide)).trans (f55 63 (by decide)))]; exact hr2.le (by omega)), (show jSo (σ78 17) (σ78 62) (σ78 16 0).toInt by rw [show σ78 17 = σ 17 from ((f80 17 (by decide)).trans (f55 17 (by decide))), show σ78 62 = σ 62 from ((f80 62 (by decide)).trans (f55 62 (by decide))), show (σ78 16 0).toInt = (σ 16 0).toInt from z130]; exact hr3), (show jShP (σ78 51) (σ78 52) (σ78 53) (σ78 86) (σ78 87) (σ78 55 32).toInt by rw [show σ78 51 = σ 51 from ((f80 51 (by decide)).trans (f55 51 (by decide))), show σ78 52 = σ 52 from ((f80 52 (by decide)).trans (f55 52 (by decide))), show σ78 53 = σ 53 from ((f80 53 (by decide)).trans (f55 53 (by decide))), show σ78 86 = σ 86 from ((f80 86 (by decide)).trans (f55 86 (by decide))), show σ78 87 = σ 87 from ((f80 87 (by decide)).trans (f55 87 (by decide)))]; exact (hr4.up (by omega) (by omega))), (show jEl (σ78 51) (σ78 52) (τ 54) (τ 88) by rw [show σ78 51 = σ 51 from ((f80 51 (by decide)).trans (f55 51 (by decide))), show σ78 52 = σ 52 from ((f80 52 (by decide)).trans (f55 52 (by decide)))]; exact hr5), (show jByP (σ78 51) (σ78 52) (τ 54) by rw [show σ78 51 = σ 51 from ((f80 51 (by decide)).trans (f55 51 (by decide))), show σ78 52 = σ 52 from ((f80 52 (by decide)).trans (f55 52 (by decide)))]; exact hr6), (show jBk (σ78 48) (σ78 80) (σ78 49) (σ78 81) (σ78 55 47).toInt by rw [show σ78 48 = σ 48 from ((f80 48 (by decide)).trans (f55 48 (by decide))), show σ78 49 = σ 49 from ((f80 49 (by decide)).trans (f55 49 (by decide))), show σ78 80 = σ 80 from ((f80 80 (by decide)).trans (f55 80 (by decide))), show σ78 81 = σ 81 from ((f80 81 (by decide)).trans (f55 81 (by decide))), show (σ78 55 47).toInt = (σ 55 47).toInt from z141]; exact hr7), (show jKd (σ78 39) (σ78 70) (σ78 55 32).toInt by rw [show σ78 39 = σ 39 from ((f80 39 (by decide)).trans (f55 39 (by decide))), show σ78 70 = σ 70 from ((f80 70 (by decide)).trans (f55 70 (by decide))), show (σ78 55 32).toInt = (σ 55 32).toInt from z137]; exact hr8), (show jTt (σ78 42) (σ78 85) (σ78 55 55).toInt by rw [show σ78 42 = σ 42 from ((f80 42 (by decide)).trans (f55 42 (by decide))), show σ78 85 = σ 85 from ((f80 85 (by decide)).trans (f55 85 (by decide))), show (σ78 55 55).toInt = (σ 55 55).toInt from z139]; exact hr9), (fun k hk => by rw [show σ78 4 = σ 4 from ((f80 4 (by decide)).trans (f55 4 (by decide))), show σ78 5 = σ 5 from ((f80 5 (by decide)).trans (f55 5 (by decide))), show σ78 60 = σ 60 from ((f80 60 (by decide)).trans (f55 60 (by decide))), show σ78 61 = σ 61 from ((f80 61 (by decide)).trans (f55 61 (by decide)))]; exact hr10 k (by omega)), (fun nm => by rw [show σ78 19 = σ 19 from ((f80 19 (by decide)).trans (f55 19 (by decide))), show σ78 64 = σ 64 from ((f80 64 (by decide)).trans (f55 64 (by decide))), show σ78 65 = σ 65 from ((f80 65 (by decide)).trans (f55 65 (by decide))), show (σ78 18 0).toInt = (σ 18 0).toInt from z148]; exact hr11 nm), (fun nm => by rw [show σ78 23 = σ 23 from ((f80 23 (by decide)).trans (f55 23 (by decide))), show σ78 64 = σ 64 from ((f80 64 (by decide)).trans (f55 64 (by decide))), show σ78 65 = σ 65 from ((f80 65 (by decide)).trans (f55 65 (by decide))), show (σ78 22 0).toInt = (σ 22 0).toInt from z149]; exact hr12 nm), (show jAlP (σ78 56) (σ78 57) (σ78 58) (σ78 59) (σ78 55 4).toInt by rw [show σ78 56 = σ 56 from ((f80 56 (by decide)).trans (f55 56 (by decide))), show σ78 57 = σ 57 from ((f80 57 (by decide)).trans (f55 57 (by decide))), show σ78 58 = σ 58 from ((f80 58 (by decide)).trans (f55 58 (by decide))), show σ78 59 = σ 59 from ((f80 59 (by decide)).trans (f55 59 (by decide))), show (σ78 55 4).toInt = (σ 55 4).toInt from z127]; exact hr13), (show jqbN (σ78 80) (σ78 55 47).toInt by rw [show σ78 80 = σ 80 from ((f80 80 (by decide)).trans (f55 80 (by decide))), show (σ78 55 47).toInt = (σ 55 47).toInt from z141]; exact hr14)⟩ hP hS (lv_sub hl [0, 1, 2, 3] rfl)
set_option maxHeartbeats 4000000 in
set_option maxRecDepth 100000 in
theorem law_case_13 {p : Program} {e : Env} {s : State} {m : MethodId} {below : List Frame} {meth : Method} {c : Code} (l : Launch) {b L : Nat} {xs : Nat → Int32} {D : va_G} {cI cL : ClassId} {ad zz : Nat → Nat} (C0 : lw_At p s m meth c b L xs) (hJ : jD ad) (hA : ∀ q, jA ad q → s.heap.size ≤ q) (hK : jK D cI cL s) (hZ : jZ zz (fun q : Nat => s.heap.size ≤ q) s s.heap) {x0 : Int32} (hx0 : 0 ≤ x0.toInt) (hxL : x0.toInt + 6 ≤ (L : Int)) (hL : L ≤ 384) {σ : Nat → Nat → Int32} {τ : Nat → Nat → Int64} {H : Heap} {locs : List Loc} (hS : va_S (fun q : Nat => s.heap.size ≤ q) s.heap H locs) {ls : Array Slot} (hAll : jAll x0.toInt σ τ) (hP : jH D cI cL ad σ τ H) (hl : lv_has ls 4 [(3, .int x0), (2, .ref (ad 55)), (1, .ref (ad 0)), (0, .ref b)]) (ih : ∀ (x1 : Int32) (σ : Nat → Nat → Int32) (τ : Nat → Nat → Int64) (H : Heap) (locs : List Loc) (ls : Array Slot), x1.toInt = x0.toInt + 6 → jAll x1.toInt σ τ → jH D cI cL ad σ τ H → va_S (fun q : Nat => s.heap.size ≤ q) s.heap H locs → lv_has ls 4 [(3, .int x1), (2, .ref (ad 55)), (1, .ref (ad 0)), (0, .ref b)] → W p l e room_1 s m #[Value.ref b] below meth c H locs 90 348600 (lw_Z below #[Value.ref b] s) (F0 m 18 ls [])) : W p l e room_1 s m #[Value.ref b] below meth c H locs 90 348600 (lw_Z below #[Value.ref b] s) (F0 m 605 ls []) := by
  obtain ⟨hx, hb, hr, hml, hown, hts0, hX, hbl, hlocks, hgv⟩ := C0
  have hts : ∀ w ∈ wsL_law, w.before #[Value.ref b] s = true := fun w h => hts0 w (wsL_law_in w h)
  have hbA : ¬ (fun q : Nat => s.heap.size ≤ q) b := Nat.not_le.mpr hbl
  have hown : s.vm.findClass RL = some m.cls := hown
  obtain ⟨hI2, hI9, hI12, hI16, hI18, hI22, hI31, hI38, hI43, hI47, hI50, hI0, hI26, hI101, hI102, hI103, hI104, hI105, hI106, hI107, hI109, hI110, hI111, hI119, hs_jKept, hs_jBook, hs_jNd12, hs_jN67, hs_jBl, hs_jKb, hs_jTR, hs_jKh, hs_jKg, hs_jNz, hs_jqSt, ht0, ht1, ht2, ht3, ht4, ht5, ht6, ht7, ht8, ht9, ht10, ht11, ht12, ht13, ht14, ht15, hr0, hr1, hr2, hr3, hr4, hr5, hr6, hr7, hr8, hr9, hr10, hr11, hr12, hr13, hr14⟩ := hAll
  have hL9 : (L : Int) ≤ 384 := by omega
  obtain ⟨i1, i2, i3, i4, i5, w6, w7⟩ : (0 ≤ (σ 2 0).toInt ∧ (σ 2 0).toInt ≤ 4) ∧ (0 ≤ (σ 2 1).toInt ∧ (σ 2 1).toInt ≤ 3) ∧ (0 ≤ (σ 2 2).toInt) ∧ (0 ≤ (σ 2 3).toInt) ∧ ((σ 2 2).toInt + (σ 2 3).toInt ≤ 40) ∧ (∀ k : Nat, k < 40 → 0 ≤ (σ 6 k).toInt ∧ (σ 6 k).toInt ≤ 67) ∧ (∀ k : Nat, k < 4 → 0 ≤ (σ 5 k).toInt ∧ (σ 5 k).toInt ≤ 20) := id hI2
  obtain ⟨i8, w9, w10⟩ : (0 ≤ (σ 9 0).toInt ∧ (σ 9 0).toInt ≤ 80) ∧ (∀ k : Nat, k < 80 → 0 ≤ (σ 10 k).toInt ∧ (σ 10 k).toInt ≤ 255) ∧ (∀ k : Nat, k < 8 → 0 ≤ (σ 11 k).toInt ∧ (σ 11 k).toInt ≤ 3) := id hI9
  obtain ⟨i11, i12, i13, w14⟩ : (1 ≤ (σ 16 0).toInt ∧ (σ 16 0).toInt ≤ 8) ∧ (1 ≤ (σ 16 1).toInt ∧ (σ 16 1).toInt ≤ 12) ∧ (0 ≤ (σ 16 2).toInt ∧ (σ 16 2).toInt ≤ 999) ∧ (∀ k : Nat, k < 8 → 0 ≤ (σ 17 k).toInt ∧ (σ 17 k).toInt ≤ 3) := id hI16
  obtain ⟨i15, i16, w17⟩ : (0 ≤ (σ 38 0).toInt ∧ (σ 38 0).toInt ≤ 20) ∧ (0 ≤ (σ 38 1).toInt ∧ (σ 38 1).toInt ≤ 1000) ∧ (∀ k : Nat, k < 20 → 0 ≤ (σ 39 k).toInt ∧ (σ 39 k).toInt ≤ 6) := id hI38
  obtain ⟨i18, w19, w20⟩ : (0 ≤ (σ 47 0).toInt ∧ (σ 47 0).toInt ≤ 12) ∧ (∀ k : Nat, k < 12 → 0 ≤ (σ 48 k).toInt ∧ (σ 48 k).toInt ≤ 3) ∧ (∀ k : Nat, k < 12 → 0 ≤ (σ 49 k).toInt ∧ (σ 49 k).toInt ≤ 1) := id hI47
  have w21 : ∀ k : Nat, k < 6 → 0 ≤ (σ 52 k).toInt ∧ (σ 52 k).toInt ≤ 60 := hI50
  have i22 : 1 ≤ (σ 26 6).toInt ∧ (σ 26 6).toInt ≤ 8000 := hI26
  obtain ⟨i23, i24, i25, w26, w27, w28, w29⟩ : (0 ≤ (σ 55 5).toInt) ∧ ((σ 55 5).toInt ≤ (σ 55 4).toInt) ∧ ((σ 55 4).toInt ≤ 40) ∧ (∀ k : Nat, k < 68 → (-200) ≤ (σ 56 k).toInt ∧ (σ 56 k).toInt ≤ 500) ∧ (∀ k : Nat, k < 40 → 0 ≤ (σ 57 k).toInt ∧ (σ 57 k).toInt ≤ 67) ∧ (∀ k : Nat, k < 40 → (-200) ≤ (σ 58 k).toInt ∧ (σ 58 k).toInt ≤ 500) ∧ (∀ k : Nat, k < 40 → (-200) ≤ (σ 59 k).toInt ∧ (σ 59 k).toInt ≤ 500) := id hI101
  obtain ⟨i30, w31, w32⟩ : (0 ≤ (σ 55 6).toInt ∧ (σ 55 6).toInt ≤ 4) ∧ (∀ k : Nat, k < 4 → 0 ≤ (σ 60 k).toInt ∧ (σ 60 k).toInt ≤ 50) ∧ (∀ k : Nat, k < 4 → 0 ≤ (σ 61 k).toInt ∧ (σ 61 k).toInt ≤ 20) := id hI102
  have i33 : 0 ≤ (σ 55 9).toInt ∧ (σ 55 9).toInt ≤ 3 := hI103
  obtain ⟨i34, i35, i36, w37, w38⟩ : (1 ≤ (σ 55 10).toInt ∧ (σ 55 10).toInt ≤ 8) ∧ (1 ≤ (σ 55 12).toInt ∧ (σ 55 12).toInt ≤ 12) ∧ (0 ≤ (σ 55 13).toInt ∧ (σ 55 13).toInt ≤ 999) ∧ (∀ k : Nat, k < 8 → 0 ≤ (σ 62 k).toInt ∧ (σ 62 k).toInt ≤ 3) ∧ (∀ k : Nat, k < 8 → 0 ≤ (σ 67 k).toInt ∧ (σ 67 k).toInt ≤ 3) := id hI104
  obtain ⟨i39, w40⟩ : (0 ≤ (σ 55 15).toInt ∧ (σ 55 15).toInt ≤ 80) ∧ (∀ k : Nat, k < 2 → (-1) ≤ (σ 65 k).toInt ∧ (σ 65 k).toInt ≤ 80) := id hI105
  obtain ⟨i41, w42, w43, w44⟩ : (0 ≤ (σ 55 32).toInt ∧ (σ 55 32).toInt ≤ 20) ∧ (∀ k : Nat, k < 20 → 0 ≤ (σ 70 k).toInt ∧ (σ 70 k).toInt ≤ 6) ∧ (∀ k : Nat, k < 20 → 0 ≤ (σ 71 k).toInt ∧ (σ 71 k).toInt ≤ 8) ∧ (∀ k : Nat, k < 160 → 0 ≤ (σ 72 k).toInt ∧ (σ 72 k).toInt ≤ 3) := id hI106
  obtain ⟨i45, i46, w47⟩ : (0 ≤ (σ 55 47).toInt ∧ (σ 55 47).toInt ≤ 12) ∧ ((σ 55 47).toInt ≤ (σ 55 12).toInt) ∧ (∀ k : Nat, k < 12 → 0 ≤ (σ 80 k).toInt ∧ (σ 80 k).toInt ≤ 3) := id hI107
  have hs_jOk3 : jOk3 σ := hr0.ok hr1.1
  refine lv_aload_n hx hb dL_law_605 rfl (lv_at hl 2 rfl) ?_
  refine lv_aload_n hx hb dL_law_606 rfl (lv_at hl 3 rfl) ?_
  refine lv_iload_n hx hb dL_law_607 rfl (lv_at hl 0 rfl) ?_
  refine lv_iconst (v := 1) hx hb dL_law_608 (by decide) ?_
  have g48 := jrg (rfl : x0.toInt = x0.toInt)
  refine lv_iadd hx hb dL_law_609 ?_
  refine lv_topi (fun x49 ex49 => ?_)
  exact by
   have tx49 : x49.toInt = x0.toInt + 1 := (jadd ex49 rfl jz_1 (by omega) (by omega)).trans (by omega)
   refine va_sld hx hb hX hbl hbA hS (jin tx49 (by omega) (by omega)) dL_law_610 ?_
   have g50 := jrg (rfl : (xs x49.toNatClampNeg).toInt = (xs x49.toNatClampNeg).toInt)
   refine jcallV (As := [.int (xs x49.toNatClampNeg)]) (rest := []) ⟨hx, hb, hml, hown, hts⟩ hK hP hA hS hZ (c_X11_best l D cI cL ad zz hJ σ τ (xs x49.toNatClampNeg) ((xs x49.toNatClampNeg).toInt) rfl hI2 hI16 hI22 hI31 hI47 hI26 hs_jN67 hs_jBl hs_jKb hs_jKh hs_jKg hs_jNz) cw_RL_69 (jc_0 cI cL ad σ τ) rfl ⟨Nat.le_of_ble_eq_true rfl, Nat.le_of_ble_eq_true rfl⟩ rfl rfl rfl hl.1 rfl (Nat.le_of_ble_eq_true rfl) dL_law_611 ⟨Nat.le_of_ble_eq_true rfl, Nat.le_of_ble_eq_true rfl⟩ (fun r52 σ51 τ51 H locs h51 hP hS => ?_)
   obtain ⟨rfl, f53, f54, I55, p56, p57, p58, p59, p60, p61, w62, h51⟩ := h51
   refine lv_pop hx hb dL_law_614 rfl ?_
   refine lv_aload_n hx hb dL_law_615 rfl (lv_at hl 1 rfl) ?_
   refine lv_aload_n hx hb dL_law_616 rfl (lv_at hl 3 rfl) ?_
   refine lv_iload_n hx hb dL_law_617 rfl (lv_at hl 0 rfl) ?_
   exact by
    refine lv_iconst (v := 1) hx hb dL_law_618 (by decide) ?_
    refine lv_iadd hx hb dL_law_619 ?_
    refine jtopr ex49.symm ?_
    refine va_sld hx hb hX hbl hbA hS (jin tx49 (by omega) (by omega)) dL_law_620 ?_
    have I64 : jI101 σ51 := jI101_fr (congrFun (f53 55 (by decide)) 4) (congrFun (f53 55 (by decide)) 5) (f53 56 (by decide)) (f53 57 (by decide)) (f53 58 (by decide)) (f53 59 (by decide)) hI101
    have I65 : jI102 σ51 := jI102_fr (congrFun (f53 55 (by decide)) 6) (f53 60 (by decide)) (f53 61 (by decide)) hI102
    have I66 : jI103 σ51 := jI103_fr (congrFun (f53 55 (by decide)) 9) hI103
    have I67 : jI104 σ51 := jI104_fr (congrFun (f53 55 (by decide)) 10) (congrFun (f53 55 (by decide)) 12) (congrFun (f53 55 (by decide)) 13) (f53 62 (by decide)) (f53 67 (by decide)) hI104
    have I68 : jI105 σ51 := jI105_fr (congrFun (f53 55 (by decide)) 15) (f53 65 (by decide)) hI105
    exact by
     have I69 : jI106 σ51 := jI106_fr (congrFun (f53 55 (by decide)) 32) (f53 70 (by decide)) (f53 71 (by decide)) (f53 72 (by decide)) hI106
     have I70 : jI107 σ51 := jI107_fr (congrFun (f53 55 (by decide)) 12) (congrFun (f53 55 (by decide)) 47) (f53 80 (by decide)) hI107
     have I71 : jI119 σ51 := jI119_fr (f53 68 (by decide)) hI119
     have p72 : jKept σ51 := jKept.fr (f53 75 (by decide)) (f53 76 (by decide)) (f53 77 (by decide)) hs_jKept
     have p73 : jBook σ51 := jBook.fr (congrFun (f53 55 (by decide)) 47) (congrFun (f53 55 (by decide)) 10) (f53 81 (by decide)) hs_jBook
     have p74 : jTR σ51 := jTR.fr (f53 64 (by decide)) (f53 65 (by decide)) hs_jTR
     have p75 : jqSt σ51 := jqSt.fr (f53 78 (by decide)) (congrFun (f53 55 (by decide)) 42) hs_jqSt
     have z76 : (σ51 55 42).toInt = (σ 55 42).toInt := (congrArg Int32.toInt (show σ51 55 42 = (σ 55 42) from (congrFun (f53 55 (by decide)) 42)))
     refine jcallV (As := [.int (xs x49.toNatClampNeg)]) (rest := []) ⟨hx, hb, hml, hown, hts⟩ hK hP hA hS hZ (c_X12_best l D cI cL ad zz hJ σ51 τ (xs x49.toNatClampNeg) ((xs x49.toNatClampNeg).toInt) rfl I64 I65 I66 I67 I68 I69 I70 I71 p72 p73 p74 p75 (by omega)) cw_RL_72 (jc_55 cI cL ad σ51 τ) rfl ⟨Nat.le_of_ble_eq_true rfl, Nat.le_of_ble_eq_true rfl⟩ rfl rfl rfl hl.1 rfl (Nat.le_of_ble_eq_true rfl) dL_law_621 ⟨Nat.le_of_ble_eq_true rfl, Nat.le_of_ble_eq_true rfl⟩ (fun r78 σ77 τ77 H locs h77 hP hS => ?_)
     exact by
      obtain ⟨rfl, f79, f80, I81, p82, p83, p84, p85, w86, h77⟩ := h77
      obtain ⟨k88, k89, h77⟩ := h77
      refine lv_pop hx hb dL_law_624 rfl ?_
      refine lv_goto (tgt := 1357) hx hb dL_law_625 (by decide) ?_
      obtain ⟨x90, ex90⟩ : ∃ y : Int32, y = x0 + 6 := ⟨_, rfl⟩
      have tx90 : x90.toInt = x0.toInt + 6 := (jadd ex90 rfl jz_6 (by omega) (by omega)).trans (by omega)
      refine lv_iinc (v := x90) (lv' := [(3, .int x90), (2, .ref (ad 55)), (1, .ref (ad 0)), (0, .ref b)]) hx hb dL_law_1357 hl (k := 0) rfl (by rw [ex90]; rfl) (by decide) rfl (fun ls hl => ?_)
      refine lv_goto (tgt := 18) hx hb dL_law_1360 (by decide) ?_
      have I91 : jI2 σ77 := jI2_fr ((congrFun (f79 2 (by decide)) 0).trans (congrFun (f53 2 (by decide)) 0)) ((congrFun (f79 2 (by decide)) 1).trans (congrFun (f53 2 (by decide)) 1)) ((congrFun (f79 2 (by decide)) 2).trans (congrFun (f53 2 (by decide)) 2)) ((congrFun (f79 2 (by decide)) 3).trans (congrFun (f53 2 (by decide)) 3)) ((f79 6 (by decide)).trans (f53 6 (by decide))) ((f79 5 (by decide)).trans (f53 5 (by decide))) hI2
      exact by
       have I92 : jI9 σ77 := jI9_fr ((congrFun (f79 9 (by decide)) 0).trans (congrFun (f53 9 (by decide)) 0)) ((f79 10 (by decide)).trans (f53 10 (by decide))) ((f79 11 (by decide)).trans (f53 11 (by decide))) hI9
       have I93 : jI12 σ77 := jI12_fr ((congrFun (f79 12 (by decide)) 0).trans (congrFun (f53 12 (by decide)) 0)) ((f79 13 (by decide)).trans (f53 13 (by decide))) hI12
       have I94 : jI16 σ77 := jI16_fr ((congrFun (f79 16 (by decide)) 0).trans (congrFun (f53 16 (by decide)) 0)) ((congrFun (f79 16 (by decide)) 1).trans (congrFun (f53 16 (by decide)) 1)) ((congrFun (f79 16 (by decide)) 2).trans (congrFun (f53 16 (by decide)) 2)) ((f79 17 (by decide)).trans (f53 17 (by decide))) hI16
       have I95 : jI18 σ77 := jI18_fr ((congrFun (f79 18 (by decide)) 0).trans (congrFun (f53 18 (by decide)) 0)) ((f79 19 (by decide)).trans (f53 19 (by decide))) hI18
       have I96 : jI22 σ77 := jI22_fr ((congrFun (f79 22 (by decide)) 0).trans (congrFun (f53 22 (by decide)) 0)) ((f79 23 (by decide)).trans (f53 23 (by decide))) hI22
       have I97 : jI31 σ77 := jI31_fr (congrFun (f79 31 (by decide)) 8) (congrFun (f79 31 (by decide)) 10) (congrFun (f79 31 (by decide)) 11) (f79 33 (by decide)) (f79 35 (by decide)) (f79 36 (by decide)) I55
       have I98 : jI38 σ77 := jI38_fr ((congrFun (f79 38 (by decide)) 0).trans (congrFun (f53 38 (by decide)) 0)) ((congrFun (f79 38 (by decide)) 1).trans (congrFun (f53 38 (by decide)) 1)) ((f79 39 (by decide)).trans (f53 39 (by decide))) hI38
       have I99 : jI43 σ77 := jI43_fr ((congrFun (f79 43 (by decide)) 8).trans (congrFun (f53 43 (by decide)) 8)) hI43
       have I100 : jI47 σ77 := jI47_fr ((congrFun (f79 47 (by decide)) 0).trans (congrFun (f53 47 (by decide)) 0)) ((f79 48 (by decide)).trans (f53 48 (by decide))) ((f79 49 (by decide)).trans (f53 49 (by decide))) hI47
       have I101 : jI50 σ77 := jI50_fr ((f79 52 (by decide)).trans (f53 52 (by decide))) hI50
       have I102 : jI0 σ77 := jI0_fr ((f79 1 (by decide)).trans (f53 1 (by decide))) hI0
       have I103 : jI26 σ77 := jI26_fr ((congrFun (f79 26 (by decide)) 6).trans (congrFun (f53 26 (by decide)) 6)) hI26
       have I104 : jI101 σ77 := jI101_fr (f80 4 (by decide)) (f80 5 (by decide)) (f79 56 (by decide)) (f79 57 (by decide)) (f79 58 (by decide)) (f79 59 (by decide)) I64
       have I105 : jI102 σ77 := jI102_fr (f80 6 (by decide)) (f79 60 (by decide)) (f79 61 (by decide)) I65
       have I106 : jI103 σ77 := jI103_fr (f80 9 (by decide)) I66
       have I107 : jI104 σ77 := jI104_fr (f80 10 (by decide)) (f80 12 (by decide)) (f80 13 (by decide)) (f79 62 (by decide)) (f79 67 (by decide)) I67
       have I108 : jI105 σ77 := jI105_fr (f80 15 (by decide)) (f79 65 (by decide)) I68
       have I109 : jI106 σ77 := jI106_fr (f80 32 (by decide)) (f79 70 (by decide)) (f79 71 (by decide)) (f79 72 (by decide)) I69
       have I110 : jI107 σ77 := jI107_fr (f80 12 (by decide)) (f80 47 (by decide)) (f79 80 (by decide)) I70
       have I111 : jI109 σ77 := jI109_fr ((f80 50 (by decide)).trans (congrFun (f53 55 (by decide)) 50)) hI109
       have I112 : jI110 σ77 := jI110_fr ((f79 86 (by decide)).trans (f53 86 (by decide))) ((f79 87 (by decide)).trans (f53 87 (by decide))) hI110
       have I113 : jI111 σ77 := jI111_fr ((f79 79 (by decide)).trans (f53 79 (by decide))) hI111
       have p114 : jNd12 σ77 := jNd12.fr ((congrFun (f79 12 (by decide)) 0).trans (congrFun (f53 12 (by decide)) 0)) ((congrFun (f79 12 (by decide)) 1).trans (congrFun (f53 12 (by decide)) 1)) ((f79 13 (by decide)).trans (f53 13 (by decide))) hs_jNd12
       have p115 : jN67 σ77 := jN67.fr (f79 24 (by decide)) p56
       have p116 : jBl σ77 := jBl.fr (congrFun (f79 22 (by decide)) 0) (congrFun (f79 22 (by decide)) 1) (f79 23 (by decide)) (congrFun (f79 26 (by decide)) 6) (congrFun (f79 26 (by decide)) 7) (f79 29 (by decide)) (f79 30 (by decide)) p57
       have p117 : jKb σ77 := jKb.fr (congrFun (f79 31 (by decide)) 8) (congrFun (f79 31 (by decide)) 11) (f79 32 (by decide)) p58
       have p118 : jKh σ77 := jKh.fr (congrFun (f79 31 (by decide)) 8) (f79 32 (by decide)) (f79 36 (by decide)) (f79 37 (by decide)) p59
       have p119 : jKg σ77 := jKg.fr (congrFun (f79 31 (by decide)) 8) (congrFun (f79 31 (by decide)) 9) (congrFun (f79 31 (by decide)) 11) (congrFun (f79 31 (by decide)) 12) (f79 32 (by decide)) (f79 33 (by decide)) p60
       have p120 : jNz σ77 := jNz.fr (f79 34 (by decide)) p61
       have z121 : (σ77 2 0).toInt = (σ 2 0).toInt := (congrArg Int32.toInt (show σ77 2 0 = (σ 2 0) from ((congrFun (f79 2 (by decide)) 0).trans (congrFun (f53 2 (by decide)) 0))))
       have z122 : (σ77 55 6).toInt = (σ 55 6).toInt := (congrArg Int32.toInt (show σ77 55 6 = (σ 55 6) from ((f80 6 (by decide)).trans (congrFun (f53 55 (by decide)) 6))))
       have z123 : (σ77 2 2).toInt = (σ 2 2).toInt := (congrArg Int32.toInt (show σ77 2 2 = (σ 2 2) from ((congrFun (f79 2 (by decide)) 2).trans (congrFun (f53 2 (by decide)) 2))))
       have z124 : (σ77 55 5).toInt = (σ 55 5).toInt := (congrArg Int32.toInt (show σ77 55 5 = (σ 55 5) from ((f80 5 (by decide)).trans (congrFun (f53 55 (by decide)) 5))))
       have z125 : (σ77 2 3).toInt = (σ 2 3).toInt := (congrArg Int32.toInt (show σ77 2 3 = (σ 2 3) from ((congrFun (f79 2 (by decide)) 3).trans (congrFun (f53 2 (by decide)) 3))))
       have z126 : (σ77 55 4).toInt = (σ 55 4).toInt := (congrArg Int32.toInt (show σ77 55 4 = (σ 55 4) from ((f80 4 (by decide)).trans (congrFun (f53 55 (by decide)) 4))))
       have z127 : (σ77 9 0).toInt = (σ 9 0).toInt := (congrArg Int32.toInt (show σ77 9 0 = (σ 9 0) from ((congrFun (f79 9 (by decide)) 0).trans (congrFun (f53 9 (by decide)) 0))))
       have z128 : (σ77 55 15).toInt = (σ 55 15).toInt := (congrArg Int32.toInt (show σ77 55 15 = (σ 55 15) from ((f80 15 (by decide)).trans (congrFun (f53 55 (by decide)) 15))))
       have z129 : (σ77 16 0).toInt = (σ 16 0).toInt := (congrArg Int32.toInt (show σ77 16 0 = (σ 16 0) from ((congrFun (f79 16 (by decide)) 0).trans (congrFun (f53 16 (by decide)) 0))))
       have z130 : (σ77 55 10).toInt = (σ 55 10).toInt := (congrArg Int32.toInt (show σ77 55 10 = (σ 55 10) from ((f80 10 (by decide)).trans (congrFun (f53 55 (by decide)) 10))))
       have z131 : (σ77 16 1).toInt = (σ 16 1).toInt := (congrArg Int32.toInt (show σ77 16 1 = (σ 16 1) from ((congrFun (f79 16 (by decide)) 1).trans (congrFun (f53 16 (by decide)) 1))))
       have z132 : (σ77 55 12).toInt = (σ 55 12).toInt := (congrArg Int32.toInt (show σ77 55 12 = (σ 55 12) from ((f80 12 (by decide)).trans (congrFun (f53 55 (by decide)) 12))))
       have z133 : (σ77 16 2).toInt = (σ 16 2).toInt := (congrArg Int32.toInt (show σ77 16 2 = (σ 16 2) from ((congrFun (f79 16 (by decide)) 2).trans (congrFun (f53 16 (by decide)) 2))))
       have z134 : (σ77 55 13).toInt = (σ 55 13).toInt := (congrArg Int32.toInt (show σ77 55 13 = (σ 55 13) from ((f80 13 (by decide)).trans (congrFun (f53 55 (by decide)) 13))))
       have z135 : (σ77 38 0).toInt = (σ 38 0).toInt := (congrArg Int32.toInt (show σ77 38 0 = (σ 38 0) from ((congrFun (f79 38 (by decide)) 0).trans (congrFun (f53 38 (by decide)) 0))))
       have z136 : (σ77 55 32).toInt = (σ 55 32).toInt := (congrArg Int32.toInt (show σ77 55 32 = (σ 55 32) from ((f80 32 (by decide)).trans (congrFun (f53 55 (by decide)) 32))))
       have z137 : (σ77 38 1).toInt = (σ 38 1).toInt := (congrArg Int32.toInt (show σ77 38 1 = (σ 38 1) from ((congrFun (f79 38 (by decide)) 1).trans (congrFun (f53 38 (by decide)) 1))))
       have z138 : (σ77 55 55).toInt = (σ 55 55).toInt := (congrArg Int32.toInt (show σ77 55 55 = (σ 55 55) from ((f80 55 (by decide)).trans (congrFun (f53 55 (by decide)) 55))))
       have z139 : (σ77 47 0).toInt = (σ 47 0).toInt := (congrArg Int32.toInt (show σ77 47 0 = (σ 47 0) from ((congrFun (f79 47 (by decide)) 0).trans (congrFun (f53 47 (by decide)) 0))))
       have z140 : (σ77 55 47).toInt = (σ 55 47).toInt := (congrArg Int32.toInt (show σ77 55 47 = (σ 55 47) from ((f80 47 (by decide)).trans (congrFun (f53 55 (by decide)) 47))))
       have z141 : (σ77 55 30).toInt = (σ 55 30).toInt := (congrArg Int32.toInt (show σ77 55 30 = (σ 55 30) from ((f80 30 (by decide)).trans (congrFun (f53 55 (by decide)) 30))))
       have z142 : (σ77 55 31).toInt = (σ 55 31).toInt := (congrArg Int32.toInt (show σ77 55 31 = (σ 55 31) from ((f80 31 (by decide)).trans (congrFun (f53 55 (by decide)) 31))))
       have z143 : (σ77 2 1).toInt = (σ 2 1).toInt := (congrArg Int32.toInt (show σ77 2 1 = (σ 2 1) from ((congrFun (f79 2 (by decide)) 1).trans (congrFun (f53 2 (by decide)) 1))))
       have z144 : (σ77 55 9).toInt = (σ 55 9).toInt := (congrArg Int32.toInt (show σ77 55 9 = (σ 55 9) from ((f80 9 (by decide)).trans (congrFun (f53 55 (by decide)) 9))))
       have z145 : (σ77 26 6).toInt = (σ 26 6).toInt := (congrArg Int32.toInt (show σ77 26 6 = (σ 26 6) from ((congrFun (f79 26 (by decide)) 6).trans (congrFun (f53 26 (by decide)) 6))))
       have z147 : (σ77 18 0).toInt = (σ 18 0).toInt := (congrArg Int32.toInt (show σ77 18 0 = (σ 18 0) from ((congrFun (f79 18 (by decide)) 0).trans (congrFun (f53 18 (by decide)) 0))))
       have z148 : (σ77 22 0).toInt = (σ 22 0).toInt := (congrArg Int32.toInt (show σ77 22 0 = (σ 22 0) from ((congrFun (f79 22 (by decide)) 0).trans (congrFun (f53 22 (by decide)) 0))))
       exact by exact ih x90 σ77 τ _ _ ls (by have h9 := tx90; omega) ⟨I91, I92, I93, I94, I95, I96, I97, I98, I99, I100, I101, I102, I103, I104, I105, I106, I107, I108, I109, I110, I111, I112, I113, I81, p82, p83, p114, p115, p116, p117, p84, p118, p119, p120, p85, (by rw [z121, z122]; exact ht0), (by rw [z123, z124]; exact ht1), (by rw [z123, z125, z126]; exact ht2), (by rw [z127, z128]; exact ht3), (by rw [z129, z130]; exact ht4), (by rw [z131, z132]; exact ht5), (by rw [z133, z134]; exact ht6), (by rw [z135, z136]; exact ht7), (by rw [z137, z138]; exact ht8), (by rw [z139, z140]; exact ht9), (by rw [z141]; exact ht10), (by rw [z142]; exact ht11), (by rw [z143, z144]; exact ht12), (by omega), (by have h9 := tx90; omega), (by have h9 := tx90; omega), (show jNumP (σ77 3) (σ77 56) (σ77 6) (σ77 57) (σ77 7) (σ77 58) (σ77 8) (σ77 59) (σ77 55 6).toInt (σ77 55 4).toInt by rw [show σ77 3 = σ 3 from ((f79 3 (by decide)).trans (f53 3 (by decide))), show σ77 56 = σ 56 from ((f79 56 (by decide)).trans (f53 56 (by decide))), show σ77 6 = σ 6 from ((f79 6 (by decide)).trans (f53 6 (by decide))), show σ77 57 = σ 57 from ((f79 57 (by decide)).trans (f53 57 (by decide))), show σ77 7 = σ 7 from ((f79 7 (by decide)).trans (f53 7 (by decide))), show σ77 58 = σ 58 from ((f79 58 (by decide)).trans (f53 58 (by decide))), show σ77 8 = σ 8 from ((f79 8 (by decide)).trans (f53 8 (by decide))), show σ77 59 = σ 59 from ((f79 59 (by decide)).trans (f53 59 (by decide))), show (σ77 55 6).toInt = (σ 55 6).toInt from z122, show (σ77 55 4).toInt = (σ 55 4).toInt from z126]; exact hr0), (show jOvP (σ77 56) (σ77 57) (σ77 58) (σ77 59) (σ77 55 4).toInt by rw [show σ77 56 = σ 56 from ((f79 56 (by decide)).trans (f53 56 (by decide))), show σ77 57 = σ 57 from ((f79 57 (by decide)).trans (f53 57 (by decide))), show σ77 58 = σ 58 from ((f79 58 (by decide)).trans (f53 58 (by decide))), show σ77 59 = σ 59 from ((f79 59 (by decide)).trans (f53 59 (by decide))), show (σ77 55 4).toInt = (σ 55 4).toInt from z126]; exact hr1), (show jTp (σ77 10) (σ77 63) (σ77 55 15).toInt by rw [show σ77 10 = σ 10 from ((f79 10 (by decide)).trans (f53 10 (by decide))), show σ77 63 = σ 63 from ((f79 63 (by decide)).trans (f53 63 (by decide)))]; exact hr2.le (by omega)), (show jSo (σ77 17) (σ77 62) (σ77 16 0).toInt by rw [show σ77 17 = σ 17 from ((f79 17 (by decide)).trans (f53 17 (by decide))), show σ77 62 = σ 62 from ((f79 62 (by decide)).trans (f53 62 (by decide))), show (σ77 16 0).toInt = (σ 16 0).toInt from z129]; exact hr3), (show jShP (σ77 51) (σ77 52) (σ77 53) (σ77 86) (σ77 87) (σ77 55 32).toInt by rw [show σ77 51 = σ 51 from ((f79 51 (by decide)).trans (f53 51 (by decide))), show σ77 52 = σ 52 from ((f79 52 (by decide)).trans (f53 52 (by decide))), show σ77 53 = σ 53 from ((f79 53 (by decide)).trans (f53 53 (by decide))), show σ77 86 = σ 86 from ((f79 86 (by decide)).trans (f53 86 (by decide))), show σ77 87 = σ 87 from ((f79 87 (by decide)).trans (f53 87 (by decide)))]; exact (hr4.up (by omega) (by omega))), (show jEl (σ77 51) (σ77 52) (τ 54) (τ 88) by rw [show σ77 51 = σ 51 from ((f79 51 (by decide)).trans (f53 51 (by decide))), show σ77 52 = σ 52 from ((f79 52 (by decide)).trans (f53 52 (by decide)))]; exact hr5), (show jByP (σ77 51) (σ77 52) (τ 54) by rw [show σ77 51 = σ 51 from ((f79 51 (by decide)).trans (f53 51 (by decide))), show σ77 52 = σ 52 from ((f79 52 (by decide)).trans (f53 52 (by decide)))]; exact hr6), (show jBk (σ77 48) (σ77 80) (σ77 49) (σ77 81) (σ77 55 47).toInt by rw [show σ77 48 = σ 48 from ((f79 48 (by decide)).trans (f53 48 (by decide))), show σ77 49 = σ 49 from ((f79 49 (by decide)).trans (f53 49 (by decide))), show σ77 80 = σ 80 from ((f79 80 (by decide)).trans (f53 80 (by decide))), show σ77 81 = σ 81 from ((f79 81 (by decide)).trans (f53 81 (by decide))), show (σ77 55 47).toInt = (σ 55 47).toInt from z140]; exact hr7), (show jKd (σ77 39) (σ77 70) (σ77 55 32).toInt by rw [show σ77 39 = σ 39 from ((f79 39 (by decide)).trans (f53 39 (by decide))), show σ77 70 = σ 70 from ((f79 70 (by decide)).trans (f53 70 (by decide))), show (σ77 55 32).toInt = (σ 55 32).toInt from z136]; exact hr8), (show jTt (σ77 42) (σ77 85) (σ77 55 55).toInt by rw [show σ77 42 = σ 42 from ((f79 42 (by decide)).trans (f53 42 (by decide))), show σ77 85 = σ 85 from ((f79 85 (by decide)).trans (f53 85 (by decide))), show (σ77 55 55).toInt = (σ 55 55).toInt from z138]; exact hr9), (fun k hk => by rw [show σ77 4 = σ 4 from ((f79 4 (by decide)).trans (f53 4 (by decide))), show σ77 5 = σ 5 from ((f79 5 (by decide)).trans (f53 5 (by decide))), show σ77 60 = σ 60 from ((f79 60 (by decide)).trans (f53 60 (by decide))), show σ77 61 = σ 61 from ((f79 61 (by decide)).trans (f53 61 (by decide)))]; exact hr10 k (by omega)), (fun nm => by rw [show σ77 19 = σ 19 from ((f79 19 (by decide)).trans (f53 19 (by decide))), show σ77 64 = σ 64 from ((f79 64 (by decide)).trans (f53 64 (by decide))), show σ77 65 = σ 65 from ((f79 65 (by decide)).trans (f53 65 (by decide))), show (σ77 18 0).toInt = (σ 18 0).toInt from z147]; exact hr11 nm), (fun nm => by rw [show σ77 23 = σ 23 from ((f79 23 (by decide)).trans (f53 23 (by decide))), show σ77 64 = σ 64 from ((f79 64 (by decide)).trans (f53 64 (by decide))), show σ77 65 = σ 65 from ((f79 65 (by decide)).trans (f53 65 (by decide))), show (σ77 22 0).toInt = (σ 22 0).toInt from z148]; exact hr12 nm), (show jAlP (σ77 56) (σ77 57) (σ77 58) (σ77 59) (σ77 55 4).toInt by rw [show σ77 56 = σ 56 from ((f79 56 (by decide)).trans (f53 56 (by decide))), show σ77 57 = σ 57 from ((f79 57 (by decide)).trans (f53 57 (by decide))), show σ77 58 = σ 58 from ((f79 58 (by decide)).trans (f53 58 (by decide))), show σ77 59 = σ 59 from ((f79 59 (by decide)).trans (f53 59 (by decide))), show (σ77 55 4).toInt = (σ 55 4).toInt from z126]; exact hr13), (show jqbN (σ77 80) (σ77 55 47).toInt by rw [show σ77 80 = σ 80 from ((f79 80 (by decide)).trans (f53 80 (by decide))), show (σ77 55 47).toInt = (σ 55 47).toInt from z140]; exact hr14)⟩ hP hS (lv_sub hl [0, 1, 2, 3] rfl)
set_option maxHeartbeats 4000000 in
set_option maxRecDepth 100000 in
theorem law_case_14 {p : Program} {e : Env} {s : State} {m : MethodId} {below : List Frame} {meth : Method} {c : Code} (l : Launch) {b L : Nat} {xs : Nat → Int32} {D : va_G} {cI cL : ClassId} {ad zz : Nat → Nat} (C0 : lw_At p s m meth c b L xs) (hJ : jD ad) (hA : ∀ q, jA ad q → s.heap.size ≤ q) (hK : jK D cI cL s) (hZ : jZ zz (fun q : Nat => s.heap.size ≤ q) s s.heap) {x0 : Int32} (hx0 : 0 ≤ x0.toInt) (hxL : x0.toInt + 6 ≤ (L : Int)) (hL : L ≤ 384) {σ : Nat → Nat → Int32} {τ : Nat → Nat → Int64} {H : Heap} {locs : List Loc} (hS : va_S (fun q : Nat => s.heap.size ≤ q) s.heap H locs) {ls : Array Slot} (hAll : jAll x0.toInt σ τ) (hP : jH D cI cL ad σ τ H) (hl : lv_has ls 4 [(3, .int x0), (2, .ref (ad 55)), (1, .ref (ad 0)), (0, .ref b)]) (ih : ∀ (x1 : Int32) (σ : Nat → Nat → Int32) (τ : Nat → Nat → Int64) (H : Heap) (locs : List Loc) (ls : Array Slot), x1.toInt = x0.toInt + 6 → jAll x1.toInt σ τ → jH D cI cL ad σ τ H → va_S (fun q : Nat => s.heap.size ≤ q) s.heap H locs → lv_has ls 4 [(3, .int x1), (2, .ref (ad 55)), (1, .ref (ad 0)), (0, .ref b)] → W p l e room_1 s m #[Value.ref b] below meth c H locs 90 348600 (lw_Z below #[Value.ref b] s) (F0 m 18 ls [])) : W p l e room_1 s m #[Value.ref b] below meth c H locs 90 348600 (lw_Z below #[Value.ref b] s) (F0 m 628 ls []) := by
  obtain ⟨hx, hb, hr, hml, hown, hts0, hX, hbl, hlocks, hgv⟩ := C0
  have hts : ∀ w ∈ wsL_law, w.before #[Value.ref b] s = true := fun w h => hts0 w (wsL_law_in w h)
  have hbA : ¬ (fun q : Nat => s.heap.size ≤ q) b := Nat.not_le.mpr hbl
  have hown : s.vm.findClass RL = some m.cls := hown
  obtain ⟨hI2, hI9, hI12, hI16, hI18, hI22, hI31, hI38, hI43, hI47, hI50, hI0, hI26, hI101, hI102, hI103, hI104, hI105, hI106, hI107, hI109, hI110, hI111, hI119, hs_jKept, hs_jBook, hs_jNd12, hs_jN67, hs_jBl, hs_jKb, hs_jTR, hs_jKh, hs_jKg, hs_jNz, hs_jqSt, ht0, ht1, ht2, ht3, ht4, ht5, ht6, ht7, ht8, ht9, ht10, ht11, ht12, ht13, ht14, ht15, hr0, hr1, hr2, hr3, hr4, hr5, hr6, hr7, hr8, hr9, hr10, hr11, hr12, hr13, hr14⟩ := hAll
  have hL9 : (L : Int) ≤ 384 := by omega
  obtain ⟨i1, i2, i3, i4, i5, w6, w7⟩ : (0 ≤ (σ 2 0).toInt ∧ (σ 2 0).toInt ≤ 4) ∧ (0 ≤ (σ 2 1).toInt ∧ (σ 2 1).toInt ≤ 3) ∧ (0 ≤ (σ 2 2).toInt) ∧ (0 ≤ (σ 2 3).toInt) ∧ ((σ 2 2).toInt + (σ 2 3).toInt ≤ 40) ∧ (∀ k : Nat, k < 40 → 0 ≤ (σ 6 k).toInt ∧ (σ 6 k).toInt ≤ 67) ∧ (∀ k : Nat, k < 4 → 0 ≤ (σ 5 k).toInt ∧ (σ 5 k).toInt ≤ 20) := id hI2
  obtain ⟨i8, w9, w10⟩ : (0 ≤ (σ 9 0).toInt ∧ (σ 9 0).toInt ≤ 80) ∧ (∀ k : Nat, k < 80 → 0 ≤ (σ 10 k).toInt ∧ (σ 10 k).toInt ≤ 255) ∧ (∀ k : Nat, k < 8 → 0 ≤ (σ 11 k).toInt ∧ (σ 11 k).toInt ≤ 3) := id hI9
  obtain ⟨i11, i12, i13, w14⟩ : (1 ≤ (σ 16 0).toInt ∧ (σ 16 0).toInt ≤ 8) ∧ (1 ≤ (σ 16 1).toInt ∧ (σ 16 1).toInt ≤ 12) ∧ (0 ≤ (σ 16 2).toInt ∧ (σ 16 2).toInt ≤ 999) ∧ (∀ k : Nat, k < 8 → 0 ≤ (σ 17 k).toInt ∧ (σ 17 k).toInt ≤ 3) := id hI16
  obtain ⟨i15, i16, w17⟩ : (0 ≤ (σ 38 0).toInt ∧ (σ 38 0).toInt ≤ 20) ∧ (0 ≤ (σ 38 1).toInt ∧ (σ 38 1).toInt ≤ 1000) ∧ (∀ k : Nat, k < 20 → 0 ≤ (σ 39 k).toInt ∧ (σ 39 k).toInt ≤ 6) := id hI38
  obtain ⟨i18, w19, w20⟩ : (0 ≤ (σ 47 0).toInt ∧ (σ 47 0).toInt ≤ 12) ∧ (∀ k : Nat, k < 12 → 0 ≤ (σ 48 k).toInt ∧ (σ 48 k).toInt ≤ 3) ∧ (∀ k : Nat, k < 12 → 0 ≤ (σ 49 k).toInt ∧ (σ 49 k).toInt ≤ 1) := id hI47
  have w21 : ∀ k : Nat, k < 6 → 0 ≤ (σ 52 k).toInt ∧ (σ 52 k).toInt ≤ 60 := hI50
  have i22 : 1 ≤ (σ 26 6).toInt ∧ (σ 26 6).toInt ≤ 8000 := hI26
  obtain ⟨i23, i24, i25, w26, w27, w28, w29⟩ : (0 ≤ (σ 55 5).toInt) ∧ ((σ 55 5).toInt ≤ (σ 55 4).toInt) ∧ ((σ 55 4).toInt ≤ 40) ∧ (∀ k : Nat, k < 68 → (-200) ≤ (σ 56 k).toInt ∧ (σ 56 k).toInt ≤ 500) ∧ (∀ k : Nat, k < 40 → 0 ≤ (σ 57 k).toInt ∧ (σ 57 k).toInt ≤ 67) ∧ (∀ k : Nat, k < 40 → (-200) ≤ (σ 58 k).toInt ∧ (σ 58 k).toInt ≤ 500) ∧ (∀ k : Nat, k < 40 → (-200) ≤ (σ 59 k).toInt ∧ (σ 59 k).toInt ≤ 500) := id hI101
  obtain ⟨i30, w31, w32⟩ : (0 ≤ (σ 55 6).toInt ∧ (σ 55 6).toInt ≤ 4) ∧ (∀ k : Nat, k < 4 → 0 ≤ (σ 60 k).toInt ∧ (σ 60 k).toInt ≤ 50) ∧ (∀ k : Nat, k < 4 → 0 ≤ (σ 61 k).toInt ∧ (σ 61 k).toInt ≤ 20) := id hI102
  have i33 : 0 ≤ (σ 55 9).toInt ∧ (σ 55 9).toInt ≤ 3 := hI103
  obtain ⟨i34, i35, i36, w37, w38⟩ : (1 ≤ (σ 55 10).toInt ∧ (σ 55 10).toInt ≤ 8) ∧ (1 ≤ (σ 55 12).toInt ∧ (σ 55 12).toInt ≤ 12) ∧ (0 ≤ (σ 55 13).toInt ∧ (σ 55 13).toInt ≤ 999) ∧ (∀ k : Nat, k < 8 → 0 ≤ (σ 62 k).toInt ∧ (σ 62 k).toInt ≤ 3) ∧ (∀ k : Nat, k < 8 → 0 ≤ (σ 67 k).toInt ∧ (σ 67 k).toInt ≤ 3) := id hI104
  obtain ⟨i39, w40⟩ : (0 ≤ (σ 55 15).toInt ∧ (σ 55 15).toInt ≤ 80) ∧ (∀ k : Nat, k < 2 → (-1) ≤ (σ 65 k).toInt ∧ (σ 65 k).toInt ≤ 80) := id hI105
  obtain ⟨i41, w42, w43, w44⟩ : (0 ≤ (σ 55 32).toInt ∧ (σ 55 32).toInt ≤ 20) ∧ (∀ k : Nat, k < 20 → 0 ≤ (σ 70 k).toInt ∧ (σ 70 k).toInt ≤ 6) ∧ (∀ k : Nat, k < 20 → 0 ≤ (σ 71 k).toInt ∧ (σ 71 k).toInt ≤ 8) ∧ (∀ k : Nat, k < 160 → 0 ≤ (σ 72 k).toInt ∧ (σ 72 k).toInt ≤ 3) := id hI106
  obtain ⟨i45, i46, w47⟩ : (0 ≤ (σ 55 47).toInt ∧ (σ 55 47).toInt ≤ 12) ∧ ((σ 55 47).toInt ≤ (σ 55 12).toInt) ∧ (∀ k : Nat, k < 12 → 0 ≤ (σ 80 k).toInt ∧ (σ 80 k).toInt ≤ 3) := id hI107
  have hs_jOk3 : jOk3 σ := hr0.ok hr1.1
  refine lv_aload_n hx hb dL_law_628 rfl (lv_at hl 2 rfl) ?_
  refine lv_aload_n hx hb dL_law_629 rfl (lv_at hl 3 rfl) ?_
  refine lv_iload_n hx hb dL_law_630 rfl (lv_at hl 0 rfl) ?_
  refine lv_iconst (v := 1) hx hb dL_law_631 (by decide) ?_
  have g48 := jrg (rfl : x0.toInt = x0.toInt)
  refine lv_iadd hx hb dL_law_632 ?_
  refine lv_topi (fun x49 ex49 => ?_)
  exact by
   have tx49 : x49.toInt = x0.toInt + 1 := (jadd ex49 rfl jz_1 (by omega) (by omega)).trans (by omega)
   refine va_sld hx hb hX hbl hbA hS (jin tx49 (by omega) (by omega)) dL_law_633 ?_
   have g50 := jrg (rfl : (xs x49.toNatClampNeg).toInt = (xs x49.toNatClampNeg).toInt)
   refine lv_aload_n hx hb dL_law_634 rfl (lv_at hl 3 rfl) ?_
   refine lv_iload_n hx hb dL_law_635 rfl (lv_at hl 0 rfl) ?_
   refine lv_iconst (v := 2) hx hb dL_law_636 (by decide) ?_
   refine lv_iadd hx hb dL_law_637 ?_
   refine lv_topi (fun x51 ex51 => ?_)
   have tx51 : x51.toInt = x0.toInt + 2 := (jadd ex51 rfl jz_2 (by omega) (by omega)).trans (by omega)
   exact by
    refine va_sld hx hb hX hbl hbA hS (jin tx51 (by omega) (by omega)) dL_law_638 ?_
    have g52 := jrg (rfl : (xs x51.toNatClampNeg).toInt = (xs x51.toNatClampNeg).toInt)
    refine jcallV (As := [.int (xs x49.toNatClampNeg), .int (xs x51.toNatClampNeg)]) (rest := []) ⟨hx, hb, hml, hown, hts⟩ hK hP hA hS hZ (c_X11_worth l D cI cL ad zz hJ σ τ (xs x49.toNatClampNeg) ((xs x49.toNatClampNeg).toInt) rfl (xs x51.toNatClampNeg) ((xs x51.toNatClampNeg).toInt) rfl hI2 hI16 hI22 hI31 hI26 hs_jN67 hs_jBl hs_jKb hs_jKh hs_jKg hs_jNz) cw_RL_73 (jc_0 cI cL ad σ τ) rfl ⟨Nat.le_of_ble_eq_true rfl, Nat.le_of_ble_eq_true rfl⟩ rfl rfl rfl hl.1 rfl (Nat.le_of_ble_eq_true rfl) dL_law_639 ⟨Nat.le_of_ble_eq_true rfl, Nat.le_of_ble_eq_true rfl⟩ (fun r54 σ53 τ53 H locs h53 hP hS => ?_)
    obtain ⟨rfl, f55, f56, I57, p58, p59, p60, p61, p62, p63, w64, h53⟩ := h53
    refine lv_pop hx hb dL_law_642 rfl ?_
    refine lv_aload_n hx hb dL_law_643 rfl (lv_at hl 1 rfl) ?_
    refine lv_aload_n hx hb dL_law_644 rfl (lv_at hl 3 rfl) ?_
    refine lv_iload_n hx hb dL_law_645 rfl (lv_at hl 0 rfl) ?_
    refine lv_iconst (v := 1) hx hb dL_law_646 (by decide) ?_
    refine lv_iadd hx hb dL_law_647 ?_
    refine jtopr ex49.symm ?_
    exact by
     refine va_sld hx hb hX hbl hbA hS (jin tx49 (by omega) (by omega)) dL_law_648 ?_
     refine lv_aload_n hx hb dL_law_649 rfl (lv_at hl 3 rfl) ?_
     refine lv_iload_n hx hb dL_law_650 rfl (lv_at hl 0 rfl) ?_
     refine lv_iconst (v := 2) hx hb dL_law_651 (by decide) ?_
     refine lv_iadd hx hb dL_law_652 ?_
     refine jtopr ex51.symm ?_
     refine va_sld hx hb hX hbl hbA hS (jin tx51 (by omega) (by omega)) dL_law_653 ?_
     have I66 : jI101 σ53 := jI101_fr (congrFun (f55 55 (by decide)) 4) (congrFun (f55 55 (by decide)) 5) (f55 56 (by decide)) (f55 57 (by decide)) (f55 58 (by decide)) (f55 59 (by decide)) hI101
     have I67 : jI102 σ53 := jI102_fr (congrFun (f55 55 (by decide)) 6) (f55 60 (by decide)) (f55 61 (by decide)) hI102
     exact by
      have I68 : jI103 σ53 := jI103_fr (congrFun (f55 55 (by decide)) 9) hI103
      have I69 : jI104 σ53 := jI104_fr (congrFun (f55 55 (by decide)) 10) (congrFun (f55 55 (by decide)) 12) (congrFun (f55 55 (by decide)) 13) (f55 62 (by decide)) (f55 67 (by decide)) hI104
      have I70 : jI105 σ53 := jI105_fr (congrFun (f55 55 (by decide)) 15) (f55 65 (by decide)) hI105
      have I71 : jI106 σ53 := jI106_fr (congrFun (f55 55 (by decide)) 32) (f55 70 (by decide)) (f55 71 (by decide)) (f55 72 (by decide)) hI106
      have I72 : jI119 σ53 := jI119_fr (f55 68 (by decide)) hI119
      have p73 : jKept σ53 := jKept.fr (f55 75 (by decide)) (f55 76 (by decide)) (f55 77 (by decide)) hs_jKept
      have p74 : jTR σ53 := jTR.fr (f55 64 (by decide)) (f55 65 (by decide)) hs_jTR
      have p75 : jqSt σ53 := jqSt.fr (f55 78 (by decide)) (congrFun (f55 55 (by decide)) 42) hs_jqSt
      have z76 : (σ53 55 42).toInt = (σ 55 42).toInt := (congrArg Int32.toInt (show σ53 55 42 = (σ 55 42) from (congrFun (f55 55 (by decide)) 42)))
      have z77 : (σ53 55 30).toInt = (σ 55 30).toInt := (congrArg Int32.toInt (show σ53 55 30 = (σ 55 30) from (congrFun (f55 55 (by decide)) 30)))
      have z78 : (σ53 55 31).toInt = (σ 55 31).toInt := (congrArg Int32.toInt (show σ53 55 31 = (σ 55 31) from (congrFun (f55 55 (by decide)) 31)))
      exact by
       refine jcallV (As := [.int (xs x49.toNatClampNeg), .int (xs x51.toNatClampNeg)]) (rest := []) ⟨hx, hb, hml, hown, hts⟩ hK hP hA hS hZ (c_X12_worth l D cI cL ad zz hJ σ53 τ (xs x49.toNatClampNeg) ((xs x49.toNatClampNeg).toInt) rfl (xs x51.toNatClampNeg) ((xs x51.toNatClampNeg).toInt) rfl I66 I67 I68 I69 I70 I71 I72 p73 p74 p75 (by omega)) cw_RL_76 (jc_55 cI cL ad σ53 τ) rfl ⟨Nat.le_of_ble_eq_true rfl, Nat.le_of_ble_eq_true rfl⟩ rfl rfl rfl hl.1 rfl (Nat.le_of_ble_eq_true rfl) dL_law_654 ⟨Nat.le_of_ble_eq_true rfl, Nat.le_of_ble_eq_true rfl⟩ (fun r80 σ79 τ79 H locs h79 hP hS => ?_)
       obtain ⟨rfl, f81, f82, I83, p84, p85, p86, w87, h79⟩ := h79
       obtain ⟨k89, k90, k91, h79⟩ := h79
       refine lv_pop hx hb dL_law_657 rfl ?_
       refine lv_goto (tgt := 1357) hx hb dL_law_658 (by decide) ?_
       obtain ⟨x92, ex92⟩ : ∃ y : Int32, y = x0 + 6 := ⟨_, rfl⟩
       have tx92 : x92.toInt = x0.toInt + 6 := (jadd ex92 rfl jz_6 (by omega) (by omega)).trans (by omega)
       refine lv_iinc (v := x92) (lv' := [(3, .int x92), (2, .ref (ad 55)), (1, .ref (ad 0)), (0, .ref b)]) hx hb dL_law_1357 hl (k := 0) rfl (by rw [ex92]; rfl) (by decide) rfl (fun ls hl => ?_)
       refine lv_goto (tgt := 18) hx hb dL_law_1360 (by decide) ?_
       exact by
        have I93 : jI2 σ79 := jI2_fr ((congrFun (f81 2 (by decide)) 0).trans (congrFun (f55 2 (by decide)) 0)) ((congrFun (f81 2 (by decide)) 1).trans (congrFun (f55 2 (by decide)) 1)) ((congrFun (f81 2 (by decide)) 2).trans (congrFun (f55 2 (by decide)) 2)) ((congrFun (f81 2 (by decide)) 3).trans (congrFun (f55 2 (by decide)) 3)) ((f81 6 (by decide)).trans (f55 6 (by decide))) ((f81 5 (by decide)).trans (f55 5 (by decide))) hI2
        have I94 : jI9 σ79 := jI9_fr ((congrFun (f81 9 (by decide)) 0).trans (congrFun (f55 9 (by decide)) 0)) ((f81 10 (by decide)).trans (f55 10 (by decide))) ((f81 11 (by decide)).trans (f55 11 (by decide))) hI9
        have I95 : jI12 σ79 := jI12_fr ((congrFun (f81 12 (by decide)) 0).trans (congrFun (f55 12 (by decide)) 0)) ((f81 13 (by decide)).trans (f55 13 (by decide))) hI12
        have I96 : jI16 σ79 := jI16_fr ((congrFun (f81 16 (by decide)) 0).trans (congrFun (f55 16 (by decide)) 0)) ((congrFun (f81 16 (by decide)) 1).trans (congrFun (f55 16 (by decide)) 1)) ((congrFun (f81 16 (by decide)) 2).trans (congrFun (f55 16 (by decide)) 2)) ((f81 17 (by decide)).trans (f55 17 (by decide))) hI16
        have I97 : jI18 σ79 := jI18_fr ((congrFun (f81 18 (by decide)) 0).trans (congrFun (f55 18 (by decide)) 0)) ((f81 19 (by decide)).trans (f55 19 (by decide))) hI18
        have I98 : jI22 σ79 := jI22_fr ((congrFun (f81 22 (by decide)) 0).trans (congrFun (f55 22 (by decide)) 0)) ((f81 23 (by decide)).trans (f55 23 (by decide))) hI22
        have I99 : jI31 σ79 := jI31_fr (congrFun (f81 31 (by decide)) 8) (congrFun (f81 31 (by decide)) 10) (congrFun (f81 31 (by decide)) 11) (f81 33 (by decide)) (f81 35 (by decide)) (f81 36 (by decide)) I57
        have I100 : jI38 σ79 := jI38_fr ((congrFun (f81 38 (by decide)) 0).trans (congrFun (f55 38 (by decide)) 0)) ((congrFun (f81 38 (by decide)) 1).trans (congrFun (f55 38 (by decide)) 1)) ((f81 39 (by decide)).trans (f55 39 (by decide))) hI38
        have I101 : jI43 σ79 := jI43_fr ((congrFun (f81 43 (by decide)) 8).trans (congrFun (f55 43 (by decide)) 8)) hI43
        have I102 : jI47 σ79 := jI47_fr ((congrFun (f81 47 (by decide)) 0).trans (congrFun (f55 47 (by decide)) 0)) ((f81 48 (by decide)).trans (f55 48 (by decide))) ((f81 49 (by decide)).trans (f55 49 (by decide))) hI47
        have I103 : jI50 σ79 := jI50_fr ((f81 52 (by decide)).trans (f55 52 (by decide))) hI50
        have I104 : jI0 σ79 := jI0_fr ((f81 1 (by decide)).trans (f55 1 (by decide))) hI0
        have I105 : jI26 σ79 := jI26_fr ((congrFun (f81 26 (by decide)) 6).trans (congrFun (f55 26 (by decide)) 6)) hI26
        have I106 : jI101 σ79 := jI101_fr (f82 4 (by decide)) (f82 5 (by decide)) (f81 56 (by decide)) (f81 57 (by decide)) (f81 58 (by decide)) (f81 59 (by decide)) I66
        have I107 : jI102 σ79 := jI102_fr (f82 6 (by decide)) (f81 60 (by decide)) (f81 61 (by decide)) I67
        have I108 : jI103 σ79 := jI103_fr (f82 9 (by decide)) I68
        have I109 : jI104 σ79 := jI104_fr (f82 10 (by decide)) (f82 12 (by decide)) (f82 13 (by decide)) (f81 62 (by decide)) (f81 67 (by decide)) I69
        have I110 : jI105 σ79 := jI105_fr (f82 15 (by decide)) (f81 65 (by decide)) I70
        have I111 : jI106 σ79 := jI106_fr (f82 32 (by decide)) (f81 70 (by decide)) (f81 71 (by decide)) (f81 72 (by decide)) I71
        have I112 : jI107 σ79 := jI107_fr ((f82 12 (by decide)).trans (congrFun (f55 55 (by decide)) 12)) ((f82 47 (by decide)).trans (congrFun (f55 55 (by decide)) 47)) ((f81 80 (by decide)).trans (f55 80 (by decide))) hI107
        have I113 : jI109 σ79 := jI109_fr ((f82 50 (by decide)).trans (congrFun (f55 55 (by decide)) 50)) hI109
        have I114 : jI110 σ79 := jI110_fr ((f81 86 (by decide)).trans (f55 86 (by decide))) ((f81 87 (by decide)).trans (f55 87 (by decide))) hI110
        have I115 : jI111 σ79 := jI111_fr ((f81 79 (by decide)).trans (f55 79 (by decide))) hI111
        have p116 : jBook σ79 := jBook.fr ((f82 47 (by decide)).trans (congrFun (f55 55 (by decide)) 47)) ((f82 10 (by decide)).trans (congrFun (f55 55 (by decide)) 10)) ((f81 81 (by decide)).trans (f55 81 (by decide))) hs_jBook
        have p117 : jNd12 σ79 := jNd12.fr ((congrFun (f81 12 (by decide)) 0).trans (congrFun (f55 12 (by decide)) 0)) ((congrFun (f81 12 (by decide)) 1).trans (congrFun (f55 12 (by decide)) 1)) ((f81 13 (by decide)).trans (f55 13 (by decide))) hs_jNd12
        have p118 : jN67 σ79 := jN67.fr (f81 24 (by decide)) p58
        have p119 : jBl σ79 := jBl.fr (congrFun (f81 22 (by decide)) 0) (congrFun (f81 22 (by decide)) 1) (f81 23 (by decide)) (congrFun (f81 26 (by decide)) 6) (congrFun (f81 26 (by decide)) 7) (f81 29 (by decide)) (f81 30 (by decide)) p59
        have p120 : jKb σ79 := jKb.fr (congrFun (f81 31 (by decide)) 8) (congrFun (f81 31 (by decide)) 11) (f81 32 (by decide)) p60
        have p121 : jKh σ79 := jKh.fr (congrFun (f81 31 (by decide)) 8) (f81 32 (by decide)) (f81 36 (by decide)) (f81 37 (by decide)) p61
        have p122 : jKg σ79 := jKg.fr (congrFun (f81 31 (by decide)) 8) (congrFun (f81 31 (by decide)) 9) (congrFun (f81 31 (by decide)) 11) (congrFun (f81 31 (by decide)) 12) (f81 32 (by decide)) (f81 33 (by decide)) p62
        have p123 : jNz σ79 := jNz.fr (f81 34 (by decide)) p63
        have z124 : (σ79 2 0).toInt = (σ 2 0).toInt := (congrArg Int32.toInt (show σ79 2 0 = (σ 2 0) from ((congrFun (f81 2 (by decide)) 0).trans (congrFun (f55 2 (by decide)) 0))))
        have z125 : (σ79 55 6).toInt = (σ 55 6).toInt := (congrArg Int32.toInt (show σ79 55 6 = (σ 55 6) from ((f82 6 (by decide)).trans (congrFun (f55 55 (by decide)) 6))))
        have z126 : (σ79 2 2).toInt = (σ 2 2).toInt := (congrArg Int32.toInt (show σ79 2 2 = (σ 2 2) from ((congrFun (f81 2 (by decide)) 2).trans (congrFun (f55 2 (by decide)) 2))))
        have z127 : (σ79 55 5).toInt = (σ 55 5).toInt := (congrArg Int32.toInt (show σ79 55 5 = (σ 55 5) from ((f82 5 (by decide)).trans (congrFun (f55 55 (by decide)) 5))))
        have z128 : (σ79 2 3).toInt = (σ 2 3).toInt := (congrArg Int32.toInt (show σ79 2 3 = (σ 2 3) from ((congrFun (f81 2 (by decide)) 3).trans (congrFun (f55 2 (by decide)) 3))))
        have z129 : (σ79 55 4).toInt = (σ 55 4).toInt := (congrArg Int32.toInt (show σ79 55 4 = (σ 55 4) from ((f82 4 (by decide)).trans (congrFun (f55 55 (by decide)) 4))))
        have z130 : (σ79 9 0).toInt = (σ 9 0).toInt := (congrArg Int32.toInt (show σ79 9 0 = (σ 9 0) from ((congrFun (f81 9 (by decide)) 0).trans (congrFun (f55 9 (by decide)) 0))))
        have z131 : (σ79 55 15).toInt = (σ 55 15).toInt := (congrArg Int32.toInt (show σ79 55 15 = (σ 55 15) from ((f82 15 (by decide)).trans (congrFun (f55 55 (by decide)) 15))))
        have z132 : (σ79 16 0).toInt = (σ 16 0).toInt := (congrArg Int32.toInt (show σ79 16 0 = (σ 16 0) from ((congrFun (f81 16 (by decide)) 0).trans (congrFun (f55 16 (by decide)) 0))))
        have z133 : (σ79 55 10).toInt = (σ 55 10).toInt := (congrArg Int32.toInt (show σ79 55 10 = (σ 55 10) from ((f82 10 (by decide)).trans (congrFun (f55 55 (by decide)) 10))))
        have z134 : (σ79 16 1).toInt = (σ 16 1).toInt := (congrArg Int32.toInt (show σ79 16 1 = (σ 16 1) from ((congrFun (f81 16 (by decide)) 1).trans (congrFun (f55 16 (by decide)) 1))))
        have z135 : (σ79 55 12).toInt = (σ 55 12).toInt := (congrArg Int32.toInt (show σ79 55 12 = (σ 55 12) from ((f82 12 (by decide)).trans (congrFun (f55 55 (by decide)) 12))))
        have z136 : (σ79 16 2).toInt = (σ 16 2).toInt := (congrArg Int32.toInt (show σ79 16 2 = (σ 16 2) from ((congrFun (f81 16 (by decide)) 2).trans (congrFun (f55 16 (by decide)) 2))))
        have z137 : (σ79 55 13).toInt = (σ 55 13).toInt := (congrArg Int32.toInt (show σ79 55 13 = (σ 55 13) from ((f82 13 (by decide)).trans (congrFun (f55 55 (by decide)) 13))))
        have z138 : (σ79 38 0).toInt = (σ 38 0).toInt := (congrArg Int32.toInt (show σ79 38 0 = (σ 38 0) from ((congrFun (f81 38 (by decide)) 0).trans (congrFun (f55 38 (by decide)) 0))))
        have z139 : (σ79 55 32).toInt = (σ 55 32).toInt := (congrArg Int32.toInt (show σ79 55 32 = (σ 55 32) from ((f82 32 (by decide)).trans (congrFun (f55 55 (by decide)) 32))))
        have z140 : (σ79 38 1).toInt = (σ 38 1).toInt := (congrArg Int32.toInt (show σ79 38 1 = (σ 38 1) from ((congrFun (f81 38 (by decide)) 1).trans (congrFun (f55 38 (by decide)) 1))))
        have z141 : (σ79 55 55).toInt = (σ 55 55).toInt := (congrArg Int32.toInt (show σ79 55 55 = (σ 55 55) from ((f82 55 (by decide)).trans (congrFun (f55 55 (by decide)) 55))))
        have z142 : (σ79 47 0).toInt = (σ 47 0).toInt := (congrArg Int32.toInt (show σ79 47 0 = (σ 47 0) from ((congrFun (f81 47 (by decide)) 0).trans (congrFun (f55 47 (by decide)) 0))))
        have z143 : (σ79 55 47).toInt = (σ 55 47).toInt := (congrArg Int32.toInt (show σ79 55 47 = (σ 55 47) from ((f82 47 (by decide)).trans (congrFun (f55 55 (by decide)) 47))))
        have z144 : (σ79 2 1).toInt = (σ 2 1).toInt := (congrArg Int32.toInt (show σ79 2 1 = (σ 2 1) from ((congrFun (f81 2 (by decide)) 1).trans (congrFun (f55 2 (by decide)) 1))))
        have z145 : (σ79 55 9).toInt = (σ 55 9).toInt := (congrArg Int32.toInt (show σ79 55 9 = (σ 55 9) from ((f82 9 (by decide)).trans (congrFun (f55 55 (by decide)) 9))))
        have z146 : (σ79 26 6).toInt = (σ 26 6).toInt := (congrArg Int32.toInt (show σ79 26 6 = (σ 26 6) from ((congrFun (f81 26 (by decide)) 6).trans (congrFun (f55 26 (by decide)) 6))))
        have z148 : (σ79 18 0).toInt = (σ 18 0).toInt := (congrArg Int32.toInt (show σ79 18 0 = (σ 18 0) from ((congrFun (f81 18 (by decide)) 0).trans (congrFun (f55 18 (by decide)) 0))))
        have z149 : (σ79 22 0).toInt = (σ 22 0).toInt := (congrArg Int32.toInt (show σ79 22 0 = (σ 22 0) from ((congrFun (f81 22 (by decide)) 0).trans (congrFun (f55 22 (by decide)) 0))))
        exact by exact ih x92 σ79 τ _ _ ls (by have h9 := tx92; omega) ⟨I93, I94, I95, I96, I97, I98, I99, I100, I101, I102, I103, I104, I105, I106, I107, I108, I109, I110, I111, I112, I113, I114, I115, I83, p84, p116, p117, p118, p119, p120, p85, p121, p122, p123, p86, (by rw [z124, z125]; exact ht0), (by rw [z126, z127]; exact ht1), (by rw [z126, z128, z129]; exact ht2), (by rw [z130, z131]; exact ht3), (by rw [z132, z133]; exact ht4), (by rw [z134, z135]; exact ht5), (by rw [z136, z137]; exact ht6), (by rw [z138, z139]; exact ht7), (by rw [z140, z141]; exact ht8), (by rw [z142, z143]; exact ht9), (by omega), (by omega), (by rw [z144, z145]; exact ht12), (by omega), (by have h9 := tx92; omega), (by have h9 := tx92; omega), (show jNumP (σ79 3) (σ79 56) (σ79 6) (σ79 57) (σ79 7) (σ79 58) (σ79 8) (σ79 59) (σ79 55 6).toInt (σ79 55 4).toInt by rw [show σ79 3 = σ 3 from ((f81 3 (by decide)).trans (f55 3 (by decide))), show σ79 56 = σ 56 from ((f81 56 (by decide)).trans (f55 56 (by decide))), show σ79 6 = σ 6 from ((f81 6 (by decide)).trans (f55 6 (by decide))), show σ79 57 = σ 57 from ((f81 57 (by decide)).trans (f55 57 (by decide))), show σ79 7 = σ 7 from ((f81 7 (by decide)).trans (f55 7 (by decide))), show σ79 58 = σ 58 from ((f81 58 (by decide)).trans (f55 58 (by decide))), show σ79 8 = σ 8 from ((f81 8 (by decide)).trans (f55 8 (by decide))), show σ79 59 = σ 59 from ((f81 59 (by decide)).trans (f55 59 (by decide))), show (σ79 55 6).toInt = (σ 55 6).toInt from z125, show (σ79 55 4).toInt = (σ 55 4).toInt from z129]; exact hr0), (show jOvP (σ79 56) (σ79 57) (σ79 58) (σ79 59) (σ79 55 4).toInt by rw [show σ79 56 = σ 56 from ((f81 56 (by decide)).trans (f55 56 (by decide))), show σ79 57 = σ 57 from ((f81 57 (by decide)).trans (f55 57 (by decide))), show σ79 58 = σ 58 from ((f81 58 (by decide)).trans (f55 58 (by decide))), show σ79 59 = σ 59 from ((f81 59 (by decide)).trans (f55 59 (by decide))), show (σ79 55 4).toInt = (σ 55 4).toInt from z129]; exact hr1), (show jTp (σ79 10) (σ79 63) (σ79 55 15).toInt by rw [show σ79 10 = σ 10 from ((f81 10 (by decide)).trans (f55 10 (by decide))), show σ79 63 = σ 63 from ((f81 63 (by decide)).trans (f55 63 (by decide)))]; exact hr2.le (by omega)), (show jSo (σ79 17) (σ79 62) (σ79 16 0).toInt by rw [show σ79 17 = σ 17 from ((f81 17 (by decide)).trans (f55 17 (by decide))), show σ79 62 = σ 62 from ((f81 62 (by decide)).trans (f55 62 (by decide))), show (σ79 16 0).toInt = (σ 16 0).toInt from z132]; exact hr3), (show jShP (σ79 51) (σ79 52) (σ79 53) (σ79 86) (σ79 87) (σ79 55 32).toInt by rw [show σ79 51 = σ 51 from ((f81 51 (by decide)).trans (f55 51 (by decide))), show σ79 52 = σ 52 from ((f81 52 (by decide)).trans (f55 52 (by decide))), show σ79 53 = σ 53 from ((f81 53 (by decide)).trans (f55 53 (by decide))), show σ79 86 = σ 86 from ((f81 86 (by decide)).trans (f55 86 (by decide))), show σ79 87 = σ 87 from ((f81 87 (by decide)).trans (f55 87 (by decide)))]; exact (hr4.up (by omega) (by omega))), (show jEl (σ79 51) (σ79 52) (τ 54) (τ 88) by rw [show σ79 51 = σ 51 from ((f81 51 (by decide)).trans (f55 51 (by decide))), show σ79 52 = σ 52 from ((f81 52 (by decide)).trans (f55 52 (by decide)))]; exact hr5), (show jByP (σ79 51) (σ79 52) (τ 54) by rw [show σ79 51 = σ 51 from ((f81 51 (by decide)).trans (f55 51 (by decide))), show σ79 52 = σ 52 from ((f81 52 (by decide)).trans (f55 52 (by decide)))]; exact hr6), (show jBk (σ79 48) (σ79 80) (σ79 49) (σ79 81) (σ79 55 47).toInt by rw [show σ79 48 = σ 48 from ((f81 48 (by decide)).trans (f55 48 (by decide))), show σ79 49 = σ 49 from ((f81 49 (by decide)).trans (f55 49 (by decide))), show σ79 80 = σ 80 from ((f81 80 (by decide)).trans (f55 80 (by decide))), show σ79 81 = σ 81 from ((f81 81 (by decide)).trans (f55 81 (by decide))), show (σ79 55 47).toInt = (σ 55 47).toInt from z143]; exact hr7), (show jKd (σ79 39) (σ79 70) (σ79 55 32).toInt by rw [show σ79 39 = σ 39 from ((f81 39 (by decide)).trans (f55 39 (by decide))), show σ79 70 = σ 70 from ((f81 70 (by decide)).trans (f55 70 (by decide))), show (σ79 55 32).toInt = (σ 55 32).toInt from z139]; exact hr8), (show jTt (σ79 42) (σ79 85) (σ79 55 55).toInt by rw [show σ79 42 = σ 42 from ((f81 42 (by decide)).trans (f55 42 (by decide))), show σ79 85 = σ 85 from ((f81 85 (by decide)).trans (f55 85 (by decide))), show (σ79 55 55).toInt = (σ 55 55).toInt from z141]; exact hr9), (fun k hk => by rw [show σ79 4 = σ 4 from ((f81 4 (by decide)).trans (f55 4 (by decide))), show σ79 5 = σ 5 from ((f81 5 (by decide)).trans (f55 5 (by decide))), show σ79 60 = σ 60 from ((f81 60 (by decide)).trans (f55 60 (by decide))), show σ79 61 = σ 61 from ((f81 61 (by decide)).trans (f55 61 (by decide)))]; exact hr10 k (by omega)), (fun nm => by rw [show σ79 19 = σ 19 from ((f81 19 (by decide)).trans (f55 19 (by decide))), show σ79 64 = σ 64 from ((f81 64 (by decide)).trans (f55 64 (by decide))), show σ79 65 = σ 65 from ((f81 65 (by decide)).trans (f55 65 (by decide))), show (σ79 18 0).toInt = (σ 18 0).toInt from z148]; exact hr11 nm), (fun nm => by rw [show σ79 23 = σ 23 from ((f81 23 (by decide)).trans (f55 23 (by decide))), show σ79 64 = σ 64 from ((f81 64 (by decide)).trans (f55 64 (by decide))), show σ79 65 = σ 65 from ((f81 65 (by decide)).trans (f55 65 (by decide))), show (σ79 22 0).toInt = (σ 22 0).toInt from z149]; exact hr12 nm), (show jAlP (σ79 56) (σ79 57) (σ79 58) (σ79 59) (σ79 55 4).toInt by rw [show σ79 56 = σ 56 from ((f81 56 (by decide)).trans (f55 56 (by decide))), show σ79 57 = σ 57 from ((f81 57 (by decide)).trans (f55 57 (by decide))), show σ79 58 = σ 58 from ((f81 58 (by decide)).trans (f55 58 (by decide))), show σ79 59 = σ 59 from ((f81 59 (by decide)).trans (f55 59 (by decide))), show (σ79 55 4).toInt = (σ 55 4).toInt from z129]; exact hr13), (show jqbN (σ79 80) (σ79 55 47).toInt by rw [show σ79 80 = σ 80 from ((f81 80 (by decide)).trans (f55 80 (by decide))), show (σ79 55 47).toInt = (σ 55 47).toInt from z143]; exact hr14)⟩ hP hS (lv_sub hl [0, 1, 2, 3] rfl)
set_option maxHeartbeats 4000000 in
set_option maxRecDepth 100000 in
theorem law_case_15 {p : Program} {e : Env} {s : State} {m : MethodId} {below : List Frame} {meth : Method} {c : Code} (l : Launch) {b L : Nat} {xs : Nat → Int32} {D : va_G} {cI cL : ClassId} {ad zz : Nat → Nat} (C0 : lw_At p s m meth c b L xs) (hJ : jD ad) (hA : ∀ q, jA ad q → s.heap.size ≤ q) (hK : jK D cI cL s) (hZ : jZ zz (fun q : Nat => s.heap.size ≤ q) s s.heap) {x0 : Int32} (hx0 : 0 ≤ x0.toInt) (hxL : x0.toInt + 6 ≤ (L : Int)) (hL : L ≤ 384) {σ : Nat → Nat → Int32} {τ : Nat → Nat → Int64} {H : Heap} {locs : List Loc} (hS : va_S (fun q : Nat => s.heap.size ≤ q) s.heap H locs) {ls : Array Slot} (hAll : jAll x0.toInt σ τ) (hP : jH D cI cL ad σ τ H) (hl : lv_has ls 4 [(3, .int x0), (2, .ref (ad 55)), (1, .ref (ad 0)), (0, .ref b)]) (ih : ∀ (x1 : Int32) (σ : Nat → Nat → Int32) (τ : Nat → Nat → Int64) (H : Heap) (locs : List Loc) (ls : Array Slot), x1.toInt = x0.toInt + 6 → jAll x1.toInt σ τ → jH D cI cL ad σ τ H → va_S (fun q : Nat => s.heap.size ≤ q) s.heap H locs → lv_has ls 4 [(3, .int x1), (2, .ref (ad 55)), (1, .ref (ad 0)), (0, .ref b)] → W p l e room_1 s m #[Value.ref b] below meth c H locs 90 348600 (lw_Z below #[Value.ref b] s) (F0 m 18 ls [])) : W p l e room_1 s m #[Value.ref b] below meth c H locs 90 348600 (lw_Z below #[Value.ref b] s) (F0 m 661 ls []) := by
  obtain ⟨hx, hb, hr, hml, hown, hts0, hX, hbl, hlocks, hgv⟩ := C0
  have hts : ∀ w ∈ wsL_law, w.before #[Value.ref b] s = true := fun w h => hts0 w (wsL_law_in w h)
  have hbA : ¬ (fun q : Nat => s.heap.size ≤ q) b := Nat.not_le.mpr hbl
  have hown : s.vm.findClass RL = some m.cls := hown
  obtain ⟨hI2, hI9, hI12, hI16, hI18, hI22, hI31, hI38, hI43, hI47, hI50, hI0, hI26, hI101, hI102, hI103, hI104, hI105, hI106, hI107, hI109, hI110, hI111, hI119, hs_jKept, hs_jBook, hs_jNd12, hs_jN67, hs_jBl, hs_jKb, hs_jTR, hs_jKh, hs_jKg, hs_jNz, hs_jqSt, ht0, ht1, ht2, ht3, ht4, ht5, ht6, ht7, ht8, ht9, ht10, ht11, ht12, ht13, ht14, ht15, hr0, hr1, hr2, hr3, hr4, hr5, hr6, hr7, hr8, hr9, hr10, hr11, hr12, hr13, hr14⟩ := hAll
  have hL9 : (L : Int) ≤ 384 := by omega
  obtain ⟨i1, i2, i3, i4, i5, w6, w7⟩ : (0 ≤ (σ 2 0).toInt ∧ (σ 2 0).toInt ≤ 4) ∧ (0 ≤ (σ 2 1).toInt ∧ (σ 2 1).toInt ≤ 3) ∧ (0 ≤ (σ 2 2).toInt) ∧ (0 ≤ (σ 2 3).toInt) ∧ ((σ 2 2).toInt + (σ 2 3).toInt ≤ 40) ∧ (∀ k : Nat, k < 40 → 0 ≤ (σ 6 k).toInt ∧ (σ 6 k).toInt ≤ 67) ∧ (∀ k : Nat, k < 4 → 0 ≤ (σ 5 k).toInt ∧ (σ 5 k).toInt ≤ 20) := id hI2
  obtain ⟨i8, w9, w10⟩ : (0 ≤ (σ 9 0).toInt ∧ (σ 9 0).toInt ≤ 80) ∧ (∀ k : Nat, k < 80 → 0 ≤ (σ 10 k).toInt ∧ (σ 10 k).toInt ≤ 255) ∧ (∀ k : Nat, k < 8 → 0 ≤ (σ 11 k).toInt ∧ (σ 11 k).toInt ≤ 3) := id hI9
  obtain ⟨i11, i12, i13, w14⟩ : (1 ≤ (σ 16 0).toInt ∧ (σ 16 0).toInt ≤ 8) ∧ (1 ≤ (σ 16 1).toInt ∧ (σ 16 1).toInt ≤ 12) ∧ (0 ≤ (σ 16 2).toInt ∧ (σ 16 2).toInt ≤ 999) ∧ (∀ k : Nat, k < 8 → 0 ≤ (σ 17 k).toInt ∧ (σ 17 k).toInt ≤ 3) := id hI16
  obtain ⟨i15, i16, w17⟩ : (0 ≤ (σ 38 0).toInt ∧ (σ 38 0).toInt ≤ 20) ∧ (0 ≤ (σ 38 1).toInt ∧ (σ 38 1).toInt ≤ 1000) ∧ (∀ k : Nat, k < 20 → 0 ≤ (σ 39 k).toInt ∧ (σ 39 k).toInt ≤ 6) := id hI38
  obtain ⟨i18, w19, w20⟩ : (0 ≤ (σ 47 0).toInt ∧ (σ 47 0).toInt ≤ 12) ∧ (∀ k : Nat, k < 12 → 0 ≤ (σ 48 k).toInt ∧ (σ 48 k).toInt ≤ 3) ∧ (∀ k : Nat, k < 12 → 0 ≤ (σ 49 k).toInt ∧ (σ 49 k).toInt ≤ 1) := id hI47
  have w21 : ∀ k : Nat, k < 6 → 0 ≤ (σ 52 k).toInt ∧ (σ 52 k).toInt ≤ 60 := hI50
  have i22 : 1 ≤ (σ 26 6).toInt ∧ (σ 26 6).toInt ≤ 8000 := hI26
  obtain ⟨i23, i24, i25, w26, w27, w28, w29⟩ : (0 ≤ (σ 55 5).toInt) ∧ ((σ 55 5).toInt ≤ (σ 55 4).toInt) ∧ ((σ 55 4).toInt ≤ 40) ∧ (∀ k : Nat, k < 68 → (-200) ≤ (σ 56 k).toInt ∧ (σ 56 k).toInt ≤ 500) ∧ (∀ k : Nat, k < 40 → 0 ≤ (σ 57 k).toInt ∧ (σ 57 k).toInt ≤ 67) ∧ (∀ k : Nat, k < 40 → (-200) ≤ (σ 58 k).toInt ∧ (σ 58 k).toInt ≤ 500) ∧ (∀ k : Nat, k < 40 → (-200) ≤ (σ 59 k).toInt ∧ (σ 59 k).toInt ≤ 500) := id hI101
  obtain ⟨i30, w31, w32⟩ : (0 ≤ (σ 55 6).toInt ∧ (σ 55 6).toInt ≤ 4) ∧ (∀ k : Nat, k < 4 → 0 ≤ (σ 60 k).toInt ∧ (σ 60 k).toInt ≤ 50) ∧ (∀ k : Nat, k < 4 → 0 ≤ (σ 61 k).toInt ∧ (σ 61 k).toInt ≤ 20) := id hI102
  have i33 : 0 ≤ (σ 55 9).toInt ∧ (σ 55 9).toInt ≤ 3 := hI103
  obtain ⟨i34, i35, i36, w37, w38⟩ : (1 ≤ (σ 55 10).toInt ∧ (σ 55 10).toInt ≤ 8) ∧ (1 ≤ (σ 55 12).toInt ∧ (σ 55 12).toInt ≤ 12) ∧ (0 ≤ (σ 55 13).toInt ∧ (σ 55 13).toInt ≤ 999) ∧ (∀ k : Nat, k < 8 → 0 ≤ (σ 62 k).toInt ∧ (σ 62 k).toInt ≤ 3) ∧ (∀ k : Nat, k < 8 → 0 ≤ (σ 67 k).toInt ∧ (σ 67 k).toInt ≤ 3) := id hI104
  obtain ⟨i39, w40⟩ : (0 ≤ (σ 55 15).toInt ∧ (σ 55 15).toInt ≤ 80) ∧ (∀ k : Nat, k < 2 → (-1) ≤ (σ 65 k).toInt ∧ (σ 65 k).toInt ≤ 80) := id hI105
  obtain ⟨i41, w42, w43, w44⟩ : (0 ≤ (σ 55 32).toInt ∧ (σ 55 32).toInt ≤ 20) ∧ (∀ k : Nat, k < 20 → 0 ≤ (σ 70 k).toInt ∧ (σ 70 k).toInt ≤ 6) ∧ (∀ k : Nat, k < 20 → 0 ≤ (σ 71 k).toInt ∧ (σ 71 k).toInt ≤ 8) ∧ (∀ k : Nat, k < 160 → 0 ≤ (σ 72 k).toInt ∧ (σ 72 k).toInt ≤ 3) := id hI106
  obtain ⟨i45, i46, w47⟩ : (0 ≤ (σ 55 47).toInt ∧ (σ 55 47).toInt ≤ 12) ∧ ((σ 55 47).toInt ≤ (σ 55 12).toInt) ∧ (∀ k : Nat, k < 12 → 0 ≤ (σ 80 k).toInt ∧ (σ 80 k).toInt ≤ 3) := id hI107
  have hs_jOk3 : jOk3 σ := hr0.ok hr1.1
  refine lv_aload_n hx hb dL_law_661 rfl (lv_at hl 2 rfl) ?_
  refine lv_aload_n hx hb dL_law_662 rfl (lv_at hl 3 rfl) ?_
  refine lv_iload_n hx hb dL_law_663 rfl (lv_at hl 0 rfl) ?_
  refine lv_iconst (v := 1) hx hb dL_law_664 (by decide) ?_
  have g48 := jrg (rfl : x0.toInt = x0.toInt)
  refine lv_iadd hx hb dL_law_665 ?_
  refine lv_topi (fun x49 ex49 => ?_)
  exact by
   have tx49 : x49.toInt = x0.toInt + 1 := (jadd ex49 rfl jz_1 (by omega) (by omega)).trans (by omega)
   refine va_sld hx hb hX hbl hbA hS (jin tx49 (by omega) (by omega)) dL_law_666 ?_
   have g50 := jrg (rfl : (xs x49.toNatClampNeg).toInt = (xs x49.toNatClampNeg).toInt)
   refine lv_aload_n hx hb dL_law_667 rfl (lv_at hl 3 rfl) ?_
   refine lv_iload_n hx hb dL_law_668 rfl (lv_at hl 0 rfl) ?_
   refine lv_iconst (v := 2) hx hb dL_law_669 (by decide) ?_
   refine lv_iadd hx hb dL_law_670 ?_
   refine lv_topi (fun x51 ex51 => ?_)
   have tx51 : x51.toInt = x0.toInt + 2 := (jadd ex51 rfl jz_2 (by omega) (by omega)).trans (by omega)
   exact by
    refine va_sld hx hb hX hbl hbA hS (jin tx51 (by omega) (by omega)) dL_law_671 ?_
    have g52 := jrg (rfl : (xs x51.toNatClampNeg).toInt = (xs x51.toNatClampNeg).toInt)
    refine jcallV (As := [.int (xs x49.toNatClampNeg), .int (xs x51.toNatClampNeg)]) (rest := []) ⟨hx, hb, hml, hown, hts⟩ hK hP hA hS hZ (c_X11_fielded l D cI cL ad zz hJ σ τ (xs x49.toNatClampNeg) ((xs x49.toNatClampNeg).toInt) rfl (xs x51.toNatClampNeg) ((xs x51.toNatClampNeg).toInt) rfl hI2 hI16 hI22 hI31 hI26 hs_jN67 hs_jBl hs_jKb hs_jKh hs_jKg hs_jNz) cw_RL_77 (jc_0 cI cL ad σ τ) rfl ⟨Nat.le_of_ble_eq_true rfl, Nat.le_of_ble_eq_true rfl⟩ rfl rfl rfl hl.1 rfl (Nat.le_of_ble_eq_true rfl) dL_law_672 ⟨Nat.le_of_ble_eq_true rfl, Nat.le_of_ble_eq_true rfl⟩ (fun r54 σ53 τ53 H locs h53 hP hS => ?_)
    obtain ⟨rfl, f55, f56, I57, p58, p59, p60, p61, p62, p63, w64, h53⟩ := h53
    refine lv_pop hx hb dL_law_675 rfl ?_
    refine lv_aload_n hx hb dL_law_676 rfl (lv_at hl 1 rfl) ?_
    refine lv_aload_n hx hb dL_law_677 rfl (lv_at hl 3 rfl) ?_
    refine lv_iload_n hx hb dL_law_678 rfl (lv_at hl 0 rfl) ?_
    refine lv_iconst (v := 1) hx hb dL_law_679 (by decide) ?_
    refine lv_iadd hx hb dL_law_680 ?_
    refine jtopr ex49.symm ?_
    exact by
     refine va_sld hx hb hX hbl hbA hS (jin tx49 (by omega) (by omega)) dL_law_681 ?_
     refine lv_aload_n hx hb dL_law_682 rfl (lv_at hl 3 rfl) ?_
     refine lv_iload_n hx hb dL_law_683 rfl (lv_at hl 0 rfl) ?_
     refine lv_iconst (v := 2) hx hb dL_law_684 (by decide) ?_
     refine lv_iadd hx hb dL_law_685 ?_
     refine jtopr ex51.symm ?_
     refine va_sld hx hb hX hbl hbA hS (jin tx51 (by omega) (by omega)) dL_law_686 ?_
     have I66 : jI101 σ53 := jI101_fr (congrFun (f55 55 (by decide)) 4) (congrFun (f55 55 (by decide)) 5) (f55 56 (by decide)) (f55 57 (by decide)) (f55 58 (by decide)) (f55 59 (by decide)) hI101
     have I67 : jI102 σ53 := jI102_fr (congrFun (f55 55 (by decide)) 6) (f55 60 (by decide)) (f55 61 (by decide)) hI102
     exact by
      have I68 : jI103 σ53 := jI103_fr (congrFun (f55 55 (by decide)) 9) hI103
      have I69 : jI104 σ53 := jI104_fr (congrFun (f55 55 (by decide)) 10) (congrFun (f55 55 (by decide)) 12) (congrFun (f55 55 (by decide)) 13) (f55 62 (by decide)) (f55 67 (by decide)) hI104
      have I70 : jI105 σ53 := jI105_fr (congrFun (f55 55 (by decide)) 15) (f55 65 (by decide)) hI105
      have I71 : jI106 σ53 := jI106_fr (congrFun (f55 55 (by decide)) 32) (f55 70 (by decide)) (f55 71 (by decide)) (f55 72 (by decide)) hI106
      have I72 : jI119 σ53 := jI119_fr (f55 68 (by decide)) hI119
      have p73 : jKept σ53 := jKept.fr (f55 75 (by decide)) (f55 76 (by decide)) (f55 77 (by decide)) hs_jKept
      have p74 : jTR σ53 := jTR.fr (f55 64 (by decide)) (f55 65 (by decide)) hs_jTR
      have p75 : jqSt σ53 := jqSt.fr (f55 78 (by decide)) (congrFun (f55 55 (by decide)) 42) hs_jqSt
      have z76 : (σ53 55 42).toInt = (σ 55 42).toInt := (congrArg Int32.toInt (show σ53 55 42 = (σ 55 42) from (congrFun (f55 55 (by decide)) 42)))
      have z77 : (σ53 55 9).toInt = (σ 55 9).toInt := (congrArg Int32.toInt (show σ53 55 9 = (σ 55 9) from (congrFun (f55 55 (by decide)) 9)))
      exact by
       refine jcallV (As := [.int (xs x49.toNatClampNeg), .int (xs x51.toNatClampNeg)]) (rest := []) ⟨hx, hb, hml, hown, hts⟩ hK hP hA hS hZ (c_X12_fielded l D cI cL ad zz hJ σ53 τ (xs x49.toNatClampNeg) ((xs x49.toNatClampNeg).toInt) rfl (xs x51.toNatClampNeg) ((xs x51.toNatClampNeg).toInt) rfl I66 I67 I68 I69 I70 I71 I72 p73 p74 p75 (by omega)) cw_RL_80 (jc_55 cI cL ad σ53 τ) rfl ⟨Nat.le_of_ble_eq_true rfl, Nat.le_of_ble_eq_true rfl⟩ rfl rfl rfl hl.1 rfl (Nat.le_of_ble_eq_true rfl) dL_law_687 ⟨Nat.le_of_ble_eq_true rfl, Nat.le_of_ble_eq_true rfl⟩ (fun r79 σ78 τ78 H locs h78 hP hS => ?_)
       obtain ⟨rfl, f80, f81, I82, I83, p84, p85, p86, w87, h78⟩ := h78
       have i89 : 0 ≤ (σ78 55 9).toInt ∧ (σ78 55 9).toInt ≤ 3 := I82
       obtain ⟨k90, k91, k92, h78⟩ := h78
       refine lv_pop hx hb dL_law_690 rfl ?_
       refine lv_goto (tgt := 1357) hx hb dL_law_691 (by decide) ?_
       obtain ⟨x93, ex93⟩ : ∃ y : Int32, y = x0 + 6 := ⟨_, rfl⟩
       have tx93 : x93.toInt = x0.toInt + 6 := (jadd ex93 rfl jz_6 (by omega) (by omega)).trans (by omega)
       refine lv_iinc (v := x93) (lv' := [(3, .int x93), (2, .ref (ad 55)), (1, .ref (ad 0)), (0, .ref b)]) hx hb dL_law_1357 hl (k := 0) rfl (by rw [ex93]; rfl) (by decide) rfl (fun ls hl => ?_)
       exact by
        refine lv_goto (tgt := 18) hx hb dL_law_1360 (by decide) ?_
        have I94 : jI2 σ78 := jI2_fr ((congrFun (f80 2 (by decide)) 0).trans (congrFun (f55 2 (by decide)) 0)) ((congrFun (f80 2 (by decide)) 1).trans (congrFun (f55 2 (by decide)) 1)) ((congrFun (f80 2 (by decide)) 2).trans (congrFun (f55 2 (by decide)) 2)) ((congrFun (f80 2 (by decide)) 3).trans (congrFun (f55 2 (by decide)) 3)) ((f80 6 (by decide)).trans (f55 6 (by decide))) ((f80 5 (by decide)).trans (f55 5 (by decide))) hI2
        have I95 : jI9 σ78 := jI9_fr ((congrFun (f80 9 (by decide)) 0).trans (congrFun (f55 9 (by decide)) 0)) ((f80 10 (by decide)).trans (f55 10 (by decide))) ((f80 11 (by decide)).trans (f55 11 (by decide))) hI9
        have I96 : jI12 σ78 := jI12_fr ((congrFun (f80 12 (by decide)) 0).trans (congrFun (f55 12 (by decide)) 0)) ((f80 13 (by decide)).trans (f55 13 (by decide))) hI12
        have I97 : jI16 σ78 := jI16_fr ((congrFun (f80 16 (by decide)) 0).trans (congrFun (f55 16 (by decide)) 0)) ((congrFun (f80 16 (by decide)) 1).trans (congrFun (f55 16 (by decide)) 1)) ((congrFun (f80 16 (by decide)) 2).trans (congrFun (f55 16 (by decide)) 2)) ((f80 17 (by decide)).trans (f55 17 (by decide))) hI16
        have I98 : jI18 σ78 := jI18_fr ((congrFun (f80 18 (by decide)) 0).trans (congrFun (f55 18 (by decide)) 0)) ((f80 19 (by decide)).trans (f55 19 (by decide))) hI18
        have I99 : jI22 σ78 := jI22_fr ((congrFun (f80 22 (by decide)) 0).trans (congrFun (f55 22 (by decide)) 0)) ((f80 23 (by decide)).trans (f55 23 (by decide))) hI22
        have I100 : jI31 σ78 := jI31_fr (congrFun (f80 31 (by decide)) 8) (congrFun (f80 31 (by decide)) 10) (congrFun (f80 31 (by decide)) 11) (f80 33 (by decide)) (f80 35 (by decide)) (f80 36 (by decide)) I57
        have I101 : jI38 σ78 := jI38_fr ((congrFun (f80 38 (by decide)) 0).trans (congrFun (f55 38 (by decide)) 0)) ((congrFun (f80 38 (by decide)) 1).trans (congrFun (f55 38 (by decide)) 1)) ((f80 39 (by decide)).trans (f55 39 (by decide))) hI38
        have I102 : jI43 σ78 := jI43_fr ((congrFun (f80 43 (by decide)) 8).trans (congrFun (f55 43 (by decide)) 8)) hI43
        have I103 : jI47 σ78 := jI47_fr ((congrFun (f80 47 (by decide)) 0).trans (congrFun (f55 47 (by decide)) 0)) ((f80 48 (by decide)).trans (f55 48 (by decide))) ((f80 49 (by decide)).trans (f55 49 (by decide))) hI47
        have I104 : jI50 σ78 := jI50_fr ((f80 52 (by decide)).trans (f55 52 (by decide))) hI50
        have I105 : jI0 σ78 := jI0_fr ((f80 1 (by decide)).trans (f55 1 (by decide))) hI0
        have I106 : jI26 σ78 := jI26_fr ((congrFun (f80 26 (by decide)) 6).trans (congrFun (f55 26 (by decide)) 6)) hI26
        have I107 : jI101 σ78 := jI101_fr (f81 4 (by decide)) (f81 5 (by decide)) (f80 56 (by decide)) (f80 57 (by decide)) (f80 58 (by decide)) (f80 59 (by decide)) I66
        have I108 : jI102 σ78 := jI102_fr (f81 6 (by decide)) (f80 60 (by decide)) (f80 61 (by decide)) I67
        have I109 : jI104 σ78 := jI104_fr (f81 10 (by decide)) (f81 12 (by decide)) (f81 13 (by decide)) (f80 62 (by decide)) (f80 67 (by decide)) I69
        have I110 : jI105 σ78 := jI105_fr (f81 15 (by decide)) (f80 65 (by decide)) I70
        have I111 : jI106 σ78 := jI106_fr (f81 32 (by decide)) (f80 70 (by decide)) (f80 71 (by decide)) (f80 72 (by decide)) I71
        have I112 : jI107 σ78 := jI107_fr ((f81 12 (by decide)).trans (congrFun (f55 55 (by decide)) 12)) ((f81 47 (by decide)).trans (congrFun (f55 55 (by decide)) 47)) ((f80 80 (by decide)).trans (f55 80 (by decide))) hI107
        have I113 : jI109 σ78 := jI109_fr ((f81 50 (by decide)).trans (congrFun (f55 55 (by decide)) 50)) hI109
        have I114 : jI110 σ78 := jI110_fr ((f80 86 (by decide)).trans (f55 86 (by decide))) ((f80 87 (by decide)).trans (f55 87 (by decide))) hI110
        have I115 : jI111 σ78 := jI111_fr ((f80 79 (by decide)).trans (f55 79 (by decide))) hI111
        have p116 : jBook σ78 := jBook.fr ((f81 47 (by decide)).trans (congrFun (f55 55 (by decide)) 47)) ((f81 10 (by decide)).trans (congrFun (f55 55 (by decide)) 10)) ((f80 81 (by decide)).trans (f55 81 (by decide))) hs_jBook
        have p117 : jNd12 σ78 := jNd12.fr ((congrFun (f80 12 (by decide)) 0).trans (congrFun (f55 12 (by decide)) 0)) ((congrFun (f80 12 (by decide)) 1).trans (congrFun (f55 12 (by decide)) 1)) ((f80 13 (by decide)).trans (f55 13 (by decide))) hs_jNd12
        have p118 : jN67 σ78 := jN67.fr (f80 24 (by decide)) p58
        have p119 : jBl σ78 := jBl.fr (congrFun (f80 22 (by decide)) 0) (congrFun (f80 22 (by decide)) 1) (f80 23 (by decide)) (congrFun (f80 26 (by decide)) 6) (congrFun (f80 26 (by decide)) 7) (f80 29 (by decide)) (f80 30 (by decide)) p59
        have p120 : jKb σ78 := jKb.fr (congrFun (f80 31 (by decide)) 8) (congrFun (f80 31 (by decide)) 11) (f80 32 (by decide)) p60
        have p121 : jKh σ78 := jKh.fr (congrFun (f80 31 (by decide)) 8) (f80 32 (by decide)) (f80 36 (by decide)) (f80 37 (by decide)) p61
        have p122 : jKg σ78 := jKg.fr (congrFun (f80 31 (by decide)) 8) (congrFun (f80 31 (by decide)) 9) (congrFun (f80 31 (by decide)) 11) (congrFun (f80 31 (by decide)) 12) (f80 32 (by decide)) (f80 33 (by decide)) p62
        have p123 : jNz σ78 := jNz.fr (f80 34 (by decide)) p63
        have z124 : (σ78 2 0).toInt = (σ 2 0).toInt := (congrArg Int32.toInt (show σ78 2 0 = (σ 2 0) from ((congrFun (f80 2 (by decide)) 0).trans (congrFun (f55 2 (by decide)) 0))))
        have z125 : (σ78 55 6).toInt = (σ 55 6).toInt := (congrArg Int32.toInt (show σ78 55 6 = (σ 55 6) from ((f81 6 (by decide)).trans (congrFun (f55 55 (by decide)) 6))))
        have z126 : (σ78 2 2).toInt = (σ 2 2).toInt := (congrArg Int32.toInt (show σ78 2 2 = (σ 2 2) from ((congrFun (f80 2 (by decide)) 2).trans (congrFun (f55 2 (by decide)) 2))))
        have z127 : (σ78 55 5).toInt = (σ 55 5).toInt := (congrArg Int32.toInt (show σ78 55 5 = (σ 55 5) from ((f81 5 (by decide)).trans (congrFun (f55 55 (by decide)) 5))))
        have z128 : (σ78 2 3).toInt = (σ 2 3).toInt := (congrArg Int32.toInt (show σ78 2 3 = (σ 2 3) from ((congrFun (f80 2 (by decide)) 3).trans (congrFun (f55 2 (by decide)) 3))))
        have z129 : (σ78 55 4).toInt = (σ 55 4).toInt := (congrArg Int32.toInt (show σ78 55 4 = (σ 55 4) from ((f81 4 (by decide)).trans (congrFun (f55 55 (by decide)) 4))))
        have z130 : (σ78 9 0).toInt = (σ 9 0).toInt := (congrArg Int32.toInt (show σ78 9 0 = (σ 9 0) from ((congrFun (f80 9 (by decide)) 0).trans (congrFun (f55 9 (by decide)) 0))))
        have z131 : (σ78 55 15).toInt = (σ 55 15).toInt := (congrArg Int32.toInt (show σ78 55 15 = (σ 55 15) from ((f81 15 (by decide)).trans (congrFun (f55 55 (by decide)) 15))))
        have z132 : (σ78 16 0).toInt = (σ 16 0).toInt := (congrArg Int32.toInt (show σ78 16 0 = (σ 16 0) from ((congrFun (f80 16 (by decide)) 0).trans (congrFun (f55 16 (by decide)) 0))))
        have z133 : (σ78 55 10).toInt = (σ 55 10).toInt := (congrArg Int32.toInt (show σ78 55 10 = (σ 55 10) from ((f81 10 (by decide)).trans (congrFun (f55 55 (by decide)) 10))))
        have z134 : (σ78 16 1).toInt = (σ 16 1).toInt := (congrArg Int32.toInt (show σ78 16 1 = (σ 16 1) from ((congrFun (f80 16 (by decide)) 1).trans (congrFun (f55 16 (by decide)) 1))))
        have z135 : (σ78 55 12).toInt = (σ 55 12).toInt := (congrArg Int32.toInt (show σ78 55 12 = (σ 55 12) from ((f81 12 (by decide)).trans (congrFun (f55 55 (by decide)) 12))))
        have z136 : (σ78 16 2).toInt = (σ 16 2).toInt := (congrArg Int32.toInt (show σ78 16 2 = (σ 16 2) from ((congrFun (f80 16 (by decide)) 2).trans (congrFun (f55 16 (by decide)) 2))))
        have z137 : (σ78 55 13).toInt = (σ 55 13).toInt := (congrArg Int32.toInt (show σ78 55 13 = (σ 55 13) from ((f81 13 (by decide)).trans (congrFun (f55 55 (by decide)) 13))))
        have z138 : (σ78 38 0).toInt = (σ 38 0).toInt := (congrArg Int32.toInt (show σ78 38 0 = (σ 38 0) from ((congrFun (f80 38 (by decide)) 0).trans (congrFun (f55 38 (by decide)) 0))))
        have z139 : (σ78 55 32).toInt = (σ 55 32).toInt := (congrArg Int32.toInt (show σ78 55 32 = (σ 55 32) from ((f81 32 (by decide)).trans (congrFun (f55 55 (by decide)) 32))))
        have z140 : (σ78 38 1).toInt = (σ 38 1).toInt := (congrArg Int32.toInt (show σ78 38 1 = (σ 38 1) from ((congrFun (f80 38 (by decide)) 1).trans (congrFun (f55 38 (by decide)) 1))))
        have z141 : (σ78 55 55).toInt = (σ 55 55).toInt := (congrArg Int32.toInt (show σ78 55 55 = (σ 55 55) from ((f81 55 (by decide)).trans (congrFun (f55 55 (by decide)) 55))))
        have z142 : (σ78 47 0).toInt = (σ 47 0).toInt := (congrArg Int32.toInt (show σ78 47 0 = (σ 47 0) from ((congrFun (f80 47 (by decide)) 0).trans (congrFun (f55 47 (by decide)) 0))))
        have z143 : (σ78 55 47).toInt = (σ 55 47).toInt := (congrArg Int32.toInt (show σ78 55 47 = (σ 55 47) from ((f81 47 (by decide)).trans (congrFun (f55 55 (by decide)) 47))))
        have z144 : (σ78 55 30).toInt = (σ 55 30).toInt := (congrArg Int32.toInt (show σ78 55 30 = (σ 55 30) from ((f81 30 (by decide)).trans (congrFun (f55 55 (by decide)) 30))))
        have z145 : (σ78 55 31).toInt = (σ 55 31).toInt := (congrArg Int32.toInt (show σ78 55 31 = (σ 55 31) from ((f81 31 (by decide)).trans (congrFun (f55 55 (by decide)) 31))))
        have z146 : (σ78 2 1).toInt = (σ 2 1).toInt := (congrArg Int32.toInt (show σ78 2 1 = (σ 2 1) from ((congrFun (f80 2 (by decide)) 1).trans (congrFun (f55 2 (by decide)) 1))))
        have z147 : (σ78 26 6).toInt = (σ 26 6).toInt := (congrArg Int32.toInt (show σ78 26 6 = (σ 26 6) from ((congrFun (f80 26 (by decide)) 6).trans (congrFun (f55 26 (by decide)) 6))))
        have z149 : (σ78 18 0).toInt = (σ 18 0).toInt := (congrArg Int32.toInt (show σ78 18 0 = (σ 18 0) from ((congrFun (f80 18 (by decide)) 0).trans (congrFun (f55 18 (by decide)) 0))))
        have z150 : (σ78 22 0).toInt = (σ 22 0).toInt := (congrArg Int32.toInt (show σ78 22 0 = (σ 22 0) from ((congrFun (f80 22 (by decide)) 0).trans (congrFun (f55 22 (by decide)) 0))))
        exact by exact ih x93 σ78 τ _ _ ls (by have h9 := tx93; omega) ⟨I94, I95, I96, I97, I98, I99, I100, I101, I102, I103, I104, I105, I106, I107, I108, I82, I109, I110, I111, I112, I113, I114, I115, I83, p84, p116, p117, p118, p119, p120, p85, p121, p122, p123, p86, (by rw [z124, z125]; exact ht0), (by rw [z126, z127]; exact ht1), (by rw [z126, z128, z129]; exact ht2), (by rw [z130, z131]; exact ht3), (by rw [z132, z133]; exact ht4), (by rw [z134, z135]; exact ht5), (by rw [z136, z137]; exact ht6), (by rw [z138, z139]; exact ht7), (by rw [z140, z141]; exact ht8), (by rw [z142, z143]; exact ht9), (by rw [z144]; exact ht10), (by rw [z145]; exact ht11), (by omega), (by omega), (by have h9 := tx93; omega), (by have h9 := tx93; omega), (show jNumP (σ78 3) (σ78 56) (σ78 6) (σ78 57) (σ78 7) (σ78 58) (σ78 8) (σ78 59) (σ78 55 6).toInt (σ78 55 4).toInt by rw [show σ78 3 = σ 3 from ((f80 3 (by decide)).trans (f55 3 (by decide))), show σ78 56 = σ 56 from ((f80 56 (by decide)).trans (f55 56 (by decide))), show σ78 6 = σ 6 from ((f80 6 (by decide)).trans (f55 6 (by decide))), show σ78 57 = σ 57 from ((f80 57 (by decide)).trans (f55 57 (by decide))), show σ78 7 = σ 7 from ((f80 7 (by decide)).trans (f55 7 (by decide))), show σ78 58 = σ 58 from ((f80 58 (by decide)).trans (f55 58 (by decide))), show σ78 8 = σ 8 from ((f80 8 (by decide)).trans (f55 8 (by decide))), show σ78 59 = σ 59 from ((f80 59 (by decide)).trans (f55 59 (by decide))), show (σ78 55 6).toInt = (σ 55 6).toInt from z125, show (σ78 55 4).toInt = (σ 55 4).toInt from z129]; exact hr0), (show jOvP (σ78 56) (σ78 57) (σ78 58) (σ78 59) (σ78 55 4).toInt by rw [show σ78 56 = σ 56 from ((f80 56 (by decide)).trans (f55 56 (by decide))), show σ78 57 = σ 57 from ((f80 57 (by decide)).trans (f55 57 (by decide))), show σ78 58 = σ 58 from ((f80 58 (by decide)).trans (f55 58 (by decide))), show σ78 59 = σ 59 from ((f80 59 (by decide)).trans (f55 59 (by decide))), show (σ78 55 4).toInt = (σ 55 4).toInt from z129]; exact hr1), (show jTp (σ78 10) (σ78 63) (σ78 55 15).toInt by rw [show σ78 10 = σ 10 from ((f80 10 (by decide)).trans (f55 10 (by decide))), show σ78 63 = σ 63 from ((f80 63 (by decide)).trans (f55 63 (by decide)))]; exact hr2.le (by omega)), (show jSo (σ78 17) (σ78 62) (σ78 16 0).toInt by rw [show σ78 17 = σ 17 from ((f80 17 (by decide)).trans (f55 17 (by decide))), show σ78 62 = σ 62 from ((f80 62 (by decide)).trans (f55 62 (by decide))), show (σ78 16 0).toInt = (σ 16 0).toInt from z132]; exact hr3), (show jShP (σ78 51) (σ78 52) (σ78 53) (σ78 86) (σ78 87) (σ78 55 32).toInt by rw [show σ78 51 = σ 51 from ((f80 51 (by decide)).trans (f55 51 (by decide))), show σ78 52 = σ 52 from ((f80 52 (by decide)).trans (f55 52 (by decide))), show σ78 53 = σ 53 from ((f80 53 (by decide)).trans (f55 53 (by decide))), show σ78 86 = σ 86 from ((f80 86 (by decide)).trans (f55 86 (by decide))), show σ78 87 = σ 87 from ((f80 87 (by decide)).trans (f55 87 (by decide)))]; exact (hr4.up (by omega) (by omega))), (show jEl (σ78 51) (σ78 52) (τ 54) (τ 88) by rw [show σ78 51 = σ 51 from ((f80 51 (by decide)).trans (f55 51 (by decide))), show σ78 52 = σ 52 from ((f80 52 (by decide)).trans (f55 52 (by decide)))]; exact hr5), (show jByP (σ78 51) (σ78 52) (τ 54) by rw [show σ78 51 = σ 51 from ((f80 51 (by decide)).trans (f55 51 (by decide))), show σ78 52 = σ 52 from ((f80 52 (by decide)).trans (f55 52 (by decide)))]; exact hr6), (show jBk (σ78 48) (σ78 80) (σ78 49) (σ78 81) (σ78 55 47).toInt by rw [show σ78 48 = σ 48 from ((f80 48 (by decide)).trans (f55 48 (by decide))), show σ78 49 = σ 49 from ((f80 49 (by decide)).trans (f55 49 (by decide))), show σ78 80 = σ 80 from ((f80 80 (by decide)).trans (f55 80 (by decide))), show σ78 81 = σ 81 from ((f80 81 (by decide)).trans (f55 81 (by decide))), show (σ78 55 47).toInt = (σ 55 47).toInt from z143]; exact hr7), (show jKd (σ78 39) (σ78 70) (σ78 55 32).toInt by rw [show σ78 39 = σ 39 from ((f80 39 (by decide)).trans (f55 39 (by decide))), show σ78 70 = σ 70 from ((f80 70 (by decide)).trans (f55 70 (by decide))), show (σ78 55 32).toInt = (σ 55 32).toInt from z139]; exact hr8), (show jTt (σ78 42) (σ78 85) (σ78 55 55).toInt by rw [show σ78 42 = σ 42 from ((f80 42 (by decide)).trans (f55 42 (by decide))), show σ78 85 = σ 85 from ((f80 85 (by decide)).trans (f55 85 (by decide))), show (σ78 55 55).toInt = (σ 55 55).toInt from z141]; exact hr9), (fun k hk => by rw [show σ78 4 = σ 4 from ((f80 4 (by decide)).trans (f55 4 (by decide))), show σ78 5 = σ 5 from ((f80 5 (by decide)).trans (f55 5 (by decide))), show σ78 60 = σ 60 from ((f80 60 (by decide)).trans (f55 60 (by decide))), show σ78 61 = σ 61 from ((f80 61 (by decide)).trans (f55 61 (by decide)))]; exact hr10 k (by omega)), (fun nm => by rw [show σ78 19 = σ 19 from ((f80 19 (by decide)).trans (f55 19 (by decide))), show σ78 64 = σ 64 from ((f80 64 (by decide)).trans (f55 64 (by decide))), show σ78 65 = σ 65 from ((f80 65 (by decide)).trans (f55 65 (by decide))), show (σ78 18 0).toInt = (σ 18 0).toInt from z149]; exact hr11 nm), (fun nm => by rw [show σ78 23 = σ 23 from ((f80 23 (by decide)).trans (f55 23 (by decide))), show σ78 64 = σ 64 from ((f80 64 (by decide)).trans (f55 64 (by decide))), show σ78 65 = σ 65 from ((f80 65 (by decide)).trans (f55 65 (by decide))), show (σ78 22 0).toInt = (σ 22 0).toInt from z150]; exact hr12 nm), (show jAlP (σ78 56) (σ78 57) (σ78 58) (σ78 59) (σ78 55 4).toInt by rw [show σ78 56 = σ 56 from ((f80 56 (by decide)).trans (f55 56 (by decide))), show σ78 57 = σ 57 from ((f80 57 (by decide)).trans (f55 57 (by decide))), show σ78 58 = σ 58 from ((f80 58 (by decide)).trans (f55 58 (by decide))), show σ78 59 = σ 59 from ((f80 59 (by decide)).trans (f55 59 (by decide))), show (σ78 55 4).toInt = (σ 55 4).toInt from z129]; exact hr13), (show jqbN (σ78 80) (σ78 55 47).toInt by rw [show σ78 80 = σ 80 from ((f80 80 (by decide)).trans (f55 80 (by decide))), show (σ78 55 47).toInt = (σ 55 47).toInt from z143]; exact hr14)⟩ hP hS (lv_sub hl [0, 1, 2, 3] rfl)
set_option maxHeartbeats 4000000 in
set_option maxRecDepth 100000 in
theorem law_case_16 {p : Program} {e : Env} {s : State} {m : MethodId} {below : List Frame} {meth : Method} {c : Code} (l : Launch) {b L : Nat} {xs : Nat → Int32} {D : va_G} {cI cL : ClassId} {ad zz : Nat → Nat} (C0 : lw_At p s m meth c b L xs) (hJ : jD ad) (hA : ∀ q, jA ad q → s.heap.size ≤ q) (hK : jK D cI cL s) (hZ : jZ zz (fun q : Nat => s.heap.size ≤ q) s s.heap) {x0 : Int32} (hx0 : 0 ≤ x0.toInt) (hxL : x0.toInt + 6 ≤ (L : Int)) (hL : L ≤ 384) {σ : Nat → Nat → Int32} {τ : Nat → Nat → Int64} {H : Heap} {locs : List Loc} (hS : va_S (fun q : Nat => s.heap.size ≤ q) s.heap H locs) {ls : Array Slot} (hAll : jAll x0.toInt σ τ) (hP : jH D cI cL ad σ τ H) (hl : lv_has ls 4 [(3, .int x0), (2, .ref (ad 55)), (1, .ref (ad 0)), (0, .ref b)]) (ih : ∀ (x1 : Int32) (σ : Nat → Nat → Int32) (τ : Nat → Nat → Int64) (H : Heap) (locs : List Loc) (ls : Array Slot), x1.toInt = x0.toInt + 6 → jAll x1.toInt σ τ → jH D cI cL ad σ τ H → va_S (fun q : Nat => s.heap.size ≤ q) s.heap H locs → lv_has ls 4 [(3, .int x1), (2, .ref (ad 55)), (1, .ref (ad 0)), (0, .ref b)] → W p l e room_1 s m #[Value.ref b] below meth c H locs 90 348600 (lw_Z below #[Value.ref b] s) (F0 m 18 ls [])) : W p l e room_1 s m #[Value.ref b] below meth c H locs 90 348600 (lw_Z below #[Value.ref b] s) (F0 m 694 ls []) := by
  obtain ⟨hx, hb, hr, hml, hown, hts0, hX, hbl, hlocks, hgv⟩ := C0
  have hts : ∀ w ∈ wsL_law, w.before #[Value.ref b] s = true := fun w h => hts0 w (wsL_law_in w h)
  have hbA : ¬ (fun q : Nat => s.heap.size ≤ q) b := Nat.not_le.mpr hbl
  have hown : s.vm.findClass RL = some m.cls := hown
  obtain ⟨hI2, hI9, hI12, hI16, hI18, hI22, hI31, hI38, hI43, hI47, hI50, hI0, hI26, hI101, hI102, hI103, hI104, hI105, hI106, hI107, hI109, hI110, hI111, hI119, hs_jKept, hs_jBook, hs_jNd12, hs_jN67, hs_jBl, hs_jKb, hs_jTR, hs_jKh, hs_jKg, hs_jNz, hs_jqSt, ht0, ht1, ht2, ht3, ht4, ht5, ht6, ht7, ht8, ht9, ht10, ht11, ht12, ht13, ht14, ht15, hr0, hr1, hr2, hr3, hr4, hr5, hr6, hr7, hr8, hr9, hr10, hr11, hr12, hr13, hr14⟩ := hAll
  have hL9 : (L : Int) ≤ 384 := by omega
  obtain ⟨i1, i2, i3, i4, i5, w6, w7⟩ : (0 ≤ (σ 2 0).toInt ∧ (σ 2 0).toInt ≤ 4) ∧ (0 ≤ (σ 2 1).toInt ∧ (σ 2 1).toInt ≤ 3) ∧ (0 ≤ (σ 2 2).toInt) ∧ (0 ≤ (σ 2 3).toInt) ∧ ((σ 2 2).toInt + (σ 2 3).toInt ≤ 40) ∧ (∀ k : Nat, k < 40 → 0 ≤ (σ 6 k).toInt ∧ (σ 6 k).toInt ≤ 67) ∧ (∀ k : Nat, k < 4 → 0 ≤ (σ 5 k).toInt ∧ (σ 5 k).toInt ≤ 20) := id hI2
  obtain ⟨i8, w9, w10⟩ : (0 ≤ (σ 9 0).toInt ∧ (σ 9 0).toInt ≤ 80) ∧ (∀ k : Nat, k < 80 → 0 ≤ (σ 10 k).toInt ∧ (σ 10 k).toInt ≤ 255) ∧ (∀ k : Nat, k < 8 → 0 ≤ (σ 11 k).toInt ∧ (σ 11 k).toInt ≤ 3) := id hI9
  obtain ⟨i11, i12, i13, w14⟩ : (1 ≤ (σ 16 0).toInt ∧ (σ 16 0).toInt ≤ 8) ∧ (1 ≤ (σ 16 1).toInt ∧ (σ 16 1).toInt ≤ 12) ∧ (0 ≤ (σ 16 2).toInt ∧ (σ 16 2).toInt ≤ 999) ∧ (∀ k : Nat, k < 8 → 0 ≤ (σ 17 k).toInt ∧ (σ 17 k).toInt ≤ 3) := id hI16
  obtain ⟨i15, i16, w17⟩ : (0 ≤ (σ 38 0).toInt ∧ (σ 38 0).toInt ≤ 20) ∧ (0 ≤ (σ 38 1).toInt ∧ (σ 38 1).toInt ≤ 1000) ∧ (∀ k : Nat, k < 20 → 0 ≤ (σ 39 k).toInt ∧ (σ 39 k).toInt ≤ 6) := id hI38
  obtain ⟨i18, w19, w20⟩ : (0 ≤ (σ 47 0).toInt ∧ (σ 47 0).toInt ≤ 12) ∧ (∀ k : Nat, k < 12 → 0 ≤ (σ 48 k).toInt ∧ (σ 48 k).toInt ≤ 3) ∧ (∀ k : Nat, k < 12 → 0 ≤ (σ 49 k).toInt ∧ (σ 49 k).toInt ≤ 1) := id hI47
  have w21 : ∀ k : Nat, k < 6 → 0 ≤ (σ 52 k).toInt ∧ (σ 52 k).toInt ≤ 60 := hI50
  have i22 : 1 ≤ (σ 26 6).toInt ∧ (σ 26 6).toInt ≤ 8000 := hI26
  obtain ⟨i23, i24, i25, w26, w27, w28, w29⟩ : (0 ≤ (σ 55 5).toInt) ∧ ((σ 55 5).toInt ≤ (σ 55 4).toInt) ∧ ((σ 55 4).toInt ≤ 40) ∧ (∀ k : Nat, k < 68 → (-200) ≤ (σ 56 k).toInt ∧ (σ 56 k).toInt ≤ 500) ∧ (∀ k : Nat, k < 40 → 0 ≤ (σ 57 k).toInt ∧ (σ 57 k).toInt ≤ 67) ∧ (∀ k : Nat, k < 40 → (-200) ≤ (σ 58 k).toInt ∧ (σ 58 k).toInt ≤ 500) ∧ (∀ k : Nat, k < 40 → (-200) ≤ (σ 59 k).toInt ∧ (σ 59 k).toInt ≤ 500) := id hI101
  obtain ⟨i30, w31, w32⟩ : (0 ≤ (σ 55 6).toInt ∧ (σ 55 6).toInt ≤ 4) ∧ (∀ k : Nat, k < 4 → 0 ≤ (σ 60 k).toInt ∧ (σ 60 k).toInt ≤ 50) ∧ (∀ k : Nat, k < 4 → 0 ≤ (σ 61 k).toInt ∧ (σ 61 k).toInt ≤ 20) := id hI102
  have i33 : 0 ≤ (σ 55 9).toInt ∧ (σ 55 9).toInt ≤ 3 := hI103
  obtain ⟨i34, i35, i36, w37, w38⟩ : (1 ≤ (σ 55 10).toInt ∧ (σ 55 10).toInt ≤ 8) ∧ (1 ≤ (σ 55 12).toInt ∧ (σ 55 12).toInt ≤ 12) ∧ (0 ≤ (σ 55 13).toInt ∧ (σ 55 13).toInt ≤ 999) ∧ (∀ k : Nat, k < 8 → 0 ≤ (σ 62 k).toInt ∧ (σ 62 k).toInt ≤ 3) ∧ (∀ k : Nat, k < 8 → 0 ≤ (σ 67 k).toInt ∧ (σ 67 k).toInt ≤ 3) := id hI104
  obtain ⟨i39, w40⟩ : (0 ≤ (σ 55 15).toInt ∧ (σ 55 15).toInt ≤ 80) ∧ (∀ k : Nat, k < 2 → (-1) ≤ (σ 65 k).toInt ∧ (σ 65 k).toInt ≤ 80) := id hI105
  obtain ⟨i41, w42, w43, w44⟩ : (0 ≤ (σ 55 32).toInt ∧ (σ 55 32).toInt ≤ 20) ∧ (∀ k : Nat, k < 20 → 0 ≤ (σ 70 k).toInt ∧ (σ 70 k).toInt ≤ 6) ∧ (∀ k : Nat, k < 20 → 0 ≤ (σ 71 k).toInt ∧ (σ 71 k).toInt ≤ 8) ∧ (∀ k : Nat, k < 160 → 0 ≤ (σ 72 k).toInt ∧ (σ 72 k).toInt ≤ 3) := id hI106
  obtain ⟨i45, i46, w47⟩ : (0 ≤ (σ 55 47).toInt ∧ (σ 55 47).toInt ≤ 12) ∧ ((σ 55 47).toInt ≤ (σ 55 12).toInt) ∧ (∀ k : Nat, k < 12 → 0 ≤ (σ 80 k).toInt ∧ (σ 80 k).toInt ≤ 3) := id hI107
  have hs_jOk3 : jOk3 σ := hr0.ok hr1.1
  refine lv_aload_n hx hb dL_law_694 rfl (lv_at hl 2 rfl) ?_
  refine lv_aload_n hx hb dL_law_695 rfl (lv_at hl 3 rfl) ?_
  refine lv_iload_n hx hb dL_law_696 rfl (lv_at hl 0 rfl) ?_
  refine lv_iconst (v := 1) hx hb dL_law_697 (by decide) ?_
  have g48 := jrg (rfl : x0.toInt = x0.toInt)
  refine lv_iadd hx hb dL_law_698 ?_
  refine lv_topi (fun x49 ex49 => ?_)
  exact by
   have tx49 : x49.toInt = x0.toInt + 1 := (jadd ex49 rfl jz_1 (by omega) (by omega)).trans (by omega)
   refine va_sld hx hb hX hbl hbA hS (jin tx49 (by omega) (by omega)) dL_law_699 ?_
   have g50 := jrg (rfl : (xs x49.toNatClampNeg).toInt = (xs x49.toNatClampNeg).toInt)
   refine jcallV (As := [.int (xs x49.toNatClampNeg)]) (rest := []) ⟨hx, hb, hml, hown, hts⟩ hK hP hA hS hZ (c_X11_kept l D cI cL ad zz hJ σ τ (xs x49.toNatClampNeg) ((xs x49.toNatClampNeg).toInt) rfl hI2 hI16 hI22 hI31 hI26 hs_jN67 hs_jBl hs_jKb hs_jKh hs_jKg hs_jNz hs_jKh) cw_RL_81 (jc_0 cI cL ad σ τ) rfl ⟨Nat.le_of_ble_eq_true rfl, Nat.le_of_ble_eq_true rfl⟩ rfl rfl rfl hl.1 rfl (Nat.le_of_ble_eq_true rfl) dL_law_700 ⟨Nat.le_of_ble_eq_true rfl, Nat.le_of_ble_eq_true rfl⟩ (fun r52 σ51 τ51 H locs h51 hP hS => ?_)
   obtain ⟨rfl, f53, f54, I55, p56, p57, p58, p59, p60, p61, p62, w63, h51⟩ := h51
   refine lv_pop hx hb dL_law_703 rfl ?_
   refine lv_aload_n hx hb dL_law_704 rfl (lv_at hl 1 rfl) ?_
   refine lv_aload_n hx hb dL_law_705 rfl (lv_at hl 3 rfl) ?_
   refine lv_iload_n hx hb dL_law_706 rfl (lv_at hl 0 rfl) ?_
   exact by
    refine lv_iconst (v := 1) hx hb dL_law_707 (by decide) ?_
    refine lv_iadd hx hb dL_law_708 ?_
    refine jtopr ex49.symm ?_
    refine va_sld hx hb hX hbl hbA hS (jin tx49 (by omega) (by omega)) dL_law_709 ?_
    have I65 : jI101 σ51 := jI101_fr (congrFun (f53 55 (by decide)) 4) (congrFun (f53 55 (by decide)) 5) (f53 56 (by decide)) (f53 57 (by decide)) (f53 58 (by decide)) (f53 59 (by decide)) hI101
    have I66 : jI102 σ51 := jI102_fr (congrFun (f53 55 (by decide)) 6) (f53 60 (by decide)) (f53 61 (by decide)) hI102
    have I67 : jI103 σ51 := jI103_fr (congrFun (f53 55 (by decide)) 9) hI103
    have I68 : jI104 σ51 := jI104_fr (congrFun (f53 55 (by decide)) 10) (congrFun (f53 55 (by decide)) 12) (congrFun (f53 55 (by decide)) 13) (f53 62 (by decide)) (f53 67 (by decide)) hI104
    have I69 : jI105 σ51 := jI105_fr (congrFun (f53 55 (by decide)) 15) (f53 65 (by decide)) hI105
    exact by
     have I70 : jI106 σ51 := jI106_fr (congrFun (f53 55 (by decide)) 32) (f53 70 (by decide)) (f53 71 (by decide)) (f53 72 (by decide)) hI106
     have I71 : jI119 σ51 := jI119_fr (f53 68 (by decide)) hI119
     have p72 : jKept σ51 := jKept.fr (f53 75 (by decide)) (f53 76 (by decide)) (f53 77 (by decide)) hs_jKept
     have p73 : jTR σ51 := jTR.fr (f53 64 (by decide)) (f53 65 (by decide)) hs_jTR
     have p74 : jqSt σ51 := jqSt.fr (f53 78 (by decide)) (congrFun (f53 55 (by decide)) 42) hs_jqSt
     have z75 : (σ51 55 42).toInt = (σ 55 42).toInt := (congrArg Int32.toInt (show σ51 55 42 = (σ 55 42) from (congrFun (f53 55 (by decide)) 42)))
     refine jcallV (As := [.int (xs x49.toNatClampNeg)]) (rest := []) ⟨hx, hb, hml, hown, hts⟩ hK hP hA hS hZ (c_X12_kept l D cI cL ad zz hJ σ51 τ (xs x49.toNatClampNeg) ((xs x49.toNatClampNeg).toInt) rfl I65 I66 I67 I68 I69 I70 I71 p72 p73 p74 (by omega)) cw_RL_84 (jc_55 cI cL ad σ51 τ) rfl ⟨Nat.le_of_ble_eq_true rfl, Nat.le_of_ble_eq_true rfl⟩ rfl rfl rfl hl.1 rfl (Nat.le_of_ble_eq_true rfl) dL_law_710 ⟨Nat.le_of_ble_eq_true rfl, Nat.le_of_ble_eq_true rfl⟩ (fun r77 σ76 τ76 H locs h76 hP hS => ?_)
     obtain ⟨rfl, f78, f79, I80, p81, p82, p83, w84, h76⟩ := h76
     obtain ⟨k86, k87, h76⟩ := h76
     exact by
      refine lv_pop hx hb dL_law_713 rfl ?_
      refine lv_goto (tgt := 1357) hx hb dL_law_714 (by decide) ?_
      obtain ⟨x88, ex88⟩ : ∃ y : Int32, y = x0 + 6 := ⟨_, rfl⟩
      have tx88 : x88.toInt = x0.toInt + 6 := (jadd ex88 rfl jz_6 (by omega) (by omega)).trans (by omega)
      refine lv_iinc (v := x88) (lv' := [(3, .int x88), (2, .ref (ad 55)), (1, .ref (ad 0)), (0, .ref b)]) hx hb dL_law_1357 hl (k := 0) rfl (by rw [ex88]; rfl) (by decide) rfl (fun ls hl => ?_)
      refine lv_goto (tgt := 18) hx hb dL_law_1360 (by decide) ?_
      have I89 : jI2 σ76 := jI2_fr ((congrFun (f78 2 (by decide)) 0).trans (congrFun (f53 2 (by decide)) 0)) ((congrFun (f78 2 (by decide)) 1).trans (congrFun (f53 2 (by decide)) 1)) ((congrFun (f78 2 (by decide)) 2).trans (congrFun (f53 2 (by decide)) 2)) ((congrFun (f78 2 (by decide)) 3).trans (congrFun (f53 2 (by decide)) 3)) ((f78 6 (by decide)).trans (f53 6 (by decide))) ((f78 5 (by decide)).trans (f53 5 (by decide))) hI2
      have I90 : jI9 σ76 := jI9_fr ((congrFun (f78 9 (by decide)) 0).trans (congrFun (f53 9 (by decide)) 0)) ((f78 10 (by decide)).trans (f53 10 (by decide))) ((f78 11 (by decide)).trans (f53 11 (by decide))) hI9
      have I91 : jI12 σ76 := jI12_fr ((congrFun (f78 12 (by decide)) 0).trans (congrFun (f53 12 (by decide)) 0)) ((f78 13 (by decide)).trans (f53 13 (by decide))) hI12
      exact by
       have I92 : jI16 σ76 := jI16_fr ((congrFun (f78 16 (by decide)) 0).trans (congrFun (f53 16 (by decide)) 0)) ((congrFun (f78 16 (by decide)) 1).trans (congrFun (f53 16 (by decide)) 1)) ((congrFun (f78 16 (by decide)) 2).trans (congrFun (f53 16 (by decide)) 2)) ((f78 17 (by decide)).trans (f53 17 (by decide))) hI16
       have I93 : jI18 σ76 := jI18_fr ((congrFun (f78 18 (by decide)) 0).trans (congrFun (f53 18 (by decide)) 0)) ((f78 19 (by decide)).trans (f53 19 (by decide))) hI18
       have I94 : jI22 σ76 := jI22_fr ((congrFun (f78 22 (by decide)) 0).trans (congrFun (f53 22 (by decide)) 0)) ((f78 23 (by decide)).trans (f53 23 (by decide))) hI22
       have I95 : jI31 σ76 := jI31_fr (congrFun (f78 31 (by decide)) 8) (congrFun (f78 31 (by decide)) 10) (congrFun (f78 31 (by decide)) 11) (f78 33 (by decide)) (f78 35 (by decide)) (f78 36 (by decide)) I55
       have I96 : jI38 σ76 := jI38_fr ((congrFun (f78 38 (by decide)) 0).trans (congrFun (f53 38 (by decide)) 0)) ((congrFun (f78 38 (by decide)) 1).trans (congrFun (f53 38 (by decide)) 1)) ((f78 39 (by decide)).trans (f53 39 (by decide))) hI38
       have I97 : jI43 σ76 := jI43_fr ((congrFun (f78 43 (by decide)) 8).trans (congrFun (f53 43 (by decide)) 8)) hI43
       have I98 : jI47 σ76 := jI47_fr ((congrFun (f78 47 (by decide)) 0).trans (congrFun (f53 47 (by decide)) 0)) ((f78 48 (by decide)).trans (f53 48 (by decide))) ((f78 49 (by decide)).trans (f53 49 (by decide))) hI47
       have I99 : jI50 σ76 := jI50_fr ((f78 52 (by decide)).trans (f53 52 (by decide))) hI50
       have I100 : jI0 σ76 := jI0_fr ((f78 1 (by decide)).trans (f53 1 (by decide))) hI0
       have I101 : jI26 σ76 := jI26_fr ((congrFun (f78 26 (by decide)) 6).trans (congrFun (f53 26 (by decide)) 6)) hI26
       have I102 : jI101 σ76 := jI101_fr (f79 4 (by decide)) (f79 5 (by decide)) (f78 56 (by decide)) (f78 57 (by decide)) (f78 58 (by decide)) (f78 59 (by decide)) I65
       have I103 : jI102 σ76 := jI102_fr (f79 6 (by decide)) (f78 60 (by decide)) (f78 61 (by decide)) I66
       have I104 : jI103 σ76 := jI103_fr (f79 9 (by decide)) I67
       have I105 : jI104 σ76 := jI104_fr (f79 10 (by decide)) (f79 12 (by decide)) (f79 13 (by decide)) (f78 62 (by decide)) (f78 67 (by decide)) I68
       have I106 : jI105 σ76 := jI105_fr (f79 15 (by decide)) (f78 65 (by decide)) I69
       have I107 : jI106 σ76 := jI106_fr (f79 32 (by decide)) (f78 70 (by decide)) (f78 71 (by decide)) (f78 72 (by decide)) I70
       have I108 : jI107 σ76 := jI107_fr ((f79 12 (by decide)).trans (congrFun (f53 55 (by decide)) 12)) ((f79 47 (by decide)).trans (congrFun (f53 55 (by decide)) 47)) ((f78 80 (by decide)).trans (f53 80 (by decide))) hI107
       have I109 : jI109 σ76 := jI109_fr ((f79 50 (by decide)).trans (congrFun (f53 55 (by decide)) 50)) hI109
       have I110 : jI110 σ76 := jI110_fr ((f78 86 (by decide)).trans (f53 86 (by decide))) ((f78 87 (by decide)).trans (f53 87 (by decide))) hI110
       have I111 : jI111 σ76 := jI111_fr ((f78 79 (by decide)).trans (f53 79 (by decide))) hI111
       have p112 : jBook σ76 := jBook.fr ((f79 47 (by decide)).trans (congrFun (f53 55 (by decide)) 47)) ((f79 10 (by decide)).trans (congrFun (f53 55 (by decide)) 10)) ((f78 81 (by decide)).trans (f53 81 (by decide))) hs_jBook
       have p113 : jNd12 σ76 := jNd12.fr ((congrFun (f78 12 (by decide)) 0).trans (congrFun (f53 12 (by decide)) 0)) ((congrFun (f78 12 (by decide)) 1).trans (congrFun (f53 12 (by decide)) 1)) ((f78 13 (by decide)).trans (f53 13 (by decide))) hs_jNd12
       have p114 : jN67 σ76 := jN67.fr (f78 24 (by decide)) p56
       have p115 : jBl σ76 := jBl.fr (congrFun (f78 22 (by decide)) 0) (congrFun (f78 22 (by decide)) 1) (f78 23 (by decide)) (congrFun (f78 26 (by decide)) 6) (congrFun (f78 26 (by decide)) 7) (f78 29 (by decide)) (f78 30 (by decide)) p57
       have p116 : jKb σ76 := jKb.fr (congrFun (f78 31 (by decide)) 8) (congrFun (f78 31 (by decide)) 11) (f78 32 (by decide)) p58
       have p117 : jKh σ76 := jKh.fr (congrFun (f78 31 (by decide)) 8) (f78 32 (by decide)) (f78 36 (by decide)) (f78 37 (by decide)) p62
       have p118 : jKg σ76 := jKg.fr (congrFun (f78 31 (by decide)) 8) (congrFun (f78 31 (by decide)) 9) (congrFun (f78 31 (by decide)) 11) (congrFun (f78 31 (by decide)) 12) (f78 32 (by decide)) (f78 33 (by decide)) p60
       have p119 : jNz σ76 := jNz.fr (f78 34 (by decide)) p61
       have z120 : (σ76 2 0).toInt = (σ 2 0).toInt := (congrArg Int32.toInt (show σ76 2 0 = (σ 2 0) from ((congrFun (f78 2 (by decide)) 0).trans (congrFun (f53 2 (by decide)) 0))))
       have z121 : (σ76 55 6).toInt = (σ 55 6).toInt := (congrArg Int32.toInt (show σ76 55 6 = (σ 55 6) from ((f79 6 (by decide)).trans (congrFun (f53 55 (by decide)) 6))))
       have z122 : (σ76 2 2).toInt = (σ 2 2).toInt := (congrArg Int32.toInt (show σ76 2 2 = (σ 2 2) from ((congrFun (f78 2 (by decide)) 2).trans (congrFun (f53 2 (by decide)) 2))))
       have z123 : (σ76 55 5).toInt = (σ 55 5).toInt := (congrArg Int32.toInt (show σ76 55 5 = (σ 55 5) from ((f79 5 (by decide)).trans (congrFun (f53 55 (by decide)) 5))))
       have z124 : (σ76 2 3).toInt = (σ 2 3).toInt := (congrArg Int32.toInt (show σ76 2 3 = (σ 2 3) from ((congrFun (f78 2 (by decide)) 3).trans (congrFun (f53 2 (by decide)) 3))))
       have z125 : (σ76 55 4).toInt = (σ 55 4).toInt := (congrArg Int32.toInt (show σ76 55 4 = (σ 55 4) from ((f79 4 (by decide)).trans (congrFun (f53 55 (by decide)) 4))))
       have z126 : (σ76 9 0).toInt = (σ 9 0).toInt := (congrArg Int32.toInt (show σ76 9 0 = (σ 9 0) from ((congrFun (f78 9 (by decide)) 0).trans (congrFun (f53 9 (by decide)) 0))))
       have z127 : (σ76 55 15).toInt = (σ 55 15).toInt := (congrArg Int32.toInt (show σ76 55 15 = (σ 55 15) from ((f79 15 (by decide)).trans (congrFun (f53 55 (by decide)) 15))))
       have z128 : (σ76 16 0).toInt = (σ 16 0).toInt := (congrArg Int32.toInt (show σ76 16 0 = (σ 16 0) from ((congrFun (f78 16 (by decide)) 0).trans (congrFun (f53 16 (by decide)) 0))))
       have z129 : (σ76 55 10).toInt = (σ 55 10).toInt := (congrArg Int32.toInt (show σ76 55 10 = (σ 55 10) from ((f79 10 (by decide)).trans (congrFun (f53 55 (by decide)) 10))))
       have z130 : (σ76 16 1).toInt = (σ 16 1).toInt := (congrArg Int32.toInt (show σ76 16 1 = (σ 16 1) from ((congrFun (f78 16 (by decide)) 1).trans (congrFun (f53 16 (by decide)) 1))))
       have z131 : (σ76 55 12).toInt = (σ 55 12).toInt := (congrArg Int32.toInt (show σ76 55 12 = (σ 55 12) from ((f79 12 (by decide)).trans (congrFun (f53 55 (by decide)) 12))))
       have z132 : (σ76 16 2).toInt = (σ 16 2).toInt := (congrArg Int32.toInt (show σ76 16 2 = (σ 16 2) from ((congrFun (f78 16 (by decide)) 2).trans (congrFun (f53 16 (by decide)) 2))))
       have z133 : (σ76 55 13).toInt = (σ 55 13).toInt := (congrArg Int32.toInt (show σ76 55 13 = (σ 55 13) from ((f79 13 (by decide)).trans (congrFun (f53 55 (by decide)) 13))))
       have z134 : (σ76 38 0).toInt = (σ 38 0).toInt := (congrArg Int32.toInt (show σ76 38 0 = (σ 38 0) from ((congrFun (f78 38 (by decide)) 0).trans (congrFun (f53 38 (by decide)) 0))))
       have z135 : (σ76 55 32).toInt = (σ 55 32).toInt := (congrArg Int32.toInt (show σ76 55 32 = (σ 55 32) from ((f79 32 (by decide)).trans (congrFun (f53 55 (by decide)) 32))))
       have z136 : (σ76 38 1).toInt = (σ 38 1).toInt := (congrArg Int32.toInt (show σ76 38 1 = (σ 38 1) from ((congrFun (f78 38 (by decide)) 1).trans (congrFun (f53 38 (by decide)) 1))))
       have z137 : (σ76 55 55).toInt = (σ 55 55).toInt := (congrArg Int32.toInt (show σ76 55 55 = (σ 55 55) from ((f79 55 (by decide)).trans (congrFun (f53 55 (by decide)) 55))))
       have z138 : (σ76 47 0).toInt = (σ 47 0).toInt := (congrArg Int32.toInt (show σ76 47 0 = (σ 47 0) from ((congrFun (f78 47 (by decide)) 0).trans (congrFun (f53 47 (by decide)) 0))))
       have z139 : (σ76 55 47).toInt = (σ 55 47).toInt := (congrArg Int32.toInt (show σ76 55 47 = (σ 55 47) from ((f79 47 (by decide)).trans (congrFun (f53 55 (by decide)) 47))))
       have z140 : (σ76 55 30).toInt = (σ 55 30).toInt := (congrArg Int32.toInt (show σ76 55 30 = (σ 55 30) from ((f79 30 (by decide)).trans (congrFun (f53 55 (by decide)) 30))))
       have z141 : (σ76 55 31).toInt = (σ 55 31).toInt := (congrArg Int32.toInt (show σ76 55 31 = (σ 55 31) from ((f79 31 (by decide)).trans (congrFun (f53 55 (by decide)) 31))))
       have z142 : (σ76 2 1).toInt = (σ 2 1).toInt := (congrArg Int32.toInt (show σ76 2 1 = (σ 2 1) from ((congrFun (f78 2 (by decide)) 1).trans (congrFun (f53 2 (by decide)) 1))))
       have z143 : (σ76 55 9).toInt = (σ 55 9).toInt := (congrArg Int32.toInt (show σ76 55 9 = (σ 55 9) from ((f79 9 (by decide)).trans (congrFun (f53 55 (by decide)) 9))))
       have z144 : (σ76 26 6).toInt = (σ 26 6).toInt := (congrArg Int32.toInt (show σ76 26 6 = (σ 26 6) from ((congrFun (f78 26 (by decide)) 6).trans (congrFun (f53 26 (by decide)) 6))))
       have z146 : (σ76 18 0).toInt = (σ 18 0).toInt := (congrArg Int32.toInt (show σ76 18 0 = (σ 18 0) from ((congrFun (f78 18 (by decide)) 0).trans (congrFun (f53 18 (by decide)) 0))))
       have z147 : (σ76 22 0).toInt = (σ 22 0).toInt := (congrArg Int32.toInt (show σ76 22 0 = (σ 22 0) from ((congrFun (f78 22 (by decide)) 0).trans (congrFun (f53 22 (by decide)) 0))))
       exact by exact ih x88 σ76 τ _ _ ls (by have h9 := tx88; omega) ⟨I89, I90, I91, I92, I93, I94, I95, I96, I97, I98, I99, I100, I101, I102, I103, I104, I105, I106, I107, I108, I109, I110, I111, I80, p81, p112, p113, p114, p115, p116, p82, p117, p118, p119, p83, (by rw [z120, z121]; exact ht0), (by rw [z122, z123]; exact ht1), (by rw [z122, z124, z125]; exact ht2), (by rw [z126, z127]; exact ht3), (by rw [z128, z129]; exact ht4), (by rw [z130, z131]; exact ht5), (by rw [z132, z133]; exact ht6), (by rw [z134, z135]; exact ht7), (by rw [z136, z137]; exact ht8), (by rw [z138, z139]; exact ht9), (by rw [z140]; exact ht10), (by rw [z141]; exact ht11), (by rw [z142, z143]; exact ht12), (by omega), (by have h9 := tx88; omega), (by have h9 := tx88; omega), (show jNumP (σ76 3) (σ76 56) (σ76 6) (σ76 57) (σ76 7) (σ76 58) (σ76 8) (σ76 59) (σ76 55 6).toInt (σ76 55 4).toInt by rw [show σ76 3 = σ 3 from ((f78 3 (by decide)).trans (f53 3 (by decide))), show σ76 56 = σ 56 from ((f78 56 (by decide)).trans (f53 56 (by decide))), show σ76 6 = σ 6 from ((f78 6 (by decide)).trans (f53 6 (by decide))), show σ76 57 = σ 57 from ((f78 57 (by decide)).trans (f53 57 (by decide))), show σ76 7 = σ 7 from ((f78 7 (by decide)).trans (f53 7 (by decide))), show σ76 58 = σ 58 from ((f78 58 (by decide)).trans (f53 58 (by decide))), show σ76 8 = σ 8 from ((f78 8 (by decide)).trans (f53 8 (by decide))), show σ76 59 = σ 59 from ((f78 59 (by decide)).trans (f53 59 (by decide))), show (σ76 55 6).toInt = (σ 55 6).toInt from z121, show (σ76 55 4).toInt = (σ 55 4).toInt from z125]; exact hr0), (show jOvP (σ76 56) (σ76 57) (σ76 58) (σ76 59) (σ76 55 4).toInt by rw [show σ76 56 = σ 56 from ((f78 56 (by decide)).trans (f53 56 (by decide))), show σ76 57 = σ 57 from ((f78 57 (by decide)).trans (f53 57 (by decide))), show σ76 58 = σ 58 from ((f78 58 (by decide)).trans (f53 58 (by decide))), show σ76 59 = σ 59 from ((f78 59 (by decide)).trans (f53 59 (by decide))), show (σ76 55 4).toInt = (σ 55 4).toInt from z125]; exact hr1), (show jTp (σ76 10) (σ76 63) (σ76 55 15).toInt by rw [show σ76 10 = σ 10 from ((f78 10 (by decide)).trans (f53 10 (by decide))), show σ76 63 = σ 63 from ((f78 63 (by decide)).trans (f53 63 (by decide)))]; exact hr2.le (by omega)), (show jSo (σ76 17) (σ76 62) (σ76 16 0).toInt by rw [show σ76 17 = σ 17 from ((f78 17 (by decide)).trans (f53 17 (by decide))), show σ76 62 = σ 62 from ((f78 62 (by decide)).trans (f53 62 (by decide))), show (σ76 16 0).toInt = (σ 16 0).toInt from z128]; exact hr3), (show jShP (σ76 51) (σ76 52) (σ76 53) (σ76 86) (σ76 87) (σ76 55 32).toInt by rw [show σ76 51 = σ 51 from ((f78 51 (by decide)).trans (f53 51 (by decide))), show σ76 52 = σ 52 from ((f78 52 (by decide)).trans (f53 52 (by decide))), show σ76 53 = σ 53 from ((f78 53 (by decide)).trans (f53 53 (by decide))), show σ76 86 = σ 86 from ((f78 86 (by decide)).trans (f53 86 (by decide))), show σ76 87 = σ 87 from ((f78 87 (by decide)).trans (f53 87 (by decide)))]; exact (hr4.up (by omega) (by omega))), (show jEl (σ76 51) (σ76 52) (τ 54) (τ 88) by rw [show σ76 51 = σ 51 from ((f78 51 (by decide)).trans (f53 51 (by decide))), show σ76 52 = σ 52 from ((f78 52 (by decide)).trans (f53 52 (by decide)))]; exact hr5), (show jByP (σ76 51) (σ76 52) (τ 54) by rw [show σ76 51 = σ 51 from ((f78 51 (by decide)).trans (f53 51 (by decide))), show σ76 52 = σ 52 from ((f78 52 (by decide)).trans (f53 52 (by decide)))]; exact hr6), (show jBk (σ76 48) (σ76 80) (σ76 49) (σ76 81) (σ76 55 47).toInt by rw [show σ76 48 = σ 48 from ((f78 48 (by decide)).trans (f53 48 (by decide))), show σ76 49 = σ 49 from ((f78 49 (by decide)).trans (f53 49 (by decide))), show σ76 80 = σ 80 from ((f78 80 (by decide)).trans (f53 80 (by decide))), show σ76 81 = σ 81 from ((f78 81 (by decide)).trans (f53 81 (by decide))), show (σ76 55 47).toInt = (σ 55 47).toInt from z139]; exact hr7), (show jKd (σ76 39) (σ76 70) (σ76 55 32).toInt by rw [show σ76 39 = σ 39 from ((f78 39 (by decide)).trans (f53 39 (by decide))), show σ76 70 = σ 70 from ((f78 70 (by decide)).trans (f53 70 (by decide))), show (σ76 55 32).toInt = (σ 55 32).toInt from z135]; exact hr8), (show jTt (σ76 42) (σ76 85) (σ76 55 55).toInt by rw [show σ76 42 = σ 42 from ((f78 42 (by decide)).trans (f53 42 (by decide))), show σ76 85 = σ 85 from ((f78 85 (by decide)).trans (f53 85 (by decide))), show (σ76 55 55).toInt = (σ 55 55).toInt from z137]; exact hr9), (fun k hk => by rw [show σ76 4 = σ 4 from ((f78 4 (by decide)).trans (f53 4 (by decide))), show σ76 5 = σ 5 from ((f78 5 (by decide)).trans (f53 5 (by decide))), show σ76 60 = σ 60 from ((f78 60 (by decide)).trans (f53 60 (by decide))), show σ76 61 = σ 61 from ((f78 61 (by decide)).trans (f53 61 (by decide)))]; exact hr10 k (by omega)), (fun nm => by rw [show σ76 19 = σ 19 from ((f78 19 (by decide)).trans (f53 19 (by decide))), show σ76 64 = σ 64 from ((f78 64 (by decide)).trans (f53 64 (by decide))), show σ76 65 = σ 65 from ((f78 65 (by decide)).trans (f53 65 (by decide))), show (σ76 18 0).toInt = (σ 18 0).toInt from z146]; exact hr11 nm), (fun nm => by rw [show σ76 23 = σ 23 from ((f78 23 (by decide)).trans (f53 23 (by decide))), show σ76 64 = σ 64 from ((f78 64 (by decide)).trans (f53 64 (by decide))), show σ76 65 = σ 65 from ((f78 65 (by decide)).trans (f53 65 (by decide))), show (σ76 22 0).toInt = (σ 22 0).toInt from z147]; exact hr12 nm), (show jAlP (σ76 56) (σ76 57) (σ76 58) (σ76 59) (σ76 55 4).toInt by rw [show σ76 56 = σ 56 from ((f78 56 (by decide)).trans (f53 56 (by decide))), show σ76 57 = σ 57 from ((f78 57 (by decide)).trans (f53 57 (by decide))), show σ76 58 = σ 58 from ((f78 58 (by decide)).trans (f53 58 (by decide))), show σ76 59 = σ 59 from ((f78 59 (by decide)).trans (f53 59 (by decide))), show (σ76 55 4).toInt = (σ 55 4).toInt from z125]; exact hr13), (show jqbN (σ76 80) (σ76 55 47).toInt by rw [show σ76 80 = σ 80 from ((f78 80 (by decide)).trans (f53 80 (by decide))), show (σ76 55 47).toInt = (σ 55 47).toInt from z139]; exact hr14)⟩ hP hS (lv_sub hl [0, 1, 2, 3] rfl)
set_option maxHeartbeats 4000000 in
set_option maxRecDepth 100000 in
theorem law_case_17 {p : Program} {e : Env} {s : State} {m : MethodId} {below : List Frame} {meth : Method} {c : Code} (l : Launch) {b L : Nat} {xs : Nat → Int32} {D : va_G} {cI cL : ClassId} {ad zz : Nat → Nat} (C0 : lw_At p s m meth c b L xs) (hJ : jD ad) (hA : ∀ q, jA ad q → s.heap.size ≤ q) (hK : jK D cI cL s) (hZ : jZ zz (fun q : Nat => s.heap.size ≤ q) s s.heap) {x0 : Int32} (hx0 : 0 ≤ x0.toInt) (hxL : x0.toInt + 6 ≤ (L : Int)) (hL : L ≤ 384) {σ : Nat → Nat → Int32} {τ : Nat → Nat → Int64} {H : Heap} {locs : List Loc} (hS : va_S (fun q : Nat => s.heap.size ≤ q) s.heap H locs) {ls : Array Slot} (hAll : jAll x0.toInt σ τ) (hP : jH D cI cL ad σ τ H) (hl : lv_has ls 4 [(3, .int x0), (2, .ref (ad 55)), (1, .ref (ad 0)), (0, .ref b)]) (ih : ∀ (x1 : Int32) (σ : Nat → Nat → Int32) (τ : Nat → Nat → Int64) (H : Heap) (locs : List Loc) (ls : Array Slot), x1.toInt = x0.toInt + 6 → jAll x1.toInt σ τ → jH D cI cL ad σ τ H → va_S (fun q : Nat => s.heap.size ≤ q) s.heap H locs → lv_has ls 4 [(3, .int x1), (2, .ref (ad 55)), (1, .ref (ad 0)), (0, .ref b)] → W p l e room_1 s m #[Value.ref b] below meth c H locs 90 348600 (lw_Z below #[Value.ref b] s) (F0 m 18 ls [])) : W p l e room_1 s m #[Value.ref b] below meth c H locs 90 348600 (lw_Z below #[Value.ref b] s) (F0 m 717 ls []) := by
  obtain ⟨hx, hb, hr, hml, hown, hts0, hX, hbl, hlocks, hgv⟩ := C0
  have hts : ∀ w ∈ wsL_law, w.before #[Value.ref b] s = true := fun w h => hts0 w (wsL_law_in w h)
  have hbA : ¬ (fun q : Nat => s.heap.size ≤ q) b := Nat.not_le.mpr hbl
  have hown : s.vm.findClass RL = some m.cls := hown
  obtain ⟨hI2, hI9, hI12, hI16, hI18, hI22, hI31, hI38, hI43, hI47, hI50, hI0, hI26, hI101, hI102, hI103, hI104, hI105, hI106, hI107, hI109, hI110, hI111, hI119, hs_jKept, hs_jBook, hs_jNd12, hs_jN67, hs_jBl, hs_jKb, hs_jTR, hs_jKh, hs_jKg, hs_jNz, hs_jqSt, ht0, ht1, ht2, ht3, ht4, ht5, ht6, ht7, ht8, ht9, ht10, ht11, ht12, ht13, ht14, ht15, hr0, hr1, hr2, hr3, hr4, hr5, hr6, hr7, hr8, hr9, hr10, hr11, hr12, hr13, hr14⟩ := hAll
  have hL9 : (L : Int) ≤ 384 := by omega
  obtain ⟨i1, i2, i3, i4, i5, w6, w7⟩ : (0 ≤ (σ 2 0).toInt ∧ (σ 2 0).toInt ≤ 4) ∧ (0 ≤ (σ 2 1).toInt ∧ (σ 2 1).toInt ≤ 3) ∧ (0 ≤ (σ 2 2).toInt) ∧ (0 ≤ (σ 2 3).toInt) ∧ ((σ 2 2).toInt + (σ 2 3).toInt ≤ 40) ∧ (∀ k : Nat, k < 40 → 0 ≤ (σ 6 k).toInt ∧ (σ 6 k).toInt ≤ 67) ∧ (∀ k : Nat, k < 4 → 0 ≤ (σ 5 k).toInt ∧ (σ 5 k).toInt ≤ 20) := id hI2
  obtain ⟨i8, w9, w10⟩ : (0 ≤ (σ 9 0).toInt ∧ (σ 9 0).toInt ≤ 80) ∧ (∀ k : Nat, k < 80 → 0 ≤ (σ 10 k).toInt ∧ (σ 10 k).toInt ≤ 255) ∧ (∀ k : Nat, k < 8 → 0 ≤ (σ 11 k).toInt ∧ (σ 11 k).toInt ≤ 3) := id hI9
  obtain ⟨i11, i12, i13, w14⟩ : (1 ≤ (σ 16 0).toInt ∧ (σ 16 0).toInt ≤ 8) ∧ (1 ≤ (σ 16 1).toInt ∧ (σ 16 1).toInt ≤ 12) ∧ (0 ≤ (σ 16 2).toInt ∧ (σ 16 2).toInt ≤ 999) ∧ (∀ k : Nat, k < 8 → 0 ≤ (σ 17 k).toInt ∧ (σ 17 k).toInt ≤ 3) := id hI16
  obtain ⟨i15, i16, w17⟩ : (0 ≤ (σ 38 0).toInt ∧ (σ 38 0).toInt ≤ 20) ∧ (0 ≤ (σ 38 1).toInt ∧ (σ 38 1).toInt ≤ 1000) ∧ (∀ k : Nat, k < 20 → 0 ≤ (σ 39 k).toInt ∧ (σ 39 k).toInt ≤ 6) := id hI38
  obtain ⟨i18, w19, w20⟩ : (0 ≤ (σ 47 0).toInt ∧ (σ 47 0).toInt ≤ 12) ∧ (∀ k : Nat, k < 12 → 0 ≤ (σ 48 k).toInt ∧ (σ 48 k).toInt ≤ 3) ∧ (∀ k : Nat, k < 12 → 0 ≤ (σ 49 k).toInt ∧ (σ 49 k).toInt ≤ 1) := id hI47
  have w21 : ∀ k : Nat, k < 6 → 0 ≤ (σ 52 k).toInt ∧ (σ 52 k).toInt ≤ 60 := hI50
  have i22 : 1 ≤ (σ 26 6).toInt ∧ (σ 26 6).toInt ≤ 8000 := hI26
  obtain ⟨i23, i24, i25, w26, w27, w28, w29⟩ : (0 ≤ (σ 55 5).toInt) ∧ ((σ 55 5).toInt ≤ (σ 55 4).toInt) ∧ ((σ 55 4).toInt ≤ 40) ∧ (∀ k : Nat, k < 68 → (-200) ≤ (σ 56 k).toInt ∧ (σ 56 k).toInt ≤ 500) ∧ (∀ k : Nat, k < 40 → 0 ≤ (σ 57 k).toInt ∧ (σ 57 k).toInt ≤ 67) ∧ (∀ k : Nat, k < 40 → (-200) ≤ (σ 58 k).toInt ∧ (σ 58 k).toInt ≤ 500) ∧ (∀ k : Nat, k < 40 → (-200) ≤ (σ 59 k).toInt ∧ (σ 59 k).toInt ≤ 500) := id hI101
  obtain ⟨i30, w31, w32⟩ : (0 ≤ (σ 55 6).toInt ∧ (σ 55 6).toInt ≤ 4) ∧ (∀ k : Nat, k < 4 → 0 ≤ (σ 60 k).toInt ∧ (σ 60 k).toInt ≤ 50) ∧ (∀ k : Nat, k < 4 → 0 ≤ (σ 61 k).toInt ∧ (σ 61 k).toInt ≤ 20) := id hI102
  have i33 : 0 ≤ (σ 55 9).toInt ∧ (σ 55 9).toInt ≤ 3 := hI103
  obtain ⟨i34, i35, i36, w37, w38⟩ : (1 ≤ (σ 55 10).toInt ∧ (σ 55 10).toInt ≤ 8) ∧ (1 ≤ (σ 55 12).toInt ∧ (σ 55 12).toInt ≤ 12) ∧ (0 ≤ (σ 55 13).toInt ∧ (σ 55 13).toInt ≤ 999) ∧ (∀ k : Nat, k < 8 → 0 ≤ (σ 62 k).toInt ∧ (σ 62 k).toInt ≤ 3) ∧ (∀ k : Nat, k < 8 → 0 ≤ (σ 67 k).toInt ∧ (σ 67 k).toInt ≤ 3) := id hI104
  obtain ⟨i39, w40⟩ : (0 ≤ (σ 55 15).toInt ∧ (σ 55 15).toInt ≤ 80) ∧ (∀ k : Nat, k < 2 → (-1) ≤ (σ 65 k).toInt ∧ (σ 65 k).toInt ≤ 80) := id hI105
  obtain ⟨i41, w42, w43, w44⟩ : (0 ≤ (σ 55 32).toInt ∧ (σ 55 32).toInt ≤ 20) ∧ (∀ k : Nat, k < 20 → 0 ≤ (σ 70 k).toInt ∧ (σ 70 k).toInt ≤ 6) ∧ (∀ k : Nat, k < 20 → 0 ≤ (σ 71 k).toInt ∧ (σ 71 k).toInt ≤ 8) ∧ (∀ k : Nat, k < 160 → 0 ≤ (σ 72 k).toInt ∧ (σ 72 k).toInt ≤ 3) := id hI106
  obtain ⟨i45, i46, w47⟩ : (0 ≤ (σ 55 47).toInt ∧ (σ 55 47).toInt ≤ 12) ∧ ((σ 55 47).toInt ≤ (σ 55 12).toInt) ∧ (∀ k : Nat, k < 12 → 0 ≤ (σ 80 k).toInt ∧ (σ 80 k).toInt ≤ 3) := id hI107
  have hs_jOk3 : jOk3 σ := hr0.ok hr1.1
  refine lv_aload_n hx hb dL_law_717 rfl (lv_at hl 2 rfl) ?_
  refine lv_aload_n hx hb dL_law_718 rfl (lv_at hl 3 rfl) ?_
  refine lv_iload_n hx hb dL_law_719 rfl (lv_at hl 0 rfl) ?_
  refine lv_iconst (v := 1) hx hb dL_law_720 (by decide) ?_
  have g48 := jrg (rfl : x0.toInt = x0.toInt)
  refine lv_iadd hx hb dL_law_721 ?_
  refine lv_topi (fun x49 ex49 => ?_)
  exact by
   have tx49 : x49.toInt = x0.toInt + 1 := (jadd ex49 rfl jz_1 (by omega) (by omega)).trans (by omega)
   refine va_sld hx hb hX hbl hbA hS (jin tx49 (by omega) (by omega)) dL_law_722 ?_
   have g50 := jrg (rfl : (xs x49.toNatClampNeg).toInt = (xs x49.toNatClampNeg).toInt)
   refine jcallV (As := [.int (xs x49.toNatClampNeg)]) (rest := []) ⟨hx, hb, hml, hown, hts⟩ hK hP hA hS hZ (c_X11_theirs l D cI cL ad zz hJ σ τ (xs x49.toNatClampNeg) ((xs x49.toNatClampNeg).toInt) rfl hI2 hI16 hI22 hI31 hI0 hI26 hs_jN67 hs_jBl hs_jKb hs_jKh hs_jKg hs_jNz) cw_RL_85 (jc_0 cI cL ad σ τ) rfl ⟨Nat.le_of_ble_eq_true rfl, Nat.le_of_ble_eq_true rfl⟩ rfl rfl rfl hl.1 rfl (Nat.le_of_ble_eq_true rfl) dL_law_723 ⟨Nat.le_of_ble_eq_true rfl, Nat.le_of_ble_eq_true rfl⟩ (fun r52 σ51 τ51 H locs h51 hP hS => ?_)
   obtain ⟨rfl, f53, f54, I55, I56, p57, p58, p59, p60, p61, p62, w63, h51⟩ := h51
   refine lv_aload_n hx hb dL_law_726 rfl (lv_at hl 1 rfl) ?_
   refine lv_aload_n hx hb dL_law_727 rfl (lv_at hl 3 rfl) ?_
   refine lv_iload_n hx hb dL_law_728 rfl (lv_at hl 0 rfl) ?_
   refine lv_iconst (v := 1) hx hb dL_law_729 (by decide) ?_
   exact by
    refine lv_iadd hx hb dL_law_730 ?_
    refine jtopr ex49.symm ?_
    refine va_sld hx hb hX hbl hbA hS (jin tx49 (by omega) (by omega)) dL_law_731 ?_
    have I65 : jI101 σ51 := jI101_fr (congrFun (f53 55 (by decide)) 4) (congrFun (f53 55 (by decide)) 5) (f53 56 (by decide)) (f53 57 (by decide)) (f53 58 (by decide)) (f53 59 (by decide)) hI101
    have I66 : jI102 σ51 := jI102_fr (congrFun (f53 55 (by decide)) 6) (f53 60 (by decide)) (f53 61 (by decide)) hI102
    have I67 : jI103 σ51 := jI103_fr (congrFun (f53 55 (by decide)) 9) hI103
    have I68 : jI104 σ51 := jI104_fr (congrFun (f53 55 (by decide)) 10) (congrFun (f53 55 (by decide)) 12) (congrFun (f53 55 (by decide)) 13) (f53 62 (by decide)) (f53 67 (by decide)) hI104
    have I69 : jI105 σ51 := jI105_fr (congrFun (f53 55 (by decide)) 15) (f53 65 (by decide)) hI105
    have I70 : jI106 σ51 := jI106_fr (congrFun (f53 55 (by decide)) 32) (f53 70 (by decide)) (f53 71 (by decide)) (f53 72 (by decide)) hI106
    exact by
     have I71 : jI119 σ51 := jI119_fr (f53 68 (by decide)) hI119
     have I72 : jI111 σ51 := jI111_fr (f53 79 (by decide)) hI111
     have p73 : jKept σ51 := jKept.fr (f53 75 (by decide)) (f53 76 (by decide)) (f53 77 (by decide)) hs_jKept
     have p74 : jTR σ51 := jTR.fr (f53 64 (by decide)) (f53 65 (by decide)) hs_jTR
     have p75 : jqSt σ51 := jqSt.fr (f53 78 (by decide)) (congrFun (f53 55 (by decide)) 42) hs_jqSt
     have z76 : (σ51 55 42).toInt = (σ 55 42).toInt := (congrArg Int32.toInt (show σ51 55 42 = (σ 55 42) from (congrFun (f53 55 (by decide)) 42)))
     refine jcallV (As := [.int (xs x49.toNatClampNeg)]) (rest := [.int r52]) ⟨hx, hb, hml, hown, hts⟩ hK hP hA hS hZ (c_X12_theirs l D cI cL ad zz hJ σ51 τ (xs x49.toNatClampNeg) ((xs x49.toNatClampNeg).toInt) rfl I65 I66 I67 I68 I69 I70 I71 I72 p73 p74 p75 (by omega)) cw_RL_88 (jc_55 cI cL ad σ51 τ) rfl ⟨Nat.le_of_ble_eq_true rfl, Nat.le_of_ble_eq_true rfl⟩ rfl rfl rfl hl.1 rfl (Nat.le_of_ble_eq_true rfl) dL_law_732 ⟨Nat.le_of_ble_eq_true rfl, Nat.le_of_ble_eq_true rfl⟩ (fun r78 σ77 τ77 H locs h77 hP hS => ?_)
     obtain ⟨rfl, f79, f80, I81, I82, I83, p84, p85, p86, w87, w88, h77⟩ := h77
     obtain ⟨i90, i91, i92, w93, w94⟩ : (1 ≤ (σ77 55 10).toInt ∧ (σ77 55 10).toInt ≤ 8) ∧ (1 ≤ (σ77 55 12).toInt ∧ (σ77 55 12).toInt ≤ 12) ∧ (0 ≤ (σ77 55 13).toInt ∧ (σ77 55 13).toInt ≤ 999) ∧ (∀ k : Nat, k < 8 → 0 ≤ (σ77 62 k).toInt ∧ (σ77 62 k).toInt ≤ 3) ∧ (∀ k : Nat, k < 8 → 0 ≤ (σ77 67 k).toInt ∧ (σ77 67 k).toInt ≤ 3) := id I81
     exact by
      have z95 : (σ77 55 10).toInt = (σ 55 10).toInt := (congrArg Int32.toInt (show σ77 55 10 = (σ 55 10) from ((f80 10 (by decide)).trans (congrFun (f53 55 (by decide)) 10))))
      have z96 : (σ77 55 12).toInt = (σ 55 12).toInt := (congrArg Int32.toInt (show σ77 55 12 = (σ 55 12) from ((f80 12 (by decide)).trans (congrFun (f53 55 (by decide)) 12))))
      have z97 : (σ77 55 13).toInt = (σ 55 13).toInt := (congrArg Int32.toInt (show σ77 55 13 = (σ 55 13) from ((f80 13 (by decide)).trans (congrFun (f53 55 (by decide)) 13))))
      obtain ⟨k98, k99, h77⟩ := h77
      have e100 : jqSm σ := ⟨⟨by omega, by omega, by omega, by omega, by omega, by omega, by omega⟩, hr0.1, hr10, hr12, hr3, w14, hr1.1⟩
      have k101 := w63 (fun j hj => by rw [hr0.1 j (by unfold jPl at hj; omega) (Or.inr (by unfold jPl at hj; omega))]; exact hr13.1 j hj) (hr0.ok hr1.1)
      have k102 := w88
      have z103 : (σ51 55 10).toInt = (σ 55 10).toInt := (congrArg Int32.toInt (show σ51 55 10 = (σ 55 10) from (congrFun (f53 55 (by decide)) 10)))
      have z104 : (σ51 55 12).toInt = (σ 55 12).toInt := (congrArg Int32.toInt (show σ51 55 12 = (σ 55 12) from (congrFun (f53 55 (by decide)) 12)))
      exact by
       have z105 : (σ51 55 30).toInt = (σ 55 30).toInt := (congrArg Int32.toInt (show σ51 55 30 = (σ 55 30) from (congrFun (f53 55 (by decide)) 30)))
       have z106 : (σ51 55 31).toInt = (σ 55 31).toInt := (congrArg Int32.toInt (show σ51 55 31 = (σ 55 31) from (congrFun (f53 55 (by decide)) 31)))
       have z107 : (σ51 55 45).toInt = (σ 55 45).toInt := (congrArg Int32.toInt (show σ51 55 45 = (σ 55 45) from (congrFun (f53 55 (by decide)) 45)))
       rw [(jrVd_eq (σ := σ) (u := σ51) (f53 56 (by decide)) (f53 60 (by decide)) (f53 61 (by decide)) (f53 64 (by decide)) (f53 65 (by decide)) (congrFun (f53 55 (by decide)) 6) (congrFun (f53 55 (by decide)) 9) (congrFun (f53 55 (by decide)) 10) (congrFun (f53 55 (by decide)) 12) (congrFun (f53 55 (by decide)) 13)), show (σ51 55 10).toInt = (σ 55 10).toInt from by omega, show (σ51 55 12).toInt = (σ 55 12).toInt from by omega, show (σ51 55 30).toInt = (σ 55 30).toInt from by omega, show (σ51 55 31).toInt = (σ 55 31).toInt from by omega, show (σ51 55 45).toInt = (σ 55 45).toInt from by omega, show σ51 56 = σ 56 from (f53 56 (by decide)), show σ51 62 = σ 62 from (f53 62 (by decide))] at k102
       refine lv_icmp_eq (tgt := 1357) hx hb dL_law_735 (by decide) (fun _ => ?_) (fun c => absurd ((Int32.toInt_inj.mp (jqTh.same k101 (k102 (by omega) (by omega) hr1.1) (by omega) (fun nb => e100.th (by omega) ⟨by omega, by omega⟩ ⟨by omega, by omega⟩ (by omega) (by omega) _)))) c)
       obtain ⟨x108, ex108⟩ : ∃ y : Int32, y = x0 + 6 := ⟨_, rfl⟩
       have tx108 : x108.toInt = x0.toInt + 6 := (jadd ex108 rfl jz_6 (by omega) (by omega)).trans (by omega)
       refine lv_iinc (v := x108) (lv' := [(3, .int x108), (2, .ref (ad 55)), (1, .ref (ad 0)), (0, .ref b)]) hx hb dL_law_1357 hl (k := 0) rfl (by rw [ex108]; rfl) (by decide) rfl (fun ls hl => ?_)
       refine lv_goto (tgt := 18) hx hb dL_law_1360 (by decide) ?_
       exact by
        have I109 : jI2 σ77 := jI2_fr ((congrFun (f79 2 (by decide)) 0).trans (congrFun (f53 2 (by decide)) 0)) ((congrFun (f79 2 (by decide)) 1).trans (congrFun (f53 2 (by decide)) 1)) ((congrFun (f79 2 (by decide)) 2).trans (congrFun (f53 2 (by decide)) 2)) ((congrFun (f79 2 (by decide)) 3).trans (congrFun (f53 2 (by decide)) 3)) ((f79 6 (by decide)).trans (f53 6 (by decide))) ((f79 5 (by decide)).trans (f53 5 (by decide))) hI2
        have I110 : jI9 σ77 := jI9_fr ((congrFun (f79 9 (by decide)) 0).trans (congrFun (f53 9 (by decide)) 0)) ((f79 10 (by decide)).trans (f53 10 (by decide))) ((f79 11 (by decide)).trans (f53 11 (by decide))) hI9
        have I111 : jI12 σ77 := jI12_fr ((congrFun (f79 12 (by decide)) 0).trans (congrFun (f53 12 (by decide)) 0)) ((f79 13 (by decide)).trans (f53 13 (by decide))) hI12
        have I112 : jI16 σ77 := jI16_fr ((congrFun (f79 16 (by decide)) 0).trans (congrFun (f53 16 (by decide)) 0)) ((congrFun (f79 16 (by decide)) 1).trans (congrFun (f53 16 (by decide)) 1)) ((congrFun (f79 16 (by decide)) 2).trans (congrFun (f53 16 (by decide)) 2)) ((f79 17 (by decide)).trans (f53 17 (by decide))) hI16
        have I113 : jI18 σ77 := jI18_fr ((congrFun (f79 18 (by decide)) 0).trans (congrFun (f53 18 (by decide)) 0)) ((f79 19 (by decide)).trans (f53 19 (by decide))) hI18
        have I114 : jI22 σ77 := jI22_fr ((congrFun (f79 22 (by decide)) 0).trans (congrFun (f53 22 (by decide)) 0)) ((f79 23 (by decide)).trans (f53 23 (by decide))) hI22
        have I115 : jI31 σ77 := jI31_fr (congrFun (f79 31 (by decide)) 8) (congrFun (f79 31 (by decide)) 10) (congrFun (f79 31 (by decide)) 11) (f79 33 (by decide)) (f79 35 (by decide)) (f79 36 (by decide)) I55
        have I116 : jI38 σ77 := jI38_fr ((congrFun (f79 38 (by decide)) 0).trans (congrFun (f53 38 (by decide)) 0)) ((congrFun (f79 38 (by decide)) 1).trans (congrFun (f53 38 (by decide)) 1)) ((f79 39 (by decide)).trans (f53 39 (by decide))) hI38
        have I117 : jI43 σ77 := jI43_fr ((congrFun (f79 43 (by decide)) 8).trans (congrFun (f53 43 (by decide)) 8)) hI43
        have I118 : jI47 σ77 := jI47_fr ((congrFun (f79 47 (by decide)) 0).trans (congrFun (f53 47 (by decide)) 0)) ((f79 48 (by decide)).trans (f53 48 (by decide))) ((f79 49 (by decide)).trans (f53 49 (by decide))) hI47
        have I119 : jI50 σ77 := jI50_fr ((f79 52 (by decide)).trans (f53 52 (by decide))) hI50
        have I120 : jI0 σ77 := jI0_fr (f79 1 (by decide)) I56
        have I121 : jI26 σ77 := jI26_fr ((congrFun (f79 26 (by decide)) 6).trans (congrFun (f53 26 (by decide)) 6)) hI26
        have I122 : jI101 σ77 := jI101_fr (f80 4 (by decide)) (f80 5 (by decide)) (f79 56 (by decide)) (f79 57 (by decide)) (f79 58 (by decide)) (f79 59 (by decide)) I65
        have I123 : jI102 σ77 := jI102_fr (f80 6 (by decide)) (f79 60 (by decide)) (f79 61 (by decide)) I66
        have I124 : jI103 σ77 := jI103_fr (f80 9 (by decide)) I67
        have I125 : jI105 σ77 := jI105_fr (f80 15 (by decide)) (f79 65 (by decide)) I69
        have I126 : jI106 σ77 := jI106_fr (f80 32 (by decide)) (f79 70 (by decide)) (f79 71 (by decide)) (f79 72 (by decide)) I70
        have I127 : jI107 σ77 := jI107_fr ((f80 12 (by decide)).trans (congrFun (f53 55 (by decide)) 12)) ((f80 47 (by decide)).trans (congrFun (f53 55 (by decide)) 47)) ((f79 80 (by decide)).trans (f53 80 (by decide))) hI107
        have I128 : jI109 σ77 := jI109_fr ((f80 50 (by decide)).trans (congrFun (f53 55 (by decide)) 50)) hI109
        have I129 : jI110 σ77 := jI110_fr ((f79 86 (by decide)).trans (f53 86 (by decide))) ((f79 87 (by decide)).trans (f53 87 (by decide))) hI110
        have p130 : jBook σ77 := jBook.fr ((f80 47 (by decide)).trans (congrFun (f53 55 (by decide)) 47)) ((f80 10 (by decide)).trans (congrFun (f53 55 (by decide)) 10)) ((f79 81 (by decide)).trans (f53 81 (by decide))) hs_jBook
        have p131 : jNd12 σ77 := jNd12.fr ((congrFun (f79 12 (by decide)) 0).trans (congrFun (f53 12 (by decide)) 0)) ((congrFun (f79 12 (by decide)) 1).trans (congrFun (f53 12 (by decide)) 1)) ((f79 13 (by decide)).trans (f53 13 (by decide))) hs_jNd12
        have p132 : jN67 σ77 := jN67.fr (f79 24 (by decide)) p57
        have p133 : jBl σ77 := jBl.fr (congrFun (f79 22 (by decide)) 0) (congrFun (f79 22 (by decide)) 1) (f79 23 (by decide)) (congrFun (f79 26 (by decide)) 6) (congrFun (f79 26 (by decide)) 7) (f79 29 (by decide)) (f79 30 (by decide)) p58
        have p134 : jKb σ77 := jKb.fr (congrFun (f79 31 (by decide)) 8) (congrFun (f79 31 (by decide)) 11) (f79 32 (by decide)) p59
        have p135 : jKh σ77 := jKh.fr (congrFun (f79 31 (by decide)) 8) (f79 32 (by decide)) (f79 36 (by decide)) (f79 37 (by decide)) p60
        have p136 : jKg σ77 := jKg.fr (congrFun (f79 31 (by decide)) 8) (congrFun (f79 31 (by decide)) 9) (congrFun (f79 31 (by decide)) 11) (congrFun (f79 31 (by decide)) 12) (f79 32 (by decide)) (f79 33 (by decide)) p61
        have p137 : jNz σ77 := jNz.fr (f79 34 (by decide)) p62
        have z138 : (σ77 2 0).toInt = (σ 2 0).toInt := (congrArg Int32.toInt (show σ77 2 0 = (σ 2 0) from ((congrFun (f79 2 (by decide)) 0).trans (congrFun (f53 2 (by decide)) 0))))
        have z139 : (σ77 55 6).toInt = (σ 55 6).toInt := (congrArg Int32.toInt (show σ77 55 6 = (σ 55 6) from ((f80 6 (by decide)).trans (congrFun (f53 55 (by decide)) 6))))
        have z140 : (σ77 2 2).toInt = (σ 2 2).toInt := (congrArg Int32.toInt (show σ77 2 2 = (σ 2 2) from ((congrFun (f79 2 (by decide)) 2).trans (congrFun (f53 2 (by decide)) 2))))
        have z141 : (σ77 55 5).toInt = (σ 55 5).toInt := (congrArg Int32.toInt (show σ77 55 5 = (σ 55 5) from ((f80 5 (by decide)).trans (congrFun (f53 55 (by decide)) 5))))
        have z142 : (σ77 2 3).toInt = (σ 2 3).toInt := (congrArg Int32.toInt (show σ77 2 3 = (σ 2 3) from ((congrFun (f79 2 (by decide)) 3).trans (congrFun (f53 2 (by decide)) 3))))
        have z143 : (σ77 55 4).toInt = (σ 55 4).toInt := (congrArg Int32.toInt (show σ77 55 4 = (σ 55 4) from ((f80 4 (by decide)).trans (congrFun (f53 55 (by decide)) 4))))
        have z144 : (σ77 9 0).toInt = (σ 9 0).toInt := (congrArg Int32.toInt (show σ77 9 0 = (σ 9 0) from ((congrFun (f79 9 (by decide)) 0).trans (congrFun (f53 9 (by decide)) 0))))
        have z145 : (σ77 55 15).toInt = (σ 55 15).toInt := (congrArg Int32.toInt (show σ77 55 15 = (σ 55 15) from ((f80 15 (by decide)).trans (congrFun (f53 55 (by decide)) 15))))
        have z146 : (σ77 16 0).toInt = (σ 16 0).toInt := (congrArg Int32.toInt (show σ77 16 0 = (σ 16 0) from ((congrFun (f79 16 (by decide)) 0).trans (congrFun (f53 16 (by decide)) 0))))
        have z147 : (σ77 16 1).toInt = (σ 16 1).toInt := (congrArg Int32.toInt (show σ77 16 1 = (σ 16 1) from ((congrFun (f79 16 (by decide)) 1).trans (congrFun (f53 16 (by decide)) 1))))
        have z148 : (σ77 16 2).toInt = (σ 16 2).toInt := (congrArg Int32.toInt (show σ77 16 2 = (σ 16 2) from ((congrFun (f79 16 (by decide)) 2).trans (congrFun (f53 16 (by decide)) 2))))
        have z149 : (σ77 38 0).toInt = (σ 38 0).toInt := (congrArg Int32.toInt (show σ77 38 0 = (σ 38 0) from ((congrFun (f79 38 (by decide)) 0).trans (congrFun (f53 38 (by decide)) 0))))
        have z150 : (σ77 55 32).toInt = (σ 55 32).toInt := (congrArg Int32.toInt (show σ77 55 32 = (σ 55 32) from ((f80 32 (by decide)).trans (congrFun (f53 55 (by decide)) 32))))
        have z151 : (σ77 38 1).toInt = (σ 38 1).toInt := (congrArg Int32.toInt (show σ77 38 1 = (σ 38 1) from ((congrFun (f79 38 (by decide)) 1).trans (congrFun (f53 38 (by decide)) 1))))
        have z152 : (σ77 55 55).toInt = (σ 55 55).toInt := (congrArg Int32.toInt (show σ77 55 55 = (σ 55 55) from ((f80 55 (by decide)).trans (congrFun (f53 55 (by decide)) 55))))
        have z153 : (σ77 47 0).toInt = (σ 47 0).toInt := (congrArg Int32.toInt (show σ77 47 0 = (σ 47 0) from ((congrFun (f79 47 (by decide)) 0).trans (congrFun (f53 47 (by decide)) 0))))
        have z154 : (σ77 55 47).toInt = (σ 55 47).toInt := (congrArg Int32.toInt (show σ77 55 47 = (σ 55 47) from ((f80 47 (by decide)).trans (congrFun (f53 55 (by decide)) 47))))
        have z155 : (σ77 55 30).toInt = (σ 55 30).toInt := (congrArg Int32.toInt (show σ77 55 30 = (σ 55 30) from ((f80 30 (by decide)).trans (congrFun (f53 55 (by decide)) 30))))
        have z156 : (σ77 55 31).toInt = (σ 55 31).toInt := (congrArg Int32.toInt (show σ77 55 31 = (σ 55 31) from ((f80 31 (by decide)).trans (congrFun (f53 55 (by decide)) 31))))
        have z157 : (σ77 2 1).toInt = (σ 2 1).toInt := (congrArg Int32.toInt (show σ77 2 1 = (σ 2 1) from ((congrFun (f79 2 (by decide)) 1).trans (congrFun (f53 2 (by decide)) 1))))
        have z158 : (σ77 55 9).toInt = (σ 55 9).toInt := (congrArg Int32.toInt (show σ77 55 9 = (σ 55 9) from ((f80 9 (by decide)).trans (congrFun (f53 55 (by decide)) 9))))
        have z159 : (σ77 26 6).toInt = (σ 26 6).toInt := (congrArg Int32.toInt (show σ77 26 6 = (σ 26 6) from ((congrFun (f79 26 (by decide)) 6).trans (congrFun (f53 26 (by decide)) 6))))
        rw [show σ51 62 = σ 62 from (f53 62 (by decide))] at w87
        have z161 : (σ77 18 0).toInt = (σ 18 0).toInt := (congrArg Int32.toInt (show σ77 18 0 = (σ 18 0) from ((congrFun (f79 18 (by decide)) 0).trans (congrFun (f53 18 (by decide)) 0))))
        have z162 : (σ77 22 0).toInt = (σ 22 0).toInt := (congrArg Int32.toInt (show σ77 22 0 = (σ 22 0) from ((congrFun (f79 22 (by decide)) 0).trans (congrFun (f53 22 (by decide)) 0))))
        exact by exact ih x108 σ77 τ _ _ ls (by have h9 := tx108; omega) ⟨I109, I110, I111, I112, I113, I114, I115, I116, I117, I118, I119, I120, I121, I122, I123, I124, I81, I125, I126, I127, I128, I129, I82, I83, p84, p130, p131, p132, p133, p134, p85, p135, p136, p137, p86, (by rw [z138, z139]; exact ht0), (by rw [z140, z141]; exact ht1), (by rw [z140, z142, z143]; exact ht2), (by rw [z144, z145]; exact ht3), (by rw [z146, z95]; exact ht4), (by rw [z147, z96]; exact ht5), (by rw [z148, z97]; exact ht6), (by rw [z149, z150]; exact ht7), (by rw [z151, z152]; exact ht8), (by rw [z153, z154]; exact ht9), (by rw [z155]; exact ht10), (by rw [z156]; exact ht11), (by rw [z157, z158]; exact ht12), (by omega), (by have h9 := tx108; omega), (by have h9 := tx108; omega), (show jNumP (σ77 3) (σ77 56) (σ77 6) (σ77 57) (σ77 7) (σ77 58) (σ77 8) (σ77 59) (σ77 55 6).toInt (σ77 55 4).toInt by rw [show σ77 3 = σ 3 from ((f79 3 (by decide)).trans (f53 3 (by decide))), show σ77 56 = σ 56 from ((f79 56 (by decide)).trans (f53 56 (by decide))), show σ77 6 = σ 6 from ((f79 6 (by decide)).trans (f53 6 (by decide))), show σ77 57 = σ 57 from ((f79 57 (by decide)).trans (f53 57 (by decide))), show σ77 7 = σ 7 from ((f79 7 (by decide)).trans (f53 7 (by decide))), show σ77 58 = σ 58 from ((f79 58 (by decide)).trans (f53 58 (by decide))), show σ77 8 = σ 8 from ((f79 8 (by decide)).trans (f53 8 (by decide))), show σ77 59 = σ 59 from ((f79 59 (by decide)).trans (f53 59 (by decide))), show (σ77 55 6).toInt = (σ 55 6).toInt from z139, show (σ77 55 4).toInt = (σ 55 4).toInt from z143]; exact hr0), (show jOvP (σ77 56) (σ77 57) (σ77 58) (σ77 59) (σ77 55 4).toInt by rw [show σ77 56 = σ 56 from ((f79 56 (by decide)).trans (f53 56 (by decide))), show σ77 57 = σ 57 from ((f79 57 (by decide)).trans (f53 57 (by decide))), show σ77 58 = σ 58 from ((f79 58 (by decide)).trans (f53 58 (by decide))), show σ77 59 = σ 59 from ((f79 59 (by decide)).trans (f53 59 (by decide))), show (σ77 55 4).toInt = (σ 55 4).toInt from z143]; exact hr1), (show jTp (σ77 10) (σ77 63) (σ77 55 15).toInt by rw [show σ77 10 = σ 10 from ((f79 10 (by decide)).trans (f53 10 (by decide))), show σ77 63 = σ 63 from ((f79 63 (by decide)).trans (f53 63 (by decide)))]; exact hr2.le (by omega)), (show jSo (σ77 17) (σ77 62) (σ77 16 0).toInt by rw [show σ77 17 = σ 17 from ((f79 17 (by decide)).trans (f53 17 (by decide))), show (σ77 16 0).toInt = (σ 16 0).toInt from z146]; exact hr3.thru w87 (by omega)), (show jShP (σ77 51) (σ77 52) (σ77 53) (σ77 86) (σ77 87) (σ77 55 32).toInt by rw [show σ77 51 = σ 51 from ((f79 51 (by decide)).trans (f53 51 (by decide))), show σ77 52 = σ 52 from ((f79 52 (by decide)).trans (f53 52 (by decide))), show σ77 53 = σ 53 from ((f79 53 (by decide)).trans (f53 53 (by decide))), show σ77 86 = σ 86 from ((f79 86 (by decide)).trans (f53 86 (by decide))), show σ77 87 = σ 87 from ((f79 87 (by decide)).trans (f53 87 (by decide)))]; exact (hr4.up (by omega) (by omega))), (show jEl (σ77 51) (σ77 52) (τ 54) (τ 88) by rw [show σ77 51 = σ 51 from ((f79 51 (by decide)).trans (f53 51 (by decide))), show σ77 52 = σ 52 from ((f79 52 (by decide)).trans (f53 52 (by decide)))]; exact hr5), (show jByP (σ77 51) (σ77 52) (τ 54) by rw [show σ77 51 = σ 51 from ((f79 51 (by decide)).trans (f53 51 (by decide))), show σ77 52 = σ 52 from ((f79 52 (by decide)).trans (f53 52 (by decide)))]; exact hr6), (show jBk (σ77 48) (σ77 80) (σ77 49) (σ77 81) (σ77 55 47).toInt by rw [show σ77 48 = σ 48 from ((f79 48 (by decide)).trans (f53 48 (by decide))), show σ77 49 = σ 49 from ((f79 49 (by decide)).trans (f53 49 (by decide))), show σ77 80 = σ 80 from ((f79 80 (by decide)).trans (f53 80 (by decide))), show σ77 81 = σ 81 from ((f79 81 (by decide)).trans (f53 81 (by decide))), show (σ77 55 47).toInt = (σ 55 47).toInt from z154]; exact hr7), (show jKd (σ77 39) (σ77 70) (σ77 55 32).toInt by rw [show σ77 39 = σ 39 from ((f79 39 (by decide)).trans (f53 39 (by decide))), show σ77 70 = σ 70 from ((f79 70 (by decide)).trans (f53 70 (by decide))), show (σ77 55 32).toInt = (σ 55 32).toInt from z150]; exact hr8), (show jTt (σ77 42) (σ77 85) (σ77 55 55).toInt by rw [show σ77 42 = σ 42 from ((f79 42 (by decide)).trans (f53 42 (by decide))), show σ77 85 = σ 85 from ((f79 85 (by decide)).trans (f53 85 (by decide))), show (σ77 55 55).toInt = (σ 55 55).toInt from z152]; exact hr9), (fun k hk => by rw [show σ77 4 = σ 4 from ((f79 4 (by decide)).trans (f53 4 (by decide))), show σ77 5 = σ 5 from ((f79 5 (by decide)).trans (f53 5 (by decide))), show σ77 60 = σ 60 from ((f79 60 (by decide)).trans (f53 60 (by decide))), show σ77 61 = σ 61 from ((f79 61 (by decide)).trans (f53 61 (by decide)))]; exact hr10 k (by omega)), (fun nm => by rw [show σ77 19 = σ 19 from ((f79 19 (by decide)).trans (f53 19 (by decide))), show σ77 64 = σ 64 from ((f79 64 (by decide)).trans (f53 64 (by decide))), show σ77 65 = σ 65 from ((f79 65 (by decide)).trans (f53 65 (by decide))), show (σ77 18 0).toInt = (σ 18 0).toInt from z161]; exact hr11 nm), (fun nm => by rw [show σ77 23 = σ 23 from ((f79 23 (by decide)).trans (f53 23 (by decide))), show σ77 64 = σ 64 from ((f79 64 (by decide)).trans (f53 64 (by decide))), show σ77 65 = σ 65 from ((f79 65 (by decide)).trans (f53 65 (by decide))), show (σ77 22 0).toInt = (σ 22 0).toInt from z162]; exact hr12 nm), (show jAlP (σ77 56) (σ77 57) (σ77 58) (σ77 59) (σ77 55 4).toInt by rw [show σ77 56 = σ 56 from ((f79 56 (by decide)).trans (f53 56 (by decide))), show σ77 57 = σ 57 from ((f79 57 (by decide)).trans (f53 57 (by decide))), show σ77 58 = σ 58 from ((f79 58 (by decide)).trans (f53 58 (by decide))), show σ77 59 = σ 59 from ((f79 59 (by decide)).trans (f53 59 (by decide))), show (σ77 55 4).toInt = (σ 55 4).toInt from z143]; exact hr13), (show jqbN (σ77 80) (σ77 55 47).toInt by rw [show σ77 80 = σ 80 from ((f79 80 (by decide)).trans (f53 80 (by decide))), show (σ77 55 47).toInt = (σ 55 47).toInt from z154]; exact hr14)⟩ hP hS (lv_sub hl [0, 1, 2, 3] rfl)
set_option maxHeartbeats 4000000 in
set_option maxRecDepth 100000 in
theorem law_case_18 {p : Program} {e : Env} {s : State} {m : MethodId} {below : List Frame} {meth : Method} {c : Code} (l : Launch) {b L : Nat} {xs : Nat → Int32} {D : va_G} {cI cL : ClassId} {ad zz : Nat → Nat} (C0 : lw_At p s m meth c b L xs) (hJ : jD ad) (hA : ∀ q, jA ad q → s.heap.size ≤ q) (hK : jK D cI cL s) (hZ : jZ zz (fun q : Nat => s.heap.size ≤ q) s s.heap) {x0 : Int32} (hx0 : 0 ≤ x0.toInt) (hxL : x0.toInt + 6 ≤ (L : Int)) (hL : L ≤ 384) {σ : Nat → Nat → Int32} {τ : Nat → Nat → Int64} {H : Heap} {locs : List Loc} (hS : va_S (fun q : Nat => s.heap.size ≤ q) s.heap H locs) {ls : Array Slot} (hAll : jAll x0.toInt σ τ) (hP : jH D cI cL ad σ τ H) (hl : lv_has ls 4 [(3, .int x0), (2, .ref (ad 55)), (1, .ref (ad 0)), (0, .ref b)]) (ih : ∀ (x1 : Int32) (σ : Nat → Nat → Int32) (τ : Nat → Nat → Int64) (H : Heap) (locs : List Loc) (ls : Array Slot), x1.toInt = x0.toInt + 6 → jAll x1.toInt σ τ → jH D cI cL ad σ τ H → va_S (fun q : Nat => s.heap.size ≤ q) s.heap H locs → lv_has ls 4 [(3, .int x1), (2, .ref (ad 55)), (1, .ref (ad 0)), (0, .ref b)] → W p l e room_1 s m #[Value.ref b] below meth c H locs 90 348600 (lw_Z below #[Value.ref b] s) (F0 m 18 ls [])) : W p l e room_1 s m #[Value.ref b] below meth c H locs 90 348600 (lw_Z below #[Value.ref b] s) (F0 m 740 ls []) := by
  obtain ⟨hx, hb, hr, hml, hown, hts0, hX, hbl, hlocks, hgv⟩ := C0
  have hts : ∀ w ∈ wsL_law, w.before #[Value.ref b] s = true := fun w h => hts0 w (wsL_law_in w h)
  have hbA : ¬ (fun q : Nat => s.heap.size ≤ q) b := Nat.not_le.mpr hbl
  have hown : s.vm.findClass RL = some m.cls := hown
  obtain ⟨hI2, hI9, hI12, hI16, hI18, hI22, hI31, hI38, hI43, hI47, hI50, hI0, hI26, hI101, hI102, hI103, hI104, hI105, hI106, hI107, hI109, hI110, hI111, hI119, hs_jKept, hs_jBook, hs_jNd12, hs_jN67, hs_jBl, hs_jKb, hs_jTR, hs_jKh, hs_jKg, hs_jNz, hs_jqSt, ht0, ht1, ht2, ht3, ht4, ht5, ht6, ht7, ht8, ht9, ht10, ht11, ht12, ht13, ht14, ht15, hr0, hr1, hr2, hr3, hr4, hr5, hr6, hr7, hr8, hr9, hr10, hr11, hr12, hr13, hr14⟩ := hAll
  have hL9 : (L : Int) ≤ 384 := by omega
  obtain ⟨i1, i2, i3, i4, i5, w6, w7⟩ : (0 ≤ (σ 2 0).toInt ∧ (σ 2 0).toInt ≤ 4) ∧ (0 ≤ (σ 2 1).toInt ∧ (σ 2 1).toInt ≤ 3) ∧ (0 ≤ (σ 2 2).toInt) ∧ (0 ≤ (σ 2 3).toInt) ∧ ((σ 2 2).toInt + (σ 2 3).toInt ≤ 40) ∧ (∀ k : Nat, k < 40 → 0 ≤ (σ 6 k).toInt ∧ (σ 6 k).toInt ≤ 67) ∧ (∀ k : Nat, k < 4 → 0 ≤ (σ 5 k).toInt ∧ (σ 5 k).toInt ≤ 20) := id hI2
  obtain ⟨i8, w9, w10⟩ : (0 ≤ (σ 9 0).toInt ∧ (σ 9 0).toInt ≤ 80) ∧ (∀ k : Nat, k < 80 → 0 ≤ (σ 10 k).toInt ∧ (σ 10 k).toInt ≤ 255) ∧ (∀ k : Nat, k < 8 → 0 ≤ (σ 11 k).toInt ∧ (σ 11 k).toInt ≤ 3) := id hI9
  obtain ⟨i11, i12, i13, w14⟩ : (1 ≤ (σ 16 0).toInt ∧ (σ 16 0).toInt ≤ 8) ∧ (1 ≤ (σ 16 1).toInt ∧ (σ 16 1).toInt ≤ 12) ∧ (0 ≤ (σ 16 2).toInt ∧ (σ 16 2).toInt ≤ 999) ∧ (∀ k : Nat, k < 8 → 0 ≤ (σ 17 k).toInt ∧ (σ 17 k).toInt ≤ 3) := id hI16
  obtain ⟨i15, i16, w17⟩ : (0 ≤ (σ 38 0).toInt ∧ (σ 38 0).toInt ≤ 20) ∧ (0 ≤ (σ 38 1).toInt ∧ (σ 38 1).toInt ≤ 1000) ∧ (∀ k : Nat, k < 20 → 0 ≤ (σ 39 k).toInt ∧ (σ 39 k).toInt ≤ 6) := id hI38
  obtain ⟨i18, w19, w20⟩ : (0 ≤ (σ 47 0).toInt ∧ (σ 47 0).toInt ≤ 12) ∧ (∀ k : Nat, k < 12 → 0 ≤ (σ 48 k).toInt ∧ (σ 48 k).toInt ≤ 3) ∧ (∀ k : Nat, k < 12 → 0 ≤ (σ 49 k).toInt ∧ (σ 49 k).toInt ≤ 1) := id hI47
  have w21 : ∀ k : Nat, k < 6 → 0 ≤ (σ 52 k).toInt ∧ (σ 52 k).toInt ≤ 60 := hI50
  have i22 : 1 ≤ (σ 26 6).toInt ∧ (σ 26 6).toInt ≤ 8000 := hI26
  obtain ⟨i23, i24, i25, w26, w27, w28, w29⟩ : (0 ≤ (σ 55 5).toInt) ∧ ((σ 55 5).toInt ≤ (σ 55 4).toInt) ∧ ((σ 55 4).toInt ≤ 40) ∧ (∀ k : Nat, k < 68 → (-200) ≤ (σ 56 k).toInt ∧ (σ 56 k).toInt ≤ 500) ∧ (∀ k : Nat, k < 40 → 0 ≤ (σ 57 k).toInt ∧ (σ 57 k).toInt ≤ 67) ∧ (∀ k : Nat, k < 40 → (-200) ≤ (σ 58 k).toInt ∧ (σ 58 k).toInt ≤ 500) ∧ (∀ k : Nat, k < 40 → (-200) ≤ (σ 59 k).toInt ∧ (σ 59 k).toInt ≤ 500) := id hI101
  obtain ⟨i30, w31, w32⟩ : (0 ≤ (σ 55 6).toInt ∧ (σ 55 6).toInt ≤ 4) ∧ (∀ k : Nat, k < 4 → 0 ≤ (σ 60 k).toInt ∧ (σ 60 k).toInt ≤ 50) ∧ (∀ k : Nat, k < 4 → 0 ≤ (σ 61 k).toInt ∧ (σ 61 k).toInt ≤ 20) := id hI102
  have i33 : 0 ≤ (σ 55 9).toInt ∧ (σ 55 9).toInt ≤ 3 := hI103
  obtain ⟨i34, i35, i36, w37, w38⟩ : (1 ≤ (σ 55 10).toInt ∧ (σ 55 10).toInt ≤ 8) ∧ (1 ≤ (σ 55 12).toInt ∧ (σ 55 12).toInt ≤ 12) ∧ (0 ≤ (σ 55 13).toInt ∧ (σ 55 13).toInt ≤ 999) ∧ (∀ k : Nat, k < 8 → 0 ≤ (σ 62 k).toInt ∧ (σ 62 k).toInt ≤ 3) ∧ (∀ k : Nat, k < 8 → 0 ≤ (σ 67 k).toInt ∧ (σ 67 k).toInt ≤ 3) := id hI104
  obtain ⟨i39, w40⟩ : (0 ≤ (σ 55 15).toInt ∧ (σ 55 15).toInt ≤ 80) ∧ (∀ k : Nat, k < 2 → (-1) ≤ (σ 65 k).toInt ∧ (σ 65 k).toInt ≤ 80) := id hI105
  obtain ⟨i41, w42, w43, w44⟩ : (0 ≤ (σ 55 32).toInt ∧ (σ 55 32).toInt ≤ 20) ∧ (∀ k : Nat, k < 20 → 0 ≤ (σ 70 k).toInt ∧ (σ 70 k).toInt ≤ 6) ∧ (∀ k : Nat, k < 20 → 0 ≤ (σ 71 k).toInt ∧ (σ 71 k).toInt ≤ 8) ∧ (∀ k : Nat, k < 160 → 0 ≤ (σ 72 k).toInt ∧ (σ 72 k).toInt ≤ 3) := id hI106
  obtain ⟨i45, i46, w47⟩ : (0 ≤ (σ 55 47).toInt ∧ (σ 55 47).toInt ≤ 12) ∧ ((σ 55 47).toInt ≤ (σ 55 12).toInt) ∧ (∀ k : Nat, k < 12 → 0 ≤ (σ 80 k).toInt ∧ (σ 80 k).toInt ≤ 3) := id hI107
  have hs_jOk3 : jOk3 σ := hr0.ok hr1.1
  refine lv_aload_n hx hb dL_law_740 rfl (lv_at hl 2 rfl) ?_
  refine lv_aload_n hx hb dL_law_741 rfl (lv_at hl 3 rfl) ?_
  refine lv_iload_n hx hb dL_law_742 rfl (lv_at hl 0 rfl) ?_
  refine lv_iconst (v := 1) hx hb dL_law_743 (by decide) ?_
  have g48 := jrg (rfl : x0.toInt = x0.toInt)
  refine lv_iadd hx hb dL_law_744 ?_
  refine lv_topi (fun x49 ex49 => ?_)
  exact by
   have tx49 : x49.toInt = x0.toInt + 1 := (jadd ex49 rfl jz_1 (by omega) (by omega)).trans (by omega)
   refine va_sld hx hb hX hbl hbA hS (jin tx49 (by omega) (by omega)) dL_law_745 ?_
   have g50 := jrg (rfl : (xs x49.toNatClampNeg).toInt = (xs x49.toNatClampNeg).toInt)
   refine lv_aload_n hx hb dL_law_746 rfl (lv_at hl 3 rfl) ?_
   refine lv_iload_n hx hb dL_law_747 rfl (lv_at hl 0 rfl) ?_
   refine lv_iconst (v := 2) hx hb dL_law_748 (by decide) ?_
   refine lv_iadd hx hb dL_law_749 ?_
   refine lv_topi (fun x51 ex51 => ?_)
   have tx51 : x51.toInt = x0.toInt + 2 := (jadd ex51 rfl jz_2 (by omega) (by omega)).trans (by omega)
   exact by
    refine va_sld hx hb hX hbl hbA hS (jin tx51 (by omega) (by omega)) dL_law_750 ?_
    have g52 := jrg (rfl : (xs x51.toNatClampNeg).toInt = (xs x51.toNatClampNeg).toInt)
    refine jcallV (As := [.int (xs x49.toNatClampNeg), .int (xs x51.toNatClampNeg)]) (rest := []) ⟨hx, hb, hml, hown, hts⟩ hK hP hA hS hZ (c_X11_learn l D cI cL ad zz hJ σ τ (xs x49.toNatClampNeg) ((xs x49.toNatClampNeg).toInt) rfl (xs x51.toNatClampNeg) ((xs x51.toNatClampNeg).toInt) rfl hI2) cw_RL_89 (jc_0 cI cL ad σ τ) rfl ⟨Nat.le_of_ble_eq_true rfl, Nat.le_of_ble_eq_true rfl⟩ rfl rfl rfl hl.1 rfl (Nat.le_of_ble_eq_true rfl) dL_law_751 ⟨Nat.le_of_ble_eq_true rfl, Nat.le_of_ble_eq_true rfl⟩ (fun r54 σ53 τ53 H locs h53 hP hS => ?_)
    obtain ⟨rfl, f55, f56, I57, h53⟩ := h53
    obtain ⟨i59, i60, i61, i62, i63, w64, w65⟩ : (0 ≤ (σ53 2 0).toInt ∧ (σ53 2 0).toInt ≤ 4) ∧ (0 ≤ (σ53 2 1).toInt ∧ (σ53 2 1).toInt ≤ 3) ∧ (0 ≤ (σ53 2 2).toInt) ∧ (0 ≤ (σ53 2 3).toInt) ∧ ((σ53 2 2).toInt + (σ53 2 3).toInt ≤ 40) ∧ (∀ k : Nat, k < 40 → 0 ≤ (σ53 6 k).toInt ∧ (σ53 6 k).toInt ≤ 67) ∧ (∀ k : Nat, k < 4 → 0 ≤ (σ53 5 k).toInt ∧ (σ53 5 k).toInt ≤ 20) := id I57
    have z66 : (σ53 2 0).toInt = (σ 2 0).toInt := (congrArg Int32.toInt (show σ53 2 0 = (σ 2 0) from (f56 0 (by decide))))
    have z67 : (σ53 2 1).toInt = (σ 2 1).toInt := (congrArg Int32.toInt (show σ53 2 1 = (σ 2 1) from (f56 1 (by decide))))
    rcases h53 with h68 | h69
    · obtain ⟨q74, k70, k71, k72, k73⟩ := h68
      have q74 := q74.symm
      subst q74
      refine lv_pop hx hb dL_law_754 rfl ?_
      refine lv_aload_n hx hb dL_law_755 rfl (lv_at hl 1 rfl) ?_
      refine lv_aload_n hx hb dL_law_756 rfl (lv_at hl 3 rfl) ?_
      refine lv_iload_n hx hb dL_law_757 rfl (lv_at hl 0 rfl) ?_
      refine lv_iconst (v := 1) hx hb dL_law_758 (by decide) ?_
      refine lv_iadd hx hb dL_law_759 ?_
      refine jtopr ex49.symm ?_
      exact by
       refine va_sld hx hb hX hbl hbA hS (jin tx49 (by omega) (by omega)) dL_law_760 ?_
       refine lv_aload_n hx hb dL_law_761 rfl (lv_at hl 3 rfl) ?_
       refine lv_iload_n hx hb dL_law_762 rfl (lv_at hl 0 rfl) ?_
       refine lv_iconst (v := 2) hx hb dL_law_763 (by decide) ?_
       refine lv_iadd hx hb dL_law_764 ?_
       refine jtopr ex51.symm ?_
       refine va_sld hx hb hX hbl hbA hS (jin tx51 (by omega) (by omega)) dL_law_765 ?_
       have I75 : jI101 σ53 := jI101_fr (congrFun (f55 55 (by decide)) 4) (congrFun (f55 55 (by decide)) 5) (f55 56 (by decide)) (f55 57 (by decide)) (f55 58 (by decide)) (f55 59 (by decide)) hI101
       have I76 : jI102 σ53 := jI102_fr (congrFun (f55 55 (by decide)) 6) (f55 60 (by decide)) (f55 61 (by decide)) hI102
       exact by
        have z77 : (σ53 55 6).toInt = (σ 55 6).toInt := (congrArg Int32.toInt (show σ53 55 6 = (σ 55 6) from (congrFun (f55 55 (by decide)) 6)))
        have z78 : (σ53 55 5).toInt = (σ 55 5).toInt := (congrArg Int32.toInt (show σ53 55 5 = (σ 55 5) from (congrFun (f55 55 (by decide)) 5)))
        have z79 : (σ53 55 4).toInt = (σ 55 4).toInt := (congrArg Int32.toInt (show σ53 55 4 = (σ 55 4) from (congrFun (f55 55 (by decide)) 4)))
        refine jcallV (As := [.int (xs x49.toNatClampNeg), .int (xs x51.toNatClampNeg)]) (rest := []) ⟨hx, hb, hml, hown, hts⟩ hK hP hA hS hZ (c_X12_learn l D cI cL ad zz hJ σ53 τ (xs x49.toNatClampNeg) ((xs x49.toNatClampNeg).toInt) rfl (xs x51.toNatClampNeg) ((xs x51.toNatClampNeg).toInt) rfl I75 I76) cw_RL_92 (jc_55 cI cL ad σ53 τ) rfl ⟨Nat.le_of_ble_eq_true rfl, Nat.le_of_ble_eq_true rfl⟩ rfl rfl rfl hl.1 rfl (Nat.le_of_ble_eq_true rfl) dL_law_766 ⟨Nat.le_of_ble_eq_true rfl, Nat.le_of_ble_eq_true rfl⟩ (fun r81 σ80 τ80 H locs h80 hP hS => ?_)
        obtain ⟨rfl, f82, f83, I84, h80⟩ := h80
        obtain ⟨i86, i87, i88, w89, w90, w91, w92⟩ : (0 ≤ (σ80 55 5).toInt) ∧ ((σ80 55 5).toInt ≤ (σ80 55 4).toInt) ∧ ((σ80 55 4).toInt ≤ 40) ∧ (∀ k : Nat, k < 68 → (-200) ≤ (σ80 56 k).toInt ∧ (σ80 56 k).toInt ≤ 500) ∧ (∀ k : Nat, k < 40 → 0 ≤ (σ80 57 k).toInt ∧ (σ80 57 k).toInt ≤ 67) ∧ (∀ k : Nat, k < 40 → (-200) ≤ (σ80 58 k).toInt ∧ (σ80 58 k).toInt ≤ 500) ∧ (∀ k : Nat, k < 40 → (-200) ≤ (σ80 59 k).toInt ∧ (σ80 59 k).toInt ≤ 500) := id I84
        rcases h80 with h93 | h94
        · obtain ⟨q99, k95, k96, k97, k98⟩ := h93
          have q99 := q99.symm
          subst q99
          refine lv_pop hx hb dL_law_769 rfl ?_
          refine lv_goto (tgt := 1357) hx hb dL_law_770 (by decide) ?_
          obtain ⟨x100, ex100⟩ : ∃ y : Int32, y = x0 + 6 := ⟨_, rfl⟩
          exact by
           have tx100 : x100.toInt = x0.toInt + 6 := (jadd ex100 rfl jz_6 (by omega) (by omega)).trans (by omega)
           refine lv_iinc (v := x100) (lv' := [(3, .int x100), (2, .ref (ad 55)), (1, .ref (ad 0)), (0, .ref b)]) hx hb dL_law_1357 hl (k := 0) rfl (by rw [ex100]; rfl) (by decide) rfl (fun ls hl => ?_)
           refine lv_goto (tgt := 18) hx hb dL_law_1360 (by decide) ?_
           have I101 : jI2 σ80 := jI2_fr (congrFun (f82 2 (by decide)) 0) (congrFun (f82 2 (by decide)) 1) (congrFun (f82 2 (by decide)) 2) (congrFun (f82 2 (by decide)) 3) (f82 6 (by decide)) (f82 5 (by decide)) I57
           have I102 : jI9 σ80 := jI9_fr ((congrFun (f82 9 (by decide)) 0).trans (congrFun (f55 9 (by decide)) 0)) ((f82 10 (by decide)).trans (f55 10 (by decide))) ((f82 11 (by decide)).trans (f55 11 (by decide))) hI9
           have I103 : jI12 σ80 := jI12_fr ((congrFun (f82 12 (by decide)) 0).trans (congrFun (f55 12 (by decide)) 0)) ((f82 13 (by decide)).trans (f55 13 (by decide))) hI12
           have I104 : jI16 σ80 := jI16_fr ((congrFun (f82 16 (by decide)) 0).trans (congrFun (f55 16 (by decide)) 0)) ((congrFun (f82 16 (by decide)) 1).trans (congrFun (f55 16 (by decide)) 1)) ((congrFun (f82 16 (by decide)) 2).trans (congrFun (f55 16 (by decide)) 2)) ((f82 17 (by decide)).trans (f55 17 (by decide))) hI16
           have I105 : jI18 σ80 := jI18_fr ((congrFun (f82 18 (by decide)) 0).trans (congrFun (f55 18 (by decide)) 0)) ((f82 19 (by decide)).trans (f55 19 (by decide))) hI18
           have I106 : jI22 σ80 := jI22_fr ((congrFun (f82 22 (by decide)) 0).trans (congrFun (f55 22 (by decide)) 0)) ((f82 23 (by decide)).trans (f55 23 (by decide))) hI22
           exact by
            have I107 : jI31 σ80 := jI31_fr ((congrFun (f82 31 (by decide)) 8).trans (congrFun (f55 31 (by decide)) 8)) ((congrFun (f82 31 (by decide)) 10).trans (congrFun (f55 31 (by decide)) 10)) ((congrFun (f82 31 (by decide)) 11).trans (congrFun (f55 31 (by decide)) 11)) ((f82 33 (by decide)).trans (f55 33 (by decide))) ((f82 35 (by decide)).trans (f55 35 (by decide))) ((f82 36 (by decide)).trans (f55 36 (by decide))) hI31
            have I108 : jI38 σ80 := jI38_fr ((congrFun (f82 38 (by decide)) 0).trans (congrFun (f55 38 (by decide)) 0)) ((congrFun (f82 38 (by decide)) 1).trans (congrFun (f55 38 (by decide)) 1)) ((f82 39 (by decide)).trans (f55 39 (by decide))) hI38
            have I109 : jI43 σ80 := jI43_fr ((congrFun (f82 43 (by decide)) 8).trans (congrFun (f55 43 (by decide)) 8)) hI43
            have I110 : jI47 σ80 := jI47_fr ((congrFun (f82 47 (by decide)) 0).trans (congrFun (f55 47 (by decide)) 0)) ((f82 48 (by decide)).trans (f55 48 (by decide))) ((f82 49 (by decide)).trans (f55 49 (by decide))) hI47
            have I111 : jI50 σ80 := jI50_fr ((f82 52 (by decide)).trans (f55 52 (by decide))) hI50
            have I112 : jI0 σ80 := jI0_fr ((f82 1 (by decide)).trans (f55 1 (by decide))) hI0
            have I113 : jI26 σ80 := jI26_fr ((congrFun (f82 26 (by decide)) 6).trans (congrFun (f55 26 (by decide)) 6)) hI26
            have I114 : jI102 σ80 := jI102_fr (f83 6 (by decide)) (f82 60 (by decide)) (f82 61 (by decide)) I76
            have I115 : jI103 σ80 := jI103_fr ((f83 9 (by decide)).trans (congrFun (f55 55 (by decide)) 9)) hI103
            have I116 : jI104 σ80 := jI104_fr ((f83 10 (by decide)).trans (congrFun (f55 55 (by decide)) 10)) ((f83 12 (by decide)).trans (congrFun (f55 55 (by decide)) 12)) ((f83 13 (by decide)).trans (congrFun (f55 55 (by decide)) 13)) ((f82 62 (by decide)).trans (f55 62 (by decide))) ((f82 67 (by decide)).trans (f55 67 (by decide))) hI104
            have I117 : jI105 σ80 := jI105_fr ((f83 15 (by decide)).trans (congrFun (f55 55 (by decide)) 15)) ((f82 65 (by decide)).trans (f55 65 (by decide))) hI105
            have I118 : jI106 σ80 := jI106_fr ((f83 32 (by decide)).trans (congrFun (f55 55 (by decide)) 32)) ((f82 70 (by decide)).trans (f55 70 (by decide))) ((f82 71 (by decide)).trans (f55 71 (by decide))) ((f82 72 (by decide)).trans (f55 72 (by decide))) hI106
            have I119 : jI107 σ80 := jI107_fr ((f83 12 (by decide)).trans (congrFun (f55 55 (by decide)) 12)) ((f83 47 (by decide)).trans (congrFun (f55 55 (by decide)) 47)) ((f82 80 (by decide)).trans (f55 80 (by decide))) hI107
            have I120 : jI109 σ80 := jI109_fr ((f83 50 (by decide)).trans (congrFun (f55 55 (by decide)) 50)) hI109
            have I121 : jI110 σ80 := jI110_fr ((f82 86 (by decide)).trans (f55 86 (by decide))) ((f82 87 (by decide)).trans (f55 87 (by decide))) hI110
            have I122 : jI111 σ80 := jI111_fr ((f82 79 (by decide)).trans (f55 79 (by decide))) hI111
            have I123 : jI119 σ80 := jI119_fr ((f82 68 (by decide)).trans (f55 68 (by decide))) hI119
            have p124 : jKept σ80 := jKept.fr ((f82 75 (by decide)).trans (f55 75 (by decide))) ((f82 76 (by decide)).trans (f55 76 (by decide))) ((f82 77 (by decide)).trans (f55 77 (by decide))) hs_jKept
            have p125 : jBook σ80 := jBook.fr ((f83 47 (by decide)).trans (congrFun (f55 55 (by decide)) 47)) ((f83 10 (by decide)).trans (congrFun (f55 55 (by decide)) 10)) ((f82 81 (by decide)).trans (f55 81 (by decide))) hs_jBook
            have p126 : jNd12 σ80 := jNd12.fr ((congrFun (f82 12 (by decide)) 0).trans (congrFun (f55 12 (by decide)) 0)) ((congrFun (f82 12 (by decide)) 1).trans (congrFun (f55 12 (by decide)) 1)) ((f82 13 (by decide)).trans (f55 13 (by decide))) hs_jNd12
            have p127 : jN67 σ80 := jN67.fr ((f82 24 (by decide)).trans (f55 24 (by decide))) hs_jN67
            have p128 : jBl σ80 := jBl.fr ((congrFun (f82 22 (by decide)) 0).trans (congrFun (f55 22 (by decide)) 0)) ((congrFun (f82 22 (by decide)) 1).trans (congrFun (f55 22 (by decide)) 1)) ((f82 23 (by decide)).trans (f55 23 (by decide))) ((congrFun (f82 26 (by decide)) 6).trans (congrFun (f55 26 (by decide)) 6)) ((congrFun (f82 26 (by decide)) 7).trans (congrFun (f55 26 (by decide)) 7)) ((f82 29 (by decide)).trans (f55 29 (by decide))) ((f82 30 (by decide)).trans (f55 30 (by decide))) hs_jBl
            have p129 : jKb σ80 := jKb.fr ((congrFun (f82 31 (by decide)) 8).trans (congrFun (f55 31 (by decide)) 8)) ((congrFun (f82 31 (by decide)) 11).trans (congrFun (f55 31 (by decide)) 11)) ((f82 32 (by decide)).trans (f55 32 (by decide))) hs_jKb
            have p130 : jTR σ80 := jTR.fr ((f82 64 (by decide)).trans (f55 64 (by decide))) ((f82 65 (by decide)).trans (f55 65 (by decide))) hs_jTR
            have p131 : jKh σ80 := jKh.fr ((congrFun (f82 31 (by decide)) 8).trans (congrFun (f55 31 (by decide)) 8)) ((f82 32 (by decide)).trans (f55 32 (by decide))) ((f82 36 (by decide)).trans (f55 36 (by decide))) ((f82 37 (by decide)).trans (f55 37 (by decide))) hs_jKh
            have p132 : jKg σ80 := jKg.fr ((congrFun (f82 31 (by decide)) 8).trans (congrFun (f55 31 (by decide)) 8)) ((congrFun (f82 31 (by decide)) 9).trans (congrFun (f55 31 (by decide)) 9)) ((congrFun (f82 31 (by decide)) 11).trans (congrFun (f55 31 (by decide)) 11)) ((congrFun (f82 31 (by decide)) 12).trans (congrFun (f55 31 (by decide)) 12)) ((f82 32 (by decide)).trans (f55 32 (by decide))) ((f82 33 (by decide)).trans (f55 33 (by decide))) hs_jKg
            have p133 : jNz σ80 := jNz.fr ((f82 34 (by decide)).trans (f55 34 (by decide))) hs_jNz
            have p134 : jqSt σ80 := jqSt.fr ((f82 78 (by decide)).trans (f55 78 (by decide))) ((f83 42 (by decide)).trans (congrFun (f55 55 (by decide)) 42)) hs_jqSt
            have z135 : (σ80 2 0).toInt = (σ 2 0).toInt := (congrArg Int32.toInt (show σ80 2 0 = (σ 2 0) from ((congrFun (f82 2 (by decide)) 0).trans (f56 0 (by decide)))))
            have z136 : (σ80 55 6).toInt = (σ 55 6).toInt := (congrArg Int32.toInt (show σ80 55 6 = (σ 55 6) from ((f83 6 (by decide)).trans (congrFun (f55 55 (by decide)) 6))))
            have z137 : (σ80 2 2).toInt = (σ53 2 2).toInt := (congrArg Int32.toInt (show σ80 2 2 = (σ53 2 2) from (congrFun (f82 2 (by decide)) 2)))
            have z138 : (σ80 2 3).toInt = (σ53 2 3).toInt := (congrArg Int32.toInt (show σ80 2 3 = (σ53 2 3) from (congrFun (f82 2 (by decide)) 3)))
            have z139 : (σ80 9 0).toInt = (σ 9 0).toInt := (congrArg Int32.toInt (show σ80 9 0 = (σ 9 0) from ((congrFun (f82 9 (by decide)) 0).trans (congrFun (f55 9 (by decide)) 0))))
            have z140 : (σ80 55 15).toInt = (σ 55 15).toInt := (congrArg Int32.toInt (show σ80 55 15 = (σ 55 15) from ((f83 15 (by decide)).trans (congrFun (f55 55 (by decide)) 15))))
            have z141 : (σ80 16 0).toInt = (σ 16 0).toInt := (congrArg Int32.toInt (show σ80 16 0 = (σ 16 0) from ((congrFun (f82 16 (by decide)) 0).trans (congrFun (f55 16 (by decide)) 0))))
            have z142 : (σ80 55 10).toInt = (σ 55 10).toInt := (congrArg Int32.toInt (show σ80 55 10 = (σ 55 10) from ((f83 10 (by decide)).trans (congrFun (f55 55 (by decide)) 10))))
            have z143 : (σ80 16 1).toInt = (σ 16 1).toInt := (congrArg Int32.toInt (show σ80 16 1 = (σ 16 1) from ((congrFun (f82 16 (by decide)) 1).trans (congrFun (f55 16 (by decide)) 1))))
            have z144 : (σ80 55 12).toInt = (σ 55 12).toInt := (congrArg Int32.toInt (show σ80 55 12 = (σ 55 12) from ((f83 12 (by decide)).trans (congrFun (f55 55 (by decide)) 12))))
            have z145 : (σ80 16 2).toInt = (σ 16 2).toInt := (congrArg Int32.toInt (show σ80 16 2 = (σ 16 2) from ((congrFun (f82 16 (by decide)) 2).trans (congrFun (f55 16 (by decide)) 2))))
            have z146 : (σ80 55 13).toInt = (σ 55 13).toInt := (congrArg Int32.toInt (show σ80 55 13 = (σ 55 13) from ((f83 13 (by decide)).trans (congrFun (f55 55 (by decide)) 13))))
            have z147 : (σ80 38 0).toInt = (σ 38 0).toInt := (congrArg Int32.toInt (show σ80 38 0 = (σ 38 0) from ((congrFun (f82 38 (by decide)) 0).trans (congrFun (f55 38 (by decide)) 0))))
            have z148 : (σ80 55 32).toInt = (σ 55 32).toInt := (congrArg Int32.toInt (show σ80 55 32 = (σ 55 32) from ((f83 32 (by decide)).trans (congrFun (f55 55 (by decide)) 32))))
            have z149 : (σ80 38 1).toInt = (σ 38 1).toInt := (congrArg Int32.toInt (show σ80 38 1 = (σ 38 1) from ((congrFun (f82 38 (by decide)) 1).trans (congrFun (f55 38 (by decide)) 1))))
            have z150 : (σ80 55 55).toInt = (σ 55 55).toInt := (congrArg Int32.toInt (show σ80 55 55 = (σ 55 55) from ((f83 55 (by decide)).trans (congrFun (f55 55 (by decide)) 55))))
            have z151 : (σ80 47 0).toInt = (σ 47 0).toInt := (congrArg Int32.toInt (show σ80 47 0 = (σ 47 0) from ((congrFun (f82 47 (by decide)) 0).trans (congrFun (f55 47 (by decide)) 0))))
            have z152 : (σ80 55 47).toInt = (σ 55 47).toInt := (congrArg Int32.toInt (show σ80 55 47 = (σ 55 47) from ((f83 47 (by decide)).trans (congrFun (f55 55 (by decide)) 47))))
            have z153 : (σ80 55 30).toInt = (σ 55 30).toInt := (congrArg Int32.toInt (show σ80 55 30 = (σ 55 30) from ((f83 30 (by decide)).trans (congrFun (f55 55 (by decide)) 30))))
            have z154 : (σ80 55 31).toInt = (σ 55 31).toInt := (congrArg Int32.toInt (show σ80 55 31 = (σ 55 31) from ((f83 31 (by decide)).trans (congrFun (f55 55 (by decide)) 31))))
            have z155 : (σ80 2 1).toInt = (σ 2 1).toInt := (congrArg Int32.toInt (show σ80 2 1 = (σ 2 1) from ((congrFun (f82 2 (by decide)) 1).trans (f56 1 (by decide)))))
            have z156 : (σ80 55 9).toInt = (σ 55 9).toInt := (congrArg Int32.toInt (show σ80 55 9 = (σ 55 9) from ((f83 9 (by decide)).trans (congrFun (f55 55 (by decide)) 9))))
            have z157 : (σ80 55 42).toInt = (σ 55 42).toInt := (congrArg Int32.toInt (show σ80 55 42 = (σ 55 42) from ((f83 42 (by decide)).trans (congrFun (f55 55 (by decide)) 42))))
            have z158 : (σ80 26 6).toInt = (σ 26 6).toInt := (congrArg Int32.toInt (show σ80 26 6 = (σ 26 6) from ((congrFun (f82 26 (by decide)) 6).trans (congrFun (f55 26 (by decide)) 6))))
            have z160 : (σ80 18 0).toInt = (σ 18 0).toInt := (congrArg Int32.toInt (show σ80 18 0 = (σ 18 0) from ((congrFun (f82 18 (by decide)) 0).trans (congrFun (f55 18 (by decide)) 0))))
            have z161 : (σ80 22 0).toInt = (σ 22 0).toInt := (congrArg Int32.toInt (show σ80 22 0 = (σ 22 0) from ((congrFun (f82 22 (by decide)) 0).trans (congrFun (f55 22 (by decide)) 0))))
            exact by exact ih x100 σ80 τ _ _ ls (by have h9 := tx100; omega) ⟨I101, I102, I103, I104, I105, I106, I107, I108, I109, I110, I111, I112, I113, I84, I114, I115, I116, I117, I118, I119, I120, I121, I122, I123, p124, p125, p126, p127, p128, p129, p130, p131, p132, p133, p134, (by rw [z135, z136]; exact ht0), (by omega), (by omega), (by rw [z139, z140]; exact ht3), (by rw [z141, z142]; exact ht4), (by rw [z143, z144]; exact ht5), (by rw [z145, z146]; exact ht6), (by rw [z147, z148]; exact ht7), (by rw [z149, z150]; exact ht8), (by rw [z151, z152]; exact ht9), (by rw [z153]; exact ht10), (by rw [z154]; exact ht11), (by rw [z155, z156]; exact ht12), (by rw [z157]; exact ht13), (by have h9 := tx100; omega), (by have h9 := tx100; omega), (show jNumP (σ80 3) (σ80 56) (σ80 6) (σ80 57) (σ80 7) (σ80 58) (σ80 8) (σ80 59) (σ80 55 6).toInt (σ80 55 4).toInt by rw [show σ80 3 = σ 3 from ((f82 3 (by decide)).trans k73.1), show σ80 56 = σ 56 from (k98.1.trans (f55 56 (by decide))), show σ80 6 = σ 6 from ((f82 6 (by decide)).trans k73.2.1), show σ80 57 = σ 57 from (k98.2.1.trans (f55 57 (by decide))), show σ80 7 = σ 7 from ((f82 7 (by decide)).trans k73.2.2.1), show σ80 58 = σ 58 from (k98.2.2.1.trans (f55 58 (by decide))), show σ80 8 = σ 8 from ((f82 8 (by decide)).trans k73.2.2.2), show σ80 59 = σ 59 from (k98.2.2.2.trans (f55 59 (by decide))), show (σ80 55 6).toInt = (σ 55 6).toInt from z136, show (σ80 55 4).toInt = (σ 55 4).toInt from by omega]; exact hr0), (show jOvP (σ80 56) (σ80 57) (σ80 58) (σ80 59) (σ80 55 4).toInt by rw [show σ80 56 = σ 56 from (k98.1.trans (f55 56 (by decide))), show σ80 57 = σ 57 from (k98.2.1.trans (f55 57 (by decide))), show σ80 58 = σ 58 from (k98.2.2.1.trans (f55 58 (by decide))), show σ80 59 = σ 59 from (k98.2.2.2.trans (f55 59 (by decide))), show (σ80 55 4).toInt = (σ 55 4).toInt from by omega]; exact hr1), (show jTp (σ80 10) (σ80 63) (σ80 55 15).toInt by rw [show σ80 10 = σ 10 from ((f82 10 (by decide)).trans (f55 10 (by decide))), show σ80 63 = σ 63 from ((f82 63 (by decide)).trans (f55 63 (by decide)))]; exact hr2.le (by omega)), (show jSo (σ80 17) (σ80 62) (σ80 16 0).toInt by rw [show σ80 17 = σ 17 from ((f82 17 (by decide)).trans (f55 17 (by decide))), show σ80 62 = σ 62 from ((f82 62 (by decide)).trans (f55 62 (by decide))), show (σ80 16 0).toInt = (σ 16 0).toInt from z141]; exact hr3), (show jShP (σ80 51) (σ80 52) (σ80 53) (σ80 86) (σ80 87) (σ80 55 32).toInt by rw [show σ80 51 = σ 51 from ((f82 51 (by decide)).trans (f55 51 (by decide))), show σ80 52 = σ 52 from ((f82 52 (by decide)).trans (f55 52 (by decide))), show σ80 53 = σ 53 from ((f82 53 (by decide)).trans (f55 53 (by decide))), show σ80 86 = σ 86 from ((f82 86 (by decide)).trans (f55 86 (by decide))), show σ80 87 = σ 87 from ((f82 87 (by decide)).trans (f55 87 (by decide)))]; exact (hr4.up (by omega) (by omega))), (show jEl (σ80 51) (σ80 52) (τ 54) (τ 88) by rw [show σ80 51 = σ 51 from ((f82 51 (by decide)).trans (f55 51 (by decide))), show σ80 52 = σ 52 from ((f82 52 (by decide)).trans (f55 52 (by decide)))]; exact hr5), (show jByP (σ80 51) (σ80 52) (τ 54) by rw [show σ80 51 = σ 51 from ((f82 51 (by decide)).trans (f55 51 (by decide))), show σ80 52 = σ 52 from ((f82 52 (by decide)).trans (f55 52 (by decide)))]; exact hr6), (show jBk (σ80 48) (σ80 80) (σ80 49) (σ80 81) (σ80 55 47).toInt by rw [show σ80 48 = σ 48 from ((f82 48 (by decide)).trans (f55 48 (by decide))), show σ80 49 = σ 49 from ((f82 49 (by decide)).trans (f55 49 (by decide))), show σ80 80 = σ 80 from ((f82 80 (by decide)).trans (f55 80 (by decide))), show σ80 81 = σ 81 from ((f82 81 (by decide)).trans (f55 81 (by decide))), show (σ80 55 47).toInt = (σ 55 47).toInt from z152]; exact hr7), (show jKd (σ80 39) (σ80 70) (σ80 55 32).toInt by rw [show σ80 39 = σ 39 from ((f82 39 (by decide)).trans (f55 39 (by decide))), show σ80 70 = σ 70 from ((f82 70 (by decide)).trans (f55 70 (by decide))), show (σ80 55 32).toInt = (σ 55 32).toInt from z148]; exact hr8), (show jTt (σ80 42) (σ80 85) (σ80 55 55).toInt by rw [show σ80 42 = σ 42 from ((f82 42 (by decide)).trans (f55 42 (by decide))), show σ80 85 = σ 85 from ((f82 85 (by decide)).trans (f55 85 (by decide))), show (σ80 55 55).toInt = (σ 55 55).toInt from z150]; exact hr9), (fun k hk => by rw [show σ80 4 = σ 4 from ((f82 4 (by decide)).trans (f55 4 (by decide))), show σ80 5 = σ 5 from ((f82 5 (by decide)).trans (f55 5 (by decide))), show σ80 60 = σ 60 from ((f82 60 (by decide)).trans (f55 60 (by decide))), show σ80 61 = σ 61 from ((f82 61 (by decide)).trans (f55 61 (by decide)))]; exact hr10 k (by omega)), (fun nm => by rw [show σ80 19 = σ 19 from ((f82 19 (by decide)).trans (f55 19 (by decide))), show σ80 64 = σ 64 from ((f82 64 (by decide)).trans (f55 64 (by decide))), show σ80 65 = σ 65 from ((f82 65 (by decide)).trans (f55 65 (by decide))), show (σ80 18 0).toInt = (σ 18 0).toInt from z160]; exact hr11 nm), (fun nm => by rw [show σ80 23 = σ 23 from ((f82 23 (by decide)).trans (f55 23 (by decide))), show σ80 64 = σ 64 from ((f82 64 (by decide)).trans (f55 64 (by decide))), show σ80 65 = σ 65 from ((f82 65 (by decide)).trans (f55 65 (by decide))), show (σ80 22 0).toInt = (σ 22 0).toInt from z161]; exact hr12 nm), (show jAlP (σ80 56) (σ80 57) (σ80 58) (σ80 59) (σ80 55 4).toInt by rw [show σ80 56 = σ 56 from (k98.1.trans (f55 56 (by decide))), show σ80 57 = σ 57 from (k98.2.1.trans (f55 57 (by decide))), show σ80 58 = σ 58 from (k98.2.2.1.trans (f55 58 (by decide))), show σ80 59 = σ 59 from (k98.2.2.2.trans (f55 59 (by decide))), show (σ80 55 4).toInt = (σ 55 4).toInt from by omega]; exact hr13), (show jqbN (σ80 80) (σ80 55 47).toInt by rw [show σ80 80 = σ 80 from ((f82 80 (by decide)).trans (f55 80 (by decide))), show (σ80 55 47).toInt = (σ 55 47).toInt from z152]; exact hr14)⟩ hP hS (lv_sub hl [0, 1, 2, 3] rfl)
        · obtain ⟨q169, k162, k163, k164, k165, k166, k167, k168⟩ := h94
          refine lv_pop hx hb dL_law_769 rfl ?_
          refine lv_goto (tgt := 1357) hx hb dL_law_770 (by decide) ?_
          obtain ⟨x170, ex170⟩ : ∃ y : Int32, y = x0 + 6 := ⟨_, rfl⟩
          exact by
           have tx170 : x170.toInt = x0.toInt + 6 := (jadd ex170 rfl jz_6 (by omega) (by omega)).trans (by omega)
           refine lv_iinc (v := x170) (lv' := [(3, .int x170), (2, .ref (ad 55)), (1, .ref (ad 0)), (0, .ref b)]) hx hb dL_law_1357 hl (k := 0) rfl (by rw [ex170]; rfl) (by decide) rfl (fun ls hl => ?_)
           refine lv_goto (tgt := 18) hx hb dL_law_1360 (by decide) ?_
           have I171 : jI2 σ80 := jI2_fr (congrFun (f82 2 (by decide)) 0) (congrFun (f82 2 (by decide)) 1) (congrFun (f82 2 (by decide)) 2) (congrFun (f82 2 (by decide)) 3) (f82 6 (by decide)) (f82 5 (by decide)) I57
           have I172 : jI9 σ80 := jI9_fr ((congrFun (f82 9 (by decide)) 0).trans (congrFun (f55 9 (by decide)) 0)) ((f82 10 (by decide)).trans (f55 10 (by decide))) ((f82 11 (by decide)).trans (f55 11 (by decide))) hI9
           have I173 : jI12 σ80 := jI12_fr ((congrFun (f82 12 (by decide)) 0).trans (congrFun (f55 12 (by decide)) 0)) ((f82 13 (by decide)).trans (f55 13 (by decide))) hI12
           have I174 : jI16 σ80 := jI16_fr ((congrFun (f82 16 (by decide)) 0).trans (congrFun (f55 16 (by decide)) 0)) ((congrFun (f82 16 (by decide)) 1).trans (congrFun (f55 16 (by decide)) 1)) ((congrFun (f82 16 (by decide)) 2).trans (congrFun (f55 16 (by decide)) 2)) ((f82 17 (by decide)).trans (f55 17 (by decide))) hI16
           have I175 : jI18 σ80 := jI18_fr ((congrFun (f82 18 (by decide)) 0).trans (congrFun (f55 18 (by decide)) 0)) ((f82 19 (by decide)).trans (f55 19 (by decide))) hI18
           have I176 : jI22 σ80 := jI22_fr ((congrFun (f82 22 (by decide)) 0).trans (congrFun (f55 22 (by decide)) 0)) ((f82 23 (by decide)).trans (f55 23 (by decide))) hI22
           exact by
            have I177 : jI31 σ80 := jI31_fr ((congrFun (f82 31 (by decide)) 8).trans (congrFun (f55 31 (by decide)) 8)) ((congrFun (f82 31 (by decide)) 10).trans (congrFun (f55 31 (by decide)) 10)) ((congrFun (f82 31 (by decide)) 11).trans (congrFun (f55 31 (by decide)) 11)) ((f82 33 (by decide)).trans (f55 33 (by decide))) ((f82 35 (by decide)).trans (f55 35 (by decide))) ((f82 36 (by decide)).trans (f55 36 (by decide))) hI31
            have I178 : jI38 σ80 := jI38_fr ((congrFun (f82 38 (by decide)) 0).trans (congrFun (f55 38 (by decide)) 0)) ((congrFun (f82 38 (by decide)) 1).trans (congrFun (f55 38 (by decide)) 1)) ((f82 39 (by decide)).trans (f55 39 (by decide))) hI38
            have I179 : jI43 σ80 := jI43_fr ((congrFun (f82 43 (by decide)) 8).trans (congrFun (f55 43 (by decide)) 8)) hI43
            have I180 : jI47 σ80 := jI47_fr ((congrFun (f82 47 (by decide)) 0).trans (congrFun (f55 47 (by decide)) 0)) ((f82 48 (by decide)).trans (f55 48 (by decide))) ((f82 49 (by decide)).trans (f55 49 (by decide))) hI47
            have I181 : jI50 σ80 := jI50_fr ((f82 52 (by decide)).trans (f55 52 (by decide))) hI50
            have I182 : jI0 σ80 := jI0_fr ((f82 1 (by decide)).trans (f55 1 (by decide))) hI0
            have I183 : jI26 σ80 := jI26_fr ((congrFun (f82 26 (by decide)) 6).trans (congrFun (f55 26 (by decide)) 6)) hI26
            have I184 : jI102 σ80 := jI102_fr (f83 6 (by decide)) (f82 60 (by decide)) (f82 61 (by decide)) I76
            have I185 : jI103 σ80 := jI103_fr ((f83 9 (by decide)).trans (congrFun (f55 55 (by decide)) 9)) hI103
            have I186 : jI104 σ80 := jI104_fr ((f83 10 (by decide)).trans (congrFun (f55 55 (by decide)) 10)) ((f83 12 (by decide)).trans (congrFun (f55 55 (by decide)) 12)) ((f83 13 (by decide)).trans (congrFun (f55 55 (by decide)) 13)) ((f82 62 (by decide)).trans (f55 62 (by decide))) ((f82 67 (by decide)).trans (f55 67 (by decide))) hI104
            have I187 : jI105 σ80 := jI105_fr ((f83 15 (by decide)).trans (congrFun (f55 55 (by decide)) 15)) ((f82 65 (by decide)).trans (f55 65 (by decide))) hI105
            have I188 : jI106 σ80 := jI106_fr ((f83 32 (by decide)).trans (congrFun (f55 55 (by decide)) 32)) ((f82 70 (by decide)).trans (f55 70 (by decide))) ((f82 71 (by decide)).trans (f55 71 (by decide))) ((f82 72 (by decide)).trans (f55 72 (by decide))) hI106
            have I189 : jI107 σ80 := jI107_fr ((f83 12 (by decide)).trans (congrFun (f55 55 (by decide)) 12)) ((f83 47 (by decide)).trans (congrFun (f55 55 (by decide)) 47)) ((f82 80 (by decide)).trans (f55 80 (by decide))) hI107
            have I190 : jI109 σ80 := jI109_fr ((f83 50 (by decide)).trans (congrFun (f55 55 (by decide)) 50)) hI109
            have I191 : jI110 σ80 := jI110_fr ((f82 86 (by decide)).trans (f55 86 (by decide))) ((f82 87 (by decide)).trans (f55 87 (by decide))) hI110
            have I192 : jI111 σ80 := jI111_fr ((f82 79 (by decide)).trans (f55 79 (by decide))) hI111
            have I193 : jI119 σ80 := jI119_fr ((f82 68 (by decide)).trans (f55 68 (by decide))) hI119
            have p194 : jKept σ80 := jKept.fr ((f82 75 (by decide)).trans (f55 75 (by decide))) ((f82 76 (by decide)).trans (f55 76 (by decide))) ((f82 77 (by decide)).trans (f55 77 (by decide))) hs_jKept
            have p195 : jBook σ80 := jBook.fr ((f83 47 (by decide)).trans (congrFun (f55 55 (by decide)) 47)) ((f83 10 (by decide)).trans (congrFun (f55 55 (by decide)) 10)) ((f82 81 (by decide)).trans (f55 81 (by decide))) hs_jBook
            have p196 : jNd12 σ80 := jNd12.fr ((congrFun (f82 12 (by decide)) 0).trans (congrFun (f55 12 (by decide)) 0)) ((congrFun (f82 12 (by decide)) 1).trans (congrFun (f55 12 (by decide)) 1)) ((f82 13 (by decide)).trans (f55 13 (by decide))) hs_jNd12
            have p197 : jN67 σ80 := jN67.fr ((f82 24 (by decide)).trans (f55 24 (by decide))) hs_jN67
            have p198 : jBl σ80 := jBl.fr ((congrFun (f82 22 (by decide)) 0).trans (congrFun (f55 22 (by decide)) 0)) ((congrFun (f82 22 (by decide)) 1).trans (congrFun (f55 22 (by decide)) 1)) ((f82 23 (by decide)).trans (f55 23 (by decide))) ((congrFun (f82 26 (by decide)) 6).trans (congrFun (f55 26 (by decide)) 6)) ((congrFun (f82 26 (by decide)) 7).trans (congrFun (f55 26 (by decide)) 7)) ((f82 29 (by decide)).trans (f55 29 (by decide))) ((f82 30 (by decide)).trans (f55 30 (by decide))) hs_jBl
            have p199 : jKb σ80 := jKb.fr ((congrFun (f82 31 (by decide)) 8).trans (congrFun (f55 31 (by decide)) 8)) ((congrFun (f82 31 (by decide)) 11).trans (congrFun (f55 31 (by decide)) 11)) ((f82 32 (by decide)).trans (f55 32 (by decide))) hs_jKb
            have p200 : jTR σ80 := jTR.fr ((f82 64 (by decide)).trans (f55 64 (by decide))) ((f82 65 (by decide)).trans (f55 65 (by decide))) hs_jTR
            have p201 : jKh σ80 := jKh.fr ((congrFun (f82 31 (by decide)) 8).trans (congrFun (f55 31 (by decide)) 8)) ((f82 32 (by decide)).trans (f55 32 (by decide))) ((f82 36 (by decide)).trans (f55 36 (by decide))) ((f82 37 (by decide)).trans (f55 37 (by decide))) hs_jKh
            have p202 : jKg σ80 := jKg.fr ((congrFun (f82 31 (by decide)) 8).trans (congrFun (f55 31 (by decide)) 8)) ((congrFun (f82 31 (by decide)) 9).trans (congrFun (f55 31 (by decide)) 9)) ((congrFun (f82 31 (by decide)) 11).trans (congrFun (f55 31 (by decide)) 11)) ((congrFun (f82 31 (by decide)) 12).trans (congrFun (f55 31 (by decide)) 12)) ((f82 32 (by decide)).trans (f55 32 (by decide))) ((f82 33 (by decide)).trans (f55 33 (by decide))) hs_jKg
            have p203 : jNz σ80 := jNz.fr ((f82 34 (by decide)).trans (f55 34 (by decide))) hs_jNz
            have p204 : jqSt σ80 := jqSt.fr ((f82 78 (by decide)).trans (f55 78 (by decide))) ((f83 42 (by decide)).trans (congrFun (f55 55 (by decide)) 42)) hs_jqSt
            have z205 : (σ80 2 0).toInt = (σ 2 0).toInt := (congrArg Int32.toInt (show σ80 2 0 = (σ 2 0) from ((congrFun (f82 2 (by decide)) 0).trans (f56 0 (by decide)))))
            have z206 : (σ80 55 6).toInt = (σ 55 6).toInt := (congrArg Int32.toInt (show σ80 55 6 = (σ 55 6) from ((f83 6 (by decide)).trans (congrFun (f55 55 (by decide)) 6))))
            have z207 : (σ80 2 2).toInt = (σ53 2 2).toInt := (congrArg Int32.toInt (show σ80 2 2 = (σ53 2 2) from (congrFun (f82 2 (by decide)) 2)))
            have z208 : (σ80 2 3).toInt = (σ53 2 3).toInt := (congrArg Int32.toInt (show σ80 2 3 = (σ53 2 3) from (congrFun (f82 2 (by decide)) 3)))
            have z209 : (σ80 9 0).toInt = (σ 9 0).toInt := (congrArg Int32.toInt (show σ80 9 0 = (σ 9 0) from ((congrFun (f82 9 (by decide)) 0).trans (congrFun (f55 9 (by decide)) 0))))
            have z210 : (σ80 55 15).toInt = (σ 55 15).toInt := (congrArg Int32.toInt (show σ80 55 15 = (σ 55 15) from ((f83 15 (by decide)).trans (congrFun (f55 55 (by decide)) 15))))
            have z211 : (σ80 16 0).toInt = (σ 16 0).toInt := (congrArg Int32.toInt (show σ80 16 0 = (σ 16 0) from ((congrFun (f82 16 (by decide)) 0).trans (congrFun (f55 16 (by decide)) 0))))
            have z212 : (σ80 55 10).toInt = (σ 55 10).toInt := (congrArg Int32.toInt (show σ80 55 10 = (σ 55 10) from ((f83 10 (by decide)).trans (congrFun (f55 55 (by decide)) 10))))
            have z213 : (σ80 16 1).toInt = (σ 16 1).toInt := (congrArg Int32.toInt (show σ80 16 1 = (σ 16 1) from ((congrFun (f82 16 (by decide)) 1).trans (congrFun (f55 16 (by decide)) 1))))
            have z214 : (σ80 55 12).toInt = (σ 55 12).toInt := (congrArg Int32.toInt (show σ80 55 12 = (σ 55 12) from ((f83 12 (by decide)).trans (congrFun (f55 55 (by decide)) 12))))
            have z215 : (σ80 16 2).toInt = (σ 16 2).toInt := (congrArg Int32.toInt (show σ80 16 2 = (σ 16 2) from ((congrFun (f82 16 (by decide)) 2).trans (congrFun (f55 16 (by decide)) 2))))
            have z216 : (σ80 55 13).toInt = (σ 55 13).toInt := (congrArg Int32.toInt (show σ80 55 13 = (σ 55 13) from ((f83 13 (by decide)).trans (congrFun (f55 55 (by decide)) 13))))
            have z217 : (σ80 38 0).toInt = (σ 38 0).toInt := (congrArg Int32.toInt (show σ80 38 0 = (σ 38 0) from ((congrFun (f82 38 (by decide)) 0).trans (congrFun (f55 38 (by decide)) 0))))
            have z218 : (σ80 55 32).toInt = (σ 55 32).toInt := (congrArg Int32.toInt (show σ80 55 32 = (σ 55 32) from ((f83 32 (by decide)).trans (congrFun (f55 55 (by decide)) 32))))
            have z219 : (σ80 38 1).toInt = (σ 38 1).toInt := (congrArg Int32.toInt (show σ80 38 1 = (σ 38 1) from ((congrFun (f82 38 (by decide)) 1).trans (congrFun (f55 38 (by decide)) 1))))
            have z220 : (σ80 55 55).toInt = (σ 55 55).toInt := (congrArg Int32.toInt (show σ80 55 55 = (σ 55 55) from ((f83 55 (by decide)).trans (congrFun (f55 55 (by decide)) 55))))
            have z221 : (σ80 47 0).toInt = (σ 47 0).toInt := (congrArg Int32.toInt (show σ80 47 0 = (σ 47 0) from ((congrFun (f82 47 (by decide)) 0).trans (congrFun (f55 47 (by decide)) 0))))
            have z222 : (σ80 55 47).toInt = (σ 55 47).toInt := (congrArg Int32.toInt (show σ80 55 47 = (σ 55 47) from ((f83 47 (by decide)).trans (congrFun (f55 55 (by decide)) 47))))
            have z223 : (σ80 55 30).toInt = (σ 55 30).toInt := (congrArg Int32.toInt (show σ80 55 30 = (σ 55 30) from ((f83 30 (by decide)).trans (congrFun (f55 55 (by decide)) 30))))
            have z224 : (σ80 55 31).toInt = (σ 55 31).toInt := (congrArg Int32.toInt (show σ80 55 31 = (σ 55 31) from ((f83 31 (by decide)).trans (congrFun (f55 55 (by decide)) 31))))
            have z225 : (σ80 2 1).toInt = (σ 2 1).toInt := (congrArg Int32.toInt (show σ80 2 1 = (σ 2 1) from ((congrFun (f82 2 (by decide)) 1).trans (f56 1 (by decide)))))
            have z226 : (σ80 55 9).toInt = (σ 55 9).toInt := (congrArg Int32.toInt (show σ80 55 9 = (σ 55 9) from ((f83 9 (by decide)).trans (congrFun (f55 55 (by decide)) 9))))
            have z227 : (σ80 55 42).toInt = (σ 55 42).toInt := (congrArg Int32.toInt (show σ80 55 42 = (σ 55 42) from ((f83 42 (by decide)).trans (congrFun (f55 55 (by decide)) 42))))
            have z228 : (σ80 26 6).toInt = (σ 26 6).toInt := (congrArg Int32.toInt (show σ80 26 6 = (σ 26 6) from ((congrFun (f82 26 (by decide)) 6).trans (congrFun (f55 26 (by decide)) 6))))
            have z230 : (σ80 18 0).toInt = (σ 18 0).toInt := (congrArg Int32.toInt (show σ80 18 0 = (σ 18 0) from ((congrFun (f82 18 (by decide)) 0).trans (congrFun (f55 18 (by decide)) 0))))
            have z231 : (σ80 22 0).toInt = (σ 22 0).toInt := (congrArg Int32.toInt (show σ80 22 0 = (σ 22 0) from ((congrFun (f82 22 (by decide)) 0).trans (congrFun (f55 22 (by decide)) 0))))
            exact by exact ih x170 σ80 τ _ _ ls (by have h9 := tx170; omega) ⟨I171, I172, I173, I174, I175, I176, I177, I178, I179, I180, I181, I182, I183, I84, I184, I185, I186, I187, I188, I189, I190, I191, I192, I193, p194, p195, p196, p197, p198, p199, p200, p201, p202, p203, p204, (by rw [z205, z206]; exact ht0), (by omega), (by omega), (by rw [z209, z210]; exact ht3), (by rw [z211, z212]; exact ht4), (by rw [z213, z214]; exact ht5), (by rw [z215, z216]; exact ht6), (by rw [z217, z218]; exact ht7), (by rw [z219, z220]; exact ht8), (by rw [z221, z222]; exact ht9), (by rw [z223]; exact ht10), (by rw [z224]; exact ht11), (by rw [z225, z226]; exact ht12), (by rw [z227]; exact ht13), (by have h9 := tx170; omega), (by have h9 := tx170; omega), (False.elim (by omega)), (False.elim (by omega)), (show jTp (σ80 10) (σ80 63) (σ80 55 15).toInt by rw [show σ80 10 = σ 10 from ((f82 10 (by decide)).trans (f55 10 (by decide))), show σ80 63 = σ 63 from ((f82 63 (by decide)).trans (f55 63 (by decide)))]; exact hr2.le (by omega)), (show jSo (σ80 17) (σ80 62) (σ80 16 0).toInt by rw [show σ80 17 = σ 17 from ((f82 17 (by decide)).trans (f55 17 (by decide))), show σ80 62 = σ 62 from ((f82 62 (by decide)).trans (f55 62 (by decide))), show (σ80 16 0).toInt = (σ 16 0).toInt from z211]; exact hr3), (show jShP (σ80 51) (σ80 52) (σ80 53) (σ80 86) (σ80 87) (σ80 55 32).toInt by rw [show σ80 51 = σ 51 from ((f82 51 (by decide)).trans (f55 51 (by decide))), show σ80 52 = σ 52 from ((f82 52 (by decide)).trans (f55 52 (by decide))), show σ80 53 = σ 53 from ((f82 53 (by decide)).trans (f55 53 (by decide))), show σ80 86 = σ 86 from ((f82 86 (by decide)).trans (f55 86 (by decide))), show σ80 87 = σ 87 from ((f82 87 (by decide)).trans (f55 87 (by decide)))]; exact (hr4.up (by omega) (by omega))), (show jEl (σ80 51) (σ80 52) (τ 54) (τ 88) by rw [show σ80 51 = σ 51 from ((f82 51 (by decide)).trans (f55 51 (by decide))), show σ80 52 = σ 52 from ((f82 52 (by decide)).trans (f55 52 (by decide)))]; exact hr5), (show jByP (σ80 51) (σ80 52) (τ 54) by rw [show σ80 51 = σ 51 from ((f82 51 (by decide)).trans (f55 51 (by decide))), show σ80 52 = σ 52 from ((f82 52 (by decide)).trans (f55 52 (by decide)))]; exact hr6), (show jBk (σ80 48) (σ80 80) (σ80 49) (σ80 81) (σ80 55 47).toInt by rw [show σ80 48 = σ 48 from ((f82 48 (by decide)).trans (f55 48 (by decide))), show σ80 49 = σ 49 from ((f82 49 (by decide)).trans (f55 49 (by decide))), show σ80 80 = σ 80 from ((f82 80 (by decide)).trans (f55 80 (by decide))), show σ80 81 = σ 81 from ((f82 81 (by decide)).trans (f55 81 (by decide))), show (σ80 55 47).toInt = (σ 55 47).toInt from z222]; exact hr7), (show jKd (σ80 39) (σ80 70) (σ80 55 32).toInt by rw [show σ80 39 = σ 39 from ((f82 39 (by decide)).trans (f55 39 (by decide))), show σ80 70 = σ 70 from ((f82 70 (by decide)).trans (f55 70 (by decide))), show (σ80 55 32).toInt = (σ 55 32).toInt from z218]; exact hr8), (show jTt (σ80 42) (σ80 85) (σ80 55 55).toInt by rw [show σ80 42 = σ 42 from ((f82 42 (by decide)).trans (f55 42 (by decide))), show σ80 85 = σ 85 from ((f82 85 (by decide)).trans (f55 85 (by decide))), show (σ80 55 55).toInt = (σ 55 55).toInt from z220]; exact hr9), (fun k hk => by rw [show σ80 4 = σ 4 from ((f82 4 (by decide)).trans (f55 4 (by decide))), show σ80 5 = σ 5 from ((f82 5 (by decide)).trans (f55 5 (by decide))), show σ80 60 = σ 60 from ((f82 60 (by decide)).trans (f55 60 (by decide))), show σ80 61 = σ 61 from ((f82 61 (by decide)).trans (f55 61 (by decide)))]; exact hr10 k (by omega)), (fun nm => by rw [show σ80 19 = σ 19 from ((f82 19 (by decide)).trans (f55 19 (by decide))), show σ80 64 = σ 64 from ((f82 64 (by decide)).trans (f55 64 (by decide))), show σ80 65 = σ 65 from ((f82 65 (by decide)).trans (f55 65 (by decide))), show (σ80 18 0).toInt = (σ 18 0).toInt from z230]; exact hr11 nm), (fun nm => by rw [show σ80 23 = σ 23 from ((f82 23 (by decide)).trans (f55 23 (by decide))), show σ80 64 = σ 64 from ((f82 64 (by decide)).trans (f55 64 (by decide))), show σ80 65 = σ 65 from ((f82 65 (by decide)).trans (f55 65 (by decide))), show (σ80 22 0).toInt = (σ 22 0).toInt from z231]; exact hr12 nm), (False.elim (by omega)), (show jqbN (σ80 80) (σ80 55 47).toInt by rw [show σ80 80 = σ 80 from ((f82 80 (by decide)).trans (f55 80 (by decide))), show (σ80 55 47).toInt = (σ 55 47).toInt from z222]; exact hr14)⟩ hP hS (lv_sub hl [0, 1, 2, 3] rfl)
    · obtain ⟨q239, k232, k233, k234, k235, k236, k237, k238⟩ := h69
      refine lv_pop hx hb dL_law_754 rfl ?_
      refine lv_aload_n hx hb dL_law_755 rfl (lv_at hl 1 rfl) ?_
      refine lv_aload_n hx hb dL_law_756 rfl (lv_at hl 3 rfl) ?_
      refine lv_iload_n hx hb dL_law_757 rfl (lv_at hl 0 rfl) ?_
      refine lv_iconst (v := 1) hx hb dL_law_758 (by decide) ?_
      refine lv_iadd hx hb dL_law_759 ?_
      refine jtopr ex49.symm ?_
      exact by
       refine va_sld hx hb hX hbl hbA hS (jin tx49 (by omega) (by omega)) dL_law_760 ?_
       refine lv_aload_n hx hb dL_law_761 rfl (lv_at hl 3 rfl) ?_
       refine lv_iload_n hx hb dL_law_762 rfl (lv_at hl 0 rfl) ?_
       refine lv_iconst (v := 2) hx hb dL_law_763 (by decide) ?_
       refine lv_iadd hx hb dL_law_764 ?_
       refine jtopr ex51.symm ?_
       refine va_sld hx hb hX hbl hbA hS (jin tx51 (by omega) (by omega)) dL_law_765 ?_
       have I240 : jI101 σ53 := jI101_fr (congrFun (f55 55 (by decide)) 4) (congrFun (f55 55 (by decide)) 5) (f55 56 (by decide)) (f55 57 (by decide)) (f55 58 (by decide)) (f55 59 (by decide)) hI101
       have I241 : jI102 σ53 := jI102_fr (congrFun (f55 55 (by decide)) 6) (f55 60 (by decide)) (f55 61 (by decide)) hI102
       exact by
        have z242 : (σ53 55 6).toInt = (σ 55 6).toInt := (congrArg Int32.toInt (show σ53 55 6 = (σ 55 6) from (congrFun (f55 55 (by decide)) 6)))
        have z243 : (σ53 55 5).toInt = (σ 55 5).toInt := (congrArg Int32.toInt (show σ53 55 5 = (σ 55 5) from (congrFun (f55 55 (by decide)) 5)))
        have z244 : (σ53 55 4).toInt = (σ 55 4).toInt := (congrArg Int32.toInt (show σ53 55 4 = (σ 55 4) from (congrFun (f55 55 (by decide)) 4)))
        refine jcallV (As := [.int (xs x49.toNatClampNeg), .int (xs x51.toNatClampNeg)]) (rest := []) ⟨hx, hb, hml, hown, hts⟩ hK hP hA hS hZ (c_X12_learn l D cI cL ad zz hJ σ53 τ (xs x49.toNatClampNeg) ((xs x49.toNatClampNeg).toInt) rfl (xs x51.toNatClampNeg) ((xs x51.toNatClampNeg).toInt) rfl I240 I241) cw_RL_92 (jc_55 cI cL ad σ53 τ) rfl ⟨Nat.le_of_ble_eq_true rfl, Nat.le_of_ble_eq_true rfl⟩ rfl rfl rfl hl.1 rfl (Nat.le_of_ble_eq_true rfl) dL_law_766 ⟨Nat.le_of_ble_eq_true rfl, Nat.le_of_ble_eq_true rfl⟩ (fun r246 σ245 τ245 H locs h245 hP hS => ?_)
        obtain ⟨rfl, f247, f248, I249, h245⟩ := h245
        obtain ⟨i251, i252, i253, w254, w255, w256, w257⟩ : (0 ≤ (σ245 55 5).toInt) ∧ ((σ245 55 5).toInt ≤ (σ245 55 4).toInt) ∧ ((σ245 55 4).toInt ≤ 40) ∧ (∀ k : Nat, k < 68 → (-200) ≤ (σ245 56 k).toInt ∧ (σ245 56 k).toInt ≤ 500) ∧ (∀ k : Nat, k < 40 → 0 ≤ (σ245 57 k).toInt ∧ (σ245 57 k).toInt ≤ 67) ∧ (∀ k : Nat, k < 40 → (-200) ≤ (σ245 58 k).toInt ∧ (σ245 58 k).toInt ≤ 500) ∧ (∀ k : Nat, k < 40 → (-200) ≤ (σ245 59 k).toInt ∧ (σ245 59 k).toInt ≤ 500) := id I249
        rcases h245 with h258 | h259
        · obtain ⟨q264, k260, k261, k262, k263⟩ := h258
          have q264 := q264.symm
          subst q264
          refine lv_pop hx hb dL_law_769 rfl ?_
          refine lv_goto (tgt := 1357) hx hb dL_law_770 (by decide) ?_
          obtain ⟨x265, ex265⟩ : ∃ y : Int32, y = x0 + 6 := ⟨_, rfl⟩
          exact by
           have tx265 : x265.toInt = x0.toInt + 6 := (jadd ex265 rfl jz_6 (by omega) (by omega)).trans (by omega)
           refine lv_iinc (v := x265) (lv' := [(3, .int x265), (2, .ref (ad 55)), (1, .ref (ad 0)), (0, .ref b)]) hx hb dL_law_1357 hl (k := 0) rfl (by rw [ex265]; rfl) (by decide) rfl (fun ls hl => ?_)
           refine lv_goto (tgt := 18) hx hb dL_law_1360 (by decide) ?_
           have I266 : jI2 σ245 := jI2_fr (congrFun (f247 2 (by decide)) 0) (congrFun (f247 2 (by decide)) 1) (congrFun (f247 2 (by decide)) 2) (congrFun (f247 2 (by decide)) 3) (f247 6 (by decide)) (f247 5 (by decide)) I57
           have I267 : jI9 σ245 := jI9_fr ((congrFun (f247 9 (by decide)) 0).trans (congrFun (f55 9 (by decide)) 0)) ((f247 10 (by decide)).trans (f55 10 (by decide))) ((f247 11 (by decide)).trans (f55 11 (by decide))) hI9
           have I268 : jI12 σ245 := jI12_fr ((congrFun (f247 12 (by decide)) 0).trans (congrFun (f55 12 (by decide)) 0)) ((f247 13 (by decide)).trans (f55 13 (by decide))) hI12
           have I269 : jI16 σ245 := jI16_fr ((congrFun (f247 16 (by decide)) 0).trans (congrFun (f55 16 (by decide)) 0)) ((congrFun (f247 16 (by decide)) 1).trans (congrFun (f55 16 (by decide)) 1)) ((congrFun (f247 16 (by decide)) 2).trans (congrFun (f55 16 (by decide)) 2)) ((f247 17 (by decide)).trans (f55 17 (by decide))) hI16
           have I270 : jI18 σ245 := jI18_fr ((congrFun (f247 18 (by decide)) 0).trans (congrFun (f55 18 (by decide)) 0)) ((f247 19 (by decide)).trans (f55 19 (by decide))) hI18
           have I271 : jI22 σ245 := jI22_fr ((congrFun (f247 22 (by decide)) 0).trans (congrFun (f55 22 (by decide)) 0)) ((f247 23 (by decide)).trans (f55 23 (by decide))) hI22
           exact by
            have I272 : jI31 σ245 := jI31_fr ((congrFun (f247 31 (by decide)) 8).trans (congrFun (f55 31 (by decide)) 8)) ((congrFun (f247 31 (by decide)) 10).trans (congrFun (f55 31 (by decide)) 10)) ((congrFun (f247 31 (by decide)) 11).trans (congrFun (f55 31 (by decide)) 11)) ((f247 33 (by decide)).trans (f55 33 (by decide))) ((f247 35 (by decide)).trans (f55 35 (by decide))) ((f247 36 (by decide)).trans (f55 36 (by decide))) hI31
            have I273 : jI38 σ245 := jI38_fr ((congrFun (f247 38 (by decide)) 0).trans (congrFun (f55 38 (by decide)) 0)) ((congrFun (f247 38 (by decide)) 1).trans (congrFun (f55 38 (by decide)) 1)) ((f247 39 (by decide)).trans (f55 39 (by decide))) hI38
            have I274 : jI43 σ245 := jI43_fr ((congrFun (f247 43 (by decide)) 8).trans (congrFun (f55 43 (by decide)) 8)) hI43
            have I275 : jI47 σ245 := jI47_fr ((congrFun (f247 47 (by decide)) 0).trans (congrFun (f55 47 (by decide)) 0)) ((f247 48 (by decide)).trans (f55 48 (by decide))) ((f247 49 (by decide)).trans (f55 49 (by decide))) hI47
            have I276 : jI50 σ245 := jI50_fr ((f247 52 (by decide)).trans (f55 52 (by decide))) hI50
            have I277 : jI0 σ245 := jI0_fr ((f247 1 (by decide)).trans (f55 1 (by decide))) hI0
            have I278 : jI26 σ245 := jI26_fr ((congrFun (f247 26 (by decide)) 6).trans (congrFun (f55 26 (by decide)) 6)) hI26
            have I279 : jI102 σ245 := jI102_fr (f248 6 (by decide)) (f247 60 (by decide)) (f247 61 (by decide)) I241
            have I280 : jI103 σ245 := jI103_fr ((f248 9 (by decide)).trans (congrFun (f55 55 (by decide)) 9)) hI103
            have I281 : jI104 σ245 := jI104_fr ((f248 10 (by decide)).trans (congrFun (f55 55 (by decide)) 10)) ((f248 12 (by decide)).trans (congrFun (f55 55 (by decide)) 12)) ((f248 13 (by decide)).trans (congrFun (f55 55 (by decide)) 13)) ((f247 62 (by decide)).trans (f55 62 (by decide))) ((f247 67 (by decide)).trans (f55 67 (by decide))) hI104
            have I282 : jI105 σ245 := jI105_fr ((f248 15 (by decide)).trans (congrFun (f55 55 (by decide)) 15)) ((f247 65 (by decide)).trans (f55 65 (by decide))) hI105
            have I283 : jI106 σ245 := jI106_fr ((f248 32 (by decide)).trans (congrFun (f55 55 (by decide)) 32)) ((f247 70 (by decide)).trans (f55 70 (by decide))) ((f247 71 (by decide)).trans (f55 71 (by decide))) ((f247 72 (by decide)).trans (f55 72 (by decide))) hI106
            have I284 : jI107 σ245 := jI107_fr ((f248 12 (by decide)).trans (congrFun (f55 55 (by decide)) 12)) ((f248 47 (by decide)).trans (congrFun (f55 55 (by decide)) 47)) ((f247 80 (by decide)).trans (f55 80 (by decide))) hI107
            have I285 : jI109 σ245 := jI109_fr ((f248 50 (by decide)).trans (congrFun (f55 55 (by decide)) 50)) hI109
            have I286 : jI110 σ245 := jI110_fr ((f247 86 (by decide)).trans (f55 86 (by decide))) ((f247 87 (by decide)).trans (f55 87 (by decide))) hI110
            have I287 : jI111 σ245 := jI111_fr ((f247 79 (by decide)).trans (f55 79 (by decide))) hI111
            have I288 : jI119 σ245 := jI119_fr ((f247 68 (by decide)).trans (f55 68 (by decide))) hI119
            have p289 : jKept σ245 := jKept.fr ((f247 75 (by decide)).trans (f55 75 (by decide))) ((f247 76 (by decide)).trans (f55 76 (by decide))) ((f247 77 (by decide)).trans (f55 77 (by decide))) hs_jKept
            have p290 : jBook σ245 := jBook.fr ((f248 47 (by decide)).trans (congrFun (f55 55 (by decide)) 47)) ((f248 10 (by decide)).trans (congrFun (f55 55 (by decide)) 10)) ((f247 81 (by decide)).trans (f55 81 (by decide))) hs_jBook
            have p291 : jNd12 σ245 := jNd12.fr ((congrFun (f247 12 (by decide)) 0).trans (congrFun (f55 12 (by decide)) 0)) ((congrFun (f247 12 (by decide)) 1).trans (congrFun (f55 12 (by decide)) 1)) ((f247 13 (by decide)).trans (f55 13 (by decide))) hs_jNd12
            have p292 : jN67 σ245 := jN67.fr ((f247 24 (by decide)).trans (f55 24 (by decide))) hs_jN67
            have p293 : jBl σ245 := jBl.fr ((congrFun (f247 22 (by decide)) 0).trans (congrFun (f55 22 (by decide)) 0)) ((congrFun (f247 22 (by decide)) 1).trans (congrFun (f55 22 (by decide)) 1)) ((f247 23 (by decide)).trans (f55 23 (by decide))) ((congrFun (f247 26 (by decide)) 6).trans (congrFun (f55 26 (by decide)) 6)) ((congrFun (f247 26 (by decide)) 7).trans (congrFun (f55 26 (by decide)) 7)) ((f247 29 (by decide)).trans (f55 29 (by decide))) ((f247 30 (by decide)).trans (f55 30 (by decide))) hs_jBl
            have p294 : jKb σ245 := jKb.fr ((congrFun (f247 31 (by decide)) 8).trans (congrFun (f55 31 (by decide)) 8)) ((congrFun (f247 31 (by decide)) 11).trans (congrFun (f55 31 (by decide)) 11)) ((f247 32 (by decide)).trans (f55 32 (by decide))) hs_jKb
            have p295 : jTR σ245 := jTR.fr ((f247 64 (by decide)).trans (f55 64 (by decide))) ((f247 65 (by decide)).trans (f55 65 (by decide))) hs_jTR
            have p296 : jKh σ245 := jKh.fr ((congrFun (f247 31 (by decide)) 8).trans (congrFun (f55 31 (by decide)) 8)) ((f247 32 (by decide)).trans (f55 32 (by decide))) ((f247 36 (by decide)).trans (f55 36 (by decide))) ((f247 37 (by decide)).trans (f55 37 (by decide))) hs_jKh
            have p297 : jKg σ245 := jKg.fr ((congrFun (f247 31 (by decide)) 8).trans (congrFun (f55 31 (by decide)) 8)) ((congrFun (f247 31 (by decide)) 9).trans (congrFun (f55 31 (by decide)) 9)) ((congrFun (f247 31 (by decide)) 11).trans (congrFun (f55 31 (by decide)) 11)) ((congrFun (f247 31 (by decide)) 12).trans (congrFun (f55 31 (by decide)) 12)) ((f247 32 (by decide)).trans (f55 32 (by decide))) ((f247 33 (by decide)).trans (f55 33 (by decide))) hs_jKg
            have p298 : jNz σ245 := jNz.fr ((f247 34 (by decide)).trans (f55 34 (by decide))) hs_jNz
            have p299 : jqSt σ245 := jqSt.fr ((f247 78 (by decide)).trans (f55 78 (by decide))) ((f248 42 (by decide)).trans (congrFun (f55 55 (by decide)) 42)) hs_jqSt
            have z300 : (σ245 2 0).toInt = (σ 2 0).toInt := (congrArg Int32.toInt (show σ245 2 0 = (σ 2 0) from ((congrFun (f247 2 (by decide)) 0).trans (f56 0 (by decide)))))
            have z301 : (σ245 55 6).toInt = (σ 55 6).toInt := (congrArg Int32.toInt (show σ245 55 6 = (σ 55 6) from ((f248 6 (by decide)).trans (congrFun (f55 55 (by decide)) 6))))
            have z302 : (σ245 2 2).toInt = (σ53 2 2).toInt := (congrArg Int32.toInt (show σ245 2 2 = (σ53 2 2) from (congrFun (f247 2 (by decide)) 2)))
            have z303 : (σ245 2 3).toInt = (σ53 2 3).toInt := (congrArg Int32.toInt (show σ245 2 3 = (σ53 2 3) from (congrFun (f247 2 (by decide)) 3)))
            have z304 : (σ245 9 0).toInt = (σ 9 0).toInt := (congrArg Int32.toInt (show σ245 9 0 = (σ 9 0) from ((congrFun (f247 9 (by decide)) 0).trans (congrFun (f55 9 (by decide)) 0))))
            have z305 : (σ245 55 15).toInt = (σ 55 15).toInt := (congrArg Int32.toInt (show σ245 55 15 = (σ 55 15) from ((f248 15 (by decide)).trans (congrFun (f55 55 (by decide)) 15))))
            have z306 : (σ245 16 0).toInt = (σ 16 0).toInt := (congrArg Int32.toInt (show σ245 16 0 = (σ 16 0) from ((congrFun (f247 16 (by decide)) 0).trans (congrFun (f55 16 (by decide)) 0))))
            have z307 : (σ245 55 10).toInt = (σ 55 10).toInt := (congrArg Int32.toInt (show σ245 55 10 = (σ 55 10) from ((f248 10 (by decide)).trans (congrFun (f55 55 (by decide)) 10))))
            have z308 : (σ245 16 1).toInt = (σ 16 1).toInt := (congrArg Int32.toInt (show σ245 16 1 = (σ 16 1) from ((congrFun (f247 16 (by decide)) 1).trans (congrFun (f55 16 (by decide)) 1))))
            have z309 : (σ245 55 12).toInt = (σ 55 12).toInt := (congrArg Int32.toInt (show σ245 55 12 = (σ 55 12) from ((f248 12 (by decide)).trans (congrFun (f55 55 (by decide)) 12))))
            have z310 : (σ245 16 2).toInt = (σ 16 2).toInt := (congrArg Int32.toInt (show σ245 16 2 = (σ 16 2) from ((congrFun (f247 16 (by decide)) 2).trans (congrFun (f55 16 (by decide)) 2))))
            have z311 : (σ245 55 13).toInt = (σ 55 13).toInt := (congrArg Int32.toInt (show σ245 55 13 = (σ 55 13) from ((f248 13 (by decide)).trans (congrFun (f55 55 (by decide)) 13))))
            have z312 : (σ245 38 0).toInt = (σ 38 0).toInt := (congrArg Int32.toInt (show σ245 38 0 = (σ 38 0) from ((congrFun (f247 38 (by decide)) 0).trans (congrFun (f55 38 (by decide)) 0))))
            have z313 : (σ245 55 32).toInt = (σ 55 32).toInt := (congrArg Int32.toInt (show σ245 55 32 = (σ 55 32) from ((f248 32 (by decide)).trans (congrFun (f55 55 (by decide)) 32))))
            have z314 : (σ245 38 1).toInt = (σ 38 1).toInt := (congrArg Int32.toInt (show σ245 38 1 = (σ 38 1) from ((congrFun (f247 38 (by decide)) 1).trans (congrFun (f55 38 (by decide)) 1))))
            have z315 : (σ245 55 55).toInt = (σ 55 55).toInt := (congrArg Int32.toInt (show σ245 55 55 = (σ 55 55) from ((f248 55 (by decide)).trans (congrFun (f55 55 (by decide)) 55))))
            have z316 : (σ245 47 0).toInt = (σ 47 0).toInt := (congrArg Int32.toInt (show σ245 47 0 = (σ 47 0) from ((congrFun (f247 47 (by decide)) 0).trans (congrFun (f55 47 (by decide)) 0))))
            have z317 : (σ245 55 47).toInt = (σ 55 47).toInt := (congrArg Int32.toInt (show σ245 55 47 = (σ 55 47) from ((f248 47 (by decide)).trans (congrFun (f55 55 (by decide)) 47))))
            have z318 : (σ245 55 30).toInt = (σ 55 30).toInt := (congrArg Int32.toInt (show σ245 55 30 = (σ 55 30) from ((f248 30 (by decide)).trans (congrFun (f55 55 (by decide)) 30))))
            have z319 : (σ245 55 31).toInt = (σ 55 31).toInt := (congrArg Int32.toInt (show σ245 55 31 = (σ 55 31) from ((f248 31 (by decide)).trans (congrFun (f55 55 (by decide)) 31))))
            have z320 : (σ245 2 1).toInt = (σ 2 1).toInt := (congrArg Int32.toInt (show σ245 2 1 = (σ 2 1) from ((congrFun (f247 2 (by decide)) 1).trans (f56 1 (by decide)))))
            have z321 : (σ245 55 9).toInt = (σ 55 9).toInt := (congrArg Int32.toInt (show σ245 55 9 = (σ 55 9) from ((f248 9 (by decide)).trans (congrFun (f55 55 (by decide)) 9))))
            have z322 : (σ245 55 42).toInt = (σ 55 42).toInt := (congrArg Int32.toInt (show σ245 55 42 = (σ 55 42) from ((f248 42 (by decide)).trans (congrFun (f55 55 (by decide)) 42))))
            have z323 : (σ245 26 6).toInt = (σ 26 6).toInt := (congrArg Int32.toInt (show σ245 26 6 = (σ 26 6) from ((congrFun (f247 26 (by decide)) 6).trans (congrFun (f55 26 (by decide)) 6))))
            have z325 : (σ245 18 0).toInt = (σ 18 0).toInt := (congrArg Int32.toInt (show σ245 18 0 = (σ 18 0) from ((congrFun (f247 18 (by decide)) 0).trans (congrFun (f55 18 (by decide)) 0))))
            have z326 : (σ245 22 0).toInt = (σ 22 0).toInt := (congrArg Int32.toInt (show σ245 22 0 = (σ 22 0) from ((congrFun (f247 22 (by decide)) 0).trans (congrFun (f55 22 (by decide)) 0))))
            exact by exact ih x265 σ245 τ _ _ ls (by have h9 := tx265; omega) ⟨I266, I267, I268, I269, I270, I271, I272, I273, I274, I275, I276, I277, I278, I249, I279, I280, I281, I282, I283, I284, I285, I286, I287, I288, p289, p290, p291, p292, p293, p294, p295, p296, p297, p298, p299, (by rw [z300, z301]; exact ht0), (by omega), (by omega), (by rw [z304, z305]; exact ht3), (by rw [z306, z307]; exact ht4), (by rw [z308, z309]; exact ht5), (by rw [z310, z311]; exact ht6), (by rw [z312, z313]; exact ht7), (by rw [z314, z315]; exact ht8), (by rw [z316, z317]; exact ht9), (by rw [z318]; exact ht10), (by rw [z319]; exact ht11), (by rw [z320, z321]; exact ht12), (by rw [z322]; exact ht13), (by have h9 := tx265; omega), (by have h9 := tx265; omega), (False.elim (by omega)), (False.elim (by omega)), (show jTp (σ245 10) (σ245 63) (σ245 55 15).toInt by rw [show σ245 10 = σ 10 from ((f247 10 (by decide)).trans (f55 10 (by decide))), show σ245 63 = σ 63 from ((f247 63 (by decide)).trans (f55 63 (by decide)))]; exact hr2.le (by omega)), (show jSo (σ245 17) (σ245 62) (σ245 16 0).toInt by rw [show σ245 17 = σ 17 from ((f247 17 (by decide)).trans (f55 17 (by decide))), show σ245 62 = σ 62 from ((f247 62 (by decide)).trans (f55 62 (by decide))), show (σ245 16 0).toInt = (σ 16 0).toInt from z306]; exact hr3), (show jShP (σ245 51) (σ245 52) (σ245 53) (σ245 86) (σ245 87) (σ245 55 32).toInt by rw [show σ245 51 = σ 51 from ((f247 51 (by decide)).trans (f55 51 (by decide))), show σ245 52 = σ 52 from ((f247 52 (by decide)).trans (f55 52 (by decide))), show σ245 53 = σ 53 from ((f247 53 (by decide)).trans (f55 53 (by decide))), show σ245 86 = σ 86 from ((f247 86 (by decide)).trans (f55 86 (by decide))), show σ245 87 = σ 87 from ((f247 87 (by decide)).trans (f55 87 (by decide)))]; exact (hr4.up (by omega) (by omega))), (show jEl (σ245 51) (σ245 52) (τ 54) (τ 88) by rw [show σ245 51 = σ 51 from ((f247 51 (by decide)).trans (f55 51 (by decide))), show σ245 52 = σ 52 from ((f247 52 (by decide)).trans (f55 52 (by decide)))]; exact hr5), (show jByP (σ245 51) (σ245 52) (τ 54) by rw [show σ245 51 = σ 51 from ((f247 51 (by decide)).trans (f55 51 (by decide))), show σ245 52 = σ 52 from ((f247 52 (by decide)).trans (f55 52 (by decide)))]; exact hr6), (show jBk (σ245 48) (σ245 80) (σ245 49) (σ245 81) (σ245 55 47).toInt by rw [show σ245 48 = σ 48 from ((f247 48 (by decide)).trans (f55 48 (by decide))), show σ245 49 = σ 49 from ((f247 49 (by decide)).trans (f55 49 (by decide))), show σ245 80 = σ 80 from ((f247 80 (by decide)).trans (f55 80 (by decide))), show σ245 81 = σ 81 from ((f247 81 (by decide)).trans (f55 81 (by decide))), show (σ245 55 47).toInt = (σ 55 47).toInt from z317]; exact hr7), (show jKd (σ245 39) (σ245 70) (σ245 55 32).toInt by rw [show σ245 39 = σ 39 from ((f247 39 (by decide)).trans (f55 39 (by decide))), show σ245 70 = σ 70 from ((f247 70 (by decide)).trans (f55 70 (by decide))), show (σ245 55 32).toInt = (σ 55 32).toInt from z313]; exact hr8), (show jTt (σ245 42) (σ245 85) (σ245 55 55).toInt by rw [show σ245 42 = σ 42 from ((f247 42 (by decide)).trans (f55 42 (by decide))), show σ245 85 = σ 85 from ((f247 85 (by decide)).trans (f55 85 (by decide))), show (σ245 55 55).toInt = (σ 55 55).toInt from z315]; exact hr9), (fun k hk => by rw [show σ245 4 = σ 4 from ((f247 4 (by decide)).trans (f55 4 (by decide))), show σ245 5 = σ 5 from ((f247 5 (by decide)).trans (f55 5 (by decide))), show σ245 60 = σ 60 from ((f247 60 (by decide)).trans (f55 60 (by decide))), show σ245 61 = σ 61 from ((f247 61 (by decide)).trans (f55 61 (by decide)))]; exact hr10 k (by omega)), (fun nm => by rw [show σ245 19 = σ 19 from ((f247 19 (by decide)).trans (f55 19 (by decide))), show σ245 64 = σ 64 from ((f247 64 (by decide)).trans (f55 64 (by decide))), show σ245 65 = σ 65 from ((f247 65 (by decide)).trans (f55 65 (by decide))), show (σ245 18 0).toInt = (σ 18 0).toInt from z325]; exact hr11 nm), (fun nm => by rw [show σ245 23 = σ 23 from ((f247 23 (by decide)).trans (f55 23 (by decide))), show σ245 64 = σ 64 from ((f247 64 (by decide)).trans (f55 64 (by decide))), show σ245 65 = σ 65 from ((f247 65 (by decide)).trans (f55 65 (by decide))), show (σ245 22 0).toInt = (σ 22 0).toInt from z326]; exact hr12 nm), (False.elim (by omega)), (show jqbN (σ245 80) (σ245 55 47).toInt by rw [show σ245 80 = σ 80 from ((f247 80 (by decide)).trans (f55 80 (by decide))), show (σ245 55 47).toInt = (σ 55 47).toInt from z317]; exact hr14)⟩ hP hS (lv_sub hl [0, 1, 2, 3] rfl)
        · obtain ⟨q334, k327, k328, k329, k330, k331, k332, k333⟩ := h259
          refine lv_pop hx hb dL_law_769 rfl ?_
          refine lv_goto (tgt := 1357) hx hb dL_law_770 (by decide) ?_
          obtain ⟨x335, ex335⟩ : ∃ y : Int32, y = x0 + 6 := ⟨_, rfl⟩
          exact by
           have tx335 : x335.toInt = x0.toInt + 6 := (jadd ex335 rfl jz_6 (by omega) (by omega)).trans (by omega)
           refine lv_iinc (v := x335) (lv' := [(3, .int x335), (2, .ref (ad 55)), (1, .ref (ad 0)), (0, .ref b)]) hx hb dL_law_1357 hl (k := 0) rfl (by rw [ex335]; rfl) (by decide) rfl (fun ls hl => ?_)
           refine lv_goto (tgt := 18) hx hb dL_law_1360 (by decide) ?_
           have I336 : jI2 σ245 := jI2_fr (congrFun (f247 2 (by decide)) 0) (congrFun (f247 2 (by decide)) 1) (congrFun (f247 2 (by decide)) 2) (congrFun (f247 2 (by decide)) 3) (f247 6 (by decide)) (f247 5 (by decide)) I57
           have I337 : jI9 σ245 := jI9_fr ((congrFun (f247 9 (by decide)) 0).trans (congrFun (f55 9 (by decide)) 0)) ((f247 10 (by decide)).trans (f55 10 (by decide))) ((f247 11 (by decide)).trans (f55 11 (by decide))) hI9
           have I338 : jI12 σ245 := jI12_fr ((congrFun (f247 12 (by decide)) 0).trans (congrFun (f55 12 (by decide)) 0)) ((f247 13 (by decide)).trans (f55 13 (by decide))) hI12
           have I339 : jI16 σ245 := jI16_fr ((congrFun (f247 16 (by decide)) 0).trans (congrFun (f55 16 (by decide)) 0)) ((congrFun (f247 16 (by decide)) 1).trans (congrFun (f55 16 (by decide)) 1)) ((congrFun (f247 16 (by decide)) 2).trans (congrFun (f55 16 (by decide)) 2)) ((f247 17 (by decide)).trans (f55 17 (by decide))) hI16
           have I340 : jI18 σ245 := jI18_fr ((congrFun (f247 18 (by decide)) 0).trans (congrFun (f55 18 (by decide)) 0)) ((f247 19 (by decide)).trans (f55 19 (by decide))) hI18
           have I341 : jI22 σ245 := jI22_fr ((congrFun (f247 22 (by decide)) 0).trans (congrFun (f55 22 (by decide)) 0)) ((f247 23 (by decide)).trans (f55 23 (by decide))) hI22
           exact by
            have I342 : jI31 σ245 := jI31_fr ((congrFun (f247 31 (by decide)) 8).trans (congrFun (f55 31 (by decide)) 8)) ((congrFun (f247 31 (by decide)) 10).trans (congrFun (f55 31 (by decide)) 10)) ((congrFun (f247 31 (by decide)) 11).trans (congrFun (f55 31 (by decide)) 11)) ((f247 33 (by decide)).trans (f55 33 (by decide))) ((f247 35 (by decide)).trans (f55 35 (by decide))) ((f247 36 (by decide)).trans (f55 36 (by decide))) hI31
            have I343 : jI38 σ245 := jI38_fr ((congrFun (f247 38 (by decide)) 0).trans (congrFun (f55 38 (by decide)) 0)) ((congrFun (f247 38 (by decide)) 1).trans (congrFun (f55 38 (by decide)) 1)) ((f247 39 (by decide)).trans (f55 39 (by decide))) hI38
            have I344 : jI43 σ245 := jI43_fr ((congrFun (f247 43 (by decide)) 8).trans (congrFun (f55 43 (by decide)) 8)) hI43
            have I345 : jI47 σ245 := jI47_fr ((congrFun (f247 47 (by decide)) 0).trans (congrFun (f55 47 (by decide)) 0)) ((f247 48 (by decide)).trans (f55 48 (by decide))) ((f247 49 (by decide)).trans (f55 49 (by decide))) hI47
            have I346 : jI50 σ245 := jI50_fr ((f247 52 (by decide)).trans (f55 52 (by decide))) hI50
            have I347 : jI0 σ245 := jI0_fr ((f247 1 (by decide)).trans (f55 1 (by decide))) hI0
            have I348 : jI26 σ245 := jI26_fr ((congrFun (f247 26 (by decide)) 6).trans (congrFun (f55 26 (by decide)) 6)) hI26
            have I349 : jI102 σ245 := jI102_fr (f248 6 (by decide)) (f247 60 (by decide)) (f247 61 (by decide)) I241
            have I350 : jI103 σ245 := jI103_fr ((f248 9 (by decide)).trans (congrFun (f55 55 (by decide)) 9)) hI103
            have I351 : jI104 σ245 := jI104_fr ((f248 10 (by decide)).trans (congrFun (f55 55 (by decide)) 10)) ((f248 12 (by decide)).trans (congrFun (f55 55 (by decide)) 12)) ((f248 13 (by decide)).trans (congrFun (f55 55 (by decide)) 13)) ((f247 62 (by decide)).trans (f55 62 (by decide))) ((f247 67 (by decide)).trans (f55 67 (by decide))) hI104
            have I352 : jI105 σ245 := jI105_fr ((f248 15 (by decide)).trans (congrFun (f55 55 (by decide)) 15)) ((f247 65 (by decide)).trans (f55 65 (by decide))) hI105
            have I353 : jI106 σ245 := jI106_fr ((f248 32 (by decide)).trans (congrFun (f55 55 (by decide)) 32)) ((f247 70 (by decide)).trans (f55 70 (by decide))) ((f247 71 (by decide)).trans (f55 71 (by decide))) ((f247 72 (by decide)).trans (f55 72 (by decide))) hI106
            have I354 : jI107 σ245 := jI107_fr ((f248 12 (by decide)).trans (congrFun (f55 55 (by decide)) 12)) ((f248 47 (by decide)).trans (congrFun (f55 55 (by decide)) 47)) ((f247 80 (by decide)).trans (f55 80 (by decide))) hI107
            have I355 : jI109 σ245 := jI109_fr ((f248 50 (by decide)).trans (congrFun (f55 55 (by decide)) 50)) hI109
            have I356 : jI110 σ245 := jI110_fr ((f247 86 (by decide)).trans (f55 86 (by decide))) ((f247 87 (by decide)).trans (f55 87 (by decide))) hI110
            have I357 : jI111 σ245 := jI111_fr ((f247 79 (by decide)).trans (f55 79 (by decide))) hI111
            have I358 : jI119 σ245 := jI119_fr ((f247 68 (by decide)).trans (f55 68 (by decide))) hI119
            have p359 : jKept σ245 := jKept.fr ((f247 75 (by decide)).trans (f55 75 (by decide))) ((f247 76 (by decide)).trans (f55 76 (by decide))) ((f247 77 (by decide)).trans (f55 77 (by decide))) hs_jKept
            have p360 : jBook σ245 := jBook.fr ((f248 47 (by decide)).trans (congrFun (f55 55 (by decide)) 47)) ((f248 10 (by decide)).trans (congrFun (f55 55 (by decide)) 10)) ((f247 81 (by decide)).trans (f55 81 (by decide))) hs_jBook
            have p361 : jNd12 σ245 := jNd12.fr ((congrFun (f247 12 (by decide)) 0).trans (congrFun (f55 12 (by decide)) 0)) ((congrFun (f247 12 (by decide)) 1).trans (congrFun (f55 12 (by decide)) 1)) ((f247 13 (by decide)).trans (f55 13 (by decide))) hs_jNd12
            have p362 : jN67 σ245 := jN67.fr ((f247 24 (by decide)).trans (f55 24 (by decide))) hs_jN67
            have p363 : jBl σ245 := jBl.fr ((congrFun (f247 22 (by decide)) 0).trans (congrFun (f55 22 (by decide)) 0)) ((congrFun (f247 22 (by decide)) 1).trans (congrFun (f55 22 (by decide)) 1)) ((f247 23 (by decide)).trans (f55 23 (by decide))) ((congrFun (f247 26 (by decide)) 6).trans (congrFun (f55 26 (by decide)) 6)) ((congrFun (f247 26 (by decide)) 7).trans (congrFun (f55 26 (by decide)) 7)) ((f247 29 (by decide)).trans (f55 29 (by decide))) ((f247 30 (by decide)).trans (f55 30 (by decide))) hs_jBl
            have p364 : jKb σ245 := jKb.fr ((congrFun (f247 31 (by decide)) 8).trans (congrFun (f55 31 (by decide)) 8)) ((congrFun (f247 31 (by decide)) 11).trans (congrFun (f55 31 (by decide)) 11)) ((f247 32 (by decide)).trans (f55 32 (by decide))) hs_jKb
            have p365 : jTR σ245 := jTR.fr ((f247 64 (by decide)).trans (f55 64 (by decide))) ((f247 65 (by decide)).trans (f55 65 (by decide))) hs_jTR
            have p366 : jKh σ245 := jKh.fr ((congrFun (f247 31 (by decide)) 8).trans (congrFun (f55 31 (by decide)) 8)) ((f247 32 (by decide)).trans (f55 32 (by decide))) ((f247 36 (by decide)).trans (f55 36 (by decide))) ((f247 37 (by decide)).trans (f55 37 (by decide))) hs_jKh
            have p367 : jKg σ245 := jKg.fr ((congrFun (f247 31 (by decide)) 8).trans (congrFun (f55 31 (by decide)) 8)) ((congrFun (f247 31 (by decide)) 9).trans (congrFun (f55 31 (by decide)) 9)) ((congrFun (f247 31 (by decide)) 11).trans (congrFun (f55 31 (by decide)) 11)) ((congrFun (f247 31 (by decide)) 12).trans (congrFun (f55 31 (by decide)) 12)) ((f247 32 (by decide)).trans (f55 32 (by decide))) ((f247 33 (by decide)).trans (f55 33 (by decide))) hs_jKg
            have p368 : jNz σ245 := jNz.fr ((f247 34 (by decide)).trans (f55 34 (by decide))) hs_jNz
            have p369 : jqSt σ245 := jqSt.fr ((f247 78 (by decide)).trans (f55 78 (by decide))) ((f248 42 (by decide)).trans (congrFun (f55 55 (by decide)) 42)) hs_jqSt
            have z370 : (σ245 2 0).toInt = (σ 2 0).toInt := (congrArg Int32.toInt (show σ245 2 0 = (σ 2 0) from ((congrFun (f247 2 (by decide)) 0).trans (f56 0 (by decide)))))
            have z371 : (σ245 55 6).toInt = (σ 55 6).toInt := (congrArg Int32.toInt (show σ245 55 6 = (σ 55 6) from ((f248 6 (by decide)).trans (congrFun (f55 55 (by decide)) 6))))
            have z372 : (σ245 2 2).toInt = (σ53 2 2).toInt := (congrArg Int32.toInt (show σ245 2 2 = (σ53 2 2) from (congrFun (f247 2 (by decide)) 2)))
            have z373 : (σ245 2 3).toInt = (σ53 2 3).toInt := (congrArg Int32.toInt (show σ245 2 3 = (σ53 2 3) from (congrFun (f247 2 (by decide)) 3)))
            have z374 : (σ245 9 0).toInt = (σ 9 0).toInt := (congrArg Int32.toInt (show σ245 9 0 = (σ 9 0) from ((congrFun (f247 9 (by decide)) 0).trans (congrFun (f55 9 (by decide)) 0))))
            have z375 : (σ245 55 15).toInt = (σ 55 15).toInt := (congrArg Int32.toInt (show σ245 55 15 = (σ 55 15) from ((f248 15 (by decide)).trans (congrFun (f55 55 (by decide)) 15))))
            have z376 : (σ245 16 0).toInt = (σ 16 0).toInt := (congrArg Int32.toInt (show σ245 16 0 = (σ 16 0) from ((congrFun (f247 16 (by decide)) 0).trans (congrFun (f55 16 (by decide)) 0))))
            have z377 : (σ245 55 10).toInt = (σ 55 10).toInt := (congrArg Int32.toInt (show σ245 55 10 = (σ 55 10) from ((f248 10 (by decide)).trans (congrFun (f55 55 (by decide)) 10))))
            have z378 : (σ245 16 1).toInt = (σ 16 1).toInt := (congrArg Int32.toInt (show σ245 16 1 = (σ 16 1) from ((congrFun (f247 16 (by decide)) 1).trans (congrFun (f55 16 (by decide)) 1))))
            have z379 : (σ245 55 12).toInt = (σ 55 12).toInt := (congrArg Int32.toInt (show σ245 55 12 = (σ 55 12) from ((f248 12 (by decide)).trans (congrFun (f55 55 (by decide)) 12))))
            have z380 : (σ245 16 2).toInt = (σ 16 2).toInt := (congrArg Int32.toInt (show σ245 16 2 = (σ 16 2) from ((congrFun (f247 16 (by decide)) 2).trans (congrFun (f55 16 (by decide)) 2))))
            have z381 : (σ245 55 13).toInt = (σ 55 13).toInt := (congrArg Int32.toInt (show σ245 55 13 = (σ 55 13) from ((f248 13 (by decide)).trans (congrFun (f55 55 (by decide)) 13))))
            have z382 : (σ245 38 0).toInt = (σ 38 0).toInt := (congrArg Int32.toInt (show σ245 38 0 = (σ 38 0) from ((congrFun (f247 38 (by decide)) 0).trans (congrFun (f55 38 (by decide)) 0))))
            have z383 : (σ245 55 32).toInt = (σ 55 32).toInt := (congrArg Int32.toInt (show σ245 55 32 = (σ 55 32) from ((f248 32 (by decide)).trans (congrFun (f55 55 (by decide)) 32))))
            have z384 : (σ245 38 1).toInt = (σ 38 1).toInt := (congrArg Int32.toInt (show σ245 38 1 = (σ 38 1) from ((congrFun (f247 38 (by decide)) 1).trans (congrFun (f55 38 (by decide)) 1))))
            have z385 : (σ245 55 55).toInt = (σ 55 55).toInt := (congrArg Int32.toInt (show σ245 55 55 = (σ 55 55) from ((f248 55 (by decide)).trans (congrFun (f55 55 (by decide)) 55))))
            have z386 : (σ245 47 0).toInt = (σ 47 0).toInt := (congrArg Int32.toInt (show σ245 47 0 = (σ 47 0) from ((congrFun (f247 47 (by decide)) 0).trans (congrFun (f55 47 (by decide)) 0))))
            have z387 : (σ245 55 47).toInt = (σ 55 47).toInt := (congrArg Int32.toInt (show σ245 55 47 = (σ 55 47) from ((f248 47 (by decide)).trans (congrFun (f55 55 (by decide)) 47))))
            have z388 : (σ245 55 30).toInt = (σ 55 30).toInt := (congrArg Int32.toInt (show σ245 55 30 = (σ 55 30) from ((f248 30 (by decide)).trans (congrFun (f55 55 (by decide)) 30))))
            have z389 : (σ245 55 31).toInt = (σ 55 31).toInt := (congrArg Int32.toInt (show σ245 55 31 = (σ 55 31) from ((f248 31 (by decide)).trans (congrFun (f55 55 (by decide)) 31))))
            have z390 : (σ245 2 1).toInt = (σ 2 1).toInt := (congrArg Int32.toInt (show σ245 2 1 = (σ 2 1) from ((congrFun (f247 2 (by decide)) 1).trans (f56 1 (by decide)))))
            have z391 : (σ245 55 9).toInt = (σ 55 9).toInt := (congrArg Int32.toInt (show σ245 55 9 = (σ 55 9) from ((f248 9 (by decide)).trans (congrFun (f55 55 (by decide)) 9))))
            have z392 : (σ245 55 42).toInt = (σ 55 42).toInt := (congrArg Int32.toInt (show σ245 55 42 = (σ 55 42) from ((f248 42 (by decide)).trans (congrFun (f55 55 (by decide)) 42))))
            have z393 : (σ245 26 6).toInt = (σ 26 6).toInt := (congrArg Int32.toInt (show σ245 26 6 = (σ 26 6) from ((congrFun (f247 26 (by decide)) 6).trans (congrFun (f55 26 (by decide)) 6))))
            obtain ⟨q394, w396, e398, c400⟩ := k238
            obtain ⟨q395, w397, e399, c401⟩ := k333
            rw [show σ53 56 = σ 56 from (f55 56 (by decide)), show σ53 57 = σ 57 from (f55 57 (by decide)), show σ53 58 = σ 58 from (f55 58 (by decide)), show σ53 59 = σ 59 from (f55 59 (by decide)), show r246 = r54 from jsame (rfl : r246.toInt = r246.toInt) (rfl : r54.toInt = r54.toInt) (by omega), show (σ53 55 4).toInt = (σ 55 4).toInt from z244] at c401
            exact by
             have k402 := hr0.chg (by omega) (by omega) c400 c401 (by omega) (by omega) (by omega) (by omega)
             have e398 := k402.2.1
             have e399 := k402.2.2
             have z405 : (σ245 18 0).toInt = (σ 18 0).toInt := (congrArg Int32.toInt (show σ245 18 0 = (σ 18 0) from ((congrFun (f247 18 (by decide)) 0).trans (congrFun (f55 18 (by decide)) 0))))
             have z406 : (σ245 22 0).toInt = (σ 22 0).toInt := (congrArg Int32.toInt (show σ245 22 0 = (σ 22 0) from ((congrFun (f247 22 (by decide)) 0).trans (congrFun (f55 22 (by decide)) 0))))
             exact by exact ih x335 σ245 τ _ _ ls (by have h9 := tx335; omega) ⟨I336, I337, I338, I339, I340, I341, I342, I343, I344, I345, I346, I347, I348, I249, I349, I350, I351, I352, I353, I354, I355, I356, I357, I358, p359, p360, p361, p362, p363, p364, p365, p366, p367, p368, p369, (by rw [z370, z371]; exact ht0), (by omega), (by omega), (by rw [z374, z375]; exact ht3), (by rw [z376, z377]; exact ht4), (by rw [z378, z379]; exact ht5), (by rw [z380, z381]; exact ht6), (by rw [z382, z383]; exact ht7), (by rw [z384, z385]; exact ht8), (by rw [z386, z387]; exact ht9), (by rw [z388]; exact ht10), (by rw [z389]; exact ht11), (by rw [z390, z391]; exact ht12), (by rw [z392]; exact ht13), (by have h9 := tx335; omega), (by have h9 := tx335; omega), (show jNumP (σ245 3) (σ245 56) (σ245 6) (σ245 57) (σ245 7) (σ245 58) (σ245 8) (σ245 59) (σ245 55 6).toInt (σ245 55 4).toInt by rw [show σ245 3 = σ53 3 from (f247 3 (by decide)), show σ245 6 = σ53 6 from (f247 6 (by decide)), show σ245 7 = σ53 7 from (f247 7 (by decide)), show σ245 8 = σ53 8 from (f247 8 (by decide)), show (σ245 55 6).toInt = (σ 55 6).toInt from z371]; exact k402.1), (hr1.chg c401 (by omega) (by omega) (fun x y => by omega)), (show jTp (σ245 10) (σ245 63) (σ245 55 15).toInt by rw [show σ245 10 = σ 10 from ((f247 10 (by decide)).trans (f55 10 (by decide))), show σ245 63 = σ 63 from ((f247 63 (by decide)).trans (f55 63 (by decide)))]; exact hr2.le (by omega)), (show jSo (σ245 17) (σ245 62) (σ245 16 0).toInt by rw [show σ245 17 = σ 17 from ((f247 17 (by decide)).trans (f55 17 (by decide))), show σ245 62 = σ 62 from ((f247 62 (by decide)).trans (f55 62 (by decide))), show (σ245 16 0).toInt = (σ 16 0).toInt from z376]; exact hr3), (show jShP (σ245 51) (σ245 52) (σ245 53) (σ245 86) (σ245 87) (σ245 55 32).toInt by rw [show σ245 51 = σ 51 from ((f247 51 (by decide)).trans (f55 51 (by decide))), show σ245 52 = σ 52 from ((f247 52 (by decide)).trans (f55 52 (by decide))), show σ245 53 = σ 53 from ((f247 53 (by decide)).trans (f55 53 (by decide))), show σ245 86 = σ 86 from ((f247 86 (by decide)).trans (f55 86 (by decide))), show σ245 87 = σ 87 from ((f247 87 (by decide)).trans (f55 87 (by decide)))]; exact (hr4.up (by omega) (by omega))), (show jEl (σ245 51) (σ245 52) (τ 54) (τ 88) by rw [show σ245 51 = σ 51 from ((f247 51 (by decide)).trans (f55 51 (by decide))), show σ245 52 = σ 52 from ((f247 52 (by decide)).trans (f55 52 (by decide)))]; exact hr5), (show jByP (σ245 51) (σ245 52) (τ 54) by rw [show σ245 51 = σ 51 from ((f247 51 (by decide)).trans (f55 51 (by decide))), show σ245 52 = σ 52 from ((f247 52 (by decide)).trans (f55 52 (by decide)))]; exact hr6), (show jBk (σ245 48) (σ245 80) (σ245 49) (σ245 81) (σ245 55 47).toInt by rw [show σ245 48 = σ 48 from ((f247 48 (by decide)).trans (f55 48 (by decide))), show σ245 49 = σ 49 from ((f247 49 (by decide)).trans (f55 49 (by decide))), show σ245 80 = σ 80 from ((f247 80 (by decide)).trans (f55 80 (by decide))), show σ245 81 = σ 81 from ((f247 81 (by decide)).trans (f55 81 (by decide))), show (σ245 55 47).toInt = (σ 55 47).toInt from z387]; exact hr7), (show jKd (σ245 39) (σ245 70) (σ245 55 32).toInt by rw [show σ245 39 = σ 39 from ((f247 39 (by decide)).trans (f55 39 (by decide))), show σ245 70 = σ 70 from ((f247 70 (by decide)).trans (f55 70 (by decide))), show (σ245 55 32).toInt = (σ 55 32).toInt from z383]; exact hr8), (show jTt (σ245 42) (σ245 85) (σ245 55 55).toInt by rw [show σ245 42 = σ 42 from ((f247 42 (by decide)).trans (f55 42 (by decide))), show σ245 85 = σ 85 from ((f247 85 (by decide)).trans (f55 85 (by decide))), show (σ245 55 55).toInt = (σ 55 55).toInt from z385]; exact hr9), (fun k hk => by rw [show σ245 4 = σ 4 from ((f247 4 (by decide)).trans (f55 4 (by decide))), show σ245 5 = σ 5 from ((f247 5 (by decide)).trans (f55 5 (by decide))), show σ245 60 = σ 60 from ((f247 60 (by decide)).trans (f55 60 (by decide))), show σ245 61 = σ 61 from ((f247 61 (by decide)).trans (f55 61 (by decide)))]; exact hr10 k (by omega)), (fun nm => by rw [show σ245 19 = σ 19 from ((f247 19 (by decide)).trans (f55 19 (by decide))), show σ245 64 = σ 64 from ((f247 64 (by decide)).trans (f55 64 (by decide))), show σ245 65 = σ 65 from ((f247 65 (by decide)).trans (f55 65 (by decide))), show (σ245 18 0).toInt = (σ 18 0).toInt from z405]; exact hr11 nm), (fun nm => by rw [show σ245 23 = σ 23 from ((f247 23 (by decide)).trans (f55 23 (by decide))), show σ245 64 = σ 64 from ((f247 64 (by decide)).trans (f55 64 (by decide))), show σ245 65 = σ 65 from ((f247 65 (by decide)).trans (f55 65 (by decide))), show (σ245 22 0).toInt = (σ 22 0).toInt from z406]; exact hr12 nm), (hr13.chg c401 (by omega) (by omega) (fun x => by unfold jPl at x; omega)), (show jqbN (σ245 80) (σ245 55 47).toInt by rw [show σ245 80 = σ 80 from ((f247 80 (by decide)).trans (f55 80 (by decide))), show (σ245 55 47).toInt = (σ 55 47).toInt from z387]; exact hr14)⟩ hP hS (lv_sub hl [0, 1, 2, 3] rfl)
