set_option maxHeartbeats 4000000 in
set_option maxRecDepth 100000 in
theorem law_case_0 {p : Program} {e : Env} {s : State} {m : MethodId} {below : List Frame} {meth : Method} {c : Code} (l : Launch) {b L : Nat} {xs : Nat → Int32} {D : va_G} {cI cL : ClassId} {ad zz : Nat → Nat} (C0 : lw_At p s m meth c b L xs) (hJ : jD ad) (hA : ∀ q, jA ad q → s.heap.size ≤ q) (hK : jK D cI cL s) (hZ : jZ zz (fun q : Nat => s.heap.size ≤ q) s s.heap) {x0 : Int32} (hx0 : 0 ≤ x0.toInt) (hxL : x0.toInt + 6 ≤ (L : Int)) (hL : L ≤ 384) {σ : Nat → Nat → Int32} {τ : Nat → Nat → Int64} {H : Heap} {locs : List Loc} (hS : va_S (fun q : Nat => s.heap.size ≤ q) s.heap H locs) {ls : Array Slot} (hAll : jAll σ τ) (hP : jH D cI cL ad σ τ H) (hl : lv_has ls 4 [(3, .int x0), (2, .ref (ad 55)), (1, .ref (ad 0)), (0, .ref b)]) (ih : ∀ (x1 : Int32) (σ : Nat → Nat → Int32) (τ : Nat → Nat → Int64) (H : Heap) (locs : List Loc) (ls : Array Slot), x1.toInt = x0.toInt + 6 → jAll σ τ → jH D cI cL ad σ τ H → va_S (fun q : Nat => s.heap.size ≤ q) s.heap H locs → lv_has ls 4 [(3, .int x1), (2, .ref (ad 55)), (1, .ref (ad 0)), (0, .ref b)] → W p l e room_1 s m #[Value.ref b] below meth c H locs 90 348600 (lw_Z below #[Value.ref b] s) (F0 m 18 ls [])) : W p l e room_1 s m #[Value.ref b] below meth c H locs 90 348600 (lw_Z below #[Value.ref b] s) (F0 m 196 ls []) := by
  obtain ⟨hx, hb, hr, hml, hown, hts0, hX, hbl, hlocks, hgv⟩ := C0
  have hts : ∀ w ∈ wsL_law, w.before #[Value.ref b] s = true := fun w h => hts0 w (wsL_law_in w h)
  have hbA : ¬ (fun q : Nat => s.heap.size ≤ q) b := Nat.not_le.mpr hbl
  have hown : s.vm.findClass RL = some m.cls := hown
  obtain ⟨hI2, hI9, hI12, hI16, hI18, hI22, hI31, hI38, hI43, hI47, hI50, hI101, hI102, hI103, hI104, hI105, hI106, hI107, hI109, hI110, hI111, hI119, hs_jKept, hs_jBook, ht0⟩ := hAll
  have hL9 : (L : Int) ≤ 384 := by omega
  refine lv_aload_n hx hb dL_law_196 rfl (lv_at hl 2 rfl) ?_
  refine lv_aload_n hx hb dL_law_197 rfl (lv_at hl 3 rfl) ?_
  refine lv_iload_n hx hb dL_law_198 rfl (lv_at hl 0 rfl) ?_
  refine lv_iconst (v := 1) hx hb dL_law_199 (of_decide_eq_true rfl) ?_
  have g1 := jrg (rfl : x0.toInt = x0.toInt)
  refine lv_iadd hx hb dL_law_200 ?_
  refine lv_topi (fun x2 ex2 => ?_)
  exact by
   have tx2 : x2.toInt = x0.toInt + 1 := (jadd ex2 rfl jz_1 (by omega) (by omega)).trans (by omega)
   refine va_sld hx hb hX hbl hbA hS (jin tx2 (by omega) (by omega)) dL_law_201 ?_
   have g3 := jrg (rfl : (xs x2.toNatClampNeg).toInt = (xs x2.toNatClampNeg).toInt)
   refine lv_aload_n hx hb dL_law_202 rfl (lv_at hl 3 rfl) ?_
   refine lv_iload_n hx hb dL_law_203 rfl (lv_at hl 0 rfl) ?_
   refine lv_iconst (v := 2) hx hb dL_law_204 (of_decide_eq_true rfl) ?_
   refine lv_iadd hx hb dL_law_205 ?_
   refine lv_topi (fun x4 ex4 => ?_)
   have tx4 : x4.toInt = x0.toInt + 2 := (jadd ex4 rfl jz_2 (by omega) (by omega)).trans (by omega)
   exact by
    refine va_sld hx hb hX hbl hbA hS (jin tx4 (by omega) (by omega)) dL_law_206 ?_
    have g5 := jrg (rfl : (xs x4.toNatClampNeg).toInt = (xs x4.toNatClampNeg).toInt)
    refine lv_aload_n hx hb dL_law_207 rfl (lv_at hl 3 rfl) ?_
    refine lv_iload_n hx hb dL_law_208 rfl (lv_at hl 0 rfl) ?_
    refine lv_iconst (v := 3) hx hb dL_law_209 (of_decide_eq_true rfl) ?_
    refine lv_iadd hx hb dL_law_210 ?_
    refine lv_topi (fun x6 ex6 => ?_)
    have tx6 : x6.toInt = x0.toInt + 3 := (jadd ex6 rfl jz_3 (by omega) (by omega)).trans (by omega)
    refine va_sld hx hb hX hbl hbA hS (jin tx6 (by omega) (by omega)) dL_law_211 ?_
    exact by
     have g7 := jrg (rfl : (xs x6.toNatClampNeg).toInt = (xs x6.toNatClampNeg).toInt)
     refine jcallV (As := [.int (xs x2.toNatClampNeg), .int (xs x4.toNatClampNeg), .int (xs x6.toNatClampNeg)]) (rest := []) ⟨hx, hb, hml, hown, hts⟩ hK hP hA hS hZ (c_X11_bowler l D cI cL ad zz hJ σ τ (xs x2.toNatClampNeg) ((xs x2.toNatClampNeg).toInt) rfl (xs x4.toNatClampNeg) ((xs x4.toNatClampNeg).toInt) rfl (xs x6.toNatClampNeg) ((xs x6.toNatClampNeg).toInt) rfl hI2) cw_RL_13 (jc_0 cI cL ad σ τ) rfl ⟨Nat.le_of_ble_eq_true rfl, Nat.le_of_ble_eq_true rfl⟩ rfl rfl rfl hl.1 rfl (Nat.le_of_ble_eq_true rfl) dL_law_212 ⟨Nat.le_of_ble_eq_true rfl, Nat.le_of_ble_eq_true rfl⟩ (fun r9 σ8 τ8 H locs h8 hP hS => ?_)
     obtain ⟨rfl, f10, f11, I12, h8⟩ := h8
     rcases h8 with h14 | h15 | h16
     · obtain ⟨q20, k17, k18, k19⟩ := h14
       have q20 := q20.symm
       subst q20
       refine lv_pop hx hb dL_law_215 rfl ?_
       refine lv_aload_n hx hb dL_law_216 rfl (lv_at hl 1 rfl) ?_
       refine lv_aload_n hx hb dL_law_217 rfl (lv_at hl 3 rfl) ?_
       refine lv_iload_n hx hb dL_law_218 rfl (lv_at hl 0 rfl) ?_
       refine lv_iconst (v := 1) hx hb dL_law_219 (of_decide_eq_true rfl) ?_
       refine lv_iadd hx hb dL_law_220 ?_
       refine jtopr ex2.symm ?_
       exact by
        refine va_sld hx hb hX hbl hbA hS (jin tx2 (by omega) (by omega)) dL_law_221 ?_
        refine lv_aload_n hx hb dL_law_222 rfl (lv_at hl 3 rfl) ?_
        refine lv_iload_n hx hb dL_law_223 rfl (lv_at hl 0 rfl) ?_
        refine lv_iconst (v := 2) hx hb dL_law_224 (of_decide_eq_true rfl) ?_
        refine lv_iadd hx hb dL_law_225 ?_
        refine jtopr ex4.symm ?_
        refine va_sld hx hb hX hbl hbA hS (jin tx4 (by omega) (by omega)) dL_law_226 ?_
        refine lv_aload_n hx hb dL_law_227 rfl (lv_at hl 3 rfl) ?_
        refine lv_iload_n hx hb dL_law_228 rfl (lv_at hl 0 rfl) ?_
        exact by
         refine lv_iconst (v := 3) hx hb dL_law_229 (of_decide_eq_true rfl) ?_
         refine lv_iadd hx hb dL_law_230 ?_
         refine jtopr ex6.symm ?_
         refine va_sld hx hb hX hbl hbA hS (jin tx6 (by omega) (by omega)) dL_law_231 ?_
         have I21 : jI101 σ8 := jI101_fr (congrFun (f10 55 (of_decide_eq_true rfl)) 4) (congrFun (f10 55 (of_decide_eq_true rfl)) 5) (f10 56 (of_decide_eq_true rfl)) (f10 57 (of_decide_eq_true rfl)) (f10 58 (of_decide_eq_true rfl)) (f10 59 (of_decide_eq_true rfl)) hI101
         have I22 : jI102 σ8 := jI102_fr (congrFun (f10 55 (of_decide_eq_true rfl)) 6) (f10 60 (of_decide_eq_true rfl)) (f10 61 (of_decide_eq_true rfl)) hI102
         have z23 : (σ8 55 6).toInt = (σ 55 6).toInt := (congrArg Int32.toInt (show σ8 55 6 = (σ 55 6) from (congrFun (f10 55 (of_decide_eq_true rfl)) 6)))
         refine jcallV (As := [.int (xs x2.toNatClampNeg), .int (xs x4.toNatClampNeg), .int (xs x6.toNatClampNeg)]) (rest := []) ⟨hx, hb, hml, hown, hts⟩ hK hP hA hS hZ (c_X12_bowler l D cI cL ad zz hJ σ8 τ (xs x2.toNatClampNeg) ((xs x2.toNatClampNeg).toInt) rfl (xs x4.toNatClampNeg) ((xs x4.toNatClampNeg).toInt) rfl (xs x6.toNatClampNeg) ((xs x6.toNatClampNeg).toInt) rfl I21 I22) cw_RL_17 (jc_55 cI cL ad σ8 τ) rfl ⟨Nat.le_of_ble_eq_true rfl, Nat.le_of_ble_eq_true rfl⟩ rfl rfl rfl hl.1 rfl (Nat.le_of_ble_eq_true rfl) dL_law_232 ⟨Nat.le_of_ble_eq_true rfl, Nat.le_of_ble_eq_true rfl⟩ (fun r25 σ24 τ24 H locs h24 hP hS => ?_)
         obtain ⟨rfl, f26, f27, I28, I29, h24⟩ := h24
         exact by
          rcases h24 with h31 | h32 | h33
          · obtain ⟨q37, k34, k35, k36⟩ := h31
            have q37 := q37.symm
            subst q37
            refine lv_pop hx hb dL_law_235 rfl ?_
            refine lv_goto (tgt := 1357) hx hb dL_law_236 (of_decide_eq_true rfl) ?_
            obtain ⟨x38, ex38⟩ : ∃ y : Int32, y = x0 + 6 := ⟨_, rfl⟩
            have tx38 : x38.toInt = x0.toInt + 6 := (jadd ex38 rfl jz_6 (by omega) (by omega)).trans (by omega)
            refine lv_iinc (v := x38) (lv' := [(3, .int x38), (2, .ref (ad 55)), (1, .ref (ad 0)), (0, .ref b)]) hx hb dL_law_1357 hl (k := 0) rfl (by rw [ex38]; rfl) (of_decide_eq_true rfl) rfl (fun ls hl => ?_)
            exact by
             refine lv_goto (tgt := 18) hx hb dL_law_1360 (of_decide_eq_true rfl) ?_
             have I39 : jI2 σ24 := jI2_fr (congrFun (f26 2 (of_decide_eq_true rfl)) 0) (congrFun (f26 2 (of_decide_eq_true rfl)) 1) (congrFun (f26 2 (of_decide_eq_true rfl)) 2) (congrFun (f26 2 (of_decide_eq_true rfl)) 3) (f26 6 (of_decide_eq_true rfl)) I12
             have I40 : jI9 σ24 := jI9_fr ((congrFun (f26 9 (of_decide_eq_true rfl)) 0).trans (congrFun (f10 9 (of_decide_eq_true rfl)) 0)) ((f26 10 (of_decide_eq_true rfl)).trans (f10 10 (of_decide_eq_true rfl))) ((f26 11 (of_decide_eq_true rfl)).trans (f10 11 (of_decide_eq_true rfl))) hI9
             have I41 : jI12 σ24 := jI12_fr ((congrFun (f26 12 (of_decide_eq_true rfl)) 0).trans (congrFun (f10 12 (of_decide_eq_true rfl)) 0)) ((f26 13 (of_decide_eq_true rfl)).trans (f10 13 (of_decide_eq_true rfl))) hI12
             have I42 : jI16 σ24 := jI16_fr ((congrFun (f26 16 (of_decide_eq_true rfl)) 0).trans (congrFun (f10 16 (of_decide_eq_true rfl)) 0)) ((congrFun (f26 16 (of_decide_eq_true rfl)) 1).trans (congrFun (f10 16 (of_decide_eq_true rfl)) 1)) ((congrFun (f26 16 (of_decide_eq_true rfl)) 2).trans (congrFun (f10 16 (of_decide_eq_true rfl)) 2)) ((f26 17 (of_decide_eq_true rfl)).trans (f10 17 (of_decide_eq_true rfl))) hI16
             have I43 : jI18 σ24 := jI18_fr ((congrFun (f26 18 (of_decide_eq_true rfl)) 0).trans (congrFun (f10 18 (of_decide_eq_true rfl)) 0)) ((f26 19 (of_decide_eq_true rfl)).trans (f10 19 (of_decide_eq_true rfl))) hI18
             have I44 : jI22 σ24 := jI22_fr ((congrFun (f26 22 (of_decide_eq_true rfl)) 0).trans (congrFun (f10 22 (of_decide_eq_true rfl)) 0)) ((f26 23 (of_decide_eq_true rfl)).trans (f10 23 (of_decide_eq_true rfl))) hI22
             have I45 : jI31 σ24 := jI31_fr ((congrFun (f26 31 (of_decide_eq_true rfl)) 8).trans (congrFun (f10 31 (of_decide_eq_true rfl)) 8)) ((f26 33 (of_decide_eq_true rfl)).trans (f10 33 (of_decide_eq_true rfl))) ((f26 36 (of_decide_eq_true rfl)).trans (f10 36 (of_decide_eq_true rfl))) hI31
             have I46 : jI38 σ24 := jI38_fr ((congrFun (f26 38 (of_decide_eq_true rfl)) 0).trans (congrFun (f10 38 (of_decide_eq_true rfl)) 0)) ((congrFun (f26 38 (of_decide_eq_true rfl)) 1).trans (congrFun (f10 38 (of_decide_eq_true rfl)) 1)) ((f26 39 (of_decide_eq_true rfl)).trans (f10 39 (of_decide_eq_true rfl))) hI38
             have I47 : jI43 σ24 := jI43_fr ((congrFun (f26 43 (of_decide_eq_true rfl)) 8).trans (congrFun (f10 43 (of_decide_eq_true rfl)) 8)) hI43
             have I48 : jI47 σ24 := jI47_fr ((congrFun (f26 47 (of_decide_eq_true rfl)) 0).trans (congrFun (f10 47 (of_decide_eq_true rfl)) 0)) ((f26 48 (of_decide_eq_true rfl)).trans (f10 48 (of_decide_eq_true rfl))) ((f26 49 (of_decide_eq_true rfl)).trans (f10 49 (of_decide_eq_true rfl))) hI47
             have I49 : jI50 σ24 := jI50_fr ((f26 52 (of_decide_eq_true rfl)).trans (f10 52 (of_decide_eq_true rfl))) hI50
             have I50 : jI103 σ24 := jI103_fr ((f27 9 (of_decide_eq_true rfl)).trans (congrFun (f10 55 (of_decide_eq_true rfl)) 9)) hI103
             have I51 : jI104 σ24 := jI104_fr ((f27 10 (of_decide_eq_true rfl)).trans (congrFun (f10 55 (of_decide_eq_true rfl)) 10)) ((f27 12 (of_decide_eq_true rfl)).trans (congrFun (f10 55 (of_decide_eq_true rfl)) 12)) ((f27 13 (of_decide_eq_true rfl)).trans (congrFun (f10 55 (of_decide_eq_true rfl)) 13)) ((f26 62 (of_decide_eq_true rfl)).trans (f10 62 (of_decide_eq_true rfl))) ((f26 67 (of_decide_eq_true rfl)).trans (f10 67 (of_decide_eq_true rfl))) hI104
             have I52 : jI105 σ24 := jI105_fr ((f27 15 (of_decide_eq_true rfl)).trans (congrFun (f10 55 (of_decide_eq_true rfl)) 15)) ((f26 65 (of_decide_eq_true rfl)).trans (f10 65 (of_decide_eq_true rfl))) hI105
             have I53 : jI106 σ24 := jI106_fr ((f27 32 (of_decide_eq_true rfl)).trans (congrFun (f10 55 (of_decide_eq_true rfl)) 32)) ((f26 70 (of_decide_eq_true rfl)).trans (f10 70 (of_decide_eq_true rfl))) ((f26 71 (of_decide_eq_true rfl)).trans (f10 71 (of_decide_eq_true rfl))) ((f26 72 (of_decide_eq_true rfl)).trans (f10 72 (of_decide_eq_true rfl))) hI106
             have I54 : jI107 σ24 := jI107_fr ((f27 12 (of_decide_eq_true rfl)).trans (congrFun (f10 55 (of_decide_eq_true rfl)) 12)) ((f27 47 (of_decide_eq_true rfl)).trans (congrFun (f10 55 (of_decide_eq_true rfl)) 47)) ((f26 80 (of_decide_eq_true rfl)).trans (f10 80 (of_decide_eq_true rfl))) hI107
             have I55 : jI109 σ24 := jI109_fr ((f27 50 (of_decide_eq_true rfl)).trans (congrFun (f10 55 (of_decide_eq_true rfl)) 50)) hI109
             have I56 : jI110 σ24 := jI110_fr ((f26 86 (of_decide_eq_true rfl)).trans (f10 86 (of_decide_eq_true rfl))) ((f26 87 (of_decide_eq_true rfl)).trans (f10 87 (of_decide_eq_true rfl))) hI110
             have I57 : jI111 σ24 := jI111_fr ((f26 79 (of_decide_eq_true rfl)).trans (f10 79 (of_decide_eq_true rfl))) hI111
             have I58 : jI119 σ24 := jI119_fr ((f26 68 (of_decide_eq_true rfl)).trans (f10 68 (of_decide_eq_true rfl))) hI119
             have p59 : jKept σ24 := jKept.fr ((f26 75 (of_decide_eq_true rfl)).trans (f10 75 (of_decide_eq_true rfl))) ((f26 76 (of_decide_eq_true rfl)).trans (f10 76 (of_decide_eq_true rfl))) ((f26 77 (of_decide_eq_true rfl)).trans (f10 77 (of_decide_eq_true rfl))) hs_jKept
             have p60 : jBook σ24 := jBook.fr ((f27 47 (of_decide_eq_true rfl)).trans (congrFun (f10 55 (of_decide_eq_true rfl)) 47)) ((f27 10 (of_decide_eq_true rfl)).trans (congrFun (f10 55 (of_decide_eq_true rfl)) 10)) ((f26 81 (of_decide_eq_true rfl)).trans (f10 81 (of_decide_eq_true rfl))) hs_jBook
             have z61 : (σ24 38 0).toInt = (σ 38 0).toInt := (congrArg Int32.toInt (show σ24 38 0 = (σ 38 0) from ((congrFun (f26 38 (of_decide_eq_true rfl)) 0).trans (congrFun (f10 38 (of_decide_eq_true rfl)) 0))))
             have z62 : (σ24 55 32).toInt = (σ 55 32).toInt := (congrArg Int32.toInt (show σ24 55 32 = (σ 55 32) from ((f27 32 (of_decide_eq_true rfl)).trans (congrFun (f10 55 (of_decide_eq_true rfl)) 32))))
             exact by exact ih x38 σ24 τ _ _ ls (by have h9 := tx38; omega) ⟨I39, I40, I41, I42, I43, I44, I45, I46, I47, I48, I49, I28, I29, I50, I51, I52, I53, I54, I55, I56, I57, I58, p59, p60, (by omega)⟩ hP hS (lv_sub hl [0, 1, 2, 3] rfl)
          · obtain ⟨q69, k63, k64, k65, k66, k67, k68⟩ := h32
            exact absurd (by omega : False) id
          · obtain ⟨q77, k70, k71, k72, k73, k74, k75, k76⟩ := h33
            exact absurd (by omega : False) id
     · obtain ⟨q84, k78, k79, k80, k81, k82, k83⟩ := h15
       have q84 := q84.symm
       subst q84
       refine lv_pop hx hb dL_law_215 rfl ?_
       refine lv_aload_n hx hb dL_law_216 rfl (lv_at hl 1 rfl) ?_
       refine lv_aload_n hx hb dL_law_217 rfl (lv_at hl 3 rfl) ?_
       refine lv_iload_n hx hb dL_law_218 rfl (lv_at hl 0 rfl) ?_
       refine lv_iconst (v := 1) hx hb dL_law_219 (of_decide_eq_true rfl) ?_
       refine lv_iadd hx hb dL_law_220 ?_
       refine jtopr ex2.symm ?_
       exact by
        refine va_sld hx hb hX hbl hbA hS (jin tx2 (by omega) (by omega)) dL_law_221 ?_
        refine lv_aload_n hx hb dL_law_222 rfl (lv_at hl 3 rfl) ?_
        refine lv_iload_n hx hb dL_law_223 rfl (lv_at hl 0 rfl) ?_
        refine lv_iconst (v := 2) hx hb dL_law_224 (of_decide_eq_true rfl) ?_
        refine lv_iadd hx hb dL_law_225 ?_
        refine jtopr ex4.symm ?_
        refine va_sld hx hb hX hbl hbA hS (jin tx4 (by omega) (by omega)) dL_law_226 ?_
        refine lv_aload_n hx hb dL_law_227 rfl (lv_at hl 3 rfl) ?_
        refine lv_iload_n hx hb dL_law_228 rfl (lv_at hl 0 rfl) ?_
        exact by
         refine lv_iconst (v := 3) hx hb dL_law_229 (of_decide_eq_true rfl) ?_
         refine lv_iadd hx hb dL_law_230 ?_
         refine jtopr ex6.symm ?_
         refine va_sld hx hb hX hbl hbA hS (jin tx6 (by omega) (by omega)) dL_law_231 ?_
         have I85 : jI101 σ8 := jI101_fr (congrFun (f10 55 (of_decide_eq_true rfl)) 4) (congrFun (f10 55 (of_decide_eq_true rfl)) 5) (f10 56 (of_decide_eq_true rfl)) (f10 57 (of_decide_eq_true rfl)) (f10 58 (of_decide_eq_true rfl)) (f10 59 (of_decide_eq_true rfl)) hI101
         have I86 : jI102 σ8 := jI102_fr (congrFun (f10 55 (of_decide_eq_true rfl)) 6) (f10 60 (of_decide_eq_true rfl)) (f10 61 (of_decide_eq_true rfl)) hI102
         have z87 : (σ8 55 6).toInt = (σ 55 6).toInt := (congrArg Int32.toInt (show σ8 55 6 = (σ 55 6) from (congrFun (f10 55 (of_decide_eq_true rfl)) 6)))
         refine jcallV (As := [.int (xs x2.toNatClampNeg), .int (xs x4.toNatClampNeg), .int (xs x6.toNatClampNeg)]) (rest := []) ⟨hx, hb, hml, hown, hts⟩ hK hP hA hS hZ (c_X12_bowler l D cI cL ad zz hJ σ8 τ (xs x2.toNatClampNeg) ((xs x2.toNatClampNeg).toInt) rfl (xs x4.toNatClampNeg) ((xs x4.toNatClampNeg).toInt) rfl (xs x6.toNatClampNeg) ((xs x6.toNatClampNeg).toInt) rfl I85 I86) cw_RL_17 (jc_55 cI cL ad σ8 τ) rfl ⟨Nat.le_of_ble_eq_true rfl, Nat.le_of_ble_eq_true rfl⟩ rfl rfl rfl hl.1 rfl (Nat.le_of_ble_eq_true rfl) dL_law_232 ⟨Nat.le_of_ble_eq_true rfl, Nat.le_of_ble_eq_true rfl⟩ (fun r89 σ88 τ88 H locs h88 hP hS => ?_)
         obtain ⟨rfl, f90, f91, I92, I93, h88⟩ := h88
         exact by
          rcases h88 with h95 | h96 | h97
          · obtain ⟨q101, k98, k99, k100⟩ := h95
            exact absurd (by omega : False) id
          · obtain ⟨q108, k102, k103, k104, k105, k106, k107⟩ := h96
            have q108 := q108.symm
            subst q108
            refine lv_pop hx hb dL_law_235 rfl ?_
            refine lv_goto (tgt := 1357) hx hb dL_law_236 (of_decide_eq_true rfl) ?_
            obtain ⟨x109, ex109⟩ : ∃ y : Int32, y = x0 + 6 := ⟨_, rfl⟩
            exact by
             have tx109 : x109.toInt = x0.toInt + 6 := (jadd ex109 rfl jz_6 (by omega) (by omega)).trans (by omega)
             refine lv_iinc (v := x109) (lv' := [(3, .int x109), (2, .ref (ad 55)), (1, .ref (ad 0)), (0, .ref b)]) hx hb dL_law_1357 hl (k := 0) rfl (by rw [ex109]; rfl) (of_decide_eq_true rfl) rfl (fun ls hl => ?_)
             refine lv_goto (tgt := 18) hx hb dL_law_1360 (of_decide_eq_true rfl) ?_
             have I110 : jI2 σ88 := jI2_fr (congrFun (f90 2 (of_decide_eq_true rfl)) 0) (congrFun (f90 2 (of_decide_eq_true rfl)) 1) (congrFun (f90 2 (of_decide_eq_true rfl)) 2) (congrFun (f90 2 (of_decide_eq_true rfl)) 3) (f90 6 (of_decide_eq_true rfl)) I12
             have I111 : jI9 σ88 := jI9_fr ((congrFun (f90 9 (of_decide_eq_true rfl)) 0).trans (congrFun (f10 9 (of_decide_eq_true rfl)) 0)) ((f90 10 (of_decide_eq_true rfl)).trans (f10 10 (of_decide_eq_true rfl))) ((f90 11 (of_decide_eq_true rfl)).trans (f10 11 (of_decide_eq_true rfl))) hI9
             have I112 : jI12 σ88 := jI12_fr ((congrFun (f90 12 (of_decide_eq_true rfl)) 0).trans (congrFun (f10 12 (of_decide_eq_true rfl)) 0)) ((f90 13 (of_decide_eq_true rfl)).trans (f10 13 (of_decide_eq_true rfl))) hI12
             have I113 : jI16 σ88 := jI16_fr ((congrFun (f90 16 (of_decide_eq_true rfl)) 0).trans (congrFun (f10 16 (of_decide_eq_true rfl)) 0)) ((congrFun (f90 16 (of_decide_eq_true rfl)) 1).trans (congrFun (f10 16 (of_decide_eq_true rfl)) 1)) ((congrFun (f90 16 (of_decide_eq_true rfl)) 2).trans (congrFun (f10 16 (of_decide_eq_true rfl)) 2)) ((f90 17 (of_decide_eq_true rfl)).trans (f10 17 (of_decide_eq_true rfl))) hI16
             have I114 : jI18 σ88 := jI18_fr ((congrFun (f90 18 (of_decide_eq_true rfl)) 0).trans (congrFun (f10 18 (of_decide_eq_true rfl)) 0)) ((f90 19 (of_decide_eq_true rfl)).trans (f10 19 (of_decide_eq_true rfl))) hI18
             have I115 : jI22 σ88 := jI22_fr ((congrFun (f90 22 (of_decide_eq_true rfl)) 0).trans (congrFun (f10 22 (of_decide_eq_true rfl)) 0)) ((f90 23 (of_decide_eq_true rfl)).trans (f10 23 (of_decide_eq_true rfl))) hI22
             exact by
              have I116 : jI31 σ88 := jI31_fr ((congrFun (f90 31 (of_decide_eq_true rfl)) 8).trans (congrFun (f10 31 (of_decide_eq_true rfl)) 8)) ((f90 33 (of_decide_eq_true rfl)).trans (f10 33 (of_decide_eq_true rfl))) ((f90 36 (of_decide_eq_true rfl)).trans (f10 36 (of_decide_eq_true rfl))) hI31
              have I117 : jI38 σ88 := jI38_fr ((congrFun (f90 38 (of_decide_eq_true rfl)) 0).trans (congrFun (f10 38 (of_decide_eq_true rfl)) 0)) ((congrFun (f90 38 (of_decide_eq_true rfl)) 1).trans (congrFun (f10 38 (of_decide_eq_true rfl)) 1)) ((f90 39 (of_decide_eq_true rfl)).trans (f10 39 (of_decide_eq_true rfl))) hI38
              have I118 : jI43 σ88 := jI43_fr ((congrFun (f90 43 (of_decide_eq_true rfl)) 8).trans (congrFun (f10 43 (of_decide_eq_true rfl)) 8)) hI43
              have I119 : jI47 σ88 := jI47_fr ((congrFun (f90 47 (of_decide_eq_true rfl)) 0).trans (congrFun (f10 47 (of_decide_eq_true rfl)) 0)) ((f90 48 (of_decide_eq_true rfl)).trans (f10 48 (of_decide_eq_true rfl))) ((f90 49 (of_decide_eq_true rfl)).trans (f10 49 (of_decide_eq_true rfl))) hI47
              have I120 : jI50 σ88 := jI50_fr ((f90 52 (of_decide_eq_true rfl)).trans (f10 52 (of_decide_eq_true rfl))) hI50
              have I121 : jI103 σ88 := jI103_fr ((f91 9 (of_decide_eq_true rfl)).trans (congrFun (f10 55 (of_decide_eq_true rfl)) 9)) hI103
              have I122 : jI104 σ88 := jI104_fr ((f91 10 (of_decide_eq_true rfl)).trans (congrFun (f10 55 (of_decide_eq_true rfl)) 10)) ((f91 12 (of_decide_eq_true rfl)).trans (congrFun (f10 55 (of_decide_eq_true rfl)) 12)) ((f91 13 (of_decide_eq_true rfl)).trans (congrFun (f10 55 (of_decide_eq_true rfl)) 13)) ((f90 62 (of_decide_eq_true rfl)).trans (f10 62 (of_decide_eq_true rfl))) ((f90 67 (of_decide_eq_true rfl)).trans (f10 67 (of_decide_eq_true rfl))) hI104
              have I123 : jI105 σ88 := jI105_fr ((f91 15 (of_decide_eq_true rfl)).trans (congrFun (f10 55 (of_decide_eq_true rfl)) 15)) ((f90 65 (of_decide_eq_true rfl)).trans (f10 65 (of_decide_eq_true rfl))) hI105
              have I124 : jI106 σ88 := jI106_fr ((f91 32 (of_decide_eq_true rfl)).trans (congrFun (f10 55 (of_decide_eq_true rfl)) 32)) ((f90 70 (of_decide_eq_true rfl)).trans (f10 70 (of_decide_eq_true rfl))) ((f90 71 (of_decide_eq_true rfl)).trans (f10 71 (of_decide_eq_true rfl))) ((f90 72 (of_decide_eq_true rfl)).trans (f10 72 (of_decide_eq_true rfl))) hI106
              have I125 : jI107 σ88 := jI107_fr ((f91 12 (of_decide_eq_true rfl)).trans (congrFun (f10 55 (of_decide_eq_true rfl)) 12)) ((f91 47 (of_decide_eq_true rfl)).trans (congrFun (f10 55 (of_decide_eq_true rfl)) 47)) ((f90 80 (of_decide_eq_true rfl)).trans (f10 80 (of_decide_eq_true rfl))) hI107
              have I126 : jI109 σ88 := jI109_fr ((f91 50 (of_decide_eq_true rfl)).trans (congrFun (f10 55 (of_decide_eq_true rfl)) 50)) hI109
              have I127 : jI110 σ88 := jI110_fr ((f90 86 (of_decide_eq_true rfl)).trans (f10 86 (of_decide_eq_true rfl))) ((f90 87 (of_decide_eq_true rfl)).trans (f10 87 (of_decide_eq_true rfl))) hI110
              have I128 : jI111 σ88 := jI111_fr ((f90 79 (of_decide_eq_true rfl)).trans (f10 79 (of_decide_eq_true rfl))) hI111
              have I129 : jI119 σ88 := jI119_fr ((f90 68 (of_decide_eq_true rfl)).trans (f10 68 (of_decide_eq_true rfl))) hI119
              have p130 : jKept σ88 := jKept.fr ((f90 75 (of_decide_eq_true rfl)).trans (f10 75 (of_decide_eq_true rfl))) ((f90 76 (of_decide_eq_true rfl)).trans (f10 76 (of_decide_eq_true rfl))) ((f90 77 (of_decide_eq_true rfl)).trans (f10 77 (of_decide_eq_true rfl))) hs_jKept
              have p131 : jBook σ88 := jBook.fr ((f91 47 (of_decide_eq_true rfl)).trans (congrFun (f10 55 (of_decide_eq_true rfl)) 47)) ((f91 10 (of_decide_eq_true rfl)).trans (congrFun (f10 55 (of_decide_eq_true rfl)) 10)) ((f90 81 (of_decide_eq_true rfl)).trans (f10 81 (of_decide_eq_true rfl))) hs_jBook
              have z132 : (σ88 38 0).toInt = (σ 38 0).toInt := (congrArg Int32.toInt (show σ88 38 0 = (σ 38 0) from ((congrFun (f90 38 (of_decide_eq_true rfl)) 0).trans (congrFun (f10 38 (of_decide_eq_true rfl)) 0))))
              have z133 : (σ88 55 32).toInt = (σ 55 32).toInt := (congrArg Int32.toInt (show σ88 55 32 = (σ 55 32) from ((f91 32 (of_decide_eq_true rfl)).trans (congrFun (f10 55 (of_decide_eq_true rfl)) 32))))
              exact by exact ih x109 σ88 τ _ _ ls (by have h9 := tx109; omega) ⟨I110, I111, I112, I113, I114, I115, I116, I117, I118, I119, I120, I92, I93, I121, I122, I123, I124, I125, I126, I127, I128, I129, p130, p131, (by omega)⟩ hP hS (lv_sub hl [0, 1, 2, 3] rfl)
          · obtain ⟨q141, k134, k135, k136, k137, k138, k139, k140⟩ := h97
            refine lv_pop hx hb dL_law_235 rfl ?_
            refine lv_goto (tgt := 1357) hx hb dL_law_236 (of_decide_eq_true rfl) ?_
            obtain ⟨x142, ex142⟩ : ∃ y : Int32, y = x0 + 6 := ⟨_, rfl⟩
            exact by
             have tx142 : x142.toInt = x0.toInt + 6 := (jadd ex142 rfl jz_6 (by omega) (by omega)).trans (by omega)
             refine lv_iinc (v := x142) (lv' := [(3, .int x142), (2, .ref (ad 55)), (1, .ref (ad 0)), (0, .ref b)]) hx hb dL_law_1357 hl (k := 0) rfl (by rw [ex142]; rfl) (of_decide_eq_true rfl) rfl (fun ls hl => ?_)
             refine lv_goto (tgt := 18) hx hb dL_law_1360 (of_decide_eq_true rfl) ?_
             have I143 : jI2 σ88 := jI2_fr (congrFun (f90 2 (of_decide_eq_true rfl)) 0) (congrFun (f90 2 (of_decide_eq_true rfl)) 1) (congrFun (f90 2 (of_decide_eq_true rfl)) 2) (congrFun (f90 2 (of_decide_eq_true rfl)) 3) (f90 6 (of_decide_eq_true rfl)) I12
             have I144 : jI9 σ88 := jI9_fr ((congrFun (f90 9 (of_decide_eq_true rfl)) 0).trans (congrFun (f10 9 (of_decide_eq_true rfl)) 0)) ((f90 10 (of_decide_eq_true rfl)).trans (f10 10 (of_decide_eq_true rfl))) ((f90 11 (of_decide_eq_true rfl)).trans (f10 11 (of_decide_eq_true rfl))) hI9
             have I145 : jI12 σ88 := jI12_fr ((congrFun (f90 12 (of_decide_eq_true rfl)) 0).trans (congrFun (f10 12 (of_decide_eq_true rfl)) 0)) ((f90 13 (of_decide_eq_true rfl)).trans (f10 13 (of_decide_eq_true rfl))) hI12
             have I146 : jI16 σ88 := jI16_fr ((congrFun (f90 16 (of_decide_eq_true rfl)) 0).trans (congrFun (f10 16 (of_decide_eq_true rfl)) 0)) ((congrFun (f90 16 (of_decide_eq_true rfl)) 1).trans (congrFun (f10 16 (of_decide_eq_true rfl)) 1)) ((congrFun (f90 16 (of_decide_eq_true rfl)) 2).trans (congrFun (f10 16 (of_decide_eq_true rfl)) 2)) ((f90 17 (of_decide_eq_true rfl)).trans (f10 17 (of_decide_eq_true rfl))) hI16
             have I147 : jI18 σ88 := jI18_fr ((congrFun (f90 18 (of_decide_eq_true rfl)) 0).trans (congrFun (f10 18 (of_decide_eq_true rfl)) 0)) ((f90 19 (of_decide_eq_true rfl)).trans (f10 19 (of_decide_eq_true rfl))) hI18
             have I148 : jI22 σ88 := jI22_fr ((congrFun (f90 22 (of_decide_eq_true rfl)) 0).trans (congrFun (f10 22 (of_decide_eq_true rfl)) 0)) ((f90 23 (of_decide_eq_true rfl)).trans (f10 23 (of_decide_eq_true rfl))) hI22
             exact by
              have I149 : jI31 σ88 := jI31_fr ((congrFun (f90 31 (of_decide_eq_true rfl)) 8).trans (congrFun (f10 31 (of_decide_eq_true rfl)) 8)) ((f90 33 (of_decide_eq_true rfl)).trans (f10 33 (of_decide_eq_true rfl))) ((f90 36 (of_decide_eq_true rfl)).trans (f10 36 (of_decide_eq_true rfl))) hI31
              have I150 : jI38 σ88 := jI38_fr ((congrFun (f90 38 (of_decide_eq_true rfl)) 0).trans (congrFun (f10 38 (of_decide_eq_true rfl)) 0)) ((congrFun (f90 38 (of_decide_eq_true rfl)) 1).trans (congrFun (f10 38 (of_decide_eq_true rfl)) 1)) ((f90 39 (of_decide_eq_true rfl)).trans (f10 39 (of_decide_eq_true rfl))) hI38
              have I151 : jI43 σ88 := jI43_fr ((congrFun (f90 43 (of_decide_eq_true rfl)) 8).trans (congrFun (f10 43 (of_decide_eq_true rfl)) 8)) hI43
              have I152 : jI47 σ88 := jI47_fr ((congrFun (f90 47 (of_decide_eq_true rfl)) 0).trans (congrFun (f10 47 (of_decide_eq_true rfl)) 0)) ((f90 48 (of_decide_eq_true rfl)).trans (f10 48 (of_decide_eq_true rfl))) ((f90 49 (of_decide_eq_true rfl)).trans (f10 49 (of_decide_eq_true rfl))) hI47
              have I153 : jI50 σ88 := jI50_fr ((f90 52 (of_decide_eq_true rfl)).trans (f10 52 (of_decide_eq_true rfl))) hI50
              have I154 : jI103 σ88 := jI103_fr ((f91 9 (of_decide_eq_true rfl)).trans (congrFun (f10 55 (of_decide_eq_true rfl)) 9)) hI103
              have I155 : jI104 σ88 := jI104_fr ((f91 10 (of_decide_eq_true rfl)).trans (congrFun (f10 55 (of_decide_eq_true rfl)) 10)) ((f91 12 (of_decide_eq_true rfl)).trans (congrFun (f10 55 (of_decide_eq_true rfl)) 12)) ((f91 13 (of_decide_eq_true rfl)).trans (congrFun (f10 55 (of_decide_eq_true rfl)) 13)) ((f90 62 (of_decide_eq_true rfl)).trans (f10 62 (of_decide_eq_true rfl))) ((f90 67 (of_decide_eq_true rfl)).trans (f10 67 (of_decide_eq_true rfl))) hI104
              have I156 : jI105 σ88 := jI105_fr ((f91 15 (of_decide_eq_true rfl)).trans (congrFun (f10 55 (of_decide_eq_true rfl)) 15)) ((f90 65 (of_decide_eq_true rfl)).trans (f10 65 (of_decide_eq_true rfl))) hI105
              have I157 : jI106 σ88 := jI106_fr ((f91 32 (of_decide_eq_true rfl)).trans (congrFun (f10 55 (of_decide_eq_true rfl)) 32)) ((f90 70 (of_decide_eq_true rfl)).trans (f10 70 (of_decide_eq_true rfl))) ((f90 71 (of_decide_eq_true rfl)).trans (f10 71 (of_decide_eq_true rfl))) ((f90 72 (of_decide_eq_true rfl)).trans (f10 72 (of_decide_eq_true rfl))) hI106
              have I158 : jI107 σ88 := jI107_fr ((f91 12 (of_decide_eq_true rfl)).trans (congrFun (f10 55 (of_decide_eq_true rfl)) 12)) ((f91 47 (of_decide_eq_true rfl)).trans (congrFun (f10 55 (of_decide_eq_true rfl)) 47)) ((f90 80 (of_decide_eq_true rfl)).trans (f10 80 (of_decide_eq_true rfl))) hI107
              have I159 : jI109 σ88 := jI109_fr ((f91 50 (of_decide_eq_true rfl)).trans (congrFun (f10 55 (of_decide_eq_true rfl)) 50)) hI109
              have I160 : jI110 σ88 := jI110_fr ((f90 86 (of_decide_eq_true rfl)).trans (f10 86 (of_decide_eq_true rfl))) ((f90 87 (of_decide_eq_true rfl)).trans (f10 87 (of_decide_eq_true rfl))) hI110
              have I161 : jI111 σ88 := jI111_fr ((f90 79 (of_decide_eq_true rfl)).trans (f10 79 (of_decide_eq_true rfl))) hI111
              have I162 : jI119 σ88 := jI119_fr ((f90 68 (of_decide_eq_true rfl)).trans (f10 68 (of_decide_eq_true rfl))) hI119
              have p163 : jKept σ88 := jKept.fr ((f90 75 (of_decide_eq_true rfl)).trans (f10 75 (of_decide_eq_true rfl))) ((f90 76 (of_decide_eq_true rfl)).trans (f10 76 (of_decide_eq_true rfl))) ((f90 77 (of_decide_eq_true rfl)).trans (f10 77 (of_decide_eq_true rfl))) hs_jKept
              have p164 : jBook σ88 := jBook.fr ((f91 47 (of_decide_eq_true rfl)).trans (congrFun (f10 55 (of_decide_eq_true rfl)) 47)) ((f91 10 (of_decide_eq_true rfl)).trans (congrFun (f10 55 (of_decide_eq_true rfl)) 10)) ((f90 81 (of_decide_eq_true rfl)).trans (f10 81 (of_decide_eq_true rfl))) hs_jBook
              have z165 : (σ88 38 0).toInt = (σ 38 0).toInt := (congrArg Int32.toInt (show σ88 38 0 = (σ 38 0) from ((congrFun (f90 38 (of_decide_eq_true rfl)) 0).trans (congrFun (f10 38 (of_decide_eq_true rfl)) 0))))
              have z166 : (σ88 55 32).toInt = (σ 55 32).toInt := (congrArg Int32.toInt (show σ88 55 32 = (σ 55 32) from ((f91 32 (of_decide_eq_true rfl)).trans (congrFun (f10 55 (of_decide_eq_true rfl)) 32))))
              exact by exact ih x142 σ88 τ _ _ ls (by have h9 := tx142; omega) ⟨I143, I144, I145, I146, I147, I148, I149, I150, I151, I152, I153, I92, I93, I154, I155, I156, I157, I158, I159, I160, I161, I162, p163, p164, (by omega)⟩ hP hS (lv_sub hl [0, 1, 2, 3] rfl)
     · obtain ⟨q174, k167, k168, k169, k170, k171, k172, k173⟩ := h16
       refine lv_pop hx hb dL_law_215 rfl ?_
       refine lv_aload_n hx hb dL_law_216 rfl (lv_at hl 1 rfl) ?_
       refine lv_aload_n hx hb dL_law_217 rfl (lv_at hl 3 rfl) ?_
       refine lv_iload_n hx hb dL_law_218 rfl (lv_at hl 0 rfl) ?_
       refine lv_iconst (v := 1) hx hb dL_law_219 (of_decide_eq_true rfl) ?_
       refine lv_iadd hx hb dL_law_220 ?_
       refine jtopr ex2.symm ?_
       exact by
        refine va_sld hx hb hX hbl hbA hS (jin tx2 (by omega) (by omega)) dL_law_221 ?_
        refine lv_aload_n hx hb dL_law_222 rfl (lv_at hl 3 rfl) ?_
        refine lv_iload_n hx hb dL_law_223 rfl (lv_at hl 0 rfl) ?_
        refine lv_iconst (v := 2) hx hb dL_law_224 (of_decide_eq_true rfl) ?_
        refine lv_iadd hx hb dL_law_225 ?_
        refine jtopr ex4.symm ?_
        refine va_sld hx hb hX hbl hbA hS (jin tx4 (by omega) (by omega)) dL_law_226 ?_
        refine lv_aload_n hx hb dL_law_227 rfl (lv_at hl 3 rfl) ?_
        refine lv_iload_n hx hb dL_law_228 rfl (lv_at hl 0 rfl) ?_
        exact by
         refine lv_iconst (v := 3) hx hb dL_law_229 (of_decide_eq_true rfl) ?_
         refine lv_iadd hx hb dL_law_230 ?_
         refine jtopr ex6.symm ?_
         refine va_sld hx hb hX hbl hbA hS (jin tx6 (by omega) (by omega)) dL_law_231 ?_
         have I175 : jI101 σ8 := jI101_fr (congrFun (f10 55 (of_decide_eq_true rfl)) 4) (congrFun (f10 55 (of_decide_eq_true rfl)) 5) (f10 56 (of_decide_eq_true rfl)) (f10 57 (of_decide_eq_true rfl)) (f10 58 (of_decide_eq_true rfl)) (f10 59 (of_decide_eq_true rfl)) hI101
         have I176 : jI102 σ8 := jI102_fr (congrFun (f10 55 (of_decide_eq_true rfl)) 6) (f10 60 (of_decide_eq_true rfl)) (f10 61 (of_decide_eq_true rfl)) hI102
         have z177 : (σ8 55 6).toInt = (σ 55 6).toInt := (congrArg Int32.toInt (show σ8 55 6 = (σ 55 6) from (congrFun (f10 55 (of_decide_eq_true rfl)) 6)))
         refine jcallV (As := [.int (xs x2.toNatClampNeg), .int (xs x4.toNatClampNeg), .int (xs x6.toNatClampNeg)]) (rest := []) ⟨hx, hb, hml, hown, hts⟩ hK hP hA hS hZ (c_X12_bowler l D cI cL ad zz hJ σ8 τ (xs x2.toNatClampNeg) ((xs x2.toNatClampNeg).toInt) rfl (xs x4.toNatClampNeg) ((xs x4.toNatClampNeg).toInt) rfl (xs x6.toNatClampNeg) ((xs x6.toNatClampNeg).toInt) rfl I175 I176) cw_RL_17 (jc_55 cI cL ad σ8 τ) rfl ⟨Nat.le_of_ble_eq_true rfl, Nat.le_of_ble_eq_true rfl⟩ rfl rfl rfl hl.1 rfl (Nat.le_of_ble_eq_true rfl) dL_law_232 ⟨Nat.le_of_ble_eq_true rfl, Nat.le_of_ble_eq_true rfl⟩ (fun r179 σ178 τ178 H locs h178 hP hS => ?_)
         obtain ⟨rfl, f180, f181, I182, I183, h178⟩ := h178
         exact by
          rcases h178 with h185 | h186 | h187
          · obtain ⟨q191, k188, k189, k190⟩ := h185
            exact absurd (by omega : False) id
          · obtain ⟨q198, k192, k193, k194, k195, k196, k197⟩ := h186
            have q198 := q198.symm
            subst q198
            refine lv_pop hx hb dL_law_235 rfl ?_
            refine lv_goto (tgt := 1357) hx hb dL_law_236 (of_decide_eq_true rfl) ?_
            obtain ⟨x199, ex199⟩ : ∃ y : Int32, y = x0 + 6 := ⟨_, rfl⟩
            exact by
             have tx199 : x199.toInt = x0.toInt + 6 := (jadd ex199 rfl jz_6 (by omega) (by omega)).trans (by omega)
             refine lv_iinc (v := x199) (lv' := [(3, .int x199), (2, .ref (ad 55)), (1, .ref (ad 0)), (0, .ref b)]) hx hb dL_law_1357 hl (k := 0) rfl (by rw [ex199]; rfl) (of_decide_eq_true rfl) rfl (fun ls hl => ?_)
             refine lv_goto (tgt := 18) hx hb dL_law_1360 (of_decide_eq_true rfl) ?_
             have I200 : jI2 σ178 := jI2_fr (congrFun (f180 2 (of_decide_eq_true rfl)) 0) (congrFun (f180 2 (of_decide_eq_true rfl)) 1) (congrFun (f180 2 (of_decide_eq_true rfl)) 2) (congrFun (f180 2 (of_decide_eq_true rfl)) 3) (f180 6 (of_decide_eq_true rfl)) I12
             have I201 : jI9 σ178 := jI9_fr ((congrFun (f180 9 (of_decide_eq_true rfl)) 0).trans (congrFun (f10 9 (of_decide_eq_true rfl)) 0)) ((f180 10 (of_decide_eq_true rfl)).trans (f10 10 (of_decide_eq_true rfl))) ((f180 11 (of_decide_eq_true rfl)).trans (f10 11 (of_decide_eq_true rfl))) hI9
             have I202 : jI12 σ178 := jI12_fr ((congrFun (f180 12 (of_decide_eq_true rfl)) 0).trans (congrFun (f10 12 (of_decide_eq_true rfl)) 0)) ((f180 13 (of_decide_eq_true rfl)).trans (f10 13 (of_decide_eq_true rfl))) hI12
             have I203 : jI16 σ178 := jI16_fr ((congrFun (f180 16 (of_decide_eq_true rfl)) 0).trans (congrFun (f10 16 (of_decide_eq_true rfl)) 0)) ((congrFun (f180 16 (of_decide_eq_true rfl)) 1).trans (congrFun (f10 16 (of_decide_eq_true rfl)) 1)) ((congrFun (f180 16 (of_decide_eq_true rfl)) 2).trans (congrFun (f10 16 (of_decide_eq_true rfl)) 2)) ((f180 17 (of_decide_eq_true rfl)).trans (f10 17 (of_decide_eq_true rfl))) hI16
             have I204 : jI18 σ178 := jI18_fr ((congrFun (f180 18 (of_decide_eq_true rfl)) 0).trans (congrFun (f10 18 (of_decide_eq_true rfl)) 0)) ((f180 19 (of_decide_eq_true rfl)).trans (f10 19 (of_decide_eq_true rfl))) hI18
             have I205 : jI22 σ178 := jI22_fr ((congrFun (f180 22 (of_decide_eq_true rfl)) 0).trans (congrFun (f10 22 (of_decide_eq_true rfl)) 0)) ((f180 23 (of_decide_eq_true rfl)).trans (f10 23 (of_decide_eq_true rfl))) hI22
             exact by
              have I206 : jI31 σ178 := jI31_fr ((congrFun (f180 31 (of_decide_eq_true rfl)) 8).trans (congrFun (f10 31 (of_decide_eq_true rfl)) 8)) ((f180 33 (of_decide_eq_true rfl)).trans (f10 33 (of_decide_eq_true rfl))) ((f180 36 (of_decide_eq_true rfl)).trans (f10 36 (of_decide_eq_true rfl))) hI31
              have I207 : jI38 σ178 := jI38_fr ((congrFun (f180 38 (of_decide_eq_true rfl)) 0).trans (congrFun (f10 38 (of_decide_eq_true rfl)) 0)) ((congrFun (f180 38 (of_decide_eq_true rfl)) 1).trans (congrFun (f10 38 (of_decide_eq_true rfl)) 1)) ((f180 39 (of_decide_eq_true rfl)).trans (f10 39 (of_decide_eq_true rfl))) hI38
              have I208 : jI43 σ178 := jI43_fr ((congrFun (f180 43 (of_decide_eq_true rfl)) 8).trans (congrFun (f10 43 (of_decide_eq_true rfl)) 8)) hI43
              have I209 : jI47 σ178 := jI47_fr ((congrFun (f180 47 (of_decide_eq_true rfl)) 0).trans (congrFun (f10 47 (of_decide_eq_true rfl)) 0)) ((f180 48 (of_decide_eq_true rfl)).trans (f10 48 (of_decide_eq_true rfl))) ((f180 49 (of_decide_eq_true rfl)).trans (f10 49 (of_decide_eq_true rfl))) hI47
              have I210 : jI50 σ178 := jI50_fr ((f180 52 (of_decide_eq_true rfl)).trans (f10 52 (of_decide_eq_true rfl))) hI50
              have I211 : jI103 σ178 := jI103_fr ((f181 9 (of_decide_eq_true rfl)).trans (congrFun (f10 55 (of_decide_eq_true rfl)) 9)) hI103
              have I212 : jI104 σ178 := jI104_fr ((f181 10 (of_decide_eq_true rfl)).trans (congrFun (f10 55 (of_decide_eq_true rfl)) 10)) ((f181 12 (of_decide_eq_true rfl)).trans (congrFun (f10 55 (of_decide_eq_true rfl)) 12)) ((f181 13 (of_decide_eq_true rfl)).trans (congrFun (f10 55 (of_decide_eq_true rfl)) 13)) ((f180 62 (of_decide_eq_true rfl)).trans (f10 62 (of_decide_eq_true rfl))) ((f180 67 (of_decide_eq_true rfl)).trans (f10 67 (of_decide_eq_true rfl))) hI104
              have I213 : jI105 σ178 := jI105_fr ((f181 15 (of_decide_eq_true rfl)).trans (congrFun (f10 55 (of_decide_eq_true rfl)) 15)) ((f180 65 (of_decide_eq_true rfl)).trans (f10 65 (of_decide_eq_true rfl))) hI105
              have I214 : jI106 σ178 := jI106_fr ((f181 32 (of_decide_eq_true rfl)).trans (congrFun (f10 55 (of_decide_eq_true rfl)) 32)) ((f180 70 (of_decide_eq_true rfl)).trans (f10 70 (of_decide_eq_true rfl))) ((f180 71 (of_decide_eq_true rfl)).trans (f10 71 (of_decide_eq_true rfl))) ((f180 72 (of_decide_eq_true rfl)).trans (f10 72 (of_decide_eq_true rfl))) hI106
              have I215 : jI107 σ178 := jI107_fr ((f181 12 (of_decide_eq_true rfl)).trans (congrFun (f10 55 (of_decide_eq_true rfl)) 12)) ((f181 47 (of_decide_eq_true rfl)).trans (congrFun (f10 55 (of_decide_eq_true rfl)) 47)) ((f180 80 (of_decide_eq_true rfl)).trans (f10 80 (of_decide_eq_true rfl))) hI107
              have I216 : jI109 σ178 := jI109_fr ((f181 50 (of_decide_eq_true rfl)).trans (congrFun (f10 55 (of_decide_eq_true rfl)) 50)) hI109
              have I217 : jI110 σ178 := jI110_fr ((f180 86 (of_decide_eq_true rfl)).trans (f10 86 (of_decide_eq_true rfl))) ((f180 87 (of_decide_eq_true rfl)).trans (f10 87 (of_decide_eq_true rfl))) hI110
              have I218 : jI111 σ178 := jI111_fr ((f180 79 (of_decide_eq_true rfl)).trans (f10 79 (of_decide_eq_true rfl))) hI111
              have I219 : jI119 σ178 := jI119_fr ((f180 68 (of_decide_eq_true rfl)).trans (f10 68 (of_decide_eq_true rfl))) hI119
              have p220 : jKept σ178 := jKept.fr ((f180 75 (of_decide_eq_true rfl)).trans (f10 75 (of_decide_eq_true rfl))) ((f180 76 (of_decide_eq_true rfl)).trans (f10 76 (of_decide_eq_true rfl))) ((f180 77 (of_decide_eq_true rfl)).trans (f10 77 (of_decide_eq_true rfl))) hs_jKept
              have p221 : jBook σ178 := jBook.fr ((f181 47 (of_decide_eq_true rfl)).trans (congrFun (f10 55 (of_decide_eq_true rfl)) 47)) ((f181 10 (of_decide_eq_true rfl)).trans (congrFun (f10 55 (of_decide_eq_true rfl)) 10)) ((f180 81 (of_decide_eq_true rfl)).trans (f10 81 (of_decide_eq_true rfl))) hs_jBook
              have z222 : (σ178 38 0).toInt = (σ 38 0).toInt := (congrArg Int32.toInt (show σ178 38 0 = (σ 38 0) from ((congrFun (f180 38 (of_decide_eq_true rfl)) 0).trans (congrFun (f10 38 (of_decide_eq_true rfl)) 0))))
              have z223 : (σ178 55 32).toInt = (σ 55 32).toInt := (congrArg Int32.toInt (show σ178 55 32 = (σ 55 32) from ((f181 32 (of_decide_eq_true rfl)).trans (congrFun (f10 55 (of_decide_eq_true rfl)) 32))))
              exact by exact ih x199 σ178 τ _ _ ls (by have h9 := tx199; omega) ⟨I200, I201, I202, I203, I204, I205, I206, I207, I208, I209, I210, I182, I183, I211, I212, I213, I214, I215, I216, I217, I218, I219, p220, p221, (by omega)⟩ hP hS (lv_sub hl [0, 1, 2, 3] rfl)
          · obtain ⟨q231, k224, k225, k226, k227, k228, k229, k230⟩ := h187
            refine lv_pop hx hb dL_law_235 rfl ?_
            refine lv_goto (tgt := 1357) hx hb dL_law_236 (of_decide_eq_true rfl) ?_
            obtain ⟨x232, ex232⟩ : ∃ y : Int32, y = x0 + 6 := ⟨_, rfl⟩
            exact by
             have tx232 : x232.toInt = x0.toInt + 6 := (jadd ex232 rfl jz_6 (by omega) (by omega)).trans (by omega)
             refine lv_iinc (v := x232) (lv' := [(3, .int x232), (2, .ref (ad 55)), (1, .ref (ad 0)), (0, .ref b)]) hx hb dL_law_1357 hl (k := 0) rfl (by rw [ex232]; rfl) (of_decide_eq_true rfl) rfl (fun ls hl => ?_)
             refine lv_goto (tgt := 18) hx hb dL_law_1360 (of_decide_eq_true rfl) ?_
             have I233 : jI2 σ178 := jI2_fr (congrFun (f180 2 (of_decide_eq_true rfl)) 0) (congrFun (f180 2 (of_decide_eq_true rfl)) 1) (congrFun (f180 2 (of_decide_eq_true rfl)) 2) (congrFun (f180 2 (of_decide_eq_true rfl)) 3) (f180 6 (of_decide_eq_true rfl)) I12
             have I234 : jI9 σ178 := jI9_fr ((congrFun (f180 9 (of_decide_eq_true rfl)) 0).trans (congrFun (f10 9 (of_decide_eq_true rfl)) 0)) ((f180 10 (of_decide_eq_true rfl)).trans (f10 10 (of_decide_eq_true rfl))) ((f180 11 (of_decide_eq_true rfl)).trans (f10 11 (of_decide_eq_true rfl))) hI9
             have I235 : jI12 σ178 := jI12_fr ((congrFun (f180 12 (of_decide_eq_true rfl)) 0).trans (congrFun (f10 12 (of_decide_eq_true rfl)) 0)) ((f180 13 (of_decide_eq_true rfl)).trans (f10 13 (of_decide_eq_true rfl))) hI12
             have I236 : jI16 σ178 := jI16_fr ((congrFun (f180 16 (of_decide_eq_true rfl)) 0).trans (congrFun (f10 16 (of_decide_eq_true rfl)) 0)) ((congrFun (f180 16 (of_decide_eq_true rfl)) 1).trans (congrFun (f10 16 (of_decide_eq_true rfl)) 1)) ((congrFun (f180 16 (of_decide_eq_true rfl)) 2).trans (congrFun (f10 16 (of_decide_eq_true rfl)) 2)) ((f180 17 (of_decide_eq_true rfl)).trans (f10 17 (of_decide_eq_true rfl))) hI16
             have I237 : jI18 σ178 := jI18_fr ((congrFun (f180 18 (of_decide_eq_true rfl)) 0).trans (congrFun (f10 18 (of_decide_eq_true rfl)) 0)) ((f180 19 (of_decide_eq_true rfl)).trans (f10 19 (of_decide_eq_true rfl))) hI18
             have I238 : jI22 σ178 := jI22_fr ((congrFun (f180 22 (of_decide_eq_true rfl)) 0).trans (congrFun (f10 22 (of_decide_eq_true rfl)) 0)) ((f180 23 (of_decide_eq_true rfl)).trans (f10 23 (of_decide_eq_true rfl))) hI22
             exact by
              have I239 : jI31 σ178 := jI31_fr ((congrFun (f180 31 (of_decide_eq_true rfl)) 8).trans (congrFun (f10 31 (of_decide_eq_true rfl)) 8)) ((f180 33 (of_decide_eq_true rfl)).trans (f10 33 (of_decide_eq_true rfl))) ((f180 36 (of_decide_eq_true rfl)).trans (f10 36 (of_decide_eq_true rfl))) hI31
              have I240 : jI38 σ178 := jI38_fr ((congrFun (f180 38 (of_decide_eq_true rfl)) 0).trans (congrFun (f10 38 (of_decide_eq_true rfl)) 0)) ((congrFun (f180 38 (of_decide_eq_true rfl)) 1).trans (congrFun (f10 38 (of_decide_eq_true rfl)) 1)) ((f180 39 (of_decide_eq_true rfl)).trans (f10 39 (of_decide_eq_true rfl))) hI38
              have I241 : jI43 σ178 := jI43_fr ((congrFun (f180 43 (of_decide_eq_true rfl)) 8).trans (congrFun (f10 43 (of_decide_eq_true rfl)) 8)) hI43
              have I242 : jI47 σ178 := jI47_fr ((congrFun (f180 47 (of_decide_eq_true rfl)) 0).trans (congrFun (f10 47 (of_decide_eq_true rfl)) 0)) ((f180 48 (of_decide_eq_true rfl)).trans (f10 48 (of_decide_eq_true rfl))) ((f180 49 (of_decide_eq_true rfl)).trans (f10 49 (of_decide_eq_true rfl))) hI47
              have I243 : jI50 σ178 := jI50_fr ((f180 52 (of_decide_eq_true rfl)).trans (f10 52 (of_decide_eq_true rfl))) hI50
              have I244 : jI103 σ178 := jI103_fr ((f181 9 (of_decide_eq_true rfl)).trans (congrFun (f10 55 (of_decide_eq_true rfl)) 9)) hI103
              have I245 : jI104 σ178 := jI104_fr ((f181 10 (of_decide_eq_true rfl)).trans (congrFun (f10 55 (of_decide_eq_true rfl)) 10)) ((f181 12 (of_decide_eq_true rfl)).trans (congrFun (f10 55 (of_decide_eq_true rfl)) 12)) ((f181 13 (of_decide_eq_true rfl)).trans (congrFun (f10 55 (of_decide_eq_true rfl)) 13)) ((f180 62 (of_decide_eq_true rfl)).trans (f10 62 (of_decide_eq_true rfl))) ((f180 67 (of_decide_eq_true rfl)).trans (f10 67 (of_decide_eq_true rfl))) hI104
              have I246 : jI105 σ178 := jI105_fr ((f181 15 (of_decide_eq_true rfl)).trans (congrFun (f10 55 (of_decide_eq_true rfl)) 15)) ((f180 65 (of_decide_eq_true rfl)).trans (f10 65 (of_decide_eq_true rfl))) hI105
              have I247 : jI106 σ178 := jI106_fr ((f181 32 (of_decide_eq_true rfl)).trans (congrFun (f10 55 (of_decide_eq_true rfl)) 32)) ((f180 70 (of_decide_eq_true rfl)).trans (f10 70 (of_decide_eq_true rfl))) ((f180 71 (of_decide_eq_true rfl)).trans (f10 71 (of_decide_eq_true rfl))) ((f180 72 (of_decide_eq_true rfl)).trans (f10 72 (of_decide_eq_true rfl))) hI106
              have I248 : jI107 σ178 := jI107_fr ((f181 12 (of_decide_eq_true rfl)).trans (congrFun (f10 55 (of_decide_eq_true rfl)) 12)) ((f181 47 (of_decide_eq_true rfl)).trans (congrFun (f10 55 (of_decide_eq_true rfl)) 47)) ((f180 80 (of_decide_eq_true rfl)).trans (f10 80 (of_decide_eq_true rfl))) hI107
              have I249 : jI109 σ178 := jI109_fr ((f181 50 (of_decide_eq_true rfl)).trans (congrFun (f10 55 (of_decide_eq_true rfl)) 50)) hI109
              have I250 : jI110 σ178 := jI110_fr ((f180 86 (of_decide_eq_true rfl)).trans (f10 86 (of_decide_eq_true rfl))) ((f180 87 (of_decide_eq_true rfl)).trans (f10 87 (of_decide_eq_true rfl))) hI110
              have I251 : jI111 σ178 := jI111_fr ((f180 79 (of_decide_eq_true rfl)).trans (f10 79 (of_decide_eq_true rfl))) hI111
              have I252 : jI119 σ178 := jI119_fr ((f180 68 (of_decide_eq_true rfl)).trans (f10 68 (of_decide_eq_true rfl))) hI119
              have p253 : jKept σ178 := jKept.fr ((f180 75 (of_decide_eq_true rfl)).trans (f10 75 (of_decide_eq_true rfl))) ((f180 76 (of_decide_eq_true rfl)).trans (f10 76 (of_decide_eq_true rfl))) ((f180 77 (of_decide_eq_true rfl)).trans (f10 77 (of_decide_eq_true rfl))) hs_jKept
              have p254 : jBook σ178 := jBook.fr ((f181 47 (of_decide_eq_true rfl)).trans (congrFun (f10 55 (of_decide_eq_true rfl)) 47)) ((f181 10 (of_decide_eq_true rfl)).trans (congrFun (f10 55 (of_decide_eq_true rfl)) 10)) ((f180 81 (of_decide_eq_true rfl)).trans (f10 81 (of_decide_eq_true rfl))) hs_jBook
              have z255 : (σ178 38 0).toInt = (σ 38 0).toInt := (congrArg Int32.toInt (show σ178 38 0 = (σ 38 0) from ((congrFun (f180 38 (of_decide_eq_true rfl)) 0).trans (congrFun (f10 38 (of_decide_eq_true rfl)) 0))))
              have z256 : (σ178 55 32).toInt = (σ 55 32).toInt := (congrArg Int32.toInt (show σ178 55 32 = (σ 55 32) from ((f181 32 (of_decide_eq_true rfl)).trans (congrFun (f10 55 (of_decide_eq_true rfl)) 32))))
              exact by exact ih x232 σ178 τ _ _ ls (by have h9 := tx232; omega) ⟨I233, I234, I235, I236, I237, I238, I239, I240, I241, I242, I243, I182, I183, I244, I245, I246, I247, I248, I249, I250, I251, I252, p253, p254, (by omega)⟩ hP hS (lv_sub hl [0, 1, 2, 3] rfl)
set_option maxHeartbeats 4000000 in
set_option maxRecDepth 100000 in
theorem law_case_1 {p : Program} {e : Env} {s : State} {m : MethodId} {below : List Frame} {meth : Method} {c : Code} (l : Launch) {b L : Nat} {xs : Nat → Int32} {D : va_G} {cI cL : ClassId} {ad zz : Nat → Nat} (C0 : lw_At p s m meth c b L xs) (hJ : jD ad) (hA : ∀ q, jA ad q → s.heap.size ≤ q) (hK : jK D cI cL s) (hZ : jZ zz (fun q : Nat => s.heap.size ≤ q) s s.heap) {x0 : Int32} (hx0 : 0 ≤ x0.toInt) (hxL : x0.toInt + 6 ≤ (L : Int)) (hL : L ≤ 384) {σ : Nat → Nat → Int32} {τ : Nat → Nat → Int64} {H : Heap} {locs : List Loc} (hS : va_S (fun q : Nat => s.heap.size ≤ q) s.heap H locs) {ls : Array Slot} (hAll : jAll σ τ) (hP : jH D cI cL ad σ τ H) (hl : lv_has ls 4 [(3, .int x0), (2, .ref (ad 55)), (1, .ref (ad 0)), (0, .ref b)]) (ih : ∀ (x1 : Int32) (σ : Nat → Nat → Int32) (τ : Nat → Nat → Int64) (H : Heap) (locs : List Loc) (ls : Array Slot), x1.toInt = x0.toInt + 6 → jAll σ τ → jH D cI cL ad σ τ H → va_S (fun q : Nat => s.heap.size ≤ q) s.heap H locs → lv_has ls 4 [(3, .int x1), (2, .ref (ad 55)), (1, .ref (ad 0)), (0, .ref b)] → W p l e room_1 s m #[Value.ref b] below meth c H locs 90 348600 (lw_Z below #[Value.ref b] s) (F0 m 18 ls [])) : W p l e room_1 s m #[Value.ref b] below meth c H locs 90 348600 (lw_Z below #[Value.ref b] s) (F0 m 239 ls []) := by
  obtain ⟨hx, hb, hr, hml, hown, hts0, hX, hbl, hlocks, hgv⟩ := C0
  have hts : ∀ w ∈ wsL_law, w.before #[Value.ref b] s = true := fun w h => hts0 w (wsL_law_in w h)
  have hbA : ¬ (fun q : Nat => s.heap.size ≤ q) b := Nat.not_le.mpr hbl
  have hown : s.vm.findClass RL = some m.cls := hown
  obtain ⟨hI2, hI9, hI12, hI16, hI18, hI22, hI31, hI38, hI43, hI47, hI50, hI101, hI102, hI103, hI104, hI105, hI106, hI107, hI109, hI110, hI111, hI119, hs_jKept, hs_jBook, ht0⟩ := hAll
  have hL9 : (L : Int) ≤ 384 := by omega
  refine lv_aload_n hx hb dL_law_239 rfl (lv_at hl 2 rfl) ?_
  refine lv_aload_n hx hb dL_law_240 rfl (lv_at hl 3 rfl) ?_
  refine lv_iload_n hx hb dL_law_241 rfl (lv_at hl 0 rfl) ?_
  refine lv_iconst (v := 1) hx hb dL_law_242 (of_decide_eq_true rfl) ?_
  have g1 := jrg (rfl : x0.toInt = x0.toInt)
  refine lv_iadd hx hb dL_law_243 ?_
  refine lv_topi (fun x2 ex2 => ?_)
  exact by
   have tx2 : x2.toInt = x0.toInt + 1 := (jadd ex2 rfl jz_1 (by omega) (by omega)).trans (by omega)
   refine va_sld hx hb hX hbl hbA hS (jin tx2 (by omega) (by omega)) dL_law_244 ?_
   have g3 := jrg (rfl : (xs x2.toNatClampNeg).toInt = (xs x2.toNatClampNeg).toInt)
   refine lv_aload_n hx hb dL_law_245 rfl (lv_at hl 3 rfl) ?_
   refine lv_iload_n hx hb dL_law_246 rfl (lv_at hl 0 rfl) ?_
   refine lv_iconst (v := 2) hx hb dL_law_247 (of_decide_eq_true rfl) ?_
   refine lv_iadd hx hb dL_law_248 ?_
   refine lv_topi (fun x4 ex4 => ?_)
   have tx4 : x4.toInt = x0.toInt + 2 := (jadd ex4 rfl jz_2 (by omega) (by omega)).trans (by omega)
   exact by
    refine va_sld hx hb hX hbl hbA hS (jin tx4 (by omega) (by omega)) dL_law_249 ?_
    have g5 := jrg (rfl : (xs x4.toNatClampNeg).toInt = (xs x4.toNatClampNeg).toInt)
    refine lv_aload_n hx hb dL_law_250 rfl (lv_at hl 3 rfl) ?_
    refine lv_iload_n hx hb dL_law_251 rfl (lv_at hl 0 rfl) ?_
    refine lv_iconst (v := 3) hx hb dL_law_252 (of_decide_eq_true rfl) ?_
    refine lv_iadd hx hb dL_law_253 ?_
    refine lv_topi (fun x6 ex6 => ?_)
    have tx6 : x6.toInt = x0.toInt + 3 := (jadd ex6 rfl jz_3 (by omega) (by omega)).trans (by omega)
    refine va_sld hx hb hX hbl hbA hS (jin tx6 (by omega) (by omega)) dL_law_254 ?_
    exact by
     have g7 := jrg (rfl : (xs x6.toNatClampNeg).toInt = (xs x6.toNatClampNeg).toInt)
     refine jcallV (As := [.int (xs x2.toNatClampNeg), .int (xs x4.toNatClampNeg), .int (xs x6.toNatClampNeg)]) (rest := []) ⟨hx, hb, hml, hown, hts⟩ hK hP hA hS hZ (c_X11_edge l D cI cL ad zz hJ σ τ (xs x2.toNatClampNeg) ((xs x2.toNatClampNeg).toInt) rfl (xs x4.toNatClampNeg) ((xs x4.toNatClampNeg).toInt) rfl (xs x6.toNatClampNeg) ((xs x6.toNatClampNeg).toInt) rfl hI2) cw_RL_18 (jc_0 cI cL ad σ τ) rfl ⟨Nat.le_of_ble_eq_true rfl, Nat.le_of_ble_eq_true rfl⟩ rfl rfl rfl hl.1 rfl (Nat.le_of_ble_eq_true rfl) dL_law_255 ⟨Nat.le_of_ble_eq_true rfl, Nat.le_of_ble_eq_true rfl⟩ (fun r9 σ8 τ8 H locs h8 hP hS => ?_)
     obtain ⟨rfl, f10, f11, I12, h8⟩ := h8
     rcases h8 with h14 | h15
     · obtain ⟨q20, k16, k17, k18, k19⟩ := h14
       have q20 := q20.symm
       subst q20
       refine lv_pop hx hb dL_law_258 rfl ?_
       refine lv_aload_n hx hb dL_law_259 rfl (lv_at hl 1 rfl) ?_
       refine lv_aload_n hx hb dL_law_260 rfl (lv_at hl 3 rfl) ?_
       refine lv_iload_n hx hb dL_law_261 rfl (lv_at hl 0 rfl) ?_
       refine lv_iconst (v := 1) hx hb dL_law_262 (of_decide_eq_true rfl) ?_
       refine lv_iadd hx hb dL_law_263 ?_
       refine jtopr ex2.symm ?_
       exact by
        refine va_sld hx hb hX hbl hbA hS (jin tx2 (by omega) (by omega)) dL_law_264 ?_
        refine lv_aload_n hx hb dL_law_265 rfl (lv_at hl 3 rfl) ?_
        refine lv_iload_n hx hb dL_law_266 rfl (lv_at hl 0 rfl) ?_
        refine lv_iconst (v := 2) hx hb dL_law_267 (of_decide_eq_true rfl) ?_
        refine lv_iadd hx hb dL_law_268 ?_
        refine jtopr ex4.symm ?_
        refine va_sld hx hb hX hbl hbA hS (jin tx4 (by omega) (by omega)) dL_law_269 ?_
        refine lv_aload_n hx hb dL_law_270 rfl (lv_at hl 3 rfl) ?_
        refine lv_iload_n hx hb dL_law_271 rfl (lv_at hl 0 rfl) ?_
        exact by
         refine lv_iconst (v := 3) hx hb dL_law_272 (of_decide_eq_true rfl) ?_
         refine lv_iadd hx hb dL_law_273 ?_
         refine jtopr ex6.symm ?_
         refine va_sld hx hb hX hbl hbA hS (jin tx6 (by omega) (by omega)) dL_law_274 ?_
         have I21 : jI101 σ8 := jI101_fr (congrFun (f10 55 (of_decide_eq_true rfl)) 4) (congrFun (f10 55 (of_decide_eq_true rfl)) 5) (f10 56 (of_decide_eq_true rfl)) (f10 57 (of_decide_eq_true rfl)) (f10 58 (of_decide_eq_true rfl)) (f10 59 (of_decide_eq_true rfl)) hI101
         have I22 : jI102 σ8 := jI102_fr (congrFun (f10 55 (of_decide_eq_true rfl)) 6) (f10 60 (of_decide_eq_true rfl)) (f10 61 (of_decide_eq_true rfl)) hI102
         have z23 : (σ8 55 5).toInt = (σ 55 5).toInt := (congrArg Int32.toInt (show σ8 55 5 = (σ 55 5) from (congrFun (f10 55 (of_decide_eq_true rfl)) 5)))
         have z24 : (σ8 55 4).toInt = (σ 55 4).toInt := (congrArg Int32.toInt (show σ8 55 4 = (σ 55 4) from (congrFun (f10 55 (of_decide_eq_true rfl)) 4)))
         refine jcallV (As := [.int (xs x2.toNatClampNeg), .int (xs x4.toNatClampNeg), .int (xs x6.toNatClampNeg)]) (rest := []) ⟨hx, hb, hml, hown, hts⟩ hK hP hA hS hZ (c_X12_edge l D cI cL ad zz hJ σ8 τ (xs x2.toNatClampNeg) ((xs x2.toNatClampNeg).toInt) rfl (xs x4.toNatClampNeg) ((xs x4.toNatClampNeg).toInt) rfl (xs x6.toNatClampNeg) ((xs x6.toNatClampNeg).toInt) rfl I21 I22) cw_RL_21 (jc_55 cI cL ad σ8 τ) rfl ⟨Nat.le_of_ble_eq_true rfl, Nat.le_of_ble_eq_true rfl⟩ rfl rfl rfl hl.1 rfl (Nat.le_of_ble_eq_true rfl) dL_law_275 ⟨Nat.le_of_ble_eq_true rfl, Nat.le_of_ble_eq_true rfl⟩ (fun r26 σ25 τ25 H locs h25 hP hS => ?_)
         exact by
          obtain ⟨rfl, f27, f28, I29, h25⟩ := h25
          rcases h25 with h31 | h32
          · obtain ⟨q37, k33, k34, k35, k36⟩ := h31
            have q37 := q37.symm
            subst q37
            refine lv_pop hx hb dL_law_278 rfl ?_
            refine lv_goto (tgt := 1357) hx hb dL_law_279 (of_decide_eq_true rfl) ?_
            obtain ⟨x38, ex38⟩ : ∃ y : Int32, y = x0 + 6 := ⟨_, rfl⟩
            have tx38 : x38.toInt = x0.toInt + 6 := (jadd ex38 rfl jz_6 (by omega) (by omega)).trans (by omega)
            exact by
             refine lv_iinc (v := x38) (lv' := [(3, .int x38), (2, .ref (ad 55)), (1, .ref (ad 0)), (0, .ref b)]) hx hb dL_law_1357 hl (k := 0) rfl (by rw [ex38]; rfl) (of_decide_eq_true rfl) rfl (fun ls hl => ?_)
             refine lv_goto (tgt := 18) hx hb dL_law_1360 (of_decide_eq_true rfl) ?_
             have I39 : jI2 σ25 := jI2_fr (congrFun (f27 2 (of_decide_eq_true rfl)) 0) (congrFun (f27 2 (of_decide_eq_true rfl)) 1) (congrFun (f27 2 (of_decide_eq_true rfl)) 2) (congrFun (f27 2 (of_decide_eq_true rfl)) 3) (f27 6 (of_decide_eq_true rfl)) I12
             have I40 : jI9 σ25 := jI9_fr ((congrFun (f27 9 (of_decide_eq_true rfl)) 0).trans (congrFun (f10 9 (of_decide_eq_true rfl)) 0)) ((f27 10 (of_decide_eq_true rfl)).trans (f10 10 (of_decide_eq_true rfl))) ((f27 11 (of_decide_eq_true rfl)).trans (f10 11 (of_decide_eq_true rfl))) hI9
             have I41 : jI12 σ25 := jI12_fr ((congrFun (f27 12 (of_decide_eq_true rfl)) 0).trans (congrFun (f10 12 (of_decide_eq_true rfl)) 0)) ((f27 13 (of_decide_eq_true rfl)).trans (f10 13 (of_decide_eq_true rfl))) hI12
             have I42 : jI16 σ25 := jI16_fr ((congrFun (f27 16 (of_decide_eq_true rfl)) 0).trans (congrFun (f10 16 (of_decide_eq_true rfl)) 0)) ((congrFun (f27 16 (of_decide_eq_true rfl)) 1).trans (congrFun (f10 16 (of_decide_eq_true rfl)) 1)) ((congrFun (f27 16 (of_decide_eq_true rfl)) 2).trans (congrFun (f10 16 (of_decide_eq_true rfl)) 2)) ((f27 17 (of_decide_eq_true rfl)).trans (f10 17 (of_decide_eq_true rfl))) hI16
             have I43 : jI18 σ25 := jI18_fr ((congrFun (f27 18 (of_decide_eq_true rfl)) 0).trans (congrFun (f10 18 (of_decide_eq_true rfl)) 0)) ((f27 19 (of_decide_eq_true rfl)).trans (f10 19 (of_decide_eq_true rfl))) hI18
             have I44 : jI22 σ25 := jI22_fr ((congrFun (f27 22 (of_decide_eq_true rfl)) 0).trans (congrFun (f10 22 (of_decide_eq_true rfl)) 0)) ((f27 23 (of_decide_eq_true rfl)).trans (f10 23 (of_decide_eq_true rfl))) hI22
             have I45 : jI31 σ25 := jI31_fr ((congrFun (f27 31 (of_decide_eq_true rfl)) 8).trans (congrFun (f10 31 (of_decide_eq_true rfl)) 8)) ((f27 33 (of_decide_eq_true rfl)).trans (f10 33 (of_decide_eq_true rfl))) ((f27 36 (of_decide_eq_true rfl)).trans (f10 36 (of_decide_eq_true rfl))) hI31
             have I46 : jI38 σ25 := jI38_fr ((congrFun (f27 38 (of_decide_eq_true rfl)) 0).trans (congrFun (f10 38 (of_decide_eq_true rfl)) 0)) ((congrFun (f27 38 (of_decide_eq_true rfl)) 1).trans (congrFun (f10 38 (of_decide_eq_true rfl)) 1)) ((f27 39 (of_decide_eq_true rfl)).trans (f10 39 (of_decide_eq_true rfl))) hI38
             have I47 : jI43 σ25 := jI43_fr ((congrFun (f27 43 (of_decide_eq_true rfl)) 8).trans (congrFun (f10 43 (of_decide_eq_true rfl)) 8)) hI43
             have I48 : jI47 σ25 := jI47_fr ((congrFun (f27 47 (of_decide_eq_true rfl)) 0).trans (congrFun (f10 47 (of_decide_eq_true rfl)) 0)) ((f27 48 (of_decide_eq_true rfl)).trans (f10 48 (of_decide_eq_true rfl))) ((f27 49 (of_decide_eq_true rfl)).trans (f10 49 (of_decide_eq_true rfl))) hI47
             have I49 : jI50 σ25 := jI50_fr ((f27 52 (of_decide_eq_true rfl)).trans (f10 52 (of_decide_eq_true rfl))) hI50
             have I50 : jI102 σ25 := jI102_fr (f28 6 (of_decide_eq_true rfl)) (f27 60 (of_decide_eq_true rfl)) (f27 61 (of_decide_eq_true rfl)) I22
             have I51 : jI103 σ25 := jI103_fr ((f28 9 (of_decide_eq_true rfl)).trans (congrFun (f10 55 (of_decide_eq_true rfl)) 9)) hI103
             have I52 : jI104 σ25 := jI104_fr ((f28 10 (of_decide_eq_true rfl)).trans (congrFun (f10 55 (of_decide_eq_true rfl)) 10)) ((f28 12 (of_decide_eq_true rfl)).trans (congrFun (f10 55 (of_decide_eq_true rfl)) 12)) ((f28 13 (of_decide_eq_true rfl)).trans (congrFun (f10 55 (of_decide_eq_true rfl)) 13)) ((f27 62 (of_decide_eq_true rfl)).trans (f10 62 (of_decide_eq_true rfl))) ((f27 67 (of_decide_eq_true rfl)).trans (f10 67 (of_decide_eq_true rfl))) hI104
             have I53 : jI105 σ25 := jI105_fr ((f28 15 (of_decide_eq_true rfl)).trans (congrFun (f10 55 (of_decide_eq_true rfl)) 15)) ((f27 65 (of_decide_eq_true rfl)).trans (f10 65 (of_decide_eq_true rfl))) hI105
             have I54 : jI106 σ25 := jI106_fr ((f28 32 (of_decide_eq_true rfl)).trans (congrFun (f10 55 (of_decide_eq_true rfl)) 32)) ((f27 70 (of_decide_eq_true rfl)).trans (f10 70 (of_decide_eq_true rfl))) ((f27 71 (of_decide_eq_true rfl)).trans (f10 71 (of_decide_eq_true rfl))) ((f27 72 (of_decide_eq_true rfl)).trans (f10 72 (of_decide_eq_true rfl))) hI106
             have I55 : jI107 σ25 := jI107_fr ((f28 12 (of_decide_eq_true rfl)).trans (congrFun (f10 55 (of_decide_eq_true rfl)) 12)) ((f28 47 (of_decide_eq_true rfl)).trans (congrFun (f10 55 (of_decide_eq_true rfl)) 47)) ((f27 80 (of_decide_eq_true rfl)).trans (f10 80 (of_decide_eq_true rfl))) hI107
             have I56 : jI109 σ25 := jI109_fr ((f28 50 (of_decide_eq_true rfl)).trans (congrFun (f10 55 (of_decide_eq_true rfl)) 50)) hI109
             have I57 : jI110 σ25 := jI110_fr ((f27 86 (of_decide_eq_true rfl)).trans (f10 86 (of_decide_eq_true rfl))) ((f27 87 (of_decide_eq_true rfl)).trans (f10 87 (of_decide_eq_true rfl))) hI110
             have I58 : jI111 σ25 := jI111_fr ((f27 79 (of_decide_eq_true rfl)).trans (f10 79 (of_decide_eq_true rfl))) hI111
             have I59 : jI119 σ25 := jI119_fr ((f27 68 (of_decide_eq_true rfl)).trans (f10 68 (of_decide_eq_true rfl))) hI119
             have p60 : jKept σ25 := jKept.fr ((f27 75 (of_decide_eq_true rfl)).trans (f10 75 (of_decide_eq_true rfl))) ((f27 76 (of_decide_eq_true rfl)).trans (f10 76 (of_decide_eq_true rfl))) ((f27 77 (of_decide_eq_true rfl)).trans (f10 77 (of_decide_eq_true rfl))) hs_jKept
             have p61 : jBook σ25 := jBook.fr ((f28 47 (of_decide_eq_true rfl)).trans (congrFun (f10 55 (of_decide_eq_true rfl)) 47)) ((f28 10 (of_decide_eq_true rfl)).trans (congrFun (f10 55 (of_decide_eq_true rfl)) 10)) ((f27 81 (of_decide_eq_true rfl)).trans (f10 81 (of_decide_eq_true rfl))) hs_jBook
             have z62 : (σ25 38 0).toInt = (σ 38 0).toInt := (congrArg Int32.toInt (show σ25 38 0 = (σ 38 0) from ((congrFun (f27 38 (of_decide_eq_true rfl)) 0).trans (congrFun (f10 38 (of_decide_eq_true rfl)) 0))))
             have z63 : (σ25 55 32).toInt = (σ 55 32).toInt := (congrArg Int32.toInt (show σ25 55 32 = (σ 55 32) from ((f28 32 (of_decide_eq_true rfl)).trans (congrFun (f10 55 (of_decide_eq_true rfl)) 32))))
             exact by exact ih x38 σ25 τ _ _ ls (by have h9 := tx38; omega) ⟨I39, I40, I41, I42, I43, I44, I45, I46, I47, I48, I49, I29, I50, I51, I52, I53, I54, I55, I56, I57, I58, I59, p60, p61, (by omega)⟩ hP hS (lv_sub hl [0, 1, 2, 3] rfl)
          · obtain ⟨q65, k64⟩ := h32
            refine lv_pop hx hb dL_law_278 rfl ?_
            refine lv_goto (tgt := 1357) hx hb dL_law_279 (of_decide_eq_true rfl) ?_
            obtain ⟨x66, ex66⟩ : ∃ y : Int32, y = x0 + 6 := ⟨_, rfl⟩
            exact by
             have tx66 : x66.toInt = x0.toInt + 6 := (jadd ex66 rfl jz_6 (by omega) (by omega)).trans (by omega)
             refine lv_iinc (v := x66) (lv' := [(3, .int x66), (2, .ref (ad 55)), (1, .ref (ad 0)), (0, .ref b)]) hx hb dL_law_1357 hl (k := 0) rfl (by rw [ex66]; rfl) (of_decide_eq_true rfl) rfl (fun ls hl => ?_)
             refine lv_goto (tgt := 18) hx hb dL_law_1360 (of_decide_eq_true rfl) ?_
             have I67 : jI2 σ25 := jI2_fr (congrFun (f27 2 (of_decide_eq_true rfl)) 0) (congrFun (f27 2 (of_decide_eq_true rfl)) 1) (congrFun (f27 2 (of_decide_eq_true rfl)) 2) (congrFun (f27 2 (of_decide_eq_true rfl)) 3) (f27 6 (of_decide_eq_true rfl)) I12
             have I68 : jI9 σ25 := jI9_fr ((congrFun (f27 9 (of_decide_eq_true rfl)) 0).trans (congrFun (f10 9 (of_decide_eq_true rfl)) 0)) ((f27 10 (of_decide_eq_true rfl)).trans (f10 10 (of_decide_eq_true rfl))) ((f27 11 (of_decide_eq_true rfl)).trans (f10 11 (of_decide_eq_true rfl))) hI9
             have I69 : jI12 σ25 := jI12_fr ((congrFun (f27 12 (of_decide_eq_true rfl)) 0).trans (congrFun (f10 12 (of_decide_eq_true rfl)) 0)) ((f27 13 (of_decide_eq_true rfl)).trans (f10 13 (of_decide_eq_true rfl))) hI12
             have I70 : jI16 σ25 := jI16_fr ((congrFun (f27 16 (of_decide_eq_true rfl)) 0).trans (congrFun (f10 16 (of_decide_eq_true rfl)) 0)) ((congrFun (f27 16 (of_decide_eq_true rfl)) 1).trans (congrFun (f10 16 (of_decide_eq_true rfl)) 1)) ((congrFun (f27 16 (of_decide_eq_true rfl)) 2).trans (congrFun (f10 16 (of_decide_eq_true rfl)) 2)) ((f27 17 (of_decide_eq_true rfl)).trans (f10 17 (of_decide_eq_true rfl))) hI16
             have I71 : jI18 σ25 := jI18_fr ((congrFun (f27 18 (of_decide_eq_true rfl)) 0).trans (congrFun (f10 18 (of_decide_eq_true rfl)) 0)) ((f27 19 (of_decide_eq_true rfl)).trans (f10 19 (of_decide_eq_true rfl))) hI18
             have I72 : jI22 σ25 := jI22_fr ((congrFun (f27 22 (of_decide_eq_true rfl)) 0).trans (congrFun (f10 22 (of_decide_eq_true rfl)) 0)) ((f27 23 (of_decide_eq_true rfl)).trans (f10 23 (of_decide_eq_true rfl))) hI22
             exact by
              have I73 : jI31 σ25 := jI31_fr ((congrFun (f27 31 (of_decide_eq_true rfl)) 8).trans (congrFun (f10 31 (of_decide_eq_true rfl)) 8)) ((f27 33 (of_decide_eq_true rfl)).trans (f10 33 (of_decide_eq_true rfl))) ((f27 36 (of_decide_eq_true rfl)).trans (f10 36 (of_decide_eq_true rfl))) hI31
              have I74 : jI38 σ25 := jI38_fr ((congrFun (f27 38 (of_decide_eq_true rfl)) 0).trans (congrFun (f10 38 (of_decide_eq_true rfl)) 0)) ((congrFun (f27 38 (of_decide_eq_true rfl)) 1).trans (congrFun (f10 38 (of_decide_eq_true rfl)) 1)) ((f27 39 (of_decide_eq_true rfl)).trans (f10 39 (of_decide_eq_true rfl))) hI38
              have I75 : jI43 σ25 := jI43_fr ((congrFun (f27 43 (of_decide_eq_true rfl)) 8).trans (congrFun (f10 43 (of_decide_eq_true rfl)) 8)) hI43
              have I76 : jI47 σ25 := jI47_fr ((congrFun (f27 47 (of_decide_eq_true rfl)) 0).trans (congrFun (f10 47 (of_decide_eq_true rfl)) 0)) ((f27 48 (of_decide_eq_true rfl)).trans (f10 48 (of_decide_eq_true rfl))) ((f27 49 (of_decide_eq_true rfl)).trans (f10 49 (of_decide_eq_true rfl))) hI47
              have I77 : jI50 σ25 := jI50_fr ((f27 52 (of_decide_eq_true rfl)).trans (f10 52 (of_decide_eq_true rfl))) hI50
              have I78 : jI102 σ25 := jI102_fr (f28 6 (of_decide_eq_true rfl)) (f27 60 (of_decide_eq_true rfl)) (f27 61 (of_decide_eq_true rfl)) I22
              have I79 : jI103 σ25 := jI103_fr ((f28 9 (of_decide_eq_true rfl)).trans (congrFun (f10 55 (of_decide_eq_true rfl)) 9)) hI103
              have I80 : jI104 σ25 := jI104_fr ((f28 10 (of_decide_eq_true rfl)).trans (congrFun (f10 55 (of_decide_eq_true rfl)) 10)) ((f28 12 (of_decide_eq_true rfl)).trans (congrFun (f10 55 (of_decide_eq_true rfl)) 12)) ((f28 13 (of_decide_eq_true rfl)).trans (congrFun (f10 55 (of_decide_eq_true rfl)) 13)) ((f27 62 (of_decide_eq_true rfl)).trans (f10 62 (of_decide_eq_true rfl))) ((f27 67 (of_decide_eq_true rfl)).trans (f10 67 (of_decide_eq_true rfl))) hI104
              have I81 : jI105 σ25 := jI105_fr ((f28 15 (of_decide_eq_true rfl)).trans (congrFun (f10 55 (of_decide_eq_true rfl)) 15)) ((f27 65 (of_decide_eq_true rfl)).trans (f10 65 (of_decide_eq_true rfl))) hI105
              have I82 : jI106 σ25 := jI106_fr ((f28 32 (of_decide_eq_true rfl)).trans (congrFun (f10 55 (of_decide_eq_true rfl)) 32)) ((f27 70 (of_decide_eq_true rfl)).trans (f10 70 (of_decide_eq_true rfl))) ((f27 71 (of_decide_eq_true rfl)).trans (f10 71 (of_decide_eq_true rfl))) ((f27 72 (of_decide_eq_true rfl)).trans (f10 72 (of_decide_eq_true rfl))) hI106
              have I83 : jI107 σ25 := jI107_fr ((f28 12 (of_decide_eq_true rfl)).trans (congrFun (f10 55 (of_decide_eq_true rfl)) 12)) ((f28 47 (of_decide_eq_true rfl)).trans (congrFun (f10 55 (of_decide_eq_true rfl)) 47)) ((f27 80 (of_decide_eq_true rfl)).trans (f10 80 (of_decide_eq_true rfl))) hI107
              have I84 : jI109 σ25 := jI109_fr ((f28 50 (of_decide_eq_true rfl)).trans (congrFun (f10 55 (of_decide_eq_true rfl)) 50)) hI109
              have I85 : jI110 σ25 := jI110_fr ((f27 86 (of_decide_eq_true rfl)).trans (f10 86 (of_decide_eq_true rfl))) ((f27 87 (of_decide_eq_true rfl)).trans (f10 87 (of_decide_eq_true rfl))) hI110
              have I86 : jI111 σ25 := jI111_fr ((f27 79 (of_decide_eq_true rfl)).trans (f10 79 (of_decide_eq_true rfl))) hI111
              have I87 : jI119 σ25 := jI119_fr ((f27 68 (of_decide_eq_true rfl)).trans (f10 68 (of_decide_eq_true rfl))) hI119
              have p88 : jKept σ25 := jKept.fr ((f27 75 (of_decide_eq_true rfl)).trans (f10 75 (of_decide_eq_true rfl))) ((f27 76 (of_decide_eq_true rfl)).trans (f10 76 (of_decide_eq_true rfl))) ((f27 77 (of_decide_eq_true rfl)).trans (f10 77 (of_decide_eq_true rfl))) hs_jKept
              have p89 : jBook σ25 := jBook.fr ((f28 47 (of_decide_eq_true rfl)).trans (congrFun (f10 55 (of_decide_eq_true rfl)) 47)) ((f28 10 (of_decide_eq_true rfl)).trans (congrFun (f10 55 (of_decide_eq_true rfl)) 10)) ((f27 81 (of_decide_eq_true rfl)).trans (f10 81 (of_decide_eq_true rfl))) hs_jBook
              have z90 : (σ25 38 0).toInt = (σ 38 0).toInt := (congrArg Int32.toInt (show σ25 38 0 = (σ 38 0) from ((congrFun (f27 38 (of_decide_eq_true rfl)) 0).trans (congrFun (f10 38 (of_decide_eq_true rfl)) 0))))
              have z91 : (σ25 55 32).toInt = (σ 55 32).toInt := (congrArg Int32.toInt (show σ25 55 32 = (σ 55 32) from ((f28 32 (of_decide_eq_true rfl)).trans (congrFun (f10 55 (of_decide_eq_true rfl)) 32))))
              exact by exact ih x66 σ25 τ _ _ ls (by have h9 := tx66; omega) ⟨I67, I68, I69, I70, I71, I72, I73, I74, I75, I76, I77, I29, I78, I79, I80, I81, I82, I83, I84, I85, I86, I87, p88, p89, (by omega)⟩ hP hS (lv_sub hl [0, 1, 2, 3] rfl)
     · obtain ⟨q93, k92⟩ := h15
       refine lv_pop hx hb dL_law_258 rfl ?_
       refine lv_aload_n hx hb dL_law_259 rfl (lv_at hl 1 rfl) ?_
       refine lv_aload_n hx hb dL_law_260 rfl (lv_at hl 3 rfl) ?_
       refine lv_iload_n hx hb dL_law_261 rfl (lv_at hl 0 rfl) ?_
       refine lv_iconst (v := 1) hx hb dL_law_262 (of_decide_eq_true rfl) ?_
       refine lv_iadd hx hb dL_law_263 ?_
       refine jtopr ex2.symm ?_
       exact by
        refine va_sld hx hb hX hbl hbA hS (jin tx2 (by omega) (by omega)) dL_law_264 ?_
        refine lv_aload_n hx hb dL_law_265 rfl (lv_at hl 3 rfl) ?_
        refine lv_iload_n hx hb dL_law_266 rfl (lv_at hl 0 rfl) ?_
        refine lv_iconst (v := 2) hx hb dL_law_267 (of_decide_eq_true rfl) ?_
        refine lv_iadd hx hb dL_law_268 ?_
        refine jtopr ex4.symm ?_
        refine va_sld hx hb hX hbl hbA hS (jin tx4 (by omega) (by omega)) dL_law_269 ?_
        refine lv_aload_n hx hb dL_law_270 rfl (lv_at hl 3 rfl) ?_
        refine lv_iload_n hx hb dL_law_271 rfl (lv_at hl 0 rfl) ?_
        exact by
         refine lv_iconst (v := 3) hx hb dL_law_272 (of_decide_eq_true rfl) ?_
         refine lv_iadd hx hb dL_law_273 ?_
         refine jtopr ex6.symm ?_
         refine va_sld hx hb hX hbl hbA hS (jin tx6 (by omega) (by omega)) dL_law_274 ?_
         have I94 : jI101 σ8 := jI101_fr (congrFun (f10 55 (of_decide_eq_true rfl)) 4) (congrFun (f10 55 (of_decide_eq_true rfl)) 5) (f10 56 (of_decide_eq_true rfl)) (f10 57 (of_decide_eq_true rfl)) (f10 58 (of_decide_eq_true rfl)) (f10 59 (of_decide_eq_true rfl)) hI101
         have I95 : jI102 σ8 := jI102_fr (congrFun (f10 55 (of_decide_eq_true rfl)) 6) (f10 60 (of_decide_eq_true rfl)) (f10 61 (of_decide_eq_true rfl)) hI102
         have z96 : (σ8 55 5).toInt = (σ 55 5).toInt := (congrArg Int32.toInt (show σ8 55 5 = (σ 55 5) from (congrFun (f10 55 (of_decide_eq_true rfl)) 5)))
         have z97 : (σ8 55 4).toInt = (σ 55 4).toInt := (congrArg Int32.toInt (show σ8 55 4 = (σ 55 4) from (congrFun (f10 55 (of_decide_eq_true rfl)) 4)))
         refine jcallV (As := [.int (xs x2.toNatClampNeg), .int (xs x4.toNatClampNeg), .int (xs x6.toNatClampNeg)]) (rest := []) ⟨hx, hb, hml, hown, hts⟩ hK hP hA hS hZ (c_X12_edge l D cI cL ad zz hJ σ8 τ (xs x2.toNatClampNeg) ((xs x2.toNatClampNeg).toInt) rfl (xs x4.toNatClampNeg) ((xs x4.toNatClampNeg).toInt) rfl (xs x6.toNatClampNeg) ((xs x6.toNatClampNeg).toInt) rfl I94 I95) cw_RL_21 (jc_55 cI cL ad σ8 τ) rfl ⟨Nat.le_of_ble_eq_true rfl, Nat.le_of_ble_eq_true rfl⟩ rfl rfl rfl hl.1 rfl (Nat.le_of_ble_eq_true rfl) dL_law_275 ⟨Nat.le_of_ble_eq_true rfl, Nat.le_of_ble_eq_true rfl⟩ (fun r99 σ98 τ98 H locs h98 hP hS => ?_)
         exact by
          obtain ⟨rfl, f100, f101, I102, h98⟩ := h98
          rcases h98 with h104 | h105
          · obtain ⟨q110, k106, k107, k108, k109⟩ := h104
            have q110 := q110.symm
            subst q110
            refine lv_pop hx hb dL_law_278 rfl ?_
            refine lv_goto (tgt := 1357) hx hb dL_law_279 (of_decide_eq_true rfl) ?_
            obtain ⟨x111, ex111⟩ : ∃ y : Int32, y = x0 + 6 := ⟨_, rfl⟩
            have tx111 : x111.toInt = x0.toInt + 6 := (jadd ex111 rfl jz_6 (by omega) (by omega)).trans (by omega)
            exact by
             refine lv_iinc (v := x111) (lv' := [(3, .int x111), (2, .ref (ad 55)), (1, .ref (ad 0)), (0, .ref b)]) hx hb dL_law_1357 hl (k := 0) rfl (by rw [ex111]; rfl) (of_decide_eq_true rfl) rfl (fun ls hl => ?_)
             refine lv_goto (tgt := 18) hx hb dL_law_1360 (of_decide_eq_true rfl) ?_
             have I112 : jI2 σ98 := jI2_fr (congrFun (f100 2 (of_decide_eq_true rfl)) 0) (congrFun (f100 2 (of_decide_eq_true rfl)) 1) (congrFun (f100 2 (of_decide_eq_true rfl)) 2) (congrFun (f100 2 (of_decide_eq_true rfl)) 3) (f100 6 (of_decide_eq_true rfl)) I12
             have I113 : jI9 σ98 := jI9_fr ((congrFun (f100 9 (of_decide_eq_true rfl)) 0).trans (congrFun (f10 9 (of_decide_eq_true rfl)) 0)) ((f100 10 (of_decide_eq_true rfl)).trans (f10 10 (of_decide_eq_true rfl))) ((f100 11 (of_decide_eq_true rfl)).trans (f10 11 (of_decide_eq_true rfl))) hI9
             have I114 : jI12 σ98 := jI12_fr ((congrFun (f100 12 (of_decide_eq_true rfl)) 0).trans (congrFun (f10 12 (of_decide_eq_true rfl)) 0)) ((f100 13 (of_decide_eq_true rfl)).trans (f10 13 (of_decide_eq_true rfl))) hI12
             have I115 : jI16 σ98 := jI16_fr ((congrFun (f100 16 (of_decide_eq_true rfl)) 0).trans (congrFun (f10 16 (of_decide_eq_true rfl)) 0)) ((congrFun (f100 16 (of_decide_eq_true rfl)) 1).trans (congrFun (f10 16 (of_decide_eq_true rfl)) 1)) ((congrFun (f100 16 (of_decide_eq_true rfl)) 2).trans (congrFun (f10 16 (of_decide_eq_true rfl)) 2)) ((f100 17 (of_decide_eq_true rfl)).trans (f10 17 (of_decide_eq_true rfl))) hI16
             have I116 : jI18 σ98 := jI18_fr ((congrFun (f100 18 (of_decide_eq_true rfl)) 0).trans (congrFun (f10 18 (of_decide_eq_true rfl)) 0)) ((f100 19 (of_decide_eq_true rfl)).trans (f10 19 (of_decide_eq_true rfl))) hI18
             have I117 : jI22 σ98 := jI22_fr ((congrFun (f100 22 (of_decide_eq_true rfl)) 0).trans (congrFun (f10 22 (of_decide_eq_true rfl)) 0)) ((f100 23 (of_decide_eq_true rfl)).trans (f10 23 (of_decide_eq_true rfl))) hI22
             have I118 : jI31 σ98 := jI31_fr ((congrFun (f100 31 (of_decide_eq_true rfl)) 8).trans (congrFun (f10 31 (of_decide_eq_true rfl)) 8)) ((f100 33 (of_decide_eq_true rfl)).trans (f10 33 (of_decide_eq_true rfl))) ((f100 36 (of_decide_eq_true rfl)).trans (f10 36 (of_decide_eq_true rfl))) hI31
             have I119 : jI38 σ98 := jI38_fr ((congrFun (f100 38 (of_decide_eq_true rfl)) 0).trans (congrFun (f10 38 (of_decide_eq_true rfl)) 0)) ((congrFun (f100 38 (of_decide_eq_true rfl)) 1).trans (congrFun (f10 38 (of_decide_eq_true rfl)) 1)) ((f100 39 (of_decide_eq_true rfl)).trans (f10 39 (of_decide_eq_true rfl))) hI38
             have I120 : jI43 σ98 := jI43_fr ((congrFun (f100 43 (of_decide_eq_true rfl)) 8).trans (congrFun (f10 43 (of_decide_eq_true rfl)) 8)) hI43
             have I121 : jI47 σ98 := jI47_fr ((congrFun (f100 47 (of_decide_eq_true rfl)) 0).trans (congrFun (f10 47 (of_decide_eq_true rfl)) 0)) ((f100 48 (of_decide_eq_true rfl)).trans (f10 48 (of_decide_eq_true rfl))) ((f100 49 (of_decide_eq_true rfl)).trans (f10 49 (of_decide_eq_true rfl))) hI47
             have I122 : jI50 σ98 := jI50_fr ((f100 52 (of_decide_eq_true rfl)).trans (f10 52 (of_decide_eq_true rfl))) hI50
             have I123 : jI102 σ98 := jI102_fr (f101 6 (of_decide_eq_true rfl)) (f100 60 (of_decide_eq_true rfl)) (f100 61 (of_decide_eq_true rfl)) I95
             have I124 : jI103 σ98 := jI103_fr ((f101 9 (of_decide_eq_true rfl)).trans (congrFun (f10 55 (of_decide_eq_true rfl)) 9)) hI103
             have I125 : jI104 σ98 := jI104_fr ((f101 10 (of_decide_eq_true rfl)).trans (congrFun (f10 55 (of_decide_eq_true rfl)) 10)) ((f101 12 (of_decide_eq_true rfl)).trans (congrFun (f10 55 (of_decide_eq_true rfl)) 12)) ((f101 13 (of_decide_eq_true rfl)).trans (congrFun (f10 55 (of_decide_eq_true rfl)) 13)) ((f100 62 (of_decide_eq_true rfl)).trans (f10 62 (of_decide_eq_true rfl))) ((f100 67 (of_decide_eq_true rfl)).trans (f10 67 (of_decide_eq_true rfl))) hI104
             have I126 : jI105 σ98 := jI105_fr ((f101 15 (of_decide_eq_true rfl)).trans (congrFun (f10 55 (of_decide_eq_true rfl)) 15)) ((f100 65 (of_decide_eq_true rfl)).trans (f10 65 (of_decide_eq_true rfl))) hI105
             have I127 : jI106 σ98 := jI106_fr ((f101 32 (of_decide_eq_true rfl)).trans (congrFun (f10 55 (of_decide_eq_true rfl)) 32)) ((f100 70 (of_decide_eq_true rfl)).trans (f10 70 (of_decide_eq_true rfl))) ((f100 71 (of_decide_eq_true rfl)).trans (f10 71 (of_decide_eq_true rfl))) ((f100 72 (of_decide_eq_true rfl)).trans (f10 72 (of_decide_eq_true rfl))) hI106
             have I128 : jI107 σ98 := jI107_fr ((f101 12 (of_decide_eq_true rfl)).trans (congrFun (f10 55 (of_decide_eq_true rfl)) 12)) ((f101 47 (of_decide_eq_true rfl)).trans (congrFun (f10 55 (of_decide_eq_true rfl)) 47)) ((f100 80 (of_decide_eq_true rfl)).trans (f10 80 (of_decide_eq_true rfl))) hI107
             have I129 : jI109 σ98 := jI109_fr ((f101 50 (of_decide_eq_true rfl)).trans (congrFun (f10 55 (of_decide_eq_true rfl)) 50)) hI109
             have I130 : jI110 σ98 := jI110_fr ((f100 86 (of_decide_eq_true rfl)).trans (f10 86 (of_decide_eq_true rfl))) ((f100 87 (of_decide_eq_true rfl)).trans (f10 87 (of_decide_eq_true rfl))) hI110
             have I131 : jI111 σ98 := jI111_fr ((f100 79 (of_decide_eq_true rfl)).trans (f10 79 (of_decide_eq_true rfl))) hI111
             have I132 : jI119 σ98 := jI119_fr ((f100 68 (of_decide_eq_true rfl)).trans (f10 68 (of_decide_eq_true rfl))) hI119
             have p133 : jKept σ98 := jKept.fr ((f100 75 (of_decide_eq_true rfl)).trans (f10 75 (of_decide_eq_true rfl))) ((f100 76 (of_decide_eq_true rfl)).trans (f10 76 (of_decide_eq_true rfl))) ((f100 77 (of_decide_eq_true rfl)).trans (f10 77 (of_decide_eq_true rfl))) hs_jKept
             have p134 : jBook σ98 := jBook.fr ((f101 47 (of_decide_eq_true rfl)).trans (congrFun (f10 55 (of_decide_eq_true rfl)) 47)) ((f101 10 (of_decide_eq_true rfl)).trans (congrFun (f10 55 (of_decide_eq_true rfl)) 10)) ((f100 81 (of_decide_eq_true rfl)).trans (f10 81 (of_decide_eq_true rfl))) hs_jBook
             have z135 : (σ98 38 0).toInt = (σ 38 0).toInt := (congrArg Int32.toInt (show σ98 38 0 = (σ 38 0) from ((congrFun (f100 38 (of_decide_eq_true rfl)) 0).trans (congrFun (f10 38 (of_decide_eq_true rfl)) 0))))
             have z136 : (σ98 55 32).toInt = (σ 55 32).toInt := (congrArg Int32.toInt (show σ98 55 32 = (σ 55 32) from ((f101 32 (of_decide_eq_true rfl)).trans (congrFun (f10 55 (of_decide_eq_true rfl)) 32))))
             exact by exact ih x111 σ98 τ _ _ ls (by have h9 := tx111; omega) ⟨I112, I113, I114, I115, I116, I117, I118, I119, I120, I121, I122, I102, I123, I124, I125, I126, I127, I128, I129, I130, I131, I132, p133, p134, (by omega)⟩ hP hS (lv_sub hl [0, 1, 2, 3] rfl)
          · obtain ⟨q138, k137⟩ := h105
            refine lv_pop hx hb dL_law_278 rfl ?_
            refine lv_goto (tgt := 1357) hx hb dL_law_279 (of_decide_eq_true rfl) ?_
            obtain ⟨x139, ex139⟩ : ∃ y : Int32, y = x0 + 6 := ⟨_, rfl⟩
            exact by
             have tx139 : x139.toInt = x0.toInt + 6 := (jadd ex139 rfl jz_6 (by omega) (by omega)).trans (by omega)
             refine lv_iinc (v := x139) (lv' := [(3, .int x139), (2, .ref (ad 55)), (1, .ref (ad 0)), (0, .ref b)]) hx hb dL_law_1357 hl (k := 0) rfl (by rw [ex139]; rfl) (of_decide_eq_true rfl) rfl (fun ls hl => ?_)
             refine lv_goto (tgt := 18) hx hb dL_law_1360 (of_decide_eq_true rfl) ?_
             have I140 : jI2 σ98 := jI2_fr (congrFun (f100 2 (of_decide_eq_true rfl)) 0) (congrFun (f100 2 (of_decide_eq_true rfl)) 1) (congrFun (f100 2 (of_decide_eq_true rfl)) 2) (congrFun (f100 2 (of_decide_eq_true rfl)) 3) (f100 6 (of_decide_eq_true rfl)) I12
             have I141 : jI9 σ98 := jI9_fr ((congrFun (f100 9 (of_decide_eq_true rfl)) 0).trans (congrFun (f10 9 (of_decide_eq_true rfl)) 0)) ((f100 10 (of_decide_eq_true rfl)).trans (f10 10 (of_decide_eq_true rfl))) ((f100 11 (of_decide_eq_true rfl)).trans (f10 11 (of_decide_eq_true rfl))) hI9
             have I142 : jI12 σ98 := jI12_fr ((congrFun (f100 12 (of_decide_eq_true rfl)) 0).trans (congrFun (f10 12 (of_decide_eq_true rfl)) 0)) ((f100 13 (of_decide_eq_true rfl)).trans (f10 13 (of_decide_eq_true rfl))) hI12
             have I143 : jI16 σ98 := jI16_fr ((congrFun (f100 16 (of_decide_eq_true rfl)) 0).trans (congrFun (f10 16 (of_decide_eq_true rfl)) 0)) ((congrFun (f100 16 (of_decide_eq_true rfl)) 1).trans (congrFun (f10 16 (of_decide_eq_true rfl)) 1)) ((congrFun (f100 16 (of_decide_eq_true rfl)) 2).trans (congrFun (f10 16 (of_decide_eq_true rfl)) 2)) ((f100 17 (of_decide_eq_true rfl)).trans (f10 17 (of_decide_eq_true rfl))) hI16
             have I144 : jI18 σ98 := jI18_fr ((congrFun (f100 18 (of_decide_eq_true rfl)) 0).trans (congrFun (f10 18 (of_decide_eq_true rfl)) 0)) ((f100 19 (of_decide_eq_true rfl)).trans (f10 19 (of_decide_eq_true rfl))) hI18
             have I145 : jI22 σ98 := jI22_fr ((congrFun (f100 22 (of_decide_eq_true rfl)) 0).trans (congrFun (f10 22 (of_decide_eq_true rfl)) 0)) ((f100 23 (of_decide_eq_true rfl)).trans (f10 23 (of_decide_eq_true rfl))) hI22
             exact by
              have I146 : jI31 σ98 := jI31_fr ((congrFun (f100 31 (of_decide_eq_true rfl)) 8).trans (congrFun (f10 31 (of_decide_eq_true rfl)) 8)) ((f100 33 (of_decide_eq_true rfl)).trans (f10 33 (of_decide_eq_true rfl))) ((f100 36 (of_decide_eq_true rfl)).trans (f10 36 (of_decide_eq_true rfl))) hI31
              have I147 : jI38 σ98 := jI38_fr ((congrFun (f100 38 (of_decide_eq_true rfl)) 0).trans (congrFun (f10 38 (of_decide_eq_true rfl)) 0)) ((congrFun (f100 38 (of_decide_eq_true rfl)) 1).trans (congrFun (f10 38 (of_decide_eq_true rfl)) 1)) ((f100 39 (of_decide_eq_true rfl)).trans (f10 39 (of_decide_eq_true rfl))) hI38
              have I148 : jI43 σ98 := jI43_fr ((congrFun (f100 43 (of_decide_eq_true rfl)) 8).trans (congrFun (f10 43 (of_decide_eq_true rfl)) 8)) hI43
              have I149 : jI47 σ98 := jI47_fr ((congrFun (f100 47 (of_decide_eq_true rfl)) 0).trans (congrFun (f10 47 (of_decide_eq_true rfl)) 0)) ((f100 48 (of_decide_eq_true rfl)).trans (f10 48 (of_decide_eq_true rfl))) ((f100 49 (of_decide_eq_true rfl)).trans (f10 49 (of_decide_eq_true rfl))) hI47
              have I150 : jI50 σ98 := jI50_fr ((f100 52 (of_decide_eq_true rfl)).trans (f10 52 (of_decide_eq_true rfl))) hI50
              have I151 : jI102 σ98 := jI102_fr (f101 6 (of_decide_eq_true rfl)) (f100 60 (of_decide_eq_true rfl)) (f100 61 (of_decide_eq_true rfl)) I95
              have I152 : jI103 σ98 := jI103_fr ((f101 9 (of_decide_eq_true rfl)).trans (congrFun (f10 55 (of_decide_eq_true rfl)) 9)) hI103
              have I153 : jI104 σ98 := jI104_fr ((f101 10 (of_decide_eq_true rfl)).trans (congrFun (f10 55 (of_decide_eq_true rfl)) 10)) ((f101 12 (of_decide_eq_true rfl)).trans (congrFun (f10 55 (of_decide_eq_true rfl)) 12)) ((f101 13 (of_decide_eq_true rfl)).trans (congrFun (f10 55 (of_decide_eq_true rfl)) 13)) ((f100 62 (of_decide_eq_true rfl)).trans (f10 62 (of_decide_eq_true rfl))) ((f100 67 (of_decide_eq_true rfl)).trans (f10 67 (of_decide_eq_true rfl))) hI104
              have I154 : jI105 σ98 := jI105_fr ((f101 15 (of_decide_eq_true rfl)).trans (congrFun (f10 55 (of_decide_eq_true rfl)) 15)) ((f100 65 (of_decide_eq_true rfl)).trans (f10 65 (of_decide_eq_true rfl))) hI105
              have I155 : jI106 σ98 := jI106_fr ((f101 32 (of_decide_eq_true rfl)).trans (congrFun (f10 55 (of_decide_eq_true rfl)) 32)) ((f100 70 (of_decide_eq_true rfl)).trans (f10 70 (of_decide_eq_true rfl))) ((f100 71 (of_decide_eq_true rfl)).trans (f10 71 (of_decide_eq_true rfl))) ((f100 72 (of_decide_eq_true rfl)).trans (f10 72 (of_decide_eq_true rfl))) hI106
              have I156 : jI107 σ98 := jI107_fr ((f101 12 (of_decide_eq_true rfl)).trans (congrFun (f10 55 (of_decide_eq_true rfl)) 12)) ((f101 47 (of_decide_eq_true rfl)).trans (congrFun (f10 55 (of_decide_eq_true rfl)) 47)) ((f100 80 (of_decide_eq_true rfl)).trans (f10 80 (of_decide_eq_true rfl))) hI107
              have I157 : jI109 σ98 := jI109_fr ((f101 50 (of_decide_eq_true rfl)).trans (congrFun (f10 55 (of_decide_eq_true rfl)) 50)) hI109
              have I158 : jI110 σ98 := jI110_fr ((f100 86 (of_decide_eq_true rfl)).trans (f10 86 (of_decide_eq_true rfl))) ((f100 87 (of_decide_eq_true rfl)).trans (f10 87 (of_decide_eq_true rfl))) hI110
              have I159 : jI111 σ98 := jI111_fr ((f100 79 (of_decide_eq_true rfl)).trans (f10 79 (of_decide_eq_true rfl))) hI111
              have I160 : jI119 σ98 := jI119_fr ((f100 68 (of_decide_eq_true rfl)).trans (f10 68 (of_decide_eq_true rfl))) hI119
              have p161 : jKept σ98 := jKept.fr ((f100 75 (of_decide_eq_true rfl)).trans (f10 75 (of_decide_eq_true rfl))) ((f100 76 (of_decide_eq_true rfl)).trans (f10 76 (of_decide_eq_true rfl))) ((f100 77 (of_decide_eq_true rfl)).trans (f10 77 (of_decide_eq_true rfl))) hs_jKept
              have p162 : jBook σ98 := jBook.fr ((f101 47 (of_decide_eq_true rfl)).trans (congrFun (f10 55 (of_decide_eq_true rfl)) 47)) ((f101 10 (of_decide_eq_true rfl)).trans (congrFun (f10 55 (of_decide_eq_true rfl)) 10)) ((f100 81 (of_decide_eq_true rfl)).trans (f10 81 (of_decide_eq_true rfl))) hs_jBook
              have z163 : (σ98 38 0).toInt = (σ 38 0).toInt := (congrArg Int32.toInt (show σ98 38 0 = (σ 38 0) from ((congrFun (f100 38 (of_decide_eq_true rfl)) 0).trans (congrFun (f10 38 (of_decide_eq_true rfl)) 0))))
              have z164 : (σ98 55 32).toInt = (σ 55 32).toInt := (congrArg Int32.toInt (show σ98 55 32 = (σ 55 32) from ((f101 32 (of_decide_eq_true rfl)).trans (congrFun (f10 55 (of_decide_eq_true rfl)) 32))))
              exact by exact ih x139 σ98 τ _ _ ls (by have h9 := tx139; omega) ⟨I140, I141, I142, I143, I144, I145, I146, I147, I148, I149, I150, I102, I151, I152, I153, I154, I155, I156, I157, I158, I159, I160, p161, p162, (by omega)⟩ hP hS (lv_sub hl [0, 1, 2, 3] rfl)
set_option maxHeartbeats 4000000 in
set_option maxRecDepth 100000 in
theorem law_case_2 {p : Program} {e : Env} {s : State} {m : MethodId} {below : List Frame} {meth : Method} {c : Code} (l : Launch) {b L : Nat} {xs : Nat → Int32} {D : va_G} {cI cL : ClassId} {ad zz : Nat → Nat} (C0 : lw_At p s m meth c b L xs) (hJ : jD ad) (hA : ∀ q, jA ad q → s.heap.size ≤ q) (hK : jK D cI cL s) (hZ : jZ zz (fun q : Nat => s.heap.size ≤ q) s s.heap) {x0 : Int32} (hx0 : 0 ≤ x0.toInt) (hxL : x0.toInt + 6 ≤ (L : Int)) (hL : L ≤ 384) {σ : Nat → Nat → Int32} {τ : Nat → Nat → Int64} {H : Heap} {locs : List Loc} (hS : va_S (fun q : Nat => s.heap.size ≤ q) s.heap H locs) {ls : Array Slot} (hAll : jAll σ τ) (hP : jH D cI cL ad σ τ H) (hl : lv_has ls 4 [(3, .int x0), (2, .ref (ad 55)), (1, .ref (ad 0)), (0, .ref b)]) (ih : ∀ (x1 : Int32) (σ : Nat → Nat → Int32) (τ : Nat → Nat → Int64) (H : Heap) (locs : List Loc) (ls : Array Slot), x1.toInt = x0.toInt + 6 → jAll σ τ → jH D cI cL ad σ τ H → va_S (fun q : Nat => s.heap.size ≤ q) s.heap H locs → lv_has ls 4 [(3, .int x1), (2, .ref (ad 55)), (1, .ref (ad 0)), (0, .ref b)] → W p l e room_1 s m #[Value.ref b] below meth c H locs 90 348600 (lw_Z below #[Value.ref b] s) (F0 m 18 ls [])) : W p l e room_1 s m #[Value.ref b] below meth c H locs 90 348600 (lw_Z below #[Value.ref b] s) (F0 m 282 ls []) := by
  obtain ⟨hx, hb, hr, hml, hown, hts0, hX, hbl, hlocks, hgv⟩ := C0
  have hts : ∀ w ∈ wsL_law, w.before #[Value.ref b] s = true := fun w h => hts0 w (wsL_law_in w h)
  have hbA : ¬ (fun q : Nat => s.heap.size ≤ q) b := Nat.not_le.mpr hbl
  have hown : s.vm.findClass RL = some m.cls := hown
  obtain ⟨hI2, hI9, hI12, hI16, hI18, hI22, hI31, hI38, hI43, hI47, hI50, hI101, hI102, hI103, hI104, hI105, hI106, hI107, hI109, hI110, hI111, hI119, hs_jKept, hs_jBook, ht0⟩ := hAll
  have hL9 : (L : Int) ≤ 384 := by omega
  refine lv_aload_n hx hb dL_law_282 rfl (lv_at hl 2 rfl) ?_
  refine lv_aload_n hx hb dL_law_283 rfl (lv_at hl 3 rfl) ?_
  refine lv_iload_n hx hb dL_law_284 rfl (lv_at hl 0 rfl) ?_
  refine lv_iconst (v := 1) hx hb dL_law_285 (of_decide_eq_true rfl) ?_
  have g1 := jrg (rfl : x0.toInt = x0.toInt)
  refine lv_iadd hx hb dL_law_286 ?_
  refine lv_topi (fun x2 ex2 => ?_)
  exact by
   have tx2 : x2.toInt = x0.toInt + 1 := (jadd ex2 rfl jz_1 (by omega) (by omega)).trans (by omega)
   refine va_sld hx hb hX hbl hbA hS (jin tx2 (by omega) (by omega)) dL_law_287 ?_
   have g3 := jrg (rfl : (xs x2.toNatClampNeg).toInt = (xs x2.toNatClampNeg).toInt)
   refine lv_aload_n hx hb dL_law_288 rfl (lv_at hl 3 rfl) ?_
   refine lv_iload_n hx hb dL_law_289 rfl (lv_at hl 0 rfl) ?_
   refine lv_iconst (v := 2) hx hb dL_law_290 (of_decide_eq_true rfl) ?_
   refine lv_iadd hx hb dL_law_291 ?_
   refine lv_topi (fun x4 ex4 => ?_)
   have tx4 : x4.toInt = x0.toInt + 2 := (jadd ex4 rfl jz_2 (by omega) (by omega)).trans (by omega)
   exact by
    refine va_sld hx hb hX hbl hbA hS (jin tx4 (by omega) (by omega)) dL_law_292 ?_
    have g5 := jrg (rfl : (xs x4.toNatClampNeg).toInt = (xs x4.toNatClampNeg).toInt)
    refine lv_aload_n hx hb dL_law_293 rfl (lv_at hl 3 rfl) ?_
    refine lv_iload_n hx hb dL_law_294 rfl (lv_at hl 0 rfl) ?_
    refine lv_iconst (v := 3) hx hb dL_law_295 (of_decide_eq_true rfl) ?_
    refine lv_iadd hx hb dL_law_296 ?_
    refine lv_topi (fun x6 ex6 => ?_)
    have tx6 : x6.toInt = x0.toInt + 3 := (jadd ex6 rfl jz_3 (by omega) (by omega)).trans (by omega)
    refine va_sld hx hb hX hbl hbA hS (jin tx6 (by omega) (by omega)) dL_law_297 ?_
    exact by
     have g7 := jrg (rfl : (xs x6.toNatClampNeg).toInt = (xs x6.toNatClampNeg).toInt)
     refine jcallV (As := [.int (xs x2.toNatClampNeg), .int (xs x4.toNatClampNeg), .int (xs x6.toNatClampNeg)]) (rest := []) ⟨hx, hb, hml, hown, hts⟩ hK hP hA hS hZ (c_X11_field l D cI cL ad zz hJ σ τ (xs x2.toNatClampNeg) ((xs x2.toNatClampNeg).toInt) rfl (xs x4.toNatClampNeg) ((xs x4.toNatClampNeg).toInt) rfl (xs x6.toNatClampNeg) ((xs x6.toNatClampNeg).toInt) rfl hI2) cw_RL_22 (jc_0 cI cL ad σ τ) rfl ⟨Nat.le_of_ble_eq_true rfl, Nat.le_of_ble_eq_true rfl⟩ rfl rfl rfl hl.1 rfl (Nat.le_of_ble_eq_true rfl) dL_law_298 ⟨Nat.le_of_ble_eq_true rfl, Nat.le_of_ble_eq_true rfl⟩ (fun r9 σ8 τ8 H locs h8 hP hS => ?_)
     obtain ⟨rfl, f10, f11, I12, h8⟩ := h8
     rcases h8 with h14 | h15
     · obtain ⟨q20, k16, k17, k18, k19⟩ := h14
       have q20 := q20.symm
       subst q20
       refine lv_pop hx hb dL_law_301 rfl ?_
       refine lv_aload_n hx hb dL_law_302 rfl (lv_at hl 1 rfl) ?_
       refine lv_aload_n hx hb dL_law_303 rfl (lv_at hl 3 rfl) ?_
       refine lv_iload_n hx hb dL_law_304 rfl (lv_at hl 0 rfl) ?_
       refine lv_iconst (v := 1) hx hb dL_law_305 (of_decide_eq_true rfl) ?_
       refine lv_iadd hx hb dL_law_306 ?_
       refine jtopr ex2.symm ?_
       exact by
        refine va_sld hx hb hX hbl hbA hS (jin tx2 (by omega) (by omega)) dL_law_307 ?_
        refine lv_aload_n hx hb dL_law_308 rfl (lv_at hl 3 rfl) ?_
        refine lv_iload_n hx hb dL_law_309 rfl (lv_at hl 0 rfl) ?_
        refine lv_iconst (v := 2) hx hb dL_law_310 (of_decide_eq_true rfl) ?_
        refine lv_iadd hx hb dL_law_311 ?_
        refine jtopr ex4.symm ?_
        refine va_sld hx hb hX hbl hbA hS (jin tx4 (by omega) (by omega)) dL_law_312 ?_
        refine lv_aload_n hx hb dL_law_313 rfl (lv_at hl 3 rfl) ?_
        refine lv_iload_n hx hb dL_law_314 rfl (lv_at hl 0 rfl) ?_
        exact by
         refine lv_iconst (v := 3) hx hb dL_law_315 (of_decide_eq_true rfl) ?_
         refine lv_iadd hx hb dL_law_316 ?_
         refine jtopr ex6.symm ?_
         refine va_sld hx hb hX hbl hbA hS (jin tx6 (by omega) (by omega)) dL_law_317 ?_
         have I21 : jI101 σ8 := jI101_fr (congrFun (f10 55 (of_decide_eq_true rfl)) 4) (congrFun (f10 55 (of_decide_eq_true rfl)) 5) (f10 56 (of_decide_eq_true rfl)) (f10 57 (of_decide_eq_true rfl)) (f10 58 (of_decide_eq_true rfl)) (f10 59 (of_decide_eq_true rfl)) hI101
         have z22 : (σ8 55 5).toInt = (σ 55 5).toInt := (congrArg Int32.toInt (show σ8 55 5 = (σ 55 5) from (congrFun (f10 55 (of_decide_eq_true rfl)) 5)))
         have z23 : (σ8 55 4).toInt = (σ 55 4).toInt := (congrArg Int32.toInt (show σ8 55 4 = (σ 55 4) from (congrFun (f10 55 (of_decide_eq_true rfl)) 4)))
         refine jcallV (As := [.int (xs x2.toNatClampNeg), .int (xs x4.toNatClampNeg), .int (xs x6.toNatClampNeg)]) (rest := []) ⟨hx, hb, hml, hown, hts⟩ hK hP hA hS hZ (c_X12_field l D cI cL ad zz hJ σ8 τ (xs x2.toNatClampNeg) ((xs x2.toNatClampNeg).toInt) rfl (xs x4.toNatClampNeg) ((xs x4.toNatClampNeg).toInt) rfl (xs x6.toNatClampNeg) ((xs x6.toNatClampNeg).toInt) rfl I21) cw_RL_25 (jc_55 cI cL ad σ8 τ) rfl ⟨Nat.le_of_ble_eq_true rfl, Nat.le_of_ble_eq_true rfl⟩ rfl rfl rfl hl.1 rfl (Nat.le_of_ble_eq_true rfl) dL_law_318 ⟨Nat.le_of_ble_eq_true rfl, Nat.le_of_ble_eq_true rfl⟩ (fun r25 σ24 τ24 H locs h24 hP hS => ?_)
         obtain ⟨rfl, f26, f27, I28, h24⟩ := h24
         exact by
          rcases h24 with h30 | h31
          · obtain ⟨q36, k32, k33, k34, k35⟩ := h30
            have q36 := q36.symm
            subst q36
            refine lv_pop hx hb dL_law_321 rfl ?_
            refine lv_goto (tgt := 1357) hx hb dL_law_322 (of_decide_eq_true rfl) ?_
            obtain ⟨x37, ex37⟩ : ∃ y : Int32, y = x0 + 6 := ⟨_, rfl⟩
            have tx37 : x37.toInt = x0.toInt + 6 := (jadd ex37 rfl jz_6 (by omega) (by omega)).trans (by omega)
            refine lv_iinc (v := x37) (lv' := [(3, .int x37), (2, .ref (ad 55)), (1, .ref (ad 0)), (0, .ref b)]) hx hb dL_law_1357 hl (k := 0) rfl (by rw [ex37]; rfl) (of_decide_eq_true rfl) rfl (fun ls hl => ?_)
            exact by
             refine lv_goto (tgt := 18) hx hb dL_law_1360 (of_decide_eq_true rfl) ?_
             have I38 : jI2 σ24 := jI2_fr (congrFun (f26 2 (of_decide_eq_true rfl)) 0) (congrFun (f26 2 (of_decide_eq_true rfl)) 1) (congrFun (f26 2 (of_decide_eq_true rfl)) 2) (congrFun (f26 2 (of_decide_eq_true rfl)) 3) (f26 6 (of_decide_eq_true rfl)) I12
             have I39 : jI9 σ24 := jI9_fr ((congrFun (f26 9 (of_decide_eq_true rfl)) 0).trans (congrFun (f10 9 (of_decide_eq_true rfl)) 0)) ((f26 10 (of_decide_eq_true rfl)).trans (f10 10 (of_decide_eq_true rfl))) ((f26 11 (of_decide_eq_true rfl)).trans (f10 11 (of_decide_eq_true rfl))) hI9
             have I40 : jI12 σ24 := jI12_fr ((congrFun (f26 12 (of_decide_eq_true rfl)) 0).trans (congrFun (f10 12 (of_decide_eq_true rfl)) 0)) ((f26 13 (of_decide_eq_true rfl)).trans (f10 13 (of_decide_eq_true rfl))) hI12
             have I41 : jI16 σ24 := jI16_fr ((congrFun (f26 16 (of_decide_eq_true rfl)) 0).trans (congrFun (f10 16 (of_decide_eq_true rfl)) 0)) ((congrFun (f26 16 (of_decide_eq_true rfl)) 1).trans (congrFun (f10 16 (of_decide_eq_true rfl)) 1)) ((congrFun (f26 16 (of_decide_eq_true rfl)) 2).trans (congrFun (f10 16 (of_decide_eq_true rfl)) 2)) ((f26 17 (of_decide_eq_true rfl)).trans (f10 17 (of_decide_eq_true rfl))) hI16
             have I42 : jI18 σ24 := jI18_fr ((congrFun (f26 18 (of_decide_eq_true rfl)) 0).trans (congrFun (f10 18 (of_decide_eq_true rfl)) 0)) ((f26 19 (of_decide_eq_true rfl)).trans (f10 19 (of_decide_eq_true rfl))) hI18
             have I43 : jI22 σ24 := jI22_fr ((congrFun (f26 22 (of_decide_eq_true rfl)) 0).trans (congrFun (f10 22 (of_decide_eq_true rfl)) 0)) ((f26 23 (of_decide_eq_true rfl)).trans (f10 23 (of_decide_eq_true rfl))) hI22
             have I44 : jI31 σ24 := jI31_fr ((congrFun (f26 31 (of_decide_eq_true rfl)) 8).trans (congrFun (f10 31 (of_decide_eq_true rfl)) 8)) ((f26 33 (of_decide_eq_true rfl)).trans (f10 33 (of_decide_eq_true rfl))) ((f26 36 (of_decide_eq_true rfl)).trans (f10 36 (of_decide_eq_true rfl))) hI31
             have I45 : jI38 σ24 := jI38_fr ((congrFun (f26 38 (of_decide_eq_true rfl)) 0).trans (congrFun (f10 38 (of_decide_eq_true rfl)) 0)) ((congrFun (f26 38 (of_decide_eq_true rfl)) 1).trans (congrFun (f10 38 (of_decide_eq_true rfl)) 1)) ((f26 39 (of_decide_eq_true rfl)).trans (f10 39 (of_decide_eq_true rfl))) hI38
             have I46 : jI43 σ24 := jI43_fr ((congrFun (f26 43 (of_decide_eq_true rfl)) 8).trans (congrFun (f10 43 (of_decide_eq_true rfl)) 8)) hI43
             have I47 : jI47 σ24 := jI47_fr ((congrFun (f26 47 (of_decide_eq_true rfl)) 0).trans (congrFun (f10 47 (of_decide_eq_true rfl)) 0)) ((f26 48 (of_decide_eq_true rfl)).trans (f10 48 (of_decide_eq_true rfl))) ((f26 49 (of_decide_eq_true rfl)).trans (f10 49 (of_decide_eq_true rfl))) hI47
             have I48 : jI50 σ24 := jI50_fr ((f26 52 (of_decide_eq_true rfl)).trans (f10 52 (of_decide_eq_true rfl))) hI50
             have I49 : jI102 σ24 := jI102_fr ((f27 6 (of_decide_eq_true rfl)).trans (congrFun (f10 55 (of_decide_eq_true rfl)) 6)) ((f26 60 (of_decide_eq_true rfl)).trans (f10 60 (of_decide_eq_true rfl))) ((f26 61 (of_decide_eq_true rfl)).trans (f10 61 (of_decide_eq_true rfl))) hI102
             have I50 : jI103 σ24 := jI103_fr ((f27 9 (of_decide_eq_true rfl)).trans (congrFun (f10 55 (of_decide_eq_true rfl)) 9)) hI103
             have I51 : jI104 σ24 := jI104_fr ((f27 10 (of_decide_eq_true rfl)).trans (congrFun (f10 55 (of_decide_eq_true rfl)) 10)) ((f27 12 (of_decide_eq_true rfl)).trans (congrFun (f10 55 (of_decide_eq_true rfl)) 12)) ((f27 13 (of_decide_eq_true rfl)).trans (congrFun (f10 55 (of_decide_eq_true rfl)) 13)) ((f26 62 (of_decide_eq_true rfl)).trans (f10 62 (of_decide_eq_true rfl))) ((f26 67 (of_decide_eq_true rfl)).trans (f10 67 (of_decide_eq_true rfl))) hI104
             have I52 : jI105 σ24 := jI105_fr ((f27 15 (of_decide_eq_true rfl)).trans (congrFun (f10 55 (of_decide_eq_true rfl)) 15)) ((f26 65 (of_decide_eq_true rfl)).trans (f10 65 (of_decide_eq_true rfl))) hI105
             have I53 : jI106 σ24 := jI106_fr ((f27 32 (of_decide_eq_true rfl)).trans (congrFun (f10 55 (of_decide_eq_true rfl)) 32)) ((f26 70 (of_decide_eq_true rfl)).trans (f10 70 (of_decide_eq_true rfl))) ((f26 71 (of_decide_eq_true rfl)).trans (f10 71 (of_decide_eq_true rfl))) ((f26 72 (of_decide_eq_true rfl)).trans (f10 72 (of_decide_eq_true rfl))) hI106
             have I54 : jI107 σ24 := jI107_fr ((f27 12 (of_decide_eq_true rfl)).trans (congrFun (f10 55 (of_decide_eq_true rfl)) 12)) ((f27 47 (of_decide_eq_true rfl)).trans (congrFun (f10 55 (of_decide_eq_true rfl)) 47)) ((f26 80 (of_decide_eq_true rfl)).trans (f10 80 (of_decide_eq_true rfl))) hI107
             have I55 : jI109 σ24 := jI109_fr ((f27 50 (of_decide_eq_true rfl)).trans (congrFun (f10 55 (of_decide_eq_true rfl)) 50)) hI109
             have I56 : jI110 σ24 := jI110_fr ((f26 86 (of_decide_eq_true rfl)).trans (f10 86 (of_decide_eq_true rfl))) ((f26 87 (of_decide_eq_true rfl)).trans (f10 87 (of_decide_eq_true rfl))) hI110
             have I57 : jI111 σ24 := jI111_fr ((f26 79 (of_decide_eq_true rfl)).trans (f10 79 (of_decide_eq_true rfl))) hI111
             have I58 : jI119 σ24 := jI119_fr ((f26 68 (of_decide_eq_true rfl)).trans (f10 68 (of_decide_eq_true rfl))) hI119
             have p59 : jKept σ24 := jKept.fr ((f26 75 (of_decide_eq_true rfl)).trans (f10 75 (of_decide_eq_true rfl))) ((f26 76 (of_decide_eq_true rfl)).trans (f10 76 (of_decide_eq_true rfl))) ((f26 77 (of_decide_eq_true rfl)).trans (f10 77 (of_decide_eq_true rfl))) hs_jKept
             have p60 : jBook σ24 := jBook.fr ((f27 47 (of_decide_eq_true rfl)).trans (congrFun (f10 55 (of_decide_eq_true rfl)) 47)) ((f27 10 (of_decide_eq_true rfl)).trans (congrFun (f10 55 (of_decide_eq_true rfl)) 10)) ((f26 81 (of_decide_eq_true rfl)).trans (f10 81 (of_decide_eq_true rfl))) hs_jBook
             have z61 : (σ24 38 0).toInt = (σ 38 0).toInt := (congrArg Int32.toInt (show σ24 38 0 = (σ 38 0) from ((congrFun (f26 38 (of_decide_eq_true rfl)) 0).trans (congrFun (f10 38 (of_decide_eq_true rfl)) 0))))
             have z62 : (σ24 55 32).toInt = (σ 55 32).toInt := (congrArg Int32.toInt (show σ24 55 32 = (σ 55 32) from ((f27 32 (of_decide_eq_true rfl)).trans (congrFun (f10 55 (of_decide_eq_true rfl)) 32))))
             exact by exact ih x37 σ24 τ _ _ ls (by have h9 := tx37; omega) ⟨I38, I39, I40, I41, I42, I43, I44, I45, I46, I47, I48, I28, I49, I50, I51, I52, I53, I54, I55, I56, I57, I58, p59, p60, (by omega)⟩ hP hS (lv_sub hl [0, 1, 2, 3] rfl)
          · obtain ⟨q64, k63⟩ := h31
            refine lv_pop hx hb dL_law_321 rfl ?_
            refine lv_goto (tgt := 1357) hx hb dL_law_322 (of_decide_eq_true rfl) ?_
            obtain ⟨x65, ex65⟩ : ∃ y : Int32, y = x0 + 6 := ⟨_, rfl⟩
            exact by
             have tx65 : x65.toInt = x0.toInt + 6 := (jadd ex65 rfl jz_6 (by omega) (by omega)).trans (by omega)
             refine lv_iinc (v := x65) (lv' := [(3, .int x65), (2, .ref (ad 55)), (1, .ref (ad 0)), (0, .ref b)]) hx hb dL_law_1357 hl (k := 0) rfl (by rw [ex65]; rfl) (of_decide_eq_true rfl) rfl (fun ls hl => ?_)
             refine lv_goto (tgt := 18) hx hb dL_law_1360 (of_decide_eq_true rfl) ?_
             have I66 : jI2 σ24 := jI2_fr (congrFun (f26 2 (of_decide_eq_true rfl)) 0) (congrFun (f26 2 (of_decide_eq_true rfl)) 1) (congrFun (f26 2 (of_decide_eq_true rfl)) 2) (congrFun (f26 2 (of_decide_eq_true rfl)) 3) (f26 6 (of_decide_eq_true rfl)) I12
             have I67 : jI9 σ24 := jI9_fr ((congrFun (f26 9 (of_decide_eq_true rfl)) 0).trans (congrFun (f10 9 (of_decide_eq_true rfl)) 0)) ((f26 10 (of_decide_eq_true rfl)).trans (f10 10 (of_decide_eq_true rfl))) ((f26 11 (of_decide_eq_true rfl)).trans (f10 11 (of_decide_eq_true rfl))) hI9
             have I68 : jI12 σ24 := jI12_fr ((congrFun (f26 12 (of_decide_eq_true rfl)) 0).trans (congrFun (f10 12 (of_decide_eq_true rfl)) 0)) ((f26 13 (of_decide_eq_true rfl)).trans (f10 13 (of_decide_eq_true rfl))) hI12
             have I69 : jI16 σ24 := jI16_fr ((congrFun (f26 16 (of_decide_eq_true rfl)) 0).trans (congrFun (f10 16 (of_decide_eq_true rfl)) 0)) ((congrFun (f26 16 (of_decide_eq_true rfl)) 1).trans (congrFun (f10 16 (of_decide_eq_true rfl)) 1)) ((congrFun (f26 16 (of_decide_eq_true rfl)) 2).trans (congrFun (f10 16 (of_decide_eq_true rfl)) 2)) ((f26 17 (of_decide_eq_true rfl)).trans (f10 17 (of_decide_eq_true rfl))) hI16
             have I70 : jI18 σ24 := jI18_fr ((congrFun (f26 18 (of_decide_eq_true rfl)) 0).trans (congrFun (f10 18 (of_decide_eq_true rfl)) 0)) ((f26 19 (of_decide_eq_true rfl)).trans (f10 19 (of_decide_eq_true rfl))) hI18
             have I71 : jI22 σ24 := jI22_fr ((congrFun (f26 22 (of_decide_eq_true rfl)) 0).trans (congrFun (f10 22 (of_decide_eq_true rfl)) 0)) ((f26 23 (of_decide_eq_true rfl)).trans (f10 23 (of_decide_eq_true rfl))) hI22
             exact by
              have I72 : jI31 σ24 := jI31_fr ((congrFun (f26 31 (of_decide_eq_true rfl)) 8).trans (congrFun (f10 31 (of_decide_eq_true rfl)) 8)) ((f26 33 (of_decide_eq_true rfl)).trans (f10 33 (of_decide_eq_true rfl))) ((f26 36 (of_decide_eq_true rfl)).trans (f10 36 (of_decide_eq_true rfl))) hI31
              have I73 : jI38 σ24 := jI38_fr ((congrFun (f26 38 (of_decide_eq_true rfl)) 0).trans (congrFun (f10 38 (of_decide_eq_true rfl)) 0)) ((congrFun (f26 38 (of_decide_eq_true rfl)) 1).trans (congrFun (f10 38 (of_decide_eq_true rfl)) 1)) ((f26 39 (of_decide_eq_true rfl)).trans (f10 39 (of_decide_eq_true rfl))) hI38
              have I74 : jI43 σ24 := jI43_fr ((congrFun (f26 43 (of_decide_eq_true rfl)) 8).trans (congrFun (f10 43 (of_decide_eq_true rfl)) 8)) hI43
              have I75 : jI47 σ24 := jI47_fr ((congrFun (f26 47 (of_decide_eq_true rfl)) 0).trans (congrFun (f10 47 (of_decide_eq_true rfl)) 0)) ((f26 48 (of_decide_eq_true rfl)).trans (f10 48 (of_decide_eq_true rfl))) ((f26 49 (of_decide_eq_true rfl)).trans (f10 49 (of_decide_eq_true rfl))) hI47
              have I76 : jI50 σ24 := jI50_fr ((f26 52 (of_decide_eq_true rfl)).trans (f10 52 (of_decide_eq_true rfl))) hI50
              have I77 : jI102 σ24 := jI102_fr ((f27 6 (of_decide_eq_true rfl)).trans (congrFun (f10 55 (of_decide_eq_true rfl)) 6)) ((f26 60 (of_decide_eq_true rfl)).trans (f10 60 (of_decide_eq_true rfl))) ((f26 61 (of_decide_eq_true rfl)).trans (f10 61 (of_decide_eq_true rfl))) hI102
              have I78 : jI103 σ24 := jI103_fr ((f27 9 (of_decide_eq_true rfl)).trans (congrFun (f10 55 (of_decide_eq_true rfl)) 9)) hI103
              have I79 : jI104 σ24 := jI104_fr ((f27 10 (of_decide_eq_true rfl)).trans (congrFun (f10 55 (of_decide_eq_true rfl)) 10)) ((f27 12 (of_decide_eq_true rfl)).trans (congrFun (f10 55 (of_decide_eq_true rfl)) 12)) ((f27 13 (of_decide_eq_true rfl)).trans (congrFun (f10 55 (of_decide_eq_true rfl)) 13)) ((f26 62 (of_decide_eq_true rfl)).trans (f10 62 (of_decide_eq_true rfl))) ((f26 67 (of_decide_eq_true rfl)).trans (f10 67 (of_decide_eq_true rfl))) hI104
              have I80 : jI105 σ24 := jI105_fr ((f27 15 (of_decide_eq_true rfl)).trans (congrFun (f10 55 (of_decide_eq_true rfl)) 15)) ((f26 65 (of_decide_eq_true rfl)).trans (f10 65 (of_decide_eq_true rfl))) hI105
              have I81 : jI106 σ24 := jI106_fr ((f27 32 (of_decide_eq_true rfl)).trans (congrFun (f10 55 (of_decide_eq_true rfl)) 32)) ((f26 70 (of_decide_eq_true rfl)).trans (f10 70 (of_decide_eq_true rfl))) ((f26 71 (of_decide_eq_true rfl)).trans (f10 71 (of_decide_eq_true rfl))) ((f26 72 (of_decide_eq_true rfl)).trans (f10 72 (of_decide_eq_true rfl))) hI106
              have I82 : jI107 σ24 := jI107_fr ((f27 12 (of_decide_eq_true rfl)).trans (congrFun (f10 55 (of_decide_eq_true rfl)) 12)) ((f27 47 (of_decide_eq_true rfl)).trans (congrFun (f10 55 (of_decide_eq_true rfl)) 47)) ((f26 80 (of_decide_eq_true rfl)).trans (f10 80 (of_decide_eq_true rfl))) hI107
              have I83 : jI109 σ24 := jI109_fr ((f27 50 (of_decide_eq_true rfl)).trans (congrFun (f10 55 (of_decide_eq_true rfl)) 50)) hI109
              have I84 : jI110 σ24 := jI110_fr ((f26 86 (of_decide_eq_true rfl)).trans (f10 86 (of_decide_eq_true rfl))) ((f26 87 (of_decide_eq_true rfl)).trans (f10 87 (of_decide_eq_true rfl))) hI110
              have I85 : jI111 σ24 := jI111_fr ((f26 79 (of_decide_eq_true rfl)).trans (f10 79 (of_decide_eq_true rfl))) hI111
              have I86 : jI119 σ24 := jI119_fr ((f26 68 (of_decide_eq_true rfl)).trans (f10 68 (of_decide_eq_true rfl))) hI119
              have p87 : jKept σ24 := jKept.fr ((f26 75 (of_decide_eq_true rfl)).trans (f10 75 (of_decide_eq_true rfl))) ((f26 76 (of_decide_eq_true rfl)).trans (f10 76 (of_decide_eq_true rfl))) ((f26 77 (of_decide_eq_true rfl)).trans (f10 77 (of_decide_eq_true rfl))) hs_jKept
              have p88 : jBook σ24 := jBook.fr ((f27 47 (of_decide_eq_true rfl)).trans (congrFun (f10 55 (of_decide_eq_true rfl)) 47)) ((f27 10 (of_decide_eq_true rfl)).trans (congrFun (f10 55 (of_decide_eq_true rfl)) 10)) ((f26 81 (of_decide_eq_true rfl)).trans (f10 81 (of_decide_eq_true rfl))) hs_jBook
              have z89 : (σ24 38 0).toInt = (σ 38 0).toInt := (congrArg Int32.toInt (show σ24 38 0 = (σ 38 0) from ((congrFun (f26 38 (of_decide_eq_true rfl)) 0).trans (congrFun (f10 38 (of_decide_eq_true rfl)) 0))))
              have z90 : (σ24 55 32).toInt = (σ 55 32).toInt := (congrArg Int32.toInt (show σ24 55 32 = (σ 55 32) from ((f27 32 (of_decide_eq_true rfl)).trans (congrFun (f10 55 (of_decide_eq_true rfl)) 32))))
              exact by exact ih x65 σ24 τ _ _ ls (by have h9 := tx65; omega) ⟨I66, I67, I68, I69, I70, I71, I72, I73, I74, I75, I76, I28, I77, I78, I79, I80, I81, I82, I83, I84, I85, I86, p87, p88, (by omega)⟩ hP hS (lv_sub hl [0, 1, 2, 3] rfl)
     · obtain ⟨q92, k91⟩ := h15
       refine lv_pop hx hb dL_law_301 rfl ?_
       refine lv_aload_n hx hb dL_law_302 rfl (lv_at hl 1 rfl) ?_
       refine lv_aload_n hx hb dL_law_303 rfl (lv_at hl 3 rfl) ?_
       refine lv_iload_n hx hb dL_law_304 rfl (lv_at hl 0 rfl) ?_
       refine lv_iconst (v := 1) hx hb dL_law_305 (of_decide_eq_true rfl) ?_
       refine lv_iadd hx hb dL_law_306 ?_
       refine jtopr ex2.symm ?_
       exact by
        refine va_sld hx hb hX hbl hbA hS (jin tx2 (by omega) (by omega)) dL_law_307 ?_
        refine lv_aload_n hx hb dL_law_308 rfl (lv_at hl 3 rfl) ?_
        refine lv_iload_n hx hb dL_law_309 rfl (lv_at hl 0 rfl) ?_
        refine lv_iconst (v := 2) hx hb dL_law_310 (of_decide_eq_true rfl) ?_
        refine lv_iadd hx hb dL_law_311 ?_
        refine jtopr ex4.symm ?_
        refine va_sld hx hb hX hbl hbA hS (jin tx4 (by omega) (by omega)) dL_law_312 ?_
        refine lv_aload_n hx hb dL_law_313 rfl (lv_at hl 3 rfl) ?_
        refine lv_iload_n hx hb dL_law_314 rfl (lv_at hl 0 rfl) ?_
        exact by
         refine lv_iconst (v := 3) hx hb dL_law_315 (of_decide_eq_true rfl) ?_
         refine lv_iadd hx hb dL_law_316 ?_
         refine jtopr ex6.symm ?_
         refine va_sld hx hb hX hbl hbA hS (jin tx6 (by omega) (by omega)) dL_law_317 ?_
         have I93 : jI101 σ8 := jI101_fr (congrFun (f10 55 (of_decide_eq_true rfl)) 4) (congrFun (f10 55 (of_decide_eq_true rfl)) 5) (f10 56 (of_decide_eq_true rfl)) (f10 57 (of_decide_eq_true rfl)) (f10 58 (of_decide_eq_true rfl)) (f10 59 (of_decide_eq_true rfl)) hI101
         have z94 : (σ8 55 5).toInt = (σ 55 5).toInt := (congrArg Int32.toInt (show σ8 55 5 = (σ 55 5) from (congrFun (f10 55 (of_decide_eq_true rfl)) 5)))
         have z95 : (σ8 55 4).toInt = (σ 55 4).toInt := (congrArg Int32.toInt (show σ8 55 4 = (σ 55 4) from (congrFun (f10 55 (of_decide_eq_true rfl)) 4)))
         refine jcallV (As := [.int (xs x2.toNatClampNeg), .int (xs x4.toNatClampNeg), .int (xs x6.toNatClampNeg)]) (rest := []) ⟨hx, hb, hml, hown, hts⟩ hK hP hA hS hZ (c_X12_field l D cI cL ad zz hJ σ8 τ (xs x2.toNatClampNeg) ((xs x2.toNatClampNeg).toInt) rfl (xs x4.toNatClampNeg) ((xs x4.toNatClampNeg).toInt) rfl (xs x6.toNatClampNeg) ((xs x6.toNatClampNeg).toInt) rfl I93) cw_RL_25 (jc_55 cI cL ad σ8 τ) rfl ⟨Nat.le_of_ble_eq_true rfl, Nat.le_of_ble_eq_true rfl⟩ rfl rfl rfl hl.1 rfl (Nat.le_of_ble_eq_true rfl) dL_law_318 ⟨Nat.le_of_ble_eq_true rfl, Nat.le_of_ble_eq_true rfl⟩ (fun r97 σ96 τ96 H locs h96 hP hS => ?_)
         obtain ⟨rfl, f98, f99, I100, h96⟩ := h96
         exact by
          rcases h96 with h102 | h103
          · obtain ⟨q108, k104, k105, k106, k107⟩ := h102
            have q108 := q108.symm
            subst q108
            refine lv_pop hx hb dL_law_321 rfl ?_
            refine lv_goto (tgt := 1357) hx hb dL_law_322 (of_decide_eq_true rfl) ?_
            obtain ⟨x109, ex109⟩ : ∃ y : Int32, y = x0 + 6 := ⟨_, rfl⟩
            have tx109 : x109.toInt = x0.toInt + 6 := (jadd ex109 rfl jz_6 (by omega) (by omega)).trans (by omega)
            refine lv_iinc (v := x109) (lv' := [(3, .int x109), (2, .ref (ad 55)), (1, .ref (ad 0)), (0, .ref b)]) hx hb dL_law_1357 hl (k := 0) rfl (by rw [ex109]; rfl) (of_decide_eq_true rfl) rfl (fun ls hl => ?_)
            exact by
             refine lv_goto (tgt := 18) hx hb dL_law_1360 (of_decide_eq_true rfl) ?_
             have I110 : jI2 σ96 := jI2_fr (congrFun (f98 2 (of_decide_eq_true rfl)) 0) (congrFun (f98 2 (of_decide_eq_true rfl)) 1) (congrFun (f98 2 (of_decide_eq_true rfl)) 2) (congrFun (f98 2 (of_decide_eq_true rfl)) 3) (f98 6 (of_decide_eq_true rfl)) I12
             have I111 : jI9 σ96 := jI9_fr ((congrFun (f98 9 (of_decide_eq_true rfl)) 0).trans (congrFun (f10 9 (of_decide_eq_true rfl)) 0)) ((f98 10 (of_decide_eq_true rfl)).trans (f10 10 (of_decide_eq_true rfl))) ((f98 11 (of_decide_eq_true rfl)).trans (f10 11 (of_decide_eq_true rfl))) hI9
             have I112 : jI12 σ96 := jI12_fr ((congrFun (f98 12 (of_decide_eq_true rfl)) 0).trans (congrFun (f10 12 (of_decide_eq_true rfl)) 0)) ((f98 13 (of_decide_eq_true rfl)).trans (f10 13 (of_decide_eq_true rfl))) hI12
             have I113 : jI16 σ96 := jI16_fr ((congrFun (f98 16 (of_decide_eq_true rfl)) 0).trans (congrFun (f10 16 (of_decide_eq_true rfl)) 0)) ((congrFun (f98 16 (of_decide_eq_true rfl)) 1).trans (congrFun (f10 16 (of_decide_eq_true rfl)) 1)) ((congrFun (f98 16 (of_decide_eq_true rfl)) 2).trans (congrFun (f10 16 (of_decide_eq_true rfl)) 2)) ((f98 17 (of_decide_eq_true rfl)).trans (f10 17 (of_decide_eq_true rfl))) hI16
             have I114 : jI18 σ96 := jI18_fr ((congrFun (f98 18 (of_decide_eq_true rfl)) 0).trans (congrFun (f10 18 (of_decide_eq_true rfl)) 0)) ((f98 19 (of_decide_eq_true rfl)).trans (f10 19 (of_decide_eq_true rfl))) hI18
             have I115 : jI22 σ96 := jI22_fr ((congrFun (f98 22 (of_decide_eq_true rfl)) 0).trans (congrFun (f10 22 (of_decide_eq_true rfl)) 0)) ((f98 23 (of_decide_eq_true rfl)).trans (f10 23 (of_decide_eq_true rfl))) hI22
             have I116 : jI31 σ96 := jI31_fr ((congrFun (f98 31 (of_decide_eq_true rfl)) 8).trans (congrFun (f10 31 (of_decide_eq_true rfl)) 8)) ((f98 33 (of_decide_eq_true rfl)).trans (f10 33 (of_decide_eq_true rfl))) ((f98 36 (of_decide_eq_true rfl)).trans (f10 36 (of_decide_eq_true rfl))) hI31
             have I117 : jI38 σ96 := jI38_fr ((congrFun (f98 38 (of_decide_eq_true rfl)) 0).trans (congrFun (f10 38 (of_decide_eq_true rfl)) 0)) ((congrFun (f98 38 (of_decide_eq_true rfl)) 1).trans (congrFun (f10 38 (of_decide_eq_true rfl)) 1)) ((f98 39 (of_decide_eq_true rfl)).trans (f10 39 (of_decide_eq_true rfl))) hI38
             have I118 : jI43 σ96 := jI43_fr ((congrFun (f98 43 (of_decide_eq_true rfl)) 8).trans (congrFun (f10 43 (of_decide_eq_true rfl)) 8)) hI43
             have I119 : jI47 σ96 := jI47_fr ((congrFun (f98 47 (of_decide_eq_true rfl)) 0).trans (congrFun (f10 47 (of_decide_eq_true rfl)) 0)) ((f98 48 (of_decide_eq_true rfl)).trans (f10 48 (of_decide_eq_true rfl))) ((f98 49 (of_decide_eq_true rfl)).trans (f10 49 (of_decide_eq_true rfl))) hI47
             have I120 : jI50 σ96 := jI50_fr ((f98 52 (of_decide_eq_true rfl)).trans (f10 52 (of_decide_eq_true rfl))) hI50
             have I121 : jI102 σ96 := jI102_fr ((f99 6 (of_decide_eq_true rfl)).trans (congrFun (f10 55 (of_decide_eq_true rfl)) 6)) ((f98 60 (of_decide_eq_true rfl)).trans (f10 60 (of_decide_eq_true rfl))) ((f98 61 (of_decide_eq_true rfl)).trans (f10 61 (of_decide_eq_true rfl))) hI102
             have I122 : jI103 σ96 := jI103_fr ((f99 9 (of_decide_eq_true rfl)).trans (congrFun (f10 55 (of_decide_eq_true rfl)) 9)) hI103
             have I123 : jI104 σ96 := jI104_fr ((f99 10 (of_decide_eq_true rfl)).trans (congrFun (f10 55 (of_decide_eq_true rfl)) 10)) ((f99 12 (of_decide_eq_true rfl)).trans (congrFun (f10 55 (of_decide_eq_true rfl)) 12)) ((f99 13 (of_decide_eq_true rfl)).trans (congrFun (f10 55 (of_decide_eq_true rfl)) 13)) ((f98 62 (of_decide_eq_true rfl)).trans (f10 62 (of_decide_eq_true rfl))) ((f98 67 (of_decide_eq_true rfl)).trans (f10 67 (of_decide_eq_true rfl))) hI104
             have I124 : jI105 σ96 := jI105_fr ((f99 15 (of_decide_eq_true rfl)).trans (congrFun (f10 55 (of_decide_eq_true rfl)) 15)) ((f98 65 (of_decide_eq_true rfl)).trans (f10 65 (of_decide_eq_true rfl))) hI105
             have I125 : jI106 σ96 := jI106_fr ((f99 32 (of_decide_eq_true rfl)).trans (congrFun (f10 55 (of_decide_eq_true rfl)) 32)) ((f98 70 (of_decide_eq_true rfl)).trans (f10 70 (of_decide_eq_true rfl))) ((f98 71 (of_decide_eq_true rfl)).trans (f10 71 (of_decide_eq_true rfl))) ((f98 72 (of_decide_eq_true rfl)).trans (f10 72 (of_decide_eq_true rfl))) hI106
             have I126 : jI107 σ96 := jI107_fr ((f99 12 (of_decide_eq_true rfl)).trans (congrFun (f10 55 (of_decide_eq_true rfl)) 12)) ((f99 47 (of_decide_eq_true rfl)).trans (congrFun (f10 55 (of_decide_eq_true rfl)) 47)) ((f98 80 (of_decide_eq_true rfl)).trans (f10 80 (of_decide_eq_true rfl))) hI107
             have I127 : jI109 σ96 := jI109_fr ((f99 50 (of_decide_eq_true rfl)).trans (congrFun (f10 55 (of_decide_eq_true rfl)) 50)) hI109
             have I128 : jI110 σ96 := jI110_fr ((f98 86 (of_decide_eq_true rfl)).trans (f10 86 (of_decide_eq_true rfl))) ((f98 87 (of_decide_eq_true rfl)).trans (f10 87 (of_decide_eq_true rfl))) hI110
             have I129 : jI111 σ96 := jI111_fr ((f98 79 (of_decide_eq_true rfl)).trans (f10 79 (of_decide_eq_true rfl))) hI111
             have I130 : jI119 σ96 := jI119_fr ((f98 68 (of_decide_eq_true rfl)).trans (f10 68 (of_decide_eq_true rfl))) hI119
             have p131 : jKept σ96 := jKept.fr ((f98 75 (of_decide_eq_true rfl)).trans (f10 75 (of_decide_eq_true rfl))) ((f98 76 (of_decide_eq_true rfl)).trans (f10 76 (of_decide_eq_true rfl))) ((f98 77 (of_decide_eq_true rfl)).trans (f10 77 (of_decide_eq_true rfl))) hs_jKept
             have p132 : jBook σ96 := jBook.fr ((f99 47 (of_decide_eq_true rfl)).trans (congrFun (f10 55 (of_decide_eq_true rfl)) 47)) ((f99 10 (of_decide_eq_true rfl)).trans (congrFun (f10 55 (of_decide_eq_true rfl)) 10)) ((f98 81 (of_decide_eq_true rfl)).trans (f10 81 (of_decide_eq_true rfl))) hs_jBook
             have z133 : (σ96 38 0).toInt = (σ 38 0).toInt := (congrArg Int32.toInt (show σ96 38 0 = (σ 38 0) from ((congrFun (f98 38 (of_decide_eq_true rfl)) 0).trans (congrFun (f10 38 (of_decide_eq_true rfl)) 0))))
             have z134 : (σ96 55 32).toInt = (σ 55 32).toInt := (congrArg Int32.toInt (show σ96 55 32 = (σ 55 32) from ((f99 32 (of_decide_eq_true rfl)).trans (congrFun (f10 55 (of_decide_eq_true rfl)) 32))))
             exact by exact ih x109 σ96 τ _ _ ls (by have h9 := tx109; omega) ⟨I110, I111, I112, I113, I114, I115, I116, I117, I118, I119, I120, I100, I121, I122, I123, I124, I125, I126, I127, I128, I129, I130, p131, p132, (by omega)⟩ hP hS (lv_sub hl [0, 1, 2, 3] rfl)
          · obtain ⟨q136, k135⟩ := h103
            refine lv_pop hx hb dL_law_321 rfl ?_
            refine lv_goto (tgt := 1357) hx hb dL_law_322 (of_decide_eq_true rfl) ?_
            obtain ⟨x137, ex137⟩ : ∃ y : Int32, y = x0 + 6 := ⟨_, rfl⟩
            exact by
             have tx137 : x137.toInt = x0.toInt + 6 := (jadd ex137 rfl jz_6 (by omega) (by omega)).trans (by omega)
             refine lv_iinc (v := x137) (lv' := [(3, .int x137), (2, .ref (ad 55)), (1, .ref (ad 0)), (0, .ref b)]) hx hb dL_law_1357 hl (k := 0) rfl (by rw [ex137]; rfl) (of_decide_eq_true rfl) rfl (fun ls hl => ?_)
             refine lv_goto (tgt := 18) hx hb dL_law_1360 (of_decide_eq_true rfl) ?_
             have I138 : jI2 σ96 := jI2_fr (congrFun (f98 2 (of_decide_eq_true rfl)) 0) (congrFun (f98 2 (of_decide_eq_true rfl)) 1) (congrFun (f98 2 (of_decide_eq_true rfl)) 2) (congrFun (f98 2 (of_decide_eq_true rfl)) 3) (f98 6 (of_decide_eq_true rfl)) I12
             have I139 : jI9 σ96 := jI9_fr ((congrFun (f98 9 (of_decide_eq_true rfl)) 0).trans (congrFun (f10 9 (of_decide_eq_true rfl)) 0)) ((f98 10 (of_decide_eq_true rfl)).trans (f10 10 (of_decide_eq_true rfl))) ((f98 11 (of_decide_eq_true rfl)).trans (f10 11 (of_decide_eq_true rfl))) hI9
             have I140 : jI12 σ96 := jI12_fr ((congrFun (f98 12 (of_decide_eq_true rfl)) 0).trans (congrFun (f10 12 (of_decide_eq_true rfl)) 0)) ((f98 13 (of_decide_eq_true rfl)).trans (f10 13 (of_decide_eq_true rfl))) hI12
             have I141 : jI16 σ96 := jI16_fr ((congrFun (f98 16 (of_decide_eq_true rfl)) 0).trans (congrFun (f10 16 (of_decide_eq_true rfl)) 0)) ((congrFun (f98 16 (of_decide_eq_true rfl)) 1).trans (congrFun (f10 16 (of_decide_eq_true rfl)) 1)) ((congrFun (f98 16 (of_decide_eq_true rfl)) 2).trans (congrFun (f10 16 (of_decide_eq_true rfl)) 2)) ((f98 17 (of_decide_eq_true rfl)).trans (f10 17 (of_decide_eq_true rfl))) hI16
             have I142 : jI18 σ96 := jI18_fr ((congrFun (f98 18 (of_decide_eq_true rfl)) 0).trans (congrFun (f10 18 (of_decide_eq_true rfl)) 0)) ((f98 19 (of_decide_eq_true rfl)).trans (f10 19 (of_decide_eq_true rfl))) hI18
             have I143 : jI22 σ96 := jI22_fr ((congrFun (f98 22 (of_decide_eq_true rfl)) 0).trans (congrFun (f10 22 (of_decide_eq_true rfl)) 0)) ((f98 23 (of_decide_eq_true rfl)).trans (f10 23 (of_decide_eq_true rfl))) hI22
             exact by
              have I144 : jI31 σ96 := jI31_fr ((congrFun (f98 31 (of_decide_eq_true rfl)) 8).trans (congrFun (f10 31 (of_decide_eq_true rfl)) 8)) ((f98 33 (of_decide_eq_true rfl)).trans (f10 33 (of_decide_eq_true rfl))) ((f98 36 (of_decide_eq_true rfl)).trans (f10 36 (of_decide_eq_true rfl))) hI31
              have I145 : jI38 σ96 := jI38_fr ((congrFun (f98 38 (of_decide_eq_true rfl)) 0).trans (congrFun (f10 38 (of_decide_eq_true rfl)) 0)) ((congrFun (f98 38 (of_decide_eq_true rfl)) 1).trans (congrFun (f10 38 (of_decide_eq_true rfl)) 1)) ((f98 39 (of_decide_eq_true rfl)).trans (f10 39 (of_decide_eq_true rfl))) hI38
              have I146 : jI43 σ96 := jI43_fr ((congrFun (f98 43 (of_decide_eq_true rfl)) 8).trans (congrFun (f10 43 (of_decide_eq_true rfl)) 8)) hI43
              have I147 : jI47 σ96 := jI47_fr ((congrFun (f98 47 (of_decide_eq_true rfl)) 0).trans (congrFun (f10 47 (of_decide_eq_true rfl)) 0)) ((f98 48 (of_decide_eq_true rfl)).trans (f10 48 (of_decide_eq_true rfl))) ((f98 49 (of_decide_eq_true rfl)).trans (f10 49 (of_decide_eq_true rfl))) hI47
              have I148 : jI50 σ96 := jI50_fr ((f98 52 (of_decide_eq_true rfl)).trans (f10 52 (of_decide_eq_true rfl))) hI50
              have I149 : jI102 σ96 := jI102_fr ((f99 6 (of_decide_eq_true rfl)).trans (congrFun (f10 55 (of_decide_eq_true rfl)) 6)) ((f98 60 (of_decide_eq_true rfl)).trans (f10 60 (of_decide_eq_true rfl))) ((f98 61 (of_decide_eq_true rfl)).trans (f10 61 (of_decide_eq_true rfl))) hI102
              have I150 : jI103 σ96 := jI103_fr ((f99 9 (of_decide_eq_true rfl)).trans (congrFun (f10 55 (of_decide_eq_true rfl)) 9)) hI103
              have I151 : jI104 σ96 := jI104_fr ((f99 10 (of_decide_eq_true rfl)).trans (congrFun (f10 55 (of_decide_eq_true rfl)) 10)) ((f99 12 (of_decide_eq_true rfl)).trans (congrFun (f10 55 (of_decide_eq_true rfl)) 12)) ((f99 13 (of_decide_eq_true rfl)).trans (congrFun (f10 55 (of_decide_eq_true rfl)) 13)) ((f98 62 (of_decide_eq_true rfl)).trans (f10 62 (of_decide_eq_true rfl))) ((f98 67 (of_decide_eq_true rfl)).trans (f10 67 (of_decide_eq_true rfl))) hI104
              have I152 : jI105 σ96 := jI105_fr ((f99 15 (of_decide_eq_true rfl)).trans (congrFun (f10 55 (of_decide_eq_true rfl)) 15)) ((f98 65 (of_decide_eq_true rfl)).trans (f10 65 (of_decide_eq_true rfl))) hI105
              have I153 : jI106 σ96 := jI106_fr ((f99 32 (of_decide_eq_true rfl)).trans (congrFun (f10 55 (of_decide_eq_true rfl)) 32)) ((f98 70 (of_decide_eq_true rfl)).trans (f10 70 (of_decide_eq_true rfl))) ((f98 71 (of_decide_eq_true rfl)).trans (f10 71 (of_decide_eq_true rfl))) ((f98 72 (of_decide_eq_true rfl)).trans (f10 72 (of_decide_eq_true rfl))) hI106
              have I154 : jI107 σ96 := jI107_fr ((f99 12 (of_decide_eq_true rfl)).trans (congrFun (f10 55 (of_decide_eq_true rfl)) 12)) ((f99 47 (of_decide_eq_true rfl)).trans (congrFun (f10 55 (of_decide_eq_true rfl)) 47)) ((f98 80 (of_decide_eq_true rfl)).trans (f10 80 (of_decide_eq_true rfl))) hI107
              have I155 : jI109 σ96 := jI109_fr ((f99 50 (of_decide_eq_true rfl)).trans (congrFun (f10 55 (of_decide_eq_true rfl)) 50)) hI109
              have I156 : jI110 σ96 := jI110_fr ((f98 86 (of_decide_eq_true rfl)).trans (f10 86 (of_decide_eq_true rfl))) ((f98 87 (of_decide_eq_true rfl)).trans (f10 87 (of_decide_eq_true rfl))) hI110
              have I157 : jI111 σ96 := jI111_fr ((f98 79 (of_decide_eq_true rfl)).trans (f10 79 (of_decide_eq_true rfl))) hI111
              have I158 : jI119 σ96 := jI119_fr ((f98 68 (of_decide_eq_true rfl)).trans (f10 68 (of_decide_eq_true rfl))) hI119
              have p159 : jKept σ96 := jKept.fr ((f98 75 (of_decide_eq_true rfl)).trans (f10 75 (of_decide_eq_true rfl))) ((f98 76 (of_decide_eq_true rfl)).trans (f10 76 (of_decide_eq_true rfl))) ((f98 77 (of_decide_eq_true rfl)).trans (f10 77 (of_decide_eq_true rfl))) hs_jKept
              have p160 : jBook σ96 := jBook.fr ((f99 47 (of_decide_eq_true rfl)).trans (congrFun (f10 55 (of_decide_eq_true rfl)) 47)) ((f99 10 (of_decide_eq_true rfl)).trans (congrFun (f10 55 (of_decide_eq_true rfl)) 10)) ((f98 81 (of_decide_eq_true rfl)).trans (f10 81 (of_decide_eq_true rfl))) hs_jBook
              have z161 : (σ96 38 0).toInt = (σ 38 0).toInt := (congrArg Int32.toInt (show σ96 38 0 = (σ 38 0) from ((congrFun (f98 38 (of_decide_eq_true rfl)) 0).trans (congrFun (f10 38 (of_decide_eq_true rfl)) 0))))
              have z162 : (σ96 55 32).toInt = (σ 55 32).toInt := (congrArg Int32.toInt (show σ96 55 32 = (σ 55 32) from ((f99 32 (of_decide_eq_true rfl)).trans (congrFun (f10 55 (of_decide_eq_true rfl)) 32))))
              exact by exact ih x137 σ96 τ _ _ ls (by have h9 := tx137; omega) ⟨I138, I139, I140, I141, I142, I143, I144, I145, I146, I147, I148, I100, I149, I150, I151, I152, I153, I154, I155, I156, I157, I158, p159, p160, (by omega)⟩ hP hS (lv_sub hl [0, 1, 2, 3] rfl)
set_option maxHeartbeats 4000000 in
set_option maxRecDepth 100000 in
theorem law_case_3 {p : Program} {e : Env} {s : State} {m : MethodId} {below : List Frame} {meth : Method} {c : Code} (l : Launch) {b L : Nat} {xs : Nat → Int32} {D : va_G} {cI cL : ClassId} {ad zz : Nat → Nat} (C0 : lw_At p s m meth c b L xs) (hJ : jD ad) (hA : ∀ q, jA ad q → s.heap.size ≤ q) (hK : jK D cI cL s) (hZ : jZ zz (fun q : Nat => s.heap.size ≤ q) s s.heap) {x0 : Int32} (hx0 : 0 ≤ x0.toInt) (hxL : x0.toInt + 6 ≤ (L : Int)) (hL : L ≤ 384) {σ : Nat → Nat → Int32} {τ : Nat → Nat → Int64} {H : Heap} {locs : List Loc} (hS : va_S (fun q : Nat => s.heap.size ≤ q) s.heap H locs) {ls : Array Slot} (hAll : jAll σ τ) (hP : jH D cI cL ad σ τ H) (hl : lv_has ls 4 [(3, .int x0), (2, .ref (ad 55)), (1, .ref (ad 0)), (0, .ref b)]) (ih : ∀ (x1 : Int32) (σ : Nat → Nat → Int32) (τ : Nat → Nat → Int64) (H : Heap) (locs : List Loc) (ls : Array Slot), x1.toInt = x0.toInt + 6 → jAll σ τ → jH D cI cL ad σ τ H → va_S (fun q : Nat => s.heap.size ≤ q) s.heap H locs → lv_has ls 4 [(3, .int x1), (2, .ref (ad 55)), (1, .ref (ad 0)), (0, .ref b)] → W p l e room_1 s m #[Value.ref b] below meth c H locs 90 348600 (lw_Z below #[Value.ref b] s) (F0 m 18 ls [])) : W p l e room_1 s m #[Value.ref b] below meth c H locs 90 348600 (lw_Z below #[Value.ref b] s) (F0 m 325 ls []) := by
  obtain ⟨hx, hb, hr, hml, hown, hts0, hX, hbl, hlocks, hgv⟩ := C0
  have hts : ∀ w ∈ wsL_law, w.before #[Value.ref b] s = true := fun w h => hts0 w (wsL_law_in w h)
  have hbA : ¬ (fun q : Nat => s.heap.size ≤ q) b := Nat.not_le.mpr hbl
  have hown : s.vm.findClass RL = some m.cls := hown
  obtain ⟨hI2, hI9, hI12, hI16, hI18, hI22, hI31, hI38, hI43, hI47, hI50, hI101, hI102, hI103, hI104, hI105, hI106, hI107, hI109, hI110, hI111, hI119, hs_jKept, hs_jBook, ht0⟩ := hAll
  have hL9 : (L : Int) ≤ 384 := by omega
  refine lv_aload_n hx hb dL_law_325 rfl (lv_at hl 2 rfl) ?_
  refine lv_aload_n hx hb dL_law_326 rfl (lv_at hl 3 rfl) ?_
  refine lv_iload_n hx hb dL_law_327 rfl (lv_at hl 0 rfl) ?_
  refine lv_iconst (v := 1) hx hb dL_law_328 (of_decide_eq_true rfl) ?_
  have g1 := jrg (rfl : x0.toInt = x0.toInt)
  refine lv_iadd hx hb dL_law_329 ?_
  refine lv_topi (fun x2 ex2 => ?_)
  exact by
   have tx2 : x2.toInt = x0.toInt + 1 := (jadd ex2 rfl jz_1 (by omega) (by omega)).trans (by omega)
   refine va_sld hx hb hX hbl hbA hS (jin tx2 (by omega) (by omega)) dL_law_330 ?_
   have g3 := jrg (rfl : (xs x2.toNatClampNeg).toInt = (xs x2.toNatClampNeg).toInt)
   refine jcallV (As := [.int (xs x2.toNatClampNeg)]) (rest := []) ⟨hx, hb, hml, hown, hts⟩ hK hP hA hS hZ (c_X11_set l D cI cL ad zz hJ σ τ (xs x2.toNatClampNeg) ((xs x2.toNatClampNeg).toInt) rfl hI2) cw_RL_26 (jc_0 cI cL ad σ τ) rfl ⟨Nat.le_of_ble_eq_true rfl, Nat.le_of_ble_eq_true rfl⟩ rfl rfl rfl hl.1 rfl (Nat.le_of_ble_eq_true rfl) dL_law_331 ⟨Nat.le_of_ble_eq_true rfl, Nat.le_of_ble_eq_true rfl⟩ (fun r5 σ4 τ4 H locs h4 hP hS => ?_)
   obtain ⟨rfl, f6, f7, I8, h4⟩ := h4
   rcases h4 with h10 | h11
   · obtain ⟨q15, k12, k13, k14⟩ := h10
     refine lv_pop hx hb dL_law_334 rfl ?_
     refine lv_aload_n hx hb dL_law_335 rfl (lv_at hl 1 rfl) ?_
     exact by
      refine lv_aload_n hx hb dL_law_336 rfl (lv_at hl 3 rfl) ?_
      refine lv_iload_n hx hb dL_law_337 rfl (lv_at hl 0 rfl) ?_
      refine lv_iconst (v := 1) hx hb dL_law_338 (of_decide_eq_true rfl) ?_
      refine lv_iadd hx hb dL_law_339 ?_
      refine jtopr ex2.symm ?_
      refine va_sld hx hb hX hbl hbA hS (jin tx2 (by omega) (by omega)) dL_law_340 ?_
      have I16 : jI103 σ4 := jI103_fr (congrFun (f6 55 (of_decide_eq_true rfl)) 9) hI103
      have z17 : (σ4 55 9).toInt = (σ 55 9).toInt := (congrArg Int32.toInt (show σ4 55 9 = (σ 55 9) from (congrFun (f6 55 (of_decide_eq_true rfl)) 9)))
      refine jcallV (As := [.int (xs x2.toNatClampNeg)]) (rest := []) ⟨hx, hb, hml, hown, hts⟩ hK hP hA hS hZ (c_X12_set l D cI cL ad zz hJ σ4 τ (xs x2.toNatClampNeg) ((xs x2.toNatClampNeg).toInt) rfl I16) cw_RL_30 (jc_55 cI cL ad σ4 τ) rfl ⟨Nat.le_of_ble_eq_true rfl, Nat.le_of_ble_eq_true rfl⟩ rfl rfl rfl hl.1 rfl (Nat.le_of_ble_eq_true rfl) dL_law_341 ⟨Nat.le_of_ble_eq_true rfl, Nat.le_of_ble_eq_true rfl⟩ (fun r19 σ18 τ18 H locs h18 hP hS => ?_)
      exact by
       obtain ⟨rfl, f20, f21, I22, h18⟩ := h18
       rcases h18 with h24 | h25
       · obtain ⟨q29, k26, k27, k28⟩ := h24
         refine lv_pop hx hb dL_law_344 rfl ?_
         refine lv_goto (tgt := 1357) hx hb dL_law_345 (of_decide_eq_true rfl) ?_
         obtain ⟨x30, ex30⟩ : ∃ y : Int32, y = x0 + 6 := ⟨_, rfl⟩
         have tx30 : x30.toInt = x0.toInt + 6 := (jadd ex30 rfl jz_6 (by omega) (by omega)).trans (by omega)
         refine lv_iinc (v := x30) (lv' := [(3, .int x30), (2, .ref (ad 55)), (1, .ref (ad 0)), (0, .ref b)]) hx hb dL_law_1357 hl (k := 0) rfl (by rw [ex30]; rfl) (of_decide_eq_true rfl) rfl (fun ls hl => ?_)
         refine lv_goto (tgt := 18) hx hb dL_law_1360 (of_decide_eq_true rfl) ?_
         exact by
          have I31 : jI2 σ18 := jI2_fr (congrFun (f20 2 (of_decide_eq_true rfl)) 0) (congrFun (f20 2 (of_decide_eq_true rfl)) 1) (congrFun (f20 2 (of_decide_eq_true rfl)) 2) (congrFun (f20 2 (of_decide_eq_true rfl)) 3) (f20 6 (of_decide_eq_true rfl)) I8
          have I32 : jI9 σ18 := jI9_fr ((congrFun (f20 9 (of_decide_eq_true rfl)) 0).trans (congrFun (f6 9 (of_decide_eq_true rfl)) 0)) ((f20 10 (of_decide_eq_true rfl)).trans (f6 10 (of_decide_eq_true rfl))) ((f20 11 (of_decide_eq_true rfl)).trans (f6 11 (of_decide_eq_true rfl))) hI9
          have I33 : jI12 σ18 := jI12_fr ((congrFun (f20 12 (of_decide_eq_true rfl)) 0).trans (congrFun (f6 12 (of_decide_eq_true rfl)) 0)) ((f20 13 (of_decide_eq_true rfl)).trans (f6 13 (of_decide_eq_true rfl))) hI12
          have I34 : jI16 σ18 := jI16_fr ((congrFun (f20 16 (of_decide_eq_true rfl)) 0).trans (congrFun (f6 16 (of_decide_eq_true rfl)) 0)) ((congrFun (f20 16 (of_decide_eq_true rfl)) 1).trans (congrFun (f6 16 (of_decide_eq_true rfl)) 1)) ((congrFun (f20 16 (of_decide_eq_true rfl)) 2).trans (congrFun (f6 16 (of_decide_eq_true rfl)) 2)) ((f20 17 (of_decide_eq_true rfl)).trans (f6 17 (of_decide_eq_true rfl))) hI16
          have I35 : jI18 σ18 := jI18_fr ((congrFun (f20 18 (of_decide_eq_true rfl)) 0).trans (congrFun (f6 18 (of_decide_eq_true rfl)) 0)) ((f20 19 (of_decide_eq_true rfl)).trans (f6 19 (of_decide_eq_true rfl))) hI18
          have I36 : jI22 σ18 := jI22_fr ((congrFun (f20 22 (of_decide_eq_true rfl)) 0).trans (congrFun (f6 22 (of_decide_eq_true rfl)) 0)) ((f20 23 (of_decide_eq_true rfl)).trans (f6 23 (of_decide_eq_true rfl))) hI22
          have I37 : jI31 σ18 := jI31_fr ((congrFun (f20 31 (of_decide_eq_true rfl)) 8).trans (congrFun (f6 31 (of_decide_eq_true rfl)) 8)) ((f20 33 (of_decide_eq_true rfl)).trans (f6 33 (of_decide_eq_true rfl))) ((f20 36 (of_decide_eq_true rfl)).trans (f6 36 (of_decide_eq_true rfl))) hI31
          have I38 : jI38 σ18 := jI38_fr ((congrFun (f20 38 (of_decide_eq_true rfl)) 0).trans (congrFun (f6 38 (of_decide_eq_true rfl)) 0)) ((congrFun (f20 38 (of_decide_eq_true rfl)) 1).trans (congrFun (f6 38 (of_decide_eq_true rfl)) 1)) ((f20 39 (of_decide_eq_true rfl)).trans (f6 39 (of_decide_eq_true rfl))) hI38
          have I39 : jI43 σ18 := jI43_fr ((congrFun (f20 43 (of_decide_eq_true rfl)) 8).trans (congrFun (f6 43 (of_decide_eq_true rfl)) 8)) hI43
          have I40 : jI47 σ18 := jI47_fr ((congrFun (f20 47 (of_decide_eq_true rfl)) 0).trans (congrFun (f6 47 (of_decide_eq_true rfl)) 0)) ((f20 48 (of_decide_eq_true rfl)).trans (f6 48 (of_decide_eq_true rfl))) ((f20 49 (of_decide_eq_true rfl)).trans (f6 49 (of_decide_eq_true rfl))) hI47
          have I41 : jI50 σ18 := jI50_fr ((f20 52 (of_decide_eq_true rfl)).trans (f6 52 (of_decide_eq_true rfl))) hI50
          have I42 : jI101 σ18 := jI101_fr ((f21 4 (of_decide_eq_true rfl)).trans (congrFun (f6 55 (of_decide_eq_true rfl)) 4)) ((f21 5 (of_decide_eq_true rfl)).trans (congrFun (f6 55 (of_decide_eq_true rfl)) 5)) ((f20 56 (of_decide_eq_true rfl)).trans (f6 56 (of_decide_eq_true rfl))) ((f20 57 (of_decide_eq_true rfl)).trans (f6 57 (of_decide_eq_true rfl))) ((f20 58 (of_decide_eq_true rfl)).trans (f6 58 (of_decide_eq_true rfl))) ((f20 59 (of_decide_eq_true rfl)).trans (f6 59 (of_decide_eq_true rfl))) hI101
          have I43 : jI102 σ18 := jI102_fr ((f21 6 (of_decide_eq_true rfl)).trans (congrFun (f6 55 (of_decide_eq_true rfl)) 6)) ((f20 60 (of_decide_eq_true rfl)).trans (f6 60 (of_decide_eq_true rfl))) ((f20 61 (of_decide_eq_true rfl)).trans (f6 61 (of_decide_eq_true rfl))) hI102
          have I44 : jI104 σ18 := jI104_fr ((f21 10 (of_decide_eq_true rfl)).trans (congrFun (f6 55 (of_decide_eq_true rfl)) 10)) ((f21 12 (of_decide_eq_true rfl)).trans (congrFun (f6 55 (of_decide_eq_true rfl)) 12)) ((f21 13 (of_decide_eq_true rfl)).trans (congrFun (f6 55 (of_decide_eq_true rfl)) 13)) ((f20 62 (of_decide_eq_true rfl)).trans (f6 62 (of_decide_eq_true rfl))) ((f20 67 (of_decide_eq_true rfl)).trans (f6 67 (of_decide_eq_true rfl))) hI104
          have I45 : jI105 σ18 := jI105_fr ((f21 15 (of_decide_eq_true rfl)).trans (congrFun (f6 55 (of_decide_eq_true rfl)) 15)) ((f20 65 (of_decide_eq_true rfl)).trans (f6 65 (of_decide_eq_true rfl))) hI105
          have I46 : jI106 σ18 := jI106_fr ((f21 32 (of_decide_eq_true rfl)).trans (congrFun (f6 55 (of_decide_eq_true rfl)) 32)) ((f20 70 (of_decide_eq_true rfl)).trans (f6 70 (of_decide_eq_true rfl))) ((f20 71 (of_decide_eq_true rfl)).trans (f6 71 (of_decide_eq_true rfl))) ((f20 72 (of_decide_eq_true rfl)).trans (f6 72 (of_decide_eq_true rfl))) hI106
          have I47 : jI107 σ18 := jI107_fr ((f21 12 (of_decide_eq_true rfl)).trans (congrFun (f6 55 (of_decide_eq_true rfl)) 12)) ((f21 47 (of_decide_eq_true rfl)).trans (congrFun (f6 55 (of_decide_eq_true rfl)) 47)) ((f20 80 (of_decide_eq_true rfl)).trans (f6 80 (of_decide_eq_true rfl))) hI107
          have I48 : jI109 σ18 := jI109_fr ((f21 50 (of_decide_eq_true rfl)).trans (congrFun (f6 55 (of_decide_eq_true rfl)) 50)) hI109
          have I49 : jI110 σ18 := jI110_fr ((f20 86 (of_decide_eq_true rfl)).trans (f6 86 (of_decide_eq_true rfl))) ((f20 87 (of_decide_eq_true rfl)).trans (f6 87 (of_decide_eq_true rfl))) hI110
          have I50 : jI111 σ18 := jI111_fr ((f20 79 (of_decide_eq_true rfl)).trans (f6 79 (of_decide_eq_true rfl))) hI111
          have I51 : jI119 σ18 := jI119_fr ((f20 68 (of_decide_eq_true rfl)).trans (f6 68 (of_decide_eq_true rfl))) hI119
          have p52 : jKept σ18 := jKept.fr ((f20 75 (of_decide_eq_true rfl)).trans (f6 75 (of_decide_eq_true rfl))) ((f20 76 (of_decide_eq_true rfl)).trans (f6 76 (of_decide_eq_true rfl))) ((f20 77 (of_decide_eq_true rfl)).trans (f6 77 (of_decide_eq_true rfl))) hs_jKept
          have p53 : jBook σ18 := jBook.fr ((f21 47 (of_decide_eq_true rfl)).trans (congrFun (f6 55 (of_decide_eq_true rfl)) 47)) ((f21 10 (of_decide_eq_true rfl)).trans (congrFun (f6 55 (of_decide_eq_true rfl)) 10)) ((f20 81 (of_decide_eq_true rfl)).trans (f6 81 (of_decide_eq_true rfl))) hs_jBook
          have z54 : (σ18 38 0).toInt = (σ 38 0).toInt := (congrArg Int32.toInt (show σ18 38 0 = (σ 38 0) from ((congrFun (f20 38 (of_decide_eq_true rfl)) 0).trans (congrFun (f6 38 (of_decide_eq_true rfl)) 0))))
          have z55 : (σ18 55 32).toInt = (σ 55 32).toInt := (congrArg Int32.toInt (show σ18 55 32 = (σ 55 32) from ((f21 32 (of_decide_eq_true rfl)).trans (congrFun (f6 55 (of_decide_eq_true rfl)) 32))))
          exact by exact ih x30 σ18 τ _ _ ls (by have h9 := tx30; omega) ⟨I31, I32, I33, I34, I35, I36, I37, I38, I39, I40, I41, I42, I43, I22, I44, I45, I46, I47, I48, I49, I50, I51, p52, p53, (by omega)⟩ hP hS (lv_sub hl [0, 1, 2, 3] rfl)
       · obtain ⟨q58, k56, k57⟩ := h25
         exact absurd (by omega : False) id
   · obtain ⟨q61, k59, k60⟩ := h11
     have q61 := q61.symm
     subst q61
     refine lv_pop hx hb dL_law_334 rfl ?_
     refine lv_aload_n hx hb dL_law_335 rfl (lv_at hl 1 rfl) ?_
     refine lv_aload_n hx hb dL_law_336 rfl (lv_at hl 3 rfl) ?_
     refine lv_iload_n hx hb dL_law_337 rfl (lv_at hl 0 rfl) ?_
     refine lv_iconst (v := 1) hx hb dL_law_338 (of_decide_eq_true rfl) ?_
     refine lv_iadd hx hb dL_law_339 ?_
     refine jtopr ex2.symm ?_
     exact by
      refine va_sld hx hb hX hbl hbA hS (jin tx2 (by omega) (by omega)) dL_law_340 ?_
      have I62 : jI103 σ4 := jI103_fr (congrFun (f6 55 (of_decide_eq_true rfl)) 9) hI103
      have z63 : (σ4 55 9).toInt = (σ 55 9).toInt := (congrArg Int32.toInt (show σ4 55 9 = (σ 55 9) from (congrFun (f6 55 (of_decide_eq_true rfl)) 9)))
      refine jcallV (As := [.int (xs x2.toNatClampNeg)]) (rest := []) ⟨hx, hb, hml, hown, hts⟩ hK hP hA hS hZ (c_X12_set l D cI cL ad zz hJ σ4 τ (xs x2.toNatClampNeg) ((xs x2.toNatClampNeg).toInt) rfl I62) cw_RL_30 (jc_55 cI cL ad σ4 τ) rfl ⟨Nat.le_of_ble_eq_true rfl, Nat.le_of_ble_eq_true rfl⟩ rfl rfl rfl hl.1 rfl (Nat.le_of_ble_eq_true rfl) dL_law_341 ⟨Nat.le_of_ble_eq_true rfl, Nat.le_of_ble_eq_true rfl⟩ (fun r65 σ64 τ64 H locs h64 hP hS => ?_)
      obtain ⟨rfl, f66, f67, I68, h64⟩ := h64
      rcases h64 with h70 | h71
      · obtain ⟨q75, k72, k73, k74⟩ := h70
        exact absurd (by omega : False) id
      · obtain ⟨q78, k76, k77⟩ := h71
        have q78 := q78.symm
        subst q78
        refine lv_pop hx hb dL_law_344 rfl ?_
        refine lv_goto (tgt := 1357) hx hb dL_law_345 (of_decide_eq_true rfl) ?_
        obtain ⟨x79, ex79⟩ : ∃ y : Int32, y = x0 + 6 := ⟨_, rfl⟩
        exact by
         have tx79 : x79.toInt = x0.toInt + 6 := (jadd ex79 rfl jz_6 (by omega) (by omega)).trans (by omega)
         refine lv_iinc (v := x79) (lv' := [(3, .int x79), (2, .ref (ad 55)), (1, .ref (ad 0)), (0, .ref b)]) hx hb dL_law_1357 hl (k := 0) rfl (by rw [ex79]; rfl) (of_decide_eq_true rfl) rfl (fun ls hl => ?_)
         refine lv_goto (tgt := 18) hx hb dL_law_1360 (of_decide_eq_true rfl) ?_
         have I80 : jI2 σ64 := jI2_fr (congrFun (f66 2 (of_decide_eq_true rfl)) 0) (congrFun (f66 2 (of_decide_eq_true rfl)) 1) (congrFun (f66 2 (of_decide_eq_true rfl)) 2) (congrFun (f66 2 (of_decide_eq_true rfl)) 3) (f66 6 (of_decide_eq_true rfl)) I8
         have I81 : jI9 σ64 := jI9_fr ((congrFun (f66 9 (of_decide_eq_true rfl)) 0).trans (congrFun (f6 9 (of_decide_eq_true rfl)) 0)) ((f66 10 (of_decide_eq_true rfl)).trans (f6 10 (of_decide_eq_true rfl))) ((f66 11 (of_decide_eq_true rfl)).trans (f6 11 (of_decide_eq_true rfl))) hI9
         have I82 : jI12 σ64 := jI12_fr ((congrFun (f66 12 (of_decide_eq_true rfl)) 0).trans (congrFun (f6 12 (of_decide_eq_true rfl)) 0)) ((f66 13 (of_decide_eq_true rfl)).trans (f6 13 (of_decide_eq_true rfl))) hI12
         have I83 : jI16 σ64 := jI16_fr ((congrFun (f66 16 (of_decide_eq_true rfl)) 0).trans (congrFun (f6 16 (of_decide_eq_true rfl)) 0)) ((congrFun (f66 16 (of_decide_eq_true rfl)) 1).trans (congrFun (f6 16 (of_decide_eq_true rfl)) 1)) ((congrFun (f66 16 (of_decide_eq_true rfl)) 2).trans (congrFun (f6 16 (of_decide_eq_true rfl)) 2)) ((f66 17 (of_decide_eq_true rfl)).trans (f6 17 (of_decide_eq_true rfl))) hI16
         have I84 : jI18 σ64 := jI18_fr ((congrFun (f66 18 (of_decide_eq_true rfl)) 0).trans (congrFun (f6 18 (of_decide_eq_true rfl)) 0)) ((f66 19 (of_decide_eq_true rfl)).trans (f6 19 (of_decide_eq_true rfl))) hI18
         have I85 : jI22 σ64 := jI22_fr ((congrFun (f66 22 (of_decide_eq_true rfl)) 0).trans (congrFun (f6 22 (of_decide_eq_true rfl)) 0)) ((f66 23 (of_decide_eq_true rfl)).trans (f6 23 (of_decide_eq_true rfl))) hI22
         exact by
          have I86 : jI31 σ64 := jI31_fr ((congrFun (f66 31 (of_decide_eq_true rfl)) 8).trans (congrFun (f6 31 (of_decide_eq_true rfl)) 8)) ((f66 33 (of_decide_eq_true rfl)).trans (f6 33 (of_decide_eq_true rfl))) ((f66 36 (of_decide_eq_true rfl)).trans (f6 36 (of_decide_eq_true rfl))) hI31
          have I87 : jI38 σ64 := jI38_fr ((congrFun (f66 38 (of_decide_eq_true rfl)) 0).trans (congrFun (f6 38 (of_decide_eq_true rfl)) 0)) ((congrFun (f66 38 (of_decide_eq_true rfl)) 1).trans (congrFun (f6 38 (of_decide_eq_true rfl)) 1)) ((f66 39 (of_decide_eq_true rfl)).trans (f6 39 (of_decide_eq_true rfl))) hI38
          have I88 : jI43 σ64 := jI43_fr ((congrFun (f66 43 (of_decide_eq_true rfl)) 8).trans (congrFun (f6 43 (of_decide_eq_true rfl)) 8)) hI43
          have I89 : jI47 σ64 := jI47_fr ((congrFun (f66 47 (of_decide_eq_true rfl)) 0).trans (congrFun (f6 47 (of_decide_eq_true rfl)) 0)) ((f66 48 (of_decide_eq_true rfl)).trans (f6 48 (of_decide_eq_true rfl))) ((f66 49 (of_decide_eq_true rfl)).trans (f6 49 (of_decide_eq_true rfl))) hI47
          have I90 : jI50 σ64 := jI50_fr ((f66 52 (of_decide_eq_true rfl)).trans (f6 52 (of_decide_eq_true rfl))) hI50
          have I91 : jI101 σ64 := jI101_fr ((f67 4 (of_decide_eq_true rfl)).trans (congrFun (f6 55 (of_decide_eq_true rfl)) 4)) ((f67 5 (of_decide_eq_true rfl)).trans (congrFun (f6 55 (of_decide_eq_true rfl)) 5)) ((f66 56 (of_decide_eq_true rfl)).trans (f6 56 (of_decide_eq_true rfl))) ((f66 57 (of_decide_eq_true rfl)).trans (f6 57 (of_decide_eq_true rfl))) ((f66 58 (of_decide_eq_true rfl)).trans (f6 58 (of_decide_eq_true rfl))) ((f66 59 (of_decide_eq_true rfl)).trans (f6 59 (of_decide_eq_true rfl))) hI101
          have I92 : jI102 σ64 := jI102_fr ((f67 6 (of_decide_eq_true rfl)).trans (congrFun (f6 55 (of_decide_eq_true rfl)) 6)) ((f66 60 (of_decide_eq_true rfl)).trans (f6 60 (of_decide_eq_true rfl))) ((f66 61 (of_decide_eq_true rfl)).trans (f6 61 (of_decide_eq_true rfl))) hI102
          have I93 : jI104 σ64 := jI104_fr ((f67 10 (of_decide_eq_true rfl)).trans (congrFun (f6 55 (of_decide_eq_true rfl)) 10)) ((f67 12 (of_decide_eq_true rfl)).trans (congrFun (f6 55 (of_decide_eq_true rfl)) 12)) ((f67 13 (of_decide_eq_true rfl)).trans (congrFun (f6 55 (of_decide_eq_true rfl)) 13)) ((f66 62 (of_decide_eq_true rfl)).trans (f6 62 (of_decide_eq_true rfl))) ((f66 67 (of_decide_eq_true rfl)).trans (f6 67 (of_decide_eq_true rfl))) hI104
          have I94 : jI105 σ64 := jI105_fr ((f67 15 (of_decide_eq_true rfl)).trans (congrFun (f6 55 (of_decide_eq_true rfl)) 15)) ((f66 65 (of_decide_eq_true rfl)).trans (f6 65 (of_decide_eq_true rfl))) hI105
          have I95 : jI106 σ64 := jI106_fr ((f67 32 (of_decide_eq_true rfl)).trans (congrFun (f6 55 (of_decide_eq_true rfl)) 32)) ((f66 70 (of_decide_eq_true rfl)).trans (f6 70 (of_decide_eq_true rfl))) ((f66 71 (of_decide_eq_true rfl)).trans (f6 71 (of_decide_eq_true rfl))) ((f66 72 (of_decide_eq_true rfl)).trans (f6 72 (of_decide_eq_true rfl))) hI106
          have I96 : jI107 σ64 := jI107_fr ((f67 12 (of_decide_eq_true rfl)).trans (congrFun (f6 55 (of_decide_eq_true rfl)) 12)) ((f67 47 (of_decide_eq_true rfl)).trans (congrFun (f6 55 (of_decide_eq_true rfl)) 47)) ((f66 80 (of_decide_eq_true rfl)).trans (f6 80 (of_decide_eq_true rfl))) hI107
          have I97 : jI109 σ64 := jI109_fr ((f67 50 (of_decide_eq_true rfl)).trans (congrFun (f6 55 (of_decide_eq_true rfl)) 50)) hI109
          have I98 : jI110 σ64 := jI110_fr ((f66 86 (of_decide_eq_true rfl)).trans (f6 86 (of_decide_eq_true rfl))) ((f66 87 (of_decide_eq_true rfl)).trans (f6 87 (of_decide_eq_true rfl))) hI110
          have I99 : jI111 σ64 := jI111_fr ((f66 79 (of_decide_eq_true rfl)).trans (f6 79 (of_decide_eq_true rfl))) hI111
          have I100 : jI119 σ64 := jI119_fr ((f66 68 (of_decide_eq_true rfl)).trans (f6 68 (of_decide_eq_true rfl))) hI119
          have p101 : jKept σ64 := jKept.fr ((f66 75 (of_decide_eq_true rfl)).trans (f6 75 (of_decide_eq_true rfl))) ((f66 76 (of_decide_eq_true rfl)).trans (f6 76 (of_decide_eq_true rfl))) ((f66 77 (of_decide_eq_true rfl)).trans (f6 77 (of_decide_eq_true rfl))) hs_jKept
          have p102 : jBook σ64 := jBook.fr ((f67 47 (of_decide_eq_true rfl)).trans (congrFun (f6 55 (of_decide_eq_true rfl)) 47)) ((f67 10 (of_decide_eq_true rfl)).trans (congrFun (f6 55 (of_decide_eq_true rfl)) 10)) ((f66 81 (of_decide_eq_true rfl)).trans (f6 81 (of_decide_eq_true rfl))) hs_jBook
          have z103 : (σ64 38 0).toInt = (σ 38 0).toInt := (congrArg Int32.toInt (show σ64 38 0 = (σ 38 0) from ((congrFun (f66 38 (of_decide_eq_true rfl)) 0).trans (congrFun (f6 38 (of_decide_eq_true rfl)) 0))))
          have z104 : (σ64 55 32).toInt = (σ 55 32).toInt := (congrArg Int32.toInt (show σ64 55 32 = (σ 55 32) from ((f67 32 (of_decide_eq_true rfl)).trans (congrFun (f6 55 (of_decide_eq_true rfl)) 32))))
          exact by exact ih x79 σ64 τ _ _ ls (by have h9 := tx79; omega) ⟨I80, I81, I82, I83, I84, I85, I86, I87, I88, I89, I90, I91, I92, I68, I93, I94, I95, I96, I97, I98, I99, I100, p101, p102, (by omega)⟩ hP hS (lv_sub hl [0, 1, 2, 3] rfl)
set_option maxHeartbeats 4000000 in
set_option maxRecDepth 100000 in
theorem law_case_4 {p : Program} {e : Env} {s : State} {m : MethodId} {below : List Frame} {meth : Method} {c : Code} (l : Launch) {b L : Nat} {xs : Nat → Int32} {D : va_G} {cI cL : ClassId} {ad zz : Nat → Nat} (C0 : lw_At p s m meth c b L xs) (hJ : jD ad) (hA : ∀ q, jA ad q → s.heap.size ≤ q) (hK : jK D cI cL s) (hZ : jZ zz (fun q : Nat => s.heap.size ≤ q) s s.heap) {x0 : Int32} (hx0 : 0 ≤ x0.toInt) (hxL : x0.toInt + 6 ≤ (L : Int)) (hL : L ≤ 384) {σ : Nat → Nat → Int32} {τ : Nat → Nat → Int64} {H : Heap} {locs : List Loc} (hS : va_S (fun q : Nat => s.heap.size ≤ q) s.heap H locs) {ls : Array Slot} (hAll : jAll σ τ) (hP : jH D cI cL ad σ τ H) (hl : lv_has ls 4 [(3, .int x0), (2, .ref (ad 55)), (1, .ref (ad 0)), (0, .ref b)]) (ih : ∀ (x1 : Int32) (σ : Nat → Nat → Int32) (τ : Nat → Nat → Int64) (H : Heap) (locs : List Loc) (ls : Array Slot), x1.toInt = x0.toInt + 6 → jAll σ τ → jH D cI cL ad σ τ H → va_S (fun q : Nat => s.heap.size ≤ q) s.heap H locs → lv_has ls 4 [(3, .int x1), (2, .ref (ad 55)), (1, .ref (ad 0)), (0, .ref b)] → W p l e room_1 s m #[Value.ref b] below meth c H locs 90 348600 (lw_Z below #[Value.ref b] s) (F0 m 18 ls [])) : W p l e room_1 s m #[Value.ref b] below meth c H locs 90 348600 (lw_Z below #[Value.ref b] s) (F0 m 348 ls []) := by
  obtain ⟨hx, hb, hr, hml, hown, hts0, hX, hbl, hlocks, hgv⟩ := C0
  have hts : ∀ w ∈ wsL_law, w.before #[Value.ref b] s = true := fun w h => hts0 w (wsL_law_in w h)
  have hbA : ¬ (fun q : Nat => s.heap.size ≤ q) b := Nat.not_le.mpr hbl
  have hown : s.vm.findClass RL = some m.cls := hown
  obtain ⟨hI2, hI9, hI12, hI16, hI18, hI22, hI31, hI38, hI43, hI47, hI50, hI101, hI102, hI103, hI104, hI105, hI106, hI107, hI109, hI110, hI111, hI119, hs_jKept, hs_jBook, ht0⟩ := hAll
  have hL9 : (L : Int) ≤ 384 := by omega
  refine lv_aload_n hx hb dL_law_348 rfl (lv_at hl 2 rfl) ?_
  refine lv_aload_n hx hb dL_law_349 rfl (lv_at hl 3 rfl) ?_
  refine lv_iload_n hx hb dL_law_350 rfl (lv_at hl 0 rfl) ?_
  refine lv_iconst (v := 1) hx hb dL_law_351 (of_decide_eq_true rfl) ?_
  have g1 := jrg (rfl : x0.toInt = x0.toInt)
  refine lv_iadd hx hb dL_law_352 ?_
  refine lv_topi (fun x2 ex2 => ?_)
  exact by
   have tx2 : x2.toInt = x0.toInt + 1 := (jadd ex2 rfl jz_1 (by omega) (by omega)).trans (by omega)
   refine va_sld hx hb hX hbl hbA hS (jin tx2 (by omega) (by omega)) dL_law_353 ?_
   have g3 := jrg (rfl : (xs x2.toNatClampNeg).toInt = (xs x2.toNatClampNeg).toInt)
   refine lv_aload_n hx hb dL_law_354 rfl (lv_at hl 3 rfl) ?_
   refine lv_iload_n hx hb dL_law_355 rfl (lv_at hl 0 rfl) ?_
   refine lv_iconst (v := 2) hx hb dL_law_356 (of_decide_eq_true rfl) ?_
   refine lv_iadd hx hb dL_law_357 ?_
   refine lv_topi (fun x4 ex4 => ?_)
   have tx4 : x4.toInt = x0.toInt + 2 := (jadd ex4 rfl jz_2 (by omega) (by omega)).trans (by omega)
   exact by
    refine va_sld hx hb hX hbl hbA hS (jin tx4 (by omega) (by omega)) dL_law_358 ?_
    have g5 := jrg (rfl : (xs x4.toNatClampNeg).toInt = (xs x4.toNatClampNeg).toInt)
    refine jcallV (As := [.int (xs x2.toNatClampNeg), .int (xs x4.toNatClampNeg)]) (rest := []) ⟨hx, hb, hml, hown, hts⟩ hK hP hA hS hZ (c_X11_feed l D cI cL ad zz hJ σ τ (xs x2.toNatClampNeg) ((xs x2.toNatClampNeg).toInt) rfl (xs x4.toNatClampNeg) ((xs x4.toNatClampNeg).toInt) rfl hI9) cw_RL_31 (jc_0 cI cL ad σ τ) rfl ⟨Nat.le_of_ble_eq_true rfl, Nat.le_of_ble_eq_true rfl⟩ rfl rfl rfl hl.1 rfl (Nat.le_of_ble_eq_true rfl) dL_law_359 ⟨Nat.le_of_ble_eq_true rfl, Nat.le_of_ble_eq_true rfl⟩ (fun r7 σ6 τ6 H locs h6 hP hS => ?_)
    obtain ⟨rfl, f8, f9, I10, h6⟩ := h6
    rcases h6 with h12 | h13 | h14
    · obtain ⟨q18, k15, k16, k17⟩ := h12
      have q18 := q18.symm
      subst q18
      refine lv_pop hx hb dL_law_362 rfl ?_
      refine lv_aload_n hx hb dL_law_363 rfl (lv_at hl 1 rfl) ?_
      refine lv_aload_n hx hb dL_law_364 rfl (lv_at hl 3 rfl) ?_
      refine lv_iload_n hx hb dL_law_365 rfl (lv_at hl 0 rfl) ?_
      refine lv_iconst (v := 1) hx hb dL_law_366 (of_decide_eq_true rfl) ?_
      refine lv_iadd hx hb dL_law_367 ?_
      refine jtopr ex2.symm ?_
      exact by
       refine va_sld hx hb hX hbl hbA hS (jin tx2 (by omega) (by omega)) dL_law_368 ?_
       refine lv_aload_n hx hb dL_law_369 rfl (lv_at hl 3 rfl) ?_
       refine lv_iload_n hx hb dL_law_370 rfl (lv_at hl 0 rfl) ?_
       refine lv_iconst (v := 2) hx hb dL_law_371 (of_decide_eq_true rfl) ?_
       refine lv_iadd hx hb dL_law_372 ?_
       refine jtopr ex4.symm ?_
       refine va_sld hx hb hX hbl hbA hS (jin tx4 (by omega) (by omega)) dL_law_373 ?_
       have I19 : jI105 σ6 := jI105_fr (congrFun (f8 55 (of_decide_eq_true rfl)) 15) (f8 65 (of_decide_eq_true rfl)) hI105
       have z20 : (σ6 55 15).toInt = (σ 55 15).toInt := (congrArg Int32.toInt (show σ6 55 15 = (σ 55 15) from (congrFun (f8 55 (of_decide_eq_true rfl)) 15)))
       exact by
        refine jcallV (As := [.int (xs x2.toNatClampNeg), .int (xs x4.toNatClampNeg)]) (rest := []) ⟨hx, hb, hml, hown, hts⟩ hK hP hA hS hZ (c_X12_feed l D cI cL ad zz hJ σ6 τ (xs x2.toNatClampNeg) ((xs x2.toNatClampNeg).toInt) rfl (xs x4.toNatClampNeg) ((xs x4.toNatClampNeg).toInt) rfl I19) cw_RL_35 (jc_55 cI cL ad σ6 τ) rfl ⟨Nat.le_of_ble_eq_true rfl, Nat.le_of_ble_eq_true rfl⟩ rfl rfl rfl hl.1 rfl (Nat.le_of_ble_eq_true rfl) dL_law_374 ⟨Nat.le_of_ble_eq_true rfl, Nat.le_of_ble_eq_true rfl⟩ (fun r22 σ21 τ21 H locs h21 hP hS => ?_)
        obtain ⟨rfl, f23, f24, I25, h21⟩ := h21
        rcases h21 with h27 | h28 | h29
        · obtain ⟨q33, k30, k31, k32⟩ := h27
          have q33 := q33.symm
          subst q33
          refine lv_pop hx hb dL_law_377 rfl ?_
          refine lv_goto (tgt := 1357) hx hb dL_law_378 (of_decide_eq_true rfl) ?_
          obtain ⟨x34, ex34⟩ : ∃ y : Int32, y = x0 + 6 := ⟨_, rfl⟩
          exact by
           have tx34 : x34.toInt = x0.toInt + 6 := (jadd ex34 rfl jz_6 (by omega) (by omega)).trans (by omega)
           refine lv_iinc (v := x34) (lv' := [(3, .int x34), (2, .ref (ad 55)), (1, .ref (ad 0)), (0, .ref b)]) hx hb dL_law_1357 hl (k := 0) rfl (by rw [ex34]; rfl) (of_decide_eq_true rfl) rfl (fun ls hl => ?_)
           refine lv_goto (tgt := 18) hx hb dL_law_1360 (of_decide_eq_true rfl) ?_
           have I35 : jI2 σ21 := jI2_fr ((congrFun (f23 2 (of_decide_eq_true rfl)) 0).trans (congrFun (f8 2 (of_decide_eq_true rfl)) 0)) ((congrFun (f23 2 (of_decide_eq_true rfl)) 1).trans (congrFun (f8 2 (of_decide_eq_true rfl)) 1)) ((congrFun (f23 2 (of_decide_eq_true rfl)) 2).trans (congrFun (f8 2 (of_decide_eq_true rfl)) 2)) ((congrFun (f23 2 (of_decide_eq_true rfl)) 3).trans (congrFun (f8 2 (of_decide_eq_true rfl)) 3)) ((f23 6 (of_decide_eq_true rfl)).trans (f8 6 (of_decide_eq_true rfl))) hI2
           have I36 : jI9 σ21 := jI9_fr (congrFun (f23 9 (of_decide_eq_true rfl)) 0) (f23 10 (of_decide_eq_true rfl)) (f23 11 (of_decide_eq_true rfl)) I10
           have I37 : jI12 σ21 := jI12_fr ((congrFun (f23 12 (of_decide_eq_true rfl)) 0).trans (congrFun (f8 12 (of_decide_eq_true rfl)) 0)) ((f23 13 (of_decide_eq_true rfl)).trans (f8 13 (of_decide_eq_true rfl))) hI12
           have I38 : jI16 σ21 := jI16_fr ((congrFun (f23 16 (of_decide_eq_true rfl)) 0).trans (congrFun (f8 16 (of_decide_eq_true rfl)) 0)) ((congrFun (f23 16 (of_decide_eq_true rfl)) 1).trans (congrFun (f8 16 (of_decide_eq_true rfl)) 1)) ((congrFun (f23 16 (of_decide_eq_true rfl)) 2).trans (congrFun (f8 16 (of_decide_eq_true rfl)) 2)) ((f23 17 (of_decide_eq_true rfl)).trans (f8 17 (of_decide_eq_true rfl))) hI16
           have I39 : jI18 σ21 := jI18_fr ((congrFun (f23 18 (of_decide_eq_true rfl)) 0).trans (congrFun (f8 18 (of_decide_eq_true rfl)) 0)) ((f23 19 (of_decide_eq_true rfl)).trans (f8 19 (of_decide_eq_true rfl))) hI18
           have I40 : jI22 σ21 := jI22_fr ((congrFun (f23 22 (of_decide_eq_true rfl)) 0).trans (congrFun (f8 22 (of_decide_eq_true rfl)) 0)) ((f23 23 (of_decide_eq_true rfl)).trans (f8 23 (of_decide_eq_true rfl))) hI22
           exact by
            have I41 : jI31 σ21 := jI31_fr ((congrFun (f23 31 (of_decide_eq_true rfl)) 8).trans (congrFun (f8 31 (of_decide_eq_true rfl)) 8)) ((f23 33 (of_decide_eq_true rfl)).trans (f8 33 (of_decide_eq_true rfl))) ((f23 36 (of_decide_eq_true rfl)).trans (f8 36 (of_decide_eq_true rfl))) hI31
            have I42 : jI38 σ21 := jI38_fr ((congrFun (f23 38 (of_decide_eq_true rfl)) 0).trans (congrFun (f8 38 (of_decide_eq_true rfl)) 0)) ((congrFun (f23 38 (of_decide_eq_true rfl)) 1).trans (congrFun (f8 38 (of_decide_eq_true rfl)) 1)) ((f23 39 (of_decide_eq_true rfl)).trans (f8 39 (of_decide_eq_true rfl))) hI38
            have I43 : jI43 σ21 := jI43_fr ((congrFun (f23 43 (of_decide_eq_true rfl)) 8).trans (congrFun (f8 43 (of_decide_eq_true rfl)) 8)) hI43
            have I44 : jI47 σ21 := jI47_fr ((congrFun (f23 47 (of_decide_eq_true rfl)) 0).trans (congrFun (f8 47 (of_decide_eq_true rfl)) 0)) ((f23 48 (of_decide_eq_true rfl)).trans (f8 48 (of_decide_eq_true rfl))) ((f23 49 (of_decide_eq_true rfl)).trans (f8 49 (of_decide_eq_true rfl))) hI47
            have I45 : jI50 σ21 := jI50_fr ((f23 52 (of_decide_eq_true rfl)).trans (f8 52 (of_decide_eq_true rfl))) hI50
            have I46 : jI101 σ21 := jI101_fr ((f24 4 (of_decide_eq_true rfl)).trans (congrFun (f8 55 (of_decide_eq_true rfl)) 4)) ((f24 5 (of_decide_eq_true rfl)).trans (congrFun (f8 55 (of_decide_eq_true rfl)) 5)) ((f23 56 (of_decide_eq_true rfl)).trans (f8 56 (of_decide_eq_true rfl))) ((f23 57 (of_decide_eq_true rfl)).trans (f8 57 (of_decide_eq_true rfl))) ((f23 58 (of_decide_eq_true rfl)).trans (f8 58 (of_decide_eq_true rfl))) ((f23 59 (of_decide_eq_true rfl)).trans (f8 59 (of_decide_eq_true rfl))) hI101
            have I47 : jI102 σ21 := jI102_fr ((f24 6 (of_decide_eq_true rfl)).trans (congrFun (f8 55 (of_decide_eq_true rfl)) 6)) ((f23 60 (of_decide_eq_true rfl)).trans (f8 60 (of_decide_eq_true rfl))) ((f23 61 (of_decide_eq_true rfl)).trans (f8 61 (of_decide_eq_true rfl))) hI102
            have I48 : jI103 σ21 := jI103_fr ((f24 9 (of_decide_eq_true rfl)).trans (congrFun (f8 55 (of_decide_eq_true rfl)) 9)) hI103
            have I49 : jI104 σ21 := jI104_fr ((f24 10 (of_decide_eq_true rfl)).trans (congrFun (f8 55 (of_decide_eq_true rfl)) 10)) ((f24 12 (of_decide_eq_true rfl)).trans (congrFun (f8 55 (of_decide_eq_true rfl)) 12)) ((f24 13 (of_decide_eq_true rfl)).trans (congrFun (f8 55 (of_decide_eq_true rfl)) 13)) ((f23 62 (of_decide_eq_true rfl)).trans (f8 62 (of_decide_eq_true rfl))) ((f23 67 (of_decide_eq_true rfl)).trans (f8 67 (of_decide_eq_true rfl))) hI104
            have I50 : jI106 σ21 := jI106_fr ((f24 32 (of_decide_eq_true rfl)).trans (congrFun (f8 55 (of_decide_eq_true rfl)) 32)) ((f23 70 (of_decide_eq_true rfl)).trans (f8 70 (of_decide_eq_true rfl))) ((f23 71 (of_decide_eq_true rfl)).trans (f8 71 (of_decide_eq_true rfl))) ((f23 72 (of_decide_eq_true rfl)).trans (f8 72 (of_decide_eq_true rfl))) hI106
            have I51 : jI107 σ21 := jI107_fr ((f24 12 (of_decide_eq_true rfl)).trans (congrFun (f8 55 (of_decide_eq_true rfl)) 12)) ((f24 47 (of_decide_eq_true rfl)).trans (congrFun (f8 55 (of_decide_eq_true rfl)) 47)) ((f23 80 (of_decide_eq_true rfl)).trans (f8 80 (of_decide_eq_true rfl))) hI107
            have I52 : jI109 σ21 := jI109_fr ((f24 50 (of_decide_eq_true rfl)).trans (congrFun (f8 55 (of_decide_eq_true rfl)) 50)) hI109
            have I53 : jI110 σ21 := jI110_fr ((f23 86 (of_decide_eq_true rfl)).trans (f8 86 (of_decide_eq_true rfl))) ((f23 87 (of_decide_eq_true rfl)).trans (f8 87 (of_decide_eq_true rfl))) hI110
            have I54 : jI111 σ21 := jI111_fr ((f23 79 (of_decide_eq_true rfl)).trans (f8 79 (of_decide_eq_true rfl))) hI111
            have I55 : jI119 σ21 := jI119_fr ((f23 68 (of_decide_eq_true rfl)).trans (f8 68 (of_decide_eq_true rfl))) hI119
            have p56 : jKept σ21 := jKept.fr ((f23 75 (of_decide_eq_true rfl)).trans (f8 75 (of_decide_eq_true rfl))) ((f23 76 (of_decide_eq_true rfl)).trans (f8 76 (of_decide_eq_true rfl))) ((f23 77 (of_decide_eq_true rfl)).trans (f8 77 (of_decide_eq_true rfl))) hs_jKept
            have p57 : jBook σ21 := jBook.fr ((f24 47 (of_decide_eq_true rfl)).trans (congrFun (f8 55 (of_decide_eq_true rfl)) 47)) ((f24 10 (of_decide_eq_true rfl)).trans (congrFun (f8 55 (of_decide_eq_true rfl)) 10)) ((f23 81 (of_decide_eq_true rfl)).trans (f8 81 (of_decide_eq_true rfl))) hs_jBook
            have z58 : (σ21 38 0).toInt = (σ 38 0).toInt := (congrArg Int32.toInt (show σ21 38 0 = (σ 38 0) from ((congrFun (f23 38 (of_decide_eq_true rfl)) 0).trans (congrFun (f8 38 (of_decide_eq_true rfl)) 0))))
            have z59 : (σ21 55 32).toInt = (σ 55 32).toInt := (congrArg Int32.toInt (show σ21 55 32 = (σ 55 32) from ((f24 32 (of_decide_eq_true rfl)).trans (congrFun (f8 55 (of_decide_eq_true rfl)) 32))))
            exact by exact ih x34 σ21 τ _ _ ls (by have h9 := tx34; omega) ⟨I35, I36, I37, I38, I39, I40, I41, I42, I43, I44, I45, I46, I47, I48, I49, I25, I50, I51, I52, I53, I54, I55, p56, p57, (by omega)⟩ hP hS (lv_sub hl [0, 1, 2, 3] rfl)
        · obtain ⟨q64, k60, k61, k62, k63⟩ := h28
          exact absurd (by omega : False) id
        · obtain ⟨q70, k65, k66, k67, k68, k69⟩ := h29
          exact absurd (by omega : False) id
    · obtain ⟨q75, k71, k72, k73, k74⟩ := h13
      have q75 := q75.symm
      subst q75
      refine lv_pop hx hb dL_law_362 rfl ?_
      refine lv_aload_n hx hb dL_law_363 rfl (lv_at hl 1 rfl) ?_
      refine lv_aload_n hx hb dL_law_364 rfl (lv_at hl 3 rfl) ?_
      refine lv_iload_n hx hb dL_law_365 rfl (lv_at hl 0 rfl) ?_
      refine lv_iconst (v := 1) hx hb dL_law_366 (of_decide_eq_true rfl) ?_
      refine lv_iadd hx hb dL_law_367 ?_
      refine jtopr ex2.symm ?_
      exact by
       refine va_sld hx hb hX hbl hbA hS (jin tx2 (by omega) (by omega)) dL_law_368 ?_
       refine lv_aload_n hx hb dL_law_369 rfl (lv_at hl 3 rfl) ?_
       refine lv_iload_n hx hb dL_law_370 rfl (lv_at hl 0 rfl) ?_
       refine lv_iconst (v := 2) hx hb dL_law_371 (of_decide_eq_true rfl) ?_
       refine lv_iadd hx hb dL_law_372 ?_
       refine jtopr ex4.symm ?_
       refine va_sld hx hb hX hbl hbA hS (jin tx4 (by omega) (by omega)) dL_law_373 ?_
       have I76 : jI105 σ6 := jI105_fr (congrFun (f8 55 (of_decide_eq_true rfl)) 15) (f8 65 (of_decide_eq_true rfl)) hI105
       have z77 : (σ6 55 15).toInt = (σ 55 15).toInt := (congrArg Int32.toInt (show σ6 55 15 = (σ 55 15) from (congrFun (f8 55 (of_decide_eq_true rfl)) 15)))
       exact by
        refine jcallV (As := [.int (xs x2.toNatClampNeg), .int (xs x4.toNatClampNeg)]) (rest := []) ⟨hx, hb, hml, hown, hts⟩ hK hP hA hS hZ (c_X12_feed l D cI cL ad zz hJ σ6 τ (xs x2.toNatClampNeg) ((xs x2.toNatClampNeg).toInt) rfl (xs x4.toNatClampNeg) ((xs x4.toNatClampNeg).toInt) rfl I76) cw_RL_35 (jc_55 cI cL ad σ6 τ) rfl ⟨Nat.le_of_ble_eq_true rfl, Nat.le_of_ble_eq_true rfl⟩ rfl rfl rfl hl.1 rfl (Nat.le_of_ble_eq_true rfl) dL_law_374 ⟨Nat.le_of_ble_eq_true rfl, Nat.le_of_ble_eq_true rfl⟩ (fun r79 σ78 τ78 H locs h78 hP hS => ?_)
        obtain ⟨rfl, f80, f81, I82, h78⟩ := h78
        rcases h78 with h84 | h85 | h86
        · obtain ⟨q90, k87, k88, k89⟩ := h84
          exact absurd (by omega : False) id
        · obtain ⟨q95, k91, k92, k93, k94⟩ := h85
          have q95 := q95.symm
          subst q95
          refine lv_pop hx hb dL_law_377 rfl ?_
          refine lv_goto (tgt := 1357) hx hb dL_law_378 (of_decide_eq_true rfl) ?_
          obtain ⟨x96, ex96⟩ : ∃ y : Int32, y = x0 + 6 := ⟨_, rfl⟩
          exact by
           have tx96 : x96.toInt = x0.toInt + 6 := (jadd ex96 rfl jz_6 (by omega) (by omega)).trans (by omega)
           refine lv_iinc (v := x96) (lv' := [(3, .int x96), (2, .ref (ad 55)), (1, .ref (ad 0)), (0, .ref b)]) hx hb dL_law_1357 hl (k := 0) rfl (by rw [ex96]; rfl) (of_decide_eq_true rfl) rfl (fun ls hl => ?_)
           refine lv_goto (tgt := 18) hx hb dL_law_1360 (of_decide_eq_true rfl) ?_
           have I97 : jI2 σ78 := jI2_fr ((congrFun (f80 2 (of_decide_eq_true rfl)) 0).trans (congrFun (f8 2 (of_decide_eq_true rfl)) 0)) ((congrFun (f80 2 (of_decide_eq_true rfl)) 1).trans (congrFun (f8 2 (of_decide_eq_true rfl)) 1)) ((congrFun (f80 2 (of_decide_eq_true rfl)) 2).trans (congrFun (f8 2 (of_decide_eq_true rfl)) 2)) ((congrFun (f80 2 (of_decide_eq_true rfl)) 3).trans (congrFun (f8 2 (of_decide_eq_true rfl)) 3)) ((f80 6 (of_decide_eq_true rfl)).trans (f8 6 (of_decide_eq_true rfl))) hI2
           have I98 : jI9 σ78 := jI9_fr (congrFun (f80 9 (of_decide_eq_true rfl)) 0) (f80 10 (of_decide_eq_true rfl)) (f80 11 (of_decide_eq_true rfl)) I10
           have I99 : jI12 σ78 := jI12_fr ((congrFun (f80 12 (of_decide_eq_true rfl)) 0).trans (congrFun (f8 12 (of_decide_eq_true rfl)) 0)) ((f80 13 (of_decide_eq_true rfl)).trans (f8 13 (of_decide_eq_true rfl))) hI12
           have I100 : jI16 σ78 := jI16_fr ((congrFun (f80 16 (of_decide_eq_true rfl)) 0).trans (congrFun (f8 16 (of_decide_eq_true rfl)) 0)) ((congrFun (f80 16 (of_decide_eq_true rfl)) 1).trans (congrFun (f8 16 (of_decide_eq_true rfl)) 1)) ((congrFun (f80 16 (of_decide_eq_true rfl)) 2).trans (congrFun (f8 16 (of_decide_eq_true rfl)) 2)) ((f80 17 (of_decide_eq_true rfl)).trans (f8 17 (of_decide_eq_true rfl))) hI16
           have I101 : jI18 σ78 := jI18_fr ((congrFun (f80 18 (of_decide_eq_true rfl)) 0).trans (congrFun (f8 18 (of_decide_eq_true rfl)) 0)) ((f80 19 (of_decide_eq_true rfl)).trans (f8 19 (of_decide_eq_true rfl))) hI18
           have I102 : jI22 σ78 := jI22_fr ((congrFun (f80 22 (of_decide_eq_true rfl)) 0).trans (congrFun (f8 22 (of_decide_eq_true rfl)) 0)) ((f80 23 (of_decide_eq_true rfl)).trans (f8 23 (of_decide_eq_true rfl))) hI22
           exact by
            have I103 : jI31 σ78 := jI31_fr ((congrFun (f80 31 (of_decide_eq_true rfl)) 8).trans (congrFun (f8 31 (of_decide_eq_true rfl)) 8)) ((f80 33 (of_decide_eq_true rfl)).trans (f8 33 (of_decide_eq_true rfl))) ((f80 36 (of_decide_eq_true rfl)).trans (f8 36 (of_decide_eq_true rfl))) hI31
            have I104 : jI38 σ78 := jI38_fr ((congrFun (f80 38 (of_decide_eq_true rfl)) 0).trans (congrFun (f8 38 (of_decide_eq_true rfl)) 0)) ((congrFun (f80 38 (of_decide_eq_true rfl)) 1).trans (congrFun (f8 38 (of_decide_eq_true rfl)) 1)) ((f80 39 (of_decide_eq_true rfl)).trans (f8 39 (of_decide_eq_true rfl))) hI38
            have I105 : jI43 σ78 := jI43_fr ((congrFun (f80 43 (of_decide_eq_true rfl)) 8).trans (congrFun (f8 43 (of_decide_eq_true rfl)) 8)) hI43
            have I106 : jI47 σ78 := jI47_fr ((congrFun (f80 47 (of_decide_eq_true rfl)) 0).trans (congrFun (f8 47 (of_decide_eq_true rfl)) 0)) ((f80 48 (of_decide_eq_true rfl)).trans (f8 48 (of_decide_eq_true rfl))) ((f80 49 (of_decide_eq_true rfl)).trans (f8 49 (of_decide_eq_true rfl))) hI47
            have I107 : jI50 σ78 := jI50_fr ((f80 52 (of_decide_eq_true rfl)).trans (f8 52 (of_decide_eq_true rfl))) hI50
            have I108 : jI101 σ78 := jI101_fr ((f81 4 (of_decide_eq_true rfl)).trans (congrFun (f8 55 (of_decide_eq_true rfl)) 4)) ((f81 5 (of_decide_eq_true rfl)).trans (congrFun (f8 55 (of_decide_eq_true rfl)) 5)) ((f80 56 (of_decide_eq_true rfl)).trans (f8 56 (of_decide_eq_true rfl))) ((f80 57 (of_decide_eq_true rfl)).trans (f8 57 (of_decide_eq_true rfl))) ((f80 58 (of_decide_eq_true rfl)).trans (f8 58 (of_decide_eq_true rfl))) ((f80 59 (of_decide_eq_true rfl)).trans (f8 59 (of_decide_eq_true rfl))) hI101
            have I109 : jI102 σ78 := jI102_fr ((f81 6 (of_decide_eq_true rfl)).trans (congrFun (f8 55 (of_decide_eq_true rfl)) 6)) ((f80 60 (of_decide_eq_true rfl)).trans (f8 60 (of_decide_eq_true rfl))) ((f80 61 (of_decide_eq_true rfl)).trans (f8 61 (of_decide_eq_true rfl))) hI102
            have I110 : jI103 σ78 := jI103_fr ((f81 9 (of_decide_eq_true rfl)).trans (congrFun (f8 55 (of_decide_eq_true rfl)) 9)) hI103
            have I111 : jI104 σ78 := jI104_fr ((f81 10 (of_decide_eq_true rfl)).trans (congrFun (f8 55 (of_decide_eq_true rfl)) 10)) ((f81 12 (of_decide_eq_true rfl)).trans (congrFun (f8 55 (of_decide_eq_true rfl)) 12)) ((f81 13 (of_decide_eq_true rfl)).trans (congrFun (f8 55 (of_decide_eq_true rfl)) 13)) ((f80 62 (of_decide_eq_true rfl)).trans (f8 62 (of_decide_eq_true rfl))) ((f80 67 (of_decide_eq_true rfl)).trans (f8 67 (of_decide_eq_true rfl))) hI104
            have I112 : jI106 σ78 := jI106_fr ((f81 32 (of_decide_eq_true rfl)).trans (congrFun (f8 55 (of_decide_eq_true rfl)) 32)) ((f80 70 (of_decide_eq_true rfl)).trans (f8 70 (of_decide_eq_true rfl))) ((f80 71 (of_decide_eq_true rfl)).trans (f8 71 (of_decide_eq_true rfl))) ((f80 72 (of_decide_eq_true rfl)).trans (f8 72 (of_decide_eq_true rfl))) hI106
            have I113 : jI107 σ78 := jI107_fr ((f81 12 (of_decide_eq_true rfl)).trans (congrFun (f8 55 (of_decide_eq_true rfl)) 12)) ((f81 47 (of_decide_eq_true rfl)).trans (congrFun (f8 55 (of_decide_eq_true rfl)) 47)) ((f80 80 (of_decide_eq_true rfl)).trans (f8 80 (of_decide_eq_true rfl))) hI107
            have I114 : jI109 σ78 := jI109_fr ((f81 50 (of_decide_eq_true rfl)).trans (congrFun (f8 55 (of_decide_eq_true rfl)) 50)) hI109
            have I115 : jI110 σ78 := jI110_fr ((f80 86 (of_decide_eq_true rfl)).trans (f8 86 (of_decide_eq_true rfl))) ((f80 87 (of_decide_eq_true rfl)).trans (f8 87 (of_decide_eq_true rfl))) hI110
            have I116 : jI111 σ78 := jI111_fr ((f80 79 (of_decide_eq_true rfl)).trans (f8 79 (of_decide_eq_true rfl))) hI111
            have I117 : jI119 σ78 := jI119_fr ((f80 68 (of_decide_eq_true rfl)).trans (f8 68 (of_decide_eq_true rfl))) hI119
            have p118 : jKept σ78 := jKept.fr ((f80 75 (of_decide_eq_true rfl)).trans (f8 75 (of_decide_eq_true rfl))) ((f80 76 (of_decide_eq_true rfl)).trans (f8 76 (of_decide_eq_true rfl))) ((f80 77 (of_decide_eq_true rfl)).trans (f8 77 (of_decide_eq_true rfl))) hs_jKept
            have p119 : jBook σ78 := jBook.fr ((f81 47 (of_decide_eq_true rfl)).trans (congrFun (f8 55 (of_decide_eq_true rfl)) 47)) ((f81 10 (of_decide_eq_true rfl)).trans (congrFun (f8 55 (of_decide_eq_true rfl)) 10)) ((f80 81 (of_decide_eq_true rfl)).trans (f8 81 (of_decide_eq_true rfl))) hs_jBook
            have z120 : (σ78 38 0).toInt = (σ 38 0).toInt := (congrArg Int32.toInt (show σ78 38 0 = (σ 38 0) from ((congrFun (f80 38 (of_decide_eq_true rfl)) 0).trans (congrFun (f8 38 (of_decide_eq_true rfl)) 0))))
            have z121 : (σ78 55 32).toInt = (σ 55 32).toInt := (congrArg Int32.toInt (show σ78 55 32 = (σ 55 32) from ((f81 32 (of_decide_eq_true rfl)).trans (congrFun (f8 55 (of_decide_eq_true rfl)) 32))))
            exact by exact ih x96 σ78 τ _ _ ls (by have h9 := tx96; omega) ⟨I97, I98, I99, I100, I101, I102, I103, I104, I105, I106, I107, I108, I109, I110, I111, I82, I112, I113, I114, I115, I116, I117, p118, p119, (by omega)⟩ hP hS (lv_sub hl [0, 1, 2, 3] rfl)
        · obtain ⟨q127, k122, k123, k124, k125, k126⟩ := h86
          refine lv_pop hx hb dL_law_377 rfl ?_
          refine lv_goto (tgt := 1357) hx hb dL_law_378 (of_decide_eq_true rfl) ?_
          obtain ⟨x128, ex128⟩ : ∃ y : Int32, y = x0 + 6 := ⟨_, rfl⟩
          exact by
           have tx128 : x128.toInt = x0.toInt + 6 := (jadd ex128 rfl jz_6 (by omega) (by omega)).trans (by omega)
           refine lv_iinc (v := x128) (lv' := [(3, .int x128), (2, .ref (ad 55)), (1, .ref (ad 0)), (0, .ref b)]) hx hb dL_law_1357 hl (k := 0) rfl (by rw [ex128]; rfl) (of_decide_eq_true rfl) rfl (fun ls hl => ?_)
           refine lv_goto (tgt := 18) hx hb dL_law_1360 (of_decide_eq_true rfl) ?_
           have I129 : jI2 σ78 := jI2_fr ((congrFun (f80 2 (of_decide_eq_true rfl)) 0).trans (congrFun (f8 2 (of_decide_eq_true rfl)) 0)) ((congrFun (f80 2 (of_decide_eq_true rfl)) 1).trans (congrFun (f8 2 (of_decide_eq_true rfl)) 1)) ((congrFun (f80 2 (of_decide_eq_true rfl)) 2).trans (congrFun (f8 2 (of_decide_eq_true rfl)) 2)) ((congrFun (f80 2 (of_decide_eq_true rfl)) 3).trans (congrFun (f8 2 (of_decide_eq_true rfl)) 3)) ((f80 6 (of_decide_eq_true rfl)).trans (f8 6 (of_decide_eq_true rfl))) hI2
           have I130 : jI9 σ78 := jI9_fr (congrFun (f80 9 (of_decide_eq_true rfl)) 0) (f80 10 (of_decide_eq_true rfl)) (f80 11 (of_decide_eq_true rfl)) I10
           have I131 : jI12 σ78 := jI12_fr ((congrFun (f80 12 (of_decide_eq_true rfl)) 0).trans (congrFun (f8 12 (of_decide_eq_true rfl)) 0)) ((f80 13 (of_decide_eq_true rfl)).trans (f8 13 (of_decide_eq_true rfl))) hI12
           have I132 : jI16 σ78 := jI16_fr ((congrFun (f80 16 (of_decide_eq_true rfl)) 0).trans (congrFun (f8 16 (of_decide_eq_true rfl)) 0)) ((congrFun (f80 16 (of_decide_eq_true rfl)) 1).trans (congrFun (f8 16 (of_decide_eq_true rfl)) 1)) ((congrFun (f80 16 (of_decide_eq_true rfl)) 2).trans (congrFun (f8 16 (of_decide_eq_true rfl)) 2)) ((f80 17 (of_decide_eq_true rfl)).trans (f8 17 (of_decide_eq_true rfl))) hI16
           have I133 : jI18 σ78 := jI18_fr ((congrFun (f80 18 (of_decide_eq_true rfl)) 0).trans (congrFun (f8 18 (of_decide_eq_true rfl)) 0)) ((f80 19 (of_decide_eq_true rfl)).trans (f8 19 (of_decide_eq_true rfl))) hI18
           have I134 : jI22 σ78 := jI22_fr ((congrFun (f80 22 (of_decide_eq_true rfl)) 0).trans (congrFun (f8 22 (of_decide_eq_true rfl)) 0)) ((f80 23 (of_decide_eq_true rfl)).trans (f8 23 (of_decide_eq_true rfl))) hI22
           exact by
            have I135 : jI31 σ78 := jI31_fr ((congrFun (f80 31 (of_decide_eq_true rfl)) 8).trans (congrFun (f8 31 (of_decide_eq_true rfl)) 8)) ((f80 33 (of_decide_eq_true rfl)).trans (f8 33 (of_decide_eq_true rfl))) ((f80 36 (of_decide_eq_true rfl)).trans (f8 36 (of_decide_eq_true rfl))) hI31
            have I136 : jI38 σ78 := jI38_fr ((congrFun (f80 38 (of_decide_eq_true rfl)) 0).trans (congrFun (f8 38 (of_decide_eq_true rfl)) 0)) ((congrFun (f80 38 (of_decide_eq_true rfl)) 1).trans (congrFun (f8 38 (of_decide_eq_true rfl)) 1)) ((f80 39 (of_decide_eq_true rfl)).trans (f8 39 (of_decide_eq_true rfl))) hI38
            have I137 : jI43 σ78 := jI43_fr ((congrFun (f80 43 (of_decide_eq_true rfl)) 8).trans (congrFun (f8 43 (of_decide_eq_true rfl)) 8)) hI43
            have I138 : jI47 σ78 := jI47_fr ((congrFun (f80 47 (of_decide_eq_true rfl)) 0).trans (congrFun (f8 47 (of_decide_eq_true rfl)) 0)) ((f80 48 (of_decide_eq_true rfl)).trans (f8 48 (of_decide_eq_true rfl))) ((f80 49 (of_decide_eq_true rfl)).trans (f8 49 (of_decide_eq_true rfl))) hI47
            have I139 : jI50 σ78 := jI50_fr ((f80 52 (of_decide_eq_true rfl)).trans (f8 52 (of_decide_eq_true rfl))) hI50
            have I140 : jI101 σ78 := jI101_fr ((f81 4 (of_decide_eq_true rfl)).trans (congrFun (f8 55 (of_decide_eq_true rfl)) 4)) ((f81 5 (of_decide_eq_true rfl)).trans (congrFun (f8 55 (of_decide_eq_true rfl)) 5)) ((f80 56 (of_decide_eq_true rfl)).trans (f8 56 (of_decide_eq_true rfl))) ((f80 57 (of_decide_eq_true rfl)).trans (f8 57 (of_decide_eq_true rfl))) ((f80 58 (of_decide_eq_true rfl)).trans (f8 58 (of_decide_eq_true rfl))) ((f80 59 (of_decide_eq_true rfl)).trans (f8 59 (of_decide_eq_true rfl))) hI101
            have I141 : jI102 σ78 := jI102_fr ((f81 6 (of_decide_eq_true rfl)).trans (congrFun (f8 55 (of_decide_eq_true rfl)) 6)) ((f80 60 (of_decide_eq_true rfl)).trans (f8 60 (of_decide_eq_true rfl))) ((f80 61 (of_decide_eq_true rfl)).trans (f8 61 (of_decide_eq_true rfl))) hI102
            have I142 : jI103 σ78 := jI103_fr ((f81 9 (of_decide_eq_true rfl)).trans (congrFun (f8 55 (of_decide_eq_true rfl)) 9)) hI103
            have I143 : jI104 σ78 := jI104_fr ((f81 10 (of_decide_eq_true rfl)).trans (congrFun (f8 55 (of_decide_eq_true rfl)) 10)) ((f81 12 (of_decide_eq_true rfl)).trans (congrFun (f8 55 (of_decide_eq_true rfl)) 12)) ((f81 13 (of_decide_eq_true rfl)).trans (congrFun (f8 55 (of_decide_eq_true rfl)) 13)) ((f80 62 (of_decide_eq_true rfl)).trans (f8 62 (of_decide_eq_true rfl))) ((f80 67 (of_decide_eq_true rfl)).trans (f8 67 (of_decide_eq_true rfl))) hI104
            have I144 : jI106 σ78 := jI106_fr ((f81 32 (of_decide_eq_true rfl)).trans (congrFun (f8 55 (of_decide_eq_true rfl)) 32)) ((f80 70 (of_decide_eq_true rfl)).trans (f8 70 (of_decide_eq_true rfl))) ((f80 71 (of_decide_eq_true rfl)).trans (f8 71 (of_decide_eq_true rfl))) ((f80 72 (of_decide_eq_true rfl)).trans (f8 72 (of_decide_eq_true rfl))) hI106
            have I145 : jI107 σ78 := jI107_fr ((f81 12 (of_decide_eq_true rfl)).trans (congrFun (f8 55 (of_decide_eq_true rfl)) 12)) ((f81 47 (of_decide_eq_true rfl)).trans (congrFun (f8 55 (of_decide_eq_true rfl)) 47)) ((f80 80 (of_decide_eq_true rfl)).trans (f8 80 (of_decide_eq_true rfl))) hI107
            have I146 : jI109 σ78 := jI109_fr ((f81 50 (of_decide_eq_true rfl)).trans (congrFun (f8 55 (of_decide_eq_true rfl)) 50)) hI109
            have I147 : jI110 σ78 := jI110_fr ((f80 86 (of_decide_eq_true rfl)).trans (f8 86 (of_decide_eq_true rfl))) ((f80 87 (of_decide_eq_true rfl)).trans (f8 87 (of_decide_eq_true rfl))) hI110
            have I148 : jI111 σ78 := jI111_fr ((f80 79 (of_decide_eq_true rfl)).trans (f8 79 (of_decide_eq_true rfl))) hI111
            have I149 : jI119 σ78 := jI119_fr ((f80 68 (of_decide_eq_true rfl)).trans (f8 68 (of_decide_eq_true rfl))) hI119
            have p150 : jKept σ78 := jKept.fr ((f80 75 (of_decide_eq_true rfl)).trans (f8 75 (of_decide_eq_true rfl))) ((f80 76 (of_decide_eq_true rfl)).trans (f8 76 (of_decide_eq_true rfl))) ((f80 77 (of_decide_eq_true rfl)).trans (f8 77 (of_decide_eq_true rfl))) hs_jKept
            have p151 : jBook σ78 := jBook.fr ((f81 47 (of_decide_eq_true rfl)).trans (congrFun (f8 55 (of_decide_eq_true rfl)) 47)) ((f81 10 (of_decide_eq_true rfl)).trans (congrFun (f8 55 (of_decide_eq_true rfl)) 10)) ((f80 81 (of_decide_eq_true rfl)).trans (f8 81 (of_decide_eq_true rfl))) hs_jBook
            have z152 : (σ78 38 0).toInt = (σ 38 0).toInt := (congrArg Int32.toInt (show σ78 38 0 = (σ 38 0) from ((congrFun (f80 38 (of_decide_eq_true rfl)) 0).trans (congrFun (f8 38 (of_decide_eq_true rfl)) 0))))
            have z153 : (σ78 55 32).toInt = (σ 55 32).toInt := (congrArg Int32.toInt (show σ78 55 32 = (σ 55 32) from ((f81 32 (of_decide_eq_true rfl)).trans (congrFun (f8 55 (of_decide_eq_true rfl)) 32))))
            exact by exact ih x128 σ78 τ _ _ ls (by have h9 := tx128; omega) ⟨I129, I130, I131, I132, I133, I134, I135, I136, I137, I138, I139, I140, I141, I142, I143, I82, I144, I145, I146, I147, I148, I149, p150, p151, (by omega)⟩ hP hS (lv_sub hl [0, 1, 2, 3] rfl)
    · obtain ⟨q159, k154, k155, k156, k157, k158⟩ := h14
      refine lv_pop hx hb dL_law_362 rfl ?_
      refine lv_aload_n hx hb dL_law_363 rfl (lv_at hl 1 rfl) ?_
      refine lv_aload_n hx hb dL_law_364 rfl (lv_at hl 3 rfl) ?_
      refine lv_iload_n hx hb dL_law_365 rfl (lv_at hl 0 rfl) ?_
      refine lv_iconst (v := 1) hx hb dL_law_366 (of_decide_eq_true rfl) ?_
      refine lv_iadd hx hb dL_law_367 ?_
      refine jtopr ex2.symm ?_
      exact by
       refine va_sld hx hb hX hbl hbA hS (jin tx2 (by omega) (by omega)) dL_law_368 ?_
       refine lv_aload_n hx hb dL_law_369 rfl (lv_at hl 3 rfl) ?_
       refine lv_iload_n hx hb dL_law_370 rfl (lv_at hl 0 rfl) ?_
       refine lv_iconst (v := 2) hx hb dL_law_371 (of_decide_eq_true rfl) ?_
       refine lv_iadd hx hb dL_law_372 ?_
       refine jtopr ex4.symm ?_
       refine va_sld hx hb hX hbl hbA hS (jin tx4 (by omega) (by omega)) dL_law_373 ?_
       have I160 : jI105 σ6 := jI105_fr (congrFun (f8 55 (of_decide_eq_true rfl)) 15) (f8 65 (of_decide_eq_true rfl)) hI105
       have z161 : (σ6 55 15).toInt = (σ 55 15).toInt := (congrArg Int32.toInt (show σ6 55 15 = (σ 55 15) from (congrFun (f8 55 (of_decide_eq_true rfl)) 15)))
       exact by
        refine jcallV (As := [.int (xs x2.toNatClampNeg), .int (xs x4.toNatClampNeg)]) (rest := []) ⟨hx, hb, hml, hown, hts⟩ hK hP hA hS hZ (c_X12_feed l D cI cL ad zz hJ σ6 τ (xs x2.toNatClampNeg) ((xs x2.toNatClampNeg).toInt) rfl (xs x4.toNatClampNeg) ((xs x4.toNatClampNeg).toInt) rfl I160) cw_RL_35 (jc_55 cI cL ad σ6 τ) rfl ⟨Nat.le_of_ble_eq_true rfl, Nat.le_of_ble_eq_true rfl⟩ rfl rfl rfl hl.1 rfl (Nat.le_of_ble_eq_true rfl) dL_law_374 ⟨Nat.le_of_ble_eq_true rfl, Nat.le_of_ble_eq_true rfl⟩ (fun r163 σ162 τ162 H locs h162 hP hS => ?_)
        obtain ⟨rfl, f164, f165, I166, h162⟩ := h162
        rcases h162 with h168 | h169 | h170
        · obtain ⟨q174, k171, k172, k173⟩ := h168
          exact absurd (by omega : False) id
        · obtain ⟨q179, k175, k176, k177, k178⟩ := h169
          have q179 := q179.symm
          subst q179
          refine lv_pop hx hb dL_law_377 rfl ?_
          refine lv_goto (tgt := 1357) hx hb dL_law_378 (of_decide_eq_true rfl) ?_
          obtain ⟨x180, ex180⟩ : ∃ y : Int32, y = x0 + 6 := ⟨_, rfl⟩
          exact by
           have tx180 : x180.toInt = x0.toInt + 6 := (jadd ex180 rfl jz_6 (by omega) (by omega)).trans (by omega)
           refine lv_iinc (v := x180) (lv' := [(3, .int x180), (2, .ref (ad 55)), (1, .ref (ad 0)), (0, .ref b)]) hx hb dL_law_1357 hl (k := 0) rfl (by rw [ex180]; rfl) (of_decide_eq_true rfl) rfl (fun ls hl => ?_)
           refine lv_goto (tgt := 18) hx hb dL_law_1360 (of_decide_eq_true rfl) ?_
           have I181 : jI2 σ162 := jI2_fr ((congrFun (f164 2 (of_decide_eq_true rfl)) 0).trans (congrFun (f8 2 (of_decide_eq_true rfl)) 0)) ((congrFun (f164 2 (of_decide_eq_true rfl)) 1).trans (congrFun (f8 2 (of_decide_eq_true rfl)) 1)) ((congrFun (f164 2 (of_decide_eq_true rfl)) 2).trans (congrFun (f8 2 (of_decide_eq_true rfl)) 2)) ((congrFun (f164 2 (of_decide_eq_true rfl)) 3).trans (congrFun (f8 2 (of_decide_eq_true rfl)) 3)) ((f164 6 (of_decide_eq_true rfl)).trans (f8 6 (of_decide_eq_true rfl))) hI2
           have I182 : jI9 σ162 := jI9_fr (congrFun (f164 9 (of_decide_eq_true rfl)) 0) (f164 10 (of_decide_eq_true rfl)) (f164 11 (of_decide_eq_true rfl)) I10
           have I183 : jI12 σ162 := jI12_fr ((congrFun (f164 12 (of_decide_eq_true rfl)) 0).trans (congrFun (f8 12 (of_decide_eq_true rfl)) 0)) ((f164 13 (of_decide_eq_true rfl)).trans (f8 13 (of_decide_eq_true rfl))) hI12
           have I184 : jI16 σ162 := jI16_fr ((congrFun (f164 16 (of_decide_eq_true rfl)) 0).trans (congrFun (f8 16 (of_decide_eq_true rfl)) 0)) ((congrFun (f164 16 (of_decide_eq_true rfl)) 1).trans (congrFun (f8 16 (of_decide_eq_true rfl)) 1)) ((congrFun (f164 16 (of_decide_eq_true rfl)) 2).trans (congrFun (f8 16 (of_decide_eq_true rfl)) 2)) ((f164 17 (of_decide_eq_true rfl)).trans (f8 17 (of_decide_eq_true rfl))) hI16
           have I185 : jI18 σ162 := jI18_fr ((congrFun (f164 18 (of_decide_eq_true rfl)) 0).trans (congrFun (f8 18 (of_decide_eq_true rfl)) 0)) ((f164 19 (of_decide_eq_true rfl)).trans (f8 19 (of_decide_eq_true rfl))) hI18
           have I186 : jI22 σ162 := jI22_fr ((congrFun (f164 22 (of_decide_eq_true rfl)) 0).trans (congrFun (f8 22 (of_decide_eq_true rfl)) 0)) ((f164 23 (of_decide_eq_true rfl)).trans (f8 23 (of_decide_eq_true rfl))) hI22
           exact by
            have I187 : jI31 σ162 := jI31_fr ((congrFun (f164 31 (of_decide_eq_true rfl)) 8).trans (congrFun (f8 31 (of_decide_eq_true rfl)) 8)) ((f164 33 (of_decide_eq_true rfl)).trans (f8 33 (of_decide_eq_true rfl))) ((f164 36 (of_decide_eq_true rfl)).trans (f8 36 (of_decide_eq_true rfl))) hI31
            have I188 : jI38 σ162 := jI38_fr ((congrFun (f164 38 (of_decide_eq_true rfl)) 0).trans (congrFun (f8 38 (of_decide_eq_true rfl)) 0)) ((congrFun (f164 38 (of_decide_eq_true rfl)) 1).trans (congrFun (f8 38 (of_decide_eq_true rfl)) 1)) ((f164 39 (of_decide_eq_true rfl)).trans (f8 39 (of_decide_eq_true rfl))) hI38
            have I189 : jI43 σ162 := jI43_fr ((congrFun (f164 43 (of_decide_eq_true rfl)) 8).trans (congrFun (f8 43 (of_decide_eq_true rfl)) 8)) hI43
            have I190 : jI47 σ162 := jI47_fr ((congrFun (f164 47 (of_decide_eq_true rfl)) 0).trans (congrFun (f8 47 (of_decide_eq_true rfl)) 0)) ((f164 48 (of_decide_eq_true rfl)).trans (f8 48 (of_decide_eq_true rfl))) ((f164 49 (of_decide_eq_true rfl)).trans (f8 49 (of_decide_eq_true rfl))) hI47
            have I191 : jI50 σ162 := jI50_fr ((f164 52 (of_decide_eq_true rfl)).trans (f8 52 (of_decide_eq_true rfl))) hI50
            have I192 : jI101 σ162 := jI101_fr ((f165 4 (of_decide_eq_true rfl)).trans (congrFun (f8 55 (of_decide_eq_true rfl)) 4)) ((f165 5 (of_decide_eq_true rfl)).trans (congrFun (f8 55 (of_decide_eq_true rfl)) 5)) ((f164 56 (of_decide_eq_true rfl)).trans (f8 56 (of_decide_eq_true rfl))) ((f164 57 (of_decide_eq_true rfl)).trans (f8 57 (of_decide_eq_true rfl))) ((f164 58 (of_decide_eq_true rfl)).trans (f8 58 (of_decide_eq_true rfl))) ((f164 59 (of_decide_eq_true rfl)).trans (f8 59 (of_decide_eq_true rfl))) hI101
            have I193 : jI102 σ162 := jI102_fr ((f165 6 (of_decide_eq_true rfl)).trans (congrFun (f8 55 (of_decide_eq_true rfl)) 6)) ((f164 60 (of_decide_eq_true rfl)).trans (f8 60 (of_decide_eq_true rfl))) ((f164 61 (of_decide_eq_true rfl)).trans (f8 61 (of_decide_eq_true rfl))) hI102
            have I194 : jI103 σ162 := jI103_fr ((f165 9 (of_decide_eq_true rfl)).trans (congrFun (f8 55 (of_decide_eq_true rfl)) 9)) hI103
            have I195 : jI104 σ162 := jI104_fr ((f165 10 (of_decide_eq_true rfl)).trans (congrFun (f8 55 (of_decide_eq_true rfl)) 10)) ((f165 12 (of_decide_eq_true rfl)).trans (congrFun (f8 55 (of_decide_eq_true rfl)) 12)) ((f165 13 (of_decide_eq_true rfl)).trans (congrFun (f8 55 (of_decide_eq_true rfl)) 13)) ((f164 62 (of_decide_eq_true rfl)).trans (f8 62 (of_decide_eq_true rfl))) ((f164 67 (of_decide_eq_true rfl)).trans (f8 67 (of_decide_eq_true rfl))) hI104
            have I196 : jI106 σ162 := jI106_fr ((f165 32 (of_decide_eq_true rfl)).trans (congrFun (f8 55 (of_decide_eq_true rfl)) 32)) ((f164 70 (of_decide_eq_true rfl)).trans (f8 70 (of_decide_eq_true rfl))) ((f164 71 (of_decide_eq_true rfl)).trans (f8 71 (of_decide_eq_true rfl))) ((f164 72 (of_decide_eq_true rfl)).trans (f8 72 (of_decide_eq_true rfl))) hI106
            have I197 : jI107 σ162 := jI107_fr ((f165 12 (of_decide_eq_true rfl)).trans (congrFun (f8 55 (of_decide_eq_true rfl)) 12)) ((f165 47 (of_decide_eq_true rfl)).trans (congrFun (f8 55 (of_decide_eq_true rfl)) 47)) ((f164 80 (of_decide_eq_true rfl)).trans (f8 80 (of_decide_eq_true rfl))) hI107
            have I198 : jI109 σ162 := jI109_fr ((f165 50 (of_decide_eq_true rfl)).trans (congrFun (f8 55 (of_decide_eq_true rfl)) 50)) hI109
            have I199 : jI110 σ162 := jI110_fr ((f164 86 (of_decide_eq_true rfl)).trans (f8 86 (of_decide_eq_true rfl))) ((f164 87 (of_decide_eq_true rfl)).trans (f8 87 (of_decide_eq_true rfl))) hI110
            have I200 : jI111 σ162 := jI111_fr ((f164 79 (of_decide_eq_true rfl)).trans (f8 79 (of_decide_eq_true rfl))) hI111
            have I201 : jI119 σ162 := jI119_fr ((f164 68 (of_decide_eq_true rfl)).trans (f8 68 (of_decide_eq_true rfl))) hI119
            have p202 : jKept σ162 := jKept.fr ((f164 75 (of_decide_eq_true rfl)).trans (f8 75 (of_decide_eq_true rfl))) ((f164 76 (of_decide_eq_true rfl)).trans (f8 76 (of_decide_eq_true rfl))) ((f164 77 (of_decide_eq_true rfl)).trans (f8 77 (of_decide_eq_true rfl))) hs_jKept
            have p203 : jBook σ162 := jBook.fr ((f165 47 (of_decide_eq_true rfl)).trans (congrFun (f8 55 (of_decide_eq_true rfl)) 47)) ((f165 10 (of_decide_eq_true rfl)).trans (congrFun (f8 55 (of_decide_eq_true rfl)) 10)) ((f164 81 (of_decide_eq_true rfl)).trans (f8 81 (of_decide_eq_true rfl))) hs_jBook
            have z204 : (σ162 38 0).toInt = (σ 38 0).toInt := (congrArg Int32.toInt (show σ162 38 0 = (σ 38 0) from ((congrFun (f164 38 (of_decide_eq_true rfl)) 0).trans (congrFun (f8 38 (of_decide_eq_true rfl)) 0))))
            have z205 : (σ162 55 32).toInt = (σ 55 32).toInt := (congrArg Int32.toInt (show σ162 55 32 = (σ 55 32) from ((f165 32 (of_decide_eq_true rfl)).trans (congrFun (f8 55 (of_decide_eq_true rfl)) 32))))
            exact by exact ih x180 σ162 τ _ _ ls (by have h9 := tx180; omega) ⟨I181, I182, I183, I184, I185, I186, I187, I188, I189, I190, I191, I192, I193, I194, I195, I166, I196, I197, I198, I199, I200, I201, p202, p203, (by omega)⟩ hP hS (lv_sub hl [0, 1, 2, 3] rfl)
        · obtain ⟨q211, k206, k207, k208, k209, k210⟩ := h170
          refine lv_pop hx hb dL_law_377 rfl ?_
          refine lv_goto (tgt := 1357) hx hb dL_law_378 (of_decide_eq_true rfl) ?_
          obtain ⟨x212, ex212⟩ : ∃ y : Int32, y = x0 + 6 := ⟨_, rfl⟩
          exact by
           have tx212 : x212.toInt = x0.toInt + 6 := (jadd ex212 rfl jz_6 (by omega) (by omega)).trans (by omega)
           refine lv_iinc (v := x212) (lv' := [(3, .int x212), (2, .ref (ad 55)), (1, .ref (ad 0)), (0, .ref b)]) hx hb dL_law_1357 hl (k := 0) rfl (by rw [ex212]; rfl) (of_decide_eq_true rfl) rfl (fun ls hl => ?_)
           refine lv_goto (tgt := 18) hx hb dL_law_1360 (of_decide_eq_true rfl) ?_
           have I213 : jI2 σ162 := jI2_fr ((congrFun (f164 2 (of_decide_eq_true rfl)) 0).trans (congrFun (f8 2 (of_decide_eq_true rfl)) 0)) ((congrFun (f164 2 (of_decide_eq_true rfl)) 1).trans (congrFun (f8 2 (of_decide_eq_true rfl)) 1)) ((congrFun (f164 2 (of_decide_eq_true rfl)) 2).trans (congrFun (f8 2 (of_decide_eq_true rfl)) 2)) ((congrFun (f164 2 (of_decide_eq_true rfl)) 3).trans (congrFun (f8 2 (of_decide_eq_true rfl)) 3)) ((f164 6 (of_decide_eq_true rfl)).trans (f8 6 (of_decide_eq_true rfl))) hI2
           have I214 : jI9 σ162 := jI9_fr (congrFun (f164 9 (of_decide_eq_true rfl)) 0) (f164 10 (of_decide_eq_true rfl)) (f164 11 (of_decide_eq_true rfl)) I10
           have I215 : jI12 σ162 := jI12_fr ((congrFun (f164 12 (of_decide_eq_true rfl)) 0).trans (congrFun (f8 12 (of_decide_eq_true rfl)) 0)) ((f164 13 (of_decide_eq_true rfl)).trans (f8 13 (of_decide_eq_true rfl))) hI12
           have I216 : jI16 σ162 := jI16_fr ((congrFun (f164 16 (of_decide_eq_true rfl)) 0).trans (congrFun (f8 16 (of_decide_eq_true rfl)) 0)) ((congrFun (f164 16 (of_decide_eq_true rfl)) 1).trans (congrFun (f8 16 (of_decide_eq_true rfl)) 1)) ((congrFun (f164 16 (of_decide_eq_true rfl)) 2).trans (congrFun (f8 16 (of_decide_eq_true rfl)) 2)) ((f164 17 (of_decide_eq_true rfl)).trans (f8 17 (of_decide_eq_true rfl))) hI16
           have I217 : jI18 σ162 := jI18_fr ((congrFun (f164 18 (of_decide_eq_true rfl)) 0).trans (congrFun (f8 18 (of_decide_eq_true rfl)) 0)) ((f164 19 (of_decide_eq_true rfl)).trans (f8 19 (of_decide_eq_true rfl))) hI18
           have I218 : jI22 σ162 := jI22_fr ((congrFun (f164 22 (of_decide_eq_true rfl)) 0).trans (congrFun (f8 22 (of_decide_eq_true rfl)) 0)) ((f164 23 (of_decide_eq_true rfl)).trans (f8 23 (of_decide_eq_true rfl))) hI22
           exact by
            have I219 : jI31 σ162 := jI31_fr ((congrFun (f164 31 (of_decide_eq_true rfl)) 8).trans (congrFun (f8 31 (of_decide_eq_true rfl)) 8)) ((f164 33 (of_decide_eq_true rfl)).trans (f8 33 (of_decide_eq_true rfl))) ((f164 36 (of_decide_eq_true rfl)).trans (f8 36 (of_decide_eq_true rfl))) hI31
            have I220 : jI38 σ162 := jI38_fr ((congrFun (f164 38 (of_decide_eq_true rfl)) 0).trans (congrFun (f8 38 (of_decide_eq_true rfl)) 0)) ((congrFun (f164 38 (of_decide_eq_true rfl)) 1).trans (congrFun (f8 38 (of_decide_eq_true rfl)) 1)) ((f164 39 (of_decide_eq_true rfl)).trans (f8 39 (of_decide_eq_true rfl))) hI38
            have I221 : jI43 σ162 := jI43_fr ((congrFun (f164 43 (of_decide_eq_true rfl)) 8).trans (congrFun (f8 43 (of_decide_eq_true rfl)) 8)) hI43
            have I222 : jI47 σ162 := jI47_fr ((congrFun (f164 47 (of_decide_eq_true rfl)) 0).trans (congrFun (f8 47 (of_decide_eq_true rfl)) 0)) ((f164 48 (of_decide_eq_true rfl)).trans (f8 48 (of_decide_eq_true rfl))) ((f164 49 (of_decide_eq_true rfl)).trans (f8 49 (of_decide_eq_true rfl))) hI47
            have I223 : jI50 σ162 := jI50_fr ((f164 52 (of_decide_eq_true rfl)).trans (f8 52 (of_decide_eq_true rfl))) hI50
            have I224 : jI101 σ162 := jI101_fr ((f165 4 (of_decide_eq_true rfl)).trans (congrFun (f8 55 (of_decide_eq_true rfl)) 4)) ((f165 5 (of_decide_eq_true rfl)).trans (congrFun (f8 55 (of_decide_eq_true rfl)) 5)) ((f164 56 (of_decide_eq_true rfl)).trans (f8 56 (of_decide_eq_true rfl))) ((f164 57 (of_decide_eq_true rfl)).trans (f8 57 (of_decide_eq_true rfl))) ((f164 58 (of_decide_eq_true rfl)).trans (f8 58 (of_decide_eq_true rfl))) ((f164 59 (of_decide_eq_true rfl)).trans (f8 59 (of_decide_eq_true rfl))) hI101
            have I225 : jI102 σ162 := jI102_fr ((f165 6 (of_decide_eq_true rfl)).trans (congrFun (f8 55 (of_decide_eq_true rfl)) 6)) ((f164 60 (of_decide_eq_true rfl)).trans (f8 60 (of_decide_eq_true rfl))) ((f164 61 (of_decide_eq_true rfl)).trans (f8 61 (of_decide_eq_true rfl))) hI102
            have I226 : jI103 σ162 := jI103_fr ((f165 9 (of_decide_eq_true rfl)).trans (congrFun (f8 55 (of_decide_eq_true rfl)) 9)) hI103
            have I227 : jI104 σ162 := jI104_fr ((f165 10 (of_decide_eq_true rfl)).trans (congrFun (f8 55 (of_decide_eq_true rfl)) 10)) ((f165 12 (of_decide_eq_true rfl)).trans (congrFun (f8 55 (of_decide_eq_true rfl)) 12)) ((f165 13 (of_decide_eq_true rfl)).trans (congrFun (f8 55 (of_decide_eq_true rfl)) 13)) ((f164 62 (of_decide_eq_true rfl)).trans (f8 62 (of_decide_eq_true rfl))) ((f164 67 (of_decide_eq_true rfl)).trans (f8 67 (of_decide_eq_true rfl))) hI104
            have I228 : jI106 σ162 := jI106_fr ((f165 32 (of_decide_eq_true rfl)).trans (congrFun (f8 55 (of_decide_eq_true rfl)) 32)) ((f164 70 (of_decide_eq_true rfl)).trans (f8 70 (of_decide_eq_true rfl))) ((f164 71 (of_decide_eq_true rfl)).trans (f8 71 (of_decide_eq_true rfl))) ((f164 72 (of_decide_eq_true rfl)).trans (f8 72 (of_decide_eq_true rfl))) hI106
            have I229 : jI107 σ162 := jI107_fr ((f165 12 (of_decide_eq_true rfl)).trans (congrFun (f8 55 (of_decide_eq_true rfl)) 12)) ((f165 47 (of_decide_eq_true rfl)).trans (congrFun (f8 55 (of_decide_eq_true rfl)) 47)) ((f164 80 (of_decide_eq_true rfl)).trans (f8 80 (of_decide_eq_true rfl))) hI107
            have I230 : jI109 σ162 := jI109_fr ((f165 50 (of_decide_eq_true rfl)).trans (congrFun (f8 55 (of_decide_eq_true rfl)) 50)) hI109
            have I231 : jI110 σ162 := jI110_fr ((f164 86 (of_decide_eq_true rfl)).trans (f8 86 (of_decide_eq_true rfl))) ((f164 87 (of_decide_eq_true rfl)).trans (f8 87 (of_decide_eq_true rfl))) hI110
            have I232 : jI111 σ162 := jI111_fr ((f164 79 (of_decide_eq_true rfl)).trans (f8 79 (of_decide_eq_true rfl))) hI111
            have I233 : jI119 σ162 := jI119_fr ((f164 68 (of_decide_eq_true rfl)).trans (f8 68 (of_decide_eq_true rfl))) hI119
            have p234 : jKept σ162 := jKept.fr ((f164 75 (of_decide_eq_true rfl)).trans (f8 75 (of_decide_eq_true rfl))) ((f164 76 (of_decide_eq_true rfl)).trans (f8 76 (of_decide_eq_true rfl))) ((f164 77 (of_decide_eq_true rfl)).trans (f8 77 (of_decide_eq_true rfl))) hs_jKept
            have p235 : jBook σ162 := jBook.fr ((f165 47 (of_decide_eq_true rfl)).trans (congrFun (f8 55 (of_decide_eq_true rfl)) 47)) ((f165 10 (of_decide_eq_true rfl)).trans (congrFun (f8 55 (of_decide_eq_true rfl)) 10)) ((f164 81 (of_decide_eq_true rfl)).trans (f8 81 (of_decide_eq_true rfl))) hs_jBook
            have z236 : (σ162 38 0).toInt = (σ 38 0).toInt := (congrArg Int32.toInt (show σ162 38 0 = (σ 38 0) from ((congrFun (f164 38 (of_decide_eq_true rfl)) 0).trans (congrFun (f8 38 (of_decide_eq_true rfl)) 0))))
            have z237 : (σ162 55 32).toInt = (σ 55 32).toInt := (congrArg Int32.toInt (show σ162 55 32 = (σ 55 32) from ((f165 32 (of_decide_eq_true rfl)).trans (congrFun (f8 55 (of_decide_eq_true rfl)) 32))))
            exact by exact ih x212 σ162 τ _ _ ls (by have h9 := tx212; omega) ⟨I213, I214, I215, I216, I217, I218, I219, I220, I221, I222, I223, I224, I225, I226, I227, I166, I228, I229, I230, I231, I232, I233, p234, p235, (by omega)⟩ hP hS (lv_sub hl [0, 1, 2, 3] rfl)
set_option maxHeartbeats 4000000 in
set_option maxRecDepth 100000 in
theorem law_case_5 {p : Program} {e : Env} {s : State} {m : MethodId} {below : List Frame} {meth : Method} {c : Code} (l : Launch) {b L : Nat} {xs : Nat → Int32} {D : va_G} {cI cL : ClassId} {ad zz : Nat → Nat} (C0 : lw_At p s m meth c b L xs) (hJ : jD ad) (hA : ∀ q, jA ad q → s.heap.size ≤ q) (hK : jK D cI cL s) (hZ : jZ zz (fun q : Nat => s.heap.size ≤ q) s s.heap) {x0 : Int32} (hx0 : 0 ≤ x0.toInt) (hxL : x0.toInt + 6 ≤ (L : Int)) (hL : L ≤ 384) {σ : Nat → Nat → Int32} {τ : Nat → Nat → Int64} {H : Heap} {locs : List Loc} (hS : va_S (fun q : Nat => s.heap.size ≤ q) s.heap H locs) {ls : Array Slot} (hAll : jAll σ τ) (hP : jH D cI cL ad σ τ H) (hl : lv_has ls 4 [(3, .int x0), (2, .ref (ad 55)), (1, .ref (ad 0)), (0, .ref b)]) (ih : ∀ (x1 : Int32) (σ : Nat → Nat → Int32) (τ : Nat → Nat → Int64) (H : Heap) (locs : List Loc) (ls : Array Slot), x1.toInt = x0.toInt + 6 → jAll σ τ → jH D cI cL ad σ τ H → va_S (fun q : Nat => s.heap.size ≤ q) s.heap H locs → lv_has ls 4 [(3, .int x1), (2, .ref (ad 55)), (1, .ref (ad 0)), (0, .ref b)] → W p l e room_1 s m #[Value.ref b] below meth c H locs 90 348600 (lw_Z below #[Value.ref b] s) (F0 m 18 ls [])) : W p l e room_1 s m #[Value.ref b] below meth c H locs 90 348600 (lw_Z below #[Value.ref b] s) (F0 m 381 ls []) := by
  obtain ⟨hx, hb, hr, hml, hown, hts0, hX, hbl, hlocks, hgv⟩ := C0
  have hts : ∀ w ∈ wsL_law, w.before #[Value.ref b] s = true := fun w h => hts0 w (wsL_law_in w h)
  have hbA : ¬ (fun q : Nat => s.heap.size ≤ q) b := Nat.not_le.mpr hbl
  have hown : s.vm.findClass RL = some m.cls := hown
  obtain ⟨hI2, hI9, hI12, hI16, hI18, hI22, hI31, hI38, hI43, hI47, hI50, hI101, hI102, hI103, hI104, hI105, hI106, hI107, hI109, hI110, hI111, hI119, hs_jKept, hs_jBook, ht0⟩ := hAll
  have hL9 : (L : Int) ≤ 384 := by omega
  refine lv_aload_n hx hb dL_law_381 rfl (lv_at hl 2 rfl) ?_
  refine jcallV (As := []) (rest := []) ⟨hx, hb, hml, hown, hts⟩ hK hP hA hS hZ (c_X11_order l D cI cL ad zz hJ σ τ hI9 hI16 hI47) cw_RL_36 (jc_0 cI cL ad σ τ) rfl ⟨Nat.le_of_ble_eq_true rfl, Nat.le_of_ble_eq_true rfl⟩ rfl rfl rfl hl.1 rfl (Nat.le_of_ble_eq_true rfl) dL_law_382 ⟨Nat.le_of_ble_eq_true rfl, Nat.le_of_ble_eq_true rfl⟩ (fun r2 σ1 τ1 H locs h1 hP hS => ?_)
  obtain ⟨rfl, f3, f4, f5, f6, I7, I8, I9, w10, h1⟩ := h1
  obtain ⟨k12, h1⟩ := h1
  rcases h1 with h13 | h14
  · obtain ⟨q17, k15, k16⟩ := h13
    refine lv_pop hx hb dL_law_385 rfl ?_
    refine lv_aload_n hx hb dL_law_386 rfl (lv_at hl 1 rfl) ?_
    have I18 : jI104 σ1 := jI104_fr (congrFun (f3 55 (of_decide_eq_true rfl)) 10) (congrFun (f3 55 (of_decide_eq_true rfl)) 12) (congrFun (f3 55 (of_decide_eq_true rfl)) 13) (f3 62 (of_decide_eq_true rfl)) (f3 67 (of_decide_eq_true rfl)) hI104
    have I19 : jI105 σ1 := jI105_fr (congrFun (f3 55 (of_decide_eq_true rfl)) 15) (f3 65 (of_decide_eq_true rfl)) hI105
    have I20 : jI107 σ1 := jI107_fr (congrFun (f3 55 (of_decide_eq_true rfl)) 12) (congrFun (f3 55 (of_decide_eq_true rfl)) 47) (f3 80 (of_decide_eq_true rfl)) hI107
    have p21 : jBook σ1 := jBook.fr (congrFun (f3 55 (of_decide_eq_true rfl)) 47) (congrFun (f3 55 (of_decide_eq_true rfl)) 10) (f3 81 (of_decide_eq_true rfl)) hs_jBook
    have z22 : (σ1 55 47).toInt = (σ 55 47).toInt := (congrArg Int32.toInt (show σ1 55 47 = (σ 55 47) from (congrFun (f3 55 (of_decide_eq_true rfl)) 47)))
    refine jcallV (As := []) (rest := []) ⟨hx, hb, hml, hown, hts⟩ hK hP hA hS hZ (c_X12_order l D cI cL ad zz hJ σ1 τ I18 I19 I20 p21) cw_RL_40 (jc_55 cI cL ad σ1 τ) rfl ⟨Nat.le_of_ble_eq_true rfl, Nat.le_of_ble_eq_true rfl⟩ rfl rfl rfl hl.1 rfl (Nat.le_of_ble_eq_true rfl) dL_law_387 ⟨Nat.le_of_ble_eq_true rfl, Nat.le_of_ble_eq_true rfl⟩ (fun r24 σ23 τ23 H locs h23 hP hS => ?_)
    obtain ⟨rfl, f25, f26, I27, I28, I29, p30, w31, h23⟩ := h23
    obtain ⟨k33, h23⟩ := h23
    rcases h23 with h34 | h35
    · obtain ⟨q38, k36, k37⟩ := h34
      refine lv_pop hx hb dL_law_390 rfl ?_
      refine lv_goto (tgt := 1357) hx hb dL_law_391 (of_decide_eq_true rfl) ?_
      obtain ⟨x39, ex39⟩ : ∃ y : Int32, y = x0 + 6 := ⟨_, rfl⟩
      exact by
       have tx39 : x39.toInt = x0.toInt + 6 := (jadd ex39 rfl jz_6 (by omega) (by omega)).trans (by omega)
       refine lv_iinc (v := x39) (lv' := [(3, .int x39), (2, .ref (ad 55)), (1, .ref (ad 0)), (0, .ref b)]) hx hb dL_law_1357 hl (k := 0) rfl (by rw [ex39]; rfl) (of_decide_eq_true rfl) rfl (fun ls hl => ?_)
       refine lv_goto (tgt := 18) hx hb dL_law_1360 (of_decide_eq_true rfl) ?_
       have I40 : jI2 σ23 := jI2_fr ((congrFun (f25 2 (of_decide_eq_true rfl)) 0).trans (congrFun (f3 2 (of_decide_eq_true rfl)) 0)) ((congrFun (f25 2 (of_decide_eq_true rfl)) 1).trans (congrFun (f3 2 (of_decide_eq_true rfl)) 1)) ((congrFun (f25 2 (of_decide_eq_true rfl)) 2).trans (congrFun (f3 2 (of_decide_eq_true rfl)) 2)) ((congrFun (f25 2 (of_decide_eq_true rfl)) 3).trans (congrFun (f3 2 (of_decide_eq_true rfl)) 3)) ((f25 6 (of_decide_eq_true rfl)).trans (f3 6 (of_decide_eq_true rfl))) hI2
       have I41 : jI9 σ23 := jI9_fr (congrFun (f25 9 (of_decide_eq_true rfl)) 0) (f25 10 (of_decide_eq_true rfl)) (f25 11 (of_decide_eq_true rfl)) I7
       have I42 : jI12 σ23 := jI12_fr ((congrFun (f25 12 (of_decide_eq_true rfl)) 0).trans (congrFun (f3 12 (of_decide_eq_true rfl)) 0)) ((f25 13 (of_decide_eq_true rfl)).trans (f3 13 (of_decide_eq_true rfl))) hI12
       have I43 : jI16 σ23 := jI16_fr (congrFun (f25 16 (of_decide_eq_true rfl)) 0) (congrFun (f25 16 (of_decide_eq_true rfl)) 1) (congrFun (f25 16 (of_decide_eq_true rfl)) 2) (f25 17 (of_decide_eq_true rfl)) I8
       have I44 : jI18 σ23 := jI18_fr ((congrFun (f25 18 (of_decide_eq_true rfl)) 0).trans (congrFun (f3 18 (of_decide_eq_true rfl)) 0)) ((f25 19 (of_decide_eq_true rfl)).trans (f3 19 (of_decide_eq_true rfl))) hI18
       have I45 : jI22 σ23 := jI22_fr ((congrFun (f25 22 (of_decide_eq_true rfl)) 0).trans (congrFun (f3 22 (of_decide_eq_true rfl)) 0)) ((f25 23 (of_decide_eq_true rfl)).trans (f3 23 (of_decide_eq_true rfl))) hI22
       exact by
        have I46 : jI31 σ23 := jI31_fr ((congrFun (f25 31 (of_decide_eq_true rfl)) 8).trans (congrFun (f3 31 (of_decide_eq_true rfl)) 8)) ((f25 33 (of_decide_eq_true rfl)).trans (f3 33 (of_decide_eq_true rfl))) ((f25 36 (of_decide_eq_true rfl)).trans (f3 36 (of_decide_eq_true rfl))) hI31
        have I47 : jI38 σ23 := jI38_fr ((congrFun (f25 38 (of_decide_eq_true rfl)) 0).trans (congrFun (f3 38 (of_decide_eq_true rfl)) 0)) ((congrFun (f25 38 (of_decide_eq_true rfl)) 1).trans (congrFun (f3 38 (of_decide_eq_true rfl)) 1)) ((f25 39 (of_decide_eq_true rfl)).trans (f3 39 (of_decide_eq_true rfl))) hI38
        have I48 : jI43 σ23 := jI43_fr ((congrFun (f25 43 (of_decide_eq_true rfl)) 8).trans (congrFun (f3 43 (of_decide_eq_true rfl)) 8)) hI43
        have I49 : jI47 σ23 := jI47_fr (congrFun (f25 47 (of_decide_eq_true rfl)) 0) (f25 48 (of_decide_eq_true rfl)) (f25 49 (of_decide_eq_true rfl)) I9
        have I50 : jI50 σ23 := jI50_fr ((f25 52 (of_decide_eq_true rfl)).trans (f3 52 (of_decide_eq_true rfl))) hI50
        have I51 : jI101 σ23 := jI101_fr ((f26 4 (of_decide_eq_true rfl)).trans (congrFun (f3 55 (of_decide_eq_true rfl)) 4)) ((f26 5 (of_decide_eq_true rfl)).trans (congrFun (f3 55 (of_decide_eq_true rfl)) 5)) ((f25 56 (of_decide_eq_true rfl)).trans (f3 56 (of_decide_eq_true rfl))) ((f25 57 (of_decide_eq_true rfl)).trans (f3 57 (of_decide_eq_true rfl))) ((f25 58 (of_decide_eq_true rfl)).trans (f3 58 (of_decide_eq_true rfl))) ((f25 59 (of_decide_eq_true rfl)).trans (f3 59 (of_decide_eq_true rfl))) hI101
        have I52 : jI102 σ23 := jI102_fr ((f26 6 (of_decide_eq_true rfl)).trans (congrFun (f3 55 (of_decide_eq_true rfl)) 6)) ((f25 60 (of_decide_eq_true rfl)).trans (f3 60 (of_decide_eq_true rfl))) ((f25 61 (of_decide_eq_true rfl)).trans (f3 61 (of_decide_eq_true rfl))) hI102
        have I53 : jI103 σ23 := jI103_fr ((f26 9 (of_decide_eq_true rfl)).trans (congrFun (f3 55 (of_decide_eq_true rfl)) 9)) hI103
        have I54 : jI106 σ23 := jI106_fr ((f26 32 (of_decide_eq_true rfl)).trans (congrFun (f3 55 (of_decide_eq_true rfl)) 32)) ((f25 70 (of_decide_eq_true rfl)).trans (f3 70 (of_decide_eq_true rfl))) ((f25 71 (of_decide_eq_true rfl)).trans (f3 71 (of_decide_eq_true rfl))) ((f25 72 (of_decide_eq_true rfl)).trans (f3 72 (of_decide_eq_true rfl))) hI106
        have I55 : jI109 σ23 := jI109_fr ((f26 50 (of_decide_eq_true rfl)).trans (congrFun (f3 55 (of_decide_eq_true rfl)) 50)) hI109
        have I56 : jI110 σ23 := jI110_fr ((f25 86 (of_decide_eq_true rfl)).trans (f3 86 (of_decide_eq_true rfl))) ((f25 87 (of_decide_eq_true rfl)).trans (f3 87 (of_decide_eq_true rfl))) hI110
        have I57 : jI111 σ23 := jI111_fr ((f25 79 (of_decide_eq_true rfl)).trans (f3 79 (of_decide_eq_true rfl))) hI111
        have I58 : jI119 σ23 := jI119_fr ((f25 68 (of_decide_eq_true rfl)).trans (f3 68 (of_decide_eq_true rfl))) hI119
        have p59 : jKept σ23 := jKept.fr ((f25 75 (of_decide_eq_true rfl)).trans (f3 75 (of_decide_eq_true rfl))) ((f25 76 (of_decide_eq_true rfl)).trans (f3 76 (of_decide_eq_true rfl))) ((f25 77 (of_decide_eq_true rfl)).trans (f3 77 (of_decide_eq_true rfl))) hs_jKept
        have z60 : (σ23 38 0).toInt = (σ 38 0).toInt := (congrArg Int32.toInt (show σ23 38 0 = (σ 38 0) from ((congrFun (f25 38 (of_decide_eq_true rfl)) 0).trans (congrFun (f3 38 (of_decide_eq_true rfl)) 0))))
        have z61 : (σ23 55 32).toInt = (σ 55 32).toInt := (congrArg Int32.toInt (show σ23 55 32 = (σ 55 32) from ((f26 32 (of_decide_eq_true rfl)).trans (congrFun (f3 55 (of_decide_eq_true rfl)) 32))))
        exact by exact ih x39 σ23 τ _ _ ls (by have h9 := tx39; omega) ⟨I40, I41, I42, I43, I44, I45, I46, I47, I48, I49, I50, I51, I52, I53, I27, I28, I54, I29, I55, I56, I57, I58, p59, p30, (by omega)⟩ hP hS (lv_sub hl [0, 1, 2, 3] rfl)
    · obtain ⟨q64, k62, k63⟩ := h35
      refine lv_pop hx hb dL_law_390 rfl ?_
      refine lv_goto (tgt := 1357) hx hb dL_law_391 (of_decide_eq_true rfl) ?_
      obtain ⟨x65, ex65⟩ : ∃ y : Int32, y = x0 + 6 := ⟨_, rfl⟩
      exact by
       have tx65 : x65.toInt = x0.toInt + 6 := (jadd ex65 rfl jz_6 (by omega) (by omega)).trans (by omega)
       refine lv_iinc (v := x65) (lv' := [(3, .int x65), (2, .ref (ad 55)), (1, .ref (ad 0)), (0, .ref b)]) hx hb dL_law_1357 hl (k := 0) rfl (by rw [ex65]; rfl) (of_decide_eq_true rfl) rfl (fun ls hl => ?_)
       refine lv_goto (tgt := 18) hx hb dL_law_1360 (of_decide_eq_true rfl) ?_
       have I66 : jI2 σ23 := jI2_fr ((congrFun (f25 2 (of_decide_eq_true rfl)) 0).trans (congrFun (f3 2 (of_decide_eq_true rfl)) 0)) ((congrFun (f25 2 (of_decide_eq_true rfl)) 1).trans (congrFun (f3 2 (of_decide_eq_true rfl)) 1)) ((congrFun (f25 2 (of_decide_eq_true rfl)) 2).trans (congrFun (f3 2 (of_decide_eq_true rfl)) 2)) ((congrFun (f25 2 (of_decide_eq_true rfl)) 3).trans (congrFun (f3 2 (of_decide_eq_true rfl)) 3)) ((f25 6 (of_decide_eq_true rfl)).trans (f3 6 (of_decide_eq_true rfl))) hI2
       have I67 : jI9 σ23 := jI9_fr (congrFun (f25 9 (of_decide_eq_true rfl)) 0) (f25 10 (of_decide_eq_true rfl)) (f25 11 (of_decide_eq_true rfl)) I7
       have I68 : jI12 σ23 := jI12_fr ((congrFun (f25 12 (of_decide_eq_true rfl)) 0).trans (congrFun (f3 12 (of_decide_eq_true rfl)) 0)) ((f25 13 (of_decide_eq_true rfl)).trans (f3 13 (of_decide_eq_true rfl))) hI12
       have I69 : jI16 σ23 := jI16_fr (congrFun (f25 16 (of_decide_eq_true rfl)) 0) (congrFun (f25 16 (of_decide_eq_true rfl)) 1) (congrFun (f25 16 (of_decide_eq_true rfl)) 2) (f25 17 (of_decide_eq_true rfl)) I8
       have I70 : jI18 σ23 := jI18_fr ((congrFun (f25 18 (of_decide_eq_true rfl)) 0).trans (congrFun (f3 18 (of_decide_eq_true rfl)) 0)) ((f25 19 (of_decide_eq_true rfl)).trans (f3 19 (of_decide_eq_true rfl))) hI18
       have I71 : jI22 σ23 := jI22_fr ((congrFun (f25 22 (of_decide_eq_true rfl)) 0).trans (congrFun (f3 22 (of_decide_eq_true rfl)) 0)) ((f25 23 (of_decide_eq_true rfl)).trans (f3 23 (of_decide_eq_true rfl))) hI22
       exact by
        have I72 : jI31 σ23 := jI31_fr ((congrFun (f25 31 (of_decide_eq_true rfl)) 8).trans (congrFun (f3 31 (of_decide_eq_true rfl)) 8)) ((f25 33 (of_decide_eq_true rfl)).trans (f3 33 (of_decide_eq_true rfl))) ((f25 36 (of_decide_eq_true rfl)).trans (f3 36 (of_decide_eq_true rfl))) hI31
        have I73 : jI38 σ23 := jI38_fr ((congrFun (f25 38 (of_decide_eq_true rfl)) 0).trans (congrFun (f3 38 (of_decide_eq_true rfl)) 0)) ((congrFun (f25 38 (of_decide_eq_true rfl)) 1).trans (congrFun (f3 38 (of_decide_eq_true rfl)) 1)) ((f25 39 (of_decide_eq_true rfl)).trans (f3 39 (of_decide_eq_true rfl))) hI38
        have I74 : jI43 σ23 := jI43_fr ((congrFun (f25 43 (of_decide_eq_true rfl)) 8).trans (congrFun (f3 43 (of_decide_eq_true rfl)) 8)) hI43
        have I75 : jI47 σ23 := jI47_fr (congrFun (f25 47 (of_decide_eq_true rfl)) 0) (f25 48 (of_decide_eq_true rfl)) (f25 49 (of_decide_eq_true rfl)) I9
        have I76 : jI50 σ23 := jI50_fr ((f25 52 (of_decide_eq_true rfl)).trans (f3 52 (of_decide_eq_true rfl))) hI50
        have I77 : jI101 σ23 := jI101_fr ((f26 4 (of_decide_eq_true rfl)).trans (congrFun (f3 55 (of_decide_eq_true rfl)) 4)) ((f26 5 (of_decide_eq_true rfl)).trans (congrFun (f3 55 (of_decide_eq_true rfl)) 5)) ((f25 56 (of_decide_eq_true rfl)).trans (f3 56 (of_decide_eq_true rfl))) ((f25 57 (of_decide_eq_true rfl)).trans (f3 57 (of_decide_eq_true rfl))) ((f25 58 (of_decide_eq_true rfl)).trans (f3 58 (of_decide_eq_true rfl))) ((f25 59 (of_decide_eq_true rfl)).trans (f3 59 (of_decide_eq_true rfl))) hI101
        have I78 : jI102 σ23 := jI102_fr ((f26 6 (of_decide_eq_true rfl)).trans (congrFun (f3 55 (of_decide_eq_true rfl)) 6)) ((f25 60 (of_decide_eq_true rfl)).trans (f3 60 (of_decide_eq_true rfl))) ((f25 61 (of_decide_eq_true rfl)).trans (f3 61 (of_decide_eq_true rfl))) hI102
        have I79 : jI103 σ23 := jI103_fr ((f26 9 (of_decide_eq_true rfl)).trans (congrFun (f3 55 (of_decide_eq_true rfl)) 9)) hI103
        have I80 : jI106 σ23 := jI106_fr ((f26 32 (of_decide_eq_true rfl)).trans (congrFun (f3 55 (of_decide_eq_true rfl)) 32)) ((f25 70 (of_decide_eq_true rfl)).trans (f3 70 (of_decide_eq_true rfl))) ((f25 71 (of_decide_eq_true rfl)).trans (f3 71 (of_decide_eq_true rfl))) ((f25 72 (of_decide_eq_true rfl)).trans (f3 72 (of_decide_eq_true rfl))) hI106
        have I81 : jI109 σ23 := jI109_fr ((f26 50 (of_decide_eq_true rfl)).trans (congrFun (f3 55 (of_decide_eq_true rfl)) 50)) hI109
        have I82 : jI110 σ23 := jI110_fr ((f25 86 (of_decide_eq_true rfl)).trans (f3 86 (of_decide_eq_true rfl))) ((f25 87 (of_decide_eq_true rfl)).trans (f3 87 (of_decide_eq_true rfl))) hI110
        have I83 : jI111 σ23 := jI111_fr ((f25 79 (of_decide_eq_true rfl)).trans (f3 79 (of_decide_eq_true rfl))) hI111
        have I84 : jI119 σ23 := jI119_fr ((f25 68 (of_decide_eq_true rfl)).trans (f3 68 (of_decide_eq_true rfl))) hI119
        have p85 : jKept σ23 := jKept.fr ((f25 75 (of_decide_eq_true rfl)).trans (f3 75 (of_decide_eq_true rfl))) ((f25 76 (of_decide_eq_true rfl)).trans (f3 76 (of_decide_eq_true rfl))) ((f25 77 (of_decide_eq_true rfl)).trans (f3 77 (of_decide_eq_true rfl))) hs_jKept
        have z86 : (σ23 38 0).toInt = (σ 38 0).toInt := (congrArg Int32.toInt (show σ23 38 0 = (σ 38 0) from ((congrFun (f25 38 (of_decide_eq_true rfl)) 0).trans (congrFun (f3 38 (of_decide_eq_true rfl)) 0))))
        have z87 : (σ23 55 32).toInt = (σ 55 32).toInt := (congrArg Int32.toInt (show σ23 55 32 = (σ 55 32) from ((f26 32 (of_decide_eq_true rfl)).trans (congrFun (f3 55 (of_decide_eq_true rfl)) 32))))
        exact by exact ih x65 σ23 τ _ _ ls (by have h9 := tx65; omega) ⟨I66, I67, I68, I69, I70, I71, I72, I73, I74, I75, I76, I77, I78, I79, I27, I28, I80, I29, I81, I82, I83, I84, p85, p30, (by omega)⟩ hP hS (lv_sub hl [0, 1, 2, 3] rfl)
  · obtain ⟨q90, k88, k89⟩ := h14
    refine lv_pop hx hb dL_law_385 rfl ?_
    refine lv_aload_n hx hb dL_law_386 rfl (lv_at hl 1 rfl) ?_
    have I91 : jI104 σ1 := jI104_fr (congrFun (f3 55 (of_decide_eq_true rfl)) 10) (congrFun (f3 55 (of_decide_eq_true rfl)) 12) (congrFun (f3 55 (of_decide_eq_true rfl)) 13) (f3 62 (of_decide_eq_true rfl)) (f3 67 (of_decide_eq_true rfl)) hI104
    have I92 : jI105 σ1 := jI105_fr (congrFun (f3 55 (of_decide_eq_true rfl)) 15) (f3 65 (of_decide_eq_true rfl)) hI105
    have I93 : jI107 σ1 := jI107_fr (congrFun (f3 55 (of_decide_eq_true rfl)) 12) (congrFun (f3 55 (of_decide_eq_true rfl)) 47) (f3 80 (of_decide_eq_true rfl)) hI107
    have p94 : jBook σ1 := jBook.fr (congrFun (f3 55 (of_decide_eq_true rfl)) 47) (congrFun (f3 55 (of_decide_eq_true rfl)) 10) (f3 81 (of_decide_eq_true rfl)) hs_jBook
    have z95 : (σ1 55 47).toInt = (σ 55 47).toInt := (congrArg Int32.toInt (show σ1 55 47 = (σ 55 47) from (congrFun (f3 55 (of_decide_eq_true rfl)) 47)))
    refine jcallV (As := []) (rest := []) ⟨hx, hb, hml, hown, hts⟩ hK hP hA hS hZ (c_X12_order l D cI cL ad zz hJ σ1 τ I91 I92 I93 p94) cw_RL_40 (jc_55 cI cL ad σ1 τ) rfl ⟨Nat.le_of_ble_eq_true rfl, Nat.le_of_ble_eq_true rfl⟩ rfl rfl rfl hl.1 rfl (Nat.le_of_ble_eq_true rfl) dL_law_387 ⟨Nat.le_of_ble_eq_true rfl, Nat.le_of_ble_eq_true rfl⟩ (fun r97 σ96 τ96 H locs h96 hP hS => ?_)
    obtain ⟨rfl, f98, f99, I100, I101, I102, p103, w104, h96⟩ := h96
    obtain ⟨k106, h96⟩ := h96
    rcases h96 with h107 | h108
    · obtain ⟨q111, k109, k110⟩ := h107
      refine lv_pop hx hb dL_law_390 rfl ?_
      refine lv_goto (tgt := 1357) hx hb dL_law_391 (of_decide_eq_true rfl) ?_
      obtain ⟨x112, ex112⟩ : ∃ y : Int32, y = x0 + 6 := ⟨_, rfl⟩
      exact by
       have tx112 : x112.toInt = x0.toInt + 6 := (jadd ex112 rfl jz_6 (by omega) (by omega)).trans (by omega)
       refine lv_iinc (v := x112) (lv' := [(3, .int x112), (2, .ref (ad 55)), (1, .ref (ad 0)), (0, .ref b)]) hx hb dL_law_1357 hl (k := 0) rfl (by rw [ex112]; rfl) (of_decide_eq_true rfl) rfl (fun ls hl => ?_)
       refine lv_goto (tgt := 18) hx hb dL_law_1360 (of_decide_eq_true rfl) ?_
       have I113 : jI2 σ96 := jI2_fr ((congrFun (f98 2 (of_decide_eq_true rfl)) 0).trans (congrFun (f3 2 (of_decide_eq_true rfl)) 0)) ((congrFun (f98 2 (of_decide_eq_true rfl)) 1).trans (congrFun (f3 2 (of_decide_eq_true rfl)) 1)) ((congrFun (f98 2 (of_decide_eq_true rfl)) 2).trans (congrFun (f3 2 (of_decide_eq_true rfl)) 2)) ((congrFun (f98 2 (of_decide_eq_true rfl)) 3).trans (congrFun (f3 2 (of_decide_eq_true rfl)) 3)) ((f98 6 (of_decide_eq_true rfl)).trans (f3 6 (of_decide_eq_true rfl))) hI2
       have I114 : jI9 σ96 := jI9_fr (congrFun (f98 9 (of_decide_eq_true rfl)) 0) (f98 10 (of_decide_eq_true rfl)) (f98 11 (of_decide_eq_true rfl)) I7
       have I115 : jI12 σ96 := jI12_fr ((congrFun (f98 12 (of_decide_eq_true rfl)) 0).trans (congrFun (f3 12 (of_decide_eq_true rfl)) 0)) ((f98 13 (of_decide_eq_true rfl)).trans (f3 13 (of_decide_eq_true rfl))) hI12
       have I116 : jI16 σ96 := jI16_fr (congrFun (f98 16 (of_decide_eq_true rfl)) 0) (congrFun (f98 16 (of_decide_eq_true rfl)) 1) (congrFun (f98 16 (of_decide_eq_true rfl)) 2) (f98 17 (of_decide_eq_true rfl)) I8
       have I117 : jI18 σ96 := jI18_fr ((congrFun (f98 18 (of_decide_eq_true rfl)) 0).trans (congrFun (f3 18 (of_decide_eq_true rfl)) 0)) ((f98 19 (of_decide_eq_true rfl)).trans (f3 19 (of_decide_eq_true rfl))) hI18
       have I118 : jI22 σ96 := jI22_fr ((congrFun (f98 22 (of_decide_eq_true rfl)) 0).trans (congrFun (f3 22 (of_decide_eq_true rfl)) 0)) ((f98 23 (of_decide_eq_true rfl)).trans (f3 23 (of_decide_eq_true rfl))) hI22
       exact by
        have I119 : jI31 σ96 := jI31_fr ((congrFun (f98 31 (of_decide_eq_true rfl)) 8).trans (congrFun (f3 31 (of_decide_eq_true rfl)) 8)) ((f98 33 (of_decide_eq_true rfl)).trans (f3 33 (of_decide_eq_true rfl))) ((f98 36 (of_decide_eq_true rfl)).trans (f3 36 (of_decide_eq_true rfl))) hI31
        have I120 : jI38 σ96 := jI38_fr ((congrFun (f98 38 (of_decide_eq_true rfl)) 0).trans (congrFun (f3 38 (of_decide_eq_true rfl)) 0)) ((congrFun (f98 38 (of_decide_eq_true rfl)) 1).trans (congrFun (f3 38 (of_decide_eq_true rfl)) 1)) ((f98 39 (of_decide_eq_true rfl)).trans (f3 39 (of_decide_eq_true rfl))) hI38
        have I121 : jI43 σ96 := jI43_fr ((congrFun (f98 43 (of_decide_eq_true rfl)) 8).trans (congrFun (f3 43 (of_decide_eq_true rfl)) 8)) hI43
        have I122 : jI47 σ96 := jI47_fr (congrFun (f98 47 (of_decide_eq_true rfl)) 0) (f98 48 (of_decide_eq_true rfl)) (f98 49 (of_decide_eq_true rfl)) I9
        have I123 : jI50 σ96 := jI50_fr ((f98 52 (of_decide_eq_true rfl)).trans (f3 52 (of_decide_eq_true rfl))) hI50
        have I124 : jI101 σ96 := jI101_fr ((f99 4 (of_decide_eq_true rfl)).trans (congrFun (f3 55 (of_decide_eq_true rfl)) 4)) ((f99 5 (of_decide_eq_true rfl)).trans (congrFun (f3 55 (of_decide_eq_true rfl)) 5)) ((f98 56 (of_decide_eq_true rfl)).trans (f3 56 (of_decide_eq_true rfl))) ((f98 57 (of_decide_eq_true rfl)).trans (f3 57 (of_decide_eq_true rfl))) ((f98 58 (of_decide_eq_true rfl)).trans (f3 58 (of_decide_eq_true rfl))) ((f98 59 (of_decide_eq_true rfl)).trans (f3 59 (of_decide_eq_true rfl))) hI101
        have I125 : jI102 σ96 := jI102_fr ((f99 6 (of_decide_eq_true rfl)).trans (congrFun (f3 55 (of_decide_eq_true rfl)) 6)) ((f98 60 (of_decide_eq_true rfl)).trans (f3 60 (of_decide_eq_true rfl))) ((f98 61 (of_decide_eq_true rfl)).trans (f3 61 (of_decide_eq_true rfl))) hI102
        have I126 : jI103 σ96 := jI103_fr ((f99 9 (of_decide_eq_true rfl)).trans (congrFun (f3 55 (of_decide_eq_true rfl)) 9)) hI103
        have I127 : jI106 σ96 := jI106_fr ((f99 32 (of_decide_eq_true rfl)).trans (congrFun (f3 55 (of_decide_eq_true rfl)) 32)) ((f98 70 (of_decide_eq_true rfl)).trans (f3 70 (of_decide_eq_true rfl))) ((f98 71 (of_decide_eq_true rfl)).trans (f3 71 (of_decide_eq_true rfl))) ((f98 72 (of_decide_eq_true rfl)).trans (f3 72 (of_decide_eq_true rfl))) hI106
        have I128 : jI109 σ96 := jI109_fr ((f99 50 (of_decide_eq_true rfl)).trans (congrFun (f3 55 (of_decide_eq_true rfl)) 50)) hI109
        have I129 : jI110 σ96 := jI110_fr ((f98 86 (of_decide_eq_true rfl)).trans (f3 86 (of_decide_eq_true rfl))) ((f98 87 (of_decide_eq_true rfl)).trans (f3 87 (of_decide_eq_true rfl))) hI110
        have I130 : jI111 σ96 := jI111_fr ((f98 79 (of_decide_eq_true rfl)).trans (f3 79 (of_decide_eq_true rfl))) hI111
        have I131 : jI119 σ96 := jI119_fr ((f98 68 (of_decide_eq_true rfl)).trans (f3 68 (of_decide_eq_true rfl))) hI119
        have p132 : jKept σ96 := jKept.fr ((f98 75 (of_decide_eq_true rfl)).trans (f3 75 (of_decide_eq_true rfl))) ((f98 76 (of_decide_eq_true rfl)).trans (f3 76 (of_decide_eq_true rfl))) ((f98 77 (of_decide_eq_true rfl)).trans (f3 77 (of_decide_eq_true rfl))) hs_jKept
        have z133 : (σ96 38 0).toInt = (σ 38 0).toInt := (congrArg Int32.toInt (show σ96 38 0 = (σ 38 0) from ((congrFun (f98 38 (of_decide_eq_true rfl)) 0).trans (congrFun (f3 38 (of_decide_eq_true rfl)) 0))))
        have z134 : (σ96 55 32).toInt = (σ 55 32).toInt := (congrArg Int32.toInt (show σ96 55 32 = (σ 55 32) from ((f99 32 (of_decide_eq_true rfl)).trans (congrFun (f3 55 (of_decide_eq_true rfl)) 32))))
        exact by exact ih x112 σ96 τ _ _ ls (by have h9 := tx112; omega) ⟨I113, I114, I115, I116, I117, I118, I119, I120, I121, I122, I123, I124, I125, I126, I100, I101, I127, I102, I128, I129, I130, I131, p132, p103, (by omega)⟩ hP hS (lv_sub hl [0, 1, 2, 3] rfl)
    · obtain ⟨q137, k135, k136⟩ := h108
      refine lv_pop hx hb dL_law_390 rfl ?_
      refine lv_goto (tgt := 1357) hx hb dL_law_391 (of_decide_eq_true rfl) ?_
      obtain ⟨x138, ex138⟩ : ∃ y : Int32, y = x0 + 6 := ⟨_, rfl⟩
      exact by
       have tx138 : x138.toInt = x0.toInt + 6 := (jadd ex138 rfl jz_6 (by omega) (by omega)).trans (by omega)
       refine lv_iinc (v := x138) (lv' := [(3, .int x138), (2, .ref (ad 55)), (1, .ref (ad 0)), (0, .ref b)]) hx hb dL_law_1357 hl (k := 0) rfl (by rw [ex138]; rfl) (of_decide_eq_true rfl) rfl (fun ls hl => ?_)
       refine lv_goto (tgt := 18) hx hb dL_law_1360 (of_decide_eq_true rfl) ?_
       have I139 : jI2 σ96 := jI2_fr ((congrFun (f98 2 (of_decide_eq_true rfl)) 0).trans (congrFun (f3 2 (of_decide_eq_true rfl)) 0)) ((congrFun (f98 2 (of_decide_eq_true rfl)) 1).trans (congrFun (f3 2 (of_decide_eq_true rfl)) 1)) ((congrFun (f98 2 (of_decide_eq_true rfl)) 2).trans (congrFun (f3 2 (of_decide_eq_true rfl)) 2)) ((congrFun (f98 2 (of_decide_eq_true rfl)) 3).trans (congrFun (f3 2 (of_decide_eq_true rfl)) 3)) ((f98 6 (of_decide_eq_true rfl)).trans (f3 6 (of_decide_eq_true rfl))) hI2
       have I140 : jI9 σ96 := jI9_fr (congrFun (f98 9 (of_decide_eq_true rfl)) 0) (f98 10 (of_decide_eq_true rfl)) (f98 11 (of_decide_eq_true rfl)) I7
       have I141 : jI12 σ96 := jI12_fr ((congrFun (f98 12 (of_decide_eq_true rfl)) 0).trans (congrFun (f3 12 (of_decide_eq_true rfl)) 0)) ((f98 13 (of_decide_eq_true rfl)).trans (f3 13 (of_decide_eq_true rfl))) hI12
       have I142 : jI16 σ96 := jI16_fr (congrFun (f98 16 (of_decide_eq_true rfl)) 0) (congrFun (f98 16 (of_decide_eq_true rfl)) 1) (congrFun (f98 16 (of_decide_eq_true rfl)) 2) (f98 17 (of_decide_eq_true rfl)) I8
       have I143 : jI18 σ96 := jI18_fr ((congrFun (f98 18 (of_decide_eq_true rfl)) 0).trans (congrFun (f3 18 (of_decide_eq_true rfl)) 0)) ((f98 19 (of_decide_eq_true rfl)).trans (f3 19 (of_decide_eq_true rfl))) hI18
       have I144 : jI22 σ96 := jI22_fr ((congrFun (f98 22 (of_decide_eq_true rfl)) 0).trans (congrFun (f3 22 (of_decide_eq_true rfl)) 0)) ((f98 23 (of_decide_eq_true rfl)).trans (f3 23 (of_decide_eq_true rfl))) hI22
       exact by
        have I145 : jI31 σ96 := jI31_fr ((congrFun (f98 31 (of_decide_eq_true rfl)) 8).trans (congrFun (f3 31 (of_decide_eq_true rfl)) 8)) ((f98 33 (of_decide_eq_true rfl)).trans (f3 33 (of_decide_eq_true rfl))) ((f98 36 (of_decide_eq_true rfl)).trans (f3 36 (of_decide_eq_true rfl))) hI31
        have I146 : jI38 σ96 := jI38_fr ((congrFun (f98 38 (of_decide_eq_true rfl)) 0).trans (congrFun (f3 38 (of_decide_eq_true rfl)) 0)) ((congrFun (f98 38 (of_decide_eq_true rfl)) 1).trans (congrFun (f3 38 (of_decide_eq_true rfl)) 1)) ((f98 39 (of_decide_eq_true rfl)).trans (f3 39 (of_decide_eq_true rfl))) hI38
        have I147 : jI43 σ96 := jI43_fr ((congrFun (f98 43 (of_decide_eq_true rfl)) 8).trans (congrFun (f3 43 (of_decide_eq_true rfl)) 8)) hI43
        have I148 : jI47 σ96 := jI47_fr (congrFun (f98 47 (of_decide_eq_true rfl)) 0) (f98 48 (of_decide_eq_true rfl)) (f98 49 (of_decide_eq_true rfl)) I9
        have I149 : jI50 σ96 := jI50_fr ((f98 52 (of_decide_eq_true rfl)).trans (f3 52 (of_decide_eq_true rfl))) hI50
        have I150 : jI101 σ96 := jI101_fr ((f99 4 (of_decide_eq_true rfl)).trans (congrFun (f3 55 (of_decide_eq_true rfl)) 4)) ((f99 5 (of_decide_eq_true rfl)).trans (congrFun (f3 55 (of_decide_eq_true rfl)) 5)) ((f98 56 (of_decide_eq_true rfl)).trans (f3 56 (of_decide_eq_true rfl))) ((f98 57 (of_decide_eq_true rfl)).trans (f3 57 (of_decide_eq_true rfl))) ((f98 58 (of_decide_eq_true rfl)).trans (f3 58 (of_decide_eq_true rfl))) ((f98 59 (of_decide_eq_true rfl)).trans (f3 59 (of_decide_eq_true rfl))) hI101
        have I151 : jI102 σ96 := jI102_fr ((f99 6 (of_decide_eq_true rfl)).trans (congrFun (f3 55 (of_decide_eq_true rfl)) 6)) ((f98 60 (of_decide_eq_true rfl)).trans (f3 60 (of_decide_eq_true rfl))) ((f98 61 (of_decide_eq_true rfl)).trans (f3 61 (of_decide_eq_true rfl))) hI102
        have I152 : jI103 σ96 := jI103_fr ((f99 9 (of_decide_eq_true rfl)).trans (congrFun (f3 55 (of_decide_eq_true rfl)) 9)) hI103
        have I153 : jI106 σ96 := jI106_fr ((f99 32 (of_decide_eq_true rfl)).trans (congrFun (f3 55 (of_decide_eq_true rfl)) 32)) ((f98 70 (of_decide_eq_true rfl)).trans (f3 70 (of_decide_eq_true rfl))) ((f98 71 (of_decide_eq_true rfl)).trans (f3 71 (of_decide_eq_true rfl))) ((f98 72 (of_decide_eq_true rfl)).trans (f3 72 (of_decide_eq_true rfl))) hI106
        have I154 : jI109 σ96 := jI109_fr ((f99 50 (of_decide_eq_true rfl)).trans (congrFun (f3 55 (of_decide_eq_true rfl)) 50)) hI109
        have I155 : jI110 σ96 := jI110_fr ((f98 86 (of_decide_eq_true rfl)).trans (f3 86 (of_decide_eq_true rfl))) ((f98 87 (of_decide_eq_true rfl)).trans (f3 87 (of_decide_eq_true rfl))) hI110
        have I156 : jI111 σ96 := jI111_fr ((f98 79 (of_decide_eq_true rfl)).trans (f3 79 (of_decide_eq_true rfl))) hI111
        have I157 : jI119 σ96 := jI119_fr ((f98 68 (of_decide_eq_true rfl)).trans (f3 68 (of_decide_eq_true rfl))) hI119
        have p158 : jKept σ96 := jKept.fr ((f98 75 (of_decide_eq_true rfl)).trans (f3 75 (of_decide_eq_true rfl))) ((f98 76 (of_decide_eq_true rfl)).trans (f3 76 (of_decide_eq_true rfl))) ((f98 77 (of_decide_eq_true rfl)).trans (f3 77 (of_decide_eq_true rfl))) hs_jKept
        have z159 : (σ96 38 0).toInt = (σ 38 0).toInt := (congrArg Int32.toInt (show σ96 38 0 = (σ 38 0) from ((congrFun (f98 38 (of_decide_eq_true rfl)) 0).trans (congrFun (f3 38 (of_decide_eq_true rfl)) 0))))
        have z160 : (σ96 55 32).toInt = (σ 55 32).toInt := (congrArg Int32.toInt (show σ96 55 32 = (σ 55 32) from ((f99 32 (of_decide_eq_true rfl)).trans (congrFun (f3 55 (of_decide_eq_true rfl)) 32))))
        exact by exact ih x138 σ96 τ _ _ ls (by have h9 := tx138; omega) ⟨I139, I140, I141, I142, I143, I144, I145, I146, I147, I148, I149, I150, I151, I152, I100, I101, I153, I102, I154, I155, I156, I157, p158, p103, (by omega)⟩ hP hS (lv_sub hl [0, 1, 2, 3] rfl)
set_option maxHeartbeats 4000000 in
set_option maxRecDepth 100000 in
theorem law_case_6 {p : Program} {e : Env} {s : State} {m : MethodId} {below : List Frame} {meth : Method} {c : Code} (l : Launch) {b L : Nat} {xs : Nat → Int32} {D : va_G} {cI cL : ClassId} {ad zz : Nat → Nat} (C0 : lw_At p s m meth c b L xs) (hJ : jD ad) (hA : ∀ q, jA ad q → s.heap.size ≤ q) (hK : jK D cI cL s) (hZ : jZ zz (fun q : Nat => s.heap.size ≤ q) s s.heap) {x0 : Int32} (hx0 : 0 ≤ x0.toInt) (hxL : x0.toInt + 6 ≤ (L : Int)) (hL : L ≤ 384) {σ : Nat → Nat → Int32} {τ : Nat → Nat → Int64} {H : Heap} {locs : List Loc} (hS : va_S (fun q : Nat => s.heap.size ≤ q) s.heap H locs) {ls : Array Slot} (hAll : jAll σ τ) (hP : jH D cI cL ad σ τ H) (hl : lv_has ls 4 [(3, .int x0), (2, .ref (ad 55)), (1, .ref (ad 0)), (0, .ref b)]) (ih : ∀ (x1 : Int32) (σ : Nat → Nat → Int32) (τ : Nat → Nat → Int64) (H : Heap) (locs : List Loc) (ls : Array Slot), x1.toInt = x0.toInt + 6 → jAll σ τ → jH D cI cL ad σ τ H → va_S (fun q : Nat => s.heap.size ≤ q) s.heap H locs → lv_has ls 4 [(3, .int x1), (2, .ref (ad 55)), (1, .ref (ad 0)), (0, .ref b)] → W p l e room_1 s m #[Value.ref b] below meth c H locs 90 348600 (lw_Z below #[Value.ref b] s) (F0 m 18 ls [])) : W p l e room_1 s m #[Value.ref b] below meth c H locs 90 348600 (lw_Z below #[Value.ref b] s) (F0 m 394 ls []) := by
  obtain ⟨hx, hb, hr, hml, hown, hts0, hX, hbl, hlocks, hgv⟩ := C0
  have hts : ∀ w ∈ wsL_law, w.before #[Value.ref b] s = true := fun w h => hts0 w (wsL_law_in w h)
  have hbA : ¬ (fun q : Nat => s.heap.size ≤ q) b := Nat.not_le.mpr hbl
  have hown : s.vm.findClass RL = some m.cls := hown
  obtain ⟨hI2, hI9, hI12, hI16, hI18, hI22, hI31, hI38, hI43, hI47, hI50, hI101, hI102, hI103, hI104, hI105, hI106, hI107, hI109, hI110, hI111, hI119, hs_jKept, hs_jBook, ht0⟩ := hAll
  have hL9 : (L : Int) ≤ 384 := by omega
  refine lv_aload_n hx hb dL_law_394 rfl (lv_at hl 2 rfl) ?_
  refine lv_aload_n hx hb dL_law_395 rfl (lv_at hl 3 rfl) ?_
  refine lv_iload_n hx hb dL_law_396 rfl (lv_at hl 0 rfl) ?_
  refine lv_iconst (v := 1) hx hb dL_law_397 (of_decide_eq_true rfl) ?_
  have g1 := jrg (rfl : x0.toInt = x0.toInt)
  refine lv_iadd hx hb dL_law_398 ?_
  refine lv_topi (fun x2 ex2 => ?_)
  exact by
   have tx2 : x2.toInt = x0.toInt + 1 := (jadd ex2 rfl jz_1 (by omega) (by omega)).trans (by omega)
   refine va_sld hx hb hX hbl hbA hS (jin tx2 (by omega) (by omega)) dL_law_399 ?_
   have g3 := jrg (rfl : (xs x2.toNatClampNeg).toInt = (xs x2.toNatClampNeg).toInt)
   refine jcallV (As := [.int (xs x2.toNatClampNeg)]) (rest := []) ⟨hx, hb, hml, hown, hts⟩ hK hP hA hS hZ (c_X11_text l D cI cL ad zz hJ σ τ (xs x2.toNatClampNeg) ((xs x2.toNatClampNeg).toInt) rfl hI9 hI12 hI18 hI22) cw_RL_41 (jc_0 cI cL ad σ τ) rfl ⟨Nat.le_of_ble_eq_true rfl, Nat.le_of_ble_eq_true rfl⟩ rfl rfl rfl hl.1 rfl (Nat.le_of_ble_eq_true rfl) dL_law_400 ⟨Nat.le_of_ble_eq_true rfl, Nat.le_of_ble_eq_true rfl⟩ (fun r5 σ4 τ4 H locs h4 hP hS => ?_)
   obtain ⟨rfl, f6, f7, f8, f9, f10, f11, I12, I13, I14, I15, h4⟩ := h4
   obtain ⟨k17, h4⟩ := h4
   refine lv_pop hx hb dL_law_403 rfl ?_
   refine lv_aload_n hx hb dL_law_404 rfl (lv_at hl 1 rfl) ?_
   refine lv_aload_n hx hb dL_law_405 rfl (lv_at hl 3 rfl) ?_
   exact by
    refine lv_iload_n hx hb dL_law_406 rfl (lv_at hl 0 rfl) ?_
    refine lv_iconst (v := 1) hx hb dL_law_407 (of_decide_eq_true rfl) ?_
    refine lv_iadd hx hb dL_law_408 ?_
    refine jtopr ex2.symm ?_
    refine va_sld hx hb hX hbl hbA hS (jin tx2 (by omega) (by omega)) dL_law_409 ?_
    have I18 : jI105 σ4 := jI105_fr (congrFun (f6 55 (of_decide_eq_true rfl)) 15) (f6 65 (of_decide_eq_true rfl)) hI105
    have z19 : (σ4 55 15).toInt = (σ 55 15).toInt := (congrArg Int32.toInt (show σ4 55 15 = (σ 55 15) from (congrFun (f6 55 (of_decide_eq_true rfl)) 15)))
    refine jcallV (As := [.int (xs x2.toNatClampNeg)]) (rest := []) ⟨hx, hb, hml, hown, hts⟩ hK hP hA hS hZ (c_X12_text l D cI cL ad zz hJ σ4 τ (xs x2.toNatClampNeg) ((xs x2.toNatClampNeg).toInt) rfl I18) cw_RL_44 (jc_55 cI cL ad σ4 τ) rfl ⟨Nat.le_of_ble_eq_true rfl, Nat.le_of_ble_eq_true rfl⟩ rfl rfl rfl hl.1 rfl (Nat.le_of_ble_eq_true rfl) dL_law_410 ⟨Nat.le_of_ble_eq_true rfl, Nat.le_of_ble_eq_true rfl⟩ (fun r21 σ20 τ20 H locs h20 hP hS => ?_)
    obtain ⟨rfl, f22, f23, I24, h20⟩ := h20
    exact by
     obtain ⟨k26, h20⟩ := h20
     refine lv_pop hx hb dL_law_413 rfl ?_
     refine lv_goto (tgt := 1357) hx hb dL_law_414 (of_decide_eq_true rfl) ?_
     obtain ⟨x27, ex27⟩ : ∃ y : Int32, y = x0 + 6 := ⟨_, rfl⟩
     have tx27 : x27.toInt = x0.toInt + 6 := (jadd ex27 rfl jz_6 (by omega) (by omega)).trans (by omega)
     refine lv_iinc (v := x27) (lv' := [(3, .int x27), (2, .ref (ad 55)), (1, .ref (ad 0)), (0, .ref b)]) hx hb dL_law_1357 hl (k := 0) rfl (by rw [ex27]; rfl) (of_decide_eq_true rfl) rfl (fun ls hl => ?_)
     refine lv_goto (tgt := 18) hx hb dL_law_1360 (of_decide_eq_true rfl) ?_
     have I28 : jI2 σ20 := jI2_fr ((congrFun (f22 2 (of_decide_eq_true rfl)) 0).trans (congrFun (f6 2 (of_decide_eq_true rfl)) 0)) ((congrFun (f22 2 (of_decide_eq_true rfl)) 1).trans (congrFun (f6 2 (of_decide_eq_true rfl)) 1)) ((congrFun (f22 2 (of_decide_eq_true rfl)) 2).trans (congrFun (f6 2 (of_decide_eq_true rfl)) 2)) ((congrFun (f22 2 (of_decide_eq_true rfl)) 3).trans (congrFun (f6 2 (of_decide_eq_true rfl)) 3)) ((f22 6 (of_decide_eq_true rfl)).trans (f6 6 (of_decide_eq_true rfl))) hI2
     have I29 : jI9 σ20 := jI9_fr (congrFun (f22 9 (of_decide_eq_true rfl)) 0) (f22 10 (of_decide_eq_true rfl)) (f22 11 (of_decide_eq_true rfl)) I12
     exact by
      have I30 : jI12 σ20 := jI12_fr (congrFun (f22 12 (of_decide_eq_true rfl)) 0) (f22 13 (of_decide_eq_true rfl)) I13
      have I31 : jI16 σ20 := jI16_fr ((congrFun (f22 16 (of_decide_eq_true rfl)) 0).trans (congrFun (f6 16 (of_decide_eq_true rfl)) 0)) ((congrFun (f22 16 (of_decide_eq_true rfl)) 1).trans (congrFun (f6 16 (of_decide_eq_true rfl)) 1)) ((congrFun (f22 16 (of_decide_eq_true rfl)) 2).trans (congrFun (f6 16 (of_decide_eq_true rfl)) 2)) ((f22 17 (of_decide_eq_true rfl)).trans (f6 17 (of_decide_eq_true rfl))) hI16
      have I32 : jI18 σ20 := jI18_fr (congrFun (f22 18 (of_decide_eq_true rfl)) 0) (f22 19 (of_decide_eq_true rfl)) I14
      have I33 : jI22 σ20 := jI22_fr (congrFun (f22 22 (of_decide_eq_true rfl)) 0) (f22 23 (of_decide_eq_true rfl)) I15
      have I34 : jI31 σ20 := jI31_fr ((congrFun (f22 31 (of_decide_eq_true rfl)) 8).trans (congrFun (f6 31 (of_decide_eq_true rfl)) 8)) ((f22 33 (of_decide_eq_true rfl)).trans (f6 33 (of_decide_eq_true rfl))) ((f22 36 (of_decide_eq_true rfl)).trans (f6 36 (of_decide_eq_true rfl))) hI31
      have I35 : jI38 σ20 := jI38_fr ((congrFun (f22 38 (of_decide_eq_true rfl)) 0).trans (congrFun (f6 38 (of_decide_eq_true rfl)) 0)) ((congrFun (f22 38 (of_decide_eq_true rfl)) 1).trans (congrFun (f6 38 (of_decide_eq_true rfl)) 1)) ((f22 39 (of_decide_eq_true rfl)).trans (f6 39 (of_decide_eq_true rfl))) hI38
      have I36 : jI43 σ20 := jI43_fr ((congrFun (f22 43 (of_decide_eq_true rfl)) 8).trans (congrFun (f6 43 (of_decide_eq_true rfl)) 8)) hI43
      have I37 : jI47 σ20 := jI47_fr ((congrFun (f22 47 (of_decide_eq_true rfl)) 0).trans (congrFun (f6 47 (of_decide_eq_true rfl)) 0)) ((f22 48 (of_decide_eq_true rfl)).trans (f6 48 (of_decide_eq_true rfl))) ((f22 49 (of_decide_eq_true rfl)).trans (f6 49 (of_decide_eq_true rfl))) hI47
      have I38 : jI50 σ20 := jI50_fr ((f22 52 (of_decide_eq_true rfl)).trans (f6 52 (of_decide_eq_true rfl))) hI50
      have I39 : jI101 σ20 := jI101_fr ((f23 4 (of_decide_eq_true rfl)).trans (congrFun (f6 55 (of_decide_eq_true rfl)) 4)) ((f23 5 (of_decide_eq_true rfl)).trans (congrFun (f6 55 (of_decide_eq_true rfl)) 5)) ((f22 56 (of_decide_eq_true rfl)).trans (f6 56 (of_decide_eq_true rfl))) ((f22 57 (of_decide_eq_true rfl)).trans (f6 57 (of_decide_eq_true rfl))) ((f22 58 (of_decide_eq_true rfl)).trans (f6 58 (of_decide_eq_true rfl))) ((f22 59 (of_decide_eq_true rfl)).trans (f6 59 (of_decide_eq_true rfl))) hI101
      have I40 : jI102 σ20 := jI102_fr ((f23 6 (of_decide_eq_true rfl)).trans (congrFun (f6 55 (of_decide_eq_true rfl)) 6)) ((f22 60 (of_decide_eq_true rfl)).trans (f6 60 (of_decide_eq_true rfl))) ((f22 61 (of_decide_eq_true rfl)).trans (f6 61 (of_decide_eq_true rfl))) hI102
      have I41 : jI103 σ20 := jI103_fr ((f23 9 (of_decide_eq_true rfl)).trans (congrFun (f6 55 (of_decide_eq_true rfl)) 9)) hI103
      have I42 : jI104 σ20 := jI104_fr ((f23 10 (of_decide_eq_true rfl)).trans (congrFun (f6 55 (of_decide_eq_true rfl)) 10)) ((f23 12 (of_decide_eq_true rfl)).trans (congrFun (f6 55 (of_decide_eq_true rfl)) 12)) ((f23 13 (of_decide_eq_true rfl)).trans (congrFun (f6 55 (of_decide_eq_true rfl)) 13)) ((f22 62 (of_decide_eq_true rfl)).trans (f6 62 (of_decide_eq_true rfl))) ((f22 67 (of_decide_eq_true rfl)).trans (f6 67 (of_decide_eq_true rfl))) hI104
      have I43 : jI106 σ20 := jI106_fr ((f23 32 (of_decide_eq_true rfl)).trans (congrFun (f6 55 (of_decide_eq_true rfl)) 32)) ((f22 70 (of_decide_eq_true rfl)).trans (f6 70 (of_decide_eq_true rfl))) ((f22 71 (of_decide_eq_true rfl)).trans (f6 71 (of_decide_eq_true rfl))) ((f22 72 (of_decide_eq_true rfl)).trans (f6 72 (of_decide_eq_true rfl))) hI106
      have I44 : jI107 σ20 := jI107_fr ((f23 12 (of_decide_eq_true rfl)).trans (congrFun (f6 55 (of_decide_eq_true rfl)) 12)) ((f23 47 (of_decide_eq_true rfl)).trans (congrFun (f6 55 (of_decide_eq_true rfl)) 47)) ((f22 80 (of_decide_eq_true rfl)).trans (f6 80 (of_decide_eq_true rfl))) hI107
      have I45 : jI109 σ20 := jI109_fr ((f23 50 (of_decide_eq_true rfl)).trans (congrFun (f6 55 (of_decide_eq_true rfl)) 50)) hI109
      have I46 : jI110 σ20 := jI110_fr ((f22 86 (of_decide_eq_true rfl)).trans (f6 86 (of_decide_eq_true rfl))) ((f22 87 (of_decide_eq_true rfl)).trans (f6 87 (of_decide_eq_true rfl))) hI110
      have I47 : jI111 σ20 := jI111_fr ((f22 79 (of_decide_eq_true rfl)).trans (f6 79 (of_decide_eq_true rfl))) hI111
      have I48 : jI119 σ20 := jI119_fr ((f22 68 (of_decide_eq_true rfl)).trans (f6 68 (of_decide_eq_true rfl))) hI119
      have p49 : jKept σ20 := jKept.fr ((f22 75 (of_decide_eq_true rfl)).trans (f6 75 (of_decide_eq_true rfl))) ((f22 76 (of_decide_eq_true rfl)).trans (f6 76 (of_decide_eq_true rfl))) ((f22 77 (of_decide_eq_true rfl)).trans (f6 77 (of_decide_eq_true rfl))) hs_jKept
      have p50 : jBook σ20 := jBook.fr ((f23 47 (of_decide_eq_true rfl)).trans (congrFun (f6 55 (of_decide_eq_true rfl)) 47)) ((f23 10 (of_decide_eq_true rfl)).trans (congrFun (f6 55 (of_decide_eq_true rfl)) 10)) ((f22 81 (of_decide_eq_true rfl)).trans (f6 81 (of_decide_eq_true rfl))) hs_jBook
      have z51 : (σ20 38 0).toInt = (σ 38 0).toInt := (congrArg Int32.toInt (show σ20 38 0 = (σ 38 0) from ((congrFun (f22 38 (of_decide_eq_true rfl)) 0).trans (congrFun (f6 38 (of_decide_eq_true rfl)) 0))))
      have z52 : (σ20 55 32).toInt = (σ 55 32).toInt := (congrArg Int32.toInt (show σ20 55 32 = (σ 55 32) from ((f23 32 (of_decide_eq_true rfl)).trans (congrFun (f6 55 (of_decide_eq_true rfl)) 32))))
      exact by exact ih x27 σ20 τ _ _ ls (by have h9 := tx27; omega) ⟨I28, I29, I30, I31, I32, I33, I34, I35, I36, I37, I38, I39, I40, I41, I42, I24, I43, I44, I45, I46, I47, I48, p49, p50, (by omega)⟩ hP hS (lv_sub hl [0, 1, 2, 3] rfl)
set_option maxHeartbeats 4000000 in
set_option maxRecDepth 100000 in
theorem law_case_7 {p : Program} {e : Env} {s : State} {m : MethodId} {below : List Frame} {meth : Method} {c : Code} (l : Launch) {b L : Nat} {xs : Nat → Int32} {D : va_G} {cI cL : ClassId} {ad zz : Nat → Nat} (C0 : lw_At p s m meth c b L xs) (hJ : jD ad) (hA : ∀ q, jA ad q → s.heap.size ≤ q) (hK : jK D cI cL s) (hZ : jZ zz (fun q : Nat => s.heap.size ≤ q) s s.heap) {x0 : Int32} (hx0 : 0 ≤ x0.toInt) (hxL : x0.toInt + 6 ≤ (L : Int)) (hL : L ≤ 384) {σ : Nat → Nat → Int32} {τ : Nat → Nat → Int64} {H : Heap} {locs : List Loc} (hS : va_S (fun q : Nat => s.heap.size ≤ q) s.heap H locs) {ls : Array Slot} (hAll : jAll σ τ) (hP : jH D cI cL ad σ τ H) (hl : lv_has ls 4 [(3, .int x0), (2, .ref (ad 55)), (1, .ref (ad 0)), (0, .ref b)]) (ih : ∀ (x1 : Int32) (σ : Nat → Nat → Int32) (τ : Nat → Nat → Int64) (H : Heap) (locs : List Loc) (ls : Array Slot), x1.toInt = x0.toInt + 6 → jAll σ τ → jH D cI cL ad σ τ H → va_S (fun q : Nat => s.heap.size ≤ q) s.heap H locs → lv_has ls 4 [(3, .int x1), (2, .ref (ad 55)), (1, .ref (ad 0)), (0, .ref b)] → W p l e room_1 s m #[Value.ref b] below meth c H locs 90 348600 (lw_Z below #[Value.ref b] s) (F0 m 18 ls [])) : W p l e room_1 s m #[Value.ref b] below meth c H locs 90 348600 (lw_Z below #[Value.ref b] s) (F0 m 417 ls []) := by
  obtain ⟨hx, hb, hr, hml, hown, hts0, hX, hbl, hlocks, hgv⟩ := C0
  have hts : ∀ w ∈ wsL_law, w.before #[Value.ref b] s = true := fun w h => hts0 w (wsL_law_in w h)
  have hbA : ¬ (fun q : Nat => s.heap.size ≤ q) b := Nat.not_le.mpr hbl
  have hown : s.vm.findClass RL = some m.cls := hown
  obtain ⟨hI2, hI9, hI12, hI16, hI18, hI22, hI31, hI38, hI43, hI47, hI50, hI101, hI102, hI103, hI104, hI105, hI106, hI107, hI109, hI110, hI111, hI119, hs_jKept, hs_jBook, ht0⟩ := hAll
  have hL9 : (L : Int) ≤ 384 := by omega
  refine lv_aload_n hx hb dL_law_417 rfl (lv_at hl 2 rfl) ?_
  refine lv_aload_n hx hb dL_law_418 rfl (lv_at hl 3 rfl) ?_
  refine lv_iload_n hx hb dL_law_419 rfl (lv_at hl 0 rfl) ?_
  refine lv_iconst (v := 1) hx hb dL_law_420 (of_decide_eq_true rfl) ?_
  have g1 := jrg (rfl : x0.toInt = x0.toInt)
  refine lv_iadd hx hb dL_law_421 ?_
  refine lv_topi (fun x2 ex2 => ?_)
  exact by
   have tx2 : x2.toInt = x0.toInt + 1 := (jadd ex2 rfl jz_1 (by omega) (by omega)).trans (by omega)
   refine va_sld hx hb hX hbl hbA hS (jin tx2 (by omega) (by omega)) dL_law_422 ?_
   have g3 := jrg (rfl : (xs x2.toNatClampNeg).toInt = (xs x2.toNatClampNeg).toInt)
   refine jcallV (As := [.int (xs x2.toNatClampNeg)]) (rest := []) ⟨hx, hb, hml, hown, hts⟩ hK hP hA hS hZ (c_X11_of l D cI cL ad zz hJ σ τ (xs x2.toNatClampNeg) ((xs x2.toNatClampNeg).toInt) rfl hI16) cw_RL_45 (jc_0 cI cL ad σ τ) rfl ⟨Nat.le_of_ble_eq_true rfl, Nat.le_of_ble_eq_true rfl⟩ rfl rfl rfl hl.1 rfl (Nat.le_of_ble_eq_true rfl) dL_law_423 ⟨Nat.le_of_ble_eq_true rfl, Nat.le_of_ble_eq_true rfl⟩ (fun r5 σ4 τ4 H locs h4 hP hS => ?_)
   obtain ⟨⟨rfl, rfl⟩, h4⟩ := h4
   rcases h4 with h6 | h7 | h8 | h9 | h10
   · obtain ⟨q13, k11, k12⟩ := h6
     refine lv_pop hx hb dL_law_426 rfl ?_
     refine lv_aload_n hx hb dL_law_427 rfl (lv_at hl 1 rfl) ?_
     exact by
      refine lv_aload_n hx hb dL_law_428 rfl (lv_at hl 3 rfl) ?_
      refine lv_iload_n hx hb dL_law_429 rfl (lv_at hl 0 rfl) ?_
      refine lv_iconst (v := 1) hx hb dL_law_430 (of_decide_eq_true rfl) ?_
      refine lv_iadd hx hb dL_law_431 ?_
      refine jtopr ex2.symm ?_
      refine va_sld hx hb hX hbl hbA hS (jin tx2 (by omega) (by omega)) dL_law_432 ?_
      refine jcallV (As := [.int (xs x2.toNatClampNeg)]) (rest := []) ⟨hx, hb, hml, hown, hts⟩ hK hP hA hS hZ (c_X12_of l D cI cL ad zz hJ σ τ (xs x2.toNatClampNeg) ((xs x2.toNatClampNeg).toInt) rfl hI104 hI107) cw_RL_48 (jc_55 cI cL ad σ τ) rfl ⟨Nat.le_of_ble_eq_true rfl, Nat.le_of_ble_eq_true rfl⟩ rfl rfl rfl hl.1 rfl (Nat.le_of_ble_eq_true rfl) dL_law_433 ⟨Nat.le_of_ble_eq_true rfl, Nat.le_of_ble_eq_true rfl⟩ (fun r15 σ14 τ14 H locs h14 hP hS => ?_)
      obtain ⟨⟨rfl, rfl⟩, h14⟩ := h14
      rcases h14 with h16 | h17 | h18 | h19 | h20
      · exact by
         obtain ⟨q23, k21, k22⟩ := h16
         refine lv_pop hx hb dL_law_436 rfl ?_
         refine lv_goto (tgt := 1357) hx hb dL_law_437 (of_decide_eq_true rfl) ?_
         obtain ⟨x24, ex24⟩ : ∃ y : Int32, y = x0 + 6 := ⟨_, rfl⟩
         have tx24 : x24.toInt = x0.toInt + 6 := (jadd ex24 rfl jz_6 (by omega) (by omega)).trans (by omega)
         refine lv_iinc (v := x24) (lv' := [(3, .int x24), (2, .ref (ad 55)), (1, .ref (ad 0)), (0, .ref b)]) hx hb dL_law_1357 hl (k := 0) rfl (by rw [ex24]; rfl) (of_decide_eq_true rfl) rfl (fun ls hl => ?_)
         refine lv_goto (tgt := 18) hx hb dL_law_1360 (of_decide_eq_true rfl) ?_
         exact by exact ih x24 σ τ _ _ ls (by have h9 := tx24; omega) ⟨hI2, hI9, hI12, hI16, hI18, hI22, hI31, hI38, hI43, hI47, hI50, hI101, hI102, hI103, hI104, hI105, hI106, hI107, hI109, hI110, hI111, hI119, hs_jKept, hs_jBook, (by omega)⟩ hP hS (lv_sub hl [0, 1, 2, 3] rfl)
      · obtain ⟨q27, k25, k26⟩ := h17
        exact absurd (by omega : False) id
      · exact by
         obtain ⟨q30, k28, k29⟩ := h18
         exact absurd (by omega : False) id
      · obtain ⟨q34, k31, k32, k33⟩ := h19
        exact absurd (by omega : False) id
      · obtain ⟨q36, k35⟩ := h20
        exact absurd (by omega : False) id
   · obtain ⟨q39, k37, k38⟩ := h7
     refine lv_pop hx hb dL_law_426 rfl ?_
     refine lv_aload_n hx hb dL_law_427 rfl (lv_at hl 1 rfl) ?_
     refine lv_aload_n hx hb dL_law_428 rfl (lv_at hl 3 rfl) ?_
     refine lv_iload_n hx hb dL_law_429 rfl (lv_at hl 0 rfl) ?_
     refine lv_iconst (v := 1) hx hb dL_law_430 (of_decide_eq_true rfl) ?_
     refine lv_iadd hx hb dL_law_431 ?_
     refine jtopr ex2.symm ?_
     exact by
      refine va_sld hx hb hX hbl hbA hS (jin tx2 (by omega) (by omega)) dL_law_432 ?_
      refine jcallV (As := [.int (xs x2.toNatClampNeg)]) (rest := []) ⟨hx, hb, hml, hown, hts⟩ hK hP hA hS hZ (c_X12_of l D cI cL ad zz hJ σ τ (xs x2.toNatClampNeg) ((xs x2.toNatClampNeg).toInt) rfl hI104 hI107) cw_RL_48 (jc_55 cI cL ad σ τ) rfl ⟨Nat.le_of_ble_eq_true rfl, Nat.le_of_ble_eq_true rfl⟩ rfl rfl rfl hl.1 rfl (Nat.le_of_ble_eq_true rfl) dL_law_433 ⟨Nat.le_of_ble_eq_true rfl, Nat.le_of_ble_eq_true rfl⟩ (fun r41 σ40 τ40 H locs h40 hP hS => ?_)
      obtain ⟨⟨rfl, rfl⟩, h40⟩ := h40
      rcases h40 with h42 | h43 | h44 | h45 | h46
      · obtain ⟨q49, k47, k48⟩ := h42
        exact absurd (by omega : False) id
      · obtain ⟨q52, k50, k51⟩ := h43
        refine lv_pop hx hb dL_law_436 rfl ?_
        refine lv_goto (tgt := 1357) hx hb dL_law_437 (of_decide_eq_true rfl) ?_
        obtain ⟨x53, ex53⟩ : ∃ y : Int32, y = x0 + 6 := ⟨_, rfl⟩
        exact by
         have tx53 : x53.toInt = x0.toInt + 6 := (jadd ex53 rfl jz_6 (by omega) (by omega)).trans (by omega)
         refine lv_iinc (v := x53) (lv' := [(3, .int x53), (2, .ref (ad 55)), (1, .ref (ad 0)), (0, .ref b)]) hx hb dL_law_1357 hl (k := 0) rfl (by rw [ex53]; rfl) (of_decide_eq_true rfl) rfl (fun ls hl => ?_)
         refine lv_goto (tgt := 18) hx hb dL_law_1360 (of_decide_eq_true rfl) ?_
         exact by exact ih x53 σ τ _ _ ls (by have h9 := tx53; omega) ⟨hI2, hI9, hI12, hI16, hI18, hI22, hI31, hI38, hI43, hI47, hI50, hI101, hI102, hI103, hI104, hI105, hI106, hI107, hI109, hI110, hI111, hI119, hs_jKept, hs_jBook, (by omega)⟩ hP hS (lv_sub hl [0, 1, 2, 3] rfl)
      · obtain ⟨q56, k54, k55⟩ := h44
        exact absurd (by omega : False) id
      · obtain ⟨q60, k57, k58, k59⟩ := h45
        exact absurd (by omega : False) id
      · obtain ⟨q62, k61⟩ := h46
        exact absurd (by omega : False) id
   · exact by
      obtain ⟨q65, k63, k64⟩ := h8
      refine lv_pop hx hb dL_law_426 rfl ?_
      refine lv_aload_n hx hb dL_law_427 rfl (lv_at hl 1 rfl) ?_
      refine lv_aload_n hx hb dL_law_428 rfl (lv_at hl 3 rfl) ?_
      refine lv_iload_n hx hb dL_law_429 rfl (lv_at hl 0 rfl) ?_
      refine lv_iconst (v := 1) hx hb dL_law_430 (of_decide_eq_true rfl) ?_
      refine lv_iadd hx hb dL_law_431 ?_
      refine jtopr ex2.symm ?_
      refine va_sld hx hb hX hbl hbA hS (jin tx2 (by omega) (by omega)) dL_law_432 ?_
      exact by
       refine jcallV (As := [.int (xs x2.toNatClampNeg)]) (rest := []) ⟨hx, hb, hml, hown, hts⟩ hK hP hA hS hZ (c_X12_of l D cI cL ad zz hJ σ τ (xs x2.toNatClampNeg) ((xs x2.toNatClampNeg).toInt) rfl hI104 hI107) cw_RL_48 (jc_55 cI cL ad σ τ) rfl ⟨Nat.le_of_ble_eq_true rfl, Nat.le_of_ble_eq_true rfl⟩ rfl rfl rfl hl.1 rfl (Nat.le_of_ble_eq_true rfl) dL_law_433 ⟨Nat.le_of_ble_eq_true rfl, Nat.le_of_ble_eq_true rfl⟩ (fun r67 σ66 τ66 H locs h66 hP hS => ?_)
       obtain ⟨⟨rfl, rfl⟩, h66⟩ := h66
       rcases h66 with h68 | h69 | h70 | h71 | h72
       · obtain ⟨q75, k73, k74⟩ := h68
         exact absurd (by omega : False) id
       · obtain ⟨q78, k76, k77⟩ := h69
         exact absurd (by omega : False) id
       · obtain ⟨q81, k79, k80⟩ := h70
         refine lv_pop hx hb dL_law_436 rfl ?_
         refine lv_goto (tgt := 1357) hx hb dL_law_437 (of_decide_eq_true rfl) ?_
         obtain ⟨x82, ex82⟩ : ∃ y : Int32, y = x0 + 6 := ⟨_, rfl⟩
         exact by
          have tx82 : x82.toInt = x0.toInt + 6 := (jadd ex82 rfl jz_6 (by omega) (by omega)).trans (by omega)
          refine lv_iinc (v := x82) (lv' := [(3, .int x82), (2, .ref (ad 55)), (1, .ref (ad 0)), (0, .ref b)]) hx hb dL_law_1357 hl (k := 0) rfl (by rw [ex82]; rfl) (of_decide_eq_true rfl) rfl (fun ls hl => ?_)
          refine lv_goto (tgt := 18) hx hb dL_law_1360 (of_decide_eq_true rfl) ?_
          exact by exact ih x82 σ τ _ _ ls (by have h9 := tx82; omega) ⟨hI2, hI9, hI12, hI16, hI18, hI22, hI31, hI38, hI43, hI47, hI50, hI101, hI102, hI103, hI104, hI105, hI106, hI107, hI109, hI110, hI111, hI119, hs_jKept, hs_jBook, (by omega)⟩ hP hS (lv_sub hl [0, 1, 2, 3] rfl)
       · obtain ⟨q86, k83, k84, k85⟩ := h71
         exact absurd (by omega : False) id
       · obtain ⟨q88, k87⟩ := h72
         exact absurd (by omega : False) id
   · obtain ⟨q92, k89, k90, k91⟩ := h9
     exact by
      refine lv_pop hx hb dL_law_426 rfl ?_
      refine lv_aload_n hx hb dL_law_427 rfl (lv_at hl 1 rfl) ?_
      refine lv_aload_n hx hb dL_law_428 rfl (lv_at hl 3 rfl) ?_
      refine lv_iload_n hx hb dL_law_429 rfl (lv_at hl 0 rfl) ?_
      refine lv_iconst (v := 1) hx hb dL_law_430 (of_decide_eq_true rfl) ?_
      refine lv_iadd hx hb dL_law_431 ?_
      refine jtopr ex2.symm ?_
      refine va_sld hx hb hX hbl hbA hS (jin tx2 (by omega) (by omega)) dL_law_432 ?_
      refine jcallV (As := [.int (xs x2.toNatClampNeg)]) (rest := []) ⟨hx, hb, hml, hown, hts⟩ hK hP hA hS hZ (c_X12_of l D cI cL ad zz hJ σ τ (xs x2.toNatClampNeg) ((xs x2.toNatClampNeg).toInt) rfl hI104 hI107) cw_RL_48 (jc_55 cI cL ad σ τ) rfl ⟨Nat.le_of_ble_eq_true rfl, Nat.le_of_ble_eq_true rfl⟩ rfl rfl rfl hl.1 rfl (Nat.le_of_ble_eq_true rfl) dL_law_433 ⟨Nat.le_of_ble_eq_true rfl, Nat.le_of_ble_eq_true rfl⟩ (fun r94 σ93 τ93 H locs h93 hP hS => ?_)
      exact by
       obtain ⟨⟨rfl, rfl⟩, h93⟩ := h93
       rcases h93 with h95 | h96 | h97 | h98 | h99
       · obtain ⟨q102, k100, k101⟩ := h95
         exact absurd (by omega : False) id
       · obtain ⟨q105, k103, k104⟩ := h96
         exact absurd (by omega : False) id
       · obtain ⟨q108, k106, k107⟩ := h97
         exact absurd (by omega : False) id
       · obtain ⟨q112, k109, k110, k111⟩ := h98
         refine lv_pop hx hb dL_law_436 rfl ?_
         refine lv_goto (tgt := 1357) hx hb dL_law_437 (of_decide_eq_true rfl) ?_
         obtain ⟨x113, ex113⟩ : ∃ y : Int32, y = x0 + 6 := ⟨_, rfl⟩
         exact by
          have tx113 : x113.toInt = x0.toInt + 6 := (jadd ex113 rfl jz_6 (by omega) (by omega)).trans (by omega)
          refine lv_iinc (v := x113) (lv' := [(3, .int x113), (2, .ref (ad 55)), (1, .ref (ad 0)), (0, .ref b)]) hx hb dL_law_1357 hl (k := 0) rfl (by rw [ex113]; rfl) (of_decide_eq_true rfl) rfl (fun ls hl => ?_)
          refine lv_goto (tgt := 18) hx hb dL_law_1360 (of_decide_eq_true rfl) ?_
          exact by exact ih x113 σ τ _ _ ls (by have h9 := tx113; omega) ⟨hI2, hI9, hI12, hI16, hI18, hI22, hI31, hI38, hI43, hI47, hI50, hI101, hI102, hI103, hI104, hI105, hI106, hI107, hI109, hI110, hI111, hI119, hs_jKept, hs_jBook, (by omega)⟩ hP hS (lv_sub hl [0, 1, 2, 3] rfl)
       · obtain ⟨q115, k114⟩ := h99
         have q115 := q115.symm
         subst q115
         refine lv_pop hx hb dL_law_436 rfl ?_
         refine lv_goto (tgt := 1357) hx hb dL_law_437 (of_decide_eq_true rfl) ?_
         exact by
          obtain ⟨x116, ex116⟩ : ∃ y : Int32, y = x0 + 6 := ⟨_, rfl⟩
          have tx116 : x116.toInt = x0.toInt + 6 := (jadd ex116 rfl jz_6 (by omega) (by omega)).trans (by omega)
          refine lv_iinc (v := x116) (lv' := [(3, .int x116), (2, .ref (ad 55)), (1, .ref (ad 0)), (0, .ref b)]) hx hb dL_law_1357 hl (k := 0) rfl (by rw [ex116]; rfl) (of_decide_eq_true rfl) rfl (fun ls hl => ?_)
          refine lv_goto (tgt := 18) hx hb dL_law_1360 (of_decide_eq_true rfl) ?_
          exact by exact ih x116 σ τ _ _ ls (by have h9 := tx116; omega) ⟨hI2, hI9, hI12, hI16, hI18, hI22, hI31, hI38, hI43, hI47, hI50, hI101, hI102, hI103, hI104, hI105, hI106, hI107, hI109, hI110, hI111, hI119, hs_jKept, hs_jBook, (by omega)⟩ hP hS (lv_sub hl [0, 1, 2, 3] rfl)
   · obtain ⟨q118, k117⟩ := h10
     have q118 := q118.symm
     subst q118
     refine lv_pop hx hb dL_law_426 rfl ?_
     exact by
      refine lv_aload_n hx hb dL_law_427 rfl (lv_at hl 1 rfl) ?_
      refine lv_aload_n hx hb dL_law_428 rfl (lv_at hl 3 rfl) ?_
      refine lv_iload_n hx hb dL_law_429 rfl (lv_at hl 0 rfl) ?_
      refine lv_iconst (v := 1) hx hb dL_law_430 (of_decide_eq_true rfl) ?_
      refine lv_iadd hx hb dL_law_431 ?_
      refine jtopr ex2.symm ?_
      refine va_sld hx hb hX hbl hbA hS (jin tx2 (by omega) (by omega)) dL_law_432 ?_
      refine jcallV (As := [.int (xs x2.toNatClampNeg)]) (rest := []) ⟨hx, hb, hml, hown, hts⟩ hK hP hA hS hZ (c_X12_of l D cI cL ad zz hJ σ τ (xs x2.toNatClampNeg) ((xs x2.toNatClampNeg).toInt) rfl hI104 hI107) cw_RL_48 (jc_55 cI cL ad σ τ) rfl ⟨Nat.le_of_ble_eq_true rfl, Nat.le_of_ble_eq_true rfl⟩ rfl rfl rfl hl.1 rfl (Nat.le_of_ble_eq_true rfl) dL_law_433 ⟨Nat.le_of_ble_eq_true rfl, Nat.le_of_ble_eq_true rfl⟩ (fun r120 σ119 τ119 H locs h119 hP hS => ?_)
      obtain ⟨⟨rfl, rfl⟩, h119⟩ := h119
      exact by
       rcases h119 with h121 | h122 | h123 | h124 | h125
       · obtain ⟨q128, k126, k127⟩ := h121
         exact absurd (by omega : False) id
       · obtain ⟨q131, k129, k130⟩ := h122
         exact absurd (by omega : False) id
       · obtain ⟨q134, k132, k133⟩ := h123
         exact absurd (by omega : False) id
       · obtain ⟨q138, k135, k136, k137⟩ := h124
         refine lv_pop hx hb dL_law_436 rfl ?_
         refine lv_goto (tgt := 1357) hx hb dL_law_437 (of_decide_eq_true rfl) ?_
         obtain ⟨x139, ex139⟩ : ∃ y : Int32, y = x0 + 6 := ⟨_, rfl⟩
         exact by
          have tx139 : x139.toInt = x0.toInt + 6 := (jadd ex139 rfl jz_6 (by omega) (by omega)).trans (by omega)
          refine lv_iinc (v := x139) (lv' := [(3, .int x139), (2, .ref (ad 55)), (1, .ref (ad 0)), (0, .ref b)]) hx hb dL_law_1357 hl (k := 0) rfl (by rw [ex139]; rfl) (of_decide_eq_true rfl) rfl (fun ls hl => ?_)
          refine lv_goto (tgt := 18) hx hb dL_law_1360 (of_decide_eq_true rfl) ?_
          exact by exact ih x139 σ τ _ _ ls (by have h9 := tx139; omega) ⟨hI2, hI9, hI12, hI16, hI18, hI22, hI31, hI38, hI43, hI47, hI50, hI101, hI102, hI103, hI104, hI105, hI106, hI107, hI109, hI110, hI111, hI119, hs_jKept, hs_jBook, (by omega)⟩ hP hS (lv_sub hl [0, 1, 2, 3] rfl)
       · obtain ⟨q141, k140⟩ := h125
         have q141 := q141.symm
         subst q141
         refine lv_pop hx hb dL_law_436 rfl ?_
         refine lv_goto (tgt := 1357) hx hb dL_law_437 (of_decide_eq_true rfl) ?_
         exact by
          obtain ⟨x142, ex142⟩ : ∃ y : Int32, y = x0 + 6 := ⟨_, rfl⟩
          have tx142 : x142.toInt = x0.toInt + 6 := (jadd ex142 rfl jz_6 (by omega) (by omega)).trans (by omega)
          refine lv_iinc (v := x142) (lv' := [(3, .int x142), (2, .ref (ad 55)), (1, .ref (ad 0)), (0, .ref b)]) hx hb dL_law_1357 hl (k := 0) rfl (by rw [ex142]; rfl) (of_decide_eq_true rfl) rfl (fun ls hl => ?_)
          refine lv_goto (tgt := 18) hx hb dL_law_1360 (of_decide_eq_true rfl) ?_
          exact by exact ih x142 σ τ _ _ ls (by have h9 := tx142; omega) ⟨hI2, hI9, hI12, hI16, hI18, hI22, hI31, hI38, hI43, hI47, hI50, hI101, hI102, hI103, hI104, hI105, hI106, hI107, hI109, hI110, hI111, hI119, hs_jKept, hs_jBook, (by omega)⟩ hP hS (lv_sub hl [0, 1, 2, 3] rfl)
set_option maxHeartbeats 4000000 in
set_option maxRecDepth 100000 in
theorem law_case_8 {p : Program} {e : Env} {s : State} {m : MethodId} {below : List Frame} {meth : Method} {c : Code} (l : Launch) {b L : Nat} {xs : Nat → Int32} {D : va_G} {cI cL : ClassId} {ad zz : Nat → Nat} (C0 : lw_At p s m meth c b L xs) (hJ : jD ad) (hA : ∀ q, jA ad q → s.heap.size ≤ q) (hK : jK D cI cL s) (hZ : jZ zz (fun q : Nat => s.heap.size ≤ q) s s.heap) {x0 : Int32} (hx0 : 0 ≤ x0.toInt) (hxL : x0.toInt + 6 ≤ (L : Int)) (hL : L ≤ 384) {σ : Nat → Nat → Int32} {τ : Nat → Nat → Int64} {H : Heap} {locs : List Loc} (hS : va_S (fun q : Nat => s.heap.size ≤ q) s.heap H locs) {ls : Array Slot} (hAll : jAll σ τ) (hP : jH D cI cL ad σ τ H) (hl : lv_has ls 4 [(3, .int x0), (2, .ref (ad 55)), (1, .ref (ad 0)), (0, .ref b)]) (ih : ∀ (x1 : Int32) (σ : Nat → Nat → Int32) (τ : Nat → Nat → Int64) (H : Heap) (locs : List Loc) (ls : Array Slot), x1.toInt = x0.toInt + 6 → jAll σ τ → jH D cI cL ad σ τ H → va_S (fun q : Nat => s.heap.size ≤ q) s.heap H locs → lv_has ls 4 [(3, .int x1), (2, .ref (ad 55)), (1, .ref (ad 0)), (0, .ref b)] → W p l e room_1 s m #[Value.ref b] below meth c H locs 90 348600 (lw_Z below #[Value.ref b] s) (F0 m 18 ls [])) : W p l e room_1 s m #[Value.ref b] below meth c H locs 90 348600 (lw_Z below #[Value.ref b] s) (F0 m 440 ls []) := by
  obtain ⟨hx, hb, hr, hml, hown, hts0, hX, hbl, hlocks, hgv⟩ := C0
  have hts : ∀ w ∈ wsL_law, w.before #[Value.ref b] s = true := fun w h => hts0 w (wsL_law_in w h)
  have hbA : ¬ (fun q : Nat => s.heap.size ≤ q) b := Nat.not_le.mpr hbl
  have hown : s.vm.findClass RL = some m.cls := hown
  obtain ⟨hI2, hI9, hI12, hI16, hI18, hI22, hI31, hI38, hI43, hI47, hI50, hI101, hI102, hI103, hI104, hI105, hI106, hI107, hI109, hI110, hI111, hI119, hs_jKept, hs_jBook, ht0⟩ := hAll
  have hL9 : (L : Int) ≤ 384 := by omega
  refine lv_aload_n hx hb dL_law_440 rfl (lv_at hl 2 rfl) ?_
  refine lv_aload_n hx hb dL_law_441 rfl (lv_at hl 3 rfl) ?_
  refine lv_iload_n hx hb dL_law_442 rfl (lv_at hl 0 rfl) ?_
  refine lv_iconst (v := 1) hx hb dL_law_443 (of_decide_eq_true rfl) ?_
  have g1 := jrg (rfl : x0.toInt = x0.toInt)
  refine lv_iadd hx hb dL_law_444 ?_
  refine lv_topi (fun x2 ex2 => ?_)
  exact by
   have tx2 : x2.toInt = x0.toInt + 1 := (jadd ex2 rfl jz_1 (by omega) (by omega)).trans (by omega)
   refine va_sld hx hb hX hbl hbA hS (jin tx2 (by omega) (by omega)) dL_law_445 ?_
   have g3 := jrg (rfl : (xs x2.toNatClampNeg).toInt = (xs x2.toNatClampNeg).toInt)
   refine lv_aload_n hx hb dL_law_446 rfl (lv_at hl 3 rfl) ?_
   refine lv_iload_n hx hb dL_law_447 rfl (lv_at hl 0 rfl) ?_
   refine lv_iconst (v := 2) hx hb dL_law_448 (of_decide_eq_true rfl) ?_
   refine lv_iadd hx hb dL_law_449 ?_
   refine lv_topi (fun x4 ex4 => ?_)
   have tx4 : x4.toInt = x0.toInt + 2 := (jadd ex4 rfl jz_2 (by omega) (by omega)).trans (by omega)
   exact by
    refine va_sld hx hb hX hbl hbA hS (jin tx4 (by omega) (by omega)) dL_law_450 ?_
    have g5 := jrg (rfl : (xs x4.toNatClampNeg).toInt = (xs x4.toNatClampNeg).toInt)
    refine lv_aload_n hx hb dL_law_451 rfl (lv_at hl 3 rfl) ?_
    refine lv_iload_n hx hb dL_law_452 rfl (lv_at hl 0 rfl) ?_
    refine lv_iconst (v := 3) hx hb dL_law_453 (of_decide_eq_true rfl) ?_
    refine lv_iadd hx hb dL_law_454 ?_
    refine lv_topi (fun x6 ex6 => ?_)
    have tx6 : x6.toInt = x0.toInt + 3 := (jadd ex6 rfl jz_3 (by omega) (by omega)).trans (by omega)
    refine va_sld hx hb hX hbl hbA hS (jin tx6 (by omega) (by omega)) dL_law_455 ?_
    exact by
     have g7 := jrg (rfl : (xs x6.toNatClampNeg).toInt = (xs x6.toNatClampNeg).toInt)
     refine jcallV (As := [.int (xs x2.toNatClampNeg), .int (xs x4.toNatClampNeg), .int (xs x6.toNatClampNeg)]) (rest := []) ⟨hx, hb, hml, hown, hts⟩ hK hP hA hS hZ (c_X11_over l D cI cL ad zz hJ σ τ (xs x2.toNatClampNeg) ((xs x2.toNatClampNeg).toInt) rfl (xs x4.toNatClampNeg) ((xs x4.toNatClampNeg).toInt) rfl (xs x6.toNatClampNeg) ((xs x6.toNatClampNeg).toInt) rfl hI2 hI22) cw_RL_49 (jc_0 cI cL ad σ τ) rfl ⟨Nat.le_of_ble_eq_true rfl, Nat.le_of_ble_eq_true rfl⟩ rfl rfl rfl hl.1 rfl (Nat.le_of_ble_eq_true rfl) dL_law_456 ⟨Nat.le_of_ble_eq_true rfl, Nat.le_of_ble_eq_true rfl⟩ (fun r9 σ8 τ8 H locs h8 hP hS => ?_)
     obtain ⟨rfl, f10, h8⟩ := h8
     refine lv_pop hx hb dL_law_459 rfl ?_
     refine lv_aload_n hx hb dL_law_460 rfl (lv_at hl 1 rfl) ?_
     refine lv_aload_n hx hb dL_law_461 rfl (lv_at hl 3 rfl) ?_
     refine lv_iload_n hx hb dL_law_462 rfl (lv_at hl 0 rfl) ?_
     refine lv_iconst (v := 1) hx hb dL_law_463 (of_decide_eq_true rfl) ?_
     refine lv_iadd hx hb dL_law_464 ?_
     refine jtopr ex2.symm ?_
     exact by
      refine va_sld hx hb hX hbl hbA hS (jin tx2 (by omega) (by omega)) dL_law_465 ?_
      refine lv_aload_n hx hb dL_law_466 rfl (lv_at hl 3 rfl) ?_
      refine lv_iload_n hx hb dL_law_467 rfl (lv_at hl 0 rfl) ?_
      refine lv_iconst (v := 2) hx hb dL_law_468 (of_decide_eq_true rfl) ?_
      refine lv_iadd hx hb dL_law_469 ?_
      refine jtopr ex4.symm ?_
      refine va_sld hx hb hX hbl hbA hS (jin tx4 (by omega) (by omega)) dL_law_470 ?_
      refine lv_aload_n hx hb dL_law_471 rfl (lv_at hl 3 rfl) ?_
      refine lv_iload_n hx hb dL_law_472 rfl (lv_at hl 0 rfl) ?_
      exact by
       refine lv_iconst (v := 3) hx hb dL_law_473 (of_decide_eq_true rfl) ?_
       refine lv_iadd hx hb dL_law_474 ?_
       refine jtopr ex6.symm ?_
       refine va_sld hx hb hX hbl hbA hS (jin tx6 (by omega) (by omega)) dL_law_475 ?_
       have I12 : jI101 σ8 := jI101_fr (congrFun (f10 55 (of_decide_eq_true rfl)) 4) (congrFun (f10 55 (of_decide_eq_true rfl)) 5) (f10 56 (of_decide_eq_true rfl)) (f10 57 (of_decide_eq_true rfl)) (f10 58 (of_decide_eq_true rfl)) (f10 59 (of_decide_eq_true rfl)) hI101
       have I13 : jI102 σ8 := jI102_fr (congrFun (f10 55 (of_decide_eq_true rfl)) 6) (f10 60 (of_decide_eq_true rfl)) (f10 61 (of_decide_eq_true rfl)) hI102
       have I14 : jI103 σ8 := jI103_fr (congrFun (f10 55 (of_decide_eq_true rfl)) 9) hI103
       have I15 : jI104 σ8 := jI104_fr (congrFun (f10 55 (of_decide_eq_true rfl)) 10) (congrFun (f10 55 (of_decide_eq_true rfl)) 12) (congrFun (f10 55 (of_decide_eq_true rfl)) 13) (f10 62 (of_decide_eq_true rfl)) (f10 67 (of_decide_eq_true rfl)) hI104
       have I16 : jI105 σ8 := jI105_fr (congrFun (f10 55 (of_decide_eq_true rfl)) 15) (f10 65 (of_decide_eq_true rfl)) hI105
       exact by
        have I17 : jI119 σ8 := jI119_fr (f10 68 (of_decide_eq_true rfl)) hI119
        refine jcallV (As := [.int (xs x2.toNatClampNeg), .int (xs x4.toNatClampNeg), .int (xs x6.toNatClampNeg)]) (rest := []) ⟨hx, hb, hml, hown, hts⟩ hK hP hA hS hZ (c_X12_over l D cI cL ad zz hJ σ8 τ (xs x2.toNatClampNeg) ((xs x2.toNatClampNeg).toInt) rfl (xs x4.toNatClampNeg) ((xs x4.toNatClampNeg).toInt) rfl (xs x6.toNatClampNeg) ((xs x6.toNatClampNeg).toInt) rfl I12 I13 I14 I15 I16 I17) cw_RL_52 (jc_55 cI cL ad σ8 τ) rfl ⟨Nat.le_of_ble_eq_true rfl, Nat.le_of_ble_eq_true rfl⟩ rfl rfl rfl hl.1 rfl (Nat.le_of_ble_eq_true rfl) dL_law_476 ⟨Nat.le_of_ble_eq_true rfl, Nat.le_of_ble_eq_true rfl⟩ (fun r19 σ18 τ18 H locs h18 hP hS => ?_)
        obtain ⟨rfl, f20, f21, I22, h18⟩ := h18
        refine lv_pop hx hb dL_law_479 rfl ?_
        refine lv_goto (tgt := 1357) hx hb dL_law_480 (of_decide_eq_true rfl) ?_
        obtain ⟨x24, ex24⟩ : ∃ y : Int32, y = x0 + 6 := ⟨_, rfl⟩
        have tx24 : x24.toInt = x0.toInt + 6 := (jadd ex24 rfl jz_6 (by omega) (by omega)).trans (by omega)
        refine lv_iinc (v := x24) (lv' := [(3, .int x24), (2, .ref (ad 55)), (1, .ref (ad 0)), (0, .ref b)]) hx hb dL_law_1357 hl (k := 0) rfl (by rw [ex24]; rfl) (of_decide_eq_true rfl) rfl (fun ls hl => ?_)
        refine lv_goto (tgt := 18) hx hb dL_law_1360 (of_decide_eq_true rfl) ?_
        exact by
         have I25 : jI2 σ18 := jI2_fr ((congrFun (f20 2 (of_decide_eq_true rfl)) 0).trans (congrFun (f10 2 (of_decide_eq_true rfl)) 0)) ((congrFun (f20 2 (of_decide_eq_true rfl)) 1).trans (congrFun (f10 2 (of_decide_eq_true rfl)) 1)) ((congrFun (f20 2 (of_decide_eq_true rfl)) 2).trans (congrFun (f10 2 (of_decide_eq_true rfl)) 2)) ((congrFun (f20 2 (of_decide_eq_true rfl)) 3).trans (congrFun (f10 2 (of_decide_eq_true rfl)) 3)) ((f20 6 (of_decide_eq_true rfl)).trans (f10 6 (of_decide_eq_true rfl))) hI2
         have I26 : jI9 σ18 := jI9_fr ((congrFun (f20 9 (of_decide_eq_true rfl)) 0).trans (congrFun (f10 9 (of_decide_eq_true rfl)) 0)) ((f20 10 (of_decide_eq_true rfl)).trans (f10 10 (of_decide_eq_true rfl))) ((f20 11 (of_decide_eq_true rfl)).trans (f10 11 (of_decide_eq_true rfl))) hI9
         have I27 : jI12 σ18 := jI12_fr ((congrFun (f20 12 (of_decide_eq_true rfl)) 0).trans (congrFun (f10 12 (of_decide_eq_true rfl)) 0)) ((f20 13 (of_decide_eq_true rfl)).trans (f10 13 (of_decide_eq_true rfl))) hI12
         have I28 : jI16 σ18 := jI16_fr ((congrFun (f20 16 (of_decide_eq_true rfl)) 0).trans (congrFun (f10 16 (of_decide_eq_true rfl)) 0)) ((congrFun (f20 16 (of_decide_eq_true rfl)) 1).trans (congrFun (f10 16 (of_decide_eq_true rfl)) 1)) ((congrFun (f20 16 (of_decide_eq_true rfl)) 2).trans (congrFun (f10 16 (of_decide_eq_true rfl)) 2)) ((f20 17 (of_decide_eq_true rfl)).trans (f10 17 (of_decide_eq_true rfl))) hI16
         have I29 : jI18 σ18 := jI18_fr ((congrFun (f20 18 (of_decide_eq_true rfl)) 0).trans (congrFun (f10 18 (of_decide_eq_true rfl)) 0)) ((f20 19 (of_decide_eq_true rfl)).trans (f10 19 (of_decide_eq_true rfl))) hI18
         have I30 : jI22 σ18 := jI22_fr ((congrFun (f20 22 (of_decide_eq_true rfl)) 0).trans (congrFun (f10 22 (of_decide_eq_true rfl)) 0)) ((f20 23 (of_decide_eq_true rfl)).trans (f10 23 (of_decide_eq_true rfl))) hI22
         have I31 : jI31 σ18 := jI31_fr ((congrFun (f20 31 (of_decide_eq_true rfl)) 8).trans (congrFun (f10 31 (of_decide_eq_true rfl)) 8)) ((f20 33 (of_decide_eq_true rfl)).trans (f10 33 (of_decide_eq_true rfl))) ((f20 36 (of_decide_eq_true rfl)).trans (f10 36 (of_decide_eq_true rfl))) hI31
         have I32 : jI38 σ18 := jI38_fr ((congrFun (f20 38 (of_decide_eq_true rfl)) 0).trans (congrFun (f10 38 (of_decide_eq_true rfl)) 0)) ((congrFun (f20 38 (of_decide_eq_true rfl)) 1).trans (congrFun (f10 38 (of_decide_eq_true rfl)) 1)) ((f20 39 (of_decide_eq_true rfl)).trans (f10 39 (of_decide_eq_true rfl))) hI38
         have I33 : jI43 σ18 := jI43_fr ((congrFun (f20 43 (of_decide_eq_true rfl)) 8).trans (congrFun (f10 43 (of_decide_eq_true rfl)) 8)) hI43
         have I34 : jI47 σ18 := jI47_fr ((congrFun (f20 47 (of_decide_eq_true rfl)) 0).trans (congrFun (f10 47 (of_decide_eq_true rfl)) 0)) ((f20 48 (of_decide_eq_true rfl)).trans (f10 48 (of_decide_eq_true rfl))) ((f20 49 (of_decide_eq_true rfl)).trans (f10 49 (of_decide_eq_true rfl))) hI47
         have I35 : jI50 σ18 := jI50_fr ((f20 52 (of_decide_eq_true rfl)).trans (f10 52 (of_decide_eq_true rfl))) hI50
         have I36 : jI101 σ18 := jI101_fr (f21 4 (of_decide_eq_true rfl)) (f21 5 (of_decide_eq_true rfl)) (f20 56 (of_decide_eq_true rfl)) (f20 57 (of_decide_eq_true rfl)) (f20 58 (of_decide_eq_true rfl)) (f20 59 (of_decide_eq_true rfl)) I12
         have I37 : jI102 σ18 := jI102_fr (f21 6 (of_decide_eq_true rfl)) (f20 60 (of_decide_eq_true rfl)) (f20 61 (of_decide_eq_true rfl)) I13
         have I38 : jI103 σ18 := jI103_fr (f21 9 (of_decide_eq_true rfl)) I14
         have I39 : jI104 σ18 := jI104_fr (f21 10 (of_decide_eq_true rfl)) (f21 12 (of_decide_eq_true rfl)) (f21 13 (of_decide_eq_true rfl)) (f20 62 (of_decide_eq_true rfl)) (f20 67 (of_decide_eq_true rfl)) I15
         have I40 : jI105 σ18 := jI105_fr (f21 15 (of_decide_eq_true rfl)) (f20 65 (of_decide_eq_true rfl)) I16
         have I41 : jI106 σ18 := jI106_fr ((f21 32 (of_decide_eq_true rfl)).trans (congrFun (f10 55 (of_decide_eq_true rfl)) 32)) ((f20 70 (of_decide_eq_true rfl)).trans (f10 70 (of_decide_eq_true rfl))) ((f20 71 (of_decide_eq_true rfl)).trans (f10 71 (of_decide_eq_true rfl))) ((f20 72 (of_decide_eq_true rfl)).trans (f10 72 (of_decide_eq_true rfl))) hI106
         have I42 : jI107 σ18 := jI107_fr ((f21 12 (of_decide_eq_true rfl)).trans (congrFun (f10 55 (of_decide_eq_true rfl)) 12)) ((f21 47 (of_decide_eq_true rfl)).trans (congrFun (f10 55 (of_decide_eq_true rfl)) 47)) ((f20 80 (of_decide_eq_true rfl)).trans (f10 80 (of_decide_eq_true rfl))) hI107
         have I43 : jI109 σ18 := jI109_fr ((f21 50 (of_decide_eq_true rfl)).trans (congrFun (f10 55 (of_decide_eq_true rfl)) 50)) hI109
         have I44 : jI110 σ18 := jI110_fr ((f20 86 (of_decide_eq_true rfl)).trans (f10 86 (of_decide_eq_true rfl))) ((f20 87 (of_decide_eq_true rfl)).trans (f10 87 (of_decide_eq_true rfl))) hI110
         have I45 : jI111 σ18 := jI111_fr ((f20 79 (of_decide_eq_true rfl)).trans (f10 79 (of_decide_eq_true rfl))) hI111
         have p46 : jKept σ18 := jKept.fr ((f20 75 (of_decide_eq_true rfl)).trans (f10 75 (of_decide_eq_true rfl))) ((f20 76 (of_decide_eq_true rfl)).trans (f10 76 (of_decide_eq_true rfl))) ((f20 77 (of_decide_eq_true rfl)).trans (f10 77 (of_decide_eq_true rfl))) hs_jKept
         have p47 : jBook σ18 := jBook.fr ((f21 47 (of_decide_eq_true rfl)).trans (congrFun (f10 55 (of_decide_eq_true rfl)) 47)) ((f21 10 (of_decide_eq_true rfl)).trans (congrFun (f10 55 (of_decide_eq_true rfl)) 10)) ((f20 81 (of_decide_eq_true rfl)).trans (f10 81 (of_decide_eq_true rfl))) hs_jBook
         have z48 : (σ18 38 0).toInt = (σ 38 0).toInt := (congrArg Int32.toInt (show σ18 38 0 = (σ 38 0) from ((congrFun (f20 38 (of_decide_eq_true rfl)) 0).trans (congrFun (f10 38 (of_decide_eq_true rfl)) 0))))
         have z49 : (σ18 55 32).toInt = (σ 55 32).toInt := (congrArg Int32.toInt (show σ18 55 32 = (σ 55 32) from ((f21 32 (of_decide_eq_true rfl)).trans (congrFun (f10 55 (of_decide_eq_true rfl)) 32))))
         exact by exact ih x24 σ18 τ _ _ ls (by have h9 := tx24; omega) ⟨I25, I26, I27, I28, I29, I30, I31, I32, I33, I34, I35, I36, I37, I38, I39, I40, I41, I42, I43, I44, I45, I22, p46, p47, (by omega)⟩ hP hS (lv_sub hl [0, 1, 2, 3] rfl)
set_option maxHeartbeats 4000000 in
set_option maxRecDepth 100000 in
theorem law_case_9 {p : Program} {e : Env} {s : State} {m : MethodId} {below : List Frame} {meth : Method} {c : Code} (l : Launch) {b L : Nat} {xs : Nat → Int32} {D : va_G} {cI cL : ClassId} {ad zz : Nat → Nat} (C0 : lw_At p s m meth c b L xs) (hJ : jD ad) (hA : ∀ q, jA ad q → s.heap.size ≤ q) (hK : jK D cI cL s) (hZ : jZ zz (fun q : Nat => s.heap.size ≤ q) s s.heap) {x0 : Int32} (hx0 : 0 ≤ x0.toInt) (hxL : x0.toInt + 6 ≤ (L : Int)) (hL : L ≤ 384) {σ : Nat → Nat → Int32} {τ : Nat → Nat → Int64} {H : Heap} {locs : List Loc} (hS : va_S (fun q : Nat => s.heap.size ≤ q) s.heap H locs) {ls : Array Slot} (hAll : jAll σ τ) (hP : jH D cI cL ad σ τ H) (hl : lv_has ls 4 [(3, .int x0), (2, .ref (ad 55)), (1, .ref (ad 0)), (0, .ref b)]) (ih : ∀ (x1 : Int32) (σ : Nat → Nat → Int32) (τ : Nat → Nat → Int64) (H : Heap) (locs : List Loc) (ls : Array Slot), x1.toInt = x0.toInt + 6 → jAll σ τ → jH D cI cL ad σ τ H → va_S (fun q : Nat => s.heap.size ≤ q) s.heap H locs → lv_has ls 4 [(3, .int x1), (2, .ref (ad 55)), (1, .ref (ad 0)), (0, .ref b)] → W p l e room_1 s m #[Value.ref b] below meth c H locs 90 348600 (lw_Z below #[Value.ref b] s) (F0 m 18 ls [])) : W p l e room_1 s m #[Value.ref b] below meth c H locs 90 348600 (lw_Z below #[Value.ref b] s) (F0 m 483 ls []) := by
  obtain ⟨hx, hb, hr, hml, hown, hts0, hX, hbl, hlocks, hgv⟩ := C0
  have hts : ∀ w ∈ wsL_law, w.before #[Value.ref b] s = true := fun w h => hts0 w (wsL_law_in w h)
  have hbA : ¬ (fun q : Nat => s.heap.size ≤ q) b := Nat.not_le.mpr hbl
  have hown : s.vm.findClass RL = some m.cls := hown
  obtain ⟨hI2, hI9, hI12, hI16, hI18, hI22, hI31, hI38, hI43, hI47, hI50, hI101, hI102, hI103, hI104, hI105, hI106, hI107, hI109, hI110, hI111, hI119, hs_jKept, hs_jBook, ht0⟩ := hAll
  have hL9 : (L : Int) ≤ 384 := by omega
  refine lv_aload_n hx hb dL_law_483 rfl (lv_at hl 2 rfl) ?_
  refine lv_aload_n hx hb dL_law_484 rfl (lv_at hl 3 rfl) ?_
  refine lv_iload_n hx hb dL_law_485 rfl (lv_at hl 0 rfl) ?_
  refine lv_iconst (v := 1) hx hb dL_law_486 (of_decide_eq_true rfl) ?_
  have g1 := jrg (rfl : x0.toInt = x0.toInt)
  refine lv_iadd hx hb dL_law_487 ?_
  refine lv_topi (fun x2 ex2 => ?_)
  exact by
   have tx2 : x2.toInt = x0.toInt + 1 := (jadd ex2 rfl jz_1 (by omega) (by omega)).trans (by omega)
   refine va_sld hx hb hX hbl hbA hS (jin tx2 (by omega) (by omega)) dL_law_488 ?_
   have g3 := jrg (rfl : (xs x2.toNatClampNeg).toInt = (xs x2.toNatClampNeg).toInt)
   refine lv_aload_n hx hb dL_law_489 rfl (lv_at hl 3 rfl) ?_
   refine lv_iload_n hx hb dL_law_490 rfl (lv_at hl 0 rfl) ?_
   refine lv_iconst (v := 2) hx hb dL_law_491 (of_decide_eq_true rfl) ?_
   refine lv_iadd hx hb dL_law_492 ?_
   refine lv_topi (fun x4 ex4 => ?_)
   have tx4 : x4.toInt = x0.toInt + 2 := (jadd ex4 rfl jz_2 (by omega) (by omega)).trans (by omega)
   exact by
    refine va_sld hx hb hX hbl hbA hS (jin tx4 (by omega) (by omega)) dL_law_493 ?_
    have g5 := jrg (rfl : (xs x4.toNatClampNeg).toInt = (xs x4.toNatClampNeg).toInt)
    refine lv_aload_n hx hb dL_law_494 rfl (lv_at hl 3 rfl) ?_
    refine lv_iload_n hx hb dL_law_495 rfl (lv_at hl 0 rfl) ?_
    refine lv_iconst (v := 3) hx hb dL_law_496 (of_decide_eq_true rfl) ?_
    refine lv_iadd hx hb dL_law_497 ?_
    refine lv_topi (fun x6 ex6 => ?_)
    have tx6 : x6.toInt = x0.toInt + 3 := (jadd ex6 rfl jz_3 (by omega) (by omega)).trans (by omega)
    refine va_sld hx hb hX hbl hbA hS (jin tx6 (by omega) (by omega)) dL_law_498 ?_
    exact by
     have g7 := jrg (rfl : (xs x6.toNatClampNeg).toInt = (xs x6.toNatClampNeg).toInt)
     refine jcallV (As := [.int (xs x2.toNatClampNeg), .int (xs x4.toNatClampNeg), .int (xs x6.toNatClampNeg)]) (rest := []) ⟨hx, hb, hml, hown, hts⟩ hK hP hA hS hZ (c_X11_rule l D cI cL ad zz hJ σ τ (xs x2.toNatClampNeg) ((xs x2.toNatClampNeg).toInt) rfl (xs x4.toNatClampNeg) ((xs x4.toNatClampNeg).toInt) rfl (xs x6.toNatClampNeg) ((xs x6.toNatClampNeg).toInt) rfl hI38) cw_RL_53 (jc_0 cI cL ad σ τ) rfl ⟨Nat.le_of_ble_eq_true rfl, Nat.le_of_ble_eq_true rfl⟩ rfl rfl rfl hl.1 rfl (Nat.le_of_ble_eq_true rfl) dL_law_499 ⟨Nat.le_of_ble_eq_true rfl, Nat.le_of_ble_eq_true rfl⟩ (fun r9 σ8 τ8 H locs h8 hP hS => ?_)
     obtain ⟨rfl, f10, f11, I12, h8⟩ := h8
     rcases h8 with h14 | h15 | h16
     · obtain ⟨q20, k17, k18, k19⟩ := h14
       have q20 := q20.symm
       subst q20
       refine lv_pop hx hb dL_law_502 rfl ?_
       refine lv_aload_n hx hb dL_law_503 rfl (lv_at hl 1 rfl) ?_
       refine lv_aload_n hx hb dL_law_504 rfl (lv_at hl 3 rfl) ?_
       refine lv_iload_n hx hb dL_law_505 rfl (lv_at hl 0 rfl) ?_
       refine lv_iconst (v := 1) hx hb dL_law_506 (of_decide_eq_true rfl) ?_
       refine lv_iadd hx hb dL_law_507 ?_
       refine jtopr ex2.symm ?_
       exact by
        refine va_sld hx hb hX hbl hbA hS (jin tx2 (by omega) (by omega)) dL_law_508 ?_
        refine lv_aload_n hx hb dL_law_509 rfl (lv_at hl 3 rfl) ?_
        refine lv_iload_n hx hb dL_law_510 rfl (lv_at hl 0 rfl) ?_
        refine lv_iconst (v := 2) hx hb dL_law_511 (of_decide_eq_true rfl) ?_
        refine lv_iadd hx hb dL_law_512 ?_
        refine jtopr ex4.symm ?_
        refine va_sld hx hb hX hbl hbA hS (jin tx4 (by omega) (by omega)) dL_law_513 ?_
        refine lv_aload_n hx hb dL_law_514 rfl (lv_at hl 3 rfl) ?_
        refine lv_iload_n hx hb dL_law_515 rfl (lv_at hl 0 rfl) ?_
        exact by
         refine lv_iconst (v := 3) hx hb dL_law_516 (of_decide_eq_true rfl) ?_
         refine lv_iadd hx hb dL_law_517 ?_
         refine jtopr ex6.symm ?_
         refine va_sld hx hb hX hbl hbA hS (jin tx6 (by omega) (by omega)) dL_law_518 ?_
         have I21 : jI106 σ8 := jI106_fr (congrFun (f10 55 (of_decide_eq_true rfl)) 32) (f10 70 (of_decide_eq_true rfl)) (f10 71 (of_decide_eq_true rfl)) (f10 72 (of_decide_eq_true rfl)) hI106
         have z22 : (σ8 55 32).toInt = (σ 55 32).toInt := (congrArg Int32.toInt (show σ8 55 32 = (σ 55 32) from (congrFun (f10 55 (of_decide_eq_true rfl)) 32)))
         refine jcallV (As := [.int (xs x2.toNatClampNeg), .int (xs x4.toNatClampNeg), .int (xs x6.toNatClampNeg)]) (rest := []) ⟨hx, hb, hml, hown, hts⟩ hK hP hA hS hZ (c_X12_rule l D cI cL ad zz hJ σ8 τ (xs x2.toNatClampNeg) ((xs x2.toNatClampNeg).toInt) rfl (xs x4.toNatClampNeg) ((xs x4.toNatClampNeg).toInt) rfl (xs x6.toNatClampNeg) ((xs x6.toNatClampNeg).toInt) rfl I21) cw_RL_56 (jc_55 cI cL ad σ8 τ) rfl ⟨Nat.le_of_ble_eq_true rfl, Nat.le_of_ble_eq_true rfl⟩ rfl rfl rfl hl.1 rfl (Nat.le_of_ble_eq_true rfl) dL_law_519 ⟨Nat.le_of_ble_eq_true rfl, Nat.le_of_ble_eq_true rfl⟩ (fun r24 σ23 τ23 H locs h23 hP hS => ?_)
         obtain ⟨rfl, f25, f26, I27, h23⟩ := h23
         rcases h23 with h29 | h30 | h31
         · exact by
            obtain ⟨q35, k32, k33, k34⟩ := h29
            have q35 := q35.symm
            subst q35
            refine lv_pop hx hb dL_law_522 rfl ?_
            refine lv_goto (tgt := 1357) hx hb dL_law_523 (of_decide_eq_true rfl) ?_
            obtain ⟨x36, ex36⟩ : ∃ y : Int32, y = x0 + 6 := ⟨_, rfl⟩
            have tx36 : x36.toInt = x0.toInt + 6 := (jadd ex36 rfl jz_6 (by omega) (by omega)).trans (by omega)
            refine lv_iinc (v := x36) (lv' := [(3, .int x36), (2, .ref (ad 55)), (1, .ref (ad 0)), (0, .ref b)]) hx hb dL_law_1357 hl (k := 0) rfl (by rw [ex36]; rfl) (of_decide_eq_true rfl) rfl (fun ls hl => ?_)
            refine lv_goto (tgt := 18) hx hb dL_law_1360 (of_decide_eq_true rfl) ?_
            exact by
             have I37 : jI2 σ23 := jI2_fr ((congrFun (f25 2 (of_decide_eq_true rfl)) 0).trans (congrFun (f10 2 (of_decide_eq_true rfl)) 0)) ((congrFun (f25 2 (of_decide_eq_true rfl)) 1).trans (congrFun (f10 2 (of_decide_eq_true rfl)) 1)) ((congrFun (f25 2 (of_decide_eq_true rfl)) 2).trans (congrFun (f10 2 (of_decide_eq_true rfl)) 2)) ((congrFun (f25 2 (of_decide_eq_true rfl)) 3).trans (congrFun (f10 2 (of_decide_eq_true rfl)) 3)) ((f25 6 (of_decide_eq_true rfl)).trans (f10 6 (of_decide_eq_true rfl))) hI2
             have I38 : jI9 σ23 := jI9_fr ((congrFun (f25 9 (of_decide_eq_true rfl)) 0).trans (congrFun (f10 9 (of_decide_eq_true rfl)) 0)) ((f25 10 (of_decide_eq_true rfl)).trans (f10 10 (of_decide_eq_true rfl))) ((f25 11 (of_decide_eq_true rfl)).trans (f10 11 (of_decide_eq_true rfl))) hI9
             have I39 : jI12 σ23 := jI12_fr ((congrFun (f25 12 (of_decide_eq_true rfl)) 0).trans (congrFun (f10 12 (of_decide_eq_true rfl)) 0)) ((f25 13 (of_decide_eq_true rfl)).trans (f10 13 (of_decide_eq_true rfl))) hI12
             have I40 : jI16 σ23 := jI16_fr ((congrFun (f25 16 (of_decide_eq_true rfl)) 0).trans (congrFun (f10 16 (of_decide_eq_true rfl)) 0)) ((congrFun (f25 16 (of_decide_eq_true rfl)) 1).trans (congrFun (f10 16 (of_decide_eq_true rfl)) 1)) ((congrFun (f25 16 (of_decide_eq_true rfl)) 2).trans (congrFun (f10 16 (of_decide_eq_true rfl)) 2)) ((f25 17 (of_decide_eq_true rfl)).trans (f10 17 (of_decide_eq_true rfl))) hI16
             have I41 : jI18 σ23 := jI18_fr ((congrFun (f25 18 (of_decide_eq_true rfl)) 0).trans (congrFun (f10 18 (of_decide_eq_true rfl)) 0)) ((f25 19 (of_decide_eq_true rfl)).trans (f10 19 (of_decide_eq_true rfl))) hI18
             have I42 : jI22 σ23 := jI22_fr ((congrFun (f25 22 (of_decide_eq_true rfl)) 0).trans (congrFun (f10 22 (of_decide_eq_true rfl)) 0)) ((f25 23 (of_decide_eq_true rfl)).trans (f10 23 (of_decide_eq_true rfl))) hI22
             have I43 : jI31 σ23 := jI31_fr ((congrFun (f25 31 (of_decide_eq_true rfl)) 8).trans (congrFun (f10 31 (of_decide_eq_true rfl)) 8)) ((f25 33 (of_decide_eq_true rfl)).trans (f10 33 (of_decide_eq_true rfl))) ((f25 36 (of_decide_eq_true rfl)).trans (f10 36 (of_decide_eq_true rfl))) hI31
             have I44 : jI38 σ23 := jI38_fr (congrFun (f25 38 (of_decide_eq_true rfl)) 0) (congrFun (f25 38 (of_decide_eq_true rfl)) 1) (f25 39 (of_decide_eq_true rfl)) I12
             have I45 : jI43 σ23 := jI43_fr ((congrFun (f25 43 (of_decide_eq_true rfl)) 8).trans (congrFun (f10 43 (of_decide_eq_true rfl)) 8)) hI43
             have I46 : jI47 σ23 := jI47_fr ((congrFun (f25 47 (of_decide_eq_true rfl)) 0).trans (congrFun (f10 47 (of_decide_eq_true rfl)) 0)) ((f25 48 (of_decide_eq_true rfl)).trans (f10 48 (of_decide_eq_true rfl))) ((f25 49 (of_decide_eq_true rfl)).trans (f10 49 (of_decide_eq_true rfl))) hI47
             have I47 : jI50 σ23 := jI50_fr ((f25 52 (of_decide_eq_true rfl)).trans (f10 52 (of_decide_eq_true rfl))) hI50
             have I48 : jI101 σ23 := jI101_fr ((f26 4 (of_decide_eq_true rfl)).trans (congrFun (f10 55 (of_decide_eq_true rfl)) 4)) ((f26 5 (of_decide_eq_true rfl)).trans (congrFun (f10 55 (of_decide_eq_true rfl)) 5)) ((f25 56 (of_decide_eq_true rfl)).trans (f10 56 (of_decide_eq_true rfl))) ((f25 57 (of_decide_eq_true rfl)).trans (f10 57 (of_decide_eq_true rfl))) ((f25 58 (of_decide_eq_true rfl)).trans (f10 58 (of_decide_eq_true rfl))) ((f25 59 (of_decide_eq_true rfl)).trans (f10 59 (of_decide_eq_true rfl))) hI101
             have I49 : jI102 σ23 := jI102_fr ((f26 6 (of_decide_eq_true rfl)).trans (congrFun (f10 55 (of_decide_eq_true rfl)) 6)) ((f25 60 (of_decide_eq_true rfl)).trans (f10 60 (of_decide_eq_true rfl))) ((f25 61 (of_decide_eq_true rfl)).trans (f10 61 (of_decide_eq_true rfl))) hI102
             have I50 : jI103 σ23 := jI103_fr ((f26 9 (of_decide_eq_true rfl)).trans (congrFun (f10 55 (of_decide_eq_true rfl)) 9)) hI103
             have I51 : jI104 σ23 := jI104_fr ((f26 10 (of_decide_eq_true rfl)).trans (congrFun (f10 55 (of_decide_eq_true rfl)) 10)) ((f26 12 (of_decide_eq_true rfl)).trans (congrFun (f10 55 (of_decide_eq_true rfl)) 12)) ((f26 13 (of_decide_eq_true rfl)).trans (congrFun (f10 55 (of_decide_eq_true rfl)) 13)) ((f25 62 (of_decide_eq_true rfl)).trans (f10 62 (of_decide_eq_true rfl))) ((f25 67 (of_decide_eq_true rfl)).trans (f10 67 (of_decide_eq_true rfl))) hI104
             have I52 : jI105 σ23 := jI105_fr ((f26 15 (of_decide_eq_true rfl)).trans (congrFun (f10 55 (of_decide_eq_true rfl)) 15)) ((f25 65 (of_decide_eq_true rfl)).trans (f10 65 (of_decide_eq_true rfl))) hI105
             have I53 : jI107 σ23 := jI107_fr ((f26 12 (of_decide_eq_true rfl)).trans (congrFun (f10 55 (of_decide_eq_true rfl)) 12)) ((f26 47 (of_decide_eq_true rfl)).trans (congrFun (f10 55 (of_decide_eq_true rfl)) 47)) ((f25 80 (of_decide_eq_true rfl)).trans (f10 80 (of_decide_eq_true rfl))) hI107
             have I54 : jI109 σ23 := jI109_fr ((f26 50 (of_decide_eq_true rfl)).trans (congrFun (f10 55 (of_decide_eq_true rfl)) 50)) hI109
             have I55 : jI110 σ23 := jI110_fr ((f25 86 (of_decide_eq_true rfl)).trans (f10 86 (of_decide_eq_true rfl))) ((f25 87 (of_decide_eq_true rfl)).trans (f10 87 (of_decide_eq_true rfl))) hI110
             have I56 : jI111 σ23 := jI111_fr ((f25 79 (of_decide_eq_true rfl)).trans (f10 79 (of_decide_eq_true rfl))) hI111
             have I57 : jI119 σ23 := jI119_fr ((f25 68 (of_decide_eq_true rfl)).trans (f10 68 (of_decide_eq_true rfl))) hI119
             have p58 : jKept σ23 := jKept.fr ((f25 75 (of_decide_eq_true rfl)).trans (f10 75 (of_decide_eq_true rfl))) ((f25 76 (of_decide_eq_true rfl)).trans (f10 76 (of_decide_eq_true rfl))) ((f25 77 (of_decide_eq_true rfl)).trans (f10 77 (of_decide_eq_true rfl))) hs_jKept
             have p59 : jBook σ23 := jBook.fr ((f26 47 (of_decide_eq_true rfl)).trans (congrFun (f10 55 (of_decide_eq_true rfl)) 47)) ((f26 10 (of_decide_eq_true rfl)).trans (congrFun (f10 55 (of_decide_eq_true rfl)) 10)) ((f25 81 (of_decide_eq_true rfl)).trans (f10 81 (of_decide_eq_true rfl))) hs_jBook
             have z60 : (σ23 38 0).toInt = (σ8 38 0).toInt := (congrArg Int32.toInt (show σ23 38 0 = (σ8 38 0) from (congrFun (f25 38 (of_decide_eq_true rfl)) 0)))
             exact by exact ih x36 σ23 τ _ _ ls (by have h9 := tx36; omega) ⟨I37, I38, I39, I40, I41, I42, I43, I44, I45, I46, I47, I48, I49, I50, I51, I52, I27, I53, I54, I55, I56, I57, p58, p59, (by omega)⟩ hP hS (lv_sub hl [0, 1, 2, 3] rfl)
         · obtain ⟨q65, k61, k62, k63, k64⟩ := h30
           have q65 := q65.symm
           subst q65
           exact absurd k63 k18
         · obtain ⟨q71, k66, k67, k68, k69, k70⟩ := h31
           exact absurd k69 k18
     · obtain ⟨q76, k72, k73, k74, k75⟩ := h15
       have q76 := q76.symm
       subst q76
       refine lv_pop hx hb dL_law_502 rfl ?_
       refine lv_aload_n hx hb dL_law_503 rfl (lv_at hl 1 rfl) ?_
       refine lv_aload_n hx hb dL_law_504 rfl (lv_at hl 3 rfl) ?_
       refine lv_iload_n hx hb dL_law_505 rfl (lv_at hl 0 rfl) ?_
       refine lv_iconst (v := 1) hx hb dL_law_506 (of_decide_eq_true rfl) ?_
       refine lv_iadd hx hb dL_law_507 ?_
       refine jtopr ex2.symm ?_
       exact by
        refine va_sld hx hb hX hbl hbA hS (jin tx2 (by omega) (by omega)) dL_law_508 ?_
        refine lv_aload_n hx hb dL_law_509 rfl (lv_at hl 3 rfl) ?_
        refine lv_iload_n hx hb dL_law_510 rfl (lv_at hl 0 rfl) ?_
        refine lv_iconst (v := 2) hx hb dL_law_511 (of_decide_eq_true rfl) ?_
        refine lv_iadd hx hb dL_law_512 ?_
        refine jtopr ex4.symm ?_
        refine va_sld hx hb hX hbl hbA hS (jin tx4 (by omega) (by omega)) dL_law_513 ?_
        refine lv_aload_n hx hb dL_law_514 rfl (lv_at hl 3 rfl) ?_
        refine lv_iload_n hx hb dL_law_515 rfl (lv_at hl 0 rfl) ?_
        exact by
         refine lv_iconst (v := 3) hx hb dL_law_516 (of_decide_eq_true rfl) ?_
         refine lv_iadd hx hb dL_law_517 ?_
         refine jtopr ex6.symm ?_
         refine va_sld hx hb hX hbl hbA hS (jin tx6 (by omega) (by omega)) dL_law_518 ?_
         have I77 : jI106 σ8 := jI106_fr (congrFun (f10 55 (of_decide_eq_true rfl)) 32) (f10 70 (of_decide_eq_true rfl)) (f10 71 (of_decide_eq_true rfl)) (f10 72 (of_decide_eq_true rfl)) hI106
         have z78 : (σ8 55 32).toInt = (σ 55 32).toInt := (congrArg Int32.toInt (show σ8 55 32 = (σ 55 32) from (congrFun (f10 55 (of_decide_eq_true rfl)) 32)))
         refine jcallV (As := [.int (xs x2.toNatClampNeg), .int (xs x4.toNatClampNeg), .int (xs x6.toNatClampNeg)]) (rest := []) ⟨hx, hb, hml, hown, hts⟩ hK hP hA hS hZ (c_X12_rule l D cI cL ad zz hJ σ8 τ (xs x2.toNatClampNeg) ((xs x2.toNatClampNeg).toInt) rfl (xs x4.toNatClampNeg) ((xs x4.toNatClampNeg).toInt) rfl (xs x6.toNatClampNeg) ((xs x6.toNatClampNeg).toInt) rfl I77) cw_RL_56 (jc_55 cI cL ad σ8 τ) rfl ⟨Nat.le_of_ble_eq_true rfl, Nat.le_of_ble_eq_true rfl⟩ rfl rfl rfl hl.1 rfl (Nat.le_of_ble_eq_true rfl) dL_law_519 ⟨Nat.le_of_ble_eq_true rfl, Nat.le_of_ble_eq_true rfl⟩ (fun r80 σ79 τ79 H locs h79 hP hS => ?_)
         obtain ⟨rfl, f81, f82, I83, h79⟩ := h79
         rcases h79 with h85 | h86 | h87
         · exact by
            obtain ⟨q91, k88, k89, k90⟩ := h85
            have q91 := q91.symm
            subst q91
            exact absurd k74 k89
         · obtain ⟨q96, k92, k93, k94, k95⟩ := h86
           have q96 := q96.symm
           subst q96
           refine lv_pop hx hb dL_law_522 rfl ?_
           refine lv_goto (tgt := 1357) hx hb dL_law_523 (of_decide_eq_true rfl) ?_
           obtain ⟨x97, ex97⟩ : ∃ y : Int32, y = x0 + 6 := ⟨_, rfl⟩
           exact by
            have tx97 : x97.toInt = x0.toInt + 6 := (jadd ex97 rfl jz_6 (by omega) (by omega)).trans (by omega)
            refine lv_iinc (v := x97) (lv' := [(3, .int x97), (2, .ref (ad 55)), (1, .ref (ad 0)), (0, .ref b)]) hx hb dL_law_1357 hl (k := 0) rfl (by rw [ex97]; rfl) (of_decide_eq_true rfl) rfl (fun ls hl => ?_)
            refine lv_goto (tgt := 18) hx hb dL_law_1360 (of_decide_eq_true rfl) ?_
            have I98 : jI2 σ79 := jI2_fr ((congrFun (f81 2 (of_decide_eq_true rfl)) 0).trans (congrFun (f10 2 (of_decide_eq_true rfl)) 0)) ((congrFun (f81 2 (of_decide_eq_true rfl)) 1).trans (congrFun (f10 2 (of_decide_eq_true rfl)) 1)) ((congrFun (f81 2 (of_decide_eq_true rfl)) 2).trans (congrFun (f10 2 (of_decide_eq_true rfl)) 2)) ((congrFun (f81 2 (of_decide_eq_true rfl)) 3).trans (congrFun (f10 2 (of_decide_eq_true rfl)) 3)) ((f81 6 (of_decide_eq_true rfl)).trans (f10 6 (of_decide_eq_true rfl))) hI2
            have I99 : jI9 σ79 := jI9_fr ((congrFun (f81 9 (of_decide_eq_true rfl)) 0).trans (congrFun (f10 9 (of_decide_eq_true rfl)) 0)) ((f81 10 (of_decide_eq_true rfl)).trans (f10 10 (of_decide_eq_true rfl))) ((f81 11 (of_decide_eq_true rfl)).trans (f10 11 (of_decide_eq_true rfl))) hI9
            have I100 : jI12 σ79 := jI12_fr ((congrFun (f81 12 (of_decide_eq_true rfl)) 0).trans (congrFun (f10 12 (of_decide_eq_true rfl)) 0)) ((f81 13 (of_decide_eq_true rfl)).trans (f10 13 (of_decide_eq_true rfl))) hI12
            have I101 : jI16 σ79 := jI16_fr ((congrFun (f81 16 (of_decide_eq_true rfl)) 0).trans (congrFun (f10 16 (of_decide_eq_true rfl)) 0)) ((congrFun (f81 16 (of_decide_eq_true rfl)) 1).trans (congrFun (f10 16 (of_decide_eq_true rfl)) 1)) ((congrFun (f81 16 (of_decide_eq_true rfl)) 2).trans (congrFun (f10 16 (of_decide_eq_true rfl)) 2)) ((f81 17 (of_decide_eq_true rfl)).trans (f10 17 (of_decide_eq_true rfl))) hI16
            have I102 : jI18 σ79 := jI18_fr ((congrFun (f81 18 (of_decide_eq_true rfl)) 0).trans (congrFun (f10 18 (of_decide_eq_true rfl)) 0)) ((f81 19 (of_decide_eq_true rfl)).trans (f10 19 (of_decide_eq_true rfl))) hI18
            have I103 : jI22 σ79 := jI22_fr ((congrFun (f81 22 (of_decide_eq_true rfl)) 0).trans (congrFun (f10 22 (of_decide_eq_true rfl)) 0)) ((f81 23 (of_decide_eq_true rfl)).trans (f10 23 (of_decide_eq_true rfl))) hI22
            exact by
             have I104 : jI31 σ79 := jI31_fr ((congrFun (f81 31 (of_decide_eq_true rfl)) 8).trans (congrFun (f10 31 (of_decide_eq_true rfl)) 8)) ((f81 33 (of_decide_eq_true rfl)).trans (f10 33 (of_decide_eq_true rfl))) ((f81 36 (of_decide_eq_true rfl)).trans (f10 36 (of_decide_eq_true rfl))) hI31
             have I105 : jI38 σ79 := jI38_fr (congrFun (f81 38 (of_decide_eq_true rfl)) 0) (congrFun (f81 38 (of_decide_eq_true rfl)) 1) (f81 39 (of_decide_eq_true rfl)) I12
             have I106 : jI43 σ79 := jI43_fr ((congrFun (f81 43 (of_decide_eq_true rfl)) 8).trans (congrFun (f10 43 (of_decide_eq_true rfl)) 8)) hI43
             have I107 : jI47 σ79 := jI47_fr ((congrFun (f81 47 (of_decide_eq_true rfl)) 0).trans (congrFun (f10 47 (of_decide_eq_true rfl)) 0)) ((f81 48 (of_decide_eq_true rfl)).trans (f10 48 (of_decide_eq_true rfl))) ((f81 49 (of_decide_eq_true rfl)).trans (f10 49 (of_decide_eq_true rfl))) hI47
             have I108 : jI50 σ79 := jI50_fr ((f81 52 (of_decide_eq_true rfl)).trans (f10 52 (of_decide_eq_true rfl))) hI50
             have I109 : jI101 σ79 := jI101_fr ((f82 4 (of_decide_eq_true rfl)).trans (congrFun (f10 55 (of_decide_eq_true rfl)) 4)) ((f82 5 (of_decide_eq_true rfl)).trans (congrFun (f10 55 (of_decide_eq_true rfl)) 5)) ((f81 56 (of_decide_eq_true rfl)).trans (f10 56 (of_decide_eq_true rfl))) ((f81 57 (of_decide_eq_true rfl)).trans (f10 57 (of_decide_eq_true rfl))) ((f81 58 (of_decide_eq_true rfl)).trans (f10 58 (of_decide_eq_true rfl))) ((f81 59 (of_decide_eq_true rfl)).trans (f10 59 (of_decide_eq_true rfl))) hI101
             have I110 : jI102 σ79 := jI102_fr ((f82 6 (of_decide_eq_true rfl)).trans (congrFun (f10 55 (of_decide_eq_true rfl)) 6)) ((f81 60 (of_decide_eq_true rfl)).trans (f10 60 (of_decide_eq_true rfl))) ((f81 61 (of_decide_eq_true rfl)).trans (f10 61 (of_decide_eq_true rfl))) hI102
             have I111 : jI103 σ79 := jI103_fr ((f82 9 (of_decide_eq_true rfl)).trans (congrFun (f10 55 (of_decide_eq_true rfl)) 9)) hI103
             have I112 : jI104 σ79 := jI104_fr ((f82 10 (of_decide_eq_true rfl)).trans (congrFun (f10 55 (of_decide_eq_true rfl)) 10)) ((f82 12 (of_decide_eq_true rfl)).trans (congrFun (f10 55 (of_decide_eq_true rfl)) 12)) ((f82 13 (of_decide_eq_true rfl)).trans (congrFun (f10 55 (of_decide_eq_true rfl)) 13)) ((f81 62 (of_decide_eq_true rfl)).trans (f10 62 (of_decide_eq_true rfl))) ((f81 67 (of_decide_eq_true rfl)).trans (f10 67 (of_decide_eq_true rfl))) hI104
             have I113 : jI105 σ79 := jI105_fr ((f82 15 (of_decide_eq_true rfl)).trans (congrFun (f10 55 (of_decide_eq_true rfl)) 15)) ((f81 65 (of_decide_eq_true rfl)).trans (f10 65 (of_decide_eq_true rfl))) hI105
             have I114 : jI107 σ79 := jI107_fr ((f82 12 (of_decide_eq_true rfl)).trans (congrFun (f10 55 (of_decide_eq_true rfl)) 12)) ((f82 47 (of_decide_eq_true rfl)).trans (congrFun (f10 55 (of_decide_eq_true rfl)) 47)) ((f81 80 (of_decide_eq_true rfl)).trans (f10 80 (of_decide_eq_true rfl))) hI107
             have I115 : jI109 σ79 := jI109_fr ((f82 50 (of_decide_eq_true rfl)).trans (congrFun (f10 55 (of_decide_eq_true rfl)) 50)) hI109
             have I116 : jI110 σ79 := jI110_fr ((f81 86 (of_decide_eq_true rfl)).trans (f10 86 (of_decide_eq_true rfl))) ((f81 87 (of_decide_eq_true rfl)).trans (f10 87 (of_decide_eq_true rfl))) hI110
             have I117 : jI111 σ79 := jI111_fr ((f81 79 (of_decide_eq_true rfl)).trans (f10 79 (of_decide_eq_true rfl))) hI111
             have I118 : jI119 σ79 := jI119_fr ((f81 68 (of_decide_eq_true rfl)).trans (f10 68 (of_decide_eq_true rfl))) hI119
             have p119 : jKept σ79 := jKept.fr ((f81 75 (of_decide_eq_true rfl)).trans (f10 75 (of_decide_eq_true rfl))) ((f81 76 (of_decide_eq_true rfl)).trans (f10 76 (of_decide_eq_true rfl))) ((f81 77 (of_decide_eq_true rfl)).trans (f10 77 (of_decide_eq_true rfl))) hs_jKept
             have p120 : jBook σ79 := jBook.fr ((f82 47 (of_decide_eq_true rfl)).trans (congrFun (f10 55 (of_decide_eq_true rfl)) 47)) ((f82 10 (of_decide_eq_true rfl)).trans (congrFun (f10 55 (of_decide_eq_true rfl)) 10)) ((f81 81 (of_decide_eq_true rfl)).trans (f10 81 (of_decide_eq_true rfl))) hs_jBook
             have z121 : (σ79 38 0).toInt = (σ8 38 0).toInt := (congrArg Int32.toInt (show σ79 38 0 = (σ8 38 0) from (congrFun (f81 38 (of_decide_eq_true rfl)) 0)))
             exact by exact ih x97 σ79 τ _ _ ls (by have h9 := tx97; omega) ⟨I98, I99, I100, I101, I102, I103, I104, I105, I106, I107, I108, I109, I110, I111, I112, I113, I83, I114, I115, I116, I117, I118, p119, p120, (by omega)⟩ hP hS (lv_sub hl [0, 1, 2, 3] rfl)
         · obtain ⟨q127, k122, k123, k124, k125, k126⟩ := h87
           exact absurd (by omega : False) id
     · obtain ⟨q133, k128, k129, k130, k131, k132⟩ := h16
       refine lv_pop hx hb dL_law_502 rfl ?_
       refine lv_aload_n hx hb dL_law_503 rfl (lv_at hl 1 rfl) ?_
       refine lv_aload_n hx hb dL_law_504 rfl (lv_at hl 3 rfl) ?_
       refine lv_iload_n hx hb dL_law_505 rfl (lv_at hl 0 rfl) ?_
       refine lv_iconst (v := 1) hx hb dL_law_506 (of_decide_eq_true rfl) ?_
       refine lv_iadd hx hb dL_law_507 ?_
       refine jtopr ex2.symm ?_
       exact by
        refine va_sld hx hb hX hbl hbA hS (jin tx2 (by omega) (by omega)) dL_law_508 ?_
        refine lv_aload_n hx hb dL_law_509 rfl (lv_at hl 3 rfl) ?_
        refine lv_iload_n hx hb dL_law_510 rfl (lv_at hl 0 rfl) ?_
        refine lv_iconst (v := 2) hx hb dL_law_511 (of_decide_eq_true rfl) ?_
        refine lv_iadd hx hb dL_law_512 ?_
        refine jtopr ex4.symm ?_
        refine va_sld hx hb hX hbl hbA hS (jin tx4 (by omega) (by omega)) dL_law_513 ?_
        refine lv_aload_n hx hb dL_law_514 rfl (lv_at hl 3 rfl) ?_
        refine lv_iload_n hx hb dL_law_515 rfl (lv_at hl 0 rfl) ?_
        exact by
         refine lv_iconst (v := 3) hx hb dL_law_516 (of_decide_eq_true rfl) ?_
         refine lv_iadd hx hb dL_law_517 ?_
         refine jtopr ex6.symm ?_
         refine va_sld hx hb hX hbl hbA hS (jin tx6 (by omega) (by omega)) dL_law_518 ?_
         have I134 : jI106 σ8 := jI106_fr (congrFun (f10 55 (of_decide_eq_true rfl)) 32) (f10 70 (of_decide_eq_true rfl)) (f10 71 (of_decide_eq_true rfl)) (f10 72 (of_decide_eq_true rfl)) hI106
         have z135 : (σ8 55 32).toInt = (σ 55 32).toInt := (congrArg Int32.toInt (show σ8 55 32 = (σ 55 32) from (congrFun (f10 55 (of_decide_eq_true rfl)) 32)))
         refine jcallV (As := [.int (xs x2.toNatClampNeg), .int (xs x4.toNatClampNeg), .int (xs x6.toNatClampNeg)]) (rest := []) ⟨hx, hb, hml, hown, hts⟩ hK hP hA hS hZ (c_X12_rule l D cI cL ad zz hJ σ8 τ (xs x2.toNatClampNeg) ((xs x2.toNatClampNeg).toInt) rfl (xs x4.toNatClampNeg) ((xs x4.toNatClampNeg).toInt) rfl (xs x6.toNatClampNeg) ((xs x6.toNatClampNeg).toInt) rfl I134) cw_RL_56 (jc_55 cI cL ad σ8 τ) rfl ⟨Nat.le_of_ble_eq_true rfl, Nat.le_of_ble_eq_true rfl⟩ rfl rfl rfl hl.1 rfl (Nat.le_of_ble_eq_true rfl) dL_law_519 ⟨Nat.le_of_ble_eq_true rfl, Nat.le_of_ble_eq_true rfl⟩ (fun r137 σ136 τ136 H locs h136 hP hS => ?_)
         obtain ⟨rfl, f138, f139, I140, h136⟩ := h136
         rcases h136 with h142 | h143 | h144
         · exact by
            obtain ⟨q148, k145, k146, k147⟩ := h142
            have q148 := q148.symm
            subst q148
            exact absurd k131 k146
         · obtain ⟨q153, k149, k150, k151, k152⟩ := h143
           exact absurd (by omega : False) id
         · obtain ⟨q159, k154, k155, k156, k157, k158⟩ := h144
           refine lv_pop hx hb dL_law_522 rfl ?_
           refine lv_goto (tgt := 1357) hx hb dL_law_523 (of_decide_eq_true rfl) ?_
           obtain ⟨x160, ex160⟩ : ∃ y : Int32, y = x0 + 6 := ⟨_, rfl⟩
           exact by
            have tx160 : x160.toInt = x0.toInt + 6 := (jadd ex160 rfl jz_6 (by omega) (by omega)).trans (by omega)
            refine lv_iinc (v := x160) (lv' := [(3, .int x160), (2, .ref (ad 55)), (1, .ref (ad 0)), (0, .ref b)]) hx hb dL_law_1357 hl (k := 0) rfl (by rw [ex160]; rfl) (of_decide_eq_true rfl) rfl (fun ls hl => ?_)
            refine lv_goto (tgt := 18) hx hb dL_law_1360 (of_decide_eq_true rfl) ?_
            have I161 : jI2 σ136 := jI2_fr ((congrFun (f138 2 (of_decide_eq_true rfl)) 0).trans (congrFun (f10 2 (of_decide_eq_true rfl)) 0)) ((congrFun (f138 2 (of_decide_eq_true rfl)) 1).trans (congrFun (f10 2 (of_decide_eq_true rfl)) 1)) ((congrFun (f138 2 (of_decide_eq_true rfl)) 2).trans (congrFun (f10 2 (of_decide_eq_true rfl)) 2)) ((congrFun (f138 2 (of_decide_eq_true rfl)) 3).trans (congrFun (f10 2 (of_decide_eq_true rfl)) 3)) ((f138 6 (of_decide_eq_true rfl)).trans (f10 6 (of_decide_eq_true rfl))) hI2
            have I162 : jI9 σ136 := jI9_fr ((congrFun (f138 9 (of_decide_eq_true rfl)) 0).trans (congrFun (f10 9 (of_decide_eq_true rfl)) 0)) ((f138 10 (of_decide_eq_true rfl)).trans (f10 10 (of_decide_eq_true rfl))) ((f138 11 (of_decide_eq_true rfl)).trans (f10 11 (of_decide_eq_true rfl))) hI9
            have I163 : jI12 σ136 := jI12_fr ((congrFun (f138 12 (of_decide_eq_true rfl)) 0).trans (congrFun (f10 12 (of_decide_eq_true rfl)) 0)) ((f138 13 (of_decide_eq_true rfl)).trans (f10 13 (of_decide_eq_true rfl))) hI12
            have I164 : jI16 σ136 := jI16_fr ((congrFun (f138 16 (of_decide_eq_true rfl)) 0).trans (congrFun (f10 16 (of_decide_eq_true rfl)) 0)) ((congrFun (f138 16 (of_decide_eq_true rfl)) 1).trans (congrFun (f10 16 (of_decide_eq_true rfl)) 1)) ((congrFun (f138 16 (of_decide_eq_true rfl)) 2).trans (congrFun (f10 16 (of_decide_eq_true rfl)) 2)) ((f138 17 (of_decide_eq_true rfl)).trans (f10 17 (of_decide_eq_true rfl))) hI16
            have I165 : jI18 σ136 := jI18_fr ((congrFun (f138 18 (of_decide_eq_true rfl)) 0).trans (congrFun (f10 18 (of_decide_eq_true rfl)) 0)) ((f138 19 (of_decide_eq_true rfl)).trans (f10 19 (of_decide_eq_true rfl))) hI18
            have I166 : jI22 σ136 := jI22_fr ((congrFun (f138 22 (of_decide_eq_true rfl)) 0).trans (congrFun (f10 22 (of_decide_eq_true rfl)) 0)) ((f138 23 (of_decide_eq_true rfl)).trans (f10 23 (of_decide_eq_true rfl))) hI22
            exact by
             have I167 : jI31 σ136 := jI31_fr ((congrFun (f138 31 (of_decide_eq_true rfl)) 8).trans (congrFun (f10 31 (of_decide_eq_true rfl)) 8)) ((f138 33 (of_decide_eq_true rfl)).trans (f10 33 (of_decide_eq_true rfl))) ((f138 36 (of_decide_eq_true rfl)).trans (f10 36 (of_decide_eq_true rfl))) hI31
             have I168 : jI38 σ136 := jI38_fr (congrFun (f138 38 (of_decide_eq_true rfl)) 0) (congrFun (f138 38 (of_decide_eq_true rfl)) 1) (f138 39 (of_decide_eq_true rfl)) I12
             have I169 : jI43 σ136 := jI43_fr ((congrFun (f138 43 (of_decide_eq_true rfl)) 8).trans (congrFun (f10 43 (of_decide_eq_true rfl)) 8)) hI43
             have I170 : jI47 σ136 := jI47_fr ((congrFun (f138 47 (of_decide_eq_true rfl)) 0).trans (congrFun (f10 47 (of_decide_eq_true rfl)) 0)) ((f138 48 (of_decide_eq_true rfl)).trans (f10 48 (of_decide_eq_true rfl))) ((f138 49 (of_decide_eq_true rfl)).trans (f10 49 (of_decide_eq_true rfl))) hI47
             have I171 : jI50 σ136 := jI50_fr ((f138 52 (of_decide_eq_true rfl)).trans (f10 52 (of_decide_eq_true rfl))) hI50
             have I172 : jI101 σ136 := jI101_fr ((f139 4 (of_decide_eq_true rfl)).trans (congrFun (f10 55 (of_decide_eq_true rfl)) 4)) ((f139 5 (of_decide_eq_true rfl)).trans (congrFun (f10 55 (of_decide_eq_true rfl)) 5)) ((f138 56 (of_decide_eq_true rfl)).trans (f10 56 (of_decide_eq_true rfl))) ((f138 57 (of_decide_eq_true rfl)).trans (f10 57 (of_decide_eq_true rfl))) ((f138 58 (of_decide_eq_true rfl)).trans (f10 58 (of_decide_eq_true rfl))) ((f138 59 (of_decide_eq_true rfl)).trans (f10 59 (of_decide_eq_true rfl))) hI101
             have I173 : jI102 σ136 := jI102_fr ((f139 6 (of_decide_eq_true rfl)).trans (congrFun (f10 55 (of_decide_eq_true rfl)) 6)) ((f138 60 (of_decide_eq_true rfl)).trans (f10 60 (of_decide_eq_true rfl))) ((f138 61 (of_decide_eq_true rfl)).trans (f10 61 (of_decide_eq_true rfl))) hI102
             have I174 : jI103 σ136 := jI103_fr ((f139 9 (of_decide_eq_true rfl)).trans (congrFun (f10 55 (of_decide_eq_true rfl)) 9)) hI103
             have I175 : jI104 σ136 := jI104_fr ((f139 10 (of_decide_eq_true rfl)).trans (congrFun (f10 55 (of_decide_eq_true rfl)) 10)) ((f139 12 (of_decide_eq_true rfl)).trans (congrFun (f10 55 (of_decide_eq_true rfl)) 12)) ((f139 13 (of_decide_eq_true rfl)).trans (congrFun (f10 55 (of_decide_eq_true rfl)) 13)) ((f138 62 (of_decide_eq_true rfl)).trans (f10 62 (of_decide_eq_true rfl))) ((f138 67 (of_decide_eq_true rfl)).trans (f10 67 (of_decide_eq_true rfl))) hI104
             have I176 : jI105 σ136 := jI105_fr ((f139 15 (of_decide_eq_true rfl)).trans (congrFun (f10 55 (of_decide_eq_true rfl)) 15)) ((f138 65 (of_decide_eq_true rfl)).trans (f10 65 (of_decide_eq_true rfl))) hI105
             have I177 : jI107 σ136 := jI107_fr ((f139 12 (of_decide_eq_true rfl)).trans (congrFun (f10 55 (of_decide_eq_true rfl)) 12)) ((f139 47 (of_decide_eq_true rfl)).trans (congrFun (f10 55 (of_decide_eq_true rfl)) 47)) ((f138 80 (of_decide_eq_true rfl)).trans (f10 80 (of_decide_eq_true rfl))) hI107
             have I178 : jI109 σ136 := jI109_fr ((f139 50 (of_decide_eq_true rfl)).trans (congrFun (f10 55 (of_decide_eq_true rfl)) 50)) hI109
             have I179 : jI110 σ136 := jI110_fr ((f138 86 (of_decide_eq_true rfl)).trans (f10 86 (of_decide_eq_true rfl))) ((f138 87 (of_decide_eq_true rfl)).trans (f10 87 (of_decide_eq_true rfl))) hI110
             have I180 : jI111 σ136 := jI111_fr ((f138 79 (of_decide_eq_true rfl)).trans (f10 79 (of_decide_eq_true rfl))) hI111
             have I181 : jI119 σ136 := jI119_fr ((f138 68 (of_decide_eq_true rfl)).trans (f10 68 (of_decide_eq_true rfl))) hI119
             have p182 : jKept σ136 := jKept.fr ((f138 75 (of_decide_eq_true rfl)).trans (f10 75 (of_decide_eq_true rfl))) ((f138 76 (of_decide_eq_true rfl)).trans (f10 76 (of_decide_eq_true rfl))) ((f138 77 (of_decide_eq_true rfl)).trans (f10 77 (of_decide_eq_true rfl))) hs_jKept
             have p183 : jBook σ136 := jBook.fr ((f139 47 (of_decide_eq_true rfl)).trans (congrFun (f10 55 (of_decide_eq_true rfl)) 47)) ((f139 10 (of_decide_eq_true rfl)).trans (congrFun (f10 55 (of_decide_eq_true rfl)) 10)) ((f138 81 (of_decide_eq_true rfl)).trans (f10 81 (of_decide_eq_true rfl))) hs_jBook
             have z184 : (σ136 38 0).toInt = (σ8 38 0).toInt := (congrArg Int32.toInt (show σ136 38 0 = (σ8 38 0) from (congrFun (f138 38 (of_decide_eq_true rfl)) 0)))
             exact by exact ih x160 σ136 τ _ _ ls (by have h9 := tx160; omega) ⟨I161, I162, I163, I164, I165, I166, I167, I168, I169, I170, I171, I172, I173, I174, I175, I176, I140, I177, I178, I179, I180, I181, p182, p183, (by omega)⟩ hP hS (lv_sub hl [0, 1, 2, 3] rfl)
set_option maxHeartbeats 4000000 in
set_option maxRecDepth 100000 in
theorem law_case_10 {p : Program} {e : Env} {s : State} {m : MethodId} {below : List Frame} {meth : Method} {c : Code} (l : Launch) {b L : Nat} {xs : Nat → Int32} {D : va_G} {cI cL : ClassId} {ad zz : Nat → Nat} (C0 : lw_At p s m meth c b L xs) (hJ : jD ad) (hA : ∀ q, jA ad q → s.heap.size ≤ q) (hK : jK D cI cL s) (hZ : jZ zz (fun q : Nat => s.heap.size ≤ q) s s.heap) {x0 : Int32} (hx0 : 0 ≤ x0.toInt) (hxL : x0.toInt + 6 ≤ (L : Int)) (hL : L ≤ 384) {σ : Nat → Nat → Int32} {τ : Nat → Nat → Int64} {H : Heap} {locs : List Loc} (hS : va_S (fun q : Nat => s.heap.size ≤ q) s.heap H locs) {ls : Array Slot} (hAll : jAll σ τ) (hP : jH D cI cL ad σ τ H) (hl : lv_has ls 4 [(3, .int x0), (2, .ref (ad 55)), (1, .ref (ad 0)), (0, .ref b)]) (ih : ∀ (x1 : Int32) (σ : Nat → Nat → Int32) (τ : Nat → Nat → Int64) (H : Heap) (locs : List Loc) (ls : Array Slot), x1.toInt = x0.toInt + 6 → jAll σ τ → jH D cI cL ad σ τ H → va_S (fun q : Nat => s.heap.size ≤ q) s.heap H locs → lv_has ls 4 [(3, .int x1), (2, .ref (ad 55)), (1, .ref (ad 0)), (0, .ref b)] → W p l e room_1 s m #[Value.ref b] below meth c H locs 90 348600 (lw_Z below #[Value.ref b] s) (F0 m 18 ls [])) : W p l e room_1 s m #[Value.ref b] below meth c H locs 90 348600 (lw_Z below #[Value.ref b] s) (F0 m 526 ls []) := by
  obtain ⟨hx, hb, hr, hml, hown, hts0, hX, hbl, hlocks, hgv⟩ := C0
  have hts : ∀ w ∈ wsL_law, w.before #[Value.ref b] s = true := fun w h => hts0 w (wsL_law_in w h)
  have hbA : ¬ (fun q : Nat => s.heap.size ≤ q) b := Nat.not_le.mpr hbl
  have hown : s.vm.findClass RL = some m.cls := hown
  obtain ⟨hI2, hI9, hI12, hI16, hI18, hI22, hI31, hI38, hI43, hI47, hI50, hI101, hI102, hI103, hI104, hI105, hI106, hI107, hI109, hI110, hI111, hI119, hs_jKept, hs_jBook, ht0⟩ := hAll
  have hL9 : (L : Int) ≤ 384 := by omega
  refine lv_aload_n hx hb dL_law_526 rfl (lv_at hl 2 rfl) ?_
  refine lv_aload_n hx hb dL_law_527 rfl (lv_at hl 3 rfl) ?_
  refine lv_iload_n hx hb dL_law_528 rfl (lv_at hl 0 rfl) ?_
  refine lv_iconst (v := 1) hx hb dL_law_529 (of_decide_eq_true rfl) ?_
  have g1 := jrg (rfl : x0.toInt = x0.toInt)
  refine lv_iadd hx hb dL_law_530 ?_
  refine lv_topi (fun x2 ex2 => ?_)
  exact by
   have tx2 : x2.toInt = x0.toInt + 1 := (jadd ex2 rfl jz_1 (by omega) (by omega)).trans (by omega)
   refine va_sld hx hb hX hbl hbA hS (jin tx2 (by omega) (by omega)) dL_law_531 ?_
   have g3 := jrg (rfl : (xs x2.toNatClampNeg).toInt = (xs x2.toNatClampNeg).toInt)
   refine jcallV (As := [.int (xs x2.toNatClampNeg)]) (rest := []) ⟨hx, hb, hml, hown, hts⟩ hK hP hA hS hZ (c_X11_puts l D cI cL ad zz hJ σ τ (xs x2.toNatClampNeg) ((xs x2.toNatClampNeg).toInt) rfl hI2 hI16 hI18 hI22 hI31 hI38 hI47) cw_RL_57 (jc_0 cI cL ad σ τ) rfl ⟨Nat.le_of_ble_eq_true rfl, Nat.le_of_ble_eq_true rfl⟩ rfl rfl rfl hl.1 rfl (Nat.le_of_ble_eq_true rfl) dL_law_532 ⟨Nat.le_of_ble_eq_true rfl, Nat.le_of_ble_eq_true rfl⟩ (fun r5 σ4 τ4 H locs h4 hP hS => ?_)
   obtain ⟨rfl, f6, f7, I8, h4⟩ := h4
   refine lv_pop hx hb dL_law_535 rfl ?_
   refine lv_aload_n hx hb dL_law_536 rfl (lv_at hl 1 rfl) ?_
   refine lv_aload_n hx hb dL_law_537 rfl (lv_at hl 3 rfl) ?_
   refine lv_iload_n hx hb dL_law_538 rfl (lv_at hl 0 rfl) ?_
   exact by
    refine lv_iconst (v := 1) hx hb dL_law_539 (of_decide_eq_true rfl) ?_
    refine lv_iadd hx hb dL_law_540 ?_
    refine jtopr ex2.symm ?_
    refine va_sld hx hb hX hbl hbA hS (jin tx2 (by omega) (by omega)) dL_law_541 ?_
    have I10 : jI101 σ4 := jI101_fr (congrFun (f6 55 (of_decide_eq_true rfl)) 4) (congrFun (f6 55 (of_decide_eq_true rfl)) 5) (f6 56 (of_decide_eq_true rfl)) (f6 57 (of_decide_eq_true rfl)) (f6 58 (of_decide_eq_true rfl)) (f6 59 (of_decide_eq_true rfl)) hI101
    have I11 : jI102 σ4 := jI102_fr (congrFun (f6 55 (of_decide_eq_true rfl)) 6) (f6 60 (of_decide_eq_true rfl)) (f6 61 (of_decide_eq_true rfl)) hI102
    have I12 : jI103 σ4 := jI103_fr (congrFun (f6 55 (of_decide_eq_true rfl)) 9) hI103
    have I13 : jI104 σ4 := jI104_fr (congrFun (f6 55 (of_decide_eq_true rfl)) 10) (congrFun (f6 55 (of_decide_eq_true rfl)) 12) (congrFun (f6 55 (of_decide_eq_true rfl)) 13) (f6 62 (of_decide_eq_true rfl)) (f6 67 (of_decide_eq_true rfl)) hI104
    have I14 : jI105 σ4 := jI105_fr (congrFun (f6 55 (of_decide_eq_true rfl)) 15) (f6 65 (of_decide_eq_true rfl)) hI105
    exact by
     have I15 : jI106 σ4 := jI106_fr (congrFun (f6 55 (of_decide_eq_true rfl)) 32) (f6 70 (of_decide_eq_true rfl)) (f6 71 (of_decide_eq_true rfl)) (f6 72 (of_decide_eq_true rfl)) hI106
     have I16 : jI107 σ4 := jI107_fr (congrFun (f6 55 (of_decide_eq_true rfl)) 12) (congrFun (f6 55 (of_decide_eq_true rfl)) 47) (f6 80 (of_decide_eq_true rfl)) hI107
     have I17 : jI119 σ4 := jI119_fr (f6 68 (of_decide_eq_true rfl)) hI119
     have p18 : jKept σ4 := jKept.fr (f6 75 (of_decide_eq_true rfl)) (f6 76 (of_decide_eq_true rfl)) (f6 77 (of_decide_eq_true rfl)) hs_jKept
     have p19 : jBook σ4 := jBook.fr (congrFun (f6 55 (of_decide_eq_true rfl)) 47) (congrFun (f6 55 (of_decide_eq_true rfl)) 10) (f6 81 (of_decide_eq_true rfl)) hs_jBook
     refine jcallV (As := [.int (xs x2.toNatClampNeg)]) (rest := []) ⟨hx, hb, hml, hown, hts⟩ hK hP hA hS hZ (c_X12_puts l D cI cL ad zz hJ σ4 τ (xs x2.toNatClampNeg) ((xs x2.toNatClampNeg).toInt) rfl I10 I11 I12 I13 I14 I15 I16 I17 p18 p19) cw_RL_60 (jc_55 cI cL ad σ4 τ) rfl ⟨Nat.le_of_ble_eq_true rfl, Nat.le_of_ble_eq_true rfl⟩ rfl rfl rfl hl.1 rfl (Nat.le_of_ble_eq_true rfl) dL_law_542 ⟨Nat.le_of_ble_eq_true rfl, Nat.le_of_ble_eq_true rfl⟩ (fun r21 σ20 τ20 H locs h20 hP hS => ?_)
     obtain ⟨rfl, f22, f23, I24, p25, p26, h20⟩ := h20
     refine lv_pop hx hb dL_law_545 rfl ?_
     refine lv_goto (tgt := 1357) hx hb dL_law_546 (of_decide_eq_true rfl) ?_
     obtain ⟨x28, ex28⟩ : ∃ y : Int32, y = x0 + 6 := ⟨_, rfl⟩
     exact by
      have tx28 : x28.toInt = x0.toInt + 6 := (jadd ex28 rfl jz_6 (by omega) (by omega)).trans (by omega)
      refine lv_iinc (v := x28) (lv' := [(3, .int x28), (2, .ref (ad 55)), (1, .ref (ad 0)), (0, .ref b)]) hx hb dL_law_1357 hl (k := 0) rfl (by rw [ex28]; rfl) (of_decide_eq_true rfl) rfl (fun ls hl => ?_)
      refine lv_goto (tgt := 18) hx hb dL_law_1360 (of_decide_eq_true rfl) ?_
      have I29 : jI2 σ20 := jI2_fr ((congrFun (f22 2 (of_decide_eq_true rfl)) 0).trans (congrFun (f6 2 (of_decide_eq_true rfl)) 0)) ((congrFun (f22 2 (of_decide_eq_true rfl)) 1).trans (congrFun (f6 2 (of_decide_eq_true rfl)) 1)) ((congrFun (f22 2 (of_decide_eq_true rfl)) 2).trans (congrFun (f6 2 (of_decide_eq_true rfl)) 2)) ((congrFun (f22 2 (of_decide_eq_true rfl)) 3).trans (congrFun (f6 2 (of_decide_eq_true rfl)) 3)) ((f22 6 (of_decide_eq_true rfl)).trans (f6 6 (of_decide_eq_true rfl))) hI2
      have I30 : jI9 σ20 := jI9_fr ((congrFun (f22 9 (of_decide_eq_true rfl)) 0).trans (congrFun (f6 9 (of_decide_eq_true rfl)) 0)) ((f22 10 (of_decide_eq_true rfl)).trans (f6 10 (of_decide_eq_true rfl))) ((f22 11 (of_decide_eq_true rfl)).trans (f6 11 (of_decide_eq_true rfl))) hI9
      have I31 : jI12 σ20 := jI12_fr ((congrFun (f22 12 (of_decide_eq_true rfl)) 0).trans (congrFun (f6 12 (of_decide_eq_true rfl)) 0)) ((f22 13 (of_decide_eq_true rfl)).trans (f6 13 (of_decide_eq_true rfl))) hI12
      have I32 : jI16 σ20 := jI16_fr ((congrFun (f22 16 (of_decide_eq_true rfl)) 0).trans (congrFun (f6 16 (of_decide_eq_true rfl)) 0)) ((congrFun (f22 16 (of_decide_eq_true rfl)) 1).trans (congrFun (f6 16 (of_decide_eq_true rfl)) 1)) ((congrFun (f22 16 (of_decide_eq_true rfl)) 2).trans (congrFun (f6 16 (of_decide_eq_true rfl)) 2)) ((f22 17 (of_decide_eq_true rfl)).trans (f6 17 (of_decide_eq_true rfl))) hI16
      have I33 : jI18 σ20 := jI18_fr ((congrFun (f22 18 (of_decide_eq_true rfl)) 0).trans (congrFun (f6 18 (of_decide_eq_true rfl)) 0)) ((f22 19 (of_decide_eq_true rfl)).trans (f6 19 (of_decide_eq_true rfl))) hI18
      have I34 : jI22 σ20 := jI22_fr ((congrFun (f22 22 (of_decide_eq_true rfl)) 0).trans (congrFun (f6 22 (of_decide_eq_true rfl)) 0)) ((f22 23 (of_decide_eq_true rfl)).trans (f6 23 (of_decide_eq_true rfl))) hI22
      exact by
       have I35 : jI31 σ20 := jI31_fr (congrFun (f22 31 (of_decide_eq_true rfl)) 8) (f22 33 (of_decide_eq_true rfl)) (f22 36 (of_decide_eq_true rfl)) I8
       have I36 : jI38 σ20 := jI38_fr ((congrFun (f22 38 (of_decide_eq_true rfl)) 0).trans (congrFun (f6 38 (of_decide_eq_true rfl)) 0)) ((congrFun (f22 38 (of_decide_eq_true rfl)) 1).trans (congrFun (f6 38 (of_decide_eq_true rfl)) 1)) ((f22 39 (of_decide_eq_true rfl)).trans (f6 39 (of_decide_eq_true rfl))) hI38
       have I37 : jI43 σ20 := jI43_fr ((congrFun (f22 43 (of_decide_eq_true rfl)) 8).trans (congrFun (f6 43 (of_decide_eq_true rfl)) 8)) hI43
       have I38 : jI47 σ20 := jI47_fr ((congrFun (f22 47 (of_decide_eq_true rfl)) 0).trans (congrFun (f6 47 (of_decide_eq_true rfl)) 0)) ((f22 48 (of_decide_eq_true rfl)).trans (f6 48 (of_decide_eq_true rfl))) ((f22 49 (of_decide_eq_true rfl)).trans (f6 49 (of_decide_eq_true rfl))) hI47
       have I39 : jI50 σ20 := jI50_fr ((f22 52 (of_decide_eq_true rfl)).trans (f6 52 (of_decide_eq_true rfl))) hI50
       have I40 : jI101 σ20 := jI101_fr (f23 4 (of_decide_eq_true rfl)) (f23 5 (of_decide_eq_true rfl)) (f22 56 (of_decide_eq_true rfl)) (f22 57 (of_decide_eq_true rfl)) (f22 58 (of_decide_eq_true rfl)) (f22 59 (of_decide_eq_true rfl)) I10
       have I41 : jI102 σ20 := jI102_fr (f23 6 (of_decide_eq_true rfl)) (f22 60 (of_decide_eq_true rfl)) (f22 61 (of_decide_eq_true rfl)) I11
       have I42 : jI103 σ20 := jI103_fr (f23 9 (of_decide_eq_true rfl)) I12
       have I43 : jI104 σ20 := jI104_fr (f23 10 (of_decide_eq_true rfl)) (f23 12 (of_decide_eq_true rfl)) (f23 13 (of_decide_eq_true rfl)) (f22 62 (of_decide_eq_true rfl)) (f22 67 (of_decide_eq_true rfl)) I13
       have I44 : jI105 σ20 := jI105_fr (f23 15 (of_decide_eq_true rfl)) (f22 65 (of_decide_eq_true rfl)) I14
       have I45 : jI106 σ20 := jI106_fr (f23 32 (of_decide_eq_true rfl)) (f22 70 (of_decide_eq_true rfl)) (f22 71 (of_decide_eq_true rfl)) (f22 72 (of_decide_eq_true rfl)) I15
       have I46 : jI107 σ20 := jI107_fr (f23 12 (of_decide_eq_true rfl)) (f23 47 (of_decide_eq_true rfl)) (f22 80 (of_decide_eq_true rfl)) I16
       have I47 : jI109 σ20 := jI109_fr ((f23 50 (of_decide_eq_true rfl)).trans (congrFun (f6 55 (of_decide_eq_true rfl)) 50)) hI109
       have I48 : jI110 σ20 := jI110_fr ((f22 86 (of_decide_eq_true rfl)).trans (f6 86 (of_decide_eq_true rfl))) ((f22 87 (of_decide_eq_true rfl)).trans (f6 87 (of_decide_eq_true rfl))) hI110
       have I49 : jI111 σ20 := jI111_fr ((f22 79 (of_decide_eq_true rfl)).trans (f6 79 (of_decide_eq_true rfl))) hI111
       have z50 : (σ20 38 0).toInt = (σ 38 0).toInt := (congrArg Int32.toInt (show σ20 38 0 = (σ 38 0) from ((congrFun (f22 38 (of_decide_eq_true rfl)) 0).trans (congrFun (f6 38 (of_decide_eq_true rfl)) 0))))
       have z51 : (σ20 55 32).toInt = (σ 55 32).toInt := (congrArg Int32.toInt (show σ20 55 32 = (σ 55 32) from ((f23 32 (of_decide_eq_true rfl)).trans (congrFun (f6 55 (of_decide_eq_true rfl)) 32))))
       exact by exact ih x28 σ20 τ _ _ ls (by have h9 := tx28; omega) ⟨I29, I30, I31, I32, I33, I34, I35, I36, I37, I38, I39, I40, I41, I42, I43, I44, I45, I46, I47, I48, I49, I24, p25, p26, (by omega)⟩ hP hS (lv_sub hl [0, 1, 2, 3] rfl)
set_option maxHeartbeats 4000000 in
set_option maxRecDepth 100000 in
theorem law_case_11 {p : Program} {e : Env} {s : State} {m : MethodId} {below : List Frame} {meth : Method} {c : Code} (l : Launch) {b L : Nat} {xs : Nat → Int32} {D : va_G} {cI cL : ClassId} {ad zz : Nat → Nat} (C0 : lw_At p s m meth c b L xs) (hJ : jD ad) (hA : ∀ q, jA ad q → s.heap.size ≤ q) (hK : jK D cI cL s) (hZ : jZ zz (fun q : Nat => s.heap.size ≤ q) s s.heap) {x0 : Int32} (hx0 : 0 ≤ x0.toInt) (hxL : x0.toInt + 6 ≤ (L : Int)) (hL : L ≤ 384) {σ : Nat → Nat → Int32} {τ : Nat → Nat → Int64} {H : Heap} {locs : List Loc} (hS : va_S (fun q : Nat => s.heap.size ≤ q) s.heap H locs) {ls : Array Slot} (hAll : jAll σ τ) (hP : jH D cI cL ad σ τ H) (hl : lv_has ls 4 [(3, .int x0), (2, .ref (ad 55)), (1, .ref (ad 0)), (0, .ref b)]) (ih : ∀ (x1 : Int32) (σ : Nat → Nat → Int32) (τ : Nat → Nat → Int64) (H : Heap) (locs : List Loc) (ls : Array Slot), x1.toInt = x0.toInt + 6 → jAll σ τ → jH D cI cL ad σ τ H → va_S (fun q : Nat => s.heap.size ≤ q) s.heap H locs → lv_has ls 4 [(3, .int x1), (2, .ref (ad 55)), (1, .ref (ad 0)), (0, .ref b)] → W p l e room_1 s m #[Value.ref b] below meth c H locs 90 348600 (lw_Z below #[Value.ref b] s) (F0 m 18 ls [])) : W p l e room_1 s m #[Value.ref b] below meth c H locs 90 348600 (lw_Z below #[Value.ref b] s) (F0 m 549 ls []) := by
  obtain ⟨hx, hb, hr, hml, hown, hts0, hX, hbl, hlocks, hgv⟩ := C0
  have hts : ∀ w ∈ wsL_law, w.before #[Value.ref b] s = true := fun w h => hts0 w (wsL_law_in w h)
  have hbA : ¬ (fun q : Nat => s.heap.size ≤ q) b := Nat.not_le.mpr hbl
  have hown : s.vm.findClass RL = some m.cls := hown
  obtain ⟨hI2, hI9, hI12, hI16, hI18, hI22, hI31, hI38, hI43, hI47, hI50, hI101, hI102, hI103, hI104, hI105, hI106, hI107, hI109, hI110, hI111, hI119, hs_jKept, hs_jBook, ht0⟩ := hAll
  have hL9 : (L : Int) ≤ 384 := by omega
  refine lv_aload_n hx hb dL_law_549 rfl (lv_at hl 2 rfl) ?_
  refine lv_aload_n hx hb dL_law_550 rfl (lv_at hl 3 rfl) ?_
  refine lv_iload_n hx hb dL_law_551 rfl (lv_at hl 0 rfl) ?_
  refine lv_iconst (v := 1) hx hb dL_law_552 (of_decide_eq_true rfl) ?_
  have g1 := jrg (rfl : x0.toInt = x0.toInt)
  refine lv_iadd hx hb dL_law_553 ?_
  refine lv_topi (fun x2 ex2 => ?_)
  exact by
   have tx2 : x2.toInt = x0.toInt + 1 := (jadd ex2 rfl jz_1 (by omega) (by omega)).trans (by omega)
   refine va_sld hx hb hX hbl hbA hS (jin tx2 (by omega) (by omega)) dL_law_554 ?_
   have g3 := jrg (rfl : (xs x2.toNatClampNeg).toInt = (xs x2.toNatClampNeg).toInt)
   refine jcallV (As := [.int (xs x2.toNatClampNeg)]) (rest := []) ⟨hx, hb, hml, hown, hts⟩ hK hP hA hS hZ (c_X11_mean l D cI cL ad zz hJ σ τ (xs x2.toNatClampNeg) ((xs x2.toNatClampNeg).toInt) rfl hI2 hI16 hI18 hI22 hI31 hI38) cw_RL_61 (jc_0 cI cL ad σ τ) rfl ⟨Nat.le_of_ble_eq_true rfl, Nat.le_of_ble_eq_true rfl⟩ rfl rfl rfl hl.1 rfl (Nat.le_of_ble_eq_true rfl) dL_law_555 ⟨Nat.le_of_ble_eq_true rfl, Nat.le_of_ble_eq_true rfl⟩ (fun r5 σ4 τ4 H locs h4 hP hS => ?_)
   obtain ⟨rfl, f6, f7, I8, h4⟩ := h4
   refine lv_pop hx hb dL_law_558 rfl ?_
   refine lv_aload_n hx hb dL_law_559 rfl (lv_at hl 1 rfl) ?_
   refine lv_aload_n hx hb dL_law_560 rfl (lv_at hl 3 rfl) ?_
   refine lv_iload_n hx hb dL_law_561 rfl (lv_at hl 0 rfl) ?_
   exact by
    refine lv_iconst (v := 1) hx hb dL_law_562 (of_decide_eq_true rfl) ?_
    refine lv_iadd hx hb dL_law_563 ?_
    refine jtopr ex2.symm ?_
    refine va_sld hx hb hX hbl hbA hS (jin tx2 (by omega) (by omega)) dL_law_564 ?_
    have I10 : jI101 σ4 := jI101_fr (congrFun (f6 55 (of_decide_eq_true rfl)) 4) (congrFun (f6 55 (of_decide_eq_true rfl)) 5) (f6 56 (of_decide_eq_true rfl)) (f6 57 (of_decide_eq_true rfl)) (f6 58 (of_decide_eq_true rfl)) (f6 59 (of_decide_eq_true rfl)) hI101
    have I11 : jI102 σ4 := jI102_fr (congrFun (f6 55 (of_decide_eq_true rfl)) 6) (f6 60 (of_decide_eq_true rfl)) (f6 61 (of_decide_eq_true rfl)) hI102
    have I12 : jI103 σ4 := jI103_fr (congrFun (f6 55 (of_decide_eq_true rfl)) 9) hI103
    have I13 : jI104 σ4 := jI104_fr (congrFun (f6 55 (of_decide_eq_true rfl)) 10) (congrFun (f6 55 (of_decide_eq_true rfl)) 12) (congrFun (f6 55 (of_decide_eq_true rfl)) 13) (f6 62 (of_decide_eq_true rfl)) (f6 67 (of_decide_eq_true rfl)) hI104
    have I14 : jI105 σ4 := jI105_fr (congrFun (f6 55 (of_decide_eq_true rfl)) 15) (f6 65 (of_decide_eq_true rfl)) hI105
    exact by
     have I15 : jI106 σ4 := jI106_fr (congrFun (f6 55 (of_decide_eq_true rfl)) 32) (f6 70 (of_decide_eq_true rfl)) (f6 71 (of_decide_eq_true rfl)) (f6 72 (of_decide_eq_true rfl)) hI106
     have I16 : jI119 σ4 := jI119_fr (f6 68 (of_decide_eq_true rfl)) hI119
     have p17 : jKept σ4 := jKept.fr (f6 75 (of_decide_eq_true rfl)) (f6 76 (of_decide_eq_true rfl)) (f6 77 (of_decide_eq_true rfl)) hs_jKept
     refine jcallV (As := [.int (xs x2.toNatClampNeg)]) (rest := []) ⟨hx, hb, hml, hown, hts⟩ hK hP hA hS hZ (c_X12_mean l D cI cL ad zz hJ σ4 τ (xs x2.toNatClampNeg) ((xs x2.toNatClampNeg).toInt) rfl I10 I11 I12 I13 I14 I15 I16 p17) cw_RL_64 (jc_55 cI cL ad σ4 τ) rfl ⟨Nat.le_of_ble_eq_true rfl, Nat.le_of_ble_eq_true rfl⟩ rfl rfl rfl hl.1 rfl (Nat.le_of_ble_eq_true rfl) dL_law_565 ⟨Nat.le_of_ble_eq_true rfl, Nat.le_of_ble_eq_true rfl⟩ (fun r19 σ18 τ18 H locs h18 hP hS => ?_)
     obtain ⟨rfl, f20, f21, I22, p23, h18⟩ := h18
     refine lv_pop hx hb dL_law_568 rfl ?_
     refine lv_goto (tgt := 1357) hx hb dL_law_569 (of_decide_eq_true rfl) ?_
     obtain ⟨x25, ex25⟩ : ∃ y : Int32, y = x0 + 6 := ⟨_, rfl⟩
     have tx25 : x25.toInt = x0.toInt + 6 := (jadd ex25 rfl jz_6 (by omega) (by omega)).trans (by omega)
     exact by
      refine lv_iinc (v := x25) (lv' := [(3, .int x25), (2, .ref (ad 55)), (1, .ref (ad 0)), (0, .ref b)]) hx hb dL_law_1357 hl (k := 0) rfl (by rw [ex25]; rfl) (of_decide_eq_true rfl) rfl (fun ls hl => ?_)
      refine lv_goto (tgt := 18) hx hb dL_law_1360 (of_decide_eq_true rfl) ?_
      have I26 : jI2 σ18 := jI2_fr ((congrFun (f20 2 (of_decide_eq_true rfl)) 0).trans (congrFun (f6 2 (of_decide_eq_true rfl)) 0)) ((congrFun (f20 2 (of_decide_eq_true rfl)) 1).trans (congrFun (f6 2 (of_decide_eq_true rfl)) 1)) ((congrFun (f20 2 (of_decide_eq_true rfl)) 2).trans (congrFun (f6 2 (of_decide_eq_true rfl)) 2)) ((congrFun (f20 2 (of_decide_eq_true rfl)) 3).trans (congrFun (f6 2 (of_decide_eq_true rfl)) 3)) ((f20 6 (of_decide_eq_true rfl)).trans (f6 6 (of_decide_eq_true rfl))) hI2
      have I27 : jI9 σ18 := jI9_fr ((congrFun (f20 9 (of_decide_eq_true rfl)) 0).trans (congrFun (f6 9 (of_decide_eq_true rfl)) 0)) ((f20 10 (of_decide_eq_true rfl)).trans (f6 10 (of_decide_eq_true rfl))) ((f20 11 (of_decide_eq_true rfl)).trans (f6 11 (of_decide_eq_true rfl))) hI9
      have I28 : jI12 σ18 := jI12_fr ((congrFun (f20 12 (of_decide_eq_true rfl)) 0).trans (congrFun (f6 12 (of_decide_eq_true rfl)) 0)) ((f20 13 (of_decide_eq_true rfl)).trans (f6 13 (of_decide_eq_true rfl))) hI12
      have I29 : jI16 σ18 := jI16_fr ((congrFun (f20 16 (of_decide_eq_true rfl)) 0).trans (congrFun (f6 16 (of_decide_eq_true rfl)) 0)) ((congrFun (f20 16 (of_decide_eq_true rfl)) 1).trans (congrFun (f6 16 (of_decide_eq_true rfl)) 1)) ((congrFun (f20 16 (of_decide_eq_true rfl)) 2).trans (congrFun (f6 16 (of_decide_eq_true rfl)) 2)) ((f20 17 (of_decide_eq_true rfl)).trans (f6 17 (of_decide_eq_true rfl))) hI16
      have I30 : jI18 σ18 := jI18_fr ((congrFun (f20 18 (of_decide_eq_true rfl)) 0).trans (congrFun (f6 18 (of_decide_eq_true rfl)) 0)) ((f20 19 (of_decide_eq_true rfl)).trans (f6 19 (of_decide_eq_true rfl))) hI18
      have I31 : jI22 σ18 := jI22_fr ((congrFun (f20 22 (of_decide_eq_true rfl)) 0).trans (congrFun (f6 22 (of_decide_eq_true rfl)) 0)) ((f20 23 (of_decide_eq_true rfl)).trans (f6 23 (of_decide_eq_true rfl))) hI22
      have I32 : jI31 σ18 := jI31_fr (congrFun (f20 31 (of_decide_eq_true rfl)) 8) (f20 33 (of_decide_eq_true rfl)) (f20 36 (of_decide_eq_true rfl)) I8
      have I33 : jI38 σ18 := jI38_fr ((congrFun (f20 38 (of_decide_eq_true rfl)) 0).trans (congrFun (f6 38 (of_decide_eq_true rfl)) 0)) ((congrFun (f20 38 (of_decide_eq_true rfl)) 1).trans (congrFun (f6 38 (of_decide_eq_true rfl)) 1)) ((f20 39 (of_decide_eq_true rfl)).trans (f6 39 (of_decide_eq_true rfl))) hI38
      have I34 : jI43 σ18 := jI43_fr ((congrFun (f20 43 (of_decide_eq_true rfl)) 8).trans (congrFun (f6 43 (of_decide_eq_true rfl)) 8)) hI43
      have I35 : jI47 σ18 := jI47_fr ((congrFun (f20 47 (of_decide_eq_true rfl)) 0).trans (congrFun (f6 47 (of_decide_eq_true rfl)) 0)) ((f20 48 (of_decide_eq_true rfl)).trans (f6 48 (of_decide_eq_true rfl))) ((f20 49 (of_decide_eq_true rfl)).trans (f6 49 (of_decide_eq_true rfl))) hI47
      have I36 : jI50 σ18 := jI50_fr ((f20 52 (of_decide_eq_true rfl)).trans (f6 52 (of_decide_eq_true rfl))) hI50
      have I37 : jI101 σ18 := jI101_fr (f21 4 (of_decide_eq_true rfl)) (f21 5 (of_decide_eq_true rfl)) (f20 56 (of_decide_eq_true rfl)) (f20 57 (of_decide_eq_true rfl)) (f20 58 (of_decide_eq_true rfl)) (f20 59 (of_decide_eq_true rfl)) I10
      have I38 : jI102 σ18 := jI102_fr (f21 6 (of_decide_eq_true rfl)) (f20 60 (of_decide_eq_true rfl)) (f20 61 (of_decide_eq_true rfl)) I11
      have I39 : jI103 σ18 := jI103_fr (f21 9 (of_decide_eq_true rfl)) I12
      have I40 : jI104 σ18 := jI104_fr (f21 10 (of_decide_eq_true rfl)) (f21 12 (of_decide_eq_true rfl)) (f21 13 (of_decide_eq_true rfl)) (f20 62 (of_decide_eq_true rfl)) (f20 67 (of_decide_eq_true rfl)) I13
      have I41 : jI105 σ18 := jI105_fr (f21 15 (of_decide_eq_true rfl)) (f20 65 (of_decide_eq_true rfl)) I14
      have I42 : jI106 σ18 := jI106_fr (f21 32 (of_decide_eq_true rfl)) (f20 70 (of_decide_eq_true rfl)) (f20 71 (of_decide_eq_true rfl)) (f20 72 (of_decide_eq_true rfl)) I15
      have I43 : jI107 σ18 := jI107_fr ((f21 12 (of_decide_eq_true rfl)).trans (congrFun (f6 55 (of_decide_eq_true rfl)) 12)) ((f21 47 (of_decide_eq_true rfl)).trans (congrFun (f6 55 (of_decide_eq_true rfl)) 47)) ((f20 80 (of_decide_eq_true rfl)).trans (f6 80 (of_decide_eq_true rfl))) hI107
      have I44 : jI109 σ18 := jI109_fr ((f21 50 (of_decide_eq_true rfl)).trans (congrFun (f6 55 (of_decide_eq_true rfl)) 50)) hI109
      have I45 : jI110 σ18 := jI110_fr ((f20 86 (of_decide_eq_true rfl)).trans (f6 86 (of_decide_eq_true rfl))) ((f20 87 (of_decide_eq_true rfl)).trans (f6 87 (of_decide_eq_true rfl))) hI110
      have I46 : jI111 σ18 := jI111_fr ((f20 79 (of_decide_eq_true rfl)).trans (f6 79 (of_decide_eq_true rfl))) hI111
      have p47 : jBook σ18 := jBook.fr ((f21 47 (of_decide_eq_true rfl)).trans (congrFun (f6 55 (of_decide_eq_true rfl)) 47)) ((f21 10 (of_decide_eq_true rfl)).trans (congrFun (f6 55 (of_decide_eq_true rfl)) 10)) ((f20 81 (of_decide_eq_true rfl)).trans (f6 81 (of_decide_eq_true rfl))) hs_jBook
      have z48 : (σ18 38 0).toInt = (σ 38 0).toInt := (congrArg Int32.toInt (show σ18 38 0 = (σ 38 0) from ((congrFun (f20 38 (of_decide_eq_true rfl)) 0).trans (congrFun (f6 38 (of_decide_eq_true rfl)) 0))))
      have z49 : (σ18 55 32).toInt = (σ 55 32).toInt := (congrArg Int32.toInt (show σ18 55 32 = (σ 55 32) from ((f21 32 (of_decide_eq_true rfl)).trans (congrFun (f6 55 (of_decide_eq_true rfl)) 32))))
      exact by exact ih x25 σ18 τ _ _ ls (by have h9 := tx25; omega) ⟨I26, I27, I28, I29, I30, I31, I32, I33, I34, I35, I36, I37, I38, I39, I40, I41, I42, I43, I44, I45, I46, I22, p23, p47, (by omega)⟩ hP hS (lv_sub hl [0, 1, 2, 3] rfl)
set_option maxHeartbeats 4000000 in
set_option maxRecDepth 100000 in
theorem law_case_12 {p : Program} {e : Env} {s : State} {m : MethodId} {below : List Frame} {meth : Method} {c : Code} (l : Launch) {b L : Nat} {xs : Nat → Int32} {D : va_G} {cI cL : ClassId} {ad zz : Nat → Nat} (C0 : lw_At p s m meth c b L xs) (hJ : jD ad) (hA : ∀ q, jA ad q → s.heap.size ≤ q) (hK : jK D cI cL s) (hZ : jZ zz (fun q : Nat => s.heap.size ≤ q) s s.heap) {x0 : Int32} (hx0 : 0 ≤ x0.toInt) (hxL : x0.toInt + 6 ≤ (L : Int)) (hL : L ≤ 384) {σ : Nat → Nat → Int32} {τ : Nat → Nat → Int64} {H : Heap} {locs : List Loc} (hS : va_S (fun q : Nat => s.heap.size ≤ q) s.heap H locs) {ls : Array Slot} (hAll : jAll σ τ) (hP : jH D cI cL ad σ τ H) (hl : lv_has ls 4 [(3, .int x0), (2, .ref (ad 55)), (1, .ref (ad 0)), (0, .ref b)]) (ih : ∀ (x1 : Int32) (σ : Nat → Nat → Int32) (τ : Nat → Nat → Int64) (H : Heap) (locs : List Loc) (ls : Array Slot), x1.toInt = x0.toInt + 6 → jAll σ τ → jH D cI cL ad σ τ H → va_S (fun q : Nat => s.heap.size ≤ q) s.heap H locs → lv_has ls 4 [(3, .int x1), (2, .ref (ad 55)), (1, .ref (ad 0)), (0, .ref b)] → W p l e room_1 s m #[Value.ref b] below meth c H locs 90 348600 (lw_Z below #[Value.ref b] s) (F0 m 18 ls [])) : W p l e room_1 s m #[Value.ref b] below meth c H locs 90 348600 (lw_Z below #[Value.ref b] s) (F0 m 572 ls []) := by
  obtain ⟨hx, hb, hr, hml, hown, hts0, hX, hbl, hlocks, hgv⟩ := C0
  have hts : ∀ w ∈ wsL_law, w.before #[Value.ref b] s = true := fun w h => hts0 w (wsL_law_in w h)
  have hbA : ¬ (fun q : Nat => s.heap.size ≤ q) b := Nat.not_le.mpr hbl
  have hown : s.vm.findClass RL = some m.cls := hown
  obtain ⟨hI2, hI9, hI12, hI16, hI18, hI22, hI31, hI38, hI43, hI47, hI50, hI101, hI102, hI103, hI104, hI105, hI106, hI107, hI109, hI110, hI111, hI119, hs_jKept, hs_jBook, ht0⟩ := hAll
  have hL9 : (L : Int) ≤ 384 := by omega
  refine lv_aload_n hx hb dL_law_572 rfl (lv_at hl 2 rfl) ?_
  refine lv_aload_n hx hb dL_law_573 rfl (lv_at hl 3 rfl) ?_
  refine lv_iload_n hx hb dL_law_574 rfl (lv_at hl 0 rfl) ?_
  refine lv_iconst (v := 1) hx hb dL_law_575 (of_decide_eq_true rfl) ?_
  have g1 := jrg (rfl : x0.toInt = x0.toInt)
  refine lv_iadd hx hb dL_law_576 ?_
  refine lv_topi (fun x2 ex2 => ?_)
  exact by
   have tx2 : x2.toInt = x0.toInt + 1 := (jadd ex2 rfl jz_1 (by omega) (by omega)).trans (by omega)
   refine va_sld hx hb hX hbl hbA hS (jin tx2 (by omega) (by omega)) dL_law_577 ?_
   have g3 := jrg (rfl : (xs x2.toNatClampNeg).toInt = (xs x2.toNatClampNeg).toInt)
   refine lv_aload_n hx hb dL_law_578 rfl (lv_at hl 3 rfl) ?_
   refine lv_iload_n hx hb dL_law_579 rfl (lv_at hl 0 rfl) ?_
   refine lv_iconst (v := 2) hx hb dL_law_580 (of_decide_eq_true rfl) ?_
   refine lv_iadd hx hb dL_law_581 ?_
   refine lv_topi (fun x4 ex4 => ?_)
   have tx4 : x4.toInt = x0.toInt + 2 := (jadd ex4 rfl jz_2 (by omega) (by omega)).trans (by omega)
   exact by
    refine va_sld hx hb hX hbl hbA hS (jin tx4 (by omega) (by omega)) dL_law_582 ?_
    have g5 := jrg (rfl : (xs x4.toNatClampNeg).toInt = (xs x4.toNatClampNeg).toInt)
    refine jcallV (As := [.int (xs x2.toNatClampNeg), .int (xs x4.toNatClampNeg)]) (rest := []) ⟨hx, hb, hml, hown, hts⟩ hK hP hA hS hZ (c_X11_likely l D cI cL ad zz hJ σ τ (xs x2.toNatClampNeg) ((xs x2.toNatClampNeg).toInt) rfl (xs x4.toNatClampNeg) ((xs x4.toNatClampNeg).toInt) rfl hI2 hI16 hI18 hI22 hI31 hI38) cw_RL_65 (jc_0 cI cL ad σ τ) rfl ⟨Nat.le_of_ble_eq_true rfl, Nat.le_of_ble_eq_true rfl⟩ rfl rfl rfl hl.1 rfl (Nat.le_of_ble_eq_true rfl) dL_law_583 ⟨Nat.le_of_ble_eq_true rfl, Nat.le_of_ble_eq_true rfl⟩ (fun r7 σ6 τ6 H locs h6 hP hS => ?_)
    obtain ⟨rfl, f8, f9, I10, h6⟩ := h6
    refine lv_pop hx hb dL_law_586 rfl ?_
    refine lv_aload_n hx hb dL_law_587 rfl (lv_at hl 1 rfl) ?_
    refine lv_aload_n hx hb dL_law_588 rfl (lv_at hl 3 rfl) ?_
    refine lv_iload_n hx hb dL_law_589 rfl (lv_at hl 0 rfl) ?_
    refine lv_iconst (v := 1) hx hb dL_law_590 (of_decide_eq_true rfl) ?_
    refine lv_iadd hx hb dL_law_591 ?_
    refine jtopr ex2.symm ?_
    exact by
     refine va_sld hx hb hX hbl hbA hS (jin tx2 (by omega) (by omega)) dL_law_592 ?_
     refine lv_aload_n hx hb dL_law_593 rfl (lv_at hl 3 rfl) ?_
     refine lv_iload_n hx hb dL_law_594 rfl (lv_at hl 0 rfl) ?_
     refine lv_iconst (v := 2) hx hb dL_law_595 (of_decide_eq_true rfl) ?_
     refine lv_iadd hx hb dL_law_596 ?_
     refine jtopr ex4.symm ?_
     refine va_sld hx hb hX hbl hbA hS (jin tx4 (by omega) (by omega)) dL_law_597 ?_
     have I12 : jI101 σ6 := jI101_fr (congrFun (f8 55 (of_decide_eq_true rfl)) 4) (congrFun (f8 55 (of_decide_eq_true rfl)) 5) (f8 56 (of_decide_eq_true rfl)) (f8 57 (of_decide_eq_true rfl)) (f8 58 (of_decide_eq_true rfl)) (f8 59 (of_decide_eq_true rfl)) hI101
     have I13 : jI102 σ6 := jI102_fr (congrFun (f8 55 (of_decide_eq_true rfl)) 6) (f8 60 (of_decide_eq_true rfl)) (f8 61 (of_decide_eq_true rfl)) hI102
     exact by
      have I14 : jI103 σ6 := jI103_fr (congrFun (f8 55 (of_decide_eq_true rfl)) 9) hI103
      have I15 : jI104 σ6 := jI104_fr (congrFun (f8 55 (of_decide_eq_true rfl)) 10) (congrFun (f8 55 (of_decide_eq_true rfl)) 12) (congrFun (f8 55 (of_decide_eq_true rfl)) 13) (f8 62 (of_decide_eq_true rfl)) (f8 67 (of_decide_eq_true rfl)) hI104
      have I16 : jI105 σ6 := jI105_fr (congrFun (f8 55 (of_decide_eq_true rfl)) 15) (f8 65 (of_decide_eq_true rfl)) hI105
      have I17 : jI106 σ6 := jI106_fr (congrFun (f8 55 (of_decide_eq_true rfl)) 32) (f8 70 (of_decide_eq_true rfl)) (f8 71 (of_decide_eq_true rfl)) (f8 72 (of_decide_eq_true rfl)) hI106
      have I18 : jI119 σ6 := jI119_fr (f8 68 (of_decide_eq_true rfl)) hI119
      have p19 : jKept σ6 := jKept.fr (f8 75 (of_decide_eq_true rfl)) (f8 76 (of_decide_eq_true rfl)) (f8 77 (of_decide_eq_true rfl)) hs_jKept
      refine jcallV (As := [.int (xs x2.toNatClampNeg), .int (xs x4.toNatClampNeg)]) (rest := []) ⟨hx, hb, hml, hown, hts⟩ hK hP hA hS hZ (c_X12_likely l D cI cL ad zz hJ σ6 τ (xs x2.toNatClampNeg) ((xs x2.toNatClampNeg).toInt) rfl (xs x4.toNatClampNeg) ((xs x4.toNatClampNeg).toInt) rfl I12 I13 I14 I15 I16 I17 I18 p19) cw_RL_68 (jc_55 cI cL ad σ6 τ) rfl ⟨Nat.le_of_ble_eq_true rfl, Nat.le_of_ble_eq_true rfl⟩ rfl rfl rfl hl.1 rfl (Nat.le_of_ble_eq_true rfl) dL_law_598 ⟨Nat.le_of_ble_eq_true rfl, Nat.le_of_ble_eq_true rfl⟩ (fun r21 σ20 τ20 H locs h20 hP hS => ?_)
      obtain ⟨rfl, f22, f23, I24, p25, h20⟩ := h20
      refine lv_pop hx hb dL_law_601 rfl ?_
      refine lv_goto (tgt := 1357) hx hb dL_law_602 (of_decide_eq_true rfl) ?_
      obtain ⟨x27, ex27⟩ : ∃ y : Int32, y = x0 + 6 := ⟨_, rfl⟩
      exact by
       have tx27 : x27.toInt = x0.toInt + 6 := (jadd ex27 rfl jz_6 (by omega) (by omega)).trans (by omega)
       refine lv_iinc (v := x27) (lv' := [(3, .int x27), (2, .ref (ad 55)), (1, .ref (ad 0)), (0, .ref b)]) hx hb dL_law_1357 hl (k := 0) rfl (by rw [ex27]; rfl) (of_decide_eq_true rfl) rfl (fun ls hl => ?_)
       refine lv_goto (tgt := 18) hx hb dL_law_1360 (of_decide_eq_true rfl) ?_
       have I28 : jI2 σ20 := jI2_fr ((congrFun (f22 2 (of_decide_eq_true rfl)) 0).trans (congrFun (f8 2 (of_decide_eq_true rfl)) 0)) ((congrFun (f22 2 (of_decide_eq_true rfl)) 1).trans (congrFun (f8 2 (of_decide_eq_true rfl)) 1)) ((congrFun (f22 2 (of_decide_eq_true rfl)) 2).trans (congrFun (f8 2 (of_decide_eq_true rfl)) 2)) ((congrFun (f22 2 (of_decide_eq_true rfl)) 3).trans (congrFun (f8 2 (of_decide_eq_true rfl)) 3)) ((f22 6 (of_decide_eq_true rfl)).trans (f8 6 (of_decide_eq_true rfl))) hI2
       have I29 : jI9 σ20 := jI9_fr ((congrFun (f22 9 (of_decide_eq_true rfl)) 0).trans (congrFun (f8 9 (of_decide_eq_true rfl)) 0)) ((f22 10 (of_decide_eq_true rfl)).trans (f8 10 (of_decide_eq_true rfl))) ((f22 11 (of_decide_eq_true rfl)).trans (f8 11 (of_decide_eq_true rfl))) hI9
       have I30 : jI12 σ20 := jI12_fr ((congrFun (f22 12 (of_decide_eq_true rfl)) 0).trans (congrFun (f8 12 (of_decide_eq_true rfl)) 0)) ((f22 13 (of_decide_eq_true rfl)).trans (f8 13 (of_decide_eq_true rfl))) hI12
       have I31 : jI16 σ20 := jI16_fr ((congrFun (f22 16 (of_decide_eq_true rfl)) 0).trans (congrFun (f8 16 (of_decide_eq_true rfl)) 0)) ((congrFun (f22 16 (of_decide_eq_true rfl)) 1).trans (congrFun (f8 16 (of_decide_eq_true rfl)) 1)) ((congrFun (f22 16 (of_decide_eq_true rfl)) 2).trans (congrFun (f8 16 (of_decide_eq_true rfl)) 2)) ((f22 17 (of_decide_eq_true rfl)).trans (f8 17 (of_decide_eq_true rfl))) hI16
       have I32 : jI18 σ20 := jI18_fr ((congrFun (f22 18 (of_decide_eq_true rfl)) 0).trans (congrFun (f8 18 (of_decide_eq_true rfl)) 0)) ((f22 19 (of_decide_eq_true rfl)).trans (f8 19 (of_decide_eq_true rfl))) hI18
       have I33 : jI22 σ20 := jI22_fr ((congrFun (f22 22 (of_decide_eq_true rfl)) 0).trans (congrFun (f8 22 (of_decide_eq_true rfl)) 0)) ((f22 23 (of_decide_eq_true rfl)).trans (f8 23 (of_decide_eq_true rfl))) hI22
       exact by
        have I34 : jI31 σ20 := jI31_fr (congrFun (f22 31 (of_decide_eq_true rfl)) 8) (f22 33 (of_decide_eq_true rfl)) (f22 36 (of_decide_eq_true rfl)) I10
        have I35 : jI38 σ20 := jI38_fr ((congrFun (f22 38 (of_decide_eq_true rfl)) 0).trans (congrFun (f8 38 (of_decide_eq_true rfl)) 0)) ((congrFun (f22 38 (of_decide_eq_true rfl)) 1).trans (congrFun (f8 38 (of_decide_eq_true rfl)) 1)) ((f22 39 (of_decide_eq_true rfl)).trans (f8 39 (of_decide_eq_true rfl))) hI38
        have I36 : jI43 σ20 := jI43_fr ((congrFun (f22 43 (of_decide_eq_true rfl)) 8).trans (congrFun (f8 43 (of_decide_eq_true rfl)) 8)) hI43
        have I37 : jI47 σ20 := jI47_fr ((congrFun (f22 47 (of_decide_eq_true rfl)) 0).trans (congrFun (f8 47 (of_decide_eq_true rfl)) 0)) ((f22 48 (of_decide_eq_true rfl)).trans (f8 48 (of_decide_eq_true rfl))) ((f22 49 (of_decide_eq_true rfl)).trans (f8 49 (of_decide_eq_true rfl))) hI47
        have I38 : jI50 σ20 := jI50_fr ((f22 52 (of_decide_eq_true rfl)).trans (f8 52 (of_decide_eq_true rfl))) hI50
        have I39 : jI101 σ20 := jI101_fr (f23 4 (of_decide_eq_true rfl)) (f23 5 (of_decide_eq_true rfl)) (f22 56 (of_decide_eq_true rfl)) (f22 57 (of_decide_eq_true rfl)) (f22 58 (of_decide_eq_true rfl)) (f22 59 (of_decide_eq_true rfl)) I12
        have I40 : jI102 σ20 := jI102_fr (f23 6 (of_decide_eq_true rfl)) (f22 60 (of_decide_eq_true rfl)) (f22 61 (of_decide_eq_true rfl)) I13
        have I41 : jI103 σ20 := jI103_fr (f23 9 (of_decide_eq_true rfl)) I14
        have I42 : jI104 σ20 := jI104_fr (f23 10 (of_decide_eq_true rfl)) (f23 12 (of_decide_eq_true rfl)) (f23 13 (of_decide_eq_true rfl)) (f22 62 (of_decide_eq_true rfl)) (f22 67 (of_decide_eq_true rfl)) I15
        have I43 : jI105 σ20 := jI105_fr (f23 15 (of_decide_eq_true rfl)) (f22 65 (of_decide_eq_true rfl)) I16
        have I44 : jI106 σ20 := jI106_fr (f23 32 (of_decide_eq_true rfl)) (f22 70 (of_decide_eq_true rfl)) (f22 71 (of_decide_eq_true rfl)) (f22 72 (of_decide_eq_true rfl)) I17
        have I45 : jI107 σ20 := jI107_fr ((f23 12 (of_decide_eq_true rfl)).trans (congrFun (f8 55 (of_decide_eq_true rfl)) 12)) ((f23 47 (of_decide_eq_true rfl)).trans (congrFun (f8 55 (of_decide_eq_true rfl)) 47)) ((f22 80 (of_decide_eq_true rfl)).trans (f8 80 (of_decide_eq_true rfl))) hI107
        have I46 : jI109 σ20 := jI109_fr ((f23 50 (of_decide_eq_true rfl)).trans (congrFun (f8 55 (of_decide_eq_true rfl)) 50)) hI109
        have I47 : jI110 σ20 := jI110_fr ((f22 86 (of_decide_eq_true rfl)).trans (f8 86 (of_decide_eq_true rfl))) ((f22 87 (of_decide_eq_true rfl)).trans (f8 87 (of_decide_eq_true rfl))) hI110
        have I48 : jI111 σ20 := jI111_fr ((f22 79 (of_decide_eq_true rfl)).trans (f8 79 (of_decide_eq_true rfl))) hI111
        have p49 : jBook σ20 := jBook.fr ((f23 47 (of_decide_eq_true rfl)).trans (congrFun (f8 55 (of_decide_eq_true rfl)) 47)) ((f23 10 (of_decide_eq_true rfl)).trans (congrFun (f8 55 (of_decide_eq_true rfl)) 10)) ((f22 81 (of_decide_eq_true rfl)).trans (f8 81 (of_decide_eq_true rfl))) hs_jBook
        have z50 : (σ20 38 0).toInt = (σ 38 0).toInt := (congrArg Int32.toInt (show σ20 38 0 = (σ 38 0) from ((congrFun (f22 38 (of_decide_eq_true rfl)) 0).trans (congrFun (f8 38 (of_decide_eq_true rfl)) 0))))
        have z51 : (σ20 55 32).toInt = (σ 55 32).toInt := (congrArg Int32.toInt (show σ20 55 32 = (σ 55 32) from ((f23 32 (of_decide_eq_true rfl)).trans (congrFun (f8 55 (of_decide_eq_true rfl)) 32))))
        exact by exact ih x27 σ20 τ _ _ ls (by have h9 := tx27; omega) ⟨I28, I29, I30, I31, I32, I33, I34, I35, I36, I37, I38, I39, I40, I41, I42, I43, I44, I45, I46, I47, I48, I24, p25, p49, (by omega)⟩ hP hS (lv_sub hl [0, 1, 2, 3] rfl)
set_option maxHeartbeats 4000000 in
set_option maxRecDepth 100000 in
theorem law_case_13 {p : Program} {e : Env} {s : State} {m : MethodId} {below : List Frame} {meth : Method} {c : Code} (l : Launch) {b L : Nat} {xs : Nat → Int32} {D : va_G} {cI cL : ClassId} {ad zz : Nat → Nat} (C0 : lw_At p s m meth c b L xs) (hJ : jD ad) (hA : ∀ q, jA ad q → s.heap.size ≤ q) (hK : jK D cI cL s) (hZ : jZ zz (fun q : Nat => s.heap.size ≤ q) s s.heap) {x0 : Int32} (hx0 : 0 ≤ x0.toInt) (hxL : x0.toInt + 6 ≤ (L : Int)) (hL : L ≤ 384) {σ : Nat → Nat → Int32} {τ : Nat → Nat → Int64} {H : Heap} {locs : List Loc} (hS : va_S (fun q : Nat => s.heap.size ≤ q) s.heap H locs) {ls : Array Slot} (hAll : jAll σ τ) (hP : jH D cI cL ad σ τ H) (hl : lv_has ls 4 [(3, .int x0), (2, .ref (ad 55)), (1, .ref (ad 0)), (0, .ref b)]) (ih : ∀ (x1 : Int32) (σ : Nat → Nat → Int32) (τ : Nat → Nat → Int64) (H : Heap) (locs : List Loc) (ls : Array Slot), x1.toInt = x0.toInt + 6 → jAll σ τ → jH D cI cL ad σ τ H → va_S (fun q : Nat => s.heap.size ≤ q) s.heap H locs → lv_has ls 4 [(3, .int x1), (2, .ref (ad 55)), (1, .ref (ad 0)), (0, .ref b)] → W p l e room_1 s m #[Value.ref b] below meth c H locs 90 348600 (lw_Z below #[Value.ref b] s) (F0 m 18 ls [])) : W p l e room_1 s m #[Value.ref b] below meth c H locs 90 348600 (lw_Z below #[Value.ref b] s) (F0 m 605 ls []) := by
  obtain ⟨hx, hb, hr, hml, hown, hts0, hX, hbl, hlocks, hgv⟩ := C0
  have hts : ∀ w ∈ wsL_law, w.before #[Value.ref b] s = true := fun w h => hts0 w (wsL_law_in w h)
  have hbA : ¬ (fun q : Nat => s.heap.size ≤ q) b := Nat.not_le.mpr hbl
  have hown : s.vm.findClass RL = some m.cls := hown
  obtain ⟨hI2, hI9, hI12, hI16, hI18, hI22, hI31, hI38, hI43, hI47, hI50, hI101, hI102, hI103, hI104, hI105, hI106, hI107, hI109, hI110, hI111, hI119, hs_jKept, hs_jBook, ht0⟩ := hAll
  have hL9 : (L : Int) ≤ 384 := by omega
  refine lv_aload_n hx hb dL_law_605 rfl (lv_at hl 2 rfl) ?_
  refine lv_aload_n hx hb dL_law_606 rfl (lv_at hl 3 rfl) ?_
  refine lv_iload_n hx hb dL_law_607 rfl (lv_at hl 0 rfl) ?_
  refine lv_iconst (v := 1) hx hb dL_law_608 (of_decide_eq_true rfl) ?_
  have g1 := jrg (rfl : x0.toInt = x0.toInt)
  refine lv_iadd hx hb dL_law_609 ?_
  refine lv_topi (fun x2 ex2 => ?_)
  exact by
   have tx2 : x2.toInt = x0.toInt + 1 := (jadd ex2 rfl jz_1 (by omega) (by omega)).trans (by omega)
   refine va_sld hx hb hX hbl hbA hS (jin tx2 (by omega) (by omega)) dL_law_610 ?_
   have g3 := jrg (rfl : (xs x2.toNatClampNeg).toInt = (xs x2.toNatClampNeg).toInt)
   refine jcallV (As := [.int (xs x2.toNatClampNeg)]) (rest := []) ⟨hx, hb, hml, hown, hts⟩ hK hP hA hS hZ (c_X11_best l D cI cL ad zz hJ σ τ (xs x2.toNatClampNeg) ((xs x2.toNatClampNeg).toInt) rfl hI2 hI16 hI22 hI31 hI47) cw_RL_69 (jc_0 cI cL ad σ τ) rfl ⟨Nat.le_of_ble_eq_true rfl, Nat.le_of_ble_eq_true rfl⟩ rfl rfl rfl hl.1 rfl (Nat.le_of_ble_eq_true rfl) dL_law_611 ⟨Nat.le_of_ble_eq_true rfl, Nat.le_of_ble_eq_true rfl⟩ (fun r5 σ4 τ4 H locs h4 hP hS => ?_)
   obtain ⟨rfl, f6, f7, I8, h4⟩ := h4
   refine lv_pop hx hb dL_law_614 rfl ?_
   refine lv_aload_n hx hb dL_law_615 rfl (lv_at hl 1 rfl) ?_
   refine lv_aload_n hx hb dL_law_616 rfl (lv_at hl 3 rfl) ?_
   refine lv_iload_n hx hb dL_law_617 rfl (lv_at hl 0 rfl) ?_
   exact by
    refine lv_iconst (v := 1) hx hb dL_law_618 (of_decide_eq_true rfl) ?_
    refine lv_iadd hx hb dL_law_619 ?_
    refine jtopr ex2.symm ?_
    refine va_sld hx hb hX hbl hbA hS (jin tx2 (by omega) (by omega)) dL_law_620 ?_
    have I10 : jI101 σ4 := jI101_fr (congrFun (f6 55 (of_decide_eq_true rfl)) 4) (congrFun (f6 55 (of_decide_eq_true rfl)) 5) (f6 56 (of_decide_eq_true rfl)) (f6 57 (of_decide_eq_true rfl)) (f6 58 (of_decide_eq_true rfl)) (f6 59 (of_decide_eq_true rfl)) hI101
    have I11 : jI102 σ4 := jI102_fr (congrFun (f6 55 (of_decide_eq_true rfl)) 6) (f6 60 (of_decide_eq_true rfl)) (f6 61 (of_decide_eq_true rfl)) hI102
    have I12 : jI103 σ4 := jI103_fr (congrFun (f6 55 (of_decide_eq_true rfl)) 9) hI103
    have I13 : jI104 σ4 := jI104_fr (congrFun (f6 55 (of_decide_eq_true rfl)) 10) (congrFun (f6 55 (of_decide_eq_true rfl)) 12) (congrFun (f6 55 (of_decide_eq_true rfl)) 13) (f6 62 (of_decide_eq_true rfl)) (f6 67 (of_decide_eq_true rfl)) hI104
    have I14 : jI105 σ4 := jI105_fr (congrFun (f6 55 (of_decide_eq_true rfl)) 15) (f6 65 (of_decide_eq_true rfl)) hI105
    exact by
     have I15 : jI106 σ4 := jI106_fr (congrFun (f6 55 (of_decide_eq_true rfl)) 32) (f6 70 (of_decide_eq_true rfl)) (f6 71 (of_decide_eq_true rfl)) (f6 72 (of_decide_eq_true rfl)) hI106
     have I16 : jI107 σ4 := jI107_fr (congrFun (f6 55 (of_decide_eq_true rfl)) 12) (congrFun (f6 55 (of_decide_eq_true rfl)) 47) (f6 80 (of_decide_eq_true rfl)) hI107
     have I17 : jI119 σ4 := jI119_fr (f6 68 (of_decide_eq_true rfl)) hI119
     have p18 : jKept σ4 := jKept.fr (f6 75 (of_decide_eq_true rfl)) (f6 76 (of_decide_eq_true rfl)) (f6 77 (of_decide_eq_true rfl)) hs_jKept
     have p19 : jBook σ4 := jBook.fr (congrFun (f6 55 (of_decide_eq_true rfl)) 47) (congrFun (f6 55 (of_decide_eq_true rfl)) 10) (f6 81 (of_decide_eq_true rfl)) hs_jBook
     refine jcallV (As := [.int (xs x2.toNatClampNeg)]) (rest := []) ⟨hx, hb, hml, hown, hts⟩ hK hP hA hS hZ (c_X12_best l D cI cL ad zz hJ σ4 τ (xs x2.toNatClampNeg) ((xs x2.toNatClampNeg).toInt) rfl I10 I11 I12 I13 I14 I15 I16 I17 p18 p19) cw_RL_72 (jc_55 cI cL ad σ4 τ) rfl ⟨Nat.le_of_ble_eq_true rfl, Nat.le_of_ble_eq_true rfl⟩ rfl rfl rfl hl.1 rfl (Nat.le_of_ble_eq_true rfl) dL_law_621 ⟨Nat.le_of_ble_eq_true rfl, Nat.le_of_ble_eq_true rfl⟩ (fun r21 σ20 τ20 H locs h20 hP hS => ?_)
     obtain ⟨rfl, f22, f23, I24, p25, p26, h20⟩ := h20
     refine lv_pop hx hb dL_law_624 rfl ?_
     refine lv_goto (tgt := 1357) hx hb dL_law_625 (of_decide_eq_true rfl) ?_
     obtain ⟨x28, ex28⟩ : ∃ y : Int32, y = x0 + 6 := ⟨_, rfl⟩
     exact by
      have tx28 : x28.toInt = x0.toInt + 6 := (jadd ex28 rfl jz_6 (by omega) (by omega)).trans (by omega)
      refine lv_iinc (v := x28) (lv' := [(3, .int x28), (2, .ref (ad 55)), (1, .ref (ad 0)), (0, .ref b)]) hx hb dL_law_1357 hl (k := 0) rfl (by rw [ex28]; rfl) (of_decide_eq_true rfl) rfl (fun ls hl => ?_)
      refine lv_goto (tgt := 18) hx hb dL_law_1360 (of_decide_eq_true rfl) ?_
      have I29 : jI2 σ20 := jI2_fr ((congrFun (f22 2 (of_decide_eq_true rfl)) 0).trans (congrFun (f6 2 (of_decide_eq_true rfl)) 0)) ((congrFun (f22 2 (of_decide_eq_true rfl)) 1).trans (congrFun (f6 2 (of_decide_eq_true rfl)) 1)) ((congrFun (f22 2 (of_decide_eq_true rfl)) 2).trans (congrFun (f6 2 (of_decide_eq_true rfl)) 2)) ((congrFun (f22 2 (of_decide_eq_true rfl)) 3).trans (congrFun (f6 2 (of_decide_eq_true rfl)) 3)) ((f22 6 (of_decide_eq_true rfl)).trans (f6 6 (of_decide_eq_true rfl))) hI2
      have I30 : jI9 σ20 := jI9_fr ((congrFun (f22 9 (of_decide_eq_true rfl)) 0).trans (congrFun (f6 9 (of_decide_eq_true rfl)) 0)) ((f22 10 (of_decide_eq_true rfl)).trans (f6 10 (of_decide_eq_true rfl))) ((f22 11 (of_decide_eq_true rfl)).trans (f6 11 (of_decide_eq_true rfl))) hI9
      have I31 : jI12 σ20 := jI12_fr ((congrFun (f22 12 (of_decide_eq_true rfl)) 0).trans (congrFun (f6 12 (of_decide_eq_true rfl)) 0)) ((f22 13 (of_decide_eq_true rfl)).trans (f6 13 (of_decide_eq_true rfl))) hI12
      have I32 : jI16 σ20 := jI16_fr ((congrFun (f22 16 (of_decide_eq_true rfl)) 0).trans (congrFun (f6 16 (of_decide_eq_true rfl)) 0)) ((congrFun (f22 16 (of_decide_eq_true rfl)) 1).trans (congrFun (f6 16 (of_decide_eq_true rfl)) 1)) ((congrFun (f22 16 (of_decide_eq_true rfl)) 2).trans (congrFun (f6 16 (of_decide_eq_true rfl)) 2)) ((f22 17 (of_decide_eq_true rfl)).trans (f6 17 (of_decide_eq_true rfl))) hI16
      have I33 : jI18 σ20 := jI18_fr ((congrFun (f22 18 (of_decide_eq_true rfl)) 0).trans (congrFun (f6 18 (of_decide_eq_true rfl)) 0)) ((f22 19 (of_decide_eq_true rfl)).trans (f6 19 (of_decide_eq_true rfl))) hI18
      have I34 : jI22 σ20 := jI22_fr ((congrFun (f22 22 (of_decide_eq_true rfl)) 0).trans (congrFun (f6 22 (of_decide_eq_true rfl)) 0)) ((f22 23 (of_decide_eq_true rfl)).trans (f6 23 (of_decide_eq_true rfl))) hI22
      exact by
       have I35 : jI31 σ20 := jI31_fr (congrFun (f22 31 (of_decide_eq_true rfl)) 8) (f22 33 (of_decide_eq_true rfl)) (f22 36 (of_decide_eq_true rfl)) I8
       have I36 : jI38 σ20 := jI38_fr ((congrFun (f22 38 (of_decide_eq_true rfl)) 0).trans (congrFun (f6 38 (of_decide_eq_true rfl)) 0)) ((congrFun (f22 38 (of_decide_eq_true rfl)) 1).trans (congrFun (f6 38 (of_decide_eq_true rfl)) 1)) ((f22 39 (of_decide_eq_true rfl)).trans (f6 39 (of_decide_eq_true rfl))) hI38
       have I37 : jI43 σ20 := jI43_fr ((congrFun (f22 43 (of_decide_eq_true rfl)) 8).trans (congrFun (f6 43 (of_decide_eq_true rfl)) 8)) hI43
       have I38 : jI47 σ20 := jI47_fr ((congrFun (f22 47 (of_decide_eq_true rfl)) 0).trans (congrFun (f6 47 (of_decide_eq_true rfl)) 0)) ((f22 48 (of_decide_eq_true rfl)).trans (f6 48 (of_decide_eq_true rfl))) ((f22 49 (of_decide_eq_true rfl)).trans (f6 49 (of_decide_eq_true rfl))) hI47
       have I39 : jI50 σ20 := jI50_fr ((f22 52 (of_decide_eq_true rfl)).trans (f6 52 (of_decide_eq_true rfl))) hI50
       have I40 : jI101 σ20 := jI101_fr (f23 4 (of_decide_eq_true rfl)) (f23 5 (of_decide_eq_true rfl)) (f22 56 (of_decide_eq_true rfl)) (f22 57 (of_decide_eq_true rfl)) (f22 58 (of_decide_eq_true rfl)) (f22 59 (of_decide_eq_true rfl)) I10
       have I41 : jI102 σ20 := jI102_fr (f23 6 (of_decide_eq_true rfl)) (f22 60 (of_decide_eq_true rfl)) (f22 61 (of_decide_eq_true rfl)) I11
       have I42 : jI103 σ20 := jI103_fr (f23 9 (of_decide_eq_true rfl)) I12
       have I43 : jI104 σ20 := jI104_fr (f23 10 (of_decide_eq_true rfl)) (f23 12 (of_decide_eq_true rfl)) (f23 13 (of_decide_eq_true rfl)) (f22 62 (of_decide_eq_true rfl)) (f22 67 (of_decide_eq_true rfl)) I13
       have I44 : jI105 σ20 := jI105_fr (f23 15 (of_decide_eq_true rfl)) (f22 65 (of_decide_eq_true rfl)) I14
       have I45 : jI106 σ20 := jI106_fr (f23 32 (of_decide_eq_true rfl)) (f22 70 (of_decide_eq_true rfl)) (f22 71 (of_decide_eq_true rfl)) (f22 72 (of_decide_eq_true rfl)) I15
       have I46 : jI107 σ20 := jI107_fr (f23 12 (of_decide_eq_true rfl)) (f23 47 (of_decide_eq_true rfl)) (f22 80 (of_decide_eq_true rfl)) I16
       have I47 : jI109 σ20 := jI109_fr ((f23 50 (of_decide_eq_true rfl)).trans (congrFun (f6 55 (of_decide_eq_true rfl)) 50)) hI109
       have I48 : jI110 σ20 := jI110_fr ((f22 86 (of_decide_eq_true rfl)).trans (f6 86 (of_decide_eq_true rfl))) ((f22 87 (of_decide_eq_true rfl)).trans (f6 87 (of_decide_eq_true rfl))) hI110
       have I49 : jI111 σ20 := jI111_fr ((f22 79 (of_decide_eq_true rfl)).trans (f6 79 (of_decide_eq_true rfl))) hI111
       have z50 : (σ20 38 0).toInt = (σ 38 0).toInt := (congrArg Int32.toInt (show σ20 38 0 = (σ 38 0) from ((congrFun (f22 38 (of_decide_eq_true rfl)) 0).trans (congrFun (f6 38 (of_decide_eq_true rfl)) 0))))
       have z51 : (σ20 55 32).toInt = (σ 55 32).toInt := (congrArg Int32.toInt (show σ20 55 32 = (σ 55 32) from ((f23 32 (of_decide_eq_true rfl)).trans (congrFun (f6 55 (of_decide_eq_true rfl)) 32))))
       exact by exact ih x28 σ20 τ _ _ ls (by have h9 := tx28; omega) ⟨I29, I30, I31, I32, I33, I34, I35, I36, I37, I38, I39, I40, I41, I42, I43, I44, I45, I46, I47, I48, I49, I24, p25, p26, (by omega)⟩ hP hS (lv_sub hl [0, 1, 2, 3] rfl)
set_option maxHeartbeats 4000000 in
set_option maxRecDepth 100000 in
theorem law_case_14 {p : Program} {e : Env} {s : State} {m : MethodId} {below : List Frame} {meth : Method} {c : Code} (l : Launch) {b L : Nat} {xs : Nat → Int32} {D : va_G} {cI cL : ClassId} {ad zz : Nat → Nat} (C0 : lw_At p s m meth c b L xs) (hJ : jD ad) (hA : ∀ q, jA ad q → s.heap.size ≤ q) (hK : jK D cI cL s) (hZ : jZ zz (fun q : Nat => s.heap.size ≤ q) s s.heap) {x0 : Int32} (hx0 : 0 ≤ x0.toInt) (hxL : x0.toInt + 6 ≤ (L : Int)) (hL : L ≤ 384) {σ : Nat → Nat → Int32} {τ : Nat → Nat → Int64} {H : Heap} {locs : List Loc} (hS : va_S (fun q : Nat => s.heap.size ≤ q) s.heap H locs) {ls : Array Slot} (hAll : jAll σ τ) (hP : jH D cI cL ad σ τ H) (hl : lv_has ls 4 [(3, .int x0), (2, .ref (ad 55)), (1, .ref (ad 0)), (0, .ref b)]) (ih : ∀ (x1 : Int32) (σ : Nat → Nat → Int32) (τ : Nat → Nat → Int64) (H : Heap) (locs : List Loc) (ls : Array Slot), x1.toInt = x0.toInt + 6 → jAll σ τ → jH D cI cL ad σ τ H → va_S (fun q : Nat => s.heap.size ≤ q) s.heap H locs → lv_has ls 4 [(3, .int x1), (2, .ref (ad 55)), (1, .ref (ad 0)), (0, .ref b)] → W p l e room_1 s m #[Value.ref b] below meth c H locs 90 348600 (lw_Z below #[Value.ref b] s) (F0 m 18 ls [])) : W p l e room_1 s m #[Value.ref b] below meth c H locs 90 348600 (lw_Z below #[Value.ref b] s) (F0 m 628 ls []) := by
  obtain ⟨hx, hb, hr, hml, hown, hts0, hX, hbl, hlocks, hgv⟩ := C0
  have hts : ∀ w ∈ wsL_law, w.before #[Value.ref b] s = true := fun w h => hts0 w (wsL_law_in w h)
  have hbA : ¬ (fun q : Nat => s.heap.size ≤ q) b := Nat.not_le.mpr hbl
  have hown : s.vm.findClass RL = some m.cls := hown
  obtain ⟨hI2, hI9, hI12, hI16, hI18, hI22, hI31, hI38, hI43, hI47, hI50, hI101, hI102, hI103, hI104, hI105, hI106, hI107, hI109, hI110, hI111, hI119, hs_jKept, hs_jBook, ht0⟩ := hAll
  have hL9 : (L : Int) ≤ 384 := by omega
  refine lv_aload_n hx hb dL_law_628 rfl (lv_at hl 2 rfl) ?_
  refine lv_aload_n hx hb dL_law_629 rfl (lv_at hl 3 rfl) ?_
  refine lv_iload_n hx hb dL_law_630 rfl (lv_at hl 0 rfl) ?_
  refine lv_iconst (v := 1) hx hb dL_law_631 (of_decide_eq_true rfl) ?_
  have g1 := jrg (rfl : x0.toInt = x0.toInt)
  refine lv_iadd hx hb dL_law_632 ?_
  refine lv_topi (fun x2 ex2 => ?_)
  exact by
   have tx2 : x2.toInt = x0.toInt + 1 := (jadd ex2 rfl jz_1 (by omega) (by omega)).trans (by omega)
   refine va_sld hx hb hX hbl hbA hS (jin tx2 (by omega) (by omega)) dL_law_633 ?_
   have g3 := jrg (rfl : (xs x2.toNatClampNeg).toInt = (xs x2.toNatClampNeg).toInt)
   refine lv_aload_n hx hb dL_law_634 rfl (lv_at hl 3 rfl) ?_
   refine lv_iload_n hx hb dL_law_635 rfl (lv_at hl 0 rfl) ?_
   refine lv_iconst (v := 2) hx hb dL_law_636 (of_decide_eq_true rfl) ?_
   refine lv_iadd hx hb dL_law_637 ?_
   refine lv_topi (fun x4 ex4 => ?_)
   have tx4 : x4.toInt = x0.toInt + 2 := (jadd ex4 rfl jz_2 (by omega) (by omega)).trans (by omega)
   exact by
    refine va_sld hx hb hX hbl hbA hS (jin tx4 (by omega) (by omega)) dL_law_638 ?_
    have g5 := jrg (rfl : (xs x4.toNatClampNeg).toInt = (xs x4.toNatClampNeg).toInt)
    refine jcallV (As := [.int (xs x2.toNatClampNeg), .int (xs x4.toNatClampNeg)]) (rest := []) ⟨hx, hb, hml, hown, hts⟩ hK hP hA hS hZ (c_X11_worth l D cI cL ad zz hJ σ τ (xs x2.toNatClampNeg) ((xs x2.toNatClampNeg).toInt) rfl (xs x4.toNatClampNeg) ((xs x4.toNatClampNeg).toInt) rfl hI2 hI16 hI22 hI31) cw_RL_73 (jc_0 cI cL ad σ τ) rfl ⟨Nat.le_of_ble_eq_true rfl, Nat.le_of_ble_eq_true rfl⟩ rfl rfl rfl hl.1 rfl (Nat.le_of_ble_eq_true rfl) dL_law_639 ⟨Nat.le_of_ble_eq_true rfl, Nat.le_of_ble_eq_true rfl⟩ (fun r7 σ6 τ6 H locs h6 hP hS => ?_)
    obtain ⟨rfl, f8, f9, I10, h6⟩ := h6
    refine lv_pop hx hb dL_law_642 rfl ?_
    refine lv_aload_n hx hb dL_law_643 rfl (lv_at hl 1 rfl) ?_
    refine lv_aload_n hx hb dL_law_644 rfl (lv_at hl 3 rfl) ?_
    refine lv_iload_n hx hb dL_law_645 rfl (lv_at hl 0 rfl) ?_
    refine lv_iconst (v := 1) hx hb dL_law_646 (of_decide_eq_true rfl) ?_
    refine lv_iadd hx hb dL_law_647 ?_
    refine jtopr ex2.symm ?_
    exact by
     refine va_sld hx hb hX hbl hbA hS (jin tx2 (by omega) (by omega)) dL_law_648 ?_
     refine lv_aload_n hx hb dL_law_649 rfl (lv_at hl 3 rfl) ?_
     refine lv_iload_n hx hb dL_law_650 rfl (lv_at hl 0 rfl) ?_
     refine lv_iconst (v := 2) hx hb dL_law_651 (of_decide_eq_true rfl) ?_
     refine lv_iadd hx hb dL_law_652 ?_
     refine jtopr ex4.symm ?_
     refine va_sld hx hb hX hbl hbA hS (jin tx4 (by omega) (by omega)) dL_law_653 ?_
     have I12 : jI101 σ6 := jI101_fr (congrFun (f8 55 (of_decide_eq_true rfl)) 4) (congrFun (f8 55 (of_decide_eq_true rfl)) 5) (f8 56 (of_decide_eq_true rfl)) (f8 57 (of_decide_eq_true rfl)) (f8 58 (of_decide_eq_true rfl)) (f8 59 (of_decide_eq_true rfl)) hI101
     have I13 : jI102 σ6 := jI102_fr (congrFun (f8 55 (of_decide_eq_true rfl)) 6) (f8 60 (of_decide_eq_true rfl)) (f8 61 (of_decide_eq_true rfl)) hI102
     exact by
      have I14 : jI103 σ6 := jI103_fr (congrFun (f8 55 (of_decide_eq_true rfl)) 9) hI103
      have I15 : jI104 σ6 := jI104_fr (congrFun (f8 55 (of_decide_eq_true rfl)) 10) (congrFun (f8 55 (of_decide_eq_true rfl)) 12) (congrFun (f8 55 (of_decide_eq_true rfl)) 13) (f8 62 (of_decide_eq_true rfl)) (f8 67 (of_decide_eq_true rfl)) hI104
      have I16 : jI105 σ6 := jI105_fr (congrFun (f8 55 (of_decide_eq_true rfl)) 15) (f8 65 (of_decide_eq_true rfl)) hI105
      have I17 : jI106 σ6 := jI106_fr (congrFun (f8 55 (of_decide_eq_true rfl)) 32) (f8 70 (of_decide_eq_true rfl)) (f8 71 (of_decide_eq_true rfl)) (f8 72 (of_decide_eq_true rfl)) hI106
      have I18 : jI119 σ6 := jI119_fr (f8 68 (of_decide_eq_true rfl)) hI119
      have p19 : jKept σ6 := jKept.fr (f8 75 (of_decide_eq_true rfl)) (f8 76 (of_decide_eq_true rfl)) (f8 77 (of_decide_eq_true rfl)) hs_jKept
      have z20 : (σ6 55 30).toInt = (σ 55 30).toInt := (congrArg Int32.toInt (show σ6 55 30 = (σ 55 30) from (congrFun (f8 55 (of_decide_eq_true rfl)) 30)))
      have z21 : (σ6 55 31).toInt = (σ 55 31).toInt := (congrArg Int32.toInt (show σ6 55 31 = (σ 55 31) from (congrFun (f8 55 (of_decide_eq_true rfl)) 31)))
      refine jcallV (As := [.int (xs x2.toNatClampNeg), .int (xs x4.toNatClampNeg)]) (rest := []) ⟨hx, hb, hml, hown, hts⟩ hK hP hA hS hZ (c_X12_worth l D cI cL ad zz hJ σ6 τ (xs x2.toNatClampNeg) ((xs x2.toNatClampNeg).toInt) rfl (xs x4.toNatClampNeg) ((xs x4.toNatClampNeg).toInt) rfl I12 I13 I14 I15 I16 I17 I18 p19) cw_RL_76 (jc_55 cI cL ad σ6 τ) rfl ⟨Nat.le_of_ble_eq_true rfl, Nat.le_of_ble_eq_true rfl⟩ rfl rfl rfl hl.1 rfl (Nat.le_of_ble_eq_true rfl) dL_law_654 ⟨Nat.le_of_ble_eq_true rfl, Nat.le_of_ble_eq_true rfl⟩ (fun r23 σ22 τ22 H locs h22 hP hS => ?_)
      obtain ⟨rfl, f24, f25, I26, p27, h22⟩ := h22
      obtain ⟨k29, h22⟩ := h22
      refine lv_pop hx hb dL_law_657 rfl ?_
      refine lv_goto (tgt := 1357) hx hb dL_law_658 (of_decide_eq_true rfl) ?_
      obtain ⟨x30, ex30⟩ : ∃ y : Int32, y = x0 + 6 := ⟨_, rfl⟩
      exact by
       have tx30 : x30.toInt = x0.toInt + 6 := (jadd ex30 rfl jz_6 (by omega) (by omega)).trans (by omega)
       refine lv_iinc (v := x30) (lv' := [(3, .int x30), (2, .ref (ad 55)), (1, .ref (ad 0)), (0, .ref b)]) hx hb dL_law_1357 hl (k := 0) rfl (by rw [ex30]; rfl) (of_decide_eq_true rfl) rfl (fun ls hl => ?_)
       refine lv_goto (tgt := 18) hx hb dL_law_1360 (of_decide_eq_true rfl) ?_
       have I31 : jI2 σ22 := jI2_fr ((congrFun (f24 2 (of_decide_eq_true rfl)) 0).trans (congrFun (f8 2 (of_decide_eq_true rfl)) 0)) ((congrFun (f24 2 (of_decide_eq_true rfl)) 1).trans (congrFun (f8 2 (of_decide_eq_true rfl)) 1)) ((congrFun (f24 2 (of_decide_eq_true rfl)) 2).trans (congrFun (f8 2 (of_decide_eq_true rfl)) 2)) ((congrFun (f24 2 (of_decide_eq_true rfl)) 3).trans (congrFun (f8 2 (of_decide_eq_true rfl)) 3)) ((f24 6 (of_decide_eq_true rfl)).trans (f8 6 (of_decide_eq_true rfl))) hI2
       have I32 : jI9 σ22 := jI9_fr ((congrFun (f24 9 (of_decide_eq_true rfl)) 0).trans (congrFun (f8 9 (of_decide_eq_true rfl)) 0)) ((f24 10 (of_decide_eq_true rfl)).trans (f8 10 (of_decide_eq_true rfl))) ((f24 11 (of_decide_eq_true rfl)).trans (f8 11 (of_decide_eq_true rfl))) hI9
       have I33 : jI12 σ22 := jI12_fr ((congrFun (f24 12 (of_decide_eq_true rfl)) 0).trans (congrFun (f8 12 (of_decide_eq_true rfl)) 0)) ((f24 13 (of_decide_eq_true rfl)).trans (f8 13 (of_decide_eq_true rfl))) hI12
       have I34 : jI16 σ22 := jI16_fr ((congrFun (f24 16 (of_decide_eq_true rfl)) 0).trans (congrFun (f8 16 (of_decide_eq_true rfl)) 0)) ((congrFun (f24 16 (of_decide_eq_true rfl)) 1).trans (congrFun (f8 16 (of_decide_eq_true rfl)) 1)) ((congrFun (f24 16 (of_decide_eq_true rfl)) 2).trans (congrFun (f8 16 (of_decide_eq_true rfl)) 2)) ((f24 17 (of_decide_eq_true rfl)).trans (f8 17 (of_decide_eq_true rfl))) hI16
       have I35 : jI18 σ22 := jI18_fr ((congrFun (f24 18 (of_decide_eq_true rfl)) 0).trans (congrFun (f8 18 (of_decide_eq_true rfl)) 0)) ((f24 19 (of_decide_eq_true rfl)).trans (f8 19 (of_decide_eq_true rfl))) hI18
       have I36 : jI22 σ22 := jI22_fr ((congrFun (f24 22 (of_decide_eq_true rfl)) 0).trans (congrFun (f8 22 (of_decide_eq_true rfl)) 0)) ((f24 23 (of_decide_eq_true rfl)).trans (f8 23 (of_decide_eq_true rfl))) hI22
       exact by
        have I37 : jI31 σ22 := jI31_fr (congrFun (f24 31 (of_decide_eq_true rfl)) 8) (f24 33 (of_decide_eq_true rfl)) (f24 36 (of_decide_eq_true rfl)) I10
        have I38 : jI38 σ22 := jI38_fr ((congrFun (f24 38 (of_decide_eq_true rfl)) 0).trans (congrFun (f8 38 (of_decide_eq_true rfl)) 0)) ((congrFun (f24 38 (of_decide_eq_true rfl)) 1).trans (congrFun (f8 38 (of_decide_eq_true rfl)) 1)) ((f24 39 (of_decide_eq_true rfl)).trans (f8 39 (of_decide_eq_true rfl))) hI38
        have I39 : jI43 σ22 := jI43_fr ((congrFun (f24 43 (of_decide_eq_true rfl)) 8).trans (congrFun (f8 43 (of_decide_eq_true rfl)) 8)) hI43
        have I40 : jI47 σ22 := jI47_fr ((congrFun (f24 47 (of_decide_eq_true rfl)) 0).trans (congrFun (f8 47 (of_decide_eq_true rfl)) 0)) ((f24 48 (of_decide_eq_true rfl)).trans (f8 48 (of_decide_eq_true rfl))) ((f24 49 (of_decide_eq_true rfl)).trans (f8 49 (of_decide_eq_true rfl))) hI47
        have I41 : jI50 σ22 := jI50_fr ((f24 52 (of_decide_eq_true rfl)).trans (f8 52 (of_decide_eq_true rfl))) hI50
        have I42 : jI101 σ22 := jI101_fr (f25 4 (of_decide_eq_true rfl)) (f25 5 (of_decide_eq_true rfl)) (f24 56 (of_decide_eq_true rfl)) (f24 57 (of_decide_eq_true rfl)) (f24 58 (of_decide_eq_true rfl)) (f24 59 (of_decide_eq_true rfl)) I12
        have I43 : jI102 σ22 := jI102_fr (f25 6 (of_decide_eq_true rfl)) (f24 60 (of_decide_eq_true rfl)) (f24 61 (of_decide_eq_true rfl)) I13
        have I44 : jI103 σ22 := jI103_fr (f25 9 (of_decide_eq_true rfl)) I14
        have I45 : jI104 σ22 := jI104_fr (f25 10 (of_decide_eq_true rfl)) (f25 12 (of_decide_eq_true rfl)) (f25 13 (of_decide_eq_true rfl)) (f24 62 (of_decide_eq_true rfl)) (f24 67 (of_decide_eq_true rfl)) I15
        have I46 : jI105 σ22 := jI105_fr (f25 15 (of_decide_eq_true rfl)) (f24 65 (of_decide_eq_true rfl)) I16
        have I47 : jI106 σ22 := jI106_fr (f25 32 (of_decide_eq_true rfl)) (f24 70 (of_decide_eq_true rfl)) (f24 71 (of_decide_eq_true rfl)) (f24 72 (of_decide_eq_true rfl)) I17
        have I48 : jI107 σ22 := jI107_fr ((f25 12 (of_decide_eq_true rfl)).trans (congrFun (f8 55 (of_decide_eq_true rfl)) 12)) ((f25 47 (of_decide_eq_true rfl)).trans (congrFun (f8 55 (of_decide_eq_true rfl)) 47)) ((f24 80 (of_decide_eq_true rfl)).trans (f8 80 (of_decide_eq_true rfl))) hI107
        have I49 : jI109 σ22 := jI109_fr ((f25 50 (of_decide_eq_true rfl)).trans (congrFun (f8 55 (of_decide_eq_true rfl)) 50)) hI109
        have I50 : jI110 σ22 := jI110_fr ((f24 86 (of_decide_eq_true rfl)).trans (f8 86 (of_decide_eq_true rfl))) ((f24 87 (of_decide_eq_true rfl)).trans (f8 87 (of_decide_eq_true rfl))) hI110
        have I51 : jI111 σ22 := jI111_fr ((f24 79 (of_decide_eq_true rfl)).trans (f8 79 (of_decide_eq_true rfl))) hI111
        have p52 : jBook σ22 := jBook.fr ((f25 47 (of_decide_eq_true rfl)).trans (congrFun (f8 55 (of_decide_eq_true rfl)) 47)) ((f25 10 (of_decide_eq_true rfl)).trans (congrFun (f8 55 (of_decide_eq_true rfl)) 10)) ((f24 81 (of_decide_eq_true rfl)).trans (f8 81 (of_decide_eq_true rfl))) hs_jBook
        have z53 : (σ22 38 0).toInt = (σ 38 0).toInt := (congrArg Int32.toInt (show σ22 38 0 = (σ 38 0) from ((congrFun (f24 38 (of_decide_eq_true rfl)) 0).trans (congrFun (f8 38 (of_decide_eq_true rfl)) 0))))
        have z54 : (σ22 55 32).toInt = (σ 55 32).toInt := (congrArg Int32.toInt (show σ22 55 32 = (σ 55 32) from ((f25 32 (of_decide_eq_true rfl)).trans (congrFun (f8 55 (of_decide_eq_true rfl)) 32))))
        exact by exact ih x30 σ22 τ _ _ ls (by have h9 := tx30; omega) ⟨I31, I32, I33, I34, I35, I36, I37, I38, I39, I40, I41, I42, I43, I44, I45, I46, I47, I48, I49, I50, I51, I26, p27, p52, (by omega)⟩ hP hS (lv_sub hl [0, 1, 2, 3] rfl)
set_option maxHeartbeats 4000000 in
set_option maxRecDepth 100000 in
theorem law_case_15 {p : Program} {e : Env} {s : State} {m : MethodId} {below : List Frame} {meth : Method} {c : Code} (l : Launch) {b L : Nat} {xs : Nat → Int32} {D : va_G} {cI cL : ClassId} {ad zz : Nat → Nat} (C0 : lw_At p s m meth c b L xs) (hJ : jD ad) (hA : ∀ q, jA ad q → s.heap.size ≤ q) (hK : jK D cI cL s) (hZ : jZ zz (fun q : Nat => s.heap.size ≤ q) s s.heap) {x0 : Int32} (hx0 : 0 ≤ x0.toInt) (hxL : x0.toInt + 6 ≤ (L : Int)) (hL : L ≤ 384) {σ : Nat → Nat → Int32} {τ : Nat → Nat → Int64} {H : Heap} {locs : List Loc} (hS : va_S (fun q : Nat => s.heap.size ≤ q) s.heap H locs) {ls : Array Slot} (hAll : jAll σ τ) (hP : jH D cI cL ad σ τ H) (hl : lv_has ls 4 [(3, .int x0), (2, .ref (ad 55)), (1, .ref (ad 0)), (0, .ref b)]) (ih : ∀ (x1 : Int32) (σ : Nat → Nat → Int32) (τ : Nat → Nat → Int64) (H : Heap) (locs : List Loc) (ls : Array Slot), x1.toInt = x0.toInt + 6 → jAll σ τ → jH D cI cL ad σ τ H → va_S (fun q : Nat => s.heap.size ≤ q) s.heap H locs → lv_has ls 4 [(3, .int x1), (2, .ref (ad 55)), (1, .ref (ad 0)), (0, .ref b)] → W p l e room_1 s m #[Value.ref b] below meth c H locs 90 348600 (lw_Z below #[Value.ref b] s) (F0 m 18 ls [])) : W p l e room_1 s m #[Value.ref b] below meth c H locs 90 348600 (lw_Z below #[Value.ref b] s) (F0 m 661 ls []) := by
  obtain ⟨hx, hb, hr, hml, hown, hts0, hX, hbl, hlocks, hgv⟩ := C0
  have hts : ∀ w ∈ wsL_law, w.before #[Value.ref b] s = true := fun w h => hts0 w (wsL_law_in w h)
  have hbA : ¬ (fun q : Nat => s.heap.size ≤ q) b := Nat.not_le.mpr hbl
  have hown : s.vm.findClass RL = some m.cls := hown
  obtain ⟨hI2, hI9, hI12, hI16, hI18, hI22, hI31, hI38, hI43, hI47, hI50, hI101, hI102, hI103, hI104, hI105, hI106, hI107, hI109, hI110, hI111, hI119, hs_jKept, hs_jBook, ht0⟩ := hAll
  have hL9 : (L : Int) ≤ 384 := by omega
  refine lv_aload_n hx hb dL_law_661 rfl (lv_at hl 2 rfl) ?_
  refine lv_aload_n hx hb dL_law_662 rfl (lv_at hl 3 rfl) ?_
  refine lv_iload_n hx hb dL_law_663 rfl (lv_at hl 0 rfl) ?_
  refine lv_iconst (v := 1) hx hb dL_law_664 (of_decide_eq_true rfl) ?_
  have g1 := jrg (rfl : x0.toInt = x0.toInt)
  refine lv_iadd hx hb dL_law_665 ?_
  refine lv_topi (fun x2 ex2 => ?_)
  exact by
   have tx2 : x2.toInt = x0.toInt + 1 := (jadd ex2 rfl jz_1 (by omega) (by omega)).trans (by omega)
   refine va_sld hx hb hX hbl hbA hS (jin tx2 (by omega) (by omega)) dL_law_666 ?_
   have g3 := jrg (rfl : (xs x2.toNatClampNeg).toInt = (xs x2.toNatClampNeg).toInt)
   refine lv_aload_n hx hb dL_law_667 rfl (lv_at hl 3 rfl) ?_
   refine lv_iload_n hx hb dL_law_668 rfl (lv_at hl 0 rfl) ?_
   refine lv_iconst (v := 2) hx hb dL_law_669 (of_decide_eq_true rfl) ?_
   refine lv_iadd hx hb dL_law_670 ?_
   refine lv_topi (fun x4 ex4 => ?_)
   have tx4 : x4.toInt = x0.toInt + 2 := (jadd ex4 rfl jz_2 (by omega) (by omega)).trans (by omega)
   exact by
    refine va_sld hx hb hX hbl hbA hS (jin tx4 (by omega) (by omega)) dL_law_671 ?_
    have g5 := jrg (rfl : (xs x4.toNatClampNeg).toInt = (xs x4.toNatClampNeg).toInt)
    refine jcallV (As := [.int (xs x2.toNatClampNeg), .int (xs x4.toNatClampNeg)]) (rest := []) ⟨hx, hb, hml, hown, hts⟩ hK hP hA hS hZ (c_X11_fielded l D cI cL ad zz hJ σ τ (xs x2.toNatClampNeg) ((xs x2.toNatClampNeg).toInt) rfl (xs x4.toNatClampNeg) ((xs x4.toNatClampNeg).toInt) rfl hI2 hI16 hI22 hI31) cw_RL_77 (jc_0 cI cL ad σ τ) rfl ⟨Nat.le_of_ble_eq_true rfl, Nat.le_of_ble_eq_true rfl⟩ rfl rfl rfl hl.1 rfl (Nat.le_of_ble_eq_true rfl) dL_law_672 ⟨Nat.le_of_ble_eq_true rfl, Nat.le_of_ble_eq_true rfl⟩ (fun r7 σ6 τ6 H locs h6 hP hS => ?_)
    obtain ⟨rfl, f8, f9, I10, h6⟩ := h6
    refine lv_pop hx hb dL_law_675 rfl ?_
    refine lv_aload_n hx hb dL_law_676 rfl (lv_at hl 1 rfl) ?_
    refine lv_aload_n hx hb dL_law_677 rfl (lv_at hl 3 rfl) ?_
    refine lv_iload_n hx hb dL_law_678 rfl (lv_at hl 0 rfl) ?_
    refine lv_iconst (v := 1) hx hb dL_law_679 (of_decide_eq_true rfl) ?_
    refine lv_iadd hx hb dL_law_680 ?_
    refine jtopr ex2.symm ?_
    exact by
     refine va_sld hx hb hX hbl hbA hS (jin tx2 (by omega) (by omega)) dL_law_681 ?_
     refine lv_aload_n hx hb dL_law_682 rfl (lv_at hl 3 rfl) ?_
     refine lv_iload_n hx hb dL_law_683 rfl (lv_at hl 0 rfl) ?_
     refine lv_iconst (v := 2) hx hb dL_law_684 (of_decide_eq_true rfl) ?_
     refine lv_iadd hx hb dL_law_685 ?_
     refine jtopr ex4.symm ?_
     refine va_sld hx hb hX hbl hbA hS (jin tx4 (by omega) (by omega)) dL_law_686 ?_
     have I12 : jI101 σ6 := jI101_fr (congrFun (f8 55 (of_decide_eq_true rfl)) 4) (congrFun (f8 55 (of_decide_eq_true rfl)) 5) (f8 56 (of_decide_eq_true rfl)) (f8 57 (of_decide_eq_true rfl)) (f8 58 (of_decide_eq_true rfl)) (f8 59 (of_decide_eq_true rfl)) hI101
     have I13 : jI102 σ6 := jI102_fr (congrFun (f8 55 (of_decide_eq_true rfl)) 6) (f8 60 (of_decide_eq_true rfl)) (f8 61 (of_decide_eq_true rfl)) hI102
     exact by
      have I14 : jI103 σ6 := jI103_fr (congrFun (f8 55 (of_decide_eq_true rfl)) 9) hI103
      have I15 : jI104 σ6 := jI104_fr (congrFun (f8 55 (of_decide_eq_true rfl)) 10) (congrFun (f8 55 (of_decide_eq_true rfl)) 12) (congrFun (f8 55 (of_decide_eq_true rfl)) 13) (f8 62 (of_decide_eq_true rfl)) (f8 67 (of_decide_eq_true rfl)) hI104
      have I16 : jI105 σ6 := jI105_fr (congrFun (f8 55 (of_decide_eq_true rfl)) 15) (f8 65 (of_decide_eq_true rfl)) hI105
      have I17 : jI106 σ6 := jI106_fr (congrFun (f8 55 (of_decide_eq_true rfl)) 32) (f8 70 (of_decide_eq_true rfl)) (f8 71 (of_decide_eq_true rfl)) (f8 72 (of_decide_eq_true rfl)) hI106
      have I18 : jI119 σ6 := jI119_fr (f8 68 (of_decide_eq_true rfl)) hI119
      have p19 : jKept σ6 := jKept.fr (f8 75 (of_decide_eq_true rfl)) (f8 76 (of_decide_eq_true rfl)) (f8 77 (of_decide_eq_true rfl)) hs_jKept
      have z20 : (σ6 55 9).toInt = (σ 55 9).toInt := (congrArg Int32.toInt (show σ6 55 9 = (σ 55 9) from (congrFun (f8 55 (of_decide_eq_true rfl)) 9)))
      refine jcallV (As := [.int (xs x2.toNatClampNeg), .int (xs x4.toNatClampNeg)]) (rest := []) ⟨hx, hb, hml, hown, hts⟩ hK hP hA hS hZ (c_X12_fielded l D cI cL ad zz hJ σ6 τ (xs x2.toNatClampNeg) ((xs x2.toNatClampNeg).toInt) rfl (xs x4.toNatClampNeg) ((xs x4.toNatClampNeg).toInt) rfl I12 I13 I14 I15 I16 I17 I18 p19) cw_RL_80 (jc_55 cI cL ad σ6 τ) rfl ⟨Nat.le_of_ble_eq_true rfl, Nat.le_of_ble_eq_true rfl⟩ rfl rfl rfl hl.1 rfl (Nat.le_of_ble_eq_true rfl) dL_law_687 ⟨Nat.le_of_ble_eq_true rfl, Nat.le_of_ble_eq_true rfl⟩ (fun r22 σ21 τ21 H locs h21 hP hS => ?_)
      obtain ⟨rfl, f23, f24, I25, I26, p27, h21⟩ := h21
      obtain ⟨k29, h21⟩ := h21
      refine lv_pop hx hb dL_law_690 rfl ?_
      refine lv_goto (tgt := 1357) hx hb dL_law_691 (of_decide_eq_true rfl) ?_
      obtain ⟨x30, ex30⟩ : ∃ y : Int32, y = x0 + 6 := ⟨_, rfl⟩
      exact by
       have tx30 : x30.toInt = x0.toInt + 6 := (jadd ex30 rfl jz_6 (by omega) (by omega)).trans (by omega)
       refine lv_iinc (v := x30) (lv' := [(3, .int x30), (2, .ref (ad 55)), (1, .ref (ad 0)), (0, .ref b)]) hx hb dL_law_1357 hl (k := 0) rfl (by rw [ex30]; rfl) (of_decide_eq_true rfl) rfl (fun ls hl => ?_)
       refine lv_goto (tgt := 18) hx hb dL_law_1360 (of_decide_eq_true rfl) ?_
       have I31 : jI2 σ21 := jI2_fr ((congrFun (f23 2 (of_decide_eq_true rfl)) 0).trans (congrFun (f8 2 (of_decide_eq_true rfl)) 0)) ((congrFun (f23 2 (of_decide_eq_true rfl)) 1).trans (congrFun (f8 2 (of_decide_eq_true rfl)) 1)) ((congrFun (f23 2 (of_decide_eq_true rfl)) 2).trans (congrFun (f8 2 (of_decide_eq_true rfl)) 2)) ((congrFun (f23 2 (of_decide_eq_true rfl)) 3).trans (congrFun (f8 2 (of_decide_eq_true rfl)) 3)) ((f23 6 (of_decide_eq_true rfl)).trans (f8 6 (of_decide_eq_true rfl))) hI2
       have I32 : jI9 σ21 := jI9_fr ((congrFun (f23 9 (of_decide_eq_true rfl)) 0).trans (congrFun (f8 9 (of_decide_eq_true rfl)) 0)) ((f23 10 (of_decide_eq_true rfl)).trans (f8 10 (of_decide_eq_true rfl))) ((f23 11 (of_decide_eq_true rfl)).trans (f8 11 (of_decide_eq_true rfl))) hI9
       have I33 : jI12 σ21 := jI12_fr ((congrFun (f23 12 (of_decide_eq_true rfl)) 0).trans (congrFun (f8 12 (of_decide_eq_true rfl)) 0)) ((f23 13 (of_decide_eq_true rfl)).trans (f8 13 (of_decide_eq_true rfl))) hI12
       have I34 : jI16 σ21 := jI16_fr ((congrFun (f23 16 (of_decide_eq_true rfl)) 0).trans (congrFun (f8 16 (of_decide_eq_true rfl)) 0)) ((congrFun (f23 16 (of_decide_eq_true rfl)) 1).trans (congrFun (f8 16 (of_decide_eq_true rfl)) 1)) ((congrFun (f23 16 (of_decide_eq_true rfl)) 2).trans (congrFun (f8 16 (of_decide_eq_true rfl)) 2)) ((f23 17 (of_decide_eq_true rfl)).trans (f8 17 (of_decide_eq_true rfl))) hI16
       have I35 : jI18 σ21 := jI18_fr ((congrFun (f23 18 (of_decide_eq_true rfl)) 0).trans (congrFun (f8 18 (of_decide_eq_true rfl)) 0)) ((f23 19 (of_decide_eq_true rfl)).trans (f8 19 (of_decide_eq_true rfl))) hI18
       have I36 : jI22 σ21 := jI22_fr ((congrFun (f23 22 (of_decide_eq_true rfl)) 0).trans (congrFun (f8 22 (of_decide_eq_true rfl)) 0)) ((f23 23 (of_decide_eq_true rfl)).trans (f8 23 (of_decide_eq_true rfl))) hI22
       exact by
        have I37 : jI31 σ21 := jI31_fr (congrFun (f23 31 (of_decide_eq_true rfl)) 8) (f23 33 (of_decide_eq_true rfl)) (f23 36 (of_decide_eq_true rfl)) I10
        have I38 : jI38 σ21 := jI38_fr ((congrFun (f23 38 (of_decide_eq_true rfl)) 0).trans (congrFun (f8 38 (of_decide_eq_true rfl)) 0)) ((congrFun (f23 38 (of_decide_eq_true rfl)) 1).trans (congrFun (f8 38 (of_decide_eq_true rfl)) 1)) ((f23 39 (of_decide_eq_true rfl)).trans (f8 39 (of_decide_eq_true rfl))) hI38
        have I39 : jI43 σ21 := jI43_fr ((congrFun (f23 43 (of_decide_eq_true rfl)) 8).trans (congrFun (f8 43 (of_decide_eq_true rfl)) 8)) hI43
        have I40 : jI47 σ21 := jI47_fr ((congrFun (f23 47 (of_decide_eq_true rfl)) 0).trans (congrFun (f8 47 (of_decide_eq_true rfl)) 0)) ((f23 48 (of_decide_eq_true rfl)).trans (f8 48 (of_decide_eq_true rfl))) ((f23 49 (of_decide_eq_true rfl)).trans (f8 49 (of_decide_eq_true rfl))) hI47
        have I41 : jI50 σ21 := jI50_fr ((f23 52 (of_decide_eq_true rfl)).trans (f8 52 (of_decide_eq_true rfl))) hI50
        have I42 : jI101 σ21 := jI101_fr (f24 4 (of_decide_eq_true rfl)) (f24 5 (of_decide_eq_true rfl)) (f23 56 (of_decide_eq_true rfl)) (f23 57 (of_decide_eq_true rfl)) (f23 58 (of_decide_eq_true rfl)) (f23 59 (of_decide_eq_true rfl)) I12
        have I43 : jI102 σ21 := jI102_fr (f24 6 (of_decide_eq_true rfl)) (f23 60 (of_decide_eq_true rfl)) (f23 61 (of_decide_eq_true rfl)) I13
        have I44 : jI104 σ21 := jI104_fr (f24 10 (of_decide_eq_true rfl)) (f24 12 (of_decide_eq_true rfl)) (f24 13 (of_decide_eq_true rfl)) (f23 62 (of_decide_eq_true rfl)) (f23 67 (of_decide_eq_true rfl)) I15
        have I45 : jI105 σ21 := jI105_fr (f24 15 (of_decide_eq_true rfl)) (f23 65 (of_decide_eq_true rfl)) I16
        have I46 : jI106 σ21 := jI106_fr (f24 32 (of_decide_eq_true rfl)) (f23 70 (of_decide_eq_true rfl)) (f23 71 (of_decide_eq_true rfl)) (f23 72 (of_decide_eq_true rfl)) I17
        have I47 : jI107 σ21 := jI107_fr ((f24 12 (of_decide_eq_true rfl)).trans (congrFun (f8 55 (of_decide_eq_true rfl)) 12)) ((f24 47 (of_decide_eq_true rfl)).trans (congrFun (f8 55 (of_decide_eq_true rfl)) 47)) ((f23 80 (of_decide_eq_true rfl)).trans (f8 80 (of_decide_eq_true rfl))) hI107
        have I48 : jI109 σ21 := jI109_fr ((f24 50 (of_decide_eq_true rfl)).trans (congrFun (f8 55 (of_decide_eq_true rfl)) 50)) hI109
        have I49 : jI110 σ21 := jI110_fr ((f23 86 (of_decide_eq_true rfl)).trans (f8 86 (of_decide_eq_true rfl))) ((f23 87 (of_decide_eq_true rfl)).trans (f8 87 (of_decide_eq_true rfl))) hI110
        have I50 : jI111 σ21 := jI111_fr ((f23 79 (of_decide_eq_true rfl)).trans (f8 79 (of_decide_eq_true rfl))) hI111
        have p51 : jBook σ21 := jBook.fr ((f24 47 (of_decide_eq_true rfl)).trans (congrFun (f8 55 (of_decide_eq_true rfl)) 47)) ((f24 10 (of_decide_eq_true rfl)).trans (congrFun (f8 55 (of_decide_eq_true rfl)) 10)) ((f23 81 (of_decide_eq_true rfl)).trans (f8 81 (of_decide_eq_true rfl))) hs_jBook
        have z52 : (σ21 38 0).toInt = (σ 38 0).toInt := (congrArg Int32.toInt (show σ21 38 0 = (σ 38 0) from ((congrFun (f23 38 (of_decide_eq_true rfl)) 0).trans (congrFun (f8 38 (of_decide_eq_true rfl)) 0))))
        have z53 : (σ21 55 32).toInt = (σ 55 32).toInt := (congrArg Int32.toInt (show σ21 55 32 = (σ 55 32) from ((f24 32 (of_decide_eq_true rfl)).trans (congrFun (f8 55 (of_decide_eq_true rfl)) 32))))
        exact by exact ih x30 σ21 τ _ _ ls (by have h9 := tx30; omega) ⟨I31, I32, I33, I34, I35, I36, I37, I38, I39, I40, I41, I42, I43, I25, I44, I45, I46, I47, I48, I49, I50, I26, p27, p51, (by omega)⟩ hP hS (lv_sub hl [0, 1, 2, 3] rfl)
set_option maxHeartbeats 4000000 in
set_option maxRecDepth 100000 in
theorem law_case_16 {p : Program} {e : Env} {s : State} {m : MethodId} {below : List Frame} {meth : Method} {c : Code} (l : Launch) {b L : Nat} {xs : Nat → Int32} {D : va_G} {cI cL : ClassId} {ad zz : Nat → Nat} (C0 : lw_At p s m meth c b L xs) (hJ : jD ad) (hA : ∀ q, jA ad q → s.heap.size ≤ q) (hK : jK D cI cL s) (hZ : jZ zz (fun q : Nat => s.heap.size ≤ q) s s.heap) {x0 : Int32} (hx0 : 0 ≤ x0.toInt) (hxL : x0.toInt + 6 ≤ (L : Int)) (hL : L ≤ 384) {σ : Nat → Nat → Int32} {τ : Nat → Nat → Int64} {H : Heap} {locs : List Loc} (hS : va_S (fun q : Nat => s.heap.size ≤ q) s.heap H locs) {ls : Array Slot} (hAll : jAll σ τ) (hP : jH D cI cL ad σ τ H) (hl : lv_has ls 4 [(3, .int x0), (2, .ref (ad 55)), (1, .ref (ad 0)), (0, .ref b)]) (ih : ∀ (x1 : Int32) (σ : Nat → Nat → Int32) (τ : Nat → Nat → Int64) (H : Heap) (locs : List Loc) (ls : Array Slot), x1.toInt = x0.toInt + 6 → jAll σ τ → jH D cI cL ad σ τ H → va_S (fun q : Nat => s.heap.size ≤ q) s.heap H locs → lv_has ls 4 [(3, .int x1), (2, .ref (ad 55)), (1, .ref (ad 0)), (0, .ref b)] → W p l e room_1 s m #[Value.ref b] below meth c H locs 90 348600 (lw_Z below #[Value.ref b] s) (F0 m 18 ls [])) : W p l e room_1 s m #[Value.ref b] below meth c H locs 90 348600 (lw_Z below #[Value.ref b] s) (F0 m 694 ls []) := by
  obtain ⟨hx, hb, hr, hml, hown, hts0, hX, hbl, hlocks, hgv⟩ := C0
  have hts : ∀ w ∈ wsL_law, w.before #[Value.ref b] s = true := fun w h => hts0 w (wsL_law_in w h)
  have hbA : ¬ (fun q : Nat => s.heap.size ≤ q) b := Nat.not_le.mpr hbl
  have hown : s.vm.findClass RL = some m.cls := hown
  obtain ⟨hI2, hI9, hI12, hI16, hI18, hI22, hI31, hI38, hI43, hI47, hI50, hI101, hI102, hI103, hI104, hI105, hI106, hI107, hI109, hI110, hI111, hI119, hs_jKept, hs_jBook, ht0⟩ := hAll
  have hL9 : (L : Int) ≤ 384 := by omega
  refine lv_aload_n hx hb dL_law_694 rfl (lv_at hl 2 rfl) ?_
  refine lv_aload_n hx hb dL_law_695 rfl (lv_at hl 3 rfl) ?_
  refine lv_iload_n hx hb dL_law_696 rfl (lv_at hl 0 rfl) ?_
  refine lv_iconst (v := 1) hx hb dL_law_697 (of_decide_eq_true rfl) ?_
  have g1 := jrg (rfl : x0.toInt = x0.toInt)
  refine lv_iadd hx hb dL_law_698 ?_
  refine lv_topi (fun x2 ex2 => ?_)
  exact by
   have tx2 : x2.toInt = x0.toInt + 1 := (jadd ex2 rfl jz_1 (by omega) (by omega)).trans (by omega)
   refine va_sld hx hb hX hbl hbA hS (jin tx2 (by omega) (by omega)) dL_law_699 ?_
   have g3 := jrg (rfl : (xs x2.toNatClampNeg).toInt = (xs x2.toNatClampNeg).toInt)
   refine jcallV (As := [.int (xs x2.toNatClampNeg)]) (rest := []) ⟨hx, hb, hml, hown, hts⟩ hK hP hA hS hZ (c_X11_kept l D cI cL ad zz hJ σ τ (xs x2.toNatClampNeg) ((xs x2.toNatClampNeg).toInt) rfl hI2 hI16 hI22 hI31) cw_RL_81 (jc_0 cI cL ad σ τ) rfl ⟨Nat.le_of_ble_eq_true rfl, Nat.le_of_ble_eq_true rfl⟩ rfl rfl rfl hl.1 rfl (Nat.le_of_ble_eq_true rfl) dL_law_700 ⟨Nat.le_of_ble_eq_true rfl, Nat.le_of_ble_eq_true rfl⟩ (fun r5 σ4 τ4 H locs h4 hP hS => ?_)
   obtain ⟨rfl, f6, f7, I8, h4⟩ := h4
   refine lv_pop hx hb dL_law_703 rfl ?_
   refine lv_aload_n hx hb dL_law_704 rfl (lv_at hl 1 rfl) ?_
   refine lv_aload_n hx hb dL_law_705 rfl (lv_at hl 3 rfl) ?_
   refine lv_iload_n hx hb dL_law_706 rfl (lv_at hl 0 rfl) ?_
   exact by
    refine lv_iconst (v := 1) hx hb dL_law_707 (of_decide_eq_true rfl) ?_
    refine lv_iadd hx hb dL_law_708 ?_
    refine jtopr ex2.symm ?_
    refine va_sld hx hb hX hbl hbA hS (jin tx2 (by omega) (by omega)) dL_law_709 ?_
    have I10 : jI101 σ4 := jI101_fr (congrFun (f6 55 (of_decide_eq_true rfl)) 4) (congrFun (f6 55 (of_decide_eq_true rfl)) 5) (f6 56 (of_decide_eq_true rfl)) (f6 57 (of_decide_eq_true rfl)) (f6 58 (of_decide_eq_true rfl)) (f6 59 (of_decide_eq_true rfl)) hI101
    have I11 : jI102 σ4 := jI102_fr (congrFun (f6 55 (of_decide_eq_true rfl)) 6) (f6 60 (of_decide_eq_true rfl)) (f6 61 (of_decide_eq_true rfl)) hI102
    have I12 : jI103 σ4 := jI103_fr (congrFun (f6 55 (of_decide_eq_true rfl)) 9) hI103
    have I13 : jI104 σ4 := jI104_fr (congrFun (f6 55 (of_decide_eq_true rfl)) 10) (congrFun (f6 55 (of_decide_eq_true rfl)) 12) (congrFun (f6 55 (of_decide_eq_true rfl)) 13) (f6 62 (of_decide_eq_true rfl)) (f6 67 (of_decide_eq_true rfl)) hI104
    have I14 : jI105 σ4 := jI105_fr (congrFun (f6 55 (of_decide_eq_true rfl)) 15) (f6 65 (of_decide_eq_true rfl)) hI105
    exact by
     have I15 : jI106 σ4 := jI106_fr (congrFun (f6 55 (of_decide_eq_true rfl)) 32) (f6 70 (of_decide_eq_true rfl)) (f6 71 (of_decide_eq_true rfl)) (f6 72 (of_decide_eq_true rfl)) hI106
     have I16 : jI119 σ4 := jI119_fr (f6 68 (of_decide_eq_true rfl)) hI119
     have p17 : jKept σ4 := jKept.fr (f6 75 (of_decide_eq_true rfl)) (f6 76 (of_decide_eq_true rfl)) (f6 77 (of_decide_eq_true rfl)) hs_jKept
     refine jcallV (As := [.int (xs x2.toNatClampNeg)]) (rest := []) ⟨hx, hb, hml, hown, hts⟩ hK hP hA hS hZ (c_X12_kept l D cI cL ad zz hJ σ4 τ (xs x2.toNatClampNeg) ((xs x2.toNatClampNeg).toInt) rfl I10 I11 I12 I13 I14 I15 I16 p17) cw_RL_84 (jc_55 cI cL ad σ4 τ) rfl ⟨Nat.le_of_ble_eq_true rfl, Nat.le_of_ble_eq_true rfl⟩ rfl rfl rfl hl.1 rfl (Nat.le_of_ble_eq_true rfl) dL_law_710 ⟨Nat.le_of_ble_eq_true rfl, Nat.le_of_ble_eq_true rfl⟩ (fun r19 σ18 τ18 H locs h18 hP hS => ?_)
     obtain ⟨rfl, f20, f21, I22, p23, h18⟩ := h18
     refine lv_pop hx hb dL_law_713 rfl ?_
     refine lv_goto (tgt := 1357) hx hb dL_law_714 (of_decide_eq_true rfl) ?_
     obtain ⟨x25, ex25⟩ : ∃ y : Int32, y = x0 + 6 := ⟨_, rfl⟩
     have tx25 : x25.toInt = x0.toInt + 6 := (jadd ex25 rfl jz_6 (by omega) (by omega)).trans (by omega)
     exact by
      refine lv_iinc (v := x25) (lv' := [(3, .int x25), (2, .ref (ad 55)), (1, .ref (ad 0)), (0, .ref b)]) hx hb dL_law_1357 hl (k := 0) rfl (by rw [ex25]; rfl) (of_decide_eq_true rfl) rfl (fun ls hl => ?_)
      refine lv_goto (tgt := 18) hx hb dL_law_1360 (of_decide_eq_true rfl) ?_
      have I26 : jI2 σ18 := jI2_fr ((congrFun (f20 2 (of_decide_eq_true rfl)) 0).trans (congrFun (f6 2 (of_decide_eq_true rfl)) 0)) ((congrFun (f20 2 (of_decide_eq_true rfl)) 1).trans (congrFun (f6 2 (of_decide_eq_true rfl)) 1)) ((congrFun (f20 2 (of_decide_eq_true rfl)) 2).trans (congrFun (f6 2 (of_decide_eq_true rfl)) 2)) ((congrFun (f20 2 (of_decide_eq_true rfl)) 3).trans (congrFun (f6 2 (of_decide_eq_true rfl)) 3)) ((f20 6 (of_decide_eq_true rfl)).trans (f6 6 (of_decide_eq_true rfl))) hI2
      have I27 : jI9 σ18 := jI9_fr ((congrFun (f20 9 (of_decide_eq_true rfl)) 0).trans (congrFun (f6 9 (of_decide_eq_true rfl)) 0)) ((f20 10 (of_decide_eq_true rfl)).trans (f6 10 (of_decide_eq_true rfl))) ((f20 11 (of_decide_eq_true rfl)).trans (f6 11 (of_decide_eq_true rfl))) hI9
      have I28 : jI12 σ18 := jI12_fr ((congrFun (f20 12 (of_decide_eq_true rfl)) 0).trans (congrFun (f6 12 (of_decide_eq_true rfl)) 0)) ((f20 13 (of_decide_eq_true rfl)).trans (f6 13 (of_decide_eq_true rfl))) hI12
      have I29 : jI16 σ18 := jI16_fr ((congrFun (f20 16 (of_decide_eq_true rfl)) 0).trans (congrFun (f6 16 (of_decide_eq_true rfl)) 0)) ((congrFun (f20 16 (of_decide_eq_true rfl)) 1).trans (congrFun (f6 16 (of_decide_eq_true rfl)) 1)) ((congrFun (f20 16 (of_decide_eq_true rfl)) 2).trans (congrFun (f6 16 (of_decide_eq_true rfl)) 2)) ((f20 17 (of_decide_eq_true rfl)).trans (f6 17 (of_decide_eq_true rfl))) hI16
      have I30 : jI18 σ18 := jI18_fr ((congrFun (f20 18 (of_decide_eq_true rfl)) 0).trans (congrFun (f6 18 (of_decide_eq_true rfl)) 0)) ((f20 19 (of_decide_eq_true rfl)).trans (f6 19 (of_decide_eq_true rfl))) hI18
      have I31 : jI22 σ18 := jI22_fr ((congrFun (f20 22 (of_decide_eq_true rfl)) 0).trans (congrFun (f6 22 (of_decide_eq_true rfl)) 0)) ((f20 23 (of_decide_eq_true rfl)).trans (f6 23 (of_decide_eq_true rfl))) hI22
      have I32 : jI31 σ18 := jI31_fr (congrFun (f20 31 (of_decide_eq_true rfl)) 8) (f20 33 (of_decide_eq_true rfl)) (f20 36 (of_decide_eq_true rfl)) I8
      have I33 : jI38 σ18 := jI38_fr ((congrFun (f20 38 (of_decide_eq_true rfl)) 0).trans (congrFun (f6 38 (of_decide_eq_true rfl)) 0)) ((congrFun (f20 38 (of_decide_eq_true rfl)) 1).trans (congrFun (f6 38 (of_decide_eq_true rfl)) 1)) ((f20 39 (of_decide_eq_true rfl)).trans (f6 39 (of_decide_eq_true rfl))) hI38
      have I34 : jI43 σ18 := jI43_fr ((congrFun (f20 43 (of_decide_eq_true rfl)) 8).trans (congrFun (f6 43 (of_decide_eq_true rfl)) 8)) hI43
      have I35 : jI47 σ18 := jI47_fr ((congrFun (f20 47 (of_decide_eq_true rfl)) 0).trans (congrFun (f6 47 (of_decide_eq_true rfl)) 0)) ((f20 48 (of_decide_eq_true rfl)).trans (f6 48 (of_decide_eq_true rfl))) ((f20 49 (of_decide_eq_true rfl)).trans (f6 49 (of_decide_eq_true rfl))) hI47
      have I36 : jI50 σ18 := jI50_fr ((f20 52 (of_decide_eq_true rfl)).trans (f6 52 (of_decide_eq_true rfl))) hI50
      have I37 : jI101 σ18 := jI101_fr (f21 4 (of_decide_eq_true rfl)) (f21 5 (of_decide_eq_true rfl)) (f20 56 (of_decide_eq_true rfl)) (f20 57 (of_decide_eq_true rfl)) (f20 58 (of_decide_eq_true rfl)) (f20 59 (of_decide_eq_true rfl)) I10
      have I38 : jI102 σ18 := jI102_fr (f21 6 (of_decide_eq_true rfl)) (f20 60 (of_decide_eq_true rfl)) (f20 61 (of_decide_eq_true rfl)) I11
      have I39 : jI103 σ18 := jI103_fr (f21 9 (of_decide_eq_true rfl)) I12
      have I40 : jI104 σ18 := jI104_fr (f21 10 (of_decide_eq_true rfl)) (f21 12 (of_decide_eq_true rfl)) (f21 13 (of_decide_eq_true rfl)) (f20 62 (of_decide_eq_true rfl)) (f20 67 (of_decide_eq_true rfl)) I13
      have I41 : jI105 σ18 := jI105_fr (f21 15 (of_decide_eq_true rfl)) (f20 65 (of_decide_eq_true rfl)) I14
      have I42 : jI106 σ18 := jI106_fr (f21 32 (of_decide_eq_true rfl)) (f20 70 (of_decide_eq_true rfl)) (f20 71 (of_decide_eq_true rfl)) (f20 72 (of_decide_eq_true rfl)) I15
      have I43 : jI107 σ18 := jI107_fr ((f21 12 (of_decide_eq_true rfl)).trans (congrFun (f6 55 (of_decide_eq_true rfl)) 12)) ((f21 47 (of_decide_eq_true rfl)).trans (congrFun (f6 55 (of_decide_eq_true rfl)) 47)) ((f20 80 (of_decide_eq_true rfl)).trans (f6 80 (of_decide_eq_true rfl))) hI107
      have I44 : jI109 σ18 := jI109_fr ((f21 50 (of_decide_eq_true rfl)).trans (congrFun (f6 55 (of_decide_eq_true rfl)) 50)) hI109
      have I45 : jI110 σ18 := jI110_fr ((f20 86 (of_decide_eq_true rfl)).trans (f6 86 (of_decide_eq_true rfl))) ((f20 87 (of_decide_eq_true rfl)).trans (f6 87 (of_decide_eq_true rfl))) hI110
      have I46 : jI111 σ18 := jI111_fr ((f20 79 (of_decide_eq_true rfl)).trans (f6 79 (of_decide_eq_true rfl))) hI111
      have p47 : jBook σ18 := jBook.fr ((f21 47 (of_decide_eq_true rfl)).trans (congrFun (f6 55 (of_decide_eq_true rfl)) 47)) ((f21 10 (of_decide_eq_true rfl)).trans (congrFun (f6 55 (of_decide_eq_true rfl)) 10)) ((f20 81 (of_decide_eq_true rfl)).trans (f6 81 (of_decide_eq_true rfl))) hs_jBook
      have z48 : (σ18 38 0).toInt = (σ 38 0).toInt := (congrArg Int32.toInt (show σ18 38 0 = (σ 38 0) from ((congrFun (f20 38 (of_decide_eq_true rfl)) 0).trans (congrFun (f6 38 (of_decide_eq_true rfl)) 0))))
      have z49 : (σ18 55 32).toInt = (σ 55 32).toInt := (congrArg Int32.toInt (show σ18 55 32 = (σ 55 32) from ((f21 32 (of_decide_eq_true rfl)).trans (congrFun (f6 55 (of_decide_eq_true rfl)) 32))))
      exact by exact ih x25 σ18 τ _ _ ls (by have h9 := tx25; omega) ⟨I26, I27, I28, I29, I30, I31, I32, I33, I34, I35, I36, I37, I38, I39, I40, I41, I42, I43, I44, I45, I46, I22, p23, p47, (by omega)⟩ hP hS (lv_sub hl [0, 1, 2, 3] rfl)
set_option maxHeartbeats 4000000 in
set_option maxRecDepth 100000 in
theorem law_case_17 {p : Program} {e : Env} {s : State} {m : MethodId} {below : List Frame} {meth : Method} {c : Code} (l : Launch) {b L : Nat} {xs : Nat → Int32} {D : va_G} {cI cL : ClassId} {ad zz : Nat → Nat} (C0 : lw_At p s m meth c b L xs) (hJ : jD ad) (hA : ∀ q, jA ad q → s.heap.size ≤ q) (hK : jK D cI cL s) (hZ : jZ zz (fun q : Nat => s.heap.size ≤ q) s s.heap) {x0 : Int32} (hx0 : 0 ≤ x0.toInt) (hxL : x0.toInt + 6 ≤ (L : Int)) (hL : L ≤ 384) {σ : Nat → Nat → Int32} {τ : Nat → Nat → Int64} {H : Heap} {locs : List Loc} (hS : va_S (fun q : Nat => s.heap.size ≤ q) s.heap H locs) {ls : Array Slot} (hAll : jAll σ τ) (hP : jH D cI cL ad σ τ H) (hl : lv_has ls 4 [(3, .int x0), (2, .ref (ad 55)), (1, .ref (ad 0)), (0, .ref b)]) (ih : ∀ (x1 : Int32) (σ : Nat → Nat → Int32) (τ : Nat → Nat → Int64) (H : Heap) (locs : List Loc) (ls : Array Slot), x1.toInt = x0.toInt + 6 → jAll σ τ → jH D cI cL ad σ τ H → va_S (fun q : Nat => s.heap.size ≤ q) s.heap H locs → lv_has ls 4 [(3, .int x1), (2, .ref (ad 55)), (1, .ref (ad 0)), (0, .ref b)] → W p l e room_1 s m #[Value.ref b] below meth c H locs 90 348600 (lw_Z below #[Value.ref b] s) (F0 m 18 ls [])) : W p l e room_1 s m #[Value.ref b] below meth c H locs 90 348600 (lw_Z below #[Value.ref b] s) (F0 m 717 ls []) := by
  obtain ⟨hx, hb, hr, hml, hown, hts0, hX, hbl, hlocks, hgv⟩ := C0
  have hts : ∀ w ∈ wsL_law, w.before #[Value.ref b] s = true := fun w h => hts0 w (wsL_law_in w h)
  have hbA : ¬ (fun q : Nat => s.heap.size ≤ q) b := Nat.not_le.mpr hbl
  have hown : s.vm.findClass RL = some m.cls := hown
  obtain ⟨hI2, hI9, hI12, hI16, hI18, hI22, hI31, hI38, hI43, hI47, hI50, hI101, hI102, hI103, hI104, hI105, hI106, hI107, hI109, hI110, hI111, hI119, hs_jKept, hs_jBook, ht0⟩ := hAll
  have hL9 : (L : Int) ≤ 384 := by omega
  refine lv_aload_n hx hb dL_law_717 rfl (lv_at hl 2 rfl) ?_
  refine lv_aload_n hx hb dL_law_718 rfl (lv_at hl 3 rfl) ?_
  refine lv_iload_n hx hb dL_law_719 rfl (lv_at hl 0 rfl) ?_
  refine lv_iconst (v := 1) hx hb dL_law_720 (of_decide_eq_true rfl) ?_
  have g1 := jrg (rfl : x0.toInt = x0.toInt)
  refine lv_iadd hx hb dL_law_721 ?_
  refine lv_topi (fun x2 ex2 => ?_)
  exact by
   have tx2 : x2.toInt = x0.toInt + 1 := (jadd ex2 rfl jz_1 (by omega) (by omega)).trans (by omega)
   refine va_sld hx hb hX hbl hbA hS (jin tx2 (by omega) (by omega)) dL_law_722 ?_
   have g3 := jrg (rfl : (xs x2.toNatClampNeg).toInt = (xs x2.toNatClampNeg).toInt)
   refine jcallV (As := [.int (xs x2.toNatClampNeg)]) (rest := []) ⟨hx, hb, hml, hown, hts⟩ hK hP hA hS hZ (c_X11_theirs l D cI cL ad zz hJ σ τ (xs x2.toNatClampNeg) ((xs x2.toNatClampNeg).toInt) rfl hI2 hI16 hI22 hI31) cw_RL_85 (jc_0 cI cL ad σ τ) rfl ⟨Nat.le_of_ble_eq_true rfl, Nat.le_of_ble_eq_true rfl⟩ rfl rfl rfl hl.1 rfl (Nat.le_of_ble_eq_true rfl) dL_law_723 ⟨Nat.le_of_ble_eq_true rfl, Nat.le_of_ble_eq_true rfl⟩ (fun r5 σ4 τ4 H locs h4 hP hS => ?_)
   obtain ⟨rfl, f6, f7, I8, h4⟩ := h4
   refine lv_pop hx hb dL_law_726 rfl ?_
   refine lv_aload_n hx hb dL_law_727 rfl (lv_at hl 1 rfl) ?_
   refine lv_aload_n hx hb dL_law_728 rfl (lv_at hl 3 rfl) ?_
   refine lv_iload_n hx hb dL_law_729 rfl (lv_at hl 0 rfl) ?_
   exact by
    refine lv_iconst (v := 1) hx hb dL_law_730 (of_decide_eq_true rfl) ?_
    refine lv_iadd hx hb dL_law_731 ?_
    refine jtopr ex2.symm ?_
    refine va_sld hx hb hX hbl hbA hS (jin tx2 (by omega) (by omega)) dL_law_732 ?_
    have I10 : jI101 σ4 := jI101_fr (congrFun (f6 55 (of_decide_eq_true rfl)) 4) (congrFun (f6 55 (of_decide_eq_true rfl)) 5) (f6 56 (of_decide_eq_true rfl)) (f6 57 (of_decide_eq_true rfl)) (f6 58 (of_decide_eq_true rfl)) (f6 59 (of_decide_eq_true rfl)) hI101
    have I11 : jI102 σ4 := jI102_fr (congrFun (f6 55 (of_decide_eq_true rfl)) 6) (f6 60 (of_decide_eq_true rfl)) (f6 61 (of_decide_eq_true rfl)) hI102
    have I12 : jI103 σ4 := jI103_fr (congrFun (f6 55 (of_decide_eq_true rfl)) 9) hI103
    have I13 : jI104 σ4 := jI104_fr (congrFun (f6 55 (of_decide_eq_true rfl)) 10) (congrFun (f6 55 (of_decide_eq_true rfl)) 12) (congrFun (f6 55 (of_decide_eq_true rfl)) 13) (f6 62 (of_decide_eq_true rfl)) (f6 67 (of_decide_eq_true rfl)) hI104
    have I14 : jI105 σ4 := jI105_fr (congrFun (f6 55 (of_decide_eq_true rfl)) 15) (f6 65 (of_decide_eq_true rfl)) hI105
    exact by
     have I15 : jI106 σ4 := jI106_fr (congrFun (f6 55 (of_decide_eq_true rfl)) 32) (f6 70 (of_decide_eq_true rfl)) (f6 71 (of_decide_eq_true rfl)) (f6 72 (of_decide_eq_true rfl)) hI106
     have I16 : jI119 σ4 := jI119_fr (f6 68 (of_decide_eq_true rfl)) hI119
     have I17 : jI111 σ4 := jI111_fr (f6 79 (of_decide_eq_true rfl)) hI111
     have p18 : jKept σ4 := jKept.fr (f6 75 (of_decide_eq_true rfl)) (f6 76 (of_decide_eq_true rfl)) (f6 77 (of_decide_eq_true rfl)) hs_jKept
     refine jcallV (As := [.int (xs x2.toNatClampNeg)]) (rest := []) ⟨hx, hb, hml, hown, hts⟩ hK hP hA hS hZ (c_X12_theirs l D cI cL ad zz hJ σ4 τ (xs x2.toNatClampNeg) ((xs x2.toNatClampNeg).toInt) rfl I10 I11 I12 I13 I14 I15 I16 I17 p18) cw_RL_88 (jc_55 cI cL ad σ4 τ) rfl ⟨Nat.le_of_ble_eq_true rfl, Nat.le_of_ble_eq_true rfl⟩ rfl rfl rfl hl.1 rfl (Nat.le_of_ble_eq_true rfl) dL_law_733 ⟨Nat.le_of_ble_eq_true rfl, Nat.le_of_ble_eq_true rfl⟩ (fun r20 σ19 τ19 H locs h19 hP hS => ?_)
     obtain ⟨rfl, f21, f22, I23, I24, I25, p26, w27, h19⟩ := h19
     refine lv_pop hx hb dL_law_736 rfl ?_
     refine lv_goto (tgt := 1357) hx hb dL_law_737 (of_decide_eq_true rfl) ?_
     obtain ⟨x29, ex29⟩ : ∃ y : Int32, y = x0 + 6 := ⟨_, rfl⟩
     exact by
      have tx29 : x29.toInt = x0.toInt + 6 := (jadd ex29 rfl jz_6 (by omega) (by omega)).trans (by omega)
      refine lv_iinc (v := x29) (lv' := [(3, .int x29), (2, .ref (ad 55)), (1, .ref (ad 0)), (0, .ref b)]) hx hb dL_law_1357 hl (k := 0) rfl (by rw [ex29]; rfl) (of_decide_eq_true rfl) rfl (fun ls hl => ?_)
      refine lv_goto (tgt := 18) hx hb dL_law_1360 (of_decide_eq_true rfl) ?_
      have I30 : jI2 σ19 := jI2_fr ((congrFun (f21 2 (of_decide_eq_true rfl)) 0).trans (congrFun (f6 2 (of_decide_eq_true rfl)) 0)) ((congrFun (f21 2 (of_decide_eq_true rfl)) 1).trans (congrFun (f6 2 (of_decide_eq_true rfl)) 1)) ((congrFun (f21 2 (of_decide_eq_true rfl)) 2).trans (congrFun (f6 2 (of_decide_eq_true rfl)) 2)) ((congrFun (f21 2 (of_decide_eq_true rfl)) 3).trans (congrFun (f6 2 (of_decide_eq_true rfl)) 3)) ((f21 6 (of_decide_eq_true rfl)).trans (f6 6 (of_decide_eq_true rfl))) hI2
      have I31 : jI9 σ19 := jI9_fr ((congrFun (f21 9 (of_decide_eq_true rfl)) 0).trans (congrFun (f6 9 (of_decide_eq_true rfl)) 0)) ((f21 10 (of_decide_eq_true rfl)).trans (f6 10 (of_decide_eq_true rfl))) ((f21 11 (of_decide_eq_true rfl)).trans (f6 11 (of_decide_eq_true rfl))) hI9
      have I32 : jI12 σ19 := jI12_fr ((congrFun (f21 12 (of_decide_eq_true rfl)) 0).trans (congrFun (f6 12 (of_decide_eq_true rfl)) 0)) ((f21 13 (of_decide_eq_true rfl)).trans (f6 13 (of_decide_eq_true rfl))) hI12
      have I33 : jI16 σ19 := jI16_fr ((congrFun (f21 16 (of_decide_eq_true rfl)) 0).trans (congrFun (f6 16 (of_decide_eq_true rfl)) 0)) ((congrFun (f21 16 (of_decide_eq_true rfl)) 1).trans (congrFun (f6 16 (of_decide_eq_true rfl)) 1)) ((congrFun (f21 16 (of_decide_eq_true rfl)) 2).trans (congrFun (f6 16 (of_decide_eq_true rfl)) 2)) ((f21 17 (of_decide_eq_true rfl)).trans (f6 17 (of_decide_eq_true rfl))) hI16
      have I34 : jI18 σ19 := jI18_fr ((congrFun (f21 18 (of_decide_eq_true rfl)) 0).trans (congrFun (f6 18 (of_decide_eq_true rfl)) 0)) ((f21 19 (of_decide_eq_true rfl)).trans (f6 19 (of_decide_eq_true rfl))) hI18
      have I35 : jI22 σ19 := jI22_fr ((congrFun (f21 22 (of_decide_eq_true rfl)) 0).trans (congrFun (f6 22 (of_decide_eq_true rfl)) 0)) ((f21 23 (of_decide_eq_true rfl)).trans (f6 23 (of_decide_eq_true rfl))) hI22
      exact by
       have I36 : jI31 σ19 := jI31_fr (congrFun (f21 31 (of_decide_eq_true rfl)) 8) (f21 33 (of_decide_eq_true rfl)) (f21 36 (of_decide_eq_true rfl)) I8
       have I37 : jI38 σ19 := jI38_fr ((congrFun (f21 38 (of_decide_eq_true rfl)) 0).trans (congrFun (f6 38 (of_decide_eq_true rfl)) 0)) ((congrFun (f21 38 (of_decide_eq_true rfl)) 1).trans (congrFun (f6 38 (of_decide_eq_true rfl)) 1)) ((f21 39 (of_decide_eq_true rfl)).trans (f6 39 (of_decide_eq_true rfl))) hI38
       have I38 : jI43 σ19 := jI43_fr ((congrFun (f21 43 (of_decide_eq_true rfl)) 8).trans (congrFun (f6 43 (of_decide_eq_true rfl)) 8)) hI43
       have I39 : jI47 σ19 := jI47_fr ((congrFun (f21 47 (of_decide_eq_true rfl)) 0).trans (congrFun (f6 47 (of_decide_eq_true rfl)) 0)) ((f21 48 (of_decide_eq_true rfl)).trans (f6 48 (of_decide_eq_true rfl))) ((f21 49 (of_decide_eq_true rfl)).trans (f6 49 (of_decide_eq_true rfl))) hI47
       have I40 : jI50 σ19 := jI50_fr ((f21 52 (of_decide_eq_true rfl)).trans (f6 52 (of_decide_eq_true rfl))) hI50
       have I41 : jI101 σ19 := jI101_fr (f22 4 (of_decide_eq_true rfl)) (f22 5 (of_decide_eq_true rfl)) (f21 56 (of_decide_eq_true rfl)) (f21 57 (of_decide_eq_true rfl)) (f21 58 (of_decide_eq_true rfl)) (f21 59 (of_decide_eq_true rfl)) I10
       have I42 : jI102 σ19 := jI102_fr (f22 6 (of_decide_eq_true rfl)) (f21 60 (of_decide_eq_true rfl)) (f21 61 (of_decide_eq_true rfl)) I11
       have I43 : jI103 σ19 := jI103_fr (f22 9 (of_decide_eq_true rfl)) I12
       have I44 : jI105 σ19 := jI105_fr (f22 15 (of_decide_eq_true rfl)) (f21 65 (of_decide_eq_true rfl)) I14
       have I45 : jI106 σ19 := jI106_fr (f22 32 (of_decide_eq_true rfl)) (f21 70 (of_decide_eq_true rfl)) (f21 71 (of_decide_eq_true rfl)) (f21 72 (of_decide_eq_true rfl)) I15
       have I46 : jI107 σ19 := jI107_fr ((f22 12 (of_decide_eq_true rfl)).trans (congrFun (f6 55 (of_decide_eq_true rfl)) 12)) ((f22 47 (of_decide_eq_true rfl)).trans (congrFun (f6 55 (of_decide_eq_true rfl)) 47)) ((f21 80 (of_decide_eq_true rfl)).trans (f6 80 (of_decide_eq_true rfl))) hI107
       have I47 : jI109 σ19 := jI109_fr ((f22 50 (of_decide_eq_true rfl)).trans (congrFun (f6 55 (of_decide_eq_true rfl)) 50)) hI109
       have I48 : jI110 σ19 := jI110_fr ((f21 86 (of_decide_eq_true rfl)).trans (f6 86 (of_decide_eq_true rfl))) ((f21 87 (of_decide_eq_true rfl)).trans (f6 87 (of_decide_eq_true rfl))) hI110
       have p49 : jBook σ19 := jBook.fr ((f22 47 (of_decide_eq_true rfl)).trans (congrFun (f6 55 (of_decide_eq_true rfl)) 47)) ((f22 10 (of_decide_eq_true rfl)).trans (congrFun (f6 55 (of_decide_eq_true rfl)) 10)) ((f21 81 (of_decide_eq_true rfl)).trans (f6 81 (of_decide_eq_true rfl))) hs_jBook
       have z50 : (σ19 38 0).toInt = (σ 38 0).toInt := (congrArg Int32.toInt (show σ19 38 0 = (σ 38 0) from ((congrFun (f21 38 (of_decide_eq_true rfl)) 0).trans (congrFun (f6 38 (of_decide_eq_true rfl)) 0))))
       have z51 : (σ19 55 32).toInt = (σ 55 32).toInt := (congrArg Int32.toInt (show σ19 55 32 = (σ 55 32) from ((f22 32 (of_decide_eq_true rfl)).trans (congrFun (f6 55 (of_decide_eq_true rfl)) 32))))
       exact by exact ih x29 σ19 τ _ _ ls (by have h9 := tx29; omega) ⟨I30, I31, I32, I33, I34, I35, I36, I37, I38, I39, I40, I41, I42, I43, I23, I44, I45, I46, I47, I48, I24, I25, p26, p49, (by omega)⟩ hP hS (lv_sub hl [0, 1, 2, 3] rfl)
set_option maxHeartbeats 4000000 in
set_option maxRecDepth 100000 in
theorem law_case_18 {p : Program} {e : Env} {s : State} {m : MethodId} {below : List Frame} {meth : Method} {c : Code} (l : Launch) {b L : Nat} {xs : Nat → Int32} {D : va_G} {cI cL : ClassId} {ad zz : Nat → Nat} (C0 : lw_At p s m meth c b L xs) (hJ : jD ad) (hA : ∀ q, jA ad q → s.heap.size ≤ q) (hK : jK D cI cL s) (hZ : jZ zz (fun q : Nat => s.heap.size ≤ q) s s.heap) {x0 : Int32} (hx0 : 0 ≤ x0.toInt) (hxL : x0.toInt + 6 ≤ (L : Int)) (hL : L ≤ 384) {σ : Nat → Nat → Int32} {τ : Nat → Nat → Int64} {H : Heap} {locs : List Loc} (hS : va_S (fun q : Nat => s.heap.size ≤ q) s.heap H locs) {ls : Array Slot} (hAll : jAll σ τ) (hP : jH D cI cL ad σ τ H) (hl : lv_has ls 4 [(3, .int x0), (2, .ref (ad 55)), (1, .ref (ad 0)), (0, .ref b)]) (ih : ∀ (x1 : Int32) (σ : Nat → Nat → Int32) (τ : Nat → Nat → Int64) (H : Heap) (locs : List Loc) (ls : Array Slot), x1.toInt = x0.toInt + 6 → jAll σ τ → jH D cI cL ad σ τ H → va_S (fun q : Nat => s.heap.size ≤ q) s.heap H locs → lv_has ls 4 [(3, .int x1), (2, .ref (ad 55)), (1, .ref (ad 0)), (0, .ref b)] → W p l e room_1 s m #[Value.ref b] below meth c H locs 90 348600 (lw_Z below #[Value.ref b] s) (F0 m 18 ls [])) : W p l e room_1 s m #[Value.ref b] below meth c H locs 90 348600 (lw_Z below #[Value.ref b] s) (F0 m 740 ls []) := by
  obtain ⟨hx, hb, hr, hml, hown, hts0, hX, hbl, hlocks, hgv⟩ := C0
  have hts : ∀ w ∈ wsL_law, w.before #[Value.ref b] s = true := fun w h => hts0 w (wsL_law_in w h)
  have hbA : ¬ (fun q : Nat => s.heap.size ≤ q) b := Nat.not_le.mpr hbl
  have hown : s.vm.findClass RL = some m.cls := hown
  obtain ⟨hI2, hI9, hI12, hI16, hI18, hI22, hI31, hI38, hI43, hI47, hI50, hI101, hI102, hI103, hI104, hI105, hI106, hI107, hI109, hI110, hI111, hI119, hs_jKept, hs_jBook, ht0⟩ := hAll
  have hL9 : (L : Int) ≤ 384 := by omega
  refine lv_aload_n hx hb dL_law_740 rfl (lv_at hl 2 rfl) ?_
  refine lv_aload_n hx hb dL_law_741 rfl (lv_at hl 3 rfl) ?_
  refine lv_iload_n hx hb dL_law_742 rfl (lv_at hl 0 rfl) ?_
  refine lv_iconst (v := 1) hx hb dL_law_743 (of_decide_eq_true rfl) ?_
  have g1 := jrg (rfl : x0.toInt = x0.toInt)
  refine lv_iadd hx hb dL_law_744 ?_
  refine lv_topi (fun x2 ex2 => ?_)
  exact by
   have tx2 : x2.toInt = x0.toInt + 1 := (jadd ex2 rfl jz_1 (by omega) (by omega)).trans (by omega)
   refine va_sld hx hb hX hbl hbA hS (jin tx2 (by omega) (by omega)) dL_law_745 ?_
   have g3 := jrg (rfl : (xs x2.toNatClampNeg).toInt = (xs x2.toNatClampNeg).toInt)
   refine lv_aload_n hx hb dL_law_746 rfl (lv_at hl 3 rfl) ?_
   refine lv_iload_n hx hb dL_law_747 rfl (lv_at hl 0 rfl) ?_
   refine lv_iconst (v := 2) hx hb dL_law_748 (of_decide_eq_true rfl) ?_
   refine lv_iadd hx hb dL_law_749 ?_
   refine lv_topi (fun x4 ex4 => ?_)
   have tx4 : x4.toInt = x0.toInt + 2 := (jadd ex4 rfl jz_2 (by omega) (by omega)).trans (by omega)
   exact by
    refine va_sld hx hb hX hbl hbA hS (jin tx4 (by omega) (by omega)) dL_law_750 ?_
    have g5 := jrg (rfl : (xs x4.toNatClampNeg).toInt = (xs x4.toNatClampNeg).toInt)
    refine jcallV (As := [.int (xs x2.toNatClampNeg), .int (xs x4.toNatClampNeg)]) (rest := []) ⟨hx, hb, hml, hown, hts⟩ hK hP hA hS hZ (c_X11_learn l D cI cL ad zz hJ σ τ (xs x2.toNatClampNeg) ((xs x2.toNatClampNeg).toInt) rfl (xs x4.toNatClampNeg) ((xs x4.toNatClampNeg).toInt) rfl hI2) cw_RL_89 (jc_0 cI cL ad σ τ) rfl ⟨Nat.le_of_ble_eq_true rfl, Nat.le_of_ble_eq_true rfl⟩ rfl rfl rfl hl.1 rfl (Nat.le_of_ble_eq_true rfl) dL_law_751 ⟨Nat.le_of_ble_eq_true rfl, Nat.le_of_ble_eq_true rfl⟩ (fun r7 σ6 τ6 H locs h6 hP hS => ?_)
    obtain ⟨rfl, f8, f9, I10, h6⟩ := h6
    rcases h6 with h12 | h13
    · obtain ⟨q18, k14, k15, k16, k17⟩ := h12
      have q18 := q18.symm
      subst q18
      refine lv_pop hx hb dL_law_754 rfl ?_
      refine lv_aload_n hx hb dL_law_755 rfl (lv_at hl 1 rfl) ?_
      refine lv_aload_n hx hb dL_law_756 rfl (lv_at hl 3 rfl) ?_
      refine lv_iload_n hx hb dL_law_757 rfl (lv_at hl 0 rfl) ?_
      refine lv_iconst (v := 1) hx hb dL_law_758 (of_decide_eq_true rfl) ?_
      refine lv_iadd hx hb dL_law_759 ?_
      refine jtopr ex2.symm ?_
      exact by
       refine va_sld hx hb hX hbl hbA hS (jin tx2 (by omega) (by omega)) dL_law_760 ?_
       refine lv_aload_n hx hb dL_law_761 rfl (lv_at hl 3 rfl) ?_
       refine lv_iload_n hx hb dL_law_762 rfl (lv_at hl 0 rfl) ?_
       refine lv_iconst (v := 2) hx hb dL_law_763 (of_decide_eq_true rfl) ?_
       refine lv_iadd hx hb dL_law_764 ?_
       refine jtopr ex4.symm ?_
       refine va_sld hx hb hX hbl hbA hS (jin tx4 (by omega) (by omega)) dL_law_765 ?_
       have I19 : jI101 σ6 := jI101_fr (congrFun (f8 55 (of_decide_eq_true rfl)) 4) (congrFun (f8 55 (of_decide_eq_true rfl)) 5) (f8 56 (of_decide_eq_true rfl)) (f8 57 (of_decide_eq_true rfl)) (f8 58 (of_decide_eq_true rfl)) (f8 59 (of_decide_eq_true rfl)) hI101
       have I20 : jI102 σ6 := jI102_fr (congrFun (f8 55 (of_decide_eq_true rfl)) 6) (f8 60 (of_decide_eq_true rfl)) (f8 61 (of_decide_eq_true rfl)) hI102
       exact by
        have z21 : (σ6 55 6).toInt = (σ 55 6).toInt := (congrArg Int32.toInt (show σ6 55 6 = (σ 55 6) from (congrFun (f8 55 (of_decide_eq_true rfl)) 6)))
        have z22 : (σ6 55 5).toInt = (σ 55 5).toInt := (congrArg Int32.toInt (show σ6 55 5 = (σ 55 5) from (congrFun (f8 55 (of_decide_eq_true rfl)) 5)))
        have z23 : (σ6 55 4).toInt = (σ 55 4).toInt := (congrArg Int32.toInt (show σ6 55 4 = (σ 55 4) from (congrFun (f8 55 (of_decide_eq_true rfl)) 4)))
        refine jcallV (As := [.int (xs x2.toNatClampNeg), .int (xs x4.toNatClampNeg)]) (rest := []) ⟨hx, hb, hml, hown, hts⟩ hK hP hA hS hZ (c_X12_learn l D cI cL ad zz hJ σ6 τ (xs x2.toNatClampNeg) ((xs x2.toNatClampNeg).toInt) rfl (xs x4.toNatClampNeg) ((xs x4.toNatClampNeg).toInt) rfl I19 I20) cw_RL_92 (jc_55 cI cL ad σ6 τ) rfl ⟨Nat.le_of_ble_eq_true rfl, Nat.le_of_ble_eq_true rfl⟩ rfl rfl rfl hl.1 rfl (Nat.le_of_ble_eq_true rfl) dL_law_766 ⟨Nat.le_of_ble_eq_true rfl, Nat.le_of_ble_eq_true rfl⟩ (fun r25 σ24 τ24 H locs h24 hP hS => ?_)
        obtain ⟨rfl, f26, f27, I28, h24⟩ := h24
        rcases h24 with h30 | h31
        · obtain ⟨q36, k32, k33, k34, k35⟩ := h30
          have q36 := q36.symm
          subst q36
          refine lv_pop hx hb dL_law_769 rfl ?_
          refine lv_goto (tgt := 1357) hx hb dL_law_770 (of_decide_eq_true rfl) ?_
          obtain ⟨x37, ex37⟩ : ∃ y : Int32, y = x0 + 6 := ⟨_, rfl⟩
          exact by
           have tx37 : x37.toInt = x0.toInt + 6 := (jadd ex37 rfl jz_6 (by omega) (by omega)).trans (by omega)
           refine lv_iinc (v := x37) (lv' := [(3, .int x37), (2, .ref (ad 55)), (1, .ref (ad 0)), (0, .ref b)]) hx hb dL_law_1357 hl (k := 0) rfl (by rw [ex37]; rfl) (of_decide_eq_true rfl) rfl (fun ls hl => ?_)
           refine lv_goto (tgt := 18) hx hb dL_law_1360 (of_decide_eq_true rfl) ?_
           have I38 : jI2 σ24 := jI2_fr (congrFun (f26 2 (of_decide_eq_true rfl)) 0) (congrFun (f26 2 (of_decide_eq_true rfl)) 1) (congrFun (f26 2 (of_decide_eq_true rfl)) 2) (congrFun (f26 2 (of_decide_eq_true rfl)) 3) (f26 6 (of_decide_eq_true rfl)) I10
           have I39 : jI9 σ24 := jI9_fr ((congrFun (f26 9 (of_decide_eq_true rfl)) 0).trans (congrFun (f8 9 (of_decide_eq_true rfl)) 0)) ((f26 10 (of_decide_eq_true rfl)).trans (f8 10 (of_decide_eq_true rfl))) ((f26 11 (of_decide_eq_true rfl)).trans (f8 11 (of_decide_eq_true rfl))) hI9
           have I40 : jI12 σ24 := jI12_fr ((congrFun (f26 12 (of_decide_eq_true rfl)) 0).trans (congrFun (f8 12 (of_decide_eq_true rfl)) 0)) ((f26 13 (of_decide_eq_true rfl)).trans (f8 13 (of_decide_eq_true rfl))) hI12
           have I41 : jI16 σ24 := jI16_fr ((congrFun (f26 16 (of_decide_eq_true rfl)) 0).trans (congrFun (f8 16 (of_decide_eq_true rfl)) 0)) ((congrFun (f26 16 (of_decide_eq_true rfl)) 1).trans (congrFun (f8 16 (of_decide_eq_true rfl)) 1)) ((congrFun (f26 16 (of_decide_eq_true rfl)) 2).trans (congrFun (f8 16 (of_decide_eq_true rfl)) 2)) ((f26 17 (of_decide_eq_true rfl)).trans (f8 17 (of_decide_eq_true rfl))) hI16
           have I42 : jI18 σ24 := jI18_fr ((congrFun (f26 18 (of_decide_eq_true rfl)) 0).trans (congrFun (f8 18 (of_decide_eq_true rfl)) 0)) ((f26 19 (of_decide_eq_true rfl)).trans (f8 19 (of_decide_eq_true rfl))) hI18
           have I43 : jI22 σ24 := jI22_fr ((congrFun (f26 22 (of_decide_eq_true rfl)) 0).trans (congrFun (f8 22 (of_decide_eq_true rfl)) 0)) ((f26 23 (of_decide_eq_true rfl)).trans (f8 23 (of_decide_eq_true rfl))) hI22
           exact by
            have I44 : jI31 σ24 := jI31_fr ((congrFun (f26 31 (of_decide_eq_true rfl)) 8).trans (congrFun (f8 31 (of_decide_eq_true rfl)) 8)) ((f26 33 (of_decide_eq_true rfl)).trans (f8 33 (of_decide_eq_true rfl))) ((f26 36 (of_decide_eq_true rfl)).trans (f8 36 (of_decide_eq_true rfl))) hI31
            have I45 : jI38 σ24 := jI38_fr ((congrFun (f26 38 (of_decide_eq_true rfl)) 0).trans (congrFun (f8 38 (of_decide_eq_true rfl)) 0)) ((congrFun (f26 38 (of_decide_eq_true rfl)) 1).trans (congrFun (f8 38 (of_decide_eq_true rfl)) 1)) ((f26 39 (of_decide_eq_true rfl)).trans (f8 39 (of_decide_eq_true rfl))) hI38
            have I46 : jI43 σ24 := jI43_fr ((congrFun (f26 43 (of_decide_eq_true rfl)) 8).trans (congrFun (f8 43 (of_decide_eq_true rfl)) 8)) hI43
            have I47 : jI47 σ24 := jI47_fr ((congrFun (f26 47 (of_decide_eq_true rfl)) 0).trans (congrFun (f8 47 (of_decide_eq_true rfl)) 0)) ((f26 48 (of_decide_eq_true rfl)).trans (f8 48 (of_decide_eq_true rfl))) ((f26 49 (of_decide_eq_true rfl)).trans (f8 49 (of_decide_eq_true rfl))) hI47
            have I48 : jI50 σ24 := jI50_fr ((f26 52 (of_decide_eq_true rfl)).trans (f8 52 (of_decide_eq_true rfl))) hI50
            have I49 : jI102 σ24 := jI102_fr (f27 6 (of_decide_eq_true rfl)) (f26 60 (of_decide_eq_true rfl)) (f26 61 (of_decide_eq_true rfl)) I20
            have I50 : jI103 σ24 := jI103_fr ((f27 9 (of_decide_eq_true rfl)).trans (congrFun (f8 55 (of_decide_eq_true rfl)) 9)) hI103
            have I51 : jI104 σ24 := jI104_fr ((f27 10 (of_decide_eq_true rfl)).trans (congrFun (f8 55 (of_decide_eq_true rfl)) 10)) ((f27 12 (of_decide_eq_true rfl)).trans (congrFun (f8 55 (of_decide_eq_true rfl)) 12)) ((f27 13 (of_decide_eq_true rfl)).trans (congrFun (f8 55 (of_decide_eq_true rfl)) 13)) ((f26 62 (of_decide_eq_true rfl)).trans (f8 62 (of_decide_eq_true rfl))) ((f26 67 (of_decide_eq_true rfl)).trans (f8 67 (of_decide_eq_true rfl))) hI104
            have I52 : jI105 σ24 := jI105_fr ((f27 15 (of_decide_eq_true rfl)).trans (congrFun (f8 55 (of_decide_eq_true rfl)) 15)) ((f26 65 (of_decide_eq_true rfl)).trans (f8 65 (of_decide_eq_true rfl))) hI105
            have I53 : jI106 σ24 := jI106_fr ((f27 32 (of_decide_eq_true rfl)).trans (congrFun (f8 55 (of_decide_eq_true rfl)) 32)) ((f26 70 (of_decide_eq_true rfl)).trans (f8 70 (of_decide_eq_true rfl))) ((f26 71 (of_decide_eq_true rfl)).trans (f8 71 (of_decide_eq_true rfl))) ((f26 72 (of_decide_eq_true rfl)).trans (f8 72 (of_decide_eq_true rfl))) hI106
            have I54 : jI107 σ24 := jI107_fr ((f27 12 (of_decide_eq_true rfl)).trans (congrFun (f8 55 (of_decide_eq_true rfl)) 12)) ((f27 47 (of_decide_eq_true rfl)).trans (congrFun (f8 55 (of_decide_eq_true rfl)) 47)) ((f26 80 (of_decide_eq_true rfl)).trans (f8 80 (of_decide_eq_true rfl))) hI107
            have I55 : jI109 σ24 := jI109_fr ((f27 50 (of_decide_eq_true rfl)).trans (congrFun (f8 55 (of_decide_eq_true rfl)) 50)) hI109
            have I56 : jI110 σ24 := jI110_fr ((f26 86 (of_decide_eq_true rfl)).trans (f8 86 (of_decide_eq_true rfl))) ((f26 87 (of_decide_eq_true rfl)).trans (f8 87 (of_decide_eq_true rfl))) hI110
            have I57 : jI111 σ24 := jI111_fr ((f26 79 (of_decide_eq_true rfl)).trans (f8 79 (of_decide_eq_true rfl))) hI111
            have I58 : jI119 σ24 := jI119_fr ((f26 68 (of_decide_eq_true rfl)).trans (f8 68 (of_decide_eq_true rfl))) hI119
            have p59 : jKept σ24 := jKept.fr ((f26 75 (of_decide_eq_true rfl)).trans (f8 75 (of_decide_eq_true rfl))) ((f26 76 (of_decide_eq_true rfl)).trans (f8 76 (of_decide_eq_true rfl))) ((f26 77 (of_decide_eq_true rfl)).trans (f8 77 (of_decide_eq_true rfl))) hs_jKept
            have p60 : jBook σ24 := jBook.fr ((f27 47 (of_decide_eq_true rfl)).trans (congrFun (f8 55 (of_decide_eq_true rfl)) 47)) ((f27 10 (of_decide_eq_true rfl)).trans (congrFun (f8 55 (of_decide_eq_true rfl)) 10)) ((f26 81 (of_decide_eq_true rfl)).trans (f8 81 (of_decide_eq_true rfl))) hs_jBook
            have z61 : (σ24 38 0).toInt = (σ 38 0).toInt := (congrArg Int32.toInt (show σ24 38 0 = (σ 38 0) from ((congrFun (f26 38 (of_decide_eq_true rfl)) 0).trans (congrFun (f8 38 (of_decide_eq_true rfl)) 0))))
            have z62 : (σ24 55 32).toInt = (σ 55 32).toInt := (congrArg Int32.toInt (show σ24 55 32 = (σ 55 32) from ((f27 32 (of_decide_eq_true rfl)).trans (congrFun (f8 55 (of_decide_eq_true rfl)) 32))))
            exact by exact ih x37 σ24 τ _ _ ls (by have h9 := tx37; omega) ⟨I38, I39, I40, I41, I42, I43, I44, I45, I46, I47, I48, I28, I49, I50, I51, I52, I53, I54, I55, I56, I57, I58, p59, p60, (by omega)⟩ hP hS (lv_sub hl [0, 1, 2, 3] rfl)
        · obtain ⟨q70, k63, k64, k65, k66, k67, k68, k69⟩ := h31
          refine lv_pop hx hb dL_law_769 rfl ?_
          refine lv_goto (tgt := 1357) hx hb dL_law_770 (of_decide_eq_true rfl) ?_
          obtain ⟨x71, ex71⟩ : ∃ y : Int32, y = x0 + 6 := ⟨_, rfl⟩
          exact by
           have tx71 : x71.toInt = x0.toInt + 6 := (jadd ex71 rfl jz_6 (by omega) (by omega)).trans (by omega)
           refine lv_iinc (v := x71) (lv' := [(3, .int x71), (2, .ref (ad 55)), (1, .ref (ad 0)), (0, .ref b)]) hx hb dL_law_1357 hl (k := 0) rfl (by rw [ex71]; rfl) (of_decide_eq_true rfl) rfl (fun ls hl => ?_)
           refine lv_goto (tgt := 18) hx hb dL_law_1360 (of_decide_eq_true rfl) ?_
           have I72 : jI2 σ24 := jI2_fr (congrFun (f26 2 (of_decide_eq_true rfl)) 0) (congrFun (f26 2 (of_decide_eq_true rfl)) 1) (congrFun (f26 2 (of_decide_eq_true rfl)) 2) (congrFun (f26 2 (of_decide_eq_true rfl)) 3) (f26 6 (of_decide_eq_true rfl)) I10
           have I73 : jI9 σ24 := jI9_fr ((congrFun (f26 9 (of_decide_eq_true rfl)) 0).trans (congrFun (f8 9 (of_decide_eq_true rfl)) 0)) ((f26 10 (of_decide_eq_true rfl)).trans (f8 10 (of_decide_eq_true rfl))) ((f26 11 (of_decide_eq_true rfl)).trans (f8 11 (of_decide_eq_true rfl))) hI9
           have I74 : jI12 σ24 := jI12_fr ((congrFun (f26 12 (of_decide_eq_true rfl)) 0).trans (congrFun (f8 12 (of_decide_eq_true rfl)) 0)) ((f26 13 (of_decide_eq_true rfl)).trans (f8 13 (of_decide_eq_true rfl))) hI12
           have I75 : jI16 σ24 := jI16_fr ((congrFun (f26 16 (of_decide_eq_true rfl)) 0).trans (congrFun (f8 16 (of_decide_eq_true rfl)) 0)) ((congrFun (f26 16 (of_decide_eq_true rfl)) 1).trans (congrFun (f8 16 (of_decide_eq_true rfl)) 1)) ((congrFun (f26 16 (of_decide_eq_true rfl)) 2).trans (congrFun (f8 16 (of_decide_eq_true rfl)) 2)) ((f26 17 (of_decide_eq_true rfl)).trans (f8 17 (of_decide_eq_true rfl))) hI16
           have I76 : jI18 σ24 := jI18_fr ((congrFun (f26 18 (of_decide_eq_true rfl)) 0).trans (congrFun (f8 18 (of_decide_eq_true rfl)) 0)) ((f26 19 (of_decide_eq_true rfl)).trans (f8 19 (of_decide_eq_true rfl))) hI18
           have I77 : jI22 σ24 := jI22_fr ((congrFun (f26 22 (of_decide_eq_true rfl)) 0).trans (congrFun (f8 22 (of_decide_eq_true rfl)) 0)) ((f26 23 (of_decide_eq_true rfl)).trans (f8 23 (of_decide_eq_true rfl))) hI22
           exact by
            have I78 : jI31 σ24 := jI31_fr ((congrFun (f26 31 (of_decide_eq_true rfl)) 8).trans (congrFun (f8 31 (of_decide_eq_true rfl)) 8)) ((f26 33 (of_decide_eq_true rfl)).trans (f8 33 (of_decide_eq_true rfl))) ((f26 36 (of_decide_eq_true rfl)).trans (f8 36 (of_decide_eq_true rfl))) hI31
            have I79 : jI38 σ24 := jI38_fr ((congrFun (f26 38 (of_decide_eq_true rfl)) 0).trans (congrFun (f8 38 (of_decide_eq_true rfl)) 0)) ((congrFun (f26 38 (of_decide_eq_true rfl)) 1).trans (congrFun (f8 38 (of_decide_eq_true rfl)) 1)) ((f26 39 (of_decide_eq_true rfl)).trans (f8 39 (of_decide_eq_true rfl))) hI38
            have I80 : jI43 σ24 := jI43_fr ((congrFun (f26 43 (of_decide_eq_true rfl)) 8).trans (congrFun (f8 43 (of_decide_eq_true rfl)) 8)) hI43
            have I81 : jI47 σ24 := jI47_fr ((congrFun (f26 47 (of_decide_eq_true rfl)) 0).trans (congrFun (f8 47 (of_decide_eq_true rfl)) 0)) ((f26 48 (of_decide_eq_true rfl)).trans (f8 48 (of_decide_eq_true rfl))) ((f26 49 (of_decide_eq_true rfl)).trans (f8 49 (of_decide_eq_true rfl))) hI47
            have I82 : jI50 σ24 := jI50_fr ((f26 52 (of_decide_eq_true rfl)).trans (f8 52 (of_decide_eq_true rfl))) hI50
            have I83 : jI102 σ24 := jI102_fr (f27 6 (of_decide_eq_true rfl)) (f26 60 (of_decide_eq_true rfl)) (f26 61 (of_decide_eq_true rfl)) I20
            have I84 : jI103 σ24 := jI103_fr ((f27 9 (of_decide_eq_true rfl)).trans (congrFun (f8 55 (of_decide_eq_true rfl)) 9)) hI103
            have I85 : jI104 σ24 := jI104_fr ((f27 10 (of_decide_eq_true rfl)).trans (congrFun (f8 55 (of_decide_eq_true rfl)) 10)) ((f27 12 (of_decide_eq_true rfl)).trans (congrFun (f8 55 (of_decide_eq_true rfl)) 12)) ((f27 13 (of_decide_eq_true rfl)).trans (congrFun (f8 55 (of_decide_eq_true rfl)) 13)) ((f26 62 (of_decide_eq_true rfl)).trans (f8 62 (of_decide_eq_true rfl))) ((f26 67 (of_decide_eq_true rfl)).trans (f8 67 (of_decide_eq_true rfl))) hI104
            have I86 : jI105 σ24 := jI105_fr ((f27 15 (of_decide_eq_true rfl)).trans (congrFun (f8 55 (of_decide_eq_true rfl)) 15)) ((f26 65 (of_decide_eq_true rfl)).trans (f8 65 (of_decide_eq_true rfl))) hI105
            have I87 : jI106 σ24 := jI106_fr ((f27 32 (of_decide_eq_true rfl)).trans (congrFun (f8 55 (of_decide_eq_true rfl)) 32)) ((f26 70 (of_decide_eq_true rfl)).trans (f8 70 (of_decide_eq_true rfl))) ((f26 71 (of_decide_eq_true rfl)).trans (f8 71 (of_decide_eq_true rfl))) ((f26 72 (of_decide_eq_true rfl)).trans (f8 72 (of_decide_eq_true rfl))) hI106
            have I88 : jI107 σ24 := jI107_fr ((f27 12 (of_decide_eq_true rfl)).trans (congrFun (f8 55 (of_decide_eq_true rfl)) 12)) ((f27 47 (of_decide_eq_true rfl)).trans (congrFun (f8 55 (of_decide_eq_true rfl)) 47)) ((f26 80 (of_decide_eq_true rfl)).trans (f8 80 (of_decide_eq_true rfl))) hI107
            have I89 : jI109 σ24 := jI109_fr ((f27 50 (of_decide_eq_true rfl)).trans (congrFun (f8 55 (of_decide_eq_true rfl)) 50)) hI109
            have I90 : jI110 σ24 := jI110_fr ((f26 86 (of_decide_eq_true rfl)).trans (f8 86 (of_decide_eq_true rfl))) ((f26 87 (of_decide_eq_true rfl)).trans (f8 87 (of_decide_eq_true rfl))) hI110
            have I91 : jI111 σ24 := jI111_fr ((f26 79 (of_decide_eq_true rfl)).trans (f8 79 (of_decide_eq_true rfl))) hI111
            have I92 : jI119 σ24 := jI119_fr ((f26 68 (of_decide_eq_true rfl)).trans (f8 68 (of_decide_eq_true rfl))) hI119
            have p93 : jKept σ24 := jKept.fr ((f26 75 (of_decide_eq_true rfl)).trans (f8 75 (of_decide_eq_true rfl))) ((f26 76 (of_decide_eq_true rfl)).trans (f8 76 (of_decide_eq_true rfl))) ((f26 77 (of_decide_eq_true rfl)).trans (f8 77 (of_decide_eq_true rfl))) hs_jKept
            have p94 : jBook σ24 := jBook.fr ((f27 47 (of_decide_eq_true rfl)).trans (congrFun (f8 55 (of_decide_eq_true rfl)) 47)) ((f27 10 (of_decide_eq_true rfl)).trans (congrFun (f8 55 (of_decide_eq_true rfl)) 10)) ((f26 81 (of_decide_eq_true rfl)).trans (f8 81 (of_decide_eq_true rfl))) hs_jBook
            have z95 : (σ24 38 0).toInt = (σ 38 0).toInt := (congrArg Int32.toInt (show σ24 38 0 = (σ 38 0) from ((congrFun (f26 38 (of_decide_eq_true rfl)) 0).trans (congrFun (f8 38 (of_decide_eq_true rfl)) 0))))
            have z96 : (σ24 55 32).toInt = (σ 55 32).toInt := (congrArg Int32.toInt (show σ24 55 32 = (σ 55 32) from ((f27 32 (of_decide_eq_true rfl)).trans (congrFun (f8 55 (of_decide_eq_true rfl)) 32))))
            exact by exact ih x71 σ24 τ _ _ ls (by have h9 := tx71; omega) ⟨I72, I73, I74, I75, I76, I77, I78, I79, I80, I81, I82, I28, I83, I84, I85, I86, I87, I88, I89, I90, I91, I92, p93, p94, (by omega)⟩ hP hS (lv_sub hl [0, 1, 2, 3] rfl)
    · obtain ⟨q104, k97, k98, k99, k100, k101, k102, k103⟩ := h13
      refine lv_pop hx hb dL_law_754 rfl ?_
      refine lv_aload_n hx hb dL_law_755 rfl (lv_at hl 1 rfl) ?_
      refine lv_aload_n hx hb dL_law_756 rfl (lv_at hl 3 rfl) ?_
      refine lv_iload_n hx hb dL_law_757 rfl (lv_at hl 0 rfl) ?_
      refine lv_iconst (v := 1) hx hb dL_law_758 (of_decide_eq_true rfl) ?_
      refine lv_iadd hx hb dL_law_759 ?_
      refine jtopr ex2.symm ?_
      exact by
       refine va_sld hx hb hX hbl hbA hS (jin tx2 (by omega) (by omega)) dL_law_760 ?_
       refine lv_aload_n hx hb dL_law_761 rfl (lv_at hl 3 rfl) ?_
       refine lv_iload_n hx hb dL_law_762 rfl (lv_at hl 0 rfl) ?_
       refine lv_iconst (v := 2) hx hb dL_law_763 (of_decide_eq_true rfl) ?_
       refine lv_iadd hx hb dL_law_764 ?_
       refine jtopr ex4.symm ?_
       refine va_sld hx hb hX hbl hbA hS (jin tx4 (by omega) (by omega)) dL_law_765 ?_
       have I105 : jI101 σ6 := jI101_fr (congrFun (f8 55 (of_decide_eq_true rfl)) 4) (congrFun (f8 55 (of_decide_eq_true rfl)) 5) (f8 56 (of_decide_eq_true rfl)) (f8 57 (of_decide_eq_true rfl)) (f8 58 (of_decide_eq_true rfl)) (f8 59 (of_decide_eq_true rfl)) hI101
       have I106 : jI102 σ6 := jI102_fr (congrFun (f8 55 (of_decide_eq_true rfl)) 6) (f8 60 (of_decide_eq_true rfl)) (f8 61 (of_decide_eq_true rfl)) hI102
       exact by
        have z107 : (σ6 55 6).toInt = (σ 55 6).toInt := (congrArg Int32.toInt (show σ6 55 6 = (σ 55 6) from (congrFun (f8 55 (of_decide_eq_true rfl)) 6)))
        have z108 : (σ6 55 5).toInt = (σ 55 5).toInt := (congrArg Int32.toInt (show σ6 55 5 = (σ 55 5) from (congrFun (f8 55 (of_decide_eq_true rfl)) 5)))
        have z109 : (σ6 55 4).toInt = (σ 55 4).toInt := (congrArg Int32.toInt (show σ6 55 4 = (σ 55 4) from (congrFun (f8 55 (of_decide_eq_true rfl)) 4)))
        refine jcallV (As := [.int (xs x2.toNatClampNeg), .int (xs x4.toNatClampNeg)]) (rest := []) ⟨hx, hb, hml, hown, hts⟩ hK hP hA hS hZ (c_X12_learn l D cI cL ad zz hJ σ6 τ (xs x2.toNatClampNeg) ((xs x2.toNatClampNeg).toInt) rfl (xs x4.toNatClampNeg) ((xs x4.toNatClampNeg).toInt) rfl I105 I106) cw_RL_92 (jc_55 cI cL ad σ6 τ) rfl ⟨Nat.le_of_ble_eq_true rfl, Nat.le_of_ble_eq_true rfl⟩ rfl rfl rfl hl.1 rfl (Nat.le_of_ble_eq_true rfl) dL_law_766 ⟨Nat.le_of_ble_eq_true rfl, Nat.le_of_ble_eq_true rfl⟩ (fun r111 σ110 τ110 H locs h110 hP hS => ?_)
        obtain ⟨rfl, f112, f113, I114, h110⟩ := h110
        rcases h110 with h116 | h117
        · obtain ⟨q122, k118, k119, k120, k121⟩ := h116
          have q122 := q122.symm
          subst q122
          refine lv_pop hx hb dL_law_769 rfl ?_
          refine lv_goto (tgt := 1357) hx hb dL_law_770 (of_decide_eq_true rfl) ?_
          obtain ⟨x123, ex123⟩ : ∃ y : Int32, y = x0 + 6 := ⟨_, rfl⟩
          exact by
           have tx123 : x123.toInt = x0.toInt + 6 := (jadd ex123 rfl jz_6 (by omega) (by omega)).trans (by omega)
           refine lv_iinc (v := x123) (lv' := [(3, .int x123), (2, .ref (ad 55)), (1, .ref (ad 0)), (0, .ref b)]) hx hb dL_law_1357 hl (k := 0) rfl (by rw [ex123]; rfl) (of_decide_eq_true rfl) rfl (fun ls hl => ?_)
           refine lv_goto (tgt := 18) hx hb dL_law_1360 (of_decide_eq_true rfl) ?_
           have I124 : jI2 σ110 := jI2_fr (congrFun (f112 2 (of_decide_eq_true rfl)) 0) (congrFun (f112 2 (of_decide_eq_true rfl)) 1) (congrFun (f112 2 (of_decide_eq_true rfl)) 2) (congrFun (f112 2 (of_decide_eq_true rfl)) 3) (f112 6 (of_decide_eq_true rfl)) I10
           have I125 : jI9 σ110 := jI9_fr ((congrFun (f112 9 (of_decide_eq_true rfl)) 0).trans (congrFun (f8 9 (of_decide_eq_true rfl)) 0)) ((f112 10 (of_decide_eq_true rfl)).trans (f8 10 (of_decide_eq_true rfl))) ((f112 11 (of_decide_eq_true rfl)).trans (f8 11 (of_decide_eq_true rfl))) hI9
           have I126 : jI12 σ110 := jI12_fr ((congrFun (f112 12 (of_decide_eq_true rfl)) 0).trans (congrFun (f8 12 (of_decide_eq_true rfl)) 0)) ((f112 13 (of_decide_eq_true rfl)).trans (f8 13 (of_decide_eq_true rfl))) hI12
           have I127 : jI16 σ110 := jI16_fr ((congrFun (f112 16 (of_decide_eq_true rfl)) 0).trans (congrFun (f8 16 (of_decide_eq_true rfl)) 0)) ((congrFun (f112 16 (of_decide_eq_true rfl)) 1).trans (congrFun (f8 16 (of_decide_eq_true rfl)) 1)) ((congrFun (f112 16 (of_decide_eq_true rfl)) 2).trans (congrFun (f8 16 (of_decide_eq_true rfl)) 2)) ((f112 17 (of_decide_eq_true rfl)).trans (f8 17 (of_decide_eq_true rfl))) hI16
           have I128 : jI18 σ110 := jI18_fr ((congrFun (f112 18 (of_decide_eq_true rfl)) 0).trans (congrFun (f8 18 (of_decide_eq_true rfl)) 0)) ((f112 19 (of_decide_eq_true rfl)).trans (f8 19 (of_decide_eq_true rfl))) hI18
           have I129 : jI22 σ110 := jI22_fr ((congrFun (f112 22 (of_decide_eq_true rfl)) 0).trans (congrFun (f8 22 (of_decide_eq_true rfl)) 0)) ((f112 23 (of_decide_eq_true rfl)).trans (f8 23 (of_decide_eq_true rfl))) hI22
           exact by
            have I130 : jI31 σ110 := jI31_fr ((congrFun (f112 31 (of_decide_eq_true rfl)) 8).trans (congrFun (f8 31 (of_decide_eq_true rfl)) 8)) ((f112 33 (of_decide_eq_true rfl)).trans (f8 33 (of_decide_eq_true rfl))) ((f112 36 (of_decide_eq_true rfl)).trans (f8 36 (of_decide_eq_true rfl))) hI31
            have I131 : jI38 σ110 := jI38_fr ((congrFun (f112 38 (of_decide_eq_true rfl)) 0).trans (congrFun (f8 38 (of_decide_eq_true rfl)) 0)) ((congrFun (f112 38 (of_decide_eq_true rfl)) 1).trans (congrFun (f8 38 (of_decide_eq_true rfl)) 1)) ((f112 39 (of_decide_eq_true rfl)).trans (f8 39 (of_decide_eq_true rfl))) hI38
            have I132 : jI43 σ110 := jI43_fr ((congrFun (f112 43 (of_decide_eq_true rfl)) 8).trans (congrFun (f8 43 (of_decide_eq_true rfl)) 8)) hI43
            have I133 : jI47 σ110 := jI47_fr ((congrFun (f112 47 (of_decide_eq_true rfl)) 0).trans (congrFun (f8 47 (of_decide_eq_true rfl)) 0)) ((f112 48 (of_decide_eq_true rfl)).trans (f8 48 (of_decide_eq_true rfl))) ((f112 49 (of_decide_eq_true rfl)).trans (f8 49 (of_decide_eq_true rfl))) hI47
            have I134 : jI50 σ110 := jI50_fr ((f112 52 (of_decide_eq_true rfl)).trans (f8 52 (of_decide_eq_true rfl))) hI50
            have I135 : jI102 σ110 := jI102_fr (f113 6 (of_decide_eq_true rfl)) (f112 60 (of_decide_eq_true rfl)) (f112 61 (of_decide_eq_true rfl)) I106
            have I136 : jI103 σ110 := jI103_fr ((f113 9 (of_decide_eq_true rfl)).trans (congrFun (f8 55 (of_decide_eq_true rfl)) 9)) hI103
            have I137 : jI104 σ110 := jI104_fr ((f113 10 (of_decide_eq_true rfl)).trans (congrFun (f8 55 (of_decide_eq_true rfl)) 10)) ((f113 12 (of_decide_eq_true rfl)).trans (congrFun (f8 55 (of_decide_eq_true rfl)) 12)) ((f113 13 (of_decide_eq_true rfl)).trans (congrFun (f8 55 (of_decide_eq_true rfl)) 13)) ((f112 62 (of_decide_eq_true rfl)).trans (f8 62 (of_decide_eq_true rfl))) ((f112 67 (of_decide_eq_true rfl)).trans (f8 67 (of_decide_eq_true rfl))) hI104
            have I138 : jI105 σ110 := jI105_fr ((f113 15 (of_decide_eq_true rfl)).trans (congrFun (f8 55 (of_decide_eq_true rfl)) 15)) ((f112 65 (of_decide_eq_true rfl)).trans (f8 65 (of_decide_eq_true rfl))) hI105
            have I139 : jI106 σ110 := jI106_fr ((f113 32 (of_decide_eq_true rfl)).trans (congrFun (f8 55 (of_decide_eq_true rfl)) 32)) ((f112 70 (of_decide_eq_true rfl)).trans (f8 70 (of_decide_eq_true rfl))) ((f112 71 (of_decide_eq_true rfl)).trans (f8 71 (of_decide_eq_true rfl))) ((f112 72 (of_decide_eq_true rfl)).trans (f8 72 (of_decide_eq_true rfl))) hI106
            have I140 : jI107 σ110 := jI107_fr ((f113 12 (of_decide_eq_true rfl)).trans (congrFun (f8 55 (of_decide_eq_true rfl)) 12)) ((f113 47 (of_decide_eq_true rfl)).trans (congrFun (f8 55 (of_decide_eq_true rfl)) 47)) ((f112 80 (of_decide_eq_true rfl)).trans (f8 80 (of_decide_eq_true rfl))) hI107
            have I141 : jI109 σ110 := jI109_fr ((f113 50 (of_decide_eq_true rfl)).trans (congrFun (f8 55 (of_decide_eq_true rfl)) 50)) hI109
            have I142 : jI110 σ110 := jI110_fr ((f112 86 (of_decide_eq_true rfl)).trans (f8 86 (of_decide_eq_true rfl))) ((f112 87 (of_decide_eq_true rfl)).trans (f8 87 (of_decide_eq_true rfl))) hI110
            have I143 : jI111 σ110 := jI111_fr ((f112 79 (of_decide_eq_true rfl)).trans (f8 79 (of_decide_eq_true rfl))) hI111
            have I144 : jI119 σ110 := jI119_fr ((f112 68 (of_decide_eq_true rfl)).trans (f8 68 (of_decide_eq_true rfl))) hI119
            have p145 : jKept σ110 := jKept.fr ((f112 75 (of_decide_eq_true rfl)).trans (f8 75 (of_decide_eq_true rfl))) ((f112 76 (of_decide_eq_true rfl)).trans (f8 76 (of_decide_eq_true rfl))) ((f112 77 (of_decide_eq_true rfl)).trans (f8 77 (of_decide_eq_true rfl))) hs_jKept
            have p146 : jBook σ110 := jBook.fr ((f113 47 (of_decide_eq_true rfl)).trans (congrFun (f8 55 (of_decide_eq_true rfl)) 47)) ((f113 10 (of_decide_eq_true rfl)).trans (congrFun (f8 55 (of_decide_eq_true rfl)) 10)) ((f112 81 (of_decide_eq_true rfl)).trans (f8 81 (of_decide_eq_true rfl))) hs_jBook
            have z147 : (σ110 38 0).toInt = (σ 38 0).toInt := (congrArg Int32.toInt (show σ110 38 0 = (σ 38 0) from ((congrFun (f112 38 (of_decide_eq_true rfl)) 0).trans (congrFun (f8 38 (of_decide_eq_true rfl)) 0))))
            have z148 : (σ110 55 32).toInt = (σ 55 32).toInt := (congrArg Int32.toInt (show σ110 55 32 = (σ 55 32) from ((f113 32 (of_decide_eq_true rfl)).trans (congrFun (f8 55 (of_decide_eq_true rfl)) 32))))
            exact by exact ih x123 σ110 τ _ _ ls (by have h9 := tx123; omega) ⟨I124, I125, I126, I127, I128, I129, I130, I131, I132, I133, I134, I114, I135, I136, I137, I138, I139, I140, I141, I142, I143, I144, p145, p146, (by omega)⟩ hP hS (lv_sub hl [0, 1, 2, 3] rfl)
        · obtain ⟨q156, k149, k150, k151, k152, k153, k154, k155⟩ := h117
          refine lv_pop hx hb dL_law_769 rfl ?_
          refine lv_goto (tgt := 1357) hx hb dL_law_770 (of_decide_eq_true rfl) ?_
          obtain ⟨x157, ex157⟩ : ∃ y : Int32, y = x0 + 6 := ⟨_, rfl⟩
          exact by
           have tx157 : x157.toInt = x0.toInt + 6 := (jadd ex157 rfl jz_6 (by omega) (by omega)).trans (by omega)
           refine lv_iinc (v := x157) (lv' := [(3, .int x157), (2, .ref (ad 55)), (1, .ref (ad 0)), (0, .ref b)]) hx hb dL_law_1357 hl (k := 0) rfl (by rw [ex157]; rfl) (of_decide_eq_true rfl) rfl (fun ls hl => ?_)
           refine lv_goto (tgt := 18) hx hb dL_law_1360 (of_decide_eq_true rfl) ?_
           have I158 : jI2 σ110 := jI2_fr (congrFun (f112 2 (of_decide_eq_true rfl)) 0) (congrFun (f112 2 (of_decide_eq_true rfl)) 1) (congrFun (f112 2 (of_decide_eq_true rfl)) 2) (congrFun (f112 2 (of_decide_eq_true rfl)) 3) (f112 6 (of_decide_eq_true rfl)) I10
           have I159 : jI9 σ110 := jI9_fr ((congrFun (f112 9 (of_decide_eq_true rfl)) 0).trans (congrFun (f8 9 (of_decide_eq_true rfl)) 0)) ((f112 10 (of_decide_eq_true rfl)).trans (f8 10 (of_decide_eq_true rfl))) ((f112 11 (of_decide_eq_true rfl)).trans (f8 11 (of_decide_eq_true rfl))) hI9
           have I160 : jI12 σ110 := jI12_fr ((congrFun (f112 12 (of_decide_eq_true rfl)) 0).trans (congrFun (f8 12 (of_decide_eq_true rfl)) 0)) ((f112 13 (of_decide_eq_true rfl)).trans (f8 13 (of_decide_eq_true rfl))) hI12
           have I161 : jI16 σ110 := jI16_fr ((congrFun (f112 16 (of_decide_eq_true rfl)) 0).trans (congrFun (f8 16 (of_decide_eq_true rfl)) 0)) ((congrFun (f112 16 (of_decide_eq_true rfl)) 1).trans (congrFun (f8 16 (of_decide_eq_true rfl)) 1)) ((congrFun (f112 16 (of_decide_eq_true rfl)) 2).trans (congrFun (f8 16 (of_decide_eq_true rfl)) 2)) ((f112 17 (of_decide_eq_true rfl)).trans (f8 17 (of_decide_eq_true rfl))) hI16
           have I162 : jI18 σ110 := jI18_fr ((congrFun (f112 18 (of_decide_eq_true rfl)) 0).trans (congrFun (f8 18 (of_decide_eq_true rfl)) 0)) ((f112 19 (of_decide_eq_true rfl)).trans (f8 19 (of_decide_eq_true rfl))) hI18
           have I163 : jI22 σ110 := jI22_fr ((congrFun (f112 22 (of_decide_eq_true rfl)) 0).trans (congrFun (f8 22 (of_decide_eq_true rfl)) 0)) ((f112 23 (of_decide_eq_true rfl)).trans (f8 23 (of_decide_eq_true rfl))) hI22
           exact by
            have I164 : jI31 σ110 := jI31_fr ((congrFun (f112 31 (of_decide_eq_true rfl)) 8).trans (congrFun (f8 31 (of_decide_eq_true rfl)) 8)) ((f112 33 (of_decide_eq_true rfl)).trans (f8 33 (of_decide_eq_true rfl))) ((f112 36 (of_decide_eq_true rfl)).trans (f8 36 (of_decide_eq_true rfl))) hI31
            have I165 : jI38 σ110 := jI38_fr ((congrFun (f112 38 (of_decide_eq_true rfl)) 0).trans (congrFun (f8 38 (of_decide_eq_true rfl)) 0)) ((congrFun (f112 38 (of_decide_eq_true rfl)) 1).trans (congrFun (f8 38 (of_decide_eq_true rfl)) 1)) ((f112 39 (of_decide_eq_true rfl)).trans (f8 39 (of_decide_eq_true rfl))) hI38
            have I166 : jI43 σ110 := jI43_fr ((congrFun (f112 43 (of_decide_eq_true rfl)) 8).trans (congrFun (f8 43 (of_decide_eq_true rfl)) 8)) hI43
            have I167 : jI47 σ110 := jI47_fr ((congrFun (f112 47 (of_decide_eq_true rfl)) 0).trans (congrFun (f8 47 (of_decide_eq_true rfl)) 0)) ((f112 48 (of_decide_eq_true rfl)).trans (f8 48 (of_decide_eq_true rfl))) ((f112 49 (of_decide_eq_true rfl)).trans (f8 49 (of_decide_eq_true rfl))) hI47
            have I168 : jI50 σ110 := jI50_fr ((f112 52 (of_decide_eq_true rfl)).trans (f8 52 (of_decide_eq_true rfl))) hI50
            have I169 : jI102 σ110 := jI102_fr (f113 6 (of_decide_eq_true rfl)) (f112 60 (of_decide_eq_true rfl)) (f112 61 (of_decide_eq_true rfl)) I106
            have I170 : jI103 σ110 := jI103_fr ((f113 9 (of_decide_eq_true rfl)).trans (congrFun (f8 55 (of_decide_eq_true rfl)) 9)) hI103
            have I171 : jI104 σ110 := jI104_fr ((f113 10 (of_decide_eq_true rfl)).trans (congrFun (f8 55 (of_decide_eq_true rfl)) 10)) ((f113 12 (of_decide_eq_true rfl)).trans (congrFun (f8 55 (of_decide_eq_true rfl)) 12)) ((f113 13 (of_decide_eq_true rfl)).trans (congrFun (f8 55 (of_decide_eq_true rfl)) 13)) ((f112 62 (of_decide_eq_true rfl)).trans (f8 62 (of_decide_eq_true rfl))) ((f112 67 (of_decide_eq_true rfl)).trans (f8 67 (of_decide_eq_true rfl))) hI104
            have I172 : jI105 σ110 := jI105_fr ((f113 15 (of_decide_eq_true rfl)).trans (congrFun (f8 55 (of_decide_eq_true rfl)) 15)) ((f112 65 (of_decide_eq_true rfl)).trans (f8 65 (of_decide_eq_true rfl))) hI105
            have I173 : jI106 σ110 := jI106_fr ((f113 32 (of_decide_eq_true rfl)).trans (congrFun (f8 55 (of_decide_eq_true rfl)) 32)) ((f112 70 (of_decide_eq_true rfl)).trans (f8 70 (of_decide_eq_true rfl))) ((f112 71 (of_decide_eq_true rfl)).trans (f8 71 (of_decide_eq_true rfl))) ((f112 72 (of_decide_eq_true rfl)).trans (f8 72 (of_decide_eq_true rfl))) hI106
            have I174 : jI107 σ110 := jI107_fr ((f113 12 (of_decide_eq_true rfl)).trans (congrFun (f8 55 (of_decide_eq_true rfl)) 12)) ((f113 47 (of_decide_eq_true rfl)).trans (congrFun (f8 55 (of_decide_eq_true rfl)) 47)) ((f112 80 (of_decide_eq_true rfl)).trans (f8 80 (of_decide_eq_true rfl))) hI107
            have I175 : jI109 σ110 := jI109_fr ((f113 50 (of_decide_eq_true rfl)).trans (congrFun (f8 55 (of_decide_eq_true rfl)) 50)) hI109
            have I176 : jI110 σ110 := jI110_fr ((f112 86 (of_decide_eq_true rfl)).trans (f8 86 (of_decide_eq_true rfl))) ((f112 87 (of_decide_eq_true rfl)).trans (f8 87 (of_decide_eq_true rfl))) hI110
            have I177 : jI111 σ110 := jI111_fr ((f112 79 (of_decide_eq_true rfl)).trans (f8 79 (of_decide_eq_true rfl))) hI111
            have I178 : jI119 σ110 := jI119_fr ((f112 68 (of_decide_eq_true rfl)).trans (f8 68 (of_decide_eq_true rfl))) hI119
            have p179 : jKept σ110 := jKept.fr ((f112 75 (of_decide_eq_true rfl)).trans (f8 75 (of_decide_eq_true rfl))) ((f112 76 (of_decide_eq_true rfl)).trans (f8 76 (of_decide_eq_true rfl))) ((f112 77 (of_decide_eq_true rfl)).trans (f8 77 (of_decide_eq_true rfl))) hs_jKept
            have p180 : jBook σ110 := jBook.fr ((f113 47 (of_decide_eq_true rfl)).trans (congrFun (f8 55 (of_decide_eq_true rfl)) 47)) ((f113 10 (of_decide_eq_true rfl)).trans (congrFun (f8 55 (of_decide_eq_true rfl)) 10)) ((f112 81 (of_decide_eq_true rfl)).trans (f8 81 (of_decide_eq_true rfl))) hs_jBook
            have z181 : (σ110 38 0).toInt = (σ 38 0).toInt := (congrArg Int32.toInt (show σ110 38 0 = (σ 38 0) from ((congrFun (f112 38 (of_decide_eq_true rfl)) 0).trans (congrFun (f8 38 (of_decide_eq_true rfl)) 0))))
            have z182 : (σ110 55 32).toInt = (σ 55 32).toInt := (congrArg Int32.toInt (show σ110 55 32 = (σ 55 32) from ((f113 32 (of_decide_eq_true rfl)).trans (congrFun (f8 55 (of_decide_eq_true rfl)) 32))))
            exact by exact ih x157 σ110 τ _ _ ls (by have h9 := tx157; omega) ⟨I158, I159, I160, I161, I162, I163, I164, I165, I166, I167, I168, I114, I169, I170, I171, I172, I173, I174, I175, I176, I177, I178, p179, p180, (by omega)⟩ hP hS (lv_sub hl [0, 1, 2, 3] rfl)
