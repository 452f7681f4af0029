set_option maxHeartbeats 4000000 in
set_option maxRecDepth 100000 in
theorem law_case_0 {p : Program} {e : Env} {s : State} {m : MethodId} {below : List Frame} {meth : Method} {c : Code} (l : Launch) {b L : Nat} {xs : Nat → Int32} {D : va_G} {cI cL : ClassId} {ad zz : Nat → Nat} (C0 : lw_At p s m meth c b L xs) (hJ : jD ad) (hA : ∀ q, jA ad q → s.heap.size ≤ q) (hK : jK D cI cL s) (hZ : jZ zz (fun q : Nat => s.heap.size ≤ q) s s.heap) {x0 : Int32} (hx0 : 0 ≤ x0.toInt) (hxL : x0.toInt + 6 ≤ (L : Int)) (hL : L ≤ 384) {σ : Nat → Nat → Int32} {τ : Nat → Nat → Int64} {H : Heap} {locs : List Loc} (hS : va_S (fun q : Nat => s.heap.size ≤ q) s.heap H locs) {ls : Array Slot} (hAll : jAll σ τ) (hP : jH D cI cL ad σ τ H) (hl : lv_has ls 4 [(3, .int x0), (2, .ref (ad 55)), (1, .ref (ad 0)), (0, .ref b)]) (ih : ∀ (x1 : Int32) (σ : Nat → Nat → Int32) (τ : Nat → Nat → Int64) (H : Heap) (locs : List Loc) (ls : Array Slot), x1.toInt = x0.toInt + 6 → jAll σ τ → jH D cI cL ad σ τ H → va_S (fun q : Nat => s.heap.size ≤ q) s.heap H locs → lv_has ls 4 [(3, .int x1), (2, .ref (ad 55)), (1, .ref (ad 0)), (0, .ref b)] → W p l e room_1 s m #[Value.ref b] below meth c H locs 90 348600 (lw_Z below #[Value.ref b] s) (F0 m 18 ls [])) : W p l e room_1 s m #[Value.ref b] below meth c H locs 90 348600 (lw_Z below #[Value.ref b] s) (F0 m 196 ls []) := by
  obtain ⟨hx, hb, hr, hml, hown, hts0, hX, hbl, hlocks, hgv⟩ := C0
  have hts : ∀ w ∈ wsL_law, w.before #[Value.ref b] s = true := fun w h => hts0 w (wsL_law_in w h)
  have hbA : ¬ (fun q : Nat => s.heap.size ≤ q) b := Nat.not_le.mpr hbl
  have hown : s.vm.findClass RL = some m.cls := hown
  obtain ⟨hI2, hI9, hI12, hI16, hI18, hI22, hI31, hI38, hI43, hI47, hI50, hI101, hI102, hI103, hI104, hI105, hI106, hI107, hI109, hI110, hI111, hI119, hs_jKept, hs_jBook, ht0, hr0⟩ := hAll
  have hL9 : (L : Int) ≤ 384 := by omega
  obtain ⟨i1, w2, w3⟩ : (0 ≤ (σ 9 0).toInt ∧ (σ 9 0).toInt ≤ 80) ∧ (∀ k : Nat, k < 80 → 0 ≤ (σ 10 k).toInt ∧ (σ 10 k).toInt ≤ 255) ∧ (∀ k : Nat, k < 8 → 0 ≤ (σ 11 k).toInt ∧ (σ 11 k).toInt ≤ 3) := id hI9
  obtain ⟨i4, w5⟩ : (0 ≤ (σ 55 15).toInt ∧ (σ 55 15).toInt ≤ 80) ∧ (∀ k : Nat, k < 2 → (-1) ≤ (σ 65 k).toInt ∧ (σ 65 k).toInt ≤ 80) := id hI105
  refine lv_aload_n hx hb dL_law_196 rfl (lv_at hl 2 rfl) ?_
  refine lv_aload_n hx hb dL_law_197 rfl (lv_at hl 3 rfl) ?_
  refine lv_iload_n hx hb dL_law_198 rfl (lv_at hl 0 rfl) ?_
  refine lv_iconst (v := 1) hx hb dL_law_199 (of_decide_eq_true rfl) ?_
  have g6 := jrg (rfl : x0.toInt = x0.toInt)
  refine lv_iadd hx hb dL_law_200 ?_
  refine lv_topi (fun x7 ex7 => ?_)
  exact by
   have tx7 : x7.toInt = x0.toInt + 1 := (jadd ex7 rfl jz_1 (by omega) (by omega)).trans (by omega)
   refine va_sld hx hb hX hbl hbA hS (jin tx7 (by omega) (by omega)) dL_law_201 ?_
   have g8 := jrg (rfl : (xs x7.toNatClampNeg).toInt = (xs x7.toNatClampNeg).toInt)
   refine lv_aload_n hx hb dL_law_202 rfl (lv_at hl 3 rfl) ?_
   refine lv_iload_n hx hb dL_law_203 rfl (lv_at hl 0 rfl) ?_
   refine lv_iconst (v := 2) hx hb dL_law_204 (of_decide_eq_true rfl) ?_
   refine lv_iadd hx hb dL_law_205 ?_
   refine lv_topi (fun x9 ex9 => ?_)
   have tx9 : x9.toInt = x0.toInt + 2 := (jadd ex9 rfl jz_2 (by omega) (by omega)).trans (by omega)
   exact by
    refine va_sld hx hb hX hbl hbA hS (jin tx9 (by omega) (by omega)) dL_law_206 ?_
    have g10 := jrg (rfl : (xs x9.toNatClampNeg).toInt = (xs x9.toNatClampNeg).toInt)
    refine lv_aload_n hx hb dL_law_207 rfl (lv_at hl 3 rfl) ?_
    refine lv_iload_n hx hb dL_law_208 rfl (lv_at hl 0 rfl) ?_
    refine lv_iconst (v := 3) hx hb dL_law_209 (of_decide_eq_true rfl) ?_
    refine lv_iadd hx hb dL_law_210 ?_
    refine lv_topi (fun x11 ex11 => ?_)
    have tx11 : x11.toInt = x0.toInt + 3 := (jadd ex11 rfl jz_3 (by omega) (by omega)).trans (by omega)
    refine va_sld hx hb hX hbl hbA hS (jin tx11 (by omega) (by omega)) dL_law_211 ?_
    exact by
     have g12 := jrg (rfl : (xs x11.toNatClampNeg).toInt = (xs x11.toNatClampNeg).toInt)
     refine jcallV (As := [.int (xs x7.toNatClampNeg), .int (xs x9.toNatClampNeg), .int (xs x11.toNatClampNeg)]) (rest := []) ⟨hx, hb, hml, hown, hts⟩ hK hP hA hS hZ (c_X11_bowler l D cI cL ad zz hJ σ τ (xs x7.toNatClampNeg) ((xs x7.toNatClampNeg).toInt) rfl (xs x9.toNatClampNeg) ((xs x9.toNatClampNeg).toInt) rfl (xs x11.toNatClampNeg) ((xs x11.toNatClampNeg).toInt) rfl hI2) cw_RL_13 (jc_0 cI cL ad σ τ) rfl ⟨Nat.le_of_ble_eq_true rfl, Nat.le_of_ble_eq_true rfl⟩ rfl rfl rfl hl.1 rfl (Nat.le_of_ble_eq_true rfl) dL_law_212 ⟨Nat.le_of_ble_eq_true rfl, Nat.le_of_ble_eq_true rfl⟩ (fun r14 σ13 τ13 H locs h13 hP hS => ?_)
     obtain ⟨rfl, f15, f16, I17, h13⟩ := h13
     rcases h13 with h19 | h20 | h21
     · obtain ⟨q25, k22, k23, k24⟩ := h19
       have q25 := q25.symm
       subst q25
       refine lv_pop hx hb dL_law_215 rfl ?_
       refine lv_aload_n hx hb dL_law_216 rfl (lv_at hl 1 rfl) ?_
       refine lv_aload_n hx hb dL_law_217 rfl (lv_at hl 3 rfl) ?_
       refine lv_iload_n hx hb dL_law_218 rfl (lv_at hl 0 rfl) ?_
       refine lv_iconst (v := 1) hx hb dL_law_219 (of_decide_eq_true rfl) ?_
       refine lv_iadd hx hb dL_law_220 ?_
       refine jtopr ex7.symm ?_
       exact by
        refine va_sld hx hb hX hbl hbA hS (jin tx7 (by omega) (by omega)) dL_law_221 ?_
        refine lv_aload_n hx hb dL_law_222 rfl (lv_at hl 3 rfl) ?_
        refine lv_iload_n hx hb dL_law_223 rfl (lv_at hl 0 rfl) ?_
        refine lv_iconst (v := 2) hx hb dL_law_224 (of_decide_eq_true rfl) ?_
        refine lv_iadd hx hb dL_law_225 ?_
        refine jtopr ex9.symm ?_
        refine va_sld hx hb hX hbl hbA hS (jin tx9 (by omega) (by omega)) dL_law_226 ?_
        refine lv_aload_n hx hb dL_law_227 rfl (lv_at hl 3 rfl) ?_
        refine lv_iload_n hx hb dL_law_228 rfl (lv_at hl 0 rfl) ?_
        exact by
         refine lv_iconst (v := 3) hx hb dL_law_229 (of_decide_eq_true rfl) ?_
         refine lv_iadd hx hb dL_law_230 ?_
         refine jtopr ex11.symm ?_
         refine va_sld hx hb hX hbl hbA hS (jin tx11 (by omega) (by omega)) dL_law_231 ?_
         have I26 : jI101 σ13 := jI101_fr (congrFun (f15 55 (of_decide_eq_true rfl)) 4) (congrFun (f15 55 (of_decide_eq_true rfl)) 5) (f15 56 (of_decide_eq_true rfl)) (f15 57 (of_decide_eq_true rfl)) (f15 58 (of_decide_eq_true rfl)) (f15 59 (of_decide_eq_true rfl)) hI101
         have I27 : jI102 σ13 := jI102_fr (congrFun (f15 55 (of_decide_eq_true rfl)) 6) (f15 60 (of_decide_eq_true rfl)) (f15 61 (of_decide_eq_true rfl)) hI102
         have z28 : (σ13 55 6).toInt = (σ 55 6).toInt := (congrArg Int32.toInt (show σ13 55 6 = (σ 55 6) from (congrFun (f15 55 (of_decide_eq_true rfl)) 6)))
         refine jcallV (As := [.int (xs x7.toNatClampNeg), .int (xs x9.toNatClampNeg), .int (xs x11.toNatClampNeg)]) (rest := []) ⟨hx, hb, hml, hown, hts⟩ hK hP hA hS hZ (c_X12_bowler l D cI cL ad zz hJ σ13 τ (xs x7.toNatClampNeg) ((xs x7.toNatClampNeg).toInt) rfl (xs x9.toNatClampNeg) ((xs x9.toNatClampNeg).toInt) rfl (xs x11.toNatClampNeg) ((xs x11.toNatClampNeg).toInt) rfl I26 I27) cw_RL_17 (jc_55 cI cL ad σ13 τ) rfl ⟨Nat.le_of_ble_eq_true rfl, Nat.le_of_ble_eq_true rfl⟩ rfl rfl rfl hl.1 rfl (Nat.le_of_ble_eq_true rfl) dL_law_232 ⟨Nat.le_of_ble_eq_true rfl, Nat.le_of_ble_eq_true rfl⟩ (fun r30 σ29 τ29 H locs h29 hP hS => ?_)
         obtain ⟨rfl, f31, f32, I33, I34, h29⟩ := h29
         exact by
          rcases h29 with h36 | h37 | h38
          · obtain ⟨q42, k39, k40, k41⟩ := h36
            have q42 := q42.symm
            subst q42
            refine lv_pop hx hb dL_law_235 rfl ?_
            refine lv_goto (tgt := 1357) hx hb dL_law_236 (of_decide_eq_true rfl) ?_
            obtain ⟨x43, ex43⟩ : ∃ y : Int32, y = x0 + 6 := ⟨_, rfl⟩
            have tx43 : x43.toInt = x0.toInt + 6 := (jadd ex43 rfl jz_6 (by omega) (by omega)).trans (by omega)
            refine lv_iinc (v := x43) (lv' := [(3, .int x43), (2, .ref (ad 55)), (1, .ref (ad 0)), (0, .ref b)]) hx hb dL_law_1357 hl (k := 0) rfl (by rw [ex43]; rfl) (of_decide_eq_true rfl) rfl (fun ls hl => ?_)
            exact by
             refine lv_goto (tgt := 18) hx hb dL_law_1360 (of_decide_eq_true rfl) ?_
             have I44 : jI2 σ29 := jI2_fr (congrFun (f31 2 (of_decide_eq_true rfl)) 0) (congrFun (f31 2 (of_decide_eq_true rfl)) 1) (congrFun (f31 2 (of_decide_eq_true rfl)) 2) (congrFun (f31 2 (of_decide_eq_true rfl)) 3) (f31 6 (of_decide_eq_true rfl)) I17
             have I45 : jI9 σ29 := jI9_fr ((congrFun (f31 9 (of_decide_eq_true rfl)) 0).trans (congrFun (f15 9 (of_decide_eq_true rfl)) 0)) ((f31 10 (of_decide_eq_true rfl)).trans (f15 10 (of_decide_eq_true rfl))) ((f31 11 (of_decide_eq_true rfl)).trans (f15 11 (of_decide_eq_true rfl))) hI9
             have I46 : jI12 σ29 := jI12_fr ((congrFun (f31 12 (of_decide_eq_true rfl)) 0).trans (congrFun (f15 12 (of_decide_eq_true rfl)) 0)) ((f31 13 (of_decide_eq_true rfl)).trans (f15 13 (of_decide_eq_true rfl))) hI12
             have I47 : jI16 σ29 := jI16_fr ((congrFun (f31 16 (of_decide_eq_true rfl)) 0).trans (congrFun (f15 16 (of_decide_eq_true rfl)) 0)) ((congrFun (f31 16 (of_decide_eq_true rfl)) 1).trans (congrFun (f15 16 (of_decide_eq_true rfl)) 1)) ((congrFun (f31 16 (of_decide_eq_true rfl)) 2).trans (congrFun (f15 16 (of_decide_eq_true rfl)) 2)) ((f31 17 (of_decide_eq_true rfl)).trans (f15 17 (of_decide_eq_true rfl))) hI16
             have I48 : jI18 σ29 := jI18_fr ((congrFun (f31 18 (of_decide_eq_true rfl)) 0).trans (congrFun (f15 18 (of_decide_eq_true rfl)) 0)) ((f31 19 (of_decide_eq_true rfl)).trans (f15 19 (of_decide_eq_true rfl))) hI18
             have I49 : jI22 σ29 := jI22_fr ((congrFun (f31 22 (of_decide_eq_true rfl)) 0).trans (congrFun (f15 22 (of_decide_eq_true rfl)) 0)) ((f31 23 (of_decide_eq_true rfl)).trans (f15 23 (of_decide_eq_true rfl))) hI22
             have I50 : jI31 σ29 := jI31_fr ((congrFun (f31 31 (of_decide_eq_true rfl)) 8).trans (congrFun (f15 31 (of_decide_eq_true rfl)) 8)) ((f31 33 (of_decide_eq_true rfl)).trans (f15 33 (of_decide_eq_true rfl))) ((f31 36 (of_decide_eq_true rfl)).trans (f15 36 (of_decide_eq_true rfl))) hI31
             have I51 : jI38 σ29 := jI38_fr ((congrFun (f31 38 (of_decide_eq_true rfl)) 0).trans (congrFun (f15 38 (of_decide_eq_true rfl)) 0)) ((congrFun (f31 38 (of_decide_eq_true rfl)) 1).trans (congrFun (f15 38 (of_decide_eq_true rfl)) 1)) ((f31 39 (of_decide_eq_true rfl)).trans (f15 39 (of_decide_eq_true rfl))) hI38
             have I52 : jI43 σ29 := jI43_fr ((congrFun (f31 43 (of_decide_eq_true rfl)) 8).trans (congrFun (f15 43 (of_decide_eq_true rfl)) 8)) hI43
             have I53 : jI47 σ29 := jI47_fr ((congrFun (f31 47 (of_decide_eq_true rfl)) 0).trans (congrFun (f15 47 (of_decide_eq_true rfl)) 0)) ((f31 48 (of_decide_eq_true rfl)).trans (f15 48 (of_decide_eq_true rfl))) ((f31 49 (of_decide_eq_true rfl)).trans (f15 49 (of_decide_eq_true rfl))) hI47
             have I54 : jI50 σ29 := jI50_fr ((f31 52 (of_decide_eq_true rfl)).trans (f15 52 (of_decide_eq_true rfl))) hI50
             have I55 : jI103 σ29 := jI103_fr ((f32 9 (of_decide_eq_true rfl)).trans (congrFun (f15 55 (of_decide_eq_true rfl)) 9)) hI103
             have I56 : jI104 σ29 := jI104_fr ((f32 10 (of_decide_eq_true rfl)).trans (congrFun (f15 55 (of_decide_eq_true rfl)) 10)) ((f32 12 (of_decide_eq_true rfl)).trans (congrFun (f15 55 (of_decide_eq_true rfl)) 12)) ((f32 13 (of_decide_eq_true rfl)).trans (congrFun (f15 55 (of_decide_eq_true rfl)) 13)) ((f31 62 (of_decide_eq_true rfl)).trans (f15 62 (of_decide_eq_true rfl))) ((f31 67 (of_decide_eq_true rfl)).trans (f15 67 (of_decide_eq_true rfl))) hI104
             have I57 : jI105 σ29 := jI105_fr ((f32 15 (of_decide_eq_true rfl)).trans (congrFun (f15 55 (of_decide_eq_true rfl)) 15)) ((f31 65 (of_decide_eq_true rfl)).trans (f15 65 (of_decide_eq_true rfl))) hI105
             have I58 : jI106 σ29 := jI106_fr ((f32 32 (of_decide_eq_true rfl)).trans (congrFun (f15 55 (of_decide_eq_true rfl)) 32)) ((f31 70 (of_decide_eq_true rfl)).trans (f15 70 (of_decide_eq_true rfl))) ((f31 71 (of_decide_eq_true rfl)).trans (f15 71 (of_decide_eq_true rfl))) ((f31 72 (of_decide_eq_true rfl)).trans (f15 72 (of_decide_eq_true rfl))) hI106
             have I59 : jI107 σ29 := jI107_fr ((f32 12 (of_decide_eq_true rfl)).trans (congrFun (f15 55 (of_decide_eq_true rfl)) 12)) ((f32 47 (of_decide_eq_true rfl)).trans (congrFun (f15 55 (of_decide_eq_true rfl)) 47)) ((f31 80 (of_decide_eq_true rfl)).trans (f15 80 (of_decide_eq_true rfl))) hI107
             have I60 : jI109 σ29 := jI109_fr ((f32 50 (of_decide_eq_true rfl)).trans (congrFun (f15 55 (of_decide_eq_true rfl)) 50)) hI109
             have I61 : jI110 σ29 := jI110_fr ((f31 86 (of_decide_eq_true rfl)).trans (f15 86 (of_decide_eq_true rfl))) ((f31 87 (of_decide_eq_true rfl)).trans (f15 87 (of_decide_eq_true rfl))) hI110
             have I62 : jI111 σ29 := jI111_fr ((f31 79 (of_decide_eq_true rfl)).trans (f15 79 (of_decide_eq_true rfl))) hI111
             have I63 : jI119 σ29 := jI119_fr ((f31 68 (of_decide_eq_true rfl)).trans (f15 68 (of_decide_eq_true rfl))) hI119
             have p64 : jKept σ29 := jKept.fr ((f31 75 (of_decide_eq_true rfl)).trans (f15 75 (of_decide_eq_true rfl))) ((f31 76 (of_decide_eq_true rfl)).trans (f15 76 (of_decide_eq_true rfl))) ((f31 77 (of_decide_eq_true rfl)).trans (f15 77 (of_decide_eq_true rfl))) hs_jKept
             have p65 : jBook σ29 := jBook.fr ((f32 47 (of_decide_eq_true rfl)).trans (congrFun (f15 55 (of_decide_eq_true rfl)) 47)) ((f32 10 (of_decide_eq_true rfl)).trans (congrFun (f15 55 (of_decide_eq_true rfl)) 10)) ((f31 81 (of_decide_eq_true rfl)).trans (f15 81 (of_decide_eq_true rfl))) hs_jBook
             have z66 : (σ29 9 0).toInt = (σ 9 0).toInt := (congrArg Int32.toInt (show σ29 9 0 = (σ 9 0) from ((congrFun (f31 9 (of_decide_eq_true rfl)) 0).trans (congrFun (f15 9 (of_decide_eq_true rfl)) 0))))
             have z67 : (σ29 55 15).toInt = (σ 55 15).toInt := (congrArg Int32.toInt (show σ29 55 15 = (σ 55 15) from ((f32 15 (of_decide_eq_true rfl)).trans (congrFun (f15 55 (of_decide_eq_true rfl)) 15))))
             exact by exact ih x43 σ29 τ _ _ ls (by have h9 := tx43; omega) ⟨I44, I45, I46, I47, I48, I49, I50, I51, I52, I53, I54, I33, I34, I55, I56, I57, I58, I59, I60, I61, I62, I63, p64, p65, (by omega), (show jTp (σ29 10) (σ29 63) (σ29 55 15).toInt by rw [show σ29 10 = σ 10 from ((f31 10 (of_decide_eq_true rfl)).trans (f15 10 (of_decide_eq_true rfl))), show σ29 63 = σ 63 from ((f31 63 (of_decide_eq_true rfl)).trans (f15 63 (of_decide_eq_true rfl)))]; exact hr0.le (by omega))⟩ hP hS (lv_sub hl [0, 1, 2, 3] rfl)
          · obtain ⟨q74, k68, k69, k70, k71, k72, k73⟩ := h37
            exact absurd (by omega : False) id
          · obtain ⟨q82, k75, k76, k77, k78, k79, k80, k81⟩ := h38
            exact absurd (by omega : False) id
     · obtain ⟨q89, k83, k84, k85, k86, k87, k88⟩ := h20
       have q89 := q89.symm
       subst q89
       refine lv_pop hx hb dL_law_215 rfl ?_
       refine lv_aload_n hx hb dL_law_216 rfl (lv_at hl 1 rfl) ?_
       refine lv_aload_n hx hb dL_law_217 rfl (lv_at hl 3 rfl) ?_
       refine lv_iload_n hx hb dL_law_218 rfl (lv_at hl 0 rfl) ?_
       refine lv_iconst (v := 1) hx hb dL_law_219 (of_decide_eq_true rfl) ?_
       refine lv_iadd hx hb dL_law_220 ?_
       refine jtopr ex7.symm ?_
       exact by
        refine va_sld hx hb hX hbl hbA hS (jin tx7 (by omega) (by omega)) dL_law_221 ?_
        refine lv_aload_n hx hb dL_law_222 rfl (lv_at hl 3 rfl) ?_
        refine lv_iload_n hx hb dL_law_223 rfl (lv_at hl 0 rfl) ?_
        refine lv_iconst (v := 2) hx hb dL_law_224 (of_decide_eq_true rfl) ?_
        refine lv_iadd hx hb dL_law_225 ?_
        refine jtopr ex9.symm ?_
        refine va_sld hx hb hX hbl hbA hS (jin tx9 (by omega) (by omega)) dL_law_226 ?_
        refine lv_aload_n hx hb dL_law_227 rfl (lv_at hl 3 rfl) ?_
        refine lv_iload_n hx hb dL_law_228 rfl (lv_at hl 0 rfl) ?_
        exact by
         refine lv_iconst (v := 3) hx hb dL_law_229 (of_decide_eq_true rfl) ?_
         refine lv_iadd hx hb dL_law_230 ?_
         refine jtopr ex11.symm ?_
         refine va_sld hx hb hX hbl hbA hS (jin tx11 (by omega) (by omega)) dL_law_231 ?_
         have I90 : jI101 σ13 := jI101_fr (congrFun (f15 55 (of_decide_eq_true rfl)) 4) (congrFun (f15 55 (of_decide_eq_true rfl)) 5) (f15 56 (of_decide_eq_true rfl)) (f15 57 (of_decide_eq_true rfl)) (f15 58 (of_decide_eq_true rfl)) (f15 59 (of_decide_eq_true rfl)) hI101
         have I91 : jI102 σ13 := jI102_fr (congrFun (f15 55 (of_decide_eq_true rfl)) 6) (f15 60 (of_decide_eq_true rfl)) (f15 61 (of_decide_eq_true rfl)) hI102
         have z92 : (σ13 55 6).toInt = (σ 55 6).toInt := (congrArg Int32.toInt (show σ13 55 6 = (σ 55 6) from (congrFun (f15 55 (of_decide_eq_true rfl)) 6)))
         refine jcallV (As := [.int (xs x7.toNatClampNeg), .int (xs x9.toNatClampNeg), .int (xs x11.toNatClampNeg)]) (rest := []) ⟨hx, hb, hml, hown, hts⟩ hK hP hA hS hZ (c_X12_bowler l D cI cL ad zz hJ σ13 τ (xs x7.toNatClampNeg) ((xs x7.toNatClampNeg).toInt) rfl (xs x9.toNatClampNeg) ((xs x9.toNatClampNeg).toInt) rfl (xs x11.toNatClampNeg) ((xs x11.toNatClampNeg).toInt) rfl I90 I91) cw_RL_17 (jc_55 cI cL ad σ13 τ) rfl ⟨Nat.le_of_ble_eq_true rfl, Nat.le_of_ble_eq_true rfl⟩ rfl rfl rfl hl.1 rfl (Nat.le_of_ble_eq_true rfl) dL_law_232 ⟨Nat.le_of_ble_eq_true rfl, Nat.le_of_ble_eq_true rfl⟩ (fun r94 σ93 τ93 H locs h93 hP hS => ?_)
         obtain ⟨rfl, f95, f96, I97, I98, h93⟩ := h93
         exact by
          rcases h93 with h100 | h101 | h102
          · obtain ⟨q106, k103, k104, k105⟩ := h100
            exact absurd (by omega : False) id
          · obtain ⟨q113, k107, k108, k109, k110, k111, k112⟩ := h101
            have q113 := q113.symm
            subst q113
            refine lv_pop hx hb dL_law_235 rfl ?_
            refine lv_goto (tgt := 1357) hx hb dL_law_236 (of_decide_eq_true rfl) ?_
            obtain ⟨x114, ex114⟩ : ∃ y : Int32, y = x0 + 6 := ⟨_, rfl⟩
            exact by
             have tx114 : x114.toInt = x0.toInt + 6 := (jadd ex114 rfl jz_6 (by omega) (by omega)).trans (by omega)
             refine lv_iinc (v := x114) (lv' := [(3, .int x114), (2, .ref (ad 55)), (1, .ref (ad 0)), (0, .ref b)]) hx hb dL_law_1357 hl (k := 0) rfl (by rw [ex114]; rfl) (of_decide_eq_true rfl) rfl (fun ls hl => ?_)
             refine lv_goto (tgt := 18) hx hb dL_law_1360 (of_decide_eq_true rfl) ?_
             have I115 : jI2 σ93 := jI2_fr (congrFun (f95 2 (of_decide_eq_true rfl)) 0) (congrFun (f95 2 (of_decide_eq_true rfl)) 1) (congrFun (f95 2 (of_decide_eq_true rfl)) 2) (congrFun (f95 2 (of_decide_eq_true rfl)) 3) (f95 6 (of_decide_eq_true rfl)) I17
             have I116 : jI9 σ93 := jI9_fr ((congrFun (f95 9 (of_decide_eq_true rfl)) 0).trans (congrFun (f15 9 (of_decide_eq_true rfl)) 0)) ((f95 10 (of_decide_eq_true rfl)).trans (f15 10 (of_decide_eq_true rfl))) ((f95 11 (of_decide_eq_true rfl)).trans (f15 11 (of_decide_eq_true rfl))) hI9
             have I117 : jI12 σ93 := jI12_fr ((congrFun (f95 12 (of_decide_eq_true rfl)) 0).trans (congrFun (f15 12 (of_decide_eq_true rfl)) 0)) ((f95 13 (of_decide_eq_true rfl)).trans (f15 13 (of_decide_eq_true rfl))) hI12
             have I118 : jI16 σ93 := jI16_fr ((congrFun (f95 16 (of_decide_eq_true rfl)) 0).trans (congrFun (f15 16 (of_decide_eq_true rfl)) 0)) ((congrFun (f95 16 (of_decide_eq_true rfl)) 1).trans (congrFun (f15 16 (of_decide_eq_true rfl)) 1)) ((congrFun (f95 16 (of_decide_eq_true rfl)) 2).trans (congrFun (f15 16 (of_decide_eq_true rfl)) 2)) ((f95 17 (of_decide_eq_true rfl)).trans (f15 17 (of_decide_eq_true rfl))) hI16
             have I119 : jI18 σ93 := jI18_fr ((congrFun (f95 18 (of_decide_eq_true rfl)) 0).trans (congrFun (f15 18 (of_decide_eq_true rfl)) 0)) ((f95 19 (of_decide_eq_true rfl)).trans (f15 19 (of_decide_eq_true rfl))) hI18
             have I120 : jI22 σ93 := jI22_fr ((congrFun (f95 22 (of_decide_eq_true rfl)) 0).trans (congrFun (f15 22 (of_decide_eq_true rfl)) 0)) ((f95 23 (of_decide_eq_true rfl)).trans (f15 23 (of_decide_eq_true rfl))) hI22
             exact by
              have I121 : jI31 σ93 := jI31_fr ((congrFun (f95 31 (of_decide_eq_true rfl)) 8).trans (congrFun (f15 31 (of_decide_eq_true rfl)) 8)) ((f95 33 (of_decide_eq_true rfl)).trans (f15 33 (of_decide_eq_true rfl))) ((f95 36 (of_decide_eq_true rfl)).trans (f15 36 (of_decide_eq_true rfl))) hI31
              have I122 : jI38 σ93 := jI38_fr ((congrFun (f95 38 (of_decide_eq_true rfl)) 0).trans (congrFun (f15 38 (of_decide_eq_true rfl)) 0)) ((congrFun (f95 38 (of_decide_eq_true rfl)) 1).trans (congrFun (f15 38 (of_decide_eq_true rfl)) 1)) ((f95 39 (of_decide_eq_true rfl)).trans (f15 39 (of_decide_eq_true rfl))) hI38
              have I123 : jI43 σ93 := jI43_fr ((congrFun (f95 43 (of_decide_eq_true rfl)) 8).trans (congrFun (f15 43 (of_decide_eq_true rfl)) 8)) hI43
              have I124 : jI47 σ93 := jI47_fr ((congrFun (f95 47 (of_decide_eq_true rfl)) 0).trans (congrFun (f15 47 (of_decide_eq_true rfl)) 0)) ((f95 48 (of_decide_eq_true rfl)).trans (f15 48 (of_decide_eq_true rfl))) ((f95 49 (of_decide_eq_true rfl)).trans (f15 49 (of_decide_eq_true rfl))) hI47
              have I125 : jI50 σ93 := jI50_fr ((f95 52 (of_decide_eq_true rfl)).trans (f15 52 (of_decide_eq_true rfl))) hI50
              have I126 : jI103 σ93 := jI103_fr ((f96 9 (of_decide_eq_true rfl)).trans (congrFun (f15 55 (of_decide_eq_true rfl)) 9)) hI103
              have I127 : jI104 σ93 := jI104_fr ((f96 10 (of_decide_eq_true rfl)).trans (congrFun (f15 55 (of_decide_eq_true rfl)) 10)) ((f96 12 (of_decide_eq_true rfl)).trans (congrFun (f15 55 (of_decide_eq_true rfl)) 12)) ((f96 13 (of_decide_eq_true rfl)).trans (congrFun (f15 55 (of_decide_eq_true rfl)) 13)) ((f95 62 (of_decide_eq_true rfl)).trans (f15 62 (of_decide_eq_true rfl))) ((f95 67 (of_decide_eq_true rfl)).trans (f15 67 (of_decide_eq_true rfl))) hI104
              have I128 : jI105 σ93 := jI105_fr ((f96 15 (of_decide_eq_true rfl)).trans (congrFun (f15 55 (of_decide_eq_true rfl)) 15)) ((f95 65 (of_decide_eq_true rfl)).trans (f15 65 (of_decide_eq_true rfl))) hI105
              have I129 : jI106 σ93 := jI106_fr ((f96 32 (of_decide_eq_true rfl)).trans (congrFun (f15 55 (of_decide_eq_true rfl)) 32)) ((f95 70 (of_decide_eq_true rfl)).trans (f15 70 (of_decide_eq_true rfl))) ((f95 71 (of_decide_eq_true rfl)).trans (f15 71 (of_decide_eq_true rfl))) ((f95 72 (of_decide_eq_true rfl)).trans (f15 72 (of_decide_eq_true rfl))) hI106
              have I130 : jI107 σ93 := jI107_fr ((f96 12 (of_decide_eq_true rfl)).trans (congrFun (f15 55 (of_decide_eq_true rfl)) 12)) ((f96 47 (of_decide_eq_true rfl)).trans (congrFun (f15 55 (of_decide_eq_true rfl)) 47)) ((f95 80 (of_decide_eq_true rfl)).trans (f15 80 (of_decide_eq_true rfl))) hI107
              have I131 : jI109 σ93 := jI109_fr ((f96 50 (of_decide_eq_true rfl)).trans (congrFun (f15 55 (of_decide_eq_true rfl)) 50)) hI109
              have I132 : jI110 σ93 := jI110_fr ((f95 86 (of_decide_eq_true rfl)).trans (f15 86 (of_decide_eq_true rfl))) ((f95 87 (of_decide_eq_true rfl)).trans (f15 87 (of_decide_eq_true rfl))) hI110
              have I133 : jI111 σ93 := jI111_fr ((f95 79 (of_decide_eq_true rfl)).trans (f15 79 (of_decide_eq_true rfl))) hI111
              have I134 : jI119 σ93 := jI119_fr ((f95 68 (of_decide_eq_true rfl)).trans (f15 68 (of_decide_eq_true rfl))) hI119
              have p135 : jKept σ93 := jKept.fr ((f95 75 (of_decide_eq_true rfl)).trans (f15 75 (of_decide_eq_true rfl))) ((f95 76 (of_decide_eq_true rfl)).trans (f15 76 (of_decide_eq_true rfl))) ((f95 77 (of_decide_eq_true rfl)).trans (f15 77 (of_decide_eq_true rfl))) hs_jKept
              have p136 : jBook σ93 := jBook.fr ((f96 47 (of_decide_eq_true rfl)).trans (congrFun (f15 55 (of_decide_eq_true rfl)) 47)) ((f96 10 (of_decide_eq_true rfl)).trans (congrFun (f15 55 (of_decide_eq_true rfl)) 10)) ((f95 81 (of_decide_eq_true rfl)).trans (f15 81 (of_decide_eq_true rfl))) hs_jBook
              have z137 : (σ93 9 0).toInt = (σ 9 0).toInt := (congrArg Int32.toInt (show σ93 9 0 = (σ 9 0) from ((congrFun (f95 9 (of_decide_eq_true rfl)) 0).trans (congrFun (f15 9 (of_decide_eq_true rfl)) 0))))
              have z138 : (σ93 55 15).toInt = (σ 55 15).toInt := (congrArg Int32.toInt (show σ93 55 15 = (σ 55 15) from ((f96 15 (of_decide_eq_true rfl)).trans (congrFun (f15 55 (of_decide_eq_true rfl)) 15))))
              exact by exact ih x114 σ93 τ _ _ ls (by have h9 := tx114; omega) ⟨I115, I116, I117, I118, I119, I120, I121, I122, I123, I124, I125, I97, I98, I126, I127, I128, I129, I130, I131, I132, I133, I134, p135, p136, (by omega), (show jTp (σ93 10) (σ93 63) (σ93 55 15).toInt by rw [show σ93 10 = σ 10 from ((f95 10 (of_decide_eq_true rfl)).trans (f15 10 (of_decide_eq_true rfl))), show σ93 63 = σ 63 from ((f95 63 (of_decide_eq_true rfl)).trans (f15 63 (of_decide_eq_true rfl)))]; exact hr0.le (by omega))⟩ hP hS (lv_sub hl [0, 1, 2, 3] rfl)
          · obtain ⟨q146, k139, k140, k141, k142, k143, k144, k145⟩ := h102
            refine lv_pop hx hb dL_law_235 rfl ?_
            refine lv_goto (tgt := 1357) hx hb dL_law_236 (of_decide_eq_true rfl) ?_
            obtain ⟨x147, ex147⟩ : ∃ y : Int32, y = x0 + 6 := ⟨_, rfl⟩
            exact by
             have tx147 : x147.toInt = x0.toInt + 6 := (jadd ex147 rfl jz_6 (by omega) (by omega)).trans (by omega)
             refine lv_iinc (v := x147) (lv' := [(3, .int x147), (2, .ref (ad 55)), (1, .ref (ad 0)), (0, .ref b)]) hx hb dL_law_1357 hl (k := 0) rfl (by rw [ex147]; rfl) (of_decide_eq_true rfl) rfl (fun ls hl => ?_)
             refine lv_goto (tgt := 18) hx hb dL_law_1360 (of_decide_eq_true rfl) ?_
             have I148 : jI2 σ93 := jI2_fr (congrFun (f95 2 (of_decide_eq_true rfl)) 0) (congrFun (f95 2 (of_decide_eq_true rfl)) 1) (congrFun (f95 2 (of_decide_eq_true rfl)) 2) (congrFun (f95 2 (of_decide_eq_true rfl)) 3) (f95 6 (of_decide_eq_true rfl)) I17
             have I149 : jI9 σ93 := jI9_fr ((congrFun (f95 9 (of_decide_eq_true rfl)) 0).trans (congrFun (f15 9 (of_decide_eq_true rfl)) 0)) ((f95 10 (of_decide_eq_true rfl)).trans (f15 10 (of_decide_eq_true rfl))) ((f95 11 (of_decide_eq_true rfl)).trans (f15 11 (of_decide_eq_true rfl))) hI9
             have I150 : jI12 σ93 := jI12_fr ((congrFun (f95 12 (of_decide_eq_true rfl)) 0).trans (congrFun (f15 12 (of_decide_eq_true rfl)) 0)) ((f95 13 (of_decide_eq_true rfl)).trans (f15 13 (of_decide_eq_true rfl))) hI12
             have I151 : jI16 σ93 := jI16_fr ((congrFun (f95 16 (of_decide_eq_true rfl)) 0).trans (congrFun (f15 16 (of_decide_eq_true rfl)) 0)) ((congrFun (f95 16 (of_decide_eq_true rfl)) 1).trans (congrFun (f15 16 (of_decide_eq_true rfl)) 1)) ((congrFun (f95 16 (of_decide_eq_true rfl)) 2).trans (congrFun (f15 16 (of_decide_eq_true rfl)) 2)) ((f95 17 (of_decide_eq_true rfl)).trans (f15 17 (of_decide_eq_true rfl))) hI16
             have I152 : jI18 σ93 := jI18_fr ((congrFun (f95 18 (of_decide_eq_true rfl)) 0).trans (congrFun (f15 18 (of_decide_eq_true rfl)) 0)) ((f95 19 (of_decide_eq_true rfl)).trans (f15 19 (of_decide_eq_true rfl))) hI18
             have I153 : jI22 σ93 := jI22_fr ((congrFun (f95 22 (of_decide_eq_true rfl)) 0).trans (congrFun (f15 22 (of_decide_eq_true rfl)) 0)) ((f95 23 (of_decide_eq_true rfl)).trans (f15 23 (of_decide_eq_true rfl))) hI22
             exact by
              have I154 : jI31 σ93 := jI31_fr ((congrFun (f95 31 (of_decide_eq_true rfl)) 8).trans (congrFun (f15 31 (of_decide_eq_true rfl)) 8)) ((f95 33 (of_decide_eq_true rfl)).trans (f15 33 (of_decide_eq_true rfl))) ((f95 36 (of_decide_eq_true rfl)).trans (f15 36 (of_decide_eq_true rfl))) hI31
              have I155 : jI38 σ93 := jI38_fr ((congrFun (f95 38 (of_decide_eq_true rfl)) 0).trans (congrFun (f15 38 (of_decide_eq_true rfl)) 0)) ((congrFun (f95 38 (of_decide_eq_true rfl)) 1).trans (congrFun (f15 38 (of_decide_eq_true rfl)) 1)) ((f95 39 (of_decide_eq_true rfl)).trans (f15 39 (of_decide_eq_true rfl))) hI38
              have I156 : jI43 σ93 := jI43_fr ((congrFun (f95 43 (of_decide_eq_true rfl)) 8).trans (congrFun (f15 43 (of_decide_eq_true rfl)) 8)) hI43
              have I157 : jI47 σ93 := jI47_fr ((congrFun (f95 47 (of_decide_eq_true rfl)) 0).trans (congrFun (f15 47 (of_decide_eq_true rfl)) 0)) ((f95 48 (of_decide_eq_true rfl)).trans (f15 48 (of_decide_eq_true rfl))) ((f95 49 (of_decide_eq_true rfl)).trans (f15 49 (of_decide_eq_true rfl))) hI47
              have I158 : jI50 σ93 := jI50_fr ((f95 52 (of_decide_eq_true rfl)).trans (f15 52 (of_decide_eq_true rfl))) hI50
              have I159 : jI103 σ93 := jI103_fr ((f96 9 (of_decide_eq_true rfl)).trans (congrFun (f15 55 (of_decide_eq_true rfl)) 9)) hI103
              have I160 : jI104 σ93 := jI104_fr ((f96 10 (of_decide_eq_true rfl)).trans (congrFun (f15 55 (of_decide_eq_true rfl)) 10)) ((f96 12 (of_decide_eq_true rfl)).trans (congrFun (f15 55 (of_decide_eq_true rfl)) 12)) ((f96 13 (of_decide_eq_true rfl)).trans (congrFun (f15 55 (of_decide_eq_true rfl)) 13)) ((f95 62 (of_decide_eq_true rfl)).trans (f15 62 (of_decide_eq_true rfl))) ((f95 67 (of_decide_eq_true rfl)).trans (f15 67 (of_decide_eq_true rfl))) hI104
              have I161 : jI105 σ93 := jI105_fr ((f96 15 (of_decide_eq_true rfl)).trans (congrFun (f15 55 (of_decide_eq_true rfl)) 15)) ((f95 65 (of_decide_eq_true rfl)).trans (f15 65 (of_decide_eq_true rfl))) hI105
              have I162 : jI106 σ93 := jI106_fr ((f96 32 (of_decide_eq_true rfl)).trans (congrFun (f15 55 (of_decide_eq_true rfl)) 32)) ((f95 70 (of_decide_eq_true rfl)).trans (f15 70 (of_decide_eq_true rfl))) ((f95 71 (of_decide_eq_true rfl)).trans (f15 71 (of_decide_eq_true rfl))) ((f95 72 (of_decide_eq_true rfl)).trans (f15 72 (of_decide_eq_true rfl))) hI106
              have I163 : jI107 σ93 := jI107_fr ((f96 12 (of_decide_eq_true rfl)).trans (congrFun (f15 55 (of_decide_eq_true rfl)) 12)) ((f96 47 (of_decide_eq_true rfl)).trans (congrFun (f15 55 (of_decide_eq_true rfl)) 47)) ((f95 80 (of_decide_eq_true rfl)).trans (f15 80 (of_decide_eq_true rfl))) hI107
              have I164 : jI109 σ93 := jI109_fr ((f96 50 (of_decide_eq_true rfl)).trans (congrFun (f15 55 (of_decide_eq_true rfl)) 50)) hI109
              have I165 : jI110 σ93 := jI110_fr ((f95 86 (of_decide_eq_true rfl)).trans (f15 86 (of_decide_eq_true rfl))) ((f95 87 (of_decide_eq_true rfl)).trans (f15 87 (of_decide_eq_true rfl))) hI110
              have I166 : jI111 σ93 := jI111_fr ((f95 79 (of_decide_eq_true rfl)).trans (f15 79 (of_decide_eq_true rfl))) hI111
              have I167 : jI119 σ93 := jI119_fr ((f95 68 (of_decide_eq_true rfl)).trans (f15 68 (of_decide_eq_true rfl))) hI119
              have p168 : jKept σ93 := jKept.fr ((f95 75 (of_decide_eq_true rfl)).trans (f15 75 (of_decide_eq_true rfl))) ((f95 76 (of_decide_eq_true rfl)).trans (f15 76 (of_decide_eq_true rfl))) ((f95 77 (of_decide_eq_true rfl)).trans (f15 77 (of_decide_eq_true rfl))) hs_jKept
              have p169 : jBook σ93 := jBook.fr ((f96 47 (of_decide_eq_true rfl)).trans (congrFun (f15 55 (of_decide_eq_true rfl)) 47)) ((f96 10 (of_decide_eq_true rfl)).trans (congrFun (f15 55 (of_decide_eq_true rfl)) 10)) ((f95 81 (of_decide_eq_true rfl)).trans (f15 81 (of_decide_eq_true rfl))) hs_jBook
              have z170 : (σ93 9 0).toInt = (σ 9 0).toInt := (congrArg Int32.toInt (show σ93 9 0 = (σ 9 0) from ((congrFun (f95 9 (of_decide_eq_true rfl)) 0).trans (congrFun (f15 9 (of_decide_eq_true rfl)) 0))))
              have z171 : (σ93 55 15).toInt = (σ 55 15).toInt := (congrArg Int32.toInt (show σ93 55 15 = (σ 55 15) from ((f96 15 (of_decide_eq_true rfl)).trans (congrFun (f15 55 (of_decide_eq_true rfl)) 15))))
              exact by exact ih x147 σ93 τ _ _ ls (by have h9 := tx147; omega) ⟨I148, I149, I150, I151, I152, I153, I154, I155, I156, I157, I158, I97, I98, I159, I160, I161, I162, I163, I164, I165, I166, I167, p168, p169, (by omega), (show jTp (σ93 10) (σ93 63) (σ93 55 15).toInt by rw [show σ93 10 = σ 10 from ((f95 10 (of_decide_eq_true rfl)).trans (f15 10 (of_decide_eq_true rfl))), show σ93 63 = σ 63 from ((f95 63 (of_decide_eq_true rfl)).trans (f15 63 (of_decide_eq_true rfl)))]; exact hr0.le (by omega))⟩ hP hS (lv_sub hl [0, 1, 2, 3] rfl)
     · obtain ⟨q179, k172, k173, k174, k175, k176, k177, k178⟩ := h21
       refine lv_pop hx hb dL_law_215 rfl ?_
       refine lv_aload_n hx hb dL_law_216 rfl (lv_at hl 1 rfl) ?_
       refine lv_aload_n hx hb dL_law_217 rfl (lv_at hl 3 rfl) ?_
       refine lv_iload_n hx hb dL_law_218 rfl (lv_at hl 0 rfl) ?_
       refine lv_iconst (v := 1) hx hb dL_law_219 (of_decide_eq_true rfl) ?_
       refine lv_iadd hx hb dL_law_220 ?_
       refine jtopr ex7.symm ?_
       exact by
        refine va_sld hx hb hX hbl hbA hS (jin tx7 (by omega) (by omega)) dL_law_221 ?_
        refine lv_aload_n hx hb dL_law_222 rfl (lv_at hl 3 rfl) ?_
        refine lv_iload_n hx hb dL_law_223 rfl (lv_at hl 0 rfl) ?_
        refine lv_iconst (v := 2) hx hb dL_law_224 (of_decide_eq_true rfl) ?_
        refine lv_iadd hx hb dL_law_225 ?_
        refine jtopr ex9.symm ?_
        refine va_sld hx hb hX hbl hbA hS (jin tx9 (by omega) (by omega)) dL_law_226 ?_
        refine lv_aload_n hx hb dL_law_227 rfl (lv_at hl 3 rfl) ?_
        refine lv_iload_n hx hb dL_law_228 rfl (lv_at hl 0 rfl) ?_
        exact by
         refine lv_iconst (v := 3) hx hb dL_law_229 (of_decide_eq_true rfl) ?_
         refine lv_iadd hx hb dL_law_230 ?_
         refine jtopr ex11.symm ?_
         refine va_sld hx hb hX hbl hbA hS (jin tx11 (by omega) (by omega)) dL_law_231 ?_
         have I180 : jI101 σ13 := jI101_fr (congrFun (f15 55 (of_decide_eq_true rfl)) 4) (congrFun (f15 55 (of_decide_eq_true rfl)) 5) (f15 56 (of_decide_eq_true rfl)) (f15 57 (of_decide_eq_true rfl)) (f15 58 (of_decide_eq_true rfl)) (f15 59 (of_decide_eq_true rfl)) hI101
         have I181 : jI102 σ13 := jI102_fr (congrFun (f15 55 (of_decide_eq_true rfl)) 6) (f15 60 (of_decide_eq_true rfl)) (f15 61 (of_decide_eq_true rfl)) hI102
         have z182 : (σ13 55 6).toInt = (σ 55 6).toInt := (congrArg Int32.toInt (show σ13 55 6 = (σ 55 6) from (congrFun (f15 55 (of_decide_eq_true rfl)) 6)))
         refine jcallV (As := [.int (xs x7.toNatClampNeg), .int (xs x9.toNatClampNeg), .int (xs x11.toNatClampNeg)]) (rest := []) ⟨hx, hb, hml, hown, hts⟩ hK hP hA hS hZ (c_X12_bowler l D cI cL ad zz hJ σ13 τ (xs x7.toNatClampNeg) ((xs x7.toNatClampNeg).toInt) rfl (xs x9.toNatClampNeg) ((xs x9.toNatClampNeg).toInt) rfl (xs x11.toNatClampNeg) ((xs x11.toNatClampNeg).toInt) rfl I180 I181) cw_RL_17 (jc_55 cI cL ad σ13 τ) rfl ⟨Nat.le_of_ble_eq_true rfl, Nat.le_of_ble_eq_true rfl⟩ rfl rfl rfl hl.1 rfl (Nat.le_of_ble_eq_true rfl) dL_law_232 ⟨Nat.le_of_ble_eq_true rfl, Nat.le_of_ble_eq_true rfl⟩ (fun r184 σ183 τ183 H locs h183 hP hS => ?_)
         obtain ⟨rfl, f185, f186, I187, I188, h183⟩ := h183
         exact by
          rcases h183 with h190 | h191 | h192
          · obtain ⟨q196, k193, k194, k195⟩ := h190
            exact absurd (by omega : False) id
          · obtain ⟨q203, k197, k198, k199, k200, k201, k202⟩ := h191
            have q203 := q203.symm
            subst q203
            refine lv_pop hx hb dL_law_235 rfl ?_
            refine lv_goto (tgt := 1357) hx hb dL_law_236 (of_decide_eq_true rfl) ?_
            obtain ⟨x204, ex204⟩ : ∃ y : Int32, y = x0 + 6 := ⟨_, rfl⟩
            exact by
             have tx204 : x204.toInt = x0.toInt + 6 := (jadd ex204 rfl jz_6 (by omega) (by omega)).trans (by omega)
             refine lv_iinc (v := x204) (lv' := [(3, .int x204), (2, .ref (ad 55)), (1, .ref (ad 0)), (0, .ref b)]) hx hb dL_law_1357 hl (k := 0) rfl (by rw [ex204]; rfl) (of_decide_eq_true rfl) rfl (fun ls hl => ?_)
             refine lv_goto (tgt := 18) hx hb dL_law_1360 (of_decide_eq_true rfl) ?_
             have I205 : jI2 σ183 := jI2_fr (congrFun (f185 2 (of_decide_eq_true rfl)) 0) (congrFun (f185 2 (of_decide_eq_true rfl)) 1) (congrFun (f185 2 (of_decide_eq_true rfl)) 2) (congrFun (f185 2 (of_decide_eq_true rfl)) 3) (f185 6 (of_decide_eq_true rfl)) I17
             have I206 : jI9 σ183 := jI9_fr ((congrFun (f185 9 (of_decide_eq_true rfl)) 0).trans (congrFun (f15 9 (of_decide_eq_true rfl)) 0)) ((f185 10 (of_decide_eq_true rfl)).trans (f15 10 (of_decide_eq_true rfl))) ((f185 11 (of_decide_eq_true rfl)).trans (f15 11 (of_decide_eq_true rfl))) hI9
             have I207 : jI12 σ183 := jI12_fr ((congrFun (f185 12 (of_decide_eq_true rfl)) 0).trans (congrFun (f15 12 (of_decide_eq_true rfl)) 0)) ((f185 13 (of_decide_eq_true rfl)).trans (f15 13 (of_decide_eq_true rfl))) hI12
             have I208 : jI16 σ183 := jI16_fr ((congrFun (f185 16 (of_decide_eq_true rfl)) 0).trans (congrFun (f15 16 (of_decide_eq_true rfl)) 0)) ((congrFun (f185 16 (of_decide_eq_true rfl)) 1).trans (congrFun (f15 16 (of_decide_eq_true rfl)) 1)) ((congrFun (f185 16 (of_decide_eq_true rfl)) 2).trans (congrFun (f15 16 (of_decide_eq_true rfl)) 2)) ((f185 17 (of_decide_eq_true rfl)).trans (f15 17 (of_decide_eq_true rfl))) hI16
             have I209 : jI18 σ183 := jI18_fr ((congrFun (f185 18 (of_decide_eq_true rfl)) 0).trans (congrFun (f15 18 (of_decide_eq_true rfl)) 0)) ((f185 19 (of_decide_eq_true rfl)).trans (f15 19 (of_decide_eq_true rfl))) hI18
             have I210 : jI22 σ183 := jI22_fr ((congrFun (f185 22 (of_decide_eq_true rfl)) 0).trans (congrFun (f15 22 (of_decide_eq_true rfl)) 0)) ((f185 23 (of_decide_eq_true rfl)).trans (f15 23 (of_decide_eq_true rfl))) hI22
             exact by
              have I211 : jI31 σ183 := jI31_fr ((congrFun (f185 31 (of_decide_eq_true rfl)) 8).trans (congrFun (f15 31 (of_decide_eq_true rfl)) 8)) ((f185 33 (of_decide_eq_true rfl)).trans (f15 33 (of_decide_eq_true rfl))) ((f185 36 (of_decide_eq_true rfl)).trans (f15 36 (of_decide_eq_true rfl))) hI31
              have I212 : jI38 σ183 := jI38_fr ((congrFun (f185 38 (of_decide_eq_true rfl)) 0).trans (congrFun (f15 38 (of_decide_eq_true rfl)) 0)) ((congrFun (f185 38 (of_decide_eq_true rfl)) 1).trans (congrFun (f15 38 (of_decide_eq_true rfl)) 1)) ((f185 39 (of_decide_eq_true rfl)).trans (f15 39 (of_decide_eq_true rfl))) hI38
              have I213 : jI43 σ183 := jI43_fr ((congrFun (f185 43 (of_decide_eq_true rfl)) 8).trans (congrFun (f15 43 (of_decide_eq_true rfl)) 8)) hI43
              have I214 : jI47 σ183 := jI47_fr ((congrFun (f185 47 (of_decide_eq_true rfl)) 0).trans (congrFun (f15 47 (of_decide_eq_true rfl)) 0)) ((f185 48 (of_decide_eq_true rfl)).trans (f15 48 (of_decide_eq_true rfl))) ((f185 49 (of_decide_eq_true rfl)).trans (f15 49 (of_decide_eq_true rfl))) hI47
              have I215 : jI50 σ183 := jI50_fr ((f185 52 (of_decide_eq_true rfl)).trans (f15 52 (of_decide_eq_true rfl))) hI50
              have I216 : jI103 σ183 := jI103_fr ((f186 9 (of_decide_eq_true rfl)).trans (congrFun (f15 55 (of_decide_eq_true rfl)) 9)) hI103
              have I217 : jI104 σ183 := jI104_fr ((f186 10 (of_decide_eq_true rfl)).trans (congrFun (f15 55 (of_decide_eq_true rfl)) 10)) ((f186 12 (of_decide_eq_true rfl)).trans (congrFun (f15 55 (of_decide_eq_true rfl)) 12)) ((f186 13 (of_decide_eq_true rfl)).trans (congrFun (f15 55 (of_decide_eq_true rfl)) 13)) ((f185 62 (of_decide_eq_true rfl)).trans (f15 62 (of_decide_eq_true rfl))) ((f185 67 (of_decide_eq_true rfl)).trans (f15 67 (of_decide_eq_true rfl))) hI104
              have I218 : jI105 σ183 := jI105_fr ((f186 15 (of_decide_eq_true rfl)).trans (congrFun (f15 55 (of_decide_eq_true rfl)) 15)) ((f185 65 (of_decide_eq_true rfl)).trans (f15 65 (of_decide_eq_true rfl))) hI105
              have I219 : jI106 σ183 := jI106_fr ((f186 32 (of_decide_eq_true rfl)).trans (congrFun (f15 55 (of_decide_eq_true rfl)) 32)) ((f185 70 (of_decide_eq_true rfl)).trans (f15 70 (of_decide_eq_true rfl))) ((f185 71 (of_decide_eq_true rfl)).trans (f15 71 (of_decide_eq_true rfl))) ((f185 72 (of_decide_eq_true rfl)).trans (f15 72 (of_decide_eq_true rfl))) hI106
              have I220 : jI107 σ183 := jI107_fr ((f186 12 (of_decide_eq_true rfl)).trans (congrFun (f15 55 (of_decide_eq_true rfl)) 12)) ((f186 47 (of_decide_eq_true rfl)).trans (congrFun (f15 55 (of_decide_eq_true rfl)) 47)) ((f185 80 (of_decide_eq_true rfl)).trans (f15 80 (of_decide_eq_true rfl))) hI107
              have I221 : jI109 σ183 := jI109_fr ((f186 50 (of_decide_eq_true rfl)).trans (congrFun (f15 55 (of_decide_eq_true rfl)) 50)) hI109
              have I222 : jI110 σ183 := jI110_fr ((f185 86 (of_decide_eq_true rfl)).trans (f15 86 (of_decide_eq_true rfl))) ((f185 87 (of_decide_eq_true rfl)).trans (f15 87 (of_decide_eq_true rfl))) hI110
              have I223 : jI111 σ183 := jI111_fr ((f185 79 (of_decide_eq_true rfl)).trans (f15 79 (of_decide_eq_true rfl))) hI111
              have I224 : jI119 σ183 := jI119_fr ((f185 68 (of_decide_eq_true rfl)).trans (f15 68 (of_decide_eq_true rfl))) hI119
              have p225 : jKept σ183 := jKept.fr ((f185 75 (of_decide_eq_true rfl)).trans (f15 75 (of_decide_eq_true rfl))) ((f185 76 (of_decide_eq_true rfl)).trans (f15 76 (of_decide_eq_true rfl))) ((f185 77 (of_decide_eq_true rfl)).trans (f15 77 (of_decide_eq_true rfl))) hs_jKept
              have p226 : jBook σ183 := jBook.fr ((f186 47 (of_decide_eq_true rfl)).trans (congrFun (f15 55 (of_decide_eq_true rfl)) 47)) ((f186 10 (of_decide_eq_true rfl)).trans (congrFun (f15 55 (of_decide_eq_true rfl)) 10)) ((f185 81 (of_decide_eq_true rfl)).trans (f15 81 (of_decide_eq_true rfl))) hs_jBook
              have z227 : (σ183 9 0).toInt = (σ 9 0).toInt := (congrArg Int32.toInt (show σ183 9 0 = (σ 9 0) from ((congrFun (f185 9 (of_decide_eq_true rfl)) 0).trans (congrFun (f15 9 (of_decide_eq_true rfl)) 0))))
              have z228 : (σ183 55 15).toInt = (σ 55 15).toInt := (congrArg Int32.toInt (show σ183 55 15 = (σ 55 15) from ((f186 15 (of_decide_eq_true rfl)).trans (congrFun (f15 55 (of_decide_eq_true rfl)) 15))))
              exact by exact ih x204 σ183 τ _ _ ls (by have h9 := tx204; omega) ⟨I205, I206, I207, I208, I209, I210, I211, I212, I213, I214, I215, I187, I188, I216, I217, I218, I219, I220, I221, I222, I223, I224, p225, p226, (by omega), (show jTp (σ183 10) (σ183 63) (σ183 55 15).toInt by rw [show σ183 10 = σ 10 from ((f185 10 (of_decide_eq_true rfl)).trans (f15 10 (of_decide_eq_true rfl))), show σ183 63 = σ 63 from ((f185 63 (of_decide_eq_true rfl)).trans (f15 63 (of_decide_eq_true rfl)))]; exact hr0.le (by omega))⟩ hP hS (lv_sub hl [0, 1, 2, 3] rfl)
          · obtain ⟨q236, k229, k230, k231, k232, k233, k234, k235⟩ := h192
            refine lv_pop hx hb dL_law_235 rfl ?_
            refine lv_goto (tgt := 1357) hx hb dL_law_236 (of_decide_eq_true rfl) ?_
            obtain ⟨x237, ex237⟩ : ∃ y : Int32, y = x0 + 6 := ⟨_, rfl⟩
            exact by
             have tx237 : x237.toInt = x0.toInt + 6 := (jadd ex237 rfl jz_6 (by omega) (by omega)).trans (by omega)
             refine lv_iinc (v := x237) (lv' := [(3, .int x237), (2, .ref (ad 55)), (1, .ref (ad 0)), (0, .ref b)]) hx hb dL_law_1357 hl (k := 0) rfl (by rw [ex237]; rfl) (of_decide_eq_true rfl) rfl (fun ls hl => ?_)
             refine lv_goto (tgt := 18) hx hb dL_law_1360 (of_decide_eq_true rfl) ?_
             have I238 : jI2 σ183 := jI2_fr (congrFun (f185 2 (of_decide_eq_true rfl)) 0) (congrFun (f185 2 (of_decide_eq_true rfl)) 1) (congrFun (f185 2 (of_decide_eq_true rfl)) 2) (congrFun (f185 2 (of_decide_eq_true rfl)) 3) (f185 6 (of_decide_eq_true rfl)) I17
             have I239 : jI9 σ183 := jI9_fr ((congrFun (f185 9 (of_decide_eq_true rfl)) 0).trans (congrFun (f15 9 (of_decide_eq_true rfl)) 0)) ((f185 10 (of_decide_eq_true rfl)).trans (f15 10 (of_decide_eq_true rfl))) ((f185 11 (of_decide_eq_true rfl)).trans (f15 11 (of_decide_eq_true rfl))) hI9
             have I240 : jI12 σ183 := jI12_fr ((congrFun (f185 12 (of_decide_eq_true rfl)) 0).trans (congrFun (f15 12 (of_decide_eq_true rfl)) 0)) ((f185 13 (of_decide_eq_true rfl)).trans (f15 13 (of_decide_eq_true rfl))) hI12
             have I241 : jI16 σ183 := jI16_fr ((congrFun (f185 16 (of_decide_eq_true rfl)) 0).trans (congrFun (f15 16 (of_decide_eq_true rfl)) 0)) ((congrFun (f185 16 (of_decide_eq_true rfl)) 1).trans (congrFun (f15 16 (of_decide_eq_true rfl)) 1)) ((congrFun (f185 16 (of_decide_eq_true rfl)) 2).trans (congrFun (f15 16 (of_decide_eq_true rfl)) 2)) ((f185 17 (of_decide_eq_true rfl)).trans (f15 17 (of_decide_eq_true rfl))) hI16
             have I242 : jI18 σ183 := jI18_fr ((congrFun (f185 18 (of_decide_eq_true rfl)) 0).trans (congrFun (f15 18 (of_decide_eq_true rfl)) 0)) ((f185 19 (of_decide_eq_true rfl)).trans (f15 19 (of_decide_eq_true rfl))) hI18
             have I243 : jI22 σ183 := jI22_fr ((congrFun (f185 22 (of_decide_eq_true rfl)) 0).trans (congrFun (f15 22 (of_decide_eq_true rfl)) 0)) ((f185 23 (of_decide_eq_true rfl)).trans (f15 23 (of_decide_eq_true rfl))) hI22
             exact by
              have I244 : jI31 σ183 := jI31_fr ((congrFun (f185 31 (of_decide_eq_true rfl)) 8).trans (congrFun (f15 31 (of_decide_eq_true rfl)) 8)) ((f185 33 (of_decide_eq_true rfl)).trans (f15 33 (of_decide_eq_true rfl))) ((f185 36 (of_decide_eq_true rfl)).trans (f15 36 (of_decide_eq_true rfl))) hI31
              have I245 : jI38 σ183 := jI38_fr ((congrFun (f185 38 (of_decide_eq_true rfl)) 0).trans (congrFun (f15 38 (of_decide_eq_true rfl)) 0)) ((congrFun (f185 38 (of_decide_eq_true rfl)) 1).trans (congrFun (f15 38 (of_decide_eq_true rfl)) 1)) ((f185 39 (of_decide_eq_true rfl)).trans (f15 39 (of_decide_eq_true rfl))) hI38
              have I246 : jI43 σ183 := jI43_fr ((congrFun (f185 43 (of_decide_eq_true rfl)) 8).trans (congrFun (f15 43 (of_decide_eq_true rfl)) 8)) hI43
              have I247 : jI47 σ183 := jI47_fr ((congrFun (f185 47 (of_decide_eq_true rfl)) 0).trans (congrFun (f15 47 (of_decide_eq_true rfl)) 0)) ((f185 48 (of_decide_eq_true rfl)).trans (f15 48 (of_decide_eq_true rfl))) ((f185 49 (of_decide_eq_true rfl)).trans (f15 49 (of_decide_eq_true rfl))) hI47
              have I248 : jI50 σ183 := jI50_fr ((f185 52 (of_decide_eq_true rfl)).trans (f15 52 (of_decide_eq_true rfl))) hI50
              have I249 : jI103 σ183 := jI103_fr ((f186 9 (of_decide_eq_true rfl)).trans (congrFun (f15 55 (of_decide_eq_true rfl)) 9)) hI103
              have I250 : jI104 σ183 := jI104_fr ((f186 10 (of_decide_eq_true rfl)).trans (congrFun (f15 55 (of_decide_eq_true rfl)) 10)) ((f186 12 (of_decide_eq_true rfl)).trans (congrFun (f15 55 (of_decide_eq_true rfl)) 12)) ((f186 13 (of_decide_eq_true rfl)).trans (congrFun (f15 55 (of_decide_eq_true rfl)) 13)) ((f185 62 (of_decide_eq_true rfl)).trans (f15 62 (of_decide_eq_true rfl))) ((f185 67 (of_decide_eq_true rfl)).trans (f15 67 (of_decide_eq_true rfl))) hI104
              have I251 : jI105 σ183 := jI105_fr ((f186 15 (of_decide_eq_true rfl)).trans (congrFun (f15 55 (of_decide_eq_true rfl)) 15)) ((f185 65 (of_decide_eq_true rfl)).trans (f15 65 (of_decide_eq_true rfl))) hI105
              have I252 : jI106 σ183 := jI106_fr ((f186 32 (of_decide_eq_true rfl)).trans (congrFun (f15 55 (of_decide_eq_true rfl)) 32)) ((f185 70 (of_decide_eq_true rfl)).trans (f15 70 (of_decide_eq_true rfl))) ((f185 71 (of_decide_eq_true rfl)).trans (f15 71 (of_decide_eq_true rfl))) ((f185 72 (of_decide_eq_true rfl)).trans (f15 72 (of_decide_eq_true rfl))) hI106
              have I253 : jI107 σ183 := jI107_fr ((f186 12 (of_decide_eq_true rfl)).trans (congrFun (f15 55 (of_decide_eq_true rfl)) 12)) ((f186 47 (of_decide_eq_true rfl)).trans (congrFun (f15 55 (of_decide_eq_true rfl)) 47)) ((f185 80 (of_decide_eq_true rfl)).trans (f15 80 (of_decide_eq_true rfl))) hI107
              have I254 : jI109 σ183 := jI109_fr ((f186 50 (of_decide_eq_true rfl)).trans (congrFun (f15 55 (of_decide_eq_true rfl)) 50)) hI109
              have I255 : jI110 σ183 := jI110_fr ((f185 86 (of_decide_eq_true rfl)).trans (f15 86 (of_decide_eq_true rfl))) ((f185 87 (of_decide_eq_true rfl)).trans (f15 87 (of_decide_eq_true rfl))) hI110
              have I256 : jI111 σ183 := jI111_fr ((f185 79 (of_decide_eq_true rfl)).trans (f15 79 (of_decide_eq_true rfl))) hI111
              have I257 : jI119 σ183 := jI119_fr ((f185 68 (of_decide_eq_true rfl)).trans (f15 68 (of_decide_eq_true rfl))) hI119
              have p258 : jKept σ183 := jKept.fr ((f185 75 (of_decide_eq_true rfl)).trans (f15 75 (of_decide_eq_true rfl))) ((f185 76 (of_decide_eq_true rfl)).trans (f15 76 (of_decide_eq_true rfl))) ((f185 77 (of_decide_eq_true rfl)).trans (f15 77 (of_decide_eq_true rfl))) hs_jKept
              have p259 : jBook σ183 := jBook.fr ((f186 47 (of_decide_eq_true rfl)).trans (congrFun (f15 55 (of_decide_eq_true rfl)) 47)) ((f186 10 (of_decide_eq_true rfl)).trans (congrFun (f15 55 (of_decide_eq_true rfl)) 10)) ((f185 81 (of_decide_eq_true rfl)).trans (f15 81 (of_decide_eq_true rfl))) hs_jBook
              have z260 : (σ183 9 0).toInt = (σ 9 0).toInt := (congrArg Int32.toInt (show σ183 9 0 = (σ 9 0) from ((congrFun (f185 9 (of_decide_eq_true rfl)) 0).trans (congrFun (f15 9 (of_decide_eq_true rfl)) 0))))
              have z261 : (σ183 55 15).toInt = (σ 55 15).toInt := (congrArg Int32.toInt (show σ183 55 15 = (σ 55 15) from ((f186 15 (of_decide_eq_true rfl)).trans (congrFun (f15 55 (of_decide_eq_true rfl)) 15))))
              exact by exact ih x237 σ183 τ _ _ ls (by have h9 := tx237; omega) ⟨I238, I239, I240, I241, I242, I243, I244, I245, I246, I247, I248, I187, I188, I249, I250, I251, I252, I253, I254, I255, I256, I257, p258, p259, (by omega), (show jTp (σ183 10) (σ183 63) (σ183 55 15).toInt by rw [show σ183 10 = σ 10 from ((f185 10 (of_decide_eq_true rfl)).trans (f15 10 (of_decide_eq_true rfl))), show σ183 63 = σ 63 from ((f185 63 (of_decide_eq_true rfl)).trans (f15 63 (of_decide_eq_true rfl)))]; exact hr0.le (by omega))⟩ hP hS (lv_sub hl [0, 1, 2, 3] rfl)
set_option maxHeartbeats 4000000 in
set_option maxRecDepth 100000 in
theorem law_case_1 {p : Program} {e : Env} {s : State} {m : MethodId} {below : List Frame} {meth : Method} {c : Code} (l : Launch) {b L : Nat} {xs : Nat → Int32} {D : va_G} {cI cL : ClassId} {ad zz : Nat → Nat} (C0 : lw_At p s m meth c b L xs) (hJ : jD ad) (hA : ∀ q, jA ad q → s.heap.size ≤ q) (hK : jK D cI cL s) (hZ : jZ zz (fun q : Nat => s.heap.size ≤ q) s s.heap) {x0 : Int32} (hx0 : 0 ≤ x0.toInt) (hxL : x0.toInt + 6 ≤ (L : Int)) (hL : L ≤ 384) {σ : Nat → Nat → Int32} {τ : Nat → Nat → Int64} {H : Heap} {locs : List Loc} (hS : va_S (fun q : Nat => s.heap.size ≤ q) s.heap H locs) {ls : Array Slot} (hAll : jAll σ τ) (hP : jH D cI cL ad σ τ H) (hl : lv_has ls 4 [(3, .int x0), (2, .ref (ad 55)), (1, .ref (ad 0)), (0, .ref b)]) (ih : ∀ (x1 : Int32) (σ : Nat → Nat → Int32) (τ : Nat → Nat → Int64) (H : Heap) (locs : List Loc) (ls : Array Slot), x1.toInt = x0.toInt + 6 → jAll σ τ → jH D cI cL ad σ τ H → va_S (fun q : Nat => s.heap.size ≤ q) s.heap H locs → lv_has ls 4 [(3, .int x1), (2, .ref (ad 55)), (1, .ref (ad 0)), (0, .ref b)] → W p l e room_1 s m #[Value.ref b] below meth c H locs 90 348600 (lw_Z below #[Value.ref b] s) (F0 m 18 ls [])) : W p l e room_1 s m #[Value.ref b] below meth c H locs 90 348600 (lw_Z below #[Value.ref b] s) (F0 m 239 ls []) := by
  obtain ⟨hx, hb, hr, hml, hown, hts0, hX, hbl, hlocks, hgv⟩ := C0
  have hts : ∀ w ∈ wsL_law, w.before #[Value.ref b] s = true := fun w h => hts0 w (wsL_law_in w h)
  have hbA : ¬ (fun q : Nat => s.heap.size ≤ q) b := Nat.not_le.mpr hbl
  have hown : s.vm.findClass RL = some m.cls := hown
  obtain ⟨hI2, hI9, hI12, hI16, hI18, hI22, hI31, hI38, hI43, hI47, hI50, hI101, hI102, hI103, hI104, hI105, hI106, hI107, hI109, hI110, hI111, hI119, hs_jKept, hs_jBook, ht0, hr0⟩ := hAll
  have hL9 : (L : Int) ≤ 384 := by omega
  obtain ⟨i1, w2, w3⟩ : (0 ≤ (σ 9 0).toInt ∧ (σ 9 0).toInt ≤ 80) ∧ (∀ k : Nat, k < 80 → 0 ≤ (σ 10 k).toInt ∧ (σ 10 k).toInt ≤ 255) ∧ (∀ k : Nat, k < 8 → 0 ≤ (σ 11 k).toInt ∧ (σ 11 k).toInt ≤ 3) := id hI9
  obtain ⟨i4, w5⟩ : (0 ≤ (σ 55 15).toInt ∧ (σ 55 15).toInt ≤ 80) ∧ (∀ k : Nat, k < 2 → (-1) ≤ (σ 65 k).toInt ∧ (σ 65 k).toInt ≤ 80) := id hI105
  refine lv_aload_n hx hb dL_law_239 rfl (lv_at hl 2 rfl) ?_
  refine lv_aload_n hx hb dL_law_240 rfl (lv_at hl 3 rfl) ?_
  refine lv_iload_n hx hb dL_law_241 rfl (lv_at hl 0 rfl) ?_
  refine lv_iconst (v := 1) hx hb dL_law_242 (of_decide_eq_true rfl) ?_
  have g6 := jrg (rfl : x0.toInt = x0.toInt)
  refine lv_iadd hx hb dL_law_243 ?_
  refine lv_topi (fun x7 ex7 => ?_)
  exact by
   have tx7 : x7.toInt = x0.toInt + 1 := (jadd ex7 rfl jz_1 (by omega) (by omega)).trans (by omega)
   refine va_sld hx hb hX hbl hbA hS (jin tx7 (by omega) (by omega)) dL_law_244 ?_
   have g8 := jrg (rfl : (xs x7.toNatClampNeg).toInt = (xs x7.toNatClampNeg).toInt)
   refine lv_aload_n hx hb dL_law_245 rfl (lv_at hl 3 rfl) ?_
   refine lv_iload_n hx hb dL_law_246 rfl (lv_at hl 0 rfl) ?_
   refine lv_iconst (v := 2) hx hb dL_law_247 (of_decide_eq_true rfl) ?_
   refine lv_iadd hx hb dL_law_248 ?_
   refine lv_topi (fun x9 ex9 => ?_)
   have tx9 : x9.toInt = x0.toInt + 2 := (jadd ex9 rfl jz_2 (by omega) (by omega)).trans (by omega)
   exact by
    refine va_sld hx hb hX hbl hbA hS (jin tx9 (by omega) (by omega)) dL_law_249 ?_
    have g10 := jrg (rfl : (xs x9.toNatClampNeg).toInt = (xs x9.toNatClampNeg).toInt)
    refine lv_aload_n hx hb dL_law_250 rfl (lv_at hl 3 rfl) ?_
    refine lv_iload_n hx hb dL_law_251 rfl (lv_at hl 0 rfl) ?_
    refine lv_iconst (v := 3) hx hb dL_law_252 (of_decide_eq_true rfl) ?_
    refine lv_iadd hx hb dL_law_253 ?_
    refine lv_topi (fun x11 ex11 => ?_)
    have tx11 : x11.toInt = x0.toInt + 3 := (jadd ex11 rfl jz_3 (by omega) (by omega)).trans (by omega)
    refine va_sld hx hb hX hbl hbA hS (jin tx11 (by omega) (by omega)) dL_law_254 ?_
    exact by
     have g12 := jrg (rfl : (xs x11.toNatClampNeg).toInt = (xs x11.toNatClampNeg).toInt)
     refine jcallV (As := [.int (xs x7.toNatClampNeg), .int (xs x9.toNatClampNeg), .int (xs x11.toNatClampNeg)]) (rest := []) ⟨hx, hb, hml, hown, hts⟩ hK hP hA hS hZ (c_X11_edge l D cI cL ad zz hJ σ τ (xs x7.toNatClampNeg) ((xs x7.toNatClampNeg).toInt) rfl (xs x9.toNatClampNeg) ((xs x9.toNatClampNeg).toInt) rfl (xs x11.toNatClampNeg) ((xs x11.toNatClampNeg).toInt) rfl hI2) cw_RL_18 (jc_0 cI cL ad σ τ) rfl ⟨Nat.le_of_ble_eq_true rfl, Nat.le_of_ble_eq_true rfl⟩ rfl rfl rfl hl.1 rfl (Nat.le_of_ble_eq_true rfl) dL_law_255 ⟨Nat.le_of_ble_eq_true rfl, Nat.le_of_ble_eq_true rfl⟩ (fun r14 σ13 τ13 H locs h13 hP hS => ?_)
     obtain ⟨rfl, f15, f16, I17, h13⟩ := h13
     rcases h13 with h19 | h20
     · obtain ⟨q25, k21, k22, k23, k24⟩ := h19
       have q25 := q25.symm
       subst q25
       refine lv_pop hx hb dL_law_258 rfl ?_
       refine lv_aload_n hx hb dL_law_259 rfl (lv_at hl 1 rfl) ?_
       refine lv_aload_n hx hb dL_law_260 rfl (lv_at hl 3 rfl) ?_
       refine lv_iload_n hx hb dL_law_261 rfl (lv_at hl 0 rfl) ?_
       refine lv_iconst (v := 1) hx hb dL_law_262 (of_decide_eq_true rfl) ?_
       refine lv_iadd hx hb dL_law_263 ?_
       refine jtopr ex7.symm ?_
       exact by
        refine va_sld hx hb hX hbl hbA hS (jin tx7 (by omega) (by omega)) dL_law_264 ?_
        refine lv_aload_n hx hb dL_law_265 rfl (lv_at hl 3 rfl) ?_
        refine lv_iload_n hx hb dL_law_266 rfl (lv_at hl 0 rfl) ?_
        refine lv_iconst (v := 2) hx hb dL_law_267 (of_decide_eq_true rfl) ?_
        refine lv_iadd hx hb dL_law_268 ?_
        refine jtopr ex9.symm ?_
        refine va_sld hx hb hX hbl hbA hS (jin tx9 (by omega) (by omega)) dL_law_269 ?_
        refine lv_aload_n hx hb dL_law_270 rfl (lv_at hl 3 rfl) ?_
        refine lv_iload_n hx hb dL_law_271 rfl (lv_at hl 0 rfl) ?_
        exact by
         refine lv_iconst (v := 3) hx hb dL_law_272 (of_decide_eq_true rfl) ?_
         refine lv_iadd hx hb dL_law_273 ?_
         refine jtopr ex11.symm ?_
         refine va_sld hx hb hX hbl hbA hS (jin tx11 (by omega) (by omega)) dL_law_274 ?_
         have I26 : jI101 σ13 := jI101_fr (congrFun (f15 55 (of_decide_eq_true rfl)) 4) (congrFun (f15 55 (of_decide_eq_true rfl)) 5) (f15 56 (of_decide_eq_true rfl)) (f15 57 (of_decide_eq_true rfl)) (f15 58 (of_decide_eq_true rfl)) (f15 59 (of_decide_eq_true rfl)) hI101
         have I27 : jI102 σ13 := jI102_fr (congrFun (f15 55 (of_decide_eq_true rfl)) 6) (f15 60 (of_decide_eq_true rfl)) (f15 61 (of_decide_eq_true rfl)) hI102
         have z28 : (σ13 55 5).toInt = (σ 55 5).toInt := (congrArg Int32.toInt (show σ13 55 5 = (σ 55 5) from (congrFun (f15 55 (of_decide_eq_true rfl)) 5)))
         have z29 : (σ13 55 4).toInt = (σ 55 4).toInt := (congrArg Int32.toInt (show σ13 55 4 = (σ 55 4) from (congrFun (f15 55 (of_decide_eq_true rfl)) 4)))
         refine jcallV (As := [.int (xs x7.toNatClampNeg), .int (xs x9.toNatClampNeg), .int (xs x11.toNatClampNeg)]) (rest := []) ⟨hx, hb, hml, hown, hts⟩ hK hP hA hS hZ (c_X12_edge l D cI cL ad zz hJ σ13 τ (xs x7.toNatClampNeg) ((xs x7.toNatClampNeg).toInt) rfl (xs x9.toNatClampNeg) ((xs x9.toNatClampNeg).toInt) rfl (xs x11.toNatClampNeg) ((xs x11.toNatClampNeg).toInt) rfl I26 I27) cw_RL_21 (jc_55 cI cL ad σ13 τ) rfl ⟨Nat.le_of_ble_eq_true rfl, Nat.le_of_ble_eq_true rfl⟩ rfl rfl rfl hl.1 rfl (Nat.le_of_ble_eq_true rfl) dL_law_275 ⟨Nat.le_of_ble_eq_true rfl, Nat.le_of_ble_eq_true rfl⟩ (fun r31 σ30 τ30 H locs h30 hP hS => ?_)
         exact by
          obtain ⟨rfl, f32, f33, I34, h30⟩ := h30
          rcases h30 with h36 | h37
          · obtain ⟨q42, k38, k39, k40, k41⟩ := h36
            have q42 := q42.symm
            subst q42
            refine lv_pop hx hb dL_law_278 rfl ?_
            refine lv_goto (tgt := 1357) hx hb dL_law_279 (of_decide_eq_true rfl) ?_
            obtain ⟨x43, ex43⟩ : ∃ y : Int32, y = x0 + 6 := ⟨_, rfl⟩
            have tx43 : x43.toInt = x0.toInt + 6 := (jadd ex43 rfl jz_6 (by omega) (by omega)).trans (by omega)
            exact by
             refine lv_iinc (v := x43) (lv' := [(3, .int x43), (2, .ref (ad 55)), (1, .ref (ad 0)), (0, .ref b)]) hx hb dL_law_1357 hl (k := 0) rfl (by rw [ex43]; rfl) (of_decide_eq_true rfl) rfl (fun ls hl => ?_)
             refine lv_goto (tgt := 18) hx hb dL_law_1360 (of_decide_eq_true rfl) ?_
             have I44 : jI2 σ30 := jI2_fr (congrFun (f32 2 (of_decide_eq_true rfl)) 0) (congrFun (f32 2 (of_decide_eq_true rfl)) 1) (congrFun (f32 2 (of_decide_eq_true rfl)) 2) (congrFun (f32 2 (of_decide_eq_true rfl)) 3) (f32 6 (of_decide_eq_true rfl)) I17
             have I45 : jI9 σ30 := jI9_fr ((congrFun (f32 9 (of_decide_eq_true rfl)) 0).trans (congrFun (f15 9 (of_decide_eq_true rfl)) 0)) ((f32 10 (of_decide_eq_true rfl)).trans (f15 10 (of_decide_eq_true rfl))) ((f32 11 (of_decide_eq_true rfl)).trans (f15 11 (of_decide_eq_true rfl))) hI9
             have I46 : jI12 σ30 := jI12_fr ((congrFun (f32 12 (of_decide_eq_true rfl)) 0).trans (congrFun (f15 12 (of_decide_eq_true rfl)) 0)) ((f32 13 (of_decide_eq_true rfl)).trans (f15 13 (of_decide_eq_true rfl))) hI12
             have I47 : jI16 σ30 := jI16_fr ((congrFun (f32 16 (of_decide_eq_true rfl)) 0).trans (congrFun (f15 16 (of_decide_eq_true rfl)) 0)) ((congrFun (f32 16 (of_decide_eq_true rfl)) 1).trans (congrFun (f15 16 (of_decide_eq_true rfl)) 1)) ((congrFun (f32 16 (of_decide_eq_true rfl)) 2).trans (congrFun (f15 16 (of_decide_eq_true rfl)) 2)) ((f32 17 (of_decide_eq_true rfl)).trans (f15 17 (of_decide_eq_true rfl))) hI16
             have I48 : jI18 σ30 := jI18_fr ((congrFun (f32 18 (of_decide_eq_true rfl)) 0).trans (congrFun (f15 18 (of_decide_eq_true rfl)) 0)) ((f32 19 (of_decide_eq_true rfl)).trans (f15 19 (of_decide_eq_true rfl))) hI18
             have I49 : jI22 σ30 := jI22_fr ((congrFun (f32 22 (of_decide_eq_true rfl)) 0).trans (congrFun (f15 22 (of_decide_eq_true rfl)) 0)) ((f32 23 (of_decide_eq_true rfl)).trans (f15 23 (of_decide_eq_true rfl))) hI22
             have I50 : jI31 σ30 := jI31_fr ((congrFun (f32 31 (of_decide_eq_true rfl)) 8).trans (congrFun (f15 31 (of_decide_eq_true rfl)) 8)) ((f32 33 (of_decide_eq_true rfl)).trans (f15 33 (of_decide_eq_true rfl))) ((f32 36 (of_decide_eq_true rfl)).trans (f15 36 (of_decide_eq_true rfl))) hI31
             have I51 : jI38 σ30 := jI38_fr ((congrFun (f32 38 (of_decide_eq_true rfl)) 0).trans (congrFun (f15 38 (of_decide_eq_true rfl)) 0)) ((congrFun (f32 38 (of_decide_eq_true rfl)) 1).trans (congrFun (f15 38 (of_decide_eq_true rfl)) 1)) ((f32 39 (of_decide_eq_true rfl)).trans (f15 39 (of_decide_eq_true rfl))) hI38
             have I52 : jI43 σ30 := jI43_fr ((congrFun (f32 43 (of_decide_eq_true rfl)) 8).trans (congrFun (f15 43 (of_decide_eq_true rfl)) 8)) hI43
             have I53 : jI47 σ30 := jI47_fr ((congrFun (f32 47 (of_decide_eq_true rfl)) 0).trans (congrFun (f15 47 (of_decide_eq_true rfl)) 0)) ((f32 48 (of_decide_eq_true rfl)).trans (f15 48 (of_decide_eq_true rfl))) ((f32 49 (of_decide_eq_true rfl)).trans (f15 49 (of_decide_eq_true rfl))) hI47
             have I54 : jI50 σ30 := jI50_fr ((f32 52 (of_decide_eq_true rfl)).trans (f15 52 (of_decide_eq_true rfl))) hI50
             have I55 : jI102 σ30 := jI102_fr (f33 6 (of_decide_eq_true rfl)) (f32 60 (of_decide_eq_true rfl)) (f32 61 (of_decide_eq_true rfl)) I27
             have I56 : jI103 σ30 := jI103_fr ((f33 9 (of_decide_eq_true rfl)).trans (congrFun (f15 55 (of_decide_eq_true rfl)) 9)) hI103
             have I57 : jI104 σ30 := jI104_fr ((f33 10 (of_decide_eq_true rfl)).trans (congrFun (f15 55 (of_decide_eq_true rfl)) 10)) ((f33 12 (of_decide_eq_true rfl)).trans (congrFun (f15 55 (of_decide_eq_true rfl)) 12)) ((f33 13 (of_decide_eq_true rfl)).trans (congrFun (f15 55 (of_decide_eq_true rfl)) 13)) ((f32 62 (of_decide_eq_true rfl)).trans (f15 62 (of_decide_eq_true rfl))) ((f32 67 (of_decide_eq_true rfl)).trans (f15 67 (of_decide_eq_true rfl))) hI104
             have I58 : jI105 σ30 := jI105_fr ((f33 15 (of_decide_eq_true rfl)).trans (congrFun (f15 55 (of_decide_eq_true rfl)) 15)) ((f32 65 (of_decide_eq_true rfl)).trans (f15 65 (of_decide_eq_true rfl))) hI105
             have I59 : jI106 σ30 := jI106_fr ((f33 32 (of_decide_eq_true rfl)).trans (congrFun (f15 55 (of_decide_eq_true rfl)) 32)) ((f32 70 (of_decide_eq_true rfl)).trans (f15 70 (of_decide_eq_true rfl))) ((f32 71 (of_decide_eq_true rfl)).trans (f15 71 (of_decide_eq_true rfl))) ((f32 72 (of_decide_eq_true rfl)).trans (f15 72 (of_decide_eq_true rfl))) hI106
             have I60 : jI107 σ30 := jI107_fr ((f33 12 (of_decide_eq_true rfl)).trans (congrFun (f15 55 (of_decide_eq_true rfl)) 12)) ((f33 47 (of_decide_eq_true rfl)).trans (congrFun (f15 55 (of_decide_eq_true rfl)) 47)) ((f32 80 (of_decide_eq_true rfl)).trans (f15 80 (of_decide_eq_true rfl))) hI107
             have I61 : jI109 σ30 := jI109_fr ((f33 50 (of_decide_eq_true rfl)).trans (congrFun (f15 55 (of_decide_eq_true rfl)) 50)) hI109
             have I62 : jI110 σ30 := jI110_fr ((f32 86 (of_decide_eq_true rfl)).trans (f15 86 (of_decide_eq_true rfl))) ((f32 87 (of_decide_eq_true rfl)).trans (f15 87 (of_decide_eq_true rfl))) hI110
             have I63 : jI111 σ30 := jI111_fr ((f32 79 (of_decide_eq_true rfl)).trans (f15 79 (of_decide_eq_true rfl))) hI111
             have I64 : jI119 σ30 := jI119_fr ((f32 68 (of_decide_eq_true rfl)).trans (f15 68 (of_decide_eq_true rfl))) hI119
             have p65 : jKept σ30 := jKept.fr ((f32 75 (of_decide_eq_true rfl)).trans (f15 75 (of_decide_eq_true rfl))) ((f32 76 (of_decide_eq_true rfl)).trans (f15 76 (of_decide_eq_true rfl))) ((f32 77 (of_decide_eq_true rfl)).trans (f15 77 (of_decide_eq_true rfl))) hs_jKept
             have p66 : jBook σ30 := jBook.fr ((f33 47 (of_decide_eq_true rfl)).trans (congrFun (f15 55 (of_decide_eq_true rfl)) 47)) ((f33 10 (of_decide_eq_true rfl)).trans (congrFun (f15 55 (of_decide_eq_true rfl)) 10)) ((f32 81 (of_decide_eq_true rfl)).trans (f15 81 (of_decide_eq_true rfl))) hs_jBook
             have z67 : (σ30 9 0).toInt = (σ 9 0).toInt := (congrArg Int32.toInt (show σ30 9 0 = (σ 9 0) from ((congrFun (f32 9 (of_decide_eq_true rfl)) 0).trans (congrFun (f15 9 (of_decide_eq_true rfl)) 0))))
             have z68 : (σ30 55 15).toInt = (σ 55 15).toInt := (congrArg Int32.toInt (show σ30 55 15 = (σ 55 15) from ((f33 15 (of_decide_eq_true rfl)).trans (congrFun (f15 55 (of_decide_eq_true rfl)) 15))))
             exact by exact ih x43 σ30 τ _ _ ls (by have h9 := tx43; omega) ⟨I44, I45, I46, I47, I48, I49, I50, I51, I52, I53, I54, I34, I55, I56, I57, I58, I59, I60, I61, I62, I63, I64, p65, p66, (by omega), (show jTp (σ30 10) (σ30 63) (σ30 55 15).toInt by rw [show σ30 10 = σ 10 from ((f32 10 (of_decide_eq_true rfl)).trans (f15 10 (of_decide_eq_true rfl))), show σ30 63 = σ 63 from ((f32 63 (of_decide_eq_true rfl)).trans (f15 63 (of_decide_eq_true rfl)))]; exact hr0.le (by omega))⟩ hP hS (lv_sub hl [0, 1, 2, 3] rfl)
          · obtain ⟨q70, k69⟩ := h37
            refine lv_pop hx hb dL_law_278 rfl ?_
            refine lv_goto (tgt := 1357) hx hb dL_law_279 (of_decide_eq_true rfl) ?_
            obtain ⟨x71, ex71⟩ : ∃ y : Int32, y = x0 + 6 := ⟨_, rfl⟩
            exact by
             have tx71 : x71.toInt = x0.toInt + 6 := (jadd ex71 rfl jz_6 (by omega) (by omega)).trans (by omega)
             refine lv_iinc (v := x71) (lv' := [(3, .int x71), (2, .ref (ad 55)), (1, .ref (ad 0)), (0, .ref b)]) hx hb dL_law_1357 hl (k := 0) rfl (by rw [ex71]; rfl) (of_decide_eq_true rfl) rfl (fun ls hl => ?_)
             refine lv_goto (tgt := 18) hx hb dL_law_1360 (of_decide_eq_true rfl) ?_
             have I72 : jI2 σ30 := jI2_fr (congrFun (f32 2 (of_decide_eq_true rfl)) 0) (congrFun (f32 2 (of_decide_eq_true rfl)) 1) (congrFun (f32 2 (of_decide_eq_true rfl)) 2) (congrFun (f32 2 (of_decide_eq_true rfl)) 3) (f32 6 (of_decide_eq_true rfl)) I17
             have I73 : jI9 σ30 := jI9_fr ((congrFun (f32 9 (of_decide_eq_true rfl)) 0).trans (congrFun (f15 9 (of_decide_eq_true rfl)) 0)) ((f32 10 (of_decide_eq_true rfl)).trans (f15 10 (of_decide_eq_true rfl))) ((f32 11 (of_decide_eq_true rfl)).trans (f15 11 (of_decide_eq_true rfl))) hI9
             have I74 : jI12 σ30 := jI12_fr ((congrFun (f32 12 (of_decide_eq_true rfl)) 0).trans (congrFun (f15 12 (of_decide_eq_true rfl)) 0)) ((f32 13 (of_decide_eq_true rfl)).trans (f15 13 (of_decide_eq_true rfl))) hI12
             have I75 : jI16 σ30 := jI16_fr ((congrFun (f32 16 (of_decide_eq_true rfl)) 0).trans (congrFun (f15 16 (of_decide_eq_true rfl)) 0)) ((congrFun (f32 16 (of_decide_eq_true rfl)) 1).trans (congrFun (f15 16 (of_decide_eq_true rfl)) 1)) ((congrFun (f32 16 (of_decide_eq_true rfl)) 2).trans (congrFun (f15 16 (of_decide_eq_true rfl)) 2)) ((f32 17 (of_decide_eq_true rfl)).trans (f15 17 (of_decide_eq_true rfl))) hI16
             have I76 : jI18 σ30 := jI18_fr ((congrFun (f32 18 (of_decide_eq_true rfl)) 0).trans (congrFun (f15 18 (of_decide_eq_true rfl)) 0)) ((f32 19 (of_decide_eq_true rfl)).trans (f15 19 (of_decide_eq_true rfl))) hI18
             have I77 : jI22 σ30 := jI22_fr ((congrFun (f32 22 (of_decide_eq_true rfl)) 0).trans (congrFun (f15 22 (of_decide_eq_true rfl)) 0)) ((f32 23 (of_decide_eq_true rfl)).trans (f15 23 (of_decide_eq_true rfl))) hI22
             exact by
              have I78 : jI31 σ30 := jI31_fr ((congrFun (f32 31 (of_decide_eq_true rfl)) 8).trans (congrFun (f15 31 (of_decide_eq_true rfl)) 8)) ((f32 33 (of_decide_eq_true rfl)).trans (f15 33 (of_decide_eq_true rfl))) ((f32 36 (of_decide_eq_true rfl)).trans (f15 36 (of_decide_eq_true rfl))) hI31
              have I79 : jI38 σ30 := jI38_fr ((congrFun (f32 38 (of_decide_eq_true rfl)) 0).trans (congrFun (f15 38 (of_decide_eq_true rfl)) 0)) ((congrFun (f32 38 (of_decide_eq_true rfl)) 1).trans (congrFun (f15 38 (of_decide_eq_true rfl)) 1)) ((f32 39 (of_decide_eq_true rfl)).trans (f15 39 (of_decide_eq_true rfl))) hI38
              have I80 : jI43 σ30 := jI43_fr ((congrFun (f32 43 (of_decide_eq_true rfl)) 8).trans (congrFun (f15 43 (of_decide_eq_true rfl)) 8)) hI43
              have I81 : jI47 σ30 := jI47_fr ((congrFun (f32 47 (of_decide_eq_true rfl)) 0).trans (congrFun (f15 47 (of_decide_eq_true rfl)) 0)) ((f32 48 (of_decide_eq_true rfl)).trans (f15 48 (of_decide_eq_true rfl))) ((f32 49 (of_decide_eq_true rfl)).trans (f15 49 (of_decide_eq_true rfl))) hI47
              have I82 : jI50 σ30 := jI50_fr ((f32 52 (of_decide_eq_true rfl)).trans (f15 52 (of_decide_eq_true rfl))) hI50
              have I83 : jI102 σ30 := jI102_fr (f33 6 (of_decide_eq_true rfl)) (f32 60 (of_decide_eq_true rfl)) (f32 61 (of_decide_eq_true rfl)) I27
              have I84 : jI103 σ30 := jI103_fr ((f33 9 (of_decide_eq_true rfl)).trans (congrFun (f15 55 (of_decide_eq_true rfl)) 9)) hI103
              have I85 : jI104 σ30 := jI104_fr ((f33 10 (of_decide_eq_true rfl)).trans (congrFun (f15 55 (of_decide_eq_true rfl)) 10)) ((f33 12 (of_decide_eq_true rfl)).trans (congrFun (f15 55 (of_decide_eq_true rfl)) 12)) ((f33 13 (of_decide_eq_true rfl)).trans (congrFun (f15 55 (of_decide_eq_true rfl)) 13)) ((f32 62 (of_decide_eq_true rfl)).trans (f15 62 (of_decide_eq_true rfl))) ((f32 67 (of_decide_eq_true rfl)).trans (f15 67 (of_decide_eq_true rfl))) hI104
              have I86 : jI105 σ30 := jI105_fr ((f33 15 (of_decide_eq_true rfl)).trans (congrFun (f15 55 (of_decide_eq_true rfl)) 15)) ((f32 65 (of_decide_eq_true rfl)).trans (f15 65 (of_decide_eq_true rfl))) hI105
              have I87 : jI106 σ30 := jI106_fr ((f33 32 (of_decide_eq_true rfl)).trans (congrFun (f15 55 (of_decide_eq_true rfl)) 32)) ((f32 70 (of_decide_eq_true rfl)).trans (f15 70 (of_decide_eq_true rfl))) ((f32 71 (of_decide_eq_true rfl)).trans (f15 71 (of_decide_eq_true rfl))) ((f32 72 (of_decide_eq_true rfl)).trans (f15 72 (of_decide_eq_true rfl))) hI106
              have I88 : jI107 σ30 := jI107_fr ((f33 12 (of_decide_eq_true rfl)).trans (congrFun (f15 55 (of_decide_eq_true rfl)) 12)) ((f33 47 (of_decide_eq_true rfl)).trans (congrFun (f15 55 (of_decide_eq_true rfl)) 47)) ((f32 80 (of_decide_eq_true rfl)).trans (f15 80 (of_decide_eq_true rfl))) hI107
              have I89 : jI109 σ30 := jI109_fr ((f33 50 (of_decide_eq_true rfl)).trans (congrFun (f15 55 (of_decide_eq_true rfl)) 50)) hI109
              have I90 : jI110 σ30 := jI110_fr ((f32 86 (of_decide_eq_true rfl)).trans (f15 86 (of_decide_eq_true rfl))) ((f32 87 (of_decide_eq_true rfl)).trans (f15 87 (of_decide_eq_true rfl))) hI110
              have I91 : jI111 σ30 := jI111_fr ((f32 79 (of_decide_eq_true rfl)).trans (f15 79 (of_decide_eq_true rfl))) hI111
              have I92 : jI119 σ30 := jI119_fr ((f32 68 (of_decide_eq_true rfl)).trans (f15 68 (of_decide_eq_true rfl))) hI119
              have p93 : jKept σ30 := jKept.fr ((f32 75 (of_decide_eq_true rfl)).trans (f15 75 (of_decide_eq_true rfl))) ((f32 76 (of_decide_eq_true rfl)).trans (f15 76 (of_decide_eq_true rfl))) ((f32 77 (of_decide_eq_true rfl)).trans (f15 77 (of_decide_eq_true rfl))) hs_jKept
              have p94 : jBook σ30 := jBook.fr ((f33 47 (of_decide_eq_true rfl)).trans (congrFun (f15 55 (of_decide_eq_true rfl)) 47)) ((f33 10 (of_decide_eq_true rfl)).trans (congrFun (f15 55 (of_decide_eq_true rfl)) 10)) ((f32 81 (of_decide_eq_true rfl)).trans (f15 81 (of_decide_eq_true rfl))) hs_jBook
              have z95 : (σ30 9 0).toInt = (σ 9 0).toInt := (congrArg Int32.toInt (show σ30 9 0 = (σ 9 0) from ((congrFun (f32 9 (of_decide_eq_true rfl)) 0).trans (congrFun (f15 9 (of_decide_eq_true rfl)) 0))))
              have z96 : (σ30 55 15).toInt = (σ 55 15).toInt := (congrArg Int32.toInt (show σ30 55 15 = (σ 55 15) from ((f33 15 (of_decide_eq_true rfl)).trans (congrFun (f15 55 (of_decide_eq_true rfl)) 15))))
              exact by exact ih x71 σ30 τ _ _ ls (by have h9 := tx71; omega) ⟨I72, I73, I74, I75, I76, I77, I78, I79, I80, I81, I82, I34, I83, I84, I85, I86, I87, I88, I89, I90, I91, I92, p93, p94, (by omega), (show jTp (σ30 10) (σ30 63) (σ30 55 15).toInt by rw [show σ30 10 = σ 10 from ((f32 10 (of_decide_eq_true rfl)).trans (f15 10 (of_decide_eq_true rfl))), show σ30 63 = σ 63 from ((f32 63 (of_decide_eq_true rfl)).trans (f15 63 (of_decide_eq_true rfl)))]; exact hr0.le (by omega))⟩ hP hS (lv_sub hl [0, 1, 2, 3] rfl)
     · obtain ⟨q98, k97⟩ := h20
       refine lv_pop hx hb dL_law_258 rfl ?_
       refine lv_aload_n hx hb dL_law_259 rfl (lv_at hl 1 rfl) ?_
       refine lv_aload_n hx hb dL_law_260 rfl (lv_at hl 3 rfl) ?_
       refine lv_iload_n hx hb dL_law_261 rfl (lv_at hl 0 rfl) ?_
       refine lv_iconst (v := 1) hx hb dL_law_262 (of_decide_eq_true rfl) ?_
       refine lv_iadd hx hb dL_law_263 ?_
       refine jtopr ex7.symm ?_
       exact by
        refine va_sld hx hb hX hbl hbA hS (jin tx7 (by omega) (by omega)) dL_law_264 ?_
        refine lv_aload_n hx hb dL_law_265 rfl (lv_at hl 3 rfl) ?_
        refine lv_iload_n hx hb dL_law_266 rfl (lv_at hl 0 rfl) ?_
        refine lv_iconst (v := 2) hx hb dL_law_267 (of_decide_eq_true rfl) ?_
        refine lv_iadd hx hb dL_law_268 ?_
        refine jtopr ex9.symm ?_
        refine va_sld hx hb hX hbl hbA hS (jin tx9 (by omega) (by omega)) dL_law_269 ?_
        refine lv_aload_n hx hb dL_law_270 rfl (lv_at hl 3 rfl) ?_
        refine lv_iload_n hx hb dL_law_271 rfl (lv_at hl 0 rfl) ?_
        exact by
         refine lv_iconst (v := 3) hx hb dL_law_272 (of_decide_eq_true rfl) ?_
         refine lv_iadd hx hb dL_law_273 ?_
         refine jtopr ex11.symm ?_
         refine va_sld hx hb hX hbl hbA hS (jin tx11 (by omega) (by omega)) dL_law_274 ?_
         have I99 : jI101 σ13 := jI101_fr (congrFun (f15 55 (of_decide_eq_true rfl)) 4) (congrFun (f15 55 (of_decide_eq_true rfl)) 5) (f15 56 (of_decide_eq_true rfl)) (f15 57 (of_decide_eq_true rfl)) (f15 58 (of_decide_eq_true rfl)) (f15 59 (of_decide_eq_true rfl)) hI101
         have I100 : jI102 σ13 := jI102_fr (congrFun (f15 55 (of_decide_eq_true rfl)) 6) (f15 60 (of_decide_eq_true rfl)) (f15 61 (of_decide_eq_true rfl)) hI102
         have z101 : (σ13 55 5).toInt = (σ 55 5).toInt := (congrArg Int32.toInt (show σ13 55 5 = (σ 55 5) from (congrFun (f15 55 (of_decide_eq_true rfl)) 5)))
         have z102 : (σ13 55 4).toInt = (σ 55 4).toInt := (congrArg Int32.toInt (show σ13 55 4 = (σ 55 4) from (congrFun (f15 55 (of_decide_eq_true rfl)) 4)))
         refine jcallV (As := [.int (xs x7.toNatClampNeg), .int (xs x9.toNatClampNeg), .int (xs x11.toNatClampNeg)]) (rest := []) ⟨hx, hb, hml, hown, hts⟩ hK hP hA hS hZ (c_X12_edge l D cI cL ad zz hJ σ13 τ (xs x7.toNatClampNeg) ((xs x7.toNatClampNeg).toInt) rfl (xs x9.toNatClampNeg) ((xs x9.toNatClampNeg).toInt) rfl (xs x11.toNatClampNeg) ((xs x11.toNatClampNeg).toInt) rfl I99 I100) cw_RL_21 (jc_55 cI cL ad σ13 τ) rfl ⟨Nat.le_of_ble_eq_true rfl, Nat.le_of_ble_eq_true rfl⟩ rfl rfl rfl hl.1 rfl (Nat.le_of_ble_eq_true rfl) dL_law_275 ⟨Nat.le_of_ble_eq_true rfl, Nat.le_of_ble_eq_true rfl⟩ (fun r104 σ103 τ103 H locs h103 hP hS => ?_)
         exact by
          obtain ⟨rfl, f105, f106, I107, h103⟩ := h103
          rcases h103 with h109 | h110
          · obtain ⟨q115, k111, k112, k113, k114⟩ := h109
            have q115 := q115.symm
            subst q115
            refine lv_pop hx hb dL_law_278 rfl ?_
            refine lv_goto (tgt := 1357) hx hb dL_law_279 (of_decide_eq_true rfl) ?_
            obtain ⟨x116, ex116⟩ : ∃ y : Int32, y = x0 + 6 := ⟨_, rfl⟩
            have tx116 : x116.toInt = x0.toInt + 6 := (jadd ex116 rfl jz_6 (by omega) (by omega)).trans (by omega)
            exact by
             refine lv_iinc (v := x116) (lv' := [(3, .int x116), (2, .ref (ad 55)), (1, .ref (ad 0)), (0, .ref b)]) hx hb dL_law_1357 hl (k := 0) rfl (by rw [ex116]; rfl) (of_decide_eq_true rfl) rfl (fun ls hl => ?_)
             refine lv_goto (tgt := 18) hx hb dL_law_1360 (of_decide_eq_true rfl) ?_
             have I117 : jI2 σ103 := jI2_fr (congrFun (f105 2 (of_decide_eq_true rfl)) 0) (congrFun (f105 2 (of_decide_eq_true rfl)) 1) (congrFun (f105 2 (of_decide_eq_true rfl)) 2) (congrFun (f105 2 (of_decide_eq_true rfl)) 3) (f105 6 (of_decide_eq_true rfl)) I17
             have I118 : jI9 σ103 := jI9_fr ((congrFun (f105 9 (of_decide_eq_true rfl)) 0).trans (congrFun (f15 9 (of_decide_eq_true rfl)) 0)) ((f105 10 (of_decide_eq_true rfl)).trans (f15 10 (of_decide_eq_true rfl))) ((f105 11 (of_decide_eq_true rfl)).trans (f15 11 (of_decide_eq_true rfl))) hI9
             have I119 : jI12 σ103 := jI12_fr ((congrFun (f105 12 (of_decide_eq_true rfl)) 0).trans (congrFun (f15 12 (of_decide_eq_true rfl)) 0)) ((f105 13 (of_decide_eq_true rfl)).trans (f15 13 (of_decide_eq_true rfl))) hI12
             have I120 : jI16 σ103 := jI16_fr ((congrFun (f105 16 (of_decide_eq_true rfl)) 0).trans (congrFun (f15 16 (of_decide_eq_true rfl)) 0)) ((congrFun (f105 16 (of_decide_eq_true rfl)) 1).trans (congrFun (f15 16 (of_decide_eq_true rfl)) 1)) ((congrFun (f105 16 (of_decide_eq_true rfl)) 2).trans (congrFun (f15 16 (of_decide_eq_true rfl)) 2)) ((f105 17 (of_decide_eq_true rfl)).trans (f15 17 (of_decide_eq_true rfl))) hI16
             have I121 : jI18 σ103 := jI18_fr ((congrFun (f105 18 (of_decide_eq_true rfl)) 0).trans (congrFun (f15 18 (of_decide_eq_true rfl)) 0)) ((f105 19 (of_decide_eq_true rfl)).trans (f15 19 (of_decide_eq_true rfl))) hI18
             have I122 : jI22 σ103 := jI22_fr ((congrFun (f105 22 (of_decide_eq_true rfl)) 0).trans (congrFun (f15 22 (of_decide_eq_true rfl)) 0)) ((f105 23 (of_decide_eq_true rfl)).trans (f15 23 (of_decide_eq_true rfl))) hI22
             have I123 : jI31 σ103 := jI31_fr ((congrFun (f105 31 (of_decide_eq_true rfl)) 8).trans (congrFun (f15 31 (of_decide_eq_true rfl)) 8)) ((f105 33 (of_decide_eq_true rfl)).trans (f15 33 (of_decide_eq_true rfl))) ((f105 36 (of_decide_eq_true rfl)).trans (f15 36 (of_decide_eq_true rfl))) hI31
             have I124 : jI38 σ103 := jI38_fr ((congrFun (f105 38 (of_decide_eq_true rfl)) 0).trans (congrFun (f15 38 (of_decide_eq_true rfl)) 0)) ((congrFun (f105 38 (of_decide_eq_true rfl)) 1).trans (congrFun (f15 38 (of_decide_eq_true rfl)) 1)) ((f105 39 (of_decide_eq_true rfl)).trans (f15 39 (of_decide_eq_true rfl))) hI38
             have I125 : jI43 σ103 := jI43_fr ((congrFun (f105 43 (of_decide_eq_true rfl)) 8).trans (congrFun (f15 43 (of_decide_eq_true rfl)) 8)) hI43
             have I126 : jI47 σ103 := jI47_fr ((congrFun (f105 47 (of_decide_eq_true rfl)) 0).trans (congrFun (f15 47 (of_decide_eq_true rfl)) 0)) ((f105 48 (of_decide_eq_true rfl)).trans (f15 48 (of_decide_eq_true rfl))) ((f105 49 (of_decide_eq_true rfl)).trans (f15 49 (of_decide_eq_true rfl))) hI47
             have I127 : jI50 σ103 := jI50_fr ((f105 52 (of_decide_eq_true rfl)).trans (f15 52 (of_decide_eq_true rfl))) hI50
             have I128 : jI102 σ103 := jI102_fr (f106 6 (of_decide_eq_true rfl)) (f105 60 (of_decide_eq_true rfl)) (f105 61 (of_decide_eq_true rfl)) I100
             have I129 : jI103 σ103 := jI103_fr ((f106 9 (of_decide_eq_true rfl)).trans (congrFun (f15 55 (of_decide_eq_true rfl)) 9)) hI103
             have I130 : jI104 σ103 := jI104_fr ((f106 10 (of_decide_eq_true rfl)).trans (congrFun (f15 55 (of_decide_eq_true rfl)) 10)) ((f106 12 (of_decide_eq_true rfl)).trans (congrFun (f15 55 (of_decide_eq_true rfl)) 12)) ((f106 13 (of_decide_eq_true rfl)).trans (congrFun (f15 55 (of_decide_eq_true rfl)) 13)) ((f105 62 (of_decide_eq_true rfl)).trans (f15 62 (of_decide_eq_true rfl))) ((f105 67 (of_decide_eq_true rfl)).trans (f15 67 (of_decide_eq_true rfl))) hI104
             have I131 : jI105 σ103 := jI105_fr ((f106 15 (of_decide_eq_true rfl)).trans (congrFun (f15 55 (of_decide_eq_true rfl)) 15)) ((f105 65 (of_decide_eq_true rfl)).trans (f15 65 (of_decide_eq_true rfl))) hI105
             have I132 : jI106 σ103 := jI106_fr ((f106 32 (of_decide_eq_true rfl)).trans (congrFun (f15 55 (of_decide_eq_true rfl)) 32)) ((f105 70 (of_decide_eq_true rfl)).trans (f15 70 (of_decide_eq_true rfl))) ((f105 71 (of_decide_eq_true rfl)).trans (f15 71 (of_decide_eq_true rfl))) ((f105 72 (of_decide_eq_true rfl)).trans (f15 72 (of_decide_eq_true rfl))) hI106
             have I133 : jI107 σ103 := jI107_fr ((f106 12 (of_decide_eq_true rfl)).trans (congrFun (f15 55 (of_decide_eq_true rfl)) 12)) ((f106 47 (of_decide_eq_true rfl)).trans (congrFun (f15 55 (of_decide_eq_true rfl)) 47)) ((f105 80 (of_decide_eq_true rfl)).trans (f15 80 (of_decide_eq_true rfl))) hI107
             have I134 : jI109 σ103 := jI109_fr ((f106 50 (of_decide_eq_true rfl)).trans (congrFun (f15 55 (of_decide_eq_true rfl)) 50)) hI109
             have I135 : jI110 σ103 := jI110_fr ((f105 86 (of_decide_eq_true rfl)).trans (f15 86 (of_decide_eq_true rfl))) ((f105 87 (of_decide_eq_true rfl)).trans (f15 87 (of_decide_eq_true rfl))) hI110
             have I136 : jI111 σ103 := jI111_fr ((f105 79 (of_decide_eq_true rfl)).trans (f15 79 (of_decide_eq_true rfl))) hI111
             have I137 : jI119 σ103 := jI119_fr ((f105 68 (of_decide_eq_true rfl)).trans (f15 68 (of_decide_eq_true rfl))) hI119
             have p138 : jKept σ103 := jKept.fr ((f105 75 (of_decide_eq_true rfl)).trans (f15 75 (of_decide_eq_true rfl))) ((f105 76 (of_decide_eq_true rfl)).trans (f15 76 (of_decide_eq_true rfl))) ((f105 77 (of_decide_eq_true rfl)).trans (f15 77 (of_decide_eq_true rfl))) hs_jKept
             have p139 : jBook σ103 := jBook.fr ((f106 47 (of_decide_eq_true rfl)).trans (congrFun (f15 55 (of_decide_eq_true rfl)) 47)) ((f106 10 (of_decide_eq_true rfl)).trans (congrFun (f15 55 (of_decide_eq_true rfl)) 10)) ((f105 81 (of_decide_eq_true rfl)).trans (f15 81 (of_decide_eq_true rfl))) hs_jBook
             have z140 : (σ103 9 0).toInt = (σ 9 0).toInt := (congrArg Int32.toInt (show σ103 9 0 = (σ 9 0) from ((congrFun (f105 9 (of_decide_eq_true rfl)) 0).trans (congrFun (f15 9 (of_decide_eq_true rfl)) 0))))
             have z141 : (σ103 55 15).toInt = (σ 55 15).toInt := (congrArg Int32.toInt (show σ103 55 15 = (σ 55 15) from ((f106 15 (of_decide_eq_true rfl)).trans (congrFun (f15 55 (of_decide_eq_true rfl)) 15))))
             exact by exact ih x116 σ103 τ _ _ ls (by have h9 := tx116; omega) ⟨I117, I118, I119, I120, I121, I122, I123, I124, I125, I126, I127, I107, I128, I129, I130, I131, I132, I133, I134, I135, I136, I137, p138, p139, (by omega), (show jTp (σ103 10) (σ103 63) (σ103 55 15).toInt by rw [show σ103 10 = σ 10 from ((f105 10 (of_decide_eq_true rfl)).trans (f15 10 (of_decide_eq_true rfl))), show σ103 63 = σ 63 from ((f105 63 (of_decide_eq_true rfl)).trans (f15 63 (of_decide_eq_true rfl)))]; exact hr0.le (by omega))⟩ hP hS (lv_sub hl [0, 1, 2, 3] rfl)
          · obtain ⟨q143, k142⟩ := h110
            refine lv_pop hx hb dL_law_278 rfl ?_
            refine lv_goto (tgt := 1357) hx hb dL_law_279 (of_decide_eq_true rfl) ?_
            obtain ⟨x144, ex144⟩ : ∃ y : Int32, y = x0 + 6 := ⟨_, rfl⟩
            exact by
             have tx144 : x144.toInt = x0.toInt + 6 := (jadd ex144 rfl jz_6 (by omega) (by omega)).trans (by omega)
             refine lv_iinc (v := x144) (lv' := [(3, .int x144), (2, .ref (ad 55)), (1, .ref (ad 0)), (0, .ref b)]) hx hb dL_law_1357 hl (k := 0) rfl (by rw [ex144]; rfl) (of_decide_eq_true rfl) rfl (fun ls hl => ?_)
             refine lv_goto (tgt := 18) hx hb dL_law_1360 (of_decide_eq_true rfl) ?_
             have I145 : jI2 σ103 := jI2_fr (congrFun (f105 2 (of_decide_eq_true rfl)) 0) (congrFun (f105 2 (of_decide_eq_true rfl)) 1) (congrFun (f105 2 (of_decide_eq_true rfl)) 2) (congrFun (f105 2 (of_decide_eq_true rfl)) 3) (f105 6 (of_decide_eq_true rfl)) I17
             have I146 : jI9 σ103 := jI9_fr ((congrFun (f105 9 (of_decide_eq_true rfl)) 0).trans (congrFun (f15 9 (of_decide_eq_true rfl)) 0)) ((f105 10 (of_decide_eq_true rfl)).trans (f15 10 (of_decide_eq_true rfl))) ((f105 11 (of_decide_eq_true rfl)).trans (f15 11 (of_decide_eq_true rfl))) hI9
             have I147 : jI12 σ103 := jI12_fr ((congrFun (f105 12 (of_decide_eq_true rfl)) 0).trans (congrFun (f15 12 (of_decide_eq_true rfl)) 0)) ((f105 13 (of_decide_eq_true rfl)).trans (f15 13 (of_decide_eq_true rfl))) hI12
             have I148 : jI16 σ103 := jI16_fr ((congrFun (f105 16 (of_decide_eq_true rfl)) 0).trans (congrFun (f15 16 (of_decide_eq_true rfl)) 0)) ((congrFun (f105 16 (of_decide_eq_true rfl)) 1).trans (congrFun (f15 16 (of_decide_eq_true rfl)) 1)) ((congrFun (f105 16 (of_decide_eq_true rfl)) 2).trans (congrFun (f15 16 (of_decide_eq_true rfl)) 2)) ((f105 17 (of_decide_eq_true rfl)).trans (f15 17 (of_decide_eq_true rfl))) hI16
             have I149 : jI18 σ103 := jI18_fr ((congrFun (f105 18 (of_decide_eq_true rfl)) 0).trans (congrFun (f15 18 (of_decide_eq_true rfl)) 0)) ((f105 19 (of_decide_eq_true rfl)).trans (f15 19 (of_decide_eq_true rfl))) hI18
             have I150 : jI22 σ103 := jI22_fr ((congrFun (f105 22 (of_decide_eq_true rfl)) 0).trans (congrFun (f15 22 (of_decide_eq_true rfl)) 0)) ((f105 23 (of_decide_eq_true rfl)).trans (f15 23 (of_decide_eq_true rfl))) hI22
             exact by
              have I151 : jI31 σ103 := jI31_fr ((congrFun (f105 31 (of_decide_eq_true rfl)) 8).trans (congrFun (f15 31 (of_decide_eq_true rfl)) 8)) ((f105 33 (of_decide_eq_true rfl)).trans (f15 33 (of_decide_eq_true rfl))) ((f105 36 (of_decide_eq_true rfl)).trans (f15 36 (of_decide_eq_true rfl))) hI31
              have I152 : jI38 σ103 := jI38_fr ((congrFun (f105 38 (of_decide_eq_true rfl)) 0).trans (congrFun (f15 38 (of_decide_eq_true rfl)) 0)) ((congrFun (f105 38 (of_decide_eq_true rfl)) 1).trans (congrFun (f15 38 (of_decide_eq_true rfl)) 1)) ((f105 39 (of_decide_eq_true rfl)).trans (f15 39 (of_decide_eq_true rfl))) hI38
              have I153 : jI43 σ103 := jI43_fr ((congrFun (f105 43 (of_decide_eq_true rfl)) 8).trans (congrFun (f15 43 (of_decide_eq_true rfl)) 8)) hI43
              have I154 : jI47 σ103 := jI47_fr ((congrFun (f105 47 (of_decide_eq_true rfl)) 0).trans (congrFun (f15 47 (of_decide_eq_true rfl)) 0)) ((f105 48 (of_decide_eq_true rfl)).trans (f15 48 (of_decide_eq_true rfl))) ((f105 49 (of_decide_eq_true rfl)).trans (f15 49 (of_decide_eq_true rfl))) hI47
              have I155 : jI50 σ103 := jI50_fr ((f105 52 (of_decide_eq_true rfl)).trans (f15 52 (of_decide_eq_true rfl))) hI50
              have I156 : jI102 σ103 := jI102_fr (f106 6 (of_decide_eq_true rfl)) (f105 60 (of_decide_eq_true rfl)) (f105 61 (of_decide_eq_true rfl)) I100
              have I157 : jI103 σ103 := jI103_fr ((f106 9 (of_decide_eq_true rfl)).trans (congrFun (f15 55 (of_decide_eq_true rfl)) 9)) hI103
              have I158 : jI104 σ103 := jI104_fr ((f106 10 (of_decide_eq_true rfl)).trans (congrFun (f15 55 (of_decide_eq_true rfl)) 10)) ((f106 12 (of_decide_eq_true rfl)).trans (congrFun (f15 55 (of_decide_eq_true rfl)) 12)) ((f106 13 (of_decide_eq_true rfl)).trans (congrFun (f15 55 (of_decide_eq_true rfl)) 13)) ((f105 62 (of_decide_eq_true rfl)).trans (f15 62 (of_decide_eq_true rfl))) ((f105 67 (of_decide_eq_true rfl)).trans (f15 67 (of_decide_eq_true rfl))) hI104
              have I159 : jI105 σ103 := jI105_fr ((f106 15 (of_decide_eq_true rfl)).trans (congrFun (f15 55 (of_decide_eq_true rfl)) 15)) ((f105 65 (of_decide_eq_true rfl)).trans (f15 65 (of_decide_eq_true rfl))) hI105
              have I160 : jI106 σ103 := jI106_fr ((f106 32 (of_decide_eq_true rfl)).trans (congrFun (f15 55 (of_decide_eq_true rfl)) 32)) ((f105 70 (of_decide_eq_true rfl)).trans (f15 70 (of_decide_eq_true rfl))) ((f105 71 (of_decide_eq_true rfl)).trans (f15 71 (of_decide_eq_true rfl))) ((f105 72 (of_decide_eq_true rfl)).trans (f15 72 (of_decide_eq_true rfl))) hI106
              have I161 : jI107 σ103 := jI107_fr ((f106 12 (of_decide_eq_true rfl)).trans (congrFun (f15 55 (of_decide_eq_true rfl)) 12)) ((f106 47 (of_decide_eq_true rfl)).trans (congrFun (f15 55 (of_decide_eq_true rfl)) 47)) ((f105 80 (of_decide_eq_true rfl)).trans (f15 80 (of_decide_eq_true rfl))) hI107
              have I162 : jI109 σ103 := jI109_fr ((f106 50 (of_decide_eq_true rfl)).trans (congrFun (f15 55 (of_decide_eq_true rfl)) 50)) hI109
              have I163 : jI110 σ103 := jI110_fr ((f105 86 (of_decide_eq_true rfl)).trans (f15 86 (of_decide_eq_true rfl))) ((f105 87 (of_decide_eq_true rfl)).trans (f15 87 (of_decide_eq_true rfl))) hI110
              have I164 : jI111 σ103 := jI111_fr ((f105 79 (of_decide_eq_true rfl)).trans (f15 79 (of_decide_eq_true rfl))) hI111
              have I165 : jI119 σ103 := jI119_fr ((f105 68 (of_decide_eq_true rfl)).trans (f15 68 (of_decide_eq_true rfl))) hI119
              have p166 : jKept σ103 := jKept.fr ((f105 75 (of_decide_eq_true rfl)).trans (f15 75 (of_decide_eq_true rfl))) ((f105 76 (of_decide_eq_true rfl)).trans (f15 76 (of_decide_eq_true rfl))) ((f105 77 (of_decide_eq_true rfl)).trans (f15 77 (of_decide_eq_true rfl))) hs_jKept
              have p167 : jBook σ103 := jBook.fr ((f106 47 (of_decide_eq_true rfl)).trans (congrFun (f15 55 (of_decide_eq_true rfl)) 47)) ((f106 10 (of_decide_eq_true rfl)).trans (congrFun (f15 55 (of_decide_eq_true rfl)) 10)) ((f105 81 (of_decide_eq_true rfl)).trans (f15 81 (of_decide_eq_true rfl))) hs_jBook
              have z168 : (σ103 9 0).toInt = (σ 9 0).toInt := (congrArg Int32.toInt (show σ103 9 0 = (σ 9 0) from ((congrFun (f105 9 (of_decide_eq_true rfl)) 0).trans (congrFun (f15 9 (of_decide_eq_true rfl)) 0))))
              have z169 : (σ103 55 15).toInt = (σ 55 15).toInt := (congrArg Int32.toInt (show σ103 55 15 = (σ 55 15) from ((f106 15 (of_decide_eq_true rfl)).trans (congrFun (f15 55 (of_decide_eq_true rfl)) 15))))
              exact by exact ih x144 σ103 τ _ _ ls (by have h9 := tx144; omega) ⟨I145, I146, I147, I148, I149, I150, I151, I152, I153, I154, I155, I107, I156, I157, I158, I159, I160, I161, I162, I163, I164, I165, p166, p167, (by omega), (show jTp (σ103 10) (σ103 63) (σ103 55 15).toInt by rw [show σ103 10 = σ 10 from ((f105 10 (of_decide_eq_true rfl)).trans (f15 10 (of_decide_eq_true rfl))), show σ103 63 = σ 63 from ((f105 63 (of_decide_eq_true rfl)).trans (f15 63 (of_decide_eq_true rfl)))]; exact hr0.le (by omega))⟩ hP hS (lv_sub hl [0, 1, 2, 3] rfl)
set_option maxHeartbeats 4000000 in
set_option maxRecDepth 100000 in
theorem law_case_2 {p : Program} {e : Env} {s : State} {m : MethodId} {below : List Frame} {meth : Method} {c : Code} (l : Launch) {b L : Nat} {xs : Nat → Int32} {D : va_G} {cI cL : ClassId} {ad zz : Nat → Nat} (C0 : lw_At p s m meth c b L xs) (hJ : jD ad) (hA : ∀ q, jA ad q → s.heap.size ≤ q) (hK : jK D cI cL s) (hZ : jZ zz (fun q : Nat => s.heap.size ≤ q) s s.heap) {x0 : Int32} (hx0 : 0 ≤ x0.toInt) (hxL : x0.toInt + 6 ≤ (L : Int)) (hL : L ≤ 384) {σ : Nat → Nat → Int32} {τ : Nat → Nat → Int64} {H : Heap} {locs : List Loc} (hS : va_S (fun q : Nat => s.heap.size ≤ q) s.heap H locs) {ls : Array Slot} (hAll : jAll σ τ) (hP : jH D cI cL ad σ τ H) (hl : lv_has ls 4 [(3, .int x0), (2, .ref (ad 55)), (1, .ref (ad 0)), (0, .ref b)]) (ih : ∀ (x1 : Int32) (σ : Nat → Nat → Int32) (τ : Nat → Nat → Int64) (H : Heap) (locs : List Loc) (ls : Array Slot), x1.toInt = x0.toInt + 6 → jAll σ τ → jH D cI cL ad σ τ H → va_S (fun q : Nat => s.heap.size ≤ q) s.heap H locs → lv_has ls 4 [(3, .int x1), (2, .ref (ad 55)), (1, .ref (ad 0)), (0, .ref b)] → W p l e room_1 s m #[Value.ref b] below meth c H locs 90 348600 (lw_Z below #[Value.ref b] s) (F0 m 18 ls [])) : W p l e room_1 s m #[Value.ref b] below meth c H locs 90 348600 (lw_Z below #[Value.ref b] s) (F0 m 282 ls []) := by
  obtain ⟨hx, hb, hr, hml, hown, hts0, hX, hbl, hlocks, hgv⟩ := C0
  have hts : ∀ w ∈ wsL_law, w.before #[Value.ref b] s = true := fun w h => hts0 w (wsL_law_in w h)
  have hbA : ¬ (fun q : Nat => s.heap.size ≤ q) b := Nat.not_le.mpr hbl
  have hown : s.vm.findClass RL = some m.cls := hown
  obtain ⟨hI2, hI9, hI12, hI16, hI18, hI22, hI31, hI38, hI43, hI47, hI50, hI101, hI102, hI103, hI104, hI105, hI106, hI107, hI109, hI110, hI111, hI119, hs_jKept, hs_jBook, ht0, hr0⟩ := hAll
  have hL9 : (L : Int) ≤ 384 := by omega
  obtain ⟨i1, w2, w3⟩ : (0 ≤ (σ 9 0).toInt ∧ (σ 9 0).toInt ≤ 80) ∧ (∀ k : Nat, k < 80 → 0 ≤ (σ 10 k).toInt ∧ (σ 10 k).toInt ≤ 255) ∧ (∀ k : Nat, k < 8 → 0 ≤ (σ 11 k).toInt ∧ (σ 11 k).toInt ≤ 3) := id hI9
  obtain ⟨i4, w5⟩ : (0 ≤ (σ 55 15).toInt ∧ (σ 55 15).toInt ≤ 80) ∧ (∀ k : Nat, k < 2 → (-1) ≤ (σ 65 k).toInt ∧ (σ 65 k).toInt ≤ 80) := id hI105
  refine lv_aload_n hx hb dL_law_282 rfl (lv_at hl 2 rfl) ?_
  refine lv_aload_n hx hb dL_law_283 rfl (lv_at hl 3 rfl) ?_
  refine lv_iload_n hx hb dL_law_284 rfl (lv_at hl 0 rfl) ?_
  refine lv_iconst (v := 1) hx hb dL_law_285 (of_decide_eq_true rfl) ?_
  have g6 := jrg (rfl : x0.toInt = x0.toInt)
  refine lv_iadd hx hb dL_law_286 ?_
  refine lv_topi (fun x7 ex7 => ?_)
  exact by
   have tx7 : x7.toInt = x0.toInt + 1 := (jadd ex7 rfl jz_1 (by omega) (by omega)).trans (by omega)
   refine va_sld hx hb hX hbl hbA hS (jin tx7 (by omega) (by omega)) dL_law_287 ?_
   have g8 := jrg (rfl : (xs x7.toNatClampNeg).toInt = (xs x7.toNatClampNeg).toInt)
   refine lv_aload_n hx hb dL_law_288 rfl (lv_at hl 3 rfl) ?_
   refine lv_iload_n hx hb dL_law_289 rfl (lv_at hl 0 rfl) ?_
   refine lv_iconst (v := 2) hx hb dL_law_290 (of_decide_eq_true rfl) ?_
   refine lv_iadd hx hb dL_law_291 ?_
   refine lv_topi (fun x9 ex9 => ?_)
   have tx9 : x9.toInt = x0.toInt + 2 := (jadd ex9 rfl jz_2 (by omega) (by omega)).trans (by omega)
   exact by
    refine va_sld hx hb hX hbl hbA hS (jin tx9 (by omega) (by omega)) dL_law_292 ?_
    have g10 := jrg (rfl : (xs x9.toNatClampNeg).toInt = (xs x9.toNatClampNeg).toInt)
    refine lv_aload_n hx hb dL_law_293 rfl (lv_at hl 3 rfl) ?_
    refine lv_iload_n hx hb dL_law_294 rfl (lv_at hl 0 rfl) ?_
    refine lv_iconst (v := 3) hx hb dL_law_295 (of_decide_eq_true rfl) ?_
    refine lv_iadd hx hb dL_law_296 ?_
    refine lv_topi (fun x11 ex11 => ?_)
    have tx11 : x11.toInt = x0.toInt + 3 := (jadd ex11 rfl jz_3 (by omega) (by omega)).trans (by omega)
    refine va_sld hx hb hX hbl hbA hS (jin tx11 (by omega) (by omega)) dL_law_297 ?_
    exact by
     have g12 := jrg (rfl : (xs x11.toNatClampNeg).toInt = (xs x11.toNatClampNeg).toInt)
     refine jcallV (As := [.int (xs x7.toNatClampNeg), .int (xs x9.toNatClampNeg), .int (xs x11.toNatClampNeg)]) (rest := []) ⟨hx, hb, hml, hown, hts⟩ hK hP hA hS hZ (c_X11_field l D cI cL ad zz hJ σ τ (xs x7.toNatClampNeg) ((xs x7.toNatClampNeg).toInt) rfl (xs x9.toNatClampNeg) ((xs x9.toNatClampNeg).toInt) rfl (xs x11.toNatClampNeg) ((xs x11.toNatClampNeg).toInt) rfl hI2) cw_RL_22 (jc_0 cI cL ad σ τ) rfl ⟨Nat.le_of_ble_eq_true rfl, Nat.le_of_ble_eq_true rfl⟩ rfl rfl rfl hl.1 rfl (Nat.le_of_ble_eq_true rfl) dL_law_298 ⟨Nat.le_of_ble_eq_true rfl, Nat.le_of_ble_eq_true rfl⟩ (fun r14 σ13 τ13 H locs h13 hP hS => ?_)
     obtain ⟨rfl, f15, f16, I17, h13⟩ := h13
     rcases h13 with h19 | h20
     · obtain ⟨q25, k21, k22, k23, k24⟩ := h19
       have q25 := q25.symm
       subst q25
       refine lv_pop hx hb dL_law_301 rfl ?_
       refine lv_aload_n hx hb dL_law_302 rfl (lv_at hl 1 rfl) ?_
       refine lv_aload_n hx hb dL_law_303 rfl (lv_at hl 3 rfl) ?_
       refine lv_iload_n hx hb dL_law_304 rfl (lv_at hl 0 rfl) ?_
       refine lv_iconst (v := 1) hx hb dL_law_305 (of_decide_eq_true rfl) ?_
       refine lv_iadd hx hb dL_law_306 ?_
       refine jtopr ex7.symm ?_
       exact by
        refine va_sld hx hb hX hbl hbA hS (jin tx7 (by omega) (by omega)) dL_law_307 ?_
        refine lv_aload_n hx hb dL_law_308 rfl (lv_at hl 3 rfl) ?_
        refine lv_iload_n hx hb dL_law_309 rfl (lv_at hl 0 rfl) ?_
        refine lv_iconst (v := 2) hx hb dL_law_310 (of_decide_eq_true rfl) ?_
        refine lv_iadd hx hb dL_law_311 ?_
        refine jtopr ex9.symm ?_
        refine va_sld hx hb hX hbl hbA hS (jin tx9 (by omega) (by omega)) dL_law_312 ?_
        refine lv_aload_n hx hb dL_law_313 rfl (lv_at hl 3 rfl) ?_
        refine lv_iload_n hx hb dL_law_314 rfl (lv_at hl 0 rfl) ?_
        exact by
         refine lv_iconst (v := 3) hx hb dL_law_315 (of_decide_eq_true rfl) ?_
         refine lv_iadd hx hb dL_law_316 ?_
         refine jtopr ex11.symm ?_
         refine va_sld hx hb hX hbl hbA hS (jin tx11 (by omega) (by omega)) dL_law_317 ?_
         have I26 : jI101 σ13 := jI101_fr (congrFun (f15 55 (of_decide_eq_true rfl)) 4) (congrFun (f15 55 (of_decide_eq_true rfl)) 5) (f15 56 (of_decide_eq_true rfl)) (f15 57 (of_decide_eq_true rfl)) (f15 58 (of_decide_eq_true rfl)) (f15 59 (of_decide_eq_true rfl)) hI101
         have z27 : (σ13 55 5).toInt = (σ 55 5).toInt := (congrArg Int32.toInt (show σ13 55 5 = (σ 55 5) from (congrFun (f15 55 (of_decide_eq_true rfl)) 5)))
         have z28 : (σ13 55 4).toInt = (σ 55 4).toInt := (congrArg Int32.toInt (show σ13 55 4 = (σ 55 4) from (congrFun (f15 55 (of_decide_eq_true rfl)) 4)))
         refine jcallV (As := [.int (xs x7.toNatClampNeg), .int (xs x9.toNatClampNeg), .int (xs x11.toNatClampNeg)]) (rest := []) ⟨hx, hb, hml, hown, hts⟩ hK hP hA hS hZ (c_X12_field l D cI cL ad zz hJ σ13 τ (xs x7.toNatClampNeg) ((xs x7.toNatClampNeg).toInt) rfl (xs x9.toNatClampNeg) ((xs x9.toNatClampNeg).toInt) rfl (xs x11.toNatClampNeg) ((xs x11.toNatClampNeg).toInt) rfl I26) cw_RL_25 (jc_55 cI cL ad σ13 τ) rfl ⟨Nat.le_of_ble_eq_true rfl, Nat.le_of_ble_eq_true rfl⟩ rfl rfl rfl hl.1 rfl (Nat.le_of_ble_eq_true rfl) dL_law_318 ⟨Nat.le_of_ble_eq_true rfl, Nat.le_of_ble_eq_true rfl⟩ (fun r30 σ29 τ29 H locs h29 hP hS => ?_)
         obtain ⟨rfl, f31, f32, I33, h29⟩ := h29
         exact by
          rcases h29 with h35 | h36
          · obtain ⟨q41, k37, k38, k39, k40⟩ := h35
            have q41 := q41.symm
            subst q41
            refine lv_pop hx hb dL_law_321 rfl ?_
            refine lv_goto (tgt := 1357) hx hb dL_law_322 (of_decide_eq_true rfl) ?_
            obtain ⟨x42, ex42⟩ : ∃ y : Int32, y = x0 + 6 := ⟨_, rfl⟩
            have tx42 : x42.toInt = x0.toInt + 6 := (jadd ex42 rfl jz_6 (by omega) (by omega)).trans (by omega)
            refine lv_iinc (v := x42) (lv' := [(3, .int x42), (2, .ref (ad 55)), (1, .ref (ad 0)), (0, .ref b)]) hx hb dL_law_1357 hl (k := 0) rfl (by rw [ex42]; rfl) (of_decide_eq_true rfl) rfl (fun ls hl => ?_)
            exact by
             refine lv_goto (tgt := 18) hx hb dL_law_1360 (of_decide_eq_true rfl) ?_
             have I43 : jI2 σ29 := jI2_fr (congrFun (f31 2 (of_decide_eq_true rfl)) 0) (congrFun (f31 2 (of_decide_eq_true rfl)) 1) (congrFun (f31 2 (of_decide_eq_true rfl)) 2) (congrFun (f31 2 (of_decide_eq_true rfl)) 3) (f31 6 (of_decide_eq_true rfl)) I17
             have I44 : jI9 σ29 := jI9_fr ((congrFun (f31 9 (of_decide_eq_true rfl)) 0).trans (congrFun (f15 9 (of_decide_eq_true rfl)) 0)) ((f31 10 (of_decide_eq_true rfl)).trans (f15 10 (of_decide_eq_true rfl))) ((f31 11 (of_decide_eq_true rfl)).trans (f15 11 (of_decide_eq_true rfl))) hI9
             have I45 : jI12 σ29 := jI12_fr ((congrFun (f31 12 (of_decide_eq_true rfl)) 0).trans (congrFun (f15 12 (of_decide_eq_true rfl)) 0)) ((f31 13 (of_decide_eq_true rfl)).trans (f15 13 (of_decide_eq_true rfl))) hI12
             have I46 : jI16 σ29 := jI16_fr ((congrFun (f31 16 (of_decide_eq_true rfl)) 0).trans (congrFun (f15 16 (of_decide_eq_true rfl)) 0)) ((congrFun (f31 16 (of_decide_eq_true rfl)) 1).trans (congrFun (f15 16 (of_decide_eq_true rfl)) 1)) ((congrFun (f31 16 (of_decide_eq_true rfl)) 2).trans (congrFun (f15 16 (of_decide_eq_true rfl)) 2)) ((f31 17 (of_decide_eq_true rfl)).trans (f15 17 (of_decide_eq_true rfl))) hI16
             have I47 : jI18 σ29 := jI18_fr ((congrFun (f31 18 (of_decide_eq_true rfl)) 0).trans (congrFun (f15 18 (of_decide_eq_true rfl)) 0)) ((f31 19 (of_decide_eq_true rfl)).trans (f15 19 (of_decide_eq_true rfl))) hI18
             have I48 : jI22 σ29 := jI22_fr ((congrFun (f31 22 (of_decide_eq_true rfl)) 0).trans (congrFun (f15 22 (of_decide_eq_true rfl)) 0)) ((f31 23 (of_decide_eq_true rfl)).trans (f15 23 (of_decide_eq_true rfl))) hI22
             have I49 : jI31 σ29 := jI31_fr ((congrFun (f31 31 (of_decide_eq_true rfl)) 8).trans (congrFun (f15 31 (of_decide_eq_true rfl)) 8)) ((f31 33 (of_decide_eq_true rfl)).trans (f15 33 (of_decide_eq_true rfl))) ((f31 36 (of_decide_eq_true rfl)).trans (f15 36 (of_decide_eq_true rfl))) hI31
             have I50 : jI38 σ29 := jI38_fr ((congrFun (f31 38 (of_decide_eq_true rfl)) 0).trans (congrFun (f15 38 (of_decide_eq_true rfl)) 0)) ((congrFun (f31 38 (of_decide_eq_true rfl)) 1).trans (congrFun (f15 38 (of_decide_eq_true rfl)) 1)) ((f31 39 (of_decide_eq_true rfl)).trans (f15 39 (of_decide_eq_true rfl))) hI38
             have I51 : jI43 σ29 := jI43_fr ((congrFun (f31 43 (of_decide_eq_true rfl)) 8).trans (congrFun (f15 43 (of_decide_eq_true rfl)) 8)) hI43
             have I52 : jI47 σ29 := jI47_fr ((congrFun (f31 47 (of_decide_eq_true rfl)) 0).trans (congrFun (f15 47 (of_decide_eq_true rfl)) 0)) ((f31 48 (of_decide_eq_true rfl)).trans (f15 48 (of_decide_eq_true rfl))) ((f31 49 (of_decide_eq_true rfl)).trans (f15 49 (of_decide_eq_true rfl))) hI47
             have I53 : jI50 σ29 := jI50_fr ((f31 52 (of_decide_eq_true rfl)).trans (f15 52 (of_decide_eq_true rfl))) hI50
             have I54 : jI102 σ29 := jI102_fr ((f32 6 (of_decide_eq_true rfl)).trans (congrFun (f15 55 (of_decide_eq_true rfl)) 6)) ((f31 60 (of_decide_eq_true rfl)).trans (f15 60 (of_decide_eq_true rfl))) ((f31 61 (of_decide_eq_true rfl)).trans (f15 61 (of_decide_eq_true rfl))) hI102
             have I55 : jI103 σ29 := jI103_fr ((f32 9 (of_decide_eq_true rfl)).trans (congrFun (f15 55 (of_decide_eq_true rfl)) 9)) hI103
             have I56 : jI104 σ29 := jI104_fr ((f32 10 (of_decide_eq_true rfl)).trans (congrFun (f15 55 (of_decide_eq_true rfl)) 10)) ((f32 12 (of_decide_eq_true rfl)).trans (congrFun (f15 55 (of_decide_eq_true rfl)) 12)) ((f32 13 (of_decide_eq_true rfl)).trans (congrFun (f15 55 (of_decide_eq_true rfl)) 13)) ((f31 62 (of_decide_eq_true rfl)).trans (f15 62 (of_decide_eq_true rfl))) ((f31 67 (of_decide_eq_true rfl)).trans (f15 67 (of_decide_eq_true rfl))) hI104
             have I57 : jI105 σ29 := jI105_fr ((f32 15 (of_decide_eq_true rfl)).trans (congrFun (f15 55 (of_decide_eq_true rfl)) 15)) ((f31 65 (of_decide_eq_true rfl)).trans (f15 65 (of_decide_eq_true rfl))) hI105
             have I58 : jI106 σ29 := jI106_fr ((f32 32 (of_decide_eq_true rfl)).trans (congrFun (f15 55 (of_decide_eq_true rfl)) 32)) ((f31 70 (of_decide_eq_true rfl)).trans (f15 70 (of_decide_eq_true rfl))) ((f31 71 (of_decide_eq_true rfl)).trans (f15 71 (of_decide_eq_true rfl))) ((f31 72 (of_decide_eq_true rfl)).trans (f15 72 (of_decide_eq_true rfl))) hI106
             have I59 : jI107 σ29 := jI107_fr ((f32 12 (of_decide_eq_true rfl)).trans (congrFun (f15 55 (of_decide_eq_true rfl)) 12)) ((f32 47 (of_decide_eq_true rfl)).trans (congrFun (f15 55 (of_decide_eq_true rfl)) 47)) ((f31 80 (of_decide_eq_true rfl)).trans (f15 80 (of_decide_eq_true rfl))) hI107
             have I60 : jI109 σ29 := jI109_fr ((f32 50 (of_decide_eq_true rfl)).trans (congrFun (f15 55 (of_decide_eq_true rfl)) 50)) hI109
             have I61 : jI110 σ29 := jI110_fr ((f31 86 (of_decide_eq_true rfl)).trans (f15 86 (of_decide_eq_true rfl))) ((f31 87 (of_decide_eq_true rfl)).trans (f15 87 (of_decide_eq_true rfl))) hI110
             have I62 : jI111 σ29 := jI111_fr ((f31 79 (of_decide_eq_true rfl)).trans (f15 79 (of_decide_eq_true rfl))) hI111
             have I63 : jI119 σ29 := jI119_fr ((f31 68 (of_decide_eq_true rfl)).trans (f15 68 (of_decide_eq_true rfl))) hI119
             have p64 : jKept σ29 := jKept.fr ((f31 75 (of_decide_eq_true rfl)).trans (f15 75 (of_decide_eq_true rfl))) ((f31 76 (of_decide_eq_true rfl)).trans (f15 76 (of_decide_eq_true rfl))) ((f31 77 (of_decide_eq_true rfl)).trans (f15 77 (of_decide_eq_true rfl))) hs_jKept
             have p65 : jBook σ29 := jBook.fr ((f32 47 (of_decide_eq_true rfl)).trans (congrFun (f15 55 (of_decide_eq_true rfl)) 47)) ((f32 10 (of_decide_eq_true rfl)).trans (congrFun (f15 55 (of_decide_eq_true rfl)) 10)) ((f31 81 (of_decide_eq_true rfl)).trans (f15 81 (of_decide_eq_true rfl))) hs_jBook
             have z66 : (σ29 9 0).toInt = (σ 9 0).toInt := (congrArg Int32.toInt (show σ29 9 0 = (σ 9 0) from ((congrFun (f31 9 (of_decide_eq_true rfl)) 0).trans (congrFun (f15 9 (of_decide_eq_true rfl)) 0))))
             have z67 : (σ29 55 15).toInt = (σ 55 15).toInt := (congrArg Int32.toInt (show σ29 55 15 = (σ 55 15) from ((f32 15 (of_decide_eq_true rfl)).trans (congrFun (f15 55 (of_decide_eq_true rfl)) 15))))
             exact by exact ih x42 σ29 τ _ _ ls (by have h9 := tx42; omega) ⟨I43, I44, I45, I46, I47, I48, I49, I50, I51, I52, I53, I33, I54, I55, I56, I57, I58, I59, I60, I61, I62, I63, p64, p65, (by omega), (show jTp (σ29 10) (σ29 63) (σ29 55 15).toInt by rw [show σ29 10 = σ 10 from ((f31 10 (of_decide_eq_true rfl)).trans (f15 10 (of_decide_eq_true rfl))), show σ29 63 = σ 63 from ((f31 63 (of_decide_eq_true rfl)).trans (f15 63 (of_decide_eq_true rfl)))]; exact hr0.le (by omega))⟩ hP hS (lv_sub hl [0, 1, 2, 3] rfl)
          · obtain ⟨q69, k68⟩ := h36
            refine lv_pop hx hb dL_law_321 rfl ?_
            refine lv_goto (tgt := 1357) hx hb dL_law_322 (of_decide_eq_true rfl) ?_
            obtain ⟨x70, ex70⟩ : ∃ y : Int32, y = x0 + 6 := ⟨_, rfl⟩
            exact by
             have tx70 : x70.toInt = x0.toInt + 6 := (jadd ex70 rfl jz_6 (by omega) (by omega)).trans (by omega)
             refine lv_iinc (v := x70) (lv' := [(3, .int x70), (2, .ref (ad 55)), (1, .ref (ad 0)), (0, .ref b)]) hx hb dL_law_1357 hl (k := 0) rfl (by rw [ex70]; rfl) (of_decide_eq_true rfl) rfl (fun ls hl => ?_)
             refine lv_goto (tgt := 18) hx hb dL_law_1360 (of_decide_eq_true rfl) ?_
             have I71 : jI2 σ29 := jI2_fr (congrFun (f31 2 (of_decide_eq_true rfl)) 0) (congrFun (f31 2 (of_decide_eq_true rfl)) 1) (congrFun (f31 2 (of_decide_eq_true rfl)) 2) (congrFun (f31 2 (of_decide_eq_true rfl)) 3) (f31 6 (of_decide_eq_true rfl)) I17
             have I72 : jI9 σ29 := jI9_fr ((congrFun (f31 9 (of_decide_eq_true rfl)) 0).trans (congrFun (f15 9 (of_decide_eq_true rfl)) 0)) ((f31 10 (of_decide_eq_true rfl)).trans (f15 10 (of_decide_eq_true rfl))) ((f31 11 (of_decide_eq_true rfl)).trans (f15 11 (of_decide_eq_true rfl))) hI9
             have I73 : jI12 σ29 := jI12_fr ((congrFun (f31 12 (of_decide_eq_true rfl)) 0).trans (congrFun (f15 12 (of_decide_eq_true rfl)) 0)) ((f31 13 (of_decide_eq_true rfl)).trans (f15 13 (of_decide_eq_true rfl))) hI12
             have I74 : jI16 σ29 := jI16_fr ((congrFun (f31 16 (of_decide_eq_true rfl)) 0).trans (congrFun (f15 16 (of_decide_eq_true rfl)) 0)) ((congrFun (f31 16 (of_decide_eq_true rfl)) 1).trans (congrFun (f15 16 (of_decide_eq_true rfl)) 1)) ((congrFun (f31 16 (of_decide_eq_true rfl)) 2).trans (congrFun (f15 16 (of_decide_eq_true rfl)) 2)) ((f31 17 (of_decide_eq_true rfl)).trans (f15 17 (of_decide_eq_true rfl))) hI16
             have I75 : jI18 σ29 := jI18_fr ((congrFun (f31 18 (of_decide_eq_true rfl)) 0).trans (congrFun (f15 18 (of_decide_eq_true rfl)) 0)) ((f31 19 (of_decide_eq_true rfl)).trans (f15 19 (of_decide_eq_true rfl))) hI18
             have I76 : jI22 σ29 := jI22_fr ((congrFun (f31 22 (of_decide_eq_true rfl)) 0).trans (congrFun (f15 22 (of_decide_eq_true rfl)) 0)) ((f31 23 (of_decide_eq_true rfl)).trans (f15 23 (of_decide_eq_true rfl))) hI22
             exact by
              have I77 : jI31 σ29 := jI31_fr ((congrFun (f31 31 (of_decide_eq_true rfl)) 8).trans (congrFun (f15 31 (of_decide_eq_true rfl)) 8)) ((f31 33 (of_decide_eq_true rfl)).trans (f15 33 (of_decide_eq_true rfl))) ((f31 36 (of_decide_eq_true rfl)).trans (f15 36 (of_decide_eq_true rfl))) hI31
              have I78 : jI38 σ29 := jI38_fr ((congrFun (f31 38 (of_decide_eq_true rfl)) 0).trans (congrFun (f15 38 (of_decide_eq_true rfl)) 0)) ((congrFun (f31 38 (of_decide_eq_true rfl)) 1).trans (congrFun (f15 38 (of_decide_eq_true rfl)) 1)) ((f31 39 (of_decide_eq_true rfl)).trans (f15 39 (of_decide_eq_true rfl))) hI38
              have I79 : jI43 σ29 := jI43_fr ((congrFun (f31 43 (of_decide_eq_true rfl)) 8).trans (congrFun (f15 43 (of_decide_eq_true rfl)) 8)) hI43
              have I80 : jI47 σ29 := jI47_fr ((congrFun (f31 47 (of_decide_eq_true rfl)) 0).trans (congrFun (f15 47 (of_decide_eq_true rfl)) 0)) ((f31 48 (of_decide_eq_true rfl)).trans (f15 48 (of_decide_eq_true rfl))) ((f31 49 (of_decide_eq_true rfl)).trans (f15 49 (of_decide_eq_true rfl))) hI47
              have I81 : jI50 σ29 := jI50_fr ((f31 52 (of_decide_eq_true rfl)).trans (f15 52 (of_decide_eq_true rfl))) hI50
              have I82 : jI102 σ29 := jI102_fr ((f32 6 (of_decide_eq_true rfl)).trans (congrFun (f15 55 (of_decide_eq_true rfl)) 6)) ((f31 60 (of_decide_eq_true rfl)).trans (f15 60 (of_decide_eq_true rfl))) ((f31 61 (of_decide_eq_true rfl)).trans (f15 61 (of_decide_eq_true rfl))) hI102
              have I83 : jI103 σ29 := jI103_fr ((f32 9 (of_decide_eq_true rfl)).trans (congrFun (f15 55 (of_decide_eq_true rfl)) 9)) hI103
              have I84 : jI104 σ29 := jI104_fr ((f32 10 (of_decide_eq_true rfl)).trans (congrFun (f15 55 (of_decide_eq_true rfl)) 10)) ((f32 12 (of_decide_eq_true rfl)).trans (congrFun (f15 55 (of_decide_eq_true rfl)) 12)) ((f32 13 (of_decide_eq_true rfl)).trans (congrFun (f15 55 (of_decide_eq_true rfl)) 13)) ((f31 62 (of_decide_eq_true rfl)).trans (f15 62 (of_decide_eq_true rfl))) ((f31 67 (of_decide_eq_true rfl)).trans (f15 67 (of_decide_eq_true rfl))) hI104
              have I85 : jI105 σ29 := jI105_fr ((f32 15 (of_decide_eq_true rfl)).trans (congrFun (f15 55 (of_decide_eq_true rfl)) 15)) ((f31 65 (of_decide_eq_true rfl)).trans (f15 65 (of_decide_eq_true rfl))) hI105
              have I86 : jI106 σ29 := jI106_fr ((f32 32 (of_decide_eq_true rfl)).trans (congrFun (f15 55 (of_decide_eq_true rfl)) 32)) ((f31 70 (of_decide_eq_true rfl)).trans (f15 70 (of_decide_eq_true rfl))) ((f31 71 (of_decide_eq_true rfl)).trans (f15 71 (of_decide_eq_true rfl))) ((f31 72 (of_decide_eq_true rfl)).trans (f15 72 (of_decide_eq_true rfl))) hI106
              have I87 : jI107 σ29 := jI107_fr ((f32 12 (of_decide_eq_true rfl)).trans (congrFun (f15 55 (of_decide_eq_true rfl)) 12)) ((f32 47 (of_decide_eq_true rfl)).trans (congrFun (f15 55 (of_decide_eq_true rfl)) 47)) ((f31 80 (of_decide_eq_true rfl)).trans (f15 80 (of_decide_eq_true rfl))) hI107
              have I88 : jI109 σ29 := jI109_fr ((f32 50 (of_decide_eq_true rfl)).trans (congrFun (f15 55 (of_decide_eq_true rfl)) 50)) hI109
              have I89 : jI110 σ29 := jI110_fr ((f31 86 (of_decide_eq_true rfl)).trans (f15 86 (of_decide_eq_true rfl))) ((f31 87 (of_decide_eq_true rfl)).trans (f15 87 (of_decide_eq_true rfl))) hI110
              have I90 : jI111 σ29 := jI111_fr ((f31 79 (of_decide_eq_true rfl)).trans (f15 79 (of_decide_eq_true rfl))) hI111
              have I91 : jI119 σ29 := jI119_fr ((f31 68 (of_decide_eq_true rfl)).trans (f15 68 (of_decide_eq_true rfl))) hI119
              have p92 : jKept σ29 := jKept.fr ((f31 75 (of_decide_eq_true rfl)).trans (f15 75 (of_decide_eq_true rfl))) ((f31 76 (of_decide_eq_true rfl)).trans (f15 76 (of_decide_eq_true rfl))) ((f31 77 (of_decide_eq_true rfl)).trans (f15 77 (of_decide_eq_true rfl))) hs_jKept
              have p93 : jBook σ29 := jBook.fr ((f32 47 (of_decide_eq_true rfl)).trans (congrFun (f15 55 (of_decide_eq_true rfl)) 47)) ((f32 10 (of_decide_eq_true rfl)).trans (congrFun (f15 55 (of_decide_eq_true rfl)) 10)) ((f31 81 (of_decide_eq_true rfl)).trans (f15 81 (of_decide_eq_true rfl))) hs_jBook
              have z94 : (σ29 9 0).toInt = (σ 9 0).toInt := (congrArg Int32.toInt (show σ29 9 0 = (σ 9 0) from ((congrFun (f31 9 (of_decide_eq_true rfl)) 0).trans (congrFun (f15 9 (of_decide_eq_true rfl)) 0))))
              have z95 : (σ29 55 15).toInt = (σ 55 15).toInt := (congrArg Int32.toInt (show σ29 55 15 = (σ 55 15) from ((f32 15 (of_decide_eq_true rfl)).trans (congrFun (f15 55 (of_decide_eq_true rfl)) 15))))
              exact by exact ih x70 σ29 τ _ _ ls (by have h9 := tx70; omega) ⟨I71, I72, I73, I74, I75, I76, I77, I78, I79, I80, I81, I33, I82, I83, I84, I85, I86, I87, I88, I89, I90, I91, p92, p93, (by omega), (show jTp (σ29 10) (σ29 63) (σ29 55 15).toInt by rw [show σ29 10 = σ 10 from ((f31 10 (of_decide_eq_true rfl)).trans (f15 10 (of_decide_eq_true rfl))), show σ29 63 = σ 63 from ((f31 63 (of_decide_eq_true rfl)).trans (f15 63 (of_decide_eq_true rfl)))]; exact hr0.le (by omega))⟩ hP hS (lv_sub hl [0, 1, 2, 3] rfl)
     · obtain ⟨q97, k96⟩ := h20
       refine lv_pop hx hb dL_law_301 rfl ?_
       refine lv_aload_n hx hb dL_law_302 rfl (lv_at hl 1 rfl) ?_
       refine lv_aload_n hx hb dL_law_303 rfl (lv_at hl 3 rfl) ?_
       refine lv_iload_n hx hb dL_law_304 rfl (lv_at hl 0 rfl) ?_
       refine lv_iconst (v := 1) hx hb dL_law_305 (of_decide_eq_true rfl) ?_
       refine lv_iadd hx hb dL_law_306 ?_
       refine jtopr ex7.symm ?_
       exact by
        refine va_sld hx hb hX hbl hbA hS (jin tx7 (by omega) (by omega)) dL_law_307 ?_
        refine lv_aload_n hx hb dL_law_308 rfl (lv_at hl 3 rfl) ?_
        refine lv_iload_n hx hb dL_law_309 rfl (lv_at hl 0 rfl) ?_
        refine lv_iconst (v := 2) hx hb dL_law_310 (of_decide_eq_true rfl) ?_
        refine lv_iadd hx hb dL_law_311 ?_
        refine jtopr ex9.symm ?_
        refine va_sld hx hb hX hbl hbA hS (jin tx9 (by omega) (by omega)) dL_law_312 ?_
        refine lv_aload_n hx hb dL_law_313 rfl (lv_at hl 3 rfl) ?_
        refine lv_iload_n hx hb dL_law_314 rfl (lv_at hl 0 rfl) ?_
        exact by
         refine lv_iconst (v := 3) hx hb dL_law_315 (of_decide_eq_true rfl) ?_
         refine lv_iadd hx hb dL_law_316 ?_
         refine jtopr ex11.symm ?_
         refine va_sld hx hb hX hbl hbA hS (jin tx11 (by omega) (by omega)) dL_law_317 ?_
         have I98 : jI101 σ13 := jI101_fr (congrFun (f15 55 (of_decide_eq_true rfl)) 4) (congrFun (f15 55 (of_decide_eq_true rfl)) 5) (f15 56 (of_decide_eq_true rfl)) (f15 57 (of_decide_eq_true rfl)) (f15 58 (of_decide_eq_true rfl)) (f15 59 (of_decide_eq_true rfl)) hI101
         have z99 : (σ13 55 5).toInt = (σ 55 5).toInt := (congrArg Int32.toInt (show σ13 55 5 = (σ 55 5) from (congrFun (f15 55 (of_decide_eq_true rfl)) 5)))
         have z100 : (σ13 55 4).toInt = (σ 55 4).toInt := (congrArg Int32.toInt (show σ13 55 4 = (σ 55 4) from (congrFun (f15 55 (of_decide_eq_true rfl)) 4)))
         refine jcallV (As := [.int (xs x7.toNatClampNeg), .int (xs x9.toNatClampNeg), .int (xs x11.toNatClampNeg)]) (rest := []) ⟨hx, hb, hml, hown, hts⟩ hK hP hA hS hZ (c_X12_field l D cI cL ad zz hJ σ13 τ (xs x7.toNatClampNeg) ((xs x7.toNatClampNeg).toInt) rfl (xs x9.toNatClampNeg) ((xs x9.toNatClampNeg).toInt) rfl (xs x11.toNatClampNeg) ((xs x11.toNatClampNeg).toInt) rfl I98) cw_RL_25 (jc_55 cI cL ad σ13 τ) rfl ⟨Nat.le_of_ble_eq_true rfl, Nat.le_of_ble_eq_true rfl⟩ rfl rfl rfl hl.1 rfl (Nat.le_of_ble_eq_true rfl) dL_law_318 ⟨Nat.le_of_ble_eq_true rfl, Nat.le_of_ble_eq_true rfl⟩ (fun r102 σ101 τ101 H locs h101 hP hS => ?_)
         obtain ⟨rfl, f103, f104, I105, h101⟩ := h101
         exact by
          rcases h101 with h107 | h108
          · obtain ⟨q113, k109, k110, k111, k112⟩ := h107
            have q113 := q113.symm
            subst q113
            refine lv_pop hx hb dL_law_321 rfl ?_
            refine lv_goto (tgt := 1357) hx hb dL_law_322 (of_decide_eq_true rfl) ?_
            obtain ⟨x114, ex114⟩ : ∃ y : Int32, y = x0 + 6 := ⟨_, rfl⟩
            have tx114 : x114.toInt = x0.toInt + 6 := (jadd ex114 rfl jz_6 (by omega) (by omega)).trans (by omega)
            refine lv_iinc (v := x114) (lv' := [(3, .int x114), (2, .ref (ad 55)), (1, .ref (ad 0)), (0, .ref b)]) hx hb dL_law_1357 hl (k := 0) rfl (by rw [ex114]; rfl) (of_decide_eq_true rfl) rfl (fun ls hl => ?_)
            exact by
             refine lv_goto (tgt := 18) hx hb dL_law_1360 (of_decide_eq_true rfl) ?_
             have I115 : jI2 σ101 := jI2_fr (congrFun (f103 2 (of_decide_eq_true rfl)) 0) (congrFun (f103 2 (of_decide_eq_true rfl)) 1) (congrFun (f103 2 (of_decide_eq_true rfl)) 2) (congrFun (f103 2 (of_decide_eq_true rfl)) 3) (f103 6 (of_decide_eq_true rfl)) I17
             have I116 : jI9 σ101 := jI9_fr ((congrFun (f103 9 (of_decide_eq_true rfl)) 0).trans (congrFun (f15 9 (of_decide_eq_true rfl)) 0)) ((f103 10 (of_decide_eq_true rfl)).trans (f15 10 (of_decide_eq_true rfl))) ((f103 11 (of_decide_eq_true rfl)).trans (f15 11 (of_decide_eq_true rfl))) hI9
             have I117 : jI12 σ101 := jI12_fr ((congrFun (f103 12 (of_decide_eq_true rfl)) 0).trans (congrFun (f15 12 (of_decide_eq_true rfl)) 0)) ((f103 13 (of_decide_eq_true rfl)).trans (f15 13 (of_decide_eq_true rfl))) hI12
             have I118 : jI16 σ101 := jI16_fr ((congrFun (f103 16 (of_decide_eq_true rfl)) 0).trans (congrFun (f15 16 (of_decide_eq_true rfl)) 0)) ((congrFun (f103 16 (of_decide_eq_true rfl)) 1).trans (congrFun (f15 16 (of_decide_eq_true rfl)) 1)) ((congrFun (f103 16 (of_decide_eq_true rfl)) 2).trans (congrFun (f15 16 (of_decide_eq_true rfl)) 2)) ((f103 17 (of_decide_eq_true rfl)).trans (f15 17 (of_decide_eq_true rfl))) hI16
             have I119 : jI18 σ101 := jI18_fr ((congrFun (f103 18 (of_decide_eq_true rfl)) 0).trans (congrFun (f15 18 (of_decide_eq_true rfl)) 0)) ((f103 19 (of_decide_eq_true rfl)).trans (f15 19 (of_decide_eq_true rfl))) hI18
             have I120 : jI22 σ101 := jI22_fr ((congrFun (f103 22 (of_decide_eq_true rfl)) 0).trans (congrFun (f15 22 (of_decide_eq_true rfl)) 0)) ((f103 23 (of_decide_eq_true rfl)).trans (f15 23 (of_decide_eq_true rfl))) hI22
             have I121 : jI31 σ101 := jI31_fr ((congrFun (f103 31 (of_decide_eq_true rfl)) 8).trans (congrFun (f15 31 (of_decide_eq_true rfl)) 8)) ((f103 33 (of_decide_eq_true rfl)).trans (f15 33 (of_decide_eq_true rfl))) ((f103 36 (of_decide_eq_true rfl)).trans (f15 36 (of_decide_eq_true rfl))) hI31
             have I122 : jI38 σ101 := jI38_fr ((congrFun (f103 38 (of_decide_eq_true rfl)) 0).trans (congrFun (f15 38 (of_decide_eq_true rfl)) 0)) ((congrFun (f103 38 (of_decide_eq_true rfl)) 1).trans (congrFun (f15 38 (of_decide_eq_true rfl)) 1)) ((f103 39 (of_decide_eq_true rfl)).trans (f15 39 (of_decide_eq_true rfl))) hI38
             have I123 : jI43 σ101 := jI43_fr ((congrFun (f103 43 (of_decide_eq_true rfl)) 8).trans (congrFun (f15 43 (of_decide_eq_true rfl)) 8)) hI43
             have I124 : jI47 σ101 := jI47_fr ((congrFun (f103 47 (of_decide_eq_true rfl)) 0).trans (congrFun (f15 47 (of_decide_eq_true rfl)) 0)) ((f103 48 (of_decide_eq_true rfl)).trans (f15 48 (of_decide_eq_true rfl))) ((f103 49 (of_decide_eq_true rfl)).trans (f15 49 (of_decide_eq_true rfl))) hI47
             have I125 : jI50 σ101 := jI50_fr ((f103 52 (of_decide_eq_true rfl)).trans (f15 52 (of_decide_eq_true rfl))) hI50
             have I126 : jI102 σ101 := jI102_fr ((f104 6 (of_decide_eq_true rfl)).trans (congrFun (f15 55 (of_decide_eq_true rfl)) 6)) ((f103 60 (of_decide_eq_true rfl)).trans (f15 60 (of_decide_eq_true rfl))) ((f103 61 (of_decide_eq_true rfl)).trans (f15 61 (of_decide_eq_true rfl))) hI102
             have I127 : jI103 σ101 := jI103_fr ((f104 9 (of_decide_eq_true rfl)).trans (congrFun (f15 55 (of_decide_eq_true rfl)) 9)) hI103
             have I128 : jI104 σ101 := jI104_fr ((f104 10 (of_decide_eq_true rfl)).trans (congrFun (f15 55 (of_decide_eq_true rfl)) 10)) ((f104 12 (of_decide_eq_true rfl)).trans (congrFun (f15 55 (of_decide_eq_true rfl)) 12)) ((f104 13 (of_decide_eq_true rfl)).trans (congrFun (f15 55 (of_decide_eq_true rfl)) 13)) ((f103 62 (of_decide_eq_true rfl)).trans (f15 62 (of_decide_eq_true rfl))) ((f103 67 (of_decide_eq_true rfl)).trans (f15 67 (of_decide_eq_true rfl))) hI104
             have I129 : jI105 σ101 := jI105_fr ((f104 15 (of_decide_eq_true rfl)).trans (congrFun (f15 55 (of_decide_eq_true rfl)) 15)) ((f103 65 (of_decide_eq_true rfl)).trans (f15 65 (of_decide_eq_true rfl))) hI105
             have I130 : jI106 σ101 := jI106_fr ((f104 32 (of_decide_eq_true rfl)).trans (congrFun (f15 55 (of_decide_eq_true rfl)) 32)) ((f103 70 (of_decide_eq_true rfl)).trans (f15 70 (of_decide_eq_true rfl))) ((f103 71 (of_decide_eq_true rfl)).trans (f15 71 (of_decide_eq_true rfl))) ((f103 72 (of_decide_eq_true rfl)).trans (f15 72 (of_decide_eq_true rfl))) hI106
             have I131 : jI107 σ101 := jI107_fr ((f104 12 (of_decide_eq_true rfl)).trans (congrFun (f15 55 (of_decide_eq_true rfl)) 12)) ((f104 47 (of_decide_eq_true rfl)).trans (congrFun (f15 55 (of_decide_eq_true rfl)) 47)) ((f103 80 (of_decide_eq_true rfl)).trans (f15 80 (of_decide_eq_true rfl))) hI107
             have I132 : jI109 σ101 := jI109_fr ((f104 50 (of_decide_eq_true rfl)).trans (congrFun (f15 55 (of_decide_eq_true rfl)) 50)) hI109
             have I133 : jI110 σ101 := jI110_fr ((f103 86 (of_decide_eq_true rfl)).trans (f15 86 (of_decide_eq_true rfl))) ((f103 87 (of_decide_eq_true rfl)).trans (f15 87 (of_decide_eq_true rfl))) hI110
             have I134 : jI111 σ101 := jI111_fr ((f103 79 (of_decide_eq_true rfl)).trans (f15 79 (of_decide_eq_true rfl))) hI111
             have I135 : jI119 σ101 := jI119_fr ((f103 68 (of_decide_eq_true rfl)).trans (f15 68 (of_decide_eq_true rfl))) hI119
             have p136 : jKept σ101 := jKept.fr ((f103 75 (of_decide_eq_true rfl)).trans (f15 75 (of_decide_eq_true rfl))) ((f103 76 (of_decide_eq_true rfl)).trans (f15 76 (of_decide_eq_true rfl))) ((f103 77 (of_decide_eq_true rfl)).trans (f15 77 (of_decide_eq_true rfl))) hs_jKept
             have p137 : jBook σ101 := jBook.fr ((f104 47 (of_decide_eq_true rfl)).trans (congrFun (f15 55 (of_decide_eq_true rfl)) 47)) ((f104 10 (of_decide_eq_true rfl)).trans (congrFun (f15 55 (of_decide_eq_true rfl)) 10)) ((f103 81 (of_decide_eq_true rfl)).trans (f15 81 (of_decide_eq_true rfl))) hs_jBook
             have z138 : (σ101 9 0).toInt = (σ 9 0).toInt := (congrArg Int32.toInt (show σ101 9 0 = (σ 9 0) from ((congrFun (f103 9 (of_decide_eq_true rfl)) 0).trans (congrFun (f15 9 (of_decide_eq_true rfl)) 0))))
             have z139 : (σ101 55 15).toInt = (σ 55 15).toInt := (congrArg Int32.toInt (show σ101 55 15 = (σ 55 15) from ((f104 15 (of_decide_eq_true rfl)).trans (congrFun (f15 55 (of_decide_eq_true rfl)) 15))))
             exact by exact ih x114 σ101 τ _ _ ls (by have h9 := tx114; omega) ⟨I115, I116, I117, I118, I119, I120, I121, I122, I123, I124, I125, I105, I126, I127, I128, I129, I130, I131, I132, I133, I134, I135, p136, p137, (by omega), (show jTp (σ101 10) (σ101 63) (σ101 55 15).toInt by rw [show σ101 10 = σ 10 from ((f103 10 (of_decide_eq_true rfl)).trans (f15 10 (of_decide_eq_true rfl))), show σ101 63 = σ 63 from ((f103 63 (of_decide_eq_true rfl)).trans (f15 63 (of_decide_eq_true rfl)))]; exact hr0.le (by omega))⟩ hP hS (lv_sub hl [0, 1, 2, 3] rfl)
          · obtain ⟨q141, k140⟩ := h108
            refine lv_pop hx hb dL_law_321 rfl ?_
            refine lv_goto (tgt := 1357) hx hb dL_law_322 (of_decide_eq_true rfl) ?_
            obtain ⟨x142, ex142⟩ : ∃ y : Int32, y = x0 + 6 := ⟨_, rfl⟩
            exact by
             have tx142 : x142.toInt = x0.toInt + 6 := (jadd ex142 rfl jz_6 (by omega) (by omega)).trans (by omega)
             refine lv_iinc (v := x142) (lv' := [(3, .int x142), (2, .ref (ad 55)), (1, .ref (ad 0)), (0, .ref b)]) hx hb dL_law_1357 hl (k := 0) rfl (by rw [ex142]; rfl) (of_decide_eq_true rfl) rfl (fun ls hl => ?_)
             refine lv_goto (tgt := 18) hx hb dL_law_1360 (of_decide_eq_true rfl) ?_
             have I143 : jI2 σ101 := jI2_fr (congrFun (f103 2 (of_decide_eq_true rfl)) 0) (congrFun (f103 2 (of_decide_eq_true rfl)) 1) (congrFun (f103 2 (of_decide_eq_true rfl)) 2) (congrFun (f103 2 (of_decide_eq_true rfl)) 3) (f103 6 (of_decide_eq_true rfl)) I17
             have I144 : jI9 σ101 := jI9_fr ((congrFun (f103 9 (of_decide_eq_true rfl)) 0).trans (congrFun (f15 9 (of_decide_eq_true rfl)) 0)) ((f103 10 (of_decide_eq_true rfl)).trans (f15 10 (of_decide_eq_true rfl))) ((f103 11 (of_decide_eq_true rfl)).trans (f15 11 (of_decide_eq_true rfl))) hI9
             have I145 : jI12 σ101 := jI12_fr ((congrFun (f103 12 (of_decide_eq_true rfl)) 0).trans (congrFun (f15 12 (of_decide_eq_true rfl)) 0)) ((f103 13 (of_decide_eq_true rfl)).trans (f15 13 (of_decide_eq_true rfl))) hI12
             have I146 : jI16 σ101 := jI16_fr ((congrFun (f103 16 (of_decide_eq_true rfl)) 0).trans (congrFun (f15 16 (of_decide_eq_true rfl)) 0)) ((congrFun (f103 16 (of_decide_eq_true rfl)) 1).trans (congrFun (f15 16 (of_decide_eq_true rfl)) 1)) ((congrFun (f103 16 (of_decide_eq_true rfl)) 2).trans (congrFun (f15 16 (of_decide_eq_true rfl)) 2)) ((f103 17 (of_decide_eq_true rfl)).trans (f15 17 (of_decide_eq_true rfl))) hI16
             have I147 : jI18 σ101 := jI18_fr ((congrFun (f103 18 (of_decide_eq_true rfl)) 0).trans (congrFun (f15 18 (of_decide_eq_true rfl)) 0)) ((f103 19 (of_decide_eq_true rfl)).trans (f15 19 (of_decide_eq_true rfl))) hI18
             have I148 : jI22 σ101 := jI22_fr ((congrFun (f103 22 (of_decide_eq_true rfl)) 0).trans (congrFun (f15 22 (of_decide_eq_true rfl)) 0)) ((f103 23 (of_decide_eq_true rfl)).trans (f15 23 (of_decide_eq_true rfl))) hI22
             exact by
              have I149 : jI31 σ101 := jI31_fr ((congrFun (f103 31 (of_decide_eq_true rfl)) 8).trans (congrFun (f15 31 (of_decide_eq_true rfl)) 8)) ((f103 33 (of_decide_eq_true rfl)).trans (f15 33 (of_decide_eq_true rfl))) ((f103 36 (of_decide_eq_true rfl)).trans (f15 36 (of_decide_eq_true rfl))) hI31
              have I150 : jI38 σ101 := jI38_fr ((congrFun (f103 38 (of_decide_eq_true rfl)) 0).trans (congrFun (f15 38 (of_decide_eq_true rfl)) 0)) ((congrFun (f103 38 (of_decide_eq_true rfl)) 1).trans (congrFun (f15 38 (of_decide_eq_true rfl)) 1)) ((f103 39 (of_decide_eq_true rfl)).trans (f15 39 (of_decide_eq_true rfl))) hI38
              have I151 : jI43 σ101 := jI43_fr ((congrFun (f103 43 (of_decide_eq_true rfl)) 8).trans (congrFun (f15 43 (of_decide_eq_true rfl)) 8)) hI43
              have I152 : jI47 σ101 := jI47_fr ((congrFun (f103 47 (of_decide_eq_true rfl)) 0).trans (congrFun (f15 47 (of_decide_eq_true rfl)) 0)) ((f103 48 (of_decide_eq_true rfl)).trans (f15 48 (of_decide_eq_true rfl))) ((f103 49 (of_decide_eq_true rfl)).trans (f15 49 (of_decide_eq_true rfl))) hI47
              have I153 : jI50 σ101 := jI50_fr ((f103 52 (of_decide_eq_true rfl)).trans (f15 52 (of_decide_eq_true rfl))) hI50
              have I154 : jI102 σ101 := jI102_fr ((f104 6 (of_decide_eq_true rfl)).trans (congrFun (f15 55 (of_decide_eq_true rfl)) 6)) ((f103 60 (of_decide_eq_true rfl)).trans (f15 60 (of_decide_eq_true rfl))) ((f103 61 (of_decide_eq_true rfl)).trans (f15 61 (of_decide_eq_true rfl))) hI102
              have I155 : jI103 σ101 := jI103_fr ((f104 9 (of_decide_eq_true rfl)).trans (congrFun (f15 55 (of_decide_eq_true rfl)) 9)) hI103
              have I156 : jI104 σ101 := jI104_fr ((f104 10 (of_decide_eq_true rfl)).trans (congrFun (f15 55 (of_decide_eq_true rfl)) 10)) ((f104 12 (of_decide_eq_true rfl)).trans (congrFun (f15 55 (of_decide_eq_true rfl)) 12)) ((f104 13 (of_decide_eq_true rfl)).trans (congrFun (f15 55 (of_decide_eq_true rfl)) 13)) ((f103 62 (of_decide_eq_true rfl)).trans (f15 62 (of_decide_eq_true rfl))) ((f103 67 (of_decide_eq_true rfl)).trans (f15 67 (of_decide_eq_true rfl))) hI104
              have I157 : jI105 σ101 := jI105_fr ((f104 15 (of_decide_eq_true rfl)).trans (congrFun (f15 55 (of_decide_eq_true rfl)) 15)) ((f103 65 (of_decide_eq_true rfl)).trans (f15 65 (of_decide_eq_true rfl))) hI105
              have I158 : jI106 σ101 := jI106_fr ((f104 32 (of_decide_eq_true rfl)).trans (congrFun (f15 55 (of_decide_eq_true rfl)) 32)) ((f103 70 (of_decide_eq_true rfl)).trans (f15 70 (of_decide_eq_true rfl))) ((f103 71 (of_decide_eq_true rfl)).trans (f15 71 (of_decide_eq_true rfl))) ((f103 72 (of_decide_eq_true rfl)).trans (f15 72 (of_decide_eq_true rfl))) hI106
              have I159 : jI107 σ101 := jI107_fr ((f104 12 (of_decide_eq_true rfl)).trans (congrFun (f15 55 (of_decide_eq_true rfl)) 12)) ((f104 47 (of_decide_eq_true rfl)).trans (congrFun (f15 55 (of_decide_eq_true rfl)) 47)) ((f103 80 (of_decide_eq_true rfl)).trans (f15 80 (of_decide_eq_true rfl))) hI107
              have I160 : jI109 σ101 := jI109_fr ((f104 50 (of_decide_eq_true rfl)).trans (congrFun (f15 55 (of_decide_eq_true rfl)) 50)) hI109
              have I161 : jI110 σ101 := jI110_fr ((f103 86 (of_decide_eq_true rfl)).trans (f15 86 (of_decide_eq_true rfl))) ((f103 87 (of_decide_eq_true rfl)).trans (f15 87 (of_decide_eq_true rfl))) hI110
              have I162 : jI111 σ101 := jI111_fr ((f103 79 (of_decide_eq_true rfl)).trans (f15 79 (of_decide_eq_true rfl))) hI111
              have I163 : jI119 σ101 := jI119_fr ((f103 68 (of_decide_eq_true rfl)).trans (f15 68 (of_decide_eq_true rfl))) hI119
              have p164 : jKept σ101 := jKept.fr ((f103 75 (of_decide_eq_true rfl)).trans (f15 75 (of_decide_eq_true rfl))) ((f103 76 (of_decide_eq_true rfl)).trans (f15 76 (of_decide_eq_true rfl))) ((f103 77 (of_decide_eq_true rfl)).trans (f15 77 (of_decide_eq_true rfl))) hs_jKept
              have p165 : jBook σ101 := jBook.fr ((f104 47 (of_decide_eq_true rfl)).trans (congrFun (f15 55 (of_decide_eq_true rfl)) 47)) ((f104 10 (of_decide_eq_true rfl)).trans (congrFun (f15 55 (of_decide_eq_true rfl)) 10)) ((f103 81 (of_decide_eq_true rfl)).trans (f15 81 (of_decide_eq_true rfl))) hs_jBook
              have z166 : (σ101 9 0).toInt = (σ 9 0).toInt := (congrArg Int32.toInt (show σ101 9 0 = (σ 9 0) from ((congrFun (f103 9 (of_decide_eq_true rfl)) 0).trans (congrFun (f15 9 (of_decide_eq_true rfl)) 0))))
              have z167 : (σ101 55 15).toInt = (σ 55 15).toInt := (congrArg Int32.toInt (show σ101 55 15 = (σ 55 15) from ((f104 15 (of_decide_eq_true rfl)).trans (congrFun (f15 55 (of_decide_eq_true rfl)) 15))))
              exact by exact ih x142 σ101 τ _ _ ls (by have h9 := tx142; omega) ⟨I143, I144, I145, I146, I147, I148, I149, I150, I151, I152, I153, I105, I154, I155, I156, I157, I158, I159, I160, I161, I162, I163, p164, p165, (by omega), (show jTp (σ101 10) (σ101 63) (σ101 55 15).toInt by rw [show σ101 10 = σ 10 from ((f103 10 (of_decide_eq_true rfl)).trans (f15 10 (of_decide_eq_true rfl))), show σ101 63 = σ 63 from ((f103 63 (of_decide_eq_true rfl)).trans (f15 63 (of_decide_eq_true rfl)))]; exact hr0.le (by omega))⟩ hP hS (lv_sub hl [0, 1, 2, 3] rfl)
set_option maxHeartbeats 4000000 in
set_option maxRecDepth 100000 in
theorem law_case_3 {p : Program} {e : Env} {s : State} {m : MethodId} {below : List Frame} {meth : Method} {c : Code} (l : Launch) {b L : Nat} {xs : Nat → Int32} {D : va_G} {cI cL : ClassId} {ad zz : Nat → Nat} (C0 : lw_At p s m meth c b L xs) (hJ : jD ad) (hA : ∀ q, jA ad q → s.heap.size ≤ q) (hK : jK D cI cL s) (hZ : jZ zz (fun q : Nat => s.heap.size ≤ q) s s.heap) {x0 : Int32} (hx0 : 0 ≤ x0.toInt) (hxL : x0.toInt + 6 ≤ (L : Int)) (hL : L ≤ 384) {σ : Nat → Nat → Int32} {τ : Nat → Nat → Int64} {H : Heap} {locs : List Loc} (hS : va_S (fun q : Nat => s.heap.size ≤ q) s.heap H locs) {ls : Array Slot} (hAll : jAll σ τ) (hP : jH D cI cL ad σ τ H) (hl : lv_has ls 4 [(3, .int x0), (2, .ref (ad 55)), (1, .ref (ad 0)), (0, .ref b)]) (ih : ∀ (x1 : Int32) (σ : Nat → Nat → Int32) (τ : Nat → Nat → Int64) (H : Heap) (locs : List Loc) (ls : Array Slot), x1.toInt = x0.toInt + 6 → jAll σ τ → jH D cI cL ad σ τ H → va_S (fun q : Nat => s.heap.size ≤ q) s.heap H locs → lv_has ls 4 [(3, .int x1), (2, .ref (ad 55)), (1, .ref (ad 0)), (0, .ref b)] → W p l e room_1 s m #[Value.ref b] below meth c H locs 90 348600 (lw_Z below #[Value.ref b] s) (F0 m 18 ls [])) : W p l e room_1 s m #[Value.ref b] below meth c H locs 90 348600 (lw_Z below #[Value.ref b] s) (F0 m 325 ls []) := by
  obtain ⟨hx, hb, hr, hml, hown, hts0, hX, hbl, hlocks, hgv⟩ := C0
  have hts : ∀ w ∈ wsL_law, w.before #[Value.ref b] s = true := fun w h => hts0 w (wsL_law_in w h)
  have hbA : ¬ (fun q : Nat => s.heap.size ≤ q) b := Nat.not_le.mpr hbl
  have hown : s.vm.findClass RL = some m.cls := hown
  obtain ⟨hI2, hI9, hI12, hI16, hI18, hI22, hI31, hI38, hI43, hI47, hI50, hI101, hI102, hI103, hI104, hI105, hI106, hI107, hI109, hI110, hI111, hI119, hs_jKept, hs_jBook, ht0, hr0⟩ := hAll
  have hL9 : (L : Int) ≤ 384 := by omega
  obtain ⟨i1, w2, w3⟩ : (0 ≤ (σ 9 0).toInt ∧ (σ 9 0).toInt ≤ 80) ∧ (∀ k : Nat, k < 80 → 0 ≤ (σ 10 k).toInt ∧ (σ 10 k).toInt ≤ 255) ∧ (∀ k : Nat, k < 8 → 0 ≤ (σ 11 k).toInt ∧ (σ 11 k).toInt ≤ 3) := id hI9
  obtain ⟨i4, w5⟩ : (0 ≤ (σ 55 15).toInt ∧ (σ 55 15).toInt ≤ 80) ∧ (∀ k : Nat, k < 2 → (-1) ≤ (σ 65 k).toInt ∧ (σ 65 k).toInt ≤ 80) := id hI105
  refine lv_aload_n hx hb dL_law_325 rfl (lv_at hl 2 rfl) ?_
  refine lv_aload_n hx hb dL_law_326 rfl (lv_at hl 3 rfl) ?_
  refine lv_iload_n hx hb dL_law_327 rfl (lv_at hl 0 rfl) ?_
  refine lv_iconst (v := 1) hx hb dL_law_328 (of_decide_eq_true rfl) ?_
  have g6 := jrg (rfl : x0.toInt = x0.toInt)
  refine lv_iadd hx hb dL_law_329 ?_
  refine lv_topi (fun x7 ex7 => ?_)
  exact by
   have tx7 : x7.toInt = x0.toInt + 1 := (jadd ex7 rfl jz_1 (by omega) (by omega)).trans (by omega)
   refine va_sld hx hb hX hbl hbA hS (jin tx7 (by omega) (by omega)) dL_law_330 ?_
   have g8 := jrg (rfl : (xs x7.toNatClampNeg).toInt = (xs x7.toNatClampNeg).toInt)
   refine jcallV (As := [.int (xs x7.toNatClampNeg)]) (rest := []) ⟨hx, hb, hml, hown, hts⟩ hK hP hA hS hZ (c_X11_set l D cI cL ad zz hJ σ τ (xs x7.toNatClampNeg) ((xs x7.toNatClampNeg).toInt) rfl hI2) cw_RL_26 (jc_0 cI cL ad σ τ) rfl ⟨Nat.le_of_ble_eq_true rfl, Nat.le_of_ble_eq_true rfl⟩ rfl rfl rfl hl.1 rfl (Nat.le_of_ble_eq_true rfl) dL_law_331 ⟨Nat.le_of_ble_eq_true rfl, Nat.le_of_ble_eq_true rfl⟩ (fun r10 σ9 τ9 H locs h9 hP hS => ?_)
   obtain ⟨rfl, f11, f12, I13, h9⟩ := h9
   rcases h9 with h15 | h16
   · obtain ⟨q20, k17, k18, k19⟩ := h15
     refine lv_pop hx hb dL_law_334 rfl ?_
     refine lv_aload_n hx hb dL_law_335 rfl (lv_at hl 1 rfl) ?_
     exact by
      refine lv_aload_n hx hb dL_law_336 rfl (lv_at hl 3 rfl) ?_
      refine lv_iload_n hx hb dL_law_337 rfl (lv_at hl 0 rfl) ?_
      refine lv_iconst (v := 1) hx hb dL_law_338 (of_decide_eq_true rfl) ?_
      refine lv_iadd hx hb dL_law_339 ?_
      refine jtopr ex7.symm ?_
      refine va_sld hx hb hX hbl hbA hS (jin tx7 (by omega) (by omega)) dL_law_340 ?_
      have I21 : jI103 σ9 := jI103_fr (congrFun (f11 55 (of_decide_eq_true rfl)) 9) hI103
      have z22 : (σ9 55 9).toInt = (σ 55 9).toInt := (congrArg Int32.toInt (show σ9 55 9 = (σ 55 9) from (congrFun (f11 55 (of_decide_eq_true rfl)) 9)))
      refine jcallV (As := [.int (xs x7.toNatClampNeg)]) (rest := []) ⟨hx, hb, hml, hown, hts⟩ hK hP hA hS hZ (c_X12_set l D cI cL ad zz hJ σ9 τ (xs x7.toNatClampNeg) ((xs x7.toNatClampNeg).toInt) rfl I21) cw_RL_30 (jc_55 cI cL ad σ9 τ) rfl ⟨Nat.le_of_ble_eq_true rfl, Nat.le_of_ble_eq_true rfl⟩ rfl rfl rfl hl.1 rfl (Nat.le_of_ble_eq_true rfl) dL_law_341 ⟨Nat.le_of_ble_eq_true rfl, Nat.le_of_ble_eq_true rfl⟩ (fun r24 σ23 τ23 H locs h23 hP hS => ?_)
      exact by
       obtain ⟨rfl, f25, f26, I27, h23⟩ := h23
       rcases h23 with h29 | h30
       · obtain ⟨q34, k31, k32, k33⟩ := h29
         refine lv_pop hx hb dL_law_344 rfl ?_
         refine lv_goto (tgt := 1357) hx hb dL_law_345 (of_decide_eq_true rfl) ?_
         obtain ⟨x35, ex35⟩ : ∃ y : Int32, y = x0 + 6 := ⟨_, rfl⟩
         have tx35 : x35.toInt = x0.toInt + 6 := (jadd ex35 rfl jz_6 (by omega) (by omega)).trans (by omega)
         refine lv_iinc (v := x35) (lv' := [(3, .int x35), (2, .ref (ad 55)), (1, .ref (ad 0)), (0, .ref b)]) hx hb dL_law_1357 hl (k := 0) rfl (by rw [ex35]; rfl) (of_decide_eq_true rfl) rfl (fun ls hl => ?_)
         refine lv_goto (tgt := 18) hx hb dL_law_1360 (of_decide_eq_true rfl) ?_
         exact by
          have I36 : jI2 σ23 := jI2_fr (congrFun (f25 2 (of_decide_eq_true rfl)) 0) (congrFun (f25 2 (of_decide_eq_true rfl)) 1) (congrFun (f25 2 (of_decide_eq_true rfl)) 2) (congrFun (f25 2 (of_decide_eq_true rfl)) 3) (f25 6 (of_decide_eq_true rfl)) I13
          have I37 : jI9 σ23 := jI9_fr ((congrFun (f25 9 (of_decide_eq_true rfl)) 0).trans (congrFun (f11 9 (of_decide_eq_true rfl)) 0)) ((f25 10 (of_decide_eq_true rfl)).trans (f11 10 (of_decide_eq_true rfl))) ((f25 11 (of_decide_eq_true rfl)).trans (f11 11 (of_decide_eq_true rfl))) hI9
          have I38 : jI12 σ23 := jI12_fr ((congrFun (f25 12 (of_decide_eq_true rfl)) 0).trans (congrFun (f11 12 (of_decide_eq_true rfl)) 0)) ((f25 13 (of_decide_eq_true rfl)).trans (f11 13 (of_decide_eq_true rfl))) hI12
          have I39 : jI16 σ23 := jI16_fr ((congrFun (f25 16 (of_decide_eq_true rfl)) 0).trans (congrFun (f11 16 (of_decide_eq_true rfl)) 0)) ((congrFun (f25 16 (of_decide_eq_true rfl)) 1).trans (congrFun (f11 16 (of_decide_eq_true rfl)) 1)) ((congrFun (f25 16 (of_decide_eq_true rfl)) 2).trans (congrFun (f11 16 (of_decide_eq_true rfl)) 2)) ((f25 17 (of_decide_eq_true rfl)).trans (f11 17 (of_decide_eq_true rfl))) hI16
          have I40 : jI18 σ23 := jI18_fr ((congrFun (f25 18 (of_decide_eq_true rfl)) 0).trans (congrFun (f11 18 (of_decide_eq_true rfl)) 0)) ((f25 19 (of_decide_eq_true rfl)).trans (f11 19 (of_decide_eq_true rfl))) hI18
          have I41 : jI22 σ23 := jI22_fr ((congrFun (f25 22 (of_decide_eq_true rfl)) 0).trans (congrFun (f11 22 (of_decide_eq_true rfl)) 0)) ((f25 23 (of_decide_eq_true rfl)).trans (f11 23 (of_decide_eq_true rfl))) hI22
          have I42 : jI31 σ23 := jI31_fr ((congrFun (f25 31 (of_decide_eq_true rfl)) 8).trans (congrFun (f11 31 (of_decide_eq_true rfl)) 8)) ((f25 33 (of_decide_eq_true rfl)).trans (f11 33 (of_decide_eq_true rfl))) ((f25 36 (of_decide_eq_true rfl)).trans (f11 36 (of_decide_eq_true rfl))) hI31
          have I43 : jI38 σ23 := jI38_fr ((congrFun (f25 38 (of_decide_eq_true rfl)) 0).trans (congrFun (f11 38 (of_decide_eq_true rfl)) 0)) ((congrFun (f25 38 (of_decide_eq_true rfl)) 1).trans (congrFun (f11 38 (of_decide_eq_true rfl)) 1)) ((f25 39 (of_decide_eq_true rfl)).trans (f11 39 (of_decide_eq_true rfl))) hI38
          have I44 : jI43 σ23 := jI43_fr ((congrFun (f25 43 (of_decide_eq_true rfl)) 8).trans (congrFun (f11 43 (of_decide_eq_true rfl)) 8)) hI43
          have I45 : jI47 σ23 := jI47_fr ((congrFun (f25 47 (of_decide_eq_true rfl)) 0).trans (congrFun (f11 47 (of_decide_eq_true rfl)) 0)) ((f25 48 (of_decide_eq_true rfl)).trans (f11 48 (of_decide_eq_true rfl))) ((f25 49 (of_decide_eq_true rfl)).trans (f11 49 (of_decide_eq_true rfl))) hI47
          have I46 : jI50 σ23 := jI50_fr ((f25 52 (of_decide_eq_true rfl)).trans (f11 52 (of_decide_eq_true rfl))) hI50
          have I47 : jI101 σ23 := jI101_fr ((f26 4 (of_decide_eq_true rfl)).trans (congrFun (f11 55 (of_decide_eq_true rfl)) 4)) ((f26 5 (of_decide_eq_true rfl)).trans (congrFun (f11 55 (of_decide_eq_true rfl)) 5)) ((f25 56 (of_decide_eq_true rfl)).trans (f11 56 (of_decide_eq_true rfl))) ((f25 57 (of_decide_eq_true rfl)).trans (f11 57 (of_decide_eq_true rfl))) ((f25 58 (of_decide_eq_true rfl)).trans (f11 58 (of_decide_eq_true rfl))) ((f25 59 (of_decide_eq_true rfl)).trans (f11 59 (of_decide_eq_true rfl))) hI101
          have I48 : jI102 σ23 := jI102_fr ((f26 6 (of_decide_eq_true rfl)).trans (congrFun (f11 55 (of_decide_eq_true rfl)) 6)) ((f25 60 (of_decide_eq_true rfl)).trans (f11 60 (of_decide_eq_true rfl))) ((f25 61 (of_decide_eq_true rfl)).trans (f11 61 (of_decide_eq_true rfl))) hI102
          have I49 : jI104 σ23 := jI104_fr ((f26 10 (of_decide_eq_true rfl)).trans (congrFun (f11 55 (of_decide_eq_true rfl)) 10)) ((f26 12 (of_decide_eq_true rfl)).trans (congrFun (f11 55 (of_decide_eq_true rfl)) 12)) ((f26 13 (of_decide_eq_true rfl)).trans (congrFun (f11 55 (of_decide_eq_true rfl)) 13)) ((f25 62 (of_decide_eq_true rfl)).trans (f11 62 (of_decide_eq_true rfl))) ((f25 67 (of_decide_eq_true rfl)).trans (f11 67 (of_decide_eq_true rfl))) hI104
          have I50 : jI105 σ23 := jI105_fr ((f26 15 (of_decide_eq_true rfl)).trans (congrFun (f11 55 (of_decide_eq_true rfl)) 15)) ((f25 65 (of_decide_eq_true rfl)).trans (f11 65 (of_decide_eq_true rfl))) hI105
          have I51 : jI106 σ23 := jI106_fr ((f26 32 (of_decide_eq_true rfl)).trans (congrFun (f11 55 (of_decide_eq_true rfl)) 32)) ((f25 70 (of_decide_eq_true rfl)).trans (f11 70 (of_decide_eq_true rfl))) ((f25 71 (of_decide_eq_true rfl)).trans (f11 71 (of_decide_eq_true rfl))) ((f25 72 (of_decide_eq_true rfl)).trans (f11 72 (of_decide_eq_true rfl))) hI106
          have I52 : jI107 σ23 := jI107_fr ((f26 12 (of_decide_eq_true rfl)).trans (congrFun (f11 55 (of_decide_eq_true rfl)) 12)) ((f26 47 (of_decide_eq_true rfl)).trans (congrFun (f11 55 (of_decide_eq_true rfl)) 47)) ((f25 80 (of_decide_eq_true rfl)).trans (f11 80 (of_decide_eq_true rfl))) hI107
          have I53 : jI109 σ23 := jI109_fr ((f26 50 (of_decide_eq_true rfl)).trans (congrFun (f11 55 (of_decide_eq_true rfl)) 50)) hI109
          have I54 : jI110 σ23 := jI110_fr ((f25 86 (of_decide_eq_true rfl)).trans (f11 86 (of_decide_eq_true rfl))) ((f25 87 (of_decide_eq_true rfl)).trans (f11 87 (of_decide_eq_true rfl))) hI110
          have I55 : jI111 σ23 := jI111_fr ((f25 79 (of_decide_eq_true rfl)).trans (f11 79 (of_decide_eq_true rfl))) hI111
          have I56 : jI119 σ23 := jI119_fr ((f25 68 (of_decide_eq_true rfl)).trans (f11 68 (of_decide_eq_true rfl))) hI119
          have p57 : jKept σ23 := jKept.fr ((f25 75 (of_decide_eq_true rfl)).trans (f11 75 (of_decide_eq_true rfl))) ((f25 76 (of_decide_eq_true rfl)).trans (f11 76 (of_decide_eq_true rfl))) ((f25 77 (of_decide_eq_true rfl)).trans (f11 77 (of_decide_eq_true rfl))) hs_jKept
          have p58 : jBook σ23 := jBook.fr ((f26 47 (of_decide_eq_true rfl)).trans (congrFun (f11 55 (of_decide_eq_true rfl)) 47)) ((f26 10 (of_decide_eq_true rfl)).trans (congrFun (f11 55 (of_decide_eq_true rfl)) 10)) ((f25 81 (of_decide_eq_true rfl)).trans (f11 81 (of_decide_eq_true rfl))) hs_jBook
          have z59 : (σ23 9 0).toInt = (σ 9 0).toInt := (congrArg Int32.toInt (show σ23 9 0 = (σ 9 0) from ((congrFun (f25 9 (of_decide_eq_true rfl)) 0).trans (congrFun (f11 9 (of_decide_eq_true rfl)) 0))))
          have z60 : (σ23 55 15).toInt = (σ 55 15).toInt := (congrArg Int32.toInt (show σ23 55 15 = (σ 55 15) from ((f26 15 (of_decide_eq_true rfl)).trans (congrFun (f11 55 (of_decide_eq_true rfl)) 15))))
          exact by exact ih x35 σ23 τ _ _ ls (by have h9 := tx35; omega) ⟨I36, I37, I38, I39, I40, I41, I42, I43, I44, I45, I46, I47, I48, I27, I49, I50, I51, I52, I53, I54, I55, I56, p57, p58, (by omega), (show jTp (σ23 10) (σ23 63) (σ23 55 15).toInt by rw [show σ23 10 = σ 10 from ((f25 10 (of_decide_eq_true rfl)).trans (f11 10 (of_decide_eq_true rfl))), show σ23 63 = σ 63 from ((f25 63 (of_decide_eq_true rfl)).trans (f11 63 (of_decide_eq_true rfl)))]; exact hr0.le (by omega))⟩ hP hS (lv_sub hl [0, 1, 2, 3] rfl)
       · obtain ⟨q63, k61, k62⟩ := h30
         exact absurd (by omega : False) id
   · obtain ⟨q66, k64, k65⟩ := h16
     have q66 := q66.symm
     subst q66
     refine lv_pop hx hb dL_law_334 rfl ?_
     refine lv_aload_n hx hb dL_law_335 rfl (lv_at hl 1 rfl) ?_
     refine lv_aload_n hx hb dL_law_336 rfl (lv_at hl 3 rfl) ?_
     refine lv_iload_n hx hb dL_law_337 rfl (lv_at hl 0 rfl) ?_
     refine lv_iconst (v := 1) hx hb dL_law_338 (of_decide_eq_true rfl) ?_
     refine lv_iadd hx hb dL_law_339 ?_
     refine jtopr ex7.symm ?_
     exact by
      refine va_sld hx hb hX hbl hbA hS (jin tx7 (by omega) (by omega)) dL_law_340 ?_
      have I67 : jI103 σ9 := jI103_fr (congrFun (f11 55 (of_decide_eq_true rfl)) 9) hI103
      have z68 : (σ9 55 9).toInt = (σ 55 9).toInt := (congrArg Int32.toInt (show σ9 55 9 = (σ 55 9) from (congrFun (f11 55 (of_decide_eq_true rfl)) 9)))
      refine jcallV (As := [.int (xs x7.toNatClampNeg)]) (rest := []) ⟨hx, hb, hml, hown, hts⟩ hK hP hA hS hZ (c_X12_set l D cI cL ad zz hJ σ9 τ (xs x7.toNatClampNeg) ((xs x7.toNatClampNeg).toInt) rfl I67) cw_RL_30 (jc_55 cI cL ad σ9 τ) rfl ⟨Nat.le_of_ble_eq_true rfl, Nat.le_of_ble_eq_true rfl⟩ rfl rfl rfl hl.1 rfl (Nat.le_of_ble_eq_true rfl) dL_law_341 ⟨Nat.le_of_ble_eq_true rfl, Nat.le_of_ble_eq_true rfl⟩ (fun r70 σ69 τ69 H locs h69 hP hS => ?_)
      obtain ⟨rfl, f71, f72, I73, h69⟩ := h69
      rcases h69 with h75 | h76
      · obtain ⟨q80, k77, k78, k79⟩ := h75
        exact absurd (by omega : False) id
      · obtain ⟨q83, k81, k82⟩ := h76
        have q83 := q83.symm
        subst q83
        refine lv_pop hx hb dL_law_344 rfl ?_
        refine lv_goto (tgt := 1357) hx hb dL_law_345 (of_decide_eq_true rfl) ?_
        obtain ⟨x84, ex84⟩ : ∃ y : Int32, y = x0 + 6 := ⟨_, rfl⟩
        exact by
         have tx84 : x84.toInt = x0.toInt + 6 := (jadd ex84 rfl jz_6 (by omega) (by omega)).trans (by omega)
         refine lv_iinc (v := x84) (lv' := [(3, .int x84), (2, .ref (ad 55)), (1, .ref (ad 0)), (0, .ref b)]) hx hb dL_law_1357 hl (k := 0) rfl (by rw [ex84]; rfl) (of_decide_eq_true rfl) rfl (fun ls hl => ?_)
         refine lv_goto (tgt := 18) hx hb dL_law_1360 (of_decide_eq_true rfl) ?_
         have I85 : jI2 σ69 := jI2_fr (congrFun (f71 2 (of_decide_eq_true rfl)) 0) (congrFun (f71 2 (of_decide_eq_true rfl)) 1) (congrFun (f71 2 (of_decide_eq_true rfl)) 2) (congrFun (f71 2 (of_decide_eq_true rfl)) 3) (f71 6 (of_decide_eq_true rfl)) I13
         have I86 : jI9 σ69 := jI9_fr ((congrFun (f71 9 (of_decide_eq_true rfl)) 0).trans (congrFun (f11 9 (of_decide_eq_true rfl)) 0)) ((f71 10 (of_decide_eq_true rfl)).trans (f11 10 (of_decide_eq_true rfl))) ((f71 11 (of_decide_eq_true rfl)).trans (f11 11 (of_decide_eq_true rfl))) hI9
         have I87 : jI12 σ69 := jI12_fr ((congrFun (f71 12 (of_decide_eq_true rfl)) 0).trans (congrFun (f11 12 (of_decide_eq_true rfl)) 0)) ((f71 13 (of_decide_eq_true rfl)).trans (f11 13 (of_decide_eq_true rfl))) hI12
         have I88 : jI16 σ69 := jI16_fr ((congrFun (f71 16 (of_decide_eq_true rfl)) 0).trans (congrFun (f11 16 (of_decide_eq_true rfl)) 0)) ((congrFun (f71 16 (of_decide_eq_true rfl)) 1).trans (congrFun (f11 16 (of_decide_eq_true rfl)) 1)) ((congrFun (f71 16 (of_decide_eq_true rfl)) 2).trans (congrFun (f11 16 (of_decide_eq_true rfl)) 2)) ((f71 17 (of_decide_eq_true rfl)).trans (f11 17 (of_decide_eq_true rfl))) hI16
         have I89 : jI18 σ69 := jI18_fr ((congrFun (f71 18 (of_decide_eq_true rfl)) 0).trans (congrFun (f11 18 (of_decide_eq_true rfl)) 0)) ((f71 19 (of_decide_eq_true rfl)).trans (f11 19 (of_decide_eq_true rfl))) hI18
         have I90 : jI22 σ69 := jI22_fr ((congrFun (f71 22 (of_decide_eq_true rfl)) 0).trans (congrFun (f11 22 (of_decide_eq_true rfl)) 0)) ((f71 23 (of_decide_eq_true rfl)).trans (f11 23 (of_decide_eq_true rfl))) hI22
         exact by
          have I91 : jI31 σ69 := jI31_fr ((congrFun (f71 31 (of_decide_eq_true rfl)) 8).trans (congrFun (f11 31 (of_decide_eq_true rfl)) 8)) ((f71 33 (of_decide_eq_true rfl)).trans (f11 33 (of_decide_eq_true rfl))) ((f71 36 (of_decide_eq_true rfl)).trans (f11 36 (of_decide_eq_true rfl))) hI31
          have I92 : jI38 σ69 := jI38_fr ((congrFun (f71 38 (of_decide_eq_true rfl)) 0).trans (congrFun (f11 38 (of_decide_eq_true rfl)) 0)) ((congrFun (f71 38 (of_decide_eq_true rfl)) 1).trans (congrFun (f11 38 (of_decide_eq_true rfl)) 1)) ((f71 39 (of_decide_eq_true rfl)).trans (f11 39 (of_decide_eq_true rfl))) hI38
          have I93 : jI43 σ69 := jI43_fr ((congrFun (f71 43 (of_decide_eq_true rfl)) 8).trans (congrFun (f11 43 (of_decide_eq_true rfl)) 8)) hI43
          have I94 : jI47 σ69 := jI47_fr ((congrFun (f71 47 (of_decide_eq_true rfl)) 0).trans (congrFun (f11 47 (of_decide_eq_true rfl)) 0)) ((f71 48 (of_decide_eq_true rfl)).trans (f11 48 (of_decide_eq_true rfl))) ((f71 49 (of_decide_eq_true rfl)).trans (f11 49 (of_decide_eq_true rfl))) hI47
          have I95 : jI50 σ69 := jI50_fr ((f71 52 (of_decide_eq_true rfl)).trans (f11 52 (of_decide_eq_true rfl))) hI50
          have I96 : jI101 σ69 := jI101_fr ((f72 4 (of_decide_eq_true rfl)).trans (congrFun (f11 55 (of_decide_eq_true rfl)) 4)) ((f72 5 (of_decide_eq_true rfl)).trans (congrFun (f11 55 (of_decide_eq_true rfl)) 5)) ((f71 56 (of_decide_eq_true rfl)).trans (f11 56 (of_decide_eq_true rfl))) ((f71 57 (of_decide_eq_true rfl)).trans (f11 57 (of_decide_eq_true rfl))) ((f71 58 (of_decide_eq_true rfl)).trans (f11 58 (of_decide_eq_true rfl))) ((f71 59 (of_decide_eq_true rfl)).trans (f11 59 (of_decide_eq_true rfl))) hI101
          have I97 : jI102 σ69 := jI102_fr ((f72 6 (of_decide_eq_true rfl)).trans (congrFun (f11 55 (of_decide_eq_true rfl)) 6)) ((f71 60 (of_decide_eq_true rfl)).trans (f11 60 (of_decide_eq_true rfl))) ((f71 61 (of_decide_eq_true rfl)).trans (f11 61 (of_decide_eq_true rfl))) hI102
          have I98 : jI104 σ69 := jI104_fr ((f72 10 (of_decide_eq_true rfl)).trans (congrFun (f11 55 (of_decide_eq_true rfl)) 10)) ((f72 12 (of_decide_eq_true rfl)).trans (congrFun (f11 55 (of_decide_eq_true rfl)) 12)) ((f72 13 (of_decide_eq_true rfl)).trans (congrFun (f11 55 (of_decide_eq_true rfl)) 13)) ((f71 62 (of_decide_eq_true rfl)).trans (f11 62 (of_decide_eq_true rfl))) ((f71 67 (of_decide_eq_true rfl)).trans (f11 67 (of_decide_eq_true rfl))) hI104
          have I99 : jI105 σ69 := jI105_fr ((f72 15 (of_decide_eq_true rfl)).trans (congrFun (f11 55 (of_decide_eq_true rfl)) 15)) ((f71 65 (of_decide_eq_true rfl)).trans (f11 65 (of_decide_eq_true rfl))) hI105
          have I100 : jI106 σ69 := jI106_fr ((f72 32 (of_decide_eq_true rfl)).trans (congrFun (f11 55 (of_decide_eq_true rfl)) 32)) ((f71 70 (of_decide_eq_true rfl)).trans (f11 70 (of_decide_eq_true rfl))) ((f71 71 (of_decide_eq_true rfl)).trans (f11 71 (of_decide_eq_true rfl))) ((f71 72 (of_decide_eq_true rfl)).trans (f11 72 (of_decide_eq_true rfl))) hI106
          have I101 : jI107 σ69 := jI107_fr ((f72 12 (of_decide_eq_true rfl)).trans (congrFun (f11 55 (of_decide_eq_true rfl)) 12)) ((f72 47 (of_decide_eq_true rfl)).trans (congrFun (f11 55 (of_decide_eq_true rfl)) 47)) ((f71 80 (of_decide_eq_true rfl)).trans (f11 80 (of_decide_eq_true rfl))) hI107
          have I102 : jI109 σ69 := jI109_fr ((f72 50 (of_decide_eq_true rfl)).trans (congrFun (f11 55 (of_decide_eq_true rfl)) 50)) hI109
          have I103 : jI110 σ69 := jI110_fr ((f71 86 (of_decide_eq_true rfl)).trans (f11 86 (of_decide_eq_true rfl))) ((f71 87 (of_decide_eq_true rfl)).trans (f11 87 (of_decide_eq_true rfl))) hI110
          have I104 : jI111 σ69 := jI111_fr ((f71 79 (of_decide_eq_true rfl)).trans (f11 79 (of_decide_eq_true rfl))) hI111
          have I105 : jI119 σ69 := jI119_fr ((f71 68 (of_decide_eq_true rfl)).trans (f11 68 (of_decide_eq_true rfl))) hI119
          have p106 : jKept σ69 := jKept.fr ((f71 75 (of_decide_eq_true rfl)).trans (f11 75 (of_decide_eq_true rfl))) ((f71 76 (of_decide_eq_true rfl)).trans (f11 76 (of_decide_eq_true rfl))) ((f71 77 (of_decide_eq_true rfl)).trans (f11 77 (of_decide_eq_true rfl))) hs_jKept
          have p107 : jBook σ69 := jBook.fr ((f72 47 (of_decide_eq_true rfl)).trans (congrFun (f11 55 (of_decide_eq_true rfl)) 47)) ((f72 10 (of_decide_eq_true rfl)).trans (congrFun (f11 55 (of_decide_eq_true rfl)) 10)) ((f71 81 (of_decide_eq_true rfl)).trans (f11 81 (of_decide_eq_true rfl))) hs_jBook
          have z108 : (σ69 9 0).toInt = (σ 9 0).toInt := (congrArg Int32.toInt (show σ69 9 0 = (σ 9 0) from ((congrFun (f71 9 (of_decide_eq_true rfl)) 0).trans (congrFun (f11 9 (of_decide_eq_true rfl)) 0))))
          have z109 : (σ69 55 15).toInt = (σ 55 15).toInt := (congrArg Int32.toInt (show σ69 55 15 = (σ 55 15) from ((f72 15 (of_decide_eq_true rfl)).trans (congrFun (f11 55 (of_decide_eq_true rfl)) 15))))
          exact by exact ih x84 σ69 τ _ _ ls (by have h9 := tx84; omega) ⟨I85, I86, I87, I88, I89, I90, I91, I92, I93, I94, I95, I96, I97, I73, I98, I99, I100, I101, I102, I103, I104, I105, p106, p107, (by omega), (show jTp (σ69 10) (σ69 63) (σ69 55 15).toInt by rw [show σ69 10 = σ 10 from ((f71 10 (of_decide_eq_true rfl)).trans (f11 10 (of_decide_eq_true rfl))), show σ69 63 = σ 63 from ((f71 63 (of_decide_eq_true rfl)).trans (f11 63 (of_decide_eq_true rfl)))]; exact hr0.le (by omega))⟩ hP hS (lv_sub hl [0, 1, 2, 3] rfl)
set_option maxHeartbeats 4000000 in
set_option maxRecDepth 100000 in
theorem law_case_4 {p : Program} {e : Env} {s : State} {m : MethodId} {below : List Frame} {meth : Method} {c : Code} (l : Launch) {b L : Nat} {xs : Nat → Int32} {D : va_G} {cI cL : ClassId} {ad zz : Nat → Nat} (C0 : lw_At p s m meth c b L xs) (hJ : jD ad) (hA : ∀ q, jA ad q → s.heap.size ≤ q) (hK : jK D cI cL s) (hZ : jZ zz (fun q : Nat => s.heap.size ≤ q) s s.heap) {x0 : Int32} (hx0 : 0 ≤ x0.toInt) (hxL : x0.toInt + 6 ≤ (L : Int)) (hL : L ≤ 384) {σ : Nat → Nat → Int32} {τ : Nat → Nat → Int64} {H : Heap} {locs : List Loc} (hS : va_S (fun q : Nat => s.heap.size ≤ q) s.heap H locs) {ls : Array Slot} (hAll : jAll σ τ) (hP : jH D cI cL ad σ τ H) (hl : lv_has ls 4 [(3, .int x0), (2, .ref (ad 55)), (1, .ref (ad 0)), (0, .ref b)]) (ih : ∀ (x1 : Int32) (σ : Nat → Nat → Int32) (τ : Nat → Nat → Int64) (H : Heap) (locs : List Loc) (ls : Array Slot), x1.toInt = x0.toInt + 6 → jAll σ τ → jH D cI cL ad σ τ H → va_S (fun q : Nat => s.heap.size ≤ q) s.heap H locs → lv_has ls 4 [(3, .int x1), (2, .ref (ad 55)), (1, .ref (ad 0)), (0, .ref b)] → W p l e room_1 s m #[Value.ref b] below meth c H locs 90 348600 (lw_Z below #[Value.ref b] s) (F0 m 18 ls [])) : W p l e room_1 s m #[Value.ref b] below meth c H locs 90 348600 (lw_Z below #[Value.ref b] s) (F0 m 348 ls []) := by
  obtain ⟨hx, hb, hr, hml, hown, hts0, hX, hbl, hlocks, hgv⟩ := C0
  have hts : ∀ w ∈ wsL_law, w.before #[Value.ref b] s = true := fun w h => hts0 w (wsL_law_in w h)
  have hbA : ¬ (fun q : Nat => s.heap.size ≤ q) b := Nat.not_le.mpr hbl
  have hown : s.vm.findClass RL = some m.cls := hown
  obtain ⟨hI2, hI9, hI12, hI16, hI18, hI22, hI31, hI38, hI43, hI47, hI50, hI101, hI102, hI103, hI104, hI105, hI106, hI107, hI109, hI110, hI111, hI119, hs_jKept, hs_jBook, ht0, hr0⟩ := hAll
  have hL9 : (L : Int) ≤ 384 := by omega
  obtain ⟨i1, w2, w3⟩ : (0 ≤ (σ 9 0).toInt ∧ (σ 9 0).toInt ≤ 80) ∧ (∀ k : Nat, k < 80 → 0 ≤ (σ 10 k).toInt ∧ (σ 10 k).toInt ≤ 255) ∧ (∀ k : Nat, k < 8 → 0 ≤ (σ 11 k).toInt ∧ (σ 11 k).toInt ≤ 3) := id hI9
  obtain ⟨i4, w5⟩ : (0 ≤ (σ 55 15).toInt ∧ (σ 55 15).toInt ≤ 80) ∧ (∀ k : Nat, k < 2 → (-1) ≤ (σ 65 k).toInt ∧ (σ 65 k).toInt ≤ 80) := id hI105
  refine lv_aload_n hx hb dL_law_348 rfl (lv_at hl 2 rfl) ?_
  refine lv_aload_n hx hb dL_law_349 rfl (lv_at hl 3 rfl) ?_
  refine lv_iload_n hx hb dL_law_350 rfl (lv_at hl 0 rfl) ?_
  refine lv_iconst (v := 1) hx hb dL_law_351 (of_decide_eq_true rfl) ?_
  have g6 := jrg (rfl : x0.toInt = x0.toInt)
  refine lv_iadd hx hb dL_law_352 ?_
  refine lv_topi (fun x7 ex7 => ?_)
  exact by
   have tx7 : x7.toInt = x0.toInt + 1 := (jadd ex7 rfl jz_1 (by omega) (by omega)).trans (by omega)
   refine va_sld hx hb hX hbl hbA hS (jin tx7 (by omega) (by omega)) dL_law_353 ?_
   have g8 := jrg (rfl : (xs x7.toNatClampNeg).toInt = (xs x7.toNatClampNeg).toInt)
   refine lv_aload_n hx hb dL_law_354 rfl (lv_at hl 3 rfl) ?_
   refine lv_iload_n hx hb dL_law_355 rfl (lv_at hl 0 rfl) ?_
   refine lv_iconst (v := 2) hx hb dL_law_356 (of_decide_eq_true rfl) ?_
   refine lv_iadd hx hb dL_law_357 ?_
   refine lv_topi (fun x9 ex9 => ?_)
   have tx9 : x9.toInt = x0.toInt + 2 := (jadd ex9 rfl jz_2 (by omega) (by omega)).trans (by omega)
   exact by
    refine va_sld hx hb hX hbl hbA hS (jin tx9 (by omega) (by omega)) dL_law_358 ?_
    have g10 := jrg (rfl : (xs x9.toNatClampNeg).toInt = (xs x9.toNatClampNeg).toInt)
    refine jcallV (As := [.int (xs x7.toNatClampNeg), .int (xs x9.toNatClampNeg)]) (rest := []) ⟨hx, hb, hml, hown, hts⟩ hK hP hA hS hZ (c_X11_feed l D cI cL ad zz hJ σ τ (xs x7.toNatClampNeg) ((xs x7.toNatClampNeg).toInt) rfl (xs x9.toNatClampNeg) ((xs x9.toNatClampNeg).toInt) rfl hI9) cw_RL_31 (jc_0 cI cL ad σ τ) rfl ⟨Nat.le_of_ble_eq_true rfl, Nat.le_of_ble_eq_true rfl⟩ rfl rfl rfl hl.1 rfl (Nat.le_of_ble_eq_true rfl) dL_law_359 ⟨Nat.le_of_ble_eq_true rfl, Nat.le_of_ble_eq_true rfl⟩ (fun r12 σ11 τ11 H locs h11 hP hS => ?_)
    obtain ⟨rfl, f13, f14, I15, h11⟩ := h11
    obtain ⟨i17, w18, w19⟩ : (0 ≤ (σ11 9 0).toInt ∧ (σ11 9 0).toInt ≤ 80) ∧ (∀ k : Nat, k < 80 → 0 ≤ (σ11 10 k).toInt ∧ (σ11 10 k).toInt ≤ 255) ∧ (∀ k : Nat, k < 8 → 0 ≤ (σ11 11 k).toInt ∧ (σ11 11 k).toInt ≤ 3) := id I15
    rcases h11 with h20 | h21 | h22
    · obtain ⟨q26, k23, k24, k25⟩ := h20
      have q26 := q26.symm
      subst q26
      refine lv_pop hx hb dL_law_362 rfl ?_
      refine lv_aload_n hx hb dL_law_363 rfl (lv_at hl 1 rfl) ?_
      refine lv_aload_n hx hb dL_law_364 rfl (lv_at hl 3 rfl) ?_
      refine lv_iload_n hx hb dL_law_365 rfl (lv_at hl 0 rfl) ?_
      refine lv_iconst (v := 1) hx hb dL_law_366 (of_decide_eq_true rfl) ?_
      refine lv_iadd hx hb dL_law_367 ?_
      refine jtopr ex7.symm ?_
      exact by
       refine va_sld hx hb hX hbl hbA hS (jin tx7 (by omega) (by omega)) dL_law_368 ?_
       refine lv_aload_n hx hb dL_law_369 rfl (lv_at hl 3 rfl) ?_
       refine lv_iload_n hx hb dL_law_370 rfl (lv_at hl 0 rfl) ?_
       refine lv_iconst (v := 2) hx hb dL_law_371 (of_decide_eq_true rfl) ?_
       refine lv_iadd hx hb dL_law_372 ?_
       refine jtopr ex9.symm ?_
       refine va_sld hx hb hX hbl hbA hS (jin tx9 (by omega) (by omega)) dL_law_373 ?_
       have I27 : jI105 σ11 := jI105_fr (congrFun (f13 55 (of_decide_eq_true rfl)) 15) (f13 65 (of_decide_eq_true rfl)) hI105
       have z28 : (σ11 55 15).toInt = (σ 55 15).toInt := (congrArg Int32.toInt (show σ11 55 15 = (σ 55 15) from (congrFun (f13 55 (of_decide_eq_true rfl)) 15)))
       exact by
        refine jcallV (As := [.int (xs x7.toNatClampNeg), .int (xs x9.toNatClampNeg)]) (rest := []) ⟨hx, hb, hml, hown, hts⟩ hK hP hA hS hZ (c_X12_feed l D cI cL ad zz hJ σ11 τ (xs x7.toNatClampNeg) ((xs x7.toNatClampNeg).toInt) rfl (xs x9.toNatClampNeg) ((xs x9.toNatClampNeg).toInt) rfl I27) cw_RL_35 (jc_55 cI cL ad σ11 τ) rfl ⟨Nat.le_of_ble_eq_true rfl, Nat.le_of_ble_eq_true rfl⟩ rfl rfl rfl hl.1 rfl (Nat.le_of_ble_eq_true rfl) dL_law_374 ⟨Nat.le_of_ble_eq_true rfl, Nat.le_of_ble_eq_true rfl⟩ (fun r30 σ29 τ29 H locs h29 hP hS => ?_)
        obtain ⟨rfl, f31, f32, I33, h29⟩ := h29
        obtain ⟨i35, w36⟩ : (0 ≤ (σ29 55 15).toInt ∧ (σ29 55 15).toInt ≤ 80) ∧ (∀ k : Nat, k < 2 → (-1) ≤ (σ29 65 k).toInt ∧ (σ29 65 k).toInt ≤ 80) := id I33
        rcases h29 with h37 | h38 | h39
        · obtain ⟨q43, k40, k41, k42⟩ := h37
          have q43 := q43.symm
          subst q43
          refine lv_pop hx hb dL_law_377 rfl ?_
          refine lv_goto (tgt := 1357) hx hb dL_law_378 (of_decide_eq_true rfl) ?_
          obtain ⟨x44, ex44⟩ : ∃ y : Int32, y = x0 + 6 := ⟨_, rfl⟩
          exact by
           have tx44 : x44.toInt = x0.toInt + 6 := (jadd ex44 rfl jz_6 (by omega) (by omega)).trans (by omega)
           refine lv_iinc (v := x44) (lv' := [(3, .int x44), (2, .ref (ad 55)), (1, .ref (ad 0)), (0, .ref b)]) hx hb dL_law_1357 hl (k := 0) rfl (by rw [ex44]; rfl) (of_decide_eq_true rfl) rfl (fun ls hl => ?_)
           refine lv_goto (tgt := 18) hx hb dL_law_1360 (of_decide_eq_true rfl) ?_
           have I45 : jI2 σ29 := jI2_fr ((congrFun (f31 2 (of_decide_eq_true rfl)) 0).trans (congrFun (f13 2 (of_decide_eq_true rfl)) 0)) ((congrFun (f31 2 (of_decide_eq_true rfl)) 1).trans (congrFun (f13 2 (of_decide_eq_true rfl)) 1)) ((congrFun (f31 2 (of_decide_eq_true rfl)) 2).trans (congrFun (f13 2 (of_decide_eq_true rfl)) 2)) ((congrFun (f31 2 (of_decide_eq_true rfl)) 3).trans (congrFun (f13 2 (of_decide_eq_true rfl)) 3)) ((f31 6 (of_decide_eq_true rfl)).trans (f13 6 (of_decide_eq_true rfl))) hI2
           have I46 : jI9 σ29 := jI9_fr (congrFun (f31 9 (of_decide_eq_true rfl)) 0) (f31 10 (of_decide_eq_true rfl)) (f31 11 (of_decide_eq_true rfl)) I15
           have I47 : jI12 σ29 := jI12_fr ((congrFun (f31 12 (of_decide_eq_true rfl)) 0).trans (congrFun (f13 12 (of_decide_eq_true rfl)) 0)) ((f31 13 (of_decide_eq_true rfl)).trans (f13 13 (of_decide_eq_true rfl))) hI12
           have I48 : jI16 σ29 := jI16_fr ((congrFun (f31 16 (of_decide_eq_true rfl)) 0).trans (congrFun (f13 16 (of_decide_eq_true rfl)) 0)) ((congrFun (f31 16 (of_decide_eq_true rfl)) 1).trans (congrFun (f13 16 (of_decide_eq_true rfl)) 1)) ((congrFun (f31 16 (of_decide_eq_true rfl)) 2).trans (congrFun (f13 16 (of_decide_eq_true rfl)) 2)) ((f31 17 (of_decide_eq_true rfl)).trans (f13 17 (of_decide_eq_true rfl))) hI16
           have I49 : jI18 σ29 := jI18_fr ((congrFun (f31 18 (of_decide_eq_true rfl)) 0).trans (congrFun (f13 18 (of_decide_eq_true rfl)) 0)) ((f31 19 (of_decide_eq_true rfl)).trans (f13 19 (of_decide_eq_true rfl))) hI18
           have I50 : jI22 σ29 := jI22_fr ((congrFun (f31 22 (of_decide_eq_true rfl)) 0).trans (congrFun (f13 22 (of_decide_eq_true rfl)) 0)) ((f31 23 (of_decide_eq_true rfl)).trans (f13 23 (of_decide_eq_true rfl))) hI22
           exact by
            have I51 : jI31 σ29 := jI31_fr ((congrFun (f31 31 (of_decide_eq_true rfl)) 8).trans (congrFun (f13 31 (of_decide_eq_true rfl)) 8)) ((f31 33 (of_decide_eq_true rfl)).trans (f13 33 (of_decide_eq_true rfl))) ((f31 36 (of_decide_eq_true rfl)).trans (f13 36 (of_decide_eq_true rfl))) hI31
            have I52 : jI38 σ29 := jI38_fr ((congrFun (f31 38 (of_decide_eq_true rfl)) 0).trans (congrFun (f13 38 (of_decide_eq_true rfl)) 0)) ((congrFun (f31 38 (of_decide_eq_true rfl)) 1).trans (congrFun (f13 38 (of_decide_eq_true rfl)) 1)) ((f31 39 (of_decide_eq_true rfl)).trans (f13 39 (of_decide_eq_true rfl))) hI38
            have I53 : jI43 σ29 := jI43_fr ((congrFun (f31 43 (of_decide_eq_true rfl)) 8).trans (congrFun (f13 43 (of_decide_eq_true rfl)) 8)) hI43
            have I54 : jI47 σ29 := jI47_fr ((congrFun (f31 47 (of_decide_eq_true rfl)) 0).trans (congrFun (f13 47 (of_decide_eq_true rfl)) 0)) ((f31 48 (of_decide_eq_true rfl)).trans (f13 48 (of_decide_eq_true rfl))) ((f31 49 (of_decide_eq_true rfl)).trans (f13 49 (of_decide_eq_true rfl))) hI47
            have I55 : jI50 σ29 := jI50_fr ((f31 52 (of_decide_eq_true rfl)).trans (f13 52 (of_decide_eq_true rfl))) hI50
            have I56 : jI101 σ29 := jI101_fr ((f32 4 (of_decide_eq_true rfl)).trans (congrFun (f13 55 (of_decide_eq_true rfl)) 4)) ((f32 5 (of_decide_eq_true rfl)).trans (congrFun (f13 55 (of_decide_eq_true rfl)) 5)) ((f31 56 (of_decide_eq_true rfl)).trans (f13 56 (of_decide_eq_true rfl))) ((f31 57 (of_decide_eq_true rfl)).trans (f13 57 (of_decide_eq_true rfl))) ((f31 58 (of_decide_eq_true rfl)).trans (f13 58 (of_decide_eq_true rfl))) ((f31 59 (of_decide_eq_true rfl)).trans (f13 59 (of_decide_eq_true rfl))) hI101
            have I57 : jI102 σ29 := jI102_fr ((f32 6 (of_decide_eq_true rfl)).trans (congrFun (f13 55 (of_decide_eq_true rfl)) 6)) ((f31 60 (of_decide_eq_true rfl)).trans (f13 60 (of_decide_eq_true rfl))) ((f31 61 (of_decide_eq_true rfl)).trans (f13 61 (of_decide_eq_true rfl))) hI102
            have I58 : jI103 σ29 := jI103_fr ((f32 9 (of_decide_eq_true rfl)).trans (congrFun (f13 55 (of_decide_eq_true rfl)) 9)) hI103
            have I59 : jI104 σ29 := jI104_fr ((f32 10 (of_decide_eq_true rfl)).trans (congrFun (f13 55 (of_decide_eq_true rfl)) 10)) ((f32 12 (of_decide_eq_true rfl)).trans (congrFun (f13 55 (of_decide_eq_true rfl)) 12)) ((f32 13 (of_decide_eq_true rfl)).trans (congrFun (f13 55 (of_decide_eq_true rfl)) 13)) ((f31 62 (of_decide_eq_true rfl)).trans (f13 62 (of_decide_eq_true rfl))) ((f31 67 (of_decide_eq_true rfl)).trans (f13 67 (of_decide_eq_true rfl))) hI104
            have I60 : jI106 σ29 := jI106_fr ((f32 32 (of_decide_eq_true rfl)).trans (congrFun (f13 55 (of_decide_eq_true rfl)) 32)) ((f31 70 (of_decide_eq_true rfl)).trans (f13 70 (of_decide_eq_true rfl))) ((f31 71 (of_decide_eq_true rfl)).trans (f13 71 (of_decide_eq_true rfl))) ((f31 72 (of_decide_eq_true rfl)).trans (f13 72 (of_decide_eq_true rfl))) hI106
            have I61 : jI107 σ29 := jI107_fr ((f32 12 (of_decide_eq_true rfl)).trans (congrFun (f13 55 (of_decide_eq_true rfl)) 12)) ((f32 47 (of_decide_eq_true rfl)).trans (congrFun (f13 55 (of_decide_eq_true rfl)) 47)) ((f31 80 (of_decide_eq_true rfl)).trans (f13 80 (of_decide_eq_true rfl))) hI107
            have I62 : jI109 σ29 := jI109_fr ((f32 50 (of_decide_eq_true rfl)).trans (congrFun (f13 55 (of_decide_eq_true rfl)) 50)) hI109
            have I63 : jI110 σ29 := jI110_fr ((f31 86 (of_decide_eq_true rfl)).trans (f13 86 (of_decide_eq_true rfl))) ((f31 87 (of_decide_eq_true rfl)).trans (f13 87 (of_decide_eq_true rfl))) hI110
            have I64 : jI111 σ29 := jI111_fr ((f31 79 (of_decide_eq_true rfl)).trans (f13 79 (of_decide_eq_true rfl))) hI111
            have I65 : jI119 σ29 := jI119_fr ((f31 68 (of_decide_eq_true rfl)).trans (f13 68 (of_decide_eq_true rfl))) hI119
            have p66 : jKept σ29 := jKept.fr ((f31 75 (of_decide_eq_true rfl)).trans (f13 75 (of_decide_eq_true rfl))) ((f31 76 (of_decide_eq_true rfl)).trans (f13 76 (of_decide_eq_true rfl))) ((f31 77 (of_decide_eq_true rfl)).trans (f13 77 (of_decide_eq_true rfl))) hs_jKept
            have p67 : jBook σ29 := jBook.fr ((f32 47 (of_decide_eq_true rfl)).trans (congrFun (f13 55 (of_decide_eq_true rfl)) 47)) ((f32 10 (of_decide_eq_true rfl)).trans (congrFun (f13 55 (of_decide_eq_true rfl)) 10)) ((f31 81 (of_decide_eq_true rfl)).trans (f13 81 (of_decide_eq_true rfl))) hs_jBook
            have z68 : (σ29 9 0).toInt = (σ11 9 0).toInt := (congrArg Int32.toInt (show σ29 9 0 = (σ11 9 0) from (congrFun (f31 9 (of_decide_eq_true rfl)) 0)))
            exact by exact ih x44 σ29 τ _ _ ls (by have h9 := tx44; omega) ⟨I45, I46, I47, I48, I49, I50, I51, I52, I53, I54, I55, I56, I57, I58, I59, I33, I60, I61, I62, I63, I64, I65, p66, p67, (by omega), (show jTp (σ29 10) (σ29 63) (σ29 55 15).toInt by rw [show σ29 10 = σ 10 from ((f31 10 (of_decide_eq_true rfl)).trans k25), show σ29 63 = σ 63 from (k42.trans (f13 63 (of_decide_eq_true rfl)))]; exact hr0.le (by omega))⟩ hP hS (lv_sub hl [0, 1, 2, 3] rfl)
        · obtain ⟨q73, k69, k70, k71, k72⟩ := h38
          exact absurd (by omega : False) id
        · obtain ⟨q79, k74, k75, k76, k77, k78⟩ := h39
          exact absurd (by omega : False) id
    · obtain ⟨q84, k80, k81, k82, k83⟩ := h21
      have q84 := q84.symm
      subst q84
      refine lv_pop hx hb dL_law_362 rfl ?_
      refine lv_aload_n hx hb dL_law_363 rfl (lv_at hl 1 rfl) ?_
      refine lv_aload_n hx hb dL_law_364 rfl (lv_at hl 3 rfl) ?_
      refine lv_iload_n hx hb dL_law_365 rfl (lv_at hl 0 rfl) ?_
      refine lv_iconst (v := 1) hx hb dL_law_366 (of_decide_eq_true rfl) ?_
      refine lv_iadd hx hb dL_law_367 ?_
      refine jtopr ex7.symm ?_
      exact by
       refine va_sld hx hb hX hbl hbA hS (jin tx7 (by omega) (by omega)) dL_law_368 ?_
       refine lv_aload_n hx hb dL_law_369 rfl (lv_at hl 3 rfl) ?_
       refine lv_iload_n hx hb dL_law_370 rfl (lv_at hl 0 rfl) ?_
       refine lv_iconst (v := 2) hx hb dL_law_371 (of_decide_eq_true rfl) ?_
       refine lv_iadd hx hb dL_law_372 ?_
       refine jtopr ex9.symm ?_
       refine va_sld hx hb hX hbl hbA hS (jin tx9 (by omega) (by omega)) dL_law_373 ?_
       have I85 : jI105 σ11 := jI105_fr (congrFun (f13 55 (of_decide_eq_true rfl)) 15) (f13 65 (of_decide_eq_true rfl)) hI105
       have z86 : (σ11 55 15).toInt = (σ 55 15).toInt := (congrArg Int32.toInt (show σ11 55 15 = (σ 55 15) from (congrFun (f13 55 (of_decide_eq_true rfl)) 15)))
       exact by
        refine jcallV (As := [.int (xs x7.toNatClampNeg), .int (xs x9.toNatClampNeg)]) (rest := []) ⟨hx, hb, hml, hown, hts⟩ hK hP hA hS hZ (c_X12_feed l D cI cL ad zz hJ σ11 τ (xs x7.toNatClampNeg) ((xs x7.toNatClampNeg).toInt) rfl (xs x9.toNatClampNeg) ((xs x9.toNatClampNeg).toInt) rfl I85) cw_RL_35 (jc_55 cI cL ad σ11 τ) rfl ⟨Nat.le_of_ble_eq_true rfl, Nat.le_of_ble_eq_true rfl⟩ rfl rfl rfl hl.1 rfl (Nat.le_of_ble_eq_true rfl) dL_law_374 ⟨Nat.le_of_ble_eq_true rfl, Nat.le_of_ble_eq_true rfl⟩ (fun r88 σ87 τ87 H locs h87 hP hS => ?_)
        obtain ⟨rfl, f89, f90, I91, h87⟩ := h87
        obtain ⟨i93, w94⟩ : (0 ≤ (σ87 55 15).toInt ∧ (σ87 55 15).toInt ≤ 80) ∧ (∀ k : Nat, k < 2 → (-1) ≤ (σ87 65 k).toInt ∧ (σ87 65 k).toInt ≤ 80) := id I91
        rcases h87 with h95 | h96 | h97
        · obtain ⟨q101, k98, k99, k100⟩ := h95
          exact absurd (by omega : False) id
        · obtain ⟨q106, k102, k103, k104, k105⟩ := h96
          have q106 := q106.symm
          subst q106
          refine lv_pop hx hb dL_law_377 rfl ?_
          refine lv_goto (tgt := 1357) hx hb dL_law_378 (of_decide_eq_true rfl) ?_
          obtain ⟨x107, ex107⟩ : ∃ y : Int32, y = x0 + 6 := ⟨_, rfl⟩
          exact by
           have tx107 : x107.toInt = x0.toInt + 6 := (jadd ex107 rfl jz_6 (by omega) (by omega)).trans (by omega)
           refine lv_iinc (v := x107) (lv' := [(3, .int x107), (2, .ref (ad 55)), (1, .ref (ad 0)), (0, .ref b)]) hx hb dL_law_1357 hl (k := 0) rfl (by rw [ex107]; rfl) (of_decide_eq_true rfl) rfl (fun ls hl => ?_)
           refine lv_goto (tgt := 18) hx hb dL_law_1360 (of_decide_eq_true rfl) ?_
           have I108 : jI2 σ87 := jI2_fr ((congrFun (f89 2 (of_decide_eq_true rfl)) 0).trans (congrFun (f13 2 (of_decide_eq_true rfl)) 0)) ((congrFun (f89 2 (of_decide_eq_true rfl)) 1).trans (congrFun (f13 2 (of_decide_eq_true rfl)) 1)) ((congrFun (f89 2 (of_decide_eq_true rfl)) 2).trans (congrFun (f13 2 (of_decide_eq_true rfl)) 2)) ((congrFun (f89 2 (of_decide_eq_true rfl)) 3).trans (congrFun (f13 2 (of_decide_eq_true rfl)) 3)) ((f89 6 (of_decide_eq_true rfl)).trans (f13 6 (of_decide_eq_true rfl))) hI2
           have I109 : jI9 σ87 := jI9_fr (congrFun (f89 9 (of_decide_eq_true rfl)) 0) (f89 10 (of_decide_eq_true rfl)) (f89 11 (of_decide_eq_true rfl)) I15
           have I110 : jI12 σ87 := jI12_fr ((congrFun (f89 12 (of_decide_eq_true rfl)) 0).trans (congrFun (f13 12 (of_decide_eq_true rfl)) 0)) ((f89 13 (of_decide_eq_true rfl)).trans (f13 13 (of_decide_eq_true rfl))) hI12
           have I111 : jI16 σ87 := jI16_fr ((congrFun (f89 16 (of_decide_eq_true rfl)) 0).trans (congrFun (f13 16 (of_decide_eq_true rfl)) 0)) ((congrFun (f89 16 (of_decide_eq_true rfl)) 1).trans (congrFun (f13 16 (of_decide_eq_true rfl)) 1)) ((congrFun (f89 16 (of_decide_eq_true rfl)) 2).trans (congrFun (f13 16 (of_decide_eq_true rfl)) 2)) ((f89 17 (of_decide_eq_true rfl)).trans (f13 17 (of_decide_eq_true rfl))) hI16
           have I112 : jI18 σ87 := jI18_fr ((congrFun (f89 18 (of_decide_eq_true rfl)) 0).trans (congrFun (f13 18 (of_decide_eq_true rfl)) 0)) ((f89 19 (of_decide_eq_true rfl)).trans (f13 19 (of_decide_eq_true rfl))) hI18
           have I113 : jI22 σ87 := jI22_fr ((congrFun (f89 22 (of_decide_eq_true rfl)) 0).trans (congrFun (f13 22 (of_decide_eq_true rfl)) 0)) ((f89 23 (of_decide_eq_true rfl)).trans (f13 23 (of_decide_eq_true rfl))) hI22
           exact by
            have I114 : jI31 σ87 := jI31_fr ((congrFun (f89 31 (of_decide_eq_true rfl)) 8).trans (congrFun (f13 31 (of_decide_eq_true rfl)) 8)) ((f89 33 (of_decide_eq_true rfl)).trans (f13 33 (of_decide_eq_true rfl))) ((f89 36 (of_decide_eq_true rfl)).trans (f13 36 (of_decide_eq_true rfl))) hI31
            have I115 : jI38 σ87 := jI38_fr ((congrFun (f89 38 (of_decide_eq_true rfl)) 0).trans (congrFun (f13 38 (of_decide_eq_true rfl)) 0)) ((congrFun (f89 38 (of_decide_eq_true rfl)) 1).trans (congrFun (f13 38 (of_decide_eq_true rfl)) 1)) ((f89 39 (of_decide_eq_true rfl)).trans (f13 39 (of_decide_eq_true rfl))) hI38
            have I116 : jI43 σ87 := jI43_fr ((congrFun (f89 43 (of_decide_eq_true rfl)) 8).trans (congrFun (f13 43 (of_decide_eq_true rfl)) 8)) hI43
            have I117 : jI47 σ87 := jI47_fr ((congrFun (f89 47 (of_decide_eq_true rfl)) 0).trans (congrFun (f13 47 (of_decide_eq_true rfl)) 0)) ((f89 48 (of_decide_eq_true rfl)).trans (f13 48 (of_decide_eq_true rfl))) ((f89 49 (of_decide_eq_true rfl)).trans (f13 49 (of_decide_eq_true rfl))) hI47
            have I118 : jI50 σ87 := jI50_fr ((f89 52 (of_decide_eq_true rfl)).trans (f13 52 (of_decide_eq_true rfl))) hI50
            have I119 : jI101 σ87 := jI101_fr ((f90 4 (of_decide_eq_true rfl)).trans (congrFun (f13 55 (of_decide_eq_true rfl)) 4)) ((f90 5 (of_decide_eq_true rfl)).trans (congrFun (f13 55 (of_decide_eq_true rfl)) 5)) ((f89 56 (of_decide_eq_true rfl)).trans (f13 56 (of_decide_eq_true rfl))) ((f89 57 (of_decide_eq_true rfl)).trans (f13 57 (of_decide_eq_true rfl))) ((f89 58 (of_decide_eq_true rfl)).trans (f13 58 (of_decide_eq_true rfl))) ((f89 59 (of_decide_eq_true rfl)).trans (f13 59 (of_decide_eq_true rfl))) hI101
            have I120 : jI102 σ87 := jI102_fr ((f90 6 (of_decide_eq_true rfl)).trans (congrFun (f13 55 (of_decide_eq_true rfl)) 6)) ((f89 60 (of_decide_eq_true rfl)).trans (f13 60 (of_decide_eq_true rfl))) ((f89 61 (of_decide_eq_true rfl)).trans (f13 61 (of_decide_eq_true rfl))) hI102
            have I121 : jI103 σ87 := jI103_fr ((f90 9 (of_decide_eq_true rfl)).trans (congrFun (f13 55 (of_decide_eq_true rfl)) 9)) hI103
            have I122 : jI104 σ87 := jI104_fr ((f90 10 (of_decide_eq_true rfl)).trans (congrFun (f13 55 (of_decide_eq_true rfl)) 10)) ((f90 12 (of_decide_eq_true rfl)).trans (congrFun (f13 55 (of_decide_eq_true rfl)) 12)) ((f90 13 (of_decide_eq_true rfl)).trans (congrFun (f13 55 (of_decide_eq_true rfl)) 13)) ((f89 62 (of_decide_eq_true rfl)).trans (f13 62 (of_decide_eq_true rfl))) ((f89 67 (of_decide_eq_true rfl)).trans (f13 67 (of_decide_eq_true rfl))) hI104
            have I123 : jI106 σ87 := jI106_fr ((f90 32 (of_decide_eq_true rfl)).trans (congrFun (f13 55 (of_decide_eq_true rfl)) 32)) ((f89 70 (of_decide_eq_true rfl)).trans (f13 70 (of_decide_eq_true rfl))) ((f89 71 (of_decide_eq_true rfl)).trans (f13 71 (of_decide_eq_true rfl))) ((f89 72 (of_decide_eq_true rfl)).trans (f13 72 (of_decide_eq_true rfl))) hI106
            have I124 : jI107 σ87 := jI107_fr ((f90 12 (of_decide_eq_true rfl)).trans (congrFun (f13 55 (of_decide_eq_true rfl)) 12)) ((f90 47 (of_decide_eq_true rfl)).trans (congrFun (f13 55 (of_decide_eq_true rfl)) 47)) ((f89 80 (of_decide_eq_true rfl)).trans (f13 80 (of_decide_eq_true rfl))) hI107
            have I125 : jI109 σ87 := jI109_fr ((f90 50 (of_decide_eq_true rfl)).trans (congrFun (f13 55 (of_decide_eq_true rfl)) 50)) hI109
            have I126 : jI110 σ87 := jI110_fr ((f89 86 (of_decide_eq_true rfl)).trans (f13 86 (of_decide_eq_true rfl))) ((f89 87 (of_decide_eq_true rfl)).trans (f13 87 (of_decide_eq_true rfl))) hI110
            have I127 : jI111 σ87 := jI111_fr ((f89 79 (of_decide_eq_true rfl)).trans (f13 79 (of_decide_eq_true rfl))) hI111
            have I128 : jI119 σ87 := jI119_fr ((f89 68 (of_decide_eq_true rfl)).trans (f13 68 (of_decide_eq_true rfl))) hI119
            have p129 : jKept σ87 := jKept.fr ((f89 75 (of_decide_eq_true rfl)).trans (f13 75 (of_decide_eq_true rfl))) ((f89 76 (of_decide_eq_true rfl)).trans (f13 76 (of_decide_eq_true rfl))) ((f89 77 (of_decide_eq_true rfl)).trans (f13 77 (of_decide_eq_true rfl))) hs_jKept
            have p130 : jBook σ87 := jBook.fr ((f90 47 (of_decide_eq_true rfl)).trans (congrFun (f13 55 (of_decide_eq_true rfl)) 47)) ((f90 10 (of_decide_eq_true rfl)).trans (congrFun (f13 55 (of_decide_eq_true rfl)) 10)) ((f89 81 (of_decide_eq_true rfl)).trans (f13 81 (of_decide_eq_true rfl))) hs_jBook
            have z131 : (σ87 9 0).toInt = (σ11 9 0).toInt := (congrArg Int32.toInt (show σ87 9 0 = (σ11 9 0) from (congrFun (f89 9 (of_decide_eq_true rfl)) 0)))
            exact by exact ih x107 σ87 τ _ _ ls (by have h9 := tx107; omega) ⟨I108, I109, I110, I111, I112, I113, I114, I115, I116, I117, I118, I119, I120, I121, I122, I91, I123, I124, I125, I126, I127, I128, p129, p130, (by omega), (show jTp (σ87 10) (σ87 63) (σ87 55 15).toInt by rw [show σ87 10 = σ 10 from ((f89 10 (of_decide_eq_true rfl)).trans k83), show σ87 63 = σ 63 from (k105.trans (f13 63 (of_decide_eq_true rfl)))]; exact hr0.le (by omega))⟩ hP hS (lv_sub hl [0, 1, 2, 3] rfl)
        · obtain ⟨q137, k132, k133, k134, k135, k136⟩ := h97
          exact absurd (by omega : False) id
    · obtain ⟨q143, k138, k139, k140, k141, k142⟩ := h22
      refine lv_pop hx hb dL_law_362 rfl ?_
      refine lv_aload_n hx hb dL_law_363 rfl (lv_at hl 1 rfl) ?_
      refine lv_aload_n hx hb dL_law_364 rfl (lv_at hl 3 rfl) ?_
      refine lv_iload_n hx hb dL_law_365 rfl (lv_at hl 0 rfl) ?_
      refine lv_iconst (v := 1) hx hb dL_law_366 (of_decide_eq_true rfl) ?_
      refine lv_iadd hx hb dL_law_367 ?_
      refine jtopr ex7.symm ?_
      exact by
       refine va_sld hx hb hX hbl hbA hS (jin tx7 (by omega) (by omega)) dL_law_368 ?_
       refine lv_aload_n hx hb dL_law_369 rfl (lv_at hl 3 rfl) ?_
       refine lv_iload_n hx hb dL_law_370 rfl (lv_at hl 0 rfl) ?_
       refine lv_iconst (v := 2) hx hb dL_law_371 (of_decide_eq_true rfl) ?_
       refine lv_iadd hx hb dL_law_372 ?_
       refine jtopr ex9.symm ?_
       refine va_sld hx hb hX hbl hbA hS (jin tx9 (by omega) (by omega)) dL_law_373 ?_
       have I144 : jI105 σ11 := jI105_fr (congrFun (f13 55 (of_decide_eq_true rfl)) 15) (f13 65 (of_decide_eq_true rfl)) hI105
       have z145 : (σ11 55 15).toInt = (σ 55 15).toInt := (congrArg Int32.toInt (show σ11 55 15 = (σ 55 15) from (congrFun (f13 55 (of_decide_eq_true rfl)) 15)))
       exact by
        refine jcallV (As := [.int (xs x7.toNatClampNeg), .int (xs x9.toNatClampNeg)]) (rest := []) ⟨hx, hb, hml, hown, hts⟩ hK hP hA hS hZ (c_X12_feed l D cI cL ad zz hJ σ11 τ (xs x7.toNatClampNeg) ((xs x7.toNatClampNeg).toInt) rfl (xs x9.toNatClampNeg) ((xs x9.toNatClampNeg).toInt) rfl I144) cw_RL_35 (jc_55 cI cL ad σ11 τ) rfl ⟨Nat.le_of_ble_eq_true rfl, Nat.le_of_ble_eq_true rfl⟩ rfl rfl rfl hl.1 rfl (Nat.le_of_ble_eq_true rfl) dL_law_374 ⟨Nat.le_of_ble_eq_true rfl, Nat.le_of_ble_eq_true rfl⟩ (fun r147 σ146 τ146 H locs h146 hP hS => ?_)
        obtain ⟨rfl, f148, f149, I150, h146⟩ := h146
        obtain ⟨i152, w153⟩ : (0 ≤ (σ146 55 15).toInt ∧ (σ146 55 15).toInt ≤ 80) ∧ (∀ k : Nat, k < 2 → (-1) ≤ (σ146 65 k).toInt ∧ (σ146 65 k).toInt ≤ 80) := id I150
        rcases h146 with h154 | h155 | h156
        · obtain ⟨q160, k157, k158, k159⟩ := h154
          exact absurd (by omega : False) id
        · obtain ⟨q165, k161, k162, k163, k164⟩ := h155
          exact absurd (by omega : False) id
        · obtain ⟨q171, k166, k167, k168, k169, k170⟩ := h156
          refine lv_pop hx hb dL_law_377 rfl ?_
          refine lv_goto (tgt := 1357) hx hb dL_law_378 (of_decide_eq_true rfl) ?_
          obtain ⟨x172, ex172⟩ : ∃ y : Int32, y = x0 + 6 := ⟨_, rfl⟩
          exact by
           have tx172 : x172.toInt = x0.toInt + 6 := (jadd ex172 rfl jz_6 (by omega) (by omega)).trans (by omega)
           refine lv_iinc (v := x172) (lv' := [(3, .int x172), (2, .ref (ad 55)), (1, .ref (ad 0)), (0, .ref b)]) hx hb dL_law_1357 hl (k := 0) rfl (by rw [ex172]; rfl) (of_decide_eq_true rfl) rfl (fun ls hl => ?_)
           refine lv_goto (tgt := 18) hx hb dL_law_1360 (of_decide_eq_true rfl) ?_
           have I173 : jI2 σ146 := jI2_fr ((congrFun (f148 2 (of_decide_eq_true rfl)) 0).trans (congrFun (f13 2 (of_decide_eq_true rfl)) 0)) ((congrFun (f148 2 (of_decide_eq_true rfl)) 1).trans (congrFun (f13 2 (of_decide_eq_true rfl)) 1)) ((congrFun (f148 2 (of_decide_eq_true rfl)) 2).trans (congrFun (f13 2 (of_decide_eq_true rfl)) 2)) ((congrFun (f148 2 (of_decide_eq_true rfl)) 3).trans (congrFun (f13 2 (of_decide_eq_true rfl)) 3)) ((f148 6 (of_decide_eq_true rfl)).trans (f13 6 (of_decide_eq_true rfl))) hI2
           have I174 : jI9 σ146 := jI9_fr (congrFun (f148 9 (of_decide_eq_true rfl)) 0) (f148 10 (of_decide_eq_true rfl)) (f148 11 (of_decide_eq_true rfl)) I15
           have I175 : jI12 σ146 := jI12_fr ((congrFun (f148 12 (of_decide_eq_true rfl)) 0).trans (congrFun (f13 12 (of_decide_eq_true rfl)) 0)) ((f148 13 (of_decide_eq_true rfl)).trans (f13 13 (of_decide_eq_true rfl))) hI12
           have I176 : jI16 σ146 := jI16_fr ((congrFun (f148 16 (of_decide_eq_true rfl)) 0).trans (congrFun (f13 16 (of_decide_eq_true rfl)) 0)) ((congrFun (f148 16 (of_decide_eq_true rfl)) 1).trans (congrFun (f13 16 (of_decide_eq_true rfl)) 1)) ((congrFun (f148 16 (of_decide_eq_true rfl)) 2).trans (congrFun (f13 16 (of_decide_eq_true rfl)) 2)) ((f148 17 (of_decide_eq_true rfl)).trans (f13 17 (of_decide_eq_true rfl))) hI16
           have I177 : jI18 σ146 := jI18_fr ((congrFun (f148 18 (of_decide_eq_true rfl)) 0).trans (congrFun (f13 18 (of_decide_eq_true rfl)) 0)) ((f148 19 (of_decide_eq_true rfl)).trans (f13 19 (of_decide_eq_true rfl))) hI18
           have I178 : jI22 σ146 := jI22_fr ((congrFun (f148 22 (of_decide_eq_true rfl)) 0).trans (congrFun (f13 22 (of_decide_eq_true rfl)) 0)) ((f148 23 (of_decide_eq_true rfl)).trans (f13 23 (of_decide_eq_true rfl))) hI22
           exact by
            have I179 : jI31 σ146 := jI31_fr ((congrFun (f148 31 (of_decide_eq_true rfl)) 8).trans (congrFun (f13 31 (of_decide_eq_true rfl)) 8)) ((f148 33 (of_decide_eq_true rfl)).trans (f13 33 (of_decide_eq_true rfl))) ((f148 36 (of_decide_eq_true rfl)).trans (f13 36 (of_decide_eq_true rfl))) hI31
            have I180 : jI38 σ146 := jI38_fr ((congrFun (f148 38 (of_decide_eq_true rfl)) 0).trans (congrFun (f13 38 (of_decide_eq_true rfl)) 0)) ((congrFun (f148 38 (of_decide_eq_true rfl)) 1).trans (congrFun (f13 38 (of_decide_eq_true rfl)) 1)) ((f148 39 (of_decide_eq_true rfl)).trans (f13 39 (of_decide_eq_true rfl))) hI38
            have I181 : jI43 σ146 := jI43_fr ((congrFun (f148 43 (of_decide_eq_true rfl)) 8).trans (congrFun (f13 43 (of_decide_eq_true rfl)) 8)) hI43
            have I182 : jI47 σ146 := jI47_fr ((congrFun (f148 47 (of_decide_eq_true rfl)) 0).trans (congrFun (f13 47 (of_decide_eq_true rfl)) 0)) ((f148 48 (of_decide_eq_true rfl)).trans (f13 48 (of_decide_eq_true rfl))) ((f148 49 (of_decide_eq_true rfl)).trans (f13 49 (of_decide_eq_true rfl))) hI47
            have I183 : jI50 σ146 := jI50_fr ((f148 52 (of_decide_eq_true rfl)).trans (f13 52 (of_decide_eq_true rfl))) hI50
            have I184 : jI101 σ146 := jI101_fr ((f149 4 (of_decide_eq_true rfl)).trans (congrFun (f13 55 (of_decide_eq_true rfl)) 4)) ((f149 5 (of_decide_eq_true rfl)).trans (congrFun (f13 55 (of_decide_eq_true rfl)) 5)) ((f148 56 (of_decide_eq_true rfl)).trans (f13 56 (of_decide_eq_true rfl))) ((f148 57 (of_decide_eq_true rfl)).trans (f13 57 (of_decide_eq_true rfl))) ((f148 58 (of_decide_eq_true rfl)).trans (f13 58 (of_decide_eq_true rfl))) ((f148 59 (of_decide_eq_true rfl)).trans (f13 59 (of_decide_eq_true rfl))) hI101
            have I185 : jI102 σ146 := jI102_fr ((f149 6 (of_decide_eq_true rfl)).trans (congrFun (f13 55 (of_decide_eq_true rfl)) 6)) ((f148 60 (of_decide_eq_true rfl)).trans (f13 60 (of_decide_eq_true rfl))) ((f148 61 (of_decide_eq_true rfl)).trans (f13 61 (of_decide_eq_true rfl))) hI102
            have I186 : jI103 σ146 := jI103_fr ((f149 9 (of_decide_eq_true rfl)).trans (congrFun (f13 55 (of_decide_eq_true rfl)) 9)) hI103
            have I187 : jI104 σ146 := jI104_fr ((f149 10 (of_decide_eq_true rfl)).trans (congrFun (f13 55 (of_decide_eq_true rfl)) 10)) ((f149 12 (of_decide_eq_true rfl)).trans (congrFun (f13 55 (of_decide_eq_true rfl)) 12)) ((f149 13 (of_decide_eq_true rfl)).trans (congrFun (f13 55 (of_decide_eq_true rfl)) 13)) ((f148 62 (of_decide_eq_true rfl)).trans (f13 62 (of_decide_eq_true rfl))) ((f148 67 (of_decide_eq_true rfl)).trans (f13 67 (of_decide_eq_true rfl))) hI104
            have I188 : jI106 σ146 := jI106_fr ((f149 32 (of_decide_eq_true rfl)).trans (congrFun (f13 55 (of_decide_eq_true rfl)) 32)) ((f148 70 (of_decide_eq_true rfl)).trans (f13 70 (of_decide_eq_true rfl))) ((f148 71 (of_decide_eq_true rfl)).trans (f13 71 (of_decide_eq_true rfl))) ((f148 72 (of_decide_eq_true rfl)).trans (f13 72 (of_decide_eq_true rfl))) hI106
            have I189 : jI107 σ146 := jI107_fr ((f149 12 (of_decide_eq_true rfl)).trans (congrFun (f13 55 (of_decide_eq_true rfl)) 12)) ((f149 47 (of_decide_eq_true rfl)).trans (congrFun (f13 55 (of_decide_eq_true rfl)) 47)) ((f148 80 (of_decide_eq_true rfl)).trans (f13 80 (of_decide_eq_true rfl))) hI107
            have I190 : jI109 σ146 := jI109_fr ((f149 50 (of_decide_eq_true rfl)).trans (congrFun (f13 55 (of_decide_eq_true rfl)) 50)) hI109
            have I191 : jI110 σ146 := jI110_fr ((f148 86 (of_decide_eq_true rfl)).trans (f13 86 (of_decide_eq_true rfl))) ((f148 87 (of_decide_eq_true rfl)).trans (f13 87 (of_decide_eq_true rfl))) hI110
            have I192 : jI111 σ146 := jI111_fr ((f148 79 (of_decide_eq_true rfl)).trans (f13 79 (of_decide_eq_true rfl))) hI111
            have I193 : jI119 σ146 := jI119_fr ((f148 68 (of_decide_eq_true rfl)).trans (f13 68 (of_decide_eq_true rfl))) hI119
            have p194 : jKept σ146 := jKept.fr ((f148 75 (of_decide_eq_true rfl)).trans (f13 75 (of_decide_eq_true rfl))) ((f148 76 (of_decide_eq_true rfl)).trans (f13 76 (of_decide_eq_true rfl))) ((f148 77 (of_decide_eq_true rfl)).trans (f13 77 (of_decide_eq_true rfl))) hs_jKept
            have p195 : jBook σ146 := jBook.fr ((f149 47 (of_decide_eq_true rfl)).trans (congrFun (f13 55 (of_decide_eq_true rfl)) 47)) ((f149 10 (of_decide_eq_true rfl)).trans (congrFun (f13 55 (of_decide_eq_true rfl)) 10)) ((f148 81 (of_decide_eq_true rfl)).trans (f13 81 (of_decide_eq_true rfl))) hs_jBook
            have z196 : (σ146 9 0).toInt = (σ11 9 0).toInt := (congrArg Int32.toInt (show σ146 9 0 = (σ11 9 0) from (congrFun (f148 9 (of_decide_eq_true rfl)) 0)))
            rw [show (σ 9 0).toInt = (σ 55 15).toInt from by omega] at k142
            rw [show (σ11 55 15).toInt = (σ 55 15).toInt from by omega, show σ11 63 = σ 63 from (f13 63 (of_decide_eq_true rfl))] at k170
            exact by exact ih x172 σ146 τ _ _ ls (by have h9 := tx172; omega) ⟨I173, I174, I175, I176, I177, I178, I179, I180, I181, I182, I183, I184, I185, I186, I187, I150, I188, I189, I190, I191, I192, I193, p194, p195, (by omega), (show jTp (σ146 10) (σ146 63) (σ146 55 15).toInt by rw [show σ146 10 = σ11 10 from (f148 10 (of_decide_eq_true rfl))]; exact hr0.feed k142 k170 (by omega) (by omega) (by omega))⟩ hP hS (lv_sub hl [0, 1, 2, 3] rfl)
set_option maxHeartbeats 4000000 in
set_option maxRecDepth 100000 in
theorem law_case_5 {p : Program} {e : Env} {s : State} {m : MethodId} {below : List Frame} {meth : Method} {c : Code} (l : Launch) {b L : Nat} {xs : Nat → Int32} {D : va_G} {cI cL : ClassId} {ad zz : Nat → Nat} (C0 : lw_At p s m meth c b L xs) (hJ : jD ad) (hA : ∀ q, jA ad q → s.heap.size ≤ q) (hK : jK D cI cL s) (hZ : jZ zz (fun q : Nat => s.heap.size ≤ q) s s.heap) {x0 : Int32} (hx0 : 0 ≤ x0.toInt) (hxL : x0.toInt + 6 ≤ (L : Int)) (hL : L ≤ 384) {σ : Nat → Nat → Int32} {τ : Nat → Nat → Int64} {H : Heap} {locs : List Loc} (hS : va_S (fun q : Nat => s.heap.size ≤ q) s.heap H locs) {ls : Array Slot} (hAll : jAll σ τ) (hP : jH D cI cL ad σ τ H) (hl : lv_has ls 4 [(3, .int x0), (2, .ref (ad 55)), (1, .ref (ad 0)), (0, .ref b)]) (ih : ∀ (x1 : Int32) (σ : Nat → Nat → Int32) (τ : Nat → Nat → Int64) (H : Heap) (locs : List Loc) (ls : Array Slot), x1.toInt = x0.toInt + 6 → jAll σ τ → jH D cI cL ad σ τ H → va_S (fun q : Nat => s.heap.size ≤ q) s.heap H locs → lv_has ls 4 [(3, .int x1), (2, .ref (ad 55)), (1, .ref (ad 0)), (0, .ref b)] → W p l e room_1 s m #[Value.ref b] below meth c H locs 90 348600 (lw_Z below #[Value.ref b] s) (F0 m 18 ls [])) : W p l e room_1 s m #[Value.ref b] below meth c H locs 90 348600 (lw_Z below #[Value.ref b] s) (F0 m 381 ls []) := by
  obtain ⟨hx, hb, hr, hml, hown, hts0, hX, hbl, hlocks, hgv⟩ := C0
  have hts : ∀ w ∈ wsL_law, w.before #[Value.ref b] s = true := fun w h => hts0 w (wsL_law_in w h)
  have hbA : ¬ (fun q : Nat => s.heap.size ≤ q) b := Nat.not_le.mpr hbl
  have hown : s.vm.findClass RL = some m.cls := hown
  obtain ⟨hI2, hI9, hI12, hI16, hI18, hI22, hI31, hI38, hI43, hI47, hI50, hI101, hI102, hI103, hI104, hI105, hI106, hI107, hI109, hI110, hI111, hI119, hs_jKept, hs_jBook, ht0, hr0⟩ := hAll
  have hL9 : (L : Int) ≤ 384 := by omega
  obtain ⟨i1, w2, w3⟩ : (0 ≤ (σ 9 0).toInt ∧ (σ 9 0).toInt ≤ 80) ∧ (∀ k : Nat, k < 80 → 0 ≤ (σ 10 k).toInt ∧ (σ 10 k).toInt ≤ 255) ∧ (∀ k : Nat, k < 8 → 0 ≤ (σ 11 k).toInt ∧ (σ 11 k).toInt ≤ 3) := id hI9
  obtain ⟨i4, w5⟩ : (0 ≤ (σ 55 15).toInt ∧ (σ 55 15).toInt ≤ 80) ∧ (∀ k : Nat, k < 2 → (-1) ≤ (σ 65 k).toInt ∧ (σ 65 k).toInt ≤ 80) := id hI105
  refine lv_aload_n hx hb dL_law_381 rfl (lv_at hl 2 rfl) ?_
  refine jcallV (As := []) (rest := []) ⟨hx, hb, hml, hown, hts⟩ hK hP hA hS hZ (c_X11_order l D cI cL ad zz hJ σ τ hI9 hI16 hI47) cw_RL_36 (jc_0 cI cL ad σ τ) rfl ⟨Nat.le_of_ble_eq_true rfl, Nat.le_of_ble_eq_true rfl⟩ rfl rfl rfl hl.1 rfl (Nat.le_of_ble_eq_true rfl) dL_law_382 ⟨Nat.le_of_ble_eq_true rfl, Nat.le_of_ble_eq_true rfl⟩ (fun r7 σ6 τ6 H locs h6 hP hS => ?_)
  obtain ⟨rfl, f8, f9, f10, f11, I12, I13, I14, w15, h6⟩ := h6
  obtain ⟨i17, w18, w19⟩ : (0 ≤ (σ6 9 0).toInt ∧ (σ6 9 0).toInt ≤ 80) ∧ (∀ k : Nat, k < 80 → 0 ≤ (σ6 10 k).toInt ∧ (σ6 10 k).toInt ≤ 255) ∧ (∀ k : Nat, k < 8 → 0 ≤ (σ6 11 k).toInt ∧ (σ6 11 k).toInt ≤ 3) := id I12
  obtain ⟨k20, h6⟩ := h6
  rcases h6 with h21 | h22
  · obtain ⟨q25, k23, k24⟩ := h21
    refine lv_aload_n hx hb dL_law_385 rfl (lv_at hl 1 rfl) ?_
    have I26 : jI104 σ6 := jI104_fr (congrFun (f8 55 (of_decide_eq_true rfl)) 10) (congrFun (f8 55 (of_decide_eq_true rfl)) 12) (congrFun (f8 55 (of_decide_eq_true rfl)) 13) (f8 62 (of_decide_eq_true rfl)) (f8 67 (of_decide_eq_true rfl)) hI104
    have I27 : jI105 σ6 := jI105_fr (congrFun (f8 55 (of_decide_eq_true rfl)) 15) (f8 65 (of_decide_eq_true rfl)) hI105
    have I28 : jI107 σ6 := jI107_fr (congrFun (f8 55 (of_decide_eq_true rfl)) 12) (congrFun (f8 55 (of_decide_eq_true rfl)) 47) (f8 80 (of_decide_eq_true rfl)) hI107
    have p29 : jBook σ6 := jBook.fr (congrFun (f8 55 (of_decide_eq_true rfl)) 47) (congrFun (f8 55 (of_decide_eq_true rfl)) 10) (f8 81 (of_decide_eq_true rfl)) hs_jBook
    have z30 : (σ6 55 47).toInt = (σ 55 47).toInt := (congrArg Int32.toInt (show σ6 55 47 = (σ 55 47) from (congrFun (f8 55 (of_decide_eq_true rfl)) 47)))
    refine jcallV (As := []) (rest := [.int r7]) ⟨hx, hb, hml, hown, hts⟩ hK hP hA hS hZ (c_X12_order l D cI cL ad zz hJ σ6 τ I26 I27 I28 p29) cw_RL_40 (jc_55 cI cL ad σ6 τ) rfl ⟨Nat.le_of_ble_eq_true rfl, Nat.le_of_ble_eq_true rfl⟩ rfl rfl rfl hl.1 rfl (Nat.le_of_ble_eq_true rfl) dL_law_386 ⟨Nat.le_of_ble_eq_true rfl, Nat.le_of_ble_eq_true rfl⟩ (fun r32 σ31 τ31 H locs h31 hP hS => ?_)
    obtain ⟨rfl, f33, f34, I35, I36, I37, p38, w39, h31⟩ := h31
    obtain ⟨i41, w42⟩ : (0 ≤ (σ31 55 15).toInt ∧ (σ31 55 15).toInt ≤ 80) ∧ (∀ k : Nat, k < 2 → (-1) ≤ (σ31 65 k).toInt ∧ (σ31 65 k).toInt ≤ 80) := id I36
    have z43 : (σ6 55 15).toInt = (σ 55 15).toInt := (congrArg Int32.toInt (show σ6 55 15 = (σ 55 15) from (congrFun (f8 55 (of_decide_eq_true rfl)) 15)))
    rw [show (σ6 55 15).toInt = (σ 55 15).toInt from by omega, show σ6 63 = σ 63 from (f8 63 (of_decide_eq_true rfl))] at w39
    rw [show (σ 9 0).toInt = (σ 55 15).toInt from by omega] at w15
    have k45 := jOrA.res hr0 w15 w39
    obtain ⟨k49, h31⟩ := h31
    rcases h31 with h50 | h51
    · obtain ⟨q54, k52, k53⟩ := h50
      refine lv_icmp_eq (tgt := 1357) hx hb dL_law_389 (of_decide_eq_true rfl) (fun _ => ?_) (fun c => absurd ((Int32.toInt_inj.mp k45)) c)
      obtain ⟨x55, ex55⟩ : ∃ y : Int32, y = x0 + 6 := ⟨_, rfl⟩
      exact by
       have tx55 : x55.toInt = x0.toInt + 6 := (jadd ex55 rfl jz_6 (by omega) (by omega)).trans (by omega)
       refine lv_iinc (v := x55) (lv' := [(3, .int x55), (2, .ref (ad 55)), (1, .ref (ad 0)), (0, .ref b)]) hx hb dL_law_1357 hl (k := 0) rfl (by rw [ex55]; rfl) (of_decide_eq_true rfl) rfl (fun ls hl => ?_)
       refine lv_goto (tgt := 18) hx hb dL_law_1360 (of_decide_eq_true rfl) ?_
       have I56 : jI2 σ31 := jI2_fr ((congrFun (f33 2 (of_decide_eq_true rfl)) 0).trans (congrFun (f8 2 (of_decide_eq_true rfl)) 0)) ((congrFun (f33 2 (of_decide_eq_true rfl)) 1).trans (congrFun (f8 2 (of_decide_eq_true rfl)) 1)) ((congrFun (f33 2 (of_decide_eq_true rfl)) 2).trans (congrFun (f8 2 (of_decide_eq_true rfl)) 2)) ((congrFun (f33 2 (of_decide_eq_true rfl)) 3).trans (congrFun (f8 2 (of_decide_eq_true rfl)) 3)) ((f33 6 (of_decide_eq_true rfl)).trans (f8 6 (of_decide_eq_true rfl))) hI2
       have I57 : jI9 σ31 := jI9_fr (congrFun (f33 9 (of_decide_eq_true rfl)) 0) (f33 10 (of_decide_eq_true rfl)) (f33 11 (of_decide_eq_true rfl)) I12
       have I58 : jI12 σ31 := jI12_fr ((congrFun (f33 12 (of_decide_eq_true rfl)) 0).trans (congrFun (f8 12 (of_decide_eq_true rfl)) 0)) ((f33 13 (of_decide_eq_true rfl)).trans (f8 13 (of_decide_eq_true rfl))) hI12
       have I59 : jI16 σ31 := jI16_fr (congrFun (f33 16 (of_decide_eq_true rfl)) 0) (congrFun (f33 16 (of_decide_eq_true rfl)) 1) (congrFun (f33 16 (of_decide_eq_true rfl)) 2) (f33 17 (of_decide_eq_true rfl)) I13
       have I60 : jI18 σ31 := jI18_fr ((congrFun (f33 18 (of_decide_eq_true rfl)) 0).trans (congrFun (f8 18 (of_decide_eq_true rfl)) 0)) ((f33 19 (of_decide_eq_true rfl)).trans (f8 19 (of_decide_eq_true rfl))) hI18
       have I61 : jI22 σ31 := jI22_fr ((congrFun (f33 22 (of_decide_eq_true rfl)) 0).trans (congrFun (f8 22 (of_decide_eq_true rfl)) 0)) ((f33 23 (of_decide_eq_true rfl)).trans (f8 23 (of_decide_eq_true rfl))) hI22
       exact by
        have I62 : jI31 σ31 := jI31_fr ((congrFun (f33 31 (of_decide_eq_true rfl)) 8).trans (congrFun (f8 31 (of_decide_eq_true rfl)) 8)) ((f33 33 (of_decide_eq_true rfl)).trans (f8 33 (of_decide_eq_true rfl))) ((f33 36 (of_decide_eq_true rfl)).trans (f8 36 (of_decide_eq_true rfl))) hI31
        have I63 : jI38 σ31 := jI38_fr ((congrFun (f33 38 (of_decide_eq_true rfl)) 0).trans (congrFun (f8 38 (of_decide_eq_true rfl)) 0)) ((congrFun (f33 38 (of_decide_eq_true rfl)) 1).trans (congrFun (f8 38 (of_decide_eq_true rfl)) 1)) ((f33 39 (of_decide_eq_true rfl)).trans (f8 39 (of_decide_eq_true rfl))) hI38
        have I64 : jI43 σ31 := jI43_fr ((congrFun (f33 43 (of_decide_eq_true rfl)) 8).trans (congrFun (f8 43 (of_decide_eq_true rfl)) 8)) hI43
        have I65 : jI47 σ31 := jI47_fr (congrFun (f33 47 (of_decide_eq_true rfl)) 0) (f33 48 (of_decide_eq_true rfl)) (f33 49 (of_decide_eq_true rfl)) I14
        have I66 : jI50 σ31 := jI50_fr ((f33 52 (of_decide_eq_true rfl)).trans (f8 52 (of_decide_eq_true rfl))) hI50
        have I67 : jI101 σ31 := jI101_fr ((f34 4 (of_decide_eq_true rfl)).trans (congrFun (f8 55 (of_decide_eq_true rfl)) 4)) ((f34 5 (of_decide_eq_true rfl)).trans (congrFun (f8 55 (of_decide_eq_true rfl)) 5)) ((f33 56 (of_decide_eq_true rfl)).trans (f8 56 (of_decide_eq_true rfl))) ((f33 57 (of_decide_eq_true rfl)).trans (f8 57 (of_decide_eq_true rfl))) ((f33 58 (of_decide_eq_true rfl)).trans (f8 58 (of_decide_eq_true rfl))) ((f33 59 (of_decide_eq_true rfl)).trans (f8 59 (of_decide_eq_true rfl))) hI101
        have I68 : jI102 σ31 := jI102_fr ((f34 6 (of_decide_eq_true rfl)).trans (congrFun (f8 55 (of_decide_eq_true rfl)) 6)) ((f33 60 (of_decide_eq_true rfl)).trans (f8 60 (of_decide_eq_true rfl))) ((f33 61 (of_decide_eq_true rfl)).trans (f8 61 (of_decide_eq_true rfl))) hI102
        have I69 : jI103 σ31 := jI103_fr ((f34 9 (of_decide_eq_true rfl)).trans (congrFun (f8 55 (of_decide_eq_true rfl)) 9)) hI103
        have I70 : jI106 σ31 := jI106_fr ((f34 32 (of_decide_eq_true rfl)).trans (congrFun (f8 55 (of_decide_eq_true rfl)) 32)) ((f33 70 (of_decide_eq_true rfl)).trans (f8 70 (of_decide_eq_true rfl))) ((f33 71 (of_decide_eq_true rfl)).trans (f8 71 (of_decide_eq_true rfl))) ((f33 72 (of_decide_eq_true rfl)).trans (f8 72 (of_decide_eq_true rfl))) hI106
        have I71 : jI109 σ31 := jI109_fr ((f34 50 (of_decide_eq_true rfl)).trans (congrFun (f8 55 (of_decide_eq_true rfl)) 50)) hI109
        have I72 : jI110 σ31 := jI110_fr ((f33 86 (of_decide_eq_true rfl)).trans (f8 86 (of_decide_eq_true rfl))) ((f33 87 (of_decide_eq_true rfl)).trans (f8 87 (of_decide_eq_true rfl))) hI110
        have I73 : jI111 σ31 := jI111_fr ((f33 79 (of_decide_eq_true rfl)).trans (f8 79 (of_decide_eq_true rfl))) hI111
        have I74 : jI119 σ31 := jI119_fr ((f33 68 (of_decide_eq_true rfl)).trans (f8 68 (of_decide_eq_true rfl))) hI119
        have p75 : jKept σ31 := jKept.fr ((f33 75 (of_decide_eq_true rfl)).trans (f8 75 (of_decide_eq_true rfl))) ((f33 76 (of_decide_eq_true rfl)).trans (f8 76 (of_decide_eq_true rfl))) ((f33 77 (of_decide_eq_true rfl)).trans (f8 77 (of_decide_eq_true rfl))) hs_jKept
        have z76 : (σ31 9 0).toInt = (σ6 9 0).toInt := (congrArg Int32.toInt (show σ31 9 0 = (σ6 9 0) from (congrFun (f33 9 (of_decide_eq_true rfl)) 0)))
        exact by exact ih x55 σ31 τ _ _ ls (by have h9 := tx55; omega) ⟨I56, I57, I58, I59, I60, I61, I62, I63, I64, I65, I66, I67, I68, I69, I35, I36, I70, I37, I71, I72, I73, I74, p75, p38, (by omega), (show jTp (σ31 10) (σ31 63) (σ31 55 15).toInt by rw [show σ31 10 = σ 10 from ((f33 10 (of_decide_eq_true rfl)).trans (f8 10 (of_decide_eq_true rfl))), show σ31 63 = σ 63 from ((f33 63 (of_decide_eq_true rfl)).trans (f8 63 (of_decide_eq_true rfl)))]; exact hr0.le (by omega))⟩ hP hS (lv_sub hl [0, 1, 2, 3] rfl)
    · obtain ⟨q79, k77, k78⟩ := h51
      refine lv_icmp_eq (tgt := 1357) hx hb dL_law_389 (of_decide_eq_true rfl) (fun _ => ?_) (fun c => absurd ((Int32.toInt_inj.mp k45)) c)
      obtain ⟨x80, ex80⟩ : ∃ y : Int32, y = x0 + 6 := ⟨_, rfl⟩
      exact by
       have tx80 : x80.toInt = x0.toInt + 6 := (jadd ex80 rfl jz_6 (by omega) (by omega)).trans (by omega)
       refine lv_iinc (v := x80) (lv' := [(3, .int x80), (2, .ref (ad 55)), (1, .ref (ad 0)), (0, .ref b)]) hx hb dL_law_1357 hl (k := 0) rfl (by rw [ex80]; rfl) (of_decide_eq_true rfl) rfl (fun ls hl => ?_)
       refine lv_goto (tgt := 18) hx hb dL_law_1360 (of_decide_eq_true rfl) ?_
       have I81 : jI2 σ31 := jI2_fr ((congrFun (f33 2 (of_decide_eq_true rfl)) 0).trans (congrFun (f8 2 (of_decide_eq_true rfl)) 0)) ((congrFun (f33 2 (of_decide_eq_true rfl)) 1).trans (congrFun (f8 2 (of_decide_eq_true rfl)) 1)) ((congrFun (f33 2 (of_decide_eq_true rfl)) 2).trans (congrFun (f8 2 (of_decide_eq_true rfl)) 2)) ((congrFun (f33 2 (of_decide_eq_true rfl)) 3).trans (congrFun (f8 2 (of_decide_eq_true rfl)) 3)) ((f33 6 (of_decide_eq_true rfl)).trans (f8 6 (of_decide_eq_true rfl))) hI2
       have I82 : jI9 σ31 := jI9_fr (congrFun (f33 9 (of_decide_eq_true rfl)) 0) (f33 10 (of_decide_eq_true rfl)) (f33 11 (of_decide_eq_true rfl)) I12
       have I83 : jI12 σ31 := jI12_fr ((congrFun (f33 12 (of_decide_eq_true rfl)) 0).trans (congrFun (f8 12 (of_decide_eq_true rfl)) 0)) ((f33 13 (of_decide_eq_true rfl)).trans (f8 13 (of_decide_eq_true rfl))) hI12
       have I84 : jI16 σ31 := jI16_fr (congrFun (f33 16 (of_decide_eq_true rfl)) 0) (congrFun (f33 16 (of_decide_eq_true rfl)) 1) (congrFun (f33 16 (of_decide_eq_true rfl)) 2) (f33 17 (of_decide_eq_true rfl)) I13
       have I85 : jI18 σ31 := jI18_fr ((congrFun (f33 18 (of_decide_eq_true rfl)) 0).trans (congrFun (f8 18 (of_decide_eq_true rfl)) 0)) ((f33 19 (of_decide_eq_true rfl)).trans (f8 19 (of_decide_eq_true rfl))) hI18
       have I86 : jI22 σ31 := jI22_fr ((congrFun (f33 22 (of_decide_eq_true rfl)) 0).trans (congrFun (f8 22 (of_decide_eq_true rfl)) 0)) ((f33 23 (of_decide_eq_true rfl)).trans (f8 23 (of_decide_eq_true rfl))) hI22
       exact by
        have I87 : jI31 σ31 := jI31_fr ((congrFun (f33 31 (of_decide_eq_true rfl)) 8).trans (congrFun (f8 31 (of_decide_eq_true rfl)) 8)) ((f33 33 (of_decide_eq_true rfl)).trans (f8 33 (of_decide_eq_true rfl))) ((f33 36 (of_decide_eq_true rfl)).trans (f8 36 (of_decide_eq_true rfl))) hI31
        have I88 : jI38 σ31 := jI38_fr ((congrFun (f33 38 (of_decide_eq_true rfl)) 0).trans (congrFun (f8 38 (of_decide_eq_true rfl)) 0)) ((congrFun (f33 38 (of_decide_eq_true rfl)) 1).trans (congrFun (f8 38 (of_decide_eq_true rfl)) 1)) ((f33 39 (of_decide_eq_true rfl)).trans (f8 39 (of_decide_eq_true rfl))) hI38
        have I89 : jI43 σ31 := jI43_fr ((congrFun (f33 43 (of_decide_eq_true rfl)) 8).trans (congrFun (f8 43 (of_decide_eq_true rfl)) 8)) hI43
        have I90 : jI47 σ31 := jI47_fr (congrFun (f33 47 (of_decide_eq_true rfl)) 0) (f33 48 (of_decide_eq_true rfl)) (f33 49 (of_decide_eq_true rfl)) I14
        have I91 : jI50 σ31 := jI50_fr ((f33 52 (of_decide_eq_true rfl)).trans (f8 52 (of_decide_eq_true rfl))) hI50
        have I92 : jI101 σ31 := jI101_fr ((f34 4 (of_decide_eq_true rfl)).trans (congrFun (f8 55 (of_decide_eq_true rfl)) 4)) ((f34 5 (of_decide_eq_true rfl)).trans (congrFun (f8 55 (of_decide_eq_true rfl)) 5)) ((f33 56 (of_decide_eq_true rfl)).trans (f8 56 (of_decide_eq_true rfl))) ((f33 57 (of_decide_eq_true rfl)).trans (f8 57 (of_decide_eq_true rfl))) ((f33 58 (of_decide_eq_true rfl)).trans (f8 58 (of_decide_eq_true rfl))) ((f33 59 (of_decide_eq_true rfl)).trans (f8 59 (of_decide_eq_true rfl))) hI101
        have I93 : jI102 σ31 := jI102_fr ((f34 6 (of_decide_eq_true rfl)).trans (congrFun (f8 55 (of_decide_eq_true rfl)) 6)) ((f33 60 (of_decide_eq_true rfl)).trans (f8 60 (of_decide_eq_true rfl))) ((f33 61 (of_decide_eq_true rfl)).trans (f8 61 (of_decide_eq_true rfl))) hI102
        have I94 : jI103 σ31 := jI103_fr ((f34 9 (of_decide_eq_true rfl)).trans (congrFun (f8 55 (of_decide_eq_true rfl)) 9)) hI103
        have I95 : jI106 σ31 := jI106_fr ((f34 32 (of_decide_eq_true rfl)).trans (congrFun (f8 55 (of_decide_eq_true rfl)) 32)) ((f33 70 (of_decide_eq_true rfl)).trans (f8 70 (of_decide_eq_true rfl))) ((f33 71 (of_decide_eq_true rfl)).trans (f8 71 (of_decide_eq_true rfl))) ((f33 72 (of_decide_eq_true rfl)).trans (f8 72 (of_decide_eq_true rfl))) hI106
        have I96 : jI109 σ31 := jI109_fr ((f34 50 (of_decide_eq_true rfl)).trans (congrFun (f8 55 (of_decide_eq_true rfl)) 50)) hI109
        have I97 : jI110 σ31 := jI110_fr ((f33 86 (of_decide_eq_true rfl)).trans (f8 86 (of_decide_eq_true rfl))) ((f33 87 (of_decide_eq_true rfl)).trans (f8 87 (of_decide_eq_true rfl))) hI110
        have I98 : jI111 σ31 := jI111_fr ((f33 79 (of_decide_eq_true rfl)).trans (f8 79 (of_decide_eq_true rfl))) hI111
        have I99 : jI119 σ31 := jI119_fr ((f33 68 (of_decide_eq_true rfl)).trans (f8 68 (of_decide_eq_true rfl))) hI119
        have p100 : jKept σ31 := jKept.fr ((f33 75 (of_decide_eq_true rfl)).trans (f8 75 (of_decide_eq_true rfl))) ((f33 76 (of_decide_eq_true rfl)).trans (f8 76 (of_decide_eq_true rfl))) ((f33 77 (of_decide_eq_true rfl)).trans (f8 77 (of_decide_eq_true rfl))) hs_jKept
        have z101 : (σ31 9 0).toInt = (σ6 9 0).toInt := (congrArg Int32.toInt (show σ31 9 0 = (σ6 9 0) from (congrFun (f33 9 (of_decide_eq_true rfl)) 0)))
        exact by exact ih x80 σ31 τ _ _ ls (by have h9 := tx80; omega) ⟨I81, I82, I83, I84, I85, I86, I87, I88, I89, I90, I91, I92, I93, I94, I35, I36, I95, I37, I96, I97, I98, I99, p100, p38, (by omega), (show jTp (σ31 10) (σ31 63) (σ31 55 15).toInt by rw [show σ31 10 = σ 10 from ((f33 10 (of_decide_eq_true rfl)).trans (f8 10 (of_decide_eq_true rfl))), show σ31 63 = σ 63 from ((f33 63 (of_decide_eq_true rfl)).trans (f8 63 (of_decide_eq_true rfl)))]; exact hr0.le (by omega))⟩ hP hS (lv_sub hl [0, 1, 2, 3] rfl)
  · obtain ⟨q104, k102, k103⟩ := h22
    refine lv_aload_n hx hb dL_law_385 rfl (lv_at hl 1 rfl) ?_
    have I105 : jI104 σ6 := jI104_fr (congrFun (f8 55 (of_decide_eq_true rfl)) 10) (congrFun (f8 55 (of_decide_eq_true rfl)) 12) (congrFun (f8 55 (of_decide_eq_true rfl)) 13) (f8 62 (of_decide_eq_true rfl)) (f8 67 (of_decide_eq_true rfl)) hI104
    have I106 : jI105 σ6 := jI105_fr (congrFun (f8 55 (of_decide_eq_true rfl)) 15) (f8 65 (of_decide_eq_true rfl)) hI105
    have I107 : jI107 σ6 := jI107_fr (congrFun (f8 55 (of_decide_eq_true rfl)) 12) (congrFun (f8 55 (of_decide_eq_true rfl)) 47) (f8 80 (of_decide_eq_true rfl)) hI107
    have p108 : jBook σ6 := jBook.fr (congrFun (f8 55 (of_decide_eq_true rfl)) 47) (congrFun (f8 55 (of_decide_eq_true rfl)) 10) (f8 81 (of_decide_eq_true rfl)) hs_jBook
    have z109 : (σ6 55 47).toInt = (σ 55 47).toInt := (congrArg Int32.toInt (show σ6 55 47 = (σ 55 47) from (congrFun (f8 55 (of_decide_eq_true rfl)) 47)))
    refine jcallV (As := []) (rest := [.int r7]) ⟨hx, hb, hml, hown, hts⟩ hK hP hA hS hZ (c_X12_order l D cI cL ad zz hJ σ6 τ I105 I106 I107 p108) cw_RL_40 (jc_55 cI cL ad σ6 τ) rfl ⟨Nat.le_of_ble_eq_true rfl, Nat.le_of_ble_eq_true rfl⟩ rfl rfl rfl hl.1 rfl (Nat.le_of_ble_eq_true rfl) dL_law_386 ⟨Nat.le_of_ble_eq_true rfl, Nat.le_of_ble_eq_true rfl⟩ (fun r111 σ110 τ110 H locs h110 hP hS => ?_)
    obtain ⟨rfl, f112, f113, I114, I115, I116, p117, w118, h110⟩ := h110
    obtain ⟨i120, w121⟩ : (0 ≤ (σ110 55 15).toInt ∧ (σ110 55 15).toInt ≤ 80) ∧ (∀ k : Nat, k < 2 → (-1) ≤ (σ110 65 k).toInt ∧ (σ110 65 k).toInt ≤ 80) := id I115
    have z122 : (σ6 55 15).toInt = (σ 55 15).toInt := (congrArg Int32.toInt (show σ6 55 15 = (σ 55 15) from (congrFun (f8 55 (of_decide_eq_true rfl)) 15)))
    rw [show (σ6 55 15).toInt = (σ 55 15).toInt from by omega, show σ6 63 = σ 63 from (f8 63 (of_decide_eq_true rfl))] at w118
    rw [show (σ 9 0).toInt = (σ 55 15).toInt from by omega] at w15
    have k124 := jOrA.res hr0 w15 w118
    obtain ⟨k128, h110⟩ := h110
    rcases h110 with h129 | h130
    · obtain ⟨q133, k131, k132⟩ := h129
      refine lv_icmp_eq (tgt := 1357) hx hb dL_law_389 (of_decide_eq_true rfl) (fun _ => ?_) (fun c => absurd ((Int32.toInt_inj.mp k124)) c)
      obtain ⟨x134, ex134⟩ : ∃ y : Int32, y = x0 + 6 := ⟨_, rfl⟩
      exact by
       have tx134 : x134.toInt = x0.toInt + 6 := (jadd ex134 rfl jz_6 (by omega) (by omega)).trans (by omega)
       refine lv_iinc (v := x134) (lv' := [(3, .int x134), (2, .ref (ad 55)), (1, .ref (ad 0)), (0, .ref b)]) hx hb dL_law_1357 hl (k := 0) rfl (by rw [ex134]; rfl) (of_decide_eq_true rfl) rfl (fun ls hl => ?_)
       refine lv_goto (tgt := 18) hx hb dL_law_1360 (of_decide_eq_true rfl) ?_
       have I135 : jI2 σ110 := jI2_fr ((congrFun (f112 2 (of_decide_eq_true rfl)) 0).trans (congrFun (f8 2 (of_decide_eq_true rfl)) 0)) ((congrFun (f112 2 (of_decide_eq_true rfl)) 1).trans (congrFun (f8 2 (of_decide_eq_true rfl)) 1)) ((congrFun (f112 2 (of_decide_eq_true rfl)) 2).trans (congrFun (f8 2 (of_decide_eq_true rfl)) 2)) ((congrFun (f112 2 (of_decide_eq_true rfl)) 3).trans (congrFun (f8 2 (of_decide_eq_true rfl)) 3)) ((f112 6 (of_decide_eq_true rfl)).trans (f8 6 (of_decide_eq_true rfl))) hI2
       have I136 : jI9 σ110 := jI9_fr (congrFun (f112 9 (of_decide_eq_true rfl)) 0) (f112 10 (of_decide_eq_true rfl)) (f112 11 (of_decide_eq_true rfl)) I12
       have I137 : jI12 σ110 := jI12_fr ((congrFun (f112 12 (of_decide_eq_true rfl)) 0).trans (congrFun (f8 12 (of_decide_eq_true rfl)) 0)) ((f112 13 (of_decide_eq_true rfl)).trans (f8 13 (of_decide_eq_true rfl))) hI12
       have I138 : jI16 σ110 := jI16_fr (congrFun (f112 16 (of_decide_eq_true rfl)) 0) (congrFun (f112 16 (of_decide_eq_true rfl)) 1) (congrFun (f112 16 (of_decide_eq_true rfl)) 2) (f112 17 (of_decide_eq_true rfl)) I13
       have I139 : jI18 σ110 := jI18_fr ((congrFun (f112 18 (of_decide_eq_true rfl)) 0).trans (congrFun (f8 18 (of_decide_eq_true rfl)) 0)) ((f112 19 (of_decide_eq_true rfl)).trans (f8 19 (of_decide_eq_true rfl))) hI18
       have I140 : jI22 σ110 := jI22_fr ((congrFun (f112 22 (of_decide_eq_true rfl)) 0).trans (congrFun (f8 22 (of_decide_eq_true rfl)) 0)) ((f112 23 (of_decide_eq_true rfl)).trans (f8 23 (of_decide_eq_true rfl))) hI22
       exact by
        have I141 : jI31 σ110 := jI31_fr ((congrFun (f112 31 (of_decide_eq_true rfl)) 8).trans (congrFun (f8 31 (of_decide_eq_true rfl)) 8)) ((f112 33 (of_decide_eq_true rfl)).trans (f8 33 (of_decide_eq_true rfl))) ((f112 36 (of_decide_eq_true rfl)).trans (f8 36 (of_decide_eq_true rfl))) hI31
        have I142 : jI38 σ110 := jI38_fr ((congrFun (f112 38 (of_decide_eq_true rfl)) 0).trans (congrFun (f8 38 (of_decide_eq_true rfl)) 0)) ((congrFun (f112 38 (of_decide_eq_true rfl)) 1).trans (congrFun (f8 38 (of_decide_eq_true rfl)) 1)) ((f112 39 (of_decide_eq_true rfl)).trans (f8 39 (of_decide_eq_true rfl))) hI38
        have I143 : jI43 σ110 := jI43_fr ((congrFun (f112 43 (of_decide_eq_true rfl)) 8).trans (congrFun (f8 43 (of_decide_eq_true rfl)) 8)) hI43
        have I144 : jI47 σ110 := jI47_fr (congrFun (f112 47 (of_decide_eq_true rfl)) 0) (f112 48 (of_decide_eq_true rfl)) (f112 49 (of_decide_eq_true rfl)) I14
        have I145 : jI50 σ110 := jI50_fr ((f112 52 (of_decide_eq_true rfl)).trans (f8 52 (of_decide_eq_true rfl))) hI50
        have I146 : jI101 σ110 := jI101_fr ((f113 4 (of_decide_eq_true rfl)).trans (congrFun (f8 55 (of_decide_eq_true rfl)) 4)) ((f113 5 (of_decide_eq_true rfl)).trans (congrFun (f8 55 (of_decide_eq_true rfl)) 5)) ((f112 56 (of_decide_eq_true rfl)).trans (f8 56 (of_decide_eq_true rfl))) ((f112 57 (of_decide_eq_true rfl)).trans (f8 57 (of_decide_eq_true rfl))) ((f112 58 (of_decide_eq_true rfl)).trans (f8 58 (of_decide_eq_true rfl))) ((f112 59 (of_decide_eq_true rfl)).trans (f8 59 (of_decide_eq_true rfl))) hI101
        have I147 : jI102 σ110 := jI102_fr ((f113 6 (of_decide_eq_true rfl)).trans (congrFun (f8 55 (of_decide_eq_true rfl)) 6)) ((f112 60 (of_decide_eq_true rfl)).trans (f8 60 (of_decide_eq_true rfl))) ((f112 61 (of_decide_eq_true rfl)).trans (f8 61 (of_decide_eq_true rfl))) hI102
        have I148 : jI103 σ110 := jI103_fr ((f113 9 (of_decide_eq_true rfl)).trans (congrFun (f8 55 (of_decide_eq_true rfl)) 9)) hI103
        have I149 : jI106 σ110 := jI106_fr ((f113 32 (of_decide_eq_true rfl)).trans (congrFun (f8 55 (of_decide_eq_true rfl)) 32)) ((f112 70 (of_decide_eq_true rfl)).trans (f8 70 (of_decide_eq_true rfl))) ((f112 71 (of_decide_eq_true rfl)).trans (f8 71 (of_decide_eq_true rfl))) ((f112 72 (of_decide_eq_true rfl)).trans (f8 72 (of_decide_eq_true rfl))) hI106
        have I150 : jI109 σ110 := jI109_fr ((f113 50 (of_decide_eq_true rfl)).trans (congrFun (f8 55 (of_decide_eq_true rfl)) 50)) hI109
        have I151 : jI110 σ110 := jI110_fr ((f112 86 (of_decide_eq_true rfl)).trans (f8 86 (of_decide_eq_true rfl))) ((f112 87 (of_decide_eq_true rfl)).trans (f8 87 (of_decide_eq_true rfl))) hI110
        have I152 : jI111 σ110 := jI111_fr ((f112 79 (of_decide_eq_true rfl)).trans (f8 79 (of_decide_eq_true rfl))) hI111
        have I153 : jI119 σ110 := jI119_fr ((f112 68 (of_decide_eq_true rfl)).trans (f8 68 (of_decide_eq_true rfl))) hI119
        have p154 : jKept σ110 := jKept.fr ((f112 75 (of_decide_eq_true rfl)).trans (f8 75 (of_decide_eq_true rfl))) ((f112 76 (of_decide_eq_true rfl)).trans (f8 76 (of_decide_eq_true rfl))) ((f112 77 (of_decide_eq_true rfl)).trans (f8 77 (of_decide_eq_true rfl))) hs_jKept
        have z155 : (σ110 9 0).toInt = (σ6 9 0).toInt := (congrArg Int32.toInt (show σ110 9 0 = (σ6 9 0) from (congrFun (f112 9 (of_decide_eq_true rfl)) 0)))
        exact by exact ih x134 σ110 τ _ _ ls (by have h9 := tx134; omega) ⟨I135, I136, I137, I138, I139, I140, I141, I142, I143, I144, I145, I146, I147, I148, I114, I115, I149, I116, I150, I151, I152, I153, p154, p117, (by omega), (show jTp (σ110 10) (σ110 63) (σ110 55 15).toInt by rw [show σ110 10 = σ 10 from ((f112 10 (of_decide_eq_true rfl)).trans (f8 10 (of_decide_eq_true rfl))), show σ110 63 = σ 63 from ((f112 63 (of_decide_eq_true rfl)).trans (f8 63 (of_decide_eq_true rfl)))]; exact hr0.le (by omega))⟩ hP hS (lv_sub hl [0, 1, 2, 3] rfl)
    · obtain ⟨q158, k156, k157⟩ := h130
      refine lv_icmp_eq (tgt := 1357) hx hb dL_law_389 (of_decide_eq_true rfl) (fun _ => ?_) (fun c => absurd ((Int32.toInt_inj.mp k124)) c)
      obtain ⟨x159, ex159⟩ : ∃ y : Int32, y = x0 + 6 := ⟨_, rfl⟩
      exact by
       have tx159 : x159.toInt = x0.toInt + 6 := (jadd ex159 rfl jz_6 (by omega) (by omega)).trans (by omega)
       refine lv_iinc (v := x159) (lv' := [(3, .int x159), (2, .ref (ad 55)), (1, .ref (ad 0)), (0, .ref b)]) hx hb dL_law_1357 hl (k := 0) rfl (by rw [ex159]; rfl) (of_decide_eq_true rfl) rfl (fun ls hl => ?_)
       refine lv_goto (tgt := 18) hx hb dL_law_1360 (of_decide_eq_true rfl) ?_
       have I160 : jI2 σ110 := jI2_fr ((congrFun (f112 2 (of_decide_eq_true rfl)) 0).trans (congrFun (f8 2 (of_decide_eq_true rfl)) 0)) ((congrFun (f112 2 (of_decide_eq_true rfl)) 1).trans (congrFun (f8 2 (of_decide_eq_true rfl)) 1)) ((congrFun (f112 2 (of_decide_eq_true rfl)) 2).trans (congrFun (f8 2 (of_decide_eq_true rfl)) 2)) ((congrFun (f112 2 (of_decide_eq_true rfl)) 3).trans (congrFun (f8 2 (of_decide_eq_true rfl)) 3)) ((f112 6 (of_decide_eq_true rfl)).trans (f8 6 (of_decide_eq_true rfl))) hI2
       have I161 : jI9 σ110 := jI9_fr (congrFun (f112 9 (of_decide_eq_true rfl)) 0) (f112 10 (of_decide_eq_true rfl)) (f112 11 (of_decide_eq_true rfl)) I12
       have I162 : jI12 σ110 := jI12_fr ((congrFun (f112 12 (of_decide_eq_true rfl)) 0).trans (congrFun (f8 12 (of_decide_eq_true rfl)) 0)) ((f112 13 (of_decide_eq_true rfl)).trans (f8 13 (of_decide_eq_true rfl))) hI12
       have I163 : jI16 σ110 := jI16_fr (congrFun (f112 16 (of_decide_eq_true rfl)) 0) (congrFun (f112 16 (of_decide_eq_true rfl)) 1) (congrFun (f112 16 (of_decide_eq_true rfl)) 2) (f112 17 (of_decide_eq_true rfl)) I13
       have I164 : jI18 σ110 := jI18_fr ((congrFun (f112 18 (of_decide_eq_true rfl)) 0).trans (congrFun (f8 18 (of_decide_eq_true rfl)) 0)) ((f112 19 (of_decide_eq_true rfl)).trans (f8 19 (of_decide_eq_true rfl))) hI18
       have I165 : jI22 σ110 := jI22_fr ((congrFun (f112 22 (of_decide_eq_true rfl)) 0).trans (congrFun (f8 22 (of_decide_eq_true rfl)) 0)) ((f112 23 (of_decide_eq_true rfl)).trans (f8 23 (of_decide_eq_true rfl))) hI22
       exact by
        have I166 : jI31 σ110 := jI31_fr ((congrFun (f112 31 (of_decide_eq_true rfl)) 8).trans (congrFun (f8 31 (of_decide_eq_true rfl)) 8)) ((f112 33 (of_decide_eq_true rfl)).trans (f8 33 (of_decide_eq_true rfl))) ((f112 36 (of_decide_eq_true rfl)).trans (f8 36 (of_decide_eq_true rfl))) hI31
        have I167 : jI38 σ110 := jI38_fr ((congrFun (f112 38 (of_decide_eq_true rfl)) 0).trans (congrFun (f8 38 (of_decide_eq_true rfl)) 0)) ((congrFun (f112 38 (of_decide_eq_true rfl)) 1).trans (congrFun (f8 38 (of_decide_eq_true rfl)) 1)) ((f112 39 (of_decide_eq_true rfl)).trans (f8 39 (of_decide_eq_true rfl))) hI38
        have I168 : jI43 σ110 := jI43_fr ((congrFun (f112 43 (of_decide_eq_true rfl)) 8).trans (congrFun (f8 43 (of_decide_eq_true rfl)) 8)) hI43
        have I169 : jI47 σ110 := jI47_fr (congrFun (f112 47 (of_decide_eq_true rfl)) 0) (f112 48 (of_decide_eq_true rfl)) (f112 49 (of_decide_eq_true rfl)) I14
        have I170 : jI50 σ110 := jI50_fr ((f112 52 (of_decide_eq_true rfl)).trans (f8 52 (of_decide_eq_true rfl))) hI50
        have I171 : jI101 σ110 := jI101_fr ((f113 4 (of_decide_eq_true rfl)).trans (congrFun (f8 55 (of_decide_eq_true rfl)) 4)) ((f113 5 (of_decide_eq_true rfl)).trans (congrFun (f8 55 (of_decide_eq_true rfl)) 5)) ((f112 56 (of_decide_eq_true rfl)).trans (f8 56 (of_decide_eq_true rfl))) ((f112 57 (of_decide_eq_true rfl)).trans (f8 57 (of_decide_eq_true rfl))) ((f112 58 (of_decide_eq_true rfl)).trans (f8 58 (of_decide_eq_true rfl))) ((f112 59 (of_decide_eq_true rfl)).trans (f8 59 (of_decide_eq_true rfl))) hI101
        have I172 : jI102 σ110 := jI102_fr ((f113 6 (of_decide_eq_true rfl)).trans (congrFun (f8 55 (of_decide_eq_true rfl)) 6)) ((f112 60 (of_decide_eq_true rfl)).trans (f8 60 (of_decide_eq_true rfl))) ((f112 61 (of_decide_eq_true rfl)).trans (f8 61 (of_decide_eq_true rfl))) hI102
        have I173 : jI103 σ110 := jI103_fr ((f113 9 (of_decide_eq_true rfl)).trans (congrFun (f8 55 (of_decide_eq_true rfl)) 9)) hI103
        have I174 : jI106 σ110 := jI106_fr ((f113 32 (of_decide_eq_true rfl)).trans (congrFun (f8 55 (of_decide_eq_true rfl)) 32)) ((f112 70 (of_decide_eq_true rfl)).trans (f8 70 (of_decide_eq_true rfl))) ((f112 71 (of_decide_eq_true rfl)).trans (f8 71 (of_decide_eq_true rfl))) ((f112 72 (of_decide_eq_true rfl)).trans (f8 72 (of_decide_eq_true rfl))) hI106
        have I175 : jI109 σ110 := jI109_fr ((f113 50 (of_decide_eq_true rfl)).trans (congrFun (f8 55 (of_decide_eq_true rfl)) 50)) hI109
        have I176 : jI110 σ110 := jI110_fr ((f112 86 (of_decide_eq_true rfl)).trans (f8 86 (of_decide_eq_true rfl))) ((f112 87 (of_decide_eq_true rfl)).trans (f8 87 (of_decide_eq_true rfl))) hI110
        have I177 : jI111 σ110 := jI111_fr ((f112 79 (of_decide_eq_true rfl)).trans (f8 79 (of_decide_eq_true rfl))) hI111
        have I178 : jI119 σ110 := jI119_fr ((f112 68 (of_decide_eq_true rfl)).trans (f8 68 (of_decide_eq_true rfl))) hI119
        have p179 : jKept σ110 := jKept.fr ((f112 75 (of_decide_eq_true rfl)).trans (f8 75 (of_decide_eq_true rfl))) ((f112 76 (of_decide_eq_true rfl)).trans (f8 76 (of_decide_eq_true rfl))) ((f112 77 (of_decide_eq_true rfl)).trans (f8 77 (of_decide_eq_true rfl))) hs_jKept
        have z180 : (σ110 9 0).toInt = (σ6 9 0).toInt := (congrArg Int32.toInt (show σ110 9 0 = (σ6 9 0) from (congrFun (f112 9 (of_decide_eq_true rfl)) 0)))
        exact by exact ih x159 σ110 τ _ _ ls (by have h9 := tx159; omega) ⟨I160, I161, I162, I163, I164, I165, I166, I167, I168, I169, I170, I171, I172, I173, I114, I115, I174, I116, I175, I176, I177, I178, p179, p117, (by omega), (show jTp (σ110 10) (σ110 63) (σ110 55 15).toInt by rw [show σ110 10 = σ 10 from ((f112 10 (of_decide_eq_true rfl)).trans (f8 10 (of_decide_eq_true rfl))), show σ110 63 = σ 63 from ((f112 63 (of_decide_eq_true rfl)).trans (f8 63 (of_decide_eq_true rfl)))]; exact hr0.le (by omega))⟩ hP hS (lv_sub hl [0, 1, 2, 3] rfl)
set_option maxHeartbeats 4000000 in
set_option maxRecDepth 100000 in
theorem law_case_6 {p : Program} {e : Env} {s : State} {m : MethodId} {below : List Frame} {meth : Method} {c : Code} (l : Launch) {b L : Nat} {xs : Nat → Int32} {D : va_G} {cI cL : ClassId} {ad zz : Nat → Nat} (C0 : lw_At p s m meth c b L xs) (hJ : jD ad) (hA : ∀ q, jA ad q → s.heap.size ≤ q) (hK : jK D cI cL s) (hZ : jZ zz (fun q : Nat => s.heap.size ≤ q) s s.heap) {x0 : Int32} (hx0 : 0 ≤ x0.toInt) (hxL : x0.toInt + 6 ≤ (L : Int)) (hL : L ≤ 384) {σ : Nat → Nat → Int32} {τ : Nat → Nat → Int64} {H : Heap} {locs : List Loc} (hS : va_S (fun q : Nat => s.heap.size ≤ q) s.heap H locs) {ls : Array Slot} (hAll : jAll σ τ) (hP : jH D cI cL ad σ τ H) (hl : lv_has ls 4 [(3, .int x0), (2, .ref (ad 55)), (1, .ref (ad 0)), (0, .ref b)]) (ih : ∀ (x1 : Int32) (σ : Nat → Nat → Int32) (τ : Nat → Nat → Int64) (H : Heap) (locs : List Loc) (ls : Array Slot), x1.toInt = x0.toInt + 6 → jAll σ τ → jH D cI cL ad σ τ H → va_S (fun q : Nat => s.heap.size ≤ q) s.heap H locs → lv_has ls 4 [(3, .int x1), (2, .ref (ad 55)), (1, .ref (ad 0)), (0, .ref b)] → W p l e room_1 s m #[Value.ref b] below meth c H locs 90 348600 (lw_Z below #[Value.ref b] s) (F0 m 18 ls [])) : W p l e room_1 s m #[Value.ref b] below meth c H locs 90 348600 (lw_Z below #[Value.ref b] s) (F0 m 394 ls []) := by
  obtain ⟨hx, hb, hr, hml, hown, hts0, hX, hbl, hlocks, hgv⟩ := C0
  have hts : ∀ w ∈ wsL_law, w.before #[Value.ref b] s = true := fun w h => hts0 w (wsL_law_in w h)
  have hbA : ¬ (fun q : Nat => s.heap.size ≤ q) b := Nat.not_le.mpr hbl
  have hown : s.vm.findClass RL = some m.cls := hown
  obtain ⟨hI2, hI9, hI12, hI16, hI18, hI22, hI31, hI38, hI43, hI47, hI50, hI101, hI102, hI103, hI104, hI105, hI106, hI107, hI109, hI110, hI111, hI119, hs_jKept, hs_jBook, ht0, hr0⟩ := hAll
  have hL9 : (L : Int) ≤ 384 := by omega
  obtain ⟨i1, w2, w3⟩ : (0 ≤ (σ 9 0).toInt ∧ (σ 9 0).toInt ≤ 80) ∧ (∀ k : Nat, k < 80 → 0 ≤ (σ 10 k).toInt ∧ (σ 10 k).toInt ≤ 255) ∧ (∀ k : Nat, k < 8 → 0 ≤ (σ 11 k).toInt ∧ (σ 11 k).toInt ≤ 3) := id hI9
  obtain ⟨i4, w5⟩ : (0 ≤ (σ 55 15).toInt ∧ (σ 55 15).toInt ≤ 80) ∧ (∀ k : Nat, k < 2 → (-1) ≤ (σ 65 k).toInt ∧ (σ 65 k).toInt ≤ 80) := id hI105
  refine lv_aload_n hx hb dL_law_394 rfl (lv_at hl 2 rfl) ?_
  refine lv_aload_n hx hb dL_law_395 rfl (lv_at hl 3 rfl) ?_
  refine lv_iload_n hx hb dL_law_396 rfl (lv_at hl 0 rfl) ?_
  refine lv_iconst (v := 1) hx hb dL_law_397 (of_decide_eq_true rfl) ?_
  have g6 := jrg (rfl : x0.toInt = x0.toInt)
  refine lv_iadd hx hb dL_law_398 ?_
  refine lv_topi (fun x7 ex7 => ?_)
  exact by
   have tx7 : x7.toInt = x0.toInt + 1 := (jadd ex7 rfl jz_1 (by omega) (by omega)).trans (by omega)
   refine va_sld hx hb hX hbl hbA hS (jin tx7 (by omega) (by omega)) dL_law_399 ?_
   have g8 := jrg (rfl : (xs x7.toNatClampNeg).toInt = (xs x7.toNatClampNeg).toInt)
   refine jcallV (As := [.int (xs x7.toNatClampNeg)]) (rest := []) ⟨hx, hb, hml, hown, hts⟩ hK hP hA hS hZ (c_X11_text l D cI cL ad zz hJ σ τ (xs x7.toNatClampNeg) ((xs x7.toNatClampNeg).toInt) rfl hI9 hI12 hI18 hI22) cw_RL_41 (jc_0 cI cL ad σ τ) rfl ⟨Nat.le_of_ble_eq_true rfl, Nat.le_of_ble_eq_true rfl⟩ rfl rfl rfl hl.1 rfl (Nat.le_of_ble_eq_true rfl) dL_law_400 ⟨Nat.le_of_ble_eq_true rfl, Nat.le_of_ble_eq_true rfl⟩ (fun r10 σ9 τ9 H locs h9 hP hS => ?_)
   obtain ⟨rfl, f11, f12, f13, f14, f15, f16, I17, I18, I19, I20, h9⟩ := h9
   obtain ⟨i22, w23, w24⟩ : (0 ≤ (σ9 9 0).toInt ∧ (σ9 9 0).toInt ≤ 80) ∧ (∀ k : Nat, k < 80 → 0 ≤ (σ9 10 k).toInt ∧ (σ9 10 k).toInt ≤ 255) ∧ (∀ k : Nat, k < 8 → 0 ≤ (σ9 11 k).toInt ∧ (σ9 11 k).toInt ≤ 3) := id I17
   obtain ⟨k25, h9⟩ := h9
   refine lv_pop hx hb dL_law_403 rfl ?_
   refine lv_aload_n hx hb dL_law_404 rfl (lv_at hl 1 rfl) ?_
   exact by
    refine lv_aload_n hx hb dL_law_405 rfl (lv_at hl 3 rfl) ?_
    refine lv_iload_n hx hb dL_law_406 rfl (lv_at hl 0 rfl) ?_
    refine lv_iconst (v := 1) hx hb dL_law_407 (of_decide_eq_true rfl) ?_
    refine lv_iadd hx hb dL_law_408 ?_
    refine jtopr ex7.symm ?_
    refine va_sld hx hb hX hbl hbA hS (jin tx7 (by omega) (by omega)) dL_law_409 ?_
    have I26 : jI105 σ9 := jI105_fr (congrFun (f11 55 (of_decide_eq_true rfl)) 15) (f11 65 (of_decide_eq_true rfl)) hI105
    have z27 : (σ9 55 15).toInt = (σ 55 15).toInt := (congrArg Int32.toInt (show σ9 55 15 = (σ 55 15) from (congrFun (f11 55 (of_decide_eq_true rfl)) 15)))
    refine jcallV (As := [.int (xs x7.toNatClampNeg)]) (rest := []) ⟨hx, hb, hml, hown, hts⟩ hK hP hA hS hZ (c_X12_text l D cI cL ad zz hJ σ9 τ (xs x7.toNatClampNeg) ((xs x7.toNatClampNeg).toInt) rfl I26) cw_RL_44 (jc_55 cI cL ad σ9 τ) rfl ⟨Nat.le_of_ble_eq_true rfl, Nat.le_of_ble_eq_true rfl⟩ rfl rfl rfl hl.1 rfl (Nat.le_of_ble_eq_true rfl) dL_law_410 ⟨Nat.le_of_ble_eq_true rfl, Nat.le_of_ble_eq_true rfl⟩ (fun r29 σ28 τ28 H locs h28 hP hS => ?_)
    exact by
     obtain ⟨rfl, f30, f31, I32, h28⟩ := h28
     obtain ⟨i34, w35⟩ : (0 ≤ (σ28 55 15).toInt ∧ (σ28 55 15).toInt ≤ 80) ∧ (∀ k : Nat, k < 2 → (-1) ≤ (σ28 65 k).toInt ∧ (σ28 65 k).toInt ≤ 80) := id I32
     obtain ⟨k36, h28⟩ := h28
     refine lv_pop hx hb dL_law_413 rfl ?_
     refine lv_goto (tgt := 1357) hx hb dL_law_414 (of_decide_eq_true rfl) ?_
     obtain ⟨x37, ex37⟩ : ∃ y : Int32, y = x0 + 6 := ⟨_, rfl⟩
     have tx37 : x37.toInt = x0.toInt + 6 := (jadd ex37 rfl jz_6 (by omega) (by omega)).trans (by omega)
     refine lv_iinc (v := x37) (lv' := [(3, .int x37), (2, .ref (ad 55)), (1, .ref (ad 0)), (0, .ref b)]) hx hb dL_law_1357 hl (k := 0) rfl (by rw [ex37]; rfl) (of_decide_eq_true rfl) rfl (fun ls hl => ?_)
     refine lv_goto (tgt := 18) hx hb dL_law_1360 (of_decide_eq_true rfl) ?_
     exact by
      have I38 : jI2 σ28 := jI2_fr ((congrFun (f30 2 (of_decide_eq_true rfl)) 0).trans (congrFun (f11 2 (of_decide_eq_true rfl)) 0)) ((congrFun (f30 2 (of_decide_eq_true rfl)) 1).trans (congrFun (f11 2 (of_decide_eq_true rfl)) 1)) ((congrFun (f30 2 (of_decide_eq_true rfl)) 2).trans (congrFun (f11 2 (of_decide_eq_true rfl)) 2)) ((congrFun (f30 2 (of_decide_eq_true rfl)) 3).trans (congrFun (f11 2 (of_decide_eq_true rfl)) 3)) ((f30 6 (of_decide_eq_true rfl)).trans (f11 6 (of_decide_eq_true rfl))) hI2
      have I39 : jI9 σ28 := jI9_fr (congrFun (f30 9 (of_decide_eq_true rfl)) 0) (f30 10 (of_decide_eq_true rfl)) (f30 11 (of_decide_eq_true rfl)) I17
      have I40 : jI12 σ28 := jI12_fr (congrFun (f30 12 (of_decide_eq_true rfl)) 0) (f30 13 (of_decide_eq_true rfl)) I18
      have I41 : jI16 σ28 := jI16_fr ((congrFun (f30 16 (of_decide_eq_true rfl)) 0).trans (congrFun (f11 16 (of_decide_eq_true rfl)) 0)) ((congrFun (f30 16 (of_decide_eq_true rfl)) 1).trans (congrFun (f11 16 (of_decide_eq_true rfl)) 1)) ((congrFun (f30 16 (of_decide_eq_true rfl)) 2).trans (congrFun (f11 16 (of_decide_eq_true rfl)) 2)) ((f30 17 (of_decide_eq_true rfl)).trans (f11 17 (of_decide_eq_true rfl))) hI16
      have I42 : jI18 σ28 := jI18_fr (congrFun (f30 18 (of_decide_eq_true rfl)) 0) (f30 19 (of_decide_eq_true rfl)) I19
      have I43 : jI22 σ28 := jI22_fr (congrFun (f30 22 (of_decide_eq_true rfl)) 0) (f30 23 (of_decide_eq_true rfl)) I20
      have I44 : jI31 σ28 := jI31_fr ((congrFun (f30 31 (of_decide_eq_true rfl)) 8).trans (congrFun (f11 31 (of_decide_eq_true rfl)) 8)) ((f30 33 (of_decide_eq_true rfl)).trans (f11 33 (of_decide_eq_true rfl))) ((f30 36 (of_decide_eq_true rfl)).trans (f11 36 (of_decide_eq_true rfl))) hI31
      have I45 : jI38 σ28 := jI38_fr ((congrFun (f30 38 (of_decide_eq_true rfl)) 0).trans (congrFun (f11 38 (of_decide_eq_true rfl)) 0)) ((congrFun (f30 38 (of_decide_eq_true rfl)) 1).trans (congrFun (f11 38 (of_decide_eq_true rfl)) 1)) ((f30 39 (of_decide_eq_true rfl)).trans (f11 39 (of_decide_eq_true rfl))) hI38
      have I46 : jI43 σ28 := jI43_fr ((congrFun (f30 43 (of_decide_eq_true rfl)) 8).trans (congrFun (f11 43 (of_decide_eq_true rfl)) 8)) hI43
      have I47 : jI47 σ28 := jI47_fr ((congrFun (f30 47 (of_decide_eq_true rfl)) 0).trans (congrFun (f11 47 (of_decide_eq_true rfl)) 0)) ((f30 48 (of_decide_eq_true rfl)).trans (f11 48 (of_decide_eq_true rfl))) ((f30 49 (of_decide_eq_true rfl)).trans (f11 49 (of_decide_eq_true rfl))) hI47
      have I48 : jI50 σ28 := jI50_fr ((f30 52 (of_decide_eq_true rfl)).trans (f11 52 (of_decide_eq_true rfl))) hI50
      have I49 : jI101 σ28 := jI101_fr ((f31 4 (of_decide_eq_true rfl)).trans (congrFun (f11 55 (of_decide_eq_true rfl)) 4)) ((f31 5 (of_decide_eq_true rfl)).trans (congrFun (f11 55 (of_decide_eq_true rfl)) 5)) ((f30 56 (of_decide_eq_true rfl)).trans (f11 56 (of_decide_eq_true rfl))) ((f30 57 (of_decide_eq_true rfl)).trans (f11 57 (of_decide_eq_true rfl))) ((f30 58 (of_decide_eq_true rfl)).trans (f11 58 (of_decide_eq_true rfl))) ((f30 59 (of_decide_eq_true rfl)).trans (f11 59 (of_decide_eq_true rfl))) hI101
      have I50 : jI102 σ28 := jI102_fr ((f31 6 (of_decide_eq_true rfl)).trans (congrFun (f11 55 (of_decide_eq_true rfl)) 6)) ((f30 60 (of_decide_eq_true rfl)).trans (f11 60 (of_decide_eq_true rfl))) ((f30 61 (of_decide_eq_true rfl)).trans (f11 61 (of_decide_eq_true rfl))) hI102
      have I51 : jI103 σ28 := jI103_fr ((f31 9 (of_decide_eq_true rfl)).trans (congrFun (f11 55 (of_decide_eq_true rfl)) 9)) hI103
      have I52 : jI104 σ28 := jI104_fr ((f31 10 (of_decide_eq_true rfl)).trans (congrFun (f11 55 (of_decide_eq_true rfl)) 10)) ((f31 12 (of_decide_eq_true rfl)).trans (congrFun (f11 55 (of_decide_eq_true rfl)) 12)) ((f31 13 (of_decide_eq_true rfl)).trans (congrFun (f11 55 (of_decide_eq_true rfl)) 13)) ((f30 62 (of_decide_eq_true rfl)).trans (f11 62 (of_decide_eq_true rfl))) ((f30 67 (of_decide_eq_true rfl)).trans (f11 67 (of_decide_eq_true rfl))) hI104
      have I53 : jI106 σ28 := jI106_fr ((f31 32 (of_decide_eq_true rfl)).trans (congrFun (f11 55 (of_decide_eq_true rfl)) 32)) ((f30 70 (of_decide_eq_true rfl)).trans (f11 70 (of_decide_eq_true rfl))) ((f30 71 (of_decide_eq_true rfl)).trans (f11 71 (of_decide_eq_true rfl))) ((f30 72 (of_decide_eq_true rfl)).trans (f11 72 (of_decide_eq_true rfl))) hI106
      have I54 : jI107 σ28 := jI107_fr ((f31 12 (of_decide_eq_true rfl)).trans (congrFun (f11 55 (of_decide_eq_true rfl)) 12)) ((f31 47 (of_decide_eq_true rfl)).trans (congrFun (f11 55 (of_decide_eq_true rfl)) 47)) ((f30 80 (of_decide_eq_true rfl)).trans (f11 80 (of_decide_eq_true rfl))) hI107
      have I55 : jI109 σ28 := jI109_fr ((f31 50 (of_decide_eq_true rfl)).trans (congrFun (f11 55 (of_decide_eq_true rfl)) 50)) hI109
      have I56 : jI110 σ28 := jI110_fr ((f30 86 (of_decide_eq_true rfl)).trans (f11 86 (of_decide_eq_true rfl))) ((f30 87 (of_decide_eq_true rfl)).trans (f11 87 (of_decide_eq_true rfl))) hI110
      have I57 : jI111 σ28 := jI111_fr ((f30 79 (of_decide_eq_true rfl)).trans (f11 79 (of_decide_eq_true rfl))) hI111
      have I58 : jI119 σ28 := jI119_fr ((f30 68 (of_decide_eq_true rfl)).trans (f11 68 (of_decide_eq_true rfl))) hI119
      have p59 : jKept σ28 := jKept.fr ((f30 75 (of_decide_eq_true rfl)).trans (f11 75 (of_decide_eq_true rfl))) ((f30 76 (of_decide_eq_true rfl)).trans (f11 76 (of_decide_eq_true rfl))) ((f30 77 (of_decide_eq_true rfl)).trans (f11 77 (of_decide_eq_true rfl))) hs_jKept
      have p60 : jBook σ28 := jBook.fr ((f31 47 (of_decide_eq_true rfl)).trans (congrFun (f11 55 (of_decide_eq_true rfl)) 47)) ((f31 10 (of_decide_eq_true rfl)).trans (congrFun (f11 55 (of_decide_eq_true rfl)) 10)) ((f30 81 (of_decide_eq_true rfl)).trans (f11 81 (of_decide_eq_true rfl))) hs_jBook
      have z61 : (σ28 9 0).toInt = (σ9 9 0).toInt := (congrArg Int32.toInt (show σ28 9 0 = (σ9 9 0) from (congrFun (f30 9 (of_decide_eq_true rfl)) 0)))
      exact by exact ih x37 σ28 τ _ _ ls (by have h9 := tx37; omega) ⟨I38, I39, I40, I41, I42, I43, I44, I45, I46, I47, I48, I49, I50, I51, I52, I32, I53, I54, I55, I56, I57, I58, p59, p60, (by omega), (show jTp (σ28 10) (σ28 63) (σ28 55 15).toInt by rw [show σ28 10 = σ 10 from ((f30 10 (of_decide_eq_true rfl)).trans (f11 10 (of_decide_eq_true rfl))), show σ28 63 = σ 63 from ((f30 63 (of_decide_eq_true rfl)).trans (f11 63 (of_decide_eq_true rfl)))]; exact hr0.le (by omega))⟩ hP hS (lv_sub hl [0, 1, 2, 3] rfl)
set_option maxHeartbeats 4000000 in
set_option maxRecDepth 100000 in
theorem law_case_7 {p : Program} {e : Env} {s : State} {m : MethodId} {below : List Frame} {meth : Method} {c : Code} (l : Launch) {b L : Nat} {xs : Nat → Int32} {D : va_G} {cI cL : ClassId} {ad zz : Nat → Nat} (C0 : lw_At p s m meth c b L xs) (hJ : jD ad) (hA : ∀ q, jA ad q → s.heap.size ≤ q) (hK : jK D cI cL s) (hZ : jZ zz (fun q : Nat => s.heap.size ≤ q) s s.heap) {x0 : Int32} (hx0 : 0 ≤ x0.toInt) (hxL : x0.toInt + 6 ≤ (L : Int)) (hL : L ≤ 384) {σ : Nat → Nat → Int32} {τ : Nat → Nat → Int64} {H : Heap} {locs : List Loc} (hS : va_S (fun q : Nat => s.heap.size ≤ q) s.heap H locs) {ls : Array Slot} (hAll : jAll σ τ) (hP : jH D cI cL ad σ τ H) (hl : lv_has ls 4 [(3, .int x0), (2, .ref (ad 55)), (1, .ref (ad 0)), (0, .ref b)]) (ih : ∀ (x1 : Int32) (σ : Nat → Nat → Int32) (τ : Nat → Nat → Int64) (H : Heap) (locs : List Loc) (ls : Array Slot), x1.toInt = x0.toInt + 6 → jAll σ τ → jH D cI cL ad σ τ H → va_S (fun q : Nat => s.heap.size ≤ q) s.heap H locs → lv_has ls 4 [(3, .int x1), (2, .ref (ad 55)), (1, .ref (ad 0)), (0, .ref b)] → W p l e room_1 s m #[Value.ref b] below meth c H locs 90 348600 (lw_Z below #[Value.ref b] s) (F0 m 18 ls [])) : W p l e room_1 s m #[Value.ref b] below meth c H locs 90 348600 (lw_Z below #[Value.ref b] s) (F0 m 417 ls []) := by
  obtain ⟨hx, hb, hr, hml, hown, hts0, hX, hbl, hlocks, hgv⟩ := C0
  have hts : ∀ w ∈ wsL_law, w.before #[Value.ref b] s = true := fun w h => hts0 w (wsL_law_in w h)
  have hbA : ¬ (fun q : Nat => s.heap.size ≤ q) b := Nat.not_le.mpr hbl
  have hown : s.vm.findClass RL = some m.cls := hown
  obtain ⟨hI2, hI9, hI12, hI16, hI18, hI22, hI31, hI38, hI43, hI47, hI50, hI101, hI102, hI103, hI104, hI105, hI106, hI107, hI109, hI110, hI111, hI119, hs_jKept, hs_jBook, ht0, hr0⟩ := hAll
  have hL9 : (L : Int) ≤ 384 := by omega
  obtain ⟨i1, w2, w3⟩ : (0 ≤ (σ 9 0).toInt ∧ (σ 9 0).toInt ≤ 80) ∧ (∀ k : Nat, k < 80 → 0 ≤ (σ 10 k).toInt ∧ (σ 10 k).toInt ≤ 255) ∧ (∀ k : Nat, k < 8 → 0 ≤ (σ 11 k).toInt ∧ (σ 11 k).toInt ≤ 3) := id hI9
  obtain ⟨i4, w5⟩ : (0 ≤ (σ 55 15).toInt ∧ (σ 55 15).toInt ≤ 80) ∧ (∀ k : Nat, k < 2 → (-1) ≤ (σ 65 k).toInt ∧ (σ 65 k).toInt ≤ 80) := id hI105
  refine lv_aload_n hx hb dL_law_417 rfl (lv_at hl 2 rfl) ?_
  refine lv_aload_n hx hb dL_law_418 rfl (lv_at hl 3 rfl) ?_
  refine lv_iload_n hx hb dL_law_419 rfl (lv_at hl 0 rfl) ?_
  refine lv_iconst (v := 1) hx hb dL_law_420 (of_decide_eq_true rfl) ?_
  have g6 := jrg (rfl : x0.toInt = x0.toInt)
  refine lv_iadd hx hb dL_law_421 ?_
  refine lv_topi (fun x7 ex7 => ?_)
  exact by
   have tx7 : x7.toInt = x0.toInt + 1 := (jadd ex7 rfl jz_1 (by omega) (by omega)).trans (by omega)
   refine va_sld hx hb hX hbl hbA hS (jin tx7 (by omega) (by omega)) dL_law_422 ?_
   have g8 := jrg (rfl : (xs x7.toNatClampNeg).toInt = (xs x7.toNatClampNeg).toInt)
   refine jcallV (As := [.int (xs x7.toNatClampNeg)]) (rest := []) ⟨hx, hb, hml, hown, hts⟩ hK hP hA hS hZ (c_X11_of l D cI cL ad zz hJ σ τ (xs x7.toNatClampNeg) ((xs x7.toNatClampNeg).toInt) rfl hI16) cw_RL_45 (jc_0 cI cL ad σ τ) rfl ⟨Nat.le_of_ble_eq_true rfl, Nat.le_of_ble_eq_true rfl⟩ rfl rfl rfl hl.1 rfl (Nat.le_of_ble_eq_true rfl) dL_law_423 ⟨Nat.le_of_ble_eq_true rfl, Nat.le_of_ble_eq_true rfl⟩ (fun r10 σ9 τ9 H locs h9 hP hS => ?_)
   obtain ⟨⟨rfl, rfl⟩, h9⟩ := h9
   rcases h9 with h11 | h12 | h13 | h14 | h15
   · obtain ⟨q18, k16, k17⟩ := h11
     refine lv_pop hx hb dL_law_426 rfl ?_
     refine lv_aload_n hx hb dL_law_427 rfl (lv_at hl 1 rfl) ?_
     exact by
      refine lv_aload_n hx hb dL_law_428 rfl (lv_at hl 3 rfl) ?_
      refine lv_iload_n hx hb dL_law_429 rfl (lv_at hl 0 rfl) ?_
      refine lv_iconst (v := 1) hx hb dL_law_430 (of_decide_eq_true rfl) ?_
      refine lv_iadd hx hb dL_law_431 ?_
      refine jtopr ex7.symm ?_
      refine va_sld hx hb hX hbl hbA hS (jin tx7 (by omega) (by omega)) dL_law_432 ?_
      refine jcallV (As := [.int (xs x7.toNatClampNeg)]) (rest := []) ⟨hx, hb, hml, hown, hts⟩ hK hP hA hS hZ (c_X12_of l D cI cL ad zz hJ σ τ (xs x7.toNatClampNeg) ((xs x7.toNatClampNeg).toInt) rfl hI104 hI107) cw_RL_48 (jc_55 cI cL ad σ τ) rfl ⟨Nat.le_of_ble_eq_true rfl, Nat.le_of_ble_eq_true rfl⟩ rfl rfl rfl hl.1 rfl (Nat.le_of_ble_eq_true rfl) dL_law_433 ⟨Nat.le_of_ble_eq_true rfl, Nat.le_of_ble_eq_true rfl⟩ (fun r20 σ19 τ19 H locs h19 hP hS => ?_)
      obtain ⟨⟨rfl, rfl⟩, h19⟩ := h19
      rcases h19 with h21 | h22 | h23 | h24 | h25
      · exact by
         obtain ⟨q28, k26, k27⟩ := h21
         refine lv_pop hx hb dL_law_436 rfl ?_
         refine lv_goto (tgt := 1357) hx hb dL_law_437 (of_decide_eq_true rfl) ?_
         obtain ⟨x29, ex29⟩ : ∃ y : Int32, y = x0 + 6 := ⟨_, rfl⟩
         have tx29 : x29.toInt = x0.toInt + 6 := (jadd ex29 rfl jz_6 (by omega) (by omega)).trans (by omega)
         refine lv_iinc (v := x29) (lv' := [(3, .int x29), (2, .ref (ad 55)), (1, .ref (ad 0)), (0, .ref b)]) hx hb dL_law_1357 hl (k := 0) rfl (by rw [ex29]; rfl) (of_decide_eq_true rfl) rfl (fun ls hl => ?_)
         refine lv_goto (tgt := 18) hx hb dL_law_1360 (of_decide_eq_true rfl) ?_
         exact by exact ih x29 σ τ _ _ ls (by have h9 := tx29; omega) ⟨hI2, hI9, hI12, hI16, hI18, hI22, hI31, hI38, hI43, hI47, hI50, hI101, hI102, hI103, hI104, hI105, hI106, hI107, hI109, hI110, hI111, hI119, hs_jKept, hs_jBook, (by omega), hr0⟩ hP hS (lv_sub hl [0, 1, 2, 3] rfl)
      · obtain ⟨q32, k30, k31⟩ := h22
        exact absurd (by omega : False) id
      · exact by
         obtain ⟨q35, k33, k34⟩ := h23
         exact absurd (by omega : False) id
      · obtain ⟨q39, k36, k37, k38⟩ := h24
        exact absurd (by omega : False) id
      · obtain ⟨q41, k40⟩ := h25
        exact absurd (by omega : False) id
   · obtain ⟨q44, k42, k43⟩ := h12
     refine lv_pop hx hb dL_law_426 rfl ?_
     refine lv_aload_n hx hb dL_law_427 rfl (lv_at hl 1 rfl) ?_
     refine lv_aload_n hx hb dL_law_428 rfl (lv_at hl 3 rfl) ?_
     refine lv_iload_n hx hb dL_law_429 rfl (lv_at hl 0 rfl) ?_
     refine lv_iconst (v := 1) hx hb dL_law_430 (of_decide_eq_true rfl) ?_
     refine lv_iadd hx hb dL_law_431 ?_
     refine jtopr ex7.symm ?_
     exact by
      refine va_sld hx hb hX hbl hbA hS (jin tx7 (by omega) (by omega)) dL_law_432 ?_
      refine jcallV (As := [.int (xs x7.toNatClampNeg)]) (rest := []) ⟨hx, hb, hml, hown, hts⟩ hK hP hA hS hZ (c_X12_of l D cI cL ad zz hJ σ τ (xs x7.toNatClampNeg) ((xs x7.toNatClampNeg).toInt) rfl hI104 hI107) cw_RL_48 (jc_55 cI cL ad σ τ) rfl ⟨Nat.le_of_ble_eq_true rfl, Nat.le_of_ble_eq_true rfl⟩ rfl rfl rfl hl.1 rfl (Nat.le_of_ble_eq_true rfl) dL_law_433 ⟨Nat.le_of_ble_eq_true rfl, Nat.le_of_ble_eq_true rfl⟩ (fun r46 σ45 τ45 H locs h45 hP hS => ?_)
      obtain ⟨⟨rfl, rfl⟩, h45⟩ := h45
      rcases h45 with h47 | h48 | h49 | h50 | h51
      · obtain ⟨q54, k52, k53⟩ := h47
        exact absurd (by omega : False) id
      · obtain ⟨q57, k55, k56⟩ := h48
        refine lv_pop hx hb dL_law_436 rfl ?_
        refine lv_goto (tgt := 1357) hx hb dL_law_437 (of_decide_eq_true rfl) ?_
        obtain ⟨x58, ex58⟩ : ∃ y : Int32, y = x0 + 6 := ⟨_, rfl⟩
        exact by
         have tx58 : x58.toInt = x0.toInt + 6 := (jadd ex58 rfl jz_6 (by omega) (by omega)).trans (by omega)
         refine lv_iinc (v := x58) (lv' := [(3, .int x58), (2, .ref (ad 55)), (1, .ref (ad 0)), (0, .ref b)]) hx hb dL_law_1357 hl (k := 0) rfl (by rw [ex58]; rfl) (of_decide_eq_true rfl) rfl (fun ls hl => ?_)
         refine lv_goto (tgt := 18) hx hb dL_law_1360 (of_decide_eq_true rfl) ?_
         exact by exact ih x58 σ τ _ _ ls (by have h9 := tx58; omega) ⟨hI2, hI9, hI12, hI16, hI18, hI22, hI31, hI38, hI43, hI47, hI50, hI101, hI102, hI103, hI104, hI105, hI106, hI107, hI109, hI110, hI111, hI119, hs_jKept, hs_jBook, (by omega), hr0⟩ hP hS (lv_sub hl [0, 1, 2, 3] rfl)
      · obtain ⟨q61, k59, k60⟩ := h49
        exact absurd (by omega : False) id
      · obtain ⟨q65, k62, k63, k64⟩ := h50
        exact absurd (by omega : False) id
      · obtain ⟨q67, k66⟩ := h51
        exact absurd (by omega : False) id
   · exact by
      obtain ⟨q70, k68, k69⟩ := h13
      refine lv_pop hx hb dL_law_426 rfl ?_
      refine lv_aload_n hx hb dL_law_427 rfl (lv_at hl 1 rfl) ?_
      refine lv_aload_n hx hb dL_law_428 rfl (lv_at hl 3 rfl) ?_
      refine lv_iload_n hx hb dL_law_429 rfl (lv_at hl 0 rfl) ?_
      refine lv_iconst (v := 1) hx hb dL_law_430 (of_decide_eq_true rfl) ?_
      refine lv_iadd hx hb dL_law_431 ?_
      refine jtopr ex7.symm ?_
      refine va_sld hx hb hX hbl hbA hS (jin tx7 (by omega) (by omega)) dL_law_432 ?_
      exact by
       refine jcallV (As := [.int (xs x7.toNatClampNeg)]) (rest := []) ⟨hx, hb, hml, hown, hts⟩ hK hP hA hS hZ (c_X12_of l D cI cL ad zz hJ σ τ (xs x7.toNatClampNeg) ((xs x7.toNatClampNeg).toInt) rfl hI104 hI107) cw_RL_48 (jc_55 cI cL ad σ τ) rfl ⟨Nat.le_of_ble_eq_true rfl, Nat.le_of_ble_eq_true rfl⟩ rfl rfl rfl hl.1 rfl (Nat.le_of_ble_eq_true rfl) dL_law_433 ⟨Nat.le_of_ble_eq_true rfl, Nat.le_of_ble_eq_true rfl⟩ (fun r72 σ71 τ71 H locs h71 hP hS => ?_)
       obtain ⟨⟨rfl, rfl⟩, h71⟩ := h71
       rcases h71 with h73 | h74 | h75 | h76 | h77
       · obtain ⟨q80, k78, k79⟩ := h73
         exact absurd (by omega : False) id
       · obtain ⟨q83, k81, k82⟩ := h74
         exact absurd (by omega : False) id
       · obtain ⟨q86, k84, k85⟩ := h75
         refine lv_pop hx hb dL_law_436 rfl ?_
         refine lv_goto (tgt := 1357) hx hb dL_law_437 (of_decide_eq_true rfl) ?_
         obtain ⟨x87, ex87⟩ : ∃ y : Int32, y = x0 + 6 := ⟨_, rfl⟩
         exact by
          have tx87 : x87.toInt = x0.toInt + 6 := (jadd ex87 rfl jz_6 (by omega) (by omega)).trans (by omega)
          refine lv_iinc (v := x87) (lv' := [(3, .int x87), (2, .ref (ad 55)), (1, .ref (ad 0)), (0, .ref b)]) hx hb dL_law_1357 hl (k := 0) rfl (by rw [ex87]; rfl) (of_decide_eq_true rfl) rfl (fun ls hl => ?_)
          refine lv_goto (tgt := 18) hx hb dL_law_1360 (of_decide_eq_true rfl) ?_
          exact by exact ih x87 σ τ _ _ ls (by have h9 := tx87; omega) ⟨hI2, hI9, hI12, hI16, hI18, hI22, hI31, hI38, hI43, hI47, hI50, hI101, hI102, hI103, hI104, hI105, hI106, hI107, hI109, hI110, hI111, hI119, hs_jKept, hs_jBook, (by omega), hr0⟩ hP hS (lv_sub hl [0, 1, 2, 3] rfl)
       · obtain ⟨q91, k88, k89, k90⟩ := h76
         exact absurd (by omega : False) id
       · obtain ⟨q93, k92⟩ := h77
         exact absurd (by omega : False) id
   · obtain ⟨q97, k94, k95, k96⟩ := h14
     exact by
      refine lv_pop hx hb dL_law_426 rfl ?_
      refine lv_aload_n hx hb dL_law_427 rfl (lv_at hl 1 rfl) ?_
      refine lv_aload_n hx hb dL_law_428 rfl (lv_at hl 3 rfl) ?_
      refine lv_iload_n hx hb dL_law_429 rfl (lv_at hl 0 rfl) ?_
      refine lv_iconst (v := 1) hx hb dL_law_430 (of_decide_eq_true rfl) ?_
      refine lv_iadd hx hb dL_law_431 ?_
      refine jtopr ex7.symm ?_
      refine va_sld hx hb hX hbl hbA hS (jin tx7 (by omega) (by omega)) dL_law_432 ?_
      refine jcallV (As := [.int (xs x7.toNatClampNeg)]) (rest := []) ⟨hx, hb, hml, hown, hts⟩ hK hP hA hS hZ (c_X12_of l D cI cL ad zz hJ σ τ (xs x7.toNatClampNeg) ((xs x7.toNatClampNeg).toInt) rfl hI104 hI107) cw_RL_48 (jc_55 cI cL ad σ τ) rfl ⟨Nat.le_of_ble_eq_true rfl, Nat.le_of_ble_eq_true rfl⟩ rfl rfl rfl hl.1 rfl (Nat.le_of_ble_eq_true rfl) dL_law_433 ⟨Nat.le_of_ble_eq_true rfl, Nat.le_of_ble_eq_true rfl⟩ (fun r99 σ98 τ98 H locs h98 hP hS => ?_)
      exact by
       obtain ⟨⟨rfl, rfl⟩, h98⟩ := h98
       rcases h98 with h100 | h101 | h102 | h103 | h104
       · obtain ⟨q107, k105, k106⟩ := h100
         exact absurd (by omega : False) id
       · obtain ⟨q110, k108, k109⟩ := h101
         exact absurd (by omega : False) id
       · obtain ⟨q113, k111, k112⟩ := h102
         exact absurd (by omega : False) id
       · obtain ⟨q117, k114, k115, k116⟩ := h103
         refine lv_pop hx hb dL_law_436 rfl ?_
         refine lv_goto (tgt := 1357) hx hb dL_law_437 (of_decide_eq_true rfl) ?_
         obtain ⟨x118, ex118⟩ : ∃ y : Int32, y = x0 + 6 := ⟨_, rfl⟩
         exact by
          have tx118 : x118.toInt = x0.toInt + 6 := (jadd ex118 rfl jz_6 (by omega) (by omega)).trans (by omega)
          refine lv_iinc (v := x118) (lv' := [(3, .int x118), (2, .ref (ad 55)), (1, .ref (ad 0)), (0, .ref b)]) hx hb dL_law_1357 hl (k := 0) rfl (by rw [ex118]; rfl) (of_decide_eq_true rfl) rfl (fun ls hl => ?_)
          refine lv_goto (tgt := 18) hx hb dL_law_1360 (of_decide_eq_true rfl) ?_
          exact by exact ih x118 σ τ _ _ ls (by have h9 := tx118; omega) ⟨hI2, hI9, hI12, hI16, hI18, hI22, hI31, hI38, hI43, hI47, hI50, hI101, hI102, hI103, hI104, hI105, hI106, hI107, hI109, hI110, hI111, hI119, hs_jKept, hs_jBook, (by omega), hr0⟩ hP hS (lv_sub hl [0, 1, 2, 3] rfl)
       · obtain ⟨q120, k119⟩ := h104
         have q120 := q120.symm
         subst q120
         refine lv_pop hx hb dL_law_436 rfl ?_
         refine lv_goto (tgt := 1357) hx hb dL_law_437 (of_decide_eq_true rfl) ?_
         exact by
          obtain ⟨x121, ex121⟩ : ∃ y : Int32, y = x0 + 6 := ⟨_, rfl⟩
          have tx121 : x121.toInt = x0.toInt + 6 := (jadd ex121 rfl jz_6 (by omega) (by omega)).trans (by omega)
          refine lv_iinc (v := x121) (lv' := [(3, .int x121), (2, .ref (ad 55)), (1, .ref (ad 0)), (0, .ref b)]) hx hb dL_law_1357 hl (k := 0) rfl (by rw [ex121]; rfl) (of_decide_eq_true rfl) rfl (fun ls hl => ?_)
          refine lv_goto (tgt := 18) hx hb dL_law_1360 (of_decide_eq_true rfl) ?_
          exact by exact ih x121 σ τ _ _ ls (by have h9 := tx121; omega) ⟨hI2, hI9, hI12, hI16, hI18, hI22, hI31, hI38, hI43, hI47, hI50, hI101, hI102, hI103, hI104, hI105, hI106, hI107, hI109, hI110, hI111, hI119, hs_jKept, hs_jBook, (by omega), hr0⟩ hP hS (lv_sub hl [0, 1, 2, 3] rfl)
   · obtain ⟨q123, k122⟩ := h15
     have q123 := q123.symm
     subst q123
     refine lv_pop hx hb dL_law_426 rfl ?_
     exact by
      refine lv_aload_n hx hb dL_law_427 rfl (lv_at hl 1 rfl) ?_
      refine lv_aload_n hx hb dL_law_428 rfl (lv_at hl 3 rfl) ?_
      refine lv_iload_n hx hb dL_law_429 rfl (lv_at hl 0 rfl) ?_
      refine lv_iconst (v := 1) hx hb dL_law_430 (of_decide_eq_true rfl) ?_
      refine lv_iadd hx hb dL_law_431 ?_
      refine jtopr ex7.symm ?_
      refine va_sld hx hb hX hbl hbA hS (jin tx7 (by omega) (by omega)) dL_law_432 ?_
      refine jcallV (As := [.int (xs x7.toNatClampNeg)]) (rest := []) ⟨hx, hb, hml, hown, hts⟩ hK hP hA hS hZ (c_X12_of l D cI cL ad zz hJ σ τ (xs x7.toNatClampNeg) ((xs x7.toNatClampNeg).toInt) rfl hI104 hI107) cw_RL_48 (jc_55 cI cL ad σ τ) rfl ⟨Nat.le_of_ble_eq_true rfl, Nat.le_of_ble_eq_true rfl⟩ rfl rfl rfl hl.1 rfl (Nat.le_of_ble_eq_true rfl) dL_law_433 ⟨Nat.le_of_ble_eq_true rfl, Nat.le_of_ble_eq_true rfl⟩ (fun r125 σ124 τ124 H locs h124 hP hS => ?_)
      obtain ⟨⟨rfl, rfl⟩, h124⟩ := h124
      exact by
       rcases h124 with h126 | h127 | h128 | h129 | h130
       · obtain ⟨q133, k131, k132⟩ := h126
         exact absurd (by omega : False) id
       · obtain ⟨q136, k134, k135⟩ := h127
         exact absurd (by omega : False) id
       · obtain ⟨q139, k137, k138⟩ := h128
         exact absurd (by omega : False) id
       · obtain ⟨q143, k140, k141, k142⟩ := h129
         refine lv_pop hx hb dL_law_436 rfl ?_
         refine lv_goto (tgt := 1357) hx hb dL_law_437 (of_decide_eq_true rfl) ?_
         obtain ⟨x144, ex144⟩ : ∃ y : Int32, y = x0 + 6 := ⟨_, rfl⟩
         exact by
          have tx144 : x144.toInt = x0.toInt + 6 := (jadd ex144 rfl jz_6 (by omega) (by omega)).trans (by omega)
          refine lv_iinc (v := x144) (lv' := [(3, .int x144), (2, .ref (ad 55)), (1, .ref (ad 0)), (0, .ref b)]) hx hb dL_law_1357 hl (k := 0) rfl (by rw [ex144]; rfl) (of_decide_eq_true rfl) rfl (fun ls hl => ?_)
          refine lv_goto (tgt := 18) hx hb dL_law_1360 (of_decide_eq_true rfl) ?_
          exact by exact ih x144 σ τ _ _ ls (by have h9 := tx144; omega) ⟨hI2, hI9, hI12, hI16, hI18, hI22, hI31, hI38, hI43, hI47, hI50, hI101, hI102, hI103, hI104, hI105, hI106, hI107, hI109, hI110, hI111, hI119, hs_jKept, hs_jBook, (by omega), hr0⟩ hP hS (lv_sub hl [0, 1, 2, 3] rfl)
       · obtain ⟨q146, k145⟩ := h130
         have q146 := q146.symm
         subst q146
         refine lv_pop hx hb dL_law_436 rfl ?_
         refine lv_goto (tgt := 1357) hx hb dL_law_437 (of_decide_eq_true rfl) ?_
         exact by
          obtain ⟨x147, ex147⟩ : ∃ y : Int32, y = x0 + 6 := ⟨_, rfl⟩
          have tx147 : x147.toInt = x0.toInt + 6 := (jadd ex147 rfl jz_6 (by omega) (by omega)).trans (by omega)
          refine lv_iinc (v := x147) (lv' := [(3, .int x147), (2, .ref (ad 55)), (1, .ref (ad 0)), (0, .ref b)]) hx hb dL_law_1357 hl (k := 0) rfl (by rw [ex147]; rfl) (of_decide_eq_true rfl) rfl (fun ls hl => ?_)
          refine lv_goto (tgt := 18) hx hb dL_law_1360 (of_decide_eq_true rfl) ?_
          exact by exact ih x147 σ τ _ _ ls (by have h9 := tx147; omega) ⟨hI2, hI9, hI12, hI16, hI18, hI22, hI31, hI38, hI43, hI47, hI50, hI101, hI102, hI103, hI104, hI105, hI106, hI107, hI109, hI110, hI111, hI119, hs_jKept, hs_jBook, (by omega), hr0⟩ hP hS (lv_sub hl [0, 1, 2, 3] rfl)
set_option maxHeartbeats 4000000 in
set_option maxRecDepth 100000 in
theorem law_case_8 {p : Program} {e : Env} {s : State} {m : MethodId} {below : List Frame} {meth : Method} {c : Code} (l : Launch) {b L : Nat} {xs : Nat → Int32} {D : va_G} {cI cL : ClassId} {ad zz : Nat → Nat} (C0 : lw_At p s m meth c b L xs) (hJ : jD ad) (hA : ∀ q, jA ad q → s.heap.size ≤ q) (hK : jK D cI cL s) (hZ : jZ zz (fun q : Nat => s.heap.size ≤ q) s s.heap) {x0 : Int32} (hx0 : 0 ≤ x0.toInt) (hxL : x0.toInt + 6 ≤ (L : Int)) (hL : L ≤ 384) {σ : Nat → Nat → Int32} {τ : Nat → Nat → Int64} {H : Heap} {locs : List Loc} (hS : va_S (fun q : Nat => s.heap.size ≤ q) s.heap H locs) {ls : Array Slot} (hAll : jAll σ τ) (hP : jH D cI cL ad σ τ H) (hl : lv_has ls 4 [(3, .int x0), (2, .ref (ad 55)), (1, .ref (ad 0)), (0, .ref b)]) (ih : ∀ (x1 : Int32) (σ : Nat → Nat → Int32) (τ : Nat → Nat → Int64) (H : Heap) (locs : List Loc) (ls : Array Slot), x1.toInt = x0.toInt + 6 → jAll σ τ → jH D cI cL ad σ τ H → va_S (fun q : Nat => s.heap.size ≤ q) s.heap H locs → lv_has ls 4 [(3, .int x1), (2, .ref (ad 55)), (1, .ref (ad 0)), (0, .ref b)] → W p l e room_1 s m #[Value.ref b] below meth c H locs 90 348600 (lw_Z below #[Value.ref b] s) (F0 m 18 ls [])) : W p l e room_1 s m #[Value.ref b] below meth c H locs 90 348600 (lw_Z below #[Value.ref b] s) (F0 m 440 ls []) := by
  obtain ⟨hx, hb, hr, hml, hown, hts0, hX, hbl, hlocks, hgv⟩ := C0
  have hts : ∀ w ∈ wsL_law, w.before #[Value.ref b] s = true := fun w h => hts0 w (wsL_law_in w h)
  have hbA : ¬ (fun q : Nat => s.heap.size ≤ q) b := Nat.not_le.mpr hbl
  have hown : s.vm.findClass RL = some m.cls := hown
  obtain ⟨hI2, hI9, hI12, hI16, hI18, hI22, hI31, hI38, hI43, hI47, hI50, hI101, hI102, hI103, hI104, hI105, hI106, hI107, hI109, hI110, hI111, hI119, hs_jKept, hs_jBook, ht0, hr0⟩ := hAll
  have hL9 : (L : Int) ≤ 384 := by omega
  obtain ⟨i1, w2, w3⟩ : (0 ≤ (σ 9 0).toInt ∧ (σ 9 0).toInt ≤ 80) ∧ (∀ k : Nat, k < 80 → 0 ≤ (σ 10 k).toInt ∧ (σ 10 k).toInt ≤ 255) ∧ (∀ k : Nat, k < 8 → 0 ≤ (σ 11 k).toInt ∧ (σ 11 k).toInt ≤ 3) := id hI9
  obtain ⟨i4, w5⟩ : (0 ≤ (σ 55 15).toInt ∧ (σ 55 15).toInt ≤ 80) ∧ (∀ k : Nat, k < 2 → (-1) ≤ (σ 65 k).toInt ∧ (σ 65 k).toInt ≤ 80) := id hI105
  refine lv_aload_n hx hb dL_law_440 rfl (lv_at hl 2 rfl) ?_
  refine lv_aload_n hx hb dL_law_441 rfl (lv_at hl 3 rfl) ?_
  refine lv_iload_n hx hb dL_law_442 rfl (lv_at hl 0 rfl) ?_
  refine lv_iconst (v := 1) hx hb dL_law_443 (of_decide_eq_true rfl) ?_
  have g6 := jrg (rfl : x0.toInt = x0.toInt)
  refine lv_iadd hx hb dL_law_444 ?_
  refine lv_topi (fun x7 ex7 => ?_)
  exact by
   have tx7 : x7.toInt = x0.toInt + 1 := (jadd ex7 rfl jz_1 (by omega) (by omega)).trans (by omega)
   refine va_sld hx hb hX hbl hbA hS (jin tx7 (by omega) (by omega)) dL_law_445 ?_
   have g8 := jrg (rfl : (xs x7.toNatClampNeg).toInt = (xs x7.toNatClampNeg).toInt)
   refine lv_aload_n hx hb dL_law_446 rfl (lv_at hl 3 rfl) ?_
   refine lv_iload_n hx hb dL_law_447 rfl (lv_at hl 0 rfl) ?_
   refine lv_iconst (v := 2) hx hb dL_law_448 (of_decide_eq_true rfl) ?_
   refine lv_iadd hx hb dL_law_449 ?_
   refine lv_topi (fun x9 ex9 => ?_)
   have tx9 : x9.toInt = x0.toInt + 2 := (jadd ex9 rfl jz_2 (by omega) (by omega)).trans (by omega)
   exact by
    refine va_sld hx hb hX hbl hbA hS (jin tx9 (by omega) (by omega)) dL_law_450 ?_
    have g10 := jrg (rfl : (xs x9.toNatClampNeg).toInt = (xs x9.toNatClampNeg).toInt)
    refine lv_aload_n hx hb dL_law_451 rfl (lv_at hl 3 rfl) ?_
    refine lv_iload_n hx hb dL_law_452 rfl (lv_at hl 0 rfl) ?_
    refine lv_iconst (v := 3) hx hb dL_law_453 (of_decide_eq_true rfl) ?_
    refine lv_iadd hx hb dL_law_454 ?_
    refine lv_topi (fun x11 ex11 => ?_)
    have tx11 : x11.toInt = x0.toInt + 3 := (jadd ex11 rfl jz_3 (by omega) (by omega)).trans (by omega)
    refine va_sld hx hb hX hbl hbA hS (jin tx11 (by omega) (by omega)) dL_law_455 ?_
    exact by
     have g12 := jrg (rfl : (xs x11.toNatClampNeg).toInt = (xs x11.toNatClampNeg).toInt)
     refine jcallV (As := [.int (xs x7.toNatClampNeg), .int (xs x9.toNatClampNeg), .int (xs x11.toNatClampNeg)]) (rest := []) ⟨hx, hb, hml, hown, hts⟩ hK hP hA hS hZ (c_X11_over l D cI cL ad zz hJ σ τ (xs x7.toNatClampNeg) ((xs x7.toNatClampNeg).toInt) rfl (xs x9.toNatClampNeg) ((xs x9.toNatClampNeg).toInt) rfl (xs x11.toNatClampNeg) ((xs x11.toNatClampNeg).toInt) rfl hI2 hI22) cw_RL_49 (jc_0 cI cL ad σ τ) rfl ⟨Nat.le_of_ble_eq_true rfl, Nat.le_of_ble_eq_true rfl⟩ rfl rfl rfl hl.1 rfl (Nat.le_of_ble_eq_true rfl) dL_law_456 ⟨Nat.le_of_ble_eq_true rfl, Nat.le_of_ble_eq_true rfl⟩ (fun r14 σ13 τ13 H locs h13 hP hS => ?_)
     obtain ⟨rfl, f15, h13⟩ := h13
     refine lv_pop hx hb dL_law_459 rfl ?_
     refine lv_aload_n hx hb dL_law_460 rfl (lv_at hl 1 rfl) ?_
     refine lv_aload_n hx hb dL_law_461 rfl (lv_at hl 3 rfl) ?_
     refine lv_iload_n hx hb dL_law_462 rfl (lv_at hl 0 rfl) ?_
     refine lv_iconst (v := 1) hx hb dL_law_463 (of_decide_eq_true rfl) ?_
     refine lv_iadd hx hb dL_law_464 ?_
     refine jtopr ex7.symm ?_
     exact by
      refine va_sld hx hb hX hbl hbA hS (jin tx7 (by omega) (by omega)) dL_law_465 ?_
      refine lv_aload_n hx hb dL_law_466 rfl (lv_at hl 3 rfl) ?_
      refine lv_iload_n hx hb dL_law_467 rfl (lv_at hl 0 rfl) ?_
      refine lv_iconst (v := 2) hx hb dL_law_468 (of_decide_eq_true rfl) ?_
      refine lv_iadd hx hb dL_law_469 ?_
      refine jtopr ex9.symm ?_
      refine va_sld hx hb hX hbl hbA hS (jin tx9 (by omega) (by omega)) dL_law_470 ?_
      refine lv_aload_n hx hb dL_law_471 rfl (lv_at hl 3 rfl) ?_
      refine lv_iload_n hx hb dL_law_472 rfl (lv_at hl 0 rfl) ?_
      exact by
       refine lv_iconst (v := 3) hx hb dL_law_473 (of_decide_eq_true rfl) ?_
       refine lv_iadd hx hb dL_law_474 ?_
       refine jtopr ex11.symm ?_
       refine va_sld hx hb hX hbl hbA hS (jin tx11 (by omega) (by omega)) dL_law_475 ?_
       have I17 : jI101 σ13 := jI101_fr (congrFun (f15 55 (of_decide_eq_true rfl)) 4) (congrFun (f15 55 (of_decide_eq_true rfl)) 5) (f15 56 (of_decide_eq_true rfl)) (f15 57 (of_decide_eq_true rfl)) (f15 58 (of_decide_eq_true rfl)) (f15 59 (of_decide_eq_true rfl)) hI101
       have I18 : jI102 σ13 := jI102_fr (congrFun (f15 55 (of_decide_eq_true rfl)) 6) (f15 60 (of_decide_eq_true rfl)) (f15 61 (of_decide_eq_true rfl)) hI102
       have I19 : jI103 σ13 := jI103_fr (congrFun (f15 55 (of_decide_eq_true rfl)) 9) hI103
       have I20 : jI104 σ13 := jI104_fr (congrFun (f15 55 (of_decide_eq_true rfl)) 10) (congrFun (f15 55 (of_decide_eq_true rfl)) 12) (congrFun (f15 55 (of_decide_eq_true rfl)) 13) (f15 62 (of_decide_eq_true rfl)) (f15 67 (of_decide_eq_true rfl)) hI104
       have I21 : jI105 σ13 := jI105_fr (congrFun (f15 55 (of_decide_eq_true rfl)) 15) (f15 65 (of_decide_eq_true rfl)) hI105
       exact by
        have I22 : jI119 σ13 := jI119_fr (f15 68 (of_decide_eq_true rfl)) hI119
        refine jcallV (As := [.int (xs x7.toNatClampNeg), .int (xs x9.toNatClampNeg), .int (xs x11.toNatClampNeg)]) (rest := []) ⟨hx, hb, hml, hown, hts⟩ hK hP hA hS hZ (c_X12_over l D cI cL ad zz hJ σ13 τ (xs x7.toNatClampNeg) ((xs x7.toNatClampNeg).toInt) rfl (xs x9.toNatClampNeg) ((xs x9.toNatClampNeg).toInt) rfl (xs x11.toNatClampNeg) ((xs x11.toNatClampNeg).toInt) rfl I17 I18 I19 I20 I21 I22) cw_RL_52 (jc_55 cI cL ad σ13 τ) rfl ⟨Nat.le_of_ble_eq_true rfl, Nat.le_of_ble_eq_true rfl⟩ rfl rfl rfl hl.1 rfl (Nat.le_of_ble_eq_true rfl) dL_law_476 ⟨Nat.le_of_ble_eq_true rfl, Nat.le_of_ble_eq_true rfl⟩ (fun r24 σ23 τ23 H locs h23 hP hS => ?_)
        obtain ⟨rfl, f25, f26, I27, h23⟩ := h23
        refine lv_pop hx hb dL_law_479 rfl ?_
        refine lv_goto (tgt := 1357) hx hb dL_law_480 (of_decide_eq_true rfl) ?_
        obtain ⟨x29, ex29⟩ : ∃ y : Int32, y = x0 + 6 := ⟨_, rfl⟩
        have tx29 : x29.toInt = x0.toInt + 6 := (jadd ex29 rfl jz_6 (by omega) (by omega)).trans (by omega)
        refine lv_iinc (v := x29) (lv' := [(3, .int x29), (2, .ref (ad 55)), (1, .ref (ad 0)), (0, .ref b)]) hx hb dL_law_1357 hl (k := 0) rfl (by rw [ex29]; rfl) (of_decide_eq_true rfl) rfl (fun ls hl => ?_)
        refine lv_goto (tgt := 18) hx hb dL_law_1360 (of_decide_eq_true rfl) ?_
        exact by
         have I30 : jI2 σ23 := jI2_fr ((congrFun (f25 2 (of_decide_eq_true rfl)) 0).trans (congrFun (f15 2 (of_decide_eq_true rfl)) 0)) ((congrFun (f25 2 (of_decide_eq_true rfl)) 1).trans (congrFun (f15 2 (of_decide_eq_true rfl)) 1)) ((congrFun (f25 2 (of_decide_eq_true rfl)) 2).trans (congrFun (f15 2 (of_decide_eq_true rfl)) 2)) ((congrFun (f25 2 (of_decide_eq_true rfl)) 3).trans (congrFun (f15 2 (of_decide_eq_true rfl)) 3)) ((f25 6 (of_decide_eq_true rfl)).trans (f15 6 (of_decide_eq_true rfl))) hI2
         have I31 : jI9 σ23 := jI9_fr ((congrFun (f25 9 (of_decide_eq_true rfl)) 0).trans (congrFun (f15 9 (of_decide_eq_true rfl)) 0)) ((f25 10 (of_decide_eq_true rfl)).trans (f15 10 (of_decide_eq_true rfl))) ((f25 11 (of_decide_eq_true rfl)).trans (f15 11 (of_decide_eq_true rfl))) hI9
         have I32 : jI12 σ23 := jI12_fr ((congrFun (f25 12 (of_decide_eq_true rfl)) 0).trans (congrFun (f15 12 (of_decide_eq_true rfl)) 0)) ((f25 13 (of_decide_eq_true rfl)).trans (f15 13 (of_decide_eq_true rfl))) hI12
         have I33 : jI16 σ23 := jI16_fr ((congrFun (f25 16 (of_decide_eq_true rfl)) 0).trans (congrFun (f15 16 (of_decide_eq_true rfl)) 0)) ((congrFun (f25 16 (of_decide_eq_true rfl)) 1).trans (congrFun (f15 16 (of_decide_eq_true rfl)) 1)) ((congrFun (f25 16 (of_decide_eq_true rfl)) 2).trans (congrFun (f15 16 (of_decide_eq_true rfl)) 2)) ((f25 17 (of_decide_eq_true rfl)).trans (f15 17 (of_decide_eq_true rfl))) hI16
         have I34 : jI18 σ23 := jI18_fr ((congrFun (f25 18 (of_decide_eq_true rfl)) 0).trans (congrFun (f15 18 (of_decide_eq_true rfl)) 0)) ((f25 19 (of_decide_eq_true rfl)).trans (f15 19 (of_decide_eq_true rfl))) hI18
         have I35 : jI22 σ23 := jI22_fr ((congrFun (f25 22 (of_decide_eq_true rfl)) 0).trans (congrFun (f15 22 (of_decide_eq_true rfl)) 0)) ((f25 23 (of_decide_eq_true rfl)).trans (f15 23 (of_decide_eq_true rfl))) hI22
         have I36 : jI31 σ23 := jI31_fr ((congrFun (f25 31 (of_decide_eq_true rfl)) 8).trans (congrFun (f15 31 (of_decide_eq_true rfl)) 8)) ((f25 33 (of_decide_eq_true rfl)).trans (f15 33 (of_decide_eq_true rfl))) ((f25 36 (of_decide_eq_true rfl)).trans (f15 36 (of_decide_eq_true rfl))) hI31
         have I37 : jI38 σ23 := jI38_fr ((congrFun (f25 38 (of_decide_eq_true rfl)) 0).trans (congrFun (f15 38 (of_decide_eq_true rfl)) 0)) ((congrFun (f25 38 (of_decide_eq_true rfl)) 1).trans (congrFun (f15 38 (of_decide_eq_true rfl)) 1)) ((f25 39 (of_decide_eq_true rfl)).trans (f15 39 (of_decide_eq_true rfl))) hI38
         have I38 : jI43 σ23 := jI43_fr ((congrFun (f25 43 (of_decide_eq_true rfl)) 8).trans (congrFun (f15 43 (of_decide_eq_true rfl)) 8)) hI43
         have I39 : jI47 σ23 := jI47_fr ((congrFun (f25 47 (of_decide_eq_true rfl)) 0).trans (congrFun (f15 47 (of_decide_eq_true rfl)) 0)) ((f25 48 (of_decide_eq_true rfl)).trans (f15 48 (of_decide_eq_true rfl))) ((f25 49 (of_decide_eq_true rfl)).trans (f15 49 (of_decide_eq_true rfl))) hI47
         have I40 : jI50 σ23 := jI50_fr ((f25 52 (of_decide_eq_true rfl)).trans (f15 52 (of_decide_eq_true rfl))) hI50
         have I41 : jI101 σ23 := jI101_fr (f26 4 (of_decide_eq_true rfl)) (f26 5 (of_decide_eq_true rfl)) (f25 56 (of_decide_eq_true rfl)) (f25 57 (of_decide_eq_true rfl)) (f25 58 (of_decide_eq_true rfl)) (f25 59 (of_decide_eq_true rfl)) I17
         have I42 : jI102 σ23 := jI102_fr (f26 6 (of_decide_eq_true rfl)) (f25 60 (of_decide_eq_true rfl)) (f25 61 (of_decide_eq_true rfl)) I18
         have I43 : jI103 σ23 := jI103_fr (f26 9 (of_decide_eq_true rfl)) I19
         have I44 : jI104 σ23 := jI104_fr (f26 10 (of_decide_eq_true rfl)) (f26 12 (of_decide_eq_true rfl)) (f26 13 (of_decide_eq_true rfl)) (f25 62 (of_decide_eq_true rfl)) (f25 67 (of_decide_eq_true rfl)) I20
         have I45 : jI105 σ23 := jI105_fr (f26 15 (of_decide_eq_true rfl)) (f25 65 (of_decide_eq_true rfl)) I21
         have I46 : jI106 σ23 := jI106_fr ((f26 32 (of_decide_eq_true rfl)).trans (congrFun (f15 55 (of_decide_eq_true rfl)) 32)) ((f25 70 (of_decide_eq_true rfl)).trans (f15 70 (of_decide_eq_true rfl))) ((f25 71 (of_decide_eq_true rfl)).trans (f15 71 (of_decide_eq_true rfl))) ((f25 72 (of_decide_eq_true rfl)).trans (f15 72 (of_decide_eq_true rfl))) hI106
         have I47 : jI107 σ23 := jI107_fr ((f26 12 (of_decide_eq_true rfl)).trans (congrFun (f15 55 (of_decide_eq_true rfl)) 12)) ((f26 47 (of_decide_eq_true rfl)).trans (congrFun (f15 55 (of_decide_eq_true rfl)) 47)) ((f25 80 (of_decide_eq_true rfl)).trans (f15 80 (of_decide_eq_true rfl))) hI107
         have I48 : jI109 σ23 := jI109_fr ((f26 50 (of_decide_eq_true rfl)).trans (congrFun (f15 55 (of_decide_eq_true rfl)) 50)) hI109
         have I49 : jI110 σ23 := jI110_fr ((f25 86 (of_decide_eq_true rfl)).trans (f15 86 (of_decide_eq_true rfl))) ((f25 87 (of_decide_eq_true rfl)).trans (f15 87 (of_decide_eq_true rfl))) hI110
         have I50 : jI111 σ23 := jI111_fr ((f25 79 (of_decide_eq_true rfl)).trans (f15 79 (of_decide_eq_true rfl))) hI111
         have p51 : jKept σ23 := jKept.fr ((f25 75 (of_decide_eq_true rfl)).trans (f15 75 (of_decide_eq_true rfl))) ((f25 76 (of_decide_eq_true rfl)).trans (f15 76 (of_decide_eq_true rfl))) ((f25 77 (of_decide_eq_true rfl)).trans (f15 77 (of_decide_eq_true rfl))) hs_jKept
         have p52 : jBook σ23 := jBook.fr ((f26 47 (of_decide_eq_true rfl)).trans (congrFun (f15 55 (of_decide_eq_true rfl)) 47)) ((f26 10 (of_decide_eq_true rfl)).trans (congrFun (f15 55 (of_decide_eq_true rfl)) 10)) ((f25 81 (of_decide_eq_true rfl)).trans (f15 81 (of_decide_eq_true rfl))) hs_jBook
         have z53 : (σ23 9 0).toInt = (σ 9 0).toInt := (congrArg Int32.toInt (show σ23 9 0 = (σ 9 0) from ((congrFun (f25 9 (of_decide_eq_true rfl)) 0).trans (congrFun (f15 9 (of_decide_eq_true rfl)) 0))))
         have z54 : (σ23 55 15).toInt = (σ 55 15).toInt := (congrArg Int32.toInt (show σ23 55 15 = (σ 55 15) from ((f26 15 (of_decide_eq_true rfl)).trans (congrFun (f15 55 (of_decide_eq_true rfl)) 15))))
         exact by exact ih x29 σ23 τ _ _ ls (by have h9 := tx29; omega) ⟨I30, I31, I32, I33, I34, I35, I36, I37, I38, I39, I40, I41, I42, I43, I44, I45, I46, I47, I48, I49, I50, I27, p51, p52, (by omega), (show jTp (σ23 10) (σ23 63) (σ23 55 15).toInt by rw [show σ23 10 = σ 10 from ((f25 10 (of_decide_eq_true rfl)).trans (f15 10 (of_decide_eq_true rfl))), show σ23 63 = σ 63 from ((f25 63 (of_decide_eq_true rfl)).trans (f15 63 (of_decide_eq_true rfl)))]; exact hr0.le (by omega))⟩ hP hS (lv_sub hl [0, 1, 2, 3] rfl)
set_option maxHeartbeats 4000000 in
set_option maxRecDepth 100000 in
theorem law_case_9 {p : Program} {e : Env} {s : State} {m : MethodId} {below : List Frame} {meth : Method} {c : Code} (l : Launch) {b L : Nat} {xs : Nat → Int32} {D : va_G} {cI cL : ClassId} {ad zz : Nat → Nat} (C0 : lw_At p s m meth c b L xs) (hJ : jD ad) (hA : ∀ q, jA ad q → s.heap.size ≤ q) (hK : jK D cI cL s) (hZ : jZ zz (fun q : Nat => s.heap.size ≤ q) s s.heap) {x0 : Int32} (hx0 : 0 ≤ x0.toInt) (hxL : x0.toInt + 6 ≤ (L : Int)) (hL : L ≤ 384) {σ : Nat → Nat → Int32} {τ : Nat → Nat → Int64} {H : Heap} {locs : List Loc} (hS : va_S (fun q : Nat => s.heap.size ≤ q) s.heap H locs) {ls : Array Slot} (hAll : jAll σ τ) (hP : jH D cI cL ad σ τ H) (hl : lv_has ls 4 [(3, .int x0), (2, .ref (ad 55)), (1, .ref (ad 0)), (0, .ref b)]) (ih : ∀ (x1 : Int32) (σ : Nat → Nat → Int32) (τ : Nat → Nat → Int64) (H : Heap) (locs : List Loc) (ls : Array Slot), x1.toInt = x0.toInt + 6 → jAll σ τ → jH D cI cL ad σ τ H → va_S (fun q : Nat => s.heap.size ≤ q) s.heap H locs → lv_has ls 4 [(3, .int x1), (2, .ref (ad 55)), (1, .ref (ad 0)), (0, .ref b)] → W p l e room_1 s m #[Value.ref b] below meth c H locs 90 348600 (lw_Z below #[Value.ref b] s) (F0 m 18 ls [])) : W p l e room_1 s m #[Value.ref b] below meth c H locs 90 348600 (lw_Z below #[Value.ref b] s) (F0 m 483 ls []) := by
  obtain ⟨hx, hb, hr, hml, hown, hts0, hX, hbl, hlocks, hgv⟩ := C0
  have hts : ∀ w ∈ wsL_law, w.before #[Value.ref b] s = true := fun w h => hts0 w (wsL_law_in w h)
  have hbA : ¬ (fun q : Nat => s.heap.size ≤ q) b := Nat.not_le.mpr hbl
  have hown : s.vm.findClass RL = some m.cls := hown
  obtain ⟨hI2, hI9, hI12, hI16, hI18, hI22, hI31, hI38, hI43, hI47, hI50, hI101, hI102, hI103, hI104, hI105, hI106, hI107, hI109, hI110, hI111, hI119, hs_jKept, hs_jBook, ht0, hr0⟩ := hAll
  have hL9 : (L : Int) ≤ 384 := by omega
  obtain ⟨i1, w2, w3⟩ : (0 ≤ (σ 9 0).toInt ∧ (σ 9 0).toInt ≤ 80) ∧ (∀ k : Nat, k < 80 → 0 ≤ (σ 10 k).toInt ∧ (σ 10 k).toInt ≤ 255) ∧ (∀ k : Nat, k < 8 → 0 ≤ (σ 11 k).toInt ∧ (σ 11 k).toInt ≤ 3) := id hI9
  obtain ⟨i4, w5⟩ : (0 ≤ (σ 55 15).toInt ∧ (σ 55 15).toInt ≤ 80) ∧ (∀ k : Nat, k < 2 → (-1) ≤ (σ 65 k).toInt ∧ (σ 65 k).toInt ≤ 80) := id hI105
  refine lv_aload_n hx hb dL_law_483 rfl (lv_at hl 2 rfl) ?_
  refine lv_aload_n hx hb dL_law_484 rfl (lv_at hl 3 rfl) ?_
  refine lv_iload_n hx hb dL_law_485 rfl (lv_at hl 0 rfl) ?_
  refine lv_iconst (v := 1) hx hb dL_law_486 (of_decide_eq_true rfl) ?_
  have g6 := jrg (rfl : x0.toInt = x0.toInt)
  refine lv_iadd hx hb dL_law_487 ?_
  refine lv_topi (fun x7 ex7 => ?_)
  exact by
   have tx7 : x7.toInt = x0.toInt + 1 := (jadd ex7 rfl jz_1 (by omega) (by omega)).trans (by omega)
   refine va_sld hx hb hX hbl hbA hS (jin tx7 (by omega) (by omega)) dL_law_488 ?_
   have g8 := jrg (rfl : (xs x7.toNatClampNeg).toInt = (xs x7.toNatClampNeg).toInt)
   refine lv_aload_n hx hb dL_law_489 rfl (lv_at hl 3 rfl) ?_
   refine lv_iload_n hx hb dL_law_490 rfl (lv_at hl 0 rfl) ?_
   refine lv_iconst (v := 2) hx hb dL_law_491 (of_decide_eq_true rfl) ?_
   refine lv_iadd hx hb dL_law_492 ?_
   refine lv_topi (fun x9 ex9 => ?_)
   have tx9 : x9.toInt = x0.toInt + 2 := (jadd ex9 rfl jz_2 (by omega) (by omega)).trans (by omega)
   exact by
    refine va_sld hx hb hX hbl hbA hS (jin tx9 (by omega) (by omega)) dL_law_493 ?_
    have g10 := jrg (rfl : (xs x9.toNatClampNeg).toInt = (xs x9.toNatClampNeg).toInt)
    refine lv_aload_n hx hb dL_law_494 rfl (lv_at hl 3 rfl) ?_
    refine lv_iload_n hx hb dL_law_495 rfl (lv_at hl 0 rfl) ?_
    refine lv_iconst (v := 3) hx hb dL_law_496 (of_decide_eq_true rfl) ?_
    refine lv_iadd hx hb dL_law_497 ?_
    refine lv_topi (fun x11 ex11 => ?_)
    have tx11 : x11.toInt = x0.toInt + 3 := (jadd ex11 rfl jz_3 (by omega) (by omega)).trans (by omega)
    refine va_sld hx hb hX hbl hbA hS (jin tx11 (by omega) (by omega)) dL_law_498 ?_
    exact by
     have g12 := jrg (rfl : (xs x11.toNatClampNeg).toInt = (xs x11.toNatClampNeg).toInt)
     refine jcallV (As := [.int (xs x7.toNatClampNeg), .int (xs x9.toNatClampNeg), .int (xs x11.toNatClampNeg)]) (rest := []) ⟨hx, hb, hml, hown, hts⟩ hK hP hA hS hZ (c_X11_rule l D cI cL ad zz hJ σ τ (xs x7.toNatClampNeg) ((xs x7.toNatClampNeg).toInt) rfl (xs x9.toNatClampNeg) ((xs x9.toNatClampNeg).toInt) rfl (xs x11.toNatClampNeg) ((xs x11.toNatClampNeg).toInt) rfl hI38) cw_RL_53 (jc_0 cI cL ad σ τ) rfl ⟨Nat.le_of_ble_eq_true rfl, Nat.le_of_ble_eq_true rfl⟩ rfl rfl rfl hl.1 rfl (Nat.le_of_ble_eq_true rfl) dL_law_499 ⟨Nat.le_of_ble_eq_true rfl, Nat.le_of_ble_eq_true rfl⟩ (fun r14 σ13 τ13 H locs h13 hP hS => ?_)
     obtain ⟨rfl, f15, f16, I17, h13⟩ := h13
     rcases h13 with h19 | h20 | h21
     · obtain ⟨q25, k22, k23, k24⟩ := h19
       have q25 := q25.symm
       subst q25
       refine lv_pop hx hb dL_law_502 rfl ?_
       refine lv_aload_n hx hb dL_law_503 rfl (lv_at hl 1 rfl) ?_
       refine lv_aload_n hx hb dL_law_504 rfl (lv_at hl 3 rfl) ?_
       refine lv_iload_n hx hb dL_law_505 rfl (lv_at hl 0 rfl) ?_
       refine lv_iconst (v := 1) hx hb dL_law_506 (of_decide_eq_true rfl) ?_
       refine lv_iadd hx hb dL_law_507 ?_
       refine jtopr ex7.symm ?_
       exact by
        refine va_sld hx hb hX hbl hbA hS (jin tx7 (by omega) (by omega)) dL_law_508 ?_
        refine lv_aload_n hx hb dL_law_509 rfl (lv_at hl 3 rfl) ?_
        refine lv_iload_n hx hb dL_law_510 rfl (lv_at hl 0 rfl) ?_
        refine lv_iconst (v := 2) hx hb dL_law_511 (of_decide_eq_true rfl) ?_
        refine lv_iadd hx hb dL_law_512 ?_
        refine jtopr ex9.symm ?_
        refine va_sld hx hb hX hbl hbA hS (jin tx9 (by omega) (by omega)) dL_law_513 ?_
        refine lv_aload_n hx hb dL_law_514 rfl (lv_at hl 3 rfl) ?_
        refine lv_iload_n hx hb dL_law_515 rfl (lv_at hl 0 rfl) ?_
        exact by
         refine lv_iconst (v := 3) hx hb dL_law_516 (of_decide_eq_true rfl) ?_
         refine lv_iadd hx hb dL_law_517 ?_
         refine jtopr ex11.symm ?_
         refine va_sld hx hb hX hbl hbA hS (jin tx11 (by omega) (by omega)) dL_law_518 ?_
         have I26 : jI106 σ13 := jI106_fr (congrFun (f15 55 (of_decide_eq_true rfl)) 32) (f15 70 (of_decide_eq_true rfl)) (f15 71 (of_decide_eq_true rfl)) (f15 72 (of_decide_eq_true rfl)) hI106
         have z27 : (σ13 55 32).toInt = (σ 55 32).toInt := (congrArg Int32.toInt (show σ13 55 32 = (σ 55 32) from (congrFun (f15 55 (of_decide_eq_true rfl)) 32)))
         refine jcallV (As := [.int (xs x7.toNatClampNeg), .int (xs x9.toNatClampNeg), .int (xs x11.toNatClampNeg)]) (rest := []) ⟨hx, hb, hml, hown, hts⟩ hK hP hA hS hZ (c_X12_rule l D cI cL ad zz hJ σ13 τ (xs x7.toNatClampNeg) ((xs x7.toNatClampNeg).toInt) rfl (xs x9.toNatClampNeg) ((xs x9.toNatClampNeg).toInt) rfl (xs x11.toNatClampNeg) ((xs x11.toNatClampNeg).toInt) rfl I26) cw_RL_56 (jc_55 cI cL ad σ13 τ) rfl ⟨Nat.le_of_ble_eq_true rfl, Nat.le_of_ble_eq_true rfl⟩ rfl rfl rfl hl.1 rfl (Nat.le_of_ble_eq_true rfl) dL_law_519 ⟨Nat.le_of_ble_eq_true rfl, Nat.le_of_ble_eq_true rfl⟩ (fun r29 σ28 τ28 H locs h28 hP hS => ?_)
         obtain ⟨rfl, f30, f31, I32, h28⟩ := h28
         rcases h28 with h34 | h35 | h36
         · exact by
            obtain ⟨q40, k37, k38, k39⟩ := h34
            have q40 := q40.symm
            subst q40
            refine lv_pop hx hb dL_law_522 rfl ?_
            refine lv_goto (tgt := 1357) hx hb dL_law_523 (of_decide_eq_true rfl) ?_
            obtain ⟨x41, ex41⟩ : ∃ y : Int32, y = x0 + 6 := ⟨_, rfl⟩
            have tx41 : x41.toInt = x0.toInt + 6 := (jadd ex41 rfl jz_6 (by omega) (by omega)).trans (by omega)
            refine lv_iinc (v := x41) (lv' := [(3, .int x41), (2, .ref (ad 55)), (1, .ref (ad 0)), (0, .ref b)]) hx hb dL_law_1357 hl (k := 0) rfl (by rw [ex41]; rfl) (of_decide_eq_true rfl) rfl (fun ls hl => ?_)
            refine lv_goto (tgt := 18) hx hb dL_law_1360 (of_decide_eq_true rfl) ?_
            exact by
             have I42 : jI2 σ28 := jI2_fr ((congrFun (f30 2 (of_decide_eq_true rfl)) 0).trans (congrFun (f15 2 (of_decide_eq_true rfl)) 0)) ((congrFun (f30 2 (of_decide_eq_true rfl)) 1).trans (congrFun (f15 2 (of_decide_eq_true rfl)) 1)) ((congrFun (f30 2 (of_decide_eq_true rfl)) 2).trans (congrFun (f15 2 (of_decide_eq_true rfl)) 2)) ((congrFun (f30 2 (of_decide_eq_true rfl)) 3).trans (congrFun (f15 2 (of_decide_eq_true rfl)) 3)) ((f30 6 (of_decide_eq_true rfl)).trans (f15 6 (of_decide_eq_true rfl))) hI2
             have I43 : jI9 σ28 := jI9_fr ((congrFun (f30 9 (of_decide_eq_true rfl)) 0).trans (congrFun (f15 9 (of_decide_eq_true rfl)) 0)) ((f30 10 (of_decide_eq_true rfl)).trans (f15 10 (of_decide_eq_true rfl))) ((f30 11 (of_decide_eq_true rfl)).trans (f15 11 (of_decide_eq_true rfl))) hI9
             have I44 : jI12 σ28 := jI12_fr ((congrFun (f30 12 (of_decide_eq_true rfl)) 0).trans (congrFun (f15 12 (of_decide_eq_true rfl)) 0)) ((f30 13 (of_decide_eq_true rfl)).trans (f15 13 (of_decide_eq_true rfl))) hI12
             have I45 : jI16 σ28 := jI16_fr ((congrFun (f30 16 (of_decide_eq_true rfl)) 0).trans (congrFun (f15 16 (of_decide_eq_true rfl)) 0)) ((congrFun (f30 16 (of_decide_eq_true rfl)) 1).trans (congrFun (f15 16 (of_decide_eq_true rfl)) 1)) ((congrFun (f30 16 (of_decide_eq_true rfl)) 2).trans (congrFun (f15 16 (of_decide_eq_true rfl)) 2)) ((f30 17 (of_decide_eq_true rfl)).trans (f15 17 (of_decide_eq_true rfl))) hI16
             have I46 : jI18 σ28 := jI18_fr ((congrFun (f30 18 (of_decide_eq_true rfl)) 0).trans (congrFun (f15 18 (of_decide_eq_true rfl)) 0)) ((f30 19 (of_decide_eq_true rfl)).trans (f15 19 (of_decide_eq_true rfl))) hI18
             have I47 : jI22 σ28 := jI22_fr ((congrFun (f30 22 (of_decide_eq_true rfl)) 0).trans (congrFun (f15 22 (of_decide_eq_true rfl)) 0)) ((f30 23 (of_decide_eq_true rfl)).trans (f15 23 (of_decide_eq_true rfl))) hI22
             have I48 : jI31 σ28 := jI31_fr ((congrFun (f30 31 (of_decide_eq_true rfl)) 8).trans (congrFun (f15 31 (of_decide_eq_true rfl)) 8)) ((f30 33 (of_decide_eq_true rfl)).trans (f15 33 (of_decide_eq_true rfl))) ((f30 36 (of_decide_eq_true rfl)).trans (f15 36 (of_decide_eq_true rfl))) hI31
             have I49 : jI38 σ28 := jI38_fr (congrFun (f30 38 (of_decide_eq_true rfl)) 0) (congrFun (f30 38 (of_decide_eq_true rfl)) 1) (f30 39 (of_decide_eq_true rfl)) I17
             have I50 : jI43 σ28 := jI43_fr ((congrFun (f30 43 (of_decide_eq_true rfl)) 8).trans (congrFun (f15 43 (of_decide_eq_true rfl)) 8)) hI43
             have I51 : jI47 σ28 := jI47_fr ((congrFun (f30 47 (of_decide_eq_true rfl)) 0).trans (congrFun (f15 47 (of_decide_eq_true rfl)) 0)) ((f30 48 (of_decide_eq_true rfl)).trans (f15 48 (of_decide_eq_true rfl))) ((f30 49 (of_decide_eq_true rfl)).trans (f15 49 (of_decide_eq_true rfl))) hI47
             have I52 : jI50 σ28 := jI50_fr ((f30 52 (of_decide_eq_true rfl)).trans (f15 52 (of_decide_eq_true rfl))) hI50
             have I53 : jI101 σ28 := jI101_fr ((f31 4 (of_decide_eq_true rfl)).trans (congrFun (f15 55 (of_decide_eq_true rfl)) 4)) ((f31 5 (of_decide_eq_true rfl)).trans (congrFun (f15 55 (of_decide_eq_true rfl)) 5)) ((f30 56 (of_decide_eq_true rfl)).trans (f15 56 (of_decide_eq_true rfl))) ((f30 57 (of_decide_eq_true rfl)).trans (f15 57 (of_decide_eq_true rfl))) ((f30 58 (of_decide_eq_true rfl)).trans (f15 58 (of_decide_eq_true rfl))) ((f30 59 (of_decide_eq_true rfl)).trans (f15 59 (of_decide_eq_true rfl))) hI101
             have I54 : jI102 σ28 := jI102_fr ((f31 6 (of_decide_eq_true rfl)).trans (congrFun (f15 55 (of_decide_eq_true rfl)) 6)) ((f30 60 (of_decide_eq_true rfl)).trans (f15 60 (of_decide_eq_true rfl))) ((f30 61 (of_decide_eq_true rfl)).trans (f15 61 (of_decide_eq_true rfl))) hI102
             have I55 : jI103 σ28 := jI103_fr ((f31 9 (of_decide_eq_true rfl)).trans (congrFun (f15 55 (of_decide_eq_true rfl)) 9)) hI103
             have I56 : jI104 σ28 := jI104_fr ((f31 10 (of_decide_eq_true rfl)).trans (congrFun (f15 55 (of_decide_eq_true rfl)) 10)) ((f31 12 (of_decide_eq_true rfl)).trans (congrFun (f15 55 (of_decide_eq_true rfl)) 12)) ((f31 13 (of_decide_eq_true rfl)).trans (congrFun (f15 55 (of_decide_eq_true rfl)) 13)) ((f30 62 (of_decide_eq_true rfl)).trans (f15 62 (of_decide_eq_true rfl))) ((f30 67 (of_decide_eq_true rfl)).trans (f15 67 (of_decide_eq_true rfl))) hI104
             have I57 : jI105 σ28 := jI105_fr ((f31 15 (of_decide_eq_true rfl)).trans (congrFun (f15 55 (of_decide_eq_true rfl)) 15)) ((f30 65 (of_decide_eq_true rfl)).trans (f15 65 (of_decide_eq_true rfl))) hI105
             have I58 : jI107 σ28 := jI107_fr ((f31 12 (of_decide_eq_true rfl)).trans (congrFun (f15 55 (of_decide_eq_true rfl)) 12)) ((f31 47 (of_decide_eq_true rfl)).trans (congrFun (f15 55 (of_decide_eq_true rfl)) 47)) ((f30 80 (of_decide_eq_true rfl)).trans (f15 80 (of_decide_eq_true rfl))) hI107
             have I59 : jI109 σ28 := jI109_fr ((f31 50 (of_decide_eq_true rfl)).trans (congrFun (f15 55 (of_decide_eq_true rfl)) 50)) hI109
             have I60 : jI110 σ28 := jI110_fr ((f30 86 (of_decide_eq_true rfl)).trans (f15 86 (of_decide_eq_true rfl))) ((f30 87 (of_decide_eq_true rfl)).trans (f15 87 (of_decide_eq_true rfl))) hI110
             have I61 : jI111 σ28 := jI111_fr ((f30 79 (of_decide_eq_true rfl)).trans (f15 79 (of_decide_eq_true rfl))) hI111
             have I62 : jI119 σ28 := jI119_fr ((f30 68 (of_decide_eq_true rfl)).trans (f15 68 (of_decide_eq_true rfl))) hI119
             have p63 : jKept σ28 := jKept.fr ((f30 75 (of_decide_eq_true rfl)).trans (f15 75 (of_decide_eq_true rfl))) ((f30 76 (of_decide_eq_true rfl)).trans (f15 76 (of_decide_eq_true rfl))) ((f30 77 (of_decide_eq_true rfl)).trans (f15 77 (of_decide_eq_true rfl))) hs_jKept
             have p64 : jBook σ28 := jBook.fr ((f31 47 (of_decide_eq_true rfl)).trans (congrFun (f15 55 (of_decide_eq_true rfl)) 47)) ((f31 10 (of_decide_eq_true rfl)).trans (congrFun (f15 55 (of_decide_eq_true rfl)) 10)) ((f30 81 (of_decide_eq_true rfl)).trans (f15 81 (of_decide_eq_true rfl))) hs_jBook
             have z65 : (σ28 9 0).toInt = (σ 9 0).toInt := (congrArg Int32.toInt (show σ28 9 0 = (σ 9 0) from ((congrFun (f30 9 (of_decide_eq_true rfl)) 0).trans (congrFun (f15 9 (of_decide_eq_true rfl)) 0))))
             have z66 : (σ28 55 15).toInt = (σ 55 15).toInt := (congrArg Int32.toInt (show σ28 55 15 = (σ 55 15) from ((f31 15 (of_decide_eq_true rfl)).trans (congrFun (f15 55 (of_decide_eq_true rfl)) 15))))
             exact by exact ih x41 σ28 τ _ _ ls (by have h9 := tx41; omega) ⟨I42, I43, I44, I45, I46, I47, I48, I49, I50, I51, I52, I53, I54, I55, I56, I57, I32, I58, I59, I60, I61, I62, p63, p64, (by omega), (show jTp (σ28 10) (σ28 63) (σ28 55 15).toInt by rw [show σ28 10 = σ 10 from ((f30 10 (of_decide_eq_true rfl)).trans (f15 10 (of_decide_eq_true rfl))), show σ28 63 = σ 63 from ((f30 63 (of_decide_eq_true rfl)).trans (f15 63 (of_decide_eq_true rfl)))]; exact hr0.le (by omega))⟩ hP hS (lv_sub hl [0, 1, 2, 3] rfl)
         · obtain ⟨q71, k67, k68, k69, k70⟩ := h35
           have q71 := q71.symm
           subst q71
           exact absurd k69 k23
         · obtain ⟨q77, k72, k73, k74, k75, k76⟩ := h36
           exact absurd k75 k23
     · obtain ⟨q82, k78, k79, k80, k81⟩ := h20
       have q82 := q82.symm
       subst q82
       refine lv_pop hx hb dL_law_502 rfl ?_
       refine lv_aload_n hx hb dL_law_503 rfl (lv_at hl 1 rfl) ?_
       refine lv_aload_n hx hb dL_law_504 rfl (lv_at hl 3 rfl) ?_
       refine lv_iload_n hx hb dL_law_505 rfl (lv_at hl 0 rfl) ?_
       refine lv_iconst (v := 1) hx hb dL_law_506 (of_decide_eq_true rfl) ?_
       refine lv_iadd hx hb dL_law_507 ?_
       refine jtopr ex7.symm ?_
       exact by
        refine va_sld hx hb hX hbl hbA hS (jin tx7 (by omega) (by omega)) dL_law_508 ?_
        refine lv_aload_n hx hb dL_law_509 rfl (lv_at hl 3 rfl) ?_
        refine lv_iload_n hx hb dL_law_510 rfl (lv_at hl 0 rfl) ?_
        refine lv_iconst (v := 2) hx hb dL_law_511 (of_decide_eq_true rfl) ?_
        refine lv_iadd hx hb dL_law_512 ?_
        refine jtopr ex9.symm ?_
        refine va_sld hx hb hX hbl hbA hS (jin tx9 (by omega) (by omega)) dL_law_513 ?_
        refine lv_aload_n hx hb dL_law_514 rfl (lv_at hl 3 rfl) ?_
        refine lv_iload_n hx hb dL_law_515 rfl (lv_at hl 0 rfl) ?_
        exact by
         refine lv_iconst (v := 3) hx hb dL_law_516 (of_decide_eq_true rfl) ?_
         refine lv_iadd hx hb dL_law_517 ?_
         refine jtopr ex11.symm ?_
         refine va_sld hx hb hX hbl hbA hS (jin tx11 (by omega) (by omega)) dL_law_518 ?_
         have I83 : jI106 σ13 := jI106_fr (congrFun (f15 55 (of_decide_eq_true rfl)) 32) (f15 70 (of_decide_eq_true rfl)) (f15 71 (of_decide_eq_true rfl)) (f15 72 (of_decide_eq_true rfl)) hI106
         have z84 : (σ13 55 32).toInt = (σ 55 32).toInt := (congrArg Int32.toInt (show σ13 55 32 = (σ 55 32) from (congrFun (f15 55 (of_decide_eq_true rfl)) 32)))
         refine jcallV (As := [.int (xs x7.toNatClampNeg), .int (xs x9.toNatClampNeg), .int (xs x11.toNatClampNeg)]) (rest := []) ⟨hx, hb, hml, hown, hts⟩ hK hP hA hS hZ (c_X12_rule l D cI cL ad zz hJ σ13 τ (xs x7.toNatClampNeg) ((xs x7.toNatClampNeg).toInt) rfl (xs x9.toNatClampNeg) ((xs x9.toNatClampNeg).toInt) rfl (xs x11.toNatClampNeg) ((xs x11.toNatClampNeg).toInt) rfl I83) cw_RL_56 (jc_55 cI cL ad σ13 τ) rfl ⟨Nat.le_of_ble_eq_true rfl, Nat.le_of_ble_eq_true rfl⟩ rfl rfl rfl hl.1 rfl (Nat.le_of_ble_eq_true rfl) dL_law_519 ⟨Nat.le_of_ble_eq_true rfl, Nat.le_of_ble_eq_true rfl⟩ (fun r86 σ85 τ85 H locs h85 hP hS => ?_)
         obtain ⟨rfl, f87, f88, I89, h85⟩ := h85
         rcases h85 with h91 | h92 | h93
         · exact by
            obtain ⟨q97, k94, k95, k96⟩ := h91
            have q97 := q97.symm
            subst q97
            exact absurd k80 k95
         · obtain ⟨q102, k98, k99, k100, k101⟩ := h92
           have q102 := q102.symm
           subst q102
           refine lv_pop hx hb dL_law_522 rfl ?_
           refine lv_goto (tgt := 1357) hx hb dL_law_523 (of_decide_eq_true rfl) ?_
           obtain ⟨x103, ex103⟩ : ∃ y : Int32, y = x0 + 6 := ⟨_, rfl⟩
           exact by
            have tx103 : x103.toInt = x0.toInt + 6 := (jadd ex103 rfl jz_6 (by omega) (by omega)).trans (by omega)
            refine lv_iinc (v := x103) (lv' := [(3, .int x103), (2, .ref (ad 55)), (1, .ref (ad 0)), (0, .ref b)]) hx hb dL_law_1357 hl (k := 0) rfl (by rw [ex103]; rfl) (of_decide_eq_true rfl) rfl (fun ls hl => ?_)
            refine lv_goto (tgt := 18) hx hb dL_law_1360 (of_decide_eq_true rfl) ?_
            have I104 : jI2 σ85 := jI2_fr ((congrFun (f87 2 (of_decide_eq_true rfl)) 0).trans (congrFun (f15 2 (of_decide_eq_true rfl)) 0)) ((congrFun (f87 2 (of_decide_eq_true rfl)) 1).trans (congrFun (f15 2 (of_decide_eq_true rfl)) 1)) ((congrFun (f87 2 (of_decide_eq_true rfl)) 2).trans (congrFun (f15 2 (of_decide_eq_true rfl)) 2)) ((congrFun (f87 2 (of_decide_eq_true rfl)) 3).trans (congrFun (f15 2 (of_decide_eq_true rfl)) 3)) ((f87 6 (of_decide_eq_true rfl)).trans (f15 6 (of_decide_eq_true rfl))) hI2
            have I105 : jI9 σ85 := jI9_fr ((congrFun (f87 9 (of_decide_eq_true rfl)) 0).trans (congrFun (f15 9 (of_decide_eq_true rfl)) 0)) ((f87 10 (of_decide_eq_true rfl)).trans (f15 10 (of_decide_eq_true rfl))) ((f87 11 (of_decide_eq_true rfl)).trans (f15 11 (of_decide_eq_true rfl))) hI9
            have I106 : jI12 σ85 := jI12_fr ((congrFun (f87 12 (of_decide_eq_true rfl)) 0).trans (congrFun (f15 12 (of_decide_eq_true rfl)) 0)) ((f87 13 (of_decide_eq_true rfl)).trans (f15 13 (of_decide_eq_true rfl))) hI12
            have I107 : jI16 σ85 := jI16_fr ((congrFun (f87 16 (of_decide_eq_true rfl)) 0).trans (congrFun (f15 16 (of_decide_eq_true rfl)) 0)) ((congrFun (f87 16 (of_decide_eq_true rfl)) 1).trans (congrFun (f15 16 (of_decide_eq_true rfl)) 1)) ((congrFun (f87 16 (of_decide_eq_true rfl)) 2).trans (congrFun (f15 16 (of_decide_eq_true rfl)) 2)) ((f87 17 (of_decide_eq_true rfl)).trans (f15 17 (of_decide_eq_true rfl))) hI16
            have I108 : jI18 σ85 := jI18_fr ((congrFun (f87 18 (of_decide_eq_true rfl)) 0).trans (congrFun (f15 18 (of_decide_eq_true rfl)) 0)) ((f87 19 (of_decide_eq_true rfl)).trans (f15 19 (of_decide_eq_true rfl))) hI18
            have I109 : jI22 σ85 := jI22_fr ((congrFun (f87 22 (of_decide_eq_true rfl)) 0).trans (congrFun (f15 22 (of_decide_eq_true rfl)) 0)) ((f87 23 (of_decide_eq_true rfl)).trans (f15 23 (of_decide_eq_true rfl))) hI22
            exact by
             have I110 : jI31 σ85 := jI31_fr ((congrFun (f87 31 (of_decide_eq_true rfl)) 8).trans (congrFun (f15 31 (of_decide_eq_true rfl)) 8)) ((f87 33 (of_decide_eq_true rfl)).trans (f15 33 (of_decide_eq_true rfl))) ((f87 36 (of_decide_eq_true rfl)).trans (f15 36 (of_decide_eq_true rfl))) hI31
             have I111 : jI38 σ85 := jI38_fr (congrFun (f87 38 (of_decide_eq_true rfl)) 0) (congrFun (f87 38 (of_decide_eq_true rfl)) 1) (f87 39 (of_decide_eq_true rfl)) I17
             have I112 : jI43 σ85 := jI43_fr ((congrFun (f87 43 (of_decide_eq_true rfl)) 8).trans (congrFun (f15 43 (of_decide_eq_true rfl)) 8)) hI43
             have I113 : jI47 σ85 := jI47_fr ((congrFun (f87 47 (of_decide_eq_true rfl)) 0).trans (congrFun (f15 47 (of_decide_eq_true rfl)) 0)) ((f87 48 (of_decide_eq_true rfl)).trans (f15 48 (of_decide_eq_true rfl))) ((f87 49 (of_decide_eq_true rfl)).trans (f15 49 (of_decide_eq_true rfl))) hI47
             have I114 : jI50 σ85 := jI50_fr ((f87 52 (of_decide_eq_true rfl)).trans (f15 52 (of_decide_eq_true rfl))) hI50
             have I115 : jI101 σ85 := jI101_fr ((f88 4 (of_decide_eq_true rfl)).trans (congrFun (f15 55 (of_decide_eq_true rfl)) 4)) ((f88 5 (of_decide_eq_true rfl)).trans (congrFun (f15 55 (of_decide_eq_true rfl)) 5)) ((f87 56 (of_decide_eq_true rfl)).trans (f15 56 (of_decide_eq_true rfl))) ((f87 57 (of_decide_eq_true rfl)).trans (f15 57 (of_decide_eq_true rfl))) ((f87 58 (of_decide_eq_true rfl)).trans (f15 58 (of_decide_eq_true rfl))) ((f87 59 (of_decide_eq_true rfl)).trans (f15 59 (of_decide_eq_true rfl))) hI101
             have I116 : jI102 σ85 := jI102_fr ((f88 6 (of_decide_eq_true rfl)).trans (congrFun (f15 55 (of_decide_eq_true rfl)) 6)) ((f87 60 (of_decide_eq_true rfl)).trans (f15 60 (of_decide_eq_true rfl))) ((f87 61 (of_decide_eq_true rfl)).trans (f15 61 (of_decide_eq_true rfl))) hI102
             have I117 : jI103 σ85 := jI103_fr ((f88 9 (of_decide_eq_true rfl)).trans (congrFun (f15 55 (of_decide_eq_true rfl)) 9)) hI103
             have I118 : jI104 σ85 := jI104_fr ((f88 10 (of_decide_eq_true rfl)).trans (congrFun (f15 55 (of_decide_eq_true rfl)) 10)) ((f88 12 (of_decide_eq_true rfl)).trans (congrFun (f15 55 (of_decide_eq_true rfl)) 12)) ((f88 13 (of_decide_eq_true rfl)).trans (congrFun (f15 55 (of_decide_eq_true rfl)) 13)) ((f87 62 (of_decide_eq_true rfl)).trans (f15 62 (of_decide_eq_true rfl))) ((f87 67 (of_decide_eq_true rfl)).trans (f15 67 (of_decide_eq_true rfl))) hI104
             have I119 : jI105 σ85 := jI105_fr ((f88 15 (of_decide_eq_true rfl)).trans (congrFun (f15 55 (of_decide_eq_true rfl)) 15)) ((f87 65 (of_decide_eq_true rfl)).trans (f15 65 (of_decide_eq_true rfl))) hI105
             have I120 : jI107 σ85 := jI107_fr ((f88 12 (of_decide_eq_true rfl)).trans (congrFun (f15 55 (of_decide_eq_true rfl)) 12)) ((f88 47 (of_decide_eq_true rfl)).trans (congrFun (f15 55 (of_decide_eq_true rfl)) 47)) ((f87 80 (of_decide_eq_true rfl)).trans (f15 80 (of_decide_eq_true rfl))) hI107
             have I121 : jI109 σ85 := jI109_fr ((f88 50 (of_decide_eq_true rfl)).trans (congrFun (f15 55 (of_decide_eq_true rfl)) 50)) hI109
             have I122 : jI110 σ85 := jI110_fr ((f87 86 (of_decide_eq_true rfl)).trans (f15 86 (of_decide_eq_true rfl))) ((f87 87 (of_decide_eq_true rfl)).trans (f15 87 (of_decide_eq_true rfl))) hI110
             have I123 : jI111 σ85 := jI111_fr ((f87 79 (of_decide_eq_true rfl)).trans (f15 79 (of_decide_eq_true rfl))) hI111
             have I124 : jI119 σ85 := jI119_fr ((f87 68 (of_decide_eq_true rfl)).trans (f15 68 (of_decide_eq_true rfl))) hI119
             have p125 : jKept σ85 := jKept.fr ((f87 75 (of_decide_eq_true rfl)).trans (f15 75 (of_decide_eq_true rfl))) ((f87 76 (of_decide_eq_true rfl)).trans (f15 76 (of_decide_eq_true rfl))) ((f87 77 (of_decide_eq_true rfl)).trans (f15 77 (of_decide_eq_true rfl))) hs_jKept
             have p126 : jBook σ85 := jBook.fr ((f88 47 (of_decide_eq_true rfl)).trans (congrFun (f15 55 (of_decide_eq_true rfl)) 47)) ((f88 10 (of_decide_eq_true rfl)).trans (congrFun (f15 55 (of_decide_eq_true rfl)) 10)) ((f87 81 (of_decide_eq_true rfl)).trans (f15 81 (of_decide_eq_true rfl))) hs_jBook
             have z127 : (σ85 9 0).toInt = (σ 9 0).toInt := (congrArg Int32.toInt (show σ85 9 0 = (σ 9 0) from ((congrFun (f87 9 (of_decide_eq_true rfl)) 0).trans (congrFun (f15 9 (of_decide_eq_true rfl)) 0))))
             have z128 : (σ85 55 15).toInt = (σ 55 15).toInt := (congrArg Int32.toInt (show σ85 55 15 = (σ 55 15) from ((f88 15 (of_decide_eq_true rfl)).trans (congrFun (f15 55 (of_decide_eq_true rfl)) 15))))
             exact by exact ih x103 σ85 τ _ _ ls (by have h9 := tx103; omega) ⟨I104, I105, I106, I107, I108, I109, I110, I111, I112, I113, I114, I115, I116, I117, I118, I119, I89, I120, I121, I122, I123, I124, p125, p126, (by omega), (show jTp (σ85 10) (σ85 63) (σ85 55 15).toInt by rw [show σ85 10 = σ 10 from ((f87 10 (of_decide_eq_true rfl)).trans (f15 10 (of_decide_eq_true rfl))), show σ85 63 = σ 63 from ((f87 63 (of_decide_eq_true rfl)).trans (f15 63 (of_decide_eq_true rfl)))]; exact hr0.le (by omega))⟩ hP hS (lv_sub hl [0, 1, 2, 3] rfl)
         · obtain ⟨q134, k129, k130, k131, k132, k133⟩ := h93
           refine lv_pop hx hb dL_law_522 rfl ?_
           refine lv_goto (tgt := 1357) hx hb dL_law_523 (of_decide_eq_true rfl) ?_
           obtain ⟨x135, ex135⟩ : ∃ y : Int32, y = x0 + 6 := ⟨_, rfl⟩
           exact by
            have tx135 : x135.toInt = x0.toInt + 6 := (jadd ex135 rfl jz_6 (by omega) (by omega)).trans (by omega)
            refine lv_iinc (v := x135) (lv' := [(3, .int x135), (2, .ref (ad 55)), (1, .ref (ad 0)), (0, .ref b)]) hx hb dL_law_1357 hl (k := 0) rfl (by rw [ex135]; rfl) (of_decide_eq_true rfl) rfl (fun ls hl => ?_)
            refine lv_goto (tgt := 18) hx hb dL_law_1360 (of_decide_eq_true rfl) ?_
            have I136 : jI2 σ85 := jI2_fr ((congrFun (f87 2 (of_decide_eq_true rfl)) 0).trans (congrFun (f15 2 (of_decide_eq_true rfl)) 0)) ((congrFun (f87 2 (of_decide_eq_true rfl)) 1).trans (congrFun (f15 2 (of_decide_eq_true rfl)) 1)) ((congrFun (f87 2 (of_decide_eq_true rfl)) 2).trans (congrFun (f15 2 (of_decide_eq_true rfl)) 2)) ((congrFun (f87 2 (of_decide_eq_true rfl)) 3).trans (congrFun (f15 2 (of_decide_eq_true rfl)) 3)) ((f87 6 (of_decide_eq_true rfl)).trans (f15 6 (of_decide_eq_true rfl))) hI2
            have I137 : jI9 σ85 := jI9_fr ((congrFun (f87 9 (of_decide_eq_true rfl)) 0).trans (congrFun (f15 9 (of_decide_eq_true rfl)) 0)) ((f87 10 (of_decide_eq_true rfl)).trans (f15 10 (of_decide_eq_true rfl))) ((f87 11 (of_decide_eq_true rfl)).trans (f15 11 (of_decide_eq_true rfl))) hI9
            have I138 : jI12 σ85 := jI12_fr ((congrFun (f87 12 (of_decide_eq_true rfl)) 0).trans (congrFun (f15 12 (of_decide_eq_true rfl)) 0)) ((f87 13 (of_decide_eq_true rfl)).trans (f15 13 (of_decide_eq_true rfl))) hI12
            have I139 : jI16 σ85 := jI16_fr ((congrFun (f87 16 (of_decide_eq_true rfl)) 0).trans (congrFun (f15 16 (of_decide_eq_true rfl)) 0)) ((congrFun (f87 16 (of_decide_eq_true rfl)) 1).trans (congrFun (f15 16 (of_decide_eq_true rfl)) 1)) ((congrFun (f87 16 (of_decide_eq_true rfl)) 2).trans (congrFun (f15 16 (of_decide_eq_true rfl)) 2)) ((f87 17 (of_decide_eq_true rfl)).trans (f15 17 (of_decide_eq_true rfl))) hI16
            have I140 : jI18 σ85 := jI18_fr ((congrFun (f87 18 (of_decide_eq_true rfl)) 0).trans (congrFun (f15 18 (of_decide_eq_true rfl)) 0)) ((f87 19 (of_decide_eq_true rfl)).trans (f15 19 (of_decide_eq_true rfl))) hI18
            have I141 : jI22 σ85 := jI22_fr ((congrFun (f87 22 (of_decide_eq_true rfl)) 0).trans (congrFun (f15 22 (of_decide_eq_true rfl)) 0)) ((f87 23 (of_decide_eq_true rfl)).trans (f15 23 (of_decide_eq_true rfl))) hI22
            exact by
             have I142 : jI31 σ85 := jI31_fr ((congrFun (f87 31 (of_decide_eq_true rfl)) 8).trans (congrFun (f15 31 (of_decide_eq_true rfl)) 8)) ((f87 33 (of_decide_eq_true rfl)).trans (f15 33 (of_decide_eq_true rfl))) ((f87 36 (of_decide_eq_true rfl)).trans (f15 36 (of_decide_eq_true rfl))) hI31
             have I143 : jI38 σ85 := jI38_fr (congrFun (f87 38 (of_decide_eq_true rfl)) 0) (congrFun (f87 38 (of_decide_eq_true rfl)) 1) (f87 39 (of_decide_eq_true rfl)) I17
             have I144 : jI43 σ85 := jI43_fr ((congrFun (f87 43 (of_decide_eq_true rfl)) 8).trans (congrFun (f15 43 (of_decide_eq_true rfl)) 8)) hI43
             have I145 : jI47 σ85 := jI47_fr ((congrFun (f87 47 (of_decide_eq_true rfl)) 0).trans (congrFun (f15 47 (of_decide_eq_true rfl)) 0)) ((f87 48 (of_decide_eq_true rfl)).trans (f15 48 (of_decide_eq_true rfl))) ((f87 49 (of_decide_eq_true rfl)).trans (f15 49 (of_decide_eq_true rfl))) hI47
             have I146 : jI50 σ85 := jI50_fr ((f87 52 (of_decide_eq_true rfl)).trans (f15 52 (of_decide_eq_true rfl))) hI50
             have I147 : jI101 σ85 := jI101_fr ((f88 4 (of_decide_eq_true rfl)).trans (congrFun (f15 55 (of_decide_eq_true rfl)) 4)) ((f88 5 (of_decide_eq_true rfl)).trans (congrFun (f15 55 (of_decide_eq_true rfl)) 5)) ((f87 56 (of_decide_eq_true rfl)).trans (f15 56 (of_decide_eq_true rfl))) ((f87 57 (of_decide_eq_true rfl)).trans (f15 57 (of_decide_eq_true rfl))) ((f87 58 (of_decide_eq_true rfl)).trans (f15 58 (of_decide_eq_true rfl))) ((f87 59 (of_decide_eq_true rfl)).trans (f15 59 (of_decide_eq_true rfl))) hI101
             have I148 : jI102 σ85 := jI102_fr ((f88 6 (of_decide_eq_true rfl)).trans (congrFun (f15 55 (of_decide_eq_true rfl)) 6)) ((f87 60 (of_decide_eq_true rfl)).trans (f15 60 (of_decide_eq_true rfl))) ((f87 61 (of_decide_eq_true rfl)).trans (f15 61 (of_decide_eq_true rfl))) hI102
             have I149 : jI103 σ85 := jI103_fr ((f88 9 (of_decide_eq_true rfl)).trans (congrFun (f15 55 (of_decide_eq_true rfl)) 9)) hI103
             have I150 : jI104 σ85 := jI104_fr ((f88 10 (of_decide_eq_true rfl)).trans (congrFun (f15 55 (of_decide_eq_true rfl)) 10)) ((f88 12 (of_decide_eq_true rfl)).trans (congrFun (f15 55 (of_decide_eq_true rfl)) 12)) ((f88 13 (of_decide_eq_true rfl)).trans (congrFun (f15 55 (of_decide_eq_true rfl)) 13)) ((f87 62 (of_decide_eq_true rfl)).trans (f15 62 (of_decide_eq_true rfl))) ((f87 67 (of_decide_eq_true rfl)).trans (f15 67 (of_decide_eq_true rfl))) hI104
             have I151 : jI105 σ85 := jI105_fr ((f88 15 (of_decide_eq_true rfl)).trans (congrFun (f15 55 (of_decide_eq_true rfl)) 15)) ((f87 65 (of_decide_eq_true rfl)).trans (f15 65 (of_decide_eq_true rfl))) hI105
             have I152 : jI107 σ85 := jI107_fr ((f88 12 (of_decide_eq_true rfl)).trans (congrFun (f15 55 (of_decide_eq_true rfl)) 12)) ((f88 47 (of_decide_eq_true rfl)).trans (congrFun (f15 55 (of_decide_eq_true rfl)) 47)) ((f87 80 (of_decide_eq_true rfl)).trans (f15 80 (of_decide_eq_true rfl))) hI107
             have I153 : jI109 σ85 := jI109_fr ((f88 50 (of_decide_eq_true rfl)).trans (congrFun (f15 55 (of_decide_eq_true rfl)) 50)) hI109
             have I154 : jI110 σ85 := jI110_fr ((f87 86 (of_decide_eq_true rfl)).trans (f15 86 (of_decide_eq_true rfl))) ((f87 87 (of_decide_eq_true rfl)).trans (f15 87 (of_decide_eq_true rfl))) hI110
             have I155 : jI111 σ85 := jI111_fr ((f87 79 (of_decide_eq_true rfl)).trans (f15 79 (of_decide_eq_true rfl))) hI111
             have I156 : jI119 σ85 := jI119_fr ((f87 68 (of_decide_eq_true rfl)).trans (f15 68 (of_decide_eq_true rfl))) hI119
             have p157 : jKept σ85 := jKept.fr ((f87 75 (of_decide_eq_true rfl)).trans (f15 75 (of_decide_eq_true rfl))) ((f87 76 (of_decide_eq_true rfl)).trans (f15 76 (of_decide_eq_true rfl))) ((f87 77 (of_decide_eq_true rfl)).trans (f15 77 (of_decide_eq_true rfl))) hs_jKept
             have p158 : jBook σ85 := jBook.fr ((f88 47 (of_decide_eq_true rfl)).trans (congrFun (f15 55 (of_decide_eq_true rfl)) 47)) ((f88 10 (of_decide_eq_true rfl)).trans (congrFun (f15 55 (of_decide_eq_true rfl)) 10)) ((f87 81 (of_decide_eq_true rfl)).trans (f15 81 (of_decide_eq_true rfl))) hs_jBook
             have z159 : (σ85 9 0).toInt = (σ 9 0).toInt := (congrArg Int32.toInt (show σ85 9 0 = (σ 9 0) from ((congrFun (f87 9 (of_decide_eq_true rfl)) 0).trans (congrFun (f15 9 (of_decide_eq_true rfl)) 0))))
             have z160 : (σ85 55 15).toInt = (σ 55 15).toInt := (congrArg Int32.toInt (show σ85 55 15 = (σ 55 15) from ((f88 15 (of_decide_eq_true rfl)).trans (congrFun (f15 55 (of_decide_eq_true rfl)) 15))))
             exact by exact ih x135 σ85 τ _ _ ls (by have h9 := tx135; omega) ⟨I136, I137, I138, I139, I140, I141, I142, I143, I144, I145, I146, I147, I148, I149, I150, I151, I89, I152, I153, I154, I155, I156, p157, p158, (by omega), (show jTp (σ85 10) (σ85 63) (σ85 55 15).toInt by rw [show σ85 10 = σ 10 from ((f87 10 (of_decide_eq_true rfl)).trans (f15 10 (of_decide_eq_true rfl))), show σ85 63 = σ 63 from ((f87 63 (of_decide_eq_true rfl)).trans (f15 63 (of_decide_eq_true rfl)))]; exact hr0.le (by omega))⟩ hP hS (lv_sub hl [0, 1, 2, 3] rfl)
     · obtain ⟨q166, k161, k162, k163, k164, k165⟩ := h21
       refine lv_pop hx hb dL_law_502 rfl ?_
       refine lv_aload_n hx hb dL_law_503 rfl (lv_at hl 1 rfl) ?_
       refine lv_aload_n hx hb dL_law_504 rfl (lv_at hl 3 rfl) ?_
       refine lv_iload_n hx hb dL_law_505 rfl (lv_at hl 0 rfl) ?_
       refine lv_iconst (v := 1) hx hb dL_law_506 (of_decide_eq_true rfl) ?_
       refine lv_iadd hx hb dL_law_507 ?_
       refine jtopr ex7.symm ?_
       exact by
        refine va_sld hx hb hX hbl hbA hS (jin tx7 (by omega) (by omega)) dL_law_508 ?_
        refine lv_aload_n hx hb dL_law_509 rfl (lv_at hl 3 rfl) ?_
        refine lv_iload_n hx hb dL_law_510 rfl (lv_at hl 0 rfl) ?_
        refine lv_iconst (v := 2) hx hb dL_law_511 (of_decide_eq_true rfl) ?_
        refine lv_iadd hx hb dL_law_512 ?_
        refine jtopr ex9.symm ?_
        refine va_sld hx hb hX hbl hbA hS (jin tx9 (by omega) (by omega)) dL_law_513 ?_
        refine lv_aload_n hx hb dL_law_514 rfl (lv_at hl 3 rfl) ?_
        refine lv_iload_n hx hb dL_law_515 rfl (lv_at hl 0 rfl) ?_
        exact by
         refine lv_iconst (v := 3) hx hb dL_law_516 (of_decide_eq_true rfl) ?_
         refine lv_iadd hx hb dL_law_517 ?_
         refine jtopr ex11.symm ?_
         refine va_sld hx hb hX hbl hbA hS (jin tx11 (by omega) (by omega)) dL_law_518 ?_
         have I167 : jI106 σ13 := jI106_fr (congrFun (f15 55 (of_decide_eq_true rfl)) 32) (f15 70 (of_decide_eq_true rfl)) (f15 71 (of_decide_eq_true rfl)) (f15 72 (of_decide_eq_true rfl)) hI106
         have z168 : (σ13 55 32).toInt = (σ 55 32).toInt := (congrArg Int32.toInt (show σ13 55 32 = (σ 55 32) from (congrFun (f15 55 (of_decide_eq_true rfl)) 32)))
         refine jcallV (As := [.int (xs x7.toNatClampNeg), .int (xs x9.toNatClampNeg), .int (xs x11.toNatClampNeg)]) (rest := []) ⟨hx, hb, hml, hown, hts⟩ hK hP hA hS hZ (c_X12_rule l D cI cL ad zz hJ σ13 τ (xs x7.toNatClampNeg) ((xs x7.toNatClampNeg).toInt) rfl (xs x9.toNatClampNeg) ((xs x9.toNatClampNeg).toInt) rfl (xs x11.toNatClampNeg) ((xs x11.toNatClampNeg).toInt) rfl I167) cw_RL_56 (jc_55 cI cL ad σ13 τ) rfl ⟨Nat.le_of_ble_eq_true rfl, Nat.le_of_ble_eq_true rfl⟩ rfl rfl rfl hl.1 rfl (Nat.le_of_ble_eq_true rfl) dL_law_519 ⟨Nat.le_of_ble_eq_true rfl, Nat.le_of_ble_eq_true rfl⟩ (fun r170 σ169 τ169 H locs h169 hP hS => ?_)
         obtain ⟨rfl, f171, f172, I173, h169⟩ := h169
         rcases h169 with h175 | h176 | h177
         · exact by
            obtain ⟨q181, k178, k179, k180⟩ := h175
            have q181 := q181.symm
            subst q181
            exact absurd k164 k179
         · obtain ⟨q186, k182, k183, k184, k185⟩ := h176
           have q186 := q186.symm
           subst q186
           refine lv_pop hx hb dL_law_522 rfl ?_
           refine lv_goto (tgt := 1357) hx hb dL_law_523 (of_decide_eq_true rfl) ?_
           obtain ⟨x187, ex187⟩ : ∃ y : Int32, y = x0 + 6 := ⟨_, rfl⟩
           exact by
            have tx187 : x187.toInt = x0.toInt + 6 := (jadd ex187 rfl jz_6 (by omega) (by omega)).trans (by omega)
            refine lv_iinc (v := x187) (lv' := [(3, .int x187), (2, .ref (ad 55)), (1, .ref (ad 0)), (0, .ref b)]) hx hb dL_law_1357 hl (k := 0) rfl (by rw [ex187]; rfl) (of_decide_eq_true rfl) rfl (fun ls hl => ?_)
            refine lv_goto (tgt := 18) hx hb dL_law_1360 (of_decide_eq_true rfl) ?_
            have I188 : jI2 σ169 := jI2_fr ((congrFun (f171 2 (of_decide_eq_true rfl)) 0).trans (congrFun (f15 2 (of_decide_eq_true rfl)) 0)) ((congrFun (f171 2 (of_decide_eq_true rfl)) 1).trans (congrFun (f15 2 (of_decide_eq_true rfl)) 1)) ((congrFun (f171 2 (of_decide_eq_true rfl)) 2).trans (congrFun (f15 2 (of_decide_eq_true rfl)) 2)) ((congrFun (f171 2 (of_decide_eq_true rfl)) 3).trans (congrFun (f15 2 (of_decide_eq_true rfl)) 3)) ((f171 6 (of_decide_eq_true rfl)).trans (f15 6 (of_decide_eq_true rfl))) hI2
            have I189 : jI9 σ169 := jI9_fr ((congrFun (f171 9 (of_decide_eq_true rfl)) 0).trans (congrFun (f15 9 (of_decide_eq_true rfl)) 0)) ((f171 10 (of_decide_eq_true rfl)).trans (f15 10 (of_decide_eq_true rfl))) ((f171 11 (of_decide_eq_true rfl)).trans (f15 11 (of_decide_eq_true rfl))) hI9
            have I190 : jI12 σ169 := jI12_fr ((congrFun (f171 12 (of_decide_eq_true rfl)) 0).trans (congrFun (f15 12 (of_decide_eq_true rfl)) 0)) ((f171 13 (of_decide_eq_true rfl)).trans (f15 13 (of_decide_eq_true rfl))) hI12
            have I191 : jI16 σ169 := jI16_fr ((congrFun (f171 16 (of_decide_eq_true rfl)) 0).trans (congrFun (f15 16 (of_decide_eq_true rfl)) 0)) ((congrFun (f171 16 (of_decide_eq_true rfl)) 1).trans (congrFun (f15 16 (of_decide_eq_true rfl)) 1)) ((congrFun (f171 16 (of_decide_eq_true rfl)) 2).trans (congrFun (f15 16 (of_decide_eq_true rfl)) 2)) ((f171 17 (of_decide_eq_true rfl)).trans (f15 17 (of_decide_eq_true rfl))) hI16
            have I192 : jI18 σ169 := jI18_fr ((congrFun (f171 18 (of_decide_eq_true rfl)) 0).trans (congrFun (f15 18 (of_decide_eq_true rfl)) 0)) ((f171 19 (of_decide_eq_true rfl)).trans (f15 19 (of_decide_eq_true rfl))) hI18
            have I193 : jI22 σ169 := jI22_fr ((congrFun (f171 22 (of_decide_eq_true rfl)) 0).trans (congrFun (f15 22 (of_decide_eq_true rfl)) 0)) ((f171 23 (of_decide_eq_true rfl)).trans (f15 23 (of_decide_eq_true rfl))) hI22
            exact by
             have I194 : jI31 σ169 := jI31_fr ((congrFun (f171 31 (of_decide_eq_true rfl)) 8).trans (congrFun (f15 31 (of_decide_eq_true rfl)) 8)) ((f171 33 (of_decide_eq_true rfl)).trans (f15 33 (of_decide_eq_true rfl))) ((f171 36 (of_decide_eq_true rfl)).trans (f15 36 (of_decide_eq_true rfl))) hI31
             have I195 : jI38 σ169 := jI38_fr (congrFun (f171 38 (of_decide_eq_true rfl)) 0) (congrFun (f171 38 (of_decide_eq_true rfl)) 1) (f171 39 (of_decide_eq_true rfl)) I17
             have I196 : jI43 σ169 := jI43_fr ((congrFun (f171 43 (of_decide_eq_true rfl)) 8).trans (congrFun (f15 43 (of_decide_eq_true rfl)) 8)) hI43
             have I197 : jI47 σ169 := jI47_fr ((congrFun (f171 47 (of_decide_eq_true rfl)) 0).trans (congrFun (f15 47 (of_decide_eq_true rfl)) 0)) ((f171 48 (of_decide_eq_true rfl)).trans (f15 48 (of_decide_eq_true rfl))) ((f171 49 (of_decide_eq_true rfl)).trans (f15 49 (of_decide_eq_true rfl))) hI47
             have I198 : jI50 σ169 := jI50_fr ((f171 52 (of_decide_eq_true rfl)).trans (f15 52 (of_decide_eq_true rfl))) hI50
             have I199 : jI101 σ169 := jI101_fr ((f172 4 (of_decide_eq_true rfl)).trans (congrFun (f15 55 (of_decide_eq_true rfl)) 4)) ((f172 5 (of_decide_eq_true rfl)).trans (congrFun (f15 55 (of_decide_eq_true rfl)) 5)) ((f171 56 (of_decide_eq_true rfl)).trans (f15 56 (of_decide_eq_true rfl))) ((f171 57 (of_decide_eq_true rfl)).trans (f15 57 (of_decide_eq_true rfl))) ((f171 58 (of_decide_eq_true rfl)).trans (f15 58 (of_decide_eq_true rfl))) ((f171 59 (of_decide_eq_true rfl)).trans (f15 59 (of_decide_eq_true rfl))) hI101
             have I200 : jI102 σ169 := jI102_fr ((f172 6 (of_decide_eq_true rfl)).trans (congrFun (f15 55 (of_decide_eq_true rfl)) 6)) ((f171 60 (of_decide_eq_true rfl)).trans (f15 60 (of_decide_eq_true rfl))) ((f171 61 (of_decide_eq_true rfl)).trans (f15 61 (of_decide_eq_true rfl))) hI102
             have I201 : jI103 σ169 := jI103_fr ((f172 9 (of_decide_eq_true rfl)).trans (congrFun (f15 55 (of_decide_eq_true rfl)) 9)) hI103
             have I202 : jI104 σ169 := jI104_fr ((f172 10 (of_decide_eq_true rfl)).trans (congrFun (f15 55 (of_decide_eq_true rfl)) 10)) ((f172 12 (of_decide_eq_true rfl)).trans (congrFun (f15 55 (of_decide_eq_true rfl)) 12)) ((f172 13 (of_decide_eq_true rfl)).trans (congrFun (f15 55 (of_decide_eq_true rfl)) 13)) ((f171 62 (of_decide_eq_true rfl)).trans (f15 62 (of_decide_eq_true rfl))) ((f171 67 (of_decide_eq_true rfl)).trans (f15 67 (of_decide_eq_true rfl))) hI104
             have I203 : jI105 σ169 := jI105_fr ((f172 15 (of_decide_eq_true rfl)).trans (congrFun (f15 55 (of_decide_eq_true rfl)) 15)) ((f171 65 (of_decide_eq_true rfl)).trans (f15 65 (of_decide_eq_true rfl))) hI105
             have I204 : jI107 σ169 := jI107_fr ((f172 12 (of_decide_eq_true rfl)).trans (congrFun (f15 55 (of_decide_eq_true rfl)) 12)) ((f172 47 (of_decide_eq_true rfl)).trans (congrFun (f15 55 (of_decide_eq_true rfl)) 47)) ((f171 80 (of_decide_eq_true rfl)).trans (f15 80 (of_decide_eq_true rfl))) hI107
             have I205 : jI109 σ169 := jI109_fr ((f172 50 (of_decide_eq_true rfl)).trans (congrFun (f15 55 (of_decide_eq_true rfl)) 50)) hI109
             have I206 : jI110 σ169 := jI110_fr ((f171 86 (of_decide_eq_true rfl)).trans (f15 86 (of_decide_eq_true rfl))) ((f171 87 (of_decide_eq_true rfl)).trans (f15 87 (of_decide_eq_true rfl))) hI110
             have I207 : jI111 σ169 := jI111_fr ((f171 79 (of_decide_eq_true rfl)).trans (f15 79 (of_decide_eq_true rfl))) hI111
             have I208 : jI119 σ169 := jI119_fr ((f171 68 (of_decide_eq_true rfl)).trans (f15 68 (of_decide_eq_true rfl))) hI119
             have p209 : jKept σ169 := jKept.fr ((f171 75 (of_decide_eq_true rfl)).trans (f15 75 (of_decide_eq_true rfl))) ((f171 76 (of_decide_eq_true rfl)).trans (f15 76 (of_decide_eq_true rfl))) ((f171 77 (of_decide_eq_true rfl)).trans (f15 77 (of_decide_eq_true rfl))) hs_jKept
             have p210 : jBook σ169 := jBook.fr ((f172 47 (of_decide_eq_true rfl)).trans (congrFun (f15 55 (of_decide_eq_true rfl)) 47)) ((f172 10 (of_decide_eq_true rfl)).trans (congrFun (f15 55 (of_decide_eq_true rfl)) 10)) ((f171 81 (of_decide_eq_true rfl)).trans (f15 81 (of_decide_eq_true rfl))) hs_jBook
             have z211 : (σ169 9 0).toInt = (σ 9 0).toInt := (congrArg Int32.toInt (show σ169 9 0 = (σ 9 0) from ((congrFun (f171 9 (of_decide_eq_true rfl)) 0).trans (congrFun (f15 9 (of_decide_eq_true rfl)) 0))))
             have z212 : (σ169 55 15).toInt = (σ 55 15).toInt := (congrArg Int32.toInt (show σ169 55 15 = (σ 55 15) from ((f172 15 (of_decide_eq_true rfl)).trans (congrFun (f15 55 (of_decide_eq_true rfl)) 15))))
             exact by exact ih x187 σ169 τ _ _ ls (by have h9 := tx187; omega) ⟨I188, I189, I190, I191, I192, I193, I194, I195, I196, I197, I198, I199, I200, I201, I202, I203, I173, I204, I205, I206, I207, I208, p209, p210, (by omega), (show jTp (σ169 10) (σ169 63) (σ169 55 15).toInt by rw [show σ169 10 = σ 10 from ((f171 10 (of_decide_eq_true rfl)).trans (f15 10 (of_decide_eq_true rfl))), show σ169 63 = σ 63 from ((f171 63 (of_decide_eq_true rfl)).trans (f15 63 (of_decide_eq_true rfl)))]; exact hr0.le (by omega))⟩ hP hS (lv_sub hl [0, 1, 2, 3] rfl)
         · obtain ⟨q218, k213, k214, k215, k216, k217⟩ := h177
           refine lv_pop hx hb dL_law_522 rfl ?_
           refine lv_goto (tgt := 1357) hx hb dL_law_523 (of_decide_eq_true rfl) ?_
           obtain ⟨x219, ex219⟩ : ∃ y : Int32, y = x0 + 6 := ⟨_, rfl⟩
           exact by
            have tx219 : x219.toInt = x0.toInt + 6 := (jadd ex219 rfl jz_6 (by omega) (by omega)).trans (by omega)
            refine lv_iinc (v := x219) (lv' := [(3, .int x219), (2, .ref (ad 55)), (1, .ref (ad 0)), (0, .ref b)]) hx hb dL_law_1357 hl (k := 0) rfl (by rw [ex219]; rfl) (of_decide_eq_true rfl) rfl (fun ls hl => ?_)
            refine lv_goto (tgt := 18) hx hb dL_law_1360 (of_decide_eq_true rfl) ?_
            have I220 : jI2 σ169 := jI2_fr ((congrFun (f171 2 (of_decide_eq_true rfl)) 0).trans (congrFun (f15 2 (of_decide_eq_true rfl)) 0)) ((congrFun (f171 2 (of_decide_eq_true rfl)) 1).trans (congrFun (f15 2 (of_decide_eq_true rfl)) 1)) ((congrFun (f171 2 (of_decide_eq_true rfl)) 2).trans (congrFun (f15 2 (of_decide_eq_true rfl)) 2)) ((congrFun (f171 2 (of_decide_eq_true rfl)) 3).trans (congrFun (f15 2 (of_decide_eq_true rfl)) 3)) ((f171 6 (of_decide_eq_true rfl)).trans (f15 6 (of_decide_eq_true rfl))) hI2
            have I221 : jI9 σ169 := jI9_fr ((congrFun (f171 9 (of_decide_eq_true rfl)) 0).trans (congrFun (f15 9 (of_decide_eq_true rfl)) 0)) ((f171 10 (of_decide_eq_true rfl)).trans (f15 10 (of_decide_eq_true rfl))) ((f171 11 (of_decide_eq_true rfl)).trans (f15 11 (of_decide_eq_true rfl))) hI9
            have I222 : jI12 σ169 := jI12_fr ((congrFun (f171 12 (of_decide_eq_true rfl)) 0).trans (congrFun (f15 12 (of_decide_eq_true rfl)) 0)) ((f171 13 (of_decide_eq_true rfl)).trans (f15 13 (of_decide_eq_true rfl))) hI12
            have I223 : jI16 σ169 := jI16_fr ((congrFun (f171 16 (of_decide_eq_true rfl)) 0).trans (congrFun (f15 16 (of_decide_eq_true rfl)) 0)) ((congrFun (f171 16 (of_decide_eq_true rfl)) 1).trans (congrFun (f15 16 (of_decide_eq_true rfl)) 1)) ((congrFun (f171 16 (of_decide_eq_true rfl)) 2).trans (congrFun (f15 16 (of_decide_eq_true rfl)) 2)) ((f171 17 (of_decide_eq_true rfl)).trans (f15 17 (of_decide_eq_true rfl))) hI16
            have I224 : jI18 σ169 := jI18_fr ((congrFun (f171 18 (of_decide_eq_true rfl)) 0).trans (congrFun (f15 18 (of_decide_eq_true rfl)) 0)) ((f171 19 (of_decide_eq_true rfl)).trans (f15 19 (of_decide_eq_true rfl))) hI18
            have I225 : jI22 σ169 := jI22_fr ((congrFun (f171 22 (of_decide_eq_true rfl)) 0).trans (congrFun (f15 22 (of_decide_eq_true rfl)) 0)) ((f171 23 (of_decide_eq_true rfl)).trans (f15 23 (of_decide_eq_true rfl))) hI22
            exact by
             have I226 : jI31 σ169 := jI31_fr ((congrFun (f171 31 (of_decide_eq_true rfl)) 8).trans (congrFun (f15 31 (of_decide_eq_true rfl)) 8)) ((f171 33 (of_decide_eq_true rfl)).trans (f15 33 (of_decide_eq_true rfl))) ((f171 36 (of_decide_eq_true rfl)).trans (f15 36 (of_decide_eq_true rfl))) hI31
             have I227 : jI38 σ169 := jI38_fr (congrFun (f171 38 (of_decide_eq_true rfl)) 0) (congrFun (f171 38 (of_decide_eq_true rfl)) 1) (f171 39 (of_decide_eq_true rfl)) I17
             have I228 : jI43 σ169 := jI43_fr ((congrFun (f171 43 (of_decide_eq_true rfl)) 8).trans (congrFun (f15 43 (of_decide_eq_true rfl)) 8)) hI43
             have I229 : jI47 σ169 := jI47_fr ((congrFun (f171 47 (of_decide_eq_true rfl)) 0).trans (congrFun (f15 47 (of_decide_eq_true rfl)) 0)) ((f171 48 (of_decide_eq_true rfl)).trans (f15 48 (of_decide_eq_true rfl))) ((f171 49 (of_decide_eq_true rfl)).trans (f15 49 (of_decide_eq_true rfl))) hI47
             have I230 : jI50 σ169 := jI50_fr ((f171 52 (of_decide_eq_true rfl)).trans (f15 52 (of_decide_eq_true rfl))) hI50
             have I231 : jI101 σ169 := jI101_fr ((f172 4 (of_decide_eq_true rfl)).trans (congrFun (f15 55 (of_decide_eq_true rfl)) 4)) ((f172 5 (of_decide_eq_true rfl)).trans (congrFun (f15 55 (of_decide_eq_true rfl)) 5)) ((f171 56 (of_decide_eq_true rfl)).trans (f15 56 (of_decide_eq_true rfl))) ((f171 57 (of_decide_eq_true rfl)).trans (f15 57 (of_decide_eq_true rfl))) ((f171 58 (of_decide_eq_true rfl)).trans (f15 58 (of_decide_eq_true rfl))) ((f171 59 (of_decide_eq_true rfl)).trans (f15 59 (of_decide_eq_true rfl))) hI101
             have I232 : jI102 σ169 := jI102_fr ((f172 6 (of_decide_eq_true rfl)).trans (congrFun (f15 55 (of_decide_eq_true rfl)) 6)) ((f171 60 (of_decide_eq_true rfl)).trans (f15 60 (of_decide_eq_true rfl))) ((f171 61 (of_decide_eq_true rfl)).trans (f15 61 (of_decide_eq_true rfl))) hI102
             have I233 : jI103 σ169 := jI103_fr ((f172 9 (of_decide_eq_true rfl)).trans (congrFun (f15 55 (of_decide_eq_true rfl)) 9)) hI103
             have I234 : jI104 σ169 := jI104_fr ((f172 10 (of_decide_eq_true rfl)).trans (congrFun (f15 55 (of_decide_eq_true rfl)) 10)) ((f172 12 (of_decide_eq_true rfl)).trans (congrFun (f15 55 (of_decide_eq_true rfl)) 12)) ((f172 13 (of_decide_eq_true rfl)).trans (congrFun (f15 55 (of_decide_eq_true rfl)) 13)) ((f171 62 (of_decide_eq_true rfl)).trans (f15 62 (of_decide_eq_true rfl))) ((f171 67 (of_decide_eq_true rfl)).trans (f15 67 (of_decide_eq_true rfl))) hI104
             have I235 : jI105 σ169 := jI105_fr ((f172 15 (of_decide_eq_true rfl)).trans (congrFun (f15 55 (of_decide_eq_true rfl)) 15)) ((f171 65 (of_decide_eq_true rfl)).trans (f15 65 (of_decide_eq_true rfl))) hI105
             have I236 : jI107 σ169 := jI107_fr ((f172 12 (of_decide_eq_true rfl)).trans (congrFun (f15 55 (of_decide_eq_true rfl)) 12)) ((f172 47 (of_decide_eq_true rfl)).trans (congrFun (f15 55 (of_decide_eq_true rfl)) 47)) ((f171 80 (of_decide_eq_true rfl)).trans (f15 80 (of_decide_eq_true rfl))) hI107
             have I237 : jI109 σ169 := jI109_fr ((f172 50 (of_decide_eq_true rfl)).trans (congrFun (f15 55 (of_decide_eq_true rfl)) 50)) hI109
             have I238 : jI110 σ169 := jI110_fr ((f171 86 (of_decide_eq_true rfl)).trans (f15 86 (of_decide_eq_true rfl))) ((f171 87 (of_decide_eq_true rfl)).trans (f15 87 (of_decide_eq_true rfl))) hI110
             have I239 : jI111 σ169 := jI111_fr ((f171 79 (of_decide_eq_true rfl)).trans (f15 79 (of_decide_eq_true rfl))) hI111
             have I240 : jI119 σ169 := jI119_fr ((f171 68 (of_decide_eq_true rfl)).trans (f15 68 (of_decide_eq_true rfl))) hI119
             have p241 : jKept σ169 := jKept.fr ((f171 75 (of_decide_eq_true rfl)).trans (f15 75 (of_decide_eq_true rfl))) ((f171 76 (of_decide_eq_true rfl)).trans (f15 76 (of_decide_eq_true rfl))) ((f171 77 (of_decide_eq_true rfl)).trans (f15 77 (of_decide_eq_true rfl))) hs_jKept
             have p242 : jBook σ169 := jBook.fr ((f172 47 (of_decide_eq_true rfl)).trans (congrFun (f15 55 (of_decide_eq_true rfl)) 47)) ((f172 10 (of_decide_eq_true rfl)).trans (congrFun (f15 55 (of_decide_eq_true rfl)) 10)) ((f171 81 (of_decide_eq_true rfl)).trans (f15 81 (of_decide_eq_true rfl))) hs_jBook
             have z243 : (σ169 9 0).toInt = (σ 9 0).toInt := (congrArg Int32.toInt (show σ169 9 0 = (σ 9 0) from ((congrFun (f171 9 (of_decide_eq_true rfl)) 0).trans (congrFun (f15 9 (of_decide_eq_true rfl)) 0))))
             have z244 : (σ169 55 15).toInt = (σ 55 15).toInt := (congrArg Int32.toInt (show σ169 55 15 = (σ 55 15) from ((f172 15 (of_decide_eq_true rfl)).trans (congrFun (f15 55 (of_decide_eq_true rfl)) 15))))
             exact by exact ih x219 σ169 τ _ _ ls (by have h9 := tx219; omega) ⟨I220, I221, I222, I223, I224, I225, I226, I227, I228, I229, I230, I231, I232, I233, I234, I235, I173, I236, I237, I238, I239, I240, p241, p242, (by omega), (show jTp (σ169 10) (σ169 63) (σ169 55 15).toInt by rw [show σ169 10 = σ 10 from ((f171 10 (of_decide_eq_true rfl)).trans (f15 10 (of_decide_eq_true rfl))), show σ169 63 = σ 63 from ((f171 63 (of_decide_eq_true rfl)).trans (f15 63 (of_decide_eq_true rfl)))]; exact hr0.le (by omega))⟩ hP hS (lv_sub hl [0, 1, 2, 3] rfl)
set_option maxHeartbeats 4000000 in
set_option maxRecDepth 100000 in
theorem law_case_10 {p : Program} {e : Env} {s : State} {m : MethodId} {below : List Frame} {meth : Method} {c : Code} (l : Launch) {b L : Nat} {xs : Nat → Int32} {D : va_G} {cI cL : ClassId} {ad zz : Nat → Nat} (C0 : lw_At p s m meth c b L xs) (hJ : jD ad) (hA : ∀ q, jA ad q → s.heap.size ≤ q) (hK : jK D cI cL s) (hZ : jZ zz (fun q : Nat => s.heap.size ≤ q) s s.heap) {x0 : Int32} (hx0 : 0 ≤ x0.toInt) (hxL : x0.toInt + 6 ≤ (L : Int)) (hL : L ≤ 384) {σ : Nat → Nat → Int32} {τ : Nat → Nat → Int64} {H : Heap} {locs : List Loc} (hS : va_S (fun q : Nat => s.heap.size ≤ q) s.heap H locs) {ls : Array Slot} (hAll : jAll σ τ) (hP : jH D cI cL ad σ τ H) (hl : lv_has ls 4 [(3, .int x0), (2, .ref (ad 55)), (1, .ref (ad 0)), (0, .ref b)]) (ih : ∀ (x1 : Int32) (σ : Nat → Nat → Int32) (τ : Nat → Nat → Int64) (H : Heap) (locs : List Loc) (ls : Array Slot), x1.toInt = x0.toInt + 6 → jAll σ τ → jH D cI cL ad σ τ H → va_S (fun q : Nat => s.heap.size ≤ q) s.heap H locs → lv_has ls 4 [(3, .int x1), (2, .ref (ad 55)), (1, .ref (ad 0)), (0, .ref b)] → W p l e room_1 s m #[Value.ref b] below meth c H locs 90 348600 (lw_Z below #[Value.ref b] s) (F0 m 18 ls [])) : W p l e room_1 s m #[Value.ref b] below meth c H locs 90 348600 (lw_Z below #[Value.ref b] s) (F0 m 526 ls []) := by
  obtain ⟨hx, hb, hr, hml, hown, hts0, hX, hbl, hlocks, hgv⟩ := C0
  have hts : ∀ w ∈ wsL_law, w.before #[Value.ref b] s = true := fun w h => hts0 w (wsL_law_in w h)
  have hbA : ¬ (fun q : Nat => s.heap.size ≤ q) b := Nat.not_le.mpr hbl
  have hown : s.vm.findClass RL = some m.cls := hown
  obtain ⟨hI2, hI9, hI12, hI16, hI18, hI22, hI31, hI38, hI43, hI47, hI50, hI101, hI102, hI103, hI104, hI105, hI106, hI107, hI109, hI110, hI111, hI119, hs_jKept, hs_jBook, ht0, hr0⟩ := hAll
  have hL9 : (L : Int) ≤ 384 := by omega
  obtain ⟨i1, w2, w3⟩ : (0 ≤ (σ 9 0).toInt ∧ (σ 9 0).toInt ≤ 80) ∧ (∀ k : Nat, k < 80 → 0 ≤ (σ 10 k).toInt ∧ (σ 10 k).toInt ≤ 255) ∧ (∀ k : Nat, k < 8 → 0 ≤ (σ 11 k).toInt ∧ (σ 11 k).toInt ≤ 3) := id hI9
  obtain ⟨i4, w5⟩ : (0 ≤ (σ 55 15).toInt ∧ (σ 55 15).toInt ≤ 80) ∧ (∀ k : Nat, k < 2 → (-1) ≤ (σ 65 k).toInt ∧ (σ 65 k).toInt ≤ 80) := id hI105
  refine lv_aload_n hx hb dL_law_526 rfl (lv_at hl 2 rfl) ?_
  refine lv_aload_n hx hb dL_law_527 rfl (lv_at hl 3 rfl) ?_
  refine lv_iload_n hx hb dL_law_528 rfl (lv_at hl 0 rfl) ?_
  refine lv_iconst (v := 1) hx hb dL_law_529 (of_decide_eq_true rfl) ?_
  have g6 := jrg (rfl : x0.toInt = x0.toInt)
  refine lv_iadd hx hb dL_law_530 ?_
  refine lv_topi (fun x7 ex7 => ?_)
  exact by
   have tx7 : x7.toInt = x0.toInt + 1 := (jadd ex7 rfl jz_1 (by omega) (by omega)).trans (by omega)
   refine va_sld hx hb hX hbl hbA hS (jin tx7 (by omega) (by omega)) dL_law_531 ?_
   have g8 := jrg (rfl : (xs x7.toNatClampNeg).toInt = (xs x7.toNatClampNeg).toInt)
   refine jcallV (As := [.int (xs x7.toNatClampNeg)]) (rest := []) ⟨hx, hb, hml, hown, hts⟩ hK hP hA hS hZ (c_X11_puts l D cI cL ad zz hJ σ τ (xs x7.toNatClampNeg) ((xs x7.toNatClampNeg).toInt) rfl hI2 hI16 hI18 hI22 hI31 hI38 hI47) cw_RL_57 (jc_0 cI cL ad σ τ) rfl ⟨Nat.le_of_ble_eq_true rfl, Nat.le_of_ble_eq_true rfl⟩ rfl rfl rfl hl.1 rfl (Nat.le_of_ble_eq_true rfl) dL_law_532 ⟨Nat.le_of_ble_eq_true rfl, Nat.le_of_ble_eq_true rfl⟩ (fun r10 σ9 τ9 H locs h9 hP hS => ?_)
   obtain ⟨rfl, f11, f12, I13, h9⟩ := h9
   refine lv_pop hx hb dL_law_535 rfl ?_
   refine lv_aload_n hx hb dL_law_536 rfl (lv_at hl 1 rfl) ?_
   refine lv_aload_n hx hb dL_law_537 rfl (lv_at hl 3 rfl) ?_
   refine lv_iload_n hx hb dL_law_538 rfl (lv_at hl 0 rfl) ?_
   exact by
    refine lv_iconst (v := 1) hx hb dL_law_539 (of_decide_eq_true rfl) ?_
    refine lv_iadd hx hb dL_law_540 ?_
    refine jtopr ex7.symm ?_
    refine va_sld hx hb hX hbl hbA hS (jin tx7 (by omega) (by omega)) dL_law_541 ?_
    have I15 : jI101 σ9 := jI101_fr (congrFun (f11 55 (of_decide_eq_true rfl)) 4) (congrFun (f11 55 (of_decide_eq_true rfl)) 5) (f11 56 (of_decide_eq_true rfl)) (f11 57 (of_decide_eq_true rfl)) (f11 58 (of_decide_eq_true rfl)) (f11 59 (of_decide_eq_true rfl)) hI101
    have I16 : jI102 σ9 := jI102_fr (congrFun (f11 55 (of_decide_eq_true rfl)) 6) (f11 60 (of_decide_eq_true rfl)) (f11 61 (of_decide_eq_true rfl)) hI102
    have I17 : jI103 σ9 := jI103_fr (congrFun (f11 55 (of_decide_eq_true rfl)) 9) hI103
    have I18 : jI104 σ9 := jI104_fr (congrFun (f11 55 (of_decide_eq_true rfl)) 10) (congrFun (f11 55 (of_decide_eq_true rfl)) 12) (congrFun (f11 55 (of_decide_eq_true rfl)) 13) (f11 62 (of_decide_eq_true rfl)) (f11 67 (of_decide_eq_true rfl)) hI104
    have I19 : jI105 σ9 := jI105_fr (congrFun (f11 55 (of_decide_eq_true rfl)) 15) (f11 65 (of_decide_eq_true rfl)) hI105
    exact by
     have I20 : jI106 σ9 := jI106_fr (congrFun (f11 55 (of_decide_eq_true rfl)) 32) (f11 70 (of_decide_eq_true rfl)) (f11 71 (of_decide_eq_true rfl)) (f11 72 (of_decide_eq_true rfl)) hI106
     have I21 : jI107 σ9 := jI107_fr (congrFun (f11 55 (of_decide_eq_true rfl)) 12) (congrFun (f11 55 (of_decide_eq_true rfl)) 47) (f11 80 (of_decide_eq_true rfl)) hI107
     have I22 : jI119 σ9 := jI119_fr (f11 68 (of_decide_eq_true rfl)) hI119
     have p23 : jKept σ9 := jKept.fr (f11 75 (of_decide_eq_true rfl)) (f11 76 (of_decide_eq_true rfl)) (f11 77 (of_decide_eq_true rfl)) hs_jKept
     have p24 : jBook σ9 := jBook.fr (congrFun (f11 55 (of_decide_eq_true rfl)) 47) (congrFun (f11 55 (of_decide_eq_true rfl)) 10) (f11 81 (of_decide_eq_true rfl)) hs_jBook
     refine jcallV (As := [.int (xs x7.toNatClampNeg)]) (rest := []) ⟨hx, hb, hml, hown, hts⟩ hK hP hA hS hZ (c_X12_puts l D cI cL ad zz hJ σ9 τ (xs x7.toNatClampNeg) ((xs x7.toNatClampNeg).toInt) rfl I15 I16 I17 I18 I19 I20 I21 I22 p23 p24) cw_RL_60 (jc_55 cI cL ad σ9 τ) rfl ⟨Nat.le_of_ble_eq_true rfl, Nat.le_of_ble_eq_true rfl⟩ rfl rfl rfl hl.1 rfl (Nat.le_of_ble_eq_true rfl) dL_law_542 ⟨Nat.le_of_ble_eq_true rfl, Nat.le_of_ble_eq_true rfl⟩ (fun r26 σ25 τ25 H locs h25 hP hS => ?_)
     obtain ⟨rfl, f27, f28, I29, p30, p31, h25⟩ := h25
     refine lv_pop hx hb dL_law_545 rfl ?_
     refine lv_goto (tgt := 1357) hx hb dL_law_546 (of_decide_eq_true rfl) ?_
     obtain ⟨x33, ex33⟩ : ∃ y : Int32, y = x0 + 6 := ⟨_, rfl⟩
     exact by
      have tx33 : x33.toInt = x0.toInt + 6 := (jadd ex33 rfl jz_6 (by omega) (by omega)).trans (by omega)
      refine lv_iinc (v := x33) (lv' := [(3, .int x33), (2, .ref (ad 55)), (1, .ref (ad 0)), (0, .ref b)]) hx hb dL_law_1357 hl (k := 0) rfl (by rw [ex33]; rfl) (of_decide_eq_true rfl) rfl (fun ls hl => ?_)
      refine lv_goto (tgt := 18) hx hb dL_law_1360 (of_decide_eq_true rfl) ?_
      have I34 : jI2 σ25 := jI2_fr ((congrFun (f27 2 (of_decide_eq_true rfl)) 0).trans (congrFun (f11 2 (of_decide_eq_true rfl)) 0)) ((congrFun (f27 2 (of_decide_eq_true rfl)) 1).trans (congrFun (f11 2 (of_decide_eq_true rfl)) 1)) ((congrFun (f27 2 (of_decide_eq_true rfl)) 2).trans (congrFun (f11 2 (of_decide_eq_true rfl)) 2)) ((congrFun (f27 2 (of_decide_eq_true rfl)) 3).trans (congrFun (f11 2 (of_decide_eq_true rfl)) 3)) ((f27 6 (of_decide_eq_true rfl)).trans (f11 6 (of_decide_eq_true rfl))) hI2
      have I35 : jI9 σ25 := jI9_fr ((congrFun (f27 9 (of_decide_eq_true rfl)) 0).trans (congrFun (f11 9 (of_decide_eq_true rfl)) 0)) ((f27 10 (of_decide_eq_true rfl)).trans (f11 10 (of_decide_eq_true rfl))) ((f27 11 (of_decide_eq_true rfl)).trans (f11 11 (of_decide_eq_true rfl))) hI9
      have I36 : jI12 σ25 := jI12_fr ((congrFun (f27 12 (of_decide_eq_true rfl)) 0).trans (congrFun (f11 12 (of_decide_eq_true rfl)) 0)) ((f27 13 (of_decide_eq_true rfl)).trans (f11 13 (of_decide_eq_true rfl))) hI12
      have I37 : jI16 σ25 := jI16_fr ((congrFun (f27 16 (of_decide_eq_true rfl)) 0).trans (congrFun (f11 16 (of_decide_eq_true rfl)) 0)) ((congrFun (f27 16 (of_decide_eq_true rfl)) 1).trans (congrFun (f11 16 (of_decide_eq_true rfl)) 1)) ((congrFun (f27 16 (of_decide_eq_true rfl)) 2).trans (congrFun (f11 16 (of_decide_eq_true rfl)) 2)) ((f27 17 (of_decide_eq_true rfl)).trans (f11 17 (of_decide_eq_true rfl))) hI16
      have I38 : jI18 σ25 := jI18_fr ((congrFun (f27 18 (of_decide_eq_true rfl)) 0).trans (congrFun (f11 18 (of_decide_eq_true rfl)) 0)) ((f27 19 (of_decide_eq_true rfl)).trans (f11 19 (of_decide_eq_true rfl))) hI18
      have I39 : jI22 σ25 := jI22_fr ((congrFun (f27 22 (of_decide_eq_true rfl)) 0).trans (congrFun (f11 22 (of_decide_eq_true rfl)) 0)) ((f27 23 (of_decide_eq_true rfl)).trans (f11 23 (of_decide_eq_true rfl))) hI22
      exact by
       have I40 : jI31 σ25 := jI31_fr (congrFun (f27 31 (of_decide_eq_true rfl)) 8) (f27 33 (of_decide_eq_true rfl)) (f27 36 (of_decide_eq_true rfl)) I13
       have I41 : jI38 σ25 := jI38_fr ((congrFun (f27 38 (of_decide_eq_true rfl)) 0).trans (congrFun (f11 38 (of_decide_eq_true rfl)) 0)) ((congrFun (f27 38 (of_decide_eq_true rfl)) 1).trans (congrFun (f11 38 (of_decide_eq_true rfl)) 1)) ((f27 39 (of_decide_eq_true rfl)).trans (f11 39 (of_decide_eq_true rfl))) hI38
       have I42 : jI43 σ25 := jI43_fr ((congrFun (f27 43 (of_decide_eq_true rfl)) 8).trans (congrFun (f11 43 (of_decide_eq_true rfl)) 8)) hI43
       have I43 : jI47 σ25 := jI47_fr ((congrFun (f27 47 (of_decide_eq_true rfl)) 0).trans (congrFun (f11 47 (of_decide_eq_true rfl)) 0)) ((f27 48 (of_decide_eq_true rfl)).trans (f11 48 (of_decide_eq_true rfl))) ((f27 49 (of_decide_eq_true rfl)).trans (f11 49 (of_decide_eq_true rfl))) hI47
       have I44 : jI50 σ25 := jI50_fr ((f27 52 (of_decide_eq_true rfl)).trans (f11 52 (of_decide_eq_true rfl))) hI50
       have I45 : jI101 σ25 := jI101_fr (f28 4 (of_decide_eq_true rfl)) (f28 5 (of_decide_eq_true rfl)) (f27 56 (of_decide_eq_true rfl)) (f27 57 (of_decide_eq_true rfl)) (f27 58 (of_decide_eq_true rfl)) (f27 59 (of_decide_eq_true rfl)) I15
       have I46 : jI102 σ25 := jI102_fr (f28 6 (of_decide_eq_true rfl)) (f27 60 (of_decide_eq_true rfl)) (f27 61 (of_decide_eq_true rfl)) I16
       have I47 : jI103 σ25 := jI103_fr (f28 9 (of_decide_eq_true rfl)) I17
       have I48 : jI104 σ25 := jI104_fr (f28 10 (of_decide_eq_true rfl)) (f28 12 (of_decide_eq_true rfl)) (f28 13 (of_decide_eq_true rfl)) (f27 62 (of_decide_eq_true rfl)) (f27 67 (of_decide_eq_true rfl)) I18
       have I49 : jI105 σ25 := jI105_fr (f28 15 (of_decide_eq_true rfl)) (f27 65 (of_decide_eq_true rfl)) I19
       have I50 : jI106 σ25 := jI106_fr (f28 32 (of_decide_eq_true rfl)) (f27 70 (of_decide_eq_true rfl)) (f27 71 (of_decide_eq_true rfl)) (f27 72 (of_decide_eq_true rfl)) I20
       have I51 : jI107 σ25 := jI107_fr (f28 12 (of_decide_eq_true rfl)) (f28 47 (of_decide_eq_true rfl)) (f27 80 (of_decide_eq_true rfl)) I21
       have I52 : jI109 σ25 := jI109_fr ((f28 50 (of_decide_eq_true rfl)).trans (congrFun (f11 55 (of_decide_eq_true rfl)) 50)) hI109
       have I53 : jI110 σ25 := jI110_fr ((f27 86 (of_decide_eq_true rfl)).trans (f11 86 (of_decide_eq_true rfl))) ((f27 87 (of_decide_eq_true rfl)).trans (f11 87 (of_decide_eq_true rfl))) hI110
       have I54 : jI111 σ25 := jI111_fr ((f27 79 (of_decide_eq_true rfl)).trans (f11 79 (of_decide_eq_true rfl))) hI111
       have z55 : (σ25 9 0).toInt = (σ 9 0).toInt := (congrArg Int32.toInt (show σ25 9 0 = (σ 9 0) from ((congrFun (f27 9 (of_decide_eq_true rfl)) 0).trans (congrFun (f11 9 (of_decide_eq_true rfl)) 0))))
       have z56 : (σ25 55 15).toInt = (σ 55 15).toInt := (congrArg Int32.toInt (show σ25 55 15 = (σ 55 15) from ((f28 15 (of_decide_eq_true rfl)).trans (congrFun (f11 55 (of_decide_eq_true rfl)) 15))))
       exact by exact ih x33 σ25 τ _ _ ls (by have h9 := tx33; omega) ⟨I34, I35, I36, I37, I38, I39, I40, I41, I42, I43, I44, I45, I46, I47, I48, I49, I50, I51, I52, I53, I54, I29, p30, p31, (by omega), (show jTp (σ25 10) (σ25 63) (σ25 55 15).toInt by rw [show σ25 10 = σ 10 from ((f27 10 (of_decide_eq_true rfl)).trans (f11 10 (of_decide_eq_true rfl))), show σ25 63 = σ 63 from ((f27 63 (of_decide_eq_true rfl)).trans (f11 63 (of_decide_eq_true rfl)))]; exact hr0.le (by omega))⟩ hP hS (lv_sub hl [0, 1, 2, 3] rfl)
set_option maxHeartbeats 4000000 in
set_option maxRecDepth 100000 in
theorem law_case_11 {p : Program} {e : Env} {s : State} {m : MethodId} {below : List Frame} {meth : Method} {c : Code} (l : Launch) {b L : Nat} {xs : Nat → Int32} {D : va_G} {cI cL : ClassId} {ad zz : Nat → Nat} (C0 : lw_At p s m meth c b L xs) (hJ : jD ad) (hA : ∀ q, jA ad q → s.heap.size ≤ q) (hK : jK D cI cL s) (hZ : jZ zz (fun q : Nat => s.heap.size ≤ q) s s.heap) {x0 : Int32} (hx0 : 0 ≤ x0.toInt) (hxL : x0.toInt + 6 ≤ (L : Int)) (hL : L ≤ 384) {σ : Nat → Nat → Int32} {τ : Nat → Nat → Int64} {H : Heap} {locs : List Loc} (hS : va_S (fun q : Nat => s.heap.size ≤ q) s.heap H locs) {ls : Array Slot} (hAll : jAll σ τ) (hP : jH D cI cL ad σ τ H) (hl : lv_has ls 4 [(3, .int x0), (2, .ref (ad 55)), (1, .ref (ad 0)), (0, .ref b)]) (ih : ∀ (x1 : Int32) (σ : Nat → Nat → Int32) (τ : Nat → Nat → Int64) (H : Heap) (locs : List Loc) (ls : Array Slot), x1.toInt = x0.toInt + 6 → jAll σ τ → jH D cI cL ad σ τ H → va_S (fun q : Nat => s.heap.size ≤ q) s.heap H locs → lv_has ls 4 [(3, .int x1), (2, .ref (ad 55)), (1, .ref (ad 0)), (0, .ref b)] → W p l e room_1 s m #[Value.ref b] below meth c H locs 90 348600 (lw_Z below #[Value.ref b] s) (F0 m 18 ls [])) : W p l e room_1 s m #[Value.ref b] below meth c H locs 90 348600 (lw_Z below #[Value.ref b] s) (F0 m 549 ls []) := by
  obtain ⟨hx, hb, hr, hml, hown, hts0, hX, hbl, hlocks, hgv⟩ := C0
  have hts : ∀ w ∈ wsL_law, w.before #[Value.ref b] s = true := fun w h => hts0 w (wsL_law_in w h)
  have hbA : ¬ (fun q : Nat => s.heap.size ≤ q) b := Nat.not_le.mpr hbl
  have hown : s.vm.findClass RL = some m.cls := hown
  obtain ⟨hI2, hI9, hI12, hI16, hI18, hI22, hI31, hI38, hI43, hI47, hI50, hI101, hI102, hI103, hI104, hI105, hI106, hI107, hI109, hI110, hI111, hI119, hs_jKept, hs_jBook, ht0, hr0⟩ := hAll
  have hL9 : (L : Int) ≤ 384 := by omega
  obtain ⟨i1, w2, w3⟩ : (0 ≤ (σ 9 0).toInt ∧ (σ 9 0).toInt ≤ 80) ∧ (∀ k : Nat, k < 80 → 0 ≤ (σ 10 k).toInt ∧ (σ 10 k).toInt ≤ 255) ∧ (∀ k : Nat, k < 8 → 0 ≤ (σ 11 k).toInt ∧ (σ 11 k).toInt ≤ 3) := id hI9
  obtain ⟨i4, w5⟩ : (0 ≤ (σ 55 15).toInt ∧ (σ 55 15).toInt ≤ 80) ∧ (∀ k : Nat, k < 2 → (-1) ≤ (σ 65 k).toInt ∧ (σ 65 k).toInt ≤ 80) := id hI105
  refine lv_aload_n hx hb dL_law_549 rfl (lv_at hl 2 rfl) ?_
  refine lv_aload_n hx hb dL_law_550 rfl (lv_at hl 3 rfl) ?_
  refine lv_iload_n hx hb dL_law_551 rfl (lv_at hl 0 rfl) ?_
  refine lv_iconst (v := 1) hx hb dL_law_552 (of_decide_eq_true rfl) ?_
  have g6 := jrg (rfl : x0.toInt = x0.toInt)
  refine lv_iadd hx hb dL_law_553 ?_
  refine lv_topi (fun x7 ex7 => ?_)
  exact by
   have tx7 : x7.toInt = x0.toInt + 1 := (jadd ex7 rfl jz_1 (by omega) (by omega)).trans (by omega)
   refine va_sld hx hb hX hbl hbA hS (jin tx7 (by omega) (by omega)) dL_law_554 ?_
   have g8 := jrg (rfl : (xs x7.toNatClampNeg).toInt = (xs x7.toNatClampNeg).toInt)
   refine jcallV (As := [.int (xs x7.toNatClampNeg)]) (rest := []) ⟨hx, hb, hml, hown, hts⟩ hK hP hA hS hZ (c_X11_mean l D cI cL ad zz hJ σ τ (xs x7.toNatClampNeg) ((xs x7.toNatClampNeg).toInt) rfl hI2 hI16 hI18 hI22 hI31 hI38) cw_RL_61 (jc_0 cI cL ad σ τ) rfl ⟨Nat.le_of_ble_eq_true rfl, Nat.le_of_ble_eq_true rfl⟩ rfl rfl rfl hl.1 rfl (Nat.le_of_ble_eq_true rfl) dL_law_555 ⟨Nat.le_of_ble_eq_true rfl, Nat.le_of_ble_eq_true rfl⟩ (fun r10 σ9 τ9 H locs h9 hP hS => ?_)
   obtain ⟨rfl, f11, f12, I13, h9⟩ := h9
   refine lv_pop hx hb dL_law_558 rfl ?_
   refine lv_aload_n hx hb dL_law_559 rfl (lv_at hl 1 rfl) ?_
   refine lv_aload_n hx hb dL_law_560 rfl (lv_at hl 3 rfl) ?_
   refine lv_iload_n hx hb dL_law_561 rfl (lv_at hl 0 rfl) ?_
   exact by
    refine lv_iconst (v := 1) hx hb dL_law_562 (of_decide_eq_true rfl) ?_
    refine lv_iadd hx hb dL_law_563 ?_
    refine jtopr ex7.symm ?_
    refine va_sld hx hb hX hbl hbA hS (jin tx7 (by omega) (by omega)) dL_law_564 ?_
    have I15 : jI101 σ9 := jI101_fr (congrFun (f11 55 (of_decide_eq_true rfl)) 4) (congrFun (f11 55 (of_decide_eq_true rfl)) 5) (f11 56 (of_decide_eq_true rfl)) (f11 57 (of_decide_eq_true rfl)) (f11 58 (of_decide_eq_true rfl)) (f11 59 (of_decide_eq_true rfl)) hI101
    have I16 : jI102 σ9 := jI102_fr (congrFun (f11 55 (of_decide_eq_true rfl)) 6) (f11 60 (of_decide_eq_true rfl)) (f11 61 (of_decide_eq_true rfl)) hI102
    have I17 : jI103 σ9 := jI103_fr (congrFun (f11 55 (of_decide_eq_true rfl)) 9) hI103
    have I18 : jI104 σ9 := jI104_fr (congrFun (f11 55 (of_decide_eq_true rfl)) 10) (congrFun (f11 55 (of_decide_eq_true rfl)) 12) (congrFun (f11 55 (of_decide_eq_true rfl)) 13) (f11 62 (of_decide_eq_true rfl)) (f11 67 (of_decide_eq_true rfl)) hI104
    have I19 : jI105 σ9 := jI105_fr (congrFun (f11 55 (of_decide_eq_true rfl)) 15) (f11 65 (of_decide_eq_true rfl)) hI105
    exact by
     have I20 : jI106 σ9 := jI106_fr (congrFun (f11 55 (of_decide_eq_true rfl)) 32) (f11 70 (of_decide_eq_true rfl)) (f11 71 (of_decide_eq_true rfl)) (f11 72 (of_decide_eq_true rfl)) hI106
     have I21 : jI119 σ9 := jI119_fr (f11 68 (of_decide_eq_true rfl)) hI119
     have p22 : jKept σ9 := jKept.fr (f11 75 (of_decide_eq_true rfl)) (f11 76 (of_decide_eq_true rfl)) (f11 77 (of_decide_eq_true rfl)) hs_jKept
     refine jcallV (As := [.int (xs x7.toNatClampNeg)]) (rest := []) ⟨hx, hb, hml, hown, hts⟩ hK hP hA hS hZ (c_X12_mean l D cI cL ad zz hJ σ9 τ (xs x7.toNatClampNeg) ((xs x7.toNatClampNeg).toInt) rfl I15 I16 I17 I18 I19 I20 I21 p22) cw_RL_64 (jc_55 cI cL ad σ9 τ) rfl ⟨Nat.le_of_ble_eq_true rfl, Nat.le_of_ble_eq_true rfl⟩ rfl rfl rfl hl.1 rfl (Nat.le_of_ble_eq_true rfl) dL_law_565 ⟨Nat.le_of_ble_eq_true rfl, Nat.le_of_ble_eq_true rfl⟩ (fun r24 σ23 τ23 H locs h23 hP hS => ?_)
     obtain ⟨rfl, f25, f26, I27, p28, h23⟩ := h23
     refine lv_pop hx hb dL_law_568 rfl ?_
     refine lv_goto (tgt := 1357) hx hb dL_law_569 (of_decide_eq_true rfl) ?_
     obtain ⟨x30, ex30⟩ : ∃ y : Int32, y = x0 + 6 := ⟨_, rfl⟩
     have tx30 : x30.toInt = x0.toInt + 6 := (jadd ex30 rfl jz_6 (by omega) (by omega)).trans (by omega)
     exact by
      refine lv_iinc (v := x30) (lv' := [(3, .int x30), (2, .ref (ad 55)), (1, .ref (ad 0)), (0, .ref b)]) hx hb dL_law_1357 hl (k := 0) rfl (by rw [ex30]; rfl) (of_decide_eq_true rfl) rfl (fun ls hl => ?_)
      refine lv_goto (tgt := 18) hx hb dL_law_1360 (of_decide_eq_true rfl) ?_
      have I31 : jI2 σ23 := jI2_fr ((congrFun (f25 2 (of_decide_eq_true rfl)) 0).trans (congrFun (f11 2 (of_decide_eq_true rfl)) 0)) ((congrFun (f25 2 (of_decide_eq_true rfl)) 1).trans (congrFun (f11 2 (of_decide_eq_true rfl)) 1)) ((congrFun (f25 2 (of_decide_eq_true rfl)) 2).trans (congrFun (f11 2 (of_decide_eq_true rfl)) 2)) ((congrFun (f25 2 (of_decide_eq_true rfl)) 3).trans (congrFun (f11 2 (of_decide_eq_true rfl)) 3)) ((f25 6 (of_decide_eq_true rfl)).trans (f11 6 (of_decide_eq_true rfl))) hI2
      have I32 : jI9 σ23 := jI9_fr ((congrFun (f25 9 (of_decide_eq_true rfl)) 0).trans (congrFun (f11 9 (of_decide_eq_true rfl)) 0)) ((f25 10 (of_decide_eq_true rfl)).trans (f11 10 (of_decide_eq_true rfl))) ((f25 11 (of_decide_eq_true rfl)).trans (f11 11 (of_decide_eq_true rfl))) hI9
      have I33 : jI12 σ23 := jI12_fr ((congrFun (f25 12 (of_decide_eq_true rfl)) 0).trans (congrFun (f11 12 (of_decide_eq_true rfl)) 0)) ((f25 13 (of_decide_eq_true rfl)).trans (f11 13 (of_decide_eq_true rfl))) hI12
      have I34 : jI16 σ23 := jI16_fr ((congrFun (f25 16 (of_decide_eq_true rfl)) 0).trans (congrFun (f11 16 (of_decide_eq_true rfl)) 0)) ((congrFun (f25 16 (of_decide_eq_true rfl)) 1).trans (congrFun (f11 16 (of_decide_eq_true rfl)) 1)) ((congrFun (f25 16 (of_decide_eq_true rfl)) 2).trans (congrFun (f11 16 (of_decide_eq_true rfl)) 2)) ((f25 17 (of_decide_eq_true rfl)).trans (f11 17 (of_decide_eq_true rfl))) hI16
      have I35 : jI18 σ23 := jI18_fr ((congrFun (f25 18 (of_decide_eq_true rfl)) 0).trans (congrFun (f11 18 (of_decide_eq_true rfl)) 0)) ((f25 19 (of_decide_eq_true rfl)).trans (f11 19 (of_decide_eq_true rfl))) hI18
      have I36 : jI22 σ23 := jI22_fr ((congrFun (f25 22 (of_decide_eq_true rfl)) 0).trans (congrFun (f11 22 (of_decide_eq_true rfl)) 0)) ((f25 23 (of_decide_eq_true rfl)).trans (f11 23 (of_decide_eq_true rfl))) hI22
      have I37 : jI31 σ23 := jI31_fr (congrFun (f25 31 (of_decide_eq_true rfl)) 8) (f25 33 (of_decide_eq_true rfl)) (f25 36 (of_decide_eq_true rfl)) I13
      have I38 : jI38 σ23 := jI38_fr ((congrFun (f25 38 (of_decide_eq_true rfl)) 0).trans (congrFun (f11 38 (of_decide_eq_true rfl)) 0)) ((congrFun (f25 38 (of_decide_eq_true rfl)) 1).trans (congrFun (f11 38 (of_decide_eq_true rfl)) 1)) ((f25 39 (of_decide_eq_true rfl)).trans (f11 39 (of_decide_eq_true rfl))) hI38
      have I39 : jI43 σ23 := jI43_fr ((congrFun (f25 43 (of_decide_eq_true rfl)) 8).trans (congrFun (f11 43 (of_decide_eq_true rfl)) 8)) hI43
      have I40 : jI47 σ23 := jI47_fr ((congrFun (f25 47 (of_decide_eq_true rfl)) 0).trans (congrFun (f11 47 (of_decide_eq_true rfl)) 0)) ((f25 48 (of_decide_eq_true rfl)).trans (f11 48 (of_decide_eq_true rfl))) ((f25 49 (of_decide_eq_true rfl)).trans (f11 49 (of_decide_eq_true rfl))) hI47
      have I41 : jI50 σ23 := jI50_fr ((f25 52 (of_decide_eq_true rfl)).trans (f11 52 (of_decide_eq_true rfl))) hI50
      have I42 : jI101 σ23 := jI101_fr (f26 4 (of_decide_eq_true rfl)) (f26 5 (of_decide_eq_true rfl)) (f25 56 (of_decide_eq_true rfl)) (f25 57 (of_decide_eq_true rfl)) (f25 58 (of_decide_eq_true rfl)) (f25 59 (of_decide_eq_true rfl)) I15
      have I43 : jI102 σ23 := jI102_fr (f26 6 (of_decide_eq_true rfl)) (f25 60 (of_decide_eq_true rfl)) (f25 61 (of_decide_eq_true rfl)) I16
      have I44 : jI103 σ23 := jI103_fr (f26 9 (of_decide_eq_true rfl)) I17
      have I45 : jI104 σ23 := jI104_fr (f26 10 (of_decide_eq_true rfl)) (f26 12 (of_decide_eq_true rfl)) (f26 13 (of_decide_eq_true rfl)) (f25 62 (of_decide_eq_true rfl)) (f25 67 (of_decide_eq_true rfl)) I18
      have I46 : jI105 σ23 := jI105_fr (f26 15 (of_decide_eq_true rfl)) (f25 65 (of_decide_eq_true rfl)) I19
      have I47 : jI106 σ23 := jI106_fr (f26 32 (of_decide_eq_true rfl)) (f25 70 (of_decide_eq_true rfl)) (f25 71 (of_decide_eq_true rfl)) (f25 72 (of_decide_eq_true rfl)) I20
      have I48 : jI107 σ23 := jI107_fr ((f26 12 (of_decide_eq_true rfl)).trans (congrFun (f11 55 (of_decide_eq_true rfl)) 12)) ((f26 47 (of_decide_eq_true rfl)).trans (congrFun (f11 55 (of_decide_eq_true rfl)) 47)) ((f25 80 (of_decide_eq_true rfl)).trans (f11 80 (of_decide_eq_true rfl))) hI107
      have I49 : jI109 σ23 := jI109_fr ((f26 50 (of_decide_eq_true rfl)).trans (congrFun (f11 55 (of_decide_eq_true rfl)) 50)) hI109
      have I50 : jI110 σ23 := jI110_fr ((f25 86 (of_decide_eq_true rfl)).trans (f11 86 (of_decide_eq_true rfl))) ((f25 87 (of_decide_eq_true rfl)).trans (f11 87 (of_decide_eq_true rfl))) hI110
      have I51 : jI111 σ23 := jI111_fr ((f25 79 (of_decide_eq_true rfl)).trans (f11 79 (of_decide_eq_true rfl))) hI111
      have p52 : jBook σ23 := jBook.fr ((f26 47 (of_decide_eq_true rfl)).trans (congrFun (f11 55 (of_decide_eq_true rfl)) 47)) ((f26 10 (of_decide_eq_true rfl)).trans (congrFun (f11 55 (of_decide_eq_true rfl)) 10)) ((f25 81 (of_decide_eq_true rfl)).trans (f11 81 (of_decide_eq_true rfl))) hs_jBook
      have z53 : (σ23 9 0).toInt = (σ 9 0).toInt := (congrArg Int32.toInt (show σ23 9 0 = (σ 9 0) from ((congrFun (f25 9 (of_decide_eq_true rfl)) 0).trans (congrFun (f11 9 (of_decide_eq_true rfl)) 0))))
      have z54 : (σ23 55 15).toInt = (σ 55 15).toInt := (congrArg Int32.toInt (show σ23 55 15 = (σ 55 15) from ((f26 15 (of_decide_eq_true rfl)).trans (congrFun (f11 55 (of_decide_eq_true rfl)) 15))))
      exact by exact ih x30 σ23 τ _ _ ls (by have h9 := tx30; omega) ⟨I31, I32, I33, I34, I35, I36, I37, I38, I39, I40, I41, I42, I43, I44, I45, I46, I47, I48, I49, I50, I51, I27, p28, p52, (by omega), (show jTp (σ23 10) (σ23 63) (σ23 55 15).toInt by rw [show σ23 10 = σ 10 from ((f25 10 (of_decide_eq_true rfl)).trans (f11 10 (of_decide_eq_true rfl))), show σ23 63 = σ 63 from ((f25 63 (of_decide_eq_true rfl)).trans (f11 63 (of_decide_eq_true rfl)))]; exact hr0.le (by omega))⟩ hP hS (lv_sub hl [0, 1, 2, 3] rfl)
set_option maxHeartbeats 4000000 in
set_option maxRecDepth 100000 in
theorem law_case_12 {p : Program} {e : Env} {s : State} {m : MethodId} {below : List Frame} {meth : Method} {c : Code} (l : Launch) {b L : Nat} {xs : Nat → Int32} {D : va_G} {cI cL : ClassId} {ad zz : Nat → Nat} (C0 : lw_At p s m meth c b L xs) (hJ : jD ad) (hA : ∀ q, jA ad q → s.heap.size ≤ q) (hK : jK D cI cL s) (hZ : jZ zz (fun q : Nat => s.heap.size ≤ q) s s.heap) {x0 : Int32} (hx0 : 0 ≤ x0.toInt) (hxL : x0.toInt + 6 ≤ (L : Int)) (hL : L ≤ 384) {σ : Nat → Nat → Int32} {τ : Nat → Nat → Int64} {H : Heap} {locs : List Loc} (hS : va_S (fun q : Nat => s.heap.size ≤ q) s.heap H locs) {ls : Array Slot} (hAll : jAll σ τ) (hP : jH D cI cL ad σ τ H) (hl : lv_has ls 4 [(3, .int x0), (2, .ref (ad 55)), (1, .ref (ad 0)), (0, .ref b)]) (ih : ∀ (x1 : Int32) (σ : Nat → Nat → Int32) (τ : Nat → Nat → Int64) (H : Heap) (locs : List Loc) (ls : Array Slot), x1.toInt = x0.toInt + 6 → jAll σ τ → jH D cI cL ad σ τ H → va_S (fun q : Nat => s.heap.size ≤ q) s.heap H locs → lv_has ls 4 [(3, .int x1), (2, .ref (ad 55)), (1, .ref (ad 0)), (0, .ref b)] → W p l e room_1 s m #[Value.ref b] below meth c H locs 90 348600 (lw_Z below #[Value.ref b] s) (F0 m 18 ls [])) : W p l e room_1 s m #[Value.ref b] below meth c H locs 90 348600 (lw_Z below #[Value.ref b] s) (F0 m 572 ls []) := by
  obtain ⟨hx, hb, hr, hml, hown, hts0, hX, hbl, hlocks, hgv⟩ := C0
  have hts : ∀ w ∈ wsL_law, w.before #[Value.ref b] s = true := fun w h => hts0 w (wsL_law_in w h)
  have hbA : ¬ (fun q : Nat => s.heap.size ≤ q) b := Nat.not_le.mpr hbl
  have hown : s.vm.findClass RL = some m.cls := hown
  obtain ⟨hI2, hI9, hI12, hI16, hI18, hI22, hI31, hI38, hI43, hI47, hI50, hI101, hI102, hI103, hI104, hI105, hI106, hI107, hI109, hI110, hI111, hI119, hs_jKept, hs_jBook, ht0, hr0⟩ := hAll
  have hL9 : (L : Int) ≤ 384 := by omega
  obtain ⟨i1, w2, w3⟩ : (0 ≤ (σ 9 0).toInt ∧ (σ 9 0).toInt ≤ 80) ∧ (∀ k : Nat, k < 80 → 0 ≤ (σ 10 k).toInt ∧ (σ 10 k).toInt ≤ 255) ∧ (∀ k : Nat, k < 8 → 0 ≤ (σ 11 k).toInt ∧ (σ 11 k).toInt ≤ 3) := id hI9
  obtain ⟨i4, w5⟩ : (0 ≤ (σ 55 15).toInt ∧ (σ 55 15).toInt ≤ 80) ∧ (∀ k : Nat, k < 2 → (-1) ≤ (σ 65 k).toInt ∧ (σ 65 k).toInt ≤ 80) := id hI105
  refine lv_aload_n hx hb dL_law_572 rfl (lv_at hl 2 rfl) ?_
  refine lv_aload_n hx hb dL_law_573 rfl (lv_at hl 3 rfl) ?_
  refine lv_iload_n hx hb dL_law_574 rfl (lv_at hl 0 rfl) ?_
  refine lv_iconst (v := 1) hx hb dL_law_575 (of_decide_eq_true rfl) ?_
  have g6 := jrg (rfl : x0.toInt = x0.toInt)
  refine lv_iadd hx hb dL_law_576 ?_
  refine lv_topi (fun x7 ex7 => ?_)
  exact by
   have tx7 : x7.toInt = x0.toInt + 1 := (jadd ex7 rfl jz_1 (by omega) (by omega)).trans (by omega)
   refine va_sld hx hb hX hbl hbA hS (jin tx7 (by omega) (by omega)) dL_law_577 ?_
   have g8 := jrg (rfl : (xs x7.toNatClampNeg).toInt = (xs x7.toNatClampNeg).toInt)
   refine lv_aload_n hx hb dL_law_578 rfl (lv_at hl 3 rfl) ?_
   refine lv_iload_n hx hb dL_law_579 rfl (lv_at hl 0 rfl) ?_
   refine lv_iconst (v := 2) hx hb dL_law_580 (of_decide_eq_true rfl) ?_
   refine lv_iadd hx hb dL_law_581 ?_
   refine lv_topi (fun x9 ex9 => ?_)
   have tx9 : x9.toInt = x0.toInt + 2 := (jadd ex9 rfl jz_2 (by omega) (by omega)).trans (by omega)
   exact by
    refine va_sld hx hb hX hbl hbA hS (jin tx9 (by omega) (by omega)) dL_law_582 ?_
    have g10 := jrg (rfl : (xs x9.toNatClampNeg).toInt = (xs x9.toNatClampNeg).toInt)
    refine jcallV (As := [.int (xs x7.toNatClampNeg), .int (xs x9.toNatClampNeg)]) (rest := []) ⟨hx, hb, hml, hown, hts⟩ hK hP hA hS hZ (c_X11_likely l D cI cL ad zz hJ σ τ (xs x7.toNatClampNeg) ((xs x7.toNatClampNeg).toInt) rfl (xs x9.toNatClampNeg) ((xs x9.toNatClampNeg).toInt) rfl hI2 hI16 hI18 hI22 hI31 hI38) cw_RL_65 (jc_0 cI cL ad σ τ) rfl ⟨Nat.le_of_ble_eq_true rfl, Nat.le_of_ble_eq_true rfl⟩ rfl rfl rfl hl.1 rfl (Nat.le_of_ble_eq_true rfl) dL_law_583 ⟨Nat.le_of_ble_eq_true rfl, Nat.le_of_ble_eq_true rfl⟩ (fun r12 σ11 τ11 H locs h11 hP hS => ?_)
    obtain ⟨rfl, f13, f14, I15, h11⟩ := h11
    refine lv_pop hx hb dL_law_586 rfl ?_
    refine lv_aload_n hx hb dL_law_587 rfl (lv_at hl 1 rfl) ?_
    refine lv_aload_n hx hb dL_law_588 rfl (lv_at hl 3 rfl) ?_
    refine lv_iload_n hx hb dL_law_589 rfl (lv_at hl 0 rfl) ?_
    refine lv_iconst (v := 1) hx hb dL_law_590 (of_decide_eq_true rfl) ?_
    refine lv_iadd hx hb dL_law_591 ?_
    refine jtopr ex7.symm ?_
    exact by
     refine va_sld hx hb hX hbl hbA hS (jin tx7 (by omega) (by omega)) dL_law_592 ?_
     refine lv_aload_n hx hb dL_law_593 rfl (lv_at hl 3 rfl) ?_
     refine lv_iload_n hx hb dL_law_594 rfl (lv_at hl 0 rfl) ?_
     refine lv_iconst (v := 2) hx hb dL_law_595 (of_decide_eq_true rfl) ?_
     refine lv_iadd hx hb dL_law_596 ?_
     refine jtopr ex9.symm ?_
     refine va_sld hx hb hX hbl hbA hS (jin tx9 (by omega) (by omega)) dL_law_597 ?_
     have I17 : jI101 σ11 := jI101_fr (congrFun (f13 55 (of_decide_eq_true rfl)) 4) (congrFun (f13 55 (of_decide_eq_true rfl)) 5) (f13 56 (of_decide_eq_true rfl)) (f13 57 (of_decide_eq_true rfl)) (f13 58 (of_decide_eq_true rfl)) (f13 59 (of_decide_eq_true rfl)) hI101
     have I18 : jI102 σ11 := jI102_fr (congrFun (f13 55 (of_decide_eq_true rfl)) 6) (f13 60 (of_decide_eq_true rfl)) (f13 61 (of_decide_eq_true rfl)) hI102
     exact by
      have I19 : jI103 σ11 := jI103_fr (congrFun (f13 55 (of_decide_eq_true rfl)) 9) hI103
      have I20 : jI104 σ11 := jI104_fr (congrFun (f13 55 (of_decide_eq_true rfl)) 10) (congrFun (f13 55 (of_decide_eq_true rfl)) 12) (congrFun (f13 55 (of_decide_eq_true rfl)) 13) (f13 62 (of_decide_eq_true rfl)) (f13 67 (of_decide_eq_true rfl)) hI104
      have I21 : jI105 σ11 := jI105_fr (congrFun (f13 55 (of_decide_eq_true rfl)) 15) (f13 65 (of_decide_eq_true rfl)) hI105
      have I22 : jI106 σ11 := jI106_fr (congrFun (f13 55 (of_decide_eq_true rfl)) 32) (f13 70 (of_decide_eq_true rfl)) (f13 71 (of_decide_eq_true rfl)) (f13 72 (of_decide_eq_true rfl)) hI106
      have I23 : jI119 σ11 := jI119_fr (f13 68 (of_decide_eq_true rfl)) hI119
      have p24 : jKept σ11 := jKept.fr (f13 75 (of_decide_eq_true rfl)) (f13 76 (of_decide_eq_true rfl)) (f13 77 (of_decide_eq_true rfl)) hs_jKept
      refine jcallV (As := [.int (xs x7.toNatClampNeg), .int (xs x9.toNatClampNeg)]) (rest := []) ⟨hx, hb, hml, hown, hts⟩ hK hP hA hS hZ (c_X12_likely l D cI cL ad zz hJ σ11 τ (xs x7.toNatClampNeg) ((xs x7.toNatClampNeg).toInt) rfl (xs x9.toNatClampNeg) ((xs x9.toNatClampNeg).toInt) rfl I17 I18 I19 I20 I21 I22 I23 p24) cw_RL_68 (jc_55 cI cL ad σ11 τ) rfl ⟨Nat.le_of_ble_eq_true rfl, Nat.le_of_ble_eq_true rfl⟩ rfl rfl rfl hl.1 rfl (Nat.le_of_ble_eq_true rfl) dL_law_598 ⟨Nat.le_of_ble_eq_true rfl, Nat.le_of_ble_eq_true rfl⟩ (fun r26 σ25 τ25 H locs h25 hP hS => ?_)
      obtain ⟨rfl, f27, f28, I29, p30, h25⟩ := h25
      refine lv_pop hx hb dL_law_601 rfl ?_
      refine lv_goto (tgt := 1357) hx hb dL_law_602 (of_decide_eq_true rfl) ?_
      obtain ⟨x32, ex32⟩ : ∃ y : Int32, y = x0 + 6 := ⟨_, rfl⟩
      exact by
       have tx32 : x32.toInt = x0.toInt + 6 := (jadd ex32 rfl jz_6 (by omega) (by omega)).trans (by omega)
       refine lv_iinc (v := x32) (lv' := [(3, .int x32), (2, .ref (ad 55)), (1, .ref (ad 0)), (0, .ref b)]) hx hb dL_law_1357 hl (k := 0) rfl (by rw [ex32]; rfl) (of_decide_eq_true rfl) rfl (fun ls hl => ?_)
       refine lv_goto (tgt := 18) hx hb dL_law_1360 (of_decide_eq_true rfl) ?_
       have I33 : jI2 σ25 := jI2_fr ((congrFun (f27 2 (of_decide_eq_true rfl)) 0).trans (congrFun (f13 2 (of_decide_eq_true rfl)) 0)) ((congrFun (f27 2 (of_decide_eq_true rfl)) 1).trans (congrFun (f13 2 (of_decide_eq_true rfl)) 1)) ((congrFun (f27 2 (of_decide_eq_true rfl)) 2).trans (congrFun (f13 2 (of_decide_eq_true rfl)) 2)) ((congrFun (f27 2 (of_decide_eq_true rfl)) 3).trans (congrFun (f13 2 (of_decide_eq_true rfl)) 3)) ((f27 6 (of_decide_eq_true rfl)).trans (f13 6 (of_decide_eq_true rfl))) hI2
       have I34 : jI9 σ25 := jI9_fr ((congrFun (f27 9 (of_decide_eq_true rfl)) 0).trans (congrFun (f13 9 (of_decide_eq_true rfl)) 0)) ((f27 10 (of_decide_eq_true rfl)).trans (f13 10 (of_decide_eq_true rfl))) ((f27 11 (of_decide_eq_true rfl)).trans (f13 11 (of_decide_eq_true rfl))) hI9
       have I35 : jI12 σ25 := jI12_fr ((congrFun (f27 12 (of_decide_eq_true rfl)) 0).trans (congrFun (f13 12 (of_decide_eq_true rfl)) 0)) ((f27 13 (of_decide_eq_true rfl)).trans (f13 13 (of_decide_eq_true rfl))) hI12
       have I36 : jI16 σ25 := jI16_fr ((congrFun (f27 16 (of_decide_eq_true rfl)) 0).trans (congrFun (f13 16 (of_decide_eq_true rfl)) 0)) ((congrFun (f27 16 (of_decide_eq_true rfl)) 1).trans (congrFun (f13 16 (of_decide_eq_true rfl)) 1)) ((congrFun (f27 16 (of_decide_eq_true rfl)) 2).trans (congrFun (f13 16 (of_decide_eq_true rfl)) 2)) ((f27 17 (of_decide_eq_true rfl)).trans (f13 17 (of_decide_eq_true rfl))) hI16
       have I37 : jI18 σ25 := jI18_fr ((congrFun (f27 18 (of_decide_eq_true rfl)) 0).trans (congrFun (f13 18 (of_decide_eq_true rfl)) 0)) ((f27 19 (of_decide_eq_true rfl)).trans (f13 19 (of_decide_eq_true rfl))) hI18
       have I38 : jI22 σ25 := jI22_fr ((congrFun (f27 22 (of_decide_eq_true rfl)) 0).trans (congrFun (f13 22 (of_decide_eq_true rfl)) 0)) ((f27 23 (of_decide_eq_true rfl)).trans (f13 23 (of_decide_eq_true rfl))) hI22
       exact by
        have I39 : jI31 σ25 := jI31_fr (congrFun (f27 31 (of_decide_eq_true rfl)) 8) (f27 33 (of_decide_eq_true rfl)) (f27 36 (of_decide_eq_true rfl)) I15
        have I40 : jI38 σ25 := jI38_fr ((congrFun (f27 38 (of_decide_eq_true rfl)) 0).trans (congrFun (f13 38 (of_decide_eq_true rfl)) 0)) ((congrFun (f27 38 (of_decide_eq_true rfl)) 1).trans (congrFun (f13 38 (of_decide_eq_true rfl)) 1)) ((f27 39 (of_decide_eq_true rfl)).trans (f13 39 (of_decide_eq_true rfl))) hI38
        have I41 : jI43 σ25 := jI43_fr ((congrFun (f27 43 (of_decide_eq_true rfl)) 8).trans (congrFun (f13 43 (of_decide_eq_true rfl)) 8)) hI43
        have I42 : jI47 σ25 := jI47_fr ((congrFun (f27 47 (of_decide_eq_true rfl)) 0).trans (congrFun (f13 47 (of_decide_eq_true rfl)) 0)) ((f27 48 (of_decide_eq_true rfl)).trans (f13 48 (of_decide_eq_true rfl))) ((f27 49 (of_decide_eq_true rfl)).trans (f13 49 (of_decide_eq_true rfl))) hI47
        have I43 : jI50 σ25 := jI50_fr ((f27 52 (of_decide_eq_true rfl)).trans (f13 52 (of_decide_eq_true rfl))) hI50
        have I44 : jI101 σ25 := jI101_fr (f28 4 (of_decide_eq_true rfl)) (f28 5 (of_decide_eq_true rfl)) (f27 56 (of_decide_eq_true rfl)) (f27 57 (of_decide_eq_true rfl)) (f27 58 (of_decide_eq_true rfl)) (f27 59 (of_decide_eq_true rfl)) I17
        have I45 : jI102 σ25 := jI102_fr (f28 6 (of_decide_eq_true rfl)) (f27 60 (of_decide_eq_true rfl)) (f27 61 (of_decide_eq_true rfl)) I18
        have I46 : jI103 σ25 := jI103_fr (f28 9 (of_decide_eq_true rfl)) I19
        have I47 : jI104 σ25 := jI104_fr (f28 10 (of_decide_eq_true rfl)) (f28 12 (of_decide_eq_true rfl)) (f28 13 (of_decide_eq_true rfl)) (f27 62 (of_decide_eq_true rfl)) (f27 67 (of_decide_eq_true rfl)) I20
        have I48 : jI105 σ25 := jI105_fr (f28 15 (of_decide_eq_true rfl)) (f27 65 (of_decide_eq_true rfl)) I21
        have I49 : jI106 σ25 := jI106_fr (f28 32 (of_decide_eq_true rfl)) (f27 70 (of_decide_eq_true rfl)) (f27 71 (of_decide_eq_true rfl)) (f27 72 (of_decide_eq_true rfl)) I22
        have I50 : jI107 σ25 := jI107_fr ((f28 12 (of_decide_eq_true rfl)).trans (congrFun (f13 55 (of_decide_eq_true rfl)) 12)) ((f28 47 (of_decide_eq_true rfl)).trans (congrFun (f13 55 (of_decide_eq_true rfl)) 47)) ((f27 80 (of_decide_eq_true rfl)).trans (f13 80 (of_decide_eq_true rfl))) hI107
        have I51 : jI109 σ25 := jI109_fr ((f28 50 (of_decide_eq_true rfl)).trans (congrFun (f13 55 (of_decide_eq_true rfl)) 50)) hI109
        have I52 : jI110 σ25 := jI110_fr ((f27 86 (of_decide_eq_true rfl)).trans (f13 86 (of_decide_eq_true rfl))) ((f27 87 (of_decide_eq_true rfl)).trans (f13 87 (of_decide_eq_true rfl))) hI110
        have I53 : jI111 σ25 := jI111_fr ((f27 79 (of_decide_eq_true rfl)).trans (f13 79 (of_decide_eq_true rfl))) hI111
        have p54 : jBook σ25 := jBook.fr ((f28 47 (of_decide_eq_true rfl)).trans (congrFun (f13 55 (of_decide_eq_true rfl)) 47)) ((f28 10 (of_decide_eq_true rfl)).trans (congrFun (f13 55 (of_decide_eq_true rfl)) 10)) ((f27 81 (of_decide_eq_true rfl)).trans (f13 81 (of_decide_eq_true rfl))) hs_jBook
        have z55 : (σ25 9 0).toInt = (σ 9 0).toInt := (congrArg Int32.toInt (show σ25 9 0 = (σ 9 0) from ((congrFun (f27 9 (of_decide_eq_true rfl)) 0).trans (congrFun (f13 9 (of_decide_eq_true rfl)) 0))))
        have z56 : (σ25 55 15).toInt = (σ 55 15).toInt := (congrArg Int32.toInt (show σ25 55 15 = (σ 55 15) from ((f28 15 (of_decide_eq_true rfl)).trans (congrFun (f13 55 (of_decide_eq_true rfl)) 15))))
        exact by exact ih x32 σ25 τ _ _ ls (by have h9 := tx32; omega) ⟨I33, I34, I35, I36, I37, I38, I39, I40, I41, I42, I43, I44, I45, I46, I47, I48, I49, I50, I51, I52, I53, I29, p30, p54, (by omega), (show jTp (σ25 10) (σ25 63) (σ25 55 15).toInt by rw [show σ25 10 = σ 10 from ((f27 10 (of_decide_eq_true rfl)).trans (f13 10 (of_decide_eq_true rfl))), show σ25 63 = σ 63 from ((f27 63 (of_decide_eq_true rfl)).trans (f13 63 (of_decide_eq_true rfl)))]; exact hr0.le (by omega))⟩ hP hS (lv_sub hl [0, 1, 2, 3] rfl)
set_option maxHeartbeats 4000000 in
set_option maxRecDepth 100000 in
theorem law_case_13 {p : Program} {e : Env} {s : State} {m : MethodId} {below : List Frame} {meth : Method} {c : Code} (l : Launch) {b L : Nat} {xs : Nat → Int32} {D : va_G} {cI cL : ClassId} {ad zz : Nat → Nat} (C0 : lw_At p s m meth c b L xs) (hJ : jD ad) (hA : ∀ q, jA ad q → s.heap.size ≤ q) (hK : jK D cI cL s) (hZ : jZ zz (fun q : Nat => s.heap.size ≤ q) s s.heap) {x0 : Int32} (hx0 : 0 ≤ x0.toInt) (hxL : x0.toInt + 6 ≤ (L : Int)) (hL : L ≤ 384) {σ : Nat → Nat → Int32} {τ : Nat → Nat → Int64} {H : Heap} {locs : List Loc} (hS : va_S (fun q : Nat => s.heap.size ≤ q) s.heap H locs) {ls : Array Slot} (hAll : jAll σ τ) (hP : jH D cI cL ad σ τ H) (hl : lv_has ls 4 [(3, .int x0), (2, .ref (ad 55)), (1, .ref (ad 0)), (0, .ref b)]) (ih : ∀ (x1 : Int32) (σ : Nat → Nat → Int32) (τ : Nat → Nat → Int64) (H : Heap) (locs : List Loc) (ls : Array Slot), x1.toInt = x0.toInt + 6 → jAll σ τ → jH D cI cL ad σ τ H → va_S (fun q : Nat => s.heap.size ≤ q) s.heap H locs → lv_has ls 4 [(3, .int x1), (2, .ref (ad 55)), (1, .ref (ad 0)), (0, .ref b)] → W p l e room_1 s m #[Value.ref b] below meth c H locs 90 348600 (lw_Z below #[Value.ref b] s) (F0 m 18 ls [])) : W p l e room_1 s m #[Value.ref b] below meth c H locs 90 348600 (lw_Z below #[Value.ref b] s) (F0 m 605 ls []) := by
  obtain ⟨hx, hb, hr, hml, hown, hts0, hX, hbl, hlocks, hgv⟩ := C0
  have hts : ∀ w ∈ wsL_law, w.before #[Value.ref b] s = true := fun w h => hts0 w (wsL_law_in w h)
  have hbA : ¬ (fun q : Nat => s.heap.size ≤ q) b := Nat.not_le.mpr hbl
  have hown : s.vm.findClass RL = some m.cls := hown
  obtain ⟨hI2, hI9, hI12, hI16, hI18, hI22, hI31, hI38, hI43, hI47, hI50, hI101, hI102, hI103, hI104, hI105, hI106, hI107, hI109, hI110, hI111, hI119, hs_jKept, hs_jBook, ht0, hr0⟩ := hAll
  have hL9 : (L : Int) ≤ 384 := by omega
  obtain ⟨i1, w2, w3⟩ : (0 ≤ (σ 9 0).toInt ∧ (σ 9 0).toInt ≤ 80) ∧ (∀ k : Nat, k < 80 → 0 ≤ (σ 10 k).toInt ∧ (σ 10 k).toInt ≤ 255) ∧ (∀ k : Nat, k < 8 → 0 ≤ (σ 11 k).toInt ∧ (σ 11 k).toInt ≤ 3) := id hI9
  obtain ⟨i4, w5⟩ : (0 ≤ (σ 55 15).toInt ∧ (σ 55 15).toInt ≤ 80) ∧ (∀ k : Nat, k < 2 → (-1) ≤ (σ 65 k).toInt ∧ (σ 65 k).toInt ≤ 80) := id hI105
  refine lv_aload_n hx hb dL_law_605 rfl (lv_at hl 2 rfl) ?_
  refine lv_aload_n hx hb dL_law_606 rfl (lv_at hl 3 rfl) ?_
  refine lv_iload_n hx hb dL_law_607 rfl (lv_at hl 0 rfl) ?_
  refine lv_iconst (v := 1) hx hb dL_law_608 (of_decide_eq_true rfl) ?_
  have g6 := jrg (rfl : x0.toInt = x0.toInt)
  refine lv_iadd hx hb dL_law_609 ?_
  refine lv_topi (fun x7 ex7 => ?_)
  exact by
   have tx7 : x7.toInt = x0.toInt + 1 := (jadd ex7 rfl jz_1 (by omega) (by omega)).trans (by omega)
   refine va_sld hx hb hX hbl hbA hS (jin tx7 (by omega) (by omega)) dL_law_610 ?_
   have g8 := jrg (rfl : (xs x7.toNatClampNeg).toInt = (xs x7.toNatClampNeg).toInt)
   refine jcallV (As := [.int (xs x7.toNatClampNeg)]) (rest := []) ⟨hx, hb, hml, hown, hts⟩ hK hP hA hS hZ (c_X11_best l D cI cL ad zz hJ σ τ (xs x7.toNatClampNeg) ((xs x7.toNatClampNeg).toInt) rfl hI2 hI16 hI22 hI31 hI47) cw_RL_69 (jc_0 cI cL ad σ τ) rfl ⟨Nat.le_of_ble_eq_true rfl, Nat.le_of_ble_eq_true rfl⟩ rfl rfl rfl hl.1 rfl (Nat.le_of_ble_eq_true rfl) dL_law_611 ⟨Nat.le_of_ble_eq_true rfl, Nat.le_of_ble_eq_true rfl⟩ (fun r10 σ9 τ9 H locs h9 hP hS => ?_)
   obtain ⟨rfl, f11, f12, I13, h9⟩ := h9
   refine lv_pop hx hb dL_law_614 rfl ?_
   refine lv_aload_n hx hb dL_law_615 rfl (lv_at hl 1 rfl) ?_
   refine lv_aload_n hx hb dL_law_616 rfl (lv_at hl 3 rfl) ?_
   refine lv_iload_n hx hb dL_law_617 rfl (lv_at hl 0 rfl) ?_
   exact by
    refine lv_iconst (v := 1) hx hb dL_law_618 (of_decide_eq_true rfl) ?_
    refine lv_iadd hx hb dL_law_619 ?_
    refine jtopr ex7.symm ?_
    refine va_sld hx hb hX hbl hbA hS (jin tx7 (by omega) (by omega)) dL_law_620 ?_
    have I15 : jI101 σ9 := jI101_fr (congrFun (f11 55 (of_decide_eq_true rfl)) 4) (congrFun (f11 55 (of_decide_eq_true rfl)) 5) (f11 56 (of_decide_eq_true rfl)) (f11 57 (of_decide_eq_true rfl)) (f11 58 (of_decide_eq_true rfl)) (f11 59 (of_decide_eq_true rfl)) hI101
    have I16 : jI102 σ9 := jI102_fr (congrFun (f11 55 (of_decide_eq_true rfl)) 6) (f11 60 (of_decide_eq_true rfl)) (f11 61 (of_decide_eq_true rfl)) hI102
    have I17 : jI103 σ9 := jI103_fr (congrFun (f11 55 (of_decide_eq_true rfl)) 9) hI103
    have I18 : jI104 σ9 := jI104_fr (congrFun (f11 55 (of_decide_eq_true rfl)) 10) (congrFun (f11 55 (of_decide_eq_true rfl)) 12) (congrFun (f11 55 (of_decide_eq_true rfl)) 13) (f11 62 (of_decide_eq_true rfl)) (f11 67 (of_decide_eq_true rfl)) hI104
    have I19 : jI105 σ9 := jI105_fr (congrFun (f11 55 (of_decide_eq_true rfl)) 15) (f11 65 (of_decide_eq_true rfl)) hI105
    exact by
     have I20 : jI106 σ9 := jI106_fr (congrFun (f11 55 (of_decide_eq_true rfl)) 32) (f11 70 (of_decide_eq_true rfl)) (f11 71 (of_decide_eq_true rfl)) (f11 72 (of_decide_eq_true rfl)) hI106
     have I21 : jI107 σ9 := jI107_fr (congrFun (f11 55 (of_decide_eq_true rfl)) 12) (congrFun (f11 55 (of_decide_eq_true rfl)) 47) (f11 80 (of_decide_eq_true rfl)) hI107
     have I22 : jI119 σ9 := jI119_fr (f11 68 (of_decide_eq_true rfl)) hI119
     have p23 : jKept σ9 := jKept.fr (f11 75 (of_decide_eq_true rfl)) (f11 76 (of_decide_eq_true rfl)) (f11 77 (of_decide_eq_true rfl)) hs_jKept
     have p24 : jBook σ9 := jBook.fr (congrFun (f11 55 (of_decide_eq_true rfl)) 47) (congrFun (f11 55 (of_decide_eq_true rfl)) 10) (f11 81 (of_decide_eq_true rfl)) hs_jBook
     refine jcallV (As := [.int (xs x7.toNatClampNeg)]) (rest := []) ⟨hx, hb, hml, hown, hts⟩ hK hP hA hS hZ (c_X12_best l D cI cL ad zz hJ σ9 τ (xs x7.toNatClampNeg) ((xs x7.toNatClampNeg).toInt) rfl I15 I16 I17 I18 I19 I20 I21 I22 p23 p24) cw_RL_72 (jc_55 cI cL ad σ9 τ) rfl ⟨Nat.le_of_ble_eq_true rfl, Nat.le_of_ble_eq_true rfl⟩ rfl rfl rfl hl.1 rfl (Nat.le_of_ble_eq_true rfl) dL_law_621 ⟨Nat.le_of_ble_eq_true rfl, Nat.le_of_ble_eq_true rfl⟩ (fun r26 σ25 τ25 H locs h25 hP hS => ?_)
     obtain ⟨rfl, f27, f28, I29, p30, p31, h25⟩ := h25
     refine lv_pop hx hb dL_law_624 rfl ?_
     refine lv_goto (tgt := 1357) hx hb dL_law_625 (of_decide_eq_true rfl) ?_
     obtain ⟨x33, ex33⟩ : ∃ y : Int32, y = x0 + 6 := ⟨_, rfl⟩
     exact by
      have tx33 : x33.toInt = x0.toInt + 6 := (jadd ex33 rfl jz_6 (by omega) (by omega)).trans (by omega)
      refine lv_iinc (v := x33) (lv' := [(3, .int x33), (2, .ref (ad 55)), (1, .ref (ad 0)), (0, .ref b)]) hx hb dL_law_1357 hl (k := 0) rfl (by rw [ex33]; rfl) (of_decide_eq_true rfl) rfl (fun ls hl => ?_)
      refine lv_goto (tgt := 18) hx hb dL_law_1360 (of_decide_eq_true rfl) ?_
      have I34 : jI2 σ25 := jI2_fr ((congrFun (f27 2 (of_decide_eq_true rfl)) 0).trans (congrFun (f11 2 (of_decide_eq_true rfl)) 0)) ((congrFun (f27 2 (of_decide_eq_true rfl)) 1).trans (congrFun (f11 2 (of_decide_eq_true rfl)) 1)) ((congrFun (f27 2 (of_decide_eq_true rfl)) 2).trans (congrFun (f11 2 (of_decide_eq_true rfl)) 2)) ((congrFun (f27 2 (of_decide_eq_true rfl)) 3).trans (congrFun (f11 2 (of_decide_eq_true rfl)) 3)) ((f27 6 (of_decide_eq_true rfl)).trans (f11 6 (of_decide_eq_true rfl))) hI2
      have I35 : jI9 σ25 := jI9_fr ((congrFun (f27 9 (of_decide_eq_true rfl)) 0).trans (congrFun (f11 9 (of_decide_eq_true rfl)) 0)) ((f27 10 (of_decide_eq_true rfl)).trans (f11 10 (of_decide_eq_true rfl))) ((f27 11 (of_decide_eq_true rfl)).trans (f11 11 (of_decide_eq_true rfl))) hI9
      have I36 : jI12 σ25 := jI12_fr ((congrFun (f27 12 (of_decide_eq_true rfl)) 0).trans (congrFun (f11 12 (of_decide_eq_true rfl)) 0)) ((f27 13 (of_decide_eq_true rfl)).trans (f11 13 (of_decide_eq_true rfl))) hI12
      have I37 : jI16 σ25 := jI16_fr ((congrFun (f27 16 (of_decide_eq_true rfl)) 0).trans (congrFun (f11 16 (of_decide_eq_true rfl)) 0)) ((congrFun (f27 16 (of_decide_eq_true rfl)) 1).trans (congrFun (f11 16 (of_decide_eq_true rfl)) 1)) ((congrFun (f27 16 (of_decide_eq_true rfl)) 2).trans (congrFun (f11 16 (of_decide_eq_true rfl)) 2)) ((f27 17 (of_decide_eq_true rfl)).trans (f11 17 (of_decide_eq_true rfl))) hI16
      have I38 : jI18 σ25 := jI18_fr ((congrFun (f27 18 (of_decide_eq_true rfl)) 0).trans (congrFun (f11 18 (of_decide_eq_true rfl)) 0)) ((f27 19 (of_decide_eq_true rfl)).trans (f11 19 (of_decide_eq_true rfl))) hI18
      have I39 : jI22 σ25 := jI22_fr ((congrFun (f27 22 (of_decide_eq_true rfl)) 0).trans (congrFun (f11 22 (of_decide_eq_true rfl)) 0)) ((f27 23 (of_decide_eq_true rfl)).trans (f11 23 (of_decide_eq_true rfl))) hI22
      exact by
       have I40 : jI31 σ25 := jI31_fr (congrFun (f27 31 (of_decide_eq_true rfl)) 8) (f27 33 (of_decide_eq_true rfl)) (f27 36 (of_decide_eq_true rfl)) I13
       have I41 : jI38 σ25 := jI38_fr ((congrFun (f27 38 (of_decide_eq_true rfl)) 0).trans (congrFun (f11 38 (of_decide_eq_true rfl)) 0)) ((congrFun (f27 38 (of_decide_eq_true rfl)) 1).trans (congrFun (f11 38 (of_decide_eq_true rfl)) 1)) ((f27 39 (of_decide_eq_true rfl)).trans (f11 39 (of_decide_eq_true rfl))) hI38
       have I42 : jI43 σ25 := jI43_fr ((congrFun (f27 43 (of_decide_eq_true rfl)) 8).trans (congrFun (f11 43 (of_decide_eq_true rfl)) 8)) hI43
       have I43 : jI47 σ25 := jI47_fr ((congrFun (f27 47 (of_decide_eq_true rfl)) 0).trans (congrFun (f11 47 (of_decide_eq_true rfl)) 0)) ((f27 48 (of_decide_eq_true rfl)).trans (f11 48 (of_decide_eq_true rfl))) ((f27 49 (of_decide_eq_true rfl)).trans (f11 49 (of_decide_eq_true rfl))) hI47
       have I44 : jI50 σ25 := jI50_fr ((f27 52 (of_decide_eq_true rfl)).trans (f11 52 (of_decide_eq_true rfl))) hI50
       have I45 : jI101 σ25 := jI101_fr (f28 4 (of_decide_eq_true rfl)) (f28 5 (of_decide_eq_true rfl)) (f27 56 (of_decide_eq_true rfl)) (f27 57 (of_decide_eq_true rfl)) (f27 58 (of_decide_eq_true rfl)) (f27 59 (of_decide_eq_true rfl)) I15
       have I46 : jI102 σ25 := jI102_fr (f28 6 (of_decide_eq_true rfl)) (f27 60 (of_decide_eq_true rfl)) (f27 61 (of_decide_eq_true rfl)) I16
       have I47 : jI103 σ25 := jI103_fr (f28 9 (of_decide_eq_true rfl)) I17
       have I48 : jI104 σ25 := jI104_fr (f28 10 (of_decide_eq_true rfl)) (f28 12 (of_decide_eq_true rfl)) (f28 13 (of_decide_eq_true rfl)) (f27 62 (of_decide_eq_true rfl)) (f27 67 (of_decide_eq_true rfl)) I18
       have I49 : jI105 σ25 := jI105_fr (f28 15 (of_decide_eq_true rfl)) (f27 65 (of_decide_eq_true rfl)) I19
       have I50 : jI106 σ25 := jI106_fr (f28 32 (of_decide_eq_true rfl)) (f27 70 (of_decide_eq_true rfl)) (f27 71 (of_decide_eq_true rfl)) (f27 72 (of_decide_eq_true rfl)) I20
       have I51 : jI107 σ25 := jI107_fr (f28 12 (of_decide_eq_true rfl)) (f28 47 (of_decide_eq_true rfl)) (f27 80 (of_decide_eq_true rfl)) I21
       have I52 : jI109 σ25 := jI109_fr ((f28 50 (of_decide_eq_true rfl)).trans (congrFun (f11 55 (of_decide_eq_true rfl)) 50)) hI109
       have I53 : jI110 σ25 := jI110_fr ((f27 86 (of_decide_eq_true rfl)).trans (f11 86 (of_decide_eq_true rfl))) ((f27 87 (of_decide_eq_true rfl)).trans (f11 87 (of_decide_eq_true rfl))) hI110
       have I54 : jI111 σ25 := jI111_fr ((f27 79 (of_decide_eq_true rfl)).trans (f11 79 (of_decide_eq_true rfl))) hI111
       have z55 : (σ25 9 0).toInt = (σ 9 0).toInt := (congrArg Int32.toInt (show σ25 9 0 = (σ 9 0) from ((congrFun (f27 9 (of_decide_eq_true rfl)) 0).trans (congrFun (f11 9 (of_decide_eq_true rfl)) 0))))
       have z56 : (σ25 55 15).toInt = (σ 55 15).toInt := (congrArg Int32.toInt (show σ25 55 15 = (σ 55 15) from ((f28 15 (of_decide_eq_true rfl)).trans (congrFun (f11 55 (of_decide_eq_true rfl)) 15))))
       exact by exact ih x33 σ25 τ _ _ ls (by have h9 := tx33; omega) ⟨I34, I35, I36, I37, I38, I39, I40, I41, I42, I43, I44, I45, I46, I47, I48, I49, I50, I51, I52, I53, I54, I29, p30, p31, (by omega), (show jTp (σ25 10) (σ25 63) (σ25 55 15).toInt by rw [show σ25 10 = σ 10 from ((f27 10 (of_decide_eq_true rfl)).trans (f11 10 (of_decide_eq_true rfl))), show σ25 63 = σ 63 from ((f27 63 (of_decide_eq_true rfl)).trans (f11 63 (of_decide_eq_true rfl)))]; exact hr0.le (by omega))⟩ hP hS (lv_sub hl [0, 1, 2, 3] rfl)
set_option maxHeartbeats 4000000 in
set_option maxRecDepth 100000 in
theorem law_case_14 {p : Program} {e : Env} {s : State} {m : MethodId} {below : List Frame} {meth : Method} {c : Code} (l : Launch) {b L : Nat} {xs : Nat → Int32} {D : va_G} {cI cL : ClassId} {ad zz : Nat → Nat} (C0 : lw_At p s m meth c b L xs) (hJ : jD ad) (hA : ∀ q, jA ad q → s.heap.size ≤ q) (hK : jK D cI cL s) (hZ : jZ zz (fun q : Nat => s.heap.size ≤ q) s s.heap) {x0 : Int32} (hx0 : 0 ≤ x0.toInt) (hxL : x0.toInt + 6 ≤ (L : Int)) (hL : L ≤ 384) {σ : Nat → Nat → Int32} {τ : Nat → Nat → Int64} {H : Heap} {locs : List Loc} (hS : va_S (fun q : Nat => s.heap.size ≤ q) s.heap H locs) {ls : Array Slot} (hAll : jAll σ τ) (hP : jH D cI cL ad σ τ H) (hl : lv_has ls 4 [(3, .int x0), (2, .ref (ad 55)), (1, .ref (ad 0)), (0, .ref b)]) (ih : ∀ (x1 : Int32) (σ : Nat → Nat → Int32) (τ : Nat → Nat → Int64) (H : Heap) (locs : List Loc) (ls : Array Slot), x1.toInt = x0.toInt + 6 → jAll σ τ → jH D cI cL ad σ τ H → va_S (fun q : Nat => s.heap.size ≤ q) s.heap H locs → lv_has ls 4 [(3, .int x1), (2, .ref (ad 55)), (1, .ref (ad 0)), (0, .ref b)] → W p l e room_1 s m #[Value.ref b] below meth c H locs 90 348600 (lw_Z below #[Value.ref b] s) (F0 m 18 ls [])) : W p l e room_1 s m #[Value.ref b] below meth c H locs 90 348600 (lw_Z below #[Value.ref b] s) (F0 m 628 ls []) := by
  obtain ⟨hx, hb, hr, hml, hown, hts0, hX, hbl, hlocks, hgv⟩ := C0
  have hts : ∀ w ∈ wsL_law, w.before #[Value.ref b] s = true := fun w h => hts0 w (wsL_law_in w h)
  have hbA : ¬ (fun q : Nat => s.heap.size ≤ q) b := Nat.not_le.mpr hbl
  have hown : s.vm.findClass RL = some m.cls := hown
  obtain ⟨hI2, hI9, hI12, hI16, hI18, hI22, hI31, hI38, hI43, hI47, hI50, hI101, hI102, hI103, hI104, hI105, hI106, hI107, hI109, hI110, hI111, hI119, hs_jKept, hs_jBook, ht0, hr0⟩ := hAll
  have hL9 : (L : Int) ≤ 384 := by omega
  obtain ⟨i1, w2, w3⟩ : (0 ≤ (σ 9 0).toInt ∧ (σ 9 0).toInt ≤ 80) ∧ (∀ k : Nat, k < 80 → 0 ≤ (σ 10 k).toInt ∧ (σ 10 k).toInt ≤ 255) ∧ (∀ k : Nat, k < 8 → 0 ≤ (σ 11 k).toInt ∧ (σ 11 k).toInt ≤ 3) := id hI9
  obtain ⟨i4, w5⟩ : (0 ≤ (σ 55 15).toInt ∧ (σ 55 15).toInt ≤ 80) ∧ (∀ k : Nat, k < 2 → (-1) ≤ (σ 65 k).toInt ∧ (σ 65 k).toInt ≤ 80) := id hI105
  refine lv_aload_n hx hb dL_law_628 rfl (lv_at hl 2 rfl) ?_
  refine lv_aload_n hx hb dL_law_629 rfl (lv_at hl 3 rfl) ?_
  refine lv_iload_n hx hb dL_law_630 rfl (lv_at hl 0 rfl) ?_
  refine lv_iconst (v := 1) hx hb dL_law_631 (of_decide_eq_true rfl) ?_
  have g6 := jrg (rfl : x0.toInt = x0.toInt)
  refine lv_iadd hx hb dL_law_632 ?_
  refine lv_topi (fun x7 ex7 => ?_)
  exact by
   have tx7 : x7.toInt = x0.toInt + 1 := (jadd ex7 rfl jz_1 (by omega) (by omega)).trans (by omega)
   refine va_sld hx hb hX hbl hbA hS (jin tx7 (by omega) (by omega)) dL_law_633 ?_
   have g8 := jrg (rfl : (xs x7.toNatClampNeg).toInt = (xs x7.toNatClampNeg).toInt)
   refine lv_aload_n hx hb dL_law_634 rfl (lv_at hl 3 rfl) ?_
   refine lv_iload_n hx hb dL_law_635 rfl (lv_at hl 0 rfl) ?_
   refine lv_iconst (v := 2) hx hb dL_law_636 (of_decide_eq_true rfl) ?_
   refine lv_iadd hx hb dL_law_637 ?_
   refine lv_topi (fun x9 ex9 => ?_)
   have tx9 : x9.toInt = x0.toInt + 2 := (jadd ex9 rfl jz_2 (by omega) (by omega)).trans (by omega)
   exact by
    refine va_sld hx hb hX hbl hbA hS (jin tx9 (by omega) (by omega)) dL_law_638 ?_
    have g10 := jrg (rfl : (xs x9.toNatClampNeg).toInt = (xs x9.toNatClampNeg).toInt)
    refine jcallV (As := [.int (xs x7.toNatClampNeg), .int (xs x9.toNatClampNeg)]) (rest := []) ⟨hx, hb, hml, hown, hts⟩ hK hP hA hS hZ (c_X11_worth l D cI cL ad zz hJ σ τ (xs x7.toNatClampNeg) ((xs x7.toNatClampNeg).toInt) rfl (xs x9.toNatClampNeg) ((xs x9.toNatClampNeg).toInt) rfl hI2 hI16 hI22 hI31) cw_RL_73 (jc_0 cI cL ad σ τ) rfl ⟨Nat.le_of_ble_eq_true rfl, Nat.le_of_ble_eq_true rfl⟩ rfl rfl rfl hl.1 rfl (Nat.le_of_ble_eq_true rfl) dL_law_639 ⟨Nat.le_of_ble_eq_true rfl, Nat.le_of_ble_eq_true rfl⟩ (fun r12 σ11 τ11 H locs h11 hP hS => ?_)
    obtain ⟨rfl, f13, f14, I15, h11⟩ := h11
    refine lv_pop hx hb dL_law_642 rfl ?_
    refine lv_aload_n hx hb dL_law_643 rfl (lv_at hl 1 rfl) ?_
    refine lv_aload_n hx hb dL_law_644 rfl (lv_at hl 3 rfl) ?_
    refine lv_iload_n hx hb dL_law_645 rfl (lv_at hl 0 rfl) ?_
    refine lv_iconst (v := 1) hx hb dL_law_646 (of_decide_eq_true rfl) ?_
    refine lv_iadd hx hb dL_law_647 ?_
    refine jtopr ex7.symm ?_
    exact by
     refine va_sld hx hb hX hbl hbA hS (jin tx7 (by omega) (by omega)) dL_law_648 ?_
     refine lv_aload_n hx hb dL_law_649 rfl (lv_at hl 3 rfl) ?_
     refine lv_iload_n hx hb dL_law_650 rfl (lv_at hl 0 rfl) ?_
     refine lv_iconst (v := 2) hx hb dL_law_651 (of_decide_eq_true rfl) ?_
     refine lv_iadd hx hb dL_law_652 ?_
     refine jtopr ex9.symm ?_
     refine va_sld hx hb hX hbl hbA hS (jin tx9 (by omega) (by omega)) dL_law_653 ?_
     have I17 : jI101 σ11 := jI101_fr (congrFun (f13 55 (of_decide_eq_true rfl)) 4) (congrFun (f13 55 (of_decide_eq_true rfl)) 5) (f13 56 (of_decide_eq_true rfl)) (f13 57 (of_decide_eq_true rfl)) (f13 58 (of_decide_eq_true rfl)) (f13 59 (of_decide_eq_true rfl)) hI101
     have I18 : jI102 σ11 := jI102_fr (congrFun (f13 55 (of_decide_eq_true rfl)) 6) (f13 60 (of_decide_eq_true rfl)) (f13 61 (of_decide_eq_true rfl)) hI102
     exact by
      have I19 : jI103 σ11 := jI103_fr (congrFun (f13 55 (of_decide_eq_true rfl)) 9) hI103
      have I20 : jI104 σ11 := jI104_fr (congrFun (f13 55 (of_decide_eq_true rfl)) 10) (congrFun (f13 55 (of_decide_eq_true rfl)) 12) (congrFun (f13 55 (of_decide_eq_true rfl)) 13) (f13 62 (of_decide_eq_true rfl)) (f13 67 (of_decide_eq_true rfl)) hI104
      have I21 : jI105 σ11 := jI105_fr (congrFun (f13 55 (of_decide_eq_true rfl)) 15) (f13 65 (of_decide_eq_true rfl)) hI105
      have I22 : jI106 σ11 := jI106_fr (congrFun (f13 55 (of_decide_eq_true rfl)) 32) (f13 70 (of_decide_eq_true rfl)) (f13 71 (of_decide_eq_true rfl)) (f13 72 (of_decide_eq_true rfl)) hI106
      have I23 : jI119 σ11 := jI119_fr (f13 68 (of_decide_eq_true rfl)) hI119
      have p24 : jKept σ11 := jKept.fr (f13 75 (of_decide_eq_true rfl)) (f13 76 (of_decide_eq_true rfl)) (f13 77 (of_decide_eq_true rfl)) hs_jKept
      have z25 : (σ11 55 30).toInt = (σ 55 30).toInt := (congrArg Int32.toInt (show σ11 55 30 = (σ 55 30) from (congrFun (f13 55 (of_decide_eq_true rfl)) 30)))
      have z26 : (σ11 55 31).toInt = (σ 55 31).toInt := (congrArg Int32.toInt (show σ11 55 31 = (σ 55 31) from (congrFun (f13 55 (of_decide_eq_true rfl)) 31)))
      refine jcallV (As := [.int (xs x7.toNatClampNeg), .int (xs x9.toNatClampNeg)]) (rest := []) ⟨hx, hb, hml, hown, hts⟩ hK hP hA hS hZ (c_X12_worth l D cI cL ad zz hJ σ11 τ (xs x7.toNatClampNeg) ((xs x7.toNatClampNeg).toInt) rfl (xs x9.toNatClampNeg) ((xs x9.toNatClampNeg).toInt) rfl I17 I18 I19 I20 I21 I22 I23 p24) cw_RL_76 (jc_55 cI cL ad σ11 τ) rfl ⟨Nat.le_of_ble_eq_true rfl, Nat.le_of_ble_eq_true rfl⟩ rfl rfl rfl hl.1 rfl (Nat.le_of_ble_eq_true rfl) dL_law_654 ⟨Nat.le_of_ble_eq_true rfl, Nat.le_of_ble_eq_true rfl⟩ (fun r28 σ27 τ27 H locs h27 hP hS => ?_)
      obtain ⟨rfl, f29, f30, I31, p32, h27⟩ := h27
      obtain ⟨k34, h27⟩ := h27
      refine lv_pop hx hb dL_law_657 rfl ?_
      refine lv_goto (tgt := 1357) hx hb dL_law_658 (of_decide_eq_true rfl) ?_
      obtain ⟨x35, ex35⟩ : ∃ y : Int32, y = x0 + 6 := ⟨_, rfl⟩
      exact by
       have tx35 : x35.toInt = x0.toInt + 6 := (jadd ex35 rfl jz_6 (by omega) (by omega)).trans (by omega)
       refine lv_iinc (v := x35) (lv' := [(3, .int x35), (2, .ref (ad 55)), (1, .ref (ad 0)), (0, .ref b)]) hx hb dL_law_1357 hl (k := 0) rfl (by rw [ex35]; rfl) (of_decide_eq_true rfl) rfl (fun ls hl => ?_)
       refine lv_goto (tgt := 18) hx hb dL_law_1360 (of_decide_eq_true rfl) ?_
       have I36 : jI2 σ27 := jI2_fr ((congrFun (f29 2 (of_decide_eq_true rfl)) 0).trans (congrFun (f13 2 (of_decide_eq_true rfl)) 0)) ((congrFun (f29 2 (of_decide_eq_true rfl)) 1).trans (congrFun (f13 2 (of_decide_eq_true rfl)) 1)) ((congrFun (f29 2 (of_decide_eq_true rfl)) 2).trans (congrFun (f13 2 (of_decide_eq_true rfl)) 2)) ((congrFun (f29 2 (of_decide_eq_true rfl)) 3).trans (congrFun (f13 2 (of_decide_eq_true rfl)) 3)) ((f29 6 (of_decide_eq_true rfl)).trans (f13 6 (of_decide_eq_true rfl))) hI2
       have I37 : jI9 σ27 := jI9_fr ((congrFun (f29 9 (of_decide_eq_true rfl)) 0).trans (congrFun (f13 9 (of_decide_eq_true rfl)) 0)) ((f29 10 (of_decide_eq_true rfl)).trans (f13 10 (of_decide_eq_true rfl))) ((f29 11 (of_decide_eq_true rfl)).trans (f13 11 (of_decide_eq_true rfl))) hI9
       have I38 : jI12 σ27 := jI12_fr ((congrFun (f29 12 (of_decide_eq_true rfl)) 0).trans (congrFun (f13 12 (of_decide_eq_true rfl)) 0)) ((f29 13 (of_decide_eq_true rfl)).trans (f13 13 (of_decide_eq_true rfl))) hI12
       have I39 : jI16 σ27 := jI16_fr ((congrFun (f29 16 (of_decide_eq_true rfl)) 0).trans (congrFun (f13 16 (of_decide_eq_true rfl)) 0)) ((congrFun (f29 16 (of_decide_eq_true rfl)) 1).trans (congrFun (f13 16 (of_decide_eq_true rfl)) 1)) ((congrFun (f29 16 (of_decide_eq_true rfl)) 2).trans (congrFun (f13 16 (of_decide_eq_true rfl)) 2)) ((f29 17 (of_decide_eq_true rfl)).trans (f13 17 (of_decide_eq_true rfl))) hI16
       have I40 : jI18 σ27 := jI18_fr ((congrFun (f29 18 (of_decide_eq_true rfl)) 0).trans (congrFun (f13 18 (of_decide_eq_true rfl)) 0)) ((f29 19 (of_decide_eq_true rfl)).trans (f13 19 (of_decide_eq_true rfl))) hI18
       have I41 : jI22 σ27 := jI22_fr ((congrFun (f29 22 (of_decide_eq_true rfl)) 0).trans (congrFun (f13 22 (of_decide_eq_true rfl)) 0)) ((f29 23 (of_decide_eq_true rfl)).trans (f13 23 (of_decide_eq_true rfl))) hI22
       exact by
        have I42 : jI31 σ27 := jI31_fr (congrFun (f29 31 (of_decide_eq_true rfl)) 8) (f29 33 (of_decide_eq_true rfl)) (f29 36 (of_decide_eq_true rfl)) I15
        have I43 : jI38 σ27 := jI38_fr ((congrFun (f29 38 (of_decide_eq_true rfl)) 0).trans (congrFun (f13 38 (of_decide_eq_true rfl)) 0)) ((congrFun (f29 38 (of_decide_eq_true rfl)) 1).trans (congrFun (f13 38 (of_decide_eq_true rfl)) 1)) ((f29 39 (of_decide_eq_true rfl)).trans (f13 39 (of_decide_eq_true rfl))) hI38
        have I44 : jI43 σ27 := jI43_fr ((congrFun (f29 43 (of_decide_eq_true rfl)) 8).trans (congrFun (f13 43 (of_decide_eq_true rfl)) 8)) hI43
        have I45 : jI47 σ27 := jI47_fr ((congrFun (f29 47 (of_decide_eq_true rfl)) 0).trans (congrFun (f13 47 (of_decide_eq_true rfl)) 0)) ((f29 48 (of_decide_eq_true rfl)).trans (f13 48 (of_decide_eq_true rfl))) ((f29 49 (of_decide_eq_true rfl)).trans (f13 49 (of_decide_eq_true rfl))) hI47
        have I46 : jI50 σ27 := jI50_fr ((f29 52 (of_decide_eq_true rfl)).trans (f13 52 (of_decide_eq_true rfl))) hI50
        have I47 : jI101 σ27 := jI101_fr (f30 4 (of_decide_eq_true rfl)) (f30 5 (of_decide_eq_true rfl)) (f29 56 (of_decide_eq_true rfl)) (f29 57 (of_decide_eq_true rfl)) (f29 58 (of_decide_eq_true rfl)) (f29 59 (of_decide_eq_true rfl)) I17
        have I48 : jI102 σ27 := jI102_fr (f30 6 (of_decide_eq_true rfl)) (f29 60 (of_decide_eq_true rfl)) (f29 61 (of_decide_eq_true rfl)) I18
        have I49 : jI103 σ27 := jI103_fr (f30 9 (of_decide_eq_true rfl)) I19
        have I50 : jI104 σ27 := jI104_fr (f30 10 (of_decide_eq_true rfl)) (f30 12 (of_decide_eq_true rfl)) (f30 13 (of_decide_eq_true rfl)) (f29 62 (of_decide_eq_true rfl)) (f29 67 (of_decide_eq_true rfl)) I20
        have I51 : jI105 σ27 := jI105_fr (f30 15 (of_decide_eq_true rfl)) (f29 65 (of_decide_eq_true rfl)) I21
        have I52 : jI106 σ27 := jI106_fr (f30 32 (of_decide_eq_true rfl)) (f29 70 (of_decide_eq_true rfl)) (f29 71 (of_decide_eq_true rfl)) (f29 72 (of_decide_eq_true rfl)) I22
        have I53 : jI107 σ27 := jI107_fr ((f30 12 (of_decide_eq_true rfl)).trans (congrFun (f13 55 (of_decide_eq_true rfl)) 12)) ((f30 47 (of_decide_eq_true rfl)).trans (congrFun (f13 55 (of_decide_eq_true rfl)) 47)) ((f29 80 (of_decide_eq_true rfl)).trans (f13 80 (of_decide_eq_true rfl))) hI107
        have I54 : jI109 σ27 := jI109_fr ((f30 50 (of_decide_eq_true rfl)).trans (congrFun (f13 55 (of_decide_eq_true rfl)) 50)) hI109
        have I55 : jI110 σ27 := jI110_fr ((f29 86 (of_decide_eq_true rfl)).trans (f13 86 (of_decide_eq_true rfl))) ((f29 87 (of_decide_eq_true rfl)).trans (f13 87 (of_decide_eq_true rfl))) hI110
        have I56 : jI111 σ27 := jI111_fr ((f29 79 (of_decide_eq_true rfl)).trans (f13 79 (of_decide_eq_true rfl))) hI111
        have p57 : jBook σ27 := jBook.fr ((f30 47 (of_decide_eq_true rfl)).trans (congrFun (f13 55 (of_decide_eq_true rfl)) 47)) ((f30 10 (of_decide_eq_true rfl)).trans (congrFun (f13 55 (of_decide_eq_true rfl)) 10)) ((f29 81 (of_decide_eq_true rfl)).trans (f13 81 (of_decide_eq_true rfl))) hs_jBook
        have z58 : (σ27 9 0).toInt = (σ 9 0).toInt := (congrArg Int32.toInt (show σ27 9 0 = (σ 9 0) from ((congrFun (f29 9 (of_decide_eq_true rfl)) 0).trans (congrFun (f13 9 (of_decide_eq_true rfl)) 0))))
        have z59 : (σ27 55 15).toInt = (σ 55 15).toInt := (congrArg Int32.toInt (show σ27 55 15 = (σ 55 15) from ((f30 15 (of_decide_eq_true rfl)).trans (congrFun (f13 55 (of_decide_eq_true rfl)) 15))))
        exact by exact ih x35 σ27 τ _ _ ls (by have h9 := tx35; omega) ⟨I36, I37, I38, I39, I40, I41, I42, I43, I44, I45, I46, I47, I48, I49, I50, I51, I52, I53, I54, I55, I56, I31, p32, p57, (by omega), (show jTp (σ27 10) (σ27 63) (σ27 55 15).toInt by rw [show σ27 10 = σ 10 from ((f29 10 (of_decide_eq_true rfl)).trans (f13 10 (of_decide_eq_true rfl))), show σ27 63 = σ 63 from ((f29 63 (of_decide_eq_true rfl)).trans (f13 63 (of_decide_eq_true rfl)))]; exact hr0.le (by omega))⟩ hP hS (lv_sub hl [0, 1, 2, 3] rfl)
set_option maxHeartbeats 4000000 in
set_option maxRecDepth 100000 in
theorem law_case_15 {p : Program} {e : Env} {s : State} {m : MethodId} {below : List Frame} {meth : Method} {c : Code} (l : Launch) {b L : Nat} {xs : Nat → Int32} {D : va_G} {cI cL : ClassId} {ad zz : Nat → Nat} (C0 : lw_At p s m meth c b L xs) (hJ : jD ad) (hA : ∀ q, jA ad q → s.heap.size ≤ q) (hK : jK D cI cL s) (hZ : jZ zz (fun q : Nat => s.heap.size ≤ q) s s.heap) {x0 : Int32} (hx0 : 0 ≤ x0.toInt) (hxL : x0.toInt + 6 ≤ (L : Int)) (hL : L ≤ 384) {σ : Nat → Nat → Int32} {τ : Nat → Nat → Int64} {H : Heap} {locs : List Loc} (hS : va_S (fun q : Nat => s.heap.size ≤ q) s.heap H locs) {ls : Array Slot} (hAll : jAll σ τ) (hP : jH D cI cL ad σ τ H) (hl : lv_has ls 4 [(3, .int x0), (2, .ref (ad 55)), (1, .ref (ad 0)), (0, .ref b)]) (ih : ∀ (x1 : Int32) (σ : Nat → Nat → Int32) (τ : Nat → Nat → Int64) (H : Heap) (locs : List Loc) (ls : Array Slot), x1.toInt = x0.toInt + 6 → jAll σ τ → jH D cI cL ad σ τ H → va_S (fun q : Nat => s.heap.size ≤ q) s.heap H locs → lv_has ls 4 [(3, .int x1), (2, .ref (ad 55)), (1, .ref (ad 0)), (0, .ref b)] → W p l e room_1 s m #[Value.ref b] below meth c H locs 90 348600 (lw_Z below #[Value.ref b] s) (F0 m 18 ls [])) : W p l e room_1 s m #[Value.ref b] below meth c H locs 90 348600 (lw_Z below #[Value.ref b] s) (F0 m 661 ls []) := by
  obtain ⟨hx, hb, hr, hml, hown, hts0, hX, hbl, hlocks, hgv⟩ := C0
  have hts : ∀ w ∈ wsL_law, w.before #[Value.ref b] s = true := fun w h => hts0 w (wsL_law_in w h)
  have hbA : ¬ (fun q : Nat => s.heap.size ≤ q) b := Nat.not_le.mpr hbl
  have hown : s.vm.findClass RL = some m.cls := hown
  obtain ⟨hI2, hI9, hI12, hI16, hI18, hI22, hI31, hI38, hI43, hI47, hI50, hI101, hI102, hI103, hI104, hI105, hI106, hI107, hI109, hI110, hI111, hI119, hs_jKept, hs_jBook, ht0, hr0⟩ := hAll
  have hL9 : (L : Int) ≤ 384 := by omega
  obtain ⟨i1, w2, w3⟩ : (0 ≤ (σ 9 0).toInt ∧ (σ 9 0).toInt ≤ 80) ∧ (∀ k : Nat, k < 80 → 0 ≤ (σ 10 k).toInt ∧ (σ 10 k).toInt ≤ 255) ∧ (∀ k : Nat, k < 8 → 0 ≤ (σ 11 k).toInt ∧ (σ 11 k).toInt ≤ 3) := id hI9
  obtain ⟨i4, w5⟩ : (0 ≤ (σ 55 15).toInt ∧ (σ 55 15).toInt ≤ 80) ∧ (∀ k : Nat, k < 2 → (-1) ≤ (σ 65 k).toInt ∧ (σ 65 k).toInt ≤ 80) := id hI105
  refine lv_aload_n hx hb dL_law_661 rfl (lv_at hl 2 rfl) ?_
  refine lv_aload_n hx hb dL_law_662 rfl (lv_at hl 3 rfl) ?_
  refine lv_iload_n hx hb dL_law_663 rfl (lv_at hl 0 rfl) ?_
  refine lv_iconst (v := 1) hx hb dL_law_664 (of_decide_eq_true rfl) ?_
  have g6 := jrg (rfl : x0.toInt = x0.toInt)
  refine lv_iadd hx hb dL_law_665 ?_
  refine lv_topi (fun x7 ex7 => ?_)
  exact by
   have tx7 : x7.toInt = x0.toInt + 1 := (jadd ex7 rfl jz_1 (by omega) (by omega)).trans (by omega)
   refine va_sld hx hb hX hbl hbA hS (jin tx7 (by omega) (by omega)) dL_law_666 ?_
   have g8 := jrg (rfl : (xs x7.toNatClampNeg).toInt = (xs x7.toNatClampNeg).toInt)
   refine lv_aload_n hx hb dL_law_667 rfl (lv_at hl 3 rfl) ?_
   refine lv_iload_n hx hb dL_law_668 rfl (lv_at hl 0 rfl) ?_
   refine lv_iconst (v := 2) hx hb dL_law_669 (of_decide_eq_true rfl) ?_
   refine lv_iadd hx hb dL_law_670 ?_
   refine lv_topi (fun x9 ex9 => ?_)
   have tx9 : x9.toInt = x0.toInt + 2 := (jadd ex9 rfl jz_2 (by omega) (by omega)).trans (by omega)
   exact by
    refine va_sld hx hb hX hbl hbA hS (jin tx9 (by omega) (by omega)) dL_law_671 ?_
    have g10 := jrg (rfl : (xs x9.toNatClampNeg).toInt = (xs x9.toNatClampNeg).toInt)
    refine jcallV (As := [.int (xs x7.toNatClampNeg), .int (xs x9.toNatClampNeg)]) (rest := []) ⟨hx, hb, hml, hown, hts⟩ hK hP hA hS hZ (c_X11_fielded l D cI cL ad zz hJ σ τ (xs x7.toNatClampNeg) ((xs x7.toNatClampNeg).toInt) rfl (xs x9.toNatClampNeg) ((xs x9.toNatClampNeg).toInt) rfl hI2 hI16 hI22 hI31) cw_RL_77 (jc_0 cI cL ad σ τ) rfl ⟨Nat.le_of_ble_eq_true rfl, Nat.le_of_ble_eq_true rfl⟩ rfl rfl rfl hl.1 rfl (Nat.le_of_ble_eq_true rfl) dL_law_672 ⟨Nat.le_of_ble_eq_true rfl, Nat.le_of_ble_eq_true rfl⟩ (fun r12 σ11 τ11 H locs h11 hP hS => ?_)
    obtain ⟨rfl, f13, f14, I15, h11⟩ := h11
    refine lv_pop hx hb dL_law_675 rfl ?_
    refine lv_aload_n hx hb dL_law_676 rfl (lv_at hl 1 rfl) ?_
    refine lv_aload_n hx hb dL_law_677 rfl (lv_at hl 3 rfl) ?_
    refine lv_iload_n hx hb dL_law_678 rfl (lv_at hl 0 rfl) ?_
    refine lv_iconst (v := 1) hx hb dL_law_679 (of_decide_eq_true rfl) ?_
    refine lv_iadd hx hb dL_law_680 ?_
    refine jtopr ex7.symm ?_
    exact by
     refine va_sld hx hb hX hbl hbA hS (jin tx7 (by omega) (by omega)) dL_law_681 ?_
     refine lv_aload_n hx hb dL_law_682 rfl (lv_at hl 3 rfl) ?_
     refine lv_iload_n hx hb dL_law_683 rfl (lv_at hl 0 rfl) ?_
     refine lv_iconst (v := 2) hx hb dL_law_684 (of_decide_eq_true rfl) ?_
     refine lv_iadd hx hb dL_law_685 ?_
     refine jtopr ex9.symm ?_
     refine va_sld hx hb hX hbl hbA hS (jin tx9 (by omega) (by omega)) dL_law_686 ?_
     have I17 : jI101 σ11 := jI101_fr (congrFun (f13 55 (of_decide_eq_true rfl)) 4) (congrFun (f13 55 (of_decide_eq_true rfl)) 5) (f13 56 (of_decide_eq_true rfl)) (f13 57 (of_decide_eq_true rfl)) (f13 58 (of_decide_eq_true rfl)) (f13 59 (of_decide_eq_true rfl)) hI101
     have I18 : jI102 σ11 := jI102_fr (congrFun (f13 55 (of_decide_eq_true rfl)) 6) (f13 60 (of_decide_eq_true rfl)) (f13 61 (of_decide_eq_true rfl)) hI102
     exact by
      have I19 : jI103 σ11 := jI103_fr (congrFun (f13 55 (of_decide_eq_true rfl)) 9) hI103
      have I20 : jI104 σ11 := jI104_fr (congrFun (f13 55 (of_decide_eq_true rfl)) 10) (congrFun (f13 55 (of_decide_eq_true rfl)) 12) (congrFun (f13 55 (of_decide_eq_true rfl)) 13) (f13 62 (of_decide_eq_true rfl)) (f13 67 (of_decide_eq_true rfl)) hI104
      have I21 : jI105 σ11 := jI105_fr (congrFun (f13 55 (of_decide_eq_true rfl)) 15) (f13 65 (of_decide_eq_true rfl)) hI105
      have I22 : jI106 σ11 := jI106_fr (congrFun (f13 55 (of_decide_eq_true rfl)) 32) (f13 70 (of_decide_eq_true rfl)) (f13 71 (of_decide_eq_true rfl)) (f13 72 (of_decide_eq_true rfl)) hI106
      have I23 : jI119 σ11 := jI119_fr (f13 68 (of_decide_eq_true rfl)) hI119
      have p24 : jKept σ11 := jKept.fr (f13 75 (of_decide_eq_true rfl)) (f13 76 (of_decide_eq_true rfl)) (f13 77 (of_decide_eq_true rfl)) hs_jKept
      have z25 : (σ11 55 9).toInt = (σ 55 9).toInt := (congrArg Int32.toInt (show σ11 55 9 = (σ 55 9) from (congrFun (f13 55 (of_decide_eq_true rfl)) 9)))
      refine jcallV (As := [.int (xs x7.toNatClampNeg), .int (xs x9.toNatClampNeg)]) (rest := []) ⟨hx, hb, hml, hown, hts⟩ hK hP hA hS hZ (c_X12_fielded l D cI cL ad zz hJ σ11 τ (xs x7.toNatClampNeg) ((xs x7.toNatClampNeg).toInt) rfl (xs x9.toNatClampNeg) ((xs x9.toNatClampNeg).toInt) rfl I17 I18 I19 I20 I21 I22 I23 p24) cw_RL_80 (jc_55 cI cL ad σ11 τ) rfl ⟨Nat.le_of_ble_eq_true rfl, Nat.le_of_ble_eq_true rfl⟩ rfl rfl rfl hl.1 rfl (Nat.le_of_ble_eq_true rfl) dL_law_687 ⟨Nat.le_of_ble_eq_true rfl, Nat.le_of_ble_eq_true rfl⟩ (fun r27 σ26 τ26 H locs h26 hP hS => ?_)
      obtain ⟨rfl, f28, f29, I30, I31, p32, h26⟩ := h26
      obtain ⟨k34, h26⟩ := h26
      refine lv_pop hx hb dL_law_690 rfl ?_
      refine lv_goto (tgt := 1357) hx hb dL_law_691 (of_decide_eq_true rfl) ?_
      obtain ⟨x35, ex35⟩ : ∃ y : Int32, y = x0 + 6 := ⟨_, rfl⟩
      exact by
       have tx35 : x35.toInt = x0.toInt + 6 := (jadd ex35 rfl jz_6 (by omega) (by omega)).trans (by omega)
       refine lv_iinc (v := x35) (lv' := [(3, .int x35), (2, .ref (ad 55)), (1, .ref (ad 0)), (0, .ref b)]) hx hb dL_law_1357 hl (k := 0) rfl (by rw [ex35]; rfl) (of_decide_eq_true rfl) rfl (fun ls hl => ?_)
       refine lv_goto (tgt := 18) hx hb dL_law_1360 (of_decide_eq_true rfl) ?_
       have I36 : jI2 σ26 := jI2_fr ((congrFun (f28 2 (of_decide_eq_true rfl)) 0).trans (congrFun (f13 2 (of_decide_eq_true rfl)) 0)) ((congrFun (f28 2 (of_decide_eq_true rfl)) 1).trans (congrFun (f13 2 (of_decide_eq_true rfl)) 1)) ((congrFun (f28 2 (of_decide_eq_true rfl)) 2).trans (congrFun (f13 2 (of_decide_eq_true rfl)) 2)) ((congrFun (f28 2 (of_decide_eq_true rfl)) 3).trans (congrFun (f13 2 (of_decide_eq_true rfl)) 3)) ((f28 6 (of_decide_eq_true rfl)).trans (f13 6 (of_decide_eq_true rfl))) hI2
       have I37 : jI9 σ26 := jI9_fr ((congrFun (f28 9 (of_decide_eq_true rfl)) 0).trans (congrFun (f13 9 (of_decide_eq_true rfl)) 0)) ((f28 10 (of_decide_eq_true rfl)).trans (f13 10 (of_decide_eq_true rfl))) ((f28 11 (of_decide_eq_true rfl)).trans (f13 11 (of_decide_eq_true rfl))) hI9
       have I38 : jI12 σ26 := jI12_fr ((congrFun (f28 12 (of_decide_eq_true rfl)) 0).trans (congrFun (f13 12 (of_decide_eq_true rfl)) 0)) ((f28 13 (of_decide_eq_true rfl)).trans (f13 13 (of_decide_eq_true rfl))) hI12
       have I39 : jI16 σ26 := jI16_fr ((congrFun (f28 16 (of_decide_eq_true rfl)) 0).trans (congrFun (f13 16 (of_decide_eq_true rfl)) 0)) ((congrFun (f28 16 (of_decide_eq_true rfl)) 1).trans (congrFun (f13 16 (of_decide_eq_true rfl)) 1)) ((congrFun (f28 16 (of_decide_eq_true rfl)) 2).trans (congrFun (f13 16 (of_decide_eq_true rfl)) 2)) ((f28 17 (of_decide_eq_true rfl)).trans (f13 17 (of_decide_eq_true rfl))) hI16
       have I40 : jI18 σ26 := jI18_fr ((congrFun (f28 18 (of_decide_eq_true rfl)) 0).trans (congrFun (f13 18 (of_decide_eq_true rfl)) 0)) ((f28 19 (of_decide_eq_true rfl)).trans (f13 19 (of_decide_eq_true rfl))) hI18
       have I41 : jI22 σ26 := jI22_fr ((congrFun (f28 22 (of_decide_eq_true rfl)) 0).trans (congrFun (f13 22 (of_decide_eq_true rfl)) 0)) ((f28 23 (of_decide_eq_true rfl)).trans (f13 23 (of_decide_eq_true rfl))) hI22
       exact by
        have I42 : jI31 σ26 := jI31_fr (congrFun (f28 31 (of_decide_eq_true rfl)) 8) (f28 33 (of_decide_eq_true rfl)) (f28 36 (of_decide_eq_true rfl)) I15
        have I43 : jI38 σ26 := jI38_fr ((congrFun (f28 38 (of_decide_eq_true rfl)) 0).trans (congrFun (f13 38 (of_decide_eq_true rfl)) 0)) ((congrFun (f28 38 (of_decide_eq_true rfl)) 1).trans (congrFun (f13 38 (of_decide_eq_true rfl)) 1)) ((f28 39 (of_decide_eq_true rfl)).trans (f13 39 (of_decide_eq_true rfl))) hI38
        have I44 : jI43 σ26 := jI43_fr ((congrFun (f28 43 (of_decide_eq_true rfl)) 8).trans (congrFun (f13 43 (of_decide_eq_true rfl)) 8)) hI43
        have I45 : jI47 σ26 := jI47_fr ((congrFun (f28 47 (of_decide_eq_true rfl)) 0).trans (congrFun (f13 47 (of_decide_eq_true rfl)) 0)) ((f28 48 (of_decide_eq_true rfl)).trans (f13 48 (of_decide_eq_true rfl))) ((f28 49 (of_decide_eq_true rfl)).trans (f13 49 (of_decide_eq_true rfl))) hI47
        have I46 : jI50 σ26 := jI50_fr ((f28 52 (of_decide_eq_true rfl)).trans (f13 52 (of_decide_eq_true rfl))) hI50
        have I47 : jI101 σ26 := jI101_fr (f29 4 (of_decide_eq_true rfl)) (f29 5 (of_decide_eq_true rfl)) (f28 56 (of_decide_eq_true rfl)) (f28 57 (of_decide_eq_true rfl)) (f28 58 (of_decide_eq_true rfl)) (f28 59 (of_decide_eq_true rfl)) I17
        have I48 : jI102 σ26 := jI102_fr (f29 6 (of_decide_eq_true rfl)) (f28 60 (of_decide_eq_true rfl)) (f28 61 (of_decide_eq_true rfl)) I18
        have I49 : jI104 σ26 := jI104_fr (f29 10 (of_decide_eq_true rfl)) (f29 12 (of_decide_eq_true rfl)) (f29 13 (of_decide_eq_true rfl)) (f28 62 (of_decide_eq_true rfl)) (f28 67 (of_decide_eq_true rfl)) I20
        have I50 : jI105 σ26 := jI105_fr (f29 15 (of_decide_eq_true rfl)) (f28 65 (of_decide_eq_true rfl)) I21
        have I51 : jI106 σ26 := jI106_fr (f29 32 (of_decide_eq_true rfl)) (f28 70 (of_decide_eq_true rfl)) (f28 71 (of_decide_eq_true rfl)) (f28 72 (of_decide_eq_true rfl)) I22
        have I52 : jI107 σ26 := jI107_fr ((f29 12 (of_decide_eq_true rfl)).trans (congrFun (f13 55 (of_decide_eq_true rfl)) 12)) ((f29 47 (of_decide_eq_true rfl)).trans (congrFun (f13 55 (of_decide_eq_true rfl)) 47)) ((f28 80 (of_decide_eq_true rfl)).trans (f13 80 (of_decide_eq_true rfl))) hI107
        have I53 : jI109 σ26 := jI109_fr ((f29 50 (of_decide_eq_true rfl)).trans (congrFun (f13 55 (of_decide_eq_true rfl)) 50)) hI109
        have I54 : jI110 σ26 := jI110_fr ((f28 86 (of_decide_eq_true rfl)).trans (f13 86 (of_decide_eq_true rfl))) ((f28 87 (of_decide_eq_true rfl)).trans (f13 87 (of_decide_eq_true rfl))) hI110
        have I55 : jI111 σ26 := jI111_fr ((f28 79 (of_decide_eq_true rfl)).trans (f13 79 (of_decide_eq_true rfl))) hI111
        have p56 : jBook σ26 := jBook.fr ((f29 47 (of_decide_eq_true rfl)).trans (congrFun (f13 55 (of_decide_eq_true rfl)) 47)) ((f29 10 (of_decide_eq_true rfl)).trans (congrFun (f13 55 (of_decide_eq_true rfl)) 10)) ((f28 81 (of_decide_eq_true rfl)).trans (f13 81 (of_decide_eq_true rfl))) hs_jBook
        have z57 : (σ26 9 0).toInt = (σ 9 0).toInt := (congrArg Int32.toInt (show σ26 9 0 = (σ 9 0) from ((congrFun (f28 9 (of_decide_eq_true rfl)) 0).trans (congrFun (f13 9 (of_decide_eq_true rfl)) 0))))
        have z58 : (σ26 55 15).toInt = (σ 55 15).toInt := (congrArg Int32.toInt (show σ26 55 15 = (σ 55 15) from ((f29 15 (of_decide_eq_true rfl)).trans (congrFun (f13 55 (of_decide_eq_true rfl)) 15))))
        exact by exact ih x35 σ26 τ _ _ ls (by have h9 := tx35; omega) ⟨I36, I37, I38, I39, I40, I41, I42, I43, I44, I45, I46, I47, I48, I30, I49, I50, I51, I52, I53, I54, I55, I31, p32, p56, (by omega), (show jTp (σ26 10) (σ26 63) (σ26 55 15).toInt by rw [show σ26 10 = σ 10 from ((f28 10 (of_decide_eq_true rfl)).trans (f13 10 (of_decide_eq_true rfl))), show σ26 63 = σ 63 from ((f28 63 (of_decide_eq_true rfl)).trans (f13 63 (of_decide_eq_true rfl)))]; exact hr0.le (by omega))⟩ hP hS (lv_sub hl [0, 1, 2, 3] rfl)
set_option maxHeartbeats 4000000 in
set_option maxRecDepth 100000 in
theorem law_case_16 {p : Program} {e : Env} {s : State} {m : MethodId} {below : List Frame} {meth : Method} {c : Code} (l : Launch) {b L : Nat} {xs : Nat → Int32} {D : va_G} {cI cL : ClassId} {ad zz : Nat → Nat} (C0 : lw_At p s m meth c b L xs) (hJ : jD ad) (hA : ∀ q, jA ad q → s.heap.size ≤ q) (hK : jK D cI cL s) (hZ : jZ zz (fun q : Nat => s.heap.size ≤ q) s s.heap) {x0 : Int32} (hx0 : 0 ≤ x0.toInt) (hxL : x0.toInt + 6 ≤ (L : Int)) (hL : L ≤ 384) {σ : Nat → Nat → Int32} {τ : Nat → Nat → Int64} {H : Heap} {locs : List Loc} (hS : va_S (fun q : Nat => s.heap.size ≤ q) s.heap H locs) {ls : Array Slot} (hAll : jAll σ τ) (hP : jH D cI cL ad σ τ H) (hl : lv_has ls 4 [(3, .int x0), (2, .ref (ad 55)), (1, .ref (ad 0)), (0, .ref b)]) (ih : ∀ (x1 : Int32) (σ : Nat → Nat → Int32) (τ : Nat → Nat → Int64) (H : Heap) (locs : List Loc) (ls : Array Slot), x1.toInt = x0.toInt + 6 → jAll σ τ → jH D cI cL ad σ τ H → va_S (fun q : Nat => s.heap.size ≤ q) s.heap H locs → lv_has ls 4 [(3, .int x1), (2, .ref (ad 55)), (1, .ref (ad 0)), (0, .ref b)] → W p l e room_1 s m #[Value.ref b] below meth c H locs 90 348600 (lw_Z below #[Value.ref b] s) (F0 m 18 ls [])) : W p l e room_1 s m #[Value.ref b] below meth c H locs 90 348600 (lw_Z below #[Value.ref b] s) (F0 m 694 ls []) := by
  obtain ⟨hx, hb, hr, hml, hown, hts0, hX, hbl, hlocks, hgv⟩ := C0
  have hts : ∀ w ∈ wsL_law, w.before #[Value.ref b] s = true := fun w h => hts0 w (wsL_law_in w h)
  have hbA : ¬ (fun q : Nat => s.heap.size ≤ q) b := Nat.not_le.mpr hbl
  have hown : s.vm.findClass RL = some m.cls := hown
  obtain ⟨hI2, hI9, hI12, hI16, hI18, hI22, hI31, hI38, hI43, hI47, hI50, hI101, hI102, hI103, hI104, hI105, hI106, hI107, hI109, hI110, hI111, hI119, hs_jKept, hs_jBook, ht0, hr0⟩ := hAll
  have hL9 : (L : Int) ≤ 384 := by omega
  obtain ⟨i1, w2, w3⟩ : (0 ≤ (σ 9 0).toInt ∧ (σ 9 0).toInt ≤ 80) ∧ (∀ k : Nat, k < 80 → 0 ≤ (σ 10 k).toInt ∧ (σ 10 k).toInt ≤ 255) ∧ (∀ k : Nat, k < 8 → 0 ≤ (σ 11 k).toInt ∧ (σ 11 k).toInt ≤ 3) := id hI9
  obtain ⟨i4, w5⟩ : (0 ≤ (σ 55 15).toInt ∧ (σ 55 15).toInt ≤ 80) ∧ (∀ k : Nat, k < 2 → (-1) ≤ (σ 65 k).toInt ∧ (σ 65 k).toInt ≤ 80) := id hI105
  refine lv_aload_n hx hb dL_law_694 rfl (lv_at hl 2 rfl) ?_
  refine lv_aload_n hx hb dL_law_695 rfl (lv_at hl 3 rfl) ?_
  refine lv_iload_n hx hb dL_law_696 rfl (lv_at hl 0 rfl) ?_
  refine lv_iconst (v := 1) hx hb dL_law_697 (of_decide_eq_true rfl) ?_
  have g6 := jrg (rfl : x0.toInt = x0.toInt)
  refine lv_iadd hx hb dL_law_698 ?_
  refine lv_topi (fun x7 ex7 => ?_)
  exact by
   have tx7 : x7.toInt = x0.toInt + 1 := (jadd ex7 rfl jz_1 (by omega) (by omega)).trans (by omega)
   refine va_sld hx hb hX hbl hbA hS (jin tx7 (by omega) (by omega)) dL_law_699 ?_
   have g8 := jrg (rfl : (xs x7.toNatClampNeg).toInt = (xs x7.toNatClampNeg).toInt)
   refine jcallV (As := [.int (xs x7.toNatClampNeg)]) (rest := []) ⟨hx, hb, hml, hown, hts⟩ hK hP hA hS hZ (c_X11_kept l D cI cL ad zz hJ σ τ (xs x7.toNatClampNeg) ((xs x7.toNatClampNeg).toInt) rfl hI2 hI16 hI22 hI31) cw_RL_81 (jc_0 cI cL ad σ τ) rfl ⟨Nat.le_of_ble_eq_true rfl, Nat.le_of_ble_eq_true rfl⟩ rfl rfl rfl hl.1 rfl (Nat.le_of_ble_eq_true rfl) dL_law_700 ⟨Nat.le_of_ble_eq_true rfl, Nat.le_of_ble_eq_true rfl⟩ (fun r10 σ9 τ9 H locs h9 hP hS => ?_)
   obtain ⟨rfl, f11, f12, I13, h9⟩ := h9
   refine lv_pop hx hb dL_law_703 rfl ?_
   refine lv_aload_n hx hb dL_law_704 rfl (lv_at hl 1 rfl) ?_
   refine lv_aload_n hx hb dL_law_705 rfl (lv_at hl 3 rfl) ?_
   refine lv_iload_n hx hb dL_law_706 rfl (lv_at hl 0 rfl) ?_
   exact by
    refine lv_iconst (v := 1) hx hb dL_law_707 (of_decide_eq_true rfl) ?_
    refine lv_iadd hx hb dL_law_708 ?_
    refine jtopr ex7.symm ?_
    refine va_sld hx hb hX hbl hbA hS (jin tx7 (by omega) (by omega)) dL_law_709 ?_
    have I15 : jI101 σ9 := jI101_fr (congrFun (f11 55 (of_decide_eq_true rfl)) 4) (congrFun (f11 55 (of_decide_eq_true rfl)) 5) (f11 56 (of_decide_eq_true rfl)) (f11 57 (of_decide_eq_true rfl)) (f11 58 (of_decide_eq_true rfl)) (f11 59 (of_decide_eq_true rfl)) hI101
    have I16 : jI102 σ9 := jI102_fr (congrFun (f11 55 (of_decide_eq_true rfl)) 6) (f11 60 (of_decide_eq_true rfl)) (f11 61 (of_decide_eq_true rfl)) hI102
    have I17 : jI103 σ9 := jI103_fr (congrFun (f11 55 (of_decide_eq_true rfl)) 9) hI103
    have I18 : jI104 σ9 := jI104_fr (congrFun (f11 55 (of_decide_eq_true rfl)) 10) (congrFun (f11 55 (of_decide_eq_true rfl)) 12) (congrFun (f11 55 (of_decide_eq_true rfl)) 13) (f11 62 (of_decide_eq_true rfl)) (f11 67 (of_decide_eq_true rfl)) hI104
    have I19 : jI105 σ9 := jI105_fr (congrFun (f11 55 (of_decide_eq_true rfl)) 15) (f11 65 (of_decide_eq_true rfl)) hI105
    exact by
     have I20 : jI106 σ9 := jI106_fr (congrFun (f11 55 (of_decide_eq_true rfl)) 32) (f11 70 (of_decide_eq_true rfl)) (f11 71 (of_decide_eq_true rfl)) (f11 72 (of_decide_eq_true rfl)) hI106
     have I21 : jI119 σ9 := jI119_fr (f11 68 (of_decide_eq_true rfl)) hI119
     have p22 : jKept σ9 := jKept.fr (f11 75 (of_decide_eq_true rfl)) (f11 76 (of_decide_eq_true rfl)) (f11 77 (of_decide_eq_true rfl)) hs_jKept
     refine jcallV (As := [.int (xs x7.toNatClampNeg)]) (rest := []) ⟨hx, hb, hml, hown, hts⟩ hK hP hA hS hZ (c_X12_kept l D cI cL ad zz hJ σ9 τ (xs x7.toNatClampNeg) ((xs x7.toNatClampNeg).toInt) rfl I15 I16 I17 I18 I19 I20 I21 p22) cw_RL_84 (jc_55 cI cL ad σ9 τ) rfl ⟨Nat.le_of_ble_eq_true rfl, Nat.le_of_ble_eq_true rfl⟩ rfl rfl rfl hl.1 rfl (Nat.le_of_ble_eq_true rfl) dL_law_710 ⟨Nat.le_of_ble_eq_true rfl, Nat.le_of_ble_eq_true rfl⟩ (fun r24 σ23 τ23 H locs h23 hP hS => ?_)
     obtain ⟨rfl, f25, f26, I27, p28, h23⟩ := h23
     refine lv_pop hx hb dL_law_713 rfl ?_
     refine lv_goto (tgt := 1357) hx hb dL_law_714 (of_decide_eq_true rfl) ?_
     obtain ⟨x30, ex30⟩ : ∃ y : Int32, y = x0 + 6 := ⟨_, rfl⟩
     have tx30 : x30.toInt = x0.toInt + 6 := (jadd ex30 rfl jz_6 (by omega) (by omega)).trans (by omega)
     exact by
      refine lv_iinc (v := x30) (lv' := [(3, .int x30), (2, .ref (ad 55)), (1, .ref (ad 0)), (0, .ref b)]) hx hb dL_law_1357 hl (k := 0) rfl (by rw [ex30]; rfl) (of_decide_eq_true rfl) rfl (fun ls hl => ?_)
      refine lv_goto (tgt := 18) hx hb dL_law_1360 (of_decide_eq_true rfl) ?_
      have I31 : jI2 σ23 := jI2_fr ((congrFun (f25 2 (of_decide_eq_true rfl)) 0).trans (congrFun (f11 2 (of_decide_eq_true rfl)) 0)) ((congrFun (f25 2 (of_decide_eq_true rfl)) 1).trans (congrFun (f11 2 (of_decide_eq_true rfl)) 1)) ((congrFun (f25 2 (of_decide_eq_true rfl)) 2).trans (congrFun (f11 2 (of_decide_eq_true rfl)) 2)) ((congrFun (f25 2 (of_decide_eq_true rfl)) 3).trans (congrFun (f11 2 (of_decide_eq_true rfl)) 3)) ((f25 6 (of_decide_eq_true rfl)).trans (f11 6 (of_decide_eq_true rfl))) hI2
      have I32 : jI9 σ23 := jI9_fr ((congrFun (f25 9 (of_decide_eq_true rfl)) 0).trans (congrFun (f11 9 (of_decide_eq_true rfl)) 0)) ((f25 10 (of_decide_eq_true rfl)).trans (f11 10 (of_decide_eq_true rfl))) ((f25 11 (of_decide_eq_true rfl)).trans (f11 11 (of_decide_eq_true rfl))) hI9
      have I33 : jI12 σ23 := jI12_fr ((congrFun (f25 12 (of_decide_eq_true rfl)) 0).trans (congrFun (f11 12 (of_decide_eq_true rfl)) 0)) ((f25 13 (of_decide_eq_true rfl)).trans (f11 13 (of_decide_eq_true rfl))) hI12
      have I34 : jI16 σ23 := jI16_fr ((congrFun (f25 16 (of_decide_eq_true rfl)) 0).trans (congrFun (f11 16 (of_decide_eq_true rfl)) 0)) ((congrFun (f25 16 (of_decide_eq_true rfl)) 1).trans (congrFun (f11 16 (of_decide_eq_true rfl)) 1)) ((congrFun (f25 16 (of_decide_eq_true rfl)) 2).trans (congrFun (f11 16 (of_decide_eq_true rfl)) 2)) ((f25 17 (of_decide_eq_true rfl)).trans (f11 17 (of_decide_eq_true rfl))) hI16
      have I35 : jI18 σ23 := jI18_fr ((congrFun (f25 18 (of_decide_eq_true rfl)) 0).trans (congrFun (f11 18 (of_decide_eq_true rfl)) 0)) ((f25 19 (of_decide_eq_true rfl)).trans (f11 19 (of_decide_eq_true rfl))) hI18
      have I36 : jI22 σ23 := jI22_fr ((congrFun (f25 22 (of_decide_eq_true rfl)) 0).trans (congrFun (f11 22 (of_decide_eq_true rfl)) 0)) ((f25 23 (of_decide_eq_true rfl)).trans (f11 23 (of_decide_eq_true rfl))) hI22
      have I37 : jI31 σ23 := jI31_fr (congrFun (f25 31 (of_decide_eq_true rfl)) 8) (f25 33 (of_decide_eq_true rfl)) (f25 36 (of_decide_eq_true rfl)) I13
      have I38 : jI38 σ23 := jI38_fr ((congrFun (f25 38 (of_decide_eq_true rfl)) 0).trans (congrFun (f11 38 (of_decide_eq_true rfl)) 0)) ((congrFun (f25 38 (of_decide_eq_true rfl)) 1).trans (congrFun (f11 38 (of_decide_eq_true rfl)) 1)) ((f25 39 (of_decide_eq_true rfl)).trans (f11 39 (of_decide_eq_true rfl))) hI38
      have I39 : jI43 σ23 := jI43_fr ((congrFun (f25 43 (of_decide_eq_true rfl)) 8).trans (congrFun (f11 43 (of_decide_eq_true rfl)) 8)) hI43
      have I40 : jI47 σ23 := jI47_fr ((congrFun (f25 47 (of_decide_eq_true rfl)) 0).trans (congrFun (f11 47 (of_decide_eq_true rfl)) 0)) ((f25 48 (of_decide_eq_true rfl)).trans (f11 48 (of_decide_eq_true rfl))) ((f25 49 (of_decide_eq_true rfl)).trans (f11 49 (of_decide_eq_true rfl))) hI47
      have I41 : jI50 σ23 := jI50_fr ((f25 52 (of_decide_eq_true rfl)).trans (f11 52 (of_decide_eq_true rfl))) hI50
      have I42 : jI101 σ23 := jI101_fr (f26 4 (of_decide_eq_true rfl)) (f26 5 (of_decide_eq_true rfl)) (f25 56 (of_decide_eq_true rfl)) (f25 57 (of_decide_eq_true rfl)) (f25 58 (of_decide_eq_true rfl)) (f25 59 (of_decide_eq_true rfl)) I15
      have I43 : jI102 σ23 := jI102_fr (f26 6 (of_decide_eq_true rfl)) (f25 60 (of_decide_eq_true rfl)) (f25 61 (of_decide_eq_true rfl)) I16
      have I44 : jI103 σ23 := jI103_fr (f26 9 (of_decide_eq_true rfl)) I17
      have I45 : jI104 σ23 := jI104_fr (f26 10 (of_decide_eq_true rfl)) (f26 12 (of_decide_eq_true rfl)) (f26 13 (of_decide_eq_true rfl)) (f25 62 (of_decide_eq_true rfl)) (f25 67 (of_decide_eq_true rfl)) I18
      have I46 : jI105 σ23 := jI105_fr (f26 15 (of_decide_eq_true rfl)) (f25 65 (of_decide_eq_true rfl)) I19
      have I47 : jI106 σ23 := jI106_fr (f26 32 (of_decide_eq_true rfl)) (f25 70 (of_decide_eq_true rfl)) (f25 71 (of_decide_eq_true rfl)) (f25 72 (of_decide_eq_true rfl)) I20
      have I48 : jI107 σ23 := jI107_fr ((f26 12 (of_decide_eq_true rfl)).trans (congrFun (f11 55 (of_decide_eq_true rfl)) 12)) ((f26 47 (of_decide_eq_true rfl)).trans (congrFun (f11 55 (of_decide_eq_true rfl)) 47)) ((f25 80 (of_decide_eq_true rfl)).trans (f11 80 (of_decide_eq_true rfl))) hI107
      have I49 : jI109 σ23 := jI109_fr ((f26 50 (of_decide_eq_true rfl)).trans (congrFun (f11 55 (of_decide_eq_true rfl)) 50)) hI109
      have I50 : jI110 σ23 := jI110_fr ((f25 86 (of_decide_eq_true rfl)).trans (f11 86 (of_decide_eq_true rfl))) ((f25 87 (of_decide_eq_true rfl)).trans (f11 87 (of_decide_eq_true rfl))) hI110
      have I51 : jI111 σ23 := jI111_fr ((f25 79 (of_decide_eq_true rfl)).trans (f11 79 (of_decide_eq_true rfl))) hI111
      have p52 : jBook σ23 := jBook.fr ((f26 47 (of_decide_eq_true rfl)).trans (congrFun (f11 55 (of_decide_eq_true rfl)) 47)) ((f26 10 (of_decide_eq_true rfl)).trans (congrFun (f11 55 (of_decide_eq_true rfl)) 10)) ((f25 81 (of_decide_eq_true rfl)).trans (f11 81 (of_decide_eq_true rfl))) hs_jBook
      have z53 : (σ23 9 0).toInt = (σ 9 0).toInt := (congrArg Int32.toInt (show σ23 9 0 = (σ 9 0) from ((congrFun (f25 9 (of_decide_eq_true rfl)) 0).trans (congrFun (f11 9 (of_decide_eq_true rfl)) 0))))
      have z54 : (σ23 55 15).toInt = (σ 55 15).toInt := (congrArg Int32.toInt (show σ23 55 15 = (σ 55 15) from ((f26 15 (of_decide_eq_true rfl)).trans (congrFun (f11 55 (of_decide_eq_true rfl)) 15))))
      exact by exact ih x30 σ23 τ _ _ ls (by have h9 := tx30; omega) ⟨I31, I32, I33, I34, I35, I36, I37, I38, I39, I40, I41, I42, I43, I44, I45, I46, I47, I48, I49, I50, I51, I27, p28, p52, (by omega), (show jTp (σ23 10) (σ23 63) (σ23 55 15).toInt by rw [show σ23 10 = σ 10 from ((f25 10 (of_decide_eq_true rfl)).trans (f11 10 (of_decide_eq_true rfl))), show σ23 63 = σ 63 from ((f25 63 (of_decide_eq_true rfl)).trans (f11 63 (of_decide_eq_true rfl)))]; exact hr0.le (by omega))⟩ hP hS (lv_sub hl [0, 1, 2, 3] rfl)
set_option maxHeartbeats 4000000 in
set_option maxRecDepth 100000 in
theorem law_case_17 {p : Program} {e : Env} {s : State} {m : MethodId} {below : List Frame} {meth : Method} {c : Code} (l : Launch) {b L : Nat} {xs : Nat → Int32} {D : va_G} {cI cL : ClassId} {ad zz : Nat → Nat} (C0 : lw_At p s m meth c b L xs) (hJ : jD ad) (hA : ∀ q, jA ad q → s.heap.size ≤ q) (hK : jK D cI cL s) (hZ : jZ zz (fun q : Nat => s.heap.size ≤ q) s s.heap) {x0 : Int32} (hx0 : 0 ≤ x0.toInt) (hxL : x0.toInt + 6 ≤ (L : Int)) (hL : L ≤ 384) {σ : Nat → Nat → Int32} {τ : Nat → Nat → Int64} {H : Heap} {locs : List Loc} (hS : va_S (fun q : Nat => s.heap.size ≤ q) s.heap H locs) {ls : Array Slot} (hAll : jAll σ τ) (hP : jH D cI cL ad σ τ H) (hl : lv_has ls 4 [(3, .int x0), (2, .ref (ad 55)), (1, .ref (ad 0)), (0, .ref b)]) (ih : ∀ (x1 : Int32) (σ : Nat → Nat → Int32) (τ : Nat → Nat → Int64) (H : Heap) (locs : List Loc) (ls : Array Slot), x1.toInt = x0.toInt + 6 → jAll σ τ → jH D cI cL ad σ τ H → va_S (fun q : Nat => s.heap.size ≤ q) s.heap H locs → lv_has ls 4 [(3, .int x1), (2, .ref (ad 55)), (1, .ref (ad 0)), (0, .ref b)] → W p l e room_1 s m #[Value.ref b] below meth c H locs 90 348600 (lw_Z below #[Value.ref b] s) (F0 m 18 ls [])) : W p l e room_1 s m #[Value.ref b] below meth c H locs 90 348600 (lw_Z below #[Value.ref b] s) (F0 m 717 ls []) := by
  obtain ⟨hx, hb, hr, hml, hown, hts0, hX, hbl, hlocks, hgv⟩ := C0
  have hts : ∀ w ∈ wsL_law, w.before #[Value.ref b] s = true := fun w h => hts0 w (wsL_law_in w h)
  have hbA : ¬ (fun q : Nat => s.heap.size ≤ q) b := Nat.not_le.mpr hbl
  have hown : s.vm.findClass RL = some m.cls := hown
  obtain ⟨hI2, hI9, hI12, hI16, hI18, hI22, hI31, hI38, hI43, hI47, hI50, hI101, hI102, hI103, hI104, hI105, hI106, hI107, hI109, hI110, hI111, hI119, hs_jKept, hs_jBook, ht0, hr0⟩ := hAll
  have hL9 : (L : Int) ≤ 384 := by omega
  obtain ⟨i1, w2, w3⟩ : (0 ≤ (σ 9 0).toInt ∧ (σ 9 0).toInt ≤ 80) ∧ (∀ k : Nat, k < 80 → 0 ≤ (σ 10 k).toInt ∧ (σ 10 k).toInt ≤ 255) ∧ (∀ k : Nat, k < 8 → 0 ≤ (σ 11 k).toInt ∧ (σ 11 k).toInt ≤ 3) := id hI9
  obtain ⟨i4, w5⟩ : (0 ≤ (σ 55 15).toInt ∧ (σ 55 15).toInt ≤ 80) ∧ (∀ k : Nat, k < 2 → (-1) ≤ (σ 65 k).toInt ∧ (σ 65 k).toInt ≤ 80) := id hI105
  refine lv_aload_n hx hb dL_law_717 rfl (lv_at hl 2 rfl) ?_
  refine lv_aload_n hx hb dL_law_718 rfl (lv_at hl 3 rfl) ?_
  refine lv_iload_n hx hb dL_law_719 rfl (lv_at hl 0 rfl) ?_
  refine lv_iconst (v := 1) hx hb dL_law_720 (of_decide_eq_true rfl) ?_
  have g6 := jrg (rfl : x0.toInt = x0.toInt)
  refine lv_iadd hx hb dL_law_721 ?_
  refine lv_topi (fun x7 ex7 => ?_)
  exact by
   have tx7 : x7.toInt = x0.toInt + 1 := (jadd ex7 rfl jz_1 (by omega) (by omega)).trans (by omega)
   refine va_sld hx hb hX hbl hbA hS (jin tx7 (by omega) (by omega)) dL_law_722 ?_
   have g8 := jrg (rfl : (xs x7.toNatClampNeg).toInt = (xs x7.toNatClampNeg).toInt)
   refine jcallV (As := [.int (xs x7.toNatClampNeg)]) (rest := []) ⟨hx, hb, hml, hown, hts⟩ hK hP hA hS hZ (c_X11_theirs l D cI cL ad zz hJ σ τ (xs x7.toNatClampNeg) ((xs x7.toNatClampNeg).toInt) rfl hI2 hI16 hI22 hI31) cw_RL_85 (jc_0 cI cL ad σ τ) rfl ⟨Nat.le_of_ble_eq_true rfl, Nat.le_of_ble_eq_true rfl⟩ rfl rfl rfl hl.1 rfl (Nat.le_of_ble_eq_true rfl) dL_law_723 ⟨Nat.le_of_ble_eq_true rfl, Nat.le_of_ble_eq_true rfl⟩ (fun r10 σ9 τ9 H locs h9 hP hS => ?_)
   obtain ⟨rfl, f11, f12, I13, h9⟩ := h9
   refine lv_pop hx hb dL_law_726 rfl ?_
   refine lv_aload_n hx hb dL_law_727 rfl (lv_at hl 1 rfl) ?_
   refine lv_aload_n hx hb dL_law_728 rfl (lv_at hl 3 rfl) ?_
   refine lv_iload_n hx hb dL_law_729 rfl (lv_at hl 0 rfl) ?_
   exact by
    refine lv_iconst (v := 1) hx hb dL_law_730 (of_decide_eq_true rfl) ?_
    refine lv_iadd hx hb dL_law_731 ?_
    refine jtopr ex7.symm ?_
    refine va_sld hx hb hX hbl hbA hS (jin tx7 (by omega) (by omega)) dL_law_732 ?_
    have I15 : jI101 σ9 := jI101_fr (congrFun (f11 55 (of_decide_eq_true rfl)) 4) (congrFun (f11 55 (of_decide_eq_true rfl)) 5) (f11 56 (of_decide_eq_true rfl)) (f11 57 (of_decide_eq_true rfl)) (f11 58 (of_decide_eq_true rfl)) (f11 59 (of_decide_eq_true rfl)) hI101
    have I16 : jI102 σ9 := jI102_fr (congrFun (f11 55 (of_decide_eq_true rfl)) 6) (f11 60 (of_decide_eq_true rfl)) (f11 61 (of_decide_eq_true rfl)) hI102
    have I17 : jI103 σ9 := jI103_fr (congrFun (f11 55 (of_decide_eq_true rfl)) 9) hI103
    have I18 : jI104 σ9 := jI104_fr (congrFun (f11 55 (of_decide_eq_true rfl)) 10) (congrFun (f11 55 (of_decide_eq_true rfl)) 12) (congrFun (f11 55 (of_decide_eq_true rfl)) 13) (f11 62 (of_decide_eq_true rfl)) (f11 67 (of_decide_eq_true rfl)) hI104
    have I19 : jI105 σ9 := jI105_fr (congrFun (f11 55 (of_decide_eq_true rfl)) 15) (f11 65 (of_decide_eq_true rfl)) hI105
    exact by
     have I20 : jI106 σ9 := jI106_fr (congrFun (f11 55 (of_decide_eq_true rfl)) 32) (f11 70 (of_decide_eq_true rfl)) (f11 71 (of_decide_eq_true rfl)) (f11 72 (of_decide_eq_true rfl)) hI106
     have I21 : jI119 σ9 := jI119_fr (f11 68 (of_decide_eq_true rfl)) hI119
     have I22 : jI111 σ9 := jI111_fr (f11 79 (of_decide_eq_true rfl)) hI111
     have p23 : jKept σ9 := jKept.fr (f11 75 (of_decide_eq_true rfl)) (f11 76 (of_decide_eq_true rfl)) (f11 77 (of_decide_eq_true rfl)) hs_jKept
     refine jcallV (As := [.int (xs x7.toNatClampNeg)]) (rest := []) ⟨hx, hb, hml, hown, hts⟩ hK hP hA hS hZ (c_X12_theirs l D cI cL ad zz hJ σ9 τ (xs x7.toNatClampNeg) ((xs x7.toNatClampNeg).toInt) rfl I15 I16 I17 I18 I19 I20 I21 I22 p23) cw_RL_88 (jc_55 cI cL ad σ9 τ) rfl ⟨Nat.le_of_ble_eq_true rfl, Nat.le_of_ble_eq_true rfl⟩ rfl rfl rfl hl.1 rfl (Nat.le_of_ble_eq_true rfl) dL_law_733 ⟨Nat.le_of_ble_eq_true rfl, Nat.le_of_ble_eq_true rfl⟩ (fun r25 σ24 τ24 H locs h24 hP hS => ?_)
     obtain ⟨rfl, f26, f27, I28, I29, I30, p31, w32, h24⟩ := h24
     refine lv_pop hx hb dL_law_736 rfl ?_
     refine lv_goto (tgt := 1357) hx hb dL_law_737 (of_decide_eq_true rfl) ?_
     obtain ⟨x34, ex34⟩ : ∃ y : Int32, y = x0 + 6 := ⟨_, rfl⟩
     exact by
      have tx34 : x34.toInt = x0.toInt + 6 := (jadd ex34 rfl jz_6 (by omega) (by omega)).trans (by omega)
      refine lv_iinc (v := x34) (lv' := [(3, .int x34), (2, .ref (ad 55)), (1, .ref (ad 0)), (0, .ref b)]) hx hb dL_law_1357 hl (k := 0) rfl (by rw [ex34]; rfl) (of_decide_eq_true rfl) rfl (fun ls hl => ?_)
      refine lv_goto (tgt := 18) hx hb dL_law_1360 (of_decide_eq_true rfl) ?_
      have I35 : jI2 σ24 := jI2_fr ((congrFun (f26 2 (of_decide_eq_true rfl)) 0).trans (congrFun (f11 2 (of_decide_eq_true rfl)) 0)) ((congrFun (f26 2 (of_decide_eq_true rfl)) 1).trans (congrFun (f11 2 (of_decide_eq_true rfl)) 1)) ((congrFun (f26 2 (of_decide_eq_true rfl)) 2).trans (congrFun (f11 2 (of_decide_eq_true rfl)) 2)) ((congrFun (f26 2 (of_decide_eq_true rfl)) 3).trans (congrFun (f11 2 (of_decide_eq_true rfl)) 3)) ((f26 6 (of_decide_eq_true rfl)).trans (f11 6 (of_decide_eq_true rfl))) hI2
      have I36 : jI9 σ24 := jI9_fr ((congrFun (f26 9 (of_decide_eq_true rfl)) 0).trans (congrFun (f11 9 (of_decide_eq_true rfl)) 0)) ((f26 10 (of_decide_eq_true rfl)).trans (f11 10 (of_decide_eq_true rfl))) ((f26 11 (of_decide_eq_true rfl)).trans (f11 11 (of_decide_eq_true rfl))) hI9
      have I37 : jI12 σ24 := jI12_fr ((congrFun (f26 12 (of_decide_eq_true rfl)) 0).trans (congrFun (f11 12 (of_decide_eq_true rfl)) 0)) ((f26 13 (of_decide_eq_true rfl)).trans (f11 13 (of_decide_eq_true rfl))) hI12
      have I38 : jI16 σ24 := jI16_fr ((congrFun (f26 16 (of_decide_eq_true rfl)) 0).trans (congrFun (f11 16 (of_decide_eq_true rfl)) 0)) ((congrFun (f26 16 (of_decide_eq_true rfl)) 1).trans (congrFun (f11 16 (of_decide_eq_true rfl)) 1)) ((congrFun (f26 16 (of_decide_eq_true rfl)) 2).trans (congrFun (f11 16 (of_decide_eq_true rfl)) 2)) ((f26 17 (of_decide_eq_true rfl)).trans (f11 17 (of_decide_eq_true rfl))) hI16
      have I39 : jI18 σ24 := jI18_fr ((congrFun (f26 18 (of_decide_eq_true rfl)) 0).trans (congrFun (f11 18 (of_decide_eq_true rfl)) 0)) ((f26 19 (of_decide_eq_true rfl)).trans (f11 19 (of_decide_eq_true rfl))) hI18
      have I40 : jI22 σ24 := jI22_fr ((congrFun (f26 22 (of_decide_eq_true rfl)) 0).trans (congrFun (f11 22 (of_decide_eq_true rfl)) 0)) ((f26 23 (of_decide_eq_true rfl)).trans (f11 23 (of_decide_eq_true rfl))) hI22
      exact by
       have I41 : jI31 σ24 := jI31_fr (congrFun (f26 31 (of_decide_eq_true rfl)) 8) (f26 33 (of_decide_eq_true rfl)) (f26 36 (of_decide_eq_true rfl)) I13
       have I42 : jI38 σ24 := jI38_fr ((congrFun (f26 38 (of_decide_eq_true rfl)) 0).trans (congrFun (f11 38 (of_decide_eq_true rfl)) 0)) ((congrFun (f26 38 (of_decide_eq_true rfl)) 1).trans (congrFun (f11 38 (of_decide_eq_true rfl)) 1)) ((f26 39 (of_decide_eq_true rfl)).trans (f11 39 (of_decide_eq_true rfl))) hI38
       have I43 : jI43 σ24 := jI43_fr ((congrFun (f26 43 (of_decide_eq_true rfl)) 8).trans (congrFun (f11 43 (of_decide_eq_true rfl)) 8)) hI43
       have I44 : jI47 σ24 := jI47_fr ((congrFun (f26 47 (of_decide_eq_true rfl)) 0).trans (congrFun (f11 47 (of_decide_eq_true rfl)) 0)) ((f26 48 (of_decide_eq_true rfl)).trans (f11 48 (of_decide_eq_true rfl))) ((f26 49 (of_decide_eq_true rfl)).trans (f11 49 (of_decide_eq_true rfl))) hI47
       have I45 : jI50 σ24 := jI50_fr ((f26 52 (of_decide_eq_true rfl)).trans (f11 52 (of_decide_eq_true rfl))) hI50
       have I46 : jI101 σ24 := jI101_fr (f27 4 (of_decide_eq_true rfl)) (f27 5 (of_decide_eq_true rfl)) (f26 56 (of_decide_eq_true rfl)) (f26 57 (of_decide_eq_true rfl)) (f26 58 (of_decide_eq_true rfl)) (f26 59 (of_decide_eq_true rfl)) I15
       have I47 : jI102 σ24 := jI102_fr (f27 6 (of_decide_eq_true rfl)) (f26 60 (of_decide_eq_true rfl)) (f26 61 (of_decide_eq_true rfl)) I16
       have I48 : jI103 σ24 := jI103_fr (f27 9 (of_decide_eq_true rfl)) I17
       have I49 : jI105 σ24 := jI105_fr (f27 15 (of_decide_eq_true rfl)) (f26 65 (of_decide_eq_true rfl)) I19
       have I50 : jI106 σ24 := jI106_fr (f27 32 (of_decide_eq_true rfl)) (f26 70 (of_decide_eq_true rfl)) (f26 71 (of_decide_eq_true rfl)) (f26 72 (of_decide_eq_true rfl)) I20
       have I51 : jI107 σ24 := jI107_fr ((f27 12 (of_decide_eq_true rfl)).trans (congrFun (f11 55 (of_decide_eq_true rfl)) 12)) ((f27 47 (of_decide_eq_true rfl)).trans (congrFun (f11 55 (of_decide_eq_true rfl)) 47)) ((f26 80 (of_decide_eq_true rfl)).trans (f11 80 (of_decide_eq_true rfl))) hI107
       have I52 : jI109 σ24 := jI109_fr ((f27 50 (of_decide_eq_true rfl)).trans (congrFun (f11 55 (of_decide_eq_true rfl)) 50)) hI109
       have I53 : jI110 σ24 := jI110_fr ((f26 86 (of_decide_eq_true rfl)).trans (f11 86 (of_decide_eq_true rfl))) ((f26 87 (of_decide_eq_true rfl)).trans (f11 87 (of_decide_eq_true rfl))) hI110
       have p54 : jBook σ24 := jBook.fr ((f27 47 (of_decide_eq_true rfl)).trans (congrFun (f11 55 (of_decide_eq_true rfl)) 47)) ((f27 10 (of_decide_eq_true rfl)).trans (congrFun (f11 55 (of_decide_eq_true rfl)) 10)) ((f26 81 (of_decide_eq_true rfl)).trans (f11 81 (of_decide_eq_true rfl))) hs_jBook
       have z55 : (σ24 9 0).toInt = (σ 9 0).toInt := (congrArg Int32.toInt (show σ24 9 0 = (σ 9 0) from ((congrFun (f26 9 (of_decide_eq_true rfl)) 0).trans (congrFun (f11 9 (of_decide_eq_true rfl)) 0))))
       have z56 : (σ24 55 15).toInt = (σ 55 15).toInt := (congrArg Int32.toInt (show σ24 55 15 = (σ 55 15) from ((f27 15 (of_decide_eq_true rfl)).trans (congrFun (f11 55 (of_decide_eq_true rfl)) 15))))
       exact by exact ih x34 σ24 τ _ _ ls (by have h9 := tx34; omega) ⟨I35, I36, I37, I38, I39, I40, I41, I42, I43, I44, I45, I46, I47, I48, I28, I49, I50, I51, I52, I53, I29, I30, p31, p54, (by omega), (show jTp (σ24 10) (σ24 63) (σ24 55 15).toInt by rw [show σ24 10 = σ 10 from ((f26 10 (of_decide_eq_true rfl)).trans (f11 10 (of_decide_eq_true rfl))), show σ24 63 = σ 63 from ((f26 63 (of_decide_eq_true rfl)).trans (f11 63 (of_decide_eq_true rfl)))]; exact hr0.le (by omega))⟩ hP hS (lv_sub hl [0, 1, 2, 3] rfl)
set_option maxHeartbeats 4000000 in
set_option maxRecDepth 100000 in
theorem law_case_18 {p : Program} {e : Env} {s : State} {m : MethodId} {below : List Frame} {meth : Method} {c : Code} (l : Launch) {b L : Nat} {xs : Nat → Int32} {D : va_G} {cI cL : ClassId} {ad zz : Nat → Nat} (C0 : lw_At p s m meth c b L xs) (hJ : jD ad) (hA : ∀ q, jA ad q → s.heap.size ≤ q) (hK : jK D cI cL s) (hZ : jZ zz (fun q : Nat => s.heap.size ≤ q) s s.heap) {x0 : Int32} (hx0 : 0 ≤ x0.toInt) (hxL : x0.toInt + 6 ≤ (L : Int)) (hL : L ≤ 384) {σ : Nat → Nat → Int32} {τ : Nat → Nat → Int64} {H : Heap} {locs : List Loc} (hS : va_S (fun q : Nat => s.heap.size ≤ q) s.heap H locs) {ls : Array Slot} (hAll : jAll σ τ) (hP : jH D cI cL ad σ τ H) (hl : lv_has ls 4 [(3, .int x0), (2, .ref (ad 55)), (1, .ref (ad 0)), (0, .ref b)]) (ih : ∀ (x1 : Int32) (σ : Nat → Nat → Int32) (τ : Nat → Nat → Int64) (H : Heap) (locs : List Loc) (ls : Array Slot), x1.toInt = x0.toInt + 6 → jAll σ τ → jH D cI cL ad σ τ H → va_S (fun q : Nat => s.heap.size ≤ q) s.heap H locs → lv_has ls 4 [(3, .int x1), (2, .ref (ad 55)), (1, .ref (ad 0)), (0, .ref b)] → W p l e room_1 s m #[Value.ref b] below meth c H locs 90 348600 (lw_Z below #[Value.ref b] s) (F0 m 18 ls [])) : W p l e room_1 s m #[Value.ref b] below meth c H locs 90 348600 (lw_Z below #[Value.ref b] s) (F0 m 740 ls []) := by
  obtain ⟨hx, hb, hr, hml, hown, hts0, hX, hbl, hlocks, hgv⟩ := C0
  have hts : ∀ w ∈ wsL_law, w.before #[Value.ref b] s = true := fun w h => hts0 w (wsL_law_in w h)
  have hbA : ¬ (fun q : Nat => s.heap.size ≤ q) b := Nat.not_le.mpr hbl
  have hown : s.vm.findClass RL = some m.cls := hown
  obtain ⟨hI2, hI9, hI12, hI16, hI18, hI22, hI31, hI38, hI43, hI47, hI50, hI101, hI102, hI103, hI104, hI105, hI106, hI107, hI109, hI110, hI111, hI119, hs_jKept, hs_jBook, ht0, hr0⟩ := hAll
  have hL9 : (L : Int) ≤ 384 := by omega
  obtain ⟨i1, w2, w3⟩ : (0 ≤ (σ 9 0).toInt ∧ (σ 9 0).toInt ≤ 80) ∧ (∀ k : Nat, k < 80 → 0 ≤ (σ 10 k).toInt ∧ (σ 10 k).toInt ≤ 255) ∧ (∀ k : Nat, k < 8 → 0 ≤ (σ 11 k).toInt ∧ (σ 11 k).toInt ≤ 3) := id hI9
  obtain ⟨i4, w5⟩ : (0 ≤ (σ 55 15).toInt ∧ (σ 55 15).toInt ≤ 80) ∧ (∀ k : Nat, k < 2 → (-1) ≤ (σ 65 k).toInt ∧ (σ 65 k).toInt ≤ 80) := id hI105
  refine lv_aload_n hx hb dL_law_740 rfl (lv_at hl 2 rfl) ?_
  refine lv_aload_n hx hb dL_law_741 rfl (lv_at hl 3 rfl) ?_
  refine lv_iload_n hx hb dL_law_742 rfl (lv_at hl 0 rfl) ?_
  refine lv_iconst (v := 1) hx hb dL_law_743 (of_decide_eq_true rfl) ?_
  have g6 := jrg (rfl : x0.toInt = x0.toInt)
  refine lv_iadd hx hb dL_law_744 ?_
  refine lv_topi (fun x7 ex7 => ?_)
  exact by
   have tx7 : x7.toInt = x0.toInt + 1 := (jadd ex7 rfl jz_1 (by omega) (by omega)).trans (by omega)
   refine va_sld hx hb hX hbl hbA hS (jin tx7 (by omega) (by omega)) dL_law_745 ?_
   have g8 := jrg (rfl : (xs x7.toNatClampNeg).toInt = (xs x7.toNatClampNeg).toInt)
   refine lv_aload_n hx hb dL_law_746 rfl (lv_at hl 3 rfl) ?_
   refine lv_iload_n hx hb dL_law_747 rfl (lv_at hl 0 rfl) ?_
   refine lv_iconst (v := 2) hx hb dL_law_748 (of_decide_eq_true rfl) ?_
   refine lv_iadd hx hb dL_law_749 ?_
   refine lv_topi (fun x9 ex9 => ?_)
   have tx9 : x9.toInt = x0.toInt + 2 := (jadd ex9 rfl jz_2 (by omega) (by omega)).trans (by omega)
   exact by
    refine va_sld hx hb hX hbl hbA hS (jin tx9 (by omega) (by omega)) dL_law_750 ?_
    have g10 := jrg (rfl : (xs x9.toNatClampNeg).toInt = (xs x9.toNatClampNeg).toInt)
    refine jcallV (As := [.int (xs x7.toNatClampNeg), .int (xs x9.toNatClampNeg)]) (rest := []) ⟨hx, hb, hml, hown, hts⟩ hK hP hA hS hZ (c_X11_learn l D cI cL ad zz hJ σ τ (xs x7.toNatClampNeg) ((xs x7.toNatClampNeg).toInt) rfl (xs x9.toNatClampNeg) ((xs x9.toNatClampNeg).toInt) rfl hI2) cw_RL_89 (jc_0 cI cL ad σ τ) rfl ⟨Nat.le_of_ble_eq_true rfl, Nat.le_of_ble_eq_true rfl⟩ rfl rfl rfl hl.1 rfl (Nat.le_of_ble_eq_true rfl) dL_law_751 ⟨Nat.le_of_ble_eq_true rfl, Nat.le_of_ble_eq_true rfl⟩ (fun r12 σ11 τ11 H locs h11 hP hS => ?_)
    obtain ⟨rfl, f13, f14, I15, h11⟩ := h11
    rcases h11 with h17 | h18
    · obtain ⟨q23, k19, k20, k21, k22⟩ := h17
      have q23 := q23.symm
      subst q23
      refine lv_pop hx hb dL_law_754 rfl ?_
      refine lv_aload_n hx hb dL_law_755 rfl (lv_at hl 1 rfl) ?_
      refine lv_aload_n hx hb dL_law_756 rfl (lv_at hl 3 rfl) ?_
      refine lv_iload_n hx hb dL_law_757 rfl (lv_at hl 0 rfl) ?_
      refine lv_iconst (v := 1) hx hb dL_law_758 (of_decide_eq_true rfl) ?_
      refine lv_iadd hx hb dL_law_759 ?_
      refine jtopr ex7.symm ?_
      exact by
       refine va_sld hx hb hX hbl hbA hS (jin tx7 (by omega) (by omega)) dL_law_760 ?_
       refine lv_aload_n hx hb dL_law_761 rfl (lv_at hl 3 rfl) ?_
       refine lv_iload_n hx hb dL_law_762 rfl (lv_at hl 0 rfl) ?_
       refine lv_iconst (v := 2) hx hb dL_law_763 (of_decide_eq_true rfl) ?_
       refine lv_iadd hx hb dL_law_764 ?_
       refine jtopr ex9.symm ?_
       refine va_sld hx hb hX hbl hbA hS (jin tx9 (by omega) (by omega)) dL_law_765 ?_
       have I24 : jI101 σ11 := jI101_fr (congrFun (f13 55 (of_decide_eq_true rfl)) 4) (congrFun (f13 55 (of_decide_eq_true rfl)) 5) (f13 56 (of_decide_eq_true rfl)) (f13 57 (of_decide_eq_true rfl)) (f13 58 (of_decide_eq_true rfl)) (f13 59 (of_decide_eq_true rfl)) hI101
       have I25 : jI102 σ11 := jI102_fr (congrFun (f13 55 (of_decide_eq_true rfl)) 6) (f13 60 (of_decide_eq_true rfl)) (f13 61 (of_decide_eq_true rfl)) hI102
       exact by
        have z26 : (σ11 55 6).toInt = (σ 55 6).toInt := (congrArg Int32.toInt (show σ11 55 6 = (σ 55 6) from (congrFun (f13 55 (of_decide_eq_true rfl)) 6)))
        have z27 : (σ11 55 5).toInt = (σ 55 5).toInt := (congrArg Int32.toInt (show σ11 55 5 = (σ 55 5) from (congrFun (f13 55 (of_decide_eq_true rfl)) 5)))
        have z28 : (σ11 55 4).toInt = (σ 55 4).toInt := (congrArg Int32.toInt (show σ11 55 4 = (σ 55 4) from (congrFun (f13 55 (of_decide_eq_true rfl)) 4)))
        refine jcallV (As := [.int (xs x7.toNatClampNeg), .int (xs x9.toNatClampNeg)]) (rest := []) ⟨hx, hb, hml, hown, hts⟩ hK hP hA hS hZ (c_X12_learn l D cI cL ad zz hJ σ11 τ (xs x7.toNatClampNeg) ((xs x7.toNatClampNeg).toInt) rfl (xs x9.toNatClampNeg) ((xs x9.toNatClampNeg).toInt) rfl I24 I25) cw_RL_92 (jc_55 cI cL ad σ11 τ) rfl ⟨Nat.le_of_ble_eq_true rfl, Nat.le_of_ble_eq_true rfl⟩ rfl rfl rfl hl.1 rfl (Nat.le_of_ble_eq_true rfl) dL_law_766 ⟨Nat.le_of_ble_eq_true rfl, Nat.le_of_ble_eq_true rfl⟩ (fun r30 σ29 τ29 H locs h29 hP hS => ?_)
        obtain ⟨rfl, f31, f32, I33, h29⟩ := h29
        rcases h29 with h35 | h36
        · obtain ⟨q41, k37, k38, k39, k40⟩ := h35
          have q41 := q41.symm
          subst q41
          refine lv_pop hx hb dL_law_769 rfl ?_
          refine lv_goto (tgt := 1357) hx hb dL_law_770 (of_decide_eq_true rfl) ?_
          obtain ⟨x42, ex42⟩ : ∃ y : Int32, y = x0 + 6 := ⟨_, rfl⟩
          exact by
           have tx42 : x42.toInt = x0.toInt + 6 := (jadd ex42 rfl jz_6 (by omega) (by omega)).trans (by omega)
           refine lv_iinc (v := x42) (lv' := [(3, .int x42), (2, .ref (ad 55)), (1, .ref (ad 0)), (0, .ref b)]) hx hb dL_law_1357 hl (k := 0) rfl (by rw [ex42]; rfl) (of_decide_eq_true rfl) rfl (fun ls hl => ?_)
           refine lv_goto (tgt := 18) hx hb dL_law_1360 (of_decide_eq_true rfl) ?_
           have I43 : jI2 σ29 := jI2_fr (congrFun (f31 2 (of_decide_eq_true rfl)) 0) (congrFun (f31 2 (of_decide_eq_true rfl)) 1) (congrFun (f31 2 (of_decide_eq_true rfl)) 2) (congrFun (f31 2 (of_decide_eq_true rfl)) 3) (f31 6 (of_decide_eq_true rfl)) I15
           have I44 : jI9 σ29 := jI9_fr ((congrFun (f31 9 (of_decide_eq_true rfl)) 0).trans (congrFun (f13 9 (of_decide_eq_true rfl)) 0)) ((f31 10 (of_decide_eq_true rfl)).trans (f13 10 (of_decide_eq_true rfl))) ((f31 11 (of_decide_eq_true rfl)).trans (f13 11 (of_decide_eq_true rfl))) hI9
           have I45 : jI12 σ29 := jI12_fr ((congrFun (f31 12 (of_decide_eq_true rfl)) 0).trans (congrFun (f13 12 (of_decide_eq_true rfl)) 0)) ((f31 13 (of_decide_eq_true rfl)).trans (f13 13 (of_decide_eq_true rfl))) hI12
           have I46 : jI16 σ29 := jI16_fr ((congrFun (f31 16 (of_decide_eq_true rfl)) 0).trans (congrFun (f13 16 (of_decide_eq_true rfl)) 0)) ((congrFun (f31 16 (of_decide_eq_true rfl)) 1).trans (congrFun (f13 16 (of_decide_eq_true rfl)) 1)) ((congrFun (f31 16 (of_decide_eq_true rfl)) 2).trans (congrFun (f13 16 (of_decide_eq_true rfl)) 2)) ((f31 17 (of_decide_eq_true rfl)).trans (f13 17 (of_decide_eq_true rfl))) hI16
           have I47 : jI18 σ29 := jI18_fr ((congrFun (f31 18 (of_decide_eq_true rfl)) 0).trans (congrFun (f13 18 (of_decide_eq_true rfl)) 0)) ((f31 19 (of_decide_eq_true rfl)).trans (f13 19 (of_decide_eq_true rfl))) hI18
           have I48 : jI22 σ29 := jI22_fr ((congrFun (f31 22 (of_decide_eq_true rfl)) 0).trans (congrFun (f13 22 (of_decide_eq_true rfl)) 0)) ((f31 23 (of_decide_eq_true rfl)).trans (f13 23 (of_decide_eq_true rfl))) hI22
           exact by
            have I49 : jI31 σ29 := jI31_fr ((congrFun (f31 31 (of_decide_eq_true rfl)) 8).trans (congrFun (f13 31 (of_decide_eq_true rfl)) 8)) ((f31 33 (of_decide_eq_true rfl)).trans (f13 33 (of_decide_eq_true rfl))) ((f31 36 (of_decide_eq_true rfl)).trans (f13 36 (of_decide_eq_true rfl))) hI31
            have I50 : jI38 σ29 := jI38_fr ((congrFun (f31 38 (of_decide_eq_true rfl)) 0).trans (congrFun (f13 38 (of_decide_eq_true rfl)) 0)) ((congrFun (f31 38 (of_decide_eq_true rfl)) 1).trans (congrFun (f13 38 (of_decide_eq_true rfl)) 1)) ((f31 39 (of_decide_eq_true rfl)).trans (f13 39 (of_decide_eq_true rfl))) hI38
            have I51 : jI43 σ29 := jI43_fr ((congrFun (f31 43 (of_decide_eq_true rfl)) 8).trans (congrFun (f13 43 (of_decide_eq_true rfl)) 8)) hI43
            have I52 : jI47 σ29 := jI47_fr ((congrFun (f31 47 (of_decide_eq_true rfl)) 0).trans (congrFun (f13 47 (of_decide_eq_true rfl)) 0)) ((f31 48 (of_decide_eq_true rfl)).trans (f13 48 (of_decide_eq_true rfl))) ((f31 49 (of_decide_eq_true rfl)).trans (f13 49 (of_decide_eq_true rfl))) hI47
            have I53 : jI50 σ29 := jI50_fr ((f31 52 (of_decide_eq_true rfl)).trans (f13 52 (of_decide_eq_true rfl))) hI50
            have I54 : jI102 σ29 := jI102_fr (f32 6 (of_decide_eq_true rfl)) (f31 60 (of_decide_eq_true rfl)) (f31 61 (of_decide_eq_true rfl)) I25
            have I55 : jI103 σ29 := jI103_fr ((f32 9 (of_decide_eq_true rfl)).trans (congrFun (f13 55 (of_decide_eq_true rfl)) 9)) hI103
            have I56 : jI104 σ29 := jI104_fr ((f32 10 (of_decide_eq_true rfl)).trans (congrFun (f13 55 (of_decide_eq_true rfl)) 10)) ((f32 12 (of_decide_eq_true rfl)).trans (congrFun (f13 55 (of_decide_eq_true rfl)) 12)) ((f32 13 (of_decide_eq_true rfl)).trans (congrFun (f13 55 (of_decide_eq_true rfl)) 13)) ((f31 62 (of_decide_eq_true rfl)).trans (f13 62 (of_decide_eq_true rfl))) ((f31 67 (of_decide_eq_true rfl)).trans (f13 67 (of_decide_eq_true rfl))) hI104
            have I57 : jI105 σ29 := jI105_fr ((f32 15 (of_decide_eq_true rfl)).trans (congrFun (f13 55 (of_decide_eq_true rfl)) 15)) ((f31 65 (of_decide_eq_true rfl)).trans (f13 65 (of_decide_eq_true rfl))) hI105
            have I58 : jI106 σ29 := jI106_fr ((f32 32 (of_decide_eq_true rfl)).trans (congrFun (f13 55 (of_decide_eq_true rfl)) 32)) ((f31 70 (of_decide_eq_true rfl)).trans (f13 70 (of_decide_eq_true rfl))) ((f31 71 (of_decide_eq_true rfl)).trans (f13 71 (of_decide_eq_true rfl))) ((f31 72 (of_decide_eq_true rfl)).trans (f13 72 (of_decide_eq_true rfl))) hI106
            have I59 : jI107 σ29 := jI107_fr ((f32 12 (of_decide_eq_true rfl)).trans (congrFun (f13 55 (of_decide_eq_true rfl)) 12)) ((f32 47 (of_decide_eq_true rfl)).trans (congrFun (f13 55 (of_decide_eq_true rfl)) 47)) ((f31 80 (of_decide_eq_true rfl)).trans (f13 80 (of_decide_eq_true rfl))) hI107
            have I60 : jI109 σ29 := jI109_fr ((f32 50 (of_decide_eq_true rfl)).trans (congrFun (f13 55 (of_decide_eq_true rfl)) 50)) hI109
            have I61 : jI110 σ29 := jI110_fr ((f31 86 (of_decide_eq_true rfl)).trans (f13 86 (of_decide_eq_true rfl))) ((f31 87 (of_decide_eq_true rfl)).trans (f13 87 (of_decide_eq_true rfl))) hI110
            have I62 : jI111 σ29 := jI111_fr ((f31 79 (of_decide_eq_true rfl)).trans (f13 79 (of_decide_eq_true rfl))) hI111
            have I63 : jI119 σ29 := jI119_fr ((f31 68 (of_decide_eq_true rfl)).trans (f13 68 (of_decide_eq_true rfl))) hI119
            have p64 : jKept σ29 := jKept.fr ((f31 75 (of_decide_eq_true rfl)).trans (f13 75 (of_decide_eq_true rfl))) ((f31 76 (of_decide_eq_true rfl)).trans (f13 76 (of_decide_eq_true rfl))) ((f31 77 (of_decide_eq_true rfl)).trans (f13 77 (of_decide_eq_true rfl))) hs_jKept
            have p65 : jBook σ29 := jBook.fr ((f32 47 (of_decide_eq_true rfl)).trans (congrFun (f13 55 (of_decide_eq_true rfl)) 47)) ((f32 10 (of_decide_eq_true rfl)).trans (congrFun (f13 55 (of_decide_eq_true rfl)) 10)) ((f31 81 (of_decide_eq_true rfl)).trans (f13 81 (of_decide_eq_true rfl))) hs_jBook
            have z66 : (σ29 9 0).toInt = (σ 9 0).toInt := (congrArg Int32.toInt (show σ29 9 0 = (σ 9 0) from ((congrFun (f31 9 (of_decide_eq_true rfl)) 0).trans (congrFun (f13 9 (of_decide_eq_true rfl)) 0))))
            have z67 : (σ29 55 15).toInt = (σ 55 15).toInt := (congrArg Int32.toInt (show σ29 55 15 = (σ 55 15) from ((f32 15 (of_decide_eq_true rfl)).trans (congrFun (f13 55 (of_decide_eq_true rfl)) 15))))
            exact by exact ih x42 σ29 τ _ _ ls (by have h9 := tx42; omega) ⟨I43, I44, I45, I46, I47, I48, I49, I50, I51, I52, I53, I33, I54, I55, I56, I57, I58, I59, I60, I61, I62, I63, p64, p65, (by omega), (show jTp (σ29 10) (σ29 63) (σ29 55 15).toInt by rw [show σ29 10 = σ 10 from ((f31 10 (of_decide_eq_true rfl)).trans (f13 10 (of_decide_eq_true rfl))), show σ29 63 = σ 63 from ((f31 63 (of_decide_eq_true rfl)).trans (f13 63 (of_decide_eq_true rfl)))]; exact hr0.le (by omega))⟩ hP hS (lv_sub hl [0, 1, 2, 3] rfl)
        · obtain ⟨q75, k68, k69, k70, k71, k72, k73, k74⟩ := h36
          refine lv_pop hx hb dL_law_769 rfl ?_
          refine lv_goto (tgt := 1357) hx hb dL_law_770 (of_decide_eq_true rfl) ?_
          obtain ⟨x76, ex76⟩ : ∃ y : Int32, y = x0 + 6 := ⟨_, rfl⟩
          exact by
           have tx76 : x76.toInt = x0.toInt + 6 := (jadd ex76 rfl jz_6 (by omega) (by omega)).trans (by omega)
           refine lv_iinc (v := x76) (lv' := [(3, .int x76), (2, .ref (ad 55)), (1, .ref (ad 0)), (0, .ref b)]) hx hb dL_law_1357 hl (k := 0) rfl (by rw [ex76]; rfl) (of_decide_eq_true rfl) rfl (fun ls hl => ?_)
           refine lv_goto (tgt := 18) hx hb dL_law_1360 (of_decide_eq_true rfl) ?_
           have I77 : jI2 σ29 := jI2_fr (congrFun (f31 2 (of_decide_eq_true rfl)) 0) (congrFun (f31 2 (of_decide_eq_true rfl)) 1) (congrFun (f31 2 (of_decide_eq_true rfl)) 2) (congrFun (f31 2 (of_decide_eq_true rfl)) 3) (f31 6 (of_decide_eq_true rfl)) I15
           have I78 : jI9 σ29 := jI9_fr ((congrFun (f31 9 (of_decide_eq_true rfl)) 0).trans (congrFun (f13 9 (of_decide_eq_true rfl)) 0)) ((f31 10 (of_decide_eq_true rfl)).trans (f13 10 (of_decide_eq_true rfl))) ((f31 11 (of_decide_eq_true rfl)).trans (f13 11 (of_decide_eq_true rfl))) hI9
           have I79 : jI12 σ29 := jI12_fr ((congrFun (f31 12 (of_decide_eq_true rfl)) 0).trans (congrFun (f13 12 (of_decide_eq_true rfl)) 0)) ((f31 13 (of_decide_eq_true rfl)).trans (f13 13 (of_decide_eq_true rfl))) hI12
           have I80 : jI16 σ29 := jI16_fr ((congrFun (f31 16 (of_decide_eq_true rfl)) 0).trans (congrFun (f13 16 (of_decide_eq_true rfl)) 0)) ((congrFun (f31 16 (of_decide_eq_true rfl)) 1).trans (congrFun (f13 16 (of_decide_eq_true rfl)) 1)) ((congrFun (f31 16 (of_decide_eq_true rfl)) 2).trans (congrFun (f13 16 (of_decide_eq_true rfl)) 2)) ((f31 17 (of_decide_eq_true rfl)).trans (f13 17 (of_decide_eq_true rfl))) hI16
           have I81 : jI18 σ29 := jI18_fr ((congrFun (f31 18 (of_decide_eq_true rfl)) 0).trans (congrFun (f13 18 (of_decide_eq_true rfl)) 0)) ((f31 19 (of_decide_eq_true rfl)).trans (f13 19 (of_decide_eq_true rfl))) hI18
           have I82 : jI22 σ29 := jI22_fr ((congrFun (f31 22 (of_decide_eq_true rfl)) 0).trans (congrFun (f13 22 (of_decide_eq_true rfl)) 0)) ((f31 23 (of_decide_eq_true rfl)).trans (f13 23 (of_decide_eq_true rfl))) hI22
           exact by
            have I83 : jI31 σ29 := jI31_fr ((congrFun (f31 31 (of_decide_eq_true rfl)) 8).trans (congrFun (f13 31 (of_decide_eq_true rfl)) 8)) ((f31 33 (of_decide_eq_true rfl)).trans (f13 33 (of_decide_eq_true rfl))) ((f31 36 (of_decide_eq_true rfl)).trans (f13 36 (of_decide_eq_true rfl))) hI31
            have I84 : jI38 σ29 := jI38_fr ((congrFun (f31 38 (of_decide_eq_true rfl)) 0).trans (congrFun (f13 38 (of_decide_eq_true rfl)) 0)) ((congrFun (f31 38 (of_decide_eq_true rfl)) 1).trans (congrFun (f13 38 (of_decide_eq_true rfl)) 1)) ((f31 39 (of_decide_eq_true rfl)).trans (f13 39 (of_decide_eq_true rfl))) hI38
            have I85 : jI43 σ29 := jI43_fr ((congrFun (f31 43 (of_decide_eq_true rfl)) 8).trans (congrFun (f13 43 (of_decide_eq_true rfl)) 8)) hI43
            have I86 : jI47 σ29 := jI47_fr ((congrFun (f31 47 (of_decide_eq_true rfl)) 0).trans (congrFun (f13 47 (of_decide_eq_true rfl)) 0)) ((f31 48 (of_decide_eq_true rfl)).trans (f13 48 (of_decide_eq_true rfl))) ((f31 49 (of_decide_eq_true rfl)).trans (f13 49 (of_decide_eq_true rfl))) hI47
            have I87 : jI50 σ29 := jI50_fr ((f31 52 (of_decide_eq_true rfl)).trans (f13 52 (of_decide_eq_true rfl))) hI50
            have I88 : jI102 σ29 := jI102_fr (f32 6 (of_decide_eq_true rfl)) (f31 60 (of_decide_eq_true rfl)) (f31 61 (of_decide_eq_true rfl)) I25
            have I89 : jI103 σ29 := jI103_fr ((f32 9 (of_decide_eq_true rfl)).trans (congrFun (f13 55 (of_decide_eq_true rfl)) 9)) hI103
            have I90 : jI104 σ29 := jI104_fr ((f32 10 (of_decide_eq_true rfl)).trans (congrFun (f13 55 (of_decide_eq_true rfl)) 10)) ((f32 12 (of_decide_eq_true rfl)).trans (congrFun (f13 55 (of_decide_eq_true rfl)) 12)) ((f32 13 (of_decide_eq_true rfl)).trans (congrFun (f13 55 (of_decide_eq_true rfl)) 13)) ((f31 62 (of_decide_eq_true rfl)).trans (f13 62 (of_decide_eq_true rfl))) ((f31 67 (of_decide_eq_true rfl)).trans (f13 67 (of_decide_eq_true rfl))) hI104
            have I91 : jI105 σ29 := jI105_fr ((f32 15 (of_decide_eq_true rfl)).trans (congrFun (f13 55 (of_decide_eq_true rfl)) 15)) ((f31 65 (of_decide_eq_true rfl)).trans (f13 65 (of_decide_eq_true rfl))) hI105
            have I92 : jI106 σ29 := jI106_fr ((f32 32 (of_decide_eq_true rfl)).trans (congrFun (f13 55 (of_decide_eq_true rfl)) 32)) ((f31 70 (of_decide_eq_true rfl)).trans (f13 70 (of_decide_eq_true rfl))) ((f31 71 (of_decide_eq_true rfl)).trans (f13 71 (of_decide_eq_true rfl))) ((f31 72 (of_decide_eq_true rfl)).trans (f13 72 (of_decide_eq_true rfl))) hI106
            have I93 : jI107 σ29 := jI107_fr ((f32 12 (of_decide_eq_true rfl)).trans (congrFun (f13 55 (of_decide_eq_true rfl)) 12)) ((f32 47 (of_decide_eq_true rfl)).trans (congrFun (f13 55 (of_decide_eq_true rfl)) 47)) ((f31 80 (of_decide_eq_true rfl)).trans (f13 80 (of_decide_eq_true rfl))) hI107
            have I94 : jI109 σ29 := jI109_fr ((f32 50 (of_decide_eq_true rfl)).trans (congrFun (f13 55 (of_decide_eq_true rfl)) 50)) hI109
            have I95 : jI110 σ29 := jI110_fr ((f31 86 (of_decide_eq_true rfl)).trans (f13 86 (of_decide_eq_true rfl))) ((f31 87 (of_decide_eq_true rfl)).trans (f13 87 (of_decide_eq_true rfl))) hI110
            have I96 : jI111 σ29 := jI111_fr ((f31 79 (of_decide_eq_true rfl)).trans (f13 79 (of_decide_eq_true rfl))) hI111
            have I97 : jI119 σ29 := jI119_fr ((f31 68 (of_decide_eq_true rfl)).trans (f13 68 (of_decide_eq_true rfl))) hI119
            have p98 : jKept σ29 := jKept.fr ((f31 75 (of_decide_eq_true rfl)).trans (f13 75 (of_decide_eq_true rfl))) ((f31 76 (of_decide_eq_true rfl)).trans (f13 76 (of_decide_eq_true rfl))) ((f31 77 (of_decide_eq_true rfl)).trans (f13 77 (of_decide_eq_true rfl))) hs_jKept
            have p99 : jBook σ29 := jBook.fr ((f32 47 (of_decide_eq_true rfl)).trans (congrFun (f13 55 (of_decide_eq_true rfl)) 47)) ((f32 10 (of_decide_eq_true rfl)).trans (congrFun (f13 55 (of_decide_eq_true rfl)) 10)) ((f31 81 (of_decide_eq_true rfl)).trans (f13 81 (of_decide_eq_true rfl))) hs_jBook
            have z100 : (σ29 9 0).toInt = (σ 9 0).toInt := (congrArg Int32.toInt (show σ29 9 0 = (σ 9 0) from ((congrFun (f31 9 (of_decide_eq_true rfl)) 0).trans (congrFun (f13 9 (of_decide_eq_true rfl)) 0))))
            have z101 : (σ29 55 15).toInt = (σ 55 15).toInt := (congrArg Int32.toInt (show σ29 55 15 = (σ 55 15) from ((f32 15 (of_decide_eq_true rfl)).trans (congrFun (f13 55 (of_decide_eq_true rfl)) 15))))
            exact by exact ih x76 σ29 τ _ _ ls (by have h9 := tx76; omega) ⟨I77, I78, I79, I80, I81, I82, I83, I84, I85, I86, I87, I33, I88, I89, I90, I91, I92, I93, I94, I95, I96, I97, p98, p99, (by omega), (show jTp (σ29 10) (σ29 63) (σ29 55 15).toInt by rw [show σ29 10 = σ 10 from ((f31 10 (of_decide_eq_true rfl)).trans (f13 10 (of_decide_eq_true rfl))), show σ29 63 = σ 63 from ((f31 63 (of_decide_eq_true rfl)).trans (f13 63 (of_decide_eq_true rfl)))]; exact hr0.le (by omega))⟩ hP hS (lv_sub hl [0, 1, 2, 3] rfl)
    · obtain ⟨q109, k102, k103, k104, k105, k106, k107, k108⟩ := h18
      refine lv_pop hx hb dL_law_754 rfl ?_
      refine lv_aload_n hx hb dL_law_755 rfl (lv_at hl 1 rfl) ?_
      refine lv_aload_n hx hb dL_law_756 rfl (lv_at hl 3 rfl) ?_
      refine lv_iload_n hx hb dL_law_757 rfl (lv_at hl 0 rfl) ?_
      refine lv_iconst (v := 1) hx hb dL_law_758 (of_decide_eq_true rfl) ?_
      refine lv_iadd hx hb dL_law_759 ?_
      refine jtopr ex7.symm ?_
      exact by
       refine va_sld hx hb hX hbl hbA hS (jin tx7 (by omega) (by omega)) dL_law_760 ?_
       refine lv_aload_n hx hb dL_law_761 rfl (lv_at hl 3 rfl) ?_
       refine lv_iload_n hx hb dL_law_762 rfl (lv_at hl 0 rfl) ?_
       refine lv_iconst (v := 2) hx hb dL_law_763 (of_decide_eq_true rfl) ?_
       refine lv_iadd hx hb dL_law_764 ?_
       refine jtopr ex9.symm ?_
       refine va_sld hx hb hX hbl hbA hS (jin tx9 (by omega) (by omega)) dL_law_765 ?_
       have I110 : jI101 σ11 := jI101_fr (congrFun (f13 55 (of_decide_eq_true rfl)) 4) (congrFun (f13 55 (of_decide_eq_true rfl)) 5) (f13 56 (of_decide_eq_true rfl)) (f13 57 (of_decide_eq_true rfl)) (f13 58 (of_decide_eq_true rfl)) (f13 59 (of_decide_eq_true rfl)) hI101
       have I111 : jI102 σ11 := jI102_fr (congrFun (f13 55 (of_decide_eq_true rfl)) 6) (f13 60 (of_decide_eq_true rfl)) (f13 61 (of_decide_eq_true rfl)) hI102
       exact by
        have z112 : (σ11 55 6).toInt = (σ 55 6).toInt := (congrArg Int32.toInt (show σ11 55 6 = (σ 55 6) from (congrFun (f13 55 (of_decide_eq_true rfl)) 6)))
        have z113 : (σ11 55 5).toInt = (σ 55 5).toInt := (congrArg Int32.toInt (show σ11 55 5 = (σ 55 5) from (congrFun (f13 55 (of_decide_eq_true rfl)) 5)))
        have z114 : (σ11 55 4).toInt = (σ 55 4).toInt := (congrArg Int32.toInt (show σ11 55 4 = (σ 55 4) from (congrFun (f13 55 (of_decide_eq_true rfl)) 4)))
        refine jcallV (As := [.int (xs x7.toNatClampNeg), .int (xs x9.toNatClampNeg)]) (rest := []) ⟨hx, hb, hml, hown, hts⟩ hK hP hA hS hZ (c_X12_learn l D cI cL ad zz hJ σ11 τ (xs x7.toNatClampNeg) ((xs x7.toNatClampNeg).toInt) rfl (xs x9.toNatClampNeg) ((xs x9.toNatClampNeg).toInt) rfl I110 I111) cw_RL_92 (jc_55 cI cL ad σ11 τ) rfl ⟨Nat.le_of_ble_eq_true rfl, Nat.le_of_ble_eq_true rfl⟩ rfl rfl rfl hl.1 rfl (Nat.le_of_ble_eq_true rfl) dL_law_766 ⟨Nat.le_of_ble_eq_true rfl, Nat.le_of_ble_eq_true rfl⟩ (fun r116 σ115 τ115 H locs h115 hP hS => ?_)
        obtain ⟨rfl, f117, f118, I119, h115⟩ := h115
        rcases h115 with h121 | h122
        · obtain ⟨q127, k123, k124, k125, k126⟩ := h121
          have q127 := q127.symm
          subst q127
          refine lv_pop hx hb dL_law_769 rfl ?_
          refine lv_goto (tgt := 1357) hx hb dL_law_770 (of_decide_eq_true rfl) ?_
          obtain ⟨x128, ex128⟩ : ∃ y : Int32, y = x0 + 6 := ⟨_, rfl⟩
          exact by
           have tx128 : x128.toInt = x0.toInt + 6 := (jadd ex128 rfl jz_6 (by omega) (by omega)).trans (by omega)
           refine lv_iinc (v := x128) (lv' := [(3, .int x128), (2, .ref (ad 55)), (1, .ref (ad 0)), (0, .ref b)]) hx hb dL_law_1357 hl (k := 0) rfl (by rw [ex128]; rfl) (of_decide_eq_true rfl) rfl (fun ls hl => ?_)
           refine lv_goto (tgt := 18) hx hb dL_law_1360 (of_decide_eq_true rfl) ?_
           have I129 : jI2 σ115 := jI2_fr (congrFun (f117 2 (of_decide_eq_true rfl)) 0) (congrFun (f117 2 (of_decide_eq_true rfl)) 1) (congrFun (f117 2 (of_decide_eq_true rfl)) 2) (congrFun (f117 2 (of_decide_eq_true rfl)) 3) (f117 6 (of_decide_eq_true rfl)) I15
           have I130 : jI9 σ115 := jI9_fr ((congrFun (f117 9 (of_decide_eq_true rfl)) 0).trans (congrFun (f13 9 (of_decide_eq_true rfl)) 0)) ((f117 10 (of_decide_eq_true rfl)).trans (f13 10 (of_decide_eq_true rfl))) ((f117 11 (of_decide_eq_true rfl)).trans (f13 11 (of_decide_eq_true rfl))) hI9
           have I131 : jI12 σ115 := jI12_fr ((congrFun (f117 12 (of_decide_eq_true rfl)) 0).trans (congrFun (f13 12 (of_decide_eq_true rfl)) 0)) ((f117 13 (of_decide_eq_true rfl)).trans (f13 13 (of_decide_eq_true rfl))) hI12
           have I132 : jI16 σ115 := jI16_fr ((congrFun (f117 16 (of_decide_eq_true rfl)) 0).trans (congrFun (f13 16 (of_decide_eq_true rfl)) 0)) ((congrFun (f117 16 (of_decide_eq_true rfl)) 1).trans (congrFun (f13 16 (of_decide_eq_true rfl)) 1)) ((congrFun (f117 16 (of_decide_eq_true rfl)) 2).trans (congrFun (f13 16 (of_decide_eq_true rfl)) 2)) ((f117 17 (of_decide_eq_true rfl)).trans (f13 17 (of_decide_eq_true rfl))) hI16
           have I133 : jI18 σ115 := jI18_fr ((congrFun (f117 18 (of_decide_eq_true rfl)) 0).trans (congrFun (f13 18 (of_decide_eq_true rfl)) 0)) ((f117 19 (of_decide_eq_true rfl)).trans (f13 19 (of_decide_eq_true rfl))) hI18
           have I134 : jI22 σ115 := jI22_fr ((congrFun (f117 22 (of_decide_eq_true rfl)) 0).trans (congrFun (f13 22 (of_decide_eq_true rfl)) 0)) ((f117 23 (of_decide_eq_true rfl)).trans (f13 23 (of_decide_eq_true rfl))) hI22
           exact by
            have I135 : jI31 σ115 := jI31_fr ((congrFun (f117 31 (of_decide_eq_true rfl)) 8).trans (congrFun (f13 31 (of_decide_eq_true rfl)) 8)) ((f117 33 (of_decide_eq_true rfl)).trans (f13 33 (of_decide_eq_true rfl))) ((f117 36 (of_decide_eq_true rfl)).trans (f13 36 (of_decide_eq_true rfl))) hI31
            have I136 : jI38 σ115 := jI38_fr ((congrFun (f117 38 (of_decide_eq_true rfl)) 0).trans (congrFun (f13 38 (of_decide_eq_true rfl)) 0)) ((congrFun (f117 38 (of_decide_eq_true rfl)) 1).trans (congrFun (f13 38 (of_decide_eq_true rfl)) 1)) ((f117 39 (of_decide_eq_true rfl)).trans (f13 39 (of_decide_eq_true rfl))) hI38
            have I137 : jI43 σ115 := jI43_fr ((congrFun (f117 43 (of_decide_eq_true rfl)) 8).trans (congrFun (f13 43 (of_decide_eq_true rfl)) 8)) hI43
            have I138 : jI47 σ115 := jI47_fr ((congrFun (f117 47 (of_decide_eq_true rfl)) 0).trans (congrFun (f13 47 (of_decide_eq_true rfl)) 0)) ((f117 48 (of_decide_eq_true rfl)).trans (f13 48 (of_decide_eq_true rfl))) ((f117 49 (of_decide_eq_true rfl)).trans (f13 49 (of_decide_eq_true rfl))) hI47
            have I139 : jI50 σ115 := jI50_fr ((f117 52 (of_decide_eq_true rfl)).trans (f13 52 (of_decide_eq_true rfl))) hI50
            have I140 : jI102 σ115 := jI102_fr (f118 6 (of_decide_eq_true rfl)) (f117 60 (of_decide_eq_true rfl)) (f117 61 (of_decide_eq_true rfl)) I111
            have I141 : jI103 σ115 := jI103_fr ((f118 9 (of_decide_eq_true rfl)).trans (congrFun (f13 55 (of_decide_eq_true rfl)) 9)) hI103
            have I142 : jI104 σ115 := jI104_fr ((f118 10 (of_decide_eq_true rfl)).trans (congrFun (f13 55 (of_decide_eq_true rfl)) 10)) ((f118 12 (of_decide_eq_true rfl)).trans (congrFun (f13 55 (of_decide_eq_true rfl)) 12)) ((f118 13 (of_decide_eq_true rfl)).trans (congrFun (f13 55 (of_decide_eq_true rfl)) 13)) ((f117 62 (of_decide_eq_true rfl)).trans (f13 62 (of_decide_eq_true rfl))) ((f117 67 (of_decide_eq_true rfl)).trans (f13 67 (of_decide_eq_true rfl))) hI104
            have I143 : jI105 σ115 := jI105_fr ((f118 15 (of_decide_eq_true rfl)).trans (congrFun (f13 55 (of_decide_eq_true rfl)) 15)) ((f117 65 (of_decide_eq_true rfl)).trans (f13 65 (of_decide_eq_true rfl))) hI105
            have I144 : jI106 σ115 := jI106_fr ((f118 32 (of_decide_eq_true rfl)).trans (congrFun (f13 55 (of_decide_eq_true rfl)) 32)) ((f117 70 (of_decide_eq_true rfl)).trans (f13 70 (of_decide_eq_true rfl))) ((f117 71 (of_decide_eq_true rfl)).trans (f13 71 (of_decide_eq_true rfl))) ((f117 72 (of_decide_eq_true rfl)).trans (f13 72 (of_decide_eq_true rfl))) hI106
            have I145 : jI107 σ115 := jI107_fr ((f118 12 (of_decide_eq_true rfl)).trans (congrFun (f13 55 (of_decide_eq_true rfl)) 12)) ((f118 47 (of_decide_eq_true rfl)).trans (congrFun (f13 55 (of_decide_eq_true rfl)) 47)) ((f117 80 (of_decide_eq_true rfl)).trans (f13 80 (of_decide_eq_true rfl))) hI107
            have I146 : jI109 σ115 := jI109_fr ((f118 50 (of_decide_eq_true rfl)).trans (congrFun (f13 55 (of_decide_eq_true rfl)) 50)) hI109
            have I147 : jI110 σ115 := jI110_fr ((f117 86 (of_decide_eq_true rfl)).trans (f13 86 (of_decide_eq_true rfl))) ((f117 87 (of_decide_eq_true rfl)).trans (f13 87 (of_decide_eq_true rfl))) hI110
            have I148 : jI111 σ115 := jI111_fr ((f117 79 (of_decide_eq_true rfl)).trans (f13 79 (of_decide_eq_true rfl))) hI111
            have I149 : jI119 σ115 := jI119_fr ((f117 68 (of_decide_eq_true rfl)).trans (f13 68 (of_decide_eq_true rfl))) hI119
            have p150 : jKept σ115 := jKept.fr ((f117 75 (of_decide_eq_true rfl)).trans (f13 75 (of_decide_eq_true rfl))) ((f117 76 (of_decide_eq_true rfl)).trans (f13 76 (of_decide_eq_true rfl))) ((f117 77 (of_decide_eq_true rfl)).trans (f13 77 (of_decide_eq_true rfl))) hs_jKept
            have p151 : jBook σ115 := jBook.fr ((f118 47 (of_decide_eq_true rfl)).trans (congrFun (f13 55 (of_decide_eq_true rfl)) 47)) ((f118 10 (of_decide_eq_true rfl)).trans (congrFun (f13 55 (of_decide_eq_true rfl)) 10)) ((f117 81 (of_decide_eq_true rfl)).trans (f13 81 (of_decide_eq_true rfl))) hs_jBook
            have z152 : (σ115 9 0).toInt = (σ 9 0).toInt := (congrArg Int32.toInt (show σ115 9 0 = (σ 9 0) from ((congrFun (f117 9 (of_decide_eq_true rfl)) 0).trans (congrFun (f13 9 (of_decide_eq_true rfl)) 0))))
            have z153 : (σ115 55 15).toInt = (σ 55 15).toInt := (congrArg Int32.toInt (show σ115 55 15 = (σ 55 15) from ((f118 15 (of_decide_eq_true rfl)).trans (congrFun (f13 55 (of_decide_eq_true rfl)) 15))))
            exact by exact ih x128 σ115 τ _ _ ls (by have h9 := tx128; omega) ⟨I129, I130, I131, I132, I133, I134, I135, I136, I137, I138, I139, I119, I140, I141, I142, I143, I144, I145, I146, I147, I148, I149, p150, p151, (by omega), (show jTp (σ115 10) (σ115 63) (σ115 55 15).toInt by rw [show σ115 10 = σ 10 from ((f117 10 (of_decide_eq_true rfl)).trans (f13 10 (of_decide_eq_true rfl))), show σ115 63 = σ 63 from ((f117 63 (of_decide_eq_true rfl)).trans (f13 63 (of_decide_eq_true rfl)))]; exact hr0.le (by omega))⟩ hP hS (lv_sub hl [0, 1, 2, 3] rfl)
        · obtain ⟨q161, k154, k155, k156, k157, k158, k159, k160⟩ := h122
          refine lv_pop hx hb dL_law_769 rfl ?_
          refine lv_goto (tgt := 1357) hx hb dL_law_770 (of_decide_eq_true rfl) ?_
          obtain ⟨x162, ex162⟩ : ∃ y : Int32, y = x0 + 6 := ⟨_, rfl⟩
          exact by
           have tx162 : x162.toInt = x0.toInt + 6 := (jadd ex162 rfl jz_6 (by omega) (by omega)).trans (by omega)
           refine lv_iinc (v := x162) (lv' := [(3, .int x162), (2, .ref (ad 55)), (1, .ref (ad 0)), (0, .ref b)]) hx hb dL_law_1357 hl (k := 0) rfl (by rw [ex162]; rfl) (of_decide_eq_true rfl) rfl (fun ls hl => ?_)
           refine lv_goto (tgt := 18) hx hb dL_law_1360 (of_decide_eq_true rfl) ?_
           have I163 : jI2 σ115 := jI2_fr (congrFun (f117 2 (of_decide_eq_true rfl)) 0) (congrFun (f117 2 (of_decide_eq_true rfl)) 1) (congrFun (f117 2 (of_decide_eq_true rfl)) 2) (congrFun (f117 2 (of_decide_eq_true rfl)) 3) (f117 6 (of_decide_eq_true rfl)) I15
           have I164 : jI9 σ115 := jI9_fr ((congrFun (f117 9 (of_decide_eq_true rfl)) 0).trans (congrFun (f13 9 (of_decide_eq_true rfl)) 0)) ((f117 10 (of_decide_eq_true rfl)).trans (f13 10 (of_decide_eq_true rfl))) ((f117 11 (of_decide_eq_true rfl)).trans (f13 11 (of_decide_eq_true rfl))) hI9
           have I165 : jI12 σ115 := jI12_fr ((congrFun (f117 12 (of_decide_eq_true rfl)) 0).trans (congrFun (f13 12 (of_decide_eq_true rfl)) 0)) ((f117 13 (of_decide_eq_true rfl)).trans (f13 13 (of_decide_eq_true rfl))) hI12
           have I166 : jI16 σ115 := jI16_fr ((congrFun (f117 16 (of_decide_eq_true rfl)) 0).trans (congrFun (f13 16 (of_decide_eq_true rfl)) 0)) ((congrFun (f117 16 (of_decide_eq_true rfl)) 1).trans (congrFun (f13 16 (of_decide_eq_true rfl)) 1)) ((congrFun (f117 16 (of_decide_eq_true rfl)) 2).trans (congrFun (f13 16 (of_decide_eq_true rfl)) 2)) ((f117 17 (of_decide_eq_true rfl)).trans (f13 17 (of_decide_eq_true rfl))) hI16
           have I167 : jI18 σ115 := jI18_fr ((congrFun (f117 18 (of_decide_eq_true rfl)) 0).trans (congrFun (f13 18 (of_decide_eq_true rfl)) 0)) ((f117 19 (of_decide_eq_true rfl)).trans (f13 19 (of_decide_eq_true rfl))) hI18
           have I168 : jI22 σ115 := jI22_fr ((congrFun (f117 22 (of_decide_eq_true rfl)) 0).trans (congrFun (f13 22 (of_decide_eq_true rfl)) 0)) ((f117 23 (of_decide_eq_true rfl)).trans (f13 23 (of_decide_eq_true rfl))) hI22
           exact by
            have I169 : jI31 σ115 := jI31_fr ((congrFun (f117 31 (of_decide_eq_true rfl)) 8).trans (congrFun (f13 31 (of_decide_eq_true rfl)) 8)) ((f117 33 (of_decide_eq_true rfl)).trans (f13 33 (of_decide_eq_true rfl))) ((f117 36 (of_decide_eq_true rfl)).trans (f13 36 (of_decide_eq_true rfl))) hI31
            have I170 : jI38 σ115 := jI38_fr ((congrFun (f117 38 (of_decide_eq_true rfl)) 0).trans (congrFun (f13 38 (of_decide_eq_true rfl)) 0)) ((congrFun (f117 38 (of_decide_eq_true rfl)) 1).trans (congrFun (f13 38 (of_decide_eq_true rfl)) 1)) ((f117 39 (of_decide_eq_true rfl)).trans (f13 39 (of_decide_eq_true rfl))) hI38
            have I171 : jI43 σ115 := jI43_fr ((congrFun (f117 43 (of_decide_eq_true rfl)) 8).trans (congrFun (f13 43 (of_decide_eq_true rfl)) 8)) hI43
            have I172 : jI47 σ115 := jI47_fr ((congrFun (f117 47 (of_decide_eq_true rfl)) 0).trans (congrFun (f13 47 (of_decide_eq_true rfl)) 0)) ((f117 48 (of_decide_eq_true rfl)).trans (f13 48 (of_decide_eq_true rfl))) ((f117 49 (of_decide_eq_true rfl)).trans (f13 49 (of_decide_eq_true rfl))) hI47
            have I173 : jI50 σ115 := jI50_fr ((f117 52 (of_decide_eq_true rfl)).trans (f13 52 (of_decide_eq_true rfl))) hI50
            have I174 : jI102 σ115 := jI102_fr (f118 6 (of_decide_eq_true rfl)) (f117 60 (of_decide_eq_true rfl)) (f117 61 (of_decide_eq_true rfl)) I111
            have I175 : jI103 σ115 := jI103_fr ((f118 9 (of_decide_eq_true rfl)).trans (congrFun (f13 55 (of_decide_eq_true rfl)) 9)) hI103
            have I176 : jI104 σ115 := jI104_fr ((f118 10 (of_decide_eq_true rfl)).trans (congrFun (f13 55 (of_decide_eq_true rfl)) 10)) ((f118 12 (of_decide_eq_true rfl)).trans (congrFun (f13 55 (of_decide_eq_true rfl)) 12)) ((f118 13 (of_decide_eq_true rfl)).trans (congrFun (f13 55 (of_decide_eq_true rfl)) 13)) ((f117 62 (of_decide_eq_true rfl)).trans (f13 62 (of_decide_eq_true rfl))) ((f117 67 (of_decide_eq_true rfl)).trans (f13 67 (of_decide_eq_true rfl))) hI104
            have I177 : jI105 σ115 := jI105_fr ((f118 15 (of_decide_eq_true rfl)).trans (congrFun (f13 55 (of_decide_eq_true rfl)) 15)) ((f117 65 (of_decide_eq_true rfl)).trans (f13 65 (of_decide_eq_true rfl))) hI105
            have I178 : jI106 σ115 := jI106_fr ((f118 32 (of_decide_eq_true rfl)).trans (congrFun (f13 55 (of_decide_eq_true rfl)) 32)) ((f117 70 (of_decide_eq_true rfl)).trans (f13 70 (of_decide_eq_true rfl))) ((f117 71 (of_decide_eq_true rfl)).trans (f13 71 (of_decide_eq_true rfl))) ((f117 72 (of_decide_eq_true rfl)).trans (f13 72 (of_decide_eq_true rfl))) hI106
            have I179 : jI107 σ115 := jI107_fr ((f118 12 (of_decide_eq_true rfl)).trans (congrFun (f13 55 (of_decide_eq_true rfl)) 12)) ((f118 47 (of_decide_eq_true rfl)).trans (congrFun (f13 55 (of_decide_eq_true rfl)) 47)) ((f117 80 (of_decide_eq_true rfl)).trans (f13 80 (of_decide_eq_true rfl))) hI107
            have I180 : jI109 σ115 := jI109_fr ((f118 50 (of_decide_eq_true rfl)).trans (congrFun (f13 55 (of_decide_eq_true rfl)) 50)) hI109
            have I181 : jI110 σ115 := jI110_fr ((f117 86 (of_decide_eq_true rfl)).trans (f13 86 (of_decide_eq_true rfl))) ((f117 87 (of_decide_eq_true rfl)).trans (f13 87 (of_decide_eq_true rfl))) hI110
            have I182 : jI111 σ115 := jI111_fr ((f117 79 (of_decide_eq_true rfl)).trans (f13 79 (of_decide_eq_true rfl))) hI111
            have I183 : jI119 σ115 := jI119_fr ((f117 68 (of_decide_eq_true rfl)).trans (f13 68 (of_decide_eq_true rfl))) hI119
            have p184 : jKept σ115 := jKept.fr ((f117 75 (of_decide_eq_true rfl)).trans (f13 75 (of_decide_eq_true rfl))) ((f117 76 (of_decide_eq_true rfl)).trans (f13 76 (of_decide_eq_true rfl))) ((f117 77 (of_decide_eq_true rfl)).trans (f13 77 (of_decide_eq_true rfl))) hs_jKept
            have p185 : jBook σ115 := jBook.fr ((f118 47 (of_decide_eq_true rfl)).trans (congrFun (f13 55 (of_decide_eq_true rfl)) 47)) ((f118 10 (of_decide_eq_true rfl)).trans (congrFun (f13 55 (of_decide_eq_true rfl)) 10)) ((f117 81 (of_decide_eq_true rfl)).trans (f13 81 (of_decide_eq_true rfl))) hs_jBook
            have z186 : (σ115 9 0).toInt = (σ 9 0).toInt := (congrArg Int32.toInt (show σ115 9 0 = (σ 9 0) from ((congrFun (f117 9 (of_decide_eq_true rfl)) 0).trans (congrFun (f13 9 (of_decide_eq_true rfl)) 0))))
            have z187 : (σ115 55 15).toInt = (σ 55 15).toInt := (congrArg Int32.toInt (show σ115 55 15 = (σ 55 15) from ((f118 15 (of_decide_eq_true rfl)).trans (congrFun (f13 55 (of_decide_eq_true rfl)) 15))))
            exact by exact ih x162 σ115 τ _ _ ls (by have h9 := tx162; omega) ⟨I163, I164, I165, I166, I167, I168, I169, I170, I171, I172, I173, I119, I174, I175, I176, I177, I178, I179, I180, I181, I182, I183, p184, p185, (by omega), (show jTp (σ115 10) (σ115 63) (σ115 55 15).toInt by rw [show σ115 10 = σ 10 from ((f117 10 (of_decide_eq_true rfl)).trans (f13 10 (of_decide_eq_true rfl))), show σ115 63 = σ 63 from ((f117 63 (of_decide_eq_true rfl)).trans (f13 63 (of_decide_eq_true rfl)))]; exact hr0.le (by omega))⟩ hP hS (lv_sub hl [0, 1, 2, 3] rfl)
