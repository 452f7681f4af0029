set_option maxHeartbeats 4000000 in
set_option maxRecDepth 100000 in
theorem law_case_0 {p : Program} {e : Env} {s : State} {m : MethodId} {below : List Frame} {meth : Method} {c : Code} (l : Launch) {b L : Nat} {xs : Nat → Int32} {D : va_G} {cI cL : ClassId} {ad zz : Nat → Nat} (C0 : lw_At p s m meth c b L xs) (hJ : jD ad) (hA : ∀ q, jA ad q → s.heap.size ≤ q) (hK : jK D cI cL s) (hZ : jZ zz (fun q : Nat => s.heap.size ≤ q) s s.heap) {x0 : Int32} (hx0 : 0 ≤ x0.toInt) (hxL : x0.toInt + 6 ≤ (L : Int)) (hL : L ≤ 384) {σ : Nat → Nat → Int32} {τ : Nat → Nat → Int64} {H : Heap} {locs : List Loc} (hS : va_S (fun q : Nat => s.heap.size ≤ q) s.heap H locs) {ls : Array Slot} (hAll : jAll σ τ) (hP : jH D cI cL ad σ τ H) (hl : lv_has ls 4 [(3, .int x0), (2, .ref (ad 55)), (1, .ref (ad 0)), (0, .ref b)]) (ih : ∀ (x1 : Int32) (σ : Nat → Nat → Int32) (τ : Nat → Nat → Int64) (H : Heap) (locs : List Loc) (ls : Array Slot), x1.toInt = x0.toInt + 6 → jAll σ τ → jH D cI cL ad σ τ H → va_S (fun q : Nat => s.heap.size ≤ q) s.heap H locs → lv_has ls 4 [(3, .int x1), (2, .ref (ad 55)), (1, .ref (ad 0)), (0, .ref b)] → W p l e room_1 s m #[Value.ref b] below meth c H locs 90 348600 (lw_Z below #[Value.ref b] s) (F0 m 18 ls [])) : W p l e room_1 s m #[Value.ref b] below meth c H locs 90 348600 (lw_Z below #[Value.ref b] s) (F0 m 196 ls []) := by
  obtain ⟨hx, hb, hr, hml, hown, hts0, hX, hbl, hlocks, hgv⟩ := C0
  have hts : ∀ w ∈ wsL_law, w.before #[Value.ref b] s = true := fun w h => hts0 w (wsL_law_in w h)
  have hbA : ¬ (fun q : Nat => s.heap.size ≤ q) b := Nat.not_le.mpr hbl
  have hown : s.vm.findClass RL = some m.cls := hown
  obtain ⟨hI2, hI9, hI12, hI16, hI18, hI22, hI31, hI38, hI43, hI47, hI50, hI101, hI102, hI103, hI104, hI105, hI106, hI107, hI109, hI110, hI111, hI119, hs_jKept, hs_jBook, ht0, ht1, ht2, hr0⟩ := hAll
  have hL9 : (L : Int) ≤ 384 := by omega
  obtain ⟨i1, i2, i3, i4, i5, w6⟩ : (0 ≤ (σ 2 0).toInt ∧ (σ 2 0).toInt ≤ 4) ∧ (0 ≤ (σ 2 1).toInt ∧ (σ 2 1).toInt ≤ 3) ∧ (0 ≤ (σ 2 2).toInt) ∧ (0 ≤ (σ 2 3).toInt) ∧ ((σ 2 2).toInt + (σ 2 3).toInt ≤ 40) ∧ (∀ k : Nat, k < 40 → 0 ≤ (σ 6 k).toInt ∧ (σ 6 k).toInt ≤ 67) := id hI2
  obtain ⟨i7, i8, i9, w10, w11, w12, w13⟩ : (0 ≤ (σ 55 5).toInt) ∧ ((σ 55 5).toInt ≤ (σ 55 4).toInt) ∧ ((σ 55 4).toInt ≤ 40) ∧ (∀ k : Nat, k < 68 → (-200) ≤ (σ 56 k).toInt ∧ (σ 56 k).toInt ≤ 500) ∧ (∀ k : Nat, k < 40 → 0 ≤ (σ 57 k).toInt ∧ (σ 57 k).toInt ≤ 67) ∧ (∀ k : Nat, k < 40 → (-200) ≤ (σ 58 k).toInt ∧ (σ 58 k).toInt ≤ 500) ∧ (∀ k : Nat, k < 40 → (-200) ≤ (σ 59 k).toInt ∧ (σ 59 k).toInt ≤ 500) := id hI101
  obtain ⟨i14, w15, w16⟩ : (0 ≤ (σ 55 6).toInt ∧ (σ 55 6).toInt ≤ 4) ∧ (∀ k : Nat, k < 4 → 0 ≤ (σ 60 k).toInt ∧ (σ 60 k).toInt ≤ 50) ∧ (∀ k : Nat, k < 4 → 0 ≤ (σ 61 k).toInt ∧ (σ 61 k).toInt ≤ 20) := id hI102
  refine lv_aload_n hx hb dL_law_196 rfl (lv_at hl 2 rfl) ?_
  refine lv_aload_n hx hb dL_law_197 rfl (lv_at hl 3 rfl) ?_
  refine lv_iload_n hx hb dL_law_198 rfl (lv_at hl 0 rfl) ?_
  refine lv_iconst (v := 1) hx hb dL_law_199 (by decide) ?_
  have g17 := jrg (rfl : x0.toInt = x0.toInt)
  refine lv_iadd hx hb dL_law_200 ?_
  refine lv_topi (fun x18 ex18 => ?_)
  have tx18 : x18.toInt = x0.toInt + 1 := (jadd ex18 rfl jz_1 (by omega) (by omega)).trans (by omega)
  refine va_sld hx hb hX hbl hbA hS (jin tx18 (by omega) (by omega)) dL_law_201 ?_
  have g19 := jrg (rfl : (xs x18.toNatClampNeg).toInt = (xs x18.toNatClampNeg).toInt)
  refine lv_aload_n hx hb dL_law_202 rfl (lv_at hl 3 rfl) ?_
  refine lv_iload_n hx hb dL_law_203 rfl (lv_at hl 0 rfl) ?_
  refine lv_iconst (v := 2) hx hb dL_law_204 (by decide) ?_
  refine lv_iadd hx hb dL_law_205 ?_
  refine lv_topi (fun x20 ex20 => ?_)
  have tx20 : x20.toInt = x0.toInt + 2 := (jadd ex20 rfl jz_2 (by omega) (by omega)).trans (by omega)
  refine va_sld hx hb hX hbl hbA hS (jin tx20 (by omega) (by omega)) dL_law_206 ?_
  have g21 := jrg (rfl : (xs x20.toNatClampNeg).toInt = (xs x20.toNatClampNeg).toInt)
  refine lv_aload_n hx hb dL_law_207 rfl (lv_at hl 3 rfl) ?_
  refine lv_iload_n hx hb dL_law_208 rfl (lv_at hl 0 rfl) ?_
  refine lv_iconst (v := 3) hx hb dL_law_209 (by decide) ?_
  refine lv_iadd hx hb dL_law_210 ?_
  refine lv_topi (fun x22 ex22 => ?_)
  have tx22 : x22.toInt = x0.toInt + 3 := (jadd ex22 rfl jz_3 (by omega) (by omega)).trans (by omega)
  refine va_sld hx hb hX hbl hbA hS (jin tx22 (by omega) (by omega)) dL_law_211 ?_
  have g23 := jrg (rfl : (xs x22.toNatClampNeg).toInt = (xs x22.toNatClampNeg).toInt)
  refine jcallV (As := [.int (xs x18.toNatClampNeg), .int (xs x20.toNatClampNeg), .int (xs x22.toNatClampNeg)]) (rest := []) ⟨hx, hb, hml, hown, hts⟩ hK hP hA hS hZ (c_X11_bowler l D cI cL ad zz hJ σ τ (xs x18.toNatClampNeg) ((xs x18.toNatClampNeg).toInt) rfl (xs x20.toNatClampNeg) ((xs x20.toNatClampNeg).toInt) rfl (xs x22.toNatClampNeg) ((xs x22.toNatClampNeg).toInt) rfl hI2) cw_RL_13 (jc_0 cI cL ad σ τ) rfl ⟨Nat.le_of_ble_eq_true rfl, Nat.le_of_ble_eq_true rfl⟩ rfl rfl rfl hl.1 rfl (Nat.le_of_ble_eq_true rfl) dL_law_212 ⟨Nat.le_of_ble_eq_true rfl, Nat.le_of_ble_eq_true rfl⟩ (fun r25 σ24 τ24 H locs h24 hP hS => ?_)
  obtain ⟨rfl, f26, f27, I28, h24⟩ := h24
  obtain ⟨i29, i30, i31, i32, i33, w34⟩ : (0 ≤ (σ24 2 0).toInt ∧ (σ24 2 0).toInt ≤ 4) ∧ (0 ≤ (σ24 2 1).toInt ∧ (σ24 2 1).toInt ≤ 3) ∧ (0 ≤ (σ24 2 2).toInt) ∧ (0 ≤ (σ24 2 3).toInt) ∧ ((σ24 2 2).toInt + (σ24 2 3).toInt ≤ 40) ∧ (∀ k : Nat, k < 40 → 0 ≤ (σ24 6 k).toInt ∧ (σ24 6 k).toInt ≤ 67) := id I28
  have z35 : (σ24 2 1).toInt = (σ 2 1).toInt := (congrArg Int32.toInt (show σ24 2 1 = (σ 2 1) from (f27 1 (by decide))))
  have z36 : (σ24 2 2).toInt = (σ 2 2).toInt := (congrArg Int32.toInt (show σ24 2 2 = (σ 2 2) from (f27 2 (by decide))))
  have z37 : (σ24 2 3).toInt = (σ 2 3).toInt := (congrArg Int32.toInt (show σ24 2 3 = (σ 2 3) from (f27 3 (by decide))))
  rcases h24 with h38 | h39 | h40
  · obtain ⟨q44, k41, k42, k43⟩ := h38
    have q44 := q44.symm
    subst q44
    refine lv_pop hx hb dL_law_215 rfl ?_
    refine lv_aload_n hx hb dL_law_216 rfl (lv_at hl 1 rfl) ?_
    refine lv_aload_n hx hb dL_law_217 rfl (lv_at hl 3 rfl) ?_
    refine lv_iload_n hx hb dL_law_218 rfl (lv_at hl 0 rfl) ?_
    refine lv_iconst (v := 1) hx hb dL_law_219 (by decide) ?_
    refine lv_iadd hx hb dL_law_220 ?_
    refine jtopr ex18.symm ?_
    refine va_sld hx hb hX hbl hbA hS (jin tx18 (by omega) (by omega)) dL_law_221 ?_
    refine lv_aload_n hx hb dL_law_222 rfl (lv_at hl 3 rfl) ?_
    refine lv_iload_n hx hb dL_law_223 rfl (lv_at hl 0 rfl) ?_
    refine lv_iconst (v := 2) hx hb dL_law_224 (by decide) ?_
    refine lv_iadd hx hb dL_law_225 ?_
    refine jtopr ex20.symm ?_
    refine va_sld hx hb hX hbl hbA hS (jin tx20 (by omega) (by omega)) dL_law_226 ?_
    refine lv_aload_n hx hb dL_law_227 rfl (lv_at hl 3 rfl) ?_
    refine lv_iload_n hx hb dL_law_228 rfl (lv_at hl 0 rfl) ?_
    refine lv_iconst (v := 3) hx hb dL_law_229 (by decide) ?_
    refine lv_iadd hx hb dL_law_230 ?_
    refine jtopr ex22.symm ?_
    refine va_sld hx hb hX hbl hbA hS (jin tx22 (by omega) (by omega)) dL_law_231 ?_
    have I45 : jI101 σ24 := jI101_fr (congrFun (f26 55 (by decide)) 4) (congrFun (f26 55 (by decide)) 5) (f26 56 (by decide)) (f26 57 (by decide)) (f26 58 (by decide)) (f26 59 (by decide)) hI101
    have I46 : jI102 σ24 := jI102_fr (congrFun (f26 55 (by decide)) 6) (f26 60 (by decide)) (f26 61 (by decide)) hI102
    have z47 : (σ24 55 6).toInt = (σ 55 6).toInt := (congrArg Int32.toInt (show σ24 55 6 = (σ 55 6) from (congrFun (f26 55 (by decide)) 6)))
    refine jcallV (As := [.int (xs x18.toNatClampNeg), .int (xs x20.toNatClampNeg), .int (xs x22.toNatClampNeg)]) (rest := []) ⟨hx, hb, hml, hown, hts⟩ hK hP hA hS hZ (c_X12_bowler l D cI cL ad zz hJ σ24 τ (xs x18.toNatClampNeg) ((xs x18.toNatClampNeg).toInt) rfl (xs x20.toNatClampNeg) ((xs x20.toNatClampNeg).toInt) rfl (xs x22.toNatClampNeg) ((xs x22.toNatClampNeg).toInt) rfl I45 I46) cw_RL_17 (jc_55 cI cL ad σ24 τ) rfl ⟨Nat.le_of_ble_eq_true rfl, Nat.le_of_ble_eq_true rfl⟩ rfl rfl rfl hl.1 rfl (Nat.le_of_ble_eq_true rfl) dL_law_232 ⟨Nat.le_of_ble_eq_true rfl, Nat.le_of_ble_eq_true rfl⟩ (fun r49 σ48 τ48 H locs h48 hP hS => ?_)
    obtain ⟨rfl, f50, f51, I52, I53, h48⟩ := h48
    obtain ⟨i54, i55, i56, w57, w58, w59, w60⟩ : (0 ≤ (σ48 55 5).toInt) ∧ ((σ48 55 5).toInt ≤ (σ48 55 4).toInt) ∧ ((σ48 55 4).toInt ≤ 40) ∧ (∀ k : Nat, k < 68 → (-200) ≤ (σ48 56 k).toInt ∧ (σ48 56 k).toInt ≤ 500) ∧ (∀ k : Nat, k < 40 → 0 ≤ (σ48 57 k).toInt ∧ (σ48 57 k).toInt ≤ 67) ∧ (∀ k : Nat, k < 40 → (-200) ≤ (σ48 58 k).toInt ∧ (σ48 58 k).toInt ≤ 500) ∧ (∀ k : Nat, k < 40 → (-200) ≤ (σ48 59 k).toInt ∧ (σ48 59 k).toInt ≤ 500) := id I52
    obtain ⟨i61, w62, w63⟩ : (0 ≤ (σ48 55 6).toInt ∧ (σ48 55 6).toInt ≤ 4) ∧ (∀ k : Nat, k < 4 → 0 ≤ (σ48 60 k).toInt ∧ (σ48 60 k).toInt ≤ 50) ∧ (∀ k : Nat, k < 4 → 0 ≤ (σ48 61 k).toInt ∧ (σ48 61 k).toInt ≤ 20) := id I53
    have z64 : (σ48 55 5).toInt = (σ 55 5).toInt := (congrArg Int32.toInt (show σ48 55 5 = (σ 55 5) from ((f51 5 (by decide)).trans (congrFun (f26 55 (by decide)) 5))))
    have z65 : (σ48 55 4).toInt = (σ 55 4).toInt := (congrArg Int32.toInt (show σ48 55 4 = (σ 55 4) from ((f51 4 (by decide)).trans (congrFun (f26 55 (by decide)) 4))))
    rcases h48 with h66 | h67 | h68
    · obtain ⟨q72, k69, k70, k71⟩ := h66
      have q72 := q72.symm
      subst q72
      refine lv_pop hx hb dL_law_235 rfl ?_
      refine lv_goto (tgt := 1357) hx hb dL_law_236 (by decide) ?_
      obtain ⟨x73, ex73⟩ : ∃ y : Int32, y = x0 + 6 := ⟨_, rfl⟩
      have tx73 : x73.toInt = x0.toInt + 6 := (jadd ex73 rfl jz_6 (by omega) (by omega)).trans (by omega)
      refine lv_iinc (v := x73) (lv' := [(3, .int x73), (2, .ref (ad 55)), (1, .ref (ad 0)), (0, .ref b)]) hx hb dL_law_1357 hl (k := 0) rfl (by rw [ex73]; rfl) (by decide) rfl (fun ls hl => ?_)
      refine lv_goto (tgt := 18) hx hb dL_law_1360 (by decide) ?_
      have I74 : jI2 σ48 := jI2_fr (congrFun (f50 2 (by decide)) 0) (congrFun (f50 2 (by decide)) 1) (congrFun (f50 2 (by decide)) 2) (congrFun (f50 2 (by decide)) 3) (f50 6 (by decide)) I28
      have I75 : jI9 σ48 := jI9_fr ((congrFun (f50 9 (by decide)) 0).trans (congrFun (f26 9 (by decide)) 0)) ((f50 10 (by decide)).trans (f26 10 (by decide))) ((f50 11 (by decide)).trans (f26 11 (by decide))) hI9
      have I76 : jI12 σ48 := jI12_fr ((congrFun (f50 12 (by decide)) 0).trans (congrFun (f26 12 (by decide)) 0)) ((f50 13 (by decide)).trans (f26 13 (by decide))) hI12
      have I77 : jI16 σ48 := jI16_fr ((congrFun (f50 16 (by decide)) 0).trans (congrFun (f26 16 (by decide)) 0)) ((congrFun (f50 16 (by decide)) 1).trans (congrFun (f26 16 (by decide)) 1)) ((congrFun (f50 16 (by decide)) 2).trans (congrFun (f26 16 (by decide)) 2)) ((f50 17 (by decide)).trans (f26 17 (by decide))) hI16
      have I78 : jI18 σ48 := jI18_fr ((congrFun (f50 18 (by decide)) 0).trans (congrFun (f26 18 (by decide)) 0)) ((f50 19 (by decide)).trans (f26 19 (by decide))) hI18
      have I79 : jI22 σ48 := jI22_fr ((congrFun (f50 22 (by decide)) 0).trans (congrFun (f26 22 (by decide)) 0)) ((f50 23 (by decide)).trans (f26 23 (by decide))) hI22
      have I80 : jI31 σ48 := jI31_fr ((congrFun (f50 31 (by decide)) 8).trans (congrFun (f26 31 (by decide)) 8)) ((f50 33 (by decide)).trans (f26 33 (by decide))) ((f50 36 (by decide)).trans (f26 36 (by decide))) hI31
      have I81 : jI38 σ48 := jI38_fr ((congrFun (f50 38 (by decide)) 0).trans (congrFun (f26 38 (by decide)) 0)) ((congrFun (f50 38 (by decide)) 1).trans (congrFun (f26 38 (by decide)) 1)) ((f50 39 (by decide)).trans (f26 39 (by decide))) hI38
      have I82 : jI43 σ48 := jI43_fr ((congrFun (f50 43 (by decide)) 8).trans (congrFun (f26 43 (by decide)) 8)) hI43
      have I83 : jI47 σ48 := jI47_fr ((congrFun (f50 47 (by decide)) 0).trans (congrFun (f26 47 (by decide)) 0)) ((f50 49 (by decide)).trans (f26 49 (by decide))) hI47
      have I84 : jI50 σ48 := jI50_fr ((f50 52 (by decide)).trans (f26 52 (by decide))) hI50
      have I85 : jI103 σ48 := jI103_fr ((f51 9 (by decide)).trans (congrFun (f26 55 (by decide)) 9)) hI103
      have I86 : jI104 σ48 := jI104_fr ((f51 10 (by decide)).trans (congrFun (f26 55 (by decide)) 10)) ((f51 12 (by decide)).trans (congrFun (f26 55 (by decide)) 12)) ((f51 13 (by decide)).trans (congrFun (f26 55 (by decide)) 13)) ((f50 62 (by decide)).trans (f26 62 (by decide))) ((f50 67 (by decide)).trans (f26 67 (by decide))) hI104
      have I87 : jI105 σ48 := jI105_fr ((f51 15 (by decide)).trans (congrFun (f26 55 (by decide)) 15)) ((f50 65 (by decide)).trans (f26 65 (by decide))) hI105
      have I88 : jI106 σ48 := jI106_fr ((f51 32 (by decide)).trans (congrFun (f26 55 (by decide)) 32)) ((f50 70 (by decide)).trans (f26 70 (by decide))) ((f50 71 (by decide)).trans (f26 71 (by decide))) ((f50 72 (by decide)).trans (f26 72 (by decide))) hI106
      have I89 : jI107 σ48 := jI107_fr ((f51 12 (by decide)).trans (congrFun (f26 55 (by decide)) 12)) ((f51 47 (by decide)).trans (congrFun (f26 55 (by decide)) 47)) ((f50 80 (by decide)).trans (f26 80 (by decide))) hI107
      have I90 : jI109 σ48 := jI109_fr ((f51 50 (by decide)).trans (congrFun (f26 55 (by decide)) 50)) hI109
      have I91 : jI110 σ48 := jI110_fr ((f50 86 (by decide)).trans (f26 86 (by decide))) ((f50 87 (by decide)).trans (f26 87 (by decide))) hI110
      have I92 : jI111 σ48 := jI111_fr ((f50 79 (by decide)).trans (f26 79 (by decide))) hI111
      have I93 : jI119 σ48 := jI119_fr ((f50 68 (by decide)).trans (f26 68 (by decide))) hI119
      have p94 : jKept σ48 := jKept.fr ((f50 75 (by decide)).trans (f26 75 (by decide))) ((f50 76 (by decide)).trans (f26 76 (by decide))) ((f50 77 (by decide)).trans (f26 77 (by decide))) hs_jKept
      have p95 : jBook σ48 := jBook.fr ((f51 47 (by decide)).trans (congrFun (f26 55 (by decide)) 47)) ((f51 10 (by decide)).trans (congrFun (f26 55 (by decide)) 10)) ((f50 81 (by decide)).trans (f26 81 (by decide))) hs_jBook
      have z96 : (σ48 2 0).toInt = (σ24 2 0).toInt := (congrArg Int32.toInt (show σ48 2 0 = (σ24 2 0) from (congrFun (f50 2 (by decide)) 0)))
      have z97 : (σ48 2 2).toInt = (σ 2 2).toInt := (congrArg Int32.toInt (show σ48 2 2 = (σ 2 2) from ((congrFun (f50 2 (by decide)) 2).trans (f27 2 (by decide)))))
      have z98 : (σ48 2 3).toInt = (σ 2 3).toInt := (congrArg Int32.toInt (show σ48 2 3 = (σ 2 3) from ((congrFun (f50 2 (by decide)) 3).trans (f27 3 (by decide)))))
      exact ih x73 σ48 τ _ _ ls (by have h9 := tx73; omega) ⟨I74, I75, I76, I77, I78, I79, I80, I81, I82, I83, I84, I52, I53, I85, I86, I87, I88, I89, I90, I91, I92, I93, p94, p95, (by omega), (by omega), (by omega), (show jNumP (σ48 3) (σ48 56) (σ48 6) (σ48 57) (σ48 7) (σ48 58) (σ48 8) (σ48 59) (σ48 55 6).toInt (σ48 55 4).toInt by rw [show σ48 3 = σ 3 from ((f50 3 (by decide)).trans k43), show σ48 56 = σ 56 from (k71.trans (f26 56 (by decide))), show σ48 6 = σ 6 from ((f50 6 (by decide)).trans (f26 6 (by decide))), show σ48 57 = σ 57 from ((f50 57 (by decide)).trans (f26 57 (by decide))), show σ48 7 = σ 7 from ((f50 7 (by decide)).trans (f26 7 (by decide))), show σ48 58 = σ 58 from ((f50 58 (by decide)).trans (f26 58 (by decide))), show σ48 8 = σ 8 from ((f50 8 (by decide)).trans (f26 8 (by decide))), show σ48 59 = σ 59 from ((f50 59 (by decide)).trans (f26 59 (by decide))), show (σ48 55 6).toInt = (σ 55 6).toInt from by omega, show (σ48 55 4).toInt = (σ 55 4).toInt from by omega]; exact hr0)⟩ hP hS (lv_sub hl [0, 1, 2, 3] rfl)
    · obtain ⟨q105, k99, k100, k101, k102, k103, k104⟩ := h67
      exact absurd (by omega : False) id
    · obtain ⟨q113, k106, k107, k108, k109, k110, k111, k112⟩ := h68
      exact absurd (by omega : False) id
  · obtain ⟨q120, k114, k115, k116, k117, k118, k119⟩ := h39
    have q120 := q120.symm
    subst q120
    refine lv_pop hx hb dL_law_215 rfl ?_
    refine lv_aload_n hx hb dL_law_216 rfl (lv_at hl 1 rfl) ?_
    refine lv_aload_n hx hb dL_law_217 rfl (lv_at hl 3 rfl) ?_
    refine lv_iload_n hx hb dL_law_218 rfl (lv_at hl 0 rfl) ?_
    refine lv_iconst (v := 1) hx hb dL_law_219 (by decide) ?_
    refine lv_iadd hx hb dL_law_220 ?_
    refine jtopr ex18.symm ?_
    refine va_sld hx hb hX hbl hbA hS (jin tx18 (by omega) (by omega)) dL_law_221 ?_
    refine lv_aload_n hx hb dL_law_222 rfl (lv_at hl 3 rfl) ?_
    refine lv_iload_n hx hb dL_law_223 rfl (lv_at hl 0 rfl) ?_
    refine lv_iconst (v := 2) hx hb dL_law_224 (by decide) ?_
    refine lv_iadd hx hb dL_law_225 ?_
    refine jtopr ex20.symm ?_
    refine va_sld hx hb hX hbl hbA hS (jin tx20 (by omega) (by omega)) dL_law_226 ?_
    refine lv_aload_n hx hb dL_law_227 rfl (lv_at hl 3 rfl) ?_
    refine lv_iload_n hx hb dL_law_228 rfl (lv_at hl 0 rfl) ?_
    refine lv_iconst (v := 3) hx hb dL_law_229 (by decide) ?_
    refine lv_iadd hx hb dL_law_230 ?_
    refine jtopr ex22.symm ?_
    refine va_sld hx hb hX hbl hbA hS (jin tx22 (by omega) (by omega)) dL_law_231 ?_
    have I121 : jI101 σ24 := jI101_fr (congrFun (f26 55 (by decide)) 4) (congrFun (f26 55 (by decide)) 5) (f26 56 (by decide)) (f26 57 (by decide)) (f26 58 (by decide)) (f26 59 (by decide)) hI101
    have I122 : jI102 σ24 := jI102_fr (congrFun (f26 55 (by decide)) 6) (f26 60 (by decide)) (f26 61 (by decide)) hI102
    have z123 : (σ24 55 6).toInt = (σ 55 6).toInt := (congrArg Int32.toInt (show σ24 55 6 = (σ 55 6) from (congrFun (f26 55 (by decide)) 6)))
    refine jcallV (As := [.int (xs x18.toNatClampNeg), .int (xs x20.toNatClampNeg), .int (xs x22.toNatClampNeg)]) (rest := []) ⟨hx, hb, hml, hown, hts⟩ hK hP hA hS hZ (c_X12_bowler l D cI cL ad zz hJ σ24 τ (xs x18.toNatClampNeg) ((xs x18.toNatClampNeg).toInt) rfl (xs x20.toNatClampNeg) ((xs x20.toNatClampNeg).toInt) rfl (xs x22.toNatClampNeg) ((xs x22.toNatClampNeg).toInt) rfl I121 I122) cw_RL_17 (jc_55 cI cL ad σ24 τ) rfl ⟨Nat.le_of_ble_eq_true rfl, Nat.le_of_ble_eq_true rfl⟩ rfl rfl rfl hl.1 rfl (Nat.le_of_ble_eq_true rfl) dL_law_232 ⟨Nat.le_of_ble_eq_true rfl, Nat.le_of_ble_eq_true rfl⟩ (fun r125 σ124 τ124 H locs h124 hP hS => ?_)
    obtain ⟨rfl, f126, f127, I128, I129, h124⟩ := h124
    obtain ⟨i130, i131, i132, w133, w134, w135, w136⟩ : (0 ≤ (σ124 55 5).toInt) ∧ ((σ124 55 5).toInt ≤ (σ124 55 4).toInt) ∧ ((σ124 55 4).toInt ≤ 40) ∧ (∀ k : Nat, k < 68 → (-200) ≤ (σ124 56 k).toInt ∧ (σ124 56 k).toInt ≤ 500) ∧ (∀ k : Nat, k < 40 → 0 ≤ (σ124 57 k).toInt ∧ (σ124 57 k).toInt ≤ 67) ∧ (∀ k : Nat, k < 40 → (-200) ≤ (σ124 58 k).toInt ∧ (σ124 58 k).toInt ≤ 500) ∧ (∀ k : Nat, k < 40 → (-200) ≤ (σ124 59 k).toInt ∧ (σ124 59 k).toInt ≤ 500) := id I128
    obtain ⟨i137, w138, w139⟩ : (0 ≤ (σ124 55 6).toInt ∧ (σ124 55 6).toInt ≤ 4) ∧ (∀ k : Nat, k < 4 → 0 ≤ (σ124 60 k).toInt ∧ (σ124 60 k).toInt ≤ 50) ∧ (∀ k : Nat, k < 4 → 0 ≤ (σ124 61 k).toInt ∧ (σ124 61 k).toInt ≤ 20) := id I129
    have z140 : (σ124 55 5).toInt = (σ 55 5).toInt := (congrArg Int32.toInt (show σ124 55 5 = (σ 55 5) from ((f127 5 (by decide)).trans (congrFun (f26 55 (by decide)) 5))))
    have z141 : (σ124 55 4).toInt = (σ 55 4).toInt := (congrArg Int32.toInt (show σ124 55 4 = (σ 55 4) from ((f127 4 (by decide)).trans (congrFun (f26 55 (by decide)) 4))))
    rcases h124 with h142 | h143 | h144
    · obtain ⟨q148, k145, k146, k147⟩ := h142
      exact absurd (by omega : False) id
    · obtain ⟨q155, k149, k150, k151, k152, k153, k154⟩ := h143
      have q155 := q155.symm
      subst q155
      refine lv_pop hx hb dL_law_235 rfl ?_
      refine lv_goto (tgt := 1357) hx hb dL_law_236 (by decide) ?_
      obtain ⟨x156, ex156⟩ : ∃ y : Int32, y = x0 + 6 := ⟨_, rfl⟩
      have tx156 : x156.toInt = x0.toInt + 6 := (jadd ex156 rfl jz_6 (by omega) (by omega)).trans (by omega)
      refine lv_iinc (v := x156) (lv' := [(3, .int x156), (2, .ref (ad 55)), (1, .ref (ad 0)), (0, .ref b)]) hx hb dL_law_1357 hl (k := 0) rfl (by rw [ex156]; rfl) (by decide) rfl (fun ls hl => ?_)
      refine lv_goto (tgt := 18) hx hb dL_law_1360 (by decide) ?_
      have I157 : jI2 σ124 := jI2_fr (congrFun (f126 2 (by decide)) 0) (congrFun (f126 2 (by decide)) 1) (congrFun (f126 2 (by decide)) 2) (congrFun (f126 2 (by decide)) 3) (f126 6 (by decide)) I28
      have I158 : jI9 σ124 := jI9_fr ((congrFun (f126 9 (by decide)) 0).trans (congrFun (f26 9 (by decide)) 0)) ((f126 10 (by decide)).trans (f26 10 (by decide))) ((f126 11 (by decide)).trans (f26 11 (by decide))) hI9
      have I159 : jI12 σ124 := jI12_fr ((congrFun (f126 12 (by decide)) 0).trans (congrFun (f26 12 (by decide)) 0)) ((f126 13 (by decide)).trans (f26 13 (by decide))) hI12
      have I160 : jI16 σ124 := jI16_fr ((congrFun (f126 16 (by decide)) 0).trans (congrFun (f26 16 (by decide)) 0)) ((congrFun (f126 16 (by decide)) 1).trans (congrFun (f26 16 (by decide)) 1)) ((congrFun (f126 16 (by decide)) 2).trans (congrFun (f26 16 (by decide)) 2)) ((f126 17 (by decide)).trans (f26 17 (by decide))) hI16
      have I161 : jI18 σ124 := jI18_fr ((congrFun (f126 18 (by decide)) 0).trans (congrFun (f26 18 (by decide)) 0)) ((f126 19 (by decide)).trans (f26 19 (by decide))) hI18
      have I162 : jI22 σ124 := jI22_fr ((congrFun (f126 22 (by decide)) 0).trans (congrFun (f26 22 (by decide)) 0)) ((f126 23 (by decide)).trans (f26 23 (by decide))) hI22
      have I163 : jI31 σ124 := jI31_fr ((congrFun (f126 31 (by decide)) 8).trans (congrFun (f26 31 (by decide)) 8)) ((f126 33 (by decide)).trans (f26 33 (by decide))) ((f126 36 (by decide)).trans (f26 36 (by decide))) hI31
      have I164 : jI38 σ124 := jI38_fr ((congrFun (f126 38 (by decide)) 0).trans (congrFun (f26 38 (by decide)) 0)) ((congrFun (f126 38 (by decide)) 1).trans (congrFun (f26 38 (by decide)) 1)) ((f126 39 (by decide)).trans (f26 39 (by decide))) hI38
      have I165 : jI43 σ124 := jI43_fr ((congrFun (f126 43 (by decide)) 8).trans (congrFun (f26 43 (by decide)) 8)) hI43
      have I166 : jI47 σ124 := jI47_fr ((congrFun (f126 47 (by decide)) 0).trans (congrFun (f26 47 (by decide)) 0)) ((f126 49 (by decide)).trans (f26 49 (by decide))) hI47
      have I167 : jI50 σ124 := jI50_fr ((f126 52 (by decide)).trans (f26 52 (by decide))) hI50
      have I168 : jI103 σ124 := jI103_fr ((f127 9 (by decide)).trans (congrFun (f26 55 (by decide)) 9)) hI103
      have I169 : jI104 σ124 := jI104_fr ((f127 10 (by decide)).trans (congrFun (f26 55 (by decide)) 10)) ((f127 12 (by decide)).trans (congrFun (f26 55 (by decide)) 12)) ((f127 13 (by decide)).trans (congrFun (f26 55 (by decide)) 13)) ((f126 62 (by decide)).trans (f26 62 (by decide))) ((f126 67 (by decide)).trans (f26 67 (by decide))) hI104
      have I170 : jI105 σ124 := jI105_fr ((f127 15 (by decide)).trans (congrFun (f26 55 (by decide)) 15)) ((f126 65 (by decide)).trans (f26 65 (by decide))) hI105
      have I171 : jI106 σ124 := jI106_fr ((f127 32 (by decide)).trans (congrFun (f26 55 (by decide)) 32)) ((f126 70 (by decide)).trans (f26 70 (by decide))) ((f126 71 (by decide)).trans (f26 71 (by decide))) ((f126 72 (by decide)).trans (f26 72 (by decide))) hI106
      have I172 : jI107 σ124 := jI107_fr ((f127 12 (by decide)).trans (congrFun (f26 55 (by decide)) 12)) ((f127 47 (by decide)).trans (congrFun (f26 55 (by decide)) 47)) ((f126 80 (by decide)).trans (f26 80 (by decide))) hI107
      have I173 : jI109 σ124 := jI109_fr ((f127 50 (by decide)).trans (congrFun (f26 55 (by decide)) 50)) hI109
      have I174 : jI110 σ124 := jI110_fr ((f126 86 (by decide)).trans (f26 86 (by decide))) ((f126 87 (by decide)).trans (f26 87 (by decide))) hI110
      have I175 : jI111 σ124 := jI111_fr ((f126 79 (by decide)).trans (f26 79 (by decide))) hI111
      have I176 : jI119 σ124 := jI119_fr ((f126 68 (by decide)).trans (f26 68 (by decide))) hI119
      have p177 : jKept σ124 := jKept.fr ((f126 75 (by decide)).trans (f26 75 (by decide))) ((f126 76 (by decide)).trans (f26 76 (by decide))) ((f126 77 (by decide)).trans (f26 77 (by decide))) hs_jKept
      have p178 : jBook σ124 := jBook.fr ((f127 47 (by decide)).trans (congrFun (f26 55 (by decide)) 47)) ((f127 10 (by decide)).trans (congrFun (f26 55 (by decide)) 10)) ((f126 81 (by decide)).trans (f26 81 (by decide))) hs_jBook
      have z179 : (σ124 2 0).toInt = (σ24 2 0).toInt := (congrArg Int32.toInt (show σ124 2 0 = (σ24 2 0) from (congrFun (f126 2 (by decide)) 0)))
      have z180 : (σ124 2 2).toInt = (σ 2 2).toInt := (congrArg Int32.toInt (show σ124 2 2 = (σ 2 2) from ((congrFun (f126 2 (by decide)) 2).trans (f27 2 (by decide)))))
      have z181 : (σ124 2 3).toInt = (σ 2 3).toInt := (congrArg Int32.toInt (show σ124 2 3 = (σ 2 3) from ((congrFun (f126 2 (by decide)) 3).trans (f27 3 (by decide)))))
      exact ih x156 σ124 τ _ _ ls (by have h9 := tx156; omega) ⟨I157, I158, I159, I160, I161, I162, I163, I164, I165, I166, I167, I128, I129, I168, I169, I170, I171, I172, I173, I174, I175, I176, p177, p178, (by omega), (by omega), (by omega), (show jNumP (σ124 3) (σ124 56) (σ124 6) (σ124 57) (σ124 7) (σ124 58) (σ124 8) (σ124 59) (σ124 55 6).toInt (σ124 55 4).toInt by rw [show σ124 3 = σ 3 from ((f126 3 (by decide)).trans k119), show σ124 56 = σ 56 from (k154.trans (f26 56 (by decide))), show σ124 6 = σ 6 from ((f126 6 (by decide)).trans (f26 6 (by decide))), show σ124 57 = σ 57 from ((f126 57 (by decide)).trans (f26 57 (by decide))), show σ124 7 = σ 7 from ((f126 7 (by decide)).trans (f26 7 (by decide))), show σ124 58 = σ 58 from ((f126 58 (by decide)).trans (f26 58 (by decide))), show σ124 8 = σ 8 from ((f126 8 (by decide)).trans (f26 8 (by decide))), show σ124 59 = σ 59 from ((f126 59 (by decide)).trans (f26 59 (by decide))), show (σ124 55 6).toInt = (σ 55 6).toInt from by omega, show (σ124 55 4).toInt = (σ 55 4).toInt from by omega]; exact hr0)⟩ hP hS (lv_sub hl [0, 1, 2, 3] rfl)
    · obtain ⟨q189, k182, k183, k184, k185, k186, k187, k188⟩ := h144
      exact absurd (by omega : False) id
  · obtain ⟨q197, k190, k191, k192, k193, k194, k195, k196⟩ := h40
    refine lv_pop hx hb dL_law_215 rfl ?_
    refine lv_aload_n hx hb dL_law_216 rfl (lv_at hl 1 rfl) ?_
    refine lv_aload_n hx hb dL_law_217 rfl (lv_at hl 3 rfl) ?_
    refine lv_iload_n hx hb dL_law_218 rfl (lv_at hl 0 rfl) ?_
    refine lv_iconst (v := 1) hx hb dL_law_219 (by decide) ?_
    refine lv_iadd hx hb dL_law_220 ?_
    refine jtopr ex18.symm ?_
    refine va_sld hx hb hX hbl hbA hS (jin tx18 (by omega) (by omega)) dL_law_221 ?_
    refine lv_aload_n hx hb dL_law_222 rfl (lv_at hl 3 rfl) ?_
    refine lv_iload_n hx hb dL_law_223 rfl (lv_at hl 0 rfl) ?_
    refine lv_iconst (v := 2) hx hb dL_law_224 (by decide) ?_
    refine lv_iadd hx hb dL_law_225 ?_
    refine jtopr ex20.symm ?_
    refine va_sld hx hb hX hbl hbA hS (jin tx20 (by omega) (by omega)) dL_law_226 ?_
    refine lv_aload_n hx hb dL_law_227 rfl (lv_at hl 3 rfl) ?_
    refine lv_iload_n hx hb dL_law_228 rfl (lv_at hl 0 rfl) ?_
    refine lv_iconst (v := 3) hx hb dL_law_229 (by decide) ?_
    refine lv_iadd hx hb dL_law_230 ?_
    refine jtopr ex22.symm ?_
    refine va_sld hx hb hX hbl hbA hS (jin tx22 (by omega) (by omega)) dL_law_231 ?_
    have I198 : jI101 σ24 := jI101_fr (congrFun (f26 55 (by decide)) 4) (congrFun (f26 55 (by decide)) 5) (f26 56 (by decide)) (f26 57 (by decide)) (f26 58 (by decide)) (f26 59 (by decide)) hI101
    have I199 : jI102 σ24 := jI102_fr (congrFun (f26 55 (by decide)) 6) (f26 60 (by decide)) (f26 61 (by decide)) hI102
    have z200 : (σ24 55 6).toInt = (σ 55 6).toInt := (congrArg Int32.toInt (show σ24 55 6 = (σ 55 6) from (congrFun (f26 55 (by decide)) 6)))
    refine jcallV (As := [.int (xs x18.toNatClampNeg), .int (xs x20.toNatClampNeg), .int (xs x22.toNatClampNeg)]) (rest := []) ⟨hx, hb, hml, hown, hts⟩ hK hP hA hS hZ (c_X12_bowler l D cI cL ad zz hJ σ24 τ (xs x18.toNatClampNeg) ((xs x18.toNatClampNeg).toInt) rfl (xs x20.toNatClampNeg) ((xs x20.toNatClampNeg).toInt) rfl (xs x22.toNatClampNeg) ((xs x22.toNatClampNeg).toInt) rfl I198 I199) cw_RL_17 (jc_55 cI cL ad σ24 τ) rfl ⟨Nat.le_of_ble_eq_true rfl, Nat.le_of_ble_eq_true rfl⟩ rfl rfl rfl hl.1 rfl (Nat.le_of_ble_eq_true rfl) dL_law_232 ⟨Nat.le_of_ble_eq_true rfl, Nat.le_of_ble_eq_true rfl⟩ (fun r202 σ201 τ201 H locs h201 hP hS => ?_)
    obtain ⟨rfl, f203, f204, I205, I206, h201⟩ := h201
    obtain ⟨i207, i208, i209, w210, w211, w212, w213⟩ : (0 ≤ (σ201 55 5).toInt) ∧ ((σ201 55 5).toInt ≤ (σ201 55 4).toInt) ∧ ((σ201 55 4).toInt ≤ 40) ∧ (∀ k : Nat, k < 68 → (-200) ≤ (σ201 56 k).toInt ∧ (σ201 56 k).toInt ≤ 500) ∧ (∀ k : Nat, k < 40 → 0 ≤ (σ201 57 k).toInt ∧ (σ201 57 k).toInt ≤ 67) ∧ (∀ k : Nat, k < 40 → (-200) ≤ (σ201 58 k).toInt ∧ (σ201 58 k).toInt ≤ 500) ∧ (∀ k : Nat, k < 40 → (-200) ≤ (σ201 59 k).toInt ∧ (σ201 59 k).toInt ≤ 500) := id I205
    obtain ⟨i214, w215, w216⟩ : (0 ≤ (σ201 55 6).toInt ∧ (σ201 55 6).toInt ≤ 4) ∧ (∀ k : Nat, k < 4 → 0 ≤ (σ201 60 k).toInt ∧ (σ201 60 k).toInt ≤ 50) ∧ (∀ k : Nat, k < 4 → 0 ≤ (σ201 61 k).toInt ∧ (σ201 61 k).toInt ≤ 20) := id I206
    have z217 : (σ201 55 5).toInt = (σ 55 5).toInt := (congrArg Int32.toInt (show σ201 55 5 = (σ 55 5) from ((f204 5 (by decide)).trans (congrFun (f26 55 (by decide)) 5))))
    have z218 : (σ201 55 4).toInt = (σ 55 4).toInt := (congrArg Int32.toInt (show σ201 55 4 = (σ 55 4) from ((f204 4 (by decide)).trans (congrFun (f26 55 (by decide)) 4))))
    rcases h201 with h219 | h220 | h221
    · obtain ⟨q225, k222, k223, k224⟩ := h219
      exact absurd (by omega : False) id
    · obtain ⟨q232, k226, k227, k228, k229, k230, k231⟩ := h220
      exact absurd (by omega : False) id
    · obtain ⟨q240, k233, k234, k235, k236, k237, k238, k239⟩ := h221
      refine lv_pop hx hb dL_law_235 rfl ?_
      refine lv_goto (tgt := 1357) hx hb dL_law_236 (by decide) ?_
      obtain ⟨x241, ex241⟩ : ∃ y : Int32, y = x0 + 6 := ⟨_, rfl⟩
      have tx241 : x241.toInt = x0.toInt + 6 := (jadd ex241 rfl jz_6 (by omega) (by omega)).trans (by omega)
      refine lv_iinc (v := x241) (lv' := [(3, .int x241), (2, .ref (ad 55)), (1, .ref (ad 0)), (0, .ref b)]) hx hb dL_law_1357 hl (k := 0) rfl (by rw [ex241]; rfl) (by decide) rfl (fun ls hl => ?_)
      refine lv_goto (tgt := 18) hx hb dL_law_1360 (by decide) ?_
      have I242 : jI2 σ201 := jI2_fr (congrFun (f203 2 (by decide)) 0) (congrFun (f203 2 (by decide)) 1) (congrFun (f203 2 (by decide)) 2) (congrFun (f203 2 (by decide)) 3) (f203 6 (by decide)) I28
      have I243 : jI9 σ201 := jI9_fr ((congrFun (f203 9 (by decide)) 0).trans (congrFun (f26 9 (by decide)) 0)) ((f203 10 (by decide)).trans (f26 10 (by decide))) ((f203 11 (by decide)).trans (f26 11 (by decide))) hI9
      have I244 : jI12 σ201 := jI12_fr ((congrFun (f203 12 (by decide)) 0).trans (congrFun (f26 12 (by decide)) 0)) ((f203 13 (by decide)).trans (f26 13 (by decide))) hI12
      have I245 : jI16 σ201 := jI16_fr ((congrFun (f203 16 (by decide)) 0).trans (congrFun (f26 16 (by decide)) 0)) ((congrFun (f203 16 (by decide)) 1).trans (congrFun (f26 16 (by decide)) 1)) ((congrFun (f203 16 (by decide)) 2).trans (congrFun (f26 16 (by decide)) 2)) ((f203 17 (by decide)).trans (f26 17 (by decide))) hI16
      have I246 : jI18 σ201 := jI18_fr ((congrFun (f203 18 (by decide)) 0).trans (congrFun (f26 18 (by decide)) 0)) ((f203 19 (by decide)).trans (f26 19 (by decide))) hI18
      have I247 : jI22 σ201 := jI22_fr ((congrFun (f203 22 (by decide)) 0).trans (congrFun (f26 22 (by decide)) 0)) ((f203 23 (by decide)).trans (f26 23 (by decide))) hI22
      have I248 : jI31 σ201 := jI31_fr ((congrFun (f203 31 (by decide)) 8).trans (congrFun (f26 31 (by decide)) 8)) ((f203 33 (by decide)).trans (f26 33 (by decide))) ((f203 36 (by decide)).trans (f26 36 (by decide))) hI31
      have I249 : jI38 σ201 := jI38_fr ((congrFun (f203 38 (by decide)) 0).trans (congrFun (f26 38 (by decide)) 0)) ((congrFun (f203 38 (by decide)) 1).trans (congrFun (f26 38 (by decide)) 1)) ((f203 39 (by decide)).trans (f26 39 (by decide))) hI38
      have I250 : jI43 σ201 := jI43_fr ((congrFun (f203 43 (by decide)) 8).trans (congrFun (f26 43 (by decide)) 8)) hI43
      have I251 : jI47 σ201 := jI47_fr ((congrFun (f203 47 (by decide)) 0).trans (congrFun (f26 47 (by decide)) 0)) ((f203 49 (by decide)).trans (f26 49 (by decide))) hI47
      have I252 : jI50 σ201 := jI50_fr ((f203 52 (by decide)).trans (f26 52 (by decide))) hI50
      have I253 : jI103 σ201 := jI103_fr ((f204 9 (by decide)).trans (congrFun (f26 55 (by decide)) 9)) hI103
      have I254 : jI104 σ201 := jI104_fr ((f204 10 (by decide)).trans (congrFun (f26 55 (by decide)) 10)) ((f204 12 (by decide)).trans (congrFun (f26 55 (by decide)) 12)) ((f204 13 (by decide)).trans (congrFun (f26 55 (by decide)) 13)) ((f203 62 (by decide)).trans (f26 62 (by decide))) ((f203 67 (by decide)).trans (f26 67 (by decide))) hI104
      have I255 : jI105 σ201 := jI105_fr ((f204 15 (by decide)).trans (congrFun (f26 55 (by decide)) 15)) ((f203 65 (by decide)).trans (f26 65 (by decide))) hI105
      have I256 : jI106 σ201 := jI106_fr ((f204 32 (by decide)).trans (congrFun (f26 55 (by decide)) 32)) ((f203 70 (by decide)).trans (f26 70 (by decide))) ((f203 71 (by decide)).trans (f26 71 (by decide))) ((f203 72 (by decide)).trans (f26 72 (by decide))) hI106
      have I257 : jI107 σ201 := jI107_fr ((f204 12 (by decide)).trans (congrFun (f26 55 (by decide)) 12)) ((f204 47 (by decide)).trans (congrFun (f26 55 (by decide)) 47)) ((f203 80 (by decide)).trans (f26 80 (by decide))) hI107
      have I258 : jI109 σ201 := jI109_fr ((f204 50 (by decide)).trans (congrFun (f26 55 (by decide)) 50)) hI109
      have I259 : jI110 σ201 := jI110_fr ((f203 86 (by decide)).trans (f26 86 (by decide))) ((f203 87 (by decide)).trans (f26 87 (by decide))) hI110
      have I260 : jI111 σ201 := jI111_fr ((f203 79 (by decide)).trans (f26 79 (by decide))) hI111
      have I261 : jI119 σ201 := jI119_fr ((f203 68 (by decide)).trans (f26 68 (by decide))) hI119
      have p262 : jKept σ201 := jKept.fr ((f203 75 (by decide)).trans (f26 75 (by decide))) ((f203 76 (by decide)).trans (f26 76 (by decide))) ((f203 77 (by decide)).trans (f26 77 (by decide))) hs_jKept
      have p263 : jBook σ201 := jBook.fr ((f204 47 (by decide)).trans (congrFun (f26 55 (by decide)) 47)) ((f204 10 (by decide)).trans (congrFun (f26 55 (by decide)) 10)) ((f203 81 (by decide)).trans (f26 81 (by decide))) hs_jBook
      have z264 : (σ201 2 0).toInt = (σ24 2 0).toInt := (congrArg Int32.toInt (show σ201 2 0 = (σ24 2 0) from (congrFun (f203 2 (by decide)) 0)))
      have z265 : (σ201 2 2).toInt = (σ 2 2).toInt := (congrArg Int32.toInt (show σ201 2 2 = (σ 2 2) from ((congrFun (f203 2 (by decide)) 2).trans (f27 2 (by decide)))))
      have z266 : (σ201 2 3).toInt = (σ 2 3).toInt := (congrArg Int32.toInt (show σ201 2 3 = (σ 2 3) from ((congrFun (f203 2 (by decide)) 3).trans (f27 3 (by decide)))))
      rw [show (σ 2 0).toInt = (σ 55 6).toInt from by omega] at k196
      rw [show σ24 56 = σ 56 from (f26 56 (by decide)), show (σ24 55 6).toInt = (σ 55 6).toInt from by omega] at k239
      have p267 := hr0.bowler k196 k239 (by omega) (by omega) (show (σ201 55 6).toInt = (σ 55 6).toInt + 1 from by omega)
      exact ih x241 σ201 τ _ _ ls (by have h9 := tx241; omega) ⟨I242, I243, I244, I245, I246, I247, I248, I249, I250, I251, I252, I205, I206, I253, I254, I255, I256, I257, I258, I259, I260, I261, p262, p263, (by omega), (by omega), (by omega), (show jNumP (σ201 3) (σ201 56) (σ201 6) (σ201 57) (σ201 7) (σ201 58) (σ201 8) (σ201 59) (σ201 55 6).toInt (σ201 55 4).toInt by rw [show σ201 3 = σ24 3 from (f203 3 (by decide)), show σ201 6 = σ 6 from ((f203 6 (by decide)).trans (f26 6 (by decide))), show σ201 57 = σ 57 from ((f203 57 (by decide)).trans (f26 57 (by decide))), show σ201 7 = σ 7 from ((f203 7 (by decide)).trans (f26 7 (by decide))), show σ201 58 = σ 58 from ((f203 58 (by decide)).trans (f26 58 (by decide))), show σ201 8 = σ 8 from ((f203 8 (by decide)).trans (f26 8 (by decide))), show σ201 59 = σ 59 from ((f203 59 (by decide)).trans (f26 59 (by decide))), show (σ201 55 4).toInt = (σ 55 4).toInt from by omega]; exact p267)⟩ hP hS (lv_sub hl [0, 1, 2, 3] rfl)
set_option maxHeartbeats 4000000 in
set_option maxRecDepth 100000 in
theorem law_case_1 {p : Program} {e : Env} {s : State} {m : MethodId} {below : List Frame} {meth : Method} {c : Code} (l : Launch) {b L : Nat} {xs : Nat → Int32} {D : va_G} {cI cL : ClassId} {ad zz : Nat → Nat} (C0 : lw_At p s m meth c b L xs) (hJ : jD ad) (hA : ∀ q, jA ad q → s.heap.size ≤ q) (hK : jK D cI cL s) (hZ : jZ zz (fun q : Nat => s.heap.size ≤ q) s s.heap) {x0 : Int32} (hx0 : 0 ≤ x0.toInt) (hxL : x0.toInt + 6 ≤ (L : Int)) (hL : L ≤ 384) {σ : Nat → Nat → Int32} {τ : Nat → Nat → Int64} {H : Heap} {locs : List Loc} (hS : va_S (fun q : Nat => s.heap.size ≤ q) s.heap H locs) {ls : Array Slot} (hAll : jAll σ τ) (hP : jH D cI cL ad σ τ H) (hl : lv_has ls 4 [(3, .int x0), (2, .ref (ad 55)), (1, .ref (ad 0)), (0, .ref b)]) (ih : ∀ (x1 : Int32) (σ : Nat → Nat → Int32) (τ : Nat → Nat → Int64) (H : Heap) (locs : List Loc) (ls : Array Slot), x1.toInt = x0.toInt + 6 → jAll σ τ → jH D cI cL ad σ τ H → va_S (fun q : Nat => s.heap.size ≤ q) s.heap H locs → lv_has ls 4 [(3, .int x1), (2, .ref (ad 55)), (1, .ref (ad 0)), (0, .ref b)] → W p l e room_1 s m #[Value.ref b] below meth c H locs 90 348600 (lw_Z below #[Value.ref b] s) (F0 m 18 ls [])) : W p l e room_1 s m #[Value.ref b] below meth c H locs 90 348600 (lw_Z below #[Value.ref b] s) (F0 m 239 ls []) := by
  obtain ⟨hx, hb, hr, hml, hown, hts0, hX, hbl, hlocks, hgv⟩ := C0
  have hts : ∀ w ∈ wsL_law, w.before #[Value.ref b] s = true := fun w h => hts0 w (wsL_law_in w h)
  have hbA : ¬ (fun q : Nat => s.heap.size ≤ q) b := Nat.not_le.mpr hbl
  have hown : s.vm.findClass RL = some m.cls := hown
  obtain ⟨hI2, hI9, hI12, hI16, hI18, hI22, hI31, hI38, hI43, hI47, hI50, hI101, hI102, hI103, hI104, hI105, hI106, hI107, hI109, hI110, hI111, hI119, hs_jKept, hs_jBook, ht0, ht1, ht2, hr0⟩ := hAll
  have hL9 : (L : Int) ≤ 384 := by omega
  obtain ⟨i1, i2, i3, i4, i5, w6⟩ : (0 ≤ (σ 2 0).toInt ∧ (σ 2 0).toInt ≤ 4) ∧ (0 ≤ (σ 2 1).toInt ∧ (σ 2 1).toInt ≤ 3) ∧ (0 ≤ (σ 2 2).toInt) ∧ (0 ≤ (σ 2 3).toInt) ∧ ((σ 2 2).toInt + (σ 2 3).toInt ≤ 40) ∧ (∀ k : Nat, k < 40 → 0 ≤ (σ 6 k).toInt ∧ (σ 6 k).toInt ≤ 67) := id hI2
  obtain ⟨i7, i8, i9, w10, w11, w12, w13⟩ : (0 ≤ (σ 55 5).toInt) ∧ ((σ 55 5).toInt ≤ (σ 55 4).toInt) ∧ ((σ 55 4).toInt ≤ 40) ∧ (∀ k : Nat, k < 68 → (-200) ≤ (σ 56 k).toInt ∧ (σ 56 k).toInt ≤ 500) ∧ (∀ k : Nat, k < 40 → 0 ≤ (σ 57 k).toInt ∧ (σ 57 k).toInt ≤ 67) ∧ (∀ k : Nat, k < 40 → (-200) ≤ (σ 58 k).toInt ∧ (σ 58 k).toInt ≤ 500) ∧ (∀ k : Nat, k < 40 → (-200) ≤ (σ 59 k).toInt ∧ (σ 59 k).toInt ≤ 500) := id hI101
  obtain ⟨i14, w15, w16⟩ : (0 ≤ (σ 55 6).toInt ∧ (σ 55 6).toInt ≤ 4) ∧ (∀ k : Nat, k < 4 → 0 ≤ (σ 60 k).toInt ∧ (σ 60 k).toInt ≤ 50) ∧ (∀ k : Nat, k < 4 → 0 ≤ (σ 61 k).toInt ∧ (σ 61 k).toInt ≤ 20) := id hI102
  refine lv_aload_n hx hb dL_law_239 rfl (lv_at hl 2 rfl) ?_
  refine lv_aload_n hx hb dL_law_240 rfl (lv_at hl 3 rfl) ?_
  refine lv_iload_n hx hb dL_law_241 rfl (lv_at hl 0 rfl) ?_
  refine lv_iconst (v := 1) hx hb dL_law_242 (by decide) ?_
  have g17 := jrg (rfl : x0.toInt = x0.toInt)
  refine lv_iadd hx hb dL_law_243 ?_
  refine lv_topi (fun x18 ex18 => ?_)
  have tx18 : x18.toInt = x0.toInt + 1 := (jadd ex18 rfl jz_1 (by omega) (by omega)).trans (by omega)
  refine va_sld hx hb hX hbl hbA hS (jin tx18 (by omega) (by omega)) dL_law_244 ?_
  have g19 := jrg (rfl : (xs x18.toNatClampNeg).toInt = (xs x18.toNatClampNeg).toInt)
  refine lv_aload_n hx hb dL_law_245 rfl (lv_at hl 3 rfl) ?_
  refine lv_iload_n hx hb dL_law_246 rfl (lv_at hl 0 rfl) ?_
  refine lv_iconst (v := 2) hx hb dL_law_247 (by decide) ?_
  refine lv_iadd hx hb dL_law_248 ?_
  refine lv_topi (fun x20 ex20 => ?_)
  have tx20 : x20.toInt = x0.toInt + 2 := (jadd ex20 rfl jz_2 (by omega) (by omega)).trans (by omega)
  refine va_sld hx hb hX hbl hbA hS (jin tx20 (by omega) (by omega)) dL_law_249 ?_
  have g21 := jrg (rfl : (xs x20.toNatClampNeg).toInt = (xs x20.toNatClampNeg).toInt)
  refine lv_aload_n hx hb dL_law_250 rfl (lv_at hl 3 rfl) ?_
  refine lv_iload_n hx hb dL_law_251 rfl (lv_at hl 0 rfl) ?_
  refine lv_iconst (v := 3) hx hb dL_law_252 (by decide) ?_
  refine lv_iadd hx hb dL_law_253 ?_
  refine lv_topi (fun x22 ex22 => ?_)
  have tx22 : x22.toInt = x0.toInt + 3 := (jadd ex22 rfl jz_3 (by omega) (by omega)).trans (by omega)
  refine va_sld hx hb hX hbl hbA hS (jin tx22 (by omega) (by omega)) dL_law_254 ?_
  have g23 := jrg (rfl : (xs x22.toNatClampNeg).toInt = (xs x22.toNatClampNeg).toInt)
  refine jcallV (As := [.int (xs x18.toNatClampNeg), .int (xs x20.toNatClampNeg), .int (xs x22.toNatClampNeg)]) (rest := []) ⟨hx, hb, hml, hown, hts⟩ hK hP hA hS hZ (c_X11_edge l D cI cL ad zz hJ σ τ (xs x18.toNatClampNeg) ((xs x18.toNatClampNeg).toInt) rfl (xs x20.toNatClampNeg) ((xs x20.toNatClampNeg).toInt) rfl (xs x22.toNatClampNeg) ((xs x22.toNatClampNeg).toInt) rfl hI2) cw_RL_18 (jc_0 cI cL ad σ τ) rfl ⟨Nat.le_of_ble_eq_true rfl, Nat.le_of_ble_eq_true rfl⟩ rfl rfl rfl hl.1 rfl (Nat.le_of_ble_eq_true rfl) dL_law_255 ⟨Nat.le_of_ble_eq_true rfl, Nat.le_of_ble_eq_true rfl⟩ (fun r25 σ24 τ24 H locs h24 hP hS => ?_)
  obtain ⟨rfl, f26, f27, I28, h24⟩ := h24
  obtain ⟨i29, i30, i31, i32, i33, w34⟩ : (0 ≤ (σ24 2 0).toInt ∧ (σ24 2 0).toInt ≤ 4) ∧ (0 ≤ (σ24 2 1).toInt ∧ (σ24 2 1).toInt ≤ 3) ∧ (0 ≤ (σ24 2 2).toInt) ∧ (0 ≤ (σ24 2 3).toInt) ∧ ((σ24 2 2).toInt + (σ24 2 3).toInt ≤ 40) ∧ (∀ k : Nat, k < 40 → 0 ≤ (σ24 6 k).toInt ∧ (σ24 6 k).toInt ≤ 67) := id I28
  have z35 : (σ24 2 0).toInt = (σ 2 0).toInt := (congrArg Int32.toInt (show σ24 2 0 = (σ 2 0) from (f27 0 (by decide))))
  have z36 : (σ24 2 1).toInt = (σ 2 1).toInt := (congrArg Int32.toInt (show σ24 2 1 = (σ 2 1) from (f27 1 (by decide))))
  rcases h24 with h37 | h38
  · obtain ⟨q43, k39, k40, k41, k42⟩ := h37
    have q43 := q43.symm
    subst q43
    refine lv_aload_n hx hb dL_law_258 rfl (lv_at hl 1 rfl) ?_
    refine lv_aload_n hx hb dL_law_259 rfl (lv_at hl 3 rfl) ?_
    refine lv_iload_n hx hb dL_law_260 rfl (lv_at hl 0 rfl) ?_
    refine lv_iconst (v := 1) hx hb dL_law_261 (by decide) ?_
    refine lv_iadd hx hb dL_law_262 ?_
    refine jtopr ex18.symm ?_
    refine va_sld hx hb hX hbl hbA hS (jin tx18 (by omega) (by omega)) dL_law_263 ?_
    refine lv_aload_n hx hb dL_law_264 rfl (lv_at hl 3 rfl) ?_
    refine lv_iload_n hx hb dL_law_265 rfl (lv_at hl 0 rfl) ?_
    refine lv_iconst (v := 2) hx hb dL_law_266 (by decide) ?_
    refine lv_iadd hx hb dL_law_267 ?_
    refine jtopr ex20.symm ?_
    refine va_sld hx hb hX hbl hbA hS (jin tx20 (by omega) (by omega)) dL_law_268 ?_
    refine lv_aload_n hx hb dL_law_269 rfl (lv_at hl 3 rfl) ?_
    refine lv_iload_n hx hb dL_law_270 rfl (lv_at hl 0 rfl) ?_
    refine lv_iconst (v := 3) hx hb dL_law_271 (by decide) ?_
    refine lv_iadd hx hb dL_law_272 ?_
    refine jtopr ex22.symm ?_
    refine va_sld hx hb hX hbl hbA hS (jin tx22 (by omega) (by omega)) dL_law_273 ?_
    have I44 : jI101 σ24 := jI101_fr (congrFun (f26 55 (by decide)) 4) (congrFun (f26 55 (by decide)) 5) (f26 56 (by decide)) (f26 57 (by decide)) (f26 58 (by decide)) (f26 59 (by decide)) hI101
    have I45 : jI102 σ24 := jI102_fr (congrFun (f26 55 (by decide)) 6) (f26 60 (by decide)) (f26 61 (by decide)) hI102
    have z46 : (σ24 55 5).toInt = (σ 55 5).toInt := (congrArg Int32.toInt (show σ24 55 5 = (σ 55 5) from (congrFun (f26 55 (by decide)) 5)))
    have z47 : (σ24 55 4).toInt = (σ 55 4).toInt := (congrArg Int32.toInt (show σ24 55 4 = (σ 55 4) from (congrFun (f26 55 (by decide)) 4)))
    refine jcallV (As := [.int (xs x18.toNatClampNeg), .int (xs x20.toNatClampNeg), .int (xs x22.toNatClampNeg)]) (rest := [.int (-2000000000)]) ⟨hx, hb, hml, hown, hts⟩ hK hP hA hS hZ (c_X12_edge l D cI cL ad zz hJ σ24 τ (xs x18.toNatClampNeg) ((xs x18.toNatClampNeg).toInt) rfl (xs x20.toNatClampNeg) ((xs x20.toNatClampNeg).toInt) rfl (xs x22.toNatClampNeg) ((xs x22.toNatClampNeg).toInt) rfl I44 I45) cw_RL_21 (jc_55 cI cL ad σ24 τ) rfl ⟨Nat.le_of_ble_eq_true rfl, Nat.le_of_ble_eq_true rfl⟩ rfl rfl rfl hl.1 rfl (Nat.le_of_ble_eq_true rfl) dL_law_274 ⟨Nat.le_of_ble_eq_true rfl, Nat.le_of_ble_eq_true rfl⟩ (fun r49 σ48 τ48 H locs h48 hP hS => ?_)
    obtain ⟨rfl, f50, f51, I52, h48⟩ := h48
    obtain ⟨i53, i54, i55, w56, w57, w58, w59⟩ : (0 ≤ (σ48 55 5).toInt) ∧ ((σ48 55 5).toInt ≤ (σ48 55 4).toInt) ∧ ((σ48 55 4).toInt ≤ 40) ∧ (∀ k : Nat, k < 68 → (-200) ≤ (σ48 56 k).toInt ∧ (σ48 56 k).toInt ≤ 500) ∧ (∀ k : Nat, k < 40 → 0 ≤ (σ48 57 k).toInt ∧ (σ48 57 k).toInt ≤ 67) ∧ (∀ k : Nat, k < 40 → (-200) ≤ (σ48 58 k).toInt ∧ (σ48 58 k).toInt ≤ 500) ∧ (∀ k : Nat, k < 40 → (-200) ≤ (σ48 59 k).toInt ∧ (σ48 59 k).toInt ≤ 500) := id I52
    rcases h48 with h60 | h61
    · obtain ⟨q66, k62, k63, k64, k65⟩ := h60
      have q66 := q66.symm
      subst q66
      have z67 : (σ24 55 6).toInt = (σ 55 6).toInt := (congrArg Int32.toInt (show σ24 55 6 = (σ 55 6) from (congrFun (f26 55 (by decide)) 6)))
      rw [show (σ24 55 6).toInt = (σ 2 0).toInt from by omega] at k64
      refine lv_icmp_eq (tgt := 1357) hx hb dL_law_277 (by decide) (fun _ => ?_) (fun c => absurd (rfl) c)
      obtain ⟨x68, ex68⟩ : ∃ y : Int32, y = x0 + 6 := ⟨_, rfl⟩
      have tx68 : x68.toInt = x0.toInt + 6 := (jadd ex68 rfl jz_6 (by omega) (by omega)).trans (by omega)
      refine lv_iinc (v := x68) (lv' := [(3, .int x68), (2, .ref (ad 55)), (1, .ref (ad 0)), (0, .ref b)]) hx hb dL_law_1357 hl (k := 0) rfl (by rw [ex68]; rfl) (by decide) rfl (fun ls hl => ?_)
      refine lv_goto (tgt := 18) hx hb dL_law_1360 (by decide) ?_
      have I69 : jI2 σ48 := jI2_fr (congrFun (f50 2 (by decide)) 0) (congrFun (f50 2 (by decide)) 1) (congrFun (f50 2 (by decide)) 2) (congrFun (f50 2 (by decide)) 3) (f50 6 (by decide)) I28
      have I70 : jI9 σ48 := jI9_fr ((congrFun (f50 9 (by decide)) 0).trans (congrFun (f26 9 (by decide)) 0)) ((f50 10 (by decide)).trans (f26 10 (by decide))) ((f50 11 (by decide)).trans (f26 11 (by decide))) hI9
      have I71 : jI12 σ48 := jI12_fr ((congrFun (f50 12 (by decide)) 0).trans (congrFun (f26 12 (by decide)) 0)) ((f50 13 (by decide)).trans (f26 13 (by decide))) hI12
      have I72 : jI16 σ48 := jI16_fr ((congrFun (f50 16 (by decide)) 0).trans (congrFun (f26 16 (by decide)) 0)) ((congrFun (f50 16 (by decide)) 1).trans (congrFun (f26 16 (by decide)) 1)) ((congrFun (f50 16 (by decide)) 2).trans (congrFun (f26 16 (by decide)) 2)) ((f50 17 (by decide)).trans (f26 17 (by decide))) hI16
      have I73 : jI18 σ48 := jI18_fr ((congrFun (f50 18 (by decide)) 0).trans (congrFun (f26 18 (by decide)) 0)) ((f50 19 (by decide)).trans (f26 19 (by decide))) hI18
      have I74 : jI22 σ48 := jI22_fr ((congrFun (f50 22 (by decide)) 0).trans (congrFun (f26 22 (by decide)) 0)) ((f50 23 (by decide)).trans (f26 23 (by decide))) hI22
      have I75 : jI31 σ48 := jI31_fr ((congrFun (f50 31 (by decide)) 8).trans (congrFun (f26 31 (by decide)) 8)) ((f50 33 (by decide)).trans (f26 33 (by decide))) ((f50 36 (by decide)).trans (f26 36 (by decide))) hI31
      have I76 : jI38 σ48 := jI38_fr ((congrFun (f50 38 (by decide)) 0).trans (congrFun (f26 38 (by decide)) 0)) ((congrFun (f50 38 (by decide)) 1).trans (congrFun (f26 38 (by decide)) 1)) ((f50 39 (by decide)).trans (f26 39 (by decide))) hI38
      have I77 : jI43 σ48 := jI43_fr ((congrFun (f50 43 (by decide)) 8).trans (congrFun (f26 43 (by decide)) 8)) hI43
      have I78 : jI47 σ48 := jI47_fr ((congrFun (f50 47 (by decide)) 0).trans (congrFun (f26 47 (by decide)) 0)) ((f50 49 (by decide)).trans (f26 49 (by decide))) hI47
      have I79 : jI50 σ48 := jI50_fr ((f50 52 (by decide)).trans (f26 52 (by decide))) hI50
      have I80 : jI102 σ48 := jI102_fr (f51 6 (by decide)) (f50 60 (by decide)) (f50 61 (by decide)) I45
      have I81 : jI103 σ48 := jI103_fr ((f51 9 (by decide)).trans (congrFun (f26 55 (by decide)) 9)) hI103
      have I82 : jI104 σ48 := jI104_fr ((f51 10 (by decide)).trans (congrFun (f26 55 (by decide)) 10)) ((f51 12 (by decide)).trans (congrFun (f26 55 (by decide)) 12)) ((f51 13 (by decide)).trans (congrFun (f26 55 (by decide)) 13)) ((f50 62 (by decide)).trans (f26 62 (by decide))) ((f50 67 (by decide)).trans (f26 67 (by decide))) hI104
      have I83 : jI105 σ48 := jI105_fr ((f51 15 (by decide)).trans (congrFun (f26 55 (by decide)) 15)) ((f50 65 (by decide)).trans (f26 65 (by decide))) hI105
      have I84 : jI106 σ48 := jI106_fr ((f51 32 (by decide)).trans (congrFun (f26 55 (by decide)) 32)) ((f50 70 (by decide)).trans (f26 70 (by decide))) ((f50 71 (by decide)).trans (f26 71 (by decide))) ((f50 72 (by decide)).trans (f26 72 (by decide))) hI106
      have I85 : jI107 σ48 := jI107_fr ((f51 12 (by decide)).trans (congrFun (f26 55 (by decide)) 12)) ((f51 47 (by decide)).trans (congrFun (f26 55 (by decide)) 47)) ((f50 80 (by decide)).trans (f26 80 (by decide))) hI107
      have I86 : jI109 σ48 := jI109_fr ((f51 50 (by decide)).trans (congrFun (f26 55 (by decide)) 50)) hI109
      have I87 : jI110 σ48 := jI110_fr ((f50 86 (by decide)).trans (f26 86 (by decide))) ((f50 87 (by decide)).trans (f26 87 (by decide))) hI110
      have I88 : jI111 σ48 := jI111_fr ((f50 79 (by decide)).trans (f26 79 (by decide))) hI111
      have I89 : jI119 σ48 := jI119_fr ((f50 68 (by decide)).trans (f26 68 (by decide))) hI119
      have p90 : jKept σ48 := jKept.fr ((f50 75 (by decide)).trans (f26 75 (by decide))) ((f50 76 (by decide)).trans (f26 76 (by decide))) ((f50 77 (by decide)).trans (f26 77 (by decide))) hs_jKept
      have p91 : jBook σ48 := jBook.fr ((f51 47 (by decide)).trans (congrFun (f26 55 (by decide)) 47)) ((f51 10 (by decide)).trans (congrFun (f26 55 (by decide)) 10)) ((f50 81 (by decide)).trans (f26 81 (by decide))) hs_jBook
      have z92 : (σ48 2 0).toInt = (σ 2 0).toInt := (congrArg Int32.toInt (show σ48 2 0 = (σ 2 0) from ((congrFun (f50 2 (by decide)) 0).trans (f27 0 (by decide)))))
      have z93 : (σ48 55 6).toInt = (σ 55 6).toInt := (congrArg Int32.toInt (show σ48 55 6 = (σ 55 6) from ((f51 6 (by decide)).trans (congrFun (f26 55 (by decide)) 6))))
      have z94 : (σ48 2 2).toInt = (σ24 2 2).toInt := (congrArg Int32.toInt (show σ48 2 2 = (σ24 2 2) from (congrFun (f50 2 (by decide)) 2)))
      have z95 : (σ48 2 3).toInt = (σ24 2 3).toInt := (congrArg Int32.toInt (show σ48 2 3 = (σ24 2 3) from (congrFun (f50 2 (by decide)) 3)))
      exact ih x68 σ48 τ _ _ ls (by have h9 := tx68; omega) ⟨I69, I70, I71, I72, I73, I74, I75, I76, I77, I78, I79, I52, I80, I81, I82, I83, I84, I85, I86, I87, I88, I89, p90, p91, (by omega), (by omega), (by omega), (show jNumP (σ48 3) (σ48 56) (σ48 6) (σ48 57) (σ48 7) (σ48 58) (σ48 8) (σ48 59) (σ48 55 6).toInt (σ48 55 4).toInt by rw [show σ48 3 = σ 3 from ((f50 3 (by decide)).trans k42.1), show σ48 56 = σ 56 from (k65.1.trans (f26 56 (by decide))), show σ48 6 = σ 6 from ((f50 6 (by decide)).trans k42.2.1), show σ48 57 = σ 57 from (k65.2.1.trans (f26 57 (by decide))), show σ48 7 = σ 7 from ((f50 7 (by decide)).trans k42.2.2.1), show σ48 58 = σ 58 from (k65.2.2.1.trans (f26 58 (by decide))), show σ48 8 = σ 8 from ((f50 8 (by decide)).trans k42.2.2.2), show σ48 59 = σ 59 from (k65.2.2.2.trans (f26 59 (by decide))), show (σ48 55 6).toInt = (σ 55 6).toInt from by omega, show (σ48 55 4).toInt = (σ 55 4).toInt from by omega]; exact hr0)⟩ hP hS (lv_sub hl [0, 1, 2, 3] rfl)
    · obtain ⟨q97, k96⟩ := h61
      have z98 : (σ24 55 6).toInt = (σ 55 6).toInt := (congrArg Int32.toInt (show σ24 55 6 = (σ 55 6) from (congrFun (f26 55 (by decide)) 6)))
      rw [show (σ24 55 6).toInt = (σ 2 0).toInt from by omega] at k96
      exact absurd k96.1 k41
  · obtain ⟨q100, k99⟩ := h38
    refine lv_aload_n hx hb dL_law_258 rfl (lv_at hl 1 rfl) ?_
    refine lv_aload_n hx hb dL_law_259 rfl (lv_at hl 3 rfl) ?_
    refine lv_iload_n hx hb dL_law_260 rfl (lv_at hl 0 rfl) ?_
    refine lv_iconst (v := 1) hx hb dL_law_261 (by decide) ?_
    refine lv_iadd hx hb dL_law_262 ?_
    refine jtopr ex18.symm ?_
    refine va_sld hx hb hX hbl hbA hS (jin tx18 (by omega) (by omega)) dL_law_263 ?_
    refine lv_aload_n hx hb dL_law_264 rfl (lv_at hl 3 rfl) ?_
    refine lv_iload_n hx hb dL_law_265 rfl (lv_at hl 0 rfl) ?_
    refine lv_iconst (v := 2) hx hb dL_law_266 (by decide) ?_
    refine lv_iadd hx hb dL_law_267 ?_
    refine jtopr ex20.symm ?_
    refine va_sld hx hb hX hbl hbA hS (jin tx20 (by omega) (by omega)) dL_law_268 ?_
    refine lv_aload_n hx hb dL_law_269 rfl (lv_at hl 3 rfl) ?_
    refine lv_iload_n hx hb dL_law_270 rfl (lv_at hl 0 rfl) ?_
    refine lv_iconst (v := 3) hx hb dL_law_271 (by decide) ?_
    refine lv_iadd hx hb dL_law_272 ?_
    refine jtopr ex22.symm ?_
    refine va_sld hx hb hX hbl hbA hS (jin tx22 (by omega) (by omega)) dL_law_273 ?_
    have I101 : jI101 σ24 := jI101_fr (congrFun (f26 55 (by decide)) 4) (congrFun (f26 55 (by decide)) 5) (f26 56 (by decide)) (f26 57 (by decide)) (f26 58 (by decide)) (f26 59 (by decide)) hI101
    have I102 : jI102 σ24 := jI102_fr (congrFun (f26 55 (by decide)) 6) (f26 60 (by decide)) (f26 61 (by decide)) hI102
    have z103 : (σ24 55 5).toInt = (σ 55 5).toInt := (congrArg Int32.toInt (show σ24 55 5 = (σ 55 5) from (congrFun (f26 55 (by decide)) 5)))
    have z104 : (σ24 55 4).toInt = (σ 55 4).toInt := (congrArg Int32.toInt (show σ24 55 4 = (σ 55 4) from (congrFun (f26 55 (by decide)) 4)))
    refine jcallV (As := [.int (xs x18.toNatClampNeg), .int (xs x20.toNatClampNeg), .int (xs x22.toNatClampNeg)]) (rest := [.int r25]) ⟨hx, hb, hml, hown, hts⟩ hK hP hA hS hZ (c_X12_edge l D cI cL ad zz hJ σ24 τ (xs x18.toNatClampNeg) ((xs x18.toNatClampNeg).toInt) rfl (xs x20.toNatClampNeg) ((xs x20.toNatClampNeg).toInt) rfl (xs x22.toNatClampNeg) ((xs x22.toNatClampNeg).toInt) rfl I101 I102) cw_RL_21 (jc_55 cI cL ad σ24 τ) rfl ⟨Nat.le_of_ble_eq_true rfl, Nat.le_of_ble_eq_true rfl⟩ rfl rfl rfl hl.1 rfl (Nat.le_of_ble_eq_true rfl) dL_law_274 ⟨Nat.le_of_ble_eq_true rfl, Nat.le_of_ble_eq_true rfl⟩ (fun r106 σ105 τ105 H locs h105 hP hS => ?_)
    obtain ⟨rfl, f107, f108, I109, h105⟩ := h105
    obtain ⟨i110, i111, i112, w113, w114, w115, w116⟩ : (0 ≤ (σ105 55 5).toInt) ∧ ((σ105 55 5).toInt ≤ (σ105 55 4).toInt) ∧ ((σ105 55 4).toInt ≤ 40) ∧ (∀ k : Nat, k < 68 → (-200) ≤ (σ105 56 k).toInt ∧ (σ105 56 k).toInt ≤ 500) ∧ (∀ k : Nat, k < 40 → 0 ≤ (σ105 57 k).toInt ∧ (σ105 57 k).toInt ≤ 67) ∧ (∀ k : Nat, k < 40 → (-200) ≤ (σ105 58 k).toInt ∧ (σ105 58 k).toInt ≤ 500) ∧ (∀ k : Nat, k < 40 → (-200) ≤ (σ105 59 k).toInt ∧ (σ105 59 k).toInt ≤ 500) := id I109
    rcases h105 with h117 | h118
    · obtain ⟨q123, k119, k120, k121, k122⟩ := h117
      have q123 := q123.symm
      subst q123
      have z124 : (σ24 55 6).toInt = (σ 55 6).toInt := (congrArg Int32.toInt (show σ24 55 6 = (σ 55 6) from (congrFun (f26 55 (by decide)) 6)))
      rw [show (σ24 55 6).toInt = (σ 2 0).toInt from by omega] at k121
      exact absurd k99.1 k121
    · obtain ⟨q126, k125⟩ := h118
      have z127 : (σ24 55 6).toInt = (σ 55 6).toInt := (congrArg Int32.toInt (show σ24 55 6 = (σ 55 6) from (congrFun (f26 55 (by decide)) 6)))
      rw [show (σ24 55 6).toInt = (σ 2 0).toInt from by omega] at k125
      obtain ⟨e128, q129, l130, c131⟩ := k99
      obtain ⟨-, q132, l133, c134⟩ := k125
      have p135 := jEdge_pl (by omega) e128 l130 l133
      rw [show σ24 56 = σ 56 from (f26 56 (by decide)), show σ24 57 = σ 57 from (f26 57 (by decide)), show σ24 58 = σ 58 from (f26 58 (by decide)), show σ24 59 = σ 59 from (f26 59 (by decide)), show (σ24 55 4).toInt = (σ 55 4).toInt from by omega] at c134
      have r139 := hr0.res p135.1 (by have h9 := p135.2.1; omega) c131 c134 p135.2.2
      have k138 := hr0.chg p135.1 (by have h9 := p135.2.1; omega) c131 c134 p135.2.2 (by omega) (by omega) (by omega)
      have k136 := k138.2.1
      have k137 := k138.2.2
      refine lv_icmp_eq (tgt := 1357) hx hb dL_law_277 (by decide) (fun _ => ?_) (fun c => absurd (r139) c)
      obtain ⟨x140, ex140⟩ : ∃ y : Int32, y = x0 + 6 := ⟨_, rfl⟩
      have tx140 : x140.toInt = x0.toInt + 6 := (jadd ex140 rfl jz_6 (by omega) (by omega)).trans (by omega)
      refine lv_iinc (v := x140) (lv' := [(3, .int x140), (2, .ref (ad 55)), (1, .ref (ad 0)), (0, .ref b)]) hx hb dL_law_1357 hl (k := 0) rfl (by rw [ex140]; rfl) (by decide) rfl (fun ls hl => ?_)
      refine lv_goto (tgt := 18) hx hb dL_law_1360 (by decide) ?_
      have I141 : jI2 σ105 := jI2_fr (congrFun (f107 2 (by decide)) 0) (congrFun (f107 2 (by decide)) 1) (congrFun (f107 2 (by decide)) 2) (congrFun (f107 2 (by decide)) 3) (f107 6 (by decide)) I28
      have I142 : jI9 σ105 := jI9_fr ((congrFun (f107 9 (by decide)) 0).trans (congrFun (f26 9 (by decide)) 0)) ((f107 10 (by decide)).trans (f26 10 (by decide))) ((f107 11 (by decide)).trans (f26 11 (by decide))) hI9
      have I143 : jI12 σ105 := jI12_fr ((congrFun (f107 12 (by decide)) 0).trans (congrFun (f26 12 (by decide)) 0)) ((f107 13 (by decide)).trans (f26 13 (by decide))) hI12
      have I144 : jI16 σ105 := jI16_fr ((congrFun (f107 16 (by decide)) 0).trans (congrFun (f26 16 (by decide)) 0)) ((congrFun (f107 16 (by decide)) 1).trans (congrFun (f26 16 (by decide)) 1)) ((congrFun (f107 16 (by decide)) 2).trans (congrFun (f26 16 (by decide)) 2)) ((f107 17 (by decide)).trans (f26 17 (by decide))) hI16
      have I145 : jI18 σ105 := jI18_fr ((congrFun (f107 18 (by decide)) 0).trans (congrFun (f26 18 (by decide)) 0)) ((f107 19 (by decide)).trans (f26 19 (by decide))) hI18
      have I146 : jI22 σ105 := jI22_fr ((congrFun (f107 22 (by decide)) 0).trans (congrFun (f26 22 (by decide)) 0)) ((f107 23 (by decide)).trans (f26 23 (by decide))) hI22
      have I147 : jI31 σ105 := jI31_fr ((congrFun (f107 31 (by decide)) 8).trans (congrFun (f26 31 (by decide)) 8)) ((f107 33 (by decide)).trans (f26 33 (by decide))) ((f107 36 (by decide)).trans (f26 36 (by decide))) hI31
      have I148 : jI38 σ105 := jI38_fr ((congrFun (f107 38 (by decide)) 0).trans (congrFun (f26 38 (by decide)) 0)) ((congrFun (f107 38 (by decide)) 1).trans (congrFun (f26 38 (by decide)) 1)) ((f107 39 (by decide)).trans (f26 39 (by decide))) hI38
      have I149 : jI43 σ105 := jI43_fr ((congrFun (f107 43 (by decide)) 8).trans (congrFun (f26 43 (by decide)) 8)) hI43
      have I150 : jI47 σ105 := jI47_fr ((congrFun (f107 47 (by decide)) 0).trans (congrFun (f26 47 (by decide)) 0)) ((f107 49 (by decide)).trans (f26 49 (by decide))) hI47
      have I151 : jI50 σ105 := jI50_fr ((f107 52 (by decide)).trans (f26 52 (by decide))) hI50
      have I152 : jI102 σ105 := jI102_fr (f108 6 (by decide)) (f107 60 (by decide)) (f107 61 (by decide)) I102
      have I153 : jI103 σ105 := jI103_fr ((f108 9 (by decide)).trans (congrFun (f26 55 (by decide)) 9)) hI103
      have I154 : jI104 σ105 := jI104_fr ((f108 10 (by decide)).trans (congrFun (f26 55 (by decide)) 10)) ((f108 12 (by decide)).trans (congrFun (f26 55 (by decide)) 12)) ((f108 13 (by decide)).trans (congrFun (f26 55 (by decide)) 13)) ((f107 62 (by decide)).trans (f26 62 (by decide))) ((f107 67 (by decide)).trans (f26 67 (by decide))) hI104
      have I155 : jI105 σ105 := jI105_fr ((f108 15 (by decide)).trans (congrFun (f26 55 (by decide)) 15)) ((f107 65 (by decide)).trans (f26 65 (by decide))) hI105
      have I156 : jI106 σ105 := jI106_fr ((f108 32 (by decide)).trans (congrFun (f26 55 (by decide)) 32)) ((f107 70 (by decide)).trans (f26 70 (by decide))) ((f107 71 (by decide)).trans (f26 71 (by decide))) ((f107 72 (by decide)).trans (f26 72 (by decide))) hI106
      have I157 : jI107 σ105 := jI107_fr ((f108 12 (by decide)).trans (congrFun (f26 55 (by decide)) 12)) ((f108 47 (by decide)).trans (congrFun (f26 55 (by decide)) 47)) ((f107 80 (by decide)).trans (f26 80 (by decide))) hI107
      have I158 : jI109 σ105 := jI109_fr ((f108 50 (by decide)).trans (congrFun (f26 55 (by decide)) 50)) hI109
      have I159 : jI110 σ105 := jI110_fr ((f107 86 (by decide)).trans (f26 86 (by decide))) ((f107 87 (by decide)).trans (f26 87 (by decide))) hI110
      have I160 : jI111 σ105 := jI111_fr ((f107 79 (by decide)).trans (f26 79 (by decide))) hI111
      have I161 : jI119 σ105 := jI119_fr ((f107 68 (by decide)).trans (f26 68 (by decide))) hI119
      have p162 : jKept σ105 := jKept.fr ((f107 75 (by decide)).trans (f26 75 (by decide))) ((f107 76 (by decide)).trans (f26 76 (by decide))) ((f107 77 (by decide)).trans (f26 77 (by decide))) hs_jKept
      have p163 : jBook σ105 := jBook.fr ((f108 47 (by decide)).trans (congrFun (f26 55 (by decide)) 47)) ((f108 10 (by decide)).trans (congrFun (f26 55 (by decide)) 10)) ((f107 81 (by decide)).trans (f26 81 (by decide))) hs_jBook
      have z164 : (σ105 2 0).toInt = (σ 2 0).toInt := (congrArg Int32.toInt (show σ105 2 0 = (σ 2 0) from ((congrFun (f107 2 (by decide)) 0).trans (f27 0 (by decide)))))
      have z165 : (σ105 55 6).toInt = (σ 55 6).toInt := (congrArg Int32.toInt (show σ105 55 6 = (σ 55 6) from ((f108 6 (by decide)).trans (congrFun (f26 55 (by decide)) 6))))
      have z166 : (σ105 2 2).toInt = (σ24 2 2).toInt := (congrArg Int32.toInt (show σ105 2 2 = (σ24 2 2) from (congrFun (f107 2 (by decide)) 2)))
      have z167 : (σ105 2 3).toInt = (σ24 2 3).toInt := (congrArg Int32.toInt (show σ105 2 3 = (σ24 2 3) from (congrFun (f107 2 (by decide)) 3)))
      exact ih x140 σ105 τ _ _ ls (by have h9 := tx140; omega) ⟨I141, I142, I143, I144, I145, I146, I147, I148, I149, I150, I151, I109, I152, I153, I154, I155, I156, I157, I158, I159, I160, I161, p162, p163, (by omega), (by omega), (by omega), (show jNumP (σ105 3) (σ105 56) (σ105 6) (σ105 57) (σ105 7) (σ105 58) (σ105 8) (σ105 59) (σ105 55 6).toInt (σ105 55 4).toInt by rw [show σ105 3 = σ24 3 from (f107 3 (by decide)), show σ105 6 = σ24 6 from (f107 6 (by decide)), show σ105 7 = σ24 7 from (f107 7 (by decide)), show σ105 8 = σ24 8 from (f107 8 (by decide)), show (σ105 55 6).toInt = (σ 55 6).toInt from by omega]; exact k138.1)⟩ hP hS (lv_sub hl [0, 1, 2, 3] rfl)
set_option maxHeartbeats 4000000 in
set_option maxRecDepth 100000 in
theorem law_case_2 {p : Program} {e : Env} {s : State} {m : MethodId} {below : List Frame} {meth : Method} {c : Code} (l : Launch) {b L : Nat} {xs : Nat → Int32} {D : va_G} {cI cL : ClassId} {ad zz : Nat → Nat} (C0 : lw_At p s m meth c b L xs) (hJ : jD ad) (hA : ∀ q, jA ad q → s.heap.size ≤ q) (hK : jK D cI cL s) (hZ : jZ zz (fun q : Nat => s.heap.size ≤ q) s s.heap) {x0 : Int32} (hx0 : 0 ≤ x0.toInt) (hxL : x0.toInt + 6 ≤ (L : Int)) (hL : L ≤ 384) {σ : Nat → Nat → Int32} {τ : Nat → Nat → Int64} {H : Heap} {locs : List Loc} (hS : va_S (fun q : Nat => s.heap.size ≤ q) s.heap H locs) {ls : Array Slot} (hAll : jAll σ τ) (hP : jH D cI cL ad σ τ H) (hl : lv_has ls 4 [(3, .int x0), (2, .ref (ad 55)), (1, .ref (ad 0)), (0, .ref b)]) (ih : ∀ (x1 : Int32) (σ : Nat → Nat → Int32) (τ : Nat → Nat → Int64) (H : Heap) (locs : List Loc) (ls : Array Slot), x1.toInt = x0.toInt + 6 → jAll σ τ → jH D cI cL ad σ τ H → va_S (fun q : Nat => s.heap.size ≤ q) s.heap H locs → lv_has ls 4 [(3, .int x1), (2, .ref (ad 55)), (1, .ref (ad 0)), (0, .ref b)] → W p l e room_1 s m #[Value.ref b] below meth c H locs 90 348600 (lw_Z below #[Value.ref b] s) (F0 m 18 ls [])) : W p l e room_1 s m #[Value.ref b] below meth c H locs 90 348600 (lw_Z below #[Value.ref b] s) (F0 m 282 ls []) := by
  obtain ⟨hx, hb, hr, hml, hown, hts0, hX, hbl, hlocks, hgv⟩ := C0
  have hts : ∀ w ∈ wsL_law, w.before #[Value.ref b] s = true := fun w h => hts0 w (wsL_law_in w h)
  have hbA : ¬ (fun q : Nat => s.heap.size ≤ q) b := Nat.not_le.mpr hbl
  have hown : s.vm.findClass RL = some m.cls := hown
  obtain ⟨hI2, hI9, hI12, hI16, hI18, hI22, hI31, hI38, hI43, hI47, hI50, hI101, hI102, hI103, hI104, hI105, hI106, hI107, hI109, hI110, hI111, hI119, hs_jKept, hs_jBook, ht0, ht1, ht2, hr0⟩ := hAll
  have hL9 : (L : Int) ≤ 384 := by omega
  obtain ⟨i1, i2, i3, i4, i5, w6⟩ : (0 ≤ (σ 2 0).toInt ∧ (σ 2 0).toInt ≤ 4) ∧ (0 ≤ (σ 2 1).toInt ∧ (σ 2 1).toInt ≤ 3) ∧ (0 ≤ (σ 2 2).toInt) ∧ (0 ≤ (σ 2 3).toInt) ∧ ((σ 2 2).toInt + (σ 2 3).toInt ≤ 40) ∧ (∀ k : Nat, k < 40 → 0 ≤ (σ 6 k).toInt ∧ (σ 6 k).toInt ≤ 67) := id hI2
  obtain ⟨i7, i8, i9, w10, w11, w12, w13⟩ : (0 ≤ (σ 55 5).toInt) ∧ ((σ 55 5).toInt ≤ (σ 55 4).toInt) ∧ ((σ 55 4).toInt ≤ 40) ∧ (∀ k : Nat, k < 68 → (-200) ≤ (σ 56 k).toInt ∧ (σ 56 k).toInt ≤ 500) ∧ (∀ k : Nat, k < 40 → 0 ≤ (σ 57 k).toInt ∧ (σ 57 k).toInt ≤ 67) ∧ (∀ k : Nat, k < 40 → (-200) ≤ (σ 58 k).toInt ∧ (σ 58 k).toInt ≤ 500) ∧ (∀ k : Nat, k < 40 → (-200) ≤ (σ 59 k).toInt ∧ (σ 59 k).toInt ≤ 500) := id hI101
  obtain ⟨i14, w15, w16⟩ : (0 ≤ (σ 55 6).toInt ∧ (σ 55 6).toInt ≤ 4) ∧ (∀ k : Nat, k < 4 → 0 ≤ (σ 60 k).toInt ∧ (σ 60 k).toInt ≤ 50) ∧ (∀ k : Nat, k < 4 → 0 ≤ (σ 61 k).toInt ∧ (σ 61 k).toInt ≤ 20) := id hI102
  refine lv_aload_n hx hb dL_law_282 rfl (lv_at hl 2 rfl) ?_
  refine lv_aload_n hx hb dL_law_283 rfl (lv_at hl 3 rfl) ?_
  refine lv_iload_n hx hb dL_law_284 rfl (lv_at hl 0 rfl) ?_
  refine lv_iconst (v := 1) hx hb dL_law_285 (by decide) ?_
  have g17 := jrg (rfl : x0.toInt = x0.toInt)
  refine lv_iadd hx hb dL_law_286 ?_
  refine lv_topi (fun x18 ex18 => ?_)
  have tx18 : x18.toInt = x0.toInt + 1 := (jadd ex18 rfl jz_1 (by omega) (by omega)).trans (by omega)
  refine va_sld hx hb hX hbl hbA hS (jin tx18 (by omega) (by omega)) dL_law_287 ?_
  have g19 := jrg (rfl : (xs x18.toNatClampNeg).toInt = (xs x18.toNatClampNeg).toInt)
  refine lv_aload_n hx hb dL_law_288 rfl (lv_at hl 3 rfl) ?_
  refine lv_iload_n hx hb dL_law_289 rfl (lv_at hl 0 rfl) ?_
  refine lv_iconst (v := 2) hx hb dL_law_290 (by decide) ?_
  refine lv_iadd hx hb dL_law_291 ?_
  refine lv_topi (fun x20 ex20 => ?_)
  have tx20 : x20.toInt = x0.toInt + 2 := (jadd ex20 rfl jz_2 (by omega) (by omega)).trans (by omega)
  refine va_sld hx hb hX hbl hbA hS (jin tx20 (by omega) (by omega)) dL_law_292 ?_
  have g21 := jrg (rfl : (xs x20.toNatClampNeg).toInt = (xs x20.toNatClampNeg).toInt)
  refine lv_aload_n hx hb dL_law_293 rfl (lv_at hl 3 rfl) ?_
  refine lv_iload_n hx hb dL_law_294 rfl (lv_at hl 0 rfl) ?_
  refine lv_iconst (v := 3) hx hb dL_law_295 (by decide) ?_
  refine lv_iadd hx hb dL_law_296 ?_
  refine lv_topi (fun x22 ex22 => ?_)
  have tx22 : x22.toInt = x0.toInt + 3 := (jadd ex22 rfl jz_3 (by omega) (by omega)).trans (by omega)
  refine va_sld hx hb hX hbl hbA hS (jin tx22 (by omega) (by omega)) dL_law_297 ?_
  have g23 := jrg (rfl : (xs x22.toNatClampNeg).toInt = (xs x22.toNatClampNeg).toInt)
  refine jcallV (As := [.int (xs x18.toNatClampNeg), .int (xs x20.toNatClampNeg), .int (xs x22.toNatClampNeg)]) (rest := []) ⟨hx, hb, hml, hown, hts⟩ hK hP hA hS hZ (c_X11_field l D cI cL ad zz hJ σ τ (xs x18.toNatClampNeg) ((xs x18.toNatClampNeg).toInt) rfl (xs x20.toNatClampNeg) ((xs x20.toNatClampNeg).toInt) rfl (xs x22.toNatClampNeg) ((xs x22.toNatClampNeg).toInt) rfl hI2) cw_RL_22 (jc_0 cI cL ad σ τ) rfl ⟨Nat.le_of_ble_eq_true rfl, Nat.le_of_ble_eq_true rfl⟩ rfl rfl rfl hl.1 rfl (Nat.le_of_ble_eq_true rfl) dL_law_298 ⟨Nat.le_of_ble_eq_true rfl, Nat.le_of_ble_eq_true rfl⟩ (fun r25 σ24 τ24 H locs h24 hP hS => ?_)
  obtain ⟨rfl, f26, f27, I28, h24⟩ := h24
  obtain ⟨i29, i30, i31, i32, i33, w34⟩ : (0 ≤ (σ24 2 0).toInt ∧ (σ24 2 0).toInt ≤ 4) ∧ (0 ≤ (σ24 2 1).toInt ∧ (σ24 2 1).toInt ≤ 3) ∧ (0 ≤ (σ24 2 2).toInt) ∧ (0 ≤ (σ24 2 3).toInt) ∧ ((σ24 2 2).toInt + (σ24 2 3).toInt ≤ 40) ∧ (∀ k : Nat, k < 40 → 0 ≤ (σ24 6 k).toInt ∧ (σ24 6 k).toInt ≤ 67) := id I28
  have z35 : (σ24 2 0).toInt = (σ 2 0).toInt := (congrArg Int32.toInt (show σ24 2 0 = (σ 2 0) from (f27 0 (by decide))))
  have z36 : (σ24 2 1).toInt = (σ 2 1).toInt := (congrArg Int32.toInt (show σ24 2 1 = (σ 2 1) from (f27 1 (by decide))))
  rcases h24 with h37 | h38
  · obtain ⟨q43, k39, k40, k41, k42⟩ := h37
    have q43 := q43.symm
    subst q43
    refine lv_pop hx hb dL_law_301 rfl ?_
    refine lv_aload_n hx hb dL_law_302 rfl (lv_at hl 1 rfl) ?_
    refine lv_aload_n hx hb dL_law_303 rfl (lv_at hl 3 rfl) ?_
    refine lv_iload_n hx hb dL_law_304 rfl (lv_at hl 0 rfl) ?_
    refine lv_iconst (v := 1) hx hb dL_law_305 (by decide) ?_
    refine lv_iadd hx hb dL_law_306 ?_
    refine jtopr ex18.symm ?_
    refine va_sld hx hb hX hbl hbA hS (jin tx18 (by omega) (by omega)) dL_law_307 ?_
    refine lv_aload_n hx hb dL_law_308 rfl (lv_at hl 3 rfl) ?_
    refine lv_iload_n hx hb dL_law_309 rfl (lv_at hl 0 rfl) ?_
    refine lv_iconst (v := 2) hx hb dL_law_310 (by decide) ?_
    refine lv_iadd hx hb dL_law_311 ?_
    refine jtopr ex20.symm ?_
    refine va_sld hx hb hX hbl hbA hS (jin tx20 (by omega) (by omega)) dL_law_312 ?_
    refine lv_aload_n hx hb dL_law_313 rfl (lv_at hl 3 rfl) ?_
    refine lv_iload_n hx hb dL_law_314 rfl (lv_at hl 0 rfl) ?_
    refine lv_iconst (v := 3) hx hb dL_law_315 (by decide) ?_
    refine lv_iadd hx hb dL_law_316 ?_
    refine jtopr ex22.symm ?_
    refine va_sld hx hb hX hbl hbA hS (jin tx22 (by omega) (by omega)) dL_law_317 ?_
    have I44 : jI101 σ24 := jI101_fr (congrFun (f26 55 (by decide)) 4) (congrFun (f26 55 (by decide)) 5) (f26 56 (by decide)) (f26 57 (by decide)) (f26 58 (by decide)) (f26 59 (by decide)) hI101
    have z45 : (σ24 55 5).toInt = (σ 55 5).toInt := (congrArg Int32.toInt (show σ24 55 5 = (σ 55 5) from (congrFun (f26 55 (by decide)) 5)))
    have z46 : (σ24 55 4).toInt = (σ 55 4).toInt := (congrArg Int32.toInt (show σ24 55 4 = (σ 55 4) from (congrFun (f26 55 (by decide)) 4)))
    refine jcallV (As := [.int (xs x18.toNatClampNeg), .int (xs x20.toNatClampNeg), .int (xs x22.toNatClampNeg)]) (rest := []) ⟨hx, hb, hml, hown, hts⟩ hK hP hA hS hZ (c_X12_field l D cI cL ad zz hJ σ24 τ (xs x18.toNatClampNeg) ((xs x18.toNatClampNeg).toInt) rfl (xs x20.toNatClampNeg) ((xs x20.toNatClampNeg).toInt) rfl (xs x22.toNatClampNeg) ((xs x22.toNatClampNeg).toInt) rfl I44) cw_RL_25 (jc_55 cI cL ad σ24 τ) rfl ⟨Nat.le_of_ble_eq_true rfl, Nat.le_of_ble_eq_true rfl⟩ rfl rfl rfl hl.1 rfl (Nat.le_of_ble_eq_true rfl) dL_law_318 ⟨Nat.le_of_ble_eq_true rfl, Nat.le_of_ble_eq_true rfl⟩ (fun r48 σ47 τ47 H locs h47 hP hS => ?_)
    obtain ⟨rfl, f49, f50, I51, h47⟩ := h47
    obtain ⟨i52, i53, i54, w55, w56, w57, w58⟩ : (0 ≤ (σ47 55 5).toInt) ∧ ((σ47 55 5).toInt ≤ (σ47 55 4).toInt) ∧ ((σ47 55 4).toInt ≤ 40) ∧ (∀ k : Nat, k < 68 → (-200) ≤ (σ47 56 k).toInt ∧ (σ47 56 k).toInt ≤ 500) ∧ (∀ k : Nat, k < 40 → 0 ≤ (σ47 57 k).toInt ∧ (σ47 57 k).toInt ≤ 67) ∧ (∀ k : Nat, k < 40 → (-200) ≤ (σ47 58 k).toInt ∧ (σ47 58 k).toInt ≤ 500) ∧ (∀ k : Nat, k < 40 → (-200) ≤ (σ47 59 k).toInt ∧ (σ47 59 k).toInt ≤ 500) := id I51
    rcases h47 with h59 | h60
    · obtain ⟨q65, k61, k62, k63, k64⟩ := h59
      have q65 := q65.symm
      subst q65
      have z66 : (σ24 55 6).toInt = (σ 55 6).toInt := (congrArg Int32.toInt (show σ24 55 6 = (σ 55 6) from (congrFun (f26 55 (by decide)) 6)))
      rw [show (σ24 55 6).toInt = (σ 2 0).toInt from by omega] at k63
      refine lv_pop hx hb dL_law_321 rfl ?_
      refine lv_goto (tgt := 1357) hx hb dL_law_322 (by decide) ?_
      obtain ⟨x67, ex67⟩ : ∃ y : Int32, y = x0 + 6 := ⟨_, rfl⟩
      have tx67 : x67.toInt = x0.toInt + 6 := (jadd ex67 rfl jz_6 (by omega) (by omega)).trans (by omega)
      refine lv_iinc (v := x67) (lv' := [(3, .int x67), (2, .ref (ad 55)), (1, .ref (ad 0)), (0, .ref b)]) hx hb dL_law_1357 hl (k := 0) rfl (by rw [ex67]; rfl) (by decide) rfl (fun ls hl => ?_)
      refine lv_goto (tgt := 18) hx hb dL_law_1360 (by decide) ?_
      have I68 : jI2 σ47 := jI2_fr (congrFun (f49 2 (by decide)) 0) (congrFun (f49 2 (by decide)) 1) (congrFun (f49 2 (by decide)) 2) (congrFun (f49 2 (by decide)) 3) (f49 6 (by decide)) I28
      have I69 : jI9 σ47 := jI9_fr ((congrFun (f49 9 (by decide)) 0).trans (congrFun (f26 9 (by decide)) 0)) ((f49 10 (by decide)).trans (f26 10 (by decide))) ((f49 11 (by decide)).trans (f26 11 (by decide))) hI9
      have I70 : jI12 σ47 := jI12_fr ((congrFun (f49 12 (by decide)) 0).trans (congrFun (f26 12 (by decide)) 0)) ((f49 13 (by decide)).trans (f26 13 (by decide))) hI12
      have I71 : jI16 σ47 := jI16_fr ((congrFun (f49 16 (by decide)) 0).trans (congrFun (f26 16 (by decide)) 0)) ((congrFun (f49 16 (by decide)) 1).trans (congrFun (f26 16 (by decide)) 1)) ((congrFun (f49 16 (by decide)) 2).trans (congrFun (f26 16 (by decide)) 2)) ((f49 17 (by decide)).trans (f26 17 (by decide))) hI16
      have I72 : jI18 σ47 := jI18_fr ((congrFun (f49 18 (by decide)) 0).trans (congrFun (f26 18 (by decide)) 0)) ((f49 19 (by decide)).trans (f26 19 (by decide))) hI18
      have I73 : jI22 σ47 := jI22_fr ((congrFun (f49 22 (by decide)) 0).trans (congrFun (f26 22 (by decide)) 0)) ((f49 23 (by decide)).trans (f26 23 (by decide))) hI22
      have I74 : jI31 σ47 := jI31_fr ((congrFun (f49 31 (by decide)) 8).trans (congrFun (f26 31 (by decide)) 8)) ((f49 33 (by decide)).trans (f26 33 (by decide))) ((f49 36 (by decide)).trans (f26 36 (by decide))) hI31
      have I75 : jI38 σ47 := jI38_fr ((congrFun (f49 38 (by decide)) 0).trans (congrFun (f26 38 (by decide)) 0)) ((congrFun (f49 38 (by decide)) 1).trans (congrFun (f26 38 (by decide)) 1)) ((f49 39 (by decide)).trans (f26 39 (by decide))) hI38
      have I76 : jI43 σ47 := jI43_fr ((congrFun (f49 43 (by decide)) 8).trans (congrFun (f26 43 (by decide)) 8)) hI43
      have I77 : jI47 σ47 := jI47_fr ((congrFun (f49 47 (by decide)) 0).trans (congrFun (f26 47 (by decide)) 0)) ((f49 49 (by decide)).trans (f26 49 (by decide))) hI47
      have I78 : jI50 σ47 := jI50_fr ((f49 52 (by decide)).trans (f26 52 (by decide))) hI50
      have I79 : jI102 σ47 := jI102_fr ((f50 6 (by decide)).trans (congrFun (f26 55 (by decide)) 6)) ((f49 60 (by decide)).trans (f26 60 (by decide))) ((f49 61 (by decide)).trans (f26 61 (by decide))) hI102
      have I80 : jI103 σ47 := jI103_fr ((f50 9 (by decide)).trans (congrFun (f26 55 (by decide)) 9)) hI103
      have I81 : jI104 σ47 := jI104_fr ((f50 10 (by decide)).trans (congrFun (f26 55 (by decide)) 10)) ((f50 12 (by decide)).trans (congrFun (f26 55 (by decide)) 12)) ((f50 13 (by decide)).trans (congrFun (f26 55 (by decide)) 13)) ((f49 62 (by decide)).trans (f26 62 (by decide))) ((f49 67 (by decide)).trans (f26 67 (by decide))) hI104
      have I82 : jI105 σ47 := jI105_fr ((f50 15 (by decide)).trans (congrFun (f26 55 (by decide)) 15)) ((f49 65 (by decide)).trans (f26 65 (by decide))) hI105
      have I83 : jI106 σ47 := jI106_fr ((f50 32 (by decide)).trans (congrFun (f26 55 (by decide)) 32)) ((f49 70 (by decide)).trans (f26 70 (by decide))) ((f49 71 (by decide)).trans (f26 71 (by decide))) ((f49 72 (by decide)).trans (f26 72 (by decide))) hI106
      have I84 : jI107 σ47 := jI107_fr ((f50 12 (by decide)).trans (congrFun (f26 55 (by decide)) 12)) ((f50 47 (by decide)).trans (congrFun (f26 55 (by decide)) 47)) ((f49 80 (by decide)).trans (f26 80 (by decide))) hI107
      have I85 : jI109 σ47 := jI109_fr ((f50 50 (by decide)).trans (congrFun (f26 55 (by decide)) 50)) hI109
      have I86 : jI110 σ47 := jI110_fr ((f49 86 (by decide)).trans (f26 86 (by decide))) ((f49 87 (by decide)).trans (f26 87 (by decide))) hI110
      have I87 : jI111 σ47 := jI111_fr ((f49 79 (by decide)).trans (f26 79 (by decide))) hI111
      have I88 : jI119 σ47 := jI119_fr ((f49 68 (by decide)).trans (f26 68 (by decide))) hI119
      have p89 : jKept σ47 := jKept.fr ((f49 75 (by decide)).trans (f26 75 (by decide))) ((f49 76 (by decide)).trans (f26 76 (by decide))) ((f49 77 (by decide)).trans (f26 77 (by decide))) hs_jKept
      have p90 : jBook σ47 := jBook.fr ((f50 47 (by decide)).trans (congrFun (f26 55 (by decide)) 47)) ((f50 10 (by decide)).trans (congrFun (f26 55 (by decide)) 10)) ((f49 81 (by decide)).trans (f26 81 (by decide))) hs_jBook
      have z91 : (σ47 2 0).toInt = (σ 2 0).toInt := (congrArg Int32.toInt (show σ47 2 0 = (σ 2 0) from ((congrFun (f49 2 (by decide)) 0).trans (f27 0 (by decide)))))
      have z92 : (σ47 55 6).toInt = (σ 55 6).toInt := (congrArg Int32.toInt (show σ47 55 6 = (σ 55 6) from ((f50 6 (by decide)).trans (congrFun (f26 55 (by decide)) 6))))
      have z93 : (σ47 2 2).toInt = (σ24 2 2).toInt := (congrArg Int32.toInt (show σ47 2 2 = (σ24 2 2) from (congrFun (f49 2 (by decide)) 2)))
      have z94 : (σ47 2 3).toInt = (σ24 2 3).toInt := (congrArg Int32.toInt (show σ47 2 3 = (σ24 2 3) from (congrFun (f49 2 (by decide)) 3)))
      exact ih x67 σ47 τ _ _ ls (by have h9 := tx67; omega) ⟨I68, I69, I70, I71, I72, I73, I74, I75, I76, I77, I78, I51, I79, I80, I81, I82, I83, I84, I85, I86, I87, I88, p89, p90, (by omega), (by omega), (by omega), (show jNumP (σ47 3) (σ47 56) (σ47 6) (σ47 57) (σ47 7) (σ47 58) (σ47 8) (σ47 59) (σ47 55 6).toInt (σ47 55 4).toInt by rw [show σ47 3 = σ 3 from ((f49 3 (by decide)).trans k42.1), show σ47 56 = σ 56 from (k64.1.trans (f26 56 (by decide))), show σ47 6 = σ 6 from ((f49 6 (by decide)).trans k42.2.1), show σ47 57 = σ 57 from (k64.2.1.trans (f26 57 (by decide))), show σ47 7 = σ 7 from ((f49 7 (by decide)).trans k42.2.2.1), show σ47 58 = σ 58 from (k64.2.2.1.trans (f26 58 (by decide))), show σ47 8 = σ 8 from ((f49 8 (by decide)).trans k42.2.2.2), show σ47 59 = σ 59 from (k64.2.2.2.trans (f26 59 (by decide))), show (σ47 55 6).toInt = (σ 55 6).toInt from by omega, show (σ47 55 4).toInt = (σ 55 4).toInt from by omega]; exact hr0)⟩ hP hS (lv_sub hl [0, 1, 2, 3] rfl)
    · obtain ⟨q96, k95⟩ := h60
      have z97 : (σ24 55 6).toInt = (σ 55 6).toInt := (congrArg Int32.toInt (show σ24 55 6 = (σ 55 6) from (congrFun (f26 55 (by decide)) 6)))
      rw [show (σ24 55 6).toInt = (σ 2 0).toInt from by omega] at k95
      exact absurd k95.1 k41
  · obtain ⟨q99, k98⟩ := h38
    refine lv_pop hx hb dL_law_301 rfl ?_
    refine lv_aload_n hx hb dL_law_302 rfl (lv_at hl 1 rfl) ?_
    refine lv_aload_n hx hb dL_law_303 rfl (lv_at hl 3 rfl) ?_
    refine lv_iload_n hx hb dL_law_304 rfl (lv_at hl 0 rfl) ?_
    refine lv_iconst (v := 1) hx hb dL_law_305 (by decide) ?_
    refine lv_iadd hx hb dL_law_306 ?_
    refine jtopr ex18.symm ?_
    refine va_sld hx hb hX hbl hbA hS (jin tx18 (by omega) (by omega)) dL_law_307 ?_
    refine lv_aload_n hx hb dL_law_308 rfl (lv_at hl 3 rfl) ?_
    refine lv_iload_n hx hb dL_law_309 rfl (lv_at hl 0 rfl) ?_
    refine lv_iconst (v := 2) hx hb dL_law_310 (by decide) ?_
    refine lv_iadd hx hb dL_law_311 ?_
    refine jtopr ex20.symm ?_
    refine va_sld hx hb hX hbl hbA hS (jin tx20 (by omega) (by omega)) dL_law_312 ?_
    refine lv_aload_n hx hb dL_law_313 rfl (lv_at hl 3 rfl) ?_
    refine lv_iload_n hx hb dL_law_314 rfl (lv_at hl 0 rfl) ?_
    refine lv_iconst (v := 3) hx hb dL_law_315 (by decide) ?_
    refine lv_iadd hx hb dL_law_316 ?_
    refine jtopr ex22.symm ?_
    refine va_sld hx hb hX hbl hbA hS (jin tx22 (by omega) (by omega)) dL_law_317 ?_
    have I100 : jI101 σ24 := jI101_fr (congrFun (f26 55 (by decide)) 4) (congrFun (f26 55 (by decide)) 5) (f26 56 (by decide)) (f26 57 (by decide)) (f26 58 (by decide)) (f26 59 (by decide)) hI101
    have z101 : (σ24 55 5).toInt = (σ 55 5).toInt := (congrArg Int32.toInt (show σ24 55 5 = (σ 55 5) from (congrFun (f26 55 (by decide)) 5)))
    have z102 : (σ24 55 4).toInt = (σ 55 4).toInt := (congrArg Int32.toInt (show σ24 55 4 = (σ 55 4) from (congrFun (f26 55 (by decide)) 4)))
    refine jcallV (As := [.int (xs x18.toNatClampNeg), .int (xs x20.toNatClampNeg), .int (xs x22.toNatClampNeg)]) (rest := []) ⟨hx, hb, hml, hown, hts⟩ hK hP hA hS hZ (c_X12_field l D cI cL ad zz hJ σ24 τ (xs x18.toNatClampNeg) ((xs x18.toNatClampNeg).toInt) rfl (xs x20.toNatClampNeg) ((xs x20.toNatClampNeg).toInt) rfl (xs x22.toNatClampNeg) ((xs x22.toNatClampNeg).toInt) rfl I100) cw_RL_25 (jc_55 cI cL ad σ24 τ) rfl ⟨Nat.le_of_ble_eq_true rfl, Nat.le_of_ble_eq_true rfl⟩ rfl rfl rfl hl.1 rfl (Nat.le_of_ble_eq_true rfl) dL_law_318 ⟨Nat.le_of_ble_eq_true rfl, Nat.le_of_ble_eq_true rfl⟩ (fun r104 σ103 τ103 H locs h103 hP hS => ?_)
    obtain ⟨rfl, f105, f106, I107, h103⟩ := h103
    obtain ⟨i108, i109, i110, w111, w112, w113, w114⟩ : (0 ≤ (σ103 55 5).toInt) ∧ ((σ103 55 5).toInt ≤ (σ103 55 4).toInt) ∧ ((σ103 55 4).toInt ≤ 40) ∧ (∀ k : Nat, k < 68 → (-200) ≤ (σ103 56 k).toInt ∧ (σ103 56 k).toInt ≤ 500) ∧ (∀ k : Nat, k < 40 → 0 ≤ (σ103 57 k).toInt ∧ (σ103 57 k).toInt ≤ 67) ∧ (∀ k : Nat, k < 40 → (-200) ≤ (σ103 58 k).toInt ∧ (σ103 58 k).toInt ≤ 500) ∧ (∀ k : Nat, k < 40 → (-200) ≤ (σ103 59 k).toInt ∧ (σ103 59 k).toInt ≤ 500) := id I107
    rcases h103 with h115 | h116
    · obtain ⟨q121, k117, k118, k119, k120⟩ := h115
      have q121 := q121.symm
      subst q121
      have z122 : (σ24 55 6).toInt = (σ 55 6).toInt := (congrArg Int32.toInt (show σ24 55 6 = (σ 55 6) from (congrFun (f26 55 (by decide)) 6)))
      rw [show (σ24 55 6).toInt = (σ 2 0).toInt from by omega] at k119
      exact absurd k98.1 k119
    · obtain ⟨q124, k123⟩ := h116
      have z125 : (σ24 55 6).toInt = (σ 55 6).toInt := (congrArg Int32.toInt (show σ24 55 6 = (σ 55 6) from (congrFun (f26 55 (by decide)) 6)))
      rw [show (σ24 55 6).toInt = (σ 2 0).toInt from by omega] at k123
      obtain ⟨e126, q127, l128, c129⟩ := k98
      obtain ⟨-, q130, l131, c132⟩ := k123
      have p133 := jField_pl (by omega) e126 l128 l131
      rw [show σ24 56 = σ 56 from (f26 56 (by decide)), show σ24 57 = σ 57 from (f26 57 (by decide)), show σ24 58 = σ 58 from (f26 58 (by decide)), show σ24 59 = σ 59 from (f26 59 (by decide)), show (σ24 55 4).toInt = (σ 55 4).toInt from by omega] at c132
      have r137 := hr0.res p133.1 (by have h9 := p133.2.1; omega) c129 c132 p133.2.2
      have k136 := hr0.chg p133.1 (by have h9 := p133.2.1; omega) c129 c132 p133.2.2 (by omega) (by omega) (by omega)
      have k134 := k136.2.1
      have k135 := k136.2.2
      refine lv_pop hx hb dL_law_321 rfl ?_
      refine lv_goto (tgt := 1357) hx hb dL_law_322 (by decide) ?_
      obtain ⟨x138, ex138⟩ : ∃ y : Int32, y = x0 + 6 := ⟨_, rfl⟩
      have tx138 : x138.toInt = x0.toInt + 6 := (jadd ex138 rfl jz_6 (by omega) (by omega)).trans (by omega)
      refine lv_iinc (v := x138) (lv' := [(3, .int x138), (2, .ref (ad 55)), (1, .ref (ad 0)), (0, .ref b)]) hx hb dL_law_1357 hl (k := 0) rfl (by rw [ex138]; rfl) (by decide) rfl (fun ls hl => ?_)
      refine lv_goto (tgt := 18) hx hb dL_law_1360 (by decide) ?_
      have I139 : jI2 σ103 := jI2_fr (congrFun (f105 2 (by decide)) 0) (congrFun (f105 2 (by decide)) 1) (congrFun (f105 2 (by decide)) 2) (congrFun (f105 2 (by decide)) 3) (f105 6 (by decide)) I28
      have I140 : jI9 σ103 := jI9_fr ((congrFun (f105 9 (by decide)) 0).trans (congrFun (f26 9 (by decide)) 0)) ((f105 10 (by decide)).trans (f26 10 (by decide))) ((f105 11 (by decide)).trans (f26 11 (by decide))) hI9
      have I141 : jI12 σ103 := jI12_fr ((congrFun (f105 12 (by decide)) 0).trans (congrFun (f26 12 (by decide)) 0)) ((f105 13 (by decide)).trans (f26 13 (by decide))) hI12
      have I142 : jI16 σ103 := jI16_fr ((congrFun (f105 16 (by decide)) 0).trans (congrFun (f26 16 (by decide)) 0)) ((congrFun (f105 16 (by decide)) 1).trans (congrFun (f26 16 (by decide)) 1)) ((congrFun (f105 16 (by decide)) 2).trans (congrFun (f26 16 (by decide)) 2)) ((f105 17 (by decide)).trans (f26 17 (by decide))) hI16
      have I143 : jI18 σ103 := jI18_fr ((congrFun (f105 18 (by decide)) 0).trans (congrFun (f26 18 (by decide)) 0)) ((f105 19 (by decide)).trans (f26 19 (by decide))) hI18
      have I144 : jI22 σ103 := jI22_fr ((congrFun (f105 22 (by decide)) 0).trans (congrFun (f26 22 (by decide)) 0)) ((f105 23 (by decide)).trans (f26 23 (by decide))) hI22
      have I145 : jI31 σ103 := jI31_fr ((congrFun (f105 31 (by decide)) 8).trans (congrFun (f26 31 (by decide)) 8)) ((f105 33 (by decide)).trans (f26 33 (by decide))) ((f105 36 (by decide)).trans (f26 36 (by decide))) hI31
      have I146 : jI38 σ103 := jI38_fr ((congrFun (f105 38 (by decide)) 0).trans (congrFun (f26 38 (by decide)) 0)) ((congrFun (f105 38 (by decide)) 1).trans (congrFun (f26 38 (by decide)) 1)) ((f105 39 (by decide)).trans (f26 39 (by decide))) hI38
      have I147 : jI43 σ103 := jI43_fr ((congrFun (f105 43 (by decide)) 8).trans (congrFun (f26 43 (by decide)) 8)) hI43
      have I148 : jI47 σ103 := jI47_fr ((congrFun (f105 47 (by decide)) 0).trans (congrFun (f26 47 (by decide)) 0)) ((f105 49 (by decide)).trans (f26 49 (by decide))) hI47
      have I149 : jI50 σ103 := jI50_fr ((f105 52 (by decide)).trans (f26 52 (by decide))) hI50
      have I150 : jI102 σ103 := jI102_fr ((f106 6 (by decide)).trans (congrFun (f26 55 (by decide)) 6)) ((f105 60 (by decide)).trans (f26 60 (by decide))) ((f105 61 (by decide)).trans (f26 61 (by decide))) hI102
      have I151 : jI103 σ103 := jI103_fr ((f106 9 (by decide)).trans (congrFun (f26 55 (by decide)) 9)) hI103
      have I152 : jI104 σ103 := jI104_fr ((f106 10 (by decide)).trans (congrFun (f26 55 (by decide)) 10)) ((f106 12 (by decide)).trans (congrFun (f26 55 (by decide)) 12)) ((f106 13 (by decide)).trans (congrFun (f26 55 (by decide)) 13)) ((f105 62 (by decide)).trans (f26 62 (by decide))) ((f105 67 (by decide)).trans (f26 67 (by decide))) hI104
      have I153 : jI105 σ103 := jI105_fr ((f106 15 (by decide)).trans (congrFun (f26 55 (by decide)) 15)) ((f105 65 (by decide)).trans (f26 65 (by decide))) hI105
      have I154 : jI106 σ103 := jI106_fr ((f106 32 (by decide)).trans (congrFun (f26 55 (by decide)) 32)) ((f105 70 (by decide)).trans (f26 70 (by decide))) ((f105 71 (by decide)).trans (f26 71 (by decide))) ((f105 72 (by decide)).trans (f26 72 (by decide))) hI106
      have I155 : jI107 σ103 := jI107_fr ((f106 12 (by decide)).trans (congrFun (f26 55 (by decide)) 12)) ((f106 47 (by decide)).trans (congrFun (f26 55 (by decide)) 47)) ((f105 80 (by decide)).trans (f26 80 (by decide))) hI107
      have I156 : jI109 σ103 := jI109_fr ((f106 50 (by decide)).trans (congrFun (f26 55 (by decide)) 50)) hI109
      have I157 : jI110 σ103 := jI110_fr ((f105 86 (by decide)).trans (f26 86 (by decide))) ((f105 87 (by decide)).trans (f26 87 (by decide))) hI110
      have I158 : jI111 σ103 := jI111_fr ((f105 79 (by decide)).trans (f26 79 (by decide))) hI111
      have I159 : jI119 σ103 := jI119_fr ((f105 68 (by decide)).trans (f26 68 (by decide))) hI119
      have p160 : jKept σ103 := jKept.fr ((f105 75 (by decide)).trans (f26 75 (by decide))) ((f105 76 (by decide)).trans (f26 76 (by decide))) ((f105 77 (by decide)).trans (f26 77 (by decide))) hs_jKept
      have p161 : jBook σ103 := jBook.fr ((f106 47 (by decide)).trans (congrFun (f26 55 (by decide)) 47)) ((f106 10 (by decide)).trans (congrFun (f26 55 (by decide)) 10)) ((f105 81 (by decide)).trans (f26 81 (by decide))) hs_jBook
      have z162 : (σ103 2 0).toInt = (σ 2 0).toInt := (congrArg Int32.toInt (show σ103 2 0 = (σ 2 0) from ((congrFun (f105 2 (by decide)) 0).trans (f27 0 (by decide)))))
      have z163 : (σ103 55 6).toInt = (σ 55 6).toInt := (congrArg Int32.toInt (show σ103 55 6 = (σ 55 6) from ((f106 6 (by decide)).trans (congrFun (f26 55 (by decide)) 6))))
      have z164 : (σ103 2 2).toInt = (σ24 2 2).toInt := (congrArg Int32.toInt (show σ103 2 2 = (σ24 2 2) from (congrFun (f105 2 (by decide)) 2)))
      have z165 : (σ103 2 3).toInt = (σ24 2 3).toInt := (congrArg Int32.toInt (show σ103 2 3 = (σ24 2 3) from (congrFun (f105 2 (by decide)) 3)))
      exact ih x138 σ103 τ _ _ ls (by have h9 := tx138; omega) ⟨I139, I140, I141, I142, I143, I144, I145, I146, I147, I148, I149, I107, I150, I151, I152, I153, I154, I155, I156, I157, I158, I159, p160, p161, (by omega), (by omega), (by omega), (show jNumP (σ103 3) (σ103 56) (σ103 6) (σ103 57) (σ103 7) (σ103 58) (σ103 8) (σ103 59) (σ103 55 6).toInt (σ103 55 4).toInt by rw [show σ103 3 = σ24 3 from (f105 3 (by decide)), show σ103 6 = σ24 6 from (f105 6 (by decide)), show σ103 7 = σ24 7 from (f105 7 (by decide)), show σ103 8 = σ24 8 from (f105 8 (by decide)), show (σ103 55 6).toInt = (σ 55 6).toInt from by omega]; exact k136.1)⟩ hP hS (lv_sub hl [0, 1, 2, 3] rfl)
set_option maxHeartbeats 4000000 in
set_option maxRecDepth 100000 in
theorem law_case_3 {p : Program} {e : Env} {s : State} {m : MethodId} {below : List Frame} {meth : Method} {c : Code} (l : Launch) {b L : Nat} {xs : Nat → Int32} {D : va_G} {cI cL : ClassId} {ad zz : Nat → Nat} (C0 : lw_At p s m meth c b L xs) (hJ : jD ad) (hA : ∀ q, jA ad q → s.heap.size ≤ q) (hK : jK D cI cL s) (hZ : jZ zz (fun q : Nat => s.heap.size ≤ q) s s.heap) {x0 : Int32} (hx0 : 0 ≤ x0.toInt) (hxL : x0.toInt + 6 ≤ (L : Int)) (hL : L ≤ 384) {σ : Nat → Nat → Int32} {τ : Nat → Nat → Int64} {H : Heap} {locs : List Loc} (hS : va_S (fun q : Nat => s.heap.size ≤ q) s.heap H locs) {ls : Array Slot} (hAll : jAll σ τ) (hP : jH D cI cL ad σ τ H) (hl : lv_has ls 4 [(3, .int x0), (2, .ref (ad 55)), (1, .ref (ad 0)), (0, .ref b)]) (ih : ∀ (x1 : Int32) (σ : Nat → Nat → Int32) (τ : Nat → Nat → Int64) (H : Heap) (locs : List Loc) (ls : Array Slot), x1.toInt = x0.toInt + 6 → jAll σ τ → jH D cI cL ad σ τ H → va_S (fun q : Nat => s.heap.size ≤ q) s.heap H locs → lv_has ls 4 [(3, .int x1), (2, .ref (ad 55)), (1, .ref (ad 0)), (0, .ref b)] → W p l e room_1 s m #[Value.ref b] below meth c H locs 90 348600 (lw_Z below #[Value.ref b] s) (F0 m 18 ls [])) : W p l e room_1 s m #[Value.ref b] below meth c H locs 90 348600 (lw_Z below #[Value.ref b] s) (F0 m 325 ls []) := by
  obtain ⟨hx, hb, hr, hml, hown, hts0, hX, hbl, hlocks, hgv⟩ := C0
  have hts : ∀ w ∈ wsL_law, w.before #[Value.ref b] s = true := fun w h => hts0 w (wsL_law_in w h)
  have hbA : ¬ (fun q : Nat => s.heap.size ≤ q) b := Nat.not_le.mpr hbl
  have hown : s.vm.findClass RL = some m.cls := hown
  obtain ⟨hI2, hI9, hI12, hI16, hI18, hI22, hI31, hI38, hI43, hI47, hI50, hI101, hI102, hI103, hI104, hI105, hI106, hI107, hI109, hI110, hI111, hI119, hs_jKept, hs_jBook, ht0, ht1, ht2, hr0⟩ := hAll
  have hL9 : (L : Int) ≤ 384 := by omega
  obtain ⟨i1, i2, i3, i4, i5, w6⟩ : (0 ≤ (σ 2 0).toInt ∧ (σ 2 0).toInt ≤ 4) ∧ (0 ≤ (σ 2 1).toInt ∧ (σ 2 1).toInt ≤ 3) ∧ (0 ≤ (σ 2 2).toInt) ∧ (0 ≤ (σ 2 3).toInt) ∧ ((σ 2 2).toInt + (σ 2 3).toInt ≤ 40) ∧ (∀ k : Nat, k < 40 → 0 ≤ (σ 6 k).toInt ∧ (σ 6 k).toInt ≤ 67) := id hI2
  obtain ⟨i7, i8, i9, w10, w11, w12, w13⟩ : (0 ≤ (σ 55 5).toInt) ∧ ((σ 55 5).toInt ≤ (σ 55 4).toInt) ∧ ((σ 55 4).toInt ≤ 40) ∧ (∀ k : Nat, k < 68 → (-200) ≤ (σ 56 k).toInt ∧ (σ 56 k).toInt ≤ 500) ∧ (∀ k : Nat, k < 40 → 0 ≤ (σ 57 k).toInt ∧ (σ 57 k).toInt ≤ 67) ∧ (∀ k : Nat, k < 40 → (-200) ≤ (σ 58 k).toInt ∧ (σ 58 k).toInt ≤ 500) ∧ (∀ k : Nat, k < 40 → (-200) ≤ (σ 59 k).toInt ∧ (σ 59 k).toInt ≤ 500) := id hI101
  obtain ⟨i14, w15, w16⟩ : (0 ≤ (σ 55 6).toInt ∧ (σ 55 6).toInt ≤ 4) ∧ (∀ k : Nat, k < 4 → 0 ≤ (σ 60 k).toInt ∧ (σ 60 k).toInt ≤ 50) ∧ (∀ k : Nat, k < 4 → 0 ≤ (σ 61 k).toInt ∧ (σ 61 k).toInt ≤ 20) := id hI102
  refine lv_aload_n hx hb dL_law_325 rfl (lv_at hl 2 rfl) ?_
  refine lv_aload_n hx hb dL_law_326 rfl (lv_at hl 3 rfl) ?_
  refine lv_iload_n hx hb dL_law_327 rfl (lv_at hl 0 rfl) ?_
  refine lv_iconst (v := 1) hx hb dL_law_328 (by decide) ?_
  have g17 := jrg (rfl : x0.toInt = x0.toInt)
  refine lv_iadd hx hb dL_law_329 ?_
  refine lv_topi (fun x18 ex18 => ?_)
  have tx18 : x18.toInt = x0.toInt + 1 := (jadd ex18 rfl jz_1 (by omega) (by omega)).trans (by omega)
  refine va_sld hx hb hX hbl hbA hS (jin tx18 (by omega) (by omega)) dL_law_330 ?_
  have g19 := jrg (rfl : (xs x18.toNatClampNeg).toInt = (xs x18.toNatClampNeg).toInt)
  refine jcallV (As := [.int (xs x18.toNatClampNeg)]) (rest := []) ⟨hx, hb, hml, hown, hts⟩ hK hP hA hS hZ (c_X11_set l D cI cL ad zz hJ σ τ (xs x18.toNatClampNeg) ((xs x18.toNatClampNeg).toInt) rfl hI2) cw_RL_26 (jc_0 cI cL ad σ τ) rfl ⟨Nat.le_of_ble_eq_true rfl, Nat.le_of_ble_eq_true rfl⟩ rfl rfl rfl hl.1 rfl (Nat.le_of_ble_eq_true rfl) dL_law_331 ⟨Nat.le_of_ble_eq_true rfl, Nat.le_of_ble_eq_true rfl⟩ (fun r21 σ20 τ20 H locs h20 hP hS => ?_)
  obtain ⟨rfl, f22, f23, I24, h20⟩ := h20
  obtain ⟨i25, i26, i27, i28, i29, w30⟩ : (0 ≤ (σ20 2 0).toInt ∧ (σ20 2 0).toInt ≤ 4) ∧ (0 ≤ (σ20 2 1).toInt ∧ (σ20 2 1).toInt ≤ 3) ∧ (0 ≤ (σ20 2 2).toInt) ∧ (0 ≤ (σ20 2 3).toInt) ∧ ((σ20 2 2).toInt + (σ20 2 3).toInt ≤ 40) ∧ (∀ k : Nat, k < 40 → 0 ≤ (σ20 6 k).toInt ∧ (σ20 6 k).toInt ≤ 67) := id I24
  have z31 : (σ20 2 0).toInt = (σ 2 0).toInt := (congrArg Int32.toInt (show σ20 2 0 = (σ 2 0) from (f23 0 (by decide))))
  have z32 : (σ20 2 2).toInt = (σ 2 2).toInt := (congrArg Int32.toInt (show σ20 2 2 = (σ 2 2) from (f23 2 (by decide))))
  have z33 : (σ20 2 3).toInt = (σ 2 3).toInt := (congrArg Int32.toInt (show σ20 2 3 = (σ 2 3) from (f23 3 (by decide))))
  rcases h20 with h34 | h35
  · obtain ⟨q39, k36, k37, k38⟩ := h34
    refine lv_pop hx hb dL_law_334 rfl ?_
    refine lv_aload_n hx hb dL_law_335 rfl (lv_at hl 1 rfl) ?_
    refine lv_aload_n hx hb dL_law_336 rfl (lv_at hl 3 rfl) ?_
    refine lv_iload_n hx hb dL_law_337 rfl (lv_at hl 0 rfl) ?_
    refine lv_iconst (v := 1) hx hb dL_law_338 (by decide) ?_
    refine lv_iadd hx hb dL_law_339 ?_
    refine jtopr ex18.symm ?_
    refine va_sld hx hb hX hbl hbA hS (jin tx18 (by omega) (by omega)) dL_law_340 ?_
    have I40 : jI103 σ20 := jI103_fr (congrFun (f22 55 (by decide)) 9) hI103
    have z41 : (σ20 55 9).toInt = (σ 55 9).toInt := (congrArg Int32.toInt (show σ20 55 9 = (σ 55 9) from (congrFun (f22 55 (by decide)) 9)))
    refine jcallV (As := [.int (xs x18.toNatClampNeg)]) (rest := []) ⟨hx, hb, hml, hown, hts⟩ hK hP hA hS hZ (c_X12_set l D cI cL ad zz hJ σ20 τ (xs x18.toNatClampNeg) ((xs x18.toNatClampNeg).toInt) rfl I40) cw_RL_30 (jc_55 cI cL ad σ20 τ) rfl ⟨Nat.le_of_ble_eq_true rfl, Nat.le_of_ble_eq_true rfl⟩ rfl rfl rfl hl.1 rfl (Nat.le_of_ble_eq_true rfl) dL_law_341 ⟨Nat.le_of_ble_eq_true rfl, Nat.le_of_ble_eq_true rfl⟩ (fun r43 σ42 τ42 H locs h42 hP hS => ?_)
    obtain ⟨rfl, f44, f45, I46, h42⟩ := h42
    rcases h42 with h47 | h48
    · obtain ⟨q52, k49, k50, k51⟩ := h47
      refine lv_pop hx hb dL_law_344 rfl ?_
      refine lv_goto (tgt := 1357) hx hb dL_law_345 (by decide) ?_
      obtain ⟨x53, ex53⟩ : ∃ y : Int32, y = x0 + 6 := ⟨_, rfl⟩
      have tx53 : x53.toInt = x0.toInt + 6 := (jadd ex53 rfl jz_6 (by omega) (by omega)).trans (by omega)
      refine lv_iinc (v := x53) (lv' := [(3, .int x53), (2, .ref (ad 55)), (1, .ref (ad 0)), (0, .ref b)]) hx hb dL_law_1357 hl (k := 0) rfl (by rw [ex53]; rfl) (by decide) rfl (fun ls hl => ?_)
      refine lv_goto (tgt := 18) hx hb dL_law_1360 (by decide) ?_
      have I54 : jI2 σ42 := jI2_fr (congrFun (f44 2 (by decide)) 0) (congrFun (f44 2 (by decide)) 1) (congrFun (f44 2 (by decide)) 2) (congrFun (f44 2 (by decide)) 3) (f44 6 (by decide)) I24
      have I55 : jI9 σ42 := jI9_fr ((congrFun (f44 9 (by decide)) 0).trans (congrFun (f22 9 (by decide)) 0)) ((f44 10 (by decide)).trans (f22 10 (by decide))) ((f44 11 (by decide)).trans (f22 11 (by decide))) hI9
      have I56 : jI12 σ42 := jI12_fr ((congrFun (f44 12 (by decide)) 0).trans (congrFun (f22 12 (by decide)) 0)) ((f44 13 (by decide)).trans (f22 13 (by decide))) hI12
      have I57 : jI16 σ42 := jI16_fr ((congrFun (f44 16 (by decide)) 0).trans (congrFun (f22 16 (by decide)) 0)) ((congrFun (f44 16 (by decide)) 1).trans (congrFun (f22 16 (by decide)) 1)) ((congrFun (f44 16 (by decide)) 2).trans (congrFun (f22 16 (by decide)) 2)) ((f44 17 (by decide)).trans (f22 17 (by decide))) hI16
      have I58 : jI18 σ42 := jI18_fr ((congrFun (f44 18 (by decide)) 0).trans (congrFun (f22 18 (by decide)) 0)) ((f44 19 (by decide)).trans (f22 19 (by decide))) hI18
      have I59 : jI22 σ42 := jI22_fr ((congrFun (f44 22 (by decide)) 0).trans (congrFun (f22 22 (by decide)) 0)) ((f44 23 (by decide)).trans (f22 23 (by decide))) hI22
      have I60 : jI31 σ42 := jI31_fr ((congrFun (f44 31 (by decide)) 8).trans (congrFun (f22 31 (by decide)) 8)) ((f44 33 (by decide)).trans (f22 33 (by decide))) ((f44 36 (by decide)).trans (f22 36 (by decide))) hI31
      have I61 : jI38 σ42 := jI38_fr ((congrFun (f44 38 (by decide)) 0).trans (congrFun (f22 38 (by decide)) 0)) ((congrFun (f44 38 (by decide)) 1).trans (congrFun (f22 38 (by decide)) 1)) ((f44 39 (by decide)).trans (f22 39 (by decide))) hI38
      have I62 : jI43 σ42 := jI43_fr ((congrFun (f44 43 (by decide)) 8).trans (congrFun (f22 43 (by decide)) 8)) hI43
      have I63 : jI47 σ42 := jI47_fr ((congrFun (f44 47 (by decide)) 0).trans (congrFun (f22 47 (by decide)) 0)) ((f44 49 (by decide)).trans (f22 49 (by decide))) hI47
      have I64 : jI50 σ42 := jI50_fr ((f44 52 (by decide)).trans (f22 52 (by decide))) hI50
      have I65 : jI101 σ42 := jI101_fr ((f45 4 (by decide)).trans (congrFun (f22 55 (by decide)) 4)) ((f45 5 (by decide)).trans (congrFun (f22 55 (by decide)) 5)) ((f44 56 (by decide)).trans (f22 56 (by decide))) ((f44 57 (by decide)).trans (f22 57 (by decide))) ((f44 58 (by decide)).trans (f22 58 (by decide))) ((f44 59 (by decide)).trans (f22 59 (by decide))) hI101
      have I66 : jI102 σ42 := jI102_fr ((f45 6 (by decide)).trans (congrFun (f22 55 (by decide)) 6)) ((f44 60 (by decide)).trans (f22 60 (by decide))) ((f44 61 (by decide)).trans (f22 61 (by decide))) hI102
      have I67 : jI104 σ42 := jI104_fr ((f45 10 (by decide)).trans (congrFun (f22 55 (by decide)) 10)) ((f45 12 (by decide)).trans (congrFun (f22 55 (by decide)) 12)) ((f45 13 (by decide)).trans (congrFun (f22 55 (by decide)) 13)) ((f44 62 (by decide)).trans (f22 62 (by decide))) ((f44 67 (by decide)).trans (f22 67 (by decide))) hI104
      have I68 : jI105 σ42 := jI105_fr ((f45 15 (by decide)).trans (congrFun (f22 55 (by decide)) 15)) ((f44 65 (by decide)).trans (f22 65 (by decide))) hI105
      have I69 : jI106 σ42 := jI106_fr ((f45 32 (by decide)).trans (congrFun (f22 55 (by decide)) 32)) ((f44 70 (by decide)).trans (f22 70 (by decide))) ((f44 71 (by decide)).trans (f22 71 (by decide))) ((f44 72 (by decide)).trans (f22 72 (by decide))) hI106
      have I70 : jI107 σ42 := jI107_fr ((f45 12 (by decide)).trans (congrFun (f22 55 (by decide)) 12)) ((f45 47 (by decide)).trans (congrFun (f22 55 (by decide)) 47)) ((f44 80 (by decide)).trans (f22 80 (by decide))) hI107
      have I71 : jI109 σ42 := jI109_fr ((f45 50 (by decide)).trans (congrFun (f22 55 (by decide)) 50)) hI109
      have I72 : jI110 σ42 := jI110_fr ((f44 86 (by decide)).trans (f22 86 (by decide))) ((f44 87 (by decide)).trans (f22 87 (by decide))) hI110
      have I73 : jI111 σ42 := jI111_fr ((f44 79 (by decide)).trans (f22 79 (by decide))) hI111
      have I74 : jI119 σ42 := jI119_fr ((f44 68 (by decide)).trans (f22 68 (by decide))) hI119
      have p75 : jKept σ42 := jKept.fr ((f44 75 (by decide)).trans (f22 75 (by decide))) ((f44 76 (by decide)).trans (f22 76 (by decide))) ((f44 77 (by decide)).trans (f22 77 (by decide))) hs_jKept
      have p76 : jBook σ42 := jBook.fr ((f45 47 (by decide)).trans (congrFun (f22 55 (by decide)) 47)) ((f45 10 (by decide)).trans (congrFun (f22 55 (by decide)) 10)) ((f44 81 (by decide)).trans (f22 81 (by decide))) hs_jBook
      have z77 : (σ42 2 0).toInt = (σ 2 0).toInt := (congrArg Int32.toInt (show σ42 2 0 = (σ 2 0) from ((congrFun (f44 2 (by decide)) 0).trans (f23 0 (by decide)))))
      have z78 : (σ42 55 6).toInt = (σ 55 6).toInt := (congrArg Int32.toInt (show σ42 55 6 = (σ 55 6) from ((f45 6 (by decide)).trans (congrFun (f22 55 (by decide)) 6))))
      have z79 : (σ42 2 2).toInt = (σ 2 2).toInt := (congrArg Int32.toInt (show σ42 2 2 = (σ 2 2) from ((congrFun (f44 2 (by decide)) 2).trans (f23 2 (by decide)))))
      have z80 : (σ42 55 5).toInt = (σ 55 5).toInt := (congrArg Int32.toInt (show σ42 55 5 = (σ 55 5) from ((f45 5 (by decide)).trans (congrFun (f22 55 (by decide)) 5))))
      have z81 : (σ42 2 3).toInt = (σ 2 3).toInt := (congrArg Int32.toInt (show σ42 2 3 = (σ 2 3) from ((congrFun (f44 2 (by decide)) 3).trans (f23 3 (by decide)))))
      have z82 : (σ42 55 4).toInt = (σ 55 4).toInt := (congrArg Int32.toInt (show σ42 55 4 = (σ 55 4) from ((f45 4 (by decide)).trans (congrFun (f22 55 (by decide)) 4))))
      exact ih x53 σ42 τ _ _ ls (by have h9 := tx53; omega) ⟨I54, I55, I56, I57, I58, I59, I60, I61, I62, I63, I64, I65, I66, I46, I67, I68, I69, I70, I71, I72, I73, I74, p75, p76, (by omega), (by omega), (by omega), (show jNumP (σ42 3) (σ42 56) (σ42 6) (σ42 57) (σ42 7) (σ42 58) (σ42 8) (σ42 59) (σ42 55 6).toInt (σ42 55 4).toInt by rw [show σ42 3 = σ 3 from ((f44 3 (by decide)).trans (f22 3 (by decide))), show σ42 56 = σ 56 from ((f44 56 (by decide)).trans (f22 56 (by decide))), show σ42 6 = σ 6 from ((f44 6 (by decide)).trans (f22 6 (by decide))), show σ42 57 = σ 57 from ((f44 57 (by decide)).trans (f22 57 (by decide))), show σ42 7 = σ 7 from ((f44 7 (by decide)).trans (f22 7 (by decide))), show σ42 58 = σ 58 from ((f44 58 (by decide)).trans (f22 58 (by decide))), show σ42 8 = σ 8 from ((f44 8 (by decide)).trans (f22 8 (by decide))), show σ42 59 = σ 59 from ((f44 59 (by decide)).trans (f22 59 (by decide))), show (σ42 55 6).toInt = (σ 55 6).toInt from by omega, show (σ42 55 4).toInt = (σ 55 4).toInt from by omega]; exact hr0)⟩ hP hS (lv_sub hl [0, 1, 2, 3] rfl)
    · obtain ⟨q85, k83, k84⟩ := h48
      exact absurd (by omega : False) id
  · obtain ⟨q88, k86, k87⟩ := h35
    have q88 := q88.symm
    subst q88
    refine lv_pop hx hb dL_law_334 rfl ?_
    refine lv_aload_n hx hb dL_law_335 rfl (lv_at hl 1 rfl) ?_
    refine lv_aload_n hx hb dL_law_336 rfl (lv_at hl 3 rfl) ?_
    refine lv_iload_n hx hb dL_law_337 rfl (lv_at hl 0 rfl) ?_
    refine lv_iconst (v := 1) hx hb dL_law_338 (by decide) ?_
    refine lv_iadd hx hb dL_law_339 ?_
    refine jtopr ex18.symm ?_
    refine va_sld hx hb hX hbl hbA hS (jin tx18 (by omega) (by omega)) dL_law_340 ?_
    have I89 : jI103 σ20 := jI103_fr (congrFun (f22 55 (by decide)) 9) hI103
    have z90 : (σ20 55 9).toInt = (σ 55 9).toInt := (congrArg Int32.toInt (show σ20 55 9 = (σ 55 9) from (congrFun (f22 55 (by decide)) 9)))
    refine jcallV (As := [.int (xs x18.toNatClampNeg)]) (rest := []) ⟨hx, hb, hml, hown, hts⟩ hK hP hA hS hZ (c_X12_set l D cI cL ad zz hJ σ20 τ (xs x18.toNatClampNeg) ((xs x18.toNatClampNeg).toInt) rfl I89) cw_RL_30 (jc_55 cI cL ad σ20 τ) rfl ⟨Nat.le_of_ble_eq_true rfl, Nat.le_of_ble_eq_true rfl⟩ rfl rfl rfl hl.1 rfl (Nat.le_of_ble_eq_true rfl) dL_law_341 ⟨Nat.le_of_ble_eq_true rfl, Nat.le_of_ble_eq_true rfl⟩ (fun r92 σ91 τ91 H locs h91 hP hS => ?_)
    obtain ⟨rfl, f93, f94, I95, h91⟩ := h91
    rcases h91 with h96 | h97
    · obtain ⟨q101, k98, k99, k100⟩ := h96
      exact absurd (by omega : False) id
    · obtain ⟨q104, k102, k103⟩ := h97
      have q104 := q104.symm
      subst q104
      refine lv_pop hx hb dL_law_344 rfl ?_
      refine lv_goto (tgt := 1357) hx hb dL_law_345 (by decide) ?_
      obtain ⟨x105, ex105⟩ : ∃ y : Int32, y = x0 + 6 := ⟨_, rfl⟩
      have tx105 : x105.toInt = x0.toInt + 6 := (jadd ex105 rfl jz_6 (by omega) (by omega)).trans (by omega)
      refine lv_iinc (v := x105) (lv' := [(3, .int x105), (2, .ref (ad 55)), (1, .ref (ad 0)), (0, .ref b)]) hx hb dL_law_1357 hl (k := 0) rfl (by rw [ex105]; rfl) (by decide) rfl (fun ls hl => ?_)
      refine lv_goto (tgt := 18) hx hb dL_law_1360 (by decide) ?_
      have I106 : jI2 σ91 := jI2_fr (congrFun (f93 2 (by decide)) 0) (congrFun (f93 2 (by decide)) 1) (congrFun (f93 2 (by decide)) 2) (congrFun (f93 2 (by decide)) 3) (f93 6 (by decide)) I24
      have I107 : jI9 σ91 := jI9_fr ((congrFun (f93 9 (by decide)) 0).trans (congrFun (f22 9 (by decide)) 0)) ((f93 10 (by decide)).trans (f22 10 (by decide))) ((f93 11 (by decide)).trans (f22 11 (by decide))) hI9
      have I108 : jI12 σ91 := jI12_fr ((congrFun (f93 12 (by decide)) 0).trans (congrFun (f22 12 (by decide)) 0)) ((f93 13 (by decide)).trans (f22 13 (by decide))) hI12
      have I109 : jI16 σ91 := jI16_fr ((congrFun (f93 16 (by decide)) 0).trans (congrFun (f22 16 (by decide)) 0)) ((congrFun (f93 16 (by decide)) 1).trans (congrFun (f22 16 (by decide)) 1)) ((congrFun (f93 16 (by decide)) 2).trans (congrFun (f22 16 (by decide)) 2)) ((f93 17 (by decide)).trans (f22 17 (by decide))) hI16
      have I110 : jI18 σ91 := jI18_fr ((congrFun (f93 18 (by decide)) 0).trans (congrFun (f22 18 (by decide)) 0)) ((f93 19 (by decide)).trans (f22 19 (by decide))) hI18
      have I111 : jI22 σ91 := jI22_fr ((congrFun (f93 22 (by decide)) 0).trans (congrFun (f22 22 (by decide)) 0)) ((f93 23 (by decide)).trans (f22 23 (by decide))) hI22
      have I112 : jI31 σ91 := jI31_fr ((congrFun (f93 31 (by decide)) 8).trans (congrFun (f22 31 (by decide)) 8)) ((f93 33 (by decide)).trans (f22 33 (by decide))) ((f93 36 (by decide)).trans (f22 36 (by decide))) hI31
      have I113 : jI38 σ91 := jI38_fr ((congrFun (f93 38 (by decide)) 0).trans (congrFun (f22 38 (by decide)) 0)) ((congrFun (f93 38 (by decide)) 1).trans (congrFun (f22 38 (by decide)) 1)) ((f93 39 (by decide)).trans (f22 39 (by decide))) hI38
      have I114 : jI43 σ91 := jI43_fr ((congrFun (f93 43 (by decide)) 8).trans (congrFun (f22 43 (by decide)) 8)) hI43
      have I115 : jI47 σ91 := jI47_fr ((congrFun (f93 47 (by decide)) 0).trans (congrFun (f22 47 (by decide)) 0)) ((f93 49 (by decide)).trans (f22 49 (by decide))) hI47
      have I116 : jI50 σ91 := jI50_fr ((f93 52 (by decide)).trans (f22 52 (by decide))) hI50
      have I117 : jI101 σ91 := jI101_fr ((f94 4 (by decide)).trans (congrFun (f22 55 (by decide)) 4)) ((f94 5 (by decide)).trans (congrFun (f22 55 (by decide)) 5)) ((f93 56 (by decide)).trans (f22 56 (by decide))) ((f93 57 (by decide)).trans (f22 57 (by decide))) ((f93 58 (by decide)).trans (f22 58 (by decide))) ((f93 59 (by decide)).trans (f22 59 (by decide))) hI101
      have I118 : jI102 σ91 := jI102_fr ((f94 6 (by decide)).trans (congrFun (f22 55 (by decide)) 6)) ((f93 60 (by decide)).trans (f22 60 (by decide))) ((f93 61 (by decide)).trans (f22 61 (by decide))) hI102
      have I119 : jI104 σ91 := jI104_fr ((f94 10 (by decide)).trans (congrFun (f22 55 (by decide)) 10)) ((f94 12 (by decide)).trans (congrFun (f22 55 (by decide)) 12)) ((f94 13 (by decide)).trans (congrFun (f22 55 (by decide)) 13)) ((f93 62 (by decide)).trans (f22 62 (by decide))) ((f93 67 (by decide)).trans (f22 67 (by decide))) hI104
      have I120 : jI105 σ91 := jI105_fr ((f94 15 (by decide)).trans (congrFun (f22 55 (by decide)) 15)) ((f93 65 (by decide)).trans (f22 65 (by decide))) hI105
      have I121 : jI106 σ91 := jI106_fr ((f94 32 (by decide)).trans (congrFun (f22 55 (by decide)) 32)) ((f93 70 (by decide)).trans (f22 70 (by decide))) ((f93 71 (by decide)).trans (f22 71 (by decide))) ((f93 72 (by decide)).trans (f22 72 (by decide))) hI106
      have I122 : jI107 σ91 := jI107_fr ((f94 12 (by decide)).trans (congrFun (f22 55 (by decide)) 12)) ((f94 47 (by decide)).trans (congrFun (f22 55 (by decide)) 47)) ((f93 80 (by decide)).trans (f22 80 (by decide))) hI107
      have I123 : jI109 σ91 := jI109_fr ((f94 50 (by decide)).trans (congrFun (f22 55 (by decide)) 50)) hI109
      have I124 : jI110 σ91 := jI110_fr ((f93 86 (by decide)).trans (f22 86 (by decide))) ((f93 87 (by decide)).trans (f22 87 (by decide))) hI110
      have I125 : jI111 σ91 := jI111_fr ((f93 79 (by decide)).trans (f22 79 (by decide))) hI111
      have I126 : jI119 σ91 := jI119_fr ((f93 68 (by decide)).trans (f22 68 (by decide))) hI119
      have p127 : jKept σ91 := jKept.fr ((f93 75 (by decide)).trans (f22 75 (by decide))) ((f93 76 (by decide)).trans (f22 76 (by decide))) ((f93 77 (by decide)).trans (f22 77 (by decide))) hs_jKept
      have p128 : jBook σ91 := jBook.fr ((f94 47 (by decide)).trans (congrFun (f22 55 (by decide)) 47)) ((f94 10 (by decide)).trans (congrFun (f22 55 (by decide)) 10)) ((f93 81 (by decide)).trans (f22 81 (by decide))) hs_jBook
      have z129 : (σ91 2 0).toInt = (σ 2 0).toInt := (congrArg Int32.toInt (show σ91 2 0 = (σ 2 0) from ((congrFun (f93 2 (by decide)) 0).trans (f23 0 (by decide)))))
      have z130 : (σ91 55 6).toInt = (σ 55 6).toInt := (congrArg Int32.toInt (show σ91 55 6 = (σ 55 6) from ((f94 6 (by decide)).trans (congrFun (f22 55 (by decide)) 6))))
      have z131 : (σ91 2 2).toInt = (σ 2 2).toInt := (congrArg Int32.toInt (show σ91 2 2 = (σ 2 2) from ((congrFun (f93 2 (by decide)) 2).trans (f23 2 (by decide)))))
      have z132 : (σ91 55 5).toInt = (σ 55 5).toInt := (congrArg Int32.toInt (show σ91 55 5 = (σ 55 5) from ((f94 5 (by decide)).trans (congrFun (f22 55 (by decide)) 5))))
      have z133 : (σ91 2 3).toInt = (σ 2 3).toInt := (congrArg Int32.toInt (show σ91 2 3 = (σ 2 3) from ((congrFun (f93 2 (by decide)) 3).trans (f23 3 (by decide)))))
      have z134 : (σ91 55 4).toInt = (σ 55 4).toInt := (congrArg Int32.toInt (show σ91 55 4 = (σ 55 4) from ((f94 4 (by decide)).trans (congrFun (f22 55 (by decide)) 4))))
      exact ih x105 σ91 τ _ _ ls (by have h9 := tx105; omega) ⟨I106, I107, I108, I109, I110, I111, I112, I113, I114, I115, I116, I117, I118, I95, I119, I120, I121, I122, I123, I124, I125, I126, p127, p128, (by omega), (by omega), (by omega), (show jNumP (σ91 3) (σ91 56) (σ91 6) (σ91 57) (σ91 7) (σ91 58) (σ91 8) (σ91 59) (σ91 55 6).toInt (σ91 55 4).toInt by rw [show σ91 3 = σ 3 from ((f93 3 (by decide)).trans (f22 3 (by decide))), show σ91 56 = σ 56 from ((f93 56 (by decide)).trans (f22 56 (by decide))), show σ91 6 = σ 6 from ((f93 6 (by decide)).trans (f22 6 (by decide))), show σ91 57 = σ 57 from ((f93 57 (by decide)).trans (f22 57 (by decide))), show σ91 7 = σ 7 from ((f93 7 (by decide)).trans (f22 7 (by decide))), show σ91 58 = σ 58 from ((f93 58 (by decide)).trans (f22 58 (by decide))), show σ91 8 = σ 8 from ((f93 8 (by decide)).trans (f22 8 (by decide))), show σ91 59 = σ 59 from ((f93 59 (by decide)).trans (f22 59 (by decide))), show (σ91 55 6).toInt = (σ 55 6).toInt from by omega, show (σ91 55 4).toInt = (σ 55 4).toInt from by omega]; exact hr0)⟩ hP hS (lv_sub hl [0, 1, 2, 3] rfl)
set_option maxHeartbeats 4000000 in
set_option maxRecDepth 100000 in
theorem law_case_4 {p : Program} {e : Env} {s : State} {m : MethodId} {below : List Frame} {meth : Method} {c : Code} (l : Launch) {b L : Nat} {xs : Nat → Int32} {D : va_G} {cI cL : ClassId} {ad zz : Nat → Nat} (C0 : lw_At p s m meth c b L xs) (hJ : jD ad) (hA : ∀ q, jA ad q → s.heap.size ≤ q) (hK : jK D cI cL s) (hZ : jZ zz (fun q : Nat => s.heap.size ≤ q) s s.heap) {x0 : Int32} (hx0 : 0 ≤ x0.toInt) (hxL : x0.toInt + 6 ≤ (L : Int)) (hL : L ≤ 384) {σ : Nat → Nat → Int32} {τ : Nat → Nat → Int64} {H : Heap} {locs : List Loc} (hS : va_S (fun q : Nat => s.heap.size ≤ q) s.heap H locs) {ls : Array Slot} (hAll : jAll σ τ) (hP : jH D cI cL ad σ τ H) (hl : lv_has ls 4 [(3, .int x0), (2, .ref (ad 55)), (1, .ref (ad 0)), (0, .ref b)]) (ih : ∀ (x1 : Int32) (σ : Nat → Nat → Int32) (τ : Nat → Nat → Int64) (H : Heap) (locs : List Loc) (ls : Array Slot), x1.toInt = x0.toInt + 6 → jAll σ τ → jH D cI cL ad σ τ H → va_S (fun q : Nat => s.heap.size ≤ q) s.heap H locs → lv_has ls 4 [(3, .int x1), (2, .ref (ad 55)), (1, .ref (ad 0)), (0, .ref b)] → W p l e room_1 s m #[Value.ref b] below meth c H locs 90 348600 (lw_Z below #[Value.ref b] s) (F0 m 18 ls [])) : W p l e room_1 s m #[Value.ref b] below meth c H locs 90 348600 (lw_Z below #[Value.ref b] s) (F0 m 348 ls []) := by
  obtain ⟨hx, hb, hr, hml, hown, hts0, hX, hbl, hlocks, hgv⟩ := C0
  have hts : ∀ w ∈ wsL_law, w.before #[Value.ref b] s = true := fun w h => hts0 w (wsL_law_in w h)
  have hbA : ¬ (fun q : Nat => s.heap.size ≤ q) b := Nat.not_le.mpr hbl
  have hown : s.vm.findClass RL = some m.cls := hown
  obtain ⟨hI2, hI9, hI12, hI16, hI18, hI22, hI31, hI38, hI43, hI47, hI50, hI101, hI102, hI103, hI104, hI105, hI106, hI107, hI109, hI110, hI111, hI119, hs_jKept, hs_jBook, ht0, ht1, ht2, hr0⟩ := hAll
  have hL9 : (L : Int) ≤ 384 := by omega
  obtain ⟨i1, i2, i3, i4, i5, w6⟩ : (0 ≤ (σ 2 0).toInt ∧ (σ 2 0).toInt ≤ 4) ∧ (0 ≤ (σ 2 1).toInt ∧ (σ 2 1).toInt ≤ 3) ∧ (0 ≤ (σ 2 2).toInt) ∧ (0 ≤ (σ 2 3).toInt) ∧ ((σ 2 2).toInt + (σ 2 3).toInt ≤ 40) ∧ (∀ k : Nat, k < 40 → 0 ≤ (σ 6 k).toInt ∧ (σ 6 k).toInt ≤ 67) := id hI2
  obtain ⟨i7, i8, i9, w10, w11, w12, w13⟩ : (0 ≤ (σ 55 5).toInt) ∧ ((σ 55 5).toInt ≤ (σ 55 4).toInt) ∧ ((σ 55 4).toInt ≤ 40) ∧ (∀ k : Nat, k < 68 → (-200) ≤ (σ 56 k).toInt ∧ (σ 56 k).toInt ≤ 500) ∧ (∀ k : Nat, k < 40 → 0 ≤ (σ 57 k).toInt ∧ (σ 57 k).toInt ≤ 67) ∧ (∀ k : Nat, k < 40 → (-200) ≤ (σ 58 k).toInt ∧ (σ 58 k).toInt ≤ 500) ∧ (∀ k : Nat, k < 40 → (-200) ≤ (σ 59 k).toInt ∧ (σ 59 k).toInt ≤ 500) := id hI101
  obtain ⟨i14, w15, w16⟩ : (0 ≤ (σ 55 6).toInt ∧ (σ 55 6).toInt ≤ 4) ∧ (∀ k : Nat, k < 4 → 0 ≤ (σ 60 k).toInt ∧ (σ 60 k).toInt ≤ 50) ∧ (∀ k : Nat, k < 4 → 0 ≤ (σ 61 k).toInt ∧ (σ 61 k).toInt ≤ 20) := id hI102
  refine lv_aload_n hx hb dL_law_348 rfl (lv_at hl 2 rfl) ?_
  refine lv_aload_n hx hb dL_law_349 rfl (lv_at hl 3 rfl) ?_
  refine lv_iload_n hx hb dL_law_350 rfl (lv_at hl 0 rfl) ?_
  refine lv_iconst (v := 1) hx hb dL_law_351 (by decide) ?_
  have g17 := jrg (rfl : x0.toInt = x0.toInt)
  refine lv_iadd hx hb dL_law_352 ?_
  refine lv_topi (fun x18 ex18 => ?_)
  have tx18 : x18.toInt = x0.toInt + 1 := (jadd ex18 rfl jz_1 (by omega) (by omega)).trans (by omega)
  refine va_sld hx hb hX hbl hbA hS (jin tx18 (by omega) (by omega)) dL_law_353 ?_
  have g19 := jrg (rfl : (xs x18.toNatClampNeg).toInt = (xs x18.toNatClampNeg).toInt)
  refine lv_aload_n hx hb dL_law_354 rfl (lv_at hl 3 rfl) ?_
  refine lv_iload_n hx hb dL_law_355 rfl (lv_at hl 0 rfl) ?_
  refine lv_iconst (v := 2) hx hb dL_law_356 (by decide) ?_
  refine lv_iadd hx hb dL_law_357 ?_
  refine lv_topi (fun x20 ex20 => ?_)
  have tx20 : x20.toInt = x0.toInt + 2 := (jadd ex20 rfl jz_2 (by omega) (by omega)).trans (by omega)
  refine va_sld hx hb hX hbl hbA hS (jin tx20 (by omega) (by omega)) dL_law_358 ?_
  have g21 := jrg (rfl : (xs x20.toNatClampNeg).toInt = (xs x20.toNatClampNeg).toInt)
  refine jcallV (As := [.int (xs x18.toNatClampNeg), .int (xs x20.toNatClampNeg)]) (rest := []) ⟨hx, hb, hml, hown, hts⟩ hK hP hA hS hZ (c_X11_feed l D cI cL ad zz hJ σ τ (xs x18.toNatClampNeg) ((xs x18.toNatClampNeg).toInt) rfl (xs x20.toNatClampNeg) ((xs x20.toNatClampNeg).toInt) rfl hI9) cw_RL_31 (jc_0 cI cL ad σ τ) rfl ⟨Nat.le_of_ble_eq_true rfl, Nat.le_of_ble_eq_true rfl⟩ rfl rfl rfl hl.1 rfl (Nat.le_of_ble_eq_true rfl) dL_law_359 ⟨Nat.le_of_ble_eq_true rfl, Nat.le_of_ble_eq_true rfl⟩ (fun r23 σ22 τ22 H locs h22 hP hS => ?_)
  obtain ⟨rfl, f24, f25, I26, h22⟩ := h22
  rcases h22 with h27 | h28 | h29
  · obtain ⟨q32, k30, k31⟩ := h27
    have q32 := q32.symm
    subst q32
    refine lv_pop hx hb dL_law_362 rfl ?_
    refine lv_aload_n hx hb dL_law_363 rfl (lv_at hl 1 rfl) ?_
    refine lv_aload_n hx hb dL_law_364 rfl (lv_at hl 3 rfl) ?_
    refine lv_iload_n hx hb dL_law_365 rfl (lv_at hl 0 rfl) ?_
    refine lv_iconst (v := 1) hx hb dL_law_366 (by decide) ?_
    refine lv_iadd hx hb dL_law_367 ?_
    refine jtopr ex18.symm ?_
    refine va_sld hx hb hX hbl hbA hS (jin tx18 (by omega) (by omega)) dL_law_368 ?_
    refine lv_aload_n hx hb dL_law_369 rfl (lv_at hl 3 rfl) ?_
    refine lv_iload_n hx hb dL_law_370 rfl (lv_at hl 0 rfl) ?_
    refine lv_iconst (v := 2) hx hb dL_law_371 (by decide) ?_
    refine lv_iadd hx hb dL_law_372 ?_
    refine jtopr ex20.symm ?_
    refine va_sld hx hb hX hbl hbA hS (jin tx20 (by omega) (by omega)) dL_law_373 ?_
    have I33 : jI105 σ22 := jI105_fr (congrFun (f24 55 (by decide)) 15) (f24 65 (by decide)) hI105
    have z34 : (σ22 55 15).toInt = (σ 55 15).toInt := (congrArg Int32.toInt (show σ22 55 15 = (σ 55 15) from (congrFun (f24 55 (by decide)) 15)))
    refine jcallV (As := [.int (xs x18.toNatClampNeg), .int (xs x20.toNatClampNeg)]) (rest := []) ⟨hx, hb, hml, hown, hts⟩ hK hP hA hS hZ (c_X12_feed l D cI cL ad zz hJ σ22 τ (xs x18.toNatClampNeg) ((xs x18.toNatClampNeg).toInt) rfl (xs x20.toNatClampNeg) ((xs x20.toNatClampNeg).toInt) rfl I33) cw_RL_35 (jc_55 cI cL ad σ22 τ) rfl ⟨Nat.le_of_ble_eq_true rfl, Nat.le_of_ble_eq_true rfl⟩ rfl rfl rfl hl.1 rfl (Nat.le_of_ble_eq_true rfl) dL_law_374 ⟨Nat.le_of_ble_eq_true rfl, Nat.le_of_ble_eq_true rfl⟩ (fun r36 σ35 τ35 H locs h35 hP hS => ?_)
    obtain ⟨rfl, f37, f38, I39, h35⟩ := h35
    rcases h35 with h40 | h41 | h42
    · obtain ⟨q45, k43, k44⟩ := h40
      have q45 := q45.symm
      subst q45
      refine lv_pop hx hb dL_law_377 rfl ?_
      refine lv_goto (tgt := 1357) hx hb dL_law_378 (by decide) ?_
      obtain ⟨x46, ex46⟩ : ∃ y : Int32, y = x0 + 6 := ⟨_, rfl⟩
      have tx46 : x46.toInt = x0.toInt + 6 := (jadd ex46 rfl jz_6 (by omega) (by omega)).trans (by omega)
      refine lv_iinc (v := x46) (lv' := [(3, .int x46), (2, .ref (ad 55)), (1, .ref (ad 0)), (0, .ref b)]) hx hb dL_law_1357 hl (k := 0) rfl (by rw [ex46]; rfl) (by decide) rfl (fun ls hl => ?_)
      refine lv_goto (tgt := 18) hx hb dL_law_1360 (by decide) ?_
      have I47 : jI2 σ35 := jI2_fr ((congrFun (f37 2 (by decide)) 0).trans (congrFun (f24 2 (by decide)) 0)) ((congrFun (f37 2 (by decide)) 1).trans (congrFun (f24 2 (by decide)) 1)) ((congrFun (f37 2 (by decide)) 2).trans (congrFun (f24 2 (by decide)) 2)) ((congrFun (f37 2 (by decide)) 3).trans (congrFun (f24 2 (by decide)) 3)) ((f37 6 (by decide)).trans (f24 6 (by decide))) hI2
      have I48 : jI9 σ35 := jI9_fr (congrFun (f37 9 (by decide)) 0) (f37 10 (by decide)) (f37 11 (by decide)) I26
      have I49 : jI12 σ35 := jI12_fr ((congrFun (f37 12 (by decide)) 0).trans (congrFun (f24 12 (by decide)) 0)) ((f37 13 (by decide)).trans (f24 13 (by decide))) hI12
      have I50 : jI16 σ35 := jI16_fr ((congrFun (f37 16 (by decide)) 0).trans (congrFun (f24 16 (by decide)) 0)) ((congrFun (f37 16 (by decide)) 1).trans (congrFun (f24 16 (by decide)) 1)) ((congrFun (f37 16 (by decide)) 2).trans (congrFun (f24 16 (by decide)) 2)) ((f37 17 (by decide)).trans (f24 17 (by decide))) hI16
      have I51 : jI18 σ35 := jI18_fr ((congrFun (f37 18 (by decide)) 0).trans (congrFun (f24 18 (by decide)) 0)) ((f37 19 (by decide)).trans (f24 19 (by decide))) hI18
      have I52 : jI22 σ35 := jI22_fr ((congrFun (f37 22 (by decide)) 0).trans (congrFun (f24 22 (by decide)) 0)) ((f37 23 (by decide)).trans (f24 23 (by decide))) hI22
      have I53 : jI31 σ35 := jI31_fr ((congrFun (f37 31 (by decide)) 8).trans (congrFun (f24 31 (by decide)) 8)) ((f37 33 (by decide)).trans (f24 33 (by decide))) ((f37 36 (by decide)).trans (f24 36 (by decide))) hI31
      have I54 : jI38 σ35 := jI38_fr ((congrFun (f37 38 (by decide)) 0).trans (congrFun (f24 38 (by decide)) 0)) ((congrFun (f37 38 (by decide)) 1).trans (congrFun (f24 38 (by decide)) 1)) ((f37 39 (by decide)).trans (f24 39 (by decide))) hI38
      have I55 : jI43 σ35 := jI43_fr ((congrFun (f37 43 (by decide)) 8).trans (congrFun (f24 43 (by decide)) 8)) hI43
      have I56 : jI47 σ35 := jI47_fr ((congrFun (f37 47 (by decide)) 0).trans (congrFun (f24 47 (by decide)) 0)) ((f37 49 (by decide)).trans (f24 49 (by decide))) hI47
      have I57 : jI50 σ35 := jI50_fr ((f37 52 (by decide)).trans (f24 52 (by decide))) hI50
      have I58 : jI101 σ35 := jI101_fr ((f38 4 (by decide)).trans (congrFun (f24 55 (by decide)) 4)) ((f38 5 (by decide)).trans (congrFun (f24 55 (by decide)) 5)) ((f37 56 (by decide)).trans (f24 56 (by decide))) ((f37 57 (by decide)).trans (f24 57 (by decide))) ((f37 58 (by decide)).trans (f24 58 (by decide))) ((f37 59 (by decide)).trans (f24 59 (by decide))) hI101
      have I59 : jI102 σ35 := jI102_fr ((f38 6 (by decide)).trans (congrFun (f24 55 (by decide)) 6)) ((f37 60 (by decide)).trans (f24 60 (by decide))) ((f37 61 (by decide)).trans (f24 61 (by decide))) hI102
      have I60 : jI103 σ35 := jI103_fr ((f38 9 (by decide)).trans (congrFun (f24 55 (by decide)) 9)) hI103
      have I61 : jI104 σ35 := jI104_fr ((f38 10 (by decide)).trans (congrFun (f24 55 (by decide)) 10)) ((f38 12 (by decide)).trans (congrFun (f24 55 (by decide)) 12)) ((f38 13 (by decide)).trans (congrFun (f24 55 (by decide)) 13)) ((f37 62 (by decide)).trans (f24 62 (by decide))) ((f37 67 (by decide)).trans (f24 67 (by decide))) hI104
      have I62 : jI106 σ35 := jI106_fr ((f38 32 (by decide)).trans (congrFun (f24 55 (by decide)) 32)) ((f37 70 (by decide)).trans (f24 70 (by decide))) ((f37 71 (by decide)).trans (f24 71 (by decide))) ((f37 72 (by decide)).trans (f24 72 (by decide))) hI106
      have I63 : jI107 σ35 := jI107_fr ((f38 12 (by decide)).trans (congrFun (f24 55 (by decide)) 12)) ((f38 47 (by decide)).trans (congrFun (f24 55 (by decide)) 47)) ((f37 80 (by decide)).trans (f24 80 (by decide))) hI107
      have I64 : jI109 σ35 := jI109_fr ((f38 50 (by decide)).trans (congrFun (f24 55 (by decide)) 50)) hI109
      have I65 : jI110 σ35 := jI110_fr ((f37 86 (by decide)).trans (f24 86 (by decide))) ((f37 87 (by decide)).trans (f24 87 (by decide))) hI110
      have I66 : jI111 σ35 := jI111_fr ((f37 79 (by decide)).trans (f24 79 (by decide))) hI111
      have I67 : jI119 σ35 := jI119_fr ((f37 68 (by decide)).trans (f24 68 (by decide))) hI119
      have p68 : jKept σ35 := jKept.fr ((f37 75 (by decide)).trans (f24 75 (by decide))) ((f37 76 (by decide)).trans (f24 76 (by decide))) ((f37 77 (by decide)).trans (f24 77 (by decide))) hs_jKept
      have p69 : jBook σ35 := jBook.fr ((f38 47 (by decide)).trans (congrFun (f24 55 (by decide)) 47)) ((f38 10 (by decide)).trans (congrFun (f24 55 (by decide)) 10)) ((f37 81 (by decide)).trans (f24 81 (by decide))) hs_jBook
      have z70 : (σ35 2 0).toInt = (σ 2 0).toInt := (congrArg Int32.toInt (show σ35 2 0 = (σ 2 0) from ((congrFun (f37 2 (by decide)) 0).trans (congrFun (f24 2 (by decide)) 0))))
      have z71 : (σ35 55 6).toInt = (σ 55 6).toInt := (congrArg Int32.toInt (show σ35 55 6 = (σ 55 6) from ((f38 6 (by decide)).trans (congrFun (f24 55 (by decide)) 6))))
      have z72 : (σ35 2 2).toInt = (σ 2 2).toInt := (congrArg Int32.toInt (show σ35 2 2 = (σ 2 2) from ((congrFun (f37 2 (by decide)) 2).trans (congrFun (f24 2 (by decide)) 2))))
      have z73 : (σ35 55 5).toInt = (σ 55 5).toInt := (congrArg Int32.toInt (show σ35 55 5 = (σ 55 5) from ((f38 5 (by decide)).trans (congrFun (f24 55 (by decide)) 5))))
      have z74 : (σ35 2 3).toInt = (σ 2 3).toInt := (congrArg Int32.toInt (show σ35 2 3 = (σ 2 3) from ((congrFun (f37 2 (by decide)) 3).trans (congrFun (f24 2 (by decide)) 3))))
      have z75 : (σ35 55 4).toInt = (σ 55 4).toInt := (congrArg Int32.toInt (show σ35 55 4 = (σ 55 4) from ((f38 4 (by decide)).trans (congrFun (f24 55 (by decide)) 4))))
      exact ih x46 σ35 τ _ _ ls (by have h9 := tx46; omega) ⟨I47, I48, I49, I50, I51, I52, I53, I54, I55, I56, I57, I58, I59, I60, I61, I39, I62, I63, I64, I65, I66, I67, p68, p69, (by omega), (by omega), (by omega), (show jNumP (σ35 3) (σ35 56) (σ35 6) (σ35 57) (σ35 7) (σ35 58) (σ35 8) (σ35 59) (σ35 55 6).toInt (σ35 55 4).toInt by rw [show σ35 3 = σ 3 from ((f37 3 (by decide)).trans (f24 3 (by decide))), show σ35 56 = σ 56 from ((f37 56 (by decide)).trans (f24 56 (by decide))), show σ35 6 = σ 6 from ((f37 6 (by decide)).trans (f24 6 (by decide))), show σ35 57 = σ 57 from ((f37 57 (by decide)).trans (f24 57 (by decide))), show σ35 7 = σ 7 from ((f37 7 (by decide)).trans (f24 7 (by decide))), show σ35 58 = σ 58 from ((f37 58 (by decide)).trans (f24 58 (by decide))), show σ35 8 = σ 8 from ((f37 8 (by decide)).trans (f24 8 (by decide))), show σ35 59 = σ 59 from ((f37 59 (by decide)).trans (f24 59 (by decide))), show (σ35 55 6).toInt = (σ 55 6).toInt from by omega, show (σ35 55 4).toInt = (σ 55 4).toInt from by omega]; exact hr0)⟩ hP hS (lv_sub hl [0, 1, 2, 3] rfl)
    · obtain ⟨q79, k76, k77, k78⟩ := h41
      exact absurd (by omega : False) id
    · obtain ⟨q84, k80, k81, k82, k83⟩ := h42
      exact absurd (by omega : False) id
  · obtain ⟨q88, k85, k86, k87⟩ := h28
    have q88 := q88.symm
    subst q88
    refine lv_pop hx hb dL_law_362 rfl ?_
    refine lv_aload_n hx hb dL_law_363 rfl (lv_at hl 1 rfl) ?_
    refine lv_aload_n hx hb dL_law_364 rfl (lv_at hl 3 rfl) ?_
    refine lv_iload_n hx hb dL_law_365 rfl (lv_at hl 0 rfl) ?_
    refine lv_iconst (v := 1) hx hb dL_law_366 (by decide) ?_
    refine lv_iadd hx hb dL_law_367 ?_
    refine jtopr ex18.symm ?_
    refine va_sld hx hb hX hbl hbA hS (jin tx18 (by omega) (by omega)) dL_law_368 ?_
    refine lv_aload_n hx hb dL_law_369 rfl (lv_at hl 3 rfl) ?_
    refine lv_iload_n hx hb dL_law_370 rfl (lv_at hl 0 rfl) ?_
    refine lv_iconst (v := 2) hx hb dL_law_371 (by decide) ?_
    refine lv_iadd hx hb dL_law_372 ?_
    refine jtopr ex20.symm ?_
    refine va_sld hx hb hX hbl hbA hS (jin tx20 (by omega) (by omega)) dL_law_373 ?_
    have I89 : jI105 σ22 := jI105_fr (congrFun (f24 55 (by decide)) 15) (f24 65 (by decide)) hI105
    have z90 : (σ22 55 15).toInt = (σ 55 15).toInt := (congrArg Int32.toInt (show σ22 55 15 = (σ 55 15) from (congrFun (f24 55 (by decide)) 15)))
    refine jcallV (As := [.int (xs x18.toNatClampNeg), .int (xs x20.toNatClampNeg)]) (rest := []) ⟨hx, hb, hml, hown, hts⟩ hK hP hA hS hZ (c_X12_feed l D cI cL ad zz hJ σ22 τ (xs x18.toNatClampNeg) ((xs x18.toNatClampNeg).toInt) rfl (xs x20.toNatClampNeg) ((xs x20.toNatClampNeg).toInt) rfl I89) cw_RL_35 (jc_55 cI cL ad σ22 τ) rfl ⟨Nat.le_of_ble_eq_true rfl, Nat.le_of_ble_eq_true rfl⟩ rfl rfl rfl hl.1 rfl (Nat.le_of_ble_eq_true rfl) dL_law_374 ⟨Nat.le_of_ble_eq_true rfl, Nat.le_of_ble_eq_true rfl⟩ (fun r92 σ91 τ91 H locs h91 hP hS => ?_)
    obtain ⟨rfl, f93, f94, I95, h91⟩ := h91
    rcases h91 with h96 | h97 | h98
    · obtain ⟨q101, k99, k100⟩ := h96
      exact absurd (by omega : False) id
    · obtain ⟨q105, k102, k103, k104⟩ := h97
      have q105 := q105.symm
      subst q105
      refine lv_pop hx hb dL_law_377 rfl ?_
      refine lv_goto (tgt := 1357) hx hb dL_law_378 (by decide) ?_
      obtain ⟨x106, ex106⟩ : ∃ y : Int32, y = x0 + 6 := ⟨_, rfl⟩
      have tx106 : x106.toInt = x0.toInt + 6 := (jadd ex106 rfl jz_6 (by omega) (by omega)).trans (by omega)
      refine lv_iinc (v := x106) (lv' := [(3, .int x106), (2, .ref (ad 55)), (1, .ref (ad 0)), (0, .ref b)]) hx hb dL_law_1357 hl (k := 0) rfl (by rw [ex106]; rfl) (by decide) rfl (fun ls hl => ?_)
      refine lv_goto (tgt := 18) hx hb dL_law_1360 (by decide) ?_
      have I107 : jI2 σ91 := jI2_fr ((congrFun (f93 2 (by decide)) 0).trans (congrFun (f24 2 (by decide)) 0)) ((congrFun (f93 2 (by decide)) 1).trans (congrFun (f24 2 (by decide)) 1)) ((congrFun (f93 2 (by decide)) 2).trans (congrFun (f24 2 (by decide)) 2)) ((congrFun (f93 2 (by decide)) 3).trans (congrFun (f24 2 (by decide)) 3)) ((f93 6 (by decide)).trans (f24 6 (by decide))) hI2
      have I108 : jI9 σ91 := jI9_fr (congrFun (f93 9 (by decide)) 0) (f93 10 (by decide)) (f93 11 (by decide)) I26
      have I109 : jI12 σ91 := jI12_fr ((congrFun (f93 12 (by decide)) 0).trans (congrFun (f24 12 (by decide)) 0)) ((f93 13 (by decide)).trans (f24 13 (by decide))) hI12
      have I110 : jI16 σ91 := jI16_fr ((congrFun (f93 16 (by decide)) 0).trans (congrFun (f24 16 (by decide)) 0)) ((congrFun (f93 16 (by decide)) 1).trans (congrFun (f24 16 (by decide)) 1)) ((congrFun (f93 16 (by decide)) 2).trans (congrFun (f24 16 (by decide)) 2)) ((f93 17 (by decide)).trans (f24 17 (by decide))) hI16
      have I111 : jI18 σ91 := jI18_fr ((congrFun (f93 18 (by decide)) 0).trans (congrFun (f24 18 (by decide)) 0)) ((f93 19 (by decide)).trans (f24 19 (by decide))) hI18
      have I112 : jI22 σ91 := jI22_fr ((congrFun (f93 22 (by decide)) 0).trans (congrFun (f24 22 (by decide)) 0)) ((f93 23 (by decide)).trans (f24 23 (by decide))) hI22
      have I113 : jI31 σ91 := jI31_fr ((congrFun (f93 31 (by decide)) 8).trans (congrFun (f24 31 (by decide)) 8)) ((f93 33 (by decide)).trans (f24 33 (by decide))) ((f93 36 (by decide)).trans (f24 36 (by decide))) hI31
      have I114 : jI38 σ91 := jI38_fr ((congrFun (f93 38 (by decide)) 0).trans (congrFun (f24 38 (by decide)) 0)) ((congrFun (f93 38 (by decide)) 1).trans (congrFun (f24 38 (by decide)) 1)) ((f93 39 (by decide)).trans (f24 39 (by decide))) hI38
      have I115 : jI43 σ91 := jI43_fr ((congrFun (f93 43 (by decide)) 8).trans (congrFun (f24 43 (by decide)) 8)) hI43
      have I116 : jI47 σ91 := jI47_fr ((congrFun (f93 47 (by decide)) 0).trans (congrFun (f24 47 (by decide)) 0)) ((f93 49 (by decide)).trans (f24 49 (by decide))) hI47
      have I117 : jI50 σ91 := jI50_fr ((f93 52 (by decide)).trans (f24 52 (by decide))) hI50
      have I118 : jI101 σ91 := jI101_fr ((f94 4 (by decide)).trans (congrFun (f24 55 (by decide)) 4)) ((f94 5 (by decide)).trans (congrFun (f24 55 (by decide)) 5)) ((f93 56 (by decide)).trans (f24 56 (by decide))) ((f93 57 (by decide)).trans (f24 57 (by decide))) ((f93 58 (by decide)).trans (f24 58 (by decide))) ((f93 59 (by decide)).trans (f24 59 (by decide))) hI101
      have I119 : jI102 σ91 := jI102_fr ((f94 6 (by decide)).trans (congrFun (f24 55 (by decide)) 6)) ((f93 60 (by decide)).trans (f24 60 (by decide))) ((f93 61 (by decide)).trans (f24 61 (by decide))) hI102
      have I120 : jI103 σ91 := jI103_fr ((f94 9 (by decide)).trans (congrFun (f24 55 (by decide)) 9)) hI103
      have I121 : jI104 σ91 := jI104_fr ((f94 10 (by decide)).trans (congrFun (f24 55 (by decide)) 10)) ((f94 12 (by decide)).trans (congrFun (f24 55 (by decide)) 12)) ((f94 13 (by decide)).trans (congrFun (f24 55 (by decide)) 13)) ((f93 62 (by decide)).trans (f24 62 (by decide))) ((f93 67 (by decide)).trans (f24 67 (by decide))) hI104
      have I122 : jI106 σ91 := jI106_fr ((f94 32 (by decide)).trans (congrFun (f24 55 (by decide)) 32)) ((f93 70 (by decide)).trans (f24 70 (by decide))) ((f93 71 (by decide)).trans (f24 71 (by decide))) ((f93 72 (by decide)).trans (f24 72 (by decide))) hI106
      have I123 : jI107 σ91 := jI107_fr ((f94 12 (by decide)).trans (congrFun (f24 55 (by decide)) 12)) ((f94 47 (by decide)).trans (congrFun (f24 55 (by decide)) 47)) ((f93 80 (by decide)).trans (f24 80 (by decide))) hI107
      have I124 : jI109 σ91 := jI109_fr ((f94 50 (by decide)).trans (congrFun (f24 55 (by decide)) 50)) hI109
      have I125 : jI110 σ91 := jI110_fr ((f93 86 (by decide)).trans (f24 86 (by decide))) ((f93 87 (by decide)).trans (f24 87 (by decide))) hI110
      have I126 : jI111 σ91 := jI111_fr ((f93 79 (by decide)).trans (f24 79 (by decide))) hI111
      have I127 : jI119 σ91 := jI119_fr ((f93 68 (by decide)).trans (f24 68 (by decide))) hI119
      have p128 : jKept σ91 := jKept.fr ((f93 75 (by decide)).trans (f24 75 (by decide))) ((f93 76 (by decide)).trans (f24 76 (by decide))) ((f93 77 (by decide)).trans (f24 77 (by decide))) hs_jKept
      have p129 : jBook σ91 := jBook.fr ((f94 47 (by decide)).trans (congrFun (f24 55 (by decide)) 47)) ((f94 10 (by decide)).trans (congrFun (f24 55 (by decide)) 10)) ((f93 81 (by decide)).trans (f24 81 (by decide))) hs_jBook
      have z130 : (σ91 2 0).toInt = (σ 2 0).toInt := (congrArg Int32.toInt (show σ91 2 0 = (σ 2 0) from ((congrFun (f93 2 (by decide)) 0).trans (congrFun (f24 2 (by decide)) 0))))
      have z131 : (σ91 55 6).toInt = (σ 55 6).toInt := (congrArg Int32.toInt (show σ91 55 6 = (σ 55 6) from ((f94 6 (by decide)).trans (congrFun (f24 55 (by decide)) 6))))
      have z132 : (σ91 2 2).toInt = (σ 2 2).toInt := (congrArg Int32.toInt (show σ91 2 2 = (σ 2 2) from ((congrFun (f93 2 (by decide)) 2).trans (congrFun (f24 2 (by decide)) 2))))
      have z133 : (σ91 55 5).toInt = (σ 55 5).toInt := (congrArg Int32.toInt (show σ91 55 5 = (σ 55 5) from ((f94 5 (by decide)).trans (congrFun (f24 55 (by decide)) 5))))
      have z134 : (σ91 2 3).toInt = (σ 2 3).toInt := (congrArg Int32.toInt (show σ91 2 3 = (σ 2 3) from ((congrFun (f93 2 (by decide)) 3).trans (congrFun (f24 2 (by decide)) 3))))
      have z135 : (σ91 55 4).toInt = (σ 55 4).toInt := (congrArg Int32.toInt (show σ91 55 4 = (σ 55 4) from ((f94 4 (by decide)).trans (congrFun (f24 55 (by decide)) 4))))
      exact ih x106 σ91 τ _ _ ls (by have h9 := tx106; omega) ⟨I107, I108, I109, I110, I111, I112, I113, I114, I115, I116, I117, I118, I119, I120, I121, I95, I122, I123, I124, I125, I126, I127, p128, p129, (by omega), (by omega), (by omega), (show jNumP (σ91 3) (σ91 56) (σ91 6) (σ91 57) (σ91 7) (σ91 58) (σ91 8) (σ91 59) (σ91 55 6).toInt (σ91 55 4).toInt by rw [show σ91 3 = σ 3 from ((f93 3 (by decide)).trans (f24 3 (by decide))), show σ91 56 = σ 56 from ((f93 56 (by decide)).trans (f24 56 (by decide))), show σ91 6 = σ 6 from ((f93 6 (by decide)).trans (f24 6 (by decide))), show σ91 57 = σ 57 from ((f93 57 (by decide)).trans (f24 57 (by decide))), show σ91 7 = σ 7 from ((f93 7 (by decide)).trans (f24 7 (by decide))), show σ91 58 = σ 58 from ((f93 58 (by decide)).trans (f24 58 (by decide))), show σ91 8 = σ 8 from ((f93 8 (by decide)).trans (f24 8 (by decide))), show σ91 59 = σ 59 from ((f93 59 (by decide)).trans (f24 59 (by decide))), show (σ91 55 6).toInt = (σ 55 6).toInt from by omega, show (σ91 55 4).toInt = (σ 55 4).toInt from by omega]; exact hr0)⟩ hP hS (lv_sub hl [0, 1, 2, 3] rfl)
    · obtain ⟨q140, k136, k137, k138, k139⟩ := h98
      refine lv_pop hx hb dL_law_377 rfl ?_
      refine lv_goto (tgt := 1357) hx hb dL_law_378 (by decide) ?_
      obtain ⟨x141, ex141⟩ : ∃ y : Int32, y = x0 + 6 := ⟨_, rfl⟩
      have tx141 : x141.toInt = x0.toInt + 6 := (jadd ex141 rfl jz_6 (by omega) (by omega)).trans (by omega)
      refine lv_iinc (v := x141) (lv' := [(3, .int x141), (2, .ref (ad 55)), (1, .ref (ad 0)), (0, .ref b)]) hx hb dL_law_1357 hl (k := 0) rfl (by rw [ex141]; rfl) (by decide) rfl (fun ls hl => ?_)
      refine lv_goto (tgt := 18) hx hb dL_law_1360 (by decide) ?_
      have I142 : jI2 σ91 := jI2_fr ((congrFun (f93 2 (by decide)) 0).trans (congrFun (f24 2 (by decide)) 0)) ((congrFun (f93 2 (by decide)) 1).trans (congrFun (f24 2 (by decide)) 1)) ((congrFun (f93 2 (by decide)) 2).trans (congrFun (f24 2 (by decide)) 2)) ((congrFun (f93 2 (by decide)) 3).trans (congrFun (f24 2 (by decide)) 3)) ((f93 6 (by decide)).trans (f24 6 (by decide))) hI2
      have I143 : jI9 σ91 := jI9_fr (congrFun (f93 9 (by decide)) 0) (f93 10 (by decide)) (f93 11 (by decide)) I26
      have I144 : jI12 σ91 := jI12_fr ((congrFun (f93 12 (by decide)) 0).trans (congrFun (f24 12 (by decide)) 0)) ((f93 13 (by decide)).trans (f24 13 (by decide))) hI12
      have I145 : jI16 σ91 := jI16_fr ((congrFun (f93 16 (by decide)) 0).trans (congrFun (f24 16 (by decide)) 0)) ((congrFun (f93 16 (by decide)) 1).trans (congrFun (f24 16 (by decide)) 1)) ((congrFun (f93 16 (by decide)) 2).trans (congrFun (f24 16 (by decide)) 2)) ((f93 17 (by decide)).trans (f24 17 (by decide))) hI16
      have I146 : jI18 σ91 := jI18_fr ((congrFun (f93 18 (by decide)) 0).trans (congrFun (f24 18 (by decide)) 0)) ((f93 19 (by decide)).trans (f24 19 (by decide))) hI18
      have I147 : jI22 σ91 := jI22_fr ((congrFun (f93 22 (by decide)) 0).trans (congrFun (f24 22 (by decide)) 0)) ((f93 23 (by decide)).trans (f24 23 (by decide))) hI22
      have I148 : jI31 σ91 := jI31_fr ((congrFun (f93 31 (by decide)) 8).trans (congrFun (f24 31 (by decide)) 8)) ((f93 33 (by decide)).trans (f24 33 (by decide))) ((f93 36 (by decide)).trans (f24 36 (by decide))) hI31
      have I149 : jI38 σ91 := jI38_fr ((congrFun (f93 38 (by decide)) 0).trans (congrFun (f24 38 (by decide)) 0)) ((congrFun (f93 38 (by decide)) 1).trans (congrFun (f24 38 (by decide)) 1)) ((f93 39 (by decide)).trans (f24 39 (by decide))) hI38
      have I150 : jI43 σ91 := jI43_fr ((congrFun (f93 43 (by decide)) 8).trans (congrFun (f24 43 (by decide)) 8)) hI43
      have I151 : jI47 σ91 := jI47_fr ((congrFun (f93 47 (by decide)) 0).trans (congrFun (f24 47 (by decide)) 0)) ((f93 49 (by decide)).trans (f24 49 (by decide))) hI47
      have I152 : jI50 σ91 := jI50_fr ((f93 52 (by decide)).trans (f24 52 (by decide))) hI50
      have I153 : jI101 σ91 := jI101_fr ((f94 4 (by decide)).trans (congrFun (f24 55 (by decide)) 4)) ((f94 5 (by decide)).trans (congrFun (f24 55 (by decide)) 5)) ((f93 56 (by decide)).trans (f24 56 (by decide))) ((f93 57 (by decide)).trans (f24 57 (by decide))) ((f93 58 (by decide)).trans (f24 58 (by decide))) ((f93 59 (by decide)).trans (f24 59 (by decide))) hI101
      have I154 : jI102 σ91 := jI102_fr ((f94 6 (by decide)).trans (congrFun (f24 55 (by decide)) 6)) ((f93 60 (by decide)).trans (f24 60 (by decide))) ((f93 61 (by decide)).trans (f24 61 (by decide))) hI102
      have I155 : jI103 σ91 := jI103_fr ((f94 9 (by decide)).trans (congrFun (f24 55 (by decide)) 9)) hI103
      have I156 : jI104 σ91 := jI104_fr ((f94 10 (by decide)).trans (congrFun (f24 55 (by decide)) 10)) ((f94 12 (by decide)).trans (congrFun (f24 55 (by decide)) 12)) ((f94 13 (by decide)).trans (congrFun (f24 55 (by decide)) 13)) ((f93 62 (by decide)).trans (f24 62 (by decide))) ((f93 67 (by decide)).trans (f24 67 (by decide))) hI104
      have I157 : jI106 σ91 := jI106_fr ((f94 32 (by decide)).trans (congrFun (f24 55 (by decide)) 32)) ((f93 70 (by decide)).trans (f24 70 (by decide))) ((f93 71 (by decide)).trans (f24 71 (by decide))) ((f93 72 (by decide)).trans (f24 72 (by decide))) hI106
      have I158 : jI107 σ91 := jI107_fr ((f94 12 (by decide)).trans (congrFun (f24 55 (by decide)) 12)) ((f94 47 (by decide)).trans (congrFun (f24 55 (by decide)) 47)) ((f93 80 (by decide)).trans (f24 80 (by decide))) hI107
      have I159 : jI109 σ91 := jI109_fr ((f94 50 (by decide)).trans (congrFun (f24 55 (by decide)) 50)) hI109
      have I160 : jI110 σ91 := jI110_fr ((f93 86 (by decide)).trans (f24 86 (by decide))) ((f93 87 (by decide)).trans (f24 87 (by decide))) hI110
      have I161 : jI111 σ91 := jI111_fr ((f93 79 (by decide)).trans (f24 79 (by decide))) hI111
      have I162 : jI119 σ91 := jI119_fr ((f93 68 (by decide)).trans (f24 68 (by decide))) hI119
      have p163 : jKept σ91 := jKept.fr ((f93 75 (by decide)).trans (f24 75 (by decide))) ((f93 76 (by decide)).trans (f24 76 (by decide))) ((f93 77 (by decide)).trans (f24 77 (by decide))) hs_jKept
      have p164 : jBook σ91 := jBook.fr ((f94 47 (by decide)).trans (congrFun (f24 55 (by decide)) 47)) ((f94 10 (by decide)).trans (congrFun (f24 55 (by decide)) 10)) ((f93 81 (by decide)).trans (f24 81 (by decide))) hs_jBook
      have z165 : (σ91 2 0).toInt = (σ 2 0).toInt := (congrArg Int32.toInt (show σ91 2 0 = (σ 2 0) from ((congrFun (f93 2 (by decide)) 0).trans (congrFun (f24 2 (by decide)) 0))))
      have z166 : (σ91 55 6).toInt = (σ 55 6).toInt := (congrArg Int32.toInt (show σ91 55 6 = (σ 55 6) from ((f94 6 (by decide)).trans (congrFun (f24 55 (by decide)) 6))))
      have z167 : (σ91 2 2).toInt = (σ 2 2).toInt := (congrArg Int32.toInt (show σ91 2 2 = (σ 2 2) from ((congrFun (f93 2 (by decide)) 2).trans (congrFun (f24 2 (by decide)) 2))))
      have z168 : (σ91 55 5).toInt = (σ 55 5).toInt := (congrArg Int32.toInt (show σ91 55 5 = (σ 55 5) from ((f94 5 (by decide)).trans (congrFun (f24 55 (by decide)) 5))))
      have z169 : (σ91 2 3).toInt = (σ 2 3).toInt := (congrArg Int32.toInt (show σ91 2 3 = (σ 2 3) from ((congrFun (f93 2 (by decide)) 3).trans (congrFun (f24 2 (by decide)) 3))))
      have z170 : (σ91 55 4).toInt = (σ 55 4).toInt := (congrArg Int32.toInt (show σ91 55 4 = (σ 55 4) from ((f94 4 (by decide)).trans (congrFun (f24 55 (by decide)) 4))))
      exact ih x141 σ91 τ _ _ ls (by have h9 := tx141; omega) ⟨I142, I143, I144, I145, I146, I147, I148, I149, I150, I151, I152, I153, I154, I155, I156, I95, I157, I158, I159, I160, I161, I162, p163, p164, (by omega), (by omega), (by omega), (show jNumP (σ91 3) (σ91 56) (σ91 6) (σ91 57) (σ91 7) (σ91 58) (σ91 8) (σ91 59) (σ91 55 6).toInt (σ91 55 4).toInt by rw [show σ91 3 = σ 3 from ((f93 3 (by decide)).trans (f24 3 (by decide))), show σ91 56 = σ 56 from ((f93 56 (by decide)).trans (f24 56 (by decide))), show σ91 6 = σ 6 from ((f93 6 (by decide)).trans (f24 6 (by decide))), show σ91 57 = σ 57 from ((f93 57 (by decide)).trans (f24 57 (by decide))), show σ91 7 = σ 7 from ((f93 7 (by decide)).trans (f24 7 (by decide))), show σ91 58 = σ 58 from ((f93 58 (by decide)).trans (f24 58 (by decide))), show σ91 8 = σ 8 from ((f93 8 (by decide)).trans (f24 8 (by decide))), show σ91 59 = σ 59 from ((f93 59 (by decide)).trans (f24 59 (by decide))), show (σ91 55 6).toInt = (σ 55 6).toInt from by omega, show (σ91 55 4).toInt = (σ 55 4).toInt from by omega]; exact hr0)⟩ hP hS (lv_sub hl [0, 1, 2, 3] rfl)
  · obtain ⟨q175, k171, k172, k173, k174⟩ := h29
    refine lv_pop hx hb dL_law_362 rfl ?_
    refine lv_aload_n hx hb dL_law_363 rfl (lv_at hl 1 rfl) ?_
    refine lv_aload_n hx hb dL_law_364 rfl (lv_at hl 3 rfl) ?_
    refine lv_iload_n hx hb dL_law_365 rfl (lv_at hl 0 rfl) ?_
    refine lv_iconst (v := 1) hx hb dL_law_366 (by decide) ?_
    refine lv_iadd hx hb dL_law_367 ?_
    refine jtopr ex18.symm ?_
    refine va_sld hx hb hX hbl hbA hS (jin tx18 (by omega) (by omega)) dL_law_368 ?_
    refine lv_aload_n hx hb dL_law_369 rfl (lv_at hl 3 rfl) ?_
    refine lv_iload_n hx hb dL_law_370 rfl (lv_at hl 0 rfl) ?_
    refine lv_iconst (v := 2) hx hb dL_law_371 (by decide) ?_
    refine lv_iadd hx hb dL_law_372 ?_
    refine jtopr ex20.symm ?_
    refine va_sld hx hb hX hbl hbA hS (jin tx20 (by omega) (by omega)) dL_law_373 ?_
    have I176 : jI105 σ22 := jI105_fr (congrFun (f24 55 (by decide)) 15) (f24 65 (by decide)) hI105
    have z177 : (σ22 55 15).toInt = (σ 55 15).toInt := (congrArg Int32.toInt (show σ22 55 15 = (σ 55 15) from (congrFun (f24 55 (by decide)) 15)))
    refine jcallV (As := [.int (xs x18.toNatClampNeg), .int (xs x20.toNatClampNeg)]) (rest := []) ⟨hx, hb, hml, hown, hts⟩ hK hP hA hS hZ (c_X12_feed l D cI cL ad zz hJ σ22 τ (xs x18.toNatClampNeg) ((xs x18.toNatClampNeg).toInt) rfl (xs x20.toNatClampNeg) ((xs x20.toNatClampNeg).toInt) rfl I176) cw_RL_35 (jc_55 cI cL ad σ22 τ) rfl ⟨Nat.le_of_ble_eq_true rfl, Nat.le_of_ble_eq_true rfl⟩ rfl rfl rfl hl.1 rfl (Nat.le_of_ble_eq_true rfl) dL_law_374 ⟨Nat.le_of_ble_eq_true rfl, Nat.le_of_ble_eq_true rfl⟩ (fun r179 σ178 τ178 H locs h178 hP hS => ?_)
    obtain ⟨rfl, f180, f181, I182, h178⟩ := h178
    rcases h178 with h183 | h184 | h185
    · obtain ⟨q188, k186, k187⟩ := h183
      exact absurd (by omega : False) id
    · obtain ⟨q192, k189, k190, k191⟩ := h184
      have q192 := q192.symm
      subst q192
      refine lv_pop hx hb dL_law_377 rfl ?_
      refine lv_goto (tgt := 1357) hx hb dL_law_378 (by decide) ?_
      obtain ⟨x193, ex193⟩ : ∃ y : Int32, y = x0 + 6 := ⟨_, rfl⟩
      have tx193 : x193.toInt = x0.toInt + 6 := (jadd ex193 rfl jz_6 (by omega) (by omega)).trans (by omega)
      refine lv_iinc (v := x193) (lv' := [(3, .int x193), (2, .ref (ad 55)), (1, .ref (ad 0)), (0, .ref b)]) hx hb dL_law_1357 hl (k := 0) rfl (by rw [ex193]; rfl) (by decide) rfl (fun ls hl => ?_)
      refine lv_goto (tgt := 18) hx hb dL_law_1360 (by decide) ?_
      have I194 : jI2 σ178 := jI2_fr ((congrFun (f180 2 (by decide)) 0).trans (congrFun (f24 2 (by decide)) 0)) ((congrFun (f180 2 (by decide)) 1).trans (congrFun (f24 2 (by decide)) 1)) ((congrFun (f180 2 (by decide)) 2).trans (congrFun (f24 2 (by decide)) 2)) ((congrFun (f180 2 (by decide)) 3).trans (congrFun (f24 2 (by decide)) 3)) ((f180 6 (by decide)).trans (f24 6 (by decide))) hI2
      have I195 : jI9 σ178 := jI9_fr (congrFun (f180 9 (by decide)) 0) (f180 10 (by decide)) (f180 11 (by decide)) I26
      have I196 : jI12 σ178 := jI12_fr ((congrFun (f180 12 (by decide)) 0).trans (congrFun (f24 12 (by decide)) 0)) ((f180 13 (by decide)).trans (f24 13 (by decide))) hI12
      have I197 : jI16 σ178 := jI16_fr ((congrFun (f180 16 (by decide)) 0).trans (congrFun (f24 16 (by decide)) 0)) ((congrFun (f180 16 (by decide)) 1).trans (congrFun (f24 16 (by decide)) 1)) ((congrFun (f180 16 (by decide)) 2).trans (congrFun (f24 16 (by decide)) 2)) ((f180 17 (by decide)).trans (f24 17 (by decide))) hI16
      have I198 : jI18 σ178 := jI18_fr ((congrFun (f180 18 (by decide)) 0).trans (congrFun (f24 18 (by decide)) 0)) ((f180 19 (by decide)).trans (f24 19 (by decide))) hI18
      have I199 : jI22 σ178 := jI22_fr ((congrFun (f180 22 (by decide)) 0).trans (congrFun (f24 22 (by decide)) 0)) ((f180 23 (by decide)).trans (f24 23 (by decide))) hI22
      have I200 : jI31 σ178 := jI31_fr ((congrFun (f180 31 (by decide)) 8).trans (congrFun (f24 31 (by decide)) 8)) ((f180 33 (by decide)).trans (f24 33 (by decide))) ((f180 36 (by decide)).trans (f24 36 (by decide))) hI31
      have I201 : jI38 σ178 := jI38_fr ((congrFun (f180 38 (by decide)) 0).trans (congrFun (f24 38 (by decide)) 0)) ((congrFun (f180 38 (by decide)) 1).trans (congrFun (f24 38 (by decide)) 1)) ((f180 39 (by decide)).trans (f24 39 (by decide))) hI38
      have I202 : jI43 σ178 := jI43_fr ((congrFun (f180 43 (by decide)) 8).trans (congrFun (f24 43 (by decide)) 8)) hI43
      have I203 : jI47 σ178 := jI47_fr ((congrFun (f180 47 (by decide)) 0).trans (congrFun (f24 47 (by decide)) 0)) ((f180 49 (by decide)).trans (f24 49 (by decide))) hI47
      have I204 : jI50 σ178 := jI50_fr ((f180 52 (by decide)).trans (f24 52 (by decide))) hI50
      have I205 : jI101 σ178 := jI101_fr ((f181 4 (by decide)).trans (congrFun (f24 55 (by decide)) 4)) ((f181 5 (by decide)).trans (congrFun (f24 55 (by decide)) 5)) ((f180 56 (by decide)).trans (f24 56 (by decide))) ((f180 57 (by decide)).trans (f24 57 (by decide))) ((f180 58 (by decide)).trans (f24 58 (by decide))) ((f180 59 (by decide)).trans (f24 59 (by decide))) hI101
      have I206 : jI102 σ178 := jI102_fr ((f181 6 (by decide)).trans (congrFun (f24 55 (by decide)) 6)) ((f180 60 (by decide)).trans (f24 60 (by decide))) ((f180 61 (by decide)).trans (f24 61 (by decide))) hI102
      have I207 : jI103 σ178 := jI103_fr ((f181 9 (by decide)).trans (congrFun (f24 55 (by decide)) 9)) hI103
      have I208 : jI104 σ178 := jI104_fr ((f181 10 (by decide)).trans (congrFun (f24 55 (by decide)) 10)) ((f181 12 (by decide)).trans (congrFun (f24 55 (by decide)) 12)) ((f181 13 (by decide)).trans (congrFun (f24 55 (by decide)) 13)) ((f180 62 (by decide)).trans (f24 62 (by decide))) ((f180 67 (by decide)).trans (f24 67 (by decide))) hI104
      have I209 : jI106 σ178 := jI106_fr ((f181 32 (by decide)).trans (congrFun (f24 55 (by decide)) 32)) ((f180 70 (by decide)).trans (f24 70 (by decide))) ((f180 71 (by decide)).trans (f24 71 (by decide))) ((f180 72 (by decide)).trans (f24 72 (by decide))) hI106
      have I210 : jI107 σ178 := jI107_fr ((f181 12 (by decide)).trans (congrFun (f24 55 (by decide)) 12)) ((f181 47 (by decide)).trans (congrFun (f24 55 (by decide)) 47)) ((f180 80 (by decide)).trans (f24 80 (by decide))) hI107
      have I211 : jI109 σ178 := jI109_fr ((f181 50 (by decide)).trans (congrFun (f24 55 (by decide)) 50)) hI109
      have I212 : jI110 σ178 := jI110_fr ((f180 86 (by decide)).trans (f24 86 (by decide))) ((f180 87 (by decide)).trans (f24 87 (by decide))) hI110
      have I213 : jI111 σ178 := jI111_fr ((f180 79 (by decide)).trans (f24 79 (by decide))) hI111
      have I214 : jI119 σ178 := jI119_fr ((f180 68 (by decide)).trans (f24 68 (by decide))) hI119
      have p215 : jKept σ178 := jKept.fr ((f180 75 (by decide)).trans (f24 75 (by decide))) ((f180 76 (by decide)).trans (f24 76 (by decide))) ((f180 77 (by decide)).trans (f24 77 (by decide))) hs_jKept
      have p216 : jBook σ178 := jBook.fr ((f181 47 (by decide)).trans (congrFun (f24 55 (by decide)) 47)) ((f181 10 (by decide)).trans (congrFun (f24 55 (by decide)) 10)) ((f180 81 (by decide)).trans (f24 81 (by decide))) hs_jBook
      have z217 : (σ178 2 0).toInt = (σ 2 0).toInt := (congrArg Int32.toInt (show σ178 2 0 = (σ 2 0) from ((congrFun (f180 2 (by decide)) 0).trans (congrFun (f24 2 (by decide)) 0))))
      have z218 : (σ178 55 6).toInt = (σ 55 6).toInt := (congrArg Int32.toInt (show σ178 55 6 = (σ 55 6) from ((f181 6 (by decide)).trans (congrFun (f24 55 (by decide)) 6))))
      have z219 : (σ178 2 2).toInt = (σ 2 2).toInt := (congrArg Int32.toInt (show σ178 2 2 = (σ 2 2) from ((congrFun (f180 2 (by decide)) 2).trans (congrFun (f24 2 (by decide)) 2))))
      have z220 : (σ178 55 5).toInt = (σ 55 5).toInt := (congrArg Int32.toInt (show σ178 55 5 = (σ 55 5) from ((f181 5 (by decide)).trans (congrFun (f24 55 (by decide)) 5))))
      have z221 : (σ178 2 3).toInt = (σ 2 3).toInt := (congrArg Int32.toInt (show σ178 2 3 = (σ 2 3) from ((congrFun (f180 2 (by decide)) 3).trans (congrFun (f24 2 (by decide)) 3))))
      have z222 : (σ178 55 4).toInt = (σ 55 4).toInt := (congrArg Int32.toInt (show σ178 55 4 = (σ 55 4) from ((f181 4 (by decide)).trans (congrFun (f24 55 (by decide)) 4))))
      exact ih x193 σ178 τ _ _ ls (by have h9 := tx193; omega) ⟨I194, I195, I196, I197, I198, I199, I200, I201, I202, I203, I204, I205, I206, I207, I208, I182, I209, I210, I211, I212, I213, I214, p215, p216, (by omega), (by omega), (by omega), (show jNumP (σ178 3) (σ178 56) (σ178 6) (σ178 57) (σ178 7) (σ178 58) (σ178 8) (σ178 59) (σ178 55 6).toInt (σ178 55 4).toInt by rw [show σ178 3 = σ 3 from ((f180 3 (by decide)).trans (f24 3 (by decide))), show σ178 56 = σ 56 from ((f180 56 (by decide)).trans (f24 56 (by decide))), show σ178 6 = σ 6 from ((f180 6 (by decide)).trans (f24 6 (by decide))), show σ178 57 = σ 57 from ((f180 57 (by decide)).trans (f24 57 (by decide))), show σ178 7 = σ 7 from ((f180 7 (by decide)).trans (f24 7 (by decide))), show σ178 58 = σ 58 from ((f180 58 (by decide)).trans (f24 58 (by decide))), show σ178 8 = σ 8 from ((f180 8 (by decide)).trans (f24 8 (by decide))), show σ178 59 = σ 59 from ((f180 59 (by decide)).trans (f24 59 (by decide))), show (σ178 55 6).toInt = (σ 55 6).toInt from by omega, show (σ178 55 4).toInt = (σ 55 4).toInt from by omega]; exact hr0)⟩ hP hS (lv_sub hl [0, 1, 2, 3] rfl)
    · obtain ⟨q227, k223, k224, k225, k226⟩ := h185
      refine lv_pop hx hb dL_law_377 rfl ?_
      refine lv_goto (tgt := 1357) hx hb dL_law_378 (by decide) ?_
      obtain ⟨x228, ex228⟩ : ∃ y : Int32, y = x0 + 6 := ⟨_, rfl⟩
      have tx228 : x228.toInt = x0.toInt + 6 := (jadd ex228 rfl jz_6 (by omega) (by omega)).trans (by omega)
      refine lv_iinc (v := x228) (lv' := [(3, .int x228), (2, .ref (ad 55)), (1, .ref (ad 0)), (0, .ref b)]) hx hb dL_law_1357 hl (k := 0) rfl (by rw [ex228]; rfl) (by decide) rfl (fun ls hl => ?_)
      refine lv_goto (tgt := 18) hx hb dL_law_1360 (by decide) ?_
      have I229 : jI2 σ178 := jI2_fr ((congrFun (f180 2 (by decide)) 0).trans (congrFun (f24 2 (by decide)) 0)) ((congrFun (f180 2 (by decide)) 1).trans (congrFun (f24 2 (by decide)) 1)) ((congrFun (f180 2 (by decide)) 2).trans (congrFun (f24 2 (by decide)) 2)) ((congrFun (f180 2 (by decide)) 3).trans (congrFun (f24 2 (by decide)) 3)) ((f180 6 (by decide)).trans (f24 6 (by decide))) hI2
      have I230 : jI9 σ178 := jI9_fr (congrFun (f180 9 (by decide)) 0) (f180 10 (by decide)) (f180 11 (by decide)) I26
      have I231 : jI12 σ178 := jI12_fr ((congrFun (f180 12 (by decide)) 0).trans (congrFun (f24 12 (by decide)) 0)) ((f180 13 (by decide)).trans (f24 13 (by decide))) hI12
      have I232 : jI16 σ178 := jI16_fr ((congrFun (f180 16 (by decide)) 0).trans (congrFun (f24 16 (by decide)) 0)) ((congrFun (f180 16 (by decide)) 1).trans (congrFun (f24 16 (by decide)) 1)) ((congrFun (f180 16 (by decide)) 2).trans (congrFun (f24 16 (by decide)) 2)) ((f180 17 (by decide)).trans (f24 17 (by decide))) hI16
      have I233 : jI18 σ178 := jI18_fr ((congrFun (f180 18 (by decide)) 0).trans (congrFun (f24 18 (by decide)) 0)) ((f180 19 (by decide)).trans (f24 19 (by decide))) hI18
      have I234 : jI22 σ178 := jI22_fr ((congrFun (f180 22 (by decide)) 0).trans (congrFun (f24 22 (by decide)) 0)) ((f180 23 (by decide)).trans (f24 23 (by decide))) hI22
      have I235 : jI31 σ178 := jI31_fr ((congrFun (f180 31 (by decide)) 8).trans (congrFun (f24 31 (by decide)) 8)) ((f180 33 (by decide)).trans (f24 33 (by decide))) ((f180 36 (by decide)).trans (f24 36 (by decide))) hI31
      have I236 : jI38 σ178 := jI38_fr ((congrFun (f180 38 (by decide)) 0).trans (congrFun (f24 38 (by decide)) 0)) ((congrFun (f180 38 (by decide)) 1).trans (congrFun (f24 38 (by decide)) 1)) ((f180 39 (by decide)).trans (f24 39 (by decide))) hI38
      have I237 : jI43 σ178 := jI43_fr ((congrFun (f180 43 (by decide)) 8).trans (congrFun (f24 43 (by decide)) 8)) hI43
      have I238 : jI47 σ178 := jI47_fr ((congrFun (f180 47 (by decide)) 0).trans (congrFun (f24 47 (by decide)) 0)) ((f180 49 (by decide)).trans (f24 49 (by decide))) hI47
      have I239 : jI50 σ178 := jI50_fr ((f180 52 (by decide)).trans (f24 52 (by decide))) hI50
      have I240 : jI101 σ178 := jI101_fr ((f181 4 (by decide)).trans (congrFun (f24 55 (by decide)) 4)) ((f181 5 (by decide)).trans (congrFun (f24 55 (by decide)) 5)) ((f180 56 (by decide)).trans (f24 56 (by decide))) ((f180 57 (by decide)).trans (f24 57 (by decide))) ((f180 58 (by decide)).trans (f24 58 (by decide))) ((f180 59 (by decide)).trans (f24 59 (by decide))) hI101
      have I241 : jI102 σ178 := jI102_fr ((f181 6 (by decide)).trans (congrFun (f24 55 (by decide)) 6)) ((f180 60 (by decide)).trans (f24 60 (by decide))) ((f180 61 (by decide)).trans (f24 61 (by decide))) hI102
      have I242 : jI103 σ178 := jI103_fr ((f181 9 (by decide)).trans (congrFun (f24 55 (by decide)) 9)) hI103
      have I243 : jI104 σ178 := jI104_fr ((f181 10 (by decide)).trans (congrFun (f24 55 (by decide)) 10)) ((f181 12 (by decide)).trans (congrFun (f24 55 (by decide)) 12)) ((f181 13 (by decide)).trans (congrFun (f24 55 (by decide)) 13)) ((f180 62 (by decide)).trans (f24 62 (by decide))) ((f180 67 (by decide)).trans (f24 67 (by decide))) hI104
      have I244 : jI106 σ178 := jI106_fr ((f181 32 (by decide)).trans (congrFun (f24 55 (by decide)) 32)) ((f180 70 (by decide)).trans (f24 70 (by decide))) ((f180 71 (by decide)).trans (f24 71 (by decide))) ((f180 72 (by decide)).trans (f24 72 (by decide))) hI106
      have I245 : jI107 σ178 := jI107_fr ((f181 12 (by decide)).trans (congrFun (f24 55 (by decide)) 12)) ((f181 47 (by decide)).trans (congrFun (f24 55 (by decide)) 47)) ((f180 80 (by decide)).trans (f24 80 (by decide))) hI107
      have I246 : jI109 σ178 := jI109_fr ((f181 50 (by decide)).trans (congrFun (f24 55 (by decide)) 50)) hI109
      have I247 : jI110 σ178 := jI110_fr ((f180 86 (by decide)).trans (f24 86 (by decide))) ((f180 87 (by decide)).trans (f24 87 (by decide))) hI110
      have I248 : jI111 σ178 := jI111_fr ((f180 79 (by decide)).trans (f24 79 (by decide))) hI111
      have I249 : jI119 σ178 := jI119_fr ((f180 68 (by decide)).trans (f24 68 (by decide))) hI119
      have p250 : jKept σ178 := jKept.fr ((f180 75 (by decide)).trans (f24 75 (by decide))) ((f180 76 (by decide)).trans (f24 76 (by decide))) ((f180 77 (by decide)).trans (f24 77 (by decide))) hs_jKept
      have p251 : jBook σ178 := jBook.fr ((f181 47 (by decide)).trans (congrFun (f24 55 (by decide)) 47)) ((f181 10 (by decide)).trans (congrFun (f24 55 (by decide)) 10)) ((f180 81 (by decide)).trans (f24 81 (by decide))) hs_jBook
      have z252 : (σ178 2 0).toInt = (σ 2 0).toInt := (congrArg Int32.toInt (show σ178 2 0 = (σ 2 0) from ((congrFun (f180 2 (by decide)) 0).trans (congrFun (f24 2 (by decide)) 0))))
      have z253 : (σ178 55 6).toInt = (σ 55 6).toInt := (congrArg Int32.toInt (show σ178 55 6 = (σ 55 6) from ((f181 6 (by decide)).trans (congrFun (f24 55 (by decide)) 6))))
      have z254 : (σ178 2 2).toInt = (σ 2 2).toInt := (congrArg Int32.toInt (show σ178 2 2 = (σ 2 2) from ((congrFun (f180 2 (by decide)) 2).trans (congrFun (f24 2 (by decide)) 2))))
      have z255 : (σ178 55 5).toInt = (σ 55 5).toInt := (congrArg Int32.toInt (show σ178 55 5 = (σ 55 5) from ((f181 5 (by decide)).trans (congrFun (f24 55 (by decide)) 5))))
      have z256 : (σ178 2 3).toInt = (σ 2 3).toInt := (congrArg Int32.toInt (show σ178 2 3 = (σ 2 3) from ((congrFun (f180 2 (by decide)) 3).trans (congrFun (f24 2 (by decide)) 3))))
      have z257 : (σ178 55 4).toInt = (σ 55 4).toInt := (congrArg Int32.toInt (show σ178 55 4 = (σ 55 4) from ((f181 4 (by decide)).trans (congrFun (f24 55 (by decide)) 4))))
      exact ih x228 σ178 τ _ _ ls (by have h9 := tx228; omega) ⟨I229, I230, I231, I232, I233, I234, I235, I236, I237, I238, I239, I240, I241, I242, I243, I182, I244, I245, I246, I247, I248, I249, p250, p251, (by omega), (by omega), (by omega), (show jNumP (σ178 3) (σ178 56) (σ178 6) (σ178 57) (σ178 7) (σ178 58) (σ178 8) (σ178 59) (σ178 55 6).toInt (σ178 55 4).toInt by rw [show σ178 3 = σ 3 from ((f180 3 (by decide)).trans (f24 3 (by decide))), show σ178 56 = σ 56 from ((f180 56 (by decide)).trans (f24 56 (by decide))), show σ178 6 = σ 6 from ((f180 6 (by decide)).trans (f24 6 (by decide))), show σ178 57 = σ 57 from ((f180 57 (by decide)).trans (f24 57 (by decide))), show σ178 7 = σ 7 from ((f180 7 (by decide)).trans (f24 7 (by decide))), show σ178 58 = σ 58 from ((f180 58 (by decide)).trans (f24 58 (by decide))), show σ178 8 = σ 8 from ((f180 8 (by decide)).trans (f24 8 (by decide))), show σ178 59 = σ 59 from ((f180 59 (by decide)).trans (f24 59 (by decide))), show (σ178 55 6).toInt = (σ 55 6).toInt from by omega, show (σ178 55 4).toInt = (σ 55 4).toInt from by omega]; exact hr0)⟩ hP hS (lv_sub hl [0, 1, 2, 3] rfl)
set_option maxHeartbeats 4000000 in
set_option maxRecDepth 100000 in
theorem law_case_5 {p : Program} {e : Env} {s : State} {m : MethodId} {below : List Frame} {meth : Method} {c : Code} (l : Launch) {b L : Nat} {xs : Nat → Int32} {D : va_G} {cI cL : ClassId} {ad zz : Nat → Nat} (C0 : lw_At p s m meth c b L xs) (hJ : jD ad) (hA : ∀ q, jA ad q → s.heap.size ≤ q) (hK : jK D cI cL s) (hZ : jZ zz (fun q : Nat => s.heap.size ≤ q) s s.heap) {x0 : Int32} (hx0 : 0 ≤ x0.toInt) (hxL : x0.toInt + 6 ≤ (L : Int)) (hL : L ≤ 384) {σ : Nat → Nat → Int32} {τ : Nat → Nat → Int64} {H : Heap} {locs : List Loc} (hS : va_S (fun q : Nat => s.heap.size ≤ q) s.heap H locs) {ls : Array Slot} (hAll : jAll σ τ) (hP : jH D cI cL ad σ τ H) (hl : lv_has ls 4 [(3, .int x0), (2, .ref (ad 55)), (1, .ref (ad 0)), (0, .ref b)]) (ih : ∀ (x1 : Int32) (σ : Nat → Nat → Int32) (τ : Nat → Nat → Int64) (H : Heap) (locs : List Loc) (ls : Array Slot), x1.toInt = x0.toInt + 6 → jAll σ τ → jH D cI cL ad σ τ H → va_S (fun q : Nat => s.heap.size ≤ q) s.heap H locs → lv_has ls 4 [(3, .int x1), (2, .ref (ad 55)), (1, .ref (ad 0)), (0, .ref b)] → W p l e room_1 s m #[Value.ref b] below meth c H locs 90 348600 (lw_Z below #[Value.ref b] s) (F0 m 18 ls [])) : W p l e room_1 s m #[Value.ref b] below meth c H locs 90 348600 (lw_Z below #[Value.ref b] s) (F0 m 381 ls []) := by
  obtain ⟨hx, hb, hr, hml, hown, hts0, hX, hbl, hlocks, hgv⟩ := C0
  have hts : ∀ w ∈ wsL_law, w.before #[Value.ref b] s = true := fun w h => hts0 w (wsL_law_in w h)
  have hbA : ¬ (fun q : Nat => s.heap.size ≤ q) b := Nat.not_le.mpr hbl
  have hown : s.vm.findClass RL = some m.cls := hown
  obtain ⟨hI2, hI9, hI12, hI16, hI18, hI22, hI31, hI38, hI43, hI47, hI50, hI101, hI102, hI103, hI104, hI105, hI106, hI107, hI109, hI110, hI111, hI119, hs_jKept, hs_jBook, ht0, ht1, ht2, hr0⟩ := hAll
  have hL9 : (L : Int) ≤ 384 := by omega
  obtain ⟨i1, i2, i3, i4, i5, w6⟩ : (0 ≤ (σ 2 0).toInt ∧ (σ 2 0).toInt ≤ 4) ∧ (0 ≤ (σ 2 1).toInt ∧ (σ 2 1).toInt ≤ 3) ∧ (0 ≤ (σ 2 2).toInt) ∧ (0 ≤ (σ 2 3).toInt) ∧ ((σ 2 2).toInt + (σ 2 3).toInt ≤ 40) ∧ (∀ k : Nat, k < 40 → 0 ≤ (σ 6 k).toInt ∧ (σ 6 k).toInt ≤ 67) := id hI2
  obtain ⟨i7, i8, i9, w10, w11, w12, w13⟩ : (0 ≤ (σ 55 5).toInt) ∧ ((σ 55 5).toInt ≤ (σ 55 4).toInt) ∧ ((σ 55 4).toInt ≤ 40) ∧ (∀ k : Nat, k < 68 → (-200) ≤ (σ 56 k).toInt ∧ (σ 56 k).toInt ≤ 500) ∧ (∀ k : Nat, k < 40 → 0 ≤ (σ 57 k).toInt ∧ (σ 57 k).toInt ≤ 67) ∧ (∀ k : Nat, k < 40 → (-200) ≤ (σ 58 k).toInt ∧ (σ 58 k).toInt ≤ 500) ∧ (∀ k : Nat, k < 40 → (-200) ≤ (σ 59 k).toInt ∧ (σ 59 k).toInt ≤ 500) := id hI101
  obtain ⟨i14, w15, w16⟩ : (0 ≤ (σ 55 6).toInt ∧ (σ 55 6).toInt ≤ 4) ∧ (∀ k : Nat, k < 4 → 0 ≤ (σ 60 k).toInt ∧ (σ 60 k).toInt ≤ 50) ∧ (∀ k : Nat, k < 4 → 0 ≤ (σ 61 k).toInt ∧ (σ 61 k).toInt ≤ 20) := id hI102
  refine lv_aload_n hx hb dL_law_381 rfl (lv_at hl 2 rfl) ?_
  refine jcallV (As := []) (rest := []) ⟨hx, hb, hml, hown, hts⟩ hK hP hA hS hZ (c_X11_order l D cI cL ad zz hJ σ τ hI9 hI16 hI47) cw_RL_36 (jc_0 cI cL ad σ τ) rfl ⟨Nat.le_of_ble_eq_true rfl, Nat.le_of_ble_eq_true rfl⟩ rfl rfl rfl hl.1 rfl (Nat.le_of_ble_eq_true rfl) dL_law_382 ⟨Nat.le_of_ble_eq_true rfl, Nat.le_of_ble_eq_true rfl⟩ (fun r18 σ17 τ17 H locs h17 hP hS => ?_)
  obtain ⟨rfl, f19, f20, f21, f22, I23, I24, I25, h17⟩ := h17
  obtain ⟨k26, h17⟩ := h17
  refine lv_pop hx hb dL_law_385 rfl ?_
  refine lv_aload_n hx hb dL_law_386 rfl (lv_at hl 1 rfl) ?_
  have I27 : jI104 σ17 := jI104_fr (congrFun (f19 55 (by decide)) 10) (congrFun (f19 55 (by decide)) 12) (congrFun (f19 55 (by decide)) 13) (f19 62 (by decide)) (f19 67 (by decide)) hI104
  have I28 : jI105 σ17 := jI105_fr (congrFun (f19 55 (by decide)) 15) (f19 65 (by decide)) hI105
  have I29 : jI107 σ17 := jI107_fr (congrFun (f19 55 (by decide)) 12) (congrFun (f19 55 (by decide)) 47) (f19 80 (by decide)) hI107
  have p30 : jBook σ17 := jBook.fr (congrFun (f19 55 (by decide)) 47) (congrFun (f19 55 (by decide)) 10) (f19 81 (by decide)) hs_jBook
  refine jcallV (As := []) (rest := []) ⟨hx, hb, hml, hown, hts⟩ hK hP hA hS hZ (c_X12_order l D cI cL ad zz hJ σ17 τ I27 I28 I29 p30) cw_RL_40 (jc_55 cI cL ad σ17 τ) rfl ⟨Nat.le_of_ble_eq_true rfl, Nat.le_of_ble_eq_true rfl⟩ rfl rfl rfl hl.1 rfl (Nat.le_of_ble_eq_true rfl) dL_law_387 ⟨Nat.le_of_ble_eq_true rfl, Nat.le_of_ble_eq_true rfl⟩ (fun r32 σ31 τ31 H locs h31 hP hS => ?_)
  obtain ⟨rfl, f33, f34, I35, I36, I37, p38, h31⟩ := h31
  obtain ⟨k39, h31⟩ := h31
  refine lv_pop hx hb dL_law_390 rfl ?_
  refine lv_goto (tgt := 1357) hx hb dL_law_391 (by decide) ?_
  obtain ⟨x40, ex40⟩ : ∃ y : Int32, y = x0 + 6 := ⟨_, rfl⟩
  have tx40 : x40.toInt = x0.toInt + 6 := (jadd ex40 rfl jz_6 (by omega) (by omega)).trans (by omega)
  refine lv_iinc (v := x40) (lv' := [(3, .int x40), (2, .ref (ad 55)), (1, .ref (ad 0)), (0, .ref b)]) hx hb dL_law_1357 hl (k := 0) rfl (by rw [ex40]; rfl) (by decide) rfl (fun ls hl => ?_)
  refine lv_goto (tgt := 18) hx hb dL_law_1360 (by decide) ?_
  have I41 : jI2 σ31 := jI2_fr ((congrFun (f33 2 (by decide)) 0).trans (congrFun (f19 2 (by decide)) 0)) ((congrFun (f33 2 (by decide)) 1).trans (congrFun (f19 2 (by decide)) 1)) ((congrFun (f33 2 (by decide)) 2).trans (congrFun (f19 2 (by decide)) 2)) ((congrFun (f33 2 (by decide)) 3).trans (congrFun (f19 2 (by decide)) 3)) ((f33 6 (by decide)).trans (f19 6 (by decide))) hI2
  have I42 : jI9 σ31 := jI9_fr (congrFun (f33 9 (by decide)) 0) (f33 10 (by decide)) (f33 11 (by decide)) I23
  have I43 : jI12 σ31 := jI12_fr ((congrFun (f33 12 (by decide)) 0).trans (congrFun (f19 12 (by decide)) 0)) ((f33 13 (by decide)).trans (f19 13 (by decide))) hI12
  have I44 : jI16 σ31 := jI16_fr (congrFun (f33 16 (by decide)) 0) (congrFun (f33 16 (by decide)) 1) (congrFun (f33 16 (by decide)) 2) (f33 17 (by decide)) I24
  have I45 : jI18 σ31 := jI18_fr ((congrFun (f33 18 (by decide)) 0).trans (congrFun (f19 18 (by decide)) 0)) ((f33 19 (by decide)).trans (f19 19 (by decide))) hI18
  have I46 : jI22 σ31 := jI22_fr ((congrFun (f33 22 (by decide)) 0).trans (congrFun (f19 22 (by decide)) 0)) ((f33 23 (by decide)).trans (f19 23 (by decide))) hI22
  have I47 : jI31 σ31 := jI31_fr ((congrFun (f33 31 (by decide)) 8).trans (congrFun (f19 31 (by decide)) 8)) ((f33 33 (by decide)).trans (f19 33 (by decide))) ((f33 36 (by decide)).trans (f19 36 (by decide))) hI31
  have I48 : jI38 σ31 := jI38_fr ((congrFun (f33 38 (by decide)) 0).trans (congrFun (f19 38 (by decide)) 0)) ((congrFun (f33 38 (by decide)) 1).trans (congrFun (f19 38 (by decide)) 1)) ((f33 39 (by decide)).trans (f19 39 (by decide))) hI38
  have I49 : jI43 σ31 := jI43_fr ((congrFun (f33 43 (by decide)) 8).trans (congrFun (f19 43 (by decide)) 8)) hI43
  have I50 : jI47 σ31 := jI47_fr (congrFun (f33 47 (by decide)) 0) (f33 49 (by decide)) I25
  have I51 : jI50 σ31 := jI50_fr ((f33 52 (by decide)).trans (f19 52 (by decide))) hI50
  have I52 : jI101 σ31 := jI101_fr ((f34 4 (by decide)).trans (congrFun (f19 55 (by decide)) 4)) ((f34 5 (by decide)).trans (congrFun (f19 55 (by decide)) 5)) ((f33 56 (by decide)).trans (f19 56 (by decide))) ((f33 57 (by decide)).trans (f19 57 (by decide))) ((f33 58 (by decide)).trans (f19 58 (by decide))) ((f33 59 (by decide)).trans (f19 59 (by decide))) hI101
  have I53 : jI102 σ31 := jI102_fr ((f34 6 (by decide)).trans (congrFun (f19 55 (by decide)) 6)) ((f33 60 (by decide)).trans (f19 60 (by decide))) ((f33 61 (by decide)).trans (f19 61 (by decide))) hI102
  have I54 : jI103 σ31 := jI103_fr ((f34 9 (by decide)).trans (congrFun (f19 55 (by decide)) 9)) hI103
  have I55 : jI106 σ31 := jI106_fr ((f34 32 (by decide)).trans (congrFun (f19 55 (by decide)) 32)) ((f33 70 (by decide)).trans (f19 70 (by decide))) ((f33 71 (by decide)).trans (f19 71 (by decide))) ((f33 72 (by decide)).trans (f19 72 (by decide))) hI106
  have I56 : jI109 σ31 := jI109_fr ((f34 50 (by decide)).trans (congrFun (f19 55 (by decide)) 50)) hI109
  have I57 : jI110 σ31 := jI110_fr ((f33 86 (by decide)).trans (f19 86 (by decide))) ((f33 87 (by decide)).trans (f19 87 (by decide))) hI110
  have I58 : jI111 σ31 := jI111_fr ((f33 79 (by decide)).trans (f19 79 (by decide))) hI111
  have I59 : jI119 σ31 := jI119_fr ((f33 68 (by decide)).trans (f19 68 (by decide))) hI119
  have p60 : jKept σ31 := jKept.fr ((f33 75 (by decide)).trans (f19 75 (by decide))) ((f33 76 (by decide)).trans (f19 76 (by decide))) ((f33 77 (by decide)).trans (f19 77 (by decide))) hs_jKept
  have z61 : (σ31 2 0).toInt = (σ 2 0).toInt := (congrArg Int32.toInt (show σ31 2 0 = (σ 2 0) from ((congrFun (f33 2 (by decide)) 0).trans (congrFun (f19 2 (by decide)) 0))))
  have z62 : (σ31 55 6).toInt = (σ 55 6).toInt := (congrArg Int32.toInt (show σ31 55 6 = (σ 55 6) from ((f34 6 (by decide)).trans (congrFun (f19 55 (by decide)) 6))))
  have z63 : (σ31 2 2).toInt = (σ 2 2).toInt := (congrArg Int32.toInt (show σ31 2 2 = (σ 2 2) from ((congrFun (f33 2 (by decide)) 2).trans (congrFun (f19 2 (by decide)) 2))))
  have z64 : (σ31 55 5).toInt = (σ 55 5).toInt := (congrArg Int32.toInt (show σ31 55 5 = (σ 55 5) from ((f34 5 (by decide)).trans (congrFun (f19 55 (by decide)) 5))))
  have z65 : (σ31 2 3).toInt = (σ 2 3).toInt := (congrArg Int32.toInt (show σ31 2 3 = (σ 2 3) from ((congrFun (f33 2 (by decide)) 3).trans (congrFun (f19 2 (by decide)) 3))))
  have z66 : (σ31 55 4).toInt = (σ 55 4).toInt := (congrArg Int32.toInt (show σ31 55 4 = (σ 55 4) from ((f34 4 (by decide)).trans (congrFun (f19 55 (by decide)) 4))))
  exact ih x40 σ31 τ _ _ ls (by have h9 := tx40; omega) ⟨I41, I42, I43, I44, I45, I46, I47, I48, I49, I50, I51, I52, I53, I54, I35, I36, I55, I37, I56, I57, I58, I59, p60, p38, (by omega), (by omega), (by omega), (show jNumP (σ31 3) (σ31 56) (σ31 6) (σ31 57) (σ31 7) (σ31 58) (σ31 8) (σ31 59) (σ31 55 6).toInt (σ31 55 4).toInt by rw [show σ31 3 = σ 3 from ((f33 3 (by decide)).trans (f19 3 (by decide))), show σ31 56 = σ 56 from ((f33 56 (by decide)).trans (f19 56 (by decide))), show σ31 6 = σ 6 from ((f33 6 (by decide)).trans (f19 6 (by decide))), show σ31 57 = σ 57 from ((f33 57 (by decide)).trans (f19 57 (by decide))), show σ31 7 = σ 7 from ((f33 7 (by decide)).trans (f19 7 (by decide))), show σ31 58 = σ 58 from ((f33 58 (by decide)).trans (f19 58 (by decide))), show σ31 8 = σ 8 from ((f33 8 (by decide)).trans (f19 8 (by decide))), show σ31 59 = σ 59 from ((f33 59 (by decide)).trans (f19 59 (by decide))), show (σ31 55 6).toInt = (σ 55 6).toInt from by omega, show (σ31 55 4).toInt = (σ 55 4).toInt from by omega]; exact hr0)⟩ hP hS (lv_sub hl [0, 1, 2, 3] rfl)
set_option maxHeartbeats 4000000 in
set_option maxRecDepth 100000 in
theorem law_case_6 {p : Program} {e : Env} {s : State} {m : MethodId} {below : List Frame} {meth : Method} {c : Code} (l : Launch) {b L : Nat} {xs : Nat → Int32} {D : va_G} {cI cL : ClassId} {ad zz : Nat → Nat} (C0 : lw_At p s m meth c b L xs) (hJ : jD ad) (hA : ∀ q, jA ad q → s.heap.size ≤ q) (hK : jK D cI cL s) (hZ : jZ zz (fun q : Nat => s.heap.size ≤ q) s s.heap) {x0 : Int32} (hx0 : 0 ≤ x0.toInt) (hxL : x0.toInt + 6 ≤ (L : Int)) (hL : L ≤ 384) {σ : Nat → Nat → Int32} {τ : Nat → Nat → Int64} {H : Heap} {locs : List Loc} (hS : va_S (fun q : Nat => s.heap.size ≤ q) s.heap H locs) {ls : Array Slot} (hAll : jAll σ τ) (hP : jH D cI cL ad σ τ H) (hl : lv_has ls 4 [(3, .int x0), (2, .ref (ad 55)), (1, .ref (ad 0)), (0, .ref b)]) (ih : ∀ (x1 : Int32) (σ : Nat → Nat → Int32) (τ : Nat → Nat → Int64) (H : Heap) (locs : List Loc) (ls : Array Slot), x1.toInt = x0.toInt + 6 → jAll σ τ → jH D cI cL ad σ τ H → va_S (fun q : Nat => s.heap.size ≤ q) s.heap H locs → lv_has ls 4 [(3, .int x1), (2, .ref (ad 55)), (1, .ref (ad 0)), (0, .ref b)] → W p l e room_1 s m #[Value.ref b] below meth c H locs 90 348600 (lw_Z below #[Value.ref b] s) (F0 m 18 ls [])) : W p l e room_1 s m #[Value.ref b] below meth c H locs 90 348600 (lw_Z below #[Value.ref b] s) (F0 m 394 ls []) := by
  obtain ⟨hx, hb, hr, hml, hown, hts0, hX, hbl, hlocks, hgv⟩ := C0
  have hts : ∀ w ∈ wsL_law, w.before #[Value.ref b] s = true := fun w h => hts0 w (wsL_law_in w h)
  have hbA : ¬ (fun q : Nat => s.heap.size ≤ q) b := Nat.not_le.mpr hbl
  have hown : s.vm.findClass RL = some m.cls := hown
  obtain ⟨hI2, hI9, hI12, hI16, hI18, hI22, hI31, hI38, hI43, hI47, hI50, hI101, hI102, hI103, hI104, hI105, hI106, hI107, hI109, hI110, hI111, hI119, hs_jKept, hs_jBook, ht0, ht1, ht2, hr0⟩ := hAll
  have hL9 : (L : Int) ≤ 384 := by omega
  obtain ⟨i1, i2, i3, i4, i5, w6⟩ : (0 ≤ (σ 2 0).toInt ∧ (σ 2 0).toInt ≤ 4) ∧ (0 ≤ (σ 2 1).toInt ∧ (σ 2 1).toInt ≤ 3) ∧ (0 ≤ (σ 2 2).toInt) ∧ (0 ≤ (σ 2 3).toInt) ∧ ((σ 2 2).toInt + (σ 2 3).toInt ≤ 40) ∧ (∀ k : Nat, k < 40 → 0 ≤ (σ 6 k).toInt ∧ (σ 6 k).toInt ≤ 67) := id hI2
  obtain ⟨i7, i8, i9, w10, w11, w12, w13⟩ : (0 ≤ (σ 55 5).toInt) ∧ ((σ 55 5).toInt ≤ (σ 55 4).toInt) ∧ ((σ 55 4).toInt ≤ 40) ∧ (∀ k : Nat, k < 68 → (-200) ≤ (σ 56 k).toInt ∧ (σ 56 k).toInt ≤ 500) ∧ (∀ k : Nat, k < 40 → 0 ≤ (σ 57 k).toInt ∧ (σ 57 k).toInt ≤ 67) ∧ (∀ k : Nat, k < 40 → (-200) ≤ (σ 58 k).toInt ∧ (σ 58 k).toInt ≤ 500) ∧ (∀ k : Nat, k < 40 → (-200) ≤ (σ 59 k).toInt ∧ (σ 59 k).toInt ≤ 500) := id hI101
  obtain ⟨i14, w15, w16⟩ : (0 ≤ (σ 55 6).toInt ∧ (σ 55 6).toInt ≤ 4) ∧ (∀ k : Nat, k < 4 → 0 ≤ (σ 60 k).toInt ∧ (σ 60 k).toInt ≤ 50) ∧ (∀ k : Nat, k < 4 → 0 ≤ (σ 61 k).toInt ∧ (σ 61 k).toInt ≤ 20) := id hI102
  refine lv_aload_n hx hb dL_law_394 rfl (lv_at hl 2 rfl) ?_
  refine lv_aload_n hx hb dL_law_395 rfl (lv_at hl 3 rfl) ?_
  refine lv_iload_n hx hb dL_law_396 rfl (lv_at hl 0 rfl) ?_
  refine lv_iconst (v := 1) hx hb dL_law_397 (by decide) ?_
  have g17 := jrg (rfl : x0.toInt = x0.toInt)
  refine lv_iadd hx hb dL_law_398 ?_
  refine lv_topi (fun x18 ex18 => ?_)
  have tx18 : x18.toInt = x0.toInt + 1 := (jadd ex18 rfl jz_1 (by omega) (by omega)).trans (by omega)
  refine va_sld hx hb hX hbl hbA hS (jin tx18 (by omega) (by omega)) dL_law_399 ?_
  have g19 := jrg (rfl : (xs x18.toNatClampNeg).toInt = (xs x18.toNatClampNeg).toInt)
  refine jcallV (As := [.int (xs x18.toNatClampNeg)]) (rest := []) ⟨hx, hb, hml, hown, hts⟩ hK hP hA hS hZ (c_X11_text l D cI cL ad zz hJ σ τ (xs x18.toNatClampNeg) ((xs x18.toNatClampNeg).toInt) rfl hI9 hI12 hI18 hI22) cw_RL_41 (jc_0 cI cL ad σ τ) rfl ⟨Nat.le_of_ble_eq_true rfl, Nat.le_of_ble_eq_true rfl⟩ rfl rfl rfl hl.1 rfl (Nat.le_of_ble_eq_true rfl) dL_law_400 ⟨Nat.le_of_ble_eq_true rfl, Nat.le_of_ble_eq_true rfl⟩ (fun r21 σ20 τ20 H locs h20 hP hS => ?_)
  obtain ⟨rfl, f22, f23, f24, f25, f26, f27, I28, I29, I30, I31, h20⟩ := h20
  obtain ⟨k32, h20⟩ := h20
  refine lv_pop hx hb dL_law_403 rfl ?_
  refine lv_aload_n hx hb dL_law_404 rfl (lv_at hl 1 rfl) ?_
  refine lv_aload_n hx hb dL_law_405 rfl (lv_at hl 3 rfl) ?_
  refine lv_iload_n hx hb dL_law_406 rfl (lv_at hl 0 rfl) ?_
  refine lv_iconst (v := 1) hx hb dL_law_407 (by decide) ?_
  refine lv_iadd hx hb dL_law_408 ?_
  refine jtopr ex18.symm ?_
  refine va_sld hx hb hX hbl hbA hS (jin tx18 (by omega) (by omega)) dL_law_409 ?_
  have I33 : jI105 σ20 := jI105_fr (congrFun (f22 55 (by decide)) 15) (f22 65 (by decide)) hI105
  have z34 : (σ20 55 15).toInt = (σ 55 15).toInt := (congrArg Int32.toInt (show σ20 55 15 = (σ 55 15) from (congrFun (f22 55 (by decide)) 15)))
  refine jcallV (As := [.int (xs x18.toNatClampNeg)]) (rest := []) ⟨hx, hb, hml, hown, hts⟩ hK hP hA hS hZ (c_X12_text l D cI cL ad zz hJ σ20 τ (xs x18.toNatClampNeg) ((xs x18.toNatClampNeg).toInt) rfl I33) cw_RL_44 (jc_55 cI cL ad σ20 τ) rfl ⟨Nat.le_of_ble_eq_true rfl, Nat.le_of_ble_eq_true rfl⟩ rfl rfl rfl hl.1 rfl (Nat.le_of_ble_eq_true rfl) dL_law_410 ⟨Nat.le_of_ble_eq_true rfl, Nat.le_of_ble_eq_true rfl⟩ (fun r36 σ35 τ35 H locs h35 hP hS => ?_)
  obtain ⟨rfl, f37, f38, I39, h35⟩ := h35
  obtain ⟨k40, h35⟩ := h35
  refine lv_pop hx hb dL_law_413 rfl ?_
  refine lv_goto (tgt := 1357) hx hb dL_law_414 (by decide) ?_
  obtain ⟨x41, ex41⟩ : ∃ y : Int32, y = x0 + 6 := ⟨_, rfl⟩
  have tx41 : x41.toInt = x0.toInt + 6 := (jadd ex41 rfl jz_6 (by omega) (by omega)).trans (by omega)
  refine lv_iinc (v := x41) (lv' := [(3, .int x41), (2, .ref (ad 55)), (1, .ref (ad 0)), (0, .ref b)]) hx hb dL_law_1357 hl (k := 0) rfl (by rw [ex41]; rfl) (by decide) rfl (fun ls hl => ?_)
  refine lv_goto (tgt := 18) hx hb dL_law_1360 (by decide) ?_
  have I42 : jI2 σ35 := jI2_fr ((congrFun (f37 2 (by decide)) 0).trans (congrFun (f22 2 (by decide)) 0)) ((congrFun (f37 2 (by decide)) 1).trans (congrFun (f22 2 (by decide)) 1)) ((congrFun (f37 2 (by decide)) 2).trans (congrFun (f22 2 (by decide)) 2)) ((congrFun (f37 2 (by decide)) 3).trans (congrFun (f22 2 (by decide)) 3)) ((f37 6 (by decide)).trans (f22 6 (by decide))) hI2
  have I43 : jI9 σ35 := jI9_fr (congrFun (f37 9 (by decide)) 0) (f37 10 (by decide)) (f37 11 (by decide)) I28
  have I44 : jI12 σ35 := jI12_fr (congrFun (f37 12 (by decide)) 0) (f37 13 (by decide)) I29
  have I45 : jI16 σ35 := jI16_fr ((congrFun (f37 16 (by decide)) 0).trans (congrFun (f22 16 (by decide)) 0)) ((congrFun (f37 16 (by decide)) 1).trans (congrFun (f22 16 (by decide)) 1)) ((congrFun (f37 16 (by decide)) 2).trans (congrFun (f22 16 (by decide)) 2)) ((f37 17 (by decide)).trans (f22 17 (by decide))) hI16
  have I46 : jI18 σ35 := jI18_fr (congrFun (f37 18 (by decide)) 0) (f37 19 (by decide)) I30
  have I47 : jI22 σ35 := jI22_fr (congrFun (f37 22 (by decide)) 0) (f37 23 (by decide)) I31
  have I48 : jI31 σ35 := jI31_fr ((congrFun (f37 31 (by decide)) 8).trans (congrFun (f22 31 (by decide)) 8)) ((f37 33 (by decide)).trans (f22 33 (by decide))) ((f37 36 (by decide)).trans (f22 36 (by decide))) hI31
  have I49 : jI38 σ35 := jI38_fr ((congrFun (f37 38 (by decide)) 0).trans (congrFun (f22 38 (by decide)) 0)) ((congrFun (f37 38 (by decide)) 1).trans (congrFun (f22 38 (by decide)) 1)) ((f37 39 (by decide)).trans (f22 39 (by decide))) hI38
  have I50 : jI43 σ35 := jI43_fr ((congrFun (f37 43 (by decide)) 8).trans (congrFun (f22 43 (by decide)) 8)) hI43
  have I51 : jI47 σ35 := jI47_fr ((congrFun (f37 47 (by decide)) 0).trans (congrFun (f22 47 (by decide)) 0)) ((f37 49 (by decide)).trans (f22 49 (by decide))) hI47
  have I52 : jI50 σ35 := jI50_fr ((f37 52 (by decide)).trans (f22 52 (by decide))) hI50
  have I53 : jI101 σ35 := jI101_fr ((f38 4 (by decide)).trans (congrFun (f22 55 (by decide)) 4)) ((f38 5 (by decide)).trans (congrFun (f22 55 (by decide)) 5)) ((f37 56 (by decide)).trans (f22 56 (by decide))) ((f37 57 (by decide)).trans (f22 57 (by decide))) ((f37 58 (by decide)).trans (f22 58 (by decide))) ((f37 59 (by decide)).trans (f22 59 (by decide))) hI101
  have I54 : jI102 σ35 := jI102_fr ((f38 6 (by decide)).trans (congrFun (f22 55 (by decide)) 6)) ((f37 60 (by decide)).trans (f22 60 (by decide))) ((f37 61 (by decide)).trans (f22 61 (by decide))) hI102
  have I55 : jI103 σ35 := jI103_fr ((f38 9 (by decide)).trans (congrFun (f22 55 (by decide)) 9)) hI103
  have I56 : jI104 σ35 := jI104_fr ((f38 10 (by decide)).trans (congrFun (f22 55 (by decide)) 10)) ((f38 12 (by decide)).trans (congrFun (f22 55 (by decide)) 12)) ((f38 13 (by decide)).trans (congrFun (f22 55 (by decide)) 13)) ((f37 62 (by decide)).trans (f22 62 (by decide))) ((f37 67 (by decide)).trans (f22 67 (by decide))) hI104
  have I57 : jI106 σ35 := jI106_fr ((f38 32 (by decide)).trans (congrFun (f22 55 (by decide)) 32)) ((f37 70 (by decide)).trans (f22 70 (by decide))) ((f37 71 (by decide)).trans (f22 71 (by decide))) ((f37 72 (by decide)).trans (f22 72 (by decide))) hI106
  have I58 : jI107 σ35 := jI107_fr ((f38 12 (by decide)).trans (congrFun (f22 55 (by decide)) 12)) ((f38 47 (by decide)).trans (congrFun (f22 55 (by decide)) 47)) ((f37 80 (by decide)).trans (f22 80 (by decide))) hI107
  have I59 : jI109 σ35 := jI109_fr ((f38 50 (by decide)).trans (congrFun (f22 55 (by decide)) 50)) hI109
  have I60 : jI110 σ35 := jI110_fr ((f37 86 (by decide)).trans (f22 86 (by decide))) ((f37 87 (by decide)).trans (f22 87 (by decide))) hI110
  have I61 : jI111 σ35 := jI111_fr ((f37 79 (by decide)).trans (f22 79 (by decide))) hI111
  have I62 : jI119 σ35 := jI119_fr ((f37 68 (by decide)).trans (f22 68 (by decide))) hI119
  have p63 : jKept σ35 := jKept.fr ((f37 75 (by decide)).trans (f22 75 (by decide))) ((f37 76 (by decide)).trans (f22 76 (by decide))) ((f37 77 (by decide)).trans (f22 77 (by decide))) hs_jKept
  have p64 : jBook σ35 := jBook.fr ((f38 47 (by decide)).trans (congrFun (f22 55 (by decide)) 47)) ((f38 10 (by decide)).trans (congrFun (f22 55 (by decide)) 10)) ((f37 81 (by decide)).trans (f22 81 (by decide))) hs_jBook
  have z65 : (σ35 2 0).toInt = (σ 2 0).toInt := (congrArg Int32.toInt (show σ35 2 0 = (σ 2 0) from ((congrFun (f37 2 (by decide)) 0).trans (congrFun (f22 2 (by decide)) 0))))
  have z66 : (σ35 55 6).toInt = (σ 55 6).toInt := (congrArg Int32.toInt (show σ35 55 6 = (σ 55 6) from ((f38 6 (by decide)).trans (congrFun (f22 55 (by decide)) 6))))
  have z67 : (σ35 2 2).toInt = (σ 2 2).toInt := (congrArg Int32.toInt (show σ35 2 2 = (σ 2 2) from ((congrFun (f37 2 (by decide)) 2).trans (congrFun (f22 2 (by decide)) 2))))
  have z68 : (σ35 55 5).toInt = (σ 55 5).toInt := (congrArg Int32.toInt (show σ35 55 5 = (σ 55 5) from ((f38 5 (by decide)).trans (congrFun (f22 55 (by decide)) 5))))
  have z69 : (σ35 2 3).toInt = (σ 2 3).toInt := (congrArg Int32.toInt (show σ35 2 3 = (σ 2 3) from ((congrFun (f37 2 (by decide)) 3).trans (congrFun (f22 2 (by decide)) 3))))
  have z70 : (σ35 55 4).toInt = (σ 55 4).toInt := (congrArg Int32.toInt (show σ35 55 4 = (σ 55 4) from ((f38 4 (by decide)).trans (congrFun (f22 55 (by decide)) 4))))
  exact ih x41 σ35 τ _ _ ls (by have h9 := tx41; omega) ⟨I42, I43, I44, I45, I46, I47, I48, I49, I50, I51, I52, I53, I54, I55, I56, I39, I57, I58, I59, I60, I61, I62, p63, p64, (by omega), (by omega), (by omega), (show jNumP (σ35 3) (σ35 56) (σ35 6) (σ35 57) (σ35 7) (σ35 58) (σ35 8) (σ35 59) (σ35 55 6).toInt (σ35 55 4).toInt by rw [show σ35 3 = σ 3 from ((f37 3 (by decide)).trans (f22 3 (by decide))), show σ35 56 = σ 56 from ((f37 56 (by decide)).trans (f22 56 (by decide))), show σ35 6 = σ 6 from ((f37 6 (by decide)).trans (f22 6 (by decide))), show σ35 57 = σ 57 from ((f37 57 (by decide)).trans (f22 57 (by decide))), show σ35 7 = σ 7 from ((f37 7 (by decide)).trans (f22 7 (by decide))), show σ35 58 = σ 58 from ((f37 58 (by decide)).trans (f22 58 (by decide))), show σ35 8 = σ 8 from ((f37 8 (by decide)).trans (f22 8 (by decide))), show σ35 59 = σ 59 from ((f37 59 (by decide)).trans (f22 59 (by decide))), show (σ35 55 6).toInt = (σ 55 6).toInt from by omega, show (σ35 55 4).toInt = (σ 55 4).toInt from by omega]; exact hr0)⟩ hP hS (lv_sub hl [0, 1, 2, 3] rfl)
set_option maxHeartbeats 4000000 in
set_option maxRecDepth 100000 in
theorem law_case_7 {p : Program} {e : Env} {s : State} {m : MethodId} {below : List Frame} {meth : Method} {c : Code} (l : Launch) {b L : Nat} {xs : Nat → Int32} {D : va_G} {cI cL : ClassId} {ad zz : Nat → Nat} (C0 : lw_At p s m meth c b L xs) (hJ : jD ad) (hA : ∀ q, jA ad q → s.heap.size ≤ q) (hK : jK D cI cL s) (hZ : jZ zz (fun q : Nat => s.heap.size ≤ q) s s.heap) {x0 : Int32} (hx0 : 0 ≤ x0.toInt) (hxL : x0.toInt + 6 ≤ (L : Int)) (hL : L ≤ 384) {σ : Nat → Nat → Int32} {τ : Nat → Nat → Int64} {H : Heap} {locs : List Loc} (hS : va_S (fun q : Nat => s.heap.size ≤ q) s.heap H locs) {ls : Array Slot} (hAll : jAll σ τ) (hP : jH D cI cL ad σ τ H) (hl : lv_has ls 4 [(3, .int x0), (2, .ref (ad 55)), (1, .ref (ad 0)), (0, .ref b)]) (ih : ∀ (x1 : Int32) (σ : Nat → Nat → Int32) (τ : Nat → Nat → Int64) (H : Heap) (locs : List Loc) (ls : Array Slot), x1.toInt = x0.toInt + 6 → jAll σ τ → jH D cI cL ad σ τ H → va_S (fun q : Nat => s.heap.size ≤ q) s.heap H locs → lv_has ls 4 [(3, .int x1), (2, .ref (ad 55)), (1, .ref (ad 0)), (0, .ref b)] → W p l e room_1 s m #[Value.ref b] below meth c H locs 90 348600 (lw_Z below #[Value.ref b] s) (F0 m 18 ls [])) : W p l e room_1 s m #[Value.ref b] below meth c H locs 90 348600 (lw_Z below #[Value.ref b] s) (F0 m 417 ls []) := by
  obtain ⟨hx, hb, hr, hml, hown, hts0, hX, hbl, hlocks, hgv⟩ := C0
  have hts : ∀ w ∈ wsL_law, w.before #[Value.ref b] s = true := fun w h => hts0 w (wsL_law_in w h)
  have hbA : ¬ (fun q : Nat => s.heap.size ≤ q) b := Nat.not_le.mpr hbl
  have hown : s.vm.findClass RL = some m.cls := hown
  obtain ⟨hI2, hI9, hI12, hI16, hI18, hI22, hI31, hI38, hI43, hI47, hI50, hI101, hI102, hI103, hI104, hI105, hI106, hI107, hI109, hI110, hI111, hI119, hs_jKept, hs_jBook, ht0, ht1, ht2, hr0⟩ := hAll
  have hL9 : (L : Int) ≤ 384 := by omega
  obtain ⟨i1, i2, i3, i4, i5, w6⟩ : (0 ≤ (σ 2 0).toInt ∧ (σ 2 0).toInt ≤ 4) ∧ (0 ≤ (σ 2 1).toInt ∧ (σ 2 1).toInt ≤ 3) ∧ (0 ≤ (σ 2 2).toInt) ∧ (0 ≤ (σ 2 3).toInt) ∧ ((σ 2 2).toInt + (σ 2 3).toInt ≤ 40) ∧ (∀ k : Nat, k < 40 → 0 ≤ (σ 6 k).toInt ∧ (σ 6 k).toInt ≤ 67) := id hI2
  obtain ⟨i7, i8, i9, w10, w11, w12, w13⟩ : (0 ≤ (σ 55 5).toInt) ∧ ((σ 55 5).toInt ≤ (σ 55 4).toInt) ∧ ((σ 55 4).toInt ≤ 40) ∧ (∀ k : Nat, k < 68 → (-200) ≤ (σ 56 k).toInt ∧ (σ 56 k).toInt ≤ 500) ∧ (∀ k : Nat, k < 40 → 0 ≤ (σ 57 k).toInt ∧ (σ 57 k).toInt ≤ 67) ∧ (∀ k : Nat, k < 40 → (-200) ≤ (σ 58 k).toInt ∧ (σ 58 k).toInt ≤ 500) ∧ (∀ k : Nat, k < 40 → (-200) ≤ (σ 59 k).toInt ∧ (σ 59 k).toInt ≤ 500) := id hI101
  obtain ⟨i14, w15, w16⟩ : (0 ≤ (σ 55 6).toInt ∧ (σ 55 6).toInt ≤ 4) ∧ (∀ k : Nat, k < 4 → 0 ≤ (σ 60 k).toInt ∧ (σ 60 k).toInt ≤ 50) ∧ (∀ k : Nat, k < 4 → 0 ≤ (σ 61 k).toInt ∧ (σ 61 k).toInt ≤ 20) := id hI102
  refine lv_aload_n hx hb dL_law_417 rfl (lv_at hl 2 rfl) ?_
  refine lv_aload_n hx hb dL_law_418 rfl (lv_at hl 3 rfl) ?_
  refine lv_iload_n hx hb dL_law_419 rfl (lv_at hl 0 rfl) ?_
  refine lv_iconst (v := 1) hx hb dL_law_420 (by decide) ?_
  have g17 := jrg (rfl : x0.toInt = x0.toInt)
  refine lv_iadd hx hb dL_law_421 ?_
  refine lv_topi (fun x18 ex18 => ?_)
  have tx18 : x18.toInt = x0.toInt + 1 := (jadd ex18 rfl jz_1 (by omega) (by omega)).trans (by omega)
  refine va_sld hx hb hX hbl hbA hS (jin tx18 (by omega) (by omega)) dL_law_422 ?_
  have g19 := jrg (rfl : (xs x18.toNatClampNeg).toInt = (xs x18.toNatClampNeg).toInt)
  refine jcallV (As := [.int (xs x18.toNatClampNeg)]) (rest := []) ⟨hx, hb, hml, hown, hts⟩ hK hP hA hS hZ (c_X11_of l D cI cL ad zz hJ σ τ (xs x18.toNatClampNeg) ((xs x18.toNatClampNeg).toInt) rfl hI16) cw_RL_45 (jc_0 cI cL ad σ τ) rfl ⟨Nat.le_of_ble_eq_true rfl, Nat.le_of_ble_eq_true rfl⟩ rfl rfl rfl hl.1 rfl (Nat.le_of_ble_eq_true rfl) dL_law_423 ⟨Nat.le_of_ble_eq_true rfl, Nat.le_of_ble_eq_true rfl⟩ (fun r21 σ20 τ20 H locs h20 hP hS => ?_)
  obtain ⟨⟨rfl, rfl⟩, h20⟩ := h20
  refine lv_pop hx hb dL_law_426 rfl ?_
  refine lv_aload_n hx hb dL_law_427 rfl (lv_at hl 1 rfl) ?_
  refine lv_aload_n hx hb dL_law_428 rfl (lv_at hl 3 rfl) ?_
  refine lv_iload_n hx hb dL_law_429 rfl (lv_at hl 0 rfl) ?_
  refine lv_iconst (v := 1) hx hb dL_law_430 (by decide) ?_
  refine lv_iadd hx hb dL_law_431 ?_
  refine jtopr ex18.symm ?_
  refine va_sld hx hb hX hbl hbA hS (jin tx18 (by omega) (by omega)) dL_law_432 ?_
  refine jcallV (As := [.int (xs x18.toNatClampNeg)]) (rest := []) ⟨hx, hb, hml, hown, hts⟩ hK hP hA hS hZ (c_X12_of l D cI cL ad zz hJ σ τ (xs x18.toNatClampNeg) ((xs x18.toNatClampNeg).toInt) rfl hI104 hI107) cw_RL_48 (jc_55 cI cL ad σ τ) rfl ⟨Nat.le_of_ble_eq_true rfl, Nat.le_of_ble_eq_true rfl⟩ rfl rfl rfl hl.1 rfl (Nat.le_of_ble_eq_true rfl) dL_law_433 ⟨Nat.le_of_ble_eq_true rfl, Nat.le_of_ble_eq_true rfl⟩ (fun r23 σ22 τ22 H locs h22 hP hS => ?_)
  obtain ⟨⟨rfl, rfl⟩, h22⟩ := h22
  refine lv_pop hx hb dL_law_436 rfl ?_
  refine lv_goto (tgt := 1357) hx hb dL_law_437 (by decide) ?_
  obtain ⟨x24, ex24⟩ : ∃ y : Int32, y = x0 + 6 := ⟨_, rfl⟩
  have tx24 : x24.toInt = x0.toInt + 6 := (jadd ex24 rfl jz_6 (by omega) (by omega)).trans (by omega)
  refine lv_iinc (v := x24) (lv' := [(3, .int x24), (2, .ref (ad 55)), (1, .ref (ad 0)), (0, .ref b)]) hx hb dL_law_1357 hl (k := 0) rfl (by rw [ex24]; rfl) (by decide) rfl (fun ls hl => ?_)
  refine lv_goto (tgt := 18) hx hb dL_law_1360 (by decide) ?_
  exact ih x24 σ τ _ _ ls (by have h9 := tx24; omega) ⟨hI2, hI9, hI12, hI16, hI18, hI22, hI31, hI38, hI43, hI47, hI50, hI101, hI102, hI103, hI104, hI105, hI106, hI107, hI109, hI110, hI111, hI119, hs_jKept, hs_jBook, (by omega), (by omega), (by omega), hr0⟩ hP hS (lv_sub hl [0, 1, 2, 3] rfl)
set_option maxHeartbeats 4000000 in
set_option maxRecDepth 100000 in
theorem law_case_8 {p : Program} {e : Env} {s : State} {m : MethodId} {below : List Frame} {meth : Method} {c : Code} (l : Launch) {b L : Nat} {xs : Nat → Int32} {D : va_G} {cI cL : ClassId} {ad zz : Nat → Nat} (C0 : lw_At p s m meth c b L xs) (hJ : jD ad) (hA : ∀ q, jA ad q → s.heap.size ≤ q) (hK : jK D cI cL s) (hZ : jZ zz (fun q : Nat => s.heap.size ≤ q) s s.heap) {x0 : Int32} (hx0 : 0 ≤ x0.toInt) (hxL : x0.toInt + 6 ≤ (L : Int)) (hL : L ≤ 384) {σ : Nat → Nat → Int32} {τ : Nat → Nat → Int64} {H : Heap} {locs : List Loc} (hS : va_S (fun q : Nat => s.heap.size ≤ q) s.heap H locs) {ls : Array Slot} (hAll : jAll σ τ) (hP : jH D cI cL ad σ τ H) (hl : lv_has ls 4 [(3, .int x0), (2, .ref (ad 55)), (1, .ref (ad 0)), (0, .ref b)]) (ih : ∀ (x1 : Int32) (σ : Nat → Nat → Int32) (τ : Nat → Nat → Int64) (H : Heap) (locs : List Loc) (ls : Array Slot), x1.toInt = x0.toInt + 6 → jAll σ τ → jH D cI cL ad σ τ H → va_S (fun q : Nat => s.heap.size ≤ q) s.heap H locs → lv_has ls 4 [(3, .int x1), (2, .ref (ad 55)), (1, .ref (ad 0)), (0, .ref b)] → W p l e room_1 s m #[Value.ref b] below meth c H locs 90 348600 (lw_Z below #[Value.ref b] s) (F0 m 18 ls [])) : W p l e room_1 s m #[Value.ref b] below meth c H locs 90 348600 (lw_Z below #[Value.ref b] s) (F0 m 440 ls []) := by
  obtain ⟨hx, hb, hr, hml, hown, hts0, hX, hbl, hlocks, hgv⟩ := C0
  have hts : ∀ w ∈ wsL_law, w.before #[Value.ref b] s = true := fun w h => hts0 w (wsL_law_in w h)
  have hbA : ¬ (fun q : Nat => s.heap.size ≤ q) b := Nat.not_le.mpr hbl
  have hown : s.vm.findClass RL = some m.cls := hown
  obtain ⟨hI2, hI9, hI12, hI16, hI18, hI22, hI31, hI38, hI43, hI47, hI50, hI101, hI102, hI103, hI104, hI105, hI106, hI107, hI109, hI110, hI111, hI119, hs_jKept, hs_jBook, ht0, ht1, ht2, hr0⟩ := hAll
  have hL9 : (L : Int) ≤ 384 := by omega
  obtain ⟨i1, i2, i3, i4, i5, w6⟩ : (0 ≤ (σ 2 0).toInt ∧ (σ 2 0).toInt ≤ 4) ∧ (0 ≤ (σ 2 1).toInt ∧ (σ 2 1).toInt ≤ 3) ∧ (0 ≤ (σ 2 2).toInt) ∧ (0 ≤ (σ 2 3).toInt) ∧ ((σ 2 2).toInt + (σ 2 3).toInt ≤ 40) ∧ (∀ k : Nat, k < 40 → 0 ≤ (σ 6 k).toInt ∧ (σ 6 k).toInt ≤ 67) := id hI2
  obtain ⟨i7, i8, i9, w10, w11, w12, w13⟩ : (0 ≤ (σ 55 5).toInt) ∧ ((σ 55 5).toInt ≤ (σ 55 4).toInt) ∧ ((σ 55 4).toInt ≤ 40) ∧ (∀ k : Nat, k < 68 → (-200) ≤ (σ 56 k).toInt ∧ (σ 56 k).toInt ≤ 500) ∧ (∀ k : Nat, k < 40 → 0 ≤ (σ 57 k).toInt ∧ (σ 57 k).toInt ≤ 67) ∧ (∀ k : Nat, k < 40 → (-200) ≤ (σ 58 k).toInt ∧ (σ 58 k).toInt ≤ 500) ∧ (∀ k : Nat, k < 40 → (-200) ≤ (σ 59 k).toInt ∧ (σ 59 k).toInt ≤ 500) := id hI101
  obtain ⟨i14, w15, w16⟩ : (0 ≤ (σ 55 6).toInt ∧ (σ 55 6).toInt ≤ 4) ∧ (∀ k : Nat, k < 4 → 0 ≤ (σ 60 k).toInt ∧ (σ 60 k).toInt ≤ 50) ∧ (∀ k : Nat, k < 4 → 0 ≤ (σ 61 k).toInt ∧ (σ 61 k).toInt ≤ 20) := id hI102
  refine lv_aload_n hx hb dL_law_440 rfl (lv_at hl 2 rfl) ?_
  refine lv_aload_n hx hb dL_law_441 rfl (lv_at hl 3 rfl) ?_
  refine lv_iload_n hx hb dL_law_442 rfl (lv_at hl 0 rfl) ?_
  refine lv_iconst (v := 1) hx hb dL_law_443 (by decide) ?_
  have g17 := jrg (rfl : x0.toInt = x0.toInt)
  refine lv_iadd hx hb dL_law_444 ?_
  refine lv_topi (fun x18 ex18 => ?_)
  have tx18 : x18.toInt = x0.toInt + 1 := (jadd ex18 rfl jz_1 (by omega) (by omega)).trans (by omega)
  refine va_sld hx hb hX hbl hbA hS (jin tx18 (by omega) (by omega)) dL_law_445 ?_
  have g19 := jrg (rfl : (xs x18.toNatClampNeg).toInt = (xs x18.toNatClampNeg).toInt)
  refine lv_aload_n hx hb dL_law_446 rfl (lv_at hl 3 rfl) ?_
  refine lv_iload_n hx hb dL_law_447 rfl (lv_at hl 0 rfl) ?_
  refine lv_iconst (v := 2) hx hb dL_law_448 (by decide) ?_
  refine lv_iadd hx hb dL_law_449 ?_
  refine lv_topi (fun x20 ex20 => ?_)
  have tx20 : x20.toInt = x0.toInt + 2 := (jadd ex20 rfl jz_2 (by omega) (by omega)).trans (by omega)
  refine va_sld hx hb hX hbl hbA hS (jin tx20 (by omega) (by omega)) dL_law_450 ?_
  have g21 := jrg (rfl : (xs x20.toNatClampNeg).toInt = (xs x20.toNatClampNeg).toInt)
  refine lv_aload_n hx hb dL_law_451 rfl (lv_at hl 3 rfl) ?_
  refine lv_iload_n hx hb dL_law_452 rfl (lv_at hl 0 rfl) ?_
  refine lv_iconst (v := 3) hx hb dL_law_453 (by decide) ?_
  refine lv_iadd hx hb dL_law_454 ?_
  refine lv_topi (fun x22 ex22 => ?_)
  have tx22 : x22.toInt = x0.toInt + 3 := (jadd ex22 rfl jz_3 (by omega) (by omega)).trans (by omega)
  refine va_sld hx hb hX hbl hbA hS (jin tx22 (by omega) (by omega)) dL_law_455 ?_
  have g23 := jrg (rfl : (xs x22.toNatClampNeg).toInt = (xs x22.toNatClampNeg).toInt)
  refine jcallV (As := [.int (xs x18.toNatClampNeg), .int (xs x20.toNatClampNeg), .int (xs x22.toNatClampNeg)]) (rest := []) ⟨hx, hb, hml, hown, hts⟩ hK hP hA hS hZ (c_X11_over l D cI cL ad zz hJ σ τ (xs x18.toNatClampNeg) ((xs x18.toNatClampNeg).toInt) rfl (xs x20.toNatClampNeg) ((xs x20.toNatClampNeg).toInt) rfl (xs x22.toNatClampNeg) ((xs x22.toNatClampNeg).toInt) rfl hI2 hI22) cw_RL_49 (jc_0 cI cL ad σ τ) rfl ⟨Nat.le_of_ble_eq_true rfl, Nat.le_of_ble_eq_true rfl⟩ rfl rfl rfl hl.1 rfl (Nat.le_of_ble_eq_true rfl) dL_law_456 ⟨Nat.le_of_ble_eq_true rfl, Nat.le_of_ble_eq_true rfl⟩ (fun r25 σ24 τ24 H locs h24 hP hS => ?_)
  obtain ⟨rfl, f26, h24⟩ := h24
  refine lv_pop hx hb dL_law_459 rfl ?_
  refine lv_aload_n hx hb dL_law_460 rfl (lv_at hl 1 rfl) ?_
  refine lv_aload_n hx hb dL_law_461 rfl (lv_at hl 3 rfl) ?_
  refine lv_iload_n hx hb dL_law_462 rfl (lv_at hl 0 rfl) ?_
  refine lv_iconst (v := 1) hx hb dL_law_463 (by decide) ?_
  refine lv_iadd hx hb dL_law_464 ?_
  refine jtopr ex18.symm ?_
  refine va_sld hx hb hX hbl hbA hS (jin tx18 (by omega) (by omega)) dL_law_465 ?_
  refine lv_aload_n hx hb dL_law_466 rfl (lv_at hl 3 rfl) ?_
  refine lv_iload_n hx hb dL_law_467 rfl (lv_at hl 0 rfl) ?_
  refine lv_iconst (v := 2) hx hb dL_law_468 (by decide) ?_
  refine lv_iadd hx hb dL_law_469 ?_
  refine jtopr ex20.symm ?_
  refine va_sld hx hb hX hbl hbA hS (jin tx20 (by omega) (by omega)) dL_law_470 ?_
  refine lv_aload_n hx hb dL_law_471 rfl (lv_at hl 3 rfl) ?_
  refine lv_iload_n hx hb dL_law_472 rfl (lv_at hl 0 rfl) ?_
  refine lv_iconst (v := 3) hx hb dL_law_473 (by decide) ?_
  refine lv_iadd hx hb dL_law_474 ?_
  refine jtopr ex22.symm ?_
  refine va_sld hx hb hX hbl hbA hS (jin tx22 (by omega) (by omega)) dL_law_475 ?_
  have I27 : jI101 σ24 := jI101_fr (congrFun (f26 55 (by decide)) 4) (congrFun (f26 55 (by decide)) 5) (f26 56 (by decide)) (f26 57 (by decide)) (f26 58 (by decide)) (f26 59 (by decide)) hI101
  have I28 : jI102 σ24 := jI102_fr (congrFun (f26 55 (by decide)) 6) (f26 60 (by decide)) (f26 61 (by decide)) hI102
  have I29 : jI103 σ24 := jI103_fr (congrFun (f26 55 (by decide)) 9) hI103
  have I30 : jI104 σ24 := jI104_fr (congrFun (f26 55 (by decide)) 10) (congrFun (f26 55 (by decide)) 12) (congrFun (f26 55 (by decide)) 13) (f26 62 (by decide)) (f26 67 (by decide)) hI104
  have I31 : jI105 σ24 := jI105_fr (congrFun (f26 55 (by decide)) 15) (f26 65 (by decide)) hI105
  have I32 : jI119 σ24 := jI119_fr (f26 68 (by decide)) hI119
  refine jcallV (As := [.int (xs x18.toNatClampNeg), .int (xs x20.toNatClampNeg), .int (xs x22.toNatClampNeg)]) (rest := []) ⟨hx, hb, hml, hown, hts⟩ hK hP hA hS hZ (c_X12_over l D cI cL ad zz hJ σ24 τ (xs x18.toNatClampNeg) ((xs x18.toNatClampNeg).toInt) rfl (xs x20.toNatClampNeg) ((xs x20.toNatClampNeg).toInt) rfl (xs x22.toNatClampNeg) ((xs x22.toNatClampNeg).toInt) rfl I27 I28 I29 I30 I31 I32) cw_RL_52 (jc_55 cI cL ad σ24 τ) rfl ⟨Nat.le_of_ble_eq_true rfl, Nat.le_of_ble_eq_true rfl⟩ rfl rfl rfl hl.1 rfl (Nat.le_of_ble_eq_true rfl) dL_law_476 ⟨Nat.le_of_ble_eq_true rfl, Nat.le_of_ble_eq_true rfl⟩ (fun r34 σ33 τ33 H locs h33 hP hS => ?_)
  obtain ⟨rfl, f35, f36, I37, h33⟩ := h33
  refine lv_pop hx hb dL_law_479 rfl ?_
  refine lv_goto (tgt := 1357) hx hb dL_law_480 (by decide) ?_
  obtain ⟨x38, ex38⟩ : ∃ y : Int32, y = x0 + 6 := ⟨_, rfl⟩
  have tx38 : x38.toInt = x0.toInt + 6 := (jadd ex38 rfl jz_6 (by omega) (by omega)).trans (by omega)
  refine lv_iinc (v := x38) (lv' := [(3, .int x38), (2, .ref (ad 55)), (1, .ref (ad 0)), (0, .ref b)]) hx hb dL_law_1357 hl (k := 0) rfl (by rw [ex38]; rfl) (by decide) rfl (fun ls hl => ?_)
  refine lv_goto (tgt := 18) hx hb dL_law_1360 (by decide) ?_
  have I39 : jI2 σ33 := jI2_fr ((congrFun (f35 2 (by decide)) 0).trans (congrFun (f26 2 (by decide)) 0)) ((congrFun (f35 2 (by decide)) 1).trans (congrFun (f26 2 (by decide)) 1)) ((congrFun (f35 2 (by decide)) 2).trans (congrFun (f26 2 (by decide)) 2)) ((congrFun (f35 2 (by decide)) 3).trans (congrFun (f26 2 (by decide)) 3)) ((f35 6 (by decide)).trans (f26 6 (by decide))) hI2
  have I40 : jI9 σ33 := jI9_fr ((congrFun (f35 9 (by decide)) 0).trans (congrFun (f26 9 (by decide)) 0)) ((f35 10 (by decide)).trans (f26 10 (by decide))) ((f35 11 (by decide)).trans (f26 11 (by decide))) hI9
  have I41 : jI12 σ33 := jI12_fr ((congrFun (f35 12 (by decide)) 0).trans (congrFun (f26 12 (by decide)) 0)) ((f35 13 (by decide)).trans (f26 13 (by decide))) hI12
  have I42 : jI16 σ33 := jI16_fr ((congrFun (f35 16 (by decide)) 0).trans (congrFun (f26 16 (by decide)) 0)) ((congrFun (f35 16 (by decide)) 1).trans (congrFun (f26 16 (by decide)) 1)) ((congrFun (f35 16 (by decide)) 2).trans (congrFun (f26 16 (by decide)) 2)) ((f35 17 (by decide)).trans (f26 17 (by decide))) hI16
  have I43 : jI18 σ33 := jI18_fr ((congrFun (f35 18 (by decide)) 0).trans (congrFun (f26 18 (by decide)) 0)) ((f35 19 (by decide)).trans (f26 19 (by decide))) hI18
  have I44 : jI22 σ33 := jI22_fr ((congrFun (f35 22 (by decide)) 0).trans (congrFun (f26 22 (by decide)) 0)) ((f35 23 (by decide)).trans (f26 23 (by decide))) hI22
  have I45 : jI31 σ33 := jI31_fr ((congrFun (f35 31 (by decide)) 8).trans (congrFun (f26 31 (by decide)) 8)) ((f35 33 (by decide)).trans (f26 33 (by decide))) ((f35 36 (by decide)).trans (f26 36 (by decide))) hI31
  have I46 : jI38 σ33 := jI38_fr ((congrFun (f35 38 (by decide)) 0).trans (congrFun (f26 38 (by decide)) 0)) ((congrFun (f35 38 (by decide)) 1).trans (congrFun (f26 38 (by decide)) 1)) ((f35 39 (by decide)).trans (f26 39 (by decide))) hI38
  have I47 : jI43 σ33 := jI43_fr ((congrFun (f35 43 (by decide)) 8).trans (congrFun (f26 43 (by decide)) 8)) hI43
  have I48 : jI47 σ33 := jI47_fr ((congrFun (f35 47 (by decide)) 0).trans (congrFun (f26 47 (by decide)) 0)) ((f35 49 (by decide)).trans (f26 49 (by decide))) hI47
  have I49 : jI50 σ33 := jI50_fr ((f35 52 (by decide)).trans (f26 52 (by decide))) hI50
  have I50 : jI101 σ33 := jI101_fr (f36 4 (by decide)) (f36 5 (by decide)) (f35 56 (by decide)) (f35 57 (by decide)) (f35 58 (by decide)) (f35 59 (by decide)) I27
  have I51 : jI102 σ33 := jI102_fr (f36 6 (by decide)) (f35 60 (by decide)) (f35 61 (by decide)) I28
  have I52 : jI103 σ33 := jI103_fr (f36 9 (by decide)) I29
  have I53 : jI104 σ33 := jI104_fr (f36 10 (by decide)) (f36 12 (by decide)) (f36 13 (by decide)) (f35 62 (by decide)) (f35 67 (by decide)) I30
  have I54 : jI105 σ33 := jI105_fr (f36 15 (by decide)) (f35 65 (by decide)) I31
  have I55 : jI106 σ33 := jI106_fr ((f36 32 (by decide)).trans (congrFun (f26 55 (by decide)) 32)) ((f35 70 (by decide)).trans (f26 70 (by decide))) ((f35 71 (by decide)).trans (f26 71 (by decide))) ((f35 72 (by decide)).trans (f26 72 (by decide))) hI106
  have I56 : jI107 σ33 := jI107_fr ((f36 12 (by decide)).trans (congrFun (f26 55 (by decide)) 12)) ((f36 47 (by decide)).trans (congrFun (f26 55 (by decide)) 47)) ((f35 80 (by decide)).trans (f26 80 (by decide))) hI107
  have I57 : jI109 σ33 := jI109_fr ((f36 50 (by decide)).trans (congrFun (f26 55 (by decide)) 50)) hI109
  have I58 : jI110 σ33 := jI110_fr ((f35 86 (by decide)).trans (f26 86 (by decide))) ((f35 87 (by decide)).trans (f26 87 (by decide))) hI110
  have I59 : jI111 σ33 := jI111_fr ((f35 79 (by decide)).trans (f26 79 (by decide))) hI111
  have p60 : jKept σ33 := jKept.fr ((f35 75 (by decide)).trans (f26 75 (by decide))) ((f35 76 (by decide)).trans (f26 76 (by decide))) ((f35 77 (by decide)).trans (f26 77 (by decide))) hs_jKept
  have p61 : jBook σ33 := jBook.fr ((f36 47 (by decide)).trans (congrFun (f26 55 (by decide)) 47)) ((f36 10 (by decide)).trans (congrFun (f26 55 (by decide)) 10)) ((f35 81 (by decide)).trans (f26 81 (by decide))) hs_jBook
  have z62 : (σ33 2 0).toInt = (σ 2 0).toInt := (congrArg Int32.toInt (show σ33 2 0 = (σ 2 0) from ((congrFun (f35 2 (by decide)) 0).trans (congrFun (f26 2 (by decide)) 0))))
  have z63 : (σ33 55 6).toInt = (σ 55 6).toInt := (congrArg Int32.toInt (show σ33 55 6 = (σ 55 6) from ((f36 6 (by decide)).trans (congrFun (f26 55 (by decide)) 6))))
  have z64 : (σ33 2 2).toInt = (σ 2 2).toInt := (congrArg Int32.toInt (show σ33 2 2 = (σ 2 2) from ((congrFun (f35 2 (by decide)) 2).trans (congrFun (f26 2 (by decide)) 2))))
  have z65 : (σ33 55 5).toInt = (σ 55 5).toInt := (congrArg Int32.toInt (show σ33 55 5 = (σ 55 5) from ((f36 5 (by decide)).trans (congrFun (f26 55 (by decide)) 5))))
  have z66 : (σ33 2 3).toInt = (σ 2 3).toInt := (congrArg Int32.toInt (show σ33 2 3 = (σ 2 3) from ((congrFun (f35 2 (by decide)) 3).trans (congrFun (f26 2 (by decide)) 3))))
  have z67 : (σ33 55 4).toInt = (σ 55 4).toInt := (congrArg Int32.toInt (show σ33 55 4 = (σ 55 4) from ((f36 4 (by decide)).trans (congrFun (f26 55 (by decide)) 4))))
  exact ih x38 σ33 τ _ _ ls (by have h9 := tx38; omega) ⟨I39, I40, I41, I42, I43, I44, I45, I46, I47, I48, I49, I50, I51, I52, I53, I54, I55, I56, I57, I58, I59, I37, p60, p61, (by omega), (by omega), (by omega), (show jNumP (σ33 3) (σ33 56) (σ33 6) (σ33 57) (σ33 7) (σ33 58) (σ33 8) (σ33 59) (σ33 55 6).toInt (σ33 55 4).toInt by rw [show σ33 3 = σ 3 from ((f35 3 (by decide)).trans (f26 3 (by decide))), show σ33 56 = σ 56 from ((f35 56 (by decide)).trans (f26 56 (by decide))), show σ33 6 = σ 6 from ((f35 6 (by decide)).trans (f26 6 (by decide))), show σ33 57 = σ 57 from ((f35 57 (by decide)).trans (f26 57 (by decide))), show σ33 7 = σ 7 from ((f35 7 (by decide)).trans (f26 7 (by decide))), show σ33 58 = σ 58 from ((f35 58 (by decide)).trans (f26 58 (by decide))), show σ33 8 = σ 8 from ((f35 8 (by decide)).trans (f26 8 (by decide))), show σ33 59 = σ 59 from ((f35 59 (by decide)).trans (f26 59 (by decide))), show (σ33 55 6).toInt = (σ 55 6).toInt from by omega, show (σ33 55 4).toInt = (σ 55 4).toInt from by omega]; exact hr0)⟩ hP hS (lv_sub hl [0, 1, 2, 3] rfl)
set_option maxHeartbeats 4000000 in
set_option maxRecDepth 100000 in
theorem law_case_9 {p : Program} {e : Env} {s : State} {m : MethodId} {below : List Frame} {meth : Method} {c : Code} (l : Launch) {b L : Nat} {xs : Nat → Int32} {D : va_G} {cI cL : ClassId} {ad zz : Nat → Nat} (C0 : lw_At p s m meth c b L xs) (hJ : jD ad) (hA : ∀ q, jA ad q → s.heap.size ≤ q) (hK : jK D cI cL s) (hZ : jZ zz (fun q : Nat => s.heap.size ≤ q) s s.heap) {x0 : Int32} (hx0 : 0 ≤ x0.toInt) (hxL : x0.toInt + 6 ≤ (L : Int)) (hL : L ≤ 384) {σ : Nat → Nat → Int32} {τ : Nat → Nat → Int64} {H : Heap} {locs : List Loc} (hS : va_S (fun q : Nat => s.heap.size ≤ q) s.heap H locs) {ls : Array Slot} (hAll : jAll σ τ) (hP : jH D cI cL ad σ τ H) (hl : lv_has ls 4 [(3, .int x0), (2, .ref (ad 55)), (1, .ref (ad 0)), (0, .ref b)]) (ih : ∀ (x1 : Int32) (σ : Nat → Nat → Int32) (τ : Nat → Nat → Int64) (H : Heap) (locs : List Loc) (ls : Array Slot), x1.toInt = x0.toInt + 6 → jAll σ τ → jH D cI cL ad σ τ H → va_S (fun q : Nat => s.heap.size ≤ q) s.heap H locs → lv_has ls 4 [(3, .int x1), (2, .ref (ad 55)), (1, .ref (ad 0)), (0, .ref b)] → W p l e room_1 s m #[Value.ref b] below meth c H locs 90 348600 (lw_Z below #[Value.ref b] s) (F0 m 18 ls [])) : W p l e room_1 s m #[Value.ref b] below meth c H locs 90 348600 (lw_Z below #[Value.ref b] s) (F0 m 483 ls []) := by
  obtain ⟨hx, hb, hr, hml, hown, hts0, hX, hbl, hlocks, hgv⟩ := C0
  have hts : ∀ w ∈ wsL_law, w.before #[Value.ref b] s = true := fun w h => hts0 w (wsL_law_in w h)
  have hbA : ¬ (fun q : Nat => s.heap.size ≤ q) b := Nat.not_le.mpr hbl
  have hown : s.vm.findClass RL = some m.cls := hown
  obtain ⟨hI2, hI9, hI12, hI16, hI18, hI22, hI31, hI38, hI43, hI47, hI50, hI101, hI102, hI103, hI104, hI105, hI106, hI107, hI109, hI110, hI111, hI119, hs_jKept, hs_jBook, ht0, ht1, ht2, hr0⟩ := hAll
  have hL9 : (L : Int) ≤ 384 := by omega
  obtain ⟨i1, i2, i3, i4, i5, w6⟩ : (0 ≤ (σ 2 0).toInt ∧ (σ 2 0).toInt ≤ 4) ∧ (0 ≤ (σ 2 1).toInt ∧ (σ 2 1).toInt ≤ 3) ∧ (0 ≤ (σ 2 2).toInt) ∧ (0 ≤ (σ 2 3).toInt) ∧ ((σ 2 2).toInt + (σ 2 3).toInt ≤ 40) ∧ (∀ k : Nat, k < 40 → 0 ≤ (σ 6 k).toInt ∧ (σ 6 k).toInt ≤ 67) := id hI2
  obtain ⟨i7, i8, i9, w10, w11, w12, w13⟩ : (0 ≤ (σ 55 5).toInt) ∧ ((σ 55 5).toInt ≤ (σ 55 4).toInt) ∧ ((σ 55 4).toInt ≤ 40) ∧ (∀ k : Nat, k < 68 → (-200) ≤ (σ 56 k).toInt ∧ (σ 56 k).toInt ≤ 500) ∧ (∀ k : Nat, k < 40 → 0 ≤ (σ 57 k).toInt ∧ (σ 57 k).toInt ≤ 67) ∧ (∀ k : Nat, k < 40 → (-200) ≤ (σ 58 k).toInt ∧ (σ 58 k).toInt ≤ 500) ∧ (∀ k : Nat, k < 40 → (-200) ≤ (σ 59 k).toInt ∧ (σ 59 k).toInt ≤ 500) := id hI101
  obtain ⟨i14, w15, w16⟩ : (0 ≤ (σ 55 6).toInt ∧ (σ 55 6).toInt ≤ 4) ∧ (∀ k : Nat, k < 4 → 0 ≤ (σ 60 k).toInt ∧ (σ 60 k).toInt ≤ 50) ∧ (∀ k : Nat, k < 4 → 0 ≤ (σ 61 k).toInt ∧ (σ 61 k).toInt ≤ 20) := id hI102
  refine lv_aload_n hx hb dL_law_483 rfl (lv_at hl 2 rfl) ?_
  refine lv_aload_n hx hb dL_law_484 rfl (lv_at hl 3 rfl) ?_
  refine lv_iload_n hx hb dL_law_485 rfl (lv_at hl 0 rfl) ?_
  refine lv_iconst (v := 1) hx hb dL_law_486 (by decide) ?_
  have g17 := jrg (rfl : x0.toInt = x0.toInt)
  refine lv_iadd hx hb dL_law_487 ?_
  refine lv_topi (fun x18 ex18 => ?_)
  have tx18 : x18.toInt = x0.toInt + 1 := (jadd ex18 rfl jz_1 (by omega) (by omega)).trans (by omega)
  refine va_sld hx hb hX hbl hbA hS (jin tx18 (by omega) (by omega)) dL_law_488 ?_
  have g19 := jrg (rfl : (xs x18.toNatClampNeg).toInt = (xs x18.toNatClampNeg).toInt)
  refine lv_aload_n hx hb dL_law_489 rfl (lv_at hl 3 rfl) ?_
  refine lv_iload_n hx hb dL_law_490 rfl (lv_at hl 0 rfl) ?_
  refine lv_iconst (v := 2) hx hb dL_law_491 (by decide) ?_
  refine lv_iadd hx hb dL_law_492 ?_
  refine lv_topi (fun x20 ex20 => ?_)
  have tx20 : x20.toInt = x0.toInt + 2 := (jadd ex20 rfl jz_2 (by omega) (by omega)).trans (by omega)
  refine va_sld hx hb hX hbl hbA hS (jin tx20 (by omega) (by omega)) dL_law_493 ?_
  have g21 := jrg (rfl : (xs x20.toNatClampNeg).toInt = (xs x20.toNatClampNeg).toInt)
  refine lv_aload_n hx hb dL_law_494 rfl (lv_at hl 3 rfl) ?_
  refine lv_iload_n hx hb dL_law_495 rfl (lv_at hl 0 rfl) ?_
  refine lv_iconst (v := 3) hx hb dL_law_496 (by decide) ?_
  refine lv_iadd hx hb dL_law_497 ?_
  refine lv_topi (fun x22 ex22 => ?_)
  have tx22 : x22.toInt = x0.toInt + 3 := (jadd ex22 rfl jz_3 (by omega) (by omega)).trans (by omega)
  refine va_sld hx hb hX hbl hbA hS (jin tx22 (by omega) (by omega)) dL_law_498 ?_
  have g23 := jrg (rfl : (xs x22.toNatClampNeg).toInt = (xs x22.toNatClampNeg).toInt)
  refine jcallV (As := [.int (xs x18.toNatClampNeg), .int (xs x20.toNatClampNeg), .int (xs x22.toNatClampNeg)]) (rest := []) ⟨hx, hb, hml, hown, hts⟩ hK hP hA hS hZ (c_X11_rule l D cI cL ad zz hJ σ τ (xs x18.toNatClampNeg) ((xs x18.toNatClampNeg).toInt) rfl (xs x20.toNatClampNeg) ((xs x20.toNatClampNeg).toInt) rfl (xs x22.toNatClampNeg) ((xs x22.toNatClampNeg).toInt) rfl hI38) cw_RL_53 (jc_0 cI cL ad σ τ) rfl ⟨Nat.le_of_ble_eq_true rfl, Nat.le_of_ble_eq_true rfl⟩ rfl rfl rfl hl.1 rfl (Nat.le_of_ble_eq_true rfl) dL_law_499 ⟨Nat.le_of_ble_eq_true rfl, Nat.le_of_ble_eq_true rfl⟩ (fun r25 σ24 τ24 H locs h24 hP hS => ?_)
  obtain ⟨rfl, f26, f27, I28, h24⟩ := h24
  rcases h24 with h29 | h30 | h31
  · obtain ⟨q35, k32, k33, k34⟩ := h29
    have q35 := q35.symm
    subst q35
    refine lv_pop hx hb dL_law_502 rfl ?_
    refine lv_aload_n hx hb dL_law_503 rfl (lv_at hl 1 rfl) ?_
    refine lv_aload_n hx hb dL_law_504 rfl (lv_at hl 3 rfl) ?_
    refine lv_iload_n hx hb dL_law_505 rfl (lv_at hl 0 rfl) ?_
    refine lv_iconst (v := 1) hx hb dL_law_506 (by decide) ?_
    refine lv_iadd hx hb dL_law_507 ?_
    refine jtopr ex18.symm ?_
    refine va_sld hx hb hX hbl hbA hS (jin tx18 (by omega) (by omega)) dL_law_508 ?_
    refine lv_aload_n hx hb dL_law_509 rfl (lv_at hl 3 rfl) ?_
    refine lv_iload_n hx hb dL_law_510 rfl (lv_at hl 0 rfl) ?_
    refine lv_iconst (v := 2) hx hb dL_law_511 (by decide) ?_
    refine lv_iadd hx hb dL_law_512 ?_
    refine jtopr ex20.symm ?_
    refine va_sld hx hb hX hbl hbA hS (jin tx20 (by omega) (by omega)) dL_law_513 ?_
    refine lv_aload_n hx hb dL_law_514 rfl (lv_at hl 3 rfl) ?_
    refine lv_iload_n hx hb dL_law_515 rfl (lv_at hl 0 rfl) ?_
    refine lv_iconst (v := 3) hx hb dL_law_516 (by decide) ?_
    refine lv_iadd hx hb dL_law_517 ?_
    refine jtopr ex22.symm ?_
    refine va_sld hx hb hX hbl hbA hS (jin tx22 (by omega) (by omega)) dL_law_518 ?_
    have I36 : jI106 σ24 := jI106_fr (congrFun (f26 55 (by decide)) 32) (f26 70 (by decide)) (f26 71 (by decide)) (f26 72 (by decide)) hI106
    have z37 : (σ24 55 32).toInt = (σ 55 32).toInt := (congrArg Int32.toInt (show σ24 55 32 = (σ 55 32) from (congrFun (f26 55 (by decide)) 32)))
    refine jcallV (As := [.int (xs x18.toNatClampNeg), .int (xs x20.toNatClampNeg), .int (xs x22.toNatClampNeg)]) (rest := []) ⟨hx, hb, hml, hown, hts⟩ hK hP hA hS hZ (c_X12_rule l D cI cL ad zz hJ σ24 τ (xs x18.toNatClampNeg) ((xs x18.toNatClampNeg).toInt) rfl (xs x20.toNatClampNeg) ((xs x20.toNatClampNeg).toInt) rfl (xs x22.toNatClampNeg) ((xs x22.toNatClampNeg).toInt) rfl I36) cw_RL_56 (jc_55 cI cL ad σ24 τ) rfl ⟨Nat.le_of_ble_eq_true rfl, Nat.le_of_ble_eq_true rfl⟩ rfl rfl rfl hl.1 rfl (Nat.le_of_ble_eq_true rfl) dL_law_519 ⟨Nat.le_of_ble_eq_true rfl, Nat.le_of_ble_eq_true rfl⟩ (fun r39 σ38 τ38 H locs h38 hP hS => ?_)
    obtain ⟨rfl, f40, f41, I42, h38⟩ := h38
    rcases h38 with h43 | h44 | h45
    · obtain ⟨q49, k46, k47, k48⟩ := h43
      have q49 := q49.symm
      subst q49
      refine lv_pop hx hb dL_law_522 rfl ?_
      refine lv_goto (tgt := 1357) hx hb dL_law_523 (by decide) ?_
      obtain ⟨x50, ex50⟩ : ∃ y : Int32, y = x0 + 6 := ⟨_, rfl⟩
      have tx50 : x50.toInt = x0.toInt + 6 := (jadd ex50 rfl jz_6 (by omega) (by omega)).trans (by omega)
      refine lv_iinc (v := x50) (lv' := [(3, .int x50), (2, .ref (ad 55)), (1, .ref (ad 0)), (0, .ref b)]) hx hb dL_law_1357 hl (k := 0) rfl (by rw [ex50]; rfl) (by decide) rfl (fun ls hl => ?_)
      refine lv_goto (tgt := 18) hx hb dL_law_1360 (by decide) ?_
      have I51 : jI2 σ38 := jI2_fr ((congrFun (f40 2 (by decide)) 0).trans (congrFun (f26 2 (by decide)) 0)) ((congrFun (f40 2 (by decide)) 1).trans (congrFun (f26 2 (by decide)) 1)) ((congrFun (f40 2 (by decide)) 2).trans (congrFun (f26 2 (by decide)) 2)) ((congrFun (f40 2 (by decide)) 3).trans (congrFun (f26 2 (by decide)) 3)) ((f40 6 (by decide)).trans (f26 6 (by decide))) hI2
      have I52 : jI9 σ38 := jI9_fr ((congrFun (f40 9 (by decide)) 0).trans (congrFun (f26 9 (by decide)) 0)) ((f40 10 (by decide)).trans (f26 10 (by decide))) ((f40 11 (by decide)).trans (f26 11 (by decide))) hI9
      have I53 : jI12 σ38 := jI12_fr ((congrFun (f40 12 (by decide)) 0).trans (congrFun (f26 12 (by decide)) 0)) ((f40 13 (by decide)).trans (f26 13 (by decide))) hI12
      have I54 : jI16 σ38 := jI16_fr ((congrFun (f40 16 (by decide)) 0).trans (congrFun (f26 16 (by decide)) 0)) ((congrFun (f40 16 (by decide)) 1).trans (congrFun (f26 16 (by decide)) 1)) ((congrFun (f40 16 (by decide)) 2).trans (congrFun (f26 16 (by decide)) 2)) ((f40 17 (by decide)).trans (f26 17 (by decide))) hI16
      have I55 : jI18 σ38 := jI18_fr ((congrFun (f40 18 (by decide)) 0).trans (congrFun (f26 18 (by decide)) 0)) ((f40 19 (by decide)).trans (f26 19 (by decide))) hI18
      have I56 : jI22 σ38 := jI22_fr ((congrFun (f40 22 (by decide)) 0).trans (congrFun (f26 22 (by decide)) 0)) ((f40 23 (by decide)).trans (f26 23 (by decide))) hI22
      have I57 : jI31 σ38 := jI31_fr ((congrFun (f40 31 (by decide)) 8).trans (congrFun (f26 31 (by decide)) 8)) ((f40 33 (by decide)).trans (f26 33 (by decide))) ((f40 36 (by decide)).trans (f26 36 (by decide))) hI31
      have I58 : jI38 σ38 := jI38_fr (congrFun (f40 38 (by decide)) 0) (congrFun (f40 38 (by decide)) 1) (f40 39 (by decide)) I28
      have I59 : jI43 σ38 := jI43_fr ((congrFun (f40 43 (by decide)) 8).trans (congrFun (f26 43 (by decide)) 8)) hI43
      have I60 : jI47 σ38 := jI47_fr ((congrFun (f40 47 (by decide)) 0).trans (congrFun (f26 47 (by decide)) 0)) ((f40 49 (by decide)).trans (f26 49 (by decide))) hI47
      have I61 : jI50 σ38 := jI50_fr ((f40 52 (by decide)).trans (f26 52 (by decide))) hI50
      have I62 : jI101 σ38 := jI101_fr ((f41 4 (by decide)).trans (congrFun (f26 55 (by decide)) 4)) ((f41 5 (by decide)).trans (congrFun (f26 55 (by decide)) 5)) ((f40 56 (by decide)).trans (f26 56 (by decide))) ((f40 57 (by decide)).trans (f26 57 (by decide))) ((f40 58 (by decide)).trans (f26 58 (by decide))) ((f40 59 (by decide)).trans (f26 59 (by decide))) hI101
      have I63 : jI102 σ38 := jI102_fr ((f41 6 (by decide)).trans (congrFun (f26 55 (by decide)) 6)) ((f40 60 (by decide)).trans (f26 60 (by decide))) ((f40 61 (by decide)).trans (f26 61 (by decide))) hI102
      have I64 : jI103 σ38 := jI103_fr ((f41 9 (by decide)).trans (congrFun (f26 55 (by decide)) 9)) hI103
      have I65 : jI104 σ38 := jI104_fr ((f41 10 (by decide)).trans (congrFun (f26 55 (by decide)) 10)) ((f41 12 (by decide)).trans (congrFun (f26 55 (by decide)) 12)) ((f41 13 (by decide)).trans (congrFun (f26 55 (by decide)) 13)) ((f40 62 (by decide)).trans (f26 62 (by decide))) ((f40 67 (by decide)).trans (f26 67 (by decide))) hI104
      have I66 : jI105 σ38 := jI105_fr ((f41 15 (by decide)).trans (congrFun (f26 55 (by decide)) 15)) ((f40 65 (by decide)).trans (f26 65 (by decide))) hI105
      have I67 : jI107 σ38 := jI107_fr ((f41 12 (by decide)).trans (congrFun (f26 55 (by decide)) 12)) ((f41 47 (by decide)).trans (congrFun (f26 55 (by decide)) 47)) ((f40 80 (by decide)).trans (f26 80 (by decide))) hI107
      have I68 : jI109 σ38 := jI109_fr ((f41 50 (by decide)).trans (congrFun (f26 55 (by decide)) 50)) hI109
      have I69 : jI110 σ38 := jI110_fr ((f40 86 (by decide)).trans (f26 86 (by decide))) ((f40 87 (by decide)).trans (f26 87 (by decide))) hI110
      have I70 : jI111 σ38 := jI111_fr ((f40 79 (by decide)).trans (f26 79 (by decide))) hI111
      have I71 : jI119 σ38 := jI119_fr ((f40 68 (by decide)).trans (f26 68 (by decide))) hI119
      have p72 : jKept σ38 := jKept.fr ((f40 75 (by decide)).trans (f26 75 (by decide))) ((f40 76 (by decide)).trans (f26 76 (by decide))) ((f40 77 (by decide)).trans (f26 77 (by decide))) hs_jKept
      have p73 : jBook σ38 := jBook.fr ((f41 47 (by decide)).trans (congrFun (f26 55 (by decide)) 47)) ((f41 10 (by decide)).trans (congrFun (f26 55 (by decide)) 10)) ((f40 81 (by decide)).trans (f26 81 (by decide))) hs_jBook
      have z74 : (σ38 2 0).toInt = (σ 2 0).toInt := (congrArg Int32.toInt (show σ38 2 0 = (σ 2 0) from ((congrFun (f40 2 (by decide)) 0).trans (congrFun (f26 2 (by decide)) 0))))
      have z75 : (σ38 55 6).toInt = (σ 55 6).toInt := (congrArg Int32.toInt (show σ38 55 6 = (σ 55 6) from ((f41 6 (by decide)).trans (congrFun (f26 55 (by decide)) 6))))
      have z76 : (σ38 2 2).toInt = (σ 2 2).toInt := (congrArg Int32.toInt (show σ38 2 2 = (σ 2 2) from ((congrFun (f40 2 (by decide)) 2).trans (congrFun (f26 2 (by decide)) 2))))
      have z77 : (σ38 55 5).toInt = (σ 55 5).toInt := (congrArg Int32.toInt (show σ38 55 5 = (σ 55 5) from ((f41 5 (by decide)).trans (congrFun (f26 55 (by decide)) 5))))
      have z78 : (σ38 2 3).toInt = (σ 2 3).toInt := (congrArg Int32.toInt (show σ38 2 3 = (σ 2 3) from ((congrFun (f40 2 (by decide)) 3).trans (congrFun (f26 2 (by decide)) 3))))
      have z79 : (σ38 55 4).toInt = (σ 55 4).toInt := (congrArg Int32.toInt (show σ38 55 4 = (σ 55 4) from ((f41 4 (by decide)).trans (congrFun (f26 55 (by decide)) 4))))
      exact ih x50 σ38 τ _ _ ls (by have h9 := tx50; omega) ⟨I51, I52, I53, I54, I55, I56, I57, I58, I59, I60, I61, I62, I63, I64, I65, I66, I42, I67, I68, I69, I70, I71, p72, p73, (by omega), (by omega), (by omega), (show jNumP (σ38 3) (σ38 56) (σ38 6) (σ38 57) (σ38 7) (σ38 58) (σ38 8) (σ38 59) (σ38 55 6).toInt (σ38 55 4).toInt by rw [show σ38 3 = σ 3 from ((f40 3 (by decide)).trans (f26 3 (by decide))), show σ38 56 = σ 56 from ((f40 56 (by decide)).trans (f26 56 (by decide))), show σ38 6 = σ 6 from ((f40 6 (by decide)).trans (f26 6 (by decide))), show σ38 57 = σ 57 from ((f40 57 (by decide)).trans (f26 57 (by decide))), show σ38 7 = σ 7 from ((f40 7 (by decide)).trans (f26 7 (by decide))), show σ38 58 = σ 58 from ((f40 58 (by decide)).trans (f26 58 (by decide))), show σ38 8 = σ 8 from ((f40 8 (by decide)).trans (f26 8 (by decide))), show σ38 59 = σ 59 from ((f40 59 (by decide)).trans (f26 59 (by decide))), show (σ38 55 6).toInt = (σ 55 6).toInt from by omega, show (σ38 55 4).toInt = (σ 55 4).toInt from by omega]; exact hr0)⟩ hP hS (lv_sub hl [0, 1, 2, 3] rfl)
    · obtain ⟨q84, k80, k81, k82, k83⟩ := h44
      have q84 := q84.symm
      subst q84
      exact absurd k82 k33
    · obtain ⟨q90, k85, k86, k87, k88, k89⟩ := h45
      exact absurd k88 k33
  · obtain ⟨q95, k91, k92, k93, k94⟩ := h30
    have q95 := q95.symm
    subst q95
    refine lv_pop hx hb dL_law_502 rfl ?_
    refine lv_aload_n hx hb dL_law_503 rfl (lv_at hl 1 rfl) ?_
    refine lv_aload_n hx hb dL_law_504 rfl (lv_at hl 3 rfl) ?_
    refine lv_iload_n hx hb dL_law_505 rfl (lv_at hl 0 rfl) ?_
    refine lv_iconst (v := 1) hx hb dL_law_506 (by decide) ?_
    refine lv_iadd hx hb dL_law_507 ?_
    refine jtopr ex18.symm ?_
    refine va_sld hx hb hX hbl hbA hS (jin tx18 (by omega) (by omega)) dL_law_508 ?_
    refine lv_aload_n hx hb dL_law_509 rfl (lv_at hl 3 rfl) ?_
    refine lv_iload_n hx hb dL_law_510 rfl (lv_at hl 0 rfl) ?_
    refine lv_iconst (v := 2) hx hb dL_law_511 (by decide) ?_
    refine lv_iadd hx hb dL_law_512 ?_
    refine jtopr ex20.symm ?_
    refine va_sld hx hb hX hbl hbA hS (jin tx20 (by omega) (by omega)) dL_law_513 ?_
    refine lv_aload_n hx hb dL_law_514 rfl (lv_at hl 3 rfl) ?_
    refine lv_iload_n hx hb dL_law_515 rfl (lv_at hl 0 rfl) ?_
    refine lv_iconst (v := 3) hx hb dL_law_516 (by decide) ?_
    refine lv_iadd hx hb dL_law_517 ?_
    refine jtopr ex22.symm ?_
    refine va_sld hx hb hX hbl hbA hS (jin tx22 (by omega) (by omega)) dL_law_518 ?_
    have I96 : jI106 σ24 := jI106_fr (congrFun (f26 55 (by decide)) 32) (f26 70 (by decide)) (f26 71 (by decide)) (f26 72 (by decide)) hI106
    have z97 : (σ24 55 32).toInt = (σ 55 32).toInt := (congrArg Int32.toInt (show σ24 55 32 = (σ 55 32) from (congrFun (f26 55 (by decide)) 32)))
    refine jcallV (As := [.int (xs x18.toNatClampNeg), .int (xs x20.toNatClampNeg), .int (xs x22.toNatClampNeg)]) (rest := []) ⟨hx, hb, hml, hown, hts⟩ hK hP hA hS hZ (c_X12_rule l D cI cL ad zz hJ σ24 τ (xs x18.toNatClampNeg) ((xs x18.toNatClampNeg).toInt) rfl (xs x20.toNatClampNeg) ((xs x20.toNatClampNeg).toInt) rfl (xs x22.toNatClampNeg) ((xs x22.toNatClampNeg).toInt) rfl I96) cw_RL_56 (jc_55 cI cL ad σ24 τ) rfl ⟨Nat.le_of_ble_eq_true rfl, Nat.le_of_ble_eq_true rfl⟩ rfl rfl rfl hl.1 rfl (Nat.le_of_ble_eq_true rfl) dL_law_519 ⟨Nat.le_of_ble_eq_true rfl, Nat.le_of_ble_eq_true rfl⟩ (fun r99 σ98 τ98 H locs h98 hP hS => ?_)
    obtain ⟨rfl, f100, f101, I102, h98⟩ := h98
    rcases h98 with h103 | h104 | h105
    · obtain ⟨q109, k106, k107, k108⟩ := h103
      have q109 := q109.symm
      subst q109
      exact absurd k93 k107
    · obtain ⟨q114, k110, k111, k112, k113⟩ := h104
      have q114 := q114.symm
      subst q114
      refine lv_pop hx hb dL_law_522 rfl ?_
      refine lv_goto (tgt := 1357) hx hb dL_law_523 (by decide) ?_
      obtain ⟨x115, ex115⟩ : ∃ y : Int32, y = x0 + 6 := ⟨_, rfl⟩
      have tx115 : x115.toInt = x0.toInt + 6 := (jadd ex115 rfl jz_6 (by omega) (by omega)).trans (by omega)
      refine lv_iinc (v := x115) (lv' := [(3, .int x115), (2, .ref (ad 55)), (1, .ref (ad 0)), (0, .ref b)]) hx hb dL_law_1357 hl (k := 0) rfl (by rw [ex115]; rfl) (by decide) rfl (fun ls hl => ?_)
      refine lv_goto (tgt := 18) hx hb dL_law_1360 (by decide) ?_
      have I116 : jI2 σ98 := jI2_fr ((congrFun (f100 2 (by decide)) 0).trans (congrFun (f26 2 (by decide)) 0)) ((congrFun (f100 2 (by decide)) 1).trans (congrFun (f26 2 (by decide)) 1)) ((congrFun (f100 2 (by decide)) 2).trans (congrFun (f26 2 (by decide)) 2)) ((congrFun (f100 2 (by decide)) 3).trans (congrFun (f26 2 (by decide)) 3)) ((f100 6 (by decide)).trans (f26 6 (by decide))) hI2
      have I117 : jI9 σ98 := jI9_fr ((congrFun (f100 9 (by decide)) 0).trans (congrFun (f26 9 (by decide)) 0)) ((f100 10 (by decide)).trans (f26 10 (by decide))) ((f100 11 (by decide)).trans (f26 11 (by decide))) hI9
      have I118 : jI12 σ98 := jI12_fr ((congrFun (f100 12 (by decide)) 0).trans (congrFun (f26 12 (by decide)) 0)) ((f100 13 (by decide)).trans (f26 13 (by decide))) hI12
      have I119 : jI16 σ98 := jI16_fr ((congrFun (f100 16 (by decide)) 0).trans (congrFun (f26 16 (by decide)) 0)) ((congrFun (f100 16 (by decide)) 1).trans (congrFun (f26 16 (by decide)) 1)) ((congrFun (f100 16 (by decide)) 2).trans (congrFun (f26 16 (by decide)) 2)) ((f100 17 (by decide)).trans (f26 17 (by decide))) hI16
      have I120 : jI18 σ98 := jI18_fr ((congrFun (f100 18 (by decide)) 0).trans (congrFun (f26 18 (by decide)) 0)) ((f100 19 (by decide)).trans (f26 19 (by decide))) hI18
      have I121 : jI22 σ98 := jI22_fr ((congrFun (f100 22 (by decide)) 0).trans (congrFun (f26 22 (by decide)) 0)) ((f100 23 (by decide)).trans (f26 23 (by decide))) hI22
      have I122 : jI31 σ98 := jI31_fr ((congrFun (f100 31 (by decide)) 8).trans (congrFun (f26 31 (by decide)) 8)) ((f100 33 (by decide)).trans (f26 33 (by decide))) ((f100 36 (by decide)).trans (f26 36 (by decide))) hI31
      have I123 : jI38 σ98 := jI38_fr (congrFun (f100 38 (by decide)) 0) (congrFun (f100 38 (by decide)) 1) (f100 39 (by decide)) I28
      have I124 : jI43 σ98 := jI43_fr ((congrFun (f100 43 (by decide)) 8).trans (congrFun (f26 43 (by decide)) 8)) hI43
      have I125 : jI47 σ98 := jI47_fr ((congrFun (f100 47 (by decide)) 0).trans (congrFun (f26 47 (by decide)) 0)) ((f100 49 (by decide)).trans (f26 49 (by decide))) hI47
      have I126 : jI50 σ98 := jI50_fr ((f100 52 (by decide)).trans (f26 52 (by decide))) hI50
      have I127 : jI101 σ98 := jI101_fr ((f101 4 (by decide)).trans (congrFun (f26 55 (by decide)) 4)) ((f101 5 (by decide)).trans (congrFun (f26 55 (by decide)) 5)) ((f100 56 (by decide)).trans (f26 56 (by decide))) ((f100 57 (by decide)).trans (f26 57 (by decide))) ((f100 58 (by decide)).trans (f26 58 (by decide))) ((f100 59 (by decide)).trans (f26 59 (by decide))) hI101
      have I128 : jI102 σ98 := jI102_fr ((f101 6 (by decide)).trans (congrFun (f26 55 (by decide)) 6)) ((f100 60 (by decide)).trans (f26 60 (by decide))) ((f100 61 (by decide)).trans (f26 61 (by decide))) hI102
      have I129 : jI103 σ98 := jI103_fr ((f101 9 (by decide)).trans (congrFun (f26 55 (by decide)) 9)) hI103
      have I130 : jI104 σ98 := jI104_fr ((f101 10 (by decide)).trans (congrFun (f26 55 (by decide)) 10)) ((f101 12 (by decide)).trans (congrFun (f26 55 (by decide)) 12)) ((f101 13 (by decide)).trans (congrFun (f26 55 (by decide)) 13)) ((f100 62 (by decide)).trans (f26 62 (by decide))) ((f100 67 (by decide)).trans (f26 67 (by decide))) hI104
      have I131 : jI105 σ98 := jI105_fr ((f101 15 (by decide)).trans (congrFun (f26 55 (by decide)) 15)) ((f100 65 (by decide)).trans (f26 65 (by decide))) hI105
      have I132 : jI107 σ98 := jI107_fr ((f101 12 (by decide)).trans (congrFun (f26 55 (by decide)) 12)) ((f101 47 (by decide)).trans (congrFun (f26 55 (by decide)) 47)) ((f100 80 (by decide)).trans (f26 80 (by decide))) hI107
      have I133 : jI109 σ98 := jI109_fr ((f101 50 (by decide)).trans (congrFun (f26 55 (by decide)) 50)) hI109
      have I134 : jI110 σ98 := jI110_fr ((f100 86 (by decide)).trans (f26 86 (by decide))) ((f100 87 (by decide)).trans (f26 87 (by decide))) hI110
      have I135 : jI111 σ98 := jI111_fr ((f100 79 (by decide)).trans (f26 79 (by decide))) hI111
      have I136 : jI119 σ98 := jI119_fr ((f100 68 (by decide)).trans (f26 68 (by decide))) hI119
      have p137 : jKept σ98 := jKept.fr ((f100 75 (by decide)).trans (f26 75 (by decide))) ((f100 76 (by decide)).trans (f26 76 (by decide))) ((f100 77 (by decide)).trans (f26 77 (by decide))) hs_jKept
      have p138 : jBook σ98 := jBook.fr ((f101 47 (by decide)).trans (congrFun (f26 55 (by decide)) 47)) ((f101 10 (by decide)).trans (congrFun (f26 55 (by decide)) 10)) ((f100 81 (by decide)).trans (f26 81 (by decide))) hs_jBook
      have z139 : (σ98 2 0).toInt = (σ 2 0).toInt := (congrArg Int32.toInt (show σ98 2 0 = (σ 2 0) from ((congrFun (f100 2 (by decide)) 0).trans (congrFun (f26 2 (by decide)) 0))))
      have z140 : (σ98 55 6).toInt = (σ 55 6).toInt := (congrArg Int32.toInt (show σ98 55 6 = (σ 55 6) from ((f101 6 (by decide)).trans (congrFun (f26 55 (by decide)) 6))))
      have z141 : (σ98 2 2).toInt = (σ 2 2).toInt := (congrArg Int32.toInt (show σ98 2 2 = (σ 2 2) from ((congrFun (f100 2 (by decide)) 2).trans (congrFun (f26 2 (by decide)) 2))))
      have z142 : (σ98 55 5).toInt = (σ 55 5).toInt := (congrArg Int32.toInt (show σ98 55 5 = (σ 55 5) from ((f101 5 (by decide)).trans (congrFun (f26 55 (by decide)) 5))))
      have z143 : (σ98 2 3).toInt = (σ 2 3).toInt := (congrArg Int32.toInt (show σ98 2 3 = (σ 2 3) from ((congrFun (f100 2 (by decide)) 3).trans (congrFun (f26 2 (by decide)) 3))))
      have z144 : (σ98 55 4).toInt = (σ 55 4).toInt := (congrArg Int32.toInt (show σ98 55 4 = (σ 55 4) from ((f101 4 (by decide)).trans (congrFun (f26 55 (by decide)) 4))))
      exact ih x115 σ98 τ _ _ ls (by have h9 := tx115; omega) ⟨I116, I117, I118, I119, I120, I121, I122, I123, I124, I125, I126, I127, I128, I129, I130, I131, I102, I132, I133, I134, I135, I136, p137, p138, (by omega), (by omega), (by omega), (show jNumP (σ98 3) (σ98 56) (σ98 6) (σ98 57) (σ98 7) (σ98 58) (σ98 8) (σ98 59) (σ98 55 6).toInt (σ98 55 4).toInt by rw [show σ98 3 = σ 3 from ((f100 3 (by decide)).trans (f26 3 (by decide))), show σ98 56 = σ 56 from ((f100 56 (by decide)).trans (f26 56 (by decide))), show σ98 6 = σ 6 from ((f100 6 (by decide)).trans (f26 6 (by decide))), show σ98 57 = σ 57 from ((f100 57 (by decide)).trans (f26 57 (by decide))), show σ98 7 = σ 7 from ((f100 7 (by decide)).trans (f26 7 (by decide))), show σ98 58 = σ 58 from ((f100 58 (by decide)).trans (f26 58 (by decide))), show σ98 8 = σ 8 from ((f100 8 (by decide)).trans (f26 8 (by decide))), show σ98 59 = σ 59 from ((f100 59 (by decide)).trans (f26 59 (by decide))), show (σ98 55 6).toInt = (σ 55 6).toInt from by omega, show (σ98 55 4).toInt = (σ 55 4).toInt from by omega]; exact hr0)⟩ hP hS (lv_sub hl [0, 1, 2, 3] rfl)
    · obtain ⟨q150, k145, k146, k147, k148, k149⟩ := h105
      refine lv_pop hx hb dL_law_522 rfl ?_
      refine lv_goto (tgt := 1357) hx hb dL_law_523 (by decide) ?_
      obtain ⟨x151, ex151⟩ : ∃ y : Int32, y = x0 + 6 := ⟨_, rfl⟩
      have tx151 : x151.toInt = x0.toInt + 6 := (jadd ex151 rfl jz_6 (by omega) (by omega)).trans (by omega)
      refine lv_iinc (v := x151) (lv' := [(3, .int x151), (2, .ref (ad 55)), (1, .ref (ad 0)), (0, .ref b)]) hx hb dL_law_1357 hl (k := 0) rfl (by rw [ex151]; rfl) (by decide) rfl (fun ls hl => ?_)
      refine lv_goto (tgt := 18) hx hb dL_law_1360 (by decide) ?_
      have I152 : jI2 σ98 := jI2_fr ((congrFun (f100 2 (by decide)) 0).trans (congrFun (f26 2 (by decide)) 0)) ((congrFun (f100 2 (by decide)) 1).trans (congrFun (f26 2 (by decide)) 1)) ((congrFun (f100 2 (by decide)) 2).trans (congrFun (f26 2 (by decide)) 2)) ((congrFun (f100 2 (by decide)) 3).trans (congrFun (f26 2 (by decide)) 3)) ((f100 6 (by decide)).trans (f26 6 (by decide))) hI2
      have I153 : jI9 σ98 := jI9_fr ((congrFun (f100 9 (by decide)) 0).trans (congrFun (f26 9 (by decide)) 0)) ((f100 10 (by decide)).trans (f26 10 (by decide))) ((f100 11 (by decide)).trans (f26 11 (by decide))) hI9
      have I154 : jI12 σ98 := jI12_fr ((congrFun (f100 12 (by decide)) 0).trans (congrFun (f26 12 (by decide)) 0)) ((f100 13 (by decide)).trans (f26 13 (by decide))) hI12
      have I155 : jI16 σ98 := jI16_fr ((congrFun (f100 16 (by decide)) 0).trans (congrFun (f26 16 (by decide)) 0)) ((congrFun (f100 16 (by decide)) 1).trans (congrFun (f26 16 (by decide)) 1)) ((congrFun (f100 16 (by decide)) 2).trans (congrFun (f26 16 (by decide)) 2)) ((f100 17 (by decide)).trans (f26 17 (by decide))) hI16
      have I156 : jI18 σ98 := jI18_fr ((congrFun (f100 18 (by decide)) 0).trans (congrFun (f26 18 (by decide)) 0)) ((f100 19 (by decide)).trans (f26 19 (by decide))) hI18
      have I157 : jI22 σ98 := jI22_fr ((congrFun (f100 22 (by decide)) 0).trans (congrFun (f26 22 (by decide)) 0)) ((f100 23 (by decide)).trans (f26 23 (by decide))) hI22
      have I158 : jI31 σ98 := jI31_fr ((congrFun (f100 31 (by decide)) 8).trans (congrFun (f26 31 (by decide)) 8)) ((f100 33 (by decide)).trans (f26 33 (by decide))) ((f100 36 (by decide)).trans (f26 36 (by decide))) hI31
      have I159 : jI38 σ98 := jI38_fr (congrFun (f100 38 (by decide)) 0) (congrFun (f100 38 (by decide)) 1) (f100 39 (by decide)) I28
      have I160 : jI43 σ98 := jI43_fr ((congrFun (f100 43 (by decide)) 8).trans (congrFun (f26 43 (by decide)) 8)) hI43
      have I161 : jI47 σ98 := jI47_fr ((congrFun (f100 47 (by decide)) 0).trans (congrFun (f26 47 (by decide)) 0)) ((f100 49 (by decide)).trans (f26 49 (by decide))) hI47
      have I162 : jI50 σ98 := jI50_fr ((f100 52 (by decide)).trans (f26 52 (by decide))) hI50
      have I163 : jI101 σ98 := jI101_fr ((f101 4 (by decide)).trans (congrFun (f26 55 (by decide)) 4)) ((f101 5 (by decide)).trans (congrFun (f26 55 (by decide)) 5)) ((f100 56 (by decide)).trans (f26 56 (by decide))) ((f100 57 (by decide)).trans (f26 57 (by decide))) ((f100 58 (by decide)).trans (f26 58 (by decide))) ((f100 59 (by decide)).trans (f26 59 (by decide))) hI101
      have I164 : jI102 σ98 := jI102_fr ((f101 6 (by decide)).trans (congrFun (f26 55 (by decide)) 6)) ((f100 60 (by decide)).trans (f26 60 (by decide))) ((f100 61 (by decide)).trans (f26 61 (by decide))) hI102
      have I165 : jI103 σ98 := jI103_fr ((f101 9 (by decide)).trans (congrFun (f26 55 (by decide)) 9)) hI103
      have I166 : jI104 σ98 := jI104_fr ((f101 10 (by decide)).trans (congrFun (f26 55 (by decide)) 10)) ((f101 12 (by decide)).trans (congrFun (f26 55 (by decide)) 12)) ((f101 13 (by decide)).trans (congrFun (f26 55 (by decide)) 13)) ((f100 62 (by decide)).trans (f26 62 (by decide))) ((f100 67 (by decide)).trans (f26 67 (by decide))) hI104
      have I167 : jI105 σ98 := jI105_fr ((f101 15 (by decide)).trans (congrFun (f26 55 (by decide)) 15)) ((f100 65 (by decide)).trans (f26 65 (by decide))) hI105
      have I168 : jI107 σ98 := jI107_fr ((f101 12 (by decide)).trans (congrFun (f26 55 (by decide)) 12)) ((f101 47 (by decide)).trans (congrFun (f26 55 (by decide)) 47)) ((f100 80 (by decide)).trans (f26 80 (by decide))) hI107
      have I169 : jI109 σ98 := jI109_fr ((f101 50 (by decide)).trans (congrFun (f26 55 (by decide)) 50)) hI109
      have I170 : jI110 σ98 := jI110_fr ((f100 86 (by decide)).trans (f26 86 (by decide))) ((f100 87 (by decide)).trans (f26 87 (by decide))) hI110
      have I171 : jI111 σ98 := jI111_fr ((f100 79 (by decide)).trans (f26 79 (by decide))) hI111
      have I172 : jI119 σ98 := jI119_fr ((f100 68 (by decide)).trans (f26 68 (by decide))) hI119
      have p173 : jKept σ98 := jKept.fr ((f100 75 (by decide)).trans (f26 75 (by decide))) ((f100 76 (by decide)).trans (f26 76 (by decide))) ((f100 77 (by decide)).trans (f26 77 (by decide))) hs_jKept
      have p174 : jBook σ98 := jBook.fr ((f101 47 (by decide)).trans (congrFun (f26 55 (by decide)) 47)) ((f101 10 (by decide)).trans (congrFun (f26 55 (by decide)) 10)) ((f100 81 (by decide)).trans (f26 81 (by decide))) hs_jBook
      have z175 : (σ98 2 0).toInt = (σ 2 0).toInt := (congrArg Int32.toInt (show σ98 2 0 = (σ 2 0) from ((congrFun (f100 2 (by decide)) 0).trans (congrFun (f26 2 (by decide)) 0))))
      have z176 : (σ98 55 6).toInt = (σ 55 6).toInt := (congrArg Int32.toInt (show σ98 55 6 = (σ 55 6) from ((f101 6 (by decide)).trans (congrFun (f26 55 (by decide)) 6))))
      have z177 : (σ98 2 2).toInt = (σ 2 2).toInt := (congrArg Int32.toInt (show σ98 2 2 = (σ 2 2) from ((congrFun (f100 2 (by decide)) 2).trans (congrFun (f26 2 (by decide)) 2))))
      have z178 : (σ98 55 5).toInt = (σ 55 5).toInt := (congrArg Int32.toInt (show σ98 55 5 = (σ 55 5) from ((f101 5 (by decide)).trans (congrFun (f26 55 (by decide)) 5))))
      have z179 : (σ98 2 3).toInt = (σ 2 3).toInt := (congrArg Int32.toInt (show σ98 2 3 = (σ 2 3) from ((congrFun (f100 2 (by decide)) 3).trans (congrFun (f26 2 (by decide)) 3))))
      have z180 : (σ98 55 4).toInt = (σ 55 4).toInt := (congrArg Int32.toInt (show σ98 55 4 = (σ 55 4) from ((f101 4 (by decide)).trans (congrFun (f26 55 (by decide)) 4))))
      exact ih x151 σ98 τ _ _ ls (by have h9 := tx151; omega) ⟨I152, I153, I154, I155, I156, I157, I158, I159, I160, I161, I162, I163, I164, I165, I166, I167, I102, I168, I169, I170, I171, I172, p173, p174, (by omega), (by omega), (by omega), (show jNumP (σ98 3) (σ98 56) (σ98 6) (σ98 57) (σ98 7) (σ98 58) (σ98 8) (σ98 59) (σ98 55 6).toInt (σ98 55 4).toInt by rw [show σ98 3 = σ 3 from ((f100 3 (by decide)).trans (f26 3 (by decide))), show σ98 56 = σ 56 from ((f100 56 (by decide)).trans (f26 56 (by decide))), show σ98 6 = σ 6 from ((f100 6 (by decide)).trans (f26 6 (by decide))), show σ98 57 = σ 57 from ((f100 57 (by decide)).trans (f26 57 (by decide))), show σ98 7 = σ 7 from ((f100 7 (by decide)).trans (f26 7 (by decide))), show σ98 58 = σ 58 from ((f100 58 (by decide)).trans (f26 58 (by decide))), show σ98 8 = σ 8 from ((f100 8 (by decide)).trans (f26 8 (by decide))), show σ98 59 = σ 59 from ((f100 59 (by decide)).trans (f26 59 (by decide))), show (σ98 55 6).toInt = (σ 55 6).toInt from by omega, show (σ98 55 4).toInt = (σ 55 4).toInt from by omega]; exact hr0)⟩ hP hS (lv_sub hl [0, 1, 2, 3] rfl)
  · obtain ⟨q186, k181, k182, k183, k184, k185⟩ := h31
    refine lv_pop hx hb dL_law_502 rfl ?_
    refine lv_aload_n hx hb dL_law_503 rfl (lv_at hl 1 rfl) ?_
    refine lv_aload_n hx hb dL_law_504 rfl (lv_at hl 3 rfl) ?_
    refine lv_iload_n hx hb dL_law_505 rfl (lv_at hl 0 rfl) ?_
    refine lv_iconst (v := 1) hx hb dL_law_506 (by decide) ?_
    refine lv_iadd hx hb dL_law_507 ?_
    refine jtopr ex18.symm ?_
    refine va_sld hx hb hX hbl hbA hS (jin tx18 (by omega) (by omega)) dL_law_508 ?_
    refine lv_aload_n hx hb dL_law_509 rfl (lv_at hl 3 rfl) ?_
    refine lv_iload_n hx hb dL_law_510 rfl (lv_at hl 0 rfl) ?_
    refine lv_iconst (v := 2) hx hb dL_law_511 (by decide) ?_
    refine lv_iadd hx hb dL_law_512 ?_
    refine jtopr ex20.symm ?_
    refine va_sld hx hb hX hbl hbA hS (jin tx20 (by omega) (by omega)) dL_law_513 ?_
    refine lv_aload_n hx hb dL_law_514 rfl (lv_at hl 3 rfl) ?_
    refine lv_iload_n hx hb dL_law_515 rfl (lv_at hl 0 rfl) ?_
    refine lv_iconst (v := 3) hx hb dL_law_516 (by decide) ?_
    refine lv_iadd hx hb dL_law_517 ?_
    refine jtopr ex22.symm ?_
    refine va_sld hx hb hX hbl hbA hS (jin tx22 (by omega) (by omega)) dL_law_518 ?_
    have I187 : jI106 σ24 := jI106_fr (congrFun (f26 55 (by decide)) 32) (f26 70 (by decide)) (f26 71 (by decide)) (f26 72 (by decide)) hI106
    have z188 : (σ24 55 32).toInt = (σ 55 32).toInt := (congrArg Int32.toInt (show σ24 55 32 = (σ 55 32) from (congrFun (f26 55 (by decide)) 32)))
    refine jcallV (As := [.int (xs x18.toNatClampNeg), .int (xs x20.toNatClampNeg), .int (xs x22.toNatClampNeg)]) (rest := []) ⟨hx, hb, hml, hown, hts⟩ hK hP hA hS hZ (c_X12_rule l D cI cL ad zz hJ σ24 τ (xs x18.toNatClampNeg) ((xs x18.toNatClampNeg).toInt) rfl (xs x20.toNatClampNeg) ((xs x20.toNatClampNeg).toInt) rfl (xs x22.toNatClampNeg) ((xs x22.toNatClampNeg).toInt) rfl I187) cw_RL_56 (jc_55 cI cL ad σ24 τ) rfl ⟨Nat.le_of_ble_eq_true rfl, Nat.le_of_ble_eq_true rfl⟩ rfl rfl rfl hl.1 rfl (Nat.le_of_ble_eq_true rfl) dL_law_519 ⟨Nat.le_of_ble_eq_true rfl, Nat.le_of_ble_eq_true rfl⟩ (fun r190 σ189 τ189 H locs h189 hP hS => ?_)
    obtain ⟨rfl, f191, f192, I193, h189⟩ := h189
    rcases h189 with h194 | h195 | h196
    · obtain ⟨q200, k197, k198, k199⟩ := h194
      have q200 := q200.symm
      subst q200
      exact absurd k184 k198
    · obtain ⟨q205, k201, k202, k203, k204⟩ := h195
      have q205 := q205.symm
      subst q205
      refine lv_pop hx hb dL_law_522 rfl ?_
      refine lv_goto (tgt := 1357) hx hb dL_law_523 (by decide) ?_
      obtain ⟨x206, ex206⟩ : ∃ y : Int32, y = x0 + 6 := ⟨_, rfl⟩
      have tx206 : x206.toInt = x0.toInt + 6 := (jadd ex206 rfl jz_6 (by omega) (by omega)).trans (by omega)
      refine lv_iinc (v := x206) (lv' := [(3, .int x206), (2, .ref (ad 55)), (1, .ref (ad 0)), (0, .ref b)]) hx hb dL_law_1357 hl (k := 0) rfl (by rw [ex206]; rfl) (by decide) rfl (fun ls hl => ?_)
      refine lv_goto (tgt := 18) hx hb dL_law_1360 (by decide) ?_
      have I207 : jI2 σ189 := jI2_fr ((congrFun (f191 2 (by decide)) 0).trans (congrFun (f26 2 (by decide)) 0)) ((congrFun (f191 2 (by decide)) 1).trans (congrFun (f26 2 (by decide)) 1)) ((congrFun (f191 2 (by decide)) 2).trans (congrFun (f26 2 (by decide)) 2)) ((congrFun (f191 2 (by decide)) 3).trans (congrFun (f26 2 (by decide)) 3)) ((f191 6 (by decide)).trans (f26 6 (by decide))) hI2
      have I208 : jI9 σ189 := jI9_fr ((congrFun (f191 9 (by decide)) 0).trans (congrFun (f26 9 (by decide)) 0)) ((f191 10 (by decide)).trans (f26 10 (by decide))) ((f191 11 (by decide)).trans (f26 11 (by decide))) hI9
      have I209 : jI12 σ189 := jI12_fr ((congrFun (f191 12 (by decide)) 0).trans (congrFun (f26 12 (by decide)) 0)) ((f191 13 (by decide)).trans (f26 13 (by decide))) hI12
      have I210 : jI16 σ189 := jI16_fr ((congrFun (f191 16 (by decide)) 0).trans (congrFun (f26 16 (by decide)) 0)) ((congrFun (f191 16 (by decide)) 1).trans (congrFun (f26 16 (by decide)) 1)) ((congrFun (f191 16 (by decide)) 2).trans (congrFun (f26 16 (by decide)) 2)) ((f191 17 (by decide)).trans (f26 17 (by decide))) hI16
      have I211 : jI18 σ189 := jI18_fr ((congrFun (f191 18 (by decide)) 0).trans (congrFun (f26 18 (by decide)) 0)) ((f191 19 (by decide)).trans (f26 19 (by decide))) hI18
      have I212 : jI22 σ189 := jI22_fr ((congrFun (f191 22 (by decide)) 0).trans (congrFun (f26 22 (by decide)) 0)) ((f191 23 (by decide)).trans (f26 23 (by decide))) hI22
      have I213 : jI31 σ189 := jI31_fr ((congrFun (f191 31 (by decide)) 8).trans (congrFun (f26 31 (by decide)) 8)) ((f191 33 (by decide)).trans (f26 33 (by decide))) ((f191 36 (by decide)).trans (f26 36 (by decide))) hI31
      have I214 : jI38 σ189 := jI38_fr (congrFun (f191 38 (by decide)) 0) (congrFun (f191 38 (by decide)) 1) (f191 39 (by decide)) I28
      have I215 : jI43 σ189 := jI43_fr ((congrFun (f191 43 (by decide)) 8).trans (congrFun (f26 43 (by decide)) 8)) hI43
      have I216 : jI47 σ189 := jI47_fr ((congrFun (f191 47 (by decide)) 0).trans (congrFun (f26 47 (by decide)) 0)) ((f191 49 (by decide)).trans (f26 49 (by decide))) hI47
      have I217 : jI50 σ189 := jI50_fr ((f191 52 (by decide)).trans (f26 52 (by decide))) hI50
      have I218 : jI101 σ189 := jI101_fr ((f192 4 (by decide)).trans (congrFun (f26 55 (by decide)) 4)) ((f192 5 (by decide)).trans (congrFun (f26 55 (by decide)) 5)) ((f191 56 (by decide)).trans (f26 56 (by decide))) ((f191 57 (by decide)).trans (f26 57 (by decide))) ((f191 58 (by decide)).trans (f26 58 (by decide))) ((f191 59 (by decide)).trans (f26 59 (by decide))) hI101
      have I219 : jI102 σ189 := jI102_fr ((f192 6 (by decide)).trans (congrFun (f26 55 (by decide)) 6)) ((f191 60 (by decide)).trans (f26 60 (by decide))) ((f191 61 (by decide)).trans (f26 61 (by decide))) hI102
      have I220 : jI103 σ189 := jI103_fr ((f192 9 (by decide)).trans (congrFun (f26 55 (by decide)) 9)) hI103
      have I221 : jI104 σ189 := jI104_fr ((f192 10 (by decide)).trans (congrFun (f26 55 (by decide)) 10)) ((f192 12 (by decide)).trans (congrFun (f26 55 (by decide)) 12)) ((f192 13 (by decide)).trans (congrFun (f26 55 (by decide)) 13)) ((f191 62 (by decide)).trans (f26 62 (by decide))) ((f191 67 (by decide)).trans (f26 67 (by decide))) hI104
      have I222 : jI105 σ189 := jI105_fr ((f192 15 (by decide)).trans (congrFun (f26 55 (by decide)) 15)) ((f191 65 (by decide)).trans (f26 65 (by decide))) hI105
      have I223 : jI107 σ189 := jI107_fr ((f192 12 (by decide)).trans (congrFun (f26 55 (by decide)) 12)) ((f192 47 (by decide)).trans (congrFun (f26 55 (by decide)) 47)) ((f191 80 (by decide)).trans (f26 80 (by decide))) hI107
      have I224 : jI109 σ189 := jI109_fr ((f192 50 (by decide)).trans (congrFun (f26 55 (by decide)) 50)) hI109
      have I225 : jI110 σ189 := jI110_fr ((f191 86 (by decide)).trans (f26 86 (by decide))) ((f191 87 (by decide)).trans (f26 87 (by decide))) hI110
      have I226 : jI111 σ189 := jI111_fr ((f191 79 (by decide)).trans (f26 79 (by decide))) hI111
      have I227 : jI119 σ189 := jI119_fr ((f191 68 (by decide)).trans (f26 68 (by decide))) hI119
      have p228 : jKept σ189 := jKept.fr ((f191 75 (by decide)).trans (f26 75 (by decide))) ((f191 76 (by decide)).trans (f26 76 (by decide))) ((f191 77 (by decide)).trans (f26 77 (by decide))) hs_jKept
      have p229 : jBook σ189 := jBook.fr ((f192 47 (by decide)).trans (congrFun (f26 55 (by decide)) 47)) ((f192 10 (by decide)).trans (congrFun (f26 55 (by decide)) 10)) ((f191 81 (by decide)).trans (f26 81 (by decide))) hs_jBook
      have z230 : (σ189 2 0).toInt = (σ 2 0).toInt := (congrArg Int32.toInt (show σ189 2 0 = (σ 2 0) from ((congrFun (f191 2 (by decide)) 0).trans (congrFun (f26 2 (by decide)) 0))))
      have z231 : (σ189 55 6).toInt = (σ 55 6).toInt := (congrArg Int32.toInt (show σ189 55 6 = (σ 55 6) from ((f192 6 (by decide)).trans (congrFun (f26 55 (by decide)) 6))))
      have z232 : (σ189 2 2).toInt = (σ 2 2).toInt := (congrArg Int32.toInt (show σ189 2 2 = (σ 2 2) from ((congrFun (f191 2 (by decide)) 2).trans (congrFun (f26 2 (by decide)) 2))))
      have z233 : (σ189 55 5).toInt = (σ 55 5).toInt := (congrArg Int32.toInt (show σ189 55 5 = (σ 55 5) from ((f192 5 (by decide)).trans (congrFun (f26 55 (by decide)) 5))))
      have z234 : (σ189 2 3).toInt = (σ 2 3).toInt := (congrArg Int32.toInt (show σ189 2 3 = (σ 2 3) from ((congrFun (f191 2 (by decide)) 3).trans (congrFun (f26 2 (by decide)) 3))))
      have z235 : (σ189 55 4).toInt = (σ 55 4).toInt := (congrArg Int32.toInt (show σ189 55 4 = (σ 55 4) from ((f192 4 (by decide)).trans (congrFun (f26 55 (by decide)) 4))))
      exact ih x206 σ189 τ _ _ ls (by have h9 := tx206; omega) ⟨I207, I208, I209, I210, I211, I212, I213, I214, I215, I216, I217, I218, I219, I220, I221, I222, I193, I223, I224, I225, I226, I227, p228, p229, (by omega), (by omega), (by omega), (show jNumP (σ189 3) (σ189 56) (σ189 6) (σ189 57) (σ189 7) (σ189 58) (σ189 8) (σ189 59) (σ189 55 6).toInt (σ189 55 4).toInt by rw [show σ189 3 = σ 3 from ((f191 3 (by decide)).trans (f26 3 (by decide))), show σ189 56 = σ 56 from ((f191 56 (by decide)).trans (f26 56 (by decide))), show σ189 6 = σ 6 from ((f191 6 (by decide)).trans (f26 6 (by decide))), show σ189 57 = σ 57 from ((f191 57 (by decide)).trans (f26 57 (by decide))), show σ189 7 = σ 7 from ((f191 7 (by decide)).trans (f26 7 (by decide))), show σ189 58 = σ 58 from ((f191 58 (by decide)).trans (f26 58 (by decide))), show σ189 8 = σ 8 from ((f191 8 (by decide)).trans (f26 8 (by decide))), show σ189 59 = σ 59 from ((f191 59 (by decide)).trans (f26 59 (by decide))), show (σ189 55 6).toInt = (σ 55 6).toInt from by omega, show (σ189 55 4).toInt = (σ 55 4).toInt from by omega]; exact hr0)⟩ hP hS (lv_sub hl [0, 1, 2, 3] rfl)
    · obtain ⟨q241, k236, k237, k238, k239, k240⟩ := h196
      refine lv_pop hx hb dL_law_522 rfl ?_
      refine lv_goto (tgt := 1357) hx hb dL_law_523 (by decide) ?_
      obtain ⟨x242, ex242⟩ : ∃ y : Int32, y = x0 + 6 := ⟨_, rfl⟩
      have tx242 : x242.toInt = x0.toInt + 6 := (jadd ex242 rfl jz_6 (by omega) (by omega)).trans (by omega)
      refine lv_iinc (v := x242) (lv' := [(3, .int x242), (2, .ref (ad 55)), (1, .ref (ad 0)), (0, .ref b)]) hx hb dL_law_1357 hl (k := 0) rfl (by rw [ex242]; rfl) (by decide) rfl (fun ls hl => ?_)
      refine lv_goto (tgt := 18) hx hb dL_law_1360 (by decide) ?_
      have I243 : jI2 σ189 := jI2_fr ((congrFun (f191 2 (by decide)) 0).trans (congrFun (f26 2 (by decide)) 0)) ((congrFun (f191 2 (by decide)) 1).trans (congrFun (f26 2 (by decide)) 1)) ((congrFun (f191 2 (by decide)) 2).trans (congrFun (f26 2 (by decide)) 2)) ((congrFun (f191 2 (by decide)) 3).trans (congrFun (f26 2 (by decide)) 3)) ((f191 6 (by decide)).trans (f26 6 (by decide))) hI2
      have I244 : jI9 σ189 := jI9_fr ((congrFun (f191 9 (by decide)) 0).trans (congrFun (f26 9 (by decide)) 0)) ((f191 10 (by decide)).trans (f26 10 (by decide))) ((f191 11 (by decide)).trans (f26 11 (by decide))) hI9
      have I245 : jI12 σ189 := jI12_fr ((congrFun (f191 12 (by decide)) 0).trans (congrFun (f26 12 (by decide)) 0)) ((f191 13 (by decide)).trans (f26 13 (by decide))) hI12
      have I246 : jI16 σ189 := jI16_fr ((congrFun (f191 16 (by decide)) 0).trans (congrFun (f26 16 (by decide)) 0)) ((congrFun (f191 16 (by decide)) 1).trans (congrFun (f26 16 (by decide)) 1)) ((congrFun (f191 16 (by decide)) 2).trans (congrFun (f26 16 (by decide)) 2)) ((f191 17 (by decide)).trans (f26 17 (by decide))) hI16
      have I247 : jI18 σ189 := jI18_fr ((congrFun (f191 18 (by decide)) 0).trans (congrFun (f26 18 (by decide)) 0)) ((f191 19 (by decide)).trans (f26 19 (by decide))) hI18
      have I248 : jI22 σ189 := jI22_fr ((congrFun (f191 22 (by decide)) 0).trans (congrFun (f26 22 (by decide)) 0)) ((f191 23 (by decide)).trans (f26 23 (by decide))) hI22
      have I249 : jI31 σ189 := jI31_fr ((congrFun (f191 31 (by decide)) 8).trans (congrFun (f26 31 (by decide)) 8)) ((f191 33 (by decide)).trans (f26 33 (by decide))) ((f191 36 (by decide)).trans (f26 36 (by decide))) hI31
      have I250 : jI38 σ189 := jI38_fr (congrFun (f191 38 (by decide)) 0) (congrFun (f191 38 (by decide)) 1) (f191 39 (by decide)) I28
      have I251 : jI43 σ189 := jI43_fr ((congrFun (f191 43 (by decide)) 8).trans (congrFun (f26 43 (by decide)) 8)) hI43
      have I252 : jI47 σ189 := jI47_fr ((congrFun (f191 47 (by decide)) 0).trans (congrFun (f26 47 (by decide)) 0)) ((f191 49 (by decide)).trans (f26 49 (by decide))) hI47
      have I253 : jI50 σ189 := jI50_fr ((f191 52 (by decide)).trans (f26 52 (by decide))) hI50
      have I254 : jI101 σ189 := jI101_fr ((f192 4 (by decide)).trans (congrFun (f26 55 (by decide)) 4)) ((f192 5 (by decide)).trans (congrFun (f26 55 (by decide)) 5)) ((f191 56 (by decide)).trans (f26 56 (by decide))) ((f191 57 (by decide)).trans (f26 57 (by decide))) ((f191 58 (by decide)).trans (f26 58 (by decide))) ((f191 59 (by decide)).trans (f26 59 (by decide))) hI101
      have I255 : jI102 σ189 := jI102_fr ((f192 6 (by decide)).trans (congrFun (f26 55 (by decide)) 6)) ((f191 60 (by decide)).trans (f26 60 (by decide))) ((f191 61 (by decide)).trans (f26 61 (by decide))) hI102
      have I256 : jI103 σ189 := jI103_fr ((f192 9 (by decide)).trans (congrFun (f26 55 (by decide)) 9)) hI103
      have I257 : jI104 σ189 := jI104_fr ((f192 10 (by decide)).trans (congrFun (f26 55 (by decide)) 10)) ((f192 12 (by decide)).trans (congrFun (f26 55 (by decide)) 12)) ((f192 13 (by decide)).trans (congrFun (f26 55 (by decide)) 13)) ((f191 62 (by decide)).trans (f26 62 (by decide))) ((f191 67 (by decide)).trans (f26 67 (by decide))) hI104
      have I258 : jI105 σ189 := jI105_fr ((f192 15 (by decide)).trans (congrFun (f26 55 (by decide)) 15)) ((f191 65 (by decide)).trans (f26 65 (by decide))) hI105
      have I259 : jI107 σ189 := jI107_fr ((f192 12 (by decide)).trans (congrFun (f26 55 (by decide)) 12)) ((f192 47 (by decide)).trans (congrFun (f26 55 (by decide)) 47)) ((f191 80 (by decide)).trans (f26 80 (by decide))) hI107
      have I260 : jI109 σ189 := jI109_fr ((f192 50 (by decide)).trans (congrFun (f26 55 (by decide)) 50)) hI109
      have I261 : jI110 σ189 := jI110_fr ((f191 86 (by decide)).trans (f26 86 (by decide))) ((f191 87 (by decide)).trans (f26 87 (by decide))) hI110
      have I262 : jI111 σ189 := jI111_fr ((f191 79 (by decide)).trans (f26 79 (by decide))) hI111
      have I263 : jI119 σ189 := jI119_fr ((f191 68 (by decide)).trans (f26 68 (by decide))) hI119
      have p264 : jKept σ189 := jKept.fr ((f191 75 (by decide)).trans (f26 75 (by decide))) ((f191 76 (by decide)).trans (f26 76 (by decide))) ((f191 77 (by decide)).trans (f26 77 (by decide))) hs_jKept
      have p265 : jBook σ189 := jBook.fr ((f192 47 (by decide)).trans (congrFun (f26 55 (by decide)) 47)) ((f192 10 (by decide)).trans (congrFun (f26 55 (by decide)) 10)) ((f191 81 (by decide)).trans (f26 81 (by decide))) hs_jBook
      have z266 : (σ189 2 0).toInt = (σ 2 0).toInt := (congrArg Int32.toInt (show σ189 2 0 = (σ 2 0) from ((congrFun (f191 2 (by decide)) 0).trans (congrFun (f26 2 (by decide)) 0))))
      have z267 : (σ189 55 6).toInt = (σ 55 6).toInt := (congrArg Int32.toInt (show σ189 55 6 = (σ 55 6) from ((f192 6 (by decide)).trans (congrFun (f26 55 (by decide)) 6))))
      have z268 : (σ189 2 2).toInt = (σ 2 2).toInt := (congrArg Int32.toInt (show σ189 2 2 = (σ 2 2) from ((congrFun (f191 2 (by decide)) 2).trans (congrFun (f26 2 (by decide)) 2))))
      have z269 : (σ189 55 5).toInt = (σ 55 5).toInt := (congrArg Int32.toInt (show σ189 55 5 = (σ 55 5) from ((f192 5 (by decide)).trans (congrFun (f26 55 (by decide)) 5))))
      have z270 : (σ189 2 3).toInt = (σ 2 3).toInt := (congrArg Int32.toInt (show σ189 2 3 = (σ 2 3) from ((congrFun (f191 2 (by decide)) 3).trans (congrFun (f26 2 (by decide)) 3))))
      have z271 : (σ189 55 4).toInt = (σ 55 4).toInt := (congrArg Int32.toInt (show σ189 55 4 = (σ 55 4) from ((f192 4 (by decide)).trans (congrFun (f26 55 (by decide)) 4))))
      exact ih x242 σ189 τ _ _ ls (by have h9 := tx242; omega) ⟨I243, I244, I245, I246, I247, I248, I249, I250, I251, I252, I253, I254, I255, I256, I257, I258, I193, I259, I260, I261, I262, I263, p264, p265, (by omega), (by omega), (by omega), (show jNumP (σ189 3) (σ189 56) (σ189 6) (σ189 57) (σ189 7) (σ189 58) (σ189 8) (σ189 59) (σ189 55 6).toInt (σ189 55 4).toInt by rw [show σ189 3 = σ 3 from ((f191 3 (by decide)).trans (f26 3 (by decide))), show σ189 56 = σ 56 from ((f191 56 (by decide)).trans (f26 56 (by decide))), show σ189 6 = σ 6 from ((f191 6 (by decide)).trans (f26 6 (by decide))), show σ189 57 = σ 57 from ((f191 57 (by decide)).trans (f26 57 (by decide))), show σ189 7 = σ 7 from ((f191 7 (by decide)).trans (f26 7 (by decide))), show σ189 58 = σ 58 from ((f191 58 (by decide)).trans (f26 58 (by decide))), show σ189 8 = σ 8 from ((f191 8 (by decide)).trans (f26 8 (by decide))), show σ189 59 = σ 59 from ((f191 59 (by decide)).trans (f26 59 (by decide))), show (σ189 55 6).toInt = (σ 55 6).toInt from by omega, show (σ189 55 4).toInt = (σ 55 4).toInt from by omega]; exact hr0)⟩ hP hS (lv_sub hl [0, 1, 2, 3] rfl)
set_option maxHeartbeats 4000000 in
set_option maxRecDepth 100000 in
theorem law_case_10 {p : Program} {e : Env} {s : State} {m : MethodId} {below : List Frame} {meth : Method} {c : Code} (l : Launch) {b L : Nat} {xs : Nat → Int32} {D : va_G} {cI cL : ClassId} {ad zz : Nat → Nat} (C0 : lw_At p s m meth c b L xs) (hJ : jD ad) (hA : ∀ q, jA ad q → s.heap.size ≤ q) (hK : jK D cI cL s) (hZ : jZ zz (fun q : Nat => s.heap.size ≤ q) s s.heap) {x0 : Int32} (hx0 : 0 ≤ x0.toInt) (hxL : x0.toInt + 6 ≤ (L : Int)) (hL : L ≤ 384) {σ : Nat → Nat → Int32} {τ : Nat → Nat → Int64} {H : Heap} {locs : List Loc} (hS : va_S (fun q : Nat => s.heap.size ≤ q) s.heap H locs) {ls : Array Slot} (hAll : jAll σ τ) (hP : jH D cI cL ad σ τ H) (hl : lv_has ls 4 [(3, .int x0), (2, .ref (ad 55)), (1, .ref (ad 0)), (0, .ref b)]) (ih : ∀ (x1 : Int32) (σ : Nat → Nat → Int32) (τ : Nat → Nat → Int64) (H : Heap) (locs : List Loc) (ls : Array Slot), x1.toInt = x0.toInt + 6 → jAll σ τ → jH D cI cL ad σ τ H → va_S (fun q : Nat => s.heap.size ≤ q) s.heap H locs → lv_has ls 4 [(3, .int x1), (2, .ref (ad 55)), (1, .ref (ad 0)), (0, .ref b)] → W p l e room_1 s m #[Value.ref b] below meth c H locs 90 348600 (lw_Z below #[Value.ref b] s) (F0 m 18 ls [])) : W p l e room_1 s m #[Value.ref b] below meth c H locs 90 348600 (lw_Z below #[Value.ref b] s) (F0 m 526 ls []) := by
  obtain ⟨hx, hb, hr, hml, hown, hts0, hX, hbl, hlocks, hgv⟩ := C0
  have hts : ∀ w ∈ wsL_law, w.before #[Value.ref b] s = true := fun w h => hts0 w (wsL_law_in w h)
  have hbA : ¬ (fun q : Nat => s.heap.size ≤ q) b := Nat.not_le.mpr hbl
  have hown : s.vm.findClass RL = some m.cls := hown
  obtain ⟨hI2, hI9, hI12, hI16, hI18, hI22, hI31, hI38, hI43, hI47, hI50, hI101, hI102, hI103, hI104, hI105, hI106, hI107, hI109, hI110, hI111, hI119, hs_jKept, hs_jBook, ht0, ht1, ht2, hr0⟩ := hAll
  have hL9 : (L : Int) ≤ 384 := by omega
  obtain ⟨i1, i2, i3, i4, i5, w6⟩ : (0 ≤ (σ 2 0).toInt ∧ (σ 2 0).toInt ≤ 4) ∧ (0 ≤ (σ 2 1).toInt ∧ (σ 2 1).toInt ≤ 3) ∧ (0 ≤ (σ 2 2).toInt) ∧ (0 ≤ (σ 2 3).toInt) ∧ ((σ 2 2).toInt + (σ 2 3).toInt ≤ 40) ∧ (∀ k : Nat, k < 40 → 0 ≤ (σ 6 k).toInt ∧ (σ 6 k).toInt ≤ 67) := id hI2
  obtain ⟨i7, i8, i9, w10, w11, w12, w13⟩ : (0 ≤ (σ 55 5).toInt) ∧ ((σ 55 5).toInt ≤ (σ 55 4).toInt) ∧ ((σ 55 4).toInt ≤ 40) ∧ (∀ k : Nat, k < 68 → (-200) ≤ (σ 56 k).toInt ∧ (σ 56 k).toInt ≤ 500) ∧ (∀ k : Nat, k < 40 → 0 ≤ (σ 57 k).toInt ∧ (σ 57 k).toInt ≤ 67) ∧ (∀ k : Nat, k < 40 → (-200) ≤ (σ 58 k).toInt ∧ (σ 58 k).toInt ≤ 500) ∧ (∀ k : Nat, k < 40 → (-200) ≤ (σ 59 k).toInt ∧ (σ 59 k).toInt ≤ 500) := id hI101
  obtain ⟨i14, w15, w16⟩ : (0 ≤ (σ 55 6).toInt ∧ (σ 55 6).toInt ≤ 4) ∧ (∀ k : Nat, k < 4 → 0 ≤ (σ 60 k).toInt ∧ (σ 60 k).toInt ≤ 50) ∧ (∀ k : Nat, k < 4 → 0 ≤ (σ 61 k).toInt ∧ (σ 61 k).toInt ≤ 20) := id hI102
  refine lv_aload_n hx hb dL_law_526 rfl (lv_at hl 2 rfl) ?_
  refine lv_aload_n hx hb dL_law_527 rfl (lv_at hl 3 rfl) ?_
  refine lv_iload_n hx hb dL_law_528 rfl (lv_at hl 0 rfl) ?_
  refine lv_iconst (v := 1) hx hb dL_law_529 (by decide) ?_
  have g17 := jrg (rfl : x0.toInt = x0.toInt)
  refine lv_iadd hx hb dL_law_530 ?_
  refine lv_topi (fun x18 ex18 => ?_)
  have tx18 : x18.toInt = x0.toInt + 1 := (jadd ex18 rfl jz_1 (by omega) (by omega)).trans (by omega)
  refine va_sld hx hb hX hbl hbA hS (jin tx18 (by omega) (by omega)) dL_law_531 ?_
  have g19 := jrg (rfl : (xs x18.toNatClampNeg).toInt = (xs x18.toNatClampNeg).toInt)
  refine jcallV (As := [.int (xs x18.toNatClampNeg)]) (rest := []) ⟨hx, hb, hml, hown, hts⟩ hK hP hA hS hZ (c_X11_puts l D cI cL ad zz hJ σ τ (xs x18.toNatClampNeg) ((xs x18.toNatClampNeg).toInt) rfl hI2 hI16 hI18 hI22 hI31 hI38 hI47) cw_RL_57 (jc_0 cI cL ad σ τ) rfl ⟨Nat.le_of_ble_eq_true rfl, Nat.le_of_ble_eq_true rfl⟩ rfl rfl rfl hl.1 rfl (Nat.le_of_ble_eq_true rfl) dL_law_532 ⟨Nat.le_of_ble_eq_true rfl, Nat.le_of_ble_eq_true rfl⟩ (fun r21 σ20 τ20 H locs h20 hP hS => ?_)
  obtain ⟨rfl, f22, f23, I24, h20⟩ := h20
  refine lv_pop hx hb dL_law_535 rfl ?_
  refine lv_aload_n hx hb dL_law_536 rfl (lv_at hl 1 rfl) ?_
  refine lv_aload_n hx hb dL_law_537 rfl (lv_at hl 3 rfl) ?_
  refine lv_iload_n hx hb dL_law_538 rfl (lv_at hl 0 rfl) ?_
  refine lv_iconst (v := 1) hx hb dL_law_539 (by decide) ?_
  refine lv_iadd hx hb dL_law_540 ?_
  refine jtopr ex18.symm ?_
  refine va_sld hx hb hX hbl hbA hS (jin tx18 (by omega) (by omega)) dL_law_541 ?_
  have I25 : jI101 σ20 := jI101_fr (congrFun (f22 55 (by decide)) 4) (congrFun (f22 55 (by decide)) 5) (f22 56 (by decide)) (f22 57 (by decide)) (f22 58 (by decide)) (f22 59 (by decide)) hI101
  have I26 : jI102 σ20 := jI102_fr (congrFun (f22 55 (by decide)) 6) (f22 60 (by decide)) (f22 61 (by decide)) hI102
  have I27 : jI103 σ20 := jI103_fr (congrFun (f22 55 (by decide)) 9) hI103
  have I28 : jI104 σ20 := jI104_fr (congrFun (f22 55 (by decide)) 10) (congrFun (f22 55 (by decide)) 12) (congrFun (f22 55 (by decide)) 13) (f22 62 (by decide)) (f22 67 (by decide)) hI104
  have I29 : jI105 σ20 := jI105_fr (congrFun (f22 55 (by decide)) 15) (f22 65 (by decide)) hI105
  have I30 : jI106 σ20 := jI106_fr (congrFun (f22 55 (by decide)) 32) (f22 70 (by decide)) (f22 71 (by decide)) (f22 72 (by decide)) hI106
  have I31 : jI107 σ20 := jI107_fr (congrFun (f22 55 (by decide)) 12) (congrFun (f22 55 (by decide)) 47) (f22 80 (by decide)) hI107
  have I32 : jI119 σ20 := jI119_fr (f22 68 (by decide)) hI119
  have p33 : jKept σ20 := jKept.fr (f22 75 (by decide)) (f22 76 (by decide)) (f22 77 (by decide)) hs_jKept
  have p34 : jBook σ20 := jBook.fr (congrFun (f22 55 (by decide)) 47) (congrFun (f22 55 (by decide)) 10) (f22 81 (by decide)) hs_jBook
  refine jcallV (As := [.int (xs x18.toNatClampNeg)]) (rest := []) ⟨hx, hb, hml, hown, hts⟩ hK hP hA hS hZ (c_X12_puts l D cI cL ad zz hJ σ20 τ (xs x18.toNatClampNeg) ((xs x18.toNatClampNeg).toInt) rfl I25 I26 I27 I28 I29 I30 I31 I32 p33 p34) cw_RL_60 (jc_55 cI cL ad σ20 τ) rfl ⟨Nat.le_of_ble_eq_true rfl, Nat.le_of_ble_eq_true rfl⟩ rfl rfl rfl hl.1 rfl (Nat.le_of_ble_eq_true rfl) dL_law_542 ⟨Nat.le_of_ble_eq_true rfl, Nat.le_of_ble_eq_true rfl⟩ (fun r36 σ35 τ35 H locs h35 hP hS => ?_)
  obtain ⟨rfl, f37, f38, I39, p40, p41, h35⟩ := h35
  refine lv_pop hx hb dL_law_545 rfl ?_
  refine lv_goto (tgt := 1357) hx hb dL_law_546 (by decide) ?_
  obtain ⟨x42, ex42⟩ : ∃ y : Int32, y = x0 + 6 := ⟨_, rfl⟩
  have tx42 : x42.toInt = x0.toInt + 6 := (jadd ex42 rfl jz_6 (by omega) (by omega)).trans (by omega)
  refine lv_iinc (v := x42) (lv' := [(3, .int x42), (2, .ref (ad 55)), (1, .ref (ad 0)), (0, .ref b)]) hx hb dL_law_1357 hl (k := 0) rfl (by rw [ex42]; rfl) (by decide) rfl (fun ls hl => ?_)
  refine lv_goto (tgt := 18) hx hb dL_law_1360 (by decide) ?_
  have I43 : jI2 σ35 := jI2_fr ((congrFun (f37 2 (by decide)) 0).trans (congrFun (f22 2 (by decide)) 0)) ((congrFun (f37 2 (by decide)) 1).trans (congrFun (f22 2 (by decide)) 1)) ((congrFun (f37 2 (by decide)) 2).trans (congrFun (f22 2 (by decide)) 2)) ((congrFun (f37 2 (by decide)) 3).trans (congrFun (f22 2 (by decide)) 3)) ((f37 6 (by decide)).trans (f22 6 (by decide))) hI2
  have I44 : jI9 σ35 := jI9_fr ((congrFun (f37 9 (by decide)) 0).trans (congrFun (f22 9 (by decide)) 0)) ((f37 10 (by decide)).trans (f22 10 (by decide))) ((f37 11 (by decide)).trans (f22 11 (by decide))) hI9
  have I45 : jI12 σ35 := jI12_fr ((congrFun (f37 12 (by decide)) 0).trans (congrFun (f22 12 (by decide)) 0)) ((f37 13 (by decide)).trans (f22 13 (by decide))) hI12
  have I46 : jI16 σ35 := jI16_fr ((congrFun (f37 16 (by decide)) 0).trans (congrFun (f22 16 (by decide)) 0)) ((congrFun (f37 16 (by decide)) 1).trans (congrFun (f22 16 (by decide)) 1)) ((congrFun (f37 16 (by decide)) 2).trans (congrFun (f22 16 (by decide)) 2)) ((f37 17 (by decide)).trans (f22 17 (by decide))) hI16
  have I47 : jI18 σ35 := jI18_fr ((congrFun (f37 18 (by decide)) 0).trans (congrFun (f22 18 (by decide)) 0)) ((f37 19 (by decide)).trans (f22 19 (by decide))) hI18
  have I48 : jI22 σ35 := jI22_fr ((congrFun (f37 22 (by decide)) 0).trans (congrFun (f22 22 (by decide)) 0)) ((f37 23 (by decide)).trans (f22 23 (by decide))) hI22
  have I49 : jI31 σ35 := jI31_fr (congrFun (f37 31 (by decide)) 8) (f37 33 (by decide)) (f37 36 (by decide)) I24
  have I50 : jI38 σ35 := jI38_fr ((congrFun (f37 38 (by decide)) 0).trans (congrFun (f22 38 (by decide)) 0)) ((congrFun (f37 38 (by decide)) 1).trans (congrFun (f22 38 (by decide)) 1)) ((f37 39 (by decide)).trans (f22 39 (by decide))) hI38
  have I51 : jI43 σ35 := jI43_fr ((congrFun (f37 43 (by decide)) 8).trans (congrFun (f22 43 (by decide)) 8)) hI43
  have I52 : jI47 σ35 := jI47_fr ((congrFun (f37 47 (by decide)) 0).trans (congrFun (f22 47 (by decide)) 0)) ((f37 49 (by decide)).trans (f22 49 (by decide))) hI47
  have I53 : jI50 σ35 := jI50_fr ((f37 52 (by decide)).trans (f22 52 (by decide))) hI50
  have I54 : jI101 σ35 := jI101_fr (f38 4 (by decide)) (f38 5 (by decide)) (f37 56 (by decide)) (f37 57 (by decide)) (f37 58 (by decide)) (f37 59 (by decide)) I25
  have I55 : jI102 σ35 := jI102_fr (f38 6 (by decide)) (f37 60 (by decide)) (f37 61 (by decide)) I26
  have I56 : jI103 σ35 := jI103_fr (f38 9 (by decide)) I27
  have I57 : jI104 σ35 := jI104_fr (f38 10 (by decide)) (f38 12 (by decide)) (f38 13 (by decide)) (f37 62 (by decide)) (f37 67 (by decide)) I28
  have I58 : jI105 σ35 := jI105_fr (f38 15 (by decide)) (f37 65 (by decide)) I29
  have I59 : jI106 σ35 := jI106_fr (f38 32 (by decide)) (f37 70 (by decide)) (f37 71 (by decide)) (f37 72 (by decide)) I30
  have I60 : jI107 σ35 := jI107_fr (f38 12 (by decide)) (f38 47 (by decide)) (f37 80 (by decide)) I31
  have I61 : jI109 σ35 := jI109_fr ((f38 50 (by decide)).trans (congrFun (f22 55 (by decide)) 50)) hI109
  have I62 : jI110 σ35 := jI110_fr ((f37 86 (by decide)).trans (f22 86 (by decide))) ((f37 87 (by decide)).trans (f22 87 (by decide))) hI110
  have I63 : jI111 σ35 := jI111_fr ((f37 79 (by decide)).trans (f22 79 (by decide))) hI111
  have z64 : (σ35 2 0).toInt = (σ 2 0).toInt := (congrArg Int32.toInt (show σ35 2 0 = (σ 2 0) from ((congrFun (f37 2 (by decide)) 0).trans (congrFun (f22 2 (by decide)) 0))))
  have z65 : (σ35 55 6).toInt = (σ 55 6).toInt := (congrArg Int32.toInt (show σ35 55 6 = (σ 55 6) from ((f38 6 (by decide)).trans (congrFun (f22 55 (by decide)) 6))))
  have z66 : (σ35 2 2).toInt = (σ 2 2).toInt := (congrArg Int32.toInt (show σ35 2 2 = (σ 2 2) from ((congrFun (f37 2 (by decide)) 2).trans (congrFun (f22 2 (by decide)) 2))))
  have z67 : (σ35 55 5).toInt = (σ 55 5).toInt := (congrArg Int32.toInt (show σ35 55 5 = (σ 55 5) from ((f38 5 (by decide)).trans (congrFun (f22 55 (by decide)) 5))))
  have z68 : (σ35 2 3).toInt = (σ 2 3).toInt := (congrArg Int32.toInt (show σ35 2 3 = (σ 2 3) from ((congrFun (f37 2 (by decide)) 3).trans (congrFun (f22 2 (by decide)) 3))))
  have z69 : (σ35 55 4).toInt = (σ 55 4).toInt := (congrArg Int32.toInt (show σ35 55 4 = (σ 55 4) from ((f38 4 (by decide)).trans (congrFun (f22 55 (by decide)) 4))))
  exact ih x42 σ35 τ _ _ ls (by have h9 := tx42; omega) ⟨I43, I44, I45, I46, I47, I48, I49, I50, I51, I52, I53, I54, I55, I56, I57, I58, I59, I60, I61, I62, I63, I39, p40, p41, (by omega), (by omega), (by omega), (show jNumP (σ35 3) (σ35 56) (σ35 6) (σ35 57) (σ35 7) (σ35 58) (σ35 8) (σ35 59) (σ35 55 6).toInt (σ35 55 4).toInt by rw [show σ35 3 = σ 3 from ((f37 3 (by decide)).trans (f22 3 (by decide))), show σ35 56 = σ 56 from ((f37 56 (by decide)).trans (f22 56 (by decide))), show σ35 6 = σ 6 from ((f37 6 (by decide)).trans (f22 6 (by decide))), show σ35 57 = σ 57 from ((f37 57 (by decide)).trans (f22 57 (by decide))), show σ35 7 = σ 7 from ((f37 7 (by decide)).trans (f22 7 (by decide))), show σ35 58 = σ 58 from ((f37 58 (by decide)).trans (f22 58 (by decide))), show σ35 8 = σ 8 from ((f37 8 (by decide)).trans (f22 8 (by decide))), show σ35 59 = σ 59 from ((f37 59 (by decide)).trans (f22 59 (by decide))), show (σ35 55 6).toInt = (σ 55 6).toInt from by omega, show (σ35 55 4).toInt = (σ 55 4).toInt from by omega]; exact hr0)⟩ hP hS (lv_sub hl [0, 1, 2, 3] rfl)
set_option maxHeartbeats 4000000 in
set_option maxRecDepth 100000 in
theorem law_case_11 {p : Program} {e : Env} {s : State} {m : MethodId} {below : List Frame} {meth : Method} {c : Code} (l : Launch) {b L : Nat} {xs : Nat → Int32} {D : va_G} {cI cL : ClassId} {ad zz : Nat → Nat} (C0 : lw_At p s m meth c b L xs) (hJ : jD ad) (hA : ∀ q, jA ad q → s.heap.size ≤ q) (hK : jK D cI cL s) (hZ : jZ zz (fun q : Nat => s.heap.size ≤ q) s s.heap) {x0 : Int32} (hx0 : 0 ≤ x0.toInt) (hxL : x0.toInt + 6 ≤ (L : Int)) (hL : L ≤ 384) {σ : Nat → Nat → Int32} {τ : Nat → Nat → Int64} {H : Heap} {locs : List Loc} (hS : va_S (fun q : Nat => s.heap.size ≤ q) s.heap H locs) {ls : Array Slot} (hAll : jAll σ τ) (hP : jH D cI cL ad σ τ H) (hl : lv_has ls 4 [(3, .int x0), (2, .ref (ad 55)), (1, .ref (ad 0)), (0, .ref b)]) (ih : ∀ (x1 : Int32) (σ : Nat → Nat → Int32) (τ : Nat → Nat → Int64) (H : Heap) (locs : List Loc) (ls : Array Slot), x1.toInt = x0.toInt + 6 → jAll σ τ → jH D cI cL ad σ τ H → va_S (fun q : Nat => s.heap.size ≤ q) s.heap H locs → lv_has ls 4 [(3, .int x1), (2, .ref (ad 55)), (1, .ref (ad 0)), (0, .ref b)] → W p l e room_1 s m #[Value.ref b] below meth c H locs 90 348600 (lw_Z below #[Value.ref b] s) (F0 m 18 ls [])) : W p l e room_1 s m #[Value.ref b] below meth c H locs 90 348600 (lw_Z below #[Value.ref b] s) (F0 m 549 ls []) := by
  obtain ⟨hx, hb, hr, hml, hown, hts0, hX, hbl, hlocks, hgv⟩ := C0
  have hts : ∀ w ∈ wsL_law, w.before #[Value.ref b] s = true := fun w h => hts0 w (wsL_law_in w h)
  have hbA : ¬ (fun q : Nat => s.heap.size ≤ q) b := Nat.not_le.mpr hbl
  have hown : s.vm.findClass RL = some m.cls := hown
  obtain ⟨hI2, hI9, hI12, hI16, hI18, hI22, hI31, hI38, hI43, hI47, hI50, hI101, hI102, hI103, hI104, hI105, hI106, hI107, hI109, hI110, hI111, hI119, hs_jKept, hs_jBook, ht0, ht1, ht2, hr0⟩ := hAll
  have hL9 : (L : Int) ≤ 384 := by omega
  obtain ⟨i1, i2, i3, i4, i5, w6⟩ : (0 ≤ (σ 2 0).toInt ∧ (σ 2 0).toInt ≤ 4) ∧ (0 ≤ (σ 2 1).toInt ∧ (σ 2 1).toInt ≤ 3) ∧ (0 ≤ (σ 2 2).toInt) ∧ (0 ≤ (σ 2 3).toInt) ∧ ((σ 2 2).toInt + (σ 2 3).toInt ≤ 40) ∧ (∀ k : Nat, k < 40 → 0 ≤ (σ 6 k).toInt ∧ (σ 6 k).toInt ≤ 67) := id hI2
  obtain ⟨i7, i8, i9, w10, w11, w12, w13⟩ : (0 ≤ (σ 55 5).toInt) ∧ ((σ 55 5).toInt ≤ (σ 55 4).toInt) ∧ ((σ 55 4).toInt ≤ 40) ∧ (∀ k : Nat, k < 68 → (-200) ≤ (σ 56 k).toInt ∧ (σ 56 k).toInt ≤ 500) ∧ (∀ k : Nat, k < 40 → 0 ≤ (σ 57 k).toInt ∧ (σ 57 k).toInt ≤ 67) ∧ (∀ k : Nat, k < 40 → (-200) ≤ (σ 58 k).toInt ∧ (σ 58 k).toInt ≤ 500) ∧ (∀ k : Nat, k < 40 → (-200) ≤ (σ 59 k).toInt ∧ (σ 59 k).toInt ≤ 500) := id hI101
  obtain ⟨i14, w15, w16⟩ : (0 ≤ (σ 55 6).toInt ∧ (σ 55 6).toInt ≤ 4) ∧ (∀ k : Nat, k < 4 → 0 ≤ (σ 60 k).toInt ∧ (σ 60 k).toInt ≤ 50) ∧ (∀ k : Nat, k < 4 → 0 ≤ (σ 61 k).toInt ∧ (σ 61 k).toInt ≤ 20) := id hI102
  refine lv_aload_n hx hb dL_law_549 rfl (lv_at hl 2 rfl) ?_
  refine lv_aload_n hx hb dL_law_550 rfl (lv_at hl 3 rfl) ?_
  refine lv_iload_n hx hb dL_law_551 rfl (lv_at hl 0 rfl) ?_
  refine lv_iconst (v := 1) hx hb dL_law_552 (by decide) ?_
  have g17 := jrg (rfl : x0.toInt = x0.toInt)
  refine lv_iadd hx hb dL_law_553 ?_
  refine lv_topi (fun x18 ex18 => ?_)
  have tx18 : x18.toInt = x0.toInt + 1 := (jadd ex18 rfl jz_1 (by omega) (by omega)).trans (by omega)
  refine va_sld hx hb hX hbl hbA hS (jin tx18 (by omega) (by omega)) dL_law_554 ?_
  have g19 := jrg (rfl : (xs x18.toNatClampNeg).toInt = (xs x18.toNatClampNeg).toInt)
  refine jcallV (As := [.int (xs x18.toNatClampNeg)]) (rest := []) ⟨hx, hb, hml, hown, hts⟩ hK hP hA hS hZ (c_X11_mean l D cI cL ad zz hJ σ τ (xs x18.toNatClampNeg) ((xs x18.toNatClampNeg).toInt) rfl hI2 hI16 hI18 hI22 hI31 hI38) cw_RL_61 (jc_0 cI cL ad σ τ) rfl ⟨Nat.le_of_ble_eq_true rfl, Nat.le_of_ble_eq_true rfl⟩ rfl rfl rfl hl.1 rfl (Nat.le_of_ble_eq_true rfl) dL_law_555 ⟨Nat.le_of_ble_eq_true rfl, Nat.le_of_ble_eq_true rfl⟩ (fun r21 σ20 τ20 H locs h20 hP hS => ?_)
  obtain ⟨rfl, f22, f23, I24, h20⟩ := h20
  refine lv_pop hx hb dL_law_558 rfl ?_
  refine lv_aload_n hx hb dL_law_559 rfl (lv_at hl 1 rfl) ?_
  refine lv_aload_n hx hb dL_law_560 rfl (lv_at hl 3 rfl) ?_
  refine lv_iload_n hx hb dL_law_561 rfl (lv_at hl 0 rfl) ?_
  refine lv_iconst (v := 1) hx hb dL_law_562 (by decide) ?_
  refine lv_iadd hx hb dL_law_563 ?_
  refine jtopr ex18.symm ?_
  refine va_sld hx hb hX hbl hbA hS (jin tx18 (by omega) (by omega)) dL_law_564 ?_
  have I25 : jI101 σ20 := jI101_fr (congrFun (f22 55 (by decide)) 4) (congrFun (f22 55 (by decide)) 5) (f22 56 (by decide)) (f22 57 (by decide)) (f22 58 (by decide)) (f22 59 (by decide)) hI101
  have I26 : jI102 σ20 := jI102_fr (congrFun (f22 55 (by decide)) 6) (f22 60 (by decide)) (f22 61 (by decide)) hI102
  have I27 : jI103 σ20 := jI103_fr (congrFun (f22 55 (by decide)) 9) hI103
  have I28 : jI104 σ20 := jI104_fr (congrFun (f22 55 (by decide)) 10) (congrFun (f22 55 (by decide)) 12) (congrFun (f22 55 (by decide)) 13) (f22 62 (by decide)) (f22 67 (by decide)) hI104
  have I29 : jI105 σ20 := jI105_fr (congrFun (f22 55 (by decide)) 15) (f22 65 (by decide)) hI105
  have I30 : jI106 σ20 := jI106_fr (congrFun (f22 55 (by decide)) 32) (f22 70 (by decide)) (f22 71 (by decide)) (f22 72 (by decide)) hI106
  have I31 : jI119 σ20 := jI119_fr (f22 68 (by decide)) hI119
  have p32 : jKept σ20 := jKept.fr (f22 75 (by decide)) (f22 76 (by decide)) (f22 77 (by decide)) hs_jKept
  refine jcallV (As := [.int (xs x18.toNatClampNeg)]) (rest := []) ⟨hx, hb, hml, hown, hts⟩ hK hP hA hS hZ (c_X12_mean l D cI cL ad zz hJ σ20 τ (xs x18.toNatClampNeg) ((xs x18.toNatClampNeg).toInt) rfl I25 I26 I27 I28 I29 I30 I31 p32) cw_RL_64 (jc_55 cI cL ad σ20 τ) rfl ⟨Nat.le_of_ble_eq_true rfl, Nat.le_of_ble_eq_true rfl⟩ rfl rfl rfl hl.1 rfl (Nat.le_of_ble_eq_true rfl) dL_law_565 ⟨Nat.le_of_ble_eq_true rfl, Nat.le_of_ble_eq_true rfl⟩ (fun r34 σ33 τ33 H locs h33 hP hS => ?_)
  obtain ⟨rfl, f35, f36, I37, p38, h33⟩ := h33
  refine lv_pop hx hb dL_law_568 rfl ?_
  refine lv_goto (tgt := 1357) hx hb dL_law_569 (by decide) ?_
  obtain ⟨x39, ex39⟩ : ∃ y : Int32, y = x0 + 6 := ⟨_, rfl⟩
  have tx39 : x39.toInt = x0.toInt + 6 := (jadd ex39 rfl jz_6 (by omega) (by omega)).trans (by omega)
  refine lv_iinc (v := x39) (lv' := [(3, .int x39), (2, .ref (ad 55)), (1, .ref (ad 0)), (0, .ref b)]) hx hb dL_law_1357 hl (k := 0) rfl (by rw [ex39]; rfl) (by decide) rfl (fun ls hl => ?_)
  refine lv_goto (tgt := 18) hx hb dL_law_1360 (by decide) ?_
  have I40 : jI2 σ33 := jI2_fr ((congrFun (f35 2 (by decide)) 0).trans (congrFun (f22 2 (by decide)) 0)) ((congrFun (f35 2 (by decide)) 1).trans (congrFun (f22 2 (by decide)) 1)) ((congrFun (f35 2 (by decide)) 2).trans (congrFun (f22 2 (by decide)) 2)) ((congrFun (f35 2 (by decide)) 3).trans (congrFun (f22 2 (by decide)) 3)) ((f35 6 (by decide)).trans (f22 6 (by decide))) hI2
  have I41 : jI9 σ33 := jI9_fr ((congrFun (f35 9 (by decide)) 0).trans (congrFun (f22 9 (by decide)) 0)) ((f35 10 (by decide)).trans (f22 10 (by decide))) ((f35 11 (by decide)).trans (f22 11 (by decide))) hI9
  have I42 : jI12 σ33 := jI12_fr ((congrFun (f35 12 (by decide)) 0).trans (congrFun (f22 12 (by decide)) 0)) ((f35 13 (by decide)).trans (f22 13 (by decide))) hI12
  have I43 : jI16 σ33 := jI16_fr ((congrFun (f35 16 (by decide)) 0).trans (congrFun (f22 16 (by decide)) 0)) ((congrFun (f35 16 (by decide)) 1).trans (congrFun (f22 16 (by decide)) 1)) ((congrFun (f35 16 (by decide)) 2).trans (congrFun (f22 16 (by decide)) 2)) ((f35 17 (by decide)).trans (f22 17 (by decide))) hI16
  have I44 : jI18 σ33 := jI18_fr ((congrFun (f35 18 (by decide)) 0).trans (congrFun (f22 18 (by decide)) 0)) ((f35 19 (by decide)).trans (f22 19 (by decide))) hI18
  have I45 : jI22 σ33 := jI22_fr ((congrFun (f35 22 (by decide)) 0).trans (congrFun (f22 22 (by decide)) 0)) ((f35 23 (by decide)).trans (f22 23 (by decide))) hI22
  have I46 : jI31 σ33 := jI31_fr (congrFun (f35 31 (by decide)) 8) (f35 33 (by decide)) (f35 36 (by decide)) I24
  have I47 : jI38 σ33 := jI38_fr ((congrFun (f35 38 (by decide)) 0).trans (congrFun (f22 38 (by decide)) 0)) ((congrFun (f35 38 (by decide)) 1).trans (congrFun (f22 38 (by decide)) 1)) ((f35 39 (by decide)).trans (f22 39 (by decide))) hI38
  have I48 : jI43 σ33 := jI43_fr ((congrFun (f35 43 (by decide)) 8).trans (congrFun (f22 43 (by decide)) 8)) hI43
  have I49 : jI47 σ33 := jI47_fr ((congrFun (f35 47 (by decide)) 0).trans (congrFun (f22 47 (by decide)) 0)) ((f35 49 (by decide)).trans (f22 49 (by decide))) hI47
  have I50 : jI50 σ33 := jI50_fr ((f35 52 (by decide)).trans (f22 52 (by decide))) hI50
  have I51 : jI101 σ33 := jI101_fr (f36 4 (by decide)) (f36 5 (by decide)) (f35 56 (by decide)) (f35 57 (by decide)) (f35 58 (by decide)) (f35 59 (by decide)) I25
  have I52 : jI102 σ33 := jI102_fr (f36 6 (by decide)) (f35 60 (by decide)) (f35 61 (by decide)) I26
  have I53 : jI103 σ33 := jI103_fr (f36 9 (by decide)) I27
  have I54 : jI104 σ33 := jI104_fr (f36 10 (by decide)) (f36 12 (by decide)) (f36 13 (by decide)) (f35 62 (by decide)) (f35 67 (by decide)) I28
  have I55 : jI105 σ33 := jI105_fr (f36 15 (by decide)) (f35 65 (by decide)) I29
  have I56 : jI106 σ33 := jI106_fr (f36 32 (by decide)) (f35 70 (by decide)) (f35 71 (by decide)) (f35 72 (by decide)) I30
  have I57 : jI107 σ33 := jI107_fr ((f36 12 (by decide)).trans (congrFun (f22 55 (by decide)) 12)) ((f36 47 (by decide)).trans (congrFun (f22 55 (by decide)) 47)) ((f35 80 (by decide)).trans (f22 80 (by decide))) hI107
  have I58 : jI109 σ33 := jI109_fr ((f36 50 (by decide)).trans (congrFun (f22 55 (by decide)) 50)) hI109
  have I59 : jI110 σ33 := jI110_fr ((f35 86 (by decide)).trans (f22 86 (by decide))) ((f35 87 (by decide)).trans (f22 87 (by decide))) hI110
  have I60 : jI111 σ33 := jI111_fr ((f35 79 (by decide)).trans (f22 79 (by decide))) hI111
  have p61 : jBook σ33 := jBook.fr ((f36 47 (by decide)).trans (congrFun (f22 55 (by decide)) 47)) ((f36 10 (by decide)).trans (congrFun (f22 55 (by decide)) 10)) ((f35 81 (by decide)).trans (f22 81 (by decide))) hs_jBook
  have z62 : (σ33 2 0).toInt = (σ 2 0).toInt := (congrArg Int32.toInt (show σ33 2 0 = (σ 2 0) from ((congrFun (f35 2 (by decide)) 0).trans (congrFun (f22 2 (by decide)) 0))))
  have z63 : (σ33 55 6).toInt = (σ 55 6).toInt := (congrArg Int32.toInt (show σ33 55 6 = (σ 55 6) from ((f36 6 (by decide)).trans (congrFun (f22 55 (by decide)) 6))))
  have z64 : (σ33 2 2).toInt = (σ 2 2).toInt := (congrArg Int32.toInt (show σ33 2 2 = (σ 2 2) from ((congrFun (f35 2 (by decide)) 2).trans (congrFun (f22 2 (by decide)) 2))))
  have z65 : (σ33 55 5).toInt = (σ 55 5).toInt := (congrArg Int32.toInt (show σ33 55 5 = (σ 55 5) from ((f36 5 (by decide)).trans (congrFun (f22 55 (by decide)) 5))))
  have z66 : (σ33 2 3).toInt = (σ 2 3).toInt := (congrArg Int32.toInt (show σ33 2 3 = (σ 2 3) from ((congrFun (f35 2 (by decide)) 3).trans (congrFun (f22 2 (by decide)) 3))))
  have z67 : (σ33 55 4).toInt = (σ 55 4).toInt := (congrArg Int32.toInt (show σ33 55 4 = (σ 55 4) from ((f36 4 (by decide)).trans (congrFun (f22 55 (by decide)) 4))))
  exact ih x39 σ33 τ _ _ ls (by have h9 := tx39; omega) ⟨I40, I41, I42, I43, I44, I45, I46, I47, I48, I49, I50, I51, I52, I53, I54, I55, I56, I57, I58, I59, I60, I37, p38, p61, (by omega), (by omega), (by omega), (show jNumP (σ33 3) (σ33 56) (σ33 6) (σ33 57) (σ33 7) (σ33 58) (σ33 8) (σ33 59) (σ33 55 6).toInt (σ33 55 4).toInt by rw [show σ33 3 = σ 3 from ((f35 3 (by decide)).trans (f22 3 (by decide))), show σ33 56 = σ 56 from ((f35 56 (by decide)).trans (f22 56 (by decide))), show σ33 6 = σ 6 from ((f35 6 (by decide)).trans (f22 6 (by decide))), show σ33 57 = σ 57 from ((f35 57 (by decide)).trans (f22 57 (by decide))), show σ33 7 = σ 7 from ((f35 7 (by decide)).trans (f22 7 (by decide))), show σ33 58 = σ 58 from ((f35 58 (by decide)).trans (f22 58 (by decide))), show σ33 8 = σ 8 from ((f35 8 (by decide)).trans (f22 8 (by decide))), show σ33 59 = σ 59 from ((f35 59 (by decide)).trans (f22 59 (by decide))), show (σ33 55 6).toInt = (σ 55 6).toInt from by omega, show (σ33 55 4).toInt = (σ 55 4).toInt from by omega]; exact hr0)⟩ hP hS (lv_sub hl [0, 1, 2, 3] rfl)
set_option maxHeartbeats 4000000 in
set_option maxRecDepth 100000 in
theorem law_case_12 {p : Program} {e : Env} {s : State} {m : MethodId} {below : List Frame} {meth : Method} {c : Code} (l : Launch) {b L : Nat} {xs : Nat → Int32} {D : va_G} {cI cL : ClassId} {ad zz : Nat → Nat} (C0 : lw_At p s m meth c b L xs) (hJ : jD ad) (hA : ∀ q, jA ad q → s.heap.size ≤ q) (hK : jK D cI cL s) (hZ : jZ zz (fun q : Nat => s.heap.size ≤ q) s s.heap) {x0 : Int32} (hx0 : 0 ≤ x0.toInt) (hxL : x0.toInt + 6 ≤ (L : Int)) (hL : L ≤ 384) {σ : Nat → Nat → Int32} {τ : Nat → Nat → Int64} {H : Heap} {locs : List Loc} (hS : va_S (fun q : Nat => s.heap.size ≤ q) s.heap H locs) {ls : Array Slot} (hAll : jAll σ τ) (hP : jH D cI cL ad σ τ H) (hl : lv_has ls 4 [(3, .int x0), (2, .ref (ad 55)), (1, .ref (ad 0)), (0, .ref b)]) (ih : ∀ (x1 : Int32) (σ : Nat → Nat → Int32) (τ : Nat → Nat → Int64) (H : Heap) (locs : List Loc) (ls : Array Slot), x1.toInt = x0.toInt + 6 → jAll σ τ → jH D cI cL ad σ τ H → va_S (fun q : Nat => s.heap.size ≤ q) s.heap H locs → lv_has ls 4 [(3, .int x1), (2, .ref (ad 55)), (1, .ref (ad 0)), (0, .ref b)] → W p l e room_1 s m #[Value.ref b] below meth c H locs 90 348600 (lw_Z below #[Value.ref b] s) (F0 m 18 ls [])) : W p l e room_1 s m #[Value.ref b] below meth c H locs 90 348600 (lw_Z below #[Value.ref b] s) (F0 m 572 ls []) := by
  obtain ⟨hx, hb, hr, hml, hown, hts0, hX, hbl, hlocks, hgv⟩ := C0
  have hts : ∀ w ∈ wsL_law, w.before #[Value.ref b] s = true := fun w h => hts0 w (wsL_law_in w h)
  have hbA : ¬ (fun q : Nat => s.heap.size ≤ q) b := Nat.not_le.mpr hbl
  have hown : s.vm.findClass RL = some m.cls := hown
  obtain ⟨hI2, hI9, hI12, hI16, hI18, hI22, hI31, hI38, hI43, hI47, hI50, hI101, hI102, hI103, hI104, hI105, hI106, hI107, hI109, hI110, hI111, hI119, hs_jKept, hs_jBook, ht0, ht1, ht2, hr0⟩ := hAll
  have hL9 : (L : Int) ≤ 384 := by omega
  obtain ⟨i1, i2, i3, i4, i5, w6⟩ : (0 ≤ (σ 2 0).toInt ∧ (σ 2 0).toInt ≤ 4) ∧ (0 ≤ (σ 2 1).toInt ∧ (σ 2 1).toInt ≤ 3) ∧ (0 ≤ (σ 2 2).toInt) ∧ (0 ≤ (σ 2 3).toInt) ∧ ((σ 2 2).toInt + (σ 2 3).toInt ≤ 40) ∧ (∀ k : Nat, k < 40 → 0 ≤ (σ 6 k).toInt ∧ (σ 6 k).toInt ≤ 67) := id hI2
  obtain ⟨i7, i8, i9, w10, w11, w12, w13⟩ : (0 ≤ (σ 55 5).toInt) ∧ ((σ 55 5).toInt ≤ (σ 55 4).toInt) ∧ ((σ 55 4).toInt ≤ 40) ∧ (∀ k : Nat, k < 68 → (-200) ≤ (σ 56 k).toInt ∧ (σ 56 k).toInt ≤ 500) ∧ (∀ k : Nat, k < 40 → 0 ≤ (σ 57 k).toInt ∧ (σ 57 k).toInt ≤ 67) ∧ (∀ k : Nat, k < 40 → (-200) ≤ (σ 58 k).toInt ∧ (σ 58 k).toInt ≤ 500) ∧ (∀ k : Nat, k < 40 → (-200) ≤ (σ 59 k).toInt ∧ (σ 59 k).toInt ≤ 500) := id hI101
  obtain ⟨i14, w15, w16⟩ : (0 ≤ (σ 55 6).toInt ∧ (σ 55 6).toInt ≤ 4) ∧ (∀ k : Nat, k < 4 → 0 ≤ (σ 60 k).toInt ∧ (σ 60 k).toInt ≤ 50) ∧ (∀ k : Nat, k < 4 → 0 ≤ (σ 61 k).toInt ∧ (σ 61 k).toInt ≤ 20) := id hI102
  refine lv_aload_n hx hb dL_law_572 rfl (lv_at hl 2 rfl) ?_
  refine lv_aload_n hx hb dL_law_573 rfl (lv_at hl 3 rfl) ?_
  refine lv_iload_n hx hb dL_law_574 rfl (lv_at hl 0 rfl) ?_
  refine lv_iconst (v := 1) hx hb dL_law_575 (by decide) ?_
  have g17 := jrg (rfl : x0.toInt = x0.toInt)
  refine lv_iadd hx hb dL_law_576 ?_
  refine lv_topi (fun x18 ex18 => ?_)
  have tx18 : x18.toInt = x0.toInt + 1 := (jadd ex18 rfl jz_1 (by omega) (by omega)).trans (by omega)
  refine va_sld hx hb hX hbl hbA hS (jin tx18 (by omega) (by omega)) dL_law_577 ?_
  have g19 := jrg (rfl : (xs x18.toNatClampNeg).toInt = (xs x18.toNatClampNeg).toInt)
  refine lv_aload_n hx hb dL_law_578 rfl (lv_at hl 3 rfl) ?_
  refine lv_iload_n hx hb dL_law_579 rfl (lv_at hl 0 rfl) ?_
  refine lv_iconst (v := 2) hx hb dL_law_580 (by decide) ?_
  refine lv_iadd hx hb dL_law_581 ?_
  refine lv_topi (fun x20 ex20 => ?_)
  have tx20 : x20.toInt = x0.toInt + 2 := (jadd ex20 rfl jz_2 (by omega) (by omega)).trans (by omega)
  refine va_sld hx hb hX hbl hbA hS (jin tx20 (by omega) (by omega)) dL_law_582 ?_
  have g21 := jrg (rfl : (xs x20.toNatClampNeg).toInt = (xs x20.toNatClampNeg).toInt)
  refine jcallV (As := [.int (xs x18.toNatClampNeg), .int (xs x20.toNatClampNeg)]) (rest := []) ⟨hx, hb, hml, hown, hts⟩ hK hP hA hS hZ (c_X11_likely l D cI cL ad zz hJ σ τ (xs x18.toNatClampNeg) ((xs x18.toNatClampNeg).toInt) rfl (xs x20.toNatClampNeg) ((xs x20.toNatClampNeg).toInt) rfl hI2 hI16 hI18 hI22 hI31 hI38) cw_RL_65 (jc_0 cI cL ad σ τ) rfl ⟨Nat.le_of_ble_eq_true rfl, Nat.le_of_ble_eq_true rfl⟩ rfl rfl rfl hl.1 rfl (Nat.le_of_ble_eq_true rfl) dL_law_583 ⟨Nat.le_of_ble_eq_true rfl, Nat.le_of_ble_eq_true rfl⟩ (fun r23 σ22 τ22 H locs h22 hP hS => ?_)
  obtain ⟨rfl, f24, f25, I26, h22⟩ := h22
  refine lv_pop hx hb dL_law_586 rfl ?_
  refine lv_aload_n hx hb dL_law_587 rfl (lv_at hl 1 rfl) ?_
  refine lv_aload_n hx hb dL_law_588 rfl (lv_at hl 3 rfl) ?_
  refine lv_iload_n hx hb dL_law_589 rfl (lv_at hl 0 rfl) ?_
  refine lv_iconst (v := 1) hx hb dL_law_590 (by decide) ?_
  refine lv_iadd hx hb dL_law_591 ?_
  refine jtopr ex18.symm ?_
  refine va_sld hx hb hX hbl hbA hS (jin tx18 (by omega) (by omega)) dL_law_592 ?_
  refine lv_aload_n hx hb dL_law_593 rfl (lv_at hl 3 rfl) ?_
  refine lv_iload_n hx hb dL_law_594 rfl (lv_at hl 0 rfl) ?_
  refine lv_iconst (v := 2) hx hb dL_law_595 (by decide) ?_
  refine lv_iadd hx hb dL_law_596 ?_
  refine jtopr ex20.symm ?_
  refine va_sld hx hb hX hbl hbA hS (jin tx20 (by omega) (by omega)) dL_law_597 ?_
  have I27 : jI101 σ22 := jI101_fr (congrFun (f24 55 (by decide)) 4) (congrFun (f24 55 (by decide)) 5) (f24 56 (by decide)) (f24 57 (by decide)) (f24 58 (by decide)) (f24 59 (by decide)) hI101
  have I28 : jI102 σ22 := jI102_fr (congrFun (f24 55 (by decide)) 6) (f24 60 (by decide)) (f24 61 (by decide)) hI102
  have I29 : jI103 σ22 := jI103_fr (congrFun (f24 55 (by decide)) 9) hI103
  have I30 : jI104 σ22 := jI104_fr (congrFun (f24 55 (by decide)) 10) (congrFun (f24 55 (by decide)) 12) (congrFun (f24 55 (by decide)) 13) (f24 62 (by decide)) (f24 67 (by decide)) hI104
  have I31 : jI105 σ22 := jI105_fr (congrFun (f24 55 (by decide)) 15) (f24 65 (by decide)) hI105
  have I32 : jI106 σ22 := jI106_fr (congrFun (f24 55 (by decide)) 32) (f24 70 (by decide)) (f24 71 (by decide)) (f24 72 (by decide)) hI106
  have I33 : jI119 σ22 := jI119_fr (f24 68 (by decide)) hI119
  have p34 : jKept σ22 := jKept.fr (f24 75 (by decide)) (f24 76 (by decide)) (f24 77 (by decide)) hs_jKept
  refine jcallV (As := [.int (xs x18.toNatClampNeg), .int (xs x20.toNatClampNeg)]) (rest := []) ⟨hx, hb, hml, hown, hts⟩ hK hP hA hS hZ (c_X12_likely l D cI cL ad zz hJ σ22 τ (xs x18.toNatClampNeg) ((xs x18.toNatClampNeg).toInt) rfl (xs x20.toNatClampNeg) ((xs x20.toNatClampNeg).toInt) rfl I27 I28 I29 I30 I31 I32 I33 p34) cw_RL_68 (jc_55 cI cL ad σ22 τ) rfl ⟨Nat.le_of_ble_eq_true rfl, Nat.le_of_ble_eq_true rfl⟩ rfl rfl rfl hl.1 rfl (Nat.le_of_ble_eq_true rfl) dL_law_598 ⟨Nat.le_of_ble_eq_true rfl, Nat.le_of_ble_eq_true rfl⟩ (fun r36 σ35 τ35 H locs h35 hP hS => ?_)
  obtain ⟨rfl, f37, f38, I39, p40, h35⟩ := h35
  refine lv_pop hx hb dL_law_601 rfl ?_
  refine lv_goto (tgt := 1357) hx hb dL_law_602 (by decide) ?_
  obtain ⟨x41, ex41⟩ : ∃ y : Int32, y = x0 + 6 := ⟨_, rfl⟩
  have tx41 : x41.toInt = x0.toInt + 6 := (jadd ex41 rfl jz_6 (by omega) (by omega)).trans (by omega)
  refine lv_iinc (v := x41) (lv' := [(3, .int x41), (2, .ref (ad 55)), (1, .ref (ad 0)), (0, .ref b)]) hx hb dL_law_1357 hl (k := 0) rfl (by rw [ex41]; rfl) (by decide) rfl (fun ls hl => ?_)
  refine lv_goto (tgt := 18) hx hb dL_law_1360 (by decide) ?_
  have I42 : jI2 σ35 := jI2_fr ((congrFun (f37 2 (by decide)) 0).trans (congrFun (f24 2 (by decide)) 0)) ((congrFun (f37 2 (by decide)) 1).trans (congrFun (f24 2 (by decide)) 1)) ((congrFun (f37 2 (by decide)) 2).trans (congrFun (f24 2 (by decide)) 2)) ((congrFun (f37 2 (by decide)) 3).trans (congrFun (f24 2 (by decide)) 3)) ((f37 6 (by decide)).trans (f24 6 (by decide))) hI2
  have I43 : jI9 σ35 := jI9_fr ((congrFun (f37 9 (by decide)) 0).trans (congrFun (f24 9 (by decide)) 0)) ((f37 10 (by decide)).trans (f24 10 (by decide))) ((f37 11 (by decide)).trans (f24 11 (by decide))) hI9
  have I44 : jI12 σ35 := jI12_fr ((congrFun (f37 12 (by decide)) 0).trans (congrFun (f24 12 (by decide)) 0)) ((f37 13 (by decide)).trans (f24 13 (by decide))) hI12
  have I45 : jI16 σ35 := jI16_fr ((congrFun (f37 16 (by decide)) 0).trans (congrFun (f24 16 (by decide)) 0)) ((congrFun (f37 16 (by decide)) 1).trans (congrFun (f24 16 (by decide)) 1)) ((congrFun (f37 16 (by decide)) 2).trans (congrFun (f24 16 (by decide)) 2)) ((f37 17 (by decide)).trans (f24 17 (by decide))) hI16
  have I46 : jI18 σ35 := jI18_fr ((congrFun (f37 18 (by decide)) 0).trans (congrFun (f24 18 (by decide)) 0)) ((f37 19 (by decide)).trans (f24 19 (by decide))) hI18
  have I47 : jI22 σ35 := jI22_fr ((congrFun (f37 22 (by decide)) 0).trans (congrFun (f24 22 (by decide)) 0)) ((f37 23 (by decide)).trans (f24 23 (by decide))) hI22
  have I48 : jI31 σ35 := jI31_fr (congrFun (f37 31 (by decide)) 8) (f37 33 (by decide)) (f37 36 (by decide)) I26
  have I49 : jI38 σ35 := jI38_fr ((congrFun (f37 38 (by decide)) 0).trans (congrFun (f24 38 (by decide)) 0)) ((congrFun (f37 38 (by decide)) 1).trans (congrFun (f24 38 (by decide)) 1)) ((f37 39 (by decide)).trans (f24 39 (by decide))) hI38
  have I50 : jI43 σ35 := jI43_fr ((congrFun (f37 43 (by decide)) 8).trans (congrFun (f24 43 (by decide)) 8)) hI43
  have I51 : jI47 σ35 := jI47_fr ((congrFun (f37 47 (by decide)) 0).trans (congrFun (f24 47 (by decide)) 0)) ((f37 49 (by decide)).trans (f24 49 (by decide))) hI47
  have I52 : jI50 σ35 := jI50_fr ((f37 52 (by decide)).trans (f24 52 (by decide))) hI50
  have I53 : jI101 σ35 := jI101_fr (f38 4 (by decide)) (f38 5 (by decide)) (f37 56 (by decide)) (f37 57 (by decide)) (f37 58 (by decide)) (f37 59 (by decide)) I27
  have I54 : jI102 σ35 := jI102_fr (f38 6 (by decide)) (f37 60 (by decide)) (f37 61 (by decide)) I28
  have I55 : jI103 σ35 := jI103_fr (f38 9 (by decide)) I29
  have I56 : jI104 σ35 := jI104_fr (f38 10 (by decide)) (f38 12 (by decide)) (f38 13 (by decide)) (f37 62 (by decide)) (f37 67 (by decide)) I30
  have I57 : jI105 σ35 := jI105_fr (f38 15 (by decide)) (f37 65 (by decide)) I31
  have I58 : jI106 σ35 := jI106_fr (f38 32 (by decide)) (f37 70 (by decide)) (f37 71 (by decide)) (f37 72 (by decide)) I32
  have I59 : jI107 σ35 := jI107_fr ((f38 12 (by decide)).trans (congrFun (f24 55 (by decide)) 12)) ((f38 47 (by decide)).trans (congrFun (f24 55 (by decide)) 47)) ((f37 80 (by decide)).trans (f24 80 (by decide))) hI107
  have I60 : jI109 σ35 := jI109_fr ((f38 50 (by decide)).trans (congrFun (f24 55 (by decide)) 50)) hI109
  have I61 : jI110 σ35 := jI110_fr ((f37 86 (by decide)).trans (f24 86 (by decide))) ((f37 87 (by decide)).trans (f24 87 (by decide))) hI110
  have I62 : jI111 σ35 := jI111_fr ((f37 79 (by decide)).trans (f24 79 (by decide))) hI111
  have p63 : jBook σ35 := jBook.fr ((f38 47 (by decide)).trans (congrFun (f24 55 (by decide)) 47)) ((f38 10 (by decide)).trans (congrFun (f24 55 (by decide)) 10)) ((f37 81 (by decide)).trans (f24 81 (by decide))) hs_jBook
  have z64 : (σ35 2 0).toInt = (σ 2 0).toInt := (congrArg Int32.toInt (show σ35 2 0 = (σ 2 0) from ((congrFun (f37 2 (by decide)) 0).trans (congrFun (f24 2 (by decide)) 0))))
  have z65 : (σ35 55 6).toInt = (σ 55 6).toInt := (congrArg Int32.toInt (show σ35 55 6 = (σ 55 6) from ((f38 6 (by decide)).trans (congrFun (f24 55 (by decide)) 6))))
  have z66 : (σ35 2 2).toInt = (σ 2 2).toInt := (congrArg Int32.toInt (show σ35 2 2 = (σ 2 2) from ((congrFun (f37 2 (by decide)) 2).trans (congrFun (f24 2 (by decide)) 2))))
  have z67 : (σ35 55 5).toInt = (σ 55 5).toInt := (congrArg Int32.toInt (show σ35 55 5 = (σ 55 5) from ((f38 5 (by decide)).trans (congrFun (f24 55 (by decide)) 5))))
  have z68 : (σ35 2 3).toInt = (σ 2 3).toInt := (congrArg Int32.toInt (show σ35 2 3 = (σ 2 3) from ((congrFun (f37 2 (by decide)) 3).trans (congrFun (f24 2 (by decide)) 3))))
  have z69 : (σ35 55 4).toInt = (σ 55 4).toInt := (congrArg Int32.toInt (show σ35 55 4 = (σ 55 4) from ((f38 4 (by decide)).trans (congrFun (f24 55 (by decide)) 4))))
  exact ih x41 σ35 τ _ _ ls (by have h9 := tx41; omega) ⟨I42, I43, I44, I45, I46, I47, I48, I49, I50, I51, I52, I53, I54, I55, I56, I57, I58, I59, I60, I61, I62, I39, p40, p63, (by omega), (by omega), (by omega), (show jNumP (σ35 3) (σ35 56) (σ35 6) (σ35 57) (σ35 7) (σ35 58) (σ35 8) (σ35 59) (σ35 55 6).toInt (σ35 55 4).toInt by rw [show σ35 3 = σ 3 from ((f37 3 (by decide)).trans (f24 3 (by decide))), show σ35 56 = σ 56 from ((f37 56 (by decide)).trans (f24 56 (by decide))), show σ35 6 = σ 6 from ((f37 6 (by decide)).trans (f24 6 (by decide))), show σ35 57 = σ 57 from ((f37 57 (by decide)).trans (f24 57 (by decide))), show σ35 7 = σ 7 from ((f37 7 (by decide)).trans (f24 7 (by decide))), show σ35 58 = σ 58 from ((f37 58 (by decide)).trans (f24 58 (by decide))), show σ35 8 = σ 8 from ((f37 8 (by decide)).trans (f24 8 (by decide))), show σ35 59 = σ 59 from ((f37 59 (by decide)).trans (f24 59 (by decide))), show (σ35 55 6).toInt = (σ 55 6).toInt from by omega, show (σ35 55 4).toInt = (σ 55 4).toInt from by omega]; exact hr0)⟩ hP hS (lv_sub hl [0, 1, 2, 3] rfl)
set_option maxHeartbeats 4000000 in
set_option maxRecDepth 100000 in
theorem law_case_13 {p : Program} {e : Env} {s : State} {m : MethodId} {below : List Frame} {meth : Method} {c : Code} (l : Launch) {b L : Nat} {xs : Nat → Int32} {D : va_G} {cI cL : ClassId} {ad zz : Nat → Nat} (C0 : lw_At p s m meth c b L xs) (hJ : jD ad) (hA : ∀ q, jA ad q → s.heap.size ≤ q) (hK : jK D cI cL s) (hZ : jZ zz (fun q : Nat => s.heap.size ≤ q) s s.heap) {x0 : Int32} (hx0 : 0 ≤ x0.toInt) (hxL : x0.toInt + 6 ≤ (L : Int)) (hL : L ≤ 384) {σ : Nat → Nat → Int32} {τ : Nat → Nat → Int64} {H : Heap} {locs : List Loc} (hS : va_S (fun q : Nat => s.heap.size ≤ q) s.heap H locs) {ls : Array Slot} (hAll : jAll σ τ) (hP : jH D cI cL ad σ τ H) (hl : lv_has ls 4 [(3, .int x0), (2, .ref (ad 55)), (1, .ref (ad 0)), (0, .ref b)]) (ih : ∀ (x1 : Int32) (σ : Nat → Nat → Int32) (τ : Nat → Nat → Int64) (H : Heap) (locs : List Loc) (ls : Array Slot), x1.toInt = x0.toInt + 6 → jAll σ τ → jH D cI cL ad σ τ H → va_S (fun q : Nat => s.heap.size ≤ q) s.heap H locs → lv_has ls 4 [(3, .int x1), (2, .ref (ad 55)), (1, .ref (ad 0)), (0, .ref b)] → W p l e room_1 s m #[Value.ref b] below meth c H locs 90 348600 (lw_Z below #[Value.ref b] s) (F0 m 18 ls [])) : W p l e room_1 s m #[Value.ref b] below meth c H locs 90 348600 (lw_Z below #[Value.ref b] s) (F0 m 605 ls []) := by
  obtain ⟨hx, hb, hr, hml, hown, hts0, hX, hbl, hlocks, hgv⟩ := C0
  have hts : ∀ w ∈ wsL_law, w.before #[Value.ref b] s = true := fun w h => hts0 w (wsL_law_in w h)
  have hbA : ¬ (fun q : Nat => s.heap.size ≤ q) b := Nat.not_le.mpr hbl
  have hown : s.vm.findClass RL = some m.cls := hown
  obtain ⟨hI2, hI9, hI12, hI16, hI18, hI22, hI31, hI38, hI43, hI47, hI50, hI101, hI102, hI103, hI104, hI105, hI106, hI107, hI109, hI110, hI111, hI119, hs_jKept, hs_jBook, ht0, ht1, ht2, hr0⟩ := hAll
  have hL9 : (L : Int) ≤ 384 := by omega
  obtain ⟨i1, i2, i3, i4, i5, w6⟩ : (0 ≤ (σ 2 0).toInt ∧ (σ 2 0).toInt ≤ 4) ∧ (0 ≤ (σ 2 1).toInt ∧ (σ 2 1).toInt ≤ 3) ∧ (0 ≤ (σ 2 2).toInt) ∧ (0 ≤ (σ 2 3).toInt) ∧ ((σ 2 2).toInt + (σ 2 3).toInt ≤ 40) ∧ (∀ k : Nat, k < 40 → 0 ≤ (σ 6 k).toInt ∧ (σ 6 k).toInt ≤ 67) := id hI2
  obtain ⟨i7, i8, i9, w10, w11, w12, w13⟩ : (0 ≤ (σ 55 5).toInt) ∧ ((σ 55 5).toInt ≤ (σ 55 4).toInt) ∧ ((σ 55 4).toInt ≤ 40) ∧ (∀ k : Nat, k < 68 → (-200) ≤ (σ 56 k).toInt ∧ (σ 56 k).toInt ≤ 500) ∧ (∀ k : Nat, k < 40 → 0 ≤ (σ 57 k).toInt ∧ (σ 57 k).toInt ≤ 67) ∧ (∀ k : Nat, k < 40 → (-200) ≤ (σ 58 k).toInt ∧ (σ 58 k).toInt ≤ 500) ∧ (∀ k : Nat, k < 40 → (-200) ≤ (σ 59 k).toInt ∧ (σ 59 k).toInt ≤ 500) := id hI101
  obtain ⟨i14, w15, w16⟩ : (0 ≤ (σ 55 6).toInt ∧ (σ 55 6).toInt ≤ 4) ∧ (∀ k : Nat, k < 4 → 0 ≤ (σ 60 k).toInt ∧ (σ 60 k).toInt ≤ 50) ∧ (∀ k : Nat, k < 4 → 0 ≤ (σ 61 k).toInt ∧ (σ 61 k).toInt ≤ 20) := id hI102
  refine lv_aload_n hx hb dL_law_605 rfl (lv_at hl 2 rfl) ?_
  refine lv_aload_n hx hb dL_law_606 rfl (lv_at hl 3 rfl) ?_
  refine lv_iload_n hx hb dL_law_607 rfl (lv_at hl 0 rfl) ?_
  refine lv_iconst (v := 1) hx hb dL_law_608 (by decide) ?_
  have g17 := jrg (rfl : x0.toInt = x0.toInt)
  refine lv_iadd hx hb dL_law_609 ?_
  refine lv_topi (fun x18 ex18 => ?_)
  have tx18 : x18.toInt = x0.toInt + 1 := (jadd ex18 rfl jz_1 (by omega) (by omega)).trans (by omega)
  refine va_sld hx hb hX hbl hbA hS (jin tx18 (by omega) (by omega)) dL_law_610 ?_
  have g19 := jrg (rfl : (xs x18.toNatClampNeg).toInt = (xs x18.toNatClampNeg).toInt)
  refine jcallV (As := [.int (xs x18.toNatClampNeg)]) (rest := []) ⟨hx, hb, hml, hown, hts⟩ hK hP hA hS hZ (c_X11_best l D cI cL ad zz hJ σ τ (xs x18.toNatClampNeg) ((xs x18.toNatClampNeg).toInt) rfl hI2 hI16 hI22 hI31 hI47) cw_RL_69 (jc_0 cI cL ad σ τ) rfl ⟨Nat.le_of_ble_eq_true rfl, Nat.le_of_ble_eq_true rfl⟩ rfl rfl rfl hl.1 rfl (Nat.le_of_ble_eq_true rfl) dL_law_611 ⟨Nat.le_of_ble_eq_true rfl, Nat.le_of_ble_eq_true rfl⟩ (fun r21 σ20 τ20 H locs h20 hP hS => ?_)
  obtain ⟨rfl, f22, f23, I24, h20⟩ := h20
  refine lv_pop hx hb dL_law_614 rfl ?_
  refine lv_aload_n hx hb dL_law_615 rfl (lv_at hl 1 rfl) ?_
  refine lv_aload_n hx hb dL_law_616 rfl (lv_at hl 3 rfl) ?_
  refine lv_iload_n hx hb dL_law_617 rfl (lv_at hl 0 rfl) ?_
  refine lv_iconst (v := 1) hx hb dL_law_618 (by decide) ?_
  refine lv_iadd hx hb dL_law_619 ?_
  refine jtopr ex18.symm ?_
  refine va_sld hx hb hX hbl hbA hS (jin tx18 (by omega) (by omega)) dL_law_620 ?_
  have I25 : jI101 σ20 := jI101_fr (congrFun (f22 55 (by decide)) 4) (congrFun (f22 55 (by decide)) 5) (f22 56 (by decide)) (f22 57 (by decide)) (f22 58 (by decide)) (f22 59 (by decide)) hI101
  have I26 : jI102 σ20 := jI102_fr (congrFun (f22 55 (by decide)) 6) (f22 60 (by decide)) (f22 61 (by decide)) hI102
  have I27 : jI103 σ20 := jI103_fr (congrFun (f22 55 (by decide)) 9) hI103
  have I28 : jI104 σ20 := jI104_fr (congrFun (f22 55 (by decide)) 10) (congrFun (f22 55 (by decide)) 12) (congrFun (f22 55 (by decide)) 13) (f22 62 (by decide)) (f22 67 (by decide)) hI104
  have I29 : jI105 σ20 := jI105_fr (congrFun (f22 55 (by decide)) 15) (f22 65 (by decide)) hI105
  have I30 : jI106 σ20 := jI106_fr (congrFun (f22 55 (by decide)) 32) (f22 70 (by decide)) (f22 71 (by decide)) (f22 72 (by decide)) hI106
  have I31 : jI107 σ20 := jI107_fr (congrFun (f22 55 (by decide)) 12) (congrFun (f22 55 (by decide)) 47) (f22 80 (by decide)) hI107
  have I32 : jI119 σ20 := jI119_fr (f22 68 (by decide)) hI119
  have p33 : jKept σ20 := jKept.fr (f22 75 (by decide)) (f22 76 (by decide)) (f22 77 (by decide)) hs_jKept
  have p34 : jBook σ20 := jBook.fr (congrFun (f22 55 (by decide)) 47) (congrFun (f22 55 (by decide)) 10) (f22 81 (by decide)) hs_jBook
  refine jcallV (As := [.int (xs x18.toNatClampNeg)]) (rest := []) ⟨hx, hb, hml, hown, hts⟩ hK hP hA hS hZ (c_X12_best l D cI cL ad zz hJ σ20 τ (xs x18.toNatClampNeg) ((xs x18.toNatClampNeg).toInt) rfl I25 I26 I27 I28 I29 I30 I31 I32 p33 p34) cw_RL_72 (jc_55 cI cL ad σ20 τ) rfl ⟨Nat.le_of_ble_eq_true rfl, Nat.le_of_ble_eq_true rfl⟩ rfl rfl rfl hl.1 rfl (Nat.le_of_ble_eq_true rfl) dL_law_621 ⟨Nat.le_of_ble_eq_true rfl, Nat.le_of_ble_eq_true rfl⟩ (fun r36 σ35 τ35 H locs h35 hP hS => ?_)
  obtain ⟨rfl, f37, f38, I39, p40, p41, h35⟩ := h35
  refine lv_pop hx hb dL_law_624 rfl ?_
  refine lv_goto (tgt := 1357) hx hb dL_law_625 (by decide) ?_
  obtain ⟨x42, ex42⟩ : ∃ y : Int32, y = x0 + 6 := ⟨_, rfl⟩
  have tx42 : x42.toInt = x0.toInt + 6 := (jadd ex42 rfl jz_6 (by omega) (by omega)).trans (by omega)
  refine lv_iinc (v := x42) (lv' := [(3, .int x42), (2, .ref (ad 55)), (1, .ref (ad 0)), (0, .ref b)]) hx hb dL_law_1357 hl (k := 0) rfl (by rw [ex42]; rfl) (by decide) rfl (fun ls hl => ?_)
  refine lv_goto (tgt := 18) hx hb dL_law_1360 (by decide) ?_
  have I43 : jI2 σ35 := jI2_fr ((congrFun (f37 2 (by decide)) 0).trans (congrFun (f22 2 (by decide)) 0)) ((congrFun (f37 2 (by decide)) 1).trans (congrFun (f22 2 (by decide)) 1)) ((congrFun (f37 2 (by decide)) 2).trans (congrFun (f22 2 (by decide)) 2)) ((congrFun (f37 2 (by decide)) 3).trans (congrFun (f22 2 (by decide)) 3)) ((f37 6 (by decide)).trans (f22 6 (by decide))) hI2
  have I44 : jI9 σ35 := jI9_fr ((congrFun (f37 9 (by decide)) 0).trans (congrFun (f22 9 (by decide)) 0)) ((f37 10 (by decide)).trans (f22 10 (by decide))) ((f37 11 (by decide)).trans (f22 11 (by decide))) hI9
  have I45 : jI12 σ35 := jI12_fr ((congrFun (f37 12 (by decide)) 0).trans (congrFun (f22 12 (by decide)) 0)) ((f37 13 (by decide)).trans (f22 13 (by decide))) hI12
  have I46 : jI16 σ35 := jI16_fr ((congrFun (f37 16 (by decide)) 0).trans (congrFun (f22 16 (by decide)) 0)) ((congrFun (f37 16 (by decide)) 1).trans (congrFun (f22 16 (by decide)) 1)) ((congrFun (f37 16 (by decide)) 2).trans (congrFun (f22 16 (by decide)) 2)) ((f37 17 (by decide)).trans (f22 17 (by decide))) hI16
  have I47 : jI18 σ35 := jI18_fr ((congrFun (f37 18 (by decide)) 0).trans (congrFun (f22 18 (by decide)) 0)) ((f37 19 (by decide)).trans (f22 19 (by decide))) hI18
  have I48 : jI22 σ35 := jI22_fr ((congrFun (f37 22 (by decide)) 0).trans (congrFun (f22 22 (by decide)) 0)) ((f37 23 (by decide)).trans (f22 23 (by decide))) hI22
  have I49 : jI31 σ35 := jI31_fr (congrFun (f37 31 (by decide)) 8) (f37 33 (by decide)) (f37 36 (by decide)) I24
  have I50 : jI38 σ35 := jI38_fr ((congrFun (f37 38 (by decide)) 0).trans (congrFun (f22 38 (by decide)) 0)) ((congrFun (f37 38 (by decide)) 1).trans (congrFun (f22 38 (by decide)) 1)) ((f37 39 (by decide)).trans (f22 39 (by decide))) hI38
  have I51 : jI43 σ35 := jI43_fr ((congrFun (f37 43 (by decide)) 8).trans (congrFun (f22 43 (by decide)) 8)) hI43
  have I52 : jI47 σ35 := jI47_fr ((congrFun (f37 47 (by decide)) 0).trans (congrFun (f22 47 (by decide)) 0)) ((f37 49 (by decide)).trans (f22 49 (by decide))) hI47
  have I53 : jI50 σ35 := jI50_fr ((f37 52 (by decide)).trans (f22 52 (by decide))) hI50
  have I54 : jI101 σ35 := jI101_fr (f38 4 (by decide)) (f38 5 (by decide)) (f37 56 (by decide)) (f37 57 (by decide)) (f37 58 (by decide)) (f37 59 (by decide)) I25
  have I55 : jI102 σ35 := jI102_fr (f38 6 (by decide)) (f37 60 (by decide)) (f37 61 (by decide)) I26
  have I56 : jI103 σ35 := jI103_fr (f38 9 (by decide)) I27
  have I57 : jI104 σ35 := jI104_fr (f38 10 (by decide)) (f38 12 (by decide)) (f38 13 (by decide)) (f37 62 (by decide)) (f37 67 (by decide)) I28
  have I58 : jI105 σ35 := jI105_fr (f38 15 (by decide)) (f37 65 (by decide)) I29
  have I59 : jI106 σ35 := jI106_fr (f38 32 (by decide)) (f37 70 (by decide)) (f37 71 (by decide)) (f37 72 (by decide)) I30
  have I60 : jI107 σ35 := jI107_fr (f38 12 (by decide)) (f38 47 (by decide)) (f37 80 (by decide)) I31
  have I61 : jI109 σ35 := jI109_fr ((f38 50 (by decide)).trans (congrFun (f22 55 (by decide)) 50)) hI109
  have I62 : jI110 σ35 := jI110_fr ((f37 86 (by decide)).trans (f22 86 (by decide))) ((f37 87 (by decide)).trans (f22 87 (by decide))) hI110
  have I63 : jI111 σ35 := jI111_fr ((f37 79 (by decide)).trans (f22 79 (by decide))) hI111
  have z64 : (σ35 2 0).toInt = (σ 2 0).toInt := (congrArg Int32.toInt (show σ35 2 0 = (σ 2 0) from ((congrFun (f37 2 (by decide)) 0).trans (congrFun (f22 2 (by decide)) 0))))
  have z65 : (σ35 55 6).toInt = (σ 55 6).toInt := (congrArg Int32.toInt (show σ35 55 6 = (σ 55 6) from ((f38 6 (by decide)).trans (congrFun (f22 55 (by decide)) 6))))
  have z66 : (σ35 2 2).toInt = (σ 2 2).toInt := (congrArg Int32.toInt (show σ35 2 2 = (σ 2 2) from ((congrFun (f37 2 (by decide)) 2).trans (congrFun (f22 2 (by decide)) 2))))
  have z67 : (σ35 55 5).toInt = (σ 55 5).toInt := (congrArg Int32.toInt (show σ35 55 5 = (σ 55 5) from ((f38 5 (by decide)).trans (congrFun (f22 55 (by decide)) 5))))
  have z68 : (σ35 2 3).toInt = (σ 2 3).toInt := (congrArg Int32.toInt (show σ35 2 3 = (σ 2 3) from ((congrFun (f37 2 (by decide)) 3).trans (congrFun (f22 2 (by decide)) 3))))
  have z69 : (σ35 55 4).toInt = (σ 55 4).toInt := (congrArg Int32.toInt (show σ35 55 4 = (σ 55 4) from ((f38 4 (by decide)).trans (congrFun (f22 55 (by decide)) 4))))
  exact ih x42 σ35 τ _ _ ls (by have h9 := tx42; omega) ⟨I43, I44, I45, I46, I47, I48, I49, I50, I51, I52, I53, I54, I55, I56, I57, I58, I59, I60, I61, I62, I63, I39, p40, p41, (by omega), (by omega), (by omega), (show jNumP (σ35 3) (σ35 56) (σ35 6) (σ35 57) (σ35 7) (σ35 58) (σ35 8) (σ35 59) (σ35 55 6).toInt (σ35 55 4).toInt by rw [show σ35 3 = σ 3 from ((f37 3 (by decide)).trans (f22 3 (by decide))), show σ35 56 = σ 56 from ((f37 56 (by decide)).trans (f22 56 (by decide))), show σ35 6 = σ 6 from ((f37 6 (by decide)).trans (f22 6 (by decide))), show σ35 57 = σ 57 from ((f37 57 (by decide)).trans (f22 57 (by decide))), show σ35 7 = σ 7 from ((f37 7 (by decide)).trans (f22 7 (by decide))), show σ35 58 = σ 58 from ((f37 58 (by decide)).trans (f22 58 (by decide))), show σ35 8 = σ 8 from ((f37 8 (by decide)).trans (f22 8 (by decide))), show σ35 59 = σ 59 from ((f37 59 (by decide)).trans (f22 59 (by decide))), show (σ35 55 6).toInt = (σ 55 6).toInt from by omega, show (σ35 55 4).toInt = (σ 55 4).toInt from by omega]; exact hr0)⟩ hP hS (lv_sub hl [0, 1, 2, 3] rfl)
set_option maxHeartbeats 4000000 in
set_option maxRecDepth 100000 in
theorem law_case_14 {p : Program} {e : Env} {s : State} {m : MethodId} {below : List Frame} {meth : Method} {c : Code} (l : Launch) {b L : Nat} {xs : Nat → Int32} {D : va_G} {cI cL : ClassId} {ad zz : Nat → Nat} (C0 : lw_At p s m meth c b L xs) (hJ : jD ad) (hA : ∀ q, jA ad q → s.heap.size ≤ q) (hK : jK D cI cL s) (hZ : jZ zz (fun q : Nat => s.heap.size ≤ q) s s.heap) {x0 : Int32} (hx0 : 0 ≤ x0.toInt) (hxL : x0.toInt + 6 ≤ (L : Int)) (hL : L ≤ 384) {σ : Nat → Nat → Int32} {τ : Nat → Nat → Int64} {H : Heap} {locs : List Loc} (hS : va_S (fun q : Nat => s.heap.size ≤ q) s.heap H locs) {ls : Array Slot} (hAll : jAll σ τ) (hP : jH D cI cL ad σ τ H) (hl : lv_has ls 4 [(3, .int x0), (2, .ref (ad 55)), (1, .ref (ad 0)), (0, .ref b)]) (ih : ∀ (x1 : Int32) (σ : Nat → Nat → Int32) (τ : Nat → Nat → Int64) (H : Heap) (locs : List Loc) (ls : Array Slot), x1.toInt = x0.toInt + 6 → jAll σ τ → jH D cI cL ad σ τ H → va_S (fun q : Nat => s.heap.size ≤ q) s.heap H locs → lv_has ls 4 [(3, .int x1), (2, .ref (ad 55)), (1, .ref (ad 0)), (0, .ref b)] → W p l e room_1 s m #[Value.ref b] below meth c H locs 90 348600 (lw_Z below #[Value.ref b] s) (F0 m 18 ls [])) : W p l e room_1 s m #[Value.ref b] below meth c H locs 90 348600 (lw_Z below #[Value.ref b] s) (F0 m 628 ls []) := by
  obtain ⟨hx, hb, hr, hml, hown, hts0, hX, hbl, hlocks, hgv⟩ := C0
  have hts : ∀ w ∈ wsL_law, w.before #[Value.ref b] s = true := fun w h => hts0 w (wsL_law_in w h)
  have hbA : ¬ (fun q : Nat => s.heap.size ≤ q) b := Nat.not_le.mpr hbl
  have hown : s.vm.findClass RL = some m.cls := hown
  obtain ⟨hI2, hI9, hI12, hI16, hI18, hI22, hI31, hI38, hI43, hI47, hI50, hI101, hI102, hI103, hI104, hI105, hI106, hI107, hI109, hI110, hI111, hI119, hs_jKept, hs_jBook, ht0, ht1, ht2, hr0⟩ := hAll
  have hL9 : (L : Int) ≤ 384 := by omega
  obtain ⟨i1, i2, i3, i4, i5, w6⟩ : (0 ≤ (σ 2 0).toInt ∧ (σ 2 0).toInt ≤ 4) ∧ (0 ≤ (σ 2 1).toInt ∧ (σ 2 1).toInt ≤ 3) ∧ (0 ≤ (σ 2 2).toInt) ∧ (0 ≤ (σ 2 3).toInt) ∧ ((σ 2 2).toInt + (σ 2 3).toInt ≤ 40) ∧ (∀ k : Nat, k < 40 → 0 ≤ (σ 6 k).toInt ∧ (σ 6 k).toInt ≤ 67) := id hI2
  obtain ⟨i7, i8, i9, w10, w11, w12, w13⟩ : (0 ≤ (σ 55 5).toInt) ∧ ((σ 55 5).toInt ≤ (σ 55 4).toInt) ∧ ((σ 55 4).toInt ≤ 40) ∧ (∀ k : Nat, k < 68 → (-200) ≤ (σ 56 k).toInt ∧ (σ 56 k).toInt ≤ 500) ∧ (∀ k : Nat, k < 40 → 0 ≤ (σ 57 k).toInt ∧ (σ 57 k).toInt ≤ 67) ∧ (∀ k : Nat, k < 40 → (-200) ≤ (σ 58 k).toInt ∧ (σ 58 k).toInt ≤ 500) ∧ (∀ k : Nat, k < 40 → (-200) ≤ (σ 59 k).toInt ∧ (σ 59 k).toInt ≤ 500) := id hI101
  obtain ⟨i14, w15, w16⟩ : (0 ≤ (σ 55 6).toInt ∧ (σ 55 6).toInt ≤ 4) ∧ (∀ k : Nat, k < 4 → 0 ≤ (σ 60 k).toInt ∧ (σ 60 k).toInt ≤ 50) ∧ (∀ k : Nat, k < 4 → 0 ≤ (σ 61 k).toInt ∧ (σ 61 k).toInt ≤ 20) := id hI102
  refine lv_aload_n hx hb dL_law_628 rfl (lv_at hl 2 rfl) ?_
  refine lv_aload_n hx hb dL_law_629 rfl (lv_at hl 3 rfl) ?_
  refine lv_iload_n hx hb dL_law_630 rfl (lv_at hl 0 rfl) ?_
  refine lv_iconst (v := 1) hx hb dL_law_631 (by decide) ?_
  have g17 := jrg (rfl : x0.toInt = x0.toInt)
  refine lv_iadd hx hb dL_law_632 ?_
  refine lv_topi (fun x18 ex18 => ?_)
  have tx18 : x18.toInt = x0.toInt + 1 := (jadd ex18 rfl jz_1 (by omega) (by omega)).trans (by omega)
  refine va_sld hx hb hX hbl hbA hS (jin tx18 (by omega) (by omega)) dL_law_633 ?_
  have g19 := jrg (rfl : (xs x18.toNatClampNeg).toInt = (xs x18.toNatClampNeg).toInt)
  refine lv_aload_n hx hb dL_law_634 rfl (lv_at hl 3 rfl) ?_
  refine lv_iload_n hx hb dL_law_635 rfl (lv_at hl 0 rfl) ?_
  refine lv_iconst (v := 2) hx hb dL_law_636 (by decide) ?_
  refine lv_iadd hx hb dL_law_637 ?_
  refine lv_topi (fun x20 ex20 => ?_)
  have tx20 : x20.toInt = x0.toInt + 2 := (jadd ex20 rfl jz_2 (by omega) (by omega)).trans (by omega)
  refine va_sld hx hb hX hbl hbA hS (jin tx20 (by omega) (by omega)) dL_law_638 ?_
  have g21 := jrg (rfl : (xs x20.toNatClampNeg).toInt = (xs x20.toNatClampNeg).toInt)
  refine jcallV (As := [.int (xs x18.toNatClampNeg), .int (xs x20.toNatClampNeg)]) (rest := []) ⟨hx, hb, hml, hown, hts⟩ hK hP hA hS hZ (c_X11_worth l D cI cL ad zz hJ σ τ (xs x18.toNatClampNeg) ((xs x18.toNatClampNeg).toInt) rfl (xs x20.toNatClampNeg) ((xs x20.toNatClampNeg).toInt) rfl hI2 hI16 hI22 hI31) cw_RL_73 (jc_0 cI cL ad σ τ) rfl ⟨Nat.le_of_ble_eq_true rfl, Nat.le_of_ble_eq_true rfl⟩ rfl rfl rfl hl.1 rfl (Nat.le_of_ble_eq_true rfl) dL_law_639 ⟨Nat.le_of_ble_eq_true rfl, Nat.le_of_ble_eq_true rfl⟩ (fun r23 σ22 τ22 H locs h22 hP hS => ?_)
  obtain ⟨rfl, f24, f25, I26, h22⟩ := h22
  refine lv_pop hx hb dL_law_642 rfl ?_
  refine lv_aload_n hx hb dL_law_643 rfl (lv_at hl 1 rfl) ?_
  refine lv_aload_n hx hb dL_law_644 rfl (lv_at hl 3 rfl) ?_
  refine lv_iload_n hx hb dL_law_645 rfl (lv_at hl 0 rfl) ?_
  refine lv_iconst (v := 1) hx hb dL_law_646 (by decide) ?_
  refine lv_iadd hx hb dL_law_647 ?_
  refine jtopr ex18.symm ?_
  refine va_sld hx hb hX hbl hbA hS (jin tx18 (by omega) (by omega)) dL_law_648 ?_
  refine lv_aload_n hx hb dL_law_649 rfl (lv_at hl 3 rfl) ?_
  refine lv_iload_n hx hb dL_law_650 rfl (lv_at hl 0 rfl) ?_
  refine lv_iconst (v := 2) hx hb dL_law_651 (by decide) ?_
  refine lv_iadd hx hb dL_law_652 ?_
  refine jtopr ex20.symm ?_
  refine va_sld hx hb hX hbl hbA hS (jin tx20 (by omega) (by omega)) dL_law_653 ?_
  have I27 : jI101 σ22 := jI101_fr (congrFun (f24 55 (by decide)) 4) (congrFun (f24 55 (by decide)) 5) (f24 56 (by decide)) (f24 57 (by decide)) (f24 58 (by decide)) (f24 59 (by decide)) hI101
  have I28 : jI102 σ22 := jI102_fr (congrFun (f24 55 (by decide)) 6) (f24 60 (by decide)) (f24 61 (by decide)) hI102
  have I29 : jI103 σ22 := jI103_fr (congrFun (f24 55 (by decide)) 9) hI103
  have I30 : jI104 σ22 := jI104_fr (congrFun (f24 55 (by decide)) 10) (congrFun (f24 55 (by decide)) 12) (congrFun (f24 55 (by decide)) 13) (f24 62 (by decide)) (f24 67 (by decide)) hI104
  have I31 : jI105 σ22 := jI105_fr (congrFun (f24 55 (by decide)) 15) (f24 65 (by decide)) hI105
  have I32 : jI106 σ22 := jI106_fr (congrFun (f24 55 (by decide)) 32) (f24 70 (by decide)) (f24 71 (by decide)) (f24 72 (by decide)) hI106
  have I33 : jI119 σ22 := jI119_fr (f24 68 (by decide)) hI119
  have p34 : jKept σ22 := jKept.fr (f24 75 (by decide)) (f24 76 (by decide)) (f24 77 (by decide)) hs_jKept
  refine jcallV (As := [.int (xs x18.toNatClampNeg), .int (xs x20.toNatClampNeg)]) (rest := []) ⟨hx, hb, hml, hown, hts⟩ hK hP hA hS hZ (c_X12_worth l D cI cL ad zz hJ σ22 τ (xs x18.toNatClampNeg) ((xs x18.toNatClampNeg).toInt) rfl (xs x20.toNatClampNeg) ((xs x20.toNatClampNeg).toInt) rfl I27 I28 I29 I30 I31 I32 I33 p34) cw_RL_76 (jc_55 cI cL ad σ22 τ) rfl ⟨Nat.le_of_ble_eq_true rfl, Nat.le_of_ble_eq_true rfl⟩ rfl rfl rfl hl.1 rfl (Nat.le_of_ble_eq_true rfl) dL_law_654 ⟨Nat.le_of_ble_eq_true rfl, Nat.le_of_ble_eq_true rfl⟩ (fun r36 σ35 τ35 H locs h35 hP hS => ?_)
  obtain ⟨rfl, f37, f38, I39, p40, h35⟩ := h35
  refine lv_pop hx hb dL_law_657 rfl ?_
  refine lv_goto (tgt := 1357) hx hb dL_law_658 (by decide) ?_
  obtain ⟨x41, ex41⟩ : ∃ y : Int32, y = x0 + 6 := ⟨_, rfl⟩
  have tx41 : x41.toInt = x0.toInt + 6 := (jadd ex41 rfl jz_6 (by omega) (by omega)).trans (by omega)
  refine lv_iinc (v := x41) (lv' := [(3, .int x41), (2, .ref (ad 55)), (1, .ref (ad 0)), (0, .ref b)]) hx hb dL_law_1357 hl (k := 0) rfl (by rw [ex41]; rfl) (by decide) rfl (fun ls hl => ?_)
  refine lv_goto (tgt := 18) hx hb dL_law_1360 (by decide) ?_
  have I42 : jI2 σ35 := jI2_fr ((congrFun (f37 2 (by decide)) 0).trans (congrFun (f24 2 (by decide)) 0)) ((congrFun (f37 2 (by decide)) 1).trans (congrFun (f24 2 (by decide)) 1)) ((congrFun (f37 2 (by decide)) 2).trans (congrFun (f24 2 (by decide)) 2)) ((congrFun (f37 2 (by decide)) 3).trans (congrFun (f24 2 (by decide)) 3)) ((f37 6 (by decide)).trans (f24 6 (by decide))) hI2
  have I43 : jI9 σ35 := jI9_fr ((congrFun (f37 9 (by decide)) 0).trans (congrFun (f24 9 (by decide)) 0)) ((f37 10 (by decide)).trans (f24 10 (by decide))) ((f37 11 (by decide)).trans (f24 11 (by decide))) hI9
  have I44 : jI12 σ35 := jI12_fr ((congrFun (f37 12 (by decide)) 0).trans (congrFun (f24 12 (by decide)) 0)) ((f37 13 (by decide)).trans (f24 13 (by decide))) hI12
  have I45 : jI16 σ35 := jI16_fr ((congrFun (f37 16 (by decide)) 0).trans (congrFun (f24 16 (by decide)) 0)) ((congrFun (f37 16 (by decide)) 1).trans (congrFun (f24 16 (by decide)) 1)) ((congrFun (f37 16 (by decide)) 2).trans (congrFun (f24 16 (by decide)) 2)) ((f37 17 (by decide)).trans (f24 17 (by decide))) hI16
  have I46 : jI18 σ35 := jI18_fr ((congrFun (f37 18 (by decide)) 0).trans (congrFun (f24 18 (by decide)) 0)) ((f37 19 (by decide)).trans (f24 19 (by decide))) hI18
  have I47 : jI22 σ35 := jI22_fr ((congrFun (f37 22 (by decide)) 0).trans (congrFun (f24 22 (by decide)) 0)) ((f37 23 (by decide)).trans (f24 23 (by decide))) hI22
  have I48 : jI31 σ35 := jI31_fr (congrFun (f37 31 (by decide)) 8) (f37 33 (by decide)) (f37 36 (by decide)) I26
  have I49 : jI38 σ35 := jI38_fr ((congrFun (f37 38 (by decide)) 0).trans (congrFun (f24 38 (by decide)) 0)) ((congrFun (f37 38 (by decide)) 1).trans (congrFun (f24 38 (by decide)) 1)) ((f37 39 (by decide)).trans (f24 39 (by decide))) hI38
  have I50 : jI43 σ35 := jI43_fr ((congrFun (f37 43 (by decide)) 8).trans (congrFun (f24 43 (by decide)) 8)) hI43
  have I51 : jI47 σ35 := jI47_fr ((congrFun (f37 47 (by decide)) 0).trans (congrFun (f24 47 (by decide)) 0)) ((f37 49 (by decide)).trans (f24 49 (by decide))) hI47
  have I52 : jI50 σ35 := jI50_fr ((f37 52 (by decide)).trans (f24 52 (by decide))) hI50
  have I53 : jI101 σ35 := jI101_fr (f38 4 (by decide)) (f38 5 (by decide)) (f37 56 (by decide)) (f37 57 (by decide)) (f37 58 (by decide)) (f37 59 (by decide)) I27
  have I54 : jI102 σ35 := jI102_fr (f38 6 (by decide)) (f37 60 (by decide)) (f37 61 (by decide)) I28
  have I55 : jI103 σ35 := jI103_fr (f38 9 (by decide)) I29
  have I56 : jI104 σ35 := jI104_fr (f38 10 (by decide)) (f38 12 (by decide)) (f38 13 (by decide)) (f37 62 (by decide)) (f37 67 (by decide)) I30
  have I57 : jI105 σ35 := jI105_fr (f38 15 (by decide)) (f37 65 (by decide)) I31
  have I58 : jI106 σ35 := jI106_fr (f38 32 (by decide)) (f37 70 (by decide)) (f37 71 (by decide)) (f37 72 (by decide)) I32
  have I59 : jI107 σ35 := jI107_fr ((f38 12 (by decide)).trans (congrFun (f24 55 (by decide)) 12)) ((f38 47 (by decide)).trans (congrFun (f24 55 (by decide)) 47)) ((f37 80 (by decide)).trans (f24 80 (by decide))) hI107
  have I60 : jI109 σ35 := jI109_fr ((f38 50 (by decide)).trans (congrFun (f24 55 (by decide)) 50)) hI109
  have I61 : jI110 σ35 := jI110_fr ((f37 86 (by decide)).trans (f24 86 (by decide))) ((f37 87 (by decide)).trans (f24 87 (by decide))) hI110
  have I62 : jI111 σ35 := jI111_fr ((f37 79 (by decide)).trans (f24 79 (by decide))) hI111
  have p63 : jBook σ35 := jBook.fr ((f38 47 (by decide)).trans (congrFun (f24 55 (by decide)) 47)) ((f38 10 (by decide)).trans (congrFun (f24 55 (by decide)) 10)) ((f37 81 (by decide)).trans (f24 81 (by decide))) hs_jBook
  have z64 : (σ35 2 0).toInt = (σ 2 0).toInt := (congrArg Int32.toInt (show σ35 2 0 = (σ 2 0) from ((congrFun (f37 2 (by decide)) 0).trans (congrFun (f24 2 (by decide)) 0))))
  have z65 : (σ35 55 6).toInt = (σ 55 6).toInt := (congrArg Int32.toInt (show σ35 55 6 = (σ 55 6) from ((f38 6 (by decide)).trans (congrFun (f24 55 (by decide)) 6))))
  have z66 : (σ35 2 2).toInt = (σ 2 2).toInt := (congrArg Int32.toInt (show σ35 2 2 = (σ 2 2) from ((congrFun (f37 2 (by decide)) 2).trans (congrFun (f24 2 (by decide)) 2))))
  have z67 : (σ35 55 5).toInt = (σ 55 5).toInt := (congrArg Int32.toInt (show σ35 55 5 = (σ 55 5) from ((f38 5 (by decide)).trans (congrFun (f24 55 (by decide)) 5))))
  have z68 : (σ35 2 3).toInt = (σ 2 3).toInt := (congrArg Int32.toInt (show σ35 2 3 = (σ 2 3) from ((congrFun (f37 2 (by decide)) 3).trans (congrFun (f24 2 (by decide)) 3))))
  have z69 : (σ35 55 4).toInt = (σ 55 4).toInt := (congrArg Int32.toInt (show σ35 55 4 = (σ 55 4) from ((f38 4 (by decide)).trans (congrFun (f24 55 (by decide)) 4))))
  exact ih x41 σ35 τ _ _ ls (by have h9 := tx41; omega) ⟨I42, I43, I44, I45, I46, I47, I48, I49, I50, I51, I52, I53, I54, I55, I56, I57, I58, I59, I60, I61, I62, I39, p40, p63, (by omega), (by omega), (by omega), (show jNumP (σ35 3) (σ35 56) (σ35 6) (σ35 57) (σ35 7) (σ35 58) (σ35 8) (σ35 59) (σ35 55 6).toInt (σ35 55 4).toInt by rw [show σ35 3 = σ 3 from ((f37 3 (by decide)).trans (f24 3 (by decide))), show σ35 56 = σ 56 from ((f37 56 (by decide)).trans (f24 56 (by decide))), show σ35 6 = σ 6 from ((f37 6 (by decide)).trans (f24 6 (by decide))), show σ35 57 = σ 57 from ((f37 57 (by decide)).trans (f24 57 (by decide))), show σ35 7 = σ 7 from ((f37 7 (by decide)).trans (f24 7 (by decide))), show σ35 58 = σ 58 from ((f37 58 (by decide)).trans (f24 58 (by decide))), show σ35 8 = σ 8 from ((f37 8 (by decide)).trans (f24 8 (by decide))), show σ35 59 = σ 59 from ((f37 59 (by decide)).trans (f24 59 (by decide))), show (σ35 55 6).toInt = (σ 55 6).toInt from by omega, show (σ35 55 4).toInt = (σ 55 4).toInt from by omega]; exact hr0)⟩ hP hS (lv_sub hl [0, 1, 2, 3] rfl)
set_option maxHeartbeats 4000000 in
set_option maxRecDepth 100000 in
theorem law_case_15 {p : Program} {e : Env} {s : State} {m : MethodId} {below : List Frame} {meth : Method} {c : Code} (l : Launch) {b L : Nat} {xs : Nat → Int32} {D : va_G} {cI cL : ClassId} {ad zz : Nat → Nat} (C0 : lw_At p s m meth c b L xs) (hJ : jD ad) (hA : ∀ q, jA ad q → s.heap.size ≤ q) (hK : jK D cI cL s) (hZ : jZ zz (fun q : Nat => s.heap.size ≤ q) s s.heap) {x0 : Int32} (hx0 : 0 ≤ x0.toInt) (hxL : x0.toInt + 6 ≤ (L : Int)) (hL : L ≤ 384) {σ : Nat → Nat → Int32} {τ : Nat → Nat → Int64} {H : Heap} {locs : List Loc} (hS : va_S (fun q : Nat => s.heap.size ≤ q) s.heap H locs) {ls : Array Slot} (hAll : jAll σ τ) (hP : jH D cI cL ad σ τ H) (hl : lv_has ls 4 [(3, .int x0), (2, .ref (ad 55)), (1, .ref (ad 0)), (0, .ref b)]) (ih : ∀ (x1 : Int32) (σ : Nat → Nat → Int32) (τ : Nat → Nat → Int64) (H : Heap) (locs : List Loc) (ls : Array Slot), x1.toInt = x0.toInt + 6 → jAll σ τ → jH D cI cL ad σ τ H → va_S (fun q : Nat => s.heap.size ≤ q) s.heap H locs → lv_has ls 4 [(3, .int x1), (2, .ref (ad 55)), (1, .ref (ad 0)), (0, .ref b)] → W p l e room_1 s m #[Value.ref b] below meth c H locs 90 348600 (lw_Z below #[Value.ref b] s) (F0 m 18 ls [])) : W p l e room_1 s m #[Value.ref b] below meth c H locs 90 348600 (lw_Z below #[Value.ref b] s) (F0 m 661 ls []) := by
  obtain ⟨hx, hb, hr, hml, hown, hts0, hX, hbl, hlocks, hgv⟩ := C0
  have hts : ∀ w ∈ wsL_law, w.before #[Value.ref b] s = true := fun w h => hts0 w (wsL_law_in w h)
  have hbA : ¬ (fun q : Nat => s.heap.size ≤ q) b := Nat.not_le.mpr hbl
  have hown : s.vm.findClass RL = some m.cls := hown
  obtain ⟨hI2, hI9, hI12, hI16, hI18, hI22, hI31, hI38, hI43, hI47, hI50, hI101, hI102, hI103, hI104, hI105, hI106, hI107, hI109, hI110, hI111, hI119, hs_jKept, hs_jBook, ht0, ht1, ht2, hr0⟩ := hAll
  have hL9 : (L : Int) ≤ 384 := by omega
  obtain ⟨i1, i2, i3, i4, i5, w6⟩ : (0 ≤ (σ 2 0).toInt ∧ (σ 2 0).toInt ≤ 4) ∧ (0 ≤ (σ 2 1).toInt ∧ (σ 2 1).toInt ≤ 3) ∧ (0 ≤ (σ 2 2).toInt) ∧ (0 ≤ (σ 2 3).toInt) ∧ ((σ 2 2).toInt + (σ 2 3).toInt ≤ 40) ∧ (∀ k : Nat, k < 40 → 0 ≤ (σ 6 k).toInt ∧ (σ 6 k).toInt ≤ 67) := id hI2
  obtain ⟨i7, i8, i9, w10, w11, w12, w13⟩ : (0 ≤ (σ 55 5).toInt) ∧ ((σ 55 5).toInt ≤ (σ 55 4).toInt) ∧ ((σ 55 4).toInt ≤ 40) ∧ (∀ k : Nat, k < 68 → (-200) ≤ (σ 56 k).toInt ∧ (σ 56 k).toInt ≤ 500) ∧ (∀ k : Nat, k < 40 → 0 ≤ (σ 57 k).toInt ∧ (σ 57 k).toInt ≤ 67) ∧ (∀ k : Nat, k < 40 → (-200) ≤ (σ 58 k).toInt ∧ (σ 58 k).toInt ≤ 500) ∧ (∀ k : Nat, k < 40 → (-200) ≤ (σ 59 k).toInt ∧ (σ 59 k).toInt ≤ 500) := id hI101
  obtain ⟨i14, w15, w16⟩ : (0 ≤ (σ 55 6).toInt ∧ (σ 55 6).toInt ≤ 4) ∧ (∀ k : Nat, k < 4 → 0 ≤ (σ 60 k).toInt ∧ (σ 60 k).toInt ≤ 50) ∧ (∀ k : Nat, k < 4 → 0 ≤ (σ 61 k).toInt ∧ (σ 61 k).toInt ≤ 20) := id hI102
  refine lv_aload_n hx hb dL_law_661 rfl (lv_at hl 2 rfl) ?_
  refine lv_aload_n hx hb dL_law_662 rfl (lv_at hl 3 rfl) ?_
  refine lv_iload_n hx hb dL_law_663 rfl (lv_at hl 0 rfl) ?_
  refine lv_iconst (v := 1) hx hb dL_law_664 (by decide) ?_
  have g17 := jrg (rfl : x0.toInt = x0.toInt)
  refine lv_iadd hx hb dL_law_665 ?_
  refine lv_topi (fun x18 ex18 => ?_)
  have tx18 : x18.toInt = x0.toInt + 1 := (jadd ex18 rfl jz_1 (by omega) (by omega)).trans (by omega)
  refine va_sld hx hb hX hbl hbA hS (jin tx18 (by omega) (by omega)) dL_law_666 ?_
  have g19 := jrg (rfl : (xs x18.toNatClampNeg).toInt = (xs x18.toNatClampNeg).toInt)
  refine lv_aload_n hx hb dL_law_667 rfl (lv_at hl 3 rfl) ?_
  refine lv_iload_n hx hb dL_law_668 rfl (lv_at hl 0 rfl) ?_
  refine lv_iconst (v := 2) hx hb dL_law_669 (by decide) ?_
  refine lv_iadd hx hb dL_law_670 ?_
  refine lv_topi (fun x20 ex20 => ?_)
  have tx20 : x20.toInt = x0.toInt + 2 := (jadd ex20 rfl jz_2 (by omega) (by omega)).trans (by omega)
  refine va_sld hx hb hX hbl hbA hS (jin tx20 (by omega) (by omega)) dL_law_671 ?_
  have g21 := jrg (rfl : (xs x20.toNatClampNeg).toInt = (xs x20.toNatClampNeg).toInt)
  refine jcallV (As := [.int (xs x18.toNatClampNeg), .int (xs x20.toNatClampNeg)]) (rest := []) ⟨hx, hb, hml, hown, hts⟩ hK hP hA hS hZ (c_X11_fielded l D cI cL ad zz hJ σ τ (xs x18.toNatClampNeg) ((xs x18.toNatClampNeg).toInt) rfl (xs x20.toNatClampNeg) ((xs x20.toNatClampNeg).toInt) rfl hI2 hI16 hI22 hI31) cw_RL_77 (jc_0 cI cL ad σ τ) rfl ⟨Nat.le_of_ble_eq_true rfl, Nat.le_of_ble_eq_true rfl⟩ rfl rfl rfl hl.1 rfl (Nat.le_of_ble_eq_true rfl) dL_law_672 ⟨Nat.le_of_ble_eq_true rfl, Nat.le_of_ble_eq_true rfl⟩ (fun r23 σ22 τ22 H locs h22 hP hS => ?_)
  obtain ⟨rfl, f24, f25, I26, h22⟩ := h22
  refine lv_pop hx hb dL_law_675 rfl ?_
  refine lv_aload_n hx hb dL_law_676 rfl (lv_at hl 1 rfl) ?_
  refine lv_aload_n hx hb dL_law_677 rfl (lv_at hl 3 rfl) ?_
  refine lv_iload_n hx hb dL_law_678 rfl (lv_at hl 0 rfl) ?_
  refine lv_iconst (v := 1) hx hb dL_law_679 (by decide) ?_
  refine lv_iadd hx hb dL_law_680 ?_
  refine jtopr ex18.symm ?_
  refine va_sld hx hb hX hbl hbA hS (jin tx18 (by omega) (by omega)) dL_law_681 ?_
  refine lv_aload_n hx hb dL_law_682 rfl (lv_at hl 3 rfl) ?_
  refine lv_iload_n hx hb dL_law_683 rfl (lv_at hl 0 rfl) ?_
  refine lv_iconst (v := 2) hx hb dL_law_684 (by decide) ?_
  refine lv_iadd hx hb dL_law_685 ?_
  refine jtopr ex20.symm ?_
  refine va_sld hx hb hX hbl hbA hS (jin tx20 (by omega) (by omega)) dL_law_686 ?_
  have I27 : jI101 σ22 := jI101_fr (congrFun (f24 55 (by decide)) 4) (congrFun (f24 55 (by decide)) 5) (f24 56 (by decide)) (f24 57 (by decide)) (f24 58 (by decide)) (f24 59 (by decide)) hI101
  have I28 : jI102 σ22 := jI102_fr (congrFun (f24 55 (by decide)) 6) (f24 60 (by decide)) (f24 61 (by decide)) hI102
  have I29 : jI103 σ22 := jI103_fr (congrFun (f24 55 (by decide)) 9) hI103
  have I30 : jI104 σ22 := jI104_fr (congrFun (f24 55 (by decide)) 10) (congrFun (f24 55 (by decide)) 12) (congrFun (f24 55 (by decide)) 13) (f24 62 (by decide)) (f24 67 (by decide)) hI104
  have I31 : jI105 σ22 := jI105_fr (congrFun (f24 55 (by decide)) 15) (f24 65 (by decide)) hI105
  have I32 : jI106 σ22 := jI106_fr (congrFun (f24 55 (by decide)) 32) (f24 70 (by decide)) (f24 71 (by decide)) (f24 72 (by decide)) hI106
  have I33 : jI119 σ22 := jI119_fr (f24 68 (by decide)) hI119
  have p34 : jKept σ22 := jKept.fr (f24 75 (by decide)) (f24 76 (by decide)) (f24 77 (by decide)) hs_jKept
  have z35 : (σ22 55 9).toInt = (σ 55 9).toInt := (congrArg Int32.toInt (show σ22 55 9 = (σ 55 9) from (congrFun (f24 55 (by decide)) 9)))
  refine jcallV (As := [.int (xs x18.toNatClampNeg), .int (xs x20.toNatClampNeg)]) (rest := []) ⟨hx, hb, hml, hown, hts⟩ hK hP hA hS hZ (c_X12_fielded l D cI cL ad zz hJ σ22 τ (xs x18.toNatClampNeg) ((xs x18.toNatClampNeg).toInt) rfl (xs x20.toNatClampNeg) ((xs x20.toNatClampNeg).toInt) rfl I27 I28 I29 I30 I31 I32 I33 p34) cw_RL_80 (jc_55 cI cL ad σ22 τ) rfl ⟨Nat.le_of_ble_eq_true rfl, Nat.le_of_ble_eq_true rfl⟩ rfl rfl rfl hl.1 rfl (Nat.le_of_ble_eq_true rfl) dL_law_687 ⟨Nat.le_of_ble_eq_true rfl, Nat.le_of_ble_eq_true rfl⟩ (fun r37 σ36 τ36 H locs h36 hP hS => ?_)
  obtain ⟨rfl, f38, f39, I40, I41, p42, h36⟩ := h36
  obtain ⟨k43, h36⟩ := h36
  refine lv_pop hx hb dL_law_690 rfl ?_
  refine lv_goto (tgt := 1357) hx hb dL_law_691 (by decide) ?_
  obtain ⟨x44, ex44⟩ : ∃ y : Int32, y = x0 + 6 := ⟨_, rfl⟩
  have tx44 : x44.toInt = x0.toInt + 6 := (jadd ex44 rfl jz_6 (by omega) (by omega)).trans (by omega)
  refine lv_iinc (v := x44) (lv' := [(3, .int x44), (2, .ref (ad 55)), (1, .ref (ad 0)), (0, .ref b)]) hx hb dL_law_1357 hl (k := 0) rfl (by rw [ex44]; rfl) (by decide) rfl (fun ls hl => ?_)
  refine lv_goto (tgt := 18) hx hb dL_law_1360 (by decide) ?_
  have I45 : jI2 σ36 := jI2_fr ((congrFun (f38 2 (by decide)) 0).trans (congrFun (f24 2 (by decide)) 0)) ((congrFun (f38 2 (by decide)) 1).trans (congrFun (f24 2 (by decide)) 1)) ((congrFun (f38 2 (by decide)) 2).trans (congrFun (f24 2 (by decide)) 2)) ((congrFun (f38 2 (by decide)) 3).trans (congrFun (f24 2 (by decide)) 3)) ((f38 6 (by decide)).trans (f24 6 (by decide))) hI2
  have I46 : jI9 σ36 := jI9_fr ((congrFun (f38 9 (by decide)) 0).trans (congrFun (f24 9 (by decide)) 0)) ((f38 10 (by decide)).trans (f24 10 (by decide))) ((f38 11 (by decide)).trans (f24 11 (by decide))) hI9
  have I47 : jI12 σ36 := jI12_fr ((congrFun (f38 12 (by decide)) 0).trans (congrFun (f24 12 (by decide)) 0)) ((f38 13 (by decide)).trans (f24 13 (by decide))) hI12
  have I48 : jI16 σ36 := jI16_fr ((congrFun (f38 16 (by decide)) 0).trans (congrFun (f24 16 (by decide)) 0)) ((congrFun (f38 16 (by decide)) 1).trans (congrFun (f24 16 (by decide)) 1)) ((congrFun (f38 16 (by decide)) 2).trans (congrFun (f24 16 (by decide)) 2)) ((f38 17 (by decide)).trans (f24 17 (by decide))) hI16
  have I49 : jI18 σ36 := jI18_fr ((congrFun (f38 18 (by decide)) 0).trans (congrFun (f24 18 (by decide)) 0)) ((f38 19 (by decide)).trans (f24 19 (by decide))) hI18
  have I50 : jI22 σ36 := jI22_fr ((congrFun (f38 22 (by decide)) 0).trans (congrFun (f24 22 (by decide)) 0)) ((f38 23 (by decide)).trans (f24 23 (by decide))) hI22
  have I51 : jI31 σ36 := jI31_fr (congrFun (f38 31 (by decide)) 8) (f38 33 (by decide)) (f38 36 (by decide)) I26
  have I52 : jI38 σ36 := jI38_fr ((congrFun (f38 38 (by decide)) 0).trans (congrFun (f24 38 (by decide)) 0)) ((congrFun (f38 38 (by decide)) 1).trans (congrFun (f24 38 (by decide)) 1)) ((f38 39 (by decide)).trans (f24 39 (by decide))) hI38
  have I53 : jI43 σ36 := jI43_fr ((congrFun (f38 43 (by decide)) 8).trans (congrFun (f24 43 (by decide)) 8)) hI43
  have I54 : jI47 σ36 := jI47_fr ((congrFun (f38 47 (by decide)) 0).trans (congrFun (f24 47 (by decide)) 0)) ((f38 49 (by decide)).trans (f24 49 (by decide))) hI47
  have I55 : jI50 σ36 := jI50_fr ((f38 52 (by decide)).trans (f24 52 (by decide))) hI50
  have I56 : jI101 σ36 := jI101_fr (f39 4 (by decide)) (f39 5 (by decide)) (f38 56 (by decide)) (f38 57 (by decide)) (f38 58 (by decide)) (f38 59 (by decide)) I27
  have I57 : jI102 σ36 := jI102_fr (f39 6 (by decide)) (f38 60 (by decide)) (f38 61 (by decide)) I28
  have I58 : jI104 σ36 := jI104_fr (f39 10 (by decide)) (f39 12 (by decide)) (f39 13 (by decide)) (f38 62 (by decide)) (f38 67 (by decide)) I30
  have I59 : jI105 σ36 := jI105_fr (f39 15 (by decide)) (f38 65 (by decide)) I31
  have I60 : jI106 σ36 := jI106_fr (f39 32 (by decide)) (f38 70 (by decide)) (f38 71 (by decide)) (f38 72 (by decide)) I32
  have I61 : jI107 σ36 := jI107_fr ((f39 12 (by decide)).trans (congrFun (f24 55 (by decide)) 12)) ((f39 47 (by decide)).trans (congrFun (f24 55 (by decide)) 47)) ((f38 80 (by decide)).trans (f24 80 (by decide))) hI107
  have I62 : jI109 σ36 := jI109_fr ((f39 50 (by decide)).trans (congrFun (f24 55 (by decide)) 50)) hI109
  have I63 : jI110 σ36 := jI110_fr ((f38 86 (by decide)).trans (f24 86 (by decide))) ((f38 87 (by decide)).trans (f24 87 (by decide))) hI110
  have I64 : jI111 σ36 := jI111_fr ((f38 79 (by decide)).trans (f24 79 (by decide))) hI111
  have p65 : jBook σ36 := jBook.fr ((f39 47 (by decide)).trans (congrFun (f24 55 (by decide)) 47)) ((f39 10 (by decide)).trans (congrFun (f24 55 (by decide)) 10)) ((f38 81 (by decide)).trans (f24 81 (by decide))) hs_jBook
  have z66 : (σ36 2 0).toInt = (σ 2 0).toInt := (congrArg Int32.toInt (show σ36 2 0 = (σ 2 0) from ((congrFun (f38 2 (by decide)) 0).trans (congrFun (f24 2 (by decide)) 0))))
  have z67 : (σ36 55 6).toInt = (σ 55 6).toInt := (congrArg Int32.toInt (show σ36 55 6 = (σ 55 6) from ((f39 6 (by decide)).trans (congrFun (f24 55 (by decide)) 6))))
  have z68 : (σ36 2 2).toInt = (σ 2 2).toInt := (congrArg Int32.toInt (show σ36 2 2 = (σ 2 2) from ((congrFun (f38 2 (by decide)) 2).trans (congrFun (f24 2 (by decide)) 2))))
  have z69 : (σ36 55 5).toInt = (σ 55 5).toInt := (congrArg Int32.toInt (show σ36 55 5 = (σ 55 5) from ((f39 5 (by decide)).trans (congrFun (f24 55 (by decide)) 5))))
  have z70 : (σ36 2 3).toInt = (σ 2 3).toInt := (congrArg Int32.toInt (show σ36 2 3 = (σ 2 3) from ((congrFun (f38 2 (by decide)) 3).trans (congrFun (f24 2 (by decide)) 3))))
  have z71 : (σ36 55 4).toInt = (σ 55 4).toInt := (congrArg Int32.toInt (show σ36 55 4 = (σ 55 4) from ((f39 4 (by decide)).trans (congrFun (f24 55 (by decide)) 4))))
  exact ih x44 σ36 τ _ _ ls (by have h9 := tx44; omega) ⟨I45, I46, I47, I48, I49, I50, I51, I52, I53, I54, I55, I56, I57, I40, I58, I59, I60, I61, I62, I63, I64, I41, p42, p65, (by omega), (by omega), (by omega), (show jNumP (σ36 3) (σ36 56) (σ36 6) (σ36 57) (σ36 7) (σ36 58) (σ36 8) (σ36 59) (σ36 55 6).toInt (σ36 55 4).toInt by rw [show σ36 3 = σ 3 from ((f38 3 (by decide)).trans (f24 3 (by decide))), show σ36 56 = σ 56 from ((f38 56 (by decide)).trans (f24 56 (by decide))), show σ36 6 = σ 6 from ((f38 6 (by decide)).trans (f24 6 (by decide))), show σ36 57 = σ 57 from ((f38 57 (by decide)).trans (f24 57 (by decide))), show σ36 7 = σ 7 from ((f38 7 (by decide)).trans (f24 7 (by decide))), show σ36 58 = σ 58 from ((f38 58 (by decide)).trans (f24 58 (by decide))), show σ36 8 = σ 8 from ((f38 8 (by decide)).trans (f24 8 (by decide))), show σ36 59 = σ 59 from ((f38 59 (by decide)).trans (f24 59 (by decide))), show (σ36 55 6).toInt = (σ 55 6).toInt from by omega, show (σ36 55 4).toInt = (σ 55 4).toInt from by omega]; exact hr0)⟩ hP hS (lv_sub hl [0, 1, 2, 3] rfl)
set_option maxHeartbeats 4000000 in
set_option maxRecDepth 100000 in
theorem law_case_16 {p : Program} {e : Env} {s : State} {m : MethodId} {below : List Frame} {meth : Method} {c : Code} (l : Launch) {b L : Nat} {xs : Nat → Int32} {D : va_G} {cI cL : ClassId} {ad zz : Nat → Nat} (C0 : lw_At p s m meth c b L xs) (hJ : jD ad) (hA : ∀ q, jA ad q → s.heap.size ≤ q) (hK : jK D cI cL s) (hZ : jZ zz (fun q : Nat => s.heap.size ≤ q) s s.heap) {x0 : Int32} (hx0 : 0 ≤ x0.toInt) (hxL : x0.toInt + 6 ≤ (L : Int)) (hL : L ≤ 384) {σ : Nat → Nat → Int32} {τ : Nat → Nat → Int64} {H : Heap} {locs : List Loc} (hS : va_S (fun q : Nat => s.heap.size ≤ q) s.heap H locs) {ls : Array Slot} (hAll : jAll σ τ) (hP : jH D cI cL ad σ τ H) (hl : lv_has ls 4 [(3, .int x0), (2, .ref (ad 55)), (1, .ref (ad 0)), (0, .ref b)]) (ih : ∀ (x1 : Int32) (σ : Nat → Nat → Int32) (τ : Nat → Nat → Int64) (H : Heap) (locs : List Loc) (ls : Array Slot), x1.toInt = x0.toInt + 6 → jAll σ τ → jH D cI cL ad σ τ H → va_S (fun q : Nat => s.heap.size ≤ q) s.heap H locs → lv_has ls 4 [(3, .int x1), (2, .ref (ad 55)), (1, .ref (ad 0)), (0, .ref b)] → W p l e room_1 s m #[Value.ref b] below meth c H locs 90 348600 (lw_Z below #[Value.ref b] s) (F0 m 18 ls [])) : W p l e room_1 s m #[Value.ref b] below meth c H locs 90 348600 (lw_Z below #[Value.ref b] s) (F0 m 694 ls []) := by
  obtain ⟨hx, hb, hr, hml, hown, hts0, hX, hbl, hlocks, hgv⟩ := C0
  have hts : ∀ w ∈ wsL_law, w.before #[Value.ref b] s = true := fun w h => hts0 w (wsL_law_in w h)
  have hbA : ¬ (fun q : Nat => s.heap.size ≤ q) b := Nat.not_le.mpr hbl
  have hown : s.vm.findClass RL = some m.cls := hown
  obtain ⟨hI2, hI9, hI12, hI16, hI18, hI22, hI31, hI38, hI43, hI47, hI50, hI101, hI102, hI103, hI104, hI105, hI106, hI107, hI109, hI110, hI111, hI119, hs_jKept, hs_jBook, ht0, ht1, ht2, hr0⟩ := hAll
  have hL9 : (L : Int) ≤ 384 := by omega
  obtain ⟨i1, i2, i3, i4, i5, w6⟩ : (0 ≤ (σ 2 0).toInt ∧ (σ 2 0).toInt ≤ 4) ∧ (0 ≤ (σ 2 1).toInt ∧ (σ 2 1).toInt ≤ 3) ∧ (0 ≤ (σ 2 2).toInt) ∧ (0 ≤ (σ 2 3).toInt) ∧ ((σ 2 2).toInt + (σ 2 3).toInt ≤ 40) ∧ (∀ k : Nat, k < 40 → 0 ≤ (σ 6 k).toInt ∧ (σ 6 k).toInt ≤ 67) := id hI2
  obtain ⟨i7, i8, i9, w10, w11, w12, w13⟩ : (0 ≤ (σ 55 5).toInt) ∧ ((σ 55 5).toInt ≤ (σ 55 4).toInt) ∧ ((σ 55 4).toInt ≤ 40) ∧ (∀ k : Nat, k < 68 → (-200) ≤ (σ 56 k).toInt ∧ (σ 56 k).toInt ≤ 500) ∧ (∀ k : Nat, k < 40 → 0 ≤ (σ 57 k).toInt ∧ (σ 57 k).toInt ≤ 67) ∧ (∀ k : Nat, k < 40 → (-200) ≤ (σ 58 k).toInt ∧ (σ 58 k).toInt ≤ 500) ∧ (∀ k : Nat, k < 40 → (-200) ≤ (σ 59 k).toInt ∧ (σ 59 k).toInt ≤ 500) := id hI101
  obtain ⟨i14, w15, w16⟩ : (0 ≤ (σ 55 6).toInt ∧ (σ 55 6).toInt ≤ 4) ∧ (∀ k : Nat, k < 4 → 0 ≤ (σ 60 k).toInt ∧ (σ 60 k).toInt ≤ 50) ∧ (∀ k : Nat, k < 4 → 0 ≤ (σ 61 k).toInt ∧ (σ 61 k).toInt ≤ 20) := id hI102
  refine lv_aload_n hx hb dL_law_694 rfl (lv_at hl 2 rfl) ?_
  refine lv_aload_n hx hb dL_law_695 rfl (lv_at hl 3 rfl) ?_
  refine lv_iload_n hx hb dL_law_696 rfl (lv_at hl 0 rfl) ?_
  refine lv_iconst (v := 1) hx hb dL_law_697 (by decide) ?_
  have g17 := jrg (rfl : x0.toInt = x0.toInt)
  refine lv_iadd hx hb dL_law_698 ?_
  refine lv_topi (fun x18 ex18 => ?_)
  have tx18 : x18.toInt = x0.toInt + 1 := (jadd ex18 rfl jz_1 (by omega) (by omega)).trans (by omega)
  refine va_sld hx hb hX hbl hbA hS (jin tx18 (by omega) (by omega)) dL_law_699 ?_
  have g19 := jrg (rfl : (xs x18.toNatClampNeg).toInt = (xs x18.toNatClampNeg).toInt)
  refine jcallV (As := [.int (xs x18.toNatClampNeg)]) (rest := []) ⟨hx, hb, hml, hown, hts⟩ hK hP hA hS hZ (c_X11_kept l D cI cL ad zz hJ σ τ (xs x18.toNatClampNeg) ((xs x18.toNatClampNeg).toInt) rfl hI2 hI16 hI22 hI31) cw_RL_81 (jc_0 cI cL ad σ τ) rfl ⟨Nat.le_of_ble_eq_true rfl, Nat.le_of_ble_eq_true rfl⟩ rfl rfl rfl hl.1 rfl (Nat.le_of_ble_eq_true rfl) dL_law_700 ⟨Nat.le_of_ble_eq_true rfl, Nat.le_of_ble_eq_true rfl⟩ (fun r21 σ20 τ20 H locs h20 hP hS => ?_)
  obtain ⟨rfl, f22, f23, I24, h20⟩ := h20
  refine lv_pop hx hb dL_law_703 rfl ?_
  refine lv_aload_n hx hb dL_law_704 rfl (lv_at hl 1 rfl) ?_
  refine lv_aload_n hx hb dL_law_705 rfl (lv_at hl 3 rfl) ?_
  refine lv_iload_n hx hb dL_law_706 rfl (lv_at hl 0 rfl) ?_
  refine lv_iconst (v := 1) hx hb dL_law_707 (by decide) ?_
  refine lv_iadd hx hb dL_law_708 ?_
  refine jtopr ex18.symm ?_
  refine va_sld hx hb hX hbl hbA hS (jin tx18 (by omega) (by omega)) dL_law_709 ?_
  have I25 : jI101 σ20 := jI101_fr (congrFun (f22 55 (by decide)) 4) (congrFun (f22 55 (by decide)) 5) (f22 56 (by decide)) (f22 57 (by decide)) (f22 58 (by decide)) (f22 59 (by decide)) hI101
  have I26 : jI102 σ20 := jI102_fr (congrFun (f22 55 (by decide)) 6) (f22 60 (by decide)) (f22 61 (by decide)) hI102
  have I27 : jI103 σ20 := jI103_fr (congrFun (f22 55 (by decide)) 9) hI103
  have I28 : jI104 σ20 := jI104_fr (congrFun (f22 55 (by decide)) 10) (congrFun (f22 55 (by decide)) 12) (congrFun (f22 55 (by decide)) 13) (f22 62 (by decide)) (f22 67 (by decide)) hI104
  have I29 : jI105 σ20 := jI105_fr (congrFun (f22 55 (by decide)) 15) (f22 65 (by decide)) hI105
  have I30 : jI106 σ20 := jI106_fr (congrFun (f22 55 (by decide)) 32) (f22 70 (by decide)) (f22 71 (by decide)) (f22 72 (by decide)) hI106
  have I31 : jI119 σ20 := jI119_fr (f22 68 (by decide)) hI119
  have p32 : jKept σ20 := jKept.fr (f22 75 (by decide)) (f22 76 (by decide)) (f22 77 (by decide)) hs_jKept
  refine jcallV (As := [.int (xs x18.toNatClampNeg)]) (rest := []) ⟨hx, hb, hml, hown, hts⟩ hK hP hA hS hZ (c_X12_kept l D cI cL ad zz hJ σ20 τ (xs x18.toNatClampNeg) ((xs x18.toNatClampNeg).toInt) rfl I25 I26 I27 I28 I29 I30 I31 p32) cw_RL_84 (jc_55 cI cL ad σ20 τ) rfl ⟨Nat.le_of_ble_eq_true rfl, Nat.le_of_ble_eq_true rfl⟩ rfl rfl rfl hl.1 rfl (Nat.le_of_ble_eq_true rfl) dL_law_710 ⟨Nat.le_of_ble_eq_true rfl, Nat.le_of_ble_eq_true rfl⟩ (fun r34 σ33 τ33 H locs h33 hP hS => ?_)
  obtain ⟨rfl, f35, f36, I37, p38, h33⟩ := h33
  refine lv_pop hx hb dL_law_713 rfl ?_
  refine lv_goto (tgt := 1357) hx hb dL_law_714 (by decide) ?_
  obtain ⟨x39, ex39⟩ : ∃ y : Int32, y = x0 + 6 := ⟨_, rfl⟩
  have tx39 : x39.toInt = x0.toInt + 6 := (jadd ex39 rfl jz_6 (by omega) (by omega)).trans (by omega)
  refine lv_iinc (v := x39) (lv' := [(3, .int x39), (2, .ref (ad 55)), (1, .ref (ad 0)), (0, .ref b)]) hx hb dL_law_1357 hl (k := 0) rfl (by rw [ex39]; rfl) (by decide) rfl (fun ls hl => ?_)
  refine lv_goto (tgt := 18) hx hb dL_law_1360 (by decide) ?_
  have I40 : jI2 σ33 := jI2_fr ((congrFun (f35 2 (by decide)) 0).trans (congrFun (f22 2 (by decide)) 0)) ((congrFun (f35 2 (by decide)) 1).trans (congrFun (f22 2 (by decide)) 1)) ((congrFun (f35 2 (by decide)) 2).trans (congrFun (f22 2 (by decide)) 2)) ((congrFun (f35 2 (by decide)) 3).trans (congrFun (f22 2 (by decide)) 3)) ((f35 6 (by decide)).trans (f22 6 (by decide))) hI2
  have I41 : jI9 σ33 := jI9_fr ((congrFun (f35 9 (by decide)) 0).trans (congrFun (f22 9 (by decide)) 0)) ((f35 10 (by decide)).trans (f22 10 (by decide))) ((f35 11 (by decide)).trans (f22 11 (by decide))) hI9
  have I42 : jI12 σ33 := jI12_fr ((congrFun (f35 12 (by decide)) 0).trans (congrFun (f22 12 (by decide)) 0)) ((f35 13 (by decide)).trans (f22 13 (by decide))) hI12
  have I43 : jI16 σ33 := jI16_fr ((congrFun (f35 16 (by decide)) 0).trans (congrFun (f22 16 (by decide)) 0)) ((congrFun (f35 16 (by decide)) 1).trans (congrFun (f22 16 (by decide)) 1)) ((congrFun (f35 16 (by decide)) 2).trans (congrFun (f22 16 (by decide)) 2)) ((f35 17 (by decide)).trans (f22 17 (by decide))) hI16
  have I44 : jI18 σ33 := jI18_fr ((congrFun (f35 18 (by decide)) 0).trans (congrFun (f22 18 (by decide)) 0)) ((f35 19 (by decide)).trans (f22 19 (by decide))) hI18
  have I45 : jI22 σ33 := jI22_fr ((congrFun (f35 22 (by decide)) 0).trans (congrFun (f22 22 (by decide)) 0)) ((f35 23 (by decide)).trans (f22 23 (by decide))) hI22
  have I46 : jI31 σ33 := jI31_fr (congrFun (f35 31 (by decide)) 8) (f35 33 (by decide)) (f35 36 (by decide)) I24
  have I47 : jI38 σ33 := jI38_fr ((congrFun (f35 38 (by decide)) 0).trans (congrFun (f22 38 (by decide)) 0)) ((congrFun (f35 38 (by decide)) 1).trans (congrFun (f22 38 (by decide)) 1)) ((f35 39 (by decide)).trans (f22 39 (by decide))) hI38
  have I48 : jI43 σ33 := jI43_fr ((congrFun (f35 43 (by decide)) 8).trans (congrFun (f22 43 (by decide)) 8)) hI43
  have I49 : jI47 σ33 := jI47_fr ((congrFun (f35 47 (by decide)) 0).trans (congrFun (f22 47 (by decide)) 0)) ((f35 49 (by decide)).trans (f22 49 (by decide))) hI47
  have I50 : jI50 σ33 := jI50_fr ((f35 52 (by decide)).trans (f22 52 (by decide))) hI50
  have I51 : jI101 σ33 := jI101_fr (f36 4 (by decide)) (f36 5 (by decide)) (f35 56 (by decide)) (f35 57 (by decide)) (f35 58 (by decide)) (f35 59 (by decide)) I25
  have I52 : jI102 σ33 := jI102_fr (f36 6 (by decide)) (f35 60 (by decide)) (f35 61 (by decide)) I26
  have I53 : jI103 σ33 := jI103_fr (f36 9 (by decide)) I27
  have I54 : jI104 σ33 := jI104_fr (f36 10 (by decide)) (f36 12 (by decide)) (f36 13 (by decide)) (f35 62 (by decide)) (f35 67 (by decide)) I28
  have I55 : jI105 σ33 := jI105_fr (f36 15 (by decide)) (f35 65 (by decide)) I29
  have I56 : jI106 σ33 := jI106_fr (f36 32 (by decide)) (f35 70 (by decide)) (f35 71 (by decide)) (f35 72 (by decide)) I30
  have I57 : jI107 σ33 := jI107_fr ((f36 12 (by decide)).trans (congrFun (f22 55 (by decide)) 12)) ((f36 47 (by decide)).trans (congrFun (f22 55 (by decide)) 47)) ((f35 80 (by decide)).trans (f22 80 (by decide))) hI107
  have I58 : jI109 σ33 := jI109_fr ((f36 50 (by decide)).trans (congrFun (f22 55 (by decide)) 50)) hI109
  have I59 : jI110 σ33 := jI110_fr ((f35 86 (by decide)).trans (f22 86 (by decide))) ((f35 87 (by decide)).trans (f22 87 (by decide))) hI110
  have I60 : jI111 σ33 := jI111_fr ((f35 79 (by decide)).trans (f22 79 (by decide))) hI111
  have p61 : jBook σ33 := jBook.fr ((f36 47 (by decide)).trans (congrFun (f22 55 (by decide)) 47)) ((f36 10 (by decide)).trans (congrFun (f22 55 (by decide)) 10)) ((f35 81 (by decide)).trans (f22 81 (by decide))) hs_jBook
  have z62 : (σ33 2 0).toInt = (σ 2 0).toInt := (congrArg Int32.toInt (show σ33 2 0 = (σ 2 0) from ((congrFun (f35 2 (by decide)) 0).trans (congrFun (f22 2 (by decide)) 0))))
  have z63 : (σ33 55 6).toInt = (σ 55 6).toInt := (congrArg Int32.toInt (show σ33 55 6 = (σ 55 6) from ((f36 6 (by decide)).trans (congrFun (f22 55 (by decide)) 6))))
  have z64 : (σ33 2 2).toInt = (σ 2 2).toInt := (congrArg Int32.toInt (show σ33 2 2 = (σ 2 2) from ((congrFun (f35 2 (by decide)) 2).trans (congrFun (f22 2 (by decide)) 2))))
  have z65 : (σ33 55 5).toInt = (σ 55 5).toInt := (congrArg Int32.toInt (show σ33 55 5 = (σ 55 5) from ((f36 5 (by decide)).trans (congrFun (f22 55 (by decide)) 5))))
  have z66 : (σ33 2 3).toInt = (σ 2 3).toInt := (congrArg Int32.toInt (show σ33 2 3 = (σ 2 3) from ((congrFun (f35 2 (by decide)) 3).trans (congrFun (f22 2 (by decide)) 3))))
  have z67 : (σ33 55 4).toInt = (σ 55 4).toInt := (congrArg Int32.toInt (show σ33 55 4 = (σ 55 4) from ((f36 4 (by decide)).trans (congrFun (f22 55 (by decide)) 4))))
  exact ih x39 σ33 τ _ _ ls (by have h9 := tx39; omega) ⟨I40, I41, I42, I43, I44, I45, I46, I47, I48, I49, I50, I51, I52, I53, I54, I55, I56, I57, I58, I59, I60, I37, p38, p61, (by omega), (by omega), (by omega), (show jNumP (σ33 3) (σ33 56) (σ33 6) (σ33 57) (σ33 7) (σ33 58) (σ33 8) (σ33 59) (σ33 55 6).toInt (σ33 55 4).toInt by rw [show σ33 3 = σ 3 from ((f35 3 (by decide)).trans (f22 3 (by decide))), show σ33 56 = σ 56 from ((f35 56 (by decide)).trans (f22 56 (by decide))), show σ33 6 = σ 6 from ((f35 6 (by decide)).trans (f22 6 (by decide))), show σ33 57 = σ 57 from ((f35 57 (by decide)).trans (f22 57 (by decide))), show σ33 7 = σ 7 from ((f35 7 (by decide)).trans (f22 7 (by decide))), show σ33 58 = σ 58 from ((f35 58 (by decide)).trans (f22 58 (by decide))), show σ33 8 = σ 8 from ((f35 8 (by decide)).trans (f22 8 (by decide))), show σ33 59 = σ 59 from ((f35 59 (by decide)).trans (f22 59 (by decide))), show (σ33 55 6).toInt = (σ 55 6).toInt from by omega, show (σ33 55 4).toInt = (σ 55 4).toInt from by omega]; exact hr0)⟩ hP hS (lv_sub hl [0, 1, 2, 3] rfl)
set_option maxHeartbeats 4000000 in
set_option maxRecDepth 100000 in
theorem law_case_17 {p : Program} {e : Env} {s : State} {m : MethodId} {below : List Frame} {meth : Method} {c : Code} (l : Launch) {b L : Nat} {xs : Nat → Int32} {D : va_G} {cI cL : ClassId} {ad zz : Nat → Nat} (C0 : lw_At p s m meth c b L xs) (hJ : jD ad) (hA : ∀ q, jA ad q → s.heap.size ≤ q) (hK : jK D cI cL s) (hZ : jZ zz (fun q : Nat => s.heap.size ≤ q) s s.heap) {x0 : Int32} (hx0 : 0 ≤ x0.toInt) (hxL : x0.toInt + 6 ≤ (L : Int)) (hL : L ≤ 384) {σ : Nat → Nat → Int32} {τ : Nat → Nat → Int64} {H : Heap} {locs : List Loc} (hS : va_S (fun q : Nat => s.heap.size ≤ q) s.heap H locs) {ls : Array Slot} (hAll : jAll σ τ) (hP : jH D cI cL ad σ τ H) (hl : lv_has ls 4 [(3, .int x0), (2, .ref (ad 55)), (1, .ref (ad 0)), (0, .ref b)]) (ih : ∀ (x1 : Int32) (σ : Nat → Nat → Int32) (τ : Nat → Nat → Int64) (H : Heap) (locs : List Loc) (ls : Array Slot), x1.toInt = x0.toInt + 6 → jAll σ τ → jH D cI cL ad σ τ H → va_S (fun q : Nat => s.heap.size ≤ q) s.heap H locs → lv_has ls 4 [(3, .int x1), (2, .ref (ad 55)), (1, .ref (ad 0)), (0, .ref b)] → W p l e room_1 s m #[Value.ref b] below meth c H locs 90 348600 (lw_Z below #[Value.ref b] s) (F0 m 18 ls [])) : W p l e room_1 s m #[Value.ref b] below meth c H locs 90 348600 (lw_Z below #[Value.ref b] s) (F0 m 717 ls []) := by
  obtain ⟨hx, hb, hr, hml, hown, hts0, hX, hbl, hlocks, hgv⟩ := C0
  have hts : ∀ w ∈ wsL_law, w.before #[Value.ref b] s = true := fun w h => hts0 w (wsL_law_in w h)
  have hbA : ¬ (fun q : Nat => s.heap.size ≤ q) b := Nat.not_le.mpr hbl
  have hown : s.vm.findClass RL = some m.cls := hown
  obtain ⟨hI2, hI9, hI12, hI16, hI18, hI22, hI31, hI38, hI43, hI47, hI50, hI101, hI102, hI103, hI104, hI105, hI106, hI107, hI109, hI110, hI111, hI119, hs_jKept, hs_jBook, ht0, ht1, ht2, hr0⟩ := hAll
  have hL9 : (L : Int) ≤ 384 := by omega
  obtain ⟨i1, i2, i3, i4, i5, w6⟩ : (0 ≤ (σ 2 0).toInt ∧ (σ 2 0).toInt ≤ 4) ∧ (0 ≤ (σ 2 1).toInt ∧ (σ 2 1).toInt ≤ 3) ∧ (0 ≤ (σ 2 2).toInt) ∧ (0 ≤ (σ 2 3).toInt) ∧ ((σ 2 2).toInt + (σ 2 3).toInt ≤ 40) ∧ (∀ k : Nat, k < 40 → 0 ≤ (σ 6 k).toInt ∧ (σ 6 k).toInt ≤ 67) := id hI2
  obtain ⟨i7, i8, i9, w10, w11, w12, w13⟩ : (0 ≤ (σ 55 5).toInt) ∧ ((σ 55 5).toInt ≤ (σ 55 4).toInt) ∧ ((σ 55 4).toInt ≤ 40) ∧ (∀ k : Nat, k < 68 → (-200) ≤ (σ 56 k).toInt ∧ (σ 56 k).toInt ≤ 500) ∧ (∀ k : Nat, k < 40 → 0 ≤ (σ 57 k).toInt ∧ (σ 57 k).toInt ≤ 67) ∧ (∀ k : Nat, k < 40 → (-200) ≤ (σ 58 k).toInt ∧ (σ 58 k).toInt ≤ 500) ∧ (∀ k : Nat, k < 40 → (-200) ≤ (σ 59 k).toInt ∧ (σ 59 k).toInt ≤ 500) := id hI101
  obtain ⟨i14, w15, w16⟩ : (0 ≤ (σ 55 6).toInt ∧ (σ 55 6).toInt ≤ 4) ∧ (∀ k : Nat, k < 4 → 0 ≤ (σ 60 k).toInt ∧ (σ 60 k).toInt ≤ 50) ∧ (∀ k : Nat, k < 4 → 0 ≤ (σ 61 k).toInt ∧ (σ 61 k).toInt ≤ 20) := id hI102
  refine lv_aload_n hx hb dL_law_717 rfl (lv_at hl 2 rfl) ?_
  refine lv_aload_n hx hb dL_law_718 rfl (lv_at hl 3 rfl) ?_
  refine lv_iload_n hx hb dL_law_719 rfl (lv_at hl 0 rfl) ?_
  refine lv_iconst (v := 1) hx hb dL_law_720 (by decide) ?_
  have g17 := jrg (rfl : x0.toInt = x0.toInt)
  refine lv_iadd hx hb dL_law_721 ?_
  refine lv_topi (fun x18 ex18 => ?_)
  have tx18 : x18.toInt = x0.toInt + 1 := (jadd ex18 rfl jz_1 (by omega) (by omega)).trans (by omega)
  refine va_sld hx hb hX hbl hbA hS (jin tx18 (by omega) (by omega)) dL_law_722 ?_
  have g19 := jrg (rfl : (xs x18.toNatClampNeg).toInt = (xs x18.toNatClampNeg).toInt)
  refine jcallV (As := [.int (xs x18.toNatClampNeg)]) (rest := []) ⟨hx, hb, hml, hown, hts⟩ hK hP hA hS hZ (c_X11_theirs l D cI cL ad zz hJ σ τ (xs x18.toNatClampNeg) ((xs x18.toNatClampNeg).toInt) rfl hI2 hI16 hI22 hI31) cw_RL_85 (jc_0 cI cL ad σ τ) rfl ⟨Nat.le_of_ble_eq_true rfl, Nat.le_of_ble_eq_true rfl⟩ rfl rfl rfl hl.1 rfl (Nat.le_of_ble_eq_true rfl) dL_law_723 ⟨Nat.le_of_ble_eq_true rfl, Nat.le_of_ble_eq_true rfl⟩ (fun r21 σ20 τ20 H locs h20 hP hS => ?_)
  obtain ⟨rfl, f22, f23, I24, h20⟩ := h20
  refine lv_pop hx hb dL_law_726 rfl ?_
  refine lv_aload_n hx hb dL_law_727 rfl (lv_at hl 1 rfl) ?_
  refine lv_aload_n hx hb dL_law_728 rfl (lv_at hl 3 rfl) ?_
  refine lv_iload_n hx hb dL_law_729 rfl (lv_at hl 0 rfl) ?_
  refine lv_iconst (v := 1) hx hb dL_law_730 (by decide) ?_
  refine lv_iadd hx hb dL_law_731 ?_
  refine jtopr ex18.symm ?_
  refine va_sld hx hb hX hbl hbA hS (jin tx18 (by omega) (by omega)) dL_law_732 ?_
  have I25 : jI101 σ20 := jI101_fr (congrFun (f22 55 (by decide)) 4) (congrFun (f22 55 (by decide)) 5) (f22 56 (by decide)) (f22 57 (by decide)) (f22 58 (by decide)) (f22 59 (by decide)) hI101
  have I26 : jI102 σ20 := jI102_fr (congrFun (f22 55 (by decide)) 6) (f22 60 (by decide)) (f22 61 (by decide)) hI102
  have I27 : jI103 σ20 := jI103_fr (congrFun (f22 55 (by decide)) 9) hI103
  have I28 : jI104 σ20 := jI104_fr (congrFun (f22 55 (by decide)) 10) (congrFun (f22 55 (by decide)) 12) (congrFun (f22 55 (by decide)) 13) (f22 62 (by decide)) (f22 67 (by decide)) hI104
  have I29 : jI105 σ20 := jI105_fr (congrFun (f22 55 (by decide)) 15) (f22 65 (by decide)) hI105
  have I30 : jI106 σ20 := jI106_fr (congrFun (f22 55 (by decide)) 32) (f22 70 (by decide)) (f22 71 (by decide)) (f22 72 (by decide)) hI106
  have I31 : jI119 σ20 := jI119_fr (f22 68 (by decide)) hI119
  have I32 : jI111 σ20 := jI111_fr (f22 79 (by decide)) hI111
  have p33 : jKept σ20 := jKept.fr (f22 75 (by decide)) (f22 76 (by decide)) (f22 77 (by decide)) hs_jKept
  refine jcallV (As := [.int (xs x18.toNatClampNeg)]) (rest := []) ⟨hx, hb, hml, hown, hts⟩ hK hP hA hS hZ (c_X12_theirs l D cI cL ad zz hJ σ20 τ (xs x18.toNatClampNeg) ((xs x18.toNatClampNeg).toInt) rfl I25 I26 I27 I28 I29 I30 I31 I32 p33) cw_RL_88 (jc_55 cI cL ad σ20 τ) rfl ⟨Nat.le_of_ble_eq_true rfl, Nat.le_of_ble_eq_true rfl⟩ rfl rfl rfl hl.1 rfl (Nat.le_of_ble_eq_true rfl) dL_law_733 ⟨Nat.le_of_ble_eq_true rfl, Nat.le_of_ble_eq_true rfl⟩ (fun r35 σ34 τ34 H locs h34 hP hS => ?_)
  obtain ⟨rfl, f36, f37, I38, I39, I40, p41, h34⟩ := h34
  refine lv_pop hx hb dL_law_736 rfl ?_
  refine lv_goto (tgt := 1357) hx hb dL_law_737 (by decide) ?_
  obtain ⟨x42, ex42⟩ : ∃ y : Int32, y = x0 + 6 := ⟨_, rfl⟩
  have tx42 : x42.toInt = x0.toInt + 6 := (jadd ex42 rfl jz_6 (by omega) (by omega)).trans (by omega)
  refine lv_iinc (v := x42) (lv' := [(3, .int x42), (2, .ref (ad 55)), (1, .ref (ad 0)), (0, .ref b)]) hx hb dL_law_1357 hl (k := 0) rfl (by rw [ex42]; rfl) (by decide) rfl (fun ls hl => ?_)
  refine lv_goto (tgt := 18) hx hb dL_law_1360 (by decide) ?_
  have I43 : jI2 σ34 := jI2_fr ((congrFun (f36 2 (by decide)) 0).trans (congrFun (f22 2 (by decide)) 0)) ((congrFun (f36 2 (by decide)) 1).trans (congrFun (f22 2 (by decide)) 1)) ((congrFun (f36 2 (by decide)) 2).trans (congrFun (f22 2 (by decide)) 2)) ((congrFun (f36 2 (by decide)) 3).trans (congrFun (f22 2 (by decide)) 3)) ((f36 6 (by decide)).trans (f22 6 (by decide))) hI2
  have I44 : jI9 σ34 := jI9_fr ((congrFun (f36 9 (by decide)) 0).trans (congrFun (f22 9 (by decide)) 0)) ((f36 10 (by decide)).trans (f22 10 (by decide))) ((f36 11 (by decide)).trans (f22 11 (by decide))) hI9
  have I45 : jI12 σ34 := jI12_fr ((congrFun (f36 12 (by decide)) 0).trans (congrFun (f22 12 (by decide)) 0)) ((f36 13 (by decide)).trans (f22 13 (by decide))) hI12
  have I46 : jI16 σ34 := jI16_fr ((congrFun (f36 16 (by decide)) 0).trans (congrFun (f22 16 (by decide)) 0)) ((congrFun (f36 16 (by decide)) 1).trans (congrFun (f22 16 (by decide)) 1)) ((congrFun (f36 16 (by decide)) 2).trans (congrFun (f22 16 (by decide)) 2)) ((f36 17 (by decide)).trans (f22 17 (by decide))) hI16
  have I47 : jI18 σ34 := jI18_fr ((congrFun (f36 18 (by decide)) 0).trans (congrFun (f22 18 (by decide)) 0)) ((f36 19 (by decide)).trans (f22 19 (by decide))) hI18
  have I48 : jI22 σ34 := jI22_fr ((congrFun (f36 22 (by decide)) 0).trans (congrFun (f22 22 (by decide)) 0)) ((f36 23 (by decide)).trans (f22 23 (by decide))) hI22
  have I49 : jI31 σ34 := jI31_fr (congrFun (f36 31 (by decide)) 8) (f36 33 (by decide)) (f36 36 (by decide)) I24
  have I50 : jI38 σ34 := jI38_fr ((congrFun (f36 38 (by decide)) 0).trans (congrFun (f22 38 (by decide)) 0)) ((congrFun (f36 38 (by decide)) 1).trans (congrFun (f22 38 (by decide)) 1)) ((f36 39 (by decide)).trans (f22 39 (by decide))) hI38
  have I51 : jI43 σ34 := jI43_fr ((congrFun (f36 43 (by decide)) 8).trans (congrFun (f22 43 (by decide)) 8)) hI43
  have I52 : jI47 σ34 := jI47_fr ((congrFun (f36 47 (by decide)) 0).trans (congrFun (f22 47 (by decide)) 0)) ((f36 49 (by decide)).trans (f22 49 (by decide))) hI47
  have I53 : jI50 σ34 := jI50_fr ((f36 52 (by decide)).trans (f22 52 (by decide))) hI50
  have I54 : jI101 σ34 := jI101_fr (f37 4 (by decide)) (f37 5 (by decide)) (f36 56 (by decide)) (f36 57 (by decide)) (f36 58 (by decide)) (f36 59 (by decide)) I25
  have I55 : jI102 σ34 := jI102_fr (f37 6 (by decide)) (f36 60 (by decide)) (f36 61 (by decide)) I26
  have I56 : jI103 σ34 := jI103_fr (f37 9 (by decide)) I27
  have I57 : jI105 σ34 := jI105_fr (f37 15 (by decide)) (f36 65 (by decide)) I29
  have I58 : jI106 σ34 := jI106_fr (f37 32 (by decide)) (f36 70 (by decide)) (f36 71 (by decide)) (f36 72 (by decide)) I30
  have I59 : jI107 σ34 := jI107_fr ((f37 12 (by decide)).trans (congrFun (f22 55 (by decide)) 12)) ((f37 47 (by decide)).trans (congrFun (f22 55 (by decide)) 47)) ((f36 80 (by decide)).trans (f22 80 (by decide))) hI107
  have I60 : jI109 σ34 := jI109_fr ((f37 50 (by decide)).trans (congrFun (f22 55 (by decide)) 50)) hI109
  have I61 : jI110 σ34 := jI110_fr ((f36 86 (by decide)).trans (f22 86 (by decide))) ((f36 87 (by decide)).trans (f22 87 (by decide))) hI110
  have p62 : jBook σ34 := jBook.fr ((f37 47 (by decide)).trans (congrFun (f22 55 (by decide)) 47)) ((f37 10 (by decide)).trans (congrFun (f22 55 (by decide)) 10)) ((f36 81 (by decide)).trans (f22 81 (by decide))) hs_jBook
  have z63 : (σ34 2 0).toInt = (σ 2 0).toInt := (congrArg Int32.toInt (show σ34 2 0 = (σ 2 0) from ((congrFun (f36 2 (by decide)) 0).trans (congrFun (f22 2 (by decide)) 0))))
  have z64 : (σ34 55 6).toInt = (σ 55 6).toInt := (congrArg Int32.toInt (show σ34 55 6 = (σ 55 6) from ((f37 6 (by decide)).trans (congrFun (f22 55 (by decide)) 6))))
  have z65 : (σ34 2 2).toInt = (σ 2 2).toInt := (congrArg Int32.toInt (show σ34 2 2 = (σ 2 2) from ((congrFun (f36 2 (by decide)) 2).trans (congrFun (f22 2 (by decide)) 2))))
  have z66 : (σ34 55 5).toInt = (σ 55 5).toInt := (congrArg Int32.toInt (show σ34 55 5 = (σ 55 5) from ((f37 5 (by decide)).trans (congrFun (f22 55 (by decide)) 5))))
  have z67 : (σ34 2 3).toInt = (σ 2 3).toInt := (congrArg Int32.toInt (show σ34 2 3 = (σ 2 3) from ((congrFun (f36 2 (by decide)) 3).trans (congrFun (f22 2 (by decide)) 3))))
  have z68 : (σ34 55 4).toInt = (σ 55 4).toInt := (congrArg Int32.toInt (show σ34 55 4 = (σ 55 4) from ((f37 4 (by decide)).trans (congrFun (f22 55 (by decide)) 4))))
  exact ih x42 σ34 τ _ _ ls (by have h9 := tx42; omega) ⟨I43, I44, I45, I46, I47, I48, I49, I50, I51, I52, I53, I54, I55, I56, I38, I57, I58, I59, I60, I61, I39, I40, p41, p62, (by omega), (by omega), (by omega), (show jNumP (σ34 3) (σ34 56) (σ34 6) (σ34 57) (σ34 7) (σ34 58) (σ34 8) (σ34 59) (σ34 55 6).toInt (σ34 55 4).toInt by rw [show σ34 3 = σ 3 from ((f36 3 (by decide)).trans (f22 3 (by decide))), show σ34 56 = σ 56 from ((f36 56 (by decide)).trans (f22 56 (by decide))), show σ34 6 = σ 6 from ((f36 6 (by decide)).trans (f22 6 (by decide))), show σ34 57 = σ 57 from ((f36 57 (by decide)).trans (f22 57 (by decide))), show σ34 7 = σ 7 from ((f36 7 (by decide)).trans (f22 7 (by decide))), show σ34 58 = σ 58 from ((f36 58 (by decide)).trans (f22 58 (by decide))), show σ34 8 = σ 8 from ((f36 8 (by decide)).trans (f22 8 (by decide))), show σ34 59 = σ 59 from ((f36 59 (by decide)).trans (f22 59 (by decide))), show (σ34 55 6).toInt = (σ 55 6).toInt from by omega, show (σ34 55 4).toInt = (σ 55 4).toInt from by omega]; exact hr0)⟩ hP hS (lv_sub hl [0, 1, 2, 3] rfl)
set_option maxHeartbeats 4000000 in
set_option maxRecDepth 100000 in
theorem law_case_18 {p : Program} {e : Env} {s : State} {m : MethodId} {below : List Frame} {meth : Method} {c : Code} (l : Launch) {b L : Nat} {xs : Nat → Int32} {D : va_G} {cI cL : ClassId} {ad zz : Nat → Nat} (C0 : lw_At p s m meth c b L xs) (hJ : jD ad) (hA : ∀ q, jA ad q → s.heap.size ≤ q) (hK : jK D cI cL s) (hZ : jZ zz (fun q : Nat => s.heap.size ≤ q) s s.heap) {x0 : Int32} (hx0 : 0 ≤ x0.toInt) (hxL : x0.toInt + 6 ≤ (L : Int)) (hL : L ≤ 384) {σ : Nat → Nat → Int32} {τ : Nat → Nat → Int64} {H : Heap} {locs : List Loc} (hS : va_S (fun q : Nat => s.heap.size ≤ q) s.heap H locs) {ls : Array Slot} (hAll : jAll σ τ) (hP : jH D cI cL ad σ τ H) (hl : lv_has ls 4 [(3, .int x0), (2, .ref (ad 55)), (1, .ref (ad 0)), (0, .ref b)]) (ih : ∀ (x1 : Int32) (σ : Nat → Nat → Int32) (τ : Nat → Nat → Int64) (H : Heap) (locs : List Loc) (ls : Array Slot), x1.toInt = x0.toInt + 6 → jAll σ τ → jH D cI cL ad σ τ H → va_S (fun q : Nat => s.heap.size ≤ q) s.heap H locs → lv_has ls 4 [(3, .int x1), (2, .ref (ad 55)), (1, .ref (ad 0)), (0, .ref b)] → W p l e room_1 s m #[Value.ref b] below meth c H locs 90 348600 (lw_Z below #[Value.ref b] s) (F0 m 18 ls [])) : W p l e room_1 s m #[Value.ref b] below meth c H locs 90 348600 (lw_Z below #[Value.ref b] s) (F0 m 740 ls []) := by
  obtain ⟨hx, hb, hr, hml, hown, hts0, hX, hbl, hlocks, hgv⟩ := C0
  have hts : ∀ w ∈ wsL_law, w.before #[Value.ref b] s = true := fun w h => hts0 w (wsL_law_in w h)
  have hbA : ¬ (fun q : Nat => s.heap.size ≤ q) b := Nat.not_le.mpr hbl
  have hown : s.vm.findClass RL = some m.cls := hown
  obtain ⟨hI2, hI9, hI12, hI16, hI18, hI22, hI31, hI38, hI43, hI47, hI50, hI101, hI102, hI103, hI104, hI105, hI106, hI107, hI109, hI110, hI111, hI119, hs_jKept, hs_jBook, ht0, ht1, ht2, hr0⟩ := hAll
  have hL9 : (L : Int) ≤ 384 := by omega
  obtain ⟨i1, i2, i3, i4, i5, w6⟩ : (0 ≤ (σ 2 0).toInt ∧ (σ 2 0).toInt ≤ 4) ∧ (0 ≤ (σ 2 1).toInt ∧ (σ 2 1).toInt ≤ 3) ∧ (0 ≤ (σ 2 2).toInt) ∧ (0 ≤ (σ 2 3).toInt) ∧ ((σ 2 2).toInt + (σ 2 3).toInt ≤ 40) ∧ (∀ k : Nat, k < 40 → 0 ≤ (σ 6 k).toInt ∧ (σ 6 k).toInt ≤ 67) := id hI2
  obtain ⟨i7, i8, i9, w10, w11, w12, w13⟩ : (0 ≤ (σ 55 5).toInt) ∧ ((σ 55 5).toInt ≤ (σ 55 4).toInt) ∧ ((σ 55 4).toInt ≤ 40) ∧ (∀ k : Nat, k < 68 → (-200) ≤ (σ 56 k).toInt ∧ (σ 56 k).toInt ≤ 500) ∧ (∀ k : Nat, k < 40 → 0 ≤ (σ 57 k).toInt ∧ (σ 57 k).toInt ≤ 67) ∧ (∀ k : Nat, k < 40 → (-200) ≤ (σ 58 k).toInt ∧ (σ 58 k).toInt ≤ 500) ∧ (∀ k : Nat, k < 40 → (-200) ≤ (σ 59 k).toInt ∧ (σ 59 k).toInt ≤ 500) := id hI101
  obtain ⟨i14, w15, w16⟩ : (0 ≤ (σ 55 6).toInt ∧ (σ 55 6).toInt ≤ 4) ∧ (∀ k : Nat, k < 4 → 0 ≤ (σ 60 k).toInt ∧ (σ 60 k).toInt ≤ 50) ∧ (∀ k : Nat, k < 4 → 0 ≤ (σ 61 k).toInt ∧ (σ 61 k).toInt ≤ 20) := id hI102
  refine lv_aload_n hx hb dL_law_740 rfl (lv_at hl 2 rfl) ?_
  refine lv_aload_n hx hb dL_law_741 rfl (lv_at hl 3 rfl) ?_
  refine lv_iload_n hx hb dL_law_742 rfl (lv_at hl 0 rfl) ?_
  refine lv_iconst (v := 1) hx hb dL_law_743 (by decide) ?_
  have g17 := jrg (rfl : x0.toInt = x0.toInt)
  refine lv_iadd hx hb dL_law_744 ?_
  refine lv_topi (fun x18 ex18 => ?_)
  have tx18 : x18.toInt = x0.toInt + 1 := (jadd ex18 rfl jz_1 (by omega) (by omega)).trans (by omega)
  refine va_sld hx hb hX hbl hbA hS (jin tx18 (by omega) (by omega)) dL_law_745 ?_
  have g19 := jrg (rfl : (xs x18.toNatClampNeg).toInt = (xs x18.toNatClampNeg).toInt)
  refine lv_aload_n hx hb dL_law_746 rfl (lv_at hl 3 rfl) ?_
  refine lv_iload_n hx hb dL_law_747 rfl (lv_at hl 0 rfl) ?_
  refine lv_iconst (v := 2) hx hb dL_law_748 (by decide) ?_
  refine lv_iadd hx hb dL_law_749 ?_
  refine lv_topi (fun x20 ex20 => ?_)
  have tx20 : x20.toInt = x0.toInt + 2 := (jadd ex20 rfl jz_2 (by omega) (by omega)).trans (by omega)
  refine va_sld hx hb hX hbl hbA hS (jin tx20 (by omega) (by omega)) dL_law_750 ?_
  have g21 := jrg (rfl : (xs x20.toNatClampNeg).toInt = (xs x20.toNatClampNeg).toInt)
  refine jcallV (As := [.int (xs x18.toNatClampNeg), .int (xs x20.toNatClampNeg)]) (rest := []) ⟨hx, hb, hml, hown, hts⟩ hK hP hA hS hZ (c_X11_learn l D cI cL ad zz hJ σ τ (xs x18.toNatClampNeg) ((xs x18.toNatClampNeg).toInt) rfl (xs x20.toNatClampNeg) ((xs x20.toNatClampNeg).toInt) rfl hI2) cw_RL_89 (jc_0 cI cL ad σ τ) rfl ⟨Nat.le_of_ble_eq_true rfl, Nat.le_of_ble_eq_true rfl⟩ rfl rfl rfl hl.1 rfl (Nat.le_of_ble_eq_true rfl) dL_law_751 ⟨Nat.le_of_ble_eq_true rfl, Nat.le_of_ble_eq_true rfl⟩ (fun r23 σ22 τ22 H locs h22 hP hS => ?_)
  obtain ⟨rfl, f24, f25, I26, h22⟩ := h22
  obtain ⟨i27, i28, i29, i30, i31, w32⟩ : (0 ≤ (σ22 2 0).toInt ∧ (σ22 2 0).toInt ≤ 4) ∧ (0 ≤ (σ22 2 1).toInt ∧ (σ22 2 1).toInt ≤ 3) ∧ (0 ≤ (σ22 2 2).toInt) ∧ (0 ≤ (σ22 2 3).toInt) ∧ ((σ22 2 2).toInt + (σ22 2 3).toInt ≤ 40) ∧ (∀ k : Nat, k < 40 → 0 ≤ (σ22 6 k).toInt ∧ (σ22 6 k).toInt ≤ 67) := id I26
  have z33 : (σ22 2 0).toInt = (σ 2 0).toInt := (congrArg Int32.toInt (show σ22 2 0 = (σ 2 0) from (f25 0 (by decide))))
  have z34 : (σ22 2 1).toInt = (σ 2 1).toInt := (congrArg Int32.toInt (show σ22 2 1 = (σ 2 1) from (f25 1 (by decide))))
  rcases h22 with h35 | h36
  · obtain ⟨q41, k37, k38, k39, k40⟩ := h35
    have q41 := q41.symm
    subst q41
    refine lv_pop hx hb dL_law_754 rfl ?_
    refine lv_aload_n hx hb dL_law_755 rfl (lv_at hl 1 rfl) ?_
    refine lv_aload_n hx hb dL_law_756 rfl (lv_at hl 3 rfl) ?_
    refine lv_iload_n hx hb dL_law_757 rfl (lv_at hl 0 rfl) ?_
    refine lv_iconst (v := 1) hx hb dL_law_758 (by decide) ?_
    refine lv_iadd hx hb dL_law_759 ?_
    refine jtopr ex18.symm ?_
    refine va_sld hx hb hX hbl hbA hS (jin tx18 (by omega) (by omega)) dL_law_760 ?_
    refine lv_aload_n hx hb dL_law_761 rfl (lv_at hl 3 rfl) ?_
    refine lv_iload_n hx hb dL_law_762 rfl (lv_at hl 0 rfl) ?_
    refine lv_iconst (v := 2) hx hb dL_law_763 (by decide) ?_
    refine lv_iadd hx hb dL_law_764 ?_
    refine jtopr ex20.symm ?_
    refine va_sld hx hb hX hbl hbA hS (jin tx20 (by omega) (by omega)) dL_law_765 ?_
    have I42 : jI101 σ22 := jI101_fr (congrFun (f24 55 (by decide)) 4) (congrFun (f24 55 (by decide)) 5) (f24 56 (by decide)) (f24 57 (by decide)) (f24 58 (by decide)) (f24 59 (by decide)) hI101
    have I43 : jI102 σ22 := jI102_fr (congrFun (f24 55 (by decide)) 6) (f24 60 (by decide)) (f24 61 (by decide)) hI102
    have z44 : (σ22 55 6).toInt = (σ 55 6).toInt := (congrArg Int32.toInt (show σ22 55 6 = (σ 55 6) from (congrFun (f24 55 (by decide)) 6)))
    have z45 : (σ22 55 5).toInt = (σ 55 5).toInt := (congrArg Int32.toInt (show σ22 55 5 = (σ 55 5) from (congrFun (f24 55 (by decide)) 5)))
    have z46 : (σ22 55 4).toInt = (σ 55 4).toInt := (congrArg Int32.toInt (show σ22 55 4 = (σ 55 4) from (congrFun (f24 55 (by decide)) 4)))
    refine jcallV (As := [.int (xs x18.toNatClampNeg), .int (xs x20.toNatClampNeg)]) (rest := []) ⟨hx, hb, hml, hown, hts⟩ hK hP hA hS hZ (c_X12_learn l D cI cL ad zz hJ σ22 τ (xs x18.toNatClampNeg) ((xs x18.toNatClampNeg).toInt) rfl (xs x20.toNatClampNeg) ((xs x20.toNatClampNeg).toInt) rfl I42 I43) cw_RL_92 (jc_55 cI cL ad σ22 τ) rfl ⟨Nat.le_of_ble_eq_true rfl, Nat.le_of_ble_eq_true rfl⟩ rfl rfl rfl hl.1 rfl (Nat.le_of_ble_eq_true rfl) dL_law_766 ⟨Nat.le_of_ble_eq_true rfl, Nat.le_of_ble_eq_true rfl⟩ (fun r48 σ47 τ47 H locs h47 hP hS => ?_)
    obtain ⟨rfl, f49, f50, I51, h47⟩ := h47
    obtain ⟨i52, i53, i54, w55, w56, w57, w58⟩ : (0 ≤ (σ47 55 5).toInt) ∧ ((σ47 55 5).toInt ≤ (σ47 55 4).toInt) ∧ ((σ47 55 4).toInt ≤ 40) ∧ (∀ k : Nat, k < 68 → (-200) ≤ (σ47 56 k).toInt ∧ (σ47 56 k).toInt ≤ 500) ∧ (∀ k : Nat, k < 40 → 0 ≤ (σ47 57 k).toInt ∧ (σ47 57 k).toInt ≤ 67) ∧ (∀ k : Nat, k < 40 → (-200) ≤ (σ47 58 k).toInt ∧ (σ47 58 k).toInt ≤ 500) ∧ (∀ k : Nat, k < 40 → (-200) ≤ (σ47 59 k).toInt ∧ (σ47 59 k).toInt ≤ 500) := id I51
    rcases h47 with h59 | h60
    · obtain ⟨q65, k61, k62, k63, k64⟩ := h59
      have q65 := q65.symm
      subst q65
      refine lv_pop hx hb dL_law_769 rfl ?_
      refine lv_goto (tgt := 1357) hx hb dL_law_770 (by decide) ?_
      obtain ⟨x66, ex66⟩ : ∃ y : Int32, y = x0 + 6 := ⟨_, rfl⟩
      have tx66 : x66.toInt = x0.toInt + 6 := (jadd ex66 rfl jz_6 (by omega) (by omega)).trans (by omega)
      refine lv_iinc (v := x66) (lv' := [(3, .int x66), (2, .ref (ad 55)), (1, .ref (ad 0)), (0, .ref b)]) hx hb dL_law_1357 hl (k := 0) rfl (by rw [ex66]; rfl) (by decide) rfl (fun ls hl => ?_)
      refine lv_goto (tgt := 18) hx hb dL_law_1360 (by decide) ?_
      have I67 : jI2 σ47 := jI2_fr (congrFun (f49 2 (by decide)) 0) (congrFun (f49 2 (by decide)) 1) (congrFun (f49 2 (by decide)) 2) (congrFun (f49 2 (by decide)) 3) (f49 6 (by decide)) I26
      have I68 : jI9 σ47 := jI9_fr ((congrFun (f49 9 (by decide)) 0).trans (congrFun (f24 9 (by decide)) 0)) ((f49 10 (by decide)).trans (f24 10 (by decide))) ((f49 11 (by decide)).trans (f24 11 (by decide))) hI9
      have I69 : jI12 σ47 := jI12_fr ((congrFun (f49 12 (by decide)) 0).trans (congrFun (f24 12 (by decide)) 0)) ((f49 13 (by decide)).trans (f24 13 (by decide))) hI12
      have I70 : jI16 σ47 := jI16_fr ((congrFun (f49 16 (by decide)) 0).trans (congrFun (f24 16 (by decide)) 0)) ((congrFun (f49 16 (by decide)) 1).trans (congrFun (f24 16 (by decide)) 1)) ((congrFun (f49 16 (by decide)) 2).trans (congrFun (f24 16 (by decide)) 2)) ((f49 17 (by decide)).trans (f24 17 (by decide))) hI16
      have I71 : jI18 σ47 := jI18_fr ((congrFun (f49 18 (by decide)) 0).trans (congrFun (f24 18 (by decide)) 0)) ((f49 19 (by decide)).trans (f24 19 (by decide))) hI18
      have I72 : jI22 σ47 := jI22_fr ((congrFun (f49 22 (by decide)) 0).trans (congrFun (f24 22 (by decide)) 0)) ((f49 23 (by decide)).trans (f24 23 (by decide))) hI22
      have I73 : jI31 σ47 := jI31_fr ((congrFun (f49 31 (by decide)) 8).trans (congrFun (f24 31 (by decide)) 8)) ((f49 33 (by decide)).trans (f24 33 (by decide))) ((f49 36 (by decide)).trans (f24 36 (by decide))) hI31
      have I74 : jI38 σ47 := jI38_fr ((congrFun (f49 38 (by decide)) 0).trans (congrFun (f24 38 (by decide)) 0)) ((congrFun (f49 38 (by decide)) 1).trans (congrFun (f24 38 (by decide)) 1)) ((f49 39 (by decide)).trans (f24 39 (by decide))) hI38
      have I75 : jI43 σ47 := jI43_fr ((congrFun (f49 43 (by decide)) 8).trans (congrFun (f24 43 (by decide)) 8)) hI43
      have I76 : jI47 σ47 := jI47_fr ((congrFun (f49 47 (by decide)) 0).trans (congrFun (f24 47 (by decide)) 0)) ((f49 49 (by decide)).trans (f24 49 (by decide))) hI47
      have I77 : jI50 σ47 := jI50_fr ((f49 52 (by decide)).trans (f24 52 (by decide))) hI50
      have I78 : jI102 σ47 := jI102_fr (f50 6 (by decide)) (f49 60 (by decide)) (f49 61 (by decide)) I43
      have I79 : jI103 σ47 := jI103_fr ((f50 9 (by decide)).trans (congrFun (f24 55 (by decide)) 9)) hI103
      have I80 : jI104 σ47 := jI104_fr ((f50 10 (by decide)).trans (congrFun (f24 55 (by decide)) 10)) ((f50 12 (by decide)).trans (congrFun (f24 55 (by decide)) 12)) ((f50 13 (by decide)).trans (congrFun (f24 55 (by decide)) 13)) ((f49 62 (by decide)).trans (f24 62 (by decide))) ((f49 67 (by decide)).trans (f24 67 (by decide))) hI104
      have I81 : jI105 σ47 := jI105_fr ((f50 15 (by decide)).trans (congrFun (f24 55 (by decide)) 15)) ((f49 65 (by decide)).trans (f24 65 (by decide))) hI105
      have I82 : jI106 σ47 := jI106_fr ((f50 32 (by decide)).trans (congrFun (f24 55 (by decide)) 32)) ((f49 70 (by decide)).trans (f24 70 (by decide))) ((f49 71 (by decide)).trans (f24 71 (by decide))) ((f49 72 (by decide)).trans (f24 72 (by decide))) hI106
      have I83 : jI107 σ47 := jI107_fr ((f50 12 (by decide)).trans (congrFun (f24 55 (by decide)) 12)) ((f50 47 (by decide)).trans (congrFun (f24 55 (by decide)) 47)) ((f49 80 (by decide)).trans (f24 80 (by decide))) hI107
      have I84 : jI109 σ47 := jI109_fr ((f50 50 (by decide)).trans (congrFun (f24 55 (by decide)) 50)) hI109
      have I85 : jI110 σ47 := jI110_fr ((f49 86 (by decide)).trans (f24 86 (by decide))) ((f49 87 (by decide)).trans (f24 87 (by decide))) hI110
      have I86 : jI111 σ47 := jI111_fr ((f49 79 (by decide)).trans (f24 79 (by decide))) hI111
      have I87 : jI119 σ47 := jI119_fr ((f49 68 (by decide)).trans (f24 68 (by decide))) hI119
      have p88 : jKept σ47 := jKept.fr ((f49 75 (by decide)).trans (f24 75 (by decide))) ((f49 76 (by decide)).trans (f24 76 (by decide))) ((f49 77 (by decide)).trans (f24 77 (by decide))) hs_jKept
      have p89 : jBook σ47 := jBook.fr ((f50 47 (by decide)).trans (congrFun (f24 55 (by decide)) 47)) ((f50 10 (by decide)).trans (congrFun (f24 55 (by decide)) 10)) ((f49 81 (by decide)).trans (f24 81 (by decide))) hs_jBook
      have z90 : (σ47 2 0).toInt = (σ 2 0).toInt := (congrArg Int32.toInt (show σ47 2 0 = (σ 2 0) from ((congrFun (f49 2 (by decide)) 0).trans (f25 0 (by decide)))))
      have z91 : (σ47 55 6).toInt = (σ 55 6).toInt := (congrArg Int32.toInt (show σ47 55 6 = (σ 55 6) from ((f50 6 (by decide)).trans (congrFun (f24 55 (by decide)) 6))))
      have z92 : (σ47 2 2).toInt = (σ22 2 2).toInt := (congrArg Int32.toInt (show σ47 2 2 = (σ22 2 2) from (congrFun (f49 2 (by decide)) 2)))
      have z93 : (σ47 2 3).toInt = (σ22 2 3).toInt := (congrArg Int32.toInt (show σ47 2 3 = (σ22 2 3) from (congrFun (f49 2 (by decide)) 3)))
      exact ih x66 σ47 τ _ _ ls (by have h9 := tx66; omega) ⟨I67, I68, I69, I70, I71, I72, I73, I74, I75, I76, I77, I51, I78, I79, I80, I81, I82, I83, I84, I85, I86, I87, p88, p89, (by omega), (by omega), (by omega), (show jNumP (σ47 3) (σ47 56) (σ47 6) (σ47 57) (σ47 7) (σ47 58) (σ47 8) (σ47 59) (σ47 55 6).toInt (σ47 55 4).toInt by rw [show σ47 3 = σ 3 from ((f49 3 (by decide)).trans k40.1), show σ47 56 = σ 56 from (k64.1.trans (f24 56 (by decide))), show σ47 6 = σ 6 from ((f49 6 (by decide)).trans k40.2.1), show σ47 57 = σ 57 from (k64.2.1.trans (f24 57 (by decide))), show σ47 7 = σ 7 from ((f49 7 (by decide)).trans k40.2.2.1), show σ47 58 = σ 58 from (k64.2.2.1.trans (f24 58 (by decide))), show σ47 8 = σ 8 from ((f49 8 (by decide)).trans k40.2.2.2), show σ47 59 = σ 59 from (k64.2.2.2.trans (f24 59 (by decide))), show (σ47 55 6).toInt = (σ 55 6).toInt from by omega, show (σ47 55 4).toInt = (σ 55 4).toInt from by omega]; exact hr0)⟩ hP hS (lv_sub hl [0, 1, 2, 3] rfl)
    · obtain ⟨q101, k94, k95, k96, k97, k98, k99, k100⟩ := h60
      refine lv_pop hx hb dL_law_769 rfl ?_
      refine lv_goto (tgt := 1357) hx hb dL_law_770 (by decide) ?_
      obtain ⟨x102, ex102⟩ : ∃ y : Int32, y = x0 + 6 := ⟨_, rfl⟩
      have tx102 : x102.toInt = x0.toInt + 6 := (jadd ex102 rfl jz_6 (by omega) (by omega)).trans (by omega)
      refine lv_iinc (v := x102) (lv' := [(3, .int x102), (2, .ref (ad 55)), (1, .ref (ad 0)), (0, .ref b)]) hx hb dL_law_1357 hl (k := 0) rfl (by rw [ex102]; rfl) (by decide) rfl (fun ls hl => ?_)
      refine lv_goto (tgt := 18) hx hb dL_law_1360 (by decide) ?_
      have I103 : jI2 σ47 := jI2_fr (congrFun (f49 2 (by decide)) 0) (congrFun (f49 2 (by decide)) 1) (congrFun (f49 2 (by decide)) 2) (congrFun (f49 2 (by decide)) 3) (f49 6 (by decide)) I26
      have I104 : jI9 σ47 := jI9_fr ((congrFun (f49 9 (by decide)) 0).trans (congrFun (f24 9 (by decide)) 0)) ((f49 10 (by decide)).trans (f24 10 (by decide))) ((f49 11 (by decide)).trans (f24 11 (by decide))) hI9
      have I105 : jI12 σ47 := jI12_fr ((congrFun (f49 12 (by decide)) 0).trans (congrFun (f24 12 (by decide)) 0)) ((f49 13 (by decide)).trans (f24 13 (by decide))) hI12
      have I106 : jI16 σ47 := jI16_fr ((congrFun (f49 16 (by decide)) 0).trans (congrFun (f24 16 (by decide)) 0)) ((congrFun (f49 16 (by decide)) 1).trans (congrFun (f24 16 (by decide)) 1)) ((congrFun (f49 16 (by decide)) 2).trans (congrFun (f24 16 (by decide)) 2)) ((f49 17 (by decide)).trans (f24 17 (by decide))) hI16
      have I107 : jI18 σ47 := jI18_fr ((congrFun (f49 18 (by decide)) 0).trans (congrFun (f24 18 (by decide)) 0)) ((f49 19 (by decide)).trans (f24 19 (by decide))) hI18
      have I108 : jI22 σ47 := jI22_fr ((congrFun (f49 22 (by decide)) 0).trans (congrFun (f24 22 (by decide)) 0)) ((f49 23 (by decide)).trans (f24 23 (by decide))) hI22
      have I109 : jI31 σ47 := jI31_fr ((congrFun (f49 31 (by decide)) 8).trans (congrFun (f24 31 (by decide)) 8)) ((f49 33 (by decide)).trans (f24 33 (by decide))) ((f49 36 (by decide)).trans (f24 36 (by decide))) hI31
      have I110 : jI38 σ47 := jI38_fr ((congrFun (f49 38 (by decide)) 0).trans (congrFun (f24 38 (by decide)) 0)) ((congrFun (f49 38 (by decide)) 1).trans (congrFun (f24 38 (by decide)) 1)) ((f49 39 (by decide)).trans (f24 39 (by decide))) hI38
      have I111 : jI43 σ47 := jI43_fr ((congrFun (f49 43 (by decide)) 8).trans (congrFun (f24 43 (by decide)) 8)) hI43
      have I112 : jI47 σ47 := jI47_fr ((congrFun (f49 47 (by decide)) 0).trans (congrFun (f24 47 (by decide)) 0)) ((f49 49 (by decide)).trans (f24 49 (by decide))) hI47
      have I113 : jI50 σ47 := jI50_fr ((f49 52 (by decide)).trans (f24 52 (by decide))) hI50
      have I114 : jI102 σ47 := jI102_fr (f50 6 (by decide)) (f49 60 (by decide)) (f49 61 (by decide)) I43
      have I115 : jI103 σ47 := jI103_fr ((f50 9 (by decide)).trans (congrFun (f24 55 (by decide)) 9)) hI103
      have I116 : jI104 σ47 := jI104_fr ((f50 10 (by decide)).trans (congrFun (f24 55 (by decide)) 10)) ((f50 12 (by decide)).trans (congrFun (f24 55 (by decide)) 12)) ((f50 13 (by decide)).trans (congrFun (f24 55 (by decide)) 13)) ((f49 62 (by decide)).trans (f24 62 (by decide))) ((f49 67 (by decide)).trans (f24 67 (by decide))) hI104
      have I117 : jI105 σ47 := jI105_fr ((f50 15 (by decide)).trans (congrFun (f24 55 (by decide)) 15)) ((f49 65 (by decide)).trans (f24 65 (by decide))) hI105
      have I118 : jI106 σ47 := jI106_fr ((f50 32 (by decide)).trans (congrFun (f24 55 (by decide)) 32)) ((f49 70 (by decide)).trans (f24 70 (by decide))) ((f49 71 (by decide)).trans (f24 71 (by decide))) ((f49 72 (by decide)).trans (f24 72 (by decide))) hI106
      have I119 : jI107 σ47 := jI107_fr ((f50 12 (by decide)).trans (congrFun (f24 55 (by decide)) 12)) ((f50 47 (by decide)).trans (congrFun (f24 55 (by decide)) 47)) ((f49 80 (by decide)).trans (f24 80 (by decide))) hI107
      have I120 : jI109 σ47 := jI109_fr ((f50 50 (by decide)).trans (congrFun (f24 55 (by decide)) 50)) hI109
      have I121 : jI110 σ47 := jI110_fr ((f49 86 (by decide)).trans (f24 86 (by decide))) ((f49 87 (by decide)).trans (f24 87 (by decide))) hI110
      have I122 : jI111 σ47 := jI111_fr ((f49 79 (by decide)).trans (f24 79 (by decide))) hI111
      have I123 : jI119 σ47 := jI119_fr ((f49 68 (by decide)).trans (f24 68 (by decide))) hI119
      have p124 : jKept σ47 := jKept.fr ((f49 75 (by decide)).trans (f24 75 (by decide))) ((f49 76 (by decide)).trans (f24 76 (by decide))) ((f49 77 (by decide)).trans (f24 77 (by decide))) hs_jKept
      have p125 : jBook σ47 := jBook.fr ((f50 47 (by decide)).trans (congrFun (f24 55 (by decide)) 47)) ((f50 10 (by decide)).trans (congrFun (f24 55 (by decide)) 10)) ((f49 81 (by decide)).trans (f24 81 (by decide))) hs_jBook
      have z126 : (σ47 2 0).toInt = (σ 2 0).toInt := (congrArg Int32.toInt (show σ47 2 0 = (σ 2 0) from ((congrFun (f49 2 (by decide)) 0).trans (f25 0 (by decide)))))
      have z127 : (σ47 55 6).toInt = (σ 55 6).toInt := (congrArg Int32.toInt (show σ47 55 6 = (σ 55 6) from ((f50 6 (by decide)).trans (congrFun (f24 55 (by decide)) 6))))
      have z128 : (σ47 2 2).toInt = (σ22 2 2).toInt := (congrArg Int32.toInt (show σ47 2 2 = (σ22 2 2) from (congrFun (f49 2 (by decide)) 2)))
      have z129 : (σ47 2 3).toInt = (σ22 2 3).toInt := (congrArg Int32.toInt (show σ47 2 3 = (σ22 2 3) from (congrFun (f49 2 (by decide)) 3)))
      exact ih x102 σ47 τ _ _ ls (by have h9 := tx102; omega) ⟨I103, I104, I105, I106, I107, I108, I109, I110, I111, I112, I113, I51, I114, I115, I116, I117, I118, I119, I120, I121, I122, I123, p124, p125, (by omega), (by omega), (by omega), (False.elim (by omega))⟩ hP hS (lv_sub hl [0, 1, 2, 3] rfl)
  · obtain ⟨q137, k130, k131, k132, k133, k134, k135, k136⟩ := h36
    refine lv_pop hx hb dL_law_754 rfl ?_
    refine lv_aload_n hx hb dL_law_755 rfl (lv_at hl 1 rfl) ?_
    refine lv_aload_n hx hb dL_law_756 rfl (lv_at hl 3 rfl) ?_
    refine lv_iload_n hx hb dL_law_757 rfl (lv_at hl 0 rfl) ?_
    refine lv_iconst (v := 1) hx hb dL_law_758 (by decide) ?_
    refine lv_iadd hx hb dL_law_759 ?_
    refine jtopr ex18.symm ?_
    refine va_sld hx hb hX hbl hbA hS (jin tx18 (by omega) (by omega)) dL_law_760 ?_
    refine lv_aload_n hx hb dL_law_761 rfl (lv_at hl 3 rfl) ?_
    refine lv_iload_n hx hb dL_law_762 rfl (lv_at hl 0 rfl) ?_
    refine lv_iconst (v := 2) hx hb dL_law_763 (by decide) ?_
    refine lv_iadd hx hb dL_law_764 ?_
    refine jtopr ex20.symm ?_
    refine va_sld hx hb hX hbl hbA hS (jin tx20 (by omega) (by omega)) dL_law_765 ?_
    have I138 : jI101 σ22 := jI101_fr (congrFun (f24 55 (by decide)) 4) (congrFun (f24 55 (by decide)) 5) (f24 56 (by decide)) (f24 57 (by decide)) (f24 58 (by decide)) (f24 59 (by decide)) hI101
    have I139 : jI102 σ22 := jI102_fr (congrFun (f24 55 (by decide)) 6) (f24 60 (by decide)) (f24 61 (by decide)) hI102
    have z140 : (σ22 55 6).toInt = (σ 55 6).toInt := (congrArg Int32.toInt (show σ22 55 6 = (σ 55 6) from (congrFun (f24 55 (by decide)) 6)))
    have z141 : (σ22 55 5).toInt = (σ 55 5).toInt := (congrArg Int32.toInt (show σ22 55 5 = (σ 55 5) from (congrFun (f24 55 (by decide)) 5)))
    have z142 : (σ22 55 4).toInt = (σ 55 4).toInt := (congrArg Int32.toInt (show σ22 55 4 = (σ 55 4) from (congrFun (f24 55 (by decide)) 4)))
    refine jcallV (As := [.int (xs x18.toNatClampNeg), .int (xs x20.toNatClampNeg)]) (rest := []) ⟨hx, hb, hml, hown, hts⟩ hK hP hA hS hZ (c_X12_learn l D cI cL ad zz hJ σ22 τ (xs x18.toNatClampNeg) ((xs x18.toNatClampNeg).toInt) rfl (xs x20.toNatClampNeg) ((xs x20.toNatClampNeg).toInt) rfl I138 I139) cw_RL_92 (jc_55 cI cL ad σ22 τ) rfl ⟨Nat.le_of_ble_eq_true rfl, Nat.le_of_ble_eq_true rfl⟩ rfl rfl rfl hl.1 rfl (Nat.le_of_ble_eq_true rfl) dL_law_766 ⟨Nat.le_of_ble_eq_true rfl, Nat.le_of_ble_eq_true rfl⟩ (fun r144 σ143 τ143 H locs h143 hP hS => ?_)
    obtain ⟨rfl, f145, f146, I147, h143⟩ := h143
    obtain ⟨i148, i149, i150, w151, w152, w153, w154⟩ : (0 ≤ (σ143 55 5).toInt) ∧ ((σ143 55 5).toInt ≤ (σ143 55 4).toInt) ∧ ((σ143 55 4).toInt ≤ 40) ∧ (∀ k : Nat, k < 68 → (-200) ≤ (σ143 56 k).toInt ∧ (σ143 56 k).toInt ≤ 500) ∧ (∀ k : Nat, k < 40 → 0 ≤ (σ143 57 k).toInt ∧ (σ143 57 k).toInt ≤ 67) ∧ (∀ k : Nat, k < 40 → (-200) ≤ (σ143 58 k).toInt ∧ (σ143 58 k).toInt ≤ 500) ∧ (∀ k : Nat, k < 40 → (-200) ≤ (σ143 59 k).toInt ∧ (σ143 59 k).toInt ≤ 500) := id I147
    rcases h143 with h155 | h156
    · obtain ⟨q161, k157, k158, k159, k160⟩ := h155
      have q161 := q161.symm
      subst q161
      refine lv_pop hx hb dL_law_769 rfl ?_
      refine lv_goto (tgt := 1357) hx hb dL_law_770 (by decide) ?_
      obtain ⟨x162, ex162⟩ : ∃ y : Int32, y = x0 + 6 := ⟨_, rfl⟩
      have tx162 : x162.toInt = x0.toInt + 6 := (jadd ex162 rfl jz_6 (by omega) (by omega)).trans (by omega)
      refine lv_iinc (v := x162) (lv' := [(3, .int x162), (2, .ref (ad 55)), (1, .ref (ad 0)), (0, .ref b)]) hx hb dL_law_1357 hl (k := 0) rfl (by rw [ex162]; rfl) (by decide) rfl (fun ls hl => ?_)
      refine lv_goto (tgt := 18) hx hb dL_law_1360 (by decide) ?_
      have I163 : jI2 σ143 := jI2_fr (congrFun (f145 2 (by decide)) 0) (congrFun (f145 2 (by decide)) 1) (congrFun (f145 2 (by decide)) 2) (congrFun (f145 2 (by decide)) 3) (f145 6 (by decide)) I26
      have I164 : jI9 σ143 := jI9_fr ((congrFun (f145 9 (by decide)) 0).trans (congrFun (f24 9 (by decide)) 0)) ((f145 10 (by decide)).trans (f24 10 (by decide))) ((f145 11 (by decide)).trans (f24 11 (by decide))) hI9
      have I165 : jI12 σ143 := jI12_fr ((congrFun (f145 12 (by decide)) 0).trans (congrFun (f24 12 (by decide)) 0)) ((f145 13 (by decide)).trans (f24 13 (by decide))) hI12
      have I166 : jI16 σ143 := jI16_fr ((congrFun (f145 16 (by decide)) 0).trans (congrFun (f24 16 (by decide)) 0)) ((congrFun (f145 16 (by decide)) 1).trans (congrFun (f24 16 (by decide)) 1)) ((congrFun (f145 16 (by decide)) 2).trans (congrFun (f24 16 (by decide)) 2)) ((f145 17 (by decide)).trans (f24 17 (by decide))) hI16
      have I167 : jI18 σ143 := jI18_fr ((congrFun (f145 18 (by decide)) 0).trans (congrFun (f24 18 (by decide)) 0)) ((f145 19 (by decide)).trans (f24 19 (by decide))) hI18
      have I168 : jI22 σ143 := jI22_fr ((congrFun (f145 22 (by decide)) 0).trans (congrFun (f24 22 (by decide)) 0)) ((f145 23 (by decide)).trans (f24 23 (by decide))) hI22
      have I169 : jI31 σ143 := jI31_fr ((congrFun (f145 31 (by decide)) 8).trans (congrFun (f24 31 (by decide)) 8)) ((f145 33 (by decide)).trans (f24 33 (by decide))) ((f145 36 (by decide)).trans (f24 36 (by decide))) hI31
      have I170 : jI38 σ143 := jI38_fr ((congrFun (f145 38 (by decide)) 0).trans (congrFun (f24 38 (by decide)) 0)) ((congrFun (f145 38 (by decide)) 1).trans (congrFun (f24 38 (by decide)) 1)) ((f145 39 (by decide)).trans (f24 39 (by decide))) hI38
      have I171 : jI43 σ143 := jI43_fr ((congrFun (f145 43 (by decide)) 8).trans (congrFun (f24 43 (by decide)) 8)) hI43
      have I172 : jI47 σ143 := jI47_fr ((congrFun (f145 47 (by decide)) 0).trans (congrFun (f24 47 (by decide)) 0)) ((f145 49 (by decide)).trans (f24 49 (by decide))) hI47
      have I173 : jI50 σ143 := jI50_fr ((f145 52 (by decide)).trans (f24 52 (by decide))) hI50
      have I174 : jI102 σ143 := jI102_fr (f146 6 (by decide)) (f145 60 (by decide)) (f145 61 (by decide)) I139
      have I175 : jI103 σ143 := jI103_fr ((f146 9 (by decide)).trans (congrFun (f24 55 (by decide)) 9)) hI103
      have I176 : jI104 σ143 := jI104_fr ((f146 10 (by decide)).trans (congrFun (f24 55 (by decide)) 10)) ((f146 12 (by decide)).trans (congrFun (f24 55 (by decide)) 12)) ((f146 13 (by decide)).trans (congrFun (f24 55 (by decide)) 13)) ((f145 62 (by decide)).trans (f24 62 (by decide))) ((f145 67 (by decide)).trans (f24 67 (by decide))) hI104
      have I177 : jI105 σ143 := jI105_fr ((f146 15 (by decide)).trans (congrFun (f24 55 (by decide)) 15)) ((f145 65 (by decide)).trans (f24 65 (by decide))) hI105
      have I178 : jI106 σ143 := jI106_fr ((f146 32 (by decide)).trans (congrFun (f24 55 (by decide)) 32)) ((f145 70 (by decide)).trans (f24 70 (by decide))) ((f145 71 (by decide)).trans (f24 71 (by decide))) ((f145 72 (by decide)).trans (f24 72 (by decide))) hI106
      have I179 : jI107 σ143 := jI107_fr ((f146 12 (by decide)).trans (congrFun (f24 55 (by decide)) 12)) ((f146 47 (by decide)).trans (congrFun (f24 55 (by decide)) 47)) ((f145 80 (by decide)).trans (f24 80 (by decide))) hI107
      have I180 : jI109 σ143 := jI109_fr ((f146 50 (by decide)).trans (congrFun (f24 55 (by decide)) 50)) hI109
      have I181 : jI110 σ143 := jI110_fr ((f145 86 (by decide)).trans (f24 86 (by decide))) ((f145 87 (by decide)).trans (f24 87 (by decide))) hI110
      have I182 : jI111 σ143 := jI111_fr ((f145 79 (by decide)).trans (f24 79 (by decide))) hI111
      have I183 : jI119 σ143 := jI119_fr ((f145 68 (by decide)).trans (f24 68 (by decide))) hI119
      have p184 : jKept σ143 := jKept.fr ((f145 75 (by decide)).trans (f24 75 (by decide))) ((f145 76 (by decide)).trans (f24 76 (by decide))) ((f145 77 (by decide)).trans (f24 77 (by decide))) hs_jKept
      have p185 : jBook σ143 := jBook.fr ((f146 47 (by decide)).trans (congrFun (f24 55 (by decide)) 47)) ((f146 10 (by decide)).trans (congrFun (f24 55 (by decide)) 10)) ((f145 81 (by decide)).trans (f24 81 (by decide))) hs_jBook
      have z186 : (σ143 2 0).toInt = (σ 2 0).toInt := (congrArg Int32.toInt (show σ143 2 0 = (σ 2 0) from ((congrFun (f145 2 (by decide)) 0).trans (f25 0 (by decide)))))
      have z187 : (σ143 55 6).toInt = (σ 55 6).toInt := (congrArg Int32.toInt (show σ143 55 6 = (σ 55 6) from ((f146 6 (by decide)).trans (congrFun (f24 55 (by decide)) 6))))
      have z188 : (σ143 2 2).toInt = (σ22 2 2).toInt := (congrArg Int32.toInt (show σ143 2 2 = (σ22 2 2) from (congrFun (f145 2 (by decide)) 2)))
      have z189 : (σ143 2 3).toInt = (σ22 2 3).toInt := (congrArg Int32.toInt (show σ143 2 3 = (σ22 2 3) from (congrFun (f145 2 (by decide)) 3)))
      exact ih x162 σ143 τ _ _ ls (by have h9 := tx162; omega) ⟨I163, I164, I165, I166, I167, I168, I169, I170, I171, I172, I173, I147, I174, I175, I176, I177, I178, I179, I180, I181, I182, I183, p184, p185, (by omega), (by omega), (by omega), (False.elim (by omega))⟩ hP hS (lv_sub hl [0, 1, 2, 3] rfl)
    · obtain ⟨q197, k190, k191, k192, k193, k194, k195, k196⟩ := h156
      refine lv_pop hx hb dL_law_769 rfl ?_
      refine lv_goto (tgt := 1357) hx hb dL_law_770 (by decide) ?_
      obtain ⟨x198, ex198⟩ : ∃ y : Int32, y = x0 + 6 := ⟨_, rfl⟩
      have tx198 : x198.toInt = x0.toInt + 6 := (jadd ex198 rfl jz_6 (by omega) (by omega)).trans (by omega)
      refine lv_iinc (v := x198) (lv' := [(3, .int x198), (2, .ref (ad 55)), (1, .ref (ad 0)), (0, .ref b)]) hx hb dL_law_1357 hl (k := 0) rfl (by rw [ex198]; rfl) (by decide) rfl (fun ls hl => ?_)
      refine lv_goto (tgt := 18) hx hb dL_law_1360 (by decide) ?_
      have I199 : jI2 σ143 := jI2_fr (congrFun (f145 2 (by decide)) 0) (congrFun (f145 2 (by decide)) 1) (congrFun (f145 2 (by decide)) 2) (congrFun (f145 2 (by decide)) 3) (f145 6 (by decide)) I26
      have I200 : jI9 σ143 := jI9_fr ((congrFun (f145 9 (by decide)) 0).trans (congrFun (f24 9 (by decide)) 0)) ((f145 10 (by decide)).trans (f24 10 (by decide))) ((f145 11 (by decide)).trans (f24 11 (by decide))) hI9
      have I201 : jI12 σ143 := jI12_fr ((congrFun (f145 12 (by decide)) 0).trans (congrFun (f24 12 (by decide)) 0)) ((f145 13 (by decide)).trans (f24 13 (by decide))) hI12
      have I202 : jI16 σ143 := jI16_fr ((congrFun (f145 16 (by decide)) 0).trans (congrFun (f24 16 (by decide)) 0)) ((congrFun (f145 16 (by decide)) 1).trans (congrFun (f24 16 (by decide)) 1)) ((congrFun (f145 16 (by decide)) 2).trans (congrFun (f24 16 (by decide)) 2)) ((f145 17 (by decide)).trans (f24 17 (by decide))) hI16
      have I203 : jI18 σ143 := jI18_fr ((congrFun (f145 18 (by decide)) 0).trans (congrFun (f24 18 (by decide)) 0)) ((f145 19 (by decide)).trans (f24 19 (by decide))) hI18
      have I204 : jI22 σ143 := jI22_fr ((congrFun (f145 22 (by decide)) 0).trans (congrFun (f24 22 (by decide)) 0)) ((f145 23 (by decide)).trans (f24 23 (by decide))) hI22
      have I205 : jI31 σ143 := jI31_fr ((congrFun (f145 31 (by decide)) 8).trans (congrFun (f24 31 (by decide)) 8)) ((f145 33 (by decide)).trans (f24 33 (by decide))) ((f145 36 (by decide)).trans (f24 36 (by decide))) hI31
      have I206 : jI38 σ143 := jI38_fr ((congrFun (f145 38 (by decide)) 0).trans (congrFun (f24 38 (by decide)) 0)) ((congrFun (f145 38 (by decide)) 1).trans (congrFun (f24 38 (by decide)) 1)) ((f145 39 (by decide)).trans (f24 39 (by decide))) hI38
      have I207 : jI43 σ143 := jI43_fr ((congrFun (f145 43 (by decide)) 8).trans (congrFun (f24 43 (by decide)) 8)) hI43
      have I208 : jI47 σ143 := jI47_fr ((congrFun (f145 47 (by decide)) 0).trans (congrFun (f24 47 (by decide)) 0)) ((f145 49 (by decide)).trans (f24 49 (by decide))) hI47
      have I209 : jI50 σ143 := jI50_fr ((f145 52 (by decide)).trans (f24 52 (by decide))) hI50
      have I210 : jI102 σ143 := jI102_fr (f146 6 (by decide)) (f145 60 (by decide)) (f145 61 (by decide)) I139
      have I211 : jI103 σ143 := jI103_fr ((f146 9 (by decide)).trans (congrFun (f24 55 (by decide)) 9)) hI103
      have I212 : jI104 σ143 := jI104_fr ((f146 10 (by decide)).trans (congrFun (f24 55 (by decide)) 10)) ((f146 12 (by decide)).trans (congrFun (f24 55 (by decide)) 12)) ((f146 13 (by decide)).trans (congrFun (f24 55 (by decide)) 13)) ((f145 62 (by decide)).trans (f24 62 (by decide))) ((f145 67 (by decide)).trans (f24 67 (by decide))) hI104
      have I213 : jI105 σ143 := jI105_fr ((f146 15 (by decide)).trans (congrFun (f24 55 (by decide)) 15)) ((f145 65 (by decide)).trans (f24 65 (by decide))) hI105
      have I214 : jI106 σ143 := jI106_fr ((f146 32 (by decide)).trans (congrFun (f24 55 (by decide)) 32)) ((f145 70 (by decide)).trans (f24 70 (by decide))) ((f145 71 (by decide)).trans (f24 71 (by decide))) ((f145 72 (by decide)).trans (f24 72 (by decide))) hI106
      have I215 : jI107 σ143 := jI107_fr ((f146 12 (by decide)).trans (congrFun (f24 55 (by decide)) 12)) ((f146 47 (by decide)).trans (congrFun (f24 55 (by decide)) 47)) ((f145 80 (by decide)).trans (f24 80 (by decide))) hI107
      have I216 : jI109 σ143 := jI109_fr ((f146 50 (by decide)).trans (congrFun (f24 55 (by decide)) 50)) hI109
      have I217 : jI110 σ143 := jI110_fr ((f145 86 (by decide)).trans (f24 86 (by decide))) ((f145 87 (by decide)).trans (f24 87 (by decide))) hI110
      have I218 : jI111 σ143 := jI111_fr ((f145 79 (by decide)).trans (f24 79 (by decide))) hI111
      have I219 : jI119 σ143 := jI119_fr ((f145 68 (by decide)).trans (f24 68 (by decide))) hI119
      have p220 : jKept σ143 := jKept.fr ((f145 75 (by decide)).trans (f24 75 (by decide))) ((f145 76 (by decide)).trans (f24 76 (by decide))) ((f145 77 (by decide)).trans (f24 77 (by decide))) hs_jKept
      have p221 : jBook σ143 := jBook.fr ((f146 47 (by decide)).trans (congrFun (f24 55 (by decide)) 47)) ((f146 10 (by decide)).trans (congrFun (f24 55 (by decide)) 10)) ((f145 81 (by decide)).trans (f24 81 (by decide))) hs_jBook
      have z222 : (σ143 2 0).toInt = (σ 2 0).toInt := (congrArg Int32.toInt (show σ143 2 0 = (σ 2 0) from ((congrFun (f145 2 (by decide)) 0).trans (f25 0 (by decide)))))
      have z223 : (σ143 55 6).toInt = (σ 55 6).toInt := (congrArg Int32.toInt (show σ143 55 6 = (σ 55 6) from ((f146 6 (by decide)).trans (congrFun (f24 55 (by decide)) 6))))
      have z224 : (σ143 2 2).toInt = (σ22 2 2).toInt := (congrArg Int32.toInt (show σ143 2 2 = (σ22 2 2) from (congrFun (f145 2 (by decide)) 2)))
      have z225 : (σ143 2 3).toInt = (σ22 2 3).toInt := (congrArg Int32.toInt (show σ143 2 3 = (σ22 2 3) from (congrFun (f145 2 (by decide)) 3)))
      obtain ⟨q226, w228, e230, c232⟩ := k136
      obtain ⟨q227, w229, e231, c233⟩ := k196
      rw [show σ22 56 = σ 56 from (f24 56 (by decide)), show σ22 57 = σ 57 from (f24 57 (by decide)), show σ22 58 = σ 58 from (f24 58 (by decide)), show σ22 59 = σ 59 from (f24 59 (by decide)), show r144 = r23 from jsame (rfl : r144.toInt = r144.toInt) (rfl : r23.toInt = r23.toInt) (by omega), show (σ22 55 4).toInt = (σ 55 4).toInt from by omega] at c233
      have k234 := hr0.chg (by omega) (by omega) c232 c233 (by omega) (by omega) (by omega) (by omega)
      have e230 := k234.2.1
      have e231 := k234.2.2
      exact ih x198 σ143 τ _ _ ls (by have h9 := tx198; omega) ⟨I199, I200, I201, I202, I203, I204, I205, I206, I207, I208, I209, I147, I210, I211, I212, I213, I214, I215, I216, I217, I218, I219, p220, p221, (by omega), (by omega), (by omega), (show jNumP (σ143 3) (σ143 56) (σ143 6) (σ143 57) (σ143 7) (σ143 58) (σ143 8) (σ143 59) (σ143 55 6).toInt (σ143 55 4).toInt by rw [show σ143 3 = σ22 3 from (f145 3 (by decide)), show σ143 6 = σ22 6 from (f145 6 (by decide)), show σ143 7 = σ22 7 from (f145 7 (by decide)), show σ143 8 = σ22 8 from (f145 8 (by decide)), show (σ143 55 6).toInt = (σ 55 6).toInt from by omega]; exact k234.1)⟩ hP hS (lv_sub hl [0, 1, 2, 3] rfl)
