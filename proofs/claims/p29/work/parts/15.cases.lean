set_option maxHeartbeats 4000000 in
set_option maxRecDepth 100000 in
theorem law_case_0 {p : Program} {e : Env} {s : State} {m : MethodId} {below : List Frame} {meth : Method} {c : Code} (l : Launch) {b L : Nat} {xs : Nat → Int32} {D : va_G} {cI cL : ClassId} {ad zz : Nat → Nat} (C0 : lw_At p s m meth c b L xs) (hJ : jD ad) (hA : ∀ q, jA ad q → s.heap.size ≤ q) (hK : jK D cI cL s) (hZ : jZ zz (fun q : Nat => s.heap.size ≤ q) s s.heap) {x0 : Int32} (hx0 : 0 ≤ x0.toInt) (hxL : x0.toInt + 6 ≤ (L : Int)) (hL : L ≤ 384) {σ : Nat → Nat → Int32} {τ : Nat → Nat → Int64} {H : Heap} {locs : List Loc} (hS : va_S (fun q : Nat => s.heap.size ≤ q) s.heap H locs) {ls : Array Slot} (hAll : jAll σ τ) (hP : jH D cI cL ad σ τ H) (hl : lv_has ls 4 [(3, .int x0), (2, .ref (ad 55)), (1, .ref (ad 0)), (0, .ref b)]) (ih : ∀ (x1 : Int32) (σ : Nat → Nat → Int32) (τ : Nat → Nat → Int64) (H : Heap) (locs : List Loc) (ls : Array Slot), x1.toInt = x0.toInt + 6 → jAll σ τ → jH D cI cL ad σ τ H → va_S (fun q : Nat => s.heap.size ≤ q) s.heap H locs → lv_has ls 4 [(3, .int x1), (2, .ref (ad 55)), (1, .ref (ad 0)), (0, .ref b)] → W p l e room_1 s m #[Value.ref b] below meth c H locs 90 348600 (lw_Z below #[Value.ref b] s) (F0 m 18 ls [])) : W p l e room_1 s m #[Value.ref b] below meth c H locs 90 348600 (lw_Z below #[Value.ref b] s) (F0 m 196 ls []) := by
  obtain ⟨hx, hb, hr, hml, hown, hts0, hX, hbl, hlocks, hgv⟩ := C0
  have hts : ∀ w ∈ wsL_law, w.before #[Value.ref b] s = true := fun w h => hts0 w (wsL_law_in w h)
  have hbA : ¬ (fun q : Nat => s.heap.size ≤ q) b := Nat.not_le.mpr hbl
  have hown : s.vm.findClass RL = some m.cls := hown
  obtain ⟨hI2, hI9, hI12, hI16, hI18, hI22, hI31, hI38, hI43, hI47, hI50, hI101, hI102, hI103, hI104, hI105, hI106, hI107, hI109, hI110, hI111, hI119, hs_jKept, hs_jBook, ht0, ht1, ht2, hr0⟩ := hAll
  have hL9 : (L : Int) ≤ 384 := by omega
  obtain ⟨i1, i2, i3, i4, i5, w6⟩ : (0 ≤ (σ 2 0).toInt ∧ (σ 2 0).toInt ≤ 4) ∧ (0 ≤ (σ 2 1).toInt ∧ (σ 2 1).toInt ≤ 3) ∧ (0 ≤ (σ 2 2).toInt) ∧ (0 ≤ (σ 2 3).toInt) ∧ ((σ 2 2).toInt + (σ 2 3).toInt ≤ 40) ∧ (∀ k : Nat, k < 40 → 0 ≤ (σ 6 k).toInt ∧ (σ 6 k).toInt ≤ 67) := id hI2
  obtain ⟨i7, i8, i9, w10, w11, w12, w13⟩ : (0 ≤ (σ 55 5).toInt) ∧ ((σ 55 5).toInt ≤ (σ 55 4).toInt) ∧ ((σ 55 4).toInt ≤ 40) ∧ (∀ k : Nat, k < 68 → (-200) ≤ (σ 56 k).toInt ∧ (σ 56 k).toInt ≤ 500) ∧ (∀ k : Nat, k < 40 → 0 ≤ (σ 57 k).toInt ∧ (σ 57 k).toInt ≤ 67) ∧ (∀ k : Nat, k < 40 → (-200) ≤ (σ 58 k).toInt ∧ (σ 58 k).toInt ≤ 500) ∧ (∀ k : Nat, k < 40 → (-200) ≤ (σ 59 k).toInt ∧ (σ 59 k).toInt ≤ 500) := id hI101
  obtain ⟨i14, w15, w16⟩ : (0 ≤ (σ 55 6).toInt ∧ (σ 55 6).toInt ≤ 4) ∧ (∀ k : Nat, k < 4 → 0 ≤ (σ 60 k).toInt ∧ (σ 60 k).toInt ≤ 50) ∧ (∀ k : Nat, k < 4 → 0 ≤ (σ 61 k).toInt ∧ (σ 61 k).toInt ≤ 20) := id hI102
  refine lv_aload_n hx hb dL_law_196 rfl (lv_at hl 2 rfl) ?_
  refine lv_aload_n hx hb dL_law_197 rfl (lv_at hl 3 rfl) ?_
  refine lv_iload_n hx hb dL_law_198 rfl (lv_at hl 0 rfl) ?_
  refine lv_iconst (v := 1) hx hb dL_law_199 (by decide) ?_
  have g17 := jrg (rfl : x0.toInt = x0.toInt)
  refine lv_iadd hx hb dL_law_200 ?_
  refine lv_topi (fun x18 ex18 => ?_)
  have tx18 : x18.toInt = x0.toInt + 1 := (jadd ex18 rfl jz_1 (by omega) (by omega)).trans (by omega)
  refine va_sld hx hb hX hbl hbA hS (jin tx18 (by omega) (by omega)) dL_law_201 ?_
  have g19 := jrg (rfl : (xs x18.toNatClampNeg).toInt = (xs x18.toNatClampNeg).toInt)
  refine lv_aload_n hx hb dL_law_202 rfl (lv_at hl 3 rfl) ?_
  refine lv_iload_n hx hb dL_law_203 rfl (lv_at hl 0 rfl) ?_
  refine lv_iconst (v := 2) hx hb dL_law_204 (by decide) ?_
  refine lv_iadd hx hb dL_law_205 ?_
  refine lv_topi (fun x20 ex20 => ?_)
  have tx20 : x20.toInt = x0.toInt + 2 := (jadd ex20 rfl jz_2 (by omega) (by omega)).trans (by omega)
  refine va_sld hx hb hX hbl hbA hS (jin tx20 (by omega) (by omega)) dL_law_206 ?_
  have g21 := jrg (rfl : (xs x20.toNatClampNeg).toInt = (xs x20.toNatClampNeg).toInt)
  refine lv_aload_n hx hb dL_law_207 rfl (lv_at hl 3 rfl) ?_
  refine lv_iload_n hx hb dL_law_208 rfl (lv_at hl 0 rfl) ?_
  refine lv_iconst (v := 3) hx hb dL_law_209 (by decide) ?_
  refine lv_iadd hx hb dL_law_210 ?_
  refine lv_topi (fun x22 ex22 => ?_)
  have tx22 : x22.toInt = x0.toInt + 3 := (jadd ex22 rfl jz_3 (by omega) (by omega)).trans (by omega)
  refine va_sld hx hb hX hbl hbA hS (jin tx22 (by omega) (by omega)) dL_law_211 ?_
  have g23 := jrg (rfl : (xs x22.toNatClampNeg).toInt = (xs x22.toNatClampNeg).toInt)
  refine jcallV (As := [.int (xs x18.toNatClampNeg), .int (xs x20.toNatClampNeg), .int (xs x22.toNatClampNeg)]) (rest := []) ⟨hx, hb, hml, hown, hts⟩ hK hP hA hS hZ (c_X11_bowler l D cI cL ad zz hJ σ τ (xs x18.toNatClampNeg) ((xs x18.toNatClampNeg).toInt) rfl (xs x20.toNatClampNeg) ((xs x20.toNatClampNeg).toInt) rfl (xs x22.toNatClampNeg) ((xs x22.toNatClampNeg).toInt) rfl hI2) cw_RL_13 (jc_0 cI cL ad σ τ) rfl ⟨Nat.le_of_ble_eq_true rfl, Nat.le_of_ble_eq_true rfl⟩ rfl rfl rfl hl.1 rfl (Nat.le_of_ble_eq_true rfl) dL_law_212 ⟨Nat.le_of_ble_eq_true rfl, Nat.le_of_ble_eq_true rfl⟩ (fun r25 σ24 τ24 H locs h24 hP hS => ?_)
  obtain ⟨rfl, f26, f27, I28, h24⟩ := h24
  obtain ⟨i30, i31, i32, i33, i34, w35⟩ : (0 ≤ (σ24 2 0).toInt ∧ (σ24 2 0).toInt ≤ 4) ∧ (0 ≤ (σ24 2 1).toInt ∧ (σ24 2 1).toInt ≤ 3) ∧ (0 ≤ (σ24 2 2).toInt) ∧ (0 ≤ (σ24 2 3).toInt) ∧ ((σ24 2 2).toInt + (σ24 2 3).toInt ≤ 40) ∧ (∀ k : Nat, k < 40 → 0 ≤ (σ24 6 k).toInt ∧ (σ24 6 k).toInt ≤ 67) := id I28
  have z36 : (σ24 2 1).toInt = (σ 2 1).toInt := (congrArg Int32.toInt (show σ24 2 1 = (σ 2 1) from (f27 1 (by decide))))
  have z37 : (σ24 2 2).toInt = (σ 2 2).toInt := (congrArg Int32.toInt (show σ24 2 2 = (σ 2 2) from (f27 2 (by decide))))
  have z38 : (σ24 2 3).toInt = (σ 2 3).toInt := (congrArg Int32.toInt (show σ24 2 3 = (σ 2 3) from (f27 3 (by decide))))
  rcases h24 with h39 | h40 | h41
  · obtain ⟨q45, k42, k43, k44⟩ := h39
    have q45 := q45.symm
    subst q45
    refine lv_pop hx hb dL_law_215 rfl ?_
    refine lv_aload_n hx hb dL_law_216 rfl (lv_at hl 1 rfl) ?_
    refine lv_aload_n hx hb dL_law_217 rfl (lv_at hl 3 rfl) ?_
    refine lv_iload_n hx hb dL_law_218 rfl (lv_at hl 0 rfl) ?_
    refine lv_iconst (v := 1) hx hb dL_law_219 (by decide) ?_
    refine lv_iadd hx hb dL_law_220 ?_
    refine jtopr ex18.symm ?_
    refine va_sld hx hb hX hbl hbA hS (jin tx18 (by omega) (by omega)) dL_law_221 ?_
    refine lv_aload_n hx hb dL_law_222 rfl (lv_at hl 3 rfl) ?_
    refine lv_iload_n hx hb dL_law_223 rfl (lv_at hl 0 rfl) ?_
    refine lv_iconst (v := 2) hx hb dL_law_224 (by decide) ?_
    refine lv_iadd hx hb dL_law_225 ?_
    refine jtopr ex20.symm ?_
    refine va_sld hx hb hX hbl hbA hS (jin tx20 (by omega) (by omega)) dL_law_226 ?_
    refine lv_aload_n hx hb dL_law_227 rfl (lv_at hl 3 rfl) ?_
    refine lv_iload_n hx hb dL_law_228 rfl (lv_at hl 0 rfl) ?_
    refine lv_iconst (v := 3) hx hb dL_law_229 (by decide) ?_
    refine lv_iadd hx hb dL_law_230 ?_
    refine jtopr ex22.symm ?_
    refine va_sld hx hb hX hbl hbA hS (jin tx22 (by omega) (by omega)) dL_law_231 ?_
    have I46 : jI101 σ24 := jI101_fr (congrFun (f26 55 (by decide)) 4) (congrFun (f26 55 (by decide)) 5) (f26 56 (by decide)) (f26 57 (by decide)) (f26 58 (by decide)) (f26 59 (by decide)) hI101
    have I47 : jI102 σ24 := jI102_fr (congrFun (f26 55 (by decide)) 6) (f26 60 (by decide)) (f26 61 (by decide)) hI102
    have z48 : (σ24 55 6).toInt = (σ 55 6).toInt := (congrArg Int32.toInt (show σ24 55 6 = (σ 55 6) from (congrFun (f26 55 (by decide)) 6)))
    refine jcallV (As := [.int (xs x18.toNatClampNeg), .int (xs x20.toNatClampNeg), .int (xs x22.toNatClampNeg)]) (rest := []) ⟨hx, hb, hml, hown, hts⟩ hK hP hA hS hZ (c_X12_bowler l D cI cL ad zz hJ σ24 τ (xs x18.toNatClampNeg) ((xs x18.toNatClampNeg).toInt) rfl (xs x20.toNatClampNeg) ((xs x20.toNatClampNeg).toInt) rfl (xs x22.toNatClampNeg) ((xs x22.toNatClampNeg).toInt) rfl I46 I47) cw_RL_17 (jc_55 cI cL ad σ24 τ) rfl ⟨Nat.le_of_ble_eq_true rfl, Nat.le_of_ble_eq_true rfl⟩ rfl rfl rfl hl.1 rfl (Nat.le_of_ble_eq_true rfl) dL_law_232 ⟨Nat.le_of_ble_eq_true rfl, Nat.le_of_ble_eq_true rfl⟩ (fun r50 σ49 τ49 H locs h49 hP hS => ?_)
    obtain ⟨rfl, f51, f52, I53, I54, h49⟩ := h49
    obtain ⟨i56, i57, i58, w59, w60, w61, w62⟩ : (0 ≤ (σ49 55 5).toInt) ∧ ((σ49 55 5).toInt ≤ (σ49 55 4).toInt) ∧ ((σ49 55 4).toInt ≤ 40) ∧ (∀ k : Nat, k < 68 → (-200) ≤ (σ49 56 k).toInt ∧ (σ49 56 k).toInt ≤ 500) ∧ (∀ k : Nat, k < 40 → 0 ≤ (σ49 57 k).toInt ∧ (σ49 57 k).toInt ≤ 67) ∧ (∀ k : Nat, k < 40 → (-200) ≤ (σ49 58 k).toInt ∧ (σ49 58 k).toInt ≤ 500) ∧ (∀ k : Nat, k < 40 → (-200) ≤ (σ49 59 k).toInt ∧ (σ49 59 k).toInt ≤ 500) := id I53
    obtain ⟨i63, w64, w65⟩ : (0 ≤ (σ49 55 6).toInt ∧ (σ49 55 6).toInt ≤ 4) ∧ (∀ k : Nat, k < 4 → 0 ≤ (σ49 60 k).toInt ∧ (σ49 60 k).toInt ≤ 50) ∧ (∀ k : Nat, k < 4 → 0 ≤ (σ49 61 k).toInt ∧ (σ49 61 k).toInt ≤ 20) := id I54
    have z66 : (σ49 55 5).toInt = (σ 55 5).toInt := (congrArg Int32.toInt (show σ49 55 5 = (σ 55 5) from ((f52 5 (by decide)).trans (congrFun (f26 55 (by decide)) 5))))
    have z67 : (σ49 55 4).toInt = (σ 55 4).toInt := (congrArg Int32.toInt (show σ49 55 4 = (σ 55 4) from ((f52 4 (by decide)).trans (congrFun (f26 55 (by decide)) 4))))
    rcases h49 with h68 | h69 | h70
    · obtain ⟨q74, k71, k72, k73⟩ := h68
      have q74 := q74.symm
      subst q74
      refine lv_pop hx hb dL_law_235 rfl ?_
      refine lv_goto (tgt := 1357) hx hb dL_law_236 (by decide) ?_
      obtain ⟨x75, ex75⟩ : ∃ y : Int32, y = x0 + 6 := ⟨_, rfl⟩
      have tx75 : x75.toInt = x0.toInt + 6 := (jadd ex75 rfl jz_6 (by omega) (by omega)).trans (by omega)
      refine lv_iinc (v := x75) (lv' := [(3, .int x75), (2, .ref (ad 55)), (1, .ref (ad 0)), (0, .ref b)]) hx hb dL_law_1357 hl (k := 0) rfl (by rw [ex75]; rfl) (by decide) rfl (fun ls hl => ?_)
      refine lv_goto (tgt := 18) hx hb dL_law_1360 (by decide) ?_
      have I76 : jI2 σ49 := jI2_fr (congrFun (f51 2 (by decide)) 0) (congrFun (f51 2 (by decide)) 1) (congrFun (f51 2 (by decide)) 2) (congrFun (f51 2 (by decide)) 3) (f51 6 (by decide)) I28
      have I77 : jI9 σ49 := jI9_fr ((congrFun (f51 9 (by decide)) 0).trans (congrFun (f26 9 (by decide)) 0)) ((f51 10 (by decide)).trans (f26 10 (by decide))) ((f51 11 (by decide)).trans (f26 11 (by decide))) hI9
      have I78 : jI12 σ49 := jI12_fr ((congrFun (f51 12 (by decide)) 0).trans (congrFun (f26 12 (by decide)) 0)) ((f51 13 (by decide)).trans (f26 13 (by decide))) hI12
      have I79 : jI16 σ49 := jI16_fr ((congrFun (f51 16 (by decide)) 0).trans (congrFun (f26 16 (by decide)) 0)) ((congrFun (f51 16 (by decide)) 1).trans (congrFun (f26 16 (by decide)) 1)) ((congrFun (f51 16 (by decide)) 2).trans (congrFun (f26 16 (by decide)) 2)) ((f51 17 (by decide)).trans (f26 17 (by decide))) hI16
      have I80 : jI18 σ49 := jI18_fr ((congrFun (f51 18 (by decide)) 0).trans (congrFun (f26 18 (by decide)) 0)) ((f51 19 (by decide)).trans (f26 19 (by decide))) hI18
      have I81 : jI22 σ49 := jI22_fr ((congrFun (f51 22 (by decide)) 0).trans (congrFun (f26 22 (by decide)) 0)) ((f51 23 (by decide)).trans (f26 23 (by decide))) hI22
      have I82 : jI31 σ49 := jI31_fr ((congrFun (f51 31 (by decide)) 8).trans (congrFun (f26 31 (by decide)) 8)) ((f51 33 (by decide)).trans (f26 33 (by decide))) ((f51 36 (by decide)).trans (f26 36 (by decide))) hI31
      have I83 : jI38 σ49 := jI38_fr ((congrFun (f51 38 (by decide)) 0).trans (congrFun (f26 38 (by decide)) 0)) ((congrFun (f51 38 (by decide)) 1).trans (congrFun (f26 38 (by decide)) 1)) ((f51 39 (by decide)).trans (f26 39 (by decide))) hI38
      have I84 : jI43 σ49 := jI43_fr ((congrFun (f51 43 (by decide)) 8).trans (congrFun (f26 43 (by decide)) 8)) hI43
      have I85 : jI47 σ49 := jI47_fr ((congrFun (f51 47 (by decide)) 0).trans (congrFun (f26 47 (by decide)) 0)) ((f51 48 (by decide)).trans (f26 48 (by decide))) ((f51 49 (by decide)).trans (f26 49 (by decide))) hI47
      have I86 : jI50 σ49 := jI50_fr ((f51 52 (by decide)).trans (f26 52 (by decide))) hI50
      have I87 : jI103 σ49 := jI103_fr ((f52 9 (by decide)).trans (congrFun (f26 55 (by decide)) 9)) hI103
      have I88 : jI104 σ49 := jI104_fr ((f52 10 (by decide)).trans (congrFun (f26 55 (by decide)) 10)) ((f52 12 (by decide)).trans (congrFun (f26 55 (by decide)) 12)) ((f52 13 (by decide)).trans (congrFun (f26 55 (by decide)) 13)) ((f51 62 (by decide)).trans (f26 62 (by decide))) ((f51 67 (by decide)).trans (f26 67 (by decide))) hI104
      have I89 : jI105 σ49 := jI105_fr ((f52 15 (by decide)).trans (congrFun (f26 55 (by decide)) 15)) ((f51 65 (by decide)).trans (f26 65 (by decide))) hI105
      have I90 : jI106 σ49 := jI106_fr ((f52 32 (by decide)).trans (congrFun (f26 55 (by decide)) 32)) ((f51 70 (by decide)).trans (f26 70 (by decide))) ((f51 71 (by decide)).trans (f26 71 (by decide))) ((f51 72 (by decide)).trans (f26 72 (by decide))) hI106
      have I91 : jI107 σ49 := jI107_fr ((f52 12 (by decide)).trans (congrFun (f26 55 (by decide)) 12)) ((f52 47 (by decide)).trans (congrFun (f26 55 (by decide)) 47)) ((f51 80 (by decide)).trans (f26 80 (by decide))) hI107
      have I92 : jI109 σ49 := jI109_fr ((f52 50 (by decide)).trans (congrFun (f26 55 (by decide)) 50)) hI109
      have I93 : jI110 σ49 := jI110_fr ((f51 86 (by decide)).trans (f26 86 (by decide))) ((f51 87 (by decide)).trans (f26 87 (by decide))) hI110
      have I94 : jI111 σ49 := jI111_fr ((f51 79 (by decide)).trans (f26 79 (by decide))) hI111
      have I95 : jI119 σ49 := jI119_fr ((f51 68 (by decide)).trans (f26 68 (by decide))) hI119
      have p96 : jKept σ49 := jKept.fr ((f51 75 (by decide)).trans (f26 75 (by decide))) ((f51 76 (by decide)).trans (f26 76 (by decide))) ((f51 77 (by decide)).trans (f26 77 (by decide))) hs_jKept
      have p97 : jBook σ49 := jBook.fr ((f52 47 (by decide)).trans (congrFun (f26 55 (by decide)) 47)) ((f52 10 (by decide)).trans (congrFun (f26 55 (by decide)) 10)) ((f51 81 (by decide)).trans (f26 81 (by decide))) hs_jBook
      have z98 : (σ49 2 0).toInt = (σ24 2 0).toInt := (congrArg Int32.toInt (show σ49 2 0 = (σ24 2 0) from (congrFun (f51 2 (by decide)) 0)))
      have z99 : (σ49 2 2).toInt = (σ 2 2).toInt := (congrArg Int32.toInt (show σ49 2 2 = (σ 2 2) from ((congrFun (f51 2 (by decide)) 2).trans (f27 2 (by decide)))))
      have z100 : (σ49 2 3).toInt = (σ 2 3).toInt := (congrArg Int32.toInt (show σ49 2 3 = (σ 2 3) from ((congrFun (f51 2 (by decide)) 3).trans (f27 3 (by decide)))))
      exact ih x75 σ49 τ _ _ ls (by have h9 := tx75; omega) ⟨I76, I77, I78, I79, I80, I81, I82, I83, I84, I85, I86, I53, I54, I87, I88, I89, I90, I91, I92, I93, I94, I95, p96, p97, (by omega), (by omega), (by omega), (show jNumP (σ49 3) (σ49 56) (σ49 6) (σ49 57) (σ49 7) (σ49 58) (σ49 8) (σ49 59) (σ49 55 6).toInt (σ49 55 4).toInt by rw [show σ49 3 = σ 3 from ((f51 3 (by decide)).trans k44), show σ49 56 = σ 56 from (k73.trans (f26 56 (by decide))), show σ49 6 = σ 6 from ((f51 6 (by decide)).trans (f26 6 (by decide))), show σ49 57 = σ 57 from ((f51 57 (by decide)).trans (f26 57 (by decide))), show σ49 7 = σ 7 from ((f51 7 (by decide)).trans (f26 7 (by decide))), show σ49 58 = σ 58 from ((f51 58 (by decide)).trans (f26 58 (by decide))), show σ49 8 = σ 8 from ((f51 8 (by decide)).trans (f26 8 (by decide))), show σ49 59 = σ 59 from ((f51 59 (by decide)).trans (f26 59 (by decide))), show (σ49 55 6).toInt = (σ 55 6).toInt from by omega, show (σ49 55 4).toInt = (σ 55 4).toInt from by omega]; exact hr0)⟩ hP hS (lv_sub hl [0, 1, 2, 3] rfl)
    · obtain ⟨q107, k101, k102, k103, k104, k105, k106⟩ := h69
      exact absurd (by omega : False) id
    · obtain ⟨q115, k108, k109, k110, k111, k112, k113, k114⟩ := h70
      exact absurd (by omega : False) id
  · obtain ⟨q122, k116, k117, k118, k119, k120, k121⟩ := h40
    have q122 := q122.symm
    subst q122
    refine lv_pop hx hb dL_law_215 rfl ?_
    refine lv_aload_n hx hb dL_law_216 rfl (lv_at hl 1 rfl) ?_
    refine lv_aload_n hx hb dL_law_217 rfl (lv_at hl 3 rfl) ?_
    refine lv_iload_n hx hb dL_law_218 rfl (lv_at hl 0 rfl) ?_
    refine lv_iconst (v := 1) hx hb dL_law_219 (by decide) ?_
    refine lv_iadd hx hb dL_law_220 ?_
    refine jtopr ex18.symm ?_
    refine va_sld hx hb hX hbl hbA hS (jin tx18 (by omega) (by omega)) dL_law_221 ?_
    refine lv_aload_n hx hb dL_law_222 rfl (lv_at hl 3 rfl) ?_
    refine lv_iload_n hx hb dL_law_223 rfl (lv_at hl 0 rfl) ?_
    refine lv_iconst (v := 2) hx hb dL_law_224 (by decide) ?_
    refine lv_iadd hx hb dL_law_225 ?_
    refine jtopr ex20.symm ?_
    refine va_sld hx hb hX hbl hbA hS (jin tx20 (by omega) (by omega)) dL_law_226 ?_
    refine lv_aload_n hx hb dL_law_227 rfl (lv_at hl 3 rfl) ?_
    refine lv_iload_n hx hb dL_law_228 rfl (lv_at hl 0 rfl) ?_
    refine lv_iconst (v := 3) hx hb dL_law_229 (by decide) ?_
    refine lv_iadd hx hb dL_law_230 ?_
    refine jtopr ex22.symm ?_
    refine va_sld hx hb hX hbl hbA hS (jin tx22 (by omega) (by omega)) dL_law_231 ?_
    have I123 : jI101 σ24 := jI101_fr (congrFun (f26 55 (by decide)) 4) (congrFun (f26 55 (by decide)) 5) (f26 56 (by decide)) (f26 57 (by decide)) (f26 58 (by decide)) (f26 59 (by decide)) hI101
    have I124 : jI102 σ24 := jI102_fr (congrFun (f26 55 (by decide)) 6) (f26 60 (by decide)) (f26 61 (by decide)) hI102
    have z125 : (σ24 55 6).toInt = (σ 55 6).toInt := (congrArg Int32.toInt (show σ24 55 6 = (σ 55 6) from (congrFun (f26 55 (by decide)) 6)))
    refine jcallV (As := [.int (xs x18.toNatClampNeg), .int (xs x20.toNatClampNeg), .int (xs x22.toNatClampNeg)]) (rest := []) ⟨hx, hb, hml, hown, hts⟩ hK hP hA hS hZ (c_X12_bowler l D cI cL ad zz hJ σ24 τ (xs x18.toNatClampNeg) ((xs x18.toNatClampNeg).toInt) rfl (xs x20.toNatClampNeg) ((xs x20.toNatClampNeg).toInt) rfl (xs x22.toNatClampNeg) ((xs x22.toNatClampNeg).toInt) rfl I123 I124) cw_RL_17 (jc_55 cI cL ad σ24 τ) rfl ⟨Nat.le_of_ble_eq_true rfl, Nat.le_of_ble_eq_true rfl⟩ rfl rfl rfl hl.1 rfl (Nat.le_of_ble_eq_true rfl) dL_law_232 ⟨Nat.le_of_ble_eq_true rfl, Nat.le_of_ble_eq_true rfl⟩ (fun r127 σ126 τ126 H locs h126 hP hS => ?_)
    obtain ⟨rfl, f128, f129, I130, I131, h126⟩ := h126
    obtain ⟨i133, i134, i135, w136, w137, w138, w139⟩ : (0 ≤ (σ126 55 5).toInt) ∧ ((σ126 55 5).toInt ≤ (σ126 55 4).toInt) ∧ ((σ126 55 4).toInt ≤ 40) ∧ (∀ k : Nat, k < 68 → (-200) ≤ (σ126 56 k).toInt ∧ (σ126 56 k).toInt ≤ 500) ∧ (∀ k : Nat, k < 40 → 0 ≤ (σ126 57 k).toInt ∧ (σ126 57 k).toInt ≤ 67) ∧ (∀ k : Nat, k < 40 → (-200) ≤ (σ126 58 k).toInt ∧ (σ126 58 k).toInt ≤ 500) ∧ (∀ k : Nat, k < 40 → (-200) ≤ (σ126 59 k).toInt ∧ (σ126 59 k).toInt ≤ 500) := id I130
    obtain ⟨i140, w141, w142⟩ : (0 ≤ (σ126 55 6).toInt ∧ (σ126 55 6).toInt ≤ 4) ∧ (∀ k : Nat, k < 4 → 0 ≤ (σ126 60 k).toInt ∧ (σ126 60 k).toInt ≤ 50) ∧ (∀ k : Nat, k < 4 → 0 ≤ (σ126 61 k).toInt ∧ (σ126 61 k).toInt ≤ 20) := id I131
    have z143 : (σ126 55 5).toInt = (σ 55 5).toInt := (congrArg Int32.toInt (show σ126 55 5 = (σ 55 5) from ((f129 5 (by decide)).trans (congrFun (f26 55 (by decide)) 5))))
    have z144 : (σ126 55 4).toInt = (σ 55 4).toInt := (congrArg Int32.toInt (show σ126 55 4 = (σ 55 4) from ((f129 4 (by decide)).trans (congrFun (f26 55 (by decide)) 4))))
    rcases h126 with h145 | h146 | h147
    · obtain ⟨q151, k148, k149, k150⟩ := h145
      exact absurd (by omega : False) id
    · obtain ⟨q158, k152, k153, k154, k155, k156, k157⟩ := h146
      have q158 := q158.symm
      subst q158
      refine lv_pop hx hb dL_law_235 rfl ?_
      refine lv_goto (tgt := 1357) hx hb dL_law_236 (by decide) ?_
      obtain ⟨x159, ex159⟩ : ∃ y : Int32, y = x0 + 6 := ⟨_, rfl⟩
      have tx159 : x159.toInt = x0.toInt + 6 := (jadd ex159 rfl jz_6 (by omega) (by omega)).trans (by omega)
      refine lv_iinc (v := x159) (lv' := [(3, .int x159), (2, .ref (ad 55)), (1, .ref (ad 0)), (0, .ref b)]) hx hb dL_law_1357 hl (k := 0) rfl (by rw [ex159]; rfl) (by decide) rfl (fun ls hl => ?_)
      refine lv_goto (tgt := 18) hx hb dL_law_1360 (by decide) ?_
      have I160 : jI2 σ126 := jI2_fr (congrFun (f128 2 (by decide)) 0) (congrFun (f128 2 (by decide)) 1) (congrFun (f128 2 (by decide)) 2) (congrFun (f128 2 (by decide)) 3) (f128 6 (by decide)) I28
      have I161 : jI9 σ126 := jI9_fr ((congrFun (f128 9 (by decide)) 0).trans (congrFun (f26 9 (by decide)) 0)) ((f128 10 (by decide)).trans (f26 10 (by decide))) ((f128 11 (by decide)).trans (f26 11 (by decide))) hI9
      have I162 : jI12 σ126 := jI12_fr ((congrFun (f128 12 (by decide)) 0).trans (congrFun (f26 12 (by decide)) 0)) ((f128 13 (by decide)).trans (f26 13 (by decide))) hI12
      have I163 : jI16 σ126 := jI16_fr ((congrFun (f128 16 (by decide)) 0).trans (congrFun (f26 16 (by decide)) 0)) ((congrFun (f128 16 (by decide)) 1).trans (congrFun (f26 16 (by decide)) 1)) ((congrFun (f128 16 (by decide)) 2).trans (congrFun (f26 16 (by decide)) 2)) ((f128 17 (by decide)).trans (f26 17 (by decide))) hI16
      have I164 : jI18 σ126 := jI18_fr ((congrFun (f128 18 (by decide)) 0).trans (congrFun (f26 18 (by decide)) 0)) ((f128 19 (by decide)).trans (f26 19 (by decide))) hI18
      have I165 : jI22 σ126 := jI22_fr ((congrFun (f128 22 (by decide)) 0).trans (congrFun (f26 22 (by decide)) 0)) ((f128 23 (by decide)).trans (f26 23 (by decide))) hI22
      have I166 : jI31 σ126 := jI31_fr ((congrFun (f128 31 (by decide)) 8).trans (congrFun (f26 31 (by decide)) 8)) ((f128 33 (by decide)).trans (f26 33 (by decide))) ((f128 36 (by decide)).trans (f26 36 (by decide))) hI31
      have I167 : jI38 σ126 := jI38_fr ((congrFun (f128 38 (by decide)) 0).trans (congrFun (f26 38 (by decide)) 0)) ((congrFun (f128 38 (by decide)) 1).trans (congrFun (f26 38 (by decide)) 1)) ((f128 39 (by decide)).trans (f26 39 (by decide))) hI38
      have I168 : jI43 σ126 := jI43_fr ((congrFun (f128 43 (by decide)) 8).trans (congrFun (f26 43 (by decide)) 8)) hI43
      have I169 : jI47 σ126 := jI47_fr ((congrFun (f128 47 (by decide)) 0).trans (congrFun (f26 47 (by decide)) 0)) ((f128 48 (by decide)).trans (f26 48 (by decide))) ((f128 49 (by decide)).trans (f26 49 (by decide))) hI47
      have I170 : jI50 σ126 := jI50_fr ((f128 52 (by decide)).trans (f26 52 (by decide))) hI50
      have I171 : jI103 σ126 := jI103_fr ((f129 9 (by decide)).trans (congrFun (f26 55 (by decide)) 9)) hI103
      have I172 : jI104 σ126 := jI104_fr ((f129 10 (by decide)).trans (congrFun (f26 55 (by decide)) 10)) ((f129 12 (by decide)).trans (congrFun (f26 55 (by decide)) 12)) ((f129 13 (by decide)).trans (congrFun (f26 55 (by decide)) 13)) ((f128 62 (by decide)).trans (f26 62 (by decide))) ((f128 67 (by decide)).trans (f26 67 (by decide))) hI104
      have I173 : jI105 σ126 := jI105_fr ((f129 15 (by decide)).trans (congrFun (f26 55 (by decide)) 15)) ((f128 65 (by decide)).trans (f26 65 (by decide))) hI105
      have I174 : jI106 σ126 := jI106_fr ((f129 32 (by decide)).trans (congrFun (f26 55 (by decide)) 32)) ((f128 70 (by decide)).trans (f26 70 (by decide))) ((f128 71 (by decide)).trans (f26 71 (by decide))) ((f128 72 (by decide)).trans (f26 72 (by decide))) hI106
      have I175 : jI107 σ126 := jI107_fr ((f129 12 (by decide)).trans (congrFun (f26 55 (by decide)) 12)) ((f129 47 (by decide)).trans (congrFun (f26 55 (by decide)) 47)) ((f128 80 (by decide)).trans (f26 80 (by decide))) hI107
      have I176 : jI109 σ126 := jI109_fr ((f129 50 (by decide)).trans (congrFun (f26 55 (by decide)) 50)) hI109
      have I177 : jI110 σ126 := jI110_fr ((f128 86 (by decide)).trans (f26 86 (by decide))) ((f128 87 (by decide)).trans (f26 87 (by decide))) hI110
      have I178 : jI111 σ126 := jI111_fr ((f128 79 (by decide)).trans (f26 79 (by decide))) hI111
      have I179 : jI119 σ126 := jI119_fr ((f128 68 (by decide)).trans (f26 68 (by decide))) hI119
      have p180 : jKept σ126 := jKept.fr ((f128 75 (by decide)).trans (f26 75 (by decide))) ((f128 76 (by decide)).trans (f26 76 (by decide))) ((f128 77 (by decide)).trans (f26 77 (by decide))) hs_jKept
      have p181 : jBook σ126 := jBook.fr ((f129 47 (by decide)).trans (congrFun (f26 55 (by decide)) 47)) ((f129 10 (by decide)).trans (congrFun (f26 55 (by decide)) 10)) ((f128 81 (by decide)).trans (f26 81 (by decide))) hs_jBook
      have z182 : (σ126 2 0).toInt = (σ24 2 0).toInt := (congrArg Int32.toInt (show σ126 2 0 = (σ24 2 0) from (congrFun (f128 2 (by decide)) 0)))
      have z183 : (σ126 2 2).toInt = (σ 2 2).toInt := (congrArg Int32.toInt (show σ126 2 2 = (σ 2 2) from ((congrFun (f128 2 (by decide)) 2).trans (f27 2 (by decide)))))
      have z184 : (σ126 2 3).toInt = (σ 2 3).toInt := (congrArg Int32.toInt (show σ126 2 3 = (σ 2 3) from ((congrFun (f128 2 (by decide)) 3).trans (f27 3 (by decide)))))
      exact ih x159 σ126 τ _ _ ls (by have h9 := tx159; omega) ⟨I160, I161, I162, I163, I164, I165, I166, I167, I168, I169, I170, I130, I131, I171, I172, I173, I174, I175, I176, I177, I178, I179, p180, p181, (by omega), (by omega), (by omega), (show jNumP (σ126 3) (σ126 56) (σ126 6) (σ126 57) (σ126 7) (σ126 58) (σ126 8) (σ126 59) (σ126 55 6).toInt (σ126 55 4).toInt by rw [show σ126 3 = σ 3 from ((f128 3 (by decide)).trans k121), show σ126 56 = σ 56 from (k157.trans (f26 56 (by decide))), show σ126 6 = σ 6 from ((f128 6 (by decide)).trans (f26 6 (by decide))), show σ126 57 = σ 57 from ((f128 57 (by decide)).trans (f26 57 (by decide))), show σ126 7 = σ 7 from ((f128 7 (by decide)).trans (f26 7 (by decide))), show σ126 58 = σ 58 from ((f128 58 (by decide)).trans (f26 58 (by decide))), show σ126 8 = σ 8 from ((f128 8 (by decide)).trans (f26 8 (by decide))), show σ126 59 = σ 59 from ((f128 59 (by decide)).trans (f26 59 (by decide))), show (σ126 55 6).toInt = (σ 55 6).toInt from by omega, show (σ126 55 4).toInt = (σ 55 4).toInt from by omega]; exact hr0)⟩ hP hS (lv_sub hl [0, 1, 2, 3] rfl)
    · obtain ⟨q192, k185, k186, k187, k188, k189, k190, k191⟩ := h147
      exact absurd (by omega : False) id
  · obtain ⟨q200, k193, k194, k195, k196, k197, k198, k199⟩ := h41
    refine lv_pop hx hb dL_law_215 rfl ?_
    refine lv_aload_n hx hb dL_law_216 rfl (lv_at hl 1 rfl) ?_
    refine lv_aload_n hx hb dL_law_217 rfl (lv_at hl 3 rfl) ?_
    refine lv_iload_n hx hb dL_law_218 rfl (lv_at hl 0 rfl) ?_
    refine lv_iconst (v := 1) hx hb dL_law_219 (by decide) ?_
    refine lv_iadd hx hb dL_law_220 ?_
    refine jtopr ex18.symm ?_
    refine va_sld hx hb hX hbl hbA hS (jin tx18 (by omega) (by omega)) dL_law_221 ?_
    refine lv_aload_n hx hb dL_law_222 rfl (lv_at hl 3 rfl) ?_
    refine lv_iload_n hx hb dL_law_223 rfl (lv_at hl 0 rfl) ?_
    refine lv_iconst (v := 2) hx hb dL_law_224 (by decide) ?_
    refine lv_iadd hx hb dL_law_225 ?_
    refine jtopr ex20.symm ?_
    refine va_sld hx hb hX hbl hbA hS (jin tx20 (by omega) (by omega)) dL_law_226 ?_
    refine lv_aload_n hx hb dL_law_227 rfl (lv_at hl 3 rfl) ?_
    refine lv_iload_n hx hb dL_law_228 rfl (lv_at hl 0 rfl) ?_
    refine lv_iconst (v := 3) hx hb dL_law_229 (by decide) ?_
    refine lv_iadd hx hb dL_law_230 ?_
    refine jtopr ex22.symm ?_
    refine va_sld hx hb hX hbl hbA hS (jin tx22 (by omega) (by omega)) dL_law_231 ?_
    have I201 : jI101 σ24 := jI101_fr (congrFun (f26 55 (by decide)) 4) (congrFun (f26 55 (by decide)) 5) (f26 56 (by decide)) (f26 57 (by decide)) (f26 58 (by decide)) (f26 59 (by decide)) hI101
    have I202 : jI102 σ24 := jI102_fr (congrFun (f26 55 (by decide)) 6) (f26 60 (by decide)) (f26 61 (by decide)) hI102
    have z203 : (σ24 55 6).toInt = (σ 55 6).toInt := (congrArg Int32.toInt (show σ24 55 6 = (σ 55 6) from (congrFun (f26 55 (by decide)) 6)))
    refine jcallV (As := [.int (xs x18.toNatClampNeg), .int (xs x20.toNatClampNeg), .int (xs x22.toNatClampNeg)]) (rest := []) ⟨hx, hb, hml, hown, hts⟩ hK hP hA hS hZ (c_X12_bowler l D cI cL ad zz hJ σ24 τ (xs x18.toNatClampNeg) ((xs x18.toNatClampNeg).toInt) rfl (xs x20.toNatClampNeg) ((xs x20.toNatClampNeg).toInt) rfl (xs x22.toNatClampNeg) ((xs x22.toNatClampNeg).toInt) rfl I201 I202) cw_RL_17 (jc_55 cI cL ad σ24 τ) rfl ⟨Nat.le_of_ble_eq_true rfl, Nat.le_of_ble_eq_true rfl⟩ rfl rfl rfl hl.1 rfl (Nat.le_of_ble_eq_true rfl) dL_law_232 ⟨Nat.le_of_ble_eq_true rfl, Nat.le_of_ble_eq_true rfl⟩ (fun r205 σ204 τ204 H locs h204 hP hS => ?_)
    obtain ⟨rfl, f206, f207, I208, I209, h204⟩ := h204
    obtain ⟨i211, i212, i213, w214, w215, w216, w217⟩ : (0 ≤ (σ204 55 5).toInt) ∧ ((σ204 55 5).toInt ≤ (σ204 55 4).toInt) ∧ ((σ204 55 4).toInt ≤ 40) ∧ (∀ k : Nat, k < 68 → (-200) ≤ (σ204 56 k).toInt ∧ (σ204 56 k).toInt ≤ 500) ∧ (∀ k : Nat, k < 40 → 0 ≤ (σ204 57 k).toInt ∧ (σ204 57 k).toInt ≤ 67) ∧ (∀ k : Nat, k < 40 → (-200) ≤ (σ204 58 k).toInt ∧ (σ204 58 k).toInt ≤ 500) ∧ (∀ k : Nat, k < 40 → (-200) ≤ (σ204 59 k).toInt ∧ (σ204 59 k).toInt ≤ 500) := id I208
    obtain ⟨i218, w219, w220⟩ : (0 ≤ (σ204 55 6).toInt ∧ (σ204 55 6).toInt ≤ 4) ∧ (∀ k : Nat, k < 4 → 0 ≤ (σ204 60 k).toInt ∧ (σ204 60 k).toInt ≤ 50) ∧ (∀ k : Nat, k < 4 → 0 ≤ (σ204 61 k).toInt ∧ (σ204 61 k).toInt ≤ 20) := id I209
    have z221 : (σ204 55 5).toInt = (σ 55 5).toInt := (congrArg Int32.toInt (show σ204 55 5 = (σ 55 5) from ((f207 5 (by decide)).trans (congrFun (f26 55 (by decide)) 5))))
    have z222 : (σ204 55 4).toInt = (σ 55 4).toInt := (congrArg Int32.toInt (show σ204 55 4 = (σ 55 4) from ((f207 4 (by decide)).trans (congrFun (f26 55 (by decide)) 4))))
    rcases h204 with h223 | h224 | h225
    · obtain ⟨q229, k226, k227, k228⟩ := h223
      exact absurd (by omega : False) id
    · obtain ⟨q236, k230, k231, k232, k233, k234, k235⟩ := h224
      exact absurd (by omega : False) id
    · obtain ⟨q244, k237, k238, k239, k240, k241, k242, k243⟩ := h225
      refine lv_pop hx hb dL_law_235 rfl ?_
      refine lv_goto (tgt := 1357) hx hb dL_law_236 (by decide) ?_
      obtain ⟨x245, ex245⟩ : ∃ y : Int32, y = x0 + 6 := ⟨_, rfl⟩
      have tx245 : x245.toInt = x0.toInt + 6 := (jadd ex245 rfl jz_6 (by omega) (by omega)).trans (by omega)
      refine lv_iinc (v := x245) (lv' := [(3, .int x245), (2, .ref (ad 55)), (1, .ref (ad 0)), (0, .ref b)]) hx hb dL_law_1357 hl (k := 0) rfl (by rw [ex245]; rfl) (by decide) rfl (fun ls hl => ?_)
      refine lv_goto (tgt := 18) hx hb dL_law_1360 (by decide) ?_
      have I246 : jI2 σ204 := jI2_fr (congrFun (f206 2 (by decide)) 0) (congrFun (f206 2 (by decide)) 1) (congrFun (f206 2 (by decide)) 2) (congrFun (f206 2 (by decide)) 3) (f206 6 (by decide)) I28
      have I247 : jI9 σ204 := jI9_fr ((congrFun (f206 9 (by decide)) 0).trans (congrFun (f26 9 (by decide)) 0)) ((f206 10 (by decide)).trans (f26 10 (by decide))) ((f206 11 (by decide)).trans (f26 11 (by decide))) hI9
      have I248 : jI12 σ204 := jI12_fr ((congrFun (f206 12 (by decide)) 0).trans (congrFun (f26 12 (by decide)) 0)) ((f206 13 (by decide)).trans (f26 13 (by decide))) hI12
      have I249 : jI16 σ204 := jI16_fr ((congrFun (f206 16 (by decide)) 0).trans (congrFun (f26 16 (by decide)) 0)) ((congrFun (f206 16 (by decide)) 1).trans (congrFun (f26 16 (by decide)) 1)) ((congrFun (f206 16 (by decide)) 2).trans (congrFun (f26 16 (by decide)) 2)) ((f206 17 (by decide)).trans (f26 17 (by decide))) hI16
      have I250 : jI18 σ204 := jI18_fr ((congrFun (f206 18 (by decide)) 0).trans (congrFun (f26 18 (by decide)) 0)) ((f206 19 (by decide)).trans (f26 19 (by decide))) hI18
      have I251 : jI22 σ204 := jI22_fr ((congrFun (f206 22 (by decide)) 0).trans (congrFun (f26 22 (by decide)) 0)) ((f206 23 (by decide)).trans (f26 23 (by decide))) hI22
      have I252 : jI31 σ204 := jI31_fr ((congrFun (f206 31 (by decide)) 8).trans (congrFun (f26 31 (by decide)) 8)) ((f206 33 (by decide)).trans (f26 33 (by decide))) ((f206 36 (by decide)).trans (f26 36 (by decide))) hI31
      have I253 : jI38 σ204 := jI38_fr ((congrFun (f206 38 (by decide)) 0).trans (congrFun (f26 38 (by decide)) 0)) ((congrFun (f206 38 (by decide)) 1).trans (congrFun (f26 38 (by decide)) 1)) ((f206 39 (by decide)).trans (f26 39 (by decide))) hI38
      have I254 : jI43 σ204 := jI43_fr ((congrFun (f206 43 (by decide)) 8).trans (congrFun (f26 43 (by decide)) 8)) hI43
      have I255 : jI47 σ204 := jI47_fr ((congrFun (f206 47 (by decide)) 0).trans (congrFun (f26 47 (by decide)) 0)) ((f206 48 (by decide)).trans (f26 48 (by decide))) ((f206 49 (by decide)).trans (f26 49 (by decide))) hI47
      have I256 : jI50 σ204 := jI50_fr ((f206 52 (by decide)).trans (f26 52 (by decide))) hI50
      have I257 : jI103 σ204 := jI103_fr ((f207 9 (by decide)).trans (congrFun (f26 55 (by decide)) 9)) hI103
      have I258 : jI104 σ204 := jI104_fr ((f207 10 (by decide)).trans (congrFun (f26 55 (by decide)) 10)) ((f207 12 (by decide)).trans (congrFun (f26 55 (by decide)) 12)) ((f207 13 (by decide)).trans (congrFun (f26 55 (by decide)) 13)) ((f206 62 (by decide)).trans (f26 62 (by decide))) ((f206 67 (by decide)).trans (f26 67 (by decide))) hI104
      have I259 : jI105 σ204 := jI105_fr ((f207 15 (by decide)).trans (congrFun (f26 55 (by decide)) 15)) ((f206 65 (by decide)).trans (f26 65 (by decide))) hI105
      have I260 : jI106 σ204 := jI106_fr ((f207 32 (by decide)).trans (congrFun (f26 55 (by decide)) 32)) ((f206 70 (by decide)).trans (f26 70 (by decide))) ((f206 71 (by decide)).trans (f26 71 (by decide))) ((f206 72 (by decide)).trans (f26 72 (by decide))) hI106
      have I261 : jI107 σ204 := jI107_fr ((f207 12 (by decide)).trans (congrFun (f26 55 (by decide)) 12)) ((f207 47 (by decide)).trans (congrFun (f26 55 (by decide)) 47)) ((f206 80 (by decide)).trans (f26 80 (by decide))) hI107
      have I262 : jI109 σ204 := jI109_fr ((f207 50 (by decide)).trans (congrFun (f26 55 (by decide)) 50)) hI109
      have I263 : jI110 σ204 := jI110_fr ((f206 86 (by decide)).trans (f26 86 (by decide))) ((f206 87 (by decide)).trans (f26 87 (by decide))) hI110
      have I264 : jI111 σ204 := jI111_fr ((f206 79 (by decide)).trans (f26 79 (by decide))) hI111
      have I265 : jI119 σ204 := jI119_fr ((f206 68 (by decide)).trans (f26 68 (by decide))) hI119
      have p266 : jKept σ204 := jKept.fr ((f206 75 (by decide)).trans (f26 75 (by decide))) ((f206 76 (by decide)).trans (f26 76 (by decide))) ((f206 77 (by decide)).trans (f26 77 (by decide))) hs_jKept
      have p267 : jBook σ204 := jBook.fr ((f207 47 (by decide)).trans (congrFun (f26 55 (by decide)) 47)) ((f207 10 (by decide)).trans (congrFun (f26 55 (by decide)) 10)) ((f206 81 (by decide)).trans (f26 81 (by decide))) hs_jBook
      have z268 : (σ204 2 0).toInt = (σ24 2 0).toInt := (congrArg Int32.toInt (show σ204 2 0 = (σ24 2 0) from (congrFun (f206 2 (by decide)) 0)))
      have z269 : (σ204 2 2).toInt = (σ 2 2).toInt := (congrArg Int32.toInt (show σ204 2 2 = (σ 2 2) from ((congrFun (f206 2 (by decide)) 2).trans (f27 2 (by decide)))))
      have z270 : (σ204 2 3).toInt = (σ 2 3).toInt := (congrArg Int32.toInt (show σ204 2 3 = (σ 2 3) from ((congrFun (f206 2 (by decide)) 3).trans (f27 3 (by decide)))))
      rw [show (σ 2 0).toInt = (σ 55 6).toInt from by omega] at k199
      rw [show σ24 56 = σ 56 from (f26 56 (by decide)), show (σ24 55 6).toInt = (σ 55 6).toInt from by omega] at k243
      have p271 := hr0.bowler k199 k243 (by omega) (by omega) (show (σ204 55 6).toInt = (σ 55 6).toInt + 1 from by omega)
      exact ih x245 σ204 τ _ _ ls (by have h9 := tx245; omega) ⟨I246, I247, I248, I249, I250, I251, I252, I253, I254, I255, I256, I208, I209, I257, I258, I259, I260, I261, I262, I263, I264, I265, p266, p267, (by omega), (by omega), (by omega), (show jNumP (σ204 3) (σ204 56) (σ204 6) (σ204 57) (σ204 7) (σ204 58) (σ204 8) (σ204 59) (σ204 55 6).toInt (σ204 55 4).toInt by rw [show σ204 3 = σ24 3 from (f206 3 (by decide)), show σ204 6 = σ 6 from ((f206 6 (by decide)).trans (f26 6 (by decide))), show σ204 57 = σ 57 from ((f206 57 (by decide)).trans (f26 57 (by decide))), show σ204 7 = σ 7 from ((f206 7 (by decide)).trans (f26 7 (by decide))), show σ204 58 = σ 58 from ((f206 58 (by decide)).trans (f26 58 (by decide))), show σ204 8 = σ 8 from ((f206 8 (by decide)).trans (f26 8 (by decide))), show σ204 59 = σ 59 from ((f206 59 (by decide)).trans (f26 59 (by decide))), show (σ204 55 4).toInt = (σ 55 4).toInt from by omega]; exact p271)⟩ hP hS (lv_sub hl [0, 1, 2, 3] rfl)
set_option maxHeartbeats 4000000 in
set_option maxRecDepth 100000 in
theorem law_case_1 {p : Program} {e : Env} {s : State} {m : MethodId} {below : List Frame} {meth : Method} {c : Code} (l : Launch) {b L : Nat} {xs : Nat → Int32} {D : va_G} {cI cL : ClassId} {ad zz : Nat → Nat} (C0 : lw_At p s m meth c b L xs) (hJ : jD ad) (hA : ∀ q, jA ad q → s.heap.size ≤ q) (hK : jK D cI cL s) (hZ : jZ zz (fun q : Nat => s.heap.size ≤ q) s s.heap) {x0 : Int32} (hx0 : 0 ≤ x0.toInt) (hxL : x0.toInt + 6 ≤ (L : Int)) (hL : L ≤ 384) {σ : Nat → Nat → Int32} {τ : Nat → Nat → Int64} {H : Heap} {locs : List Loc} (hS : va_S (fun q : Nat => s.heap.size ≤ q) s.heap H locs) {ls : Array Slot} (hAll : jAll σ τ) (hP : jH D cI cL ad σ τ H) (hl : lv_has ls 4 [(3, .int x0), (2, .ref (ad 55)), (1, .ref (ad 0)), (0, .ref b)]) (ih : ∀ (x1 : Int32) (σ : Nat → Nat → Int32) (τ : Nat → Nat → Int64) (H : Heap) (locs : List Loc) (ls : Array Slot), x1.toInt = x0.toInt + 6 → jAll σ τ → jH D cI cL ad σ τ H → va_S (fun q : Nat => s.heap.size ≤ q) s.heap H locs → lv_has ls 4 [(3, .int x1), (2, .ref (ad 55)), (1, .ref (ad 0)), (0, .ref b)] → W p l e room_1 s m #[Value.ref b] below meth c H locs 90 348600 (lw_Z below #[Value.ref b] s) (F0 m 18 ls [])) : W p l e room_1 s m #[Value.ref b] below meth c H locs 90 348600 (lw_Z below #[Value.ref b] s) (F0 m 239 ls []) := by
  obtain ⟨hx, hb, hr, hml, hown, hts0, hX, hbl, hlocks, hgv⟩ := C0
  have hts : ∀ w ∈ wsL_law, w.before #[Value.ref b] s = true := fun w h => hts0 w (wsL_law_in w h)
  have hbA : ¬ (fun q : Nat => s.heap.size ≤ q) b := Nat.not_le.mpr hbl
  have hown : s.vm.findClass RL = some m.cls := hown
  obtain ⟨hI2, hI9, hI12, hI16, hI18, hI22, hI31, hI38, hI43, hI47, hI50, hI101, hI102, hI103, hI104, hI105, hI106, hI107, hI109, hI110, hI111, hI119, hs_jKept, hs_jBook, ht0, ht1, ht2, hr0⟩ := hAll
  have hL9 : (L : Int) ≤ 384 := by omega
  obtain ⟨i1, i2, i3, i4, i5, w6⟩ : (0 ≤ (σ 2 0).toInt ∧ (σ 2 0).toInt ≤ 4) ∧ (0 ≤ (σ 2 1).toInt ∧ (σ 2 1).toInt ≤ 3) ∧ (0 ≤ (σ 2 2).toInt) ∧ (0 ≤ (σ 2 3).toInt) ∧ ((σ 2 2).toInt + (σ 2 3).toInt ≤ 40) ∧ (∀ k : Nat, k < 40 → 0 ≤ (σ 6 k).toInt ∧ (σ 6 k).toInt ≤ 67) := id hI2
  obtain ⟨i7, i8, i9, w10, w11, w12, w13⟩ : (0 ≤ (σ 55 5).toInt) ∧ ((σ 55 5).toInt ≤ (σ 55 4).toInt) ∧ ((σ 55 4).toInt ≤ 40) ∧ (∀ k : Nat, k < 68 → (-200) ≤ (σ 56 k).toInt ∧ (σ 56 k).toInt ≤ 500) ∧ (∀ k : Nat, k < 40 → 0 ≤ (σ 57 k).toInt ∧ (σ 57 k).toInt ≤ 67) ∧ (∀ k : Nat, k < 40 → (-200) ≤ (σ 58 k).toInt ∧ (σ 58 k).toInt ≤ 500) ∧ (∀ k : Nat, k < 40 → (-200) ≤ (σ 59 k).toInt ∧ (σ 59 k).toInt ≤ 500) := id hI101
  obtain ⟨i14, w15, w16⟩ : (0 ≤ (σ 55 6).toInt ∧ (σ 55 6).toInt ≤ 4) ∧ (∀ k : Nat, k < 4 → 0 ≤ (σ 60 k).toInt ∧ (σ 60 k).toInt ≤ 50) ∧ (∀ k : Nat, k < 4 → 0 ≤ (σ 61 k).toInt ∧ (σ 61 k).toInt ≤ 20) := id hI102
  refine lv_aload_n hx hb dL_law_239 rfl (lv_at hl 2 rfl) ?_
  refine lv_aload_n hx hb dL_law_240 rfl (lv_at hl 3 rfl) ?_
  refine lv_iload_n hx hb dL_law_241 rfl (lv_at hl 0 rfl) ?_
  refine lv_iconst (v := 1) hx hb dL_law_242 (by decide) ?_
  have g17 := jrg (rfl : x0.toInt = x0.toInt)
  refine lv_iadd hx hb dL_law_243 ?_
  refine lv_topi (fun x18 ex18 => ?_)
  have tx18 : x18.toInt = x0.toInt + 1 := (jadd ex18 rfl jz_1 (by omega) (by omega)).trans (by omega)
  refine va_sld hx hb hX hbl hbA hS (jin tx18 (by omega) (by omega)) dL_law_244 ?_
  have g19 := jrg (rfl : (xs x18.toNatClampNeg).toInt = (xs x18.toNatClampNeg).toInt)
  refine lv_aload_n hx hb dL_law_245 rfl (lv_at hl 3 rfl) ?_
  refine lv_iload_n hx hb dL_law_246 rfl (lv_at hl 0 rfl) ?_
  refine lv_iconst (v := 2) hx hb dL_law_247 (by decide) ?_
  refine lv_iadd hx hb dL_law_248 ?_
  refine lv_topi (fun x20 ex20 => ?_)
  have tx20 : x20.toInt = x0.toInt + 2 := (jadd ex20 rfl jz_2 (by omega) (by omega)).trans (by omega)
  refine va_sld hx hb hX hbl hbA hS (jin tx20 (by omega) (by omega)) dL_law_249 ?_
  have g21 := jrg (rfl : (xs x20.toNatClampNeg).toInt = (xs x20.toNatClampNeg).toInt)
  refine lv_aload_n hx hb dL_law_250 rfl (lv_at hl 3 rfl) ?_
  refine lv_iload_n hx hb dL_law_251 rfl (lv_at hl 0 rfl) ?_
  refine lv_iconst (v := 3) hx hb dL_law_252 (by decide) ?_
  refine lv_iadd hx hb dL_law_253 ?_
  refine lv_topi (fun x22 ex22 => ?_)
  have tx22 : x22.toInt = x0.toInt + 3 := (jadd ex22 rfl jz_3 (by omega) (by omega)).trans (by omega)
  refine va_sld hx hb hX hbl hbA hS (jin tx22 (by omega) (by omega)) dL_law_254 ?_
  have g23 := jrg (rfl : (xs x22.toNatClampNeg).toInt = (xs x22.toNatClampNeg).toInt)
  refine jcallV (As := [.int (xs x18.toNatClampNeg), .int (xs x20.toNatClampNeg), .int (xs x22.toNatClampNeg)]) (rest := []) ⟨hx, hb, hml, hown, hts⟩ hK hP hA hS hZ (c_X11_edge l D cI cL ad zz hJ σ τ (xs x18.toNatClampNeg) ((xs x18.toNatClampNeg).toInt) rfl (xs x20.toNatClampNeg) ((xs x20.toNatClampNeg).toInt) rfl (xs x22.toNatClampNeg) ((xs x22.toNatClampNeg).toInt) rfl hI2) cw_RL_18 (jc_0 cI cL ad σ τ) rfl ⟨Nat.le_of_ble_eq_true rfl, Nat.le_of_ble_eq_true rfl⟩ rfl rfl rfl hl.1 rfl (Nat.le_of_ble_eq_true rfl) dL_law_255 ⟨Nat.le_of_ble_eq_true rfl, Nat.le_of_ble_eq_true rfl⟩ (fun r25 σ24 τ24 H locs h24 hP hS => ?_)
  obtain ⟨rfl, f26, f27, I28, h24⟩ := h24
  obtain ⟨i30, i31, i32, i33, i34, w35⟩ : (0 ≤ (σ24 2 0).toInt ∧ (σ24 2 0).toInt ≤ 4) ∧ (0 ≤ (σ24 2 1).toInt ∧ (σ24 2 1).toInt ≤ 3) ∧ (0 ≤ (σ24 2 2).toInt) ∧ (0 ≤ (σ24 2 3).toInt) ∧ ((σ24 2 2).toInt + (σ24 2 3).toInt ≤ 40) ∧ (∀ k : Nat, k < 40 → 0 ≤ (σ24 6 k).toInt ∧ (σ24 6 k).toInt ≤ 67) := id I28
  have z36 : (σ24 2 0).toInt = (σ 2 0).toInt := (congrArg Int32.toInt (show σ24 2 0 = (σ 2 0) from (f27 0 (by decide))))
  have z37 : (σ24 2 1).toInt = (σ 2 1).toInt := (congrArg Int32.toInt (show σ24 2 1 = (σ 2 1) from (f27 1 (by decide))))
  rcases h24 with h38 | h39
  · obtain ⟨q44, k40, k41, k42, k43⟩ := h38
    have q44 := q44.symm
    subst q44
    refine lv_pop hx hb dL_law_258 rfl ?_
    refine lv_aload_n hx hb dL_law_259 rfl (lv_at hl 1 rfl) ?_
    refine lv_aload_n hx hb dL_law_260 rfl (lv_at hl 3 rfl) ?_
    refine lv_iload_n hx hb dL_law_261 rfl (lv_at hl 0 rfl) ?_
    refine lv_iconst (v := 1) hx hb dL_law_262 (by decide) ?_
    refine lv_iadd hx hb dL_law_263 ?_
    refine jtopr ex18.symm ?_
    refine va_sld hx hb hX hbl hbA hS (jin tx18 (by omega) (by omega)) dL_law_264 ?_
    refine lv_aload_n hx hb dL_law_265 rfl (lv_at hl 3 rfl) ?_
    refine lv_iload_n hx hb dL_law_266 rfl (lv_at hl 0 rfl) ?_
    refine lv_iconst (v := 2) hx hb dL_law_267 (by decide) ?_
    refine lv_iadd hx hb dL_law_268 ?_
    refine jtopr ex20.symm ?_
    refine va_sld hx hb hX hbl hbA hS (jin tx20 (by omega) (by omega)) dL_law_269 ?_
    refine lv_aload_n hx hb dL_law_270 rfl (lv_at hl 3 rfl) ?_
    refine lv_iload_n hx hb dL_law_271 rfl (lv_at hl 0 rfl) ?_
    refine lv_iconst (v := 3) hx hb dL_law_272 (by decide) ?_
    refine lv_iadd hx hb dL_law_273 ?_
    refine jtopr ex22.symm ?_
    refine va_sld hx hb hX hbl hbA hS (jin tx22 (by omega) (by omega)) dL_law_274 ?_
    have I45 : jI101 σ24 := jI101_fr (congrFun (f26 55 (by decide)) 4) (congrFun (f26 55 (by decide)) 5) (f26 56 (by decide)) (f26 57 (by decide)) (f26 58 (by decide)) (f26 59 (by decide)) hI101
    have I46 : jI102 σ24 := jI102_fr (congrFun (f26 55 (by decide)) 6) (f26 60 (by decide)) (f26 61 (by decide)) hI102
    have z47 : (σ24 55 5).toInt = (σ 55 5).toInt := (congrArg Int32.toInt (show σ24 55 5 = (σ 55 5) from (congrFun (f26 55 (by decide)) 5)))
    have z48 : (σ24 55 4).toInt = (σ 55 4).toInt := (congrArg Int32.toInt (show σ24 55 4 = (σ 55 4) from (congrFun (f26 55 (by decide)) 4)))
    refine jcallV (As := [.int (xs x18.toNatClampNeg), .int (xs x20.toNatClampNeg), .int (xs x22.toNatClampNeg)]) (rest := []) ⟨hx, hb, hml, hown, hts⟩ hK hP hA hS hZ (c_X12_edge l D cI cL ad zz hJ σ24 τ (xs x18.toNatClampNeg) ((xs x18.toNatClampNeg).toInt) rfl (xs x20.toNatClampNeg) ((xs x20.toNatClampNeg).toInt) rfl (xs x22.toNatClampNeg) ((xs x22.toNatClampNeg).toInt) rfl I45 I46) cw_RL_21 (jc_55 cI cL ad σ24 τ) rfl ⟨Nat.le_of_ble_eq_true rfl, Nat.le_of_ble_eq_true rfl⟩ rfl rfl rfl hl.1 rfl (Nat.le_of_ble_eq_true rfl) dL_law_275 ⟨Nat.le_of_ble_eq_true rfl, Nat.le_of_ble_eq_true rfl⟩ (fun r50 σ49 τ49 H locs h49 hP hS => ?_)
    obtain ⟨rfl, f51, f52, I53, h49⟩ := h49
    obtain ⟨i55, i56, i57, w58, w59, w60, w61⟩ : (0 ≤ (σ49 55 5).toInt) ∧ ((σ49 55 5).toInt ≤ (σ49 55 4).toInt) ∧ ((σ49 55 4).toInt ≤ 40) ∧ (∀ k : Nat, k < 68 → (-200) ≤ (σ49 56 k).toInt ∧ (σ49 56 k).toInt ≤ 500) ∧ (∀ k : Nat, k < 40 → 0 ≤ (σ49 57 k).toInt ∧ (σ49 57 k).toInt ≤ 67) ∧ (∀ k : Nat, k < 40 → (-200) ≤ (σ49 58 k).toInt ∧ (σ49 58 k).toInt ≤ 500) ∧ (∀ k : Nat, k < 40 → (-200) ≤ (σ49 59 k).toInt ∧ (σ49 59 k).toInt ≤ 500) := id I53
    rcases h49 with h62 | h63
    · obtain ⟨q68, k64, k65, k66, k67⟩ := h62
      have q68 := q68.symm
      subst q68
      have z69 : (σ24 55 6).toInt = (σ 55 6).toInt := (congrArg Int32.toInt (show σ24 55 6 = (σ 55 6) from (congrFun (f26 55 (by decide)) 6)))
      rw [show (σ24 55 6).toInt = (σ 2 0).toInt from by omega] at k66
      refine lv_pop hx hb dL_law_278 rfl ?_
      refine lv_goto (tgt := 1357) hx hb dL_law_279 (by decide) ?_
      obtain ⟨x70, ex70⟩ : ∃ y : Int32, y = x0 + 6 := ⟨_, rfl⟩
      have tx70 : x70.toInt = x0.toInt + 6 := (jadd ex70 rfl jz_6 (by omega) (by omega)).trans (by omega)
      refine lv_iinc (v := x70) (lv' := [(3, .int x70), (2, .ref (ad 55)), (1, .ref (ad 0)), (0, .ref b)]) hx hb dL_law_1357 hl (k := 0) rfl (by rw [ex70]; rfl) (by decide) rfl (fun ls hl => ?_)
      refine lv_goto (tgt := 18) hx hb dL_law_1360 (by decide) ?_
      have I71 : jI2 σ49 := jI2_fr (congrFun (f51 2 (by decide)) 0) (congrFun (f51 2 (by decide)) 1) (congrFun (f51 2 (by decide)) 2) (congrFun (f51 2 (by decide)) 3) (f51 6 (by decide)) I28
      have I72 : jI9 σ49 := jI9_fr ((congrFun (f51 9 (by decide)) 0).trans (congrFun (f26 9 (by decide)) 0)) ((f51 10 (by decide)).trans (f26 10 (by decide))) ((f51 11 (by decide)).trans (f26 11 (by decide))) hI9
      have I73 : jI12 σ49 := jI12_fr ((congrFun (f51 12 (by decide)) 0).trans (congrFun (f26 12 (by decide)) 0)) ((f51 13 (by decide)).trans (f26 13 (by decide))) hI12
      have I74 : jI16 σ49 := jI16_fr ((congrFun (f51 16 (by decide)) 0).trans (congrFun (f26 16 (by decide)) 0)) ((congrFun (f51 16 (by decide)) 1).trans (congrFun (f26 16 (by decide)) 1)) ((congrFun (f51 16 (by decide)) 2).trans (congrFun (f26 16 (by decide)) 2)) ((f51 17 (by decide)).trans (f26 17 (by decide))) hI16
      have I75 : jI18 σ49 := jI18_fr ((congrFun (f51 18 (by decide)) 0).trans (congrFun (f26 18 (by decide)) 0)) ((f51 19 (by decide)).trans (f26 19 (by decide))) hI18
      have I76 : jI22 σ49 := jI22_fr ((congrFun (f51 22 (by decide)) 0).trans (congrFun (f26 22 (by decide)) 0)) ((f51 23 (by decide)).trans (f26 23 (by decide))) hI22
      have I77 : jI31 σ49 := jI31_fr ((congrFun (f51 31 (by decide)) 8).trans (congrFun (f26 31 (by decide)) 8)) ((f51 33 (by decide)).trans (f26 33 (by decide))) ((f51 36 (by decide)).trans (f26 36 (by decide))) hI31
      have I78 : jI38 σ49 := jI38_fr ((congrFun (f51 38 (by decide)) 0).trans (congrFun (f26 38 (by decide)) 0)) ((congrFun (f51 38 (by decide)) 1).trans (congrFun (f26 38 (by decide)) 1)) ((f51 39 (by decide)).trans (f26 39 (by decide))) hI38
      have I79 : jI43 σ49 := jI43_fr ((congrFun (f51 43 (by decide)) 8).trans (congrFun (f26 43 (by decide)) 8)) hI43
      have I80 : jI47 σ49 := jI47_fr ((congrFun (f51 47 (by decide)) 0).trans (congrFun (f26 47 (by decide)) 0)) ((f51 48 (by decide)).trans (f26 48 (by decide))) ((f51 49 (by decide)).trans (f26 49 (by decide))) hI47
      have I81 : jI50 σ49 := jI50_fr ((f51 52 (by decide)).trans (f26 52 (by decide))) hI50
      have I82 : jI102 σ49 := jI102_fr (f52 6 (by decide)) (f51 60 (by decide)) (f51 61 (by decide)) I46
      have I83 : jI103 σ49 := jI103_fr ((f52 9 (by decide)).trans (congrFun (f26 55 (by decide)) 9)) hI103
      have I84 : jI104 σ49 := jI104_fr ((f52 10 (by decide)).trans (congrFun (f26 55 (by decide)) 10)) ((f52 12 (by decide)).trans (congrFun (f26 55 (by decide)) 12)) ((f52 13 (by decide)).trans (congrFun (f26 55 (by decide)) 13)) ((f51 62 (by decide)).trans (f26 62 (by decide))) ((f51 67 (by decide)).trans (f26 67 (by decide))) hI104
      have I85 : jI105 σ49 := jI105_fr ((f52 15 (by decide)).trans (congrFun (f26 55 (by decide)) 15)) ((f51 65 (by decide)).trans (f26 65 (by decide))) hI105
      have I86 : jI106 σ49 := jI106_fr ((f52 32 (by decide)).trans (congrFun (f26 55 (by decide)) 32)) ((f51 70 (by decide)).trans (f26 70 (by decide))) ((f51 71 (by decide)).trans (f26 71 (by decide))) ((f51 72 (by decide)).trans (f26 72 (by decide))) hI106
      have I87 : jI107 σ49 := jI107_fr ((f52 12 (by decide)).trans (congrFun (f26 55 (by decide)) 12)) ((f52 47 (by decide)).trans (congrFun (f26 55 (by decide)) 47)) ((f51 80 (by decide)).trans (f26 80 (by decide))) hI107
      have I88 : jI109 σ49 := jI109_fr ((f52 50 (by decide)).trans (congrFun (f26 55 (by decide)) 50)) hI109
      have I89 : jI110 σ49 := jI110_fr ((f51 86 (by decide)).trans (f26 86 (by decide))) ((f51 87 (by decide)).trans (f26 87 (by decide))) hI110
      have I90 : jI111 σ49 := jI111_fr ((f51 79 (by decide)).trans (f26 79 (by decide))) hI111
      have I91 : jI119 σ49 := jI119_fr ((f51 68 (by decide)).trans (f26 68 (by decide))) hI119
      have p92 : jKept σ49 := jKept.fr ((f51 75 (by decide)).trans (f26 75 (by decide))) ((f51 76 (by decide)).trans (f26 76 (by decide))) ((f51 77 (by decide)).trans (f26 77 (by decide))) hs_jKept
      have p93 : jBook σ49 := jBook.fr ((f52 47 (by decide)).trans (congrFun (f26 55 (by decide)) 47)) ((f52 10 (by decide)).trans (congrFun (f26 55 (by decide)) 10)) ((f51 81 (by decide)).trans (f26 81 (by decide))) hs_jBook
      have z94 : (σ49 2 0).toInt = (σ 2 0).toInt := (congrArg Int32.toInt (show σ49 2 0 = (σ 2 0) from ((congrFun (f51 2 (by decide)) 0).trans (f27 0 (by decide)))))
      have z95 : (σ49 55 6).toInt = (σ 55 6).toInt := (congrArg Int32.toInt (show σ49 55 6 = (σ 55 6) from ((f52 6 (by decide)).trans (congrFun (f26 55 (by decide)) 6))))
      have z96 : (σ49 2 2).toInt = (σ24 2 2).toInt := (congrArg Int32.toInt (show σ49 2 2 = (σ24 2 2) from (congrFun (f51 2 (by decide)) 2)))
      have z97 : (σ49 2 3).toInt = (σ24 2 3).toInt := (congrArg Int32.toInt (show σ49 2 3 = (σ24 2 3) from (congrFun (f51 2 (by decide)) 3)))
      exact ih x70 σ49 τ _ _ ls (by have h9 := tx70; omega) ⟨I71, I72, I73, I74, I75, I76, I77, I78, I79, I80, I81, I53, I82, I83, I84, I85, I86, I87, I88, I89, I90, I91, p92, p93, (by omega), (by omega), (by omega), (show jNumP (σ49 3) (σ49 56) (σ49 6) (σ49 57) (σ49 7) (σ49 58) (σ49 8) (σ49 59) (σ49 55 6).toInt (σ49 55 4).toInt by rw [show σ49 3 = σ 3 from ((f51 3 (by decide)).trans k43.1), show σ49 56 = σ 56 from (k67.1.trans (f26 56 (by decide))), show σ49 6 = σ 6 from ((f51 6 (by decide)).trans k43.2.1), show σ49 57 = σ 57 from (k67.2.1.trans (f26 57 (by decide))), show σ49 7 = σ 7 from ((f51 7 (by decide)).trans k43.2.2.1), show σ49 58 = σ 58 from (k67.2.2.1.trans (f26 58 (by decide))), show σ49 8 = σ 8 from ((f51 8 (by decide)).trans k43.2.2.2), show σ49 59 = σ 59 from (k67.2.2.2.trans (f26 59 (by decide))), show (σ49 55 6).toInt = (σ 55 6).toInt from by omega, show (σ49 55 4).toInt = (σ 55 4).toInt from by omega]; exact hr0)⟩ hP hS (lv_sub hl [0, 1, 2, 3] rfl)
    · obtain ⟨q99, k98⟩ := h63
      have z100 : (σ24 55 6).toInt = (σ 55 6).toInt := (congrArg Int32.toInt (show σ24 55 6 = (σ 55 6) from (congrFun (f26 55 (by decide)) 6)))
      rw [show (σ24 55 6).toInt = (σ 2 0).toInt from by omega] at k98
      exact absurd k98.1 k42
  · obtain ⟨q102, k101⟩ := h39
    refine lv_pop hx hb dL_law_258 rfl ?_
    refine lv_aload_n hx hb dL_law_259 rfl (lv_at hl 1 rfl) ?_
    refine lv_aload_n hx hb dL_law_260 rfl (lv_at hl 3 rfl) ?_
    refine lv_iload_n hx hb dL_law_261 rfl (lv_at hl 0 rfl) ?_
    refine lv_iconst (v := 1) hx hb dL_law_262 (by decide) ?_
    refine lv_iadd hx hb dL_law_263 ?_
    refine jtopr ex18.symm ?_
    refine va_sld hx hb hX hbl hbA hS (jin tx18 (by omega) (by omega)) dL_law_264 ?_
    refine lv_aload_n hx hb dL_law_265 rfl (lv_at hl 3 rfl) ?_
    refine lv_iload_n hx hb dL_law_266 rfl (lv_at hl 0 rfl) ?_
    refine lv_iconst (v := 2) hx hb dL_law_267 (by decide) ?_
    refine lv_iadd hx hb dL_law_268 ?_
    refine jtopr ex20.symm ?_
    refine va_sld hx hb hX hbl hbA hS (jin tx20 (by omega) (by omega)) dL_law_269 ?_
    refine lv_aload_n hx hb dL_law_270 rfl (lv_at hl 3 rfl) ?_
    refine lv_iload_n hx hb dL_law_271 rfl (lv_at hl 0 rfl) ?_
    refine lv_iconst (v := 3) hx hb dL_law_272 (by decide) ?_
    refine lv_iadd hx hb dL_law_273 ?_
    refine jtopr ex22.symm ?_
    refine va_sld hx hb hX hbl hbA hS (jin tx22 (by omega) (by omega)) dL_law_274 ?_
    have I103 : jI101 σ24 := jI101_fr (congrFun (f26 55 (by decide)) 4) (congrFun (f26 55 (by decide)) 5) (f26 56 (by decide)) (f26 57 (by decide)) (f26 58 (by decide)) (f26 59 (by decide)) hI101
    have I104 : jI102 σ24 := jI102_fr (congrFun (f26 55 (by decide)) 6) (f26 60 (by decide)) (f26 61 (by decide)) hI102
    have z105 : (σ24 55 5).toInt = (σ 55 5).toInt := (congrArg Int32.toInt (show σ24 55 5 = (σ 55 5) from (congrFun (f26 55 (by decide)) 5)))
    have z106 : (σ24 55 4).toInt = (σ 55 4).toInt := (congrArg Int32.toInt (show σ24 55 4 = (σ 55 4) from (congrFun (f26 55 (by decide)) 4)))
    refine jcallV (As := [.int (xs x18.toNatClampNeg), .int (xs x20.toNatClampNeg), .int (xs x22.toNatClampNeg)]) (rest := []) ⟨hx, hb, hml, hown, hts⟩ hK hP hA hS hZ (c_X12_edge l D cI cL ad zz hJ σ24 τ (xs x18.toNatClampNeg) ((xs x18.toNatClampNeg).toInt) rfl (xs x20.toNatClampNeg) ((xs x20.toNatClampNeg).toInt) rfl (xs x22.toNatClampNeg) ((xs x22.toNatClampNeg).toInt) rfl I103 I104) cw_RL_21 (jc_55 cI cL ad σ24 τ) rfl ⟨Nat.le_of_ble_eq_true rfl, Nat.le_of_ble_eq_true rfl⟩ rfl rfl rfl hl.1 rfl (Nat.le_of_ble_eq_true rfl) dL_law_275 ⟨Nat.le_of_ble_eq_true rfl, Nat.le_of_ble_eq_true rfl⟩ (fun r108 σ107 τ107 H locs h107 hP hS => ?_)
    obtain ⟨rfl, f109, f110, I111, h107⟩ := h107
    obtain ⟨i113, i114, i115, w116, w117, w118, w119⟩ : (0 ≤ (σ107 55 5).toInt) ∧ ((σ107 55 5).toInt ≤ (σ107 55 4).toInt) ∧ ((σ107 55 4).toInt ≤ 40) ∧ (∀ k : Nat, k < 68 → (-200) ≤ (σ107 56 k).toInt ∧ (σ107 56 k).toInt ≤ 500) ∧ (∀ k : Nat, k < 40 → 0 ≤ (σ107 57 k).toInt ∧ (σ107 57 k).toInt ≤ 67) ∧ (∀ k : Nat, k < 40 → (-200) ≤ (σ107 58 k).toInt ∧ (σ107 58 k).toInt ≤ 500) ∧ (∀ k : Nat, k < 40 → (-200) ≤ (σ107 59 k).toInt ∧ (σ107 59 k).toInt ≤ 500) := id I111
    rcases h107 with h120 | h121
    · obtain ⟨q126, k122, k123, k124, k125⟩ := h120
      have q126 := q126.symm
      subst q126
      have z127 : (σ24 55 6).toInt = (σ 55 6).toInt := (congrArg Int32.toInt (show σ24 55 6 = (σ 55 6) from (congrFun (f26 55 (by decide)) 6)))
      rw [show (σ24 55 6).toInt = (σ 2 0).toInt from by omega] at k124
      exact absurd k101.1 k124
    · obtain ⟨q129, k128⟩ := h121
      have z130 : (σ24 55 6).toInt = (σ 55 6).toInt := (congrArg Int32.toInt (show σ24 55 6 = (σ 55 6) from (congrFun (f26 55 (by decide)) 6)))
      rw [show (σ24 55 6).toInt = (σ 2 0).toInt from by omega] at k128
      obtain ⟨e131, q132, l133, c134⟩ := k101
      obtain ⟨-, q135, l136, c137⟩ := k128
      have p138 := jEdge_pl (by omega) e131 l133 l136
      rw [show σ24 56 = σ 56 from (f26 56 (by decide)), show σ24 57 = σ 57 from (f26 57 (by decide)), show σ24 58 = σ 58 from (f26 58 (by decide)), show σ24 59 = σ 59 from (f26 59 (by decide)), show (σ24 55 4).toInt = (σ 55 4).toInt from by omega] at c137
      have r142 := hr0.res p138.1 (by have h9 := p138.2.1; omega) c134 c137 p138.2.2
      have k141 := hr0.chg p138.1 (by have h9 := p138.2.1; omega) c134 c137 p138.2.2 (by omega) (by omega) (by omega)
      have k139 := k141.2.1
      have k140 := k141.2.2
      have o143 : 32 ≤ q135 → q135 ≤ 35 → 0 ≤ (xs x22.toNatClampNeg).toInt ∧ (xs x22.toNatClampNeg).toInt ≤ 8 := fun x y => by
        have e := e131
        have l := l136
        unfold jEok at e; unfold jEpl at l; omega
      refine lv_pop hx hb dL_law_278 rfl ?_
      refine lv_goto (tgt := 1357) hx hb dL_law_279 (by decide) ?_
      obtain ⟨x144, ex144⟩ : ∃ y : Int32, y = x0 + 6 := ⟨_, rfl⟩
      have tx144 : x144.toInt = x0.toInt + 6 := (jadd ex144 rfl jz_6 (by omega) (by omega)).trans (by omega)
      refine lv_iinc (v := x144) (lv' := [(3, .int x144), (2, .ref (ad 55)), (1, .ref (ad 0)), (0, .ref b)]) hx hb dL_law_1357 hl (k := 0) rfl (by rw [ex144]; rfl) (by decide) rfl (fun ls hl => ?_)
      refine lv_goto (tgt := 18) hx hb dL_law_1360 (by decide) ?_
      have I145 : jI2 σ107 := jI2_fr (congrFun (f109 2 (by decide)) 0) (congrFun (f109 2 (by decide)) 1) (congrFun (f109 2 (by decide)) 2) (congrFun (f109 2 (by decide)) 3) (f109 6 (by decide)) I28
      have I146 : jI9 σ107 := jI9_fr ((congrFun (f109 9 (by decide)) 0).trans (congrFun (f26 9 (by decide)) 0)) ((f109 10 (by decide)).trans (f26 10 (by decide))) ((f109 11 (by decide)).trans (f26 11 (by decide))) hI9
      have I147 : jI12 σ107 := jI12_fr ((congrFun (f109 12 (by decide)) 0).trans (congrFun (f26 12 (by decide)) 0)) ((f109 13 (by decide)).trans (f26 13 (by decide))) hI12
      have I148 : jI16 σ107 := jI16_fr ((congrFun (f109 16 (by decide)) 0).trans (congrFun (f26 16 (by decide)) 0)) ((congrFun (f109 16 (by decide)) 1).trans (congrFun (f26 16 (by decide)) 1)) ((congrFun (f109 16 (by decide)) 2).trans (congrFun (f26 16 (by decide)) 2)) ((f109 17 (by decide)).trans (f26 17 (by decide))) hI16
      have I149 : jI18 σ107 := jI18_fr ((congrFun (f109 18 (by decide)) 0).trans (congrFun (f26 18 (by decide)) 0)) ((f109 19 (by decide)).trans (f26 19 (by decide))) hI18
      have I150 : jI22 σ107 := jI22_fr ((congrFun (f109 22 (by decide)) 0).trans (congrFun (f26 22 (by decide)) 0)) ((f109 23 (by decide)).trans (f26 23 (by decide))) hI22
      have I151 : jI31 σ107 := jI31_fr ((congrFun (f109 31 (by decide)) 8).trans (congrFun (f26 31 (by decide)) 8)) ((f109 33 (by decide)).trans (f26 33 (by decide))) ((f109 36 (by decide)).trans (f26 36 (by decide))) hI31
      have I152 : jI38 σ107 := jI38_fr ((congrFun (f109 38 (by decide)) 0).trans (congrFun (f26 38 (by decide)) 0)) ((congrFun (f109 38 (by decide)) 1).trans (congrFun (f26 38 (by decide)) 1)) ((f109 39 (by decide)).trans (f26 39 (by decide))) hI38
      have I153 : jI43 σ107 := jI43_fr ((congrFun (f109 43 (by decide)) 8).trans (congrFun (f26 43 (by decide)) 8)) hI43
      have I154 : jI47 σ107 := jI47_fr ((congrFun (f109 47 (by decide)) 0).trans (congrFun (f26 47 (by decide)) 0)) ((f109 48 (by decide)).trans (f26 48 (by decide))) ((f109 49 (by decide)).trans (f26 49 (by decide))) hI47
      have I155 : jI50 σ107 := jI50_fr ((f109 52 (by decide)).trans (f26 52 (by decide))) hI50
      have I156 : jI102 σ107 := jI102_fr (f110 6 (by decide)) (f109 60 (by decide)) (f109 61 (by decide)) I104
      have I157 : jI103 σ107 := jI103_fr ((f110 9 (by decide)).trans (congrFun (f26 55 (by decide)) 9)) hI103
      have I158 : jI104 σ107 := jI104_fr ((f110 10 (by decide)).trans (congrFun (f26 55 (by decide)) 10)) ((f110 12 (by decide)).trans (congrFun (f26 55 (by decide)) 12)) ((f110 13 (by decide)).trans (congrFun (f26 55 (by decide)) 13)) ((f109 62 (by decide)).trans (f26 62 (by decide))) ((f109 67 (by decide)).trans (f26 67 (by decide))) hI104
      have I159 : jI105 σ107 := jI105_fr ((f110 15 (by decide)).trans (congrFun (f26 55 (by decide)) 15)) ((f109 65 (by decide)).trans (f26 65 (by decide))) hI105
      have I160 : jI106 σ107 := jI106_fr ((f110 32 (by decide)).trans (congrFun (f26 55 (by decide)) 32)) ((f109 70 (by decide)).trans (f26 70 (by decide))) ((f109 71 (by decide)).trans (f26 71 (by decide))) ((f109 72 (by decide)).trans (f26 72 (by decide))) hI106
      have I161 : jI107 σ107 := jI107_fr ((f110 12 (by decide)).trans (congrFun (f26 55 (by decide)) 12)) ((f110 47 (by decide)).trans (congrFun (f26 55 (by decide)) 47)) ((f109 80 (by decide)).trans (f26 80 (by decide))) hI107
      have I162 : jI109 σ107 := jI109_fr ((f110 50 (by decide)).trans (congrFun (f26 55 (by decide)) 50)) hI109
      have I163 : jI110 σ107 := jI110_fr ((f109 86 (by decide)).trans (f26 86 (by decide))) ((f109 87 (by decide)).trans (f26 87 (by decide))) hI110
      have I164 : jI111 σ107 := jI111_fr ((f109 79 (by decide)).trans (f26 79 (by decide))) hI111
      have I165 : jI119 σ107 := jI119_fr ((f109 68 (by decide)).trans (f26 68 (by decide))) hI119
      have p166 : jKept σ107 := jKept.fr ((f109 75 (by decide)).trans (f26 75 (by decide))) ((f109 76 (by decide)).trans (f26 76 (by decide))) ((f109 77 (by decide)).trans (f26 77 (by decide))) hs_jKept
      have p167 : jBook σ107 := jBook.fr ((f110 47 (by decide)).trans (congrFun (f26 55 (by decide)) 47)) ((f110 10 (by decide)).trans (congrFun (f26 55 (by decide)) 10)) ((f109 81 (by decide)).trans (f26 81 (by decide))) hs_jBook
      have z168 : (σ107 2 0).toInt = (σ 2 0).toInt := (congrArg Int32.toInt (show σ107 2 0 = (σ 2 0) from ((congrFun (f109 2 (by decide)) 0).trans (f27 0 (by decide)))))
      have z169 : (σ107 55 6).toInt = (σ 55 6).toInt := (congrArg Int32.toInt (show σ107 55 6 = (σ 55 6) from ((f110 6 (by decide)).trans (congrFun (f26 55 (by decide)) 6))))
      have z170 : (σ107 2 2).toInt = (σ24 2 2).toInt := (congrArg Int32.toInt (show σ107 2 2 = (σ24 2 2) from (congrFun (f109 2 (by decide)) 2)))
      have z171 : (σ107 2 3).toInt = (σ24 2 3).toInt := (congrArg Int32.toInt (show σ107 2 3 = (σ24 2 3) from (congrFun (f109 2 (by decide)) 3)))
      exact ih x144 σ107 τ _ _ ls (by have h9 := tx144; omega) ⟨I145, I146, I147, I148, I149, I150, I151, I152, I153, I154, I155, I111, I156, I157, I158, I159, I160, I161, I162, I163, I164, I165, p166, p167, (by omega), (by omega), (by omega), (show jNumP (σ107 3) (σ107 56) (σ107 6) (σ107 57) (σ107 7) (σ107 58) (σ107 8) (σ107 59) (σ107 55 6).toInt (σ107 55 4).toInt by rw [show σ107 3 = σ24 3 from (f109 3 (by decide)), show σ107 6 = σ24 6 from (f109 6 (by decide)), show σ107 7 = σ24 7 from (f109 7 (by decide)), show σ107 8 = σ24 8 from (f109 8 (by decide)), show (σ107 55 6).toInt = (σ 55 6).toInt from by omega]; exact k141.1)⟩ hP hS (lv_sub hl [0, 1, 2, 3] rfl)
set_option maxHeartbeats 4000000 in
set_option maxRecDepth 100000 in
theorem law_case_2 {p : Program} {e : Env} {s : State} {m : MethodId} {below : List Frame} {meth : Method} {c : Code} (l : Launch) {b L : Nat} {xs : Nat → Int32} {D : va_G} {cI cL : ClassId} {ad zz : Nat → Nat} (C0 : lw_At p s m meth c b L xs) (hJ : jD ad) (hA : ∀ q, jA ad q → s.heap.size ≤ q) (hK : jK D cI cL s) (hZ : jZ zz (fun q : Nat => s.heap.size ≤ q) s s.heap) {x0 : Int32} (hx0 : 0 ≤ x0.toInt) (hxL : x0.toInt + 6 ≤ (L : Int)) (hL : L ≤ 384) {σ : Nat → Nat → Int32} {τ : Nat → Nat → Int64} {H : Heap} {locs : List Loc} (hS : va_S (fun q : Nat => s.heap.size ≤ q) s.heap H locs) {ls : Array Slot} (hAll : jAll σ τ) (hP : jH D cI cL ad σ τ H) (hl : lv_has ls 4 [(3, .int x0), (2, .ref (ad 55)), (1, .ref (ad 0)), (0, .ref b)]) (ih : ∀ (x1 : Int32) (σ : Nat → Nat → Int32) (τ : Nat → Nat → Int64) (H : Heap) (locs : List Loc) (ls : Array Slot), x1.toInt = x0.toInt + 6 → jAll σ τ → jH D cI cL ad σ τ H → va_S (fun q : Nat => s.heap.size ≤ q) s.heap H locs → lv_has ls 4 [(3, .int x1), (2, .ref (ad 55)), (1, .ref (ad 0)), (0, .ref b)] → W p l e room_1 s m #[Value.ref b] below meth c H locs 90 348600 (lw_Z below #[Value.ref b] s) (F0 m 18 ls [])) : W p l e room_1 s m #[Value.ref b] below meth c H locs 90 348600 (lw_Z below #[Value.ref b] s) (F0 m 282 ls []) := by
  obtain ⟨hx, hb, hr, hml, hown, hts0, hX, hbl, hlocks, hgv⟩ := C0
  have hts : ∀ w ∈ wsL_law, w.before #[Value.ref b] s = true := fun w h => hts0 w (wsL_law_in w h)
  have hbA : ¬ (fun q : Nat => s.heap.size ≤ q) b := Nat.not_le.mpr hbl
  have hown : s.vm.findClass RL = some m.cls := hown
  obtain ⟨hI2, hI9, hI12, hI16, hI18, hI22, hI31, hI38, hI43, hI47, hI50, hI101, hI102, hI103, hI104, hI105, hI106, hI107, hI109, hI110, hI111, hI119, hs_jKept, hs_jBook, ht0, ht1, ht2, hr0⟩ := hAll
  have hL9 : (L : Int) ≤ 384 := by omega
  obtain ⟨i1, i2, i3, i4, i5, w6⟩ : (0 ≤ (σ 2 0).toInt ∧ (σ 2 0).toInt ≤ 4) ∧ (0 ≤ (σ 2 1).toInt ∧ (σ 2 1).toInt ≤ 3) ∧ (0 ≤ (σ 2 2).toInt) ∧ (0 ≤ (σ 2 3).toInt) ∧ ((σ 2 2).toInt + (σ 2 3).toInt ≤ 40) ∧ (∀ k : Nat, k < 40 → 0 ≤ (σ 6 k).toInt ∧ (σ 6 k).toInt ≤ 67) := id hI2
  obtain ⟨i7, i8, i9, w10, w11, w12, w13⟩ : (0 ≤ (σ 55 5).toInt) ∧ ((σ 55 5).toInt ≤ (σ 55 4).toInt) ∧ ((σ 55 4).toInt ≤ 40) ∧ (∀ k : Nat, k < 68 → (-200) ≤ (σ 56 k).toInt ∧ (σ 56 k).toInt ≤ 500) ∧ (∀ k : Nat, k < 40 → 0 ≤ (σ 57 k).toInt ∧ (σ 57 k).toInt ≤ 67) ∧ (∀ k : Nat, k < 40 → (-200) ≤ (σ 58 k).toInt ∧ (σ 58 k).toInt ≤ 500) ∧ (∀ k : Nat, k < 40 → (-200) ≤ (σ 59 k).toInt ∧ (σ 59 k).toInt ≤ 500) := id hI101
  obtain ⟨i14, w15, w16⟩ : (0 ≤ (σ 55 6).toInt ∧ (σ 55 6).toInt ≤ 4) ∧ (∀ k : Nat, k < 4 → 0 ≤ (σ 60 k).toInt ∧ (σ 60 k).toInt ≤ 50) ∧ (∀ k : Nat, k < 4 → 0 ≤ (σ 61 k).toInt ∧ (σ 61 k).toInt ≤ 20) := id hI102
  refine lv_aload_n hx hb dL_law_282 rfl (lv_at hl 2 rfl) ?_
  refine lv_aload_n hx hb dL_law_283 rfl (lv_at hl 3 rfl) ?_
  refine lv_iload_n hx hb dL_law_284 rfl (lv_at hl 0 rfl) ?_
  refine lv_iconst (v := 1) hx hb dL_law_285 (by decide) ?_
  have g17 := jrg (rfl : x0.toInt = x0.toInt)
  refine lv_iadd hx hb dL_law_286 ?_
  refine lv_topi (fun x18 ex18 => ?_)
  have tx18 : x18.toInt = x0.toInt + 1 := (jadd ex18 rfl jz_1 (by omega) (by omega)).trans (by omega)
  refine va_sld hx hb hX hbl hbA hS (jin tx18 (by omega) (by omega)) dL_law_287 ?_
  have g19 := jrg (rfl : (xs x18.toNatClampNeg).toInt = (xs x18.toNatClampNeg).toInt)
  refine lv_aload_n hx hb dL_law_288 rfl (lv_at hl 3 rfl) ?_
  refine lv_iload_n hx hb dL_law_289 rfl (lv_at hl 0 rfl) ?_
  refine lv_iconst (v := 2) hx hb dL_law_290 (by decide) ?_
  refine lv_iadd hx hb dL_law_291 ?_
  refine lv_topi (fun x20 ex20 => ?_)
  have tx20 : x20.toInt = x0.toInt + 2 := (jadd ex20 rfl jz_2 (by omega) (by omega)).trans (by omega)
  refine va_sld hx hb hX hbl hbA hS (jin tx20 (by omega) (by omega)) dL_law_292 ?_
  have g21 := jrg (rfl : (xs x20.toNatClampNeg).toInt = (xs x20.toNatClampNeg).toInt)
  refine lv_aload_n hx hb dL_law_293 rfl (lv_at hl 3 rfl) ?_
  refine lv_iload_n hx hb dL_law_294 rfl (lv_at hl 0 rfl) ?_
  refine lv_iconst (v := 3) hx hb dL_law_295 (by decide) ?_
  refine lv_iadd hx hb dL_law_296 ?_
  refine lv_topi (fun x22 ex22 => ?_)
  have tx22 : x22.toInt = x0.toInt + 3 := (jadd ex22 rfl jz_3 (by omega) (by omega)).trans (by omega)
  refine va_sld hx hb hX hbl hbA hS (jin tx22 (by omega) (by omega)) dL_law_297 ?_
  have g23 := jrg (rfl : (xs x22.toNatClampNeg).toInt = (xs x22.toNatClampNeg).toInt)
  refine jcallV (As := [.int (xs x18.toNatClampNeg), .int (xs x20.toNatClampNeg), .int (xs x22.toNatClampNeg)]) (rest := []) ⟨hx, hb, hml, hown, hts⟩ hK hP hA hS hZ (c_X11_field l D cI cL ad zz hJ σ τ (xs x18.toNatClampNeg) ((xs x18.toNatClampNeg).toInt) rfl (xs x20.toNatClampNeg) ((xs x20.toNatClampNeg).toInt) rfl (xs x22.toNatClampNeg) ((xs x22.toNatClampNeg).toInt) rfl hI2) cw_RL_22 (jc_0 cI cL ad σ τ) rfl ⟨Nat.le_of_ble_eq_true rfl, Nat.le_of_ble_eq_true rfl⟩ rfl rfl rfl hl.1 rfl (Nat.le_of_ble_eq_true rfl) dL_law_298 ⟨Nat.le_of_ble_eq_true rfl, Nat.le_of_ble_eq_true rfl⟩ (fun r25 σ24 τ24 H locs h24 hP hS => ?_)
  obtain ⟨rfl, f26, f27, I28, h24⟩ := h24
  obtain ⟨i30, i31, i32, i33, i34, w35⟩ : (0 ≤ (σ24 2 0).toInt ∧ (σ24 2 0).toInt ≤ 4) ∧ (0 ≤ (σ24 2 1).toInt ∧ (σ24 2 1).toInt ≤ 3) ∧ (0 ≤ (σ24 2 2).toInt) ∧ (0 ≤ (σ24 2 3).toInt) ∧ ((σ24 2 2).toInt + (σ24 2 3).toInt ≤ 40) ∧ (∀ k : Nat, k < 40 → 0 ≤ (σ24 6 k).toInt ∧ (σ24 6 k).toInt ≤ 67) := id I28
  have z36 : (σ24 2 0).toInt = (σ 2 0).toInt := (congrArg Int32.toInt (show σ24 2 0 = (σ 2 0) from (f27 0 (by decide))))
  have z37 : (σ24 2 1).toInt = (σ 2 1).toInt := (congrArg Int32.toInt (show σ24 2 1 = (σ 2 1) from (f27 1 (by decide))))
  rcases h24 with h38 | h39
  · obtain ⟨q44, k40, k41, k42, k43⟩ := h38
    have q44 := q44.symm
    subst q44
    refine lv_pop hx hb dL_law_301 rfl ?_
    refine lv_aload_n hx hb dL_law_302 rfl (lv_at hl 1 rfl) ?_
    refine lv_aload_n hx hb dL_law_303 rfl (lv_at hl 3 rfl) ?_
    refine lv_iload_n hx hb dL_law_304 rfl (lv_at hl 0 rfl) ?_
    refine lv_iconst (v := 1) hx hb dL_law_305 (by decide) ?_
    refine lv_iadd hx hb dL_law_306 ?_
    refine jtopr ex18.symm ?_
    refine va_sld hx hb hX hbl hbA hS (jin tx18 (by omega) (by omega)) dL_law_307 ?_
    refine lv_aload_n hx hb dL_law_308 rfl (lv_at hl 3 rfl) ?_
    refine lv_iload_n hx hb dL_law_309 rfl (lv_at hl 0 rfl) ?_
    refine lv_iconst (v := 2) hx hb dL_law_310 (by decide) ?_
    refine lv_iadd hx hb dL_law_311 ?_
    refine jtopr ex20.symm ?_
    refine va_sld hx hb hX hbl hbA hS (jin tx20 (by omega) (by omega)) dL_law_312 ?_
    refine lv_aload_n hx hb dL_law_313 rfl (lv_at hl 3 rfl) ?_
    refine lv_iload_n hx hb dL_law_314 rfl (lv_at hl 0 rfl) ?_
    refine lv_iconst (v := 3) hx hb dL_law_315 (by decide) ?_
    refine lv_iadd hx hb dL_law_316 ?_
    refine jtopr ex22.symm ?_
    refine va_sld hx hb hX hbl hbA hS (jin tx22 (by omega) (by omega)) dL_law_317 ?_
    have I45 : jI101 σ24 := jI101_fr (congrFun (f26 55 (by decide)) 4) (congrFun (f26 55 (by decide)) 5) (f26 56 (by decide)) (f26 57 (by decide)) (f26 58 (by decide)) (f26 59 (by decide)) hI101
    have z46 : (σ24 55 5).toInt = (σ 55 5).toInt := (congrArg Int32.toInt (show σ24 55 5 = (σ 55 5) from (congrFun (f26 55 (by decide)) 5)))
    have z47 : (σ24 55 4).toInt = (σ 55 4).toInt := (congrArg Int32.toInt (show σ24 55 4 = (σ 55 4) from (congrFun (f26 55 (by decide)) 4)))
    refine jcallV (As := [.int (xs x18.toNatClampNeg), .int (xs x20.toNatClampNeg), .int (xs x22.toNatClampNeg)]) (rest := []) ⟨hx, hb, hml, hown, hts⟩ hK hP hA hS hZ (c_X12_field l D cI cL ad zz hJ σ24 τ (xs x18.toNatClampNeg) ((xs x18.toNatClampNeg).toInt) rfl (xs x20.toNatClampNeg) ((xs x20.toNatClampNeg).toInt) rfl (xs x22.toNatClampNeg) ((xs x22.toNatClampNeg).toInt) rfl I45) cw_RL_25 (jc_55 cI cL ad σ24 τ) rfl ⟨Nat.le_of_ble_eq_true rfl, Nat.le_of_ble_eq_true rfl⟩ rfl rfl rfl hl.1 rfl (Nat.le_of_ble_eq_true rfl) dL_law_318 ⟨Nat.le_of_ble_eq_true rfl, Nat.le_of_ble_eq_true rfl⟩ (fun r49 σ48 τ48 H locs h48 hP hS => ?_)
    obtain ⟨rfl, f50, f51, I52, h48⟩ := h48
    obtain ⟨i54, i55, i56, w57, w58, w59, w60⟩ : (0 ≤ (σ48 55 5).toInt) ∧ ((σ48 55 5).toInt ≤ (σ48 55 4).toInt) ∧ ((σ48 55 4).toInt ≤ 40) ∧ (∀ k : Nat, k < 68 → (-200) ≤ (σ48 56 k).toInt ∧ (σ48 56 k).toInt ≤ 500) ∧ (∀ k : Nat, k < 40 → 0 ≤ (σ48 57 k).toInt ∧ (σ48 57 k).toInt ≤ 67) ∧ (∀ k : Nat, k < 40 → (-200) ≤ (σ48 58 k).toInt ∧ (σ48 58 k).toInt ≤ 500) ∧ (∀ k : Nat, k < 40 → (-200) ≤ (σ48 59 k).toInt ∧ (σ48 59 k).toInt ≤ 500) := id I52
    rcases h48 with h61 | h62
    · obtain ⟨q67, k63, k64, k65, k66⟩ := h61
      have q67 := q67.symm
      subst q67
      have z68 : (σ24 55 6).toInt = (σ 55 6).toInt := (congrArg Int32.toInt (show σ24 55 6 = (σ 55 6) from (congrFun (f26 55 (by decide)) 6)))
      rw [show (σ24 55 6).toInt = (σ 2 0).toInt from by omega] at k65
      refine lv_pop hx hb dL_law_321 rfl ?_
      refine lv_goto (tgt := 1357) hx hb dL_law_322 (by decide) ?_
      obtain ⟨x69, ex69⟩ : ∃ y : Int32, y = x0 + 6 := ⟨_, rfl⟩
      have tx69 : x69.toInt = x0.toInt + 6 := (jadd ex69 rfl jz_6 (by omega) (by omega)).trans (by omega)
      refine lv_iinc (v := x69) (lv' := [(3, .int x69), (2, .ref (ad 55)), (1, .ref (ad 0)), (0, .ref b)]) hx hb dL_law_1357 hl (k := 0) rfl (by rw [ex69]; rfl) (by decide) rfl (fun ls hl => ?_)
      refine lv_goto (tgt := 18) hx hb dL_law_1360 (by decide) ?_
      have I70 : jI2 σ48 := jI2_fr (congrFun (f50 2 (by decide)) 0) (congrFun (f50 2 (by decide)) 1) (congrFun (f50 2 (by decide)) 2) (congrFun (f50 2 (by decide)) 3) (f50 6 (by decide)) I28
      have I71 : jI9 σ48 := jI9_fr ((congrFun (f50 9 (by decide)) 0).trans (congrFun (f26 9 (by decide)) 0)) ((f50 10 (by decide)).trans (f26 10 (by decide))) ((f50 11 (by decide)).trans (f26 11 (by decide))) hI9
      have I72 : jI12 σ48 := jI12_fr ((congrFun (f50 12 (by decide)) 0).trans (congrFun (f26 12 (by decide)) 0)) ((f50 13 (by decide)).trans (f26 13 (by decide))) hI12
      have I73 : jI16 σ48 := jI16_fr ((congrFun (f50 16 (by decide)) 0).trans (congrFun (f26 16 (by decide)) 0)) ((congrFun (f50 16 (by decide)) 1).trans (congrFun (f26 16 (by decide)) 1)) ((congrFun (f50 16 (by decide)) 2).trans (congrFun (f26 16 (by decide)) 2)) ((f50 17 (by decide)).trans (f26 17 (by decide))) hI16
      have I74 : jI18 σ48 := jI18_fr ((congrFun (f50 18 (by decide)) 0).trans (congrFun (f26 18 (by decide)) 0)) ((f50 19 (by decide)).trans (f26 19 (by decide))) hI18
      have I75 : jI22 σ48 := jI22_fr ((congrFun (f50 22 (by decide)) 0).trans (congrFun (f26 22 (by decide)) 0)) ((f50 23 (by decide)).trans (f26 23 (by decide))) hI22
      have I76 : jI31 σ48 := jI31_fr ((congrFun (f50 31 (by decide)) 8).trans (congrFun (f26 31 (by decide)) 8)) ((f50 33 (by decide)).trans (f26 33 (by decide))) ((f50 36 (by decide)).trans (f26 36 (by decide))) hI31
      have I77 : jI38 σ48 := jI38_fr ((congrFun (f50 38 (by decide)) 0).trans (congrFun (f26 38 (by decide)) 0)) ((congrFun (f50 38 (by decide)) 1).trans (congrFun (f26 38 (by decide)) 1)) ((f50 39 (by decide)).trans (f26 39 (by decide))) hI38
      have I78 : jI43 σ48 := jI43_fr ((congrFun (f50 43 (by decide)) 8).trans (congrFun (f26 43 (by decide)) 8)) hI43
      have I79 : jI47 σ48 := jI47_fr ((congrFun (f50 47 (by decide)) 0).trans (congrFun (f26 47 (by decide)) 0)) ((f50 48 (by decide)).trans (f26 48 (by decide))) ((f50 49 (by decide)).trans (f26 49 (by decide))) hI47
      have I80 : jI50 σ48 := jI50_fr ((f50 52 (by decide)).trans (f26 52 (by decide))) hI50
      have I81 : jI102 σ48 := jI102_fr ((f51 6 (by decide)).trans (congrFun (f26 55 (by decide)) 6)) ((f50 60 (by decide)).trans (f26 60 (by decide))) ((f50 61 (by decide)).trans (f26 61 (by decide))) hI102
      have I82 : jI103 σ48 := jI103_fr ((f51 9 (by decide)).trans (congrFun (f26 55 (by decide)) 9)) hI103
      have I83 : jI104 σ48 := jI104_fr ((f51 10 (by decide)).trans (congrFun (f26 55 (by decide)) 10)) ((f51 12 (by decide)).trans (congrFun (f26 55 (by decide)) 12)) ((f51 13 (by decide)).trans (congrFun (f26 55 (by decide)) 13)) ((f50 62 (by decide)).trans (f26 62 (by decide))) ((f50 67 (by decide)).trans (f26 67 (by decide))) hI104
      have I84 : jI105 σ48 := jI105_fr ((f51 15 (by decide)).trans (congrFun (f26 55 (by decide)) 15)) ((f50 65 (by decide)).trans (f26 65 (by decide))) hI105
      have I85 : jI106 σ48 := jI106_fr ((f51 32 (by decide)).trans (congrFun (f26 55 (by decide)) 32)) ((f50 70 (by decide)).trans (f26 70 (by decide))) ((f50 71 (by decide)).trans (f26 71 (by decide))) ((f50 72 (by decide)).trans (f26 72 (by decide))) hI106
      have I86 : jI107 σ48 := jI107_fr ((f51 12 (by decide)).trans (congrFun (f26 55 (by decide)) 12)) ((f51 47 (by decide)).trans (congrFun (f26 55 (by decide)) 47)) ((f50 80 (by decide)).trans (f26 80 (by decide))) hI107
      have I87 : jI109 σ48 := jI109_fr ((f51 50 (by decide)).trans (congrFun (f26 55 (by decide)) 50)) hI109
      have I88 : jI110 σ48 := jI110_fr ((f50 86 (by decide)).trans (f26 86 (by decide))) ((f50 87 (by decide)).trans (f26 87 (by decide))) hI110
      have I89 : jI111 σ48 := jI111_fr ((f50 79 (by decide)).trans (f26 79 (by decide))) hI111
      have I90 : jI119 σ48 := jI119_fr ((f50 68 (by decide)).trans (f26 68 (by decide))) hI119
      have p91 : jKept σ48 := jKept.fr ((f50 75 (by decide)).trans (f26 75 (by decide))) ((f50 76 (by decide)).trans (f26 76 (by decide))) ((f50 77 (by decide)).trans (f26 77 (by decide))) hs_jKept
      have p92 : jBook σ48 := jBook.fr ((f51 47 (by decide)).trans (congrFun (f26 55 (by decide)) 47)) ((f51 10 (by decide)).trans (congrFun (f26 55 (by decide)) 10)) ((f50 81 (by decide)).trans (f26 81 (by decide))) hs_jBook
      have z93 : (σ48 2 0).toInt = (σ 2 0).toInt := (congrArg Int32.toInt (show σ48 2 0 = (σ 2 0) from ((congrFun (f50 2 (by decide)) 0).trans (f27 0 (by decide)))))
      have z94 : (σ48 55 6).toInt = (σ 55 6).toInt := (congrArg Int32.toInt (show σ48 55 6 = (σ 55 6) from ((f51 6 (by decide)).trans (congrFun (f26 55 (by decide)) 6))))
      have z95 : (σ48 2 2).toInt = (σ24 2 2).toInt := (congrArg Int32.toInt (show σ48 2 2 = (σ24 2 2) from (congrFun (f50 2 (by decide)) 2)))
      have z96 : (σ48 2 3).toInt = (σ24 2 3).toInt := (congrArg Int32.toInt (show σ48 2 3 = (σ24 2 3) from (congrFun (f50 2 (by decide)) 3)))
      exact ih x69 σ48 τ _ _ ls (by have h9 := tx69; omega) ⟨I70, I71, I72, I73, I74, I75, I76, I77, I78, I79, I80, I52, I81, I82, I83, I84, I85, I86, I87, I88, I89, I90, p91, p92, (by omega), (by omega), (by omega), (show jNumP (σ48 3) (σ48 56) (σ48 6) (σ48 57) (σ48 7) (σ48 58) (σ48 8) (σ48 59) (σ48 55 6).toInt (σ48 55 4).toInt by rw [show σ48 3 = σ 3 from ((f50 3 (by decide)).trans k43.1), show σ48 56 = σ 56 from (k66.1.trans (f26 56 (by decide))), show σ48 6 = σ 6 from ((f50 6 (by decide)).trans k43.2.1), show σ48 57 = σ 57 from (k66.2.1.trans (f26 57 (by decide))), show σ48 7 = σ 7 from ((f50 7 (by decide)).trans k43.2.2.1), show σ48 58 = σ 58 from (k66.2.2.1.trans (f26 58 (by decide))), show σ48 8 = σ 8 from ((f50 8 (by decide)).trans k43.2.2.2), show σ48 59 = σ 59 from (k66.2.2.2.trans (f26 59 (by decide))), show (σ48 55 6).toInt = (σ 55 6).toInt from by omega, show (σ48 55 4).toInt = (σ 55 4).toInt from by omega]; exact hr0)⟩ hP hS (lv_sub hl [0, 1, 2, 3] rfl)
    · obtain ⟨q98, k97⟩ := h62
      have z99 : (σ24 55 6).toInt = (σ 55 6).toInt := (congrArg Int32.toInt (show σ24 55 6 = (σ 55 6) from (congrFun (f26 55 (by decide)) 6)))
      rw [show (σ24 55 6).toInt = (σ 2 0).toInt from by omega] at k97
      exact absurd k97.1 k42
  · obtain ⟨q101, k100⟩ := h39
    refine lv_pop hx hb dL_law_301 rfl ?_
    refine lv_aload_n hx hb dL_law_302 rfl (lv_at hl 1 rfl) ?_
    refine lv_aload_n hx hb dL_law_303 rfl (lv_at hl 3 rfl) ?_
    refine lv_iload_n hx hb dL_law_304 rfl (lv_at hl 0 rfl) ?_
    refine lv_iconst (v := 1) hx hb dL_law_305 (by decide) ?_
    refine lv_iadd hx hb dL_law_306 ?_
    refine jtopr ex18.symm ?_
    refine va_sld hx hb hX hbl hbA hS (jin tx18 (by omega) (by omega)) dL_law_307 ?_
    refine lv_aload_n hx hb dL_law_308 rfl (lv_at hl 3 rfl) ?_
    refine lv_iload_n hx hb dL_law_309 rfl (lv_at hl 0 rfl) ?_
    refine lv_iconst (v := 2) hx hb dL_law_310 (by decide) ?_
    refine lv_iadd hx hb dL_law_311 ?_
    refine jtopr ex20.symm ?_
    refine va_sld hx hb hX hbl hbA hS (jin tx20 (by omega) (by omega)) dL_law_312 ?_
    refine lv_aload_n hx hb dL_law_313 rfl (lv_at hl 3 rfl) ?_
    refine lv_iload_n hx hb dL_law_314 rfl (lv_at hl 0 rfl) ?_
    refine lv_iconst (v := 3) hx hb dL_law_315 (by decide) ?_
    refine lv_iadd hx hb dL_law_316 ?_
    refine jtopr ex22.symm ?_
    refine va_sld hx hb hX hbl hbA hS (jin tx22 (by omega) (by omega)) dL_law_317 ?_
    have I102 : jI101 σ24 := jI101_fr (congrFun (f26 55 (by decide)) 4) (congrFun (f26 55 (by decide)) 5) (f26 56 (by decide)) (f26 57 (by decide)) (f26 58 (by decide)) (f26 59 (by decide)) hI101
    have z103 : (σ24 55 5).toInt = (σ 55 5).toInt := (congrArg Int32.toInt (show σ24 55 5 = (σ 55 5) from (congrFun (f26 55 (by decide)) 5)))
    have z104 : (σ24 55 4).toInt = (σ 55 4).toInt := (congrArg Int32.toInt (show σ24 55 4 = (σ 55 4) from (congrFun (f26 55 (by decide)) 4)))
    refine jcallV (As := [.int (xs x18.toNatClampNeg), .int (xs x20.toNatClampNeg), .int (xs x22.toNatClampNeg)]) (rest := []) ⟨hx, hb, hml, hown, hts⟩ hK hP hA hS hZ (c_X12_field l D cI cL ad zz hJ σ24 τ (xs x18.toNatClampNeg) ((xs x18.toNatClampNeg).toInt) rfl (xs x20.toNatClampNeg) ((xs x20.toNatClampNeg).toInt) rfl (xs x22.toNatClampNeg) ((xs x22.toNatClampNeg).toInt) rfl I102) cw_RL_25 (jc_55 cI cL ad σ24 τ) rfl ⟨Nat.le_of_ble_eq_true rfl, Nat.le_of_ble_eq_true rfl⟩ rfl rfl rfl hl.1 rfl (Nat.le_of_ble_eq_true rfl) dL_law_318 ⟨Nat.le_of_ble_eq_true rfl, Nat.le_of_ble_eq_true rfl⟩ (fun r106 σ105 τ105 H locs h105 hP hS => ?_)
    obtain ⟨rfl, f107, f108, I109, h105⟩ := h105
    obtain ⟨i111, i112, i113, w114, w115, w116, w117⟩ : (0 ≤ (σ105 55 5).toInt) ∧ ((σ105 55 5).toInt ≤ (σ105 55 4).toInt) ∧ ((σ105 55 4).toInt ≤ 40) ∧ (∀ k : Nat, k < 68 → (-200) ≤ (σ105 56 k).toInt ∧ (σ105 56 k).toInt ≤ 500) ∧ (∀ k : Nat, k < 40 → 0 ≤ (σ105 57 k).toInt ∧ (σ105 57 k).toInt ≤ 67) ∧ (∀ k : Nat, k < 40 → (-200) ≤ (σ105 58 k).toInt ∧ (σ105 58 k).toInt ≤ 500) ∧ (∀ k : Nat, k < 40 → (-200) ≤ (σ105 59 k).toInt ∧ (σ105 59 k).toInt ≤ 500) := id I109
    rcases h105 with h118 | h119
    · obtain ⟨q124, k120, k121, k122, k123⟩ := h118
      have q124 := q124.symm
      subst q124
      have z125 : (σ24 55 6).toInt = (σ 55 6).toInt := (congrArg Int32.toInt (show σ24 55 6 = (σ 55 6) from (congrFun (f26 55 (by decide)) 6)))
      rw [show (σ24 55 6).toInt = (σ 2 0).toInt from by omega] at k122
      exact absurd k100.1 k122
    · obtain ⟨q127, k126⟩ := h119
      have z128 : (σ24 55 6).toInt = (σ 55 6).toInt := (congrArg Int32.toInt (show σ24 55 6 = (σ 55 6) from (congrFun (f26 55 (by decide)) 6)))
      rw [show (σ24 55 6).toInt = (σ 2 0).toInt from by omega] at k126
      obtain ⟨e129, q130, l131, c132⟩ := k100
      obtain ⟨-, q133, l134, c135⟩ := k126
      have p136 := jField_pl (by omega) e129 l131 l134
      rw [show σ24 56 = σ 56 from (f26 56 (by decide)), show σ24 57 = σ 57 from (f26 57 (by decide)), show σ24 58 = σ 58 from (f26 58 (by decide)), show σ24 59 = σ 59 from (f26 59 (by decide)), show (σ24 55 4).toInt = (σ 55 4).toInt from by omega] at c135
      have r140 := hr0.res p136.1 (by have h9 := p136.2.1; omega) c132 c135 p136.2.2
      have k139 := hr0.chg p136.1 (by have h9 := p136.2.1; omega) c132 c135 p136.2.2 (by omega) (by omega) (by omega)
      have k137 := k139.2.1
      have k138 := k139.2.2
      have o141 : 32 ≤ q133 → q133 ≤ 35 → 0 ≤ (xs x22.toNatClampNeg).toInt ∧ (xs x22.toNatClampNeg).toInt ≤ 8 := fun x y => by
        have e := e129
        have l := l134
        unfold jFok at e; unfold jFpl at l; omega
      refine lv_pop hx hb dL_law_321 rfl ?_
      refine lv_goto (tgt := 1357) hx hb dL_law_322 (by decide) ?_
      obtain ⟨x142, ex142⟩ : ∃ y : Int32, y = x0 + 6 := ⟨_, rfl⟩
      have tx142 : x142.toInt = x0.toInt + 6 := (jadd ex142 rfl jz_6 (by omega) (by omega)).trans (by omega)
      refine lv_iinc (v := x142) (lv' := [(3, .int x142), (2, .ref (ad 55)), (1, .ref (ad 0)), (0, .ref b)]) hx hb dL_law_1357 hl (k := 0) rfl (by rw [ex142]; rfl) (by decide) rfl (fun ls hl => ?_)
      refine lv_goto (tgt := 18) hx hb dL_law_1360 (by decide) ?_
      have I143 : jI2 σ105 := jI2_fr (congrFun (f107 2 (by decide)) 0) (congrFun (f107 2 (by decide)) 1) (congrFun (f107 2 (by decide)) 2) (congrFun (f107 2 (by decide)) 3) (f107 6 (by decide)) I28
      have I144 : jI9 σ105 := jI9_fr ((congrFun (f107 9 (by decide)) 0).trans (congrFun (f26 9 (by decide)) 0)) ((f107 10 (by decide)).trans (f26 10 (by decide))) ((f107 11 (by decide)).trans (f26 11 (by decide))) hI9
      have I145 : jI12 σ105 := jI12_fr ((congrFun (f107 12 (by decide)) 0).trans (congrFun (f26 12 (by decide)) 0)) ((f107 13 (by decide)).trans (f26 13 (by decide))) hI12
      have I146 : jI16 σ105 := jI16_fr ((congrFun (f107 16 (by decide)) 0).trans (congrFun (f26 16 (by decide)) 0)) ((congrFun (f107 16 (by decide)) 1).trans (congrFun (f26 16 (by decide)) 1)) ((congrFun (f107 16 (by decide)) 2).trans (congrFun (f26 16 (by decide)) 2)) ((f107 17 (by decide)).trans (f26 17 (by decide))) hI16
      have I147 : jI18 σ105 := jI18_fr ((congrFun (f107 18 (by decide)) 0).trans (congrFun (f26 18 (by decide)) 0)) ((f107 19 (by decide)).trans (f26 19 (by decide))) hI18
      have I148 : jI22 σ105 := jI22_fr ((congrFun (f107 22 (by decide)) 0).trans (congrFun (f26 22 (by decide)) 0)) ((f107 23 (by decide)).trans (f26 23 (by decide))) hI22
      have I149 : jI31 σ105 := jI31_fr ((congrFun (f107 31 (by decide)) 8).trans (congrFun (f26 31 (by decide)) 8)) ((f107 33 (by decide)).trans (f26 33 (by decide))) ((f107 36 (by decide)).trans (f26 36 (by decide))) hI31
      have I150 : jI38 σ105 := jI38_fr ((congrFun (f107 38 (by decide)) 0).trans (congrFun (f26 38 (by decide)) 0)) ((congrFun (f107 38 (by decide)) 1).trans (congrFun (f26 38 (by decide)) 1)) ((f107 39 (by decide)).trans (f26 39 (by decide))) hI38
      have I151 : jI43 σ105 := jI43_fr ((congrFun (f107 43 (by decide)) 8).trans (congrFun (f26 43 (by decide)) 8)) hI43
      have I152 : jI47 σ105 := jI47_fr ((congrFun (f107 47 (by decide)) 0).trans (congrFun (f26 47 (by decide)) 0)) ((f107 48 (by decide)).trans (f26 48 (by decide))) ((f107 49 (by decide)).trans (f26 49 (by decide))) hI47
      have I153 : jI50 σ105 := jI50_fr ((f107 52 (by decide)).trans (f26 52 (by decide))) hI50
      have I154 : jI102 σ105 := jI102_fr ((f108 6 (by decide)).trans (congrFun (f26 55 (by decide)) 6)) ((f107 60 (by decide)).trans (f26 60 (by decide))) ((f107 61 (by decide)).trans (f26 61 (by decide))) hI102
      have I155 : jI103 σ105 := jI103_fr ((f108 9 (by decide)).trans (congrFun (f26 55 (by decide)) 9)) hI103
      have I156 : jI104 σ105 := jI104_fr ((f108 10 (by decide)).trans (congrFun (f26 55 (by decide)) 10)) ((f108 12 (by decide)).trans (congrFun (f26 55 (by decide)) 12)) ((f108 13 (by decide)).trans (congrFun (f26 55 (by decide)) 13)) ((f107 62 (by decide)).trans (f26 62 (by decide))) ((f107 67 (by decide)).trans (f26 67 (by decide))) hI104
      have I157 : jI105 σ105 := jI105_fr ((f108 15 (by decide)).trans (congrFun (f26 55 (by decide)) 15)) ((f107 65 (by decide)).trans (f26 65 (by decide))) hI105
      have I158 : jI106 σ105 := jI106_fr ((f108 32 (by decide)).trans (congrFun (f26 55 (by decide)) 32)) ((f107 70 (by decide)).trans (f26 70 (by decide))) ((f107 71 (by decide)).trans (f26 71 (by decide))) ((f107 72 (by decide)).trans (f26 72 (by decide))) hI106
      have I159 : jI107 σ105 := jI107_fr ((f108 12 (by decide)).trans (congrFun (f26 55 (by decide)) 12)) ((f108 47 (by decide)).trans (congrFun (f26 55 (by decide)) 47)) ((f107 80 (by decide)).trans (f26 80 (by decide))) hI107
      have I160 : jI109 σ105 := jI109_fr ((f108 50 (by decide)).trans (congrFun (f26 55 (by decide)) 50)) hI109
      have I161 : jI110 σ105 := jI110_fr ((f107 86 (by decide)).trans (f26 86 (by decide))) ((f107 87 (by decide)).trans (f26 87 (by decide))) hI110
      have I162 : jI111 σ105 := jI111_fr ((f107 79 (by decide)).trans (f26 79 (by decide))) hI111
      have I163 : jI119 σ105 := jI119_fr ((f107 68 (by decide)).trans (f26 68 (by decide))) hI119
      have p164 : jKept σ105 := jKept.fr ((f107 75 (by decide)).trans (f26 75 (by decide))) ((f107 76 (by decide)).trans (f26 76 (by decide))) ((f107 77 (by decide)).trans (f26 77 (by decide))) hs_jKept
      have p165 : jBook σ105 := jBook.fr ((f108 47 (by decide)).trans (congrFun (f26 55 (by decide)) 47)) ((f108 10 (by decide)).trans (congrFun (f26 55 (by decide)) 10)) ((f107 81 (by decide)).trans (f26 81 (by decide))) hs_jBook
      have z166 : (σ105 2 0).toInt = (σ 2 0).toInt := (congrArg Int32.toInt (show σ105 2 0 = (σ 2 0) from ((congrFun (f107 2 (by decide)) 0).trans (f27 0 (by decide)))))
      have z167 : (σ105 55 6).toInt = (σ 55 6).toInt := (congrArg Int32.toInt (show σ105 55 6 = (σ 55 6) from ((f108 6 (by decide)).trans (congrFun (f26 55 (by decide)) 6))))
      have z168 : (σ105 2 2).toInt = (σ24 2 2).toInt := (congrArg Int32.toInt (show σ105 2 2 = (σ24 2 2) from (congrFun (f107 2 (by decide)) 2)))
      have z169 : (σ105 2 3).toInt = (σ24 2 3).toInt := (congrArg Int32.toInt (show σ105 2 3 = (σ24 2 3) from (congrFun (f107 2 (by decide)) 3)))
      exact ih x142 σ105 τ _ _ ls (by have h9 := tx142; omega) ⟨I143, I144, I145, I146, I147, I148, I149, I150, I151, I152, I153, I109, I154, I155, I156, I157, I158, I159, I160, I161, I162, I163, p164, p165, (by omega), (by omega), (by omega), (show jNumP (σ105 3) (σ105 56) (σ105 6) (σ105 57) (σ105 7) (σ105 58) (σ105 8) (σ105 59) (σ105 55 6).toInt (σ105 55 4).toInt by rw [show σ105 3 = σ24 3 from (f107 3 (by decide)), show σ105 6 = σ24 6 from (f107 6 (by decide)), show σ105 7 = σ24 7 from (f107 7 (by decide)), show σ105 8 = σ24 8 from (f107 8 (by decide)), show (σ105 55 6).toInt = (σ 55 6).toInt from by omega]; exact k139.1)⟩ hP hS (lv_sub hl [0, 1, 2, 3] rfl)
set_option maxHeartbeats 4000000 in
set_option maxRecDepth 100000 in
theorem law_case_3 {p : Program} {e : Env} {s : State} {m : MethodId} {below : List Frame} {meth : Method} {c : Code} (l : Launch) {b L : Nat} {xs : Nat → Int32} {D : va_G} {cI cL : ClassId} {ad zz : Nat → Nat} (C0 : lw_At p s m meth c b L xs) (hJ : jD ad) (hA : ∀ q, jA ad q → s.heap.size ≤ q) (hK : jK D cI cL s) (hZ : jZ zz (fun q : Nat => s.heap.size ≤ q) s s.heap) {x0 : Int32} (hx0 : 0 ≤ x0.toInt) (hxL : x0.toInt + 6 ≤ (L : Int)) (hL : L ≤ 384) {σ : Nat → Nat → Int32} {τ : Nat → Nat → Int64} {H : Heap} {locs : List Loc} (hS : va_S (fun q : Nat => s.heap.size ≤ q) s.heap H locs) {ls : Array Slot} (hAll : jAll σ τ) (hP : jH D cI cL ad σ τ H) (hl : lv_has ls 4 [(3, .int x0), (2, .ref (ad 55)), (1, .ref (ad 0)), (0, .ref b)]) (ih : ∀ (x1 : Int32) (σ : Nat → Nat → Int32) (τ : Nat → Nat → Int64) (H : Heap) (locs : List Loc) (ls : Array Slot), x1.toInt = x0.toInt + 6 → jAll σ τ → jH D cI cL ad σ τ H → va_S (fun q : Nat => s.heap.size ≤ q) s.heap H locs → lv_has ls 4 [(3, .int x1), (2, .ref (ad 55)), (1, .ref (ad 0)), (0, .ref b)] → W p l e room_1 s m #[Value.ref b] below meth c H locs 90 348600 (lw_Z below #[Value.ref b] s) (F0 m 18 ls [])) : W p l e room_1 s m #[Value.ref b] below meth c H locs 90 348600 (lw_Z below #[Value.ref b] s) (F0 m 325 ls []) := by
  obtain ⟨hx, hb, hr, hml, hown, hts0, hX, hbl, hlocks, hgv⟩ := C0
  have hts : ∀ w ∈ wsL_law, w.before #[Value.ref b] s = true := fun w h => hts0 w (wsL_law_in w h)
  have hbA : ¬ (fun q : Nat => s.heap.size ≤ q) b := Nat.not_le.mpr hbl
  have hown : s.vm.findClass RL = some m.cls := hown
  obtain ⟨hI2, hI9, hI12, hI16, hI18, hI22, hI31, hI38, hI43, hI47, hI50, hI101, hI102, hI103, hI104, hI105, hI106, hI107, hI109, hI110, hI111, hI119, hs_jKept, hs_jBook, ht0, ht1, ht2, hr0⟩ := hAll
  have hL9 : (L : Int) ≤ 384 := by omega
  obtain ⟨i1, i2, i3, i4, i5, w6⟩ : (0 ≤ (σ 2 0).toInt ∧ (σ 2 0).toInt ≤ 4) ∧ (0 ≤ (σ 2 1).toInt ∧ (σ 2 1).toInt ≤ 3) ∧ (0 ≤ (σ 2 2).toInt) ∧ (0 ≤ (σ 2 3).toInt) ∧ ((σ 2 2).toInt + (σ 2 3).toInt ≤ 40) ∧ (∀ k : Nat, k < 40 → 0 ≤ (σ 6 k).toInt ∧ (σ 6 k).toInt ≤ 67) := id hI2
  obtain ⟨i7, i8, i9, w10, w11, w12, w13⟩ : (0 ≤ (σ 55 5).toInt) ∧ ((σ 55 5).toInt ≤ (σ 55 4).toInt) ∧ ((σ 55 4).toInt ≤ 40) ∧ (∀ k : Nat, k < 68 → (-200) ≤ (σ 56 k).toInt ∧ (σ 56 k).toInt ≤ 500) ∧ (∀ k : Nat, k < 40 → 0 ≤ (σ 57 k).toInt ∧ (σ 57 k).toInt ≤ 67) ∧ (∀ k : Nat, k < 40 → (-200) ≤ (σ 58 k).toInt ∧ (σ 58 k).toInt ≤ 500) ∧ (∀ k : Nat, k < 40 → (-200) ≤ (σ 59 k).toInt ∧ (σ 59 k).toInt ≤ 500) := id hI101
  obtain ⟨i14, w15, w16⟩ : (0 ≤ (σ 55 6).toInt ∧ (σ 55 6).toInt ≤ 4) ∧ (∀ k : Nat, k < 4 → 0 ≤ (σ 60 k).toInt ∧ (σ 60 k).toInt ≤ 50) ∧ (∀ k : Nat, k < 4 → 0 ≤ (σ 61 k).toInt ∧ (σ 61 k).toInt ≤ 20) := id hI102
  refine lv_aload_n hx hb dL_law_325 rfl (lv_at hl 2 rfl) ?_
  refine lv_aload_n hx hb dL_law_326 rfl (lv_at hl 3 rfl) ?_
  refine lv_iload_n hx hb dL_law_327 rfl (lv_at hl 0 rfl) ?_
  refine lv_iconst (v := 1) hx hb dL_law_328 (by decide) ?_
  have g17 := jrg (rfl : x0.toInt = x0.toInt)
  refine lv_iadd hx hb dL_law_329 ?_
  refine lv_topi (fun x18 ex18 => ?_)
  have tx18 : x18.toInt = x0.toInt + 1 := (jadd ex18 rfl jz_1 (by omega) (by omega)).trans (by omega)
  refine va_sld hx hb hX hbl hbA hS (jin tx18 (by omega) (by omega)) dL_law_330 ?_
  have g19 := jrg (rfl : (xs x18.toNatClampNeg).toInt = (xs x18.toNatClampNeg).toInt)
  refine jcallV (As := [.int (xs x18.toNatClampNeg)]) (rest := []) ⟨hx, hb, hml, hown, hts⟩ hK hP hA hS hZ (c_X11_set l D cI cL ad zz hJ σ τ (xs x18.toNatClampNeg) ((xs x18.toNatClampNeg).toInt) rfl hI2) cw_RL_26 (jc_0 cI cL ad σ τ) rfl ⟨Nat.le_of_ble_eq_true rfl, Nat.le_of_ble_eq_true rfl⟩ rfl rfl rfl hl.1 rfl (Nat.le_of_ble_eq_true rfl) dL_law_331 ⟨Nat.le_of_ble_eq_true rfl, Nat.le_of_ble_eq_true rfl⟩ (fun r21 σ20 τ20 H locs h20 hP hS => ?_)
  obtain ⟨rfl, f22, f23, I24, h20⟩ := h20
  obtain ⟨i26, i27, i28, i29, i30, w31⟩ : (0 ≤ (σ20 2 0).toInt ∧ (σ20 2 0).toInt ≤ 4) ∧ (0 ≤ (σ20 2 1).toInt ∧ (σ20 2 1).toInt ≤ 3) ∧ (0 ≤ (σ20 2 2).toInt) ∧ (0 ≤ (σ20 2 3).toInt) ∧ ((σ20 2 2).toInt + (σ20 2 3).toInt ≤ 40) ∧ (∀ k : Nat, k < 40 → 0 ≤ (σ20 6 k).toInt ∧ (σ20 6 k).toInt ≤ 67) := id I24
  have z32 : (σ20 2 0).toInt = (σ 2 0).toInt := (congrArg Int32.toInt (show σ20 2 0 = (σ 2 0) from (f23 0 (by decide))))
  have z33 : (σ20 2 2).toInt = (σ 2 2).toInt := (congrArg Int32.toInt (show σ20 2 2 = (σ 2 2) from (f23 2 (by decide))))
  have z34 : (σ20 2 3).toInt = (σ 2 3).toInt := (congrArg Int32.toInt (show σ20 2 3 = (σ 2 3) from (f23 3 (by decide))))
  rcases h20 with h35 | h36
  · obtain ⟨q40, k37, k38, k39⟩ := h35
    refine lv_pop hx hb dL_law_334 rfl ?_
    refine lv_aload_n hx hb dL_law_335 rfl (lv_at hl 1 rfl) ?_
    refine lv_aload_n hx hb dL_law_336 rfl (lv_at hl 3 rfl) ?_
    refine lv_iload_n hx hb dL_law_337 rfl (lv_at hl 0 rfl) ?_
    refine lv_iconst (v := 1) hx hb dL_law_338 (by decide) ?_
    refine lv_iadd hx hb dL_law_339 ?_
    refine jtopr ex18.symm ?_
    refine va_sld hx hb hX hbl hbA hS (jin tx18 (by omega) (by omega)) dL_law_340 ?_
    have I41 : jI103 σ20 := jI103_fr (congrFun (f22 55 (by decide)) 9) hI103
    have z42 : (σ20 55 9).toInt = (σ 55 9).toInt := (congrArg Int32.toInt (show σ20 55 9 = (σ 55 9) from (congrFun (f22 55 (by decide)) 9)))
    refine jcallV (As := [.int (xs x18.toNatClampNeg)]) (rest := []) ⟨hx, hb, hml, hown, hts⟩ hK hP hA hS hZ (c_X12_set l D cI cL ad zz hJ σ20 τ (xs x18.toNatClampNeg) ((xs x18.toNatClampNeg).toInt) rfl I41) cw_RL_30 (jc_55 cI cL ad σ20 τ) rfl ⟨Nat.le_of_ble_eq_true rfl, Nat.le_of_ble_eq_true rfl⟩ rfl rfl rfl hl.1 rfl (Nat.le_of_ble_eq_true rfl) dL_law_341 ⟨Nat.le_of_ble_eq_true rfl, Nat.le_of_ble_eq_true rfl⟩ (fun r44 σ43 τ43 H locs h43 hP hS => ?_)
    obtain ⟨rfl, f45, f46, I47, h43⟩ := h43
    rcases h43 with h49 | h50
    · obtain ⟨q54, k51, k52, k53⟩ := h49
      refine lv_pop hx hb dL_law_344 rfl ?_
      refine lv_goto (tgt := 1357) hx hb dL_law_345 (by decide) ?_
      obtain ⟨x55, ex55⟩ : ∃ y : Int32, y = x0 + 6 := ⟨_, rfl⟩
      have tx55 : x55.toInt = x0.toInt + 6 := (jadd ex55 rfl jz_6 (by omega) (by omega)).trans (by omega)
      refine lv_iinc (v := x55) (lv' := [(3, .int x55), (2, .ref (ad 55)), (1, .ref (ad 0)), (0, .ref b)]) hx hb dL_law_1357 hl (k := 0) rfl (by rw [ex55]; rfl) (by decide) rfl (fun ls hl => ?_)
      refine lv_goto (tgt := 18) hx hb dL_law_1360 (by decide) ?_
      have I56 : jI2 σ43 := jI2_fr (congrFun (f45 2 (by decide)) 0) (congrFun (f45 2 (by decide)) 1) (congrFun (f45 2 (by decide)) 2) (congrFun (f45 2 (by decide)) 3) (f45 6 (by decide)) I24
      have I57 : jI9 σ43 := jI9_fr ((congrFun (f45 9 (by decide)) 0).trans (congrFun (f22 9 (by decide)) 0)) ((f45 10 (by decide)).trans (f22 10 (by decide))) ((f45 11 (by decide)).trans (f22 11 (by decide))) hI9
      have I58 : jI12 σ43 := jI12_fr ((congrFun (f45 12 (by decide)) 0).trans (congrFun (f22 12 (by decide)) 0)) ((f45 13 (by decide)).trans (f22 13 (by decide))) hI12
      have I59 : jI16 σ43 := jI16_fr ((congrFun (f45 16 (by decide)) 0).trans (congrFun (f22 16 (by decide)) 0)) ((congrFun (f45 16 (by decide)) 1).trans (congrFun (f22 16 (by decide)) 1)) ((congrFun (f45 16 (by decide)) 2).trans (congrFun (f22 16 (by decide)) 2)) ((f45 17 (by decide)).trans (f22 17 (by decide))) hI16
      have I60 : jI18 σ43 := jI18_fr ((congrFun (f45 18 (by decide)) 0).trans (congrFun (f22 18 (by decide)) 0)) ((f45 19 (by decide)).trans (f22 19 (by decide))) hI18
      have I61 : jI22 σ43 := jI22_fr ((congrFun (f45 22 (by decide)) 0).trans (congrFun (f22 22 (by decide)) 0)) ((f45 23 (by decide)).trans (f22 23 (by decide))) hI22
      have I62 : jI31 σ43 := jI31_fr ((congrFun (f45 31 (by decide)) 8).trans (congrFun (f22 31 (by decide)) 8)) ((f45 33 (by decide)).trans (f22 33 (by decide))) ((f45 36 (by decide)).trans (f22 36 (by decide))) hI31
      have I63 : jI38 σ43 := jI38_fr ((congrFun (f45 38 (by decide)) 0).trans (congrFun (f22 38 (by decide)) 0)) ((congrFun (f45 38 (by decide)) 1).trans (congrFun (f22 38 (by decide)) 1)) ((f45 39 (by decide)).trans (f22 39 (by decide))) hI38
      have I64 : jI43 σ43 := jI43_fr ((congrFun (f45 43 (by decide)) 8).trans (congrFun (f22 43 (by decide)) 8)) hI43
      have I65 : jI47 σ43 := jI47_fr ((congrFun (f45 47 (by decide)) 0).trans (congrFun (f22 47 (by decide)) 0)) ((f45 48 (by decide)).trans (f22 48 (by decide))) ((f45 49 (by decide)).trans (f22 49 (by decide))) hI47
      have I66 : jI50 σ43 := jI50_fr ((f45 52 (by decide)).trans (f22 52 (by decide))) hI50
      have I67 : jI101 σ43 := jI101_fr ((f46 4 (by decide)).trans (congrFun (f22 55 (by decide)) 4)) ((f46 5 (by decide)).trans (congrFun (f22 55 (by decide)) 5)) ((f45 56 (by decide)).trans (f22 56 (by decide))) ((f45 57 (by decide)).trans (f22 57 (by decide))) ((f45 58 (by decide)).trans (f22 58 (by decide))) ((f45 59 (by decide)).trans (f22 59 (by decide))) hI101
      have I68 : jI102 σ43 := jI102_fr ((f46 6 (by decide)).trans (congrFun (f22 55 (by decide)) 6)) ((f45 60 (by decide)).trans (f22 60 (by decide))) ((f45 61 (by decide)).trans (f22 61 (by decide))) hI102
      have I69 : jI104 σ43 := jI104_fr ((f46 10 (by decide)).trans (congrFun (f22 55 (by decide)) 10)) ((f46 12 (by decide)).trans (congrFun (f22 55 (by decide)) 12)) ((f46 13 (by decide)).trans (congrFun (f22 55 (by decide)) 13)) ((f45 62 (by decide)).trans (f22 62 (by decide))) ((f45 67 (by decide)).trans (f22 67 (by decide))) hI104
      have I70 : jI105 σ43 := jI105_fr ((f46 15 (by decide)).trans (congrFun (f22 55 (by decide)) 15)) ((f45 65 (by decide)).trans (f22 65 (by decide))) hI105
      have I71 : jI106 σ43 := jI106_fr ((f46 32 (by decide)).trans (congrFun (f22 55 (by decide)) 32)) ((f45 70 (by decide)).trans (f22 70 (by decide))) ((f45 71 (by decide)).trans (f22 71 (by decide))) ((f45 72 (by decide)).trans (f22 72 (by decide))) hI106
      have I72 : jI107 σ43 := jI107_fr ((f46 12 (by decide)).trans (congrFun (f22 55 (by decide)) 12)) ((f46 47 (by decide)).trans (congrFun (f22 55 (by decide)) 47)) ((f45 80 (by decide)).trans (f22 80 (by decide))) hI107
      have I73 : jI109 σ43 := jI109_fr ((f46 50 (by decide)).trans (congrFun (f22 55 (by decide)) 50)) hI109
      have I74 : jI110 σ43 := jI110_fr ((f45 86 (by decide)).trans (f22 86 (by decide))) ((f45 87 (by decide)).trans (f22 87 (by decide))) hI110
      have I75 : jI111 σ43 := jI111_fr ((f45 79 (by decide)).trans (f22 79 (by decide))) hI111
      have I76 : jI119 σ43 := jI119_fr ((f45 68 (by decide)).trans (f22 68 (by decide))) hI119
      have p77 : jKept σ43 := jKept.fr ((f45 75 (by decide)).trans (f22 75 (by decide))) ((f45 76 (by decide)).trans (f22 76 (by decide))) ((f45 77 (by decide)).trans (f22 77 (by decide))) hs_jKept
      have p78 : jBook σ43 := jBook.fr ((f46 47 (by decide)).trans (congrFun (f22 55 (by decide)) 47)) ((f46 10 (by decide)).trans (congrFun (f22 55 (by decide)) 10)) ((f45 81 (by decide)).trans (f22 81 (by decide))) hs_jBook
      have z79 : (σ43 2 0).toInt = (σ 2 0).toInt := (congrArg Int32.toInt (show σ43 2 0 = (σ 2 0) from ((congrFun (f45 2 (by decide)) 0).trans (f23 0 (by decide)))))
      have z80 : (σ43 55 6).toInt = (σ 55 6).toInt := (congrArg Int32.toInt (show σ43 55 6 = (σ 55 6) from ((f46 6 (by decide)).trans (congrFun (f22 55 (by decide)) 6))))
      have z81 : (σ43 2 2).toInt = (σ 2 2).toInt := (congrArg Int32.toInt (show σ43 2 2 = (σ 2 2) from ((congrFun (f45 2 (by decide)) 2).trans (f23 2 (by decide)))))
      have z82 : (σ43 55 5).toInt = (σ 55 5).toInt := (congrArg Int32.toInt (show σ43 55 5 = (σ 55 5) from ((f46 5 (by decide)).trans (congrFun (f22 55 (by decide)) 5))))
      have z83 : (σ43 2 3).toInt = (σ 2 3).toInt := (congrArg Int32.toInt (show σ43 2 3 = (σ 2 3) from ((congrFun (f45 2 (by decide)) 3).trans (f23 3 (by decide)))))
      have z84 : (σ43 55 4).toInt = (σ 55 4).toInt := (congrArg Int32.toInt (show σ43 55 4 = (σ 55 4) from ((f46 4 (by decide)).trans (congrFun (f22 55 (by decide)) 4))))
      exact ih x55 σ43 τ _ _ ls (by have h9 := tx55; omega) ⟨I56, I57, I58, I59, I60, I61, I62, I63, I64, I65, I66, I67, I68, I47, I69, I70, I71, I72, I73, I74, I75, I76, p77, p78, (by omega), (by omega), (by omega), (show jNumP (σ43 3) (σ43 56) (σ43 6) (σ43 57) (σ43 7) (σ43 58) (σ43 8) (σ43 59) (σ43 55 6).toInt (σ43 55 4).toInt by rw [show σ43 3 = σ 3 from ((f45 3 (by decide)).trans (f22 3 (by decide))), show σ43 56 = σ 56 from ((f45 56 (by decide)).trans (f22 56 (by decide))), show σ43 6 = σ 6 from ((f45 6 (by decide)).trans (f22 6 (by decide))), show σ43 57 = σ 57 from ((f45 57 (by decide)).trans (f22 57 (by decide))), show σ43 7 = σ 7 from ((f45 7 (by decide)).trans (f22 7 (by decide))), show σ43 58 = σ 58 from ((f45 58 (by decide)).trans (f22 58 (by decide))), show σ43 8 = σ 8 from ((f45 8 (by decide)).trans (f22 8 (by decide))), show σ43 59 = σ 59 from ((f45 59 (by decide)).trans (f22 59 (by decide))), show (σ43 55 6).toInt = (σ 55 6).toInt from by omega, show (σ43 55 4).toInt = (σ 55 4).toInt from by omega]; exact hr0)⟩ hP hS (lv_sub hl [0, 1, 2, 3] rfl)
    · obtain ⟨q87, k85, k86⟩ := h50
      exact absurd (by omega : False) id
  · obtain ⟨q90, k88, k89⟩ := h36
    have q90 := q90.symm
    subst q90
    refine lv_pop hx hb dL_law_334 rfl ?_
    refine lv_aload_n hx hb dL_law_335 rfl (lv_at hl 1 rfl) ?_
    refine lv_aload_n hx hb dL_law_336 rfl (lv_at hl 3 rfl) ?_
    refine lv_iload_n hx hb dL_law_337 rfl (lv_at hl 0 rfl) ?_
    refine lv_iconst (v := 1) hx hb dL_law_338 (by decide) ?_
    refine lv_iadd hx hb dL_law_339 ?_
    refine jtopr ex18.symm ?_
    refine va_sld hx hb hX hbl hbA hS (jin tx18 (by omega) (by omega)) dL_law_340 ?_
    have I91 : jI103 σ20 := jI103_fr (congrFun (f22 55 (by decide)) 9) hI103
    have z92 : (σ20 55 9).toInt = (σ 55 9).toInt := (congrArg Int32.toInt (show σ20 55 9 = (σ 55 9) from (congrFun (f22 55 (by decide)) 9)))
    refine jcallV (As := [.int (xs x18.toNatClampNeg)]) (rest := []) ⟨hx, hb, hml, hown, hts⟩ hK hP hA hS hZ (c_X12_set l D cI cL ad zz hJ σ20 τ (xs x18.toNatClampNeg) ((xs x18.toNatClampNeg).toInt) rfl I91) cw_RL_30 (jc_55 cI cL ad σ20 τ) rfl ⟨Nat.le_of_ble_eq_true rfl, Nat.le_of_ble_eq_true rfl⟩ rfl rfl rfl hl.1 rfl (Nat.le_of_ble_eq_true rfl) dL_law_341 ⟨Nat.le_of_ble_eq_true rfl, Nat.le_of_ble_eq_true rfl⟩ (fun r94 σ93 τ93 H locs h93 hP hS => ?_)
    obtain ⟨rfl, f95, f96, I97, h93⟩ := h93
    rcases h93 with h99 | h100
    · obtain ⟨q104, k101, k102, k103⟩ := h99
      exact absurd (by omega : False) id
    · obtain ⟨q107, k105, k106⟩ := h100
      have q107 := q107.symm
      subst q107
      refine lv_pop hx hb dL_law_344 rfl ?_
      refine lv_goto (tgt := 1357) hx hb dL_law_345 (by decide) ?_
      obtain ⟨x108, ex108⟩ : ∃ y : Int32, y = x0 + 6 := ⟨_, rfl⟩
      have tx108 : x108.toInt = x0.toInt + 6 := (jadd ex108 rfl jz_6 (by omega) (by omega)).trans (by omega)
      refine lv_iinc (v := x108) (lv' := [(3, .int x108), (2, .ref (ad 55)), (1, .ref (ad 0)), (0, .ref b)]) hx hb dL_law_1357 hl (k := 0) rfl (by rw [ex108]; rfl) (by decide) rfl (fun ls hl => ?_)
      refine lv_goto (tgt := 18) hx hb dL_law_1360 (by decide) ?_
      have I109 : jI2 σ93 := jI2_fr (congrFun (f95 2 (by decide)) 0) (congrFun (f95 2 (by decide)) 1) (congrFun (f95 2 (by decide)) 2) (congrFun (f95 2 (by decide)) 3) (f95 6 (by decide)) I24
      have I110 : jI9 σ93 := jI9_fr ((congrFun (f95 9 (by decide)) 0).trans (congrFun (f22 9 (by decide)) 0)) ((f95 10 (by decide)).trans (f22 10 (by decide))) ((f95 11 (by decide)).trans (f22 11 (by decide))) hI9
      have I111 : jI12 σ93 := jI12_fr ((congrFun (f95 12 (by decide)) 0).trans (congrFun (f22 12 (by decide)) 0)) ((f95 13 (by decide)).trans (f22 13 (by decide))) hI12
      have I112 : jI16 σ93 := jI16_fr ((congrFun (f95 16 (by decide)) 0).trans (congrFun (f22 16 (by decide)) 0)) ((congrFun (f95 16 (by decide)) 1).trans (congrFun (f22 16 (by decide)) 1)) ((congrFun (f95 16 (by decide)) 2).trans (congrFun (f22 16 (by decide)) 2)) ((f95 17 (by decide)).trans (f22 17 (by decide))) hI16
      have I113 : jI18 σ93 := jI18_fr ((congrFun (f95 18 (by decide)) 0).trans (congrFun (f22 18 (by decide)) 0)) ((f95 19 (by decide)).trans (f22 19 (by decide))) hI18
      have I114 : jI22 σ93 := jI22_fr ((congrFun (f95 22 (by decide)) 0).trans (congrFun (f22 22 (by decide)) 0)) ((f95 23 (by decide)).trans (f22 23 (by decide))) hI22
      have I115 : jI31 σ93 := jI31_fr ((congrFun (f95 31 (by decide)) 8).trans (congrFun (f22 31 (by decide)) 8)) ((f95 33 (by decide)).trans (f22 33 (by decide))) ((f95 36 (by decide)).trans (f22 36 (by decide))) hI31
      have I116 : jI38 σ93 := jI38_fr ((congrFun (f95 38 (by decide)) 0).trans (congrFun (f22 38 (by decide)) 0)) ((congrFun (f95 38 (by decide)) 1).trans (congrFun (f22 38 (by decide)) 1)) ((f95 39 (by decide)).trans (f22 39 (by decide))) hI38
      have I117 : jI43 σ93 := jI43_fr ((congrFun (f95 43 (by decide)) 8).trans (congrFun (f22 43 (by decide)) 8)) hI43
      have I118 : jI47 σ93 := jI47_fr ((congrFun (f95 47 (by decide)) 0).trans (congrFun (f22 47 (by decide)) 0)) ((f95 48 (by decide)).trans (f22 48 (by decide))) ((f95 49 (by decide)).trans (f22 49 (by decide))) hI47
      have I119 : jI50 σ93 := jI50_fr ((f95 52 (by decide)).trans (f22 52 (by decide))) hI50
      have I120 : jI101 σ93 := jI101_fr ((f96 4 (by decide)).trans (congrFun (f22 55 (by decide)) 4)) ((f96 5 (by decide)).trans (congrFun (f22 55 (by decide)) 5)) ((f95 56 (by decide)).trans (f22 56 (by decide))) ((f95 57 (by decide)).trans (f22 57 (by decide))) ((f95 58 (by decide)).trans (f22 58 (by decide))) ((f95 59 (by decide)).trans (f22 59 (by decide))) hI101
      have I121 : jI102 σ93 := jI102_fr ((f96 6 (by decide)).trans (congrFun (f22 55 (by decide)) 6)) ((f95 60 (by decide)).trans (f22 60 (by decide))) ((f95 61 (by decide)).trans (f22 61 (by decide))) hI102
      have I122 : jI104 σ93 := jI104_fr ((f96 10 (by decide)).trans (congrFun (f22 55 (by decide)) 10)) ((f96 12 (by decide)).trans (congrFun (f22 55 (by decide)) 12)) ((f96 13 (by decide)).trans (congrFun (f22 55 (by decide)) 13)) ((f95 62 (by decide)).trans (f22 62 (by decide))) ((f95 67 (by decide)).trans (f22 67 (by decide))) hI104
      have I123 : jI105 σ93 := jI105_fr ((f96 15 (by decide)).trans (congrFun (f22 55 (by decide)) 15)) ((f95 65 (by decide)).trans (f22 65 (by decide))) hI105
      have I124 : jI106 σ93 := jI106_fr ((f96 32 (by decide)).trans (congrFun (f22 55 (by decide)) 32)) ((f95 70 (by decide)).trans (f22 70 (by decide))) ((f95 71 (by decide)).trans (f22 71 (by decide))) ((f95 72 (by decide)).trans (f22 72 (by decide))) hI106
      have I125 : jI107 σ93 := jI107_fr ((f96 12 (by decide)).trans (congrFun (f22 55 (by decide)) 12)) ((f96 47 (by decide)).trans (congrFun (f22 55 (by decide)) 47)) ((f95 80 (by decide)).trans (f22 80 (by decide))) hI107
      have I126 : jI109 σ93 := jI109_fr ((f96 50 (by decide)).trans (congrFun (f22 55 (by decide)) 50)) hI109
      have I127 : jI110 σ93 := jI110_fr ((f95 86 (by decide)).trans (f22 86 (by decide))) ((f95 87 (by decide)).trans (f22 87 (by decide))) hI110
      have I128 : jI111 σ93 := jI111_fr ((f95 79 (by decide)).trans (f22 79 (by decide))) hI111
      have I129 : jI119 σ93 := jI119_fr ((f95 68 (by decide)).trans (f22 68 (by decide))) hI119
      have p130 : jKept σ93 := jKept.fr ((f95 75 (by decide)).trans (f22 75 (by decide))) ((f95 76 (by decide)).trans (f22 76 (by decide))) ((f95 77 (by decide)).trans (f22 77 (by decide))) hs_jKept
      have p131 : jBook σ93 := jBook.fr ((f96 47 (by decide)).trans (congrFun (f22 55 (by decide)) 47)) ((f96 10 (by decide)).trans (congrFun (f22 55 (by decide)) 10)) ((f95 81 (by decide)).trans (f22 81 (by decide))) hs_jBook
      have z132 : (σ93 2 0).toInt = (σ 2 0).toInt := (congrArg Int32.toInt (show σ93 2 0 = (σ 2 0) from ((congrFun (f95 2 (by decide)) 0).trans (f23 0 (by decide)))))
      have z133 : (σ93 55 6).toInt = (σ 55 6).toInt := (congrArg Int32.toInt (show σ93 55 6 = (σ 55 6) from ((f96 6 (by decide)).trans (congrFun (f22 55 (by decide)) 6))))
      have z134 : (σ93 2 2).toInt = (σ 2 2).toInt := (congrArg Int32.toInt (show σ93 2 2 = (σ 2 2) from ((congrFun (f95 2 (by decide)) 2).trans (f23 2 (by decide)))))
      have z135 : (σ93 55 5).toInt = (σ 55 5).toInt := (congrArg Int32.toInt (show σ93 55 5 = (σ 55 5) from ((f96 5 (by decide)).trans (congrFun (f22 55 (by decide)) 5))))
      have z136 : (σ93 2 3).toInt = (σ 2 3).toInt := (congrArg Int32.toInt (show σ93 2 3 = (σ 2 3) from ((congrFun (f95 2 (by decide)) 3).trans (f23 3 (by decide)))))
      have z137 : (σ93 55 4).toInt = (σ 55 4).toInt := (congrArg Int32.toInt (show σ93 55 4 = (σ 55 4) from ((f96 4 (by decide)).trans (congrFun (f22 55 (by decide)) 4))))
      exact ih x108 σ93 τ _ _ ls (by have h9 := tx108; omega) ⟨I109, I110, I111, I112, I113, I114, I115, I116, I117, I118, I119, I120, I121, I97, I122, I123, I124, I125, I126, I127, I128, I129, p130, p131, (by omega), (by omega), (by omega), (show jNumP (σ93 3) (σ93 56) (σ93 6) (σ93 57) (σ93 7) (σ93 58) (σ93 8) (σ93 59) (σ93 55 6).toInt (σ93 55 4).toInt by rw [show σ93 3 = σ 3 from ((f95 3 (by decide)).trans (f22 3 (by decide))), show σ93 56 = σ 56 from ((f95 56 (by decide)).trans (f22 56 (by decide))), show σ93 6 = σ 6 from ((f95 6 (by decide)).trans (f22 6 (by decide))), show σ93 57 = σ 57 from ((f95 57 (by decide)).trans (f22 57 (by decide))), show σ93 7 = σ 7 from ((f95 7 (by decide)).trans (f22 7 (by decide))), show σ93 58 = σ 58 from ((f95 58 (by decide)).trans (f22 58 (by decide))), show σ93 8 = σ 8 from ((f95 8 (by decide)).trans (f22 8 (by decide))), show σ93 59 = σ 59 from ((f95 59 (by decide)).trans (f22 59 (by decide))), show (σ93 55 6).toInt = (σ 55 6).toInt from by omega, show (σ93 55 4).toInt = (σ 55 4).toInt from by omega]; exact hr0)⟩ hP hS (lv_sub hl [0, 1, 2, 3] rfl)
set_option maxHeartbeats 4000000 in
set_option maxRecDepth 100000 in
theorem law_case_4 {p : Program} {e : Env} {s : State} {m : MethodId} {below : List Frame} {meth : Method} {c : Code} (l : Launch) {b L : Nat} {xs : Nat → Int32} {D : va_G} {cI cL : ClassId} {ad zz : Nat → Nat} (C0 : lw_At p s m meth c b L xs) (hJ : jD ad) (hA : ∀ q, jA ad q → s.heap.size ≤ q) (hK : jK D cI cL s) (hZ : jZ zz (fun q : Nat => s.heap.size ≤ q) s s.heap) {x0 : Int32} (hx0 : 0 ≤ x0.toInt) (hxL : x0.toInt + 6 ≤ (L : Int)) (hL : L ≤ 384) {σ : Nat → Nat → Int32} {τ : Nat → Nat → Int64} {H : Heap} {locs : List Loc} (hS : va_S (fun q : Nat => s.heap.size ≤ q) s.heap H locs) {ls : Array Slot} (hAll : jAll σ τ) (hP : jH D cI cL ad σ τ H) (hl : lv_has ls 4 [(3, .int x0), (2, .ref (ad 55)), (1, .ref (ad 0)), (0, .ref b)]) (ih : ∀ (x1 : Int32) (σ : Nat → Nat → Int32) (τ : Nat → Nat → Int64) (H : Heap) (locs : List Loc) (ls : Array Slot), x1.toInt = x0.toInt + 6 → jAll σ τ → jH D cI cL ad σ τ H → va_S (fun q : Nat => s.heap.size ≤ q) s.heap H locs → lv_has ls 4 [(3, .int x1), (2, .ref (ad 55)), (1, .ref (ad 0)), (0, .ref b)] → W p l e room_1 s m #[Value.ref b] below meth c H locs 90 348600 (lw_Z below #[Value.ref b] s) (F0 m 18 ls [])) : W p l e room_1 s m #[Value.ref b] below meth c H locs 90 348600 (lw_Z below #[Value.ref b] s) (F0 m 348 ls []) := by
  obtain ⟨hx, hb, hr, hml, hown, hts0, hX, hbl, hlocks, hgv⟩ := C0
  have hts : ∀ w ∈ wsL_law, w.before #[Value.ref b] s = true := fun w h => hts0 w (wsL_law_in w h)
  have hbA : ¬ (fun q : Nat => s.heap.size ≤ q) b := Nat.not_le.mpr hbl
  have hown : s.vm.findClass RL = some m.cls := hown
  obtain ⟨hI2, hI9, hI12, hI16, hI18, hI22, hI31, hI38, hI43, hI47, hI50, hI101, hI102, hI103, hI104, hI105, hI106, hI107, hI109, hI110, hI111, hI119, hs_jKept, hs_jBook, ht0, ht1, ht2, hr0⟩ := hAll
  have hL9 : (L : Int) ≤ 384 := by omega
  obtain ⟨i1, i2, i3, i4, i5, w6⟩ : (0 ≤ (σ 2 0).toInt ∧ (σ 2 0).toInt ≤ 4) ∧ (0 ≤ (σ 2 1).toInt ∧ (σ 2 1).toInt ≤ 3) ∧ (0 ≤ (σ 2 2).toInt) ∧ (0 ≤ (σ 2 3).toInt) ∧ ((σ 2 2).toInt + (σ 2 3).toInt ≤ 40) ∧ (∀ k : Nat, k < 40 → 0 ≤ (σ 6 k).toInt ∧ (σ 6 k).toInt ≤ 67) := id hI2
  obtain ⟨i7, i8, i9, w10, w11, w12, w13⟩ : (0 ≤ (σ 55 5).toInt) ∧ ((σ 55 5).toInt ≤ (σ 55 4).toInt) ∧ ((σ 55 4).toInt ≤ 40) ∧ (∀ k : Nat, k < 68 → (-200) ≤ (σ 56 k).toInt ∧ (σ 56 k).toInt ≤ 500) ∧ (∀ k : Nat, k < 40 → 0 ≤ (σ 57 k).toInt ∧ (σ 57 k).toInt ≤ 67) ∧ (∀ k : Nat, k < 40 → (-200) ≤ (σ 58 k).toInt ∧ (σ 58 k).toInt ≤ 500) ∧ (∀ k : Nat, k < 40 → (-200) ≤ (σ 59 k).toInt ∧ (σ 59 k).toInt ≤ 500) := id hI101
  obtain ⟨i14, w15, w16⟩ : (0 ≤ (σ 55 6).toInt ∧ (σ 55 6).toInt ≤ 4) ∧ (∀ k : Nat, k < 4 → 0 ≤ (σ 60 k).toInt ∧ (σ 60 k).toInt ≤ 50) ∧ (∀ k : Nat, k < 4 → 0 ≤ (σ 61 k).toInt ∧ (σ 61 k).toInt ≤ 20) := id hI102
  refine lv_aload_n hx hb dL_law_348 rfl (lv_at hl 2 rfl) ?_
  refine lv_aload_n hx hb dL_law_349 rfl (lv_at hl 3 rfl) ?_
  refine lv_iload_n hx hb dL_law_350 rfl (lv_at hl 0 rfl) ?_
  refine lv_iconst (v := 1) hx hb dL_law_351 (by decide) ?_
  have g17 := jrg (rfl : x0.toInt = x0.toInt)
  refine lv_iadd hx hb dL_law_352 ?_
  refine lv_topi (fun x18 ex18 => ?_)
  have tx18 : x18.toInt = x0.toInt + 1 := (jadd ex18 rfl jz_1 (by omega) (by omega)).trans (by omega)
  refine va_sld hx hb hX hbl hbA hS (jin tx18 (by omega) (by omega)) dL_law_353 ?_
  have g19 := jrg (rfl : (xs x18.toNatClampNeg).toInt = (xs x18.toNatClampNeg).toInt)
  refine lv_aload_n hx hb dL_law_354 rfl (lv_at hl 3 rfl) ?_
  refine lv_iload_n hx hb dL_law_355 rfl (lv_at hl 0 rfl) ?_
  refine lv_iconst (v := 2) hx hb dL_law_356 (by decide) ?_
  refine lv_iadd hx hb dL_law_357 ?_
  refine lv_topi (fun x20 ex20 => ?_)
  have tx20 : x20.toInt = x0.toInt + 2 := (jadd ex20 rfl jz_2 (by omega) (by omega)).trans (by omega)
  refine va_sld hx hb hX hbl hbA hS (jin tx20 (by omega) (by omega)) dL_law_358 ?_
  have g21 := jrg (rfl : (xs x20.toNatClampNeg).toInt = (xs x20.toNatClampNeg).toInt)
  refine jcallV (As := [.int (xs x18.toNatClampNeg), .int (xs x20.toNatClampNeg)]) (rest := []) ⟨hx, hb, hml, hown, hts⟩ hK hP hA hS hZ (c_X11_feed l D cI cL ad zz hJ σ τ (xs x18.toNatClampNeg) ((xs x18.toNatClampNeg).toInt) rfl (xs x20.toNatClampNeg) ((xs x20.toNatClampNeg).toInt) rfl hI9) cw_RL_31 (jc_0 cI cL ad σ τ) rfl ⟨Nat.le_of_ble_eq_true rfl, Nat.le_of_ble_eq_true rfl⟩ rfl rfl rfl hl.1 rfl (Nat.le_of_ble_eq_true rfl) dL_law_359 ⟨Nat.le_of_ble_eq_true rfl, Nat.le_of_ble_eq_true rfl⟩ (fun r23 σ22 τ22 H locs h22 hP hS => ?_)
  obtain ⟨rfl, f24, f25, I26, h22⟩ := h22
  rcases h22 with h28 | h29 | h30
  · obtain ⟨q34, k31, k32, k33⟩ := h28
    have q34 := q34.symm
    subst q34
    refine lv_pop hx hb dL_law_362 rfl ?_
    refine lv_aload_n hx hb dL_law_363 rfl (lv_at hl 1 rfl) ?_
    refine lv_aload_n hx hb dL_law_364 rfl (lv_at hl 3 rfl) ?_
    refine lv_iload_n hx hb dL_law_365 rfl (lv_at hl 0 rfl) ?_
    refine lv_iconst (v := 1) hx hb dL_law_366 (by decide) ?_
    refine lv_iadd hx hb dL_law_367 ?_
    refine jtopr ex18.symm ?_
    refine va_sld hx hb hX hbl hbA hS (jin tx18 (by omega) (by omega)) dL_law_368 ?_
    refine lv_aload_n hx hb dL_law_369 rfl (lv_at hl 3 rfl) ?_
    refine lv_iload_n hx hb dL_law_370 rfl (lv_at hl 0 rfl) ?_
    refine lv_iconst (v := 2) hx hb dL_law_371 (by decide) ?_
    refine lv_iadd hx hb dL_law_372 ?_
    refine jtopr ex20.symm ?_
    refine va_sld hx hb hX hbl hbA hS (jin tx20 (by omega) (by omega)) dL_law_373 ?_
    have I35 : jI105 σ22 := jI105_fr (congrFun (f24 55 (by decide)) 15) (f24 65 (by decide)) hI105
    have z36 : (σ22 55 15).toInt = (σ 55 15).toInt := (congrArg Int32.toInt (show σ22 55 15 = (σ 55 15) from (congrFun (f24 55 (by decide)) 15)))
    refine jcallV (As := [.int (xs x18.toNatClampNeg), .int (xs x20.toNatClampNeg)]) (rest := []) ⟨hx, hb, hml, hown, hts⟩ hK hP hA hS hZ (c_X12_feed l D cI cL ad zz hJ σ22 τ (xs x18.toNatClampNeg) ((xs x18.toNatClampNeg).toInt) rfl (xs x20.toNatClampNeg) ((xs x20.toNatClampNeg).toInt) rfl I35) cw_RL_35 (jc_55 cI cL ad σ22 τ) rfl ⟨Nat.le_of_ble_eq_true rfl, Nat.le_of_ble_eq_true rfl⟩ rfl rfl rfl hl.1 rfl (Nat.le_of_ble_eq_true rfl) dL_law_374 ⟨Nat.le_of_ble_eq_true rfl, Nat.le_of_ble_eq_true rfl⟩ (fun r38 σ37 τ37 H locs h37 hP hS => ?_)
    obtain ⟨rfl, f39, f40, I41, h37⟩ := h37
    rcases h37 with h43 | h44 | h45
    · obtain ⟨q49, k46, k47, k48⟩ := h43
      have q49 := q49.symm
      subst q49
      refine lv_pop hx hb dL_law_377 rfl ?_
      refine lv_goto (tgt := 1357) hx hb dL_law_378 (by decide) ?_
      obtain ⟨x50, ex50⟩ : ∃ y : Int32, y = x0 + 6 := ⟨_, rfl⟩
      have tx50 : x50.toInt = x0.toInt + 6 := (jadd ex50 rfl jz_6 (by omega) (by omega)).trans (by omega)
      refine lv_iinc (v := x50) (lv' := [(3, .int x50), (2, .ref (ad 55)), (1, .ref (ad 0)), (0, .ref b)]) hx hb dL_law_1357 hl (k := 0) rfl (by rw [ex50]; rfl) (by decide) rfl (fun ls hl => ?_)
      refine lv_goto (tgt := 18) hx hb dL_law_1360 (by decide) ?_
      have I51 : jI2 σ37 := jI2_fr ((congrFun (f39 2 (by decide)) 0).trans (congrFun (f24 2 (by decide)) 0)) ((congrFun (f39 2 (by decide)) 1).trans (congrFun (f24 2 (by decide)) 1)) ((congrFun (f39 2 (by decide)) 2).trans (congrFun (f24 2 (by decide)) 2)) ((congrFun (f39 2 (by decide)) 3).trans (congrFun (f24 2 (by decide)) 3)) ((f39 6 (by decide)).trans (f24 6 (by decide))) hI2
      have I52 : jI9 σ37 := jI9_fr (congrFun (f39 9 (by decide)) 0) (f39 10 (by decide)) (f39 11 (by decide)) I26
      have I53 : jI12 σ37 := jI12_fr ((congrFun (f39 12 (by decide)) 0).trans (congrFun (f24 12 (by decide)) 0)) ((f39 13 (by decide)).trans (f24 13 (by decide))) hI12
      have I54 : jI16 σ37 := jI16_fr ((congrFun (f39 16 (by decide)) 0).trans (congrFun (f24 16 (by decide)) 0)) ((congrFun (f39 16 (by decide)) 1).trans (congrFun (f24 16 (by decide)) 1)) ((congrFun (f39 16 (by decide)) 2).trans (congrFun (f24 16 (by decide)) 2)) ((f39 17 (by decide)).trans (f24 17 (by decide))) hI16
      have I55 : jI18 σ37 := jI18_fr ((congrFun (f39 18 (by decide)) 0).trans (congrFun (f24 18 (by decide)) 0)) ((f39 19 (by decide)).trans (f24 19 (by decide))) hI18
      have I56 : jI22 σ37 := jI22_fr ((congrFun (f39 22 (by decide)) 0).trans (congrFun (f24 22 (by decide)) 0)) ((f39 23 (by decide)).trans (f24 23 (by decide))) hI22
      have I57 : jI31 σ37 := jI31_fr ((congrFun (f39 31 (by decide)) 8).trans (congrFun (f24 31 (by decide)) 8)) ((f39 33 (by decide)).trans (f24 33 (by decide))) ((f39 36 (by decide)).trans (f24 36 (by decide))) hI31
      have I58 : jI38 σ37 := jI38_fr ((congrFun (f39 38 (by decide)) 0).trans (congrFun (f24 38 (by decide)) 0)) ((congrFun (f39 38 (by decide)) 1).trans (congrFun (f24 38 (by decide)) 1)) ((f39 39 (by decide)).trans (f24 39 (by decide))) hI38
      have I59 : jI43 σ37 := jI43_fr ((congrFun (f39 43 (by decide)) 8).trans (congrFun (f24 43 (by decide)) 8)) hI43
      have I60 : jI47 σ37 := jI47_fr ((congrFun (f39 47 (by decide)) 0).trans (congrFun (f24 47 (by decide)) 0)) ((f39 48 (by decide)).trans (f24 48 (by decide))) ((f39 49 (by decide)).trans (f24 49 (by decide))) hI47
      have I61 : jI50 σ37 := jI50_fr ((f39 52 (by decide)).trans (f24 52 (by decide))) hI50
      have I62 : jI101 σ37 := jI101_fr ((f40 4 (by decide)).trans (congrFun (f24 55 (by decide)) 4)) ((f40 5 (by decide)).trans (congrFun (f24 55 (by decide)) 5)) ((f39 56 (by decide)).trans (f24 56 (by decide))) ((f39 57 (by decide)).trans (f24 57 (by decide))) ((f39 58 (by decide)).trans (f24 58 (by decide))) ((f39 59 (by decide)).trans (f24 59 (by decide))) hI101
      have I63 : jI102 σ37 := jI102_fr ((f40 6 (by decide)).trans (congrFun (f24 55 (by decide)) 6)) ((f39 60 (by decide)).trans (f24 60 (by decide))) ((f39 61 (by decide)).trans (f24 61 (by decide))) hI102
      have I64 : jI103 σ37 := jI103_fr ((f40 9 (by decide)).trans (congrFun (f24 55 (by decide)) 9)) hI103
      have I65 : jI104 σ37 := jI104_fr ((f40 10 (by decide)).trans (congrFun (f24 55 (by decide)) 10)) ((f40 12 (by decide)).trans (congrFun (f24 55 (by decide)) 12)) ((f40 13 (by decide)).trans (congrFun (f24 55 (by decide)) 13)) ((f39 62 (by decide)).trans (f24 62 (by decide))) ((f39 67 (by decide)).trans (f24 67 (by decide))) hI104
      have I66 : jI106 σ37 := jI106_fr ((f40 32 (by decide)).trans (congrFun (f24 55 (by decide)) 32)) ((f39 70 (by decide)).trans (f24 70 (by decide))) ((f39 71 (by decide)).trans (f24 71 (by decide))) ((f39 72 (by decide)).trans (f24 72 (by decide))) hI106
      have I67 : jI107 σ37 := jI107_fr ((f40 12 (by decide)).trans (congrFun (f24 55 (by decide)) 12)) ((f40 47 (by decide)).trans (congrFun (f24 55 (by decide)) 47)) ((f39 80 (by decide)).trans (f24 80 (by decide))) hI107
      have I68 : jI109 σ37 := jI109_fr ((f40 50 (by decide)).trans (congrFun (f24 55 (by decide)) 50)) hI109
      have I69 : jI110 σ37 := jI110_fr ((f39 86 (by decide)).trans (f24 86 (by decide))) ((f39 87 (by decide)).trans (f24 87 (by decide))) hI110
      have I70 : jI111 σ37 := jI111_fr ((f39 79 (by decide)).trans (f24 79 (by decide))) hI111
      have I71 : jI119 σ37 := jI119_fr ((f39 68 (by decide)).trans (f24 68 (by decide))) hI119
      have p72 : jKept σ37 := jKept.fr ((f39 75 (by decide)).trans (f24 75 (by decide))) ((f39 76 (by decide)).trans (f24 76 (by decide))) ((f39 77 (by decide)).trans (f24 77 (by decide))) hs_jKept
      have p73 : jBook σ37 := jBook.fr ((f40 47 (by decide)).trans (congrFun (f24 55 (by decide)) 47)) ((f40 10 (by decide)).trans (congrFun (f24 55 (by decide)) 10)) ((f39 81 (by decide)).trans (f24 81 (by decide))) hs_jBook
      have z74 : (σ37 2 0).toInt = (σ 2 0).toInt := (congrArg Int32.toInt (show σ37 2 0 = (σ 2 0) from ((congrFun (f39 2 (by decide)) 0).trans (congrFun (f24 2 (by decide)) 0))))
      have z75 : (σ37 55 6).toInt = (σ 55 6).toInt := (congrArg Int32.toInt (show σ37 55 6 = (σ 55 6) from ((f40 6 (by decide)).trans (congrFun (f24 55 (by decide)) 6))))
      have z76 : (σ37 2 2).toInt = (σ 2 2).toInt := (congrArg Int32.toInt (show σ37 2 2 = (σ 2 2) from ((congrFun (f39 2 (by decide)) 2).trans (congrFun (f24 2 (by decide)) 2))))
      have z77 : (σ37 55 5).toInt = (σ 55 5).toInt := (congrArg Int32.toInt (show σ37 55 5 = (σ 55 5) from ((f40 5 (by decide)).trans (congrFun (f24 55 (by decide)) 5))))
      have z78 : (σ37 2 3).toInt = (σ 2 3).toInt := (congrArg Int32.toInt (show σ37 2 3 = (σ 2 3) from ((congrFun (f39 2 (by decide)) 3).trans (congrFun (f24 2 (by decide)) 3))))
      have z79 : (σ37 55 4).toInt = (σ 55 4).toInt := (congrArg Int32.toInt (show σ37 55 4 = (σ 55 4) from ((f40 4 (by decide)).trans (congrFun (f24 55 (by decide)) 4))))
      exact ih x50 σ37 τ _ _ ls (by have h9 := tx50; omega) ⟨I51, I52, I53, I54, I55, I56, I57, I58, I59, I60, I61, I62, I63, I64, I65, I41, I66, I67, I68, I69, I70, I71, p72, p73, (by omega), (by omega), (by omega), (show jNumP (σ37 3) (σ37 56) (σ37 6) (σ37 57) (σ37 7) (σ37 58) (σ37 8) (σ37 59) (σ37 55 6).toInt (σ37 55 4).toInt by rw [show σ37 3 = σ 3 from ((f39 3 (by decide)).trans (f24 3 (by decide))), show σ37 56 = σ 56 from ((f39 56 (by decide)).trans (f24 56 (by decide))), show σ37 6 = σ 6 from ((f39 6 (by decide)).trans (f24 6 (by decide))), show σ37 57 = σ 57 from ((f39 57 (by decide)).trans (f24 57 (by decide))), show σ37 7 = σ 7 from ((f39 7 (by decide)).trans (f24 7 (by decide))), show σ37 58 = σ 58 from ((f39 58 (by decide)).trans (f24 58 (by decide))), show σ37 8 = σ 8 from ((f39 8 (by decide)).trans (f24 8 (by decide))), show σ37 59 = σ 59 from ((f39 59 (by decide)).trans (f24 59 (by decide))), show (σ37 55 6).toInt = (σ 55 6).toInt from by omega, show (σ37 55 4).toInt = (σ 55 4).toInt from by omega]; exact hr0)⟩ hP hS (lv_sub hl [0, 1, 2, 3] rfl)
    · obtain ⟨q84, k80, k81, k82, k83⟩ := h44
      exact absurd (by omega : False) id
    · obtain ⟨q90, k85, k86, k87, k88, k89⟩ := h45
      exact absurd (by omega : False) id
  · obtain ⟨q95, k91, k92, k93, k94⟩ := h29
    have q95 := q95.symm
    subst q95
    refine lv_pop hx hb dL_law_362 rfl ?_
    refine lv_aload_n hx hb dL_law_363 rfl (lv_at hl 1 rfl) ?_
    refine lv_aload_n hx hb dL_law_364 rfl (lv_at hl 3 rfl) ?_
    refine lv_iload_n hx hb dL_law_365 rfl (lv_at hl 0 rfl) ?_
    refine lv_iconst (v := 1) hx hb dL_law_366 (by decide) ?_
    refine lv_iadd hx hb dL_law_367 ?_
    refine jtopr ex18.symm ?_
    refine va_sld hx hb hX hbl hbA hS (jin tx18 (by omega) (by omega)) dL_law_368 ?_
    refine lv_aload_n hx hb dL_law_369 rfl (lv_at hl 3 rfl) ?_
    refine lv_iload_n hx hb dL_law_370 rfl (lv_at hl 0 rfl) ?_
    refine lv_iconst (v := 2) hx hb dL_law_371 (by decide) ?_
    refine lv_iadd hx hb dL_law_372 ?_
    refine jtopr ex20.symm ?_
    refine va_sld hx hb hX hbl hbA hS (jin tx20 (by omega) (by omega)) dL_law_373 ?_
    have I96 : jI105 σ22 := jI105_fr (congrFun (f24 55 (by decide)) 15) (f24 65 (by decide)) hI105
    have z97 : (σ22 55 15).toInt = (σ 55 15).toInt := (congrArg Int32.toInt (show σ22 55 15 = (σ 55 15) from (congrFun (f24 55 (by decide)) 15)))
    refine jcallV (As := [.int (xs x18.toNatClampNeg), .int (xs x20.toNatClampNeg)]) (rest := []) ⟨hx, hb, hml, hown, hts⟩ hK hP hA hS hZ (c_X12_feed l D cI cL ad zz hJ σ22 τ (xs x18.toNatClampNeg) ((xs x18.toNatClampNeg).toInt) rfl (xs x20.toNatClampNeg) ((xs x20.toNatClampNeg).toInt) rfl I96) cw_RL_35 (jc_55 cI cL ad σ22 τ) rfl ⟨Nat.le_of_ble_eq_true rfl, Nat.le_of_ble_eq_true rfl⟩ rfl rfl rfl hl.1 rfl (Nat.le_of_ble_eq_true rfl) dL_law_374 ⟨Nat.le_of_ble_eq_true rfl, Nat.le_of_ble_eq_true rfl⟩ (fun r99 σ98 τ98 H locs h98 hP hS => ?_)
    obtain ⟨rfl, f100, f101, I102, h98⟩ := h98
    rcases h98 with h104 | h105 | h106
    · obtain ⟨q110, k107, k108, k109⟩ := h104
      exact absurd (by omega : False) id
    · obtain ⟨q115, k111, k112, k113, k114⟩ := h105
      have q115 := q115.symm
      subst q115
      refine lv_pop hx hb dL_law_377 rfl ?_
      refine lv_goto (tgt := 1357) hx hb dL_law_378 (by decide) ?_
      obtain ⟨x116, ex116⟩ : ∃ y : Int32, y = x0 + 6 := ⟨_, rfl⟩
      have tx116 : x116.toInt = x0.toInt + 6 := (jadd ex116 rfl jz_6 (by omega) (by omega)).trans (by omega)
      refine lv_iinc (v := x116) (lv' := [(3, .int x116), (2, .ref (ad 55)), (1, .ref (ad 0)), (0, .ref b)]) hx hb dL_law_1357 hl (k := 0) rfl (by rw [ex116]; rfl) (by decide) rfl (fun ls hl => ?_)
      refine lv_goto (tgt := 18) hx hb dL_law_1360 (by decide) ?_
      have I117 : jI2 σ98 := jI2_fr ((congrFun (f100 2 (by decide)) 0).trans (congrFun (f24 2 (by decide)) 0)) ((congrFun (f100 2 (by decide)) 1).trans (congrFun (f24 2 (by decide)) 1)) ((congrFun (f100 2 (by decide)) 2).trans (congrFun (f24 2 (by decide)) 2)) ((congrFun (f100 2 (by decide)) 3).trans (congrFun (f24 2 (by decide)) 3)) ((f100 6 (by decide)).trans (f24 6 (by decide))) hI2
      have I118 : jI9 σ98 := jI9_fr (congrFun (f100 9 (by decide)) 0) (f100 10 (by decide)) (f100 11 (by decide)) I26
      have I119 : jI12 σ98 := jI12_fr ((congrFun (f100 12 (by decide)) 0).trans (congrFun (f24 12 (by decide)) 0)) ((f100 13 (by decide)).trans (f24 13 (by decide))) hI12
      have I120 : jI16 σ98 := jI16_fr ((congrFun (f100 16 (by decide)) 0).trans (congrFun (f24 16 (by decide)) 0)) ((congrFun (f100 16 (by decide)) 1).trans (congrFun (f24 16 (by decide)) 1)) ((congrFun (f100 16 (by decide)) 2).trans (congrFun (f24 16 (by decide)) 2)) ((f100 17 (by decide)).trans (f24 17 (by decide))) hI16
      have I121 : jI18 σ98 := jI18_fr ((congrFun (f100 18 (by decide)) 0).trans (congrFun (f24 18 (by decide)) 0)) ((f100 19 (by decide)).trans (f24 19 (by decide))) hI18
      have I122 : jI22 σ98 := jI22_fr ((congrFun (f100 22 (by decide)) 0).trans (congrFun (f24 22 (by decide)) 0)) ((f100 23 (by decide)).trans (f24 23 (by decide))) hI22
      have I123 : jI31 σ98 := jI31_fr ((congrFun (f100 31 (by decide)) 8).trans (congrFun (f24 31 (by decide)) 8)) ((f100 33 (by decide)).trans (f24 33 (by decide))) ((f100 36 (by decide)).trans (f24 36 (by decide))) hI31
      have I124 : jI38 σ98 := jI38_fr ((congrFun (f100 38 (by decide)) 0).trans (congrFun (f24 38 (by decide)) 0)) ((congrFun (f100 38 (by decide)) 1).trans (congrFun (f24 38 (by decide)) 1)) ((f100 39 (by decide)).trans (f24 39 (by decide))) hI38
      have I125 : jI43 σ98 := jI43_fr ((congrFun (f100 43 (by decide)) 8).trans (congrFun (f24 43 (by decide)) 8)) hI43
      have I126 : jI47 σ98 := jI47_fr ((congrFun (f100 47 (by decide)) 0).trans (congrFun (f24 47 (by decide)) 0)) ((f100 48 (by decide)).trans (f24 48 (by decide))) ((f100 49 (by decide)).trans (f24 49 (by decide))) hI47
      have I127 : jI50 σ98 := jI50_fr ((f100 52 (by decide)).trans (f24 52 (by decide))) hI50
      have I128 : jI101 σ98 := jI101_fr ((f101 4 (by decide)).trans (congrFun (f24 55 (by decide)) 4)) ((f101 5 (by decide)).trans (congrFun (f24 55 (by decide)) 5)) ((f100 56 (by decide)).trans (f24 56 (by decide))) ((f100 57 (by decide)).trans (f24 57 (by decide))) ((f100 58 (by decide)).trans (f24 58 (by decide))) ((f100 59 (by decide)).trans (f24 59 (by decide))) hI101
      have I129 : jI102 σ98 := jI102_fr ((f101 6 (by decide)).trans (congrFun (f24 55 (by decide)) 6)) ((f100 60 (by decide)).trans (f24 60 (by decide))) ((f100 61 (by decide)).trans (f24 61 (by decide))) hI102
      have I130 : jI103 σ98 := jI103_fr ((f101 9 (by decide)).trans (congrFun (f24 55 (by decide)) 9)) hI103
      have I131 : jI104 σ98 := jI104_fr ((f101 10 (by decide)).trans (congrFun (f24 55 (by decide)) 10)) ((f101 12 (by decide)).trans (congrFun (f24 55 (by decide)) 12)) ((f101 13 (by decide)).trans (congrFun (f24 55 (by decide)) 13)) ((f100 62 (by decide)).trans (f24 62 (by decide))) ((f100 67 (by decide)).trans (f24 67 (by decide))) hI104
      have I132 : jI106 σ98 := jI106_fr ((f101 32 (by decide)).trans (congrFun (f24 55 (by decide)) 32)) ((f100 70 (by decide)).trans (f24 70 (by decide))) ((f100 71 (by decide)).trans (f24 71 (by decide))) ((f100 72 (by decide)).trans (f24 72 (by decide))) hI106
      have I133 : jI107 σ98 := jI107_fr ((f101 12 (by decide)).trans (congrFun (f24 55 (by decide)) 12)) ((f101 47 (by decide)).trans (congrFun (f24 55 (by decide)) 47)) ((f100 80 (by decide)).trans (f24 80 (by decide))) hI107
      have I134 : jI109 σ98 := jI109_fr ((f101 50 (by decide)).trans (congrFun (f24 55 (by decide)) 50)) hI109
      have I135 : jI110 σ98 := jI110_fr ((f100 86 (by decide)).trans (f24 86 (by decide))) ((f100 87 (by decide)).trans (f24 87 (by decide))) hI110
      have I136 : jI111 σ98 := jI111_fr ((f100 79 (by decide)).trans (f24 79 (by decide))) hI111
      have I137 : jI119 σ98 := jI119_fr ((f100 68 (by decide)).trans (f24 68 (by decide))) hI119
      have p138 : jKept σ98 := jKept.fr ((f100 75 (by decide)).trans (f24 75 (by decide))) ((f100 76 (by decide)).trans (f24 76 (by decide))) ((f100 77 (by decide)).trans (f24 77 (by decide))) hs_jKept
      have p139 : jBook σ98 := jBook.fr ((f101 47 (by decide)).trans (congrFun (f24 55 (by decide)) 47)) ((f101 10 (by decide)).trans (congrFun (f24 55 (by decide)) 10)) ((f100 81 (by decide)).trans (f24 81 (by decide))) hs_jBook
      have z140 : (σ98 2 0).toInt = (σ 2 0).toInt := (congrArg Int32.toInt (show σ98 2 0 = (σ 2 0) from ((congrFun (f100 2 (by decide)) 0).trans (congrFun (f24 2 (by decide)) 0))))
      have z141 : (σ98 55 6).toInt = (σ 55 6).toInt := (congrArg Int32.toInt (show σ98 55 6 = (σ 55 6) from ((f101 6 (by decide)).trans (congrFun (f24 55 (by decide)) 6))))
      have z142 : (σ98 2 2).toInt = (σ 2 2).toInt := (congrArg Int32.toInt (show σ98 2 2 = (σ 2 2) from ((congrFun (f100 2 (by decide)) 2).trans (congrFun (f24 2 (by decide)) 2))))
      have z143 : (σ98 55 5).toInt = (σ 55 5).toInt := (congrArg Int32.toInt (show σ98 55 5 = (σ 55 5) from ((f101 5 (by decide)).trans (congrFun (f24 55 (by decide)) 5))))
      have z144 : (σ98 2 3).toInt = (σ 2 3).toInt := (congrArg Int32.toInt (show σ98 2 3 = (σ 2 3) from ((congrFun (f100 2 (by decide)) 3).trans (congrFun (f24 2 (by decide)) 3))))
      have z145 : (σ98 55 4).toInt = (σ 55 4).toInt := (congrArg Int32.toInt (show σ98 55 4 = (σ 55 4) from ((f101 4 (by decide)).trans (congrFun (f24 55 (by decide)) 4))))
      exact ih x116 σ98 τ _ _ ls (by have h9 := tx116; omega) ⟨I117, I118, I119, I120, I121, I122, I123, I124, I125, I126, I127, I128, I129, I130, I131, I102, I132, I133, I134, I135, I136, I137, p138, p139, (by omega), (by omega), (by omega), (show jNumP (σ98 3) (σ98 56) (σ98 6) (σ98 57) (σ98 7) (σ98 58) (σ98 8) (σ98 59) (σ98 55 6).toInt (σ98 55 4).toInt by rw [show σ98 3 = σ 3 from ((f100 3 (by decide)).trans (f24 3 (by decide))), show σ98 56 = σ 56 from ((f100 56 (by decide)).trans (f24 56 (by decide))), show σ98 6 = σ 6 from ((f100 6 (by decide)).trans (f24 6 (by decide))), show σ98 57 = σ 57 from ((f100 57 (by decide)).trans (f24 57 (by decide))), show σ98 7 = σ 7 from ((f100 7 (by decide)).trans (f24 7 (by decide))), show σ98 58 = σ 58 from ((f100 58 (by decide)).trans (f24 58 (by decide))), show σ98 8 = σ 8 from ((f100 8 (by decide)).trans (f24 8 (by decide))), show σ98 59 = σ 59 from ((f100 59 (by decide)).trans (f24 59 (by decide))), show (σ98 55 6).toInt = (σ 55 6).toInt from by omega, show (σ98 55 4).toInt = (σ 55 4).toInt from by omega]; exact hr0)⟩ hP hS (lv_sub hl [0, 1, 2, 3] rfl)
    · obtain ⟨q151, k146, k147, k148, k149, k150⟩ := h106
      refine lv_pop hx hb dL_law_377 rfl ?_
      refine lv_goto (tgt := 1357) hx hb dL_law_378 (by decide) ?_
      obtain ⟨x152, ex152⟩ : ∃ y : Int32, y = x0 + 6 := ⟨_, rfl⟩
      have tx152 : x152.toInt = x0.toInt + 6 := (jadd ex152 rfl jz_6 (by omega) (by omega)).trans (by omega)
      refine lv_iinc (v := x152) (lv' := [(3, .int x152), (2, .ref (ad 55)), (1, .ref (ad 0)), (0, .ref b)]) hx hb dL_law_1357 hl (k := 0) rfl (by rw [ex152]; rfl) (by decide) rfl (fun ls hl => ?_)
      refine lv_goto (tgt := 18) hx hb dL_law_1360 (by decide) ?_
      have I153 : jI2 σ98 := jI2_fr ((congrFun (f100 2 (by decide)) 0).trans (congrFun (f24 2 (by decide)) 0)) ((congrFun (f100 2 (by decide)) 1).trans (congrFun (f24 2 (by decide)) 1)) ((congrFun (f100 2 (by decide)) 2).trans (congrFun (f24 2 (by decide)) 2)) ((congrFun (f100 2 (by decide)) 3).trans (congrFun (f24 2 (by decide)) 3)) ((f100 6 (by decide)).trans (f24 6 (by decide))) hI2
      have I154 : jI9 σ98 := jI9_fr (congrFun (f100 9 (by decide)) 0) (f100 10 (by decide)) (f100 11 (by decide)) I26
      have I155 : jI12 σ98 := jI12_fr ((congrFun (f100 12 (by decide)) 0).trans (congrFun (f24 12 (by decide)) 0)) ((f100 13 (by decide)).trans (f24 13 (by decide))) hI12
      have I156 : jI16 σ98 := jI16_fr ((congrFun (f100 16 (by decide)) 0).trans (congrFun (f24 16 (by decide)) 0)) ((congrFun (f100 16 (by decide)) 1).trans (congrFun (f24 16 (by decide)) 1)) ((congrFun (f100 16 (by decide)) 2).trans (congrFun (f24 16 (by decide)) 2)) ((f100 17 (by decide)).trans (f24 17 (by decide))) hI16
      have I157 : jI18 σ98 := jI18_fr ((congrFun (f100 18 (by decide)) 0).trans (congrFun (f24 18 (by decide)) 0)) ((f100 19 (by decide)).trans (f24 19 (by decide))) hI18
      have I158 : jI22 σ98 := jI22_fr ((congrFun (f100 22 (by decide)) 0).trans (congrFun (f24 22 (by decide)) 0)) ((f100 23 (by decide)).trans (f24 23 (by decide))) hI22
      have I159 : jI31 σ98 := jI31_fr ((congrFun (f100 31 (by decide)) 8).trans (congrFun (f24 31 (by decide)) 8)) ((f100 33 (by decide)).trans (f24 33 (by decide))) ((f100 36 (by decide)).trans (f24 36 (by decide))) hI31
      have I160 : jI38 σ98 := jI38_fr ((congrFun (f100 38 (by decide)) 0).trans (congrFun (f24 38 (by decide)) 0)) ((congrFun (f100 38 (by decide)) 1).trans (congrFun (f24 38 (by decide)) 1)) ((f100 39 (by decide)).trans (f24 39 (by decide))) hI38
      have I161 : jI43 σ98 := jI43_fr ((congrFun (f100 43 (by decide)) 8).trans (congrFun (f24 43 (by decide)) 8)) hI43
      have I162 : jI47 σ98 := jI47_fr ((congrFun (f100 47 (by decide)) 0).trans (congrFun (f24 47 (by decide)) 0)) ((f100 48 (by decide)).trans (f24 48 (by decide))) ((f100 49 (by decide)).trans (f24 49 (by decide))) hI47
      have I163 : jI50 σ98 := jI50_fr ((f100 52 (by decide)).trans (f24 52 (by decide))) hI50
      have I164 : jI101 σ98 := jI101_fr ((f101 4 (by decide)).trans (congrFun (f24 55 (by decide)) 4)) ((f101 5 (by decide)).trans (congrFun (f24 55 (by decide)) 5)) ((f100 56 (by decide)).trans (f24 56 (by decide))) ((f100 57 (by decide)).trans (f24 57 (by decide))) ((f100 58 (by decide)).trans (f24 58 (by decide))) ((f100 59 (by decide)).trans (f24 59 (by decide))) hI101
      have I165 : jI102 σ98 := jI102_fr ((f101 6 (by decide)).trans (congrFun (f24 55 (by decide)) 6)) ((f100 60 (by decide)).trans (f24 60 (by decide))) ((f100 61 (by decide)).trans (f24 61 (by decide))) hI102
      have I166 : jI103 σ98 := jI103_fr ((f101 9 (by decide)).trans (congrFun (f24 55 (by decide)) 9)) hI103
      have I167 : jI104 σ98 := jI104_fr ((f101 10 (by decide)).trans (congrFun (f24 55 (by decide)) 10)) ((f101 12 (by decide)).trans (congrFun (f24 55 (by decide)) 12)) ((f101 13 (by decide)).trans (congrFun (f24 55 (by decide)) 13)) ((f100 62 (by decide)).trans (f24 62 (by decide))) ((f100 67 (by decide)).trans (f24 67 (by decide))) hI104
      have I168 : jI106 σ98 := jI106_fr ((f101 32 (by decide)).trans (congrFun (f24 55 (by decide)) 32)) ((f100 70 (by decide)).trans (f24 70 (by decide))) ((f100 71 (by decide)).trans (f24 71 (by decide))) ((f100 72 (by decide)).trans (f24 72 (by decide))) hI106
      have I169 : jI107 σ98 := jI107_fr ((f101 12 (by decide)).trans (congrFun (f24 55 (by decide)) 12)) ((f101 47 (by decide)).trans (congrFun (f24 55 (by decide)) 47)) ((f100 80 (by decide)).trans (f24 80 (by decide))) hI107
      have I170 : jI109 σ98 := jI109_fr ((f101 50 (by decide)).trans (congrFun (f24 55 (by decide)) 50)) hI109
      have I171 : jI110 σ98 := jI110_fr ((f100 86 (by decide)).trans (f24 86 (by decide))) ((f100 87 (by decide)).trans (f24 87 (by decide))) hI110
      have I172 : jI111 σ98 := jI111_fr ((f100 79 (by decide)).trans (f24 79 (by decide))) hI111
      have I173 : jI119 σ98 := jI119_fr ((f100 68 (by decide)).trans (f24 68 (by decide))) hI119
      have p174 : jKept σ98 := jKept.fr ((f100 75 (by decide)).trans (f24 75 (by decide))) ((f100 76 (by decide)).trans (f24 76 (by decide))) ((f100 77 (by decide)).trans (f24 77 (by decide))) hs_jKept
      have p175 : jBook σ98 := jBook.fr ((f101 47 (by decide)).trans (congrFun (f24 55 (by decide)) 47)) ((f101 10 (by decide)).trans (congrFun (f24 55 (by decide)) 10)) ((f100 81 (by decide)).trans (f24 81 (by decide))) hs_jBook
      have z176 : (σ98 2 0).toInt = (σ 2 0).toInt := (congrArg Int32.toInt (show σ98 2 0 = (σ 2 0) from ((congrFun (f100 2 (by decide)) 0).trans (congrFun (f24 2 (by decide)) 0))))
      have z177 : (σ98 55 6).toInt = (σ 55 6).toInt := (congrArg Int32.toInt (show σ98 55 6 = (σ 55 6) from ((f101 6 (by decide)).trans (congrFun (f24 55 (by decide)) 6))))
      have z178 : (σ98 2 2).toInt = (σ 2 2).toInt := (congrArg Int32.toInt (show σ98 2 2 = (σ 2 2) from ((congrFun (f100 2 (by decide)) 2).trans (congrFun (f24 2 (by decide)) 2))))
      have z179 : (σ98 55 5).toInt = (σ 55 5).toInt := (congrArg Int32.toInt (show σ98 55 5 = (σ 55 5) from ((f101 5 (by decide)).trans (congrFun (f24 55 (by decide)) 5))))
      have z180 : (σ98 2 3).toInt = (σ 2 3).toInt := (congrArg Int32.toInt (show σ98 2 3 = (σ 2 3) from ((congrFun (f100 2 (by decide)) 3).trans (congrFun (f24 2 (by decide)) 3))))
      have z181 : (σ98 55 4).toInt = (σ 55 4).toInt := (congrArg Int32.toInt (show σ98 55 4 = (σ 55 4) from ((f101 4 (by decide)).trans (congrFun (f24 55 (by decide)) 4))))
      exact ih x152 σ98 τ _ _ ls (by have h9 := tx152; omega) ⟨I153, I154, I155, I156, I157, I158, I159, I160, I161, I162, I163, I164, I165, I166, I167, I102, I168, I169, I170, I171, I172, I173, p174, p175, (by omega), (by omega), (by omega), (show jNumP (σ98 3) (σ98 56) (σ98 6) (σ98 57) (σ98 7) (σ98 58) (σ98 8) (σ98 59) (σ98 55 6).toInt (σ98 55 4).toInt by rw [show σ98 3 = σ 3 from ((f100 3 (by decide)).trans (f24 3 (by decide))), show σ98 56 = σ 56 from ((f100 56 (by decide)).trans (f24 56 (by decide))), show σ98 6 = σ 6 from ((f100 6 (by decide)).trans (f24 6 (by decide))), show σ98 57 = σ 57 from ((f100 57 (by decide)).trans (f24 57 (by decide))), show σ98 7 = σ 7 from ((f100 7 (by decide)).trans (f24 7 (by decide))), show σ98 58 = σ 58 from ((f100 58 (by decide)).trans (f24 58 (by decide))), show σ98 8 = σ 8 from ((f100 8 (by decide)).trans (f24 8 (by decide))), show σ98 59 = σ 59 from ((f100 59 (by decide)).trans (f24 59 (by decide))), show (σ98 55 6).toInt = (σ 55 6).toInt from by omega, show (σ98 55 4).toInt = (σ 55 4).toInt from by omega]; exact hr0)⟩ hP hS (lv_sub hl [0, 1, 2, 3] rfl)
  · obtain ⟨q187, k182, k183, k184, k185, k186⟩ := h30
    refine lv_pop hx hb dL_law_362 rfl ?_
    refine lv_aload_n hx hb dL_law_363 rfl (lv_at hl 1 rfl) ?_
    refine lv_aload_n hx hb dL_law_364 rfl (lv_at hl 3 rfl) ?_
    refine lv_iload_n hx hb dL_law_365 rfl (lv_at hl 0 rfl) ?_
    refine lv_iconst (v := 1) hx hb dL_law_366 (by decide) ?_
    refine lv_iadd hx hb dL_law_367 ?_
    refine jtopr ex18.symm ?_
    refine va_sld hx hb hX hbl hbA hS (jin tx18 (by omega) (by omega)) dL_law_368 ?_
    refine lv_aload_n hx hb dL_law_369 rfl (lv_at hl 3 rfl) ?_
    refine lv_iload_n hx hb dL_law_370 rfl (lv_at hl 0 rfl) ?_
    refine lv_iconst (v := 2) hx hb dL_law_371 (by decide) ?_
    refine lv_iadd hx hb dL_law_372 ?_
    refine jtopr ex20.symm ?_
    refine va_sld hx hb hX hbl hbA hS (jin tx20 (by omega) (by omega)) dL_law_373 ?_
    have I188 : jI105 σ22 := jI105_fr (congrFun (f24 55 (by decide)) 15) (f24 65 (by decide)) hI105
    have z189 : (σ22 55 15).toInt = (σ 55 15).toInt := (congrArg Int32.toInt (show σ22 55 15 = (σ 55 15) from (congrFun (f24 55 (by decide)) 15)))
    refine jcallV (As := [.int (xs x18.toNatClampNeg), .int (xs x20.toNatClampNeg)]) (rest := []) ⟨hx, hb, hml, hown, hts⟩ hK hP hA hS hZ (c_X12_feed l D cI cL ad zz hJ σ22 τ (xs x18.toNatClampNeg) ((xs x18.toNatClampNeg).toInt) rfl (xs x20.toNatClampNeg) ((xs x20.toNatClampNeg).toInt) rfl I188) cw_RL_35 (jc_55 cI cL ad σ22 τ) rfl ⟨Nat.le_of_ble_eq_true rfl, Nat.le_of_ble_eq_true rfl⟩ rfl rfl rfl hl.1 rfl (Nat.le_of_ble_eq_true rfl) dL_law_374 ⟨Nat.le_of_ble_eq_true rfl, Nat.le_of_ble_eq_true rfl⟩ (fun r191 σ190 τ190 H locs h190 hP hS => ?_)
    obtain ⟨rfl, f192, f193, I194, h190⟩ := h190
    rcases h190 with h196 | h197 | h198
    · obtain ⟨q202, k199, k200, k201⟩ := h196
      exact absurd (by omega : False) id
    · obtain ⟨q207, k203, k204, k205, k206⟩ := h197
      have q207 := q207.symm
      subst q207
      refine lv_pop hx hb dL_law_377 rfl ?_
      refine lv_goto (tgt := 1357) hx hb dL_law_378 (by decide) ?_
      obtain ⟨x208, ex208⟩ : ∃ y : Int32, y = x0 + 6 := ⟨_, rfl⟩
      have tx208 : x208.toInt = x0.toInt + 6 := (jadd ex208 rfl jz_6 (by omega) (by omega)).trans (by omega)
      refine lv_iinc (v := x208) (lv' := [(3, .int x208), (2, .ref (ad 55)), (1, .ref (ad 0)), (0, .ref b)]) hx hb dL_law_1357 hl (k := 0) rfl (by rw [ex208]; rfl) (by decide) rfl (fun ls hl => ?_)
      refine lv_goto (tgt := 18) hx hb dL_law_1360 (by decide) ?_
      have I209 : jI2 σ190 := jI2_fr ((congrFun (f192 2 (by decide)) 0).trans (congrFun (f24 2 (by decide)) 0)) ((congrFun (f192 2 (by decide)) 1).trans (congrFun (f24 2 (by decide)) 1)) ((congrFun (f192 2 (by decide)) 2).trans (congrFun (f24 2 (by decide)) 2)) ((congrFun (f192 2 (by decide)) 3).trans (congrFun (f24 2 (by decide)) 3)) ((f192 6 (by decide)).trans (f24 6 (by decide))) hI2
      have I210 : jI9 σ190 := jI9_fr (congrFun (f192 9 (by decide)) 0) (f192 10 (by decide)) (f192 11 (by decide)) I26
      have I211 : jI12 σ190 := jI12_fr ((congrFun (f192 12 (by decide)) 0).trans (congrFun (f24 12 (by decide)) 0)) ((f192 13 (by decide)).trans (f24 13 (by decide))) hI12
      have I212 : jI16 σ190 := jI16_fr ((congrFun (f192 16 (by decide)) 0).trans (congrFun (f24 16 (by decide)) 0)) ((congrFun (f192 16 (by decide)) 1).trans (congrFun (f24 16 (by decide)) 1)) ((congrFun (f192 16 (by decide)) 2).trans (congrFun (f24 16 (by decide)) 2)) ((f192 17 (by decide)).trans (f24 17 (by decide))) hI16
      have I213 : jI18 σ190 := jI18_fr ((congrFun (f192 18 (by decide)) 0).trans (congrFun (f24 18 (by decide)) 0)) ((f192 19 (by decide)).trans (f24 19 (by decide))) hI18
      have I214 : jI22 σ190 := jI22_fr ((congrFun (f192 22 (by decide)) 0).trans (congrFun (f24 22 (by decide)) 0)) ((f192 23 (by decide)).trans (f24 23 (by decide))) hI22
      have I215 : jI31 σ190 := jI31_fr ((congrFun (f192 31 (by decide)) 8).trans (congrFun (f24 31 (by decide)) 8)) ((f192 33 (by decide)).trans (f24 33 (by decide))) ((f192 36 (by decide)).trans (f24 36 (by decide))) hI31
      have I216 : jI38 σ190 := jI38_fr ((congrFun (f192 38 (by decide)) 0).trans (congrFun (f24 38 (by decide)) 0)) ((congrFun (f192 38 (by decide)) 1).trans (congrFun (f24 38 (by decide)) 1)) ((f192 39 (by decide)).trans (f24 39 (by decide))) hI38
      have I217 : jI43 σ190 := jI43_fr ((congrFun (f192 43 (by decide)) 8).trans (congrFun (f24 43 (by decide)) 8)) hI43
      have I218 : jI47 σ190 := jI47_fr ((congrFun (f192 47 (by decide)) 0).trans (congrFun (f24 47 (by decide)) 0)) ((f192 48 (by decide)).trans (f24 48 (by decide))) ((f192 49 (by decide)).trans (f24 49 (by decide))) hI47
      have I219 : jI50 σ190 := jI50_fr ((f192 52 (by decide)).trans (f24 52 (by decide))) hI50
      have I220 : jI101 σ190 := jI101_fr ((f193 4 (by decide)).trans (congrFun (f24 55 (by decide)) 4)) ((f193 5 (by decide)).trans (congrFun (f24 55 (by decide)) 5)) ((f192 56 (by decide)).trans (f24 56 (by decide))) ((f192 57 (by decide)).trans (f24 57 (by decide))) ((f192 58 (by decide)).trans (f24 58 (by decide))) ((f192 59 (by decide)).trans (f24 59 (by decide))) hI101
      have I221 : jI102 σ190 := jI102_fr ((f193 6 (by decide)).trans (congrFun (f24 55 (by decide)) 6)) ((f192 60 (by decide)).trans (f24 60 (by decide))) ((f192 61 (by decide)).trans (f24 61 (by decide))) hI102
      have I222 : jI103 σ190 := jI103_fr ((f193 9 (by decide)).trans (congrFun (f24 55 (by decide)) 9)) hI103
      have I223 : jI104 σ190 := jI104_fr ((f193 10 (by decide)).trans (congrFun (f24 55 (by decide)) 10)) ((f193 12 (by decide)).trans (congrFun (f24 55 (by decide)) 12)) ((f193 13 (by decide)).trans (congrFun (f24 55 (by decide)) 13)) ((f192 62 (by decide)).trans (f24 62 (by decide))) ((f192 67 (by decide)).trans (f24 67 (by decide))) hI104
      have I224 : jI106 σ190 := jI106_fr ((f193 32 (by decide)).trans (congrFun (f24 55 (by decide)) 32)) ((f192 70 (by decide)).trans (f24 70 (by decide))) ((f192 71 (by decide)).trans (f24 71 (by decide))) ((f192 72 (by decide)).trans (f24 72 (by decide))) hI106
      have I225 : jI107 σ190 := jI107_fr ((f193 12 (by decide)).trans (congrFun (f24 55 (by decide)) 12)) ((f193 47 (by decide)).trans (congrFun (f24 55 (by decide)) 47)) ((f192 80 (by decide)).trans (f24 80 (by decide))) hI107
      have I226 : jI109 σ190 := jI109_fr ((f193 50 (by decide)).trans (congrFun (f24 55 (by decide)) 50)) hI109
      have I227 : jI110 σ190 := jI110_fr ((f192 86 (by decide)).trans (f24 86 (by decide))) ((f192 87 (by decide)).trans (f24 87 (by decide))) hI110
      have I228 : jI111 σ190 := jI111_fr ((f192 79 (by decide)).trans (f24 79 (by decide))) hI111
      have I229 : jI119 σ190 := jI119_fr ((f192 68 (by decide)).trans (f24 68 (by decide))) hI119
      have p230 : jKept σ190 := jKept.fr ((f192 75 (by decide)).trans (f24 75 (by decide))) ((f192 76 (by decide)).trans (f24 76 (by decide))) ((f192 77 (by decide)).trans (f24 77 (by decide))) hs_jKept
      have p231 : jBook σ190 := jBook.fr ((f193 47 (by decide)).trans (congrFun (f24 55 (by decide)) 47)) ((f193 10 (by decide)).trans (congrFun (f24 55 (by decide)) 10)) ((f192 81 (by decide)).trans (f24 81 (by decide))) hs_jBook
      have z232 : (σ190 2 0).toInt = (σ 2 0).toInt := (congrArg Int32.toInt (show σ190 2 0 = (σ 2 0) from ((congrFun (f192 2 (by decide)) 0).trans (congrFun (f24 2 (by decide)) 0))))
      have z233 : (σ190 55 6).toInt = (σ 55 6).toInt := (congrArg Int32.toInt (show σ190 55 6 = (σ 55 6) from ((f193 6 (by decide)).trans (congrFun (f24 55 (by decide)) 6))))
      have z234 : (σ190 2 2).toInt = (σ 2 2).toInt := (congrArg Int32.toInt (show σ190 2 2 = (σ 2 2) from ((congrFun (f192 2 (by decide)) 2).trans (congrFun (f24 2 (by decide)) 2))))
      have z235 : (σ190 55 5).toInt = (σ 55 5).toInt := (congrArg Int32.toInt (show σ190 55 5 = (σ 55 5) from ((f193 5 (by decide)).trans (congrFun (f24 55 (by decide)) 5))))
      have z236 : (σ190 2 3).toInt = (σ 2 3).toInt := (congrArg Int32.toInt (show σ190 2 3 = (σ 2 3) from ((congrFun (f192 2 (by decide)) 3).trans (congrFun (f24 2 (by decide)) 3))))
      have z237 : (σ190 55 4).toInt = (σ 55 4).toInt := (congrArg Int32.toInt (show σ190 55 4 = (σ 55 4) from ((f193 4 (by decide)).trans (congrFun (f24 55 (by decide)) 4))))
      exact ih x208 σ190 τ _ _ ls (by have h9 := tx208; omega) ⟨I209, I210, I211, I212, I213, I214, I215, I216, I217, I218, I219, I220, I221, I222, I223, I194, I224, I225, I226, I227, I228, I229, p230, p231, (by omega), (by omega), (by omega), (show jNumP (σ190 3) (σ190 56) (σ190 6) (σ190 57) (σ190 7) (σ190 58) (σ190 8) (σ190 59) (σ190 55 6).toInt (σ190 55 4).toInt by rw [show σ190 3 = σ 3 from ((f192 3 (by decide)).trans (f24 3 (by decide))), show σ190 56 = σ 56 from ((f192 56 (by decide)).trans (f24 56 (by decide))), show σ190 6 = σ 6 from ((f192 6 (by decide)).trans (f24 6 (by decide))), show σ190 57 = σ 57 from ((f192 57 (by decide)).trans (f24 57 (by decide))), show σ190 7 = σ 7 from ((f192 7 (by decide)).trans (f24 7 (by decide))), show σ190 58 = σ 58 from ((f192 58 (by decide)).trans (f24 58 (by decide))), show σ190 8 = σ 8 from ((f192 8 (by decide)).trans (f24 8 (by decide))), show σ190 59 = σ 59 from ((f192 59 (by decide)).trans (f24 59 (by decide))), show (σ190 55 6).toInt = (σ 55 6).toInt from by omega, show (σ190 55 4).toInt = (σ 55 4).toInt from by omega]; exact hr0)⟩ hP hS (lv_sub hl [0, 1, 2, 3] rfl)
    · obtain ⟨q243, k238, k239, k240, k241, k242⟩ := h198
      refine lv_pop hx hb dL_law_377 rfl ?_
      refine lv_goto (tgt := 1357) hx hb dL_law_378 (by decide) ?_
      obtain ⟨x244, ex244⟩ : ∃ y : Int32, y = x0 + 6 := ⟨_, rfl⟩
      have tx244 : x244.toInt = x0.toInt + 6 := (jadd ex244 rfl jz_6 (by omega) (by omega)).trans (by omega)
      refine lv_iinc (v := x244) (lv' := [(3, .int x244), (2, .ref (ad 55)), (1, .ref (ad 0)), (0, .ref b)]) hx hb dL_law_1357 hl (k := 0) rfl (by rw [ex244]; rfl) (by decide) rfl (fun ls hl => ?_)
      refine lv_goto (tgt := 18) hx hb dL_law_1360 (by decide) ?_
      have I245 : jI2 σ190 := jI2_fr ((congrFun (f192 2 (by decide)) 0).trans (congrFun (f24 2 (by decide)) 0)) ((congrFun (f192 2 (by decide)) 1).trans (congrFun (f24 2 (by decide)) 1)) ((congrFun (f192 2 (by decide)) 2).trans (congrFun (f24 2 (by decide)) 2)) ((congrFun (f192 2 (by decide)) 3).trans (congrFun (f24 2 (by decide)) 3)) ((f192 6 (by decide)).trans (f24 6 (by decide))) hI2
      have I246 : jI9 σ190 := jI9_fr (congrFun (f192 9 (by decide)) 0) (f192 10 (by decide)) (f192 11 (by decide)) I26
      have I247 : jI12 σ190 := jI12_fr ((congrFun (f192 12 (by decide)) 0).trans (congrFun (f24 12 (by decide)) 0)) ((f192 13 (by decide)).trans (f24 13 (by decide))) hI12
      have I248 : jI16 σ190 := jI16_fr ((congrFun (f192 16 (by decide)) 0).trans (congrFun (f24 16 (by decide)) 0)) ((congrFun (f192 16 (by decide)) 1).trans (congrFun (f24 16 (by decide)) 1)) ((congrFun (f192 16 (by decide)) 2).trans (congrFun (f24 16 (by decide)) 2)) ((f192 17 (by decide)).trans (f24 17 (by decide))) hI16
      have I249 : jI18 σ190 := jI18_fr ((congrFun (f192 18 (by decide)) 0).trans (congrFun (f24 18 (by decide)) 0)) ((f192 19 (by decide)).trans (f24 19 (by decide))) hI18
      have I250 : jI22 σ190 := jI22_fr ((congrFun (f192 22 (by decide)) 0).trans (congrFun (f24 22 (by decide)) 0)) ((f192 23 (by decide)).trans (f24 23 (by decide))) hI22
      have I251 : jI31 σ190 := jI31_fr ((congrFun (f192 31 (by decide)) 8).trans (congrFun (f24 31 (by decide)) 8)) ((f192 33 (by decide)).trans (f24 33 (by decide))) ((f192 36 (by decide)).trans (f24 36 (by decide))) hI31
      have I252 : jI38 σ190 := jI38_fr ((congrFun (f192 38 (by decide)) 0).trans (congrFun (f24 38 (by decide)) 0)) ((congrFun (f192 38 (by decide)) 1).trans (congrFun (f24 38 (by decide)) 1)) ((f192 39 (by decide)).trans (f24 39 (by decide))) hI38
      have I253 : jI43 σ190 := jI43_fr ((congrFun (f192 43 (by decide)) 8).trans (congrFun (f24 43 (by decide)) 8)) hI43
      have I254 : jI47 σ190 := jI47_fr ((congrFun (f192 47 (by decide)) 0).trans (congrFun (f24 47 (by decide)) 0)) ((f192 48 (by decide)).trans (f24 48 (by decide))) ((f192 49 (by decide)).trans (f24 49 (by decide))) hI47
      have I255 : jI50 σ190 := jI50_fr ((f192 52 (by decide)).trans (f24 52 (by decide))) hI50
      have I256 : jI101 σ190 := jI101_fr ((f193 4 (by decide)).trans (congrFun (f24 55 (by decide)) 4)) ((f193 5 (by decide)).trans (congrFun (f24 55 (by decide)) 5)) ((f192 56 (by decide)).trans (f24 56 (by decide))) ((f192 57 (by decide)).trans (f24 57 (by decide))) ((f192 58 (by decide)).trans (f24 58 (by decide))) ((f192 59 (by decide)).trans (f24 59 (by decide))) hI101
      have I257 : jI102 σ190 := jI102_fr ((f193 6 (by decide)).trans (congrFun (f24 55 (by decide)) 6)) ((f192 60 (by decide)).trans (f24 60 (by decide))) ((f192 61 (by decide)).trans (f24 61 (by decide))) hI102
      have I258 : jI103 σ190 := jI103_fr ((f193 9 (by decide)).trans (congrFun (f24 55 (by decide)) 9)) hI103
      have I259 : jI104 σ190 := jI104_fr ((f193 10 (by decide)).trans (congrFun (f24 55 (by decide)) 10)) ((f193 12 (by decide)).trans (congrFun (f24 55 (by decide)) 12)) ((f193 13 (by decide)).trans (congrFun (f24 55 (by decide)) 13)) ((f192 62 (by decide)).trans (f24 62 (by decide))) ((f192 67 (by decide)).trans (f24 67 (by decide))) hI104
      have I260 : jI106 σ190 := jI106_fr ((f193 32 (by decide)).trans (congrFun (f24 55 (by decide)) 32)) ((f192 70 (by decide)).trans (f24 70 (by decide))) ((f192 71 (by decide)).trans (f24 71 (by decide))) ((f192 72 (by decide)).trans (f24 72 (by decide))) hI106
      have I261 : jI107 σ190 := jI107_fr ((f193 12 (by decide)).trans (congrFun (f24 55 (by decide)) 12)) ((f193 47 (by decide)).trans (congrFun (f24 55 (by decide)) 47)) ((f192 80 (by decide)).trans (f24 80 (by decide))) hI107
      have I262 : jI109 σ190 := jI109_fr ((f193 50 (by decide)).trans (congrFun (f24 55 (by decide)) 50)) hI109
      have I263 : jI110 σ190 := jI110_fr ((f192 86 (by decide)).trans (f24 86 (by decide))) ((f192 87 (by decide)).trans (f24 87 (by decide))) hI110
      have I264 : jI111 σ190 := jI111_fr ((f192 79 (by decide)).trans (f24 79 (by decide))) hI111
      have I265 : jI119 σ190 := jI119_fr ((f192 68 (by decide)).trans (f24 68 (by decide))) hI119
      have p266 : jKept σ190 := jKept.fr ((f192 75 (by decide)).trans (f24 75 (by decide))) ((f192 76 (by decide)).trans (f24 76 (by decide))) ((f192 77 (by decide)).trans (f24 77 (by decide))) hs_jKept
      have p267 : jBook σ190 := jBook.fr ((f193 47 (by decide)).trans (congrFun (f24 55 (by decide)) 47)) ((f193 10 (by decide)).trans (congrFun (f24 55 (by decide)) 10)) ((f192 81 (by decide)).trans (f24 81 (by decide))) hs_jBook
      have z268 : (σ190 2 0).toInt = (σ 2 0).toInt := (congrArg Int32.toInt (show σ190 2 0 = (σ 2 0) from ((congrFun (f192 2 (by decide)) 0).trans (congrFun (f24 2 (by decide)) 0))))
      have z269 : (σ190 55 6).toInt = (σ 55 6).toInt := (congrArg Int32.toInt (show σ190 55 6 = (σ 55 6) from ((f193 6 (by decide)).trans (congrFun (f24 55 (by decide)) 6))))
      have z270 : (σ190 2 2).toInt = (σ 2 2).toInt := (congrArg Int32.toInt (show σ190 2 2 = (σ 2 2) from ((congrFun (f192 2 (by decide)) 2).trans (congrFun (f24 2 (by decide)) 2))))
      have z271 : (σ190 55 5).toInt = (σ 55 5).toInt := (congrArg Int32.toInt (show σ190 55 5 = (σ 55 5) from ((f193 5 (by decide)).trans (congrFun (f24 55 (by decide)) 5))))
      have z272 : (σ190 2 3).toInt = (σ 2 3).toInt := (congrArg Int32.toInt (show σ190 2 3 = (σ 2 3) from ((congrFun (f192 2 (by decide)) 3).trans (congrFun (f24 2 (by decide)) 3))))
      have z273 : (σ190 55 4).toInt = (σ 55 4).toInt := (congrArg Int32.toInt (show σ190 55 4 = (σ 55 4) from ((f193 4 (by decide)).trans (congrFun (f24 55 (by decide)) 4))))
      exact ih x244 σ190 τ _ _ ls (by have h9 := tx244; omega) ⟨I245, I246, I247, I248, I249, I250, I251, I252, I253, I254, I255, I256, I257, I258, I259, I194, I260, I261, I262, I263, I264, I265, p266, p267, (by omega), (by omega), (by omega), (show jNumP (σ190 3) (σ190 56) (σ190 6) (σ190 57) (σ190 7) (σ190 58) (σ190 8) (σ190 59) (σ190 55 6).toInt (σ190 55 4).toInt by rw [show σ190 3 = σ 3 from ((f192 3 (by decide)).trans (f24 3 (by decide))), show σ190 56 = σ 56 from ((f192 56 (by decide)).trans (f24 56 (by decide))), show σ190 6 = σ 6 from ((f192 6 (by decide)).trans (f24 6 (by decide))), show σ190 57 = σ 57 from ((f192 57 (by decide)).trans (f24 57 (by decide))), show σ190 7 = σ 7 from ((f192 7 (by decide)).trans (f24 7 (by decide))), show σ190 58 = σ 58 from ((f192 58 (by decide)).trans (f24 58 (by decide))), show σ190 8 = σ 8 from ((f192 8 (by decide)).trans (f24 8 (by decide))), show σ190 59 = σ 59 from ((f192 59 (by decide)).trans (f24 59 (by decide))), show (σ190 55 6).toInt = (σ 55 6).toInt from by omega, show (σ190 55 4).toInt = (σ 55 4).toInt from by omega]; exact hr0)⟩ hP hS (lv_sub hl [0, 1, 2, 3] rfl)
set_option maxHeartbeats 4000000 in
set_option maxRecDepth 100000 in
theorem law_case_5 {p : Program} {e : Env} {s : State} {m : MethodId} {below : List Frame} {meth : Method} {c : Code} (l : Launch) {b L : Nat} {xs : Nat → Int32} {D : va_G} {cI cL : ClassId} {ad zz : Nat → Nat} (C0 : lw_At p s m meth c b L xs) (hJ : jD ad) (hA : ∀ q, jA ad q → s.heap.size ≤ q) (hK : jK D cI cL s) (hZ : jZ zz (fun q : Nat => s.heap.size ≤ q) s s.heap) {x0 : Int32} (hx0 : 0 ≤ x0.toInt) (hxL : x0.toInt + 6 ≤ (L : Int)) (hL : L ≤ 384) {σ : Nat → Nat → Int32} {τ : Nat → Nat → Int64} {H : Heap} {locs : List Loc} (hS : va_S (fun q : Nat => s.heap.size ≤ q) s.heap H locs) {ls : Array Slot} (hAll : jAll σ τ) (hP : jH D cI cL ad σ τ H) (hl : lv_has ls 4 [(3, .int x0), (2, .ref (ad 55)), (1, .ref (ad 0)), (0, .ref b)]) (ih : ∀ (x1 : Int32) (σ : Nat → Nat → Int32) (τ : Nat → Nat → Int64) (H : Heap) (locs : List Loc) (ls : Array Slot), x1.toInt = x0.toInt + 6 → jAll σ τ → jH D cI cL ad σ τ H → va_S (fun q : Nat => s.heap.size ≤ q) s.heap H locs → lv_has ls 4 [(3, .int x1), (2, .ref (ad 55)), (1, .ref (ad 0)), (0, .ref b)] → W p l e room_1 s m #[Value.ref b] below meth c H locs 90 348600 (lw_Z below #[Value.ref b] s) (F0 m 18 ls [])) : W p l e room_1 s m #[Value.ref b] below meth c H locs 90 348600 (lw_Z below #[Value.ref b] s) (F0 m 381 ls []) := by
  obtain ⟨hx, hb, hr, hml, hown, hts0, hX, hbl, hlocks, hgv⟩ := C0
  have hts : ∀ w ∈ wsL_law, w.before #[Value.ref b] s = true := fun w h => hts0 w (wsL_law_in w h)
  have hbA : ¬ (fun q : Nat => s.heap.size ≤ q) b := Nat.not_le.mpr hbl
  have hown : s.vm.findClass RL = some m.cls := hown
  obtain ⟨hI2, hI9, hI12, hI16, hI18, hI22, hI31, hI38, hI43, hI47, hI50, hI101, hI102, hI103, hI104, hI105, hI106, hI107, hI109, hI110, hI111, hI119, hs_jKept, hs_jBook, ht0, ht1, ht2, hr0⟩ := hAll
  have hL9 : (L : Int) ≤ 384 := by omega
  obtain ⟨i1, i2, i3, i4, i5, w6⟩ : (0 ≤ (σ 2 0).toInt ∧ (σ 2 0).toInt ≤ 4) ∧ (0 ≤ (σ 2 1).toInt ∧ (σ 2 1).toInt ≤ 3) ∧ (0 ≤ (σ 2 2).toInt) ∧ (0 ≤ (σ 2 3).toInt) ∧ ((σ 2 2).toInt + (σ 2 3).toInt ≤ 40) ∧ (∀ k : Nat, k < 40 → 0 ≤ (σ 6 k).toInt ∧ (σ 6 k).toInt ≤ 67) := id hI2
  obtain ⟨i7, i8, i9, w10, w11, w12, w13⟩ : (0 ≤ (σ 55 5).toInt) ∧ ((σ 55 5).toInt ≤ (σ 55 4).toInt) ∧ ((σ 55 4).toInt ≤ 40) ∧ (∀ k : Nat, k < 68 → (-200) ≤ (σ 56 k).toInt ∧ (σ 56 k).toInt ≤ 500) ∧ (∀ k : Nat, k < 40 → 0 ≤ (σ 57 k).toInt ∧ (σ 57 k).toInt ≤ 67) ∧ (∀ k : Nat, k < 40 → (-200) ≤ (σ 58 k).toInt ∧ (σ 58 k).toInt ≤ 500) ∧ (∀ k : Nat, k < 40 → (-200) ≤ (σ 59 k).toInt ∧ (σ 59 k).toInt ≤ 500) := id hI101
  obtain ⟨i14, w15, w16⟩ : (0 ≤ (σ 55 6).toInt ∧ (σ 55 6).toInt ≤ 4) ∧ (∀ k : Nat, k < 4 → 0 ≤ (σ 60 k).toInt ∧ (σ 60 k).toInt ≤ 50) ∧ (∀ k : Nat, k < 4 → 0 ≤ (σ 61 k).toInt ∧ (σ 61 k).toInt ≤ 20) := id hI102
  refine lv_aload_n hx hb dL_law_381 rfl (lv_at hl 2 rfl) ?_
  refine jcallV (As := []) (rest := []) ⟨hx, hb, hml, hown, hts⟩ hK hP hA hS hZ (c_X11_order l D cI cL ad zz hJ σ τ hI9 hI16 hI47) cw_RL_36 (jc_0 cI cL ad σ τ) rfl ⟨Nat.le_of_ble_eq_true rfl, Nat.le_of_ble_eq_true rfl⟩ rfl rfl rfl hl.1 rfl (Nat.le_of_ble_eq_true rfl) dL_law_382 ⟨Nat.le_of_ble_eq_true rfl, Nat.le_of_ble_eq_true rfl⟩ (fun r18 σ17 τ17 H locs h17 hP hS => ?_)
  obtain ⟨rfl, f19, f20, f21, f22, I23, I24, I25, w26, h17⟩ := h17
  obtain ⟨k28, h17⟩ := h17
  rcases h17 with h29 | h30
  · obtain ⟨q33, k31, k32⟩ := h29
    refine lv_pop hx hb dL_law_385 rfl ?_
    refine lv_aload_n hx hb dL_law_386 rfl (lv_at hl 1 rfl) ?_
    have I34 : jI104 σ17 := jI104_fr (congrFun (f19 55 (by decide)) 10) (congrFun (f19 55 (by decide)) 12) (congrFun (f19 55 (by decide)) 13) (f19 62 (by decide)) (f19 67 (by decide)) hI104
    have I35 : jI105 σ17 := jI105_fr (congrFun (f19 55 (by decide)) 15) (f19 65 (by decide)) hI105
    have I36 : jI107 σ17 := jI107_fr (congrFun (f19 55 (by decide)) 12) (congrFun (f19 55 (by decide)) 47) (f19 80 (by decide)) hI107
    have p37 : jBook σ17 := jBook.fr (congrFun (f19 55 (by decide)) 47) (congrFun (f19 55 (by decide)) 10) (f19 81 (by decide)) hs_jBook
    have z38 : (σ17 55 47).toInt = (σ 55 47).toInt := (congrArg Int32.toInt (show σ17 55 47 = (σ 55 47) from (congrFun (f19 55 (by decide)) 47)))
    refine jcallV (As := []) (rest := []) ⟨hx, hb, hml, hown, hts⟩ hK hP hA hS hZ (c_X12_order l D cI cL ad zz hJ σ17 τ I34 I35 I36 p37) cw_RL_40 (jc_55 cI cL ad σ17 τ) rfl ⟨Nat.le_of_ble_eq_true rfl, Nat.le_of_ble_eq_true rfl⟩ rfl rfl rfl hl.1 rfl (Nat.le_of_ble_eq_true rfl) dL_law_387 ⟨Nat.le_of_ble_eq_true rfl, Nat.le_of_ble_eq_true rfl⟩ (fun r40 σ39 τ39 H locs h39 hP hS => ?_)
    obtain ⟨rfl, f41, f42, I43, I44, I45, p46, w47, h39⟩ := h39
    obtain ⟨k49, h39⟩ := h39
    rcases h39 with h50 | h51
    · obtain ⟨q54, k52, k53⟩ := h50
      refine lv_pop hx hb dL_law_390 rfl ?_
      refine lv_goto (tgt := 1357) hx hb dL_law_391 (by decide) ?_
      obtain ⟨x55, ex55⟩ : ∃ y : Int32, y = x0 + 6 := ⟨_, rfl⟩
      have tx55 : x55.toInt = x0.toInt + 6 := (jadd ex55 rfl jz_6 (by omega) (by omega)).trans (by omega)
      refine lv_iinc (v := x55) (lv' := [(3, .int x55), (2, .ref (ad 55)), (1, .ref (ad 0)), (0, .ref b)]) hx hb dL_law_1357 hl (k := 0) rfl (by rw [ex55]; rfl) (by decide) rfl (fun ls hl => ?_)
      refine lv_goto (tgt := 18) hx hb dL_law_1360 (by decide) ?_
      have I56 : jI2 σ39 := jI2_fr ((congrFun (f41 2 (by decide)) 0).trans (congrFun (f19 2 (by decide)) 0)) ((congrFun (f41 2 (by decide)) 1).trans (congrFun (f19 2 (by decide)) 1)) ((congrFun (f41 2 (by decide)) 2).trans (congrFun (f19 2 (by decide)) 2)) ((congrFun (f41 2 (by decide)) 3).trans (congrFun (f19 2 (by decide)) 3)) ((f41 6 (by decide)).trans (f19 6 (by decide))) hI2
      have I57 : jI9 σ39 := jI9_fr (congrFun (f41 9 (by decide)) 0) (f41 10 (by decide)) (f41 11 (by decide)) I23
      have I58 : jI12 σ39 := jI12_fr ((congrFun (f41 12 (by decide)) 0).trans (congrFun (f19 12 (by decide)) 0)) ((f41 13 (by decide)).trans (f19 13 (by decide))) hI12
      have I59 : jI16 σ39 := jI16_fr (congrFun (f41 16 (by decide)) 0) (congrFun (f41 16 (by decide)) 1) (congrFun (f41 16 (by decide)) 2) (f41 17 (by decide)) I24
      have I60 : jI18 σ39 := jI18_fr ((congrFun (f41 18 (by decide)) 0).trans (congrFun (f19 18 (by decide)) 0)) ((f41 19 (by decide)).trans (f19 19 (by decide))) hI18
      have I61 : jI22 σ39 := jI22_fr ((congrFun (f41 22 (by decide)) 0).trans (congrFun (f19 22 (by decide)) 0)) ((f41 23 (by decide)).trans (f19 23 (by decide))) hI22
      have I62 : jI31 σ39 := jI31_fr ((congrFun (f41 31 (by decide)) 8).trans (congrFun (f19 31 (by decide)) 8)) ((f41 33 (by decide)).trans (f19 33 (by decide))) ((f41 36 (by decide)).trans (f19 36 (by decide))) hI31
      have I63 : jI38 σ39 := jI38_fr ((congrFun (f41 38 (by decide)) 0).trans (congrFun (f19 38 (by decide)) 0)) ((congrFun (f41 38 (by decide)) 1).trans (congrFun (f19 38 (by decide)) 1)) ((f41 39 (by decide)).trans (f19 39 (by decide))) hI38
      have I64 : jI43 σ39 := jI43_fr ((congrFun (f41 43 (by decide)) 8).trans (congrFun (f19 43 (by decide)) 8)) hI43
      have I65 : jI47 σ39 := jI47_fr (congrFun (f41 47 (by decide)) 0) (f41 48 (by decide)) (f41 49 (by decide)) I25
      have I66 : jI50 σ39 := jI50_fr ((f41 52 (by decide)).trans (f19 52 (by decide))) hI50
      have I67 : jI101 σ39 := jI101_fr ((f42 4 (by decide)).trans (congrFun (f19 55 (by decide)) 4)) ((f42 5 (by decide)).trans (congrFun (f19 55 (by decide)) 5)) ((f41 56 (by decide)).trans (f19 56 (by decide))) ((f41 57 (by decide)).trans (f19 57 (by decide))) ((f41 58 (by decide)).trans (f19 58 (by decide))) ((f41 59 (by decide)).trans (f19 59 (by decide))) hI101
      have I68 : jI102 σ39 := jI102_fr ((f42 6 (by decide)).trans (congrFun (f19 55 (by decide)) 6)) ((f41 60 (by decide)).trans (f19 60 (by decide))) ((f41 61 (by decide)).trans (f19 61 (by decide))) hI102
      have I69 : jI103 σ39 := jI103_fr ((f42 9 (by decide)).trans (congrFun (f19 55 (by decide)) 9)) hI103
      have I70 : jI106 σ39 := jI106_fr ((f42 32 (by decide)).trans (congrFun (f19 55 (by decide)) 32)) ((f41 70 (by decide)).trans (f19 70 (by decide))) ((f41 71 (by decide)).trans (f19 71 (by decide))) ((f41 72 (by decide)).trans (f19 72 (by decide))) hI106
      have I71 : jI109 σ39 := jI109_fr ((f42 50 (by decide)).trans (congrFun (f19 55 (by decide)) 50)) hI109
      have I72 : jI110 σ39 := jI110_fr ((f41 86 (by decide)).trans (f19 86 (by decide))) ((f41 87 (by decide)).trans (f19 87 (by decide))) hI110
      have I73 : jI111 σ39 := jI111_fr ((f41 79 (by decide)).trans (f19 79 (by decide))) hI111
      have I74 : jI119 σ39 := jI119_fr ((f41 68 (by decide)).trans (f19 68 (by decide))) hI119
      have p75 : jKept σ39 := jKept.fr ((f41 75 (by decide)).trans (f19 75 (by decide))) ((f41 76 (by decide)).trans (f19 76 (by decide))) ((f41 77 (by decide)).trans (f19 77 (by decide))) hs_jKept
      have z76 : (σ39 2 0).toInt = (σ 2 0).toInt := (congrArg Int32.toInt (show σ39 2 0 = (σ 2 0) from ((congrFun (f41 2 (by decide)) 0).trans (congrFun (f19 2 (by decide)) 0))))
      have z77 : (σ39 55 6).toInt = (σ 55 6).toInt := (congrArg Int32.toInt (show σ39 55 6 = (σ 55 6) from ((f42 6 (by decide)).trans (congrFun (f19 55 (by decide)) 6))))
      have z78 : (σ39 2 2).toInt = (σ 2 2).toInt := (congrArg Int32.toInt (show σ39 2 2 = (σ 2 2) from ((congrFun (f41 2 (by decide)) 2).trans (congrFun (f19 2 (by decide)) 2))))
      have z79 : (σ39 55 5).toInt = (σ 55 5).toInt := (congrArg Int32.toInt (show σ39 55 5 = (σ 55 5) from ((f42 5 (by decide)).trans (congrFun (f19 55 (by decide)) 5))))
      have z80 : (σ39 2 3).toInt = (σ 2 3).toInt := (congrArg Int32.toInt (show σ39 2 3 = (σ 2 3) from ((congrFun (f41 2 (by decide)) 3).trans (congrFun (f19 2 (by decide)) 3))))
      have z81 : (σ39 55 4).toInt = (σ 55 4).toInt := (congrArg Int32.toInt (show σ39 55 4 = (σ 55 4) from ((f42 4 (by decide)).trans (congrFun (f19 55 (by decide)) 4))))
      exact ih x55 σ39 τ _ _ ls (by have h9 := tx55; omega) ⟨I56, I57, I58, I59, I60, I61, I62, I63, I64, I65, I66, I67, I68, I69, I43, I44, I70, I45, I71, I72, I73, I74, p75, p46, (by omega), (by omega), (by omega), (show jNumP (σ39 3) (σ39 56) (σ39 6) (σ39 57) (σ39 7) (σ39 58) (σ39 8) (σ39 59) (σ39 55 6).toInt (σ39 55 4).toInt by rw [show σ39 3 = σ 3 from ((f41 3 (by decide)).trans (f19 3 (by decide))), show σ39 56 = σ 56 from ((f41 56 (by decide)).trans (f19 56 (by decide))), show σ39 6 = σ 6 from ((f41 6 (by decide)).trans (f19 6 (by decide))), show σ39 57 = σ 57 from ((f41 57 (by decide)).trans (f19 57 (by decide))), show σ39 7 = σ 7 from ((f41 7 (by decide)).trans (f19 7 (by decide))), show σ39 58 = σ 58 from ((f41 58 (by decide)).trans (f19 58 (by decide))), show σ39 8 = σ 8 from ((f41 8 (by decide)).trans (f19 8 (by decide))), show σ39 59 = σ 59 from ((f41 59 (by decide)).trans (f19 59 (by decide))), show (σ39 55 6).toInt = (σ 55 6).toInt from by omega, show (σ39 55 4).toInt = (σ 55 4).toInt from by omega]; exact hr0)⟩ hP hS (lv_sub hl [0, 1, 2, 3] rfl)
    · obtain ⟨q84, k82, k83⟩ := h51
      refine lv_pop hx hb dL_law_390 rfl ?_
      refine lv_goto (tgt := 1357) hx hb dL_law_391 (by decide) ?_
      obtain ⟨x85, ex85⟩ : ∃ y : Int32, y = x0 + 6 := ⟨_, rfl⟩
      have tx85 : x85.toInt = x0.toInt + 6 := (jadd ex85 rfl jz_6 (by omega) (by omega)).trans (by omega)
      refine lv_iinc (v := x85) (lv' := [(3, .int x85), (2, .ref (ad 55)), (1, .ref (ad 0)), (0, .ref b)]) hx hb dL_law_1357 hl (k := 0) rfl (by rw [ex85]; rfl) (by decide) rfl (fun ls hl => ?_)
      refine lv_goto (tgt := 18) hx hb dL_law_1360 (by decide) ?_
      have I86 : jI2 σ39 := jI2_fr ((congrFun (f41 2 (by decide)) 0).trans (congrFun (f19 2 (by decide)) 0)) ((congrFun (f41 2 (by decide)) 1).trans (congrFun (f19 2 (by decide)) 1)) ((congrFun (f41 2 (by decide)) 2).trans (congrFun (f19 2 (by decide)) 2)) ((congrFun (f41 2 (by decide)) 3).trans (congrFun (f19 2 (by decide)) 3)) ((f41 6 (by decide)).trans (f19 6 (by decide))) hI2
      have I87 : jI9 σ39 := jI9_fr (congrFun (f41 9 (by decide)) 0) (f41 10 (by decide)) (f41 11 (by decide)) I23
      have I88 : jI12 σ39 := jI12_fr ((congrFun (f41 12 (by decide)) 0).trans (congrFun (f19 12 (by decide)) 0)) ((f41 13 (by decide)).trans (f19 13 (by decide))) hI12
      have I89 : jI16 σ39 := jI16_fr (congrFun (f41 16 (by decide)) 0) (congrFun (f41 16 (by decide)) 1) (congrFun (f41 16 (by decide)) 2) (f41 17 (by decide)) I24
      have I90 : jI18 σ39 := jI18_fr ((congrFun (f41 18 (by decide)) 0).trans (congrFun (f19 18 (by decide)) 0)) ((f41 19 (by decide)).trans (f19 19 (by decide))) hI18
      have I91 : jI22 σ39 := jI22_fr ((congrFun (f41 22 (by decide)) 0).trans (congrFun (f19 22 (by decide)) 0)) ((f41 23 (by decide)).trans (f19 23 (by decide))) hI22
      have I92 : jI31 σ39 := jI31_fr ((congrFun (f41 31 (by decide)) 8).trans (congrFun (f19 31 (by decide)) 8)) ((f41 33 (by decide)).trans (f19 33 (by decide))) ((f41 36 (by decide)).trans (f19 36 (by decide))) hI31
      have I93 : jI38 σ39 := jI38_fr ((congrFun (f41 38 (by decide)) 0).trans (congrFun (f19 38 (by decide)) 0)) ((congrFun (f41 38 (by decide)) 1).trans (congrFun (f19 38 (by decide)) 1)) ((f41 39 (by decide)).trans (f19 39 (by decide))) hI38
      have I94 : jI43 σ39 := jI43_fr ((congrFun (f41 43 (by decide)) 8).trans (congrFun (f19 43 (by decide)) 8)) hI43
      have I95 : jI47 σ39 := jI47_fr (congrFun (f41 47 (by decide)) 0) (f41 48 (by decide)) (f41 49 (by decide)) I25
      have I96 : jI50 σ39 := jI50_fr ((f41 52 (by decide)).trans (f19 52 (by decide))) hI50
      have I97 : jI101 σ39 := jI101_fr ((f42 4 (by decide)).trans (congrFun (f19 55 (by decide)) 4)) ((f42 5 (by decide)).trans (congrFun (f19 55 (by decide)) 5)) ((f41 56 (by decide)).trans (f19 56 (by decide))) ((f41 57 (by decide)).trans (f19 57 (by decide))) ((f41 58 (by decide)).trans (f19 58 (by decide))) ((f41 59 (by decide)).trans (f19 59 (by decide))) hI101
      have I98 : jI102 σ39 := jI102_fr ((f42 6 (by decide)).trans (congrFun (f19 55 (by decide)) 6)) ((f41 60 (by decide)).trans (f19 60 (by decide))) ((f41 61 (by decide)).trans (f19 61 (by decide))) hI102
      have I99 : jI103 σ39 := jI103_fr ((f42 9 (by decide)).trans (congrFun (f19 55 (by decide)) 9)) hI103
      have I100 : jI106 σ39 := jI106_fr ((f42 32 (by decide)).trans (congrFun (f19 55 (by decide)) 32)) ((f41 70 (by decide)).trans (f19 70 (by decide))) ((f41 71 (by decide)).trans (f19 71 (by decide))) ((f41 72 (by decide)).trans (f19 72 (by decide))) hI106
      have I101 : jI109 σ39 := jI109_fr ((f42 50 (by decide)).trans (congrFun (f19 55 (by decide)) 50)) hI109
      have I102 : jI110 σ39 := jI110_fr ((f41 86 (by decide)).trans (f19 86 (by decide))) ((f41 87 (by decide)).trans (f19 87 (by decide))) hI110
      have I103 : jI111 σ39 := jI111_fr ((f41 79 (by decide)).trans (f19 79 (by decide))) hI111
      have I104 : jI119 σ39 := jI119_fr ((f41 68 (by decide)).trans (f19 68 (by decide))) hI119
      have p105 : jKept σ39 := jKept.fr ((f41 75 (by decide)).trans (f19 75 (by decide))) ((f41 76 (by decide)).trans (f19 76 (by decide))) ((f41 77 (by decide)).trans (f19 77 (by decide))) hs_jKept
      have z106 : (σ39 2 0).toInt = (σ 2 0).toInt := (congrArg Int32.toInt (show σ39 2 0 = (σ 2 0) from ((congrFun (f41 2 (by decide)) 0).trans (congrFun (f19 2 (by decide)) 0))))
      have z107 : (σ39 55 6).toInt = (σ 55 6).toInt := (congrArg Int32.toInt (show σ39 55 6 = (σ 55 6) from ((f42 6 (by decide)).trans (congrFun (f19 55 (by decide)) 6))))
      have z108 : (σ39 2 2).toInt = (σ 2 2).toInt := (congrArg Int32.toInt (show σ39 2 2 = (σ 2 2) from ((congrFun (f41 2 (by decide)) 2).trans (congrFun (f19 2 (by decide)) 2))))
      have z109 : (σ39 55 5).toInt = (σ 55 5).toInt := (congrArg Int32.toInt (show σ39 55 5 = (σ 55 5) from ((f42 5 (by decide)).trans (congrFun (f19 55 (by decide)) 5))))
      have z110 : (σ39 2 3).toInt = (σ 2 3).toInt := (congrArg Int32.toInt (show σ39 2 3 = (σ 2 3) from ((congrFun (f41 2 (by decide)) 3).trans (congrFun (f19 2 (by decide)) 3))))
      have z111 : (σ39 55 4).toInt = (σ 55 4).toInt := (congrArg Int32.toInt (show σ39 55 4 = (σ 55 4) from ((f42 4 (by decide)).trans (congrFun (f19 55 (by decide)) 4))))
      exact ih x85 σ39 τ _ _ ls (by have h9 := tx85; omega) ⟨I86, I87, I88, I89, I90, I91, I92, I93, I94, I95, I96, I97, I98, I99, I43, I44, I100, I45, I101, I102, I103, I104, p105, p46, (by omega), (by omega), (by omega), (show jNumP (σ39 3) (σ39 56) (σ39 6) (σ39 57) (σ39 7) (σ39 58) (σ39 8) (σ39 59) (σ39 55 6).toInt (σ39 55 4).toInt by rw [show σ39 3 = σ 3 from ((f41 3 (by decide)).trans (f19 3 (by decide))), show σ39 56 = σ 56 from ((f41 56 (by decide)).trans (f19 56 (by decide))), show σ39 6 = σ 6 from ((f41 6 (by decide)).trans (f19 6 (by decide))), show σ39 57 = σ 57 from ((f41 57 (by decide)).trans (f19 57 (by decide))), show σ39 7 = σ 7 from ((f41 7 (by decide)).trans (f19 7 (by decide))), show σ39 58 = σ 58 from ((f41 58 (by decide)).trans (f19 58 (by decide))), show σ39 8 = σ 8 from ((f41 8 (by decide)).trans (f19 8 (by decide))), show σ39 59 = σ 59 from ((f41 59 (by decide)).trans (f19 59 (by decide))), show (σ39 55 6).toInt = (σ 55 6).toInt from by omega, show (σ39 55 4).toInt = (σ 55 4).toInt from by omega]; exact hr0)⟩ hP hS (lv_sub hl [0, 1, 2, 3] rfl)
  · obtain ⟨q114, k112, k113⟩ := h30
    refine lv_pop hx hb dL_law_385 rfl ?_
    refine lv_aload_n hx hb dL_law_386 rfl (lv_at hl 1 rfl) ?_
    have I115 : jI104 σ17 := jI104_fr (congrFun (f19 55 (by decide)) 10) (congrFun (f19 55 (by decide)) 12) (congrFun (f19 55 (by decide)) 13) (f19 62 (by decide)) (f19 67 (by decide)) hI104
    have I116 : jI105 σ17 := jI105_fr (congrFun (f19 55 (by decide)) 15) (f19 65 (by decide)) hI105
    have I117 : jI107 σ17 := jI107_fr (congrFun (f19 55 (by decide)) 12) (congrFun (f19 55 (by decide)) 47) (f19 80 (by decide)) hI107
    have p118 : jBook σ17 := jBook.fr (congrFun (f19 55 (by decide)) 47) (congrFun (f19 55 (by decide)) 10) (f19 81 (by decide)) hs_jBook
    have z119 : (σ17 55 47).toInt = (σ 55 47).toInt := (congrArg Int32.toInt (show σ17 55 47 = (σ 55 47) from (congrFun (f19 55 (by decide)) 47)))
    refine jcallV (As := []) (rest := []) ⟨hx, hb, hml, hown, hts⟩ hK hP hA hS hZ (c_X12_order l D cI cL ad zz hJ σ17 τ I115 I116 I117 p118) cw_RL_40 (jc_55 cI cL ad σ17 τ) rfl ⟨Nat.le_of_ble_eq_true rfl, Nat.le_of_ble_eq_true rfl⟩ rfl rfl rfl hl.1 rfl (Nat.le_of_ble_eq_true rfl) dL_law_387 ⟨Nat.le_of_ble_eq_true rfl, Nat.le_of_ble_eq_true rfl⟩ (fun r121 σ120 τ120 H locs h120 hP hS => ?_)
    obtain ⟨rfl, f122, f123, I124, I125, I126, p127, w128, h120⟩ := h120
    obtain ⟨k130, h120⟩ := h120
    rcases h120 with h131 | h132
    · obtain ⟨q135, k133, k134⟩ := h131
      refine lv_pop hx hb dL_law_390 rfl ?_
      refine lv_goto (tgt := 1357) hx hb dL_law_391 (by decide) ?_
      obtain ⟨x136, ex136⟩ : ∃ y : Int32, y = x0 + 6 := ⟨_, rfl⟩
      have tx136 : x136.toInt = x0.toInt + 6 := (jadd ex136 rfl jz_6 (by omega) (by omega)).trans (by omega)
      refine lv_iinc (v := x136) (lv' := [(3, .int x136), (2, .ref (ad 55)), (1, .ref (ad 0)), (0, .ref b)]) hx hb dL_law_1357 hl (k := 0) rfl (by rw [ex136]; rfl) (by decide) rfl (fun ls hl => ?_)
      refine lv_goto (tgt := 18) hx hb dL_law_1360 (by decide) ?_
      have I137 : jI2 σ120 := jI2_fr ((congrFun (f122 2 (by decide)) 0).trans (congrFun (f19 2 (by decide)) 0)) ((congrFun (f122 2 (by decide)) 1).trans (congrFun (f19 2 (by decide)) 1)) ((congrFun (f122 2 (by decide)) 2).trans (congrFun (f19 2 (by decide)) 2)) ((congrFun (f122 2 (by decide)) 3).trans (congrFun (f19 2 (by decide)) 3)) ((f122 6 (by decide)).trans (f19 6 (by decide))) hI2
      have I138 : jI9 σ120 := jI9_fr (congrFun (f122 9 (by decide)) 0) (f122 10 (by decide)) (f122 11 (by decide)) I23
      have I139 : jI12 σ120 := jI12_fr ((congrFun (f122 12 (by decide)) 0).trans (congrFun (f19 12 (by decide)) 0)) ((f122 13 (by decide)).trans (f19 13 (by decide))) hI12
      have I140 : jI16 σ120 := jI16_fr (congrFun (f122 16 (by decide)) 0) (congrFun (f122 16 (by decide)) 1) (congrFun (f122 16 (by decide)) 2) (f122 17 (by decide)) I24
      have I141 : jI18 σ120 := jI18_fr ((congrFun (f122 18 (by decide)) 0).trans (congrFun (f19 18 (by decide)) 0)) ((f122 19 (by decide)).trans (f19 19 (by decide))) hI18
      have I142 : jI22 σ120 := jI22_fr ((congrFun (f122 22 (by decide)) 0).trans (congrFun (f19 22 (by decide)) 0)) ((f122 23 (by decide)).trans (f19 23 (by decide))) hI22
      have I143 : jI31 σ120 := jI31_fr ((congrFun (f122 31 (by decide)) 8).trans (congrFun (f19 31 (by decide)) 8)) ((f122 33 (by decide)).trans (f19 33 (by decide))) ((f122 36 (by decide)).trans (f19 36 (by decide))) hI31
      have I144 : jI38 σ120 := jI38_fr ((congrFun (f122 38 (by decide)) 0).trans (congrFun (f19 38 (by decide)) 0)) ((congrFun (f122 38 (by decide)) 1).trans (congrFun (f19 38 (by decide)) 1)) ((f122 39 (by decide)).trans (f19 39 (by decide))) hI38
      have I145 : jI43 σ120 := jI43_fr ((congrFun (f122 43 (by decide)) 8).trans (congrFun (f19 43 (by decide)) 8)) hI43
      have I146 : jI47 σ120 := jI47_fr (congrFun (f122 47 (by decide)) 0) (f122 48 (by decide)) (f122 49 (by decide)) I25
      have I147 : jI50 σ120 := jI50_fr ((f122 52 (by decide)).trans (f19 52 (by decide))) hI50
      have I148 : jI101 σ120 := jI101_fr ((f123 4 (by decide)).trans (congrFun (f19 55 (by decide)) 4)) ((f123 5 (by decide)).trans (congrFun (f19 55 (by decide)) 5)) ((f122 56 (by decide)).trans (f19 56 (by decide))) ((f122 57 (by decide)).trans (f19 57 (by decide))) ((f122 58 (by decide)).trans (f19 58 (by decide))) ((f122 59 (by decide)).trans (f19 59 (by decide))) hI101
      have I149 : jI102 σ120 := jI102_fr ((f123 6 (by decide)).trans (congrFun (f19 55 (by decide)) 6)) ((f122 60 (by decide)).trans (f19 60 (by decide))) ((f122 61 (by decide)).trans (f19 61 (by decide))) hI102
      have I150 : jI103 σ120 := jI103_fr ((f123 9 (by decide)).trans (congrFun (f19 55 (by decide)) 9)) hI103
      have I151 : jI106 σ120 := jI106_fr ((f123 32 (by decide)).trans (congrFun (f19 55 (by decide)) 32)) ((f122 70 (by decide)).trans (f19 70 (by decide))) ((f122 71 (by decide)).trans (f19 71 (by decide))) ((f122 72 (by decide)).trans (f19 72 (by decide))) hI106
      have I152 : jI109 σ120 := jI109_fr ((f123 50 (by decide)).trans (congrFun (f19 55 (by decide)) 50)) hI109
      have I153 : jI110 σ120 := jI110_fr ((f122 86 (by decide)).trans (f19 86 (by decide))) ((f122 87 (by decide)).trans (f19 87 (by decide))) hI110
      have I154 : jI111 σ120 := jI111_fr ((f122 79 (by decide)).trans (f19 79 (by decide))) hI111
      have I155 : jI119 σ120 := jI119_fr ((f122 68 (by decide)).trans (f19 68 (by decide))) hI119
      have p156 : jKept σ120 := jKept.fr ((f122 75 (by decide)).trans (f19 75 (by decide))) ((f122 76 (by decide)).trans (f19 76 (by decide))) ((f122 77 (by decide)).trans (f19 77 (by decide))) hs_jKept
      have z157 : (σ120 2 0).toInt = (σ 2 0).toInt := (congrArg Int32.toInt (show σ120 2 0 = (σ 2 0) from ((congrFun (f122 2 (by decide)) 0).trans (congrFun (f19 2 (by decide)) 0))))
      have z158 : (σ120 55 6).toInt = (σ 55 6).toInt := (congrArg Int32.toInt (show σ120 55 6 = (σ 55 6) from ((f123 6 (by decide)).trans (congrFun (f19 55 (by decide)) 6))))
      have z159 : (σ120 2 2).toInt = (σ 2 2).toInt := (congrArg Int32.toInt (show σ120 2 2 = (σ 2 2) from ((congrFun (f122 2 (by decide)) 2).trans (congrFun (f19 2 (by decide)) 2))))
      have z160 : (σ120 55 5).toInt = (σ 55 5).toInt := (congrArg Int32.toInt (show σ120 55 5 = (σ 55 5) from ((f123 5 (by decide)).trans (congrFun (f19 55 (by decide)) 5))))
      have z161 : (σ120 2 3).toInt = (σ 2 3).toInt := (congrArg Int32.toInt (show σ120 2 3 = (σ 2 3) from ((congrFun (f122 2 (by decide)) 3).trans (congrFun (f19 2 (by decide)) 3))))
      have z162 : (σ120 55 4).toInt = (σ 55 4).toInt := (congrArg Int32.toInt (show σ120 55 4 = (σ 55 4) from ((f123 4 (by decide)).trans (congrFun (f19 55 (by decide)) 4))))
      exact ih x136 σ120 τ _ _ ls (by have h9 := tx136; omega) ⟨I137, I138, I139, I140, I141, I142, I143, I144, I145, I146, I147, I148, I149, I150, I124, I125, I151, I126, I152, I153, I154, I155, p156, p127, (by omega), (by omega), (by omega), (show jNumP (σ120 3) (σ120 56) (σ120 6) (σ120 57) (σ120 7) (σ120 58) (σ120 8) (σ120 59) (σ120 55 6).toInt (σ120 55 4).toInt by rw [show σ120 3 = σ 3 from ((f122 3 (by decide)).trans (f19 3 (by decide))), show σ120 56 = σ 56 from ((f122 56 (by decide)).trans (f19 56 (by decide))), show σ120 6 = σ 6 from ((f122 6 (by decide)).trans (f19 6 (by decide))), show σ120 57 = σ 57 from ((f122 57 (by decide)).trans (f19 57 (by decide))), show σ120 7 = σ 7 from ((f122 7 (by decide)).trans (f19 7 (by decide))), show σ120 58 = σ 58 from ((f122 58 (by decide)).trans (f19 58 (by decide))), show σ120 8 = σ 8 from ((f122 8 (by decide)).trans (f19 8 (by decide))), show σ120 59 = σ 59 from ((f122 59 (by decide)).trans (f19 59 (by decide))), show (σ120 55 6).toInt = (σ 55 6).toInt from by omega, show (σ120 55 4).toInt = (σ 55 4).toInt from by omega]; exact hr0)⟩ hP hS (lv_sub hl [0, 1, 2, 3] rfl)
    · obtain ⟨q165, k163, k164⟩ := h132
      refine lv_pop hx hb dL_law_390 rfl ?_
      refine lv_goto (tgt := 1357) hx hb dL_law_391 (by decide) ?_
      obtain ⟨x166, ex166⟩ : ∃ y : Int32, y = x0 + 6 := ⟨_, rfl⟩
      have tx166 : x166.toInt = x0.toInt + 6 := (jadd ex166 rfl jz_6 (by omega) (by omega)).trans (by omega)
      refine lv_iinc (v := x166) (lv' := [(3, .int x166), (2, .ref (ad 55)), (1, .ref (ad 0)), (0, .ref b)]) hx hb dL_law_1357 hl (k := 0) rfl (by rw [ex166]; rfl) (by decide) rfl (fun ls hl => ?_)
      refine lv_goto (tgt := 18) hx hb dL_law_1360 (by decide) ?_
      have I167 : jI2 σ120 := jI2_fr ((congrFun (f122 2 (by decide)) 0).trans (congrFun (f19 2 (by decide)) 0)) ((congrFun (f122 2 (by decide)) 1).trans (congrFun (f19 2 (by decide)) 1)) ((congrFun (f122 2 (by decide)) 2).trans (congrFun (f19 2 (by decide)) 2)) ((congrFun (f122 2 (by decide)) 3).trans (congrFun (f19 2 (by decide)) 3)) ((f122 6 (by decide)).trans (f19 6 (by decide))) hI2
      have I168 : jI9 σ120 := jI9_fr (congrFun (f122 9 (by decide)) 0) (f122 10 (by decide)) (f122 11 (by decide)) I23
      have I169 : jI12 σ120 := jI12_fr ((congrFun (f122 12 (by decide)) 0).trans (congrFun (f19 12 (by decide)) 0)) ((f122 13 (by decide)).trans (f19 13 (by decide))) hI12
      have I170 : jI16 σ120 := jI16_fr (congrFun (f122 16 (by decide)) 0) (congrFun (f122 16 (by decide)) 1) (congrFun (f122 16 (by decide)) 2) (f122 17 (by decide)) I24
      have I171 : jI18 σ120 := jI18_fr ((congrFun (f122 18 (by decide)) 0).trans (congrFun (f19 18 (by decide)) 0)) ((f122 19 (by decide)).trans (f19 19 (by decide))) hI18
      have I172 : jI22 σ120 := jI22_fr ((congrFun (f122 22 (by decide)) 0).trans (congrFun (f19 22 (by decide)) 0)) ((f122 23 (by decide)).trans (f19 23 (by decide))) hI22
      have I173 : jI31 σ120 := jI31_fr ((congrFun (f122 31 (by decide)) 8).trans (congrFun (f19 31 (by decide)) 8)) ((f122 33 (by decide)).trans (f19 33 (by decide))) ((f122 36 (by decide)).trans (f19 36 (by decide))) hI31
      have I174 : jI38 σ120 := jI38_fr ((congrFun (f122 38 (by decide)) 0).trans (congrFun (f19 38 (by decide)) 0)) ((congrFun (f122 38 (by decide)) 1).trans (congrFun (f19 38 (by decide)) 1)) ((f122 39 (by decide)).trans (f19 39 (by decide))) hI38
      have I175 : jI43 σ120 := jI43_fr ((congrFun (f122 43 (by decide)) 8).trans (congrFun (f19 43 (by decide)) 8)) hI43
      have I176 : jI47 σ120 := jI47_fr (congrFun (f122 47 (by decide)) 0) (f122 48 (by decide)) (f122 49 (by decide)) I25
      have I177 : jI50 σ120 := jI50_fr ((f122 52 (by decide)).trans (f19 52 (by decide))) hI50
      have I178 : jI101 σ120 := jI101_fr ((f123 4 (by decide)).trans (congrFun (f19 55 (by decide)) 4)) ((f123 5 (by decide)).trans (congrFun (f19 55 (by decide)) 5)) ((f122 56 (by decide)).trans (f19 56 (by decide))) ((f122 57 (by decide)).trans (f19 57 (by decide))) ((f122 58 (by decide)).trans (f19 58 (by decide))) ((f122 59 (by decide)).trans (f19 59 (by decide))) hI101
      have I179 : jI102 σ120 := jI102_fr ((f123 6 (by decide)).trans (congrFun (f19 55 (by decide)) 6)) ((f122 60 (by decide)).trans (f19 60 (by decide))) ((f122 61 (by decide)).trans (f19 61 (by decide))) hI102
      have I180 : jI103 σ120 := jI103_fr ((f123 9 (by decide)).trans (congrFun (f19 55 (by decide)) 9)) hI103
      have I181 : jI106 σ120 := jI106_fr ((f123 32 (by decide)).trans (congrFun (f19 55 (by decide)) 32)) ((f122 70 (by decide)).trans (f19 70 (by decide))) ((f122 71 (by decide)).trans (f19 71 (by decide))) ((f122 72 (by decide)).trans (f19 72 (by decide))) hI106
      have I182 : jI109 σ120 := jI109_fr ((f123 50 (by decide)).trans (congrFun (f19 55 (by decide)) 50)) hI109
      have I183 : jI110 σ120 := jI110_fr ((f122 86 (by decide)).trans (f19 86 (by decide))) ((f122 87 (by decide)).trans (f19 87 (by decide))) hI110
      have I184 : jI111 σ120 := jI111_fr ((f122 79 (by decide)).trans (f19 79 (by decide))) hI111
      have I185 : jI119 σ120 := jI119_fr ((f122 68 (by decide)).trans (f19 68 (by decide))) hI119
      have p186 : jKept σ120 := jKept.fr ((f122 75 (by decide)).trans (f19 75 (by decide))) ((f122 76 (by decide)).trans (f19 76 (by decide))) ((f122 77 (by decide)).trans (f19 77 (by decide))) hs_jKept
      have z187 : (σ120 2 0).toInt = (σ 2 0).toInt := (congrArg Int32.toInt (show σ120 2 0 = (σ 2 0) from ((congrFun (f122 2 (by decide)) 0).trans (congrFun (f19 2 (by decide)) 0))))
      have z188 : (σ120 55 6).toInt = (σ 55 6).toInt := (congrArg Int32.toInt (show σ120 55 6 = (σ 55 6) from ((f123 6 (by decide)).trans (congrFun (f19 55 (by decide)) 6))))
      have z189 : (σ120 2 2).toInt = (σ 2 2).toInt := (congrArg Int32.toInt (show σ120 2 2 = (σ 2 2) from ((congrFun (f122 2 (by decide)) 2).trans (congrFun (f19 2 (by decide)) 2))))
      have z190 : (σ120 55 5).toInt = (σ 55 5).toInt := (congrArg Int32.toInt (show σ120 55 5 = (σ 55 5) from ((f123 5 (by decide)).trans (congrFun (f19 55 (by decide)) 5))))
      have z191 : (σ120 2 3).toInt = (σ 2 3).toInt := (congrArg Int32.toInt (show σ120 2 3 = (σ 2 3) from ((congrFun (f122 2 (by decide)) 3).trans (congrFun (f19 2 (by decide)) 3))))
      have z192 : (σ120 55 4).toInt = (σ 55 4).toInt := (congrArg Int32.toInt (show σ120 55 4 = (σ 55 4) from ((f123 4 (by decide)).trans (congrFun (f19 55 (by decide)) 4))))
      exact ih x166 σ120 τ _ _ ls (by have h9 := tx166; omega) ⟨I167, I168, I169, I170, I171, I172, I173, I174, I175, I176, I177, I178, I179, I180, I124, I125, I181, I126, I182, I183, I184, I185, p186, p127, (by omega), (by omega), (by omega), (show jNumP (σ120 3) (σ120 56) (σ120 6) (σ120 57) (σ120 7) (σ120 58) (σ120 8) (σ120 59) (σ120 55 6).toInt (σ120 55 4).toInt by rw [show σ120 3 = σ 3 from ((f122 3 (by decide)).trans (f19 3 (by decide))), show σ120 56 = σ 56 from ((f122 56 (by decide)).trans (f19 56 (by decide))), show σ120 6 = σ 6 from ((f122 6 (by decide)).trans (f19 6 (by decide))), show σ120 57 = σ 57 from ((f122 57 (by decide)).trans (f19 57 (by decide))), show σ120 7 = σ 7 from ((f122 7 (by decide)).trans (f19 7 (by decide))), show σ120 58 = σ 58 from ((f122 58 (by decide)).trans (f19 58 (by decide))), show σ120 8 = σ 8 from ((f122 8 (by decide)).trans (f19 8 (by decide))), show σ120 59 = σ 59 from ((f122 59 (by decide)).trans (f19 59 (by decide))), show (σ120 55 6).toInt = (σ 55 6).toInt from by omega, show (σ120 55 4).toInt = (σ 55 4).toInt from by omega]; exact hr0)⟩ hP hS (lv_sub hl [0, 1, 2, 3] rfl)
set_option maxHeartbeats 4000000 in
set_option maxRecDepth 100000 in
theorem law_case_6 {p : Program} {e : Env} {s : State} {m : MethodId} {below : List Frame} {meth : Method} {c : Code} (l : Launch) {b L : Nat} {xs : Nat → Int32} {D : va_G} {cI cL : ClassId} {ad zz : Nat → Nat} (C0 : lw_At p s m meth c b L xs) (hJ : jD ad) (hA : ∀ q, jA ad q → s.heap.size ≤ q) (hK : jK D cI cL s) (hZ : jZ zz (fun q : Nat => s.heap.size ≤ q) s s.heap) {x0 : Int32} (hx0 : 0 ≤ x0.toInt) (hxL : x0.toInt + 6 ≤ (L : Int)) (hL : L ≤ 384) {σ : Nat → Nat → Int32} {τ : Nat → Nat → Int64} {H : Heap} {locs : List Loc} (hS : va_S (fun q : Nat => s.heap.size ≤ q) s.heap H locs) {ls : Array Slot} (hAll : jAll σ τ) (hP : jH D cI cL ad σ τ H) (hl : lv_has ls 4 [(3, .int x0), (2, .ref (ad 55)), (1, .ref (ad 0)), (0, .ref b)]) (ih : ∀ (x1 : Int32) (σ : Nat → Nat → Int32) (τ : Nat → Nat → Int64) (H : Heap) (locs : List Loc) (ls : Array Slot), x1.toInt = x0.toInt + 6 → jAll σ τ → jH D cI cL ad σ τ H → va_S (fun q : Nat => s.heap.size ≤ q) s.heap H locs → lv_has ls 4 [(3, .int x1), (2, .ref (ad 55)), (1, .ref (ad 0)), (0, .ref b)] → W p l e room_1 s m #[Value.ref b] below meth c H locs 90 348600 (lw_Z below #[Value.ref b] s) (F0 m 18 ls [])) : W p l e room_1 s m #[Value.ref b] below meth c H locs 90 348600 (lw_Z below #[Value.ref b] s) (F0 m 394 ls []) := by
  obtain ⟨hx, hb, hr, hml, hown, hts0, hX, hbl, hlocks, hgv⟩ := C0
  have hts : ∀ w ∈ wsL_law, w.before #[Value.ref b] s = true := fun w h => hts0 w (wsL_law_in w h)
  have hbA : ¬ (fun q : Nat => s.heap.size ≤ q) b := Nat.not_le.mpr hbl
  have hown : s.vm.findClass RL = some m.cls := hown
  obtain ⟨hI2, hI9, hI12, hI16, hI18, hI22, hI31, hI38, hI43, hI47, hI50, hI101, hI102, hI103, hI104, hI105, hI106, hI107, hI109, hI110, hI111, hI119, hs_jKept, hs_jBook, ht0, ht1, ht2, hr0⟩ := hAll
  have hL9 : (L : Int) ≤ 384 := by omega
  obtain ⟨i1, i2, i3, i4, i5, w6⟩ : (0 ≤ (σ 2 0).toInt ∧ (σ 2 0).toInt ≤ 4) ∧ (0 ≤ (σ 2 1).toInt ∧ (σ 2 1).toInt ≤ 3) ∧ (0 ≤ (σ 2 2).toInt) ∧ (0 ≤ (σ 2 3).toInt) ∧ ((σ 2 2).toInt + (σ 2 3).toInt ≤ 40) ∧ (∀ k : Nat, k < 40 → 0 ≤ (σ 6 k).toInt ∧ (σ 6 k).toInt ≤ 67) := id hI2
  obtain ⟨i7, i8, i9, w10, w11, w12, w13⟩ : (0 ≤ (σ 55 5).toInt) ∧ ((σ 55 5).toInt ≤ (σ 55 4).toInt) ∧ ((σ 55 4).toInt ≤ 40) ∧ (∀ k : Nat, k < 68 → (-200) ≤ (σ 56 k).toInt ∧ (σ 56 k).toInt ≤ 500) ∧ (∀ k : Nat, k < 40 → 0 ≤ (σ 57 k).toInt ∧ (σ 57 k).toInt ≤ 67) ∧ (∀ k : Nat, k < 40 → (-200) ≤ (σ 58 k).toInt ∧ (σ 58 k).toInt ≤ 500) ∧ (∀ k : Nat, k < 40 → (-200) ≤ (σ 59 k).toInt ∧ (σ 59 k).toInt ≤ 500) := id hI101
  obtain ⟨i14, w15, w16⟩ : (0 ≤ (σ 55 6).toInt ∧ (σ 55 6).toInt ≤ 4) ∧ (∀ k : Nat, k < 4 → 0 ≤ (σ 60 k).toInt ∧ (σ 60 k).toInt ≤ 50) ∧ (∀ k : Nat, k < 4 → 0 ≤ (σ 61 k).toInt ∧ (σ 61 k).toInt ≤ 20) := id hI102
  refine lv_aload_n hx hb dL_law_394 rfl (lv_at hl 2 rfl) ?_
  refine lv_aload_n hx hb dL_law_395 rfl (lv_at hl 3 rfl) ?_
  refine lv_iload_n hx hb dL_law_396 rfl (lv_at hl 0 rfl) ?_
  refine lv_iconst (v := 1) hx hb dL_law_397 (by decide) ?_
  have g17 := jrg (rfl : x0.toInt = x0.toInt)
  refine lv_iadd hx hb dL_law_398 ?_
  refine lv_topi (fun x18 ex18 => ?_)
  have tx18 : x18.toInt = x0.toInt + 1 := (jadd ex18 rfl jz_1 (by omega) (by omega)).trans (by omega)
  refine va_sld hx hb hX hbl hbA hS (jin tx18 (by omega) (by omega)) dL_law_399 ?_
  have g19 := jrg (rfl : (xs x18.toNatClampNeg).toInt = (xs x18.toNatClampNeg).toInt)
  refine jcallV (As := [.int (xs x18.toNatClampNeg)]) (rest := []) ⟨hx, hb, hml, hown, hts⟩ hK hP hA hS hZ (c_X11_text l D cI cL ad zz hJ σ τ (xs x18.toNatClampNeg) ((xs x18.toNatClampNeg).toInt) rfl hI9 hI12 hI18 hI22) cw_RL_41 (jc_0 cI cL ad σ τ) rfl ⟨Nat.le_of_ble_eq_true rfl, Nat.le_of_ble_eq_true rfl⟩ rfl rfl rfl hl.1 rfl (Nat.le_of_ble_eq_true rfl) dL_law_400 ⟨Nat.le_of_ble_eq_true rfl, Nat.le_of_ble_eq_true rfl⟩ (fun r21 σ20 τ20 H locs h20 hP hS => ?_)
  obtain ⟨rfl, f22, f23, f24, f25, f26, f27, I28, I29, I30, I31, h20⟩ := h20
  obtain ⟨k33, h20⟩ := h20
  refine lv_pop hx hb dL_law_403 rfl ?_
  refine lv_aload_n hx hb dL_law_404 rfl (lv_at hl 1 rfl) ?_
  refine lv_aload_n hx hb dL_law_405 rfl (lv_at hl 3 rfl) ?_
  refine lv_iload_n hx hb dL_law_406 rfl (lv_at hl 0 rfl) ?_
  refine lv_iconst (v := 1) hx hb dL_law_407 (by decide) ?_
  refine lv_iadd hx hb dL_law_408 ?_
  refine jtopr ex18.symm ?_
  refine va_sld hx hb hX hbl hbA hS (jin tx18 (by omega) (by omega)) dL_law_409 ?_
  have I34 : jI105 σ20 := jI105_fr (congrFun (f22 55 (by decide)) 15) (f22 65 (by decide)) hI105
  have z35 : (σ20 55 15).toInt = (σ 55 15).toInt := (congrArg Int32.toInt (show σ20 55 15 = (σ 55 15) from (congrFun (f22 55 (by decide)) 15)))
  refine jcallV (As := [.int (xs x18.toNatClampNeg)]) (rest := []) ⟨hx, hb, hml, hown, hts⟩ hK hP hA hS hZ (c_X12_text l D cI cL ad zz hJ σ20 τ (xs x18.toNatClampNeg) ((xs x18.toNatClampNeg).toInt) rfl I34) cw_RL_44 (jc_55 cI cL ad σ20 τ) rfl ⟨Nat.le_of_ble_eq_true rfl, Nat.le_of_ble_eq_true rfl⟩ rfl rfl rfl hl.1 rfl (Nat.le_of_ble_eq_true rfl) dL_law_410 ⟨Nat.le_of_ble_eq_true rfl, Nat.le_of_ble_eq_true rfl⟩ (fun r37 σ36 τ36 H locs h36 hP hS => ?_)
  obtain ⟨rfl, f38, f39, I40, h36⟩ := h36
  obtain ⟨k42, h36⟩ := h36
  refine lv_pop hx hb dL_law_413 rfl ?_
  refine lv_goto (tgt := 1357) hx hb dL_law_414 (by decide) ?_
  obtain ⟨x43, ex43⟩ : ∃ y : Int32, y = x0 + 6 := ⟨_, rfl⟩
  have tx43 : x43.toInt = x0.toInt + 6 := (jadd ex43 rfl jz_6 (by omega) (by omega)).trans (by omega)
  refine lv_iinc (v := x43) (lv' := [(3, .int x43), (2, .ref (ad 55)), (1, .ref (ad 0)), (0, .ref b)]) hx hb dL_law_1357 hl (k := 0) rfl (by rw [ex43]; rfl) (by decide) rfl (fun ls hl => ?_)
  refine lv_goto (tgt := 18) hx hb dL_law_1360 (by decide) ?_
  have I44 : jI2 σ36 := jI2_fr ((congrFun (f38 2 (by decide)) 0).trans (congrFun (f22 2 (by decide)) 0)) ((congrFun (f38 2 (by decide)) 1).trans (congrFun (f22 2 (by decide)) 1)) ((congrFun (f38 2 (by decide)) 2).trans (congrFun (f22 2 (by decide)) 2)) ((congrFun (f38 2 (by decide)) 3).trans (congrFun (f22 2 (by decide)) 3)) ((f38 6 (by decide)).trans (f22 6 (by decide))) hI2
  have I45 : jI9 σ36 := jI9_fr (congrFun (f38 9 (by decide)) 0) (f38 10 (by decide)) (f38 11 (by decide)) I28
  have I46 : jI12 σ36 := jI12_fr (congrFun (f38 12 (by decide)) 0) (f38 13 (by decide)) I29
  have I47 : jI16 σ36 := jI16_fr ((congrFun (f38 16 (by decide)) 0).trans (congrFun (f22 16 (by decide)) 0)) ((congrFun (f38 16 (by decide)) 1).trans (congrFun (f22 16 (by decide)) 1)) ((congrFun (f38 16 (by decide)) 2).trans (congrFun (f22 16 (by decide)) 2)) ((f38 17 (by decide)).trans (f22 17 (by decide))) hI16
  have I48 : jI18 σ36 := jI18_fr (congrFun (f38 18 (by decide)) 0) (f38 19 (by decide)) I30
  have I49 : jI22 σ36 := jI22_fr (congrFun (f38 22 (by decide)) 0) (f38 23 (by decide)) I31
  have I50 : jI31 σ36 := jI31_fr ((congrFun (f38 31 (by decide)) 8).trans (congrFun (f22 31 (by decide)) 8)) ((f38 33 (by decide)).trans (f22 33 (by decide))) ((f38 36 (by decide)).trans (f22 36 (by decide))) hI31
  have I51 : jI38 σ36 := jI38_fr ((congrFun (f38 38 (by decide)) 0).trans (congrFun (f22 38 (by decide)) 0)) ((congrFun (f38 38 (by decide)) 1).trans (congrFun (f22 38 (by decide)) 1)) ((f38 39 (by decide)).trans (f22 39 (by decide))) hI38
  have I52 : jI43 σ36 := jI43_fr ((congrFun (f38 43 (by decide)) 8).trans (congrFun (f22 43 (by decide)) 8)) hI43
  have I53 : jI47 σ36 := jI47_fr ((congrFun (f38 47 (by decide)) 0).trans (congrFun (f22 47 (by decide)) 0)) ((f38 48 (by decide)).trans (f22 48 (by decide))) ((f38 49 (by decide)).trans (f22 49 (by decide))) hI47
  have I54 : jI50 σ36 := jI50_fr ((f38 52 (by decide)).trans (f22 52 (by decide))) hI50
  have I55 : jI101 σ36 := jI101_fr ((f39 4 (by decide)).trans (congrFun (f22 55 (by decide)) 4)) ((f39 5 (by decide)).trans (congrFun (f22 55 (by decide)) 5)) ((f38 56 (by decide)).trans (f22 56 (by decide))) ((f38 57 (by decide)).trans (f22 57 (by decide))) ((f38 58 (by decide)).trans (f22 58 (by decide))) ((f38 59 (by decide)).trans (f22 59 (by decide))) hI101
  have I56 : jI102 σ36 := jI102_fr ((f39 6 (by decide)).trans (congrFun (f22 55 (by decide)) 6)) ((f38 60 (by decide)).trans (f22 60 (by decide))) ((f38 61 (by decide)).trans (f22 61 (by decide))) hI102
  have I57 : jI103 σ36 := jI103_fr ((f39 9 (by decide)).trans (congrFun (f22 55 (by decide)) 9)) hI103
  have I58 : jI104 σ36 := jI104_fr ((f39 10 (by decide)).trans (congrFun (f22 55 (by decide)) 10)) ((f39 12 (by decide)).trans (congrFun (f22 55 (by decide)) 12)) ((f39 13 (by decide)).trans (congrFun (f22 55 (by decide)) 13)) ((f38 62 (by decide)).trans (f22 62 (by decide))) ((f38 67 (by decide)).trans (f22 67 (by decide))) hI104
  have I59 : jI106 σ36 := jI106_fr ((f39 32 (by decide)).trans (congrFun (f22 55 (by decide)) 32)) ((f38 70 (by decide)).trans (f22 70 (by decide))) ((f38 71 (by decide)).trans (f22 71 (by decide))) ((f38 72 (by decide)).trans (f22 72 (by decide))) hI106
  have I60 : jI107 σ36 := jI107_fr ((f39 12 (by decide)).trans (congrFun (f22 55 (by decide)) 12)) ((f39 47 (by decide)).trans (congrFun (f22 55 (by decide)) 47)) ((f38 80 (by decide)).trans (f22 80 (by decide))) hI107
  have I61 : jI109 σ36 := jI109_fr ((f39 50 (by decide)).trans (congrFun (f22 55 (by decide)) 50)) hI109
  have I62 : jI110 σ36 := jI110_fr ((f38 86 (by decide)).trans (f22 86 (by decide))) ((f38 87 (by decide)).trans (f22 87 (by decide))) hI110
  have I63 : jI111 σ36 := jI111_fr ((f38 79 (by decide)).trans (f22 79 (by decide))) hI111
  have I64 : jI119 σ36 := jI119_fr ((f38 68 (by decide)).trans (f22 68 (by decide))) hI119
  have p65 : jKept σ36 := jKept.fr ((f38 75 (by decide)).trans (f22 75 (by decide))) ((f38 76 (by decide)).trans (f22 76 (by decide))) ((f38 77 (by decide)).trans (f22 77 (by decide))) hs_jKept
  have p66 : jBook σ36 := jBook.fr ((f39 47 (by decide)).trans (congrFun (f22 55 (by decide)) 47)) ((f39 10 (by decide)).trans (congrFun (f22 55 (by decide)) 10)) ((f38 81 (by decide)).trans (f22 81 (by decide))) hs_jBook
  have z67 : (σ36 2 0).toInt = (σ 2 0).toInt := (congrArg Int32.toInt (show σ36 2 0 = (σ 2 0) from ((congrFun (f38 2 (by decide)) 0).trans (congrFun (f22 2 (by decide)) 0))))
  have z68 : (σ36 55 6).toInt = (σ 55 6).toInt := (congrArg Int32.toInt (show σ36 55 6 = (σ 55 6) from ((f39 6 (by decide)).trans (congrFun (f22 55 (by decide)) 6))))
  have z69 : (σ36 2 2).toInt = (σ 2 2).toInt := (congrArg Int32.toInt (show σ36 2 2 = (σ 2 2) from ((congrFun (f38 2 (by decide)) 2).trans (congrFun (f22 2 (by decide)) 2))))
  have z70 : (σ36 55 5).toInt = (σ 55 5).toInt := (congrArg Int32.toInt (show σ36 55 5 = (σ 55 5) from ((f39 5 (by decide)).trans (congrFun (f22 55 (by decide)) 5))))
  have z71 : (σ36 2 3).toInt = (σ 2 3).toInt := (congrArg Int32.toInt (show σ36 2 3 = (σ 2 3) from ((congrFun (f38 2 (by decide)) 3).trans (congrFun (f22 2 (by decide)) 3))))
  have z72 : (σ36 55 4).toInt = (σ 55 4).toInt := (congrArg Int32.toInt (show σ36 55 4 = (σ 55 4) from ((f39 4 (by decide)).trans (congrFun (f22 55 (by decide)) 4))))
  exact ih x43 σ36 τ _ _ ls (by have h9 := tx43; omega) ⟨I44, I45, I46, I47, I48, I49, I50, I51, I52, I53, I54, I55, I56, I57, I58, I40, I59, I60, I61, I62, I63, I64, p65, p66, (by omega), (by omega), (by omega), (show jNumP (σ36 3) (σ36 56) (σ36 6) (σ36 57) (σ36 7) (σ36 58) (σ36 8) (σ36 59) (σ36 55 6).toInt (σ36 55 4).toInt by rw [show σ36 3 = σ 3 from ((f38 3 (by decide)).trans (f22 3 (by decide))), show σ36 56 = σ 56 from ((f38 56 (by decide)).trans (f22 56 (by decide))), show σ36 6 = σ 6 from ((f38 6 (by decide)).trans (f22 6 (by decide))), show σ36 57 = σ 57 from ((f38 57 (by decide)).trans (f22 57 (by decide))), show σ36 7 = σ 7 from ((f38 7 (by decide)).trans (f22 7 (by decide))), show σ36 58 = σ 58 from ((f38 58 (by decide)).trans (f22 58 (by decide))), show σ36 8 = σ 8 from ((f38 8 (by decide)).trans (f22 8 (by decide))), show σ36 59 = σ 59 from ((f38 59 (by decide)).trans (f22 59 (by decide))), show (σ36 55 6).toInt = (σ 55 6).toInt from by omega, show (σ36 55 4).toInt = (σ 55 4).toInt from by omega]; exact hr0)⟩ hP hS (lv_sub hl [0, 1, 2, 3] rfl)
set_option maxHeartbeats 4000000 in
set_option maxRecDepth 100000 in
theorem law_case_7 {p : Program} {e : Env} {s : State} {m : MethodId} {below : List Frame} {meth : Method} {c : Code} (l : Launch) {b L : Nat} {xs : Nat → Int32} {D : va_G} {cI cL : ClassId} {ad zz : Nat → Nat} (C0 : lw_At p s m meth c b L xs) (hJ : jD ad) (hA : ∀ q, jA ad q → s.heap.size ≤ q) (hK : jK D cI cL s) (hZ : jZ zz (fun q : Nat => s.heap.size ≤ q) s s.heap) {x0 : Int32} (hx0 : 0 ≤ x0.toInt) (hxL : x0.toInt + 6 ≤ (L : Int)) (hL : L ≤ 384) {σ : Nat → Nat → Int32} {τ : Nat → Nat → Int64} {H : Heap} {locs : List Loc} (hS : va_S (fun q : Nat => s.heap.size ≤ q) s.heap H locs) {ls : Array Slot} (hAll : jAll σ τ) (hP : jH D cI cL ad σ τ H) (hl : lv_has ls 4 [(3, .int x0), (2, .ref (ad 55)), (1, .ref (ad 0)), (0, .ref b)]) (ih : ∀ (x1 : Int32) (σ : Nat → Nat → Int32) (τ : Nat → Nat → Int64) (H : Heap) (locs : List Loc) (ls : Array Slot), x1.toInt = x0.toInt + 6 → jAll σ τ → jH D cI cL ad σ τ H → va_S (fun q : Nat => s.heap.size ≤ q) s.heap H locs → lv_has ls 4 [(3, .int x1), (2, .ref (ad 55)), (1, .ref (ad 0)), (0, .ref b)] → W p l e room_1 s m #[Value.ref b] below meth c H locs 90 348600 (lw_Z below #[Value.ref b] s) (F0 m 18 ls [])) : W p l e room_1 s m #[Value.ref b] below meth c H locs 90 348600 (lw_Z below #[Value.ref b] s) (F0 m 417 ls []) := by
  obtain ⟨hx, hb, hr, hml, hown, hts0, hX, hbl, hlocks, hgv⟩ := C0
  have hts : ∀ w ∈ wsL_law, w.before #[Value.ref b] s = true := fun w h => hts0 w (wsL_law_in w h)
  have hbA : ¬ (fun q : Nat => s.heap.size ≤ q) b := Nat.not_le.mpr hbl
  have hown : s.vm.findClass RL = some m.cls := hown
  obtain ⟨hI2, hI9, hI12, hI16, hI18, hI22, hI31, hI38, hI43, hI47, hI50, hI101, hI102, hI103, hI104, hI105, hI106, hI107, hI109, hI110, hI111, hI119, hs_jKept, hs_jBook, ht0, ht1, ht2, hr0⟩ := hAll
  have hL9 : (L : Int) ≤ 384 := by omega
  obtain ⟨i1, i2, i3, i4, i5, w6⟩ : (0 ≤ (σ 2 0).toInt ∧ (σ 2 0).toInt ≤ 4) ∧ (0 ≤ (σ 2 1).toInt ∧ (σ 2 1).toInt ≤ 3) ∧ (0 ≤ (σ 2 2).toInt) ∧ (0 ≤ (σ 2 3).toInt) ∧ ((σ 2 2).toInt + (σ 2 3).toInt ≤ 40) ∧ (∀ k : Nat, k < 40 → 0 ≤ (σ 6 k).toInt ∧ (σ 6 k).toInt ≤ 67) := id hI2
  obtain ⟨i7, i8, i9, w10, w11, w12, w13⟩ : (0 ≤ (σ 55 5).toInt) ∧ ((σ 55 5).toInt ≤ (σ 55 4).toInt) ∧ ((σ 55 4).toInt ≤ 40) ∧ (∀ k : Nat, k < 68 → (-200) ≤ (σ 56 k).toInt ∧ (σ 56 k).toInt ≤ 500) ∧ (∀ k : Nat, k < 40 → 0 ≤ (σ 57 k).toInt ∧ (σ 57 k).toInt ≤ 67) ∧ (∀ k : Nat, k < 40 → (-200) ≤ (σ 58 k).toInt ∧ (σ 58 k).toInt ≤ 500) ∧ (∀ k : Nat, k < 40 → (-200) ≤ (σ 59 k).toInt ∧ (σ 59 k).toInt ≤ 500) := id hI101
  obtain ⟨i14, w15, w16⟩ : (0 ≤ (σ 55 6).toInt ∧ (σ 55 6).toInt ≤ 4) ∧ (∀ k : Nat, k < 4 → 0 ≤ (σ 60 k).toInt ∧ (σ 60 k).toInt ≤ 50) ∧ (∀ k : Nat, k < 4 → 0 ≤ (σ 61 k).toInt ∧ (σ 61 k).toInt ≤ 20) := id hI102
  refine lv_aload_n hx hb dL_law_417 rfl (lv_at hl 2 rfl) ?_
  refine lv_aload_n hx hb dL_law_418 rfl (lv_at hl 3 rfl) ?_
  refine lv_iload_n hx hb dL_law_419 rfl (lv_at hl 0 rfl) ?_
  refine lv_iconst (v := 1) hx hb dL_law_420 (by decide) ?_
  have g17 := jrg (rfl : x0.toInt = x0.toInt)
  refine lv_iadd hx hb dL_law_421 ?_
  refine lv_topi (fun x18 ex18 => ?_)
  have tx18 : x18.toInt = x0.toInt + 1 := (jadd ex18 rfl jz_1 (by omega) (by omega)).trans (by omega)
  refine va_sld hx hb hX hbl hbA hS (jin tx18 (by omega) (by omega)) dL_law_422 ?_
  have g19 := jrg (rfl : (xs x18.toNatClampNeg).toInt = (xs x18.toNatClampNeg).toInt)
  refine jcallV (As := [.int (xs x18.toNatClampNeg)]) (rest := []) ⟨hx, hb, hml, hown, hts⟩ hK hP hA hS hZ (c_X11_of l D cI cL ad zz hJ σ τ (xs x18.toNatClampNeg) ((xs x18.toNatClampNeg).toInt) rfl hI16) cw_RL_45 (jc_0 cI cL ad σ τ) rfl ⟨Nat.le_of_ble_eq_true rfl, Nat.le_of_ble_eq_true rfl⟩ rfl rfl rfl hl.1 rfl (Nat.le_of_ble_eq_true rfl) dL_law_423 ⟨Nat.le_of_ble_eq_true rfl, Nat.le_of_ble_eq_true rfl⟩ (fun r21 σ20 τ20 H locs h20 hP hS => ?_)
  obtain ⟨⟨rfl, rfl⟩, h20⟩ := h20
  rcases h20 with h22 | h23 | h24 | h25 | h26
  · obtain ⟨q29, k27, k28⟩ := h22
    refine lv_pop hx hb dL_law_426 rfl ?_
    refine lv_aload_n hx hb dL_law_427 rfl (lv_at hl 1 rfl) ?_
    refine lv_aload_n hx hb dL_law_428 rfl (lv_at hl 3 rfl) ?_
    refine lv_iload_n hx hb dL_law_429 rfl (lv_at hl 0 rfl) ?_
    refine lv_iconst (v := 1) hx hb dL_law_430 (by decide) ?_
    refine lv_iadd hx hb dL_law_431 ?_
    refine jtopr ex18.symm ?_
    refine va_sld hx hb hX hbl hbA hS (jin tx18 (by omega) (by omega)) dL_law_432 ?_
    refine jcallV (As := [.int (xs x18.toNatClampNeg)]) (rest := []) ⟨hx, hb, hml, hown, hts⟩ hK hP hA hS hZ (c_X12_of l D cI cL ad zz hJ σ τ (xs x18.toNatClampNeg) ((xs x18.toNatClampNeg).toInt) rfl hI104 hI107) cw_RL_48 (jc_55 cI cL ad σ τ) rfl ⟨Nat.le_of_ble_eq_true rfl, Nat.le_of_ble_eq_true rfl⟩ rfl rfl rfl hl.1 rfl (Nat.le_of_ble_eq_true rfl) dL_law_433 ⟨Nat.le_of_ble_eq_true rfl, Nat.le_of_ble_eq_true rfl⟩ (fun r31 σ30 τ30 H locs h30 hP hS => ?_)
    obtain ⟨⟨rfl, rfl⟩, h30⟩ := h30
    rcases h30 with h32 | h33 | h34 | h35 | h36
    · obtain ⟨q39, k37, k38⟩ := h32
      refine lv_pop hx hb dL_law_436 rfl ?_
      refine lv_goto (tgt := 1357) hx hb dL_law_437 (by decide) ?_
      obtain ⟨x40, ex40⟩ : ∃ y : Int32, y = x0 + 6 := ⟨_, rfl⟩
      have tx40 : x40.toInt = x0.toInt + 6 := (jadd ex40 rfl jz_6 (by omega) (by omega)).trans (by omega)
      refine lv_iinc (v := x40) (lv' := [(3, .int x40), (2, .ref (ad 55)), (1, .ref (ad 0)), (0, .ref b)]) hx hb dL_law_1357 hl (k := 0) rfl (by rw [ex40]; rfl) (by decide) rfl (fun ls hl => ?_)
      refine lv_goto (tgt := 18) hx hb dL_law_1360 (by decide) ?_
      exact ih x40 σ τ _ _ ls (by have h9 := tx40; omega) ⟨hI2, hI9, hI12, hI16, hI18, hI22, hI31, hI38, hI43, hI47, hI50, hI101, hI102, hI103, hI104, hI105, hI106, hI107, hI109, hI110, hI111, hI119, hs_jKept, hs_jBook, (by omega), (by omega), (by omega), hr0⟩ hP hS (lv_sub hl [0, 1, 2, 3] rfl)
    · obtain ⟨q43, k41, k42⟩ := h33
      exact absurd (by omega : False) id
    · obtain ⟨q46, k44, k45⟩ := h34
      exact absurd (by omega : False) id
    · obtain ⟨q50, k47, k48, k49⟩ := h35
      exact absurd (by omega : False) id
    · obtain ⟨q52, k51⟩ := h36
      exact absurd (by omega : False) id
  · obtain ⟨q55, k53, k54⟩ := h23
    refine lv_pop hx hb dL_law_426 rfl ?_
    refine lv_aload_n hx hb dL_law_427 rfl (lv_at hl 1 rfl) ?_
    refine lv_aload_n hx hb dL_law_428 rfl (lv_at hl 3 rfl) ?_
    refine lv_iload_n hx hb dL_law_429 rfl (lv_at hl 0 rfl) ?_
    refine lv_iconst (v := 1) hx hb dL_law_430 (by decide) ?_
    refine lv_iadd hx hb dL_law_431 ?_
    refine jtopr ex18.symm ?_
    refine va_sld hx hb hX hbl hbA hS (jin tx18 (by omega) (by omega)) dL_law_432 ?_
    refine jcallV (As := [.int (xs x18.toNatClampNeg)]) (rest := []) ⟨hx, hb, hml, hown, hts⟩ hK hP hA hS hZ (c_X12_of l D cI cL ad zz hJ σ τ (xs x18.toNatClampNeg) ((xs x18.toNatClampNeg).toInt) rfl hI104 hI107) cw_RL_48 (jc_55 cI cL ad σ τ) rfl ⟨Nat.le_of_ble_eq_true rfl, Nat.le_of_ble_eq_true rfl⟩ rfl rfl rfl hl.1 rfl (Nat.le_of_ble_eq_true rfl) dL_law_433 ⟨Nat.le_of_ble_eq_true rfl, Nat.le_of_ble_eq_true rfl⟩ (fun r57 σ56 τ56 H locs h56 hP hS => ?_)
    obtain ⟨⟨rfl, rfl⟩, h56⟩ := h56
    rcases h56 with h58 | h59 | h60 | h61 | h62
    · obtain ⟨q65, k63, k64⟩ := h58
      exact absurd (by omega : False) id
    · obtain ⟨q68, k66, k67⟩ := h59
      refine lv_pop hx hb dL_law_436 rfl ?_
      refine lv_goto (tgt := 1357) hx hb dL_law_437 (by decide) ?_
      obtain ⟨x69, ex69⟩ : ∃ y : Int32, y = x0 + 6 := ⟨_, rfl⟩
      have tx69 : x69.toInt = x0.toInt + 6 := (jadd ex69 rfl jz_6 (by omega) (by omega)).trans (by omega)
      refine lv_iinc (v := x69) (lv' := [(3, .int x69), (2, .ref (ad 55)), (1, .ref (ad 0)), (0, .ref b)]) hx hb dL_law_1357 hl (k := 0) rfl (by rw [ex69]; rfl) (by decide) rfl (fun ls hl => ?_)
      refine lv_goto (tgt := 18) hx hb dL_law_1360 (by decide) ?_
      exact ih x69 σ τ _ _ ls (by have h9 := tx69; omega) ⟨hI2, hI9, hI12, hI16, hI18, hI22, hI31, hI38, hI43, hI47, hI50, hI101, hI102, hI103, hI104, hI105, hI106, hI107, hI109, hI110, hI111, hI119, hs_jKept, hs_jBook, (by omega), (by omega), (by omega), hr0⟩ hP hS (lv_sub hl [0, 1, 2, 3] rfl)
    · obtain ⟨q72, k70, k71⟩ := h60
      exact absurd (by omega : False) id
    · obtain ⟨q76, k73, k74, k75⟩ := h61
      exact absurd (by omega : False) id
    · obtain ⟨q78, k77⟩ := h62
      exact absurd (by omega : False) id
  · obtain ⟨q81, k79, k80⟩ := h24
    refine lv_pop hx hb dL_law_426 rfl ?_
    refine lv_aload_n hx hb dL_law_427 rfl (lv_at hl 1 rfl) ?_
    refine lv_aload_n hx hb dL_law_428 rfl (lv_at hl 3 rfl) ?_
    refine lv_iload_n hx hb dL_law_429 rfl (lv_at hl 0 rfl) ?_
    refine lv_iconst (v := 1) hx hb dL_law_430 (by decide) ?_
    refine lv_iadd hx hb dL_law_431 ?_
    refine jtopr ex18.symm ?_
    refine va_sld hx hb hX hbl hbA hS (jin tx18 (by omega) (by omega)) dL_law_432 ?_
    refine jcallV (As := [.int (xs x18.toNatClampNeg)]) (rest := []) ⟨hx, hb, hml, hown, hts⟩ hK hP hA hS hZ (c_X12_of l D cI cL ad zz hJ σ τ (xs x18.toNatClampNeg) ((xs x18.toNatClampNeg).toInt) rfl hI104 hI107) cw_RL_48 (jc_55 cI cL ad σ τ) rfl ⟨Nat.le_of_ble_eq_true rfl, Nat.le_of_ble_eq_true rfl⟩ rfl rfl rfl hl.1 rfl (Nat.le_of_ble_eq_true rfl) dL_law_433 ⟨Nat.le_of_ble_eq_true rfl, Nat.le_of_ble_eq_true rfl⟩ (fun r83 σ82 τ82 H locs h82 hP hS => ?_)
    obtain ⟨⟨rfl, rfl⟩, h82⟩ := h82
    rcases h82 with h84 | h85 | h86 | h87 | h88
    · obtain ⟨q91, k89, k90⟩ := h84
      exact absurd (by omega : False) id
    · obtain ⟨q94, k92, k93⟩ := h85
      exact absurd (by omega : False) id
    · obtain ⟨q97, k95, k96⟩ := h86
      refine lv_pop hx hb dL_law_436 rfl ?_
      refine lv_goto (tgt := 1357) hx hb dL_law_437 (by decide) ?_
      obtain ⟨x98, ex98⟩ : ∃ y : Int32, y = x0 + 6 := ⟨_, rfl⟩
      have tx98 : x98.toInt = x0.toInt + 6 := (jadd ex98 rfl jz_6 (by omega) (by omega)).trans (by omega)
      refine lv_iinc (v := x98) (lv' := [(3, .int x98), (2, .ref (ad 55)), (1, .ref (ad 0)), (0, .ref b)]) hx hb dL_law_1357 hl (k := 0) rfl (by rw [ex98]; rfl) (by decide) rfl (fun ls hl => ?_)
      refine lv_goto (tgt := 18) hx hb dL_law_1360 (by decide) ?_
      exact ih x98 σ τ _ _ ls (by have h9 := tx98; omega) ⟨hI2, hI9, hI12, hI16, hI18, hI22, hI31, hI38, hI43, hI47, hI50, hI101, hI102, hI103, hI104, hI105, hI106, hI107, hI109, hI110, hI111, hI119, hs_jKept, hs_jBook, (by omega), (by omega), (by omega), hr0⟩ hP hS (lv_sub hl [0, 1, 2, 3] rfl)
    · obtain ⟨q102, k99, k100, k101⟩ := h87
      exact absurd (by omega : False) id
    · obtain ⟨q104, k103⟩ := h88
      exact absurd (by omega : False) id
  · obtain ⟨q108, k105, k106, k107⟩ := h25
    refine lv_pop hx hb dL_law_426 rfl ?_
    refine lv_aload_n hx hb dL_law_427 rfl (lv_at hl 1 rfl) ?_
    refine lv_aload_n hx hb dL_law_428 rfl (lv_at hl 3 rfl) ?_
    refine lv_iload_n hx hb dL_law_429 rfl (lv_at hl 0 rfl) ?_
    refine lv_iconst (v := 1) hx hb dL_law_430 (by decide) ?_
    refine lv_iadd hx hb dL_law_431 ?_
    refine jtopr ex18.symm ?_
    refine va_sld hx hb hX hbl hbA hS (jin tx18 (by omega) (by omega)) dL_law_432 ?_
    refine jcallV (As := [.int (xs x18.toNatClampNeg)]) (rest := []) ⟨hx, hb, hml, hown, hts⟩ hK hP hA hS hZ (c_X12_of l D cI cL ad zz hJ σ τ (xs x18.toNatClampNeg) ((xs x18.toNatClampNeg).toInt) rfl hI104 hI107) cw_RL_48 (jc_55 cI cL ad σ τ) rfl ⟨Nat.le_of_ble_eq_true rfl, Nat.le_of_ble_eq_true rfl⟩ rfl rfl rfl hl.1 rfl (Nat.le_of_ble_eq_true rfl) dL_law_433 ⟨Nat.le_of_ble_eq_true rfl, Nat.le_of_ble_eq_true rfl⟩ (fun r110 σ109 τ109 H locs h109 hP hS => ?_)
    obtain ⟨⟨rfl, rfl⟩, h109⟩ := h109
    rcases h109 with h111 | h112 | h113 | h114 | h115
    · obtain ⟨q118, k116, k117⟩ := h111
      exact absurd (by omega : False) id
    · obtain ⟨q121, k119, k120⟩ := h112
      exact absurd (by omega : False) id
    · obtain ⟨q124, k122, k123⟩ := h113
      exact absurd (by omega : False) id
    · obtain ⟨q128, k125, k126, k127⟩ := h114
      refine lv_pop hx hb dL_law_436 rfl ?_
      refine lv_goto (tgt := 1357) hx hb dL_law_437 (by decide) ?_
      obtain ⟨x129, ex129⟩ : ∃ y : Int32, y = x0 + 6 := ⟨_, rfl⟩
      have tx129 : x129.toInt = x0.toInt + 6 := (jadd ex129 rfl jz_6 (by omega) (by omega)).trans (by omega)
      refine lv_iinc (v := x129) (lv' := [(3, .int x129), (2, .ref (ad 55)), (1, .ref (ad 0)), (0, .ref b)]) hx hb dL_law_1357 hl (k := 0) rfl (by rw [ex129]; rfl) (by decide) rfl (fun ls hl => ?_)
      refine lv_goto (tgt := 18) hx hb dL_law_1360 (by decide) ?_
      exact ih x129 σ τ _ _ ls (by have h9 := tx129; omega) ⟨hI2, hI9, hI12, hI16, hI18, hI22, hI31, hI38, hI43, hI47, hI50, hI101, hI102, hI103, hI104, hI105, hI106, hI107, hI109, hI110, hI111, hI119, hs_jKept, hs_jBook, (by omega), (by omega), (by omega), hr0⟩ hP hS (lv_sub hl [0, 1, 2, 3] rfl)
    · obtain ⟨q131, k130⟩ := h115
      have q131 := q131.symm
      subst q131
      refine lv_pop hx hb dL_law_436 rfl ?_
      refine lv_goto (tgt := 1357) hx hb dL_law_437 (by decide) ?_
      obtain ⟨x132, ex132⟩ : ∃ y : Int32, y = x0 + 6 := ⟨_, rfl⟩
      have tx132 : x132.toInt = x0.toInt + 6 := (jadd ex132 rfl jz_6 (by omega) (by omega)).trans (by omega)
      refine lv_iinc (v := x132) (lv' := [(3, .int x132), (2, .ref (ad 55)), (1, .ref (ad 0)), (0, .ref b)]) hx hb dL_law_1357 hl (k := 0) rfl (by rw [ex132]; rfl) (by decide) rfl (fun ls hl => ?_)
      refine lv_goto (tgt := 18) hx hb dL_law_1360 (by decide) ?_
      exact ih x132 σ τ _ _ ls (by have h9 := tx132; omega) ⟨hI2, hI9, hI12, hI16, hI18, hI22, hI31, hI38, hI43, hI47, hI50, hI101, hI102, hI103, hI104, hI105, hI106, hI107, hI109, hI110, hI111, hI119, hs_jKept, hs_jBook, (by omega), (by omega), (by omega), hr0⟩ hP hS (lv_sub hl [0, 1, 2, 3] rfl)
  · obtain ⟨q134, k133⟩ := h26
    have q134 := q134.symm
    subst q134
    refine lv_pop hx hb dL_law_426 rfl ?_
    refine lv_aload_n hx hb dL_law_427 rfl (lv_at hl 1 rfl) ?_
    refine lv_aload_n hx hb dL_law_428 rfl (lv_at hl 3 rfl) ?_
    refine lv_iload_n hx hb dL_law_429 rfl (lv_at hl 0 rfl) ?_
    refine lv_iconst (v := 1) hx hb dL_law_430 (by decide) ?_
    refine lv_iadd hx hb dL_law_431 ?_
    refine jtopr ex18.symm ?_
    refine va_sld hx hb hX hbl hbA hS (jin tx18 (by omega) (by omega)) dL_law_432 ?_
    refine jcallV (As := [.int (xs x18.toNatClampNeg)]) (rest := []) ⟨hx, hb, hml, hown, hts⟩ hK hP hA hS hZ (c_X12_of l D cI cL ad zz hJ σ τ (xs x18.toNatClampNeg) ((xs x18.toNatClampNeg).toInt) rfl hI104 hI107) cw_RL_48 (jc_55 cI cL ad σ τ) rfl ⟨Nat.le_of_ble_eq_true rfl, Nat.le_of_ble_eq_true rfl⟩ rfl rfl rfl hl.1 rfl (Nat.le_of_ble_eq_true rfl) dL_law_433 ⟨Nat.le_of_ble_eq_true rfl, Nat.le_of_ble_eq_true rfl⟩ (fun r136 σ135 τ135 H locs h135 hP hS => ?_)
    obtain ⟨⟨rfl, rfl⟩, h135⟩ := h135
    rcases h135 with h137 | h138 | h139 | h140 | h141
    · obtain ⟨q144, k142, k143⟩ := h137
      exact absurd (by omega : False) id
    · obtain ⟨q147, k145, k146⟩ := h138
      exact absurd (by omega : False) id
    · obtain ⟨q150, k148, k149⟩ := h139
      exact absurd (by omega : False) id
    · obtain ⟨q154, k151, k152, k153⟩ := h140
      refine lv_pop hx hb dL_law_436 rfl ?_
      refine lv_goto (tgt := 1357) hx hb dL_law_437 (by decide) ?_
      obtain ⟨x155, ex155⟩ : ∃ y : Int32, y = x0 + 6 := ⟨_, rfl⟩
      have tx155 : x155.toInt = x0.toInt + 6 := (jadd ex155 rfl jz_6 (by omega) (by omega)).trans (by omega)
      refine lv_iinc (v := x155) (lv' := [(3, .int x155), (2, .ref (ad 55)), (1, .ref (ad 0)), (0, .ref b)]) hx hb dL_law_1357 hl (k := 0) rfl (by rw [ex155]; rfl) (by decide) rfl (fun ls hl => ?_)
      refine lv_goto (tgt := 18) hx hb dL_law_1360 (by decide) ?_
      exact ih x155 σ τ _ _ ls (by have h9 := tx155; omega) ⟨hI2, hI9, hI12, hI16, hI18, hI22, hI31, hI38, hI43, hI47, hI50, hI101, hI102, hI103, hI104, hI105, hI106, hI107, hI109, hI110, hI111, hI119, hs_jKept, hs_jBook, (by omega), (by omega), (by omega), hr0⟩ hP hS (lv_sub hl [0, 1, 2, 3] rfl)
    · obtain ⟨q157, k156⟩ := h141
      have q157 := q157.symm
      subst q157
      refine lv_pop hx hb dL_law_436 rfl ?_
      refine lv_goto (tgt := 1357) hx hb dL_law_437 (by decide) ?_
      obtain ⟨x158, ex158⟩ : ∃ y : Int32, y = x0 + 6 := ⟨_, rfl⟩
      have tx158 : x158.toInt = x0.toInt + 6 := (jadd ex158 rfl jz_6 (by omega) (by omega)).trans (by omega)
      refine lv_iinc (v := x158) (lv' := [(3, .int x158), (2, .ref (ad 55)), (1, .ref (ad 0)), (0, .ref b)]) hx hb dL_law_1357 hl (k := 0) rfl (by rw [ex158]; rfl) (by decide) rfl (fun ls hl => ?_)
      refine lv_goto (tgt := 18) hx hb dL_law_1360 (by decide) ?_
      exact ih x158 σ τ _ _ ls (by have h9 := tx158; omega) ⟨hI2, hI9, hI12, hI16, hI18, hI22, hI31, hI38, hI43, hI47, hI50, hI101, hI102, hI103, hI104, hI105, hI106, hI107, hI109, hI110, hI111, hI119, hs_jKept, hs_jBook, (by omega), (by omega), (by omega), hr0⟩ hP hS (lv_sub hl [0, 1, 2, 3] rfl)
set_option maxHeartbeats 4000000 in
set_option maxRecDepth 100000 in
theorem law_case_8 {p : Program} {e : Env} {s : State} {m : MethodId} {below : List Frame} {meth : Method} {c : Code} (l : Launch) {b L : Nat} {xs : Nat → Int32} {D : va_G} {cI cL : ClassId} {ad zz : Nat → Nat} (C0 : lw_At p s m meth c b L xs) (hJ : jD ad) (hA : ∀ q, jA ad q → s.heap.size ≤ q) (hK : jK D cI cL s) (hZ : jZ zz (fun q : Nat => s.heap.size ≤ q) s s.heap) {x0 : Int32} (hx0 : 0 ≤ x0.toInt) (hxL : x0.toInt + 6 ≤ (L : Int)) (hL : L ≤ 384) {σ : Nat → Nat → Int32} {τ : Nat → Nat → Int64} {H : Heap} {locs : List Loc} (hS : va_S (fun q : Nat => s.heap.size ≤ q) s.heap H locs) {ls : Array Slot} (hAll : jAll σ τ) (hP : jH D cI cL ad σ τ H) (hl : lv_has ls 4 [(3, .int x0), (2, .ref (ad 55)), (1, .ref (ad 0)), (0, .ref b)]) (ih : ∀ (x1 : Int32) (σ : Nat → Nat → Int32) (τ : Nat → Nat → Int64) (H : Heap) (locs : List Loc) (ls : Array Slot), x1.toInt = x0.toInt + 6 → jAll σ τ → jH D cI cL ad σ τ H → va_S (fun q : Nat => s.heap.size ≤ q) s.heap H locs → lv_has ls 4 [(3, .int x1), (2, .ref (ad 55)), (1, .ref (ad 0)), (0, .ref b)] → W p l e room_1 s m #[Value.ref b] below meth c H locs 90 348600 (lw_Z below #[Value.ref b] s) (F0 m 18 ls [])) : W p l e room_1 s m #[Value.ref b] below meth c H locs 90 348600 (lw_Z below #[Value.ref b] s) (F0 m 440 ls []) := by
  obtain ⟨hx, hb, hr, hml, hown, hts0, hX, hbl, hlocks, hgv⟩ := C0
  have hts : ∀ w ∈ wsL_law, w.before #[Value.ref b] s = true := fun w h => hts0 w (wsL_law_in w h)
  have hbA : ¬ (fun q : Nat => s.heap.size ≤ q) b := Nat.not_le.mpr hbl
  have hown : s.vm.findClass RL = some m.cls := hown
  obtain ⟨hI2, hI9, hI12, hI16, hI18, hI22, hI31, hI38, hI43, hI47, hI50, hI101, hI102, hI103, hI104, hI105, hI106, hI107, hI109, hI110, hI111, hI119, hs_jKept, hs_jBook, ht0, ht1, ht2, hr0⟩ := hAll
  have hL9 : (L : Int) ≤ 384 := by omega
  obtain ⟨i1, i2, i3, i4, i5, w6⟩ : (0 ≤ (σ 2 0).toInt ∧ (σ 2 0).toInt ≤ 4) ∧ (0 ≤ (σ 2 1).toInt ∧ (σ 2 1).toInt ≤ 3) ∧ (0 ≤ (σ 2 2).toInt) ∧ (0 ≤ (σ 2 3).toInt) ∧ ((σ 2 2).toInt + (σ 2 3).toInt ≤ 40) ∧ (∀ k : Nat, k < 40 → 0 ≤ (σ 6 k).toInt ∧ (σ 6 k).toInt ≤ 67) := id hI2
  obtain ⟨i7, i8, i9, w10, w11, w12, w13⟩ : (0 ≤ (σ 55 5).toInt) ∧ ((σ 55 5).toInt ≤ (σ 55 4).toInt) ∧ ((σ 55 4).toInt ≤ 40) ∧ (∀ k : Nat, k < 68 → (-200) ≤ (σ 56 k).toInt ∧ (σ 56 k).toInt ≤ 500) ∧ (∀ k : Nat, k < 40 → 0 ≤ (σ 57 k).toInt ∧ (σ 57 k).toInt ≤ 67) ∧ (∀ k : Nat, k < 40 → (-200) ≤ (σ 58 k).toInt ∧ (σ 58 k).toInt ≤ 500) ∧ (∀ k : Nat, k < 40 → (-200) ≤ (σ 59 k).toInt ∧ (σ 59 k).toInt ≤ 500) := id hI101
  obtain ⟨i14, w15, w16⟩ : (0 ≤ (σ 55 6).toInt ∧ (σ 55 6).toInt ≤ 4) ∧ (∀ k : Nat, k < 4 → 0 ≤ (σ 60 k).toInt ∧ (σ 60 k).toInt ≤ 50) ∧ (∀ k : Nat, k < 4 → 0 ≤ (σ 61 k).toInt ∧ (σ 61 k).toInt ≤ 20) := id hI102
  refine lv_aload_n hx hb dL_law_440 rfl (lv_at hl 2 rfl) ?_
  refine lv_aload_n hx hb dL_law_441 rfl (lv_at hl 3 rfl) ?_
  refine lv_iload_n hx hb dL_law_442 rfl (lv_at hl 0 rfl) ?_
  refine lv_iconst (v := 1) hx hb dL_law_443 (by decide) ?_
  have g17 := jrg (rfl : x0.toInt = x0.toInt)
  refine lv_iadd hx hb dL_law_444 ?_
  refine lv_topi (fun x18 ex18 => ?_)
  have tx18 : x18.toInt = x0.toInt + 1 := (jadd ex18 rfl jz_1 (by omega) (by omega)).trans (by omega)
  refine va_sld hx hb hX hbl hbA hS (jin tx18 (by omega) (by omega)) dL_law_445 ?_
  have g19 := jrg (rfl : (xs x18.toNatClampNeg).toInt = (xs x18.toNatClampNeg).toInt)
  refine lv_aload_n hx hb dL_law_446 rfl (lv_at hl 3 rfl) ?_
  refine lv_iload_n hx hb dL_law_447 rfl (lv_at hl 0 rfl) ?_
  refine lv_iconst (v := 2) hx hb dL_law_448 (by decide) ?_
  refine lv_iadd hx hb dL_law_449 ?_
  refine lv_topi (fun x20 ex20 => ?_)
  have tx20 : x20.toInt = x0.toInt + 2 := (jadd ex20 rfl jz_2 (by omega) (by omega)).trans (by omega)
  refine va_sld hx hb hX hbl hbA hS (jin tx20 (by omega) (by omega)) dL_law_450 ?_
  have g21 := jrg (rfl : (xs x20.toNatClampNeg).toInt = (xs x20.toNatClampNeg).toInt)
  refine lv_aload_n hx hb dL_law_451 rfl (lv_at hl 3 rfl) ?_
  refine lv_iload_n hx hb dL_law_452 rfl (lv_at hl 0 rfl) ?_
  refine lv_iconst (v := 3) hx hb dL_law_453 (by decide) ?_
  refine lv_iadd hx hb dL_law_454 ?_
  refine lv_topi (fun x22 ex22 => ?_)
  have tx22 : x22.toInt = x0.toInt + 3 := (jadd ex22 rfl jz_3 (by omega) (by omega)).trans (by omega)
  refine va_sld hx hb hX hbl hbA hS (jin tx22 (by omega) (by omega)) dL_law_455 ?_
  have g23 := jrg (rfl : (xs x22.toNatClampNeg).toInt = (xs x22.toNatClampNeg).toInt)
  refine jcallV (As := [.int (xs x18.toNatClampNeg), .int (xs x20.toNatClampNeg), .int (xs x22.toNatClampNeg)]) (rest := []) ⟨hx, hb, hml, hown, hts⟩ hK hP hA hS hZ (c_X11_over l D cI cL ad zz hJ σ τ (xs x18.toNatClampNeg) ((xs x18.toNatClampNeg).toInt) rfl (xs x20.toNatClampNeg) ((xs x20.toNatClampNeg).toInt) rfl (xs x22.toNatClampNeg) ((xs x22.toNatClampNeg).toInt) rfl hI2 hI22) cw_RL_49 (jc_0 cI cL ad σ τ) rfl ⟨Nat.le_of_ble_eq_true rfl, Nat.le_of_ble_eq_true rfl⟩ rfl rfl rfl hl.1 rfl (Nat.le_of_ble_eq_true rfl) dL_law_456 ⟨Nat.le_of_ble_eq_true rfl, Nat.le_of_ble_eq_true rfl⟩ (fun r25 σ24 τ24 H locs h24 hP hS => ?_)
  obtain ⟨rfl, f26, h24⟩ := h24
  refine lv_pop hx hb dL_law_459 rfl ?_
  refine lv_aload_n hx hb dL_law_460 rfl (lv_at hl 1 rfl) ?_
  refine lv_aload_n hx hb dL_law_461 rfl (lv_at hl 3 rfl) ?_
  refine lv_iload_n hx hb dL_law_462 rfl (lv_at hl 0 rfl) ?_
  refine lv_iconst (v := 1) hx hb dL_law_463 (by decide) ?_
  refine lv_iadd hx hb dL_law_464 ?_
  refine jtopr ex18.symm ?_
  refine va_sld hx hb hX hbl hbA hS (jin tx18 (by omega) (by omega)) dL_law_465 ?_
  refine lv_aload_n hx hb dL_law_466 rfl (lv_at hl 3 rfl) ?_
  refine lv_iload_n hx hb dL_law_467 rfl (lv_at hl 0 rfl) ?_
  refine lv_iconst (v := 2) hx hb dL_law_468 (by decide) ?_
  refine lv_iadd hx hb dL_law_469 ?_
  refine jtopr ex20.symm ?_
  refine va_sld hx hb hX hbl hbA hS (jin tx20 (by omega) (by omega)) dL_law_470 ?_
  refine lv_aload_n hx hb dL_law_471 rfl (lv_at hl 3 rfl) ?_
  refine lv_iload_n hx hb dL_law_472 rfl (lv_at hl 0 rfl) ?_
  refine lv_iconst (v := 3) hx hb dL_law_473 (by decide) ?_
  refine lv_iadd hx hb dL_law_474 ?_
  refine jtopr ex22.symm ?_
  refine va_sld hx hb hX hbl hbA hS (jin tx22 (by omega) (by omega)) dL_law_475 ?_
  have I28 : jI101 σ24 := jI101_fr (congrFun (f26 55 (by decide)) 4) (congrFun (f26 55 (by decide)) 5) (f26 56 (by decide)) (f26 57 (by decide)) (f26 58 (by decide)) (f26 59 (by decide)) hI101
  have I29 : jI102 σ24 := jI102_fr (congrFun (f26 55 (by decide)) 6) (f26 60 (by decide)) (f26 61 (by decide)) hI102
  have I30 : jI103 σ24 := jI103_fr (congrFun (f26 55 (by decide)) 9) hI103
  have I31 : jI104 σ24 := jI104_fr (congrFun (f26 55 (by decide)) 10) (congrFun (f26 55 (by decide)) 12) (congrFun (f26 55 (by decide)) 13) (f26 62 (by decide)) (f26 67 (by decide)) hI104
  have I32 : jI105 σ24 := jI105_fr (congrFun (f26 55 (by decide)) 15) (f26 65 (by decide)) hI105
  have I33 : jI119 σ24 := jI119_fr (f26 68 (by decide)) hI119
  refine jcallV (As := [.int (xs x18.toNatClampNeg), .int (xs x20.toNatClampNeg), .int (xs x22.toNatClampNeg)]) (rest := []) ⟨hx, hb, hml, hown, hts⟩ hK hP hA hS hZ (c_X12_over l D cI cL ad zz hJ σ24 τ (xs x18.toNatClampNeg) ((xs x18.toNatClampNeg).toInt) rfl (xs x20.toNatClampNeg) ((xs x20.toNatClampNeg).toInt) rfl (xs x22.toNatClampNeg) ((xs x22.toNatClampNeg).toInt) rfl I28 I29 I30 I31 I32 I33) cw_RL_52 (jc_55 cI cL ad σ24 τ) rfl ⟨Nat.le_of_ble_eq_true rfl, Nat.le_of_ble_eq_true rfl⟩ rfl rfl rfl hl.1 rfl (Nat.le_of_ble_eq_true rfl) dL_law_476 ⟨Nat.le_of_ble_eq_true rfl, Nat.le_of_ble_eq_true rfl⟩ (fun r35 σ34 τ34 H locs h34 hP hS => ?_)
  obtain ⟨rfl, f36, f37, I38, h34⟩ := h34
  refine lv_pop hx hb dL_law_479 rfl ?_
  refine lv_goto (tgt := 1357) hx hb dL_law_480 (by decide) ?_
  obtain ⟨x40, ex40⟩ : ∃ y : Int32, y = x0 + 6 := ⟨_, rfl⟩
  have tx40 : x40.toInt = x0.toInt + 6 := (jadd ex40 rfl jz_6 (by omega) (by omega)).trans (by omega)
  refine lv_iinc (v := x40) (lv' := [(3, .int x40), (2, .ref (ad 55)), (1, .ref (ad 0)), (0, .ref b)]) hx hb dL_law_1357 hl (k := 0) rfl (by rw [ex40]; rfl) (by decide) rfl (fun ls hl => ?_)
  refine lv_goto (tgt := 18) hx hb dL_law_1360 (by decide) ?_
  have I41 : jI2 σ34 := jI2_fr ((congrFun (f36 2 (by decide)) 0).trans (congrFun (f26 2 (by decide)) 0)) ((congrFun (f36 2 (by decide)) 1).trans (congrFun (f26 2 (by decide)) 1)) ((congrFun (f36 2 (by decide)) 2).trans (congrFun (f26 2 (by decide)) 2)) ((congrFun (f36 2 (by decide)) 3).trans (congrFun (f26 2 (by decide)) 3)) ((f36 6 (by decide)).trans (f26 6 (by decide))) hI2
  have I42 : jI9 σ34 := jI9_fr ((congrFun (f36 9 (by decide)) 0).trans (congrFun (f26 9 (by decide)) 0)) ((f36 10 (by decide)).trans (f26 10 (by decide))) ((f36 11 (by decide)).trans (f26 11 (by decide))) hI9
  have I43 : jI12 σ34 := jI12_fr ((congrFun (f36 12 (by decide)) 0).trans (congrFun (f26 12 (by decide)) 0)) ((f36 13 (by decide)).trans (f26 13 (by decide))) hI12
  have I44 : jI16 σ34 := jI16_fr ((congrFun (f36 16 (by decide)) 0).trans (congrFun (f26 16 (by decide)) 0)) ((congrFun (f36 16 (by decide)) 1).trans (congrFun (f26 16 (by decide)) 1)) ((congrFun (f36 16 (by decide)) 2).trans (congrFun (f26 16 (by decide)) 2)) ((f36 17 (by decide)).trans (f26 17 (by decide))) hI16
  have I45 : jI18 σ34 := jI18_fr ((congrFun (f36 18 (by decide)) 0).trans (congrFun (f26 18 (by decide)) 0)) ((f36 19 (by decide)).trans (f26 19 (by decide))) hI18
  have I46 : jI22 σ34 := jI22_fr ((congrFun (f36 22 (by decide)) 0).trans (congrFun (f26 22 (by decide)) 0)) ((f36 23 (by decide)).trans (f26 23 (by decide))) hI22
  have I47 : jI31 σ34 := jI31_fr ((congrFun (f36 31 (by decide)) 8).trans (congrFun (f26 31 (by decide)) 8)) ((f36 33 (by decide)).trans (f26 33 (by decide))) ((f36 36 (by decide)).trans (f26 36 (by decide))) hI31
  have I48 : jI38 σ34 := jI38_fr ((congrFun (f36 38 (by decide)) 0).trans (congrFun (f26 38 (by decide)) 0)) ((congrFun (f36 38 (by decide)) 1).trans (congrFun (f26 38 (by decide)) 1)) ((f36 39 (by decide)).trans (f26 39 (by decide))) hI38
  have I49 : jI43 σ34 := jI43_fr ((congrFun (f36 43 (by decide)) 8).trans (congrFun (f26 43 (by decide)) 8)) hI43
  have I50 : jI47 σ34 := jI47_fr ((congrFun (f36 47 (by decide)) 0).trans (congrFun (f26 47 (by decide)) 0)) ((f36 48 (by decide)).trans (f26 48 (by decide))) ((f36 49 (by decide)).trans (f26 49 (by decide))) hI47
  have I51 : jI50 σ34 := jI50_fr ((f36 52 (by decide)).trans (f26 52 (by decide))) hI50
  have I52 : jI101 σ34 := jI101_fr (f37 4 (by decide)) (f37 5 (by decide)) (f36 56 (by decide)) (f36 57 (by decide)) (f36 58 (by decide)) (f36 59 (by decide)) I28
  have I53 : jI102 σ34 := jI102_fr (f37 6 (by decide)) (f36 60 (by decide)) (f36 61 (by decide)) I29
  have I54 : jI103 σ34 := jI103_fr (f37 9 (by decide)) I30
  have I55 : jI104 σ34 := jI104_fr (f37 10 (by decide)) (f37 12 (by decide)) (f37 13 (by decide)) (f36 62 (by decide)) (f36 67 (by decide)) I31
  have I56 : jI105 σ34 := jI105_fr (f37 15 (by decide)) (f36 65 (by decide)) I32
  have I57 : jI106 σ34 := jI106_fr ((f37 32 (by decide)).trans (congrFun (f26 55 (by decide)) 32)) ((f36 70 (by decide)).trans (f26 70 (by decide))) ((f36 71 (by decide)).trans (f26 71 (by decide))) ((f36 72 (by decide)).trans (f26 72 (by decide))) hI106
  have I58 : jI107 σ34 := jI107_fr ((f37 12 (by decide)).trans (congrFun (f26 55 (by decide)) 12)) ((f37 47 (by decide)).trans (congrFun (f26 55 (by decide)) 47)) ((f36 80 (by decide)).trans (f26 80 (by decide))) hI107
  have I59 : jI109 σ34 := jI109_fr ((f37 50 (by decide)).trans (congrFun (f26 55 (by decide)) 50)) hI109
  have I60 : jI110 σ34 := jI110_fr ((f36 86 (by decide)).trans (f26 86 (by decide))) ((f36 87 (by decide)).trans (f26 87 (by decide))) hI110
  have I61 : jI111 σ34 := jI111_fr ((f36 79 (by decide)).trans (f26 79 (by decide))) hI111
  have p62 : jKept σ34 := jKept.fr ((f36 75 (by decide)).trans (f26 75 (by decide))) ((f36 76 (by decide)).trans (f26 76 (by decide))) ((f36 77 (by decide)).trans (f26 77 (by decide))) hs_jKept
  have p63 : jBook σ34 := jBook.fr ((f37 47 (by decide)).trans (congrFun (f26 55 (by decide)) 47)) ((f37 10 (by decide)).trans (congrFun (f26 55 (by decide)) 10)) ((f36 81 (by decide)).trans (f26 81 (by decide))) hs_jBook
  have z64 : (σ34 2 0).toInt = (σ 2 0).toInt := (congrArg Int32.toInt (show σ34 2 0 = (σ 2 0) from ((congrFun (f36 2 (by decide)) 0).trans (congrFun (f26 2 (by decide)) 0))))
  have z65 : (σ34 55 6).toInt = (σ 55 6).toInt := (congrArg Int32.toInt (show σ34 55 6 = (σ 55 6) from ((f37 6 (by decide)).trans (congrFun (f26 55 (by decide)) 6))))
  have z66 : (σ34 2 2).toInt = (σ 2 2).toInt := (congrArg Int32.toInt (show σ34 2 2 = (σ 2 2) from ((congrFun (f36 2 (by decide)) 2).trans (congrFun (f26 2 (by decide)) 2))))
  have z67 : (σ34 55 5).toInt = (σ 55 5).toInt := (congrArg Int32.toInt (show σ34 55 5 = (σ 55 5) from ((f37 5 (by decide)).trans (congrFun (f26 55 (by decide)) 5))))
  have z68 : (σ34 2 3).toInt = (σ 2 3).toInt := (congrArg Int32.toInt (show σ34 2 3 = (σ 2 3) from ((congrFun (f36 2 (by decide)) 3).trans (congrFun (f26 2 (by decide)) 3))))
  have z69 : (σ34 55 4).toInt = (σ 55 4).toInt := (congrArg Int32.toInt (show σ34 55 4 = (σ 55 4) from ((f37 4 (by decide)).trans (congrFun (f26 55 (by decide)) 4))))
  exact ih x40 σ34 τ _ _ ls (by have h9 := tx40; omega) ⟨I41, I42, I43, I44, I45, I46, I47, I48, I49, I50, I51, I52, I53, I54, I55, I56, I57, I58, I59, I60, I61, I38, p62, p63, (by omega), (by omega), (by omega), (show jNumP (σ34 3) (σ34 56) (σ34 6) (σ34 57) (σ34 7) (σ34 58) (σ34 8) (σ34 59) (σ34 55 6).toInt (σ34 55 4).toInt by rw [show σ34 3 = σ 3 from ((f36 3 (by decide)).trans (f26 3 (by decide))), show σ34 56 = σ 56 from ((f36 56 (by decide)).trans (f26 56 (by decide))), show σ34 6 = σ 6 from ((f36 6 (by decide)).trans (f26 6 (by decide))), show σ34 57 = σ 57 from ((f36 57 (by decide)).trans (f26 57 (by decide))), show σ34 7 = σ 7 from ((f36 7 (by decide)).trans (f26 7 (by decide))), show σ34 58 = σ 58 from ((f36 58 (by decide)).trans (f26 58 (by decide))), show σ34 8 = σ 8 from ((f36 8 (by decide)).trans (f26 8 (by decide))), show σ34 59 = σ 59 from ((f36 59 (by decide)).trans (f26 59 (by decide))), show (σ34 55 6).toInt = (σ 55 6).toInt from by omega, show (σ34 55 4).toInt = (σ 55 4).toInt from by omega]; exact hr0)⟩ hP hS (lv_sub hl [0, 1, 2, 3] rfl)
set_option maxHeartbeats 4000000 in
set_option maxRecDepth 100000 in
theorem law_case_9 {p : Program} {e : Env} {s : State} {m : MethodId} {below : List Frame} {meth : Method} {c : Code} (l : Launch) {b L : Nat} {xs : Nat → Int32} {D : va_G} {cI cL : ClassId} {ad zz : Nat → Nat} (C0 : lw_At p s m meth c b L xs) (hJ : jD ad) (hA : ∀ q, jA ad q → s.heap.size ≤ q) (hK : jK D cI cL s) (hZ : jZ zz (fun q : Nat => s.heap.size ≤ q) s s.heap) {x0 : Int32} (hx0 : 0 ≤ x0.toInt) (hxL : x0.toInt + 6 ≤ (L : Int)) (hL : L ≤ 384) {σ : Nat → Nat → Int32} {τ : Nat → Nat → Int64} {H : Heap} {locs : List Loc} (hS : va_S (fun q : Nat => s.heap.size ≤ q) s.heap H locs) {ls : Array Slot} (hAll : jAll σ τ) (hP : jH D cI cL ad σ τ H) (hl : lv_has ls 4 [(3, .int x0), (2, .ref (ad 55)), (1, .ref (ad 0)), (0, .ref b)]) (ih : ∀ (x1 : Int32) (σ : Nat → Nat → Int32) (τ : Nat → Nat → Int64) (H : Heap) (locs : List Loc) (ls : Array Slot), x1.toInt = x0.toInt + 6 → jAll σ τ → jH D cI cL ad σ τ H → va_S (fun q : Nat => s.heap.size ≤ q) s.heap H locs → lv_has ls 4 [(3, .int x1), (2, .ref (ad 55)), (1, .ref (ad 0)), (0, .ref b)] → W p l e room_1 s m #[Value.ref b] below meth c H locs 90 348600 (lw_Z below #[Value.ref b] s) (F0 m 18 ls [])) : W p l e room_1 s m #[Value.ref b] below meth c H locs 90 348600 (lw_Z below #[Value.ref b] s) (F0 m 483 ls []) := by
  obtain ⟨hx, hb, hr, hml, hown, hts0, hX, hbl, hlocks, hgv⟩ := C0
  have hts : ∀ w ∈ wsL_law, w.before #[Value.ref b] s = true := fun w h => hts0 w (wsL_law_in w h)
  have hbA : ¬ (fun q : Nat => s.heap.size ≤ q) b := Nat.not_le.mpr hbl
  have hown : s.vm.findClass RL = some m.cls := hown
  obtain ⟨hI2, hI9, hI12, hI16, hI18, hI22, hI31, hI38, hI43, hI47, hI50, hI101, hI102, hI103, hI104, hI105, hI106, hI107, hI109, hI110, hI111, hI119, hs_jKept, hs_jBook, ht0, ht1, ht2, hr0⟩ := hAll
  have hL9 : (L : Int) ≤ 384 := by omega
  obtain ⟨i1, i2, i3, i4, i5, w6⟩ : (0 ≤ (σ 2 0).toInt ∧ (σ 2 0).toInt ≤ 4) ∧ (0 ≤ (σ 2 1).toInt ∧ (σ 2 1).toInt ≤ 3) ∧ (0 ≤ (σ 2 2).toInt) ∧ (0 ≤ (σ 2 3).toInt) ∧ ((σ 2 2).toInt + (σ 2 3).toInt ≤ 40) ∧ (∀ k : Nat, k < 40 → 0 ≤ (σ 6 k).toInt ∧ (σ 6 k).toInt ≤ 67) := id hI2
  obtain ⟨i7, i8, i9, w10, w11, w12, w13⟩ : (0 ≤ (σ 55 5).toInt) ∧ ((σ 55 5).toInt ≤ (σ 55 4).toInt) ∧ ((σ 55 4).toInt ≤ 40) ∧ (∀ k : Nat, k < 68 → (-200) ≤ (σ 56 k).toInt ∧ (σ 56 k).toInt ≤ 500) ∧ (∀ k : Nat, k < 40 → 0 ≤ (σ 57 k).toInt ∧ (σ 57 k).toInt ≤ 67) ∧ (∀ k : Nat, k < 40 → (-200) ≤ (σ 58 k).toInt ∧ (σ 58 k).toInt ≤ 500) ∧ (∀ k : Nat, k < 40 → (-200) ≤ (σ 59 k).toInt ∧ (σ 59 k).toInt ≤ 500) := id hI101
  obtain ⟨i14, w15, w16⟩ : (0 ≤ (σ 55 6).toInt ∧ (σ 55 6).toInt ≤ 4) ∧ (∀ k : Nat, k < 4 → 0 ≤ (σ 60 k).toInt ∧ (σ 60 k).toInt ≤ 50) ∧ (∀ k : Nat, k < 4 → 0 ≤ (σ 61 k).toInt ∧ (σ 61 k).toInt ≤ 20) := id hI102
  refine lv_aload_n hx hb dL_law_483 rfl (lv_at hl 2 rfl) ?_
  refine lv_aload_n hx hb dL_law_484 rfl (lv_at hl 3 rfl) ?_
  refine lv_iload_n hx hb dL_law_485 rfl (lv_at hl 0 rfl) ?_
  refine lv_iconst (v := 1) hx hb dL_law_486 (by decide) ?_
  have g17 := jrg (rfl : x0.toInt = x0.toInt)
  refine lv_iadd hx hb dL_law_487 ?_
  refine lv_topi (fun x18 ex18 => ?_)
  have tx18 : x18.toInt = x0.toInt + 1 := (jadd ex18 rfl jz_1 (by omega) (by omega)).trans (by omega)
  refine va_sld hx hb hX hbl hbA hS (jin tx18 (by omega) (by omega)) dL_law_488 ?_
  have g19 := jrg (rfl : (xs x18.toNatClampNeg).toInt = (xs x18.toNatClampNeg).toInt)
  refine lv_aload_n hx hb dL_law_489 rfl (lv_at hl 3 rfl) ?_
  refine lv_iload_n hx hb dL_law_490 rfl (lv_at hl 0 rfl) ?_
  refine lv_iconst (v := 2) hx hb dL_law_491 (by decide) ?_
  refine lv_iadd hx hb dL_law_492 ?_
  refine lv_topi (fun x20 ex20 => ?_)
  have tx20 : x20.toInt = x0.toInt + 2 := (jadd ex20 rfl jz_2 (by omega) (by omega)).trans (by omega)
  refine va_sld hx hb hX hbl hbA hS (jin tx20 (by omega) (by omega)) dL_law_493 ?_
  have g21 := jrg (rfl : (xs x20.toNatClampNeg).toInt = (xs x20.toNatClampNeg).toInt)
  refine lv_aload_n hx hb dL_law_494 rfl (lv_at hl 3 rfl) ?_
  refine lv_iload_n hx hb dL_law_495 rfl (lv_at hl 0 rfl) ?_
  refine lv_iconst (v := 3) hx hb dL_law_496 (by decide) ?_
  refine lv_iadd hx hb dL_law_497 ?_
  refine lv_topi (fun x22 ex22 => ?_)
  have tx22 : x22.toInt = x0.toInt + 3 := (jadd ex22 rfl jz_3 (by omega) (by omega)).trans (by omega)
  refine va_sld hx hb hX hbl hbA hS (jin tx22 (by omega) (by omega)) dL_law_498 ?_
  have g23 := jrg (rfl : (xs x22.toNatClampNeg).toInt = (xs x22.toNatClampNeg).toInt)
  refine jcallV (As := [.int (xs x18.toNatClampNeg), .int (xs x20.toNatClampNeg), .int (xs x22.toNatClampNeg)]) (rest := []) ⟨hx, hb, hml, hown, hts⟩ hK hP hA hS hZ (c_X11_rule l D cI cL ad zz hJ σ τ (xs x18.toNatClampNeg) ((xs x18.toNatClampNeg).toInt) rfl (xs x20.toNatClampNeg) ((xs x20.toNatClampNeg).toInt) rfl (xs x22.toNatClampNeg) ((xs x22.toNatClampNeg).toInt) rfl hI38) cw_RL_53 (jc_0 cI cL ad σ τ) rfl ⟨Nat.le_of_ble_eq_true rfl, Nat.le_of_ble_eq_true rfl⟩ rfl rfl rfl hl.1 rfl (Nat.le_of_ble_eq_true rfl) dL_law_499 ⟨Nat.le_of_ble_eq_true rfl, Nat.le_of_ble_eq_true rfl⟩ (fun r25 σ24 τ24 H locs h24 hP hS => ?_)
  obtain ⟨rfl, f26, f27, I28, h24⟩ := h24
  rcases h24 with h30 | h31 | h32
  · obtain ⟨q36, k33, k34, k35⟩ := h30
    have q36 := q36.symm
    subst q36
    refine lv_pop hx hb dL_law_502 rfl ?_
    refine lv_aload_n hx hb dL_law_503 rfl (lv_at hl 1 rfl) ?_
    refine lv_aload_n hx hb dL_law_504 rfl (lv_at hl 3 rfl) ?_
    refine lv_iload_n hx hb dL_law_505 rfl (lv_at hl 0 rfl) ?_
    refine lv_iconst (v := 1) hx hb dL_law_506 (by decide) ?_
    refine lv_iadd hx hb dL_law_507 ?_
    refine jtopr ex18.symm ?_
    refine va_sld hx hb hX hbl hbA hS (jin tx18 (by omega) (by omega)) dL_law_508 ?_
    refine lv_aload_n hx hb dL_law_509 rfl (lv_at hl 3 rfl) ?_
    refine lv_iload_n hx hb dL_law_510 rfl (lv_at hl 0 rfl) ?_
    refine lv_iconst (v := 2) hx hb dL_law_511 (by decide) ?_
    refine lv_iadd hx hb dL_law_512 ?_
    refine jtopr ex20.symm ?_
    refine va_sld hx hb hX hbl hbA hS (jin tx20 (by omega) (by omega)) dL_law_513 ?_
    refine lv_aload_n hx hb dL_law_514 rfl (lv_at hl 3 rfl) ?_
    refine lv_iload_n hx hb dL_law_515 rfl (lv_at hl 0 rfl) ?_
    refine lv_iconst (v := 3) hx hb dL_law_516 (by decide) ?_
    refine lv_iadd hx hb dL_law_517 ?_
    refine jtopr ex22.symm ?_
    refine va_sld hx hb hX hbl hbA hS (jin tx22 (by omega) (by omega)) dL_law_518 ?_
    have I37 : jI106 σ24 := jI106_fr (congrFun (f26 55 (by decide)) 32) (f26 70 (by decide)) (f26 71 (by decide)) (f26 72 (by decide)) hI106
    have z38 : (σ24 55 32).toInt = (σ 55 32).toInt := (congrArg Int32.toInt (show σ24 55 32 = (σ 55 32) from (congrFun (f26 55 (by decide)) 32)))
    refine jcallV (As := [.int (xs x18.toNatClampNeg), .int (xs x20.toNatClampNeg), .int (xs x22.toNatClampNeg)]) (rest := []) ⟨hx, hb, hml, hown, hts⟩ hK hP hA hS hZ (c_X12_rule l D cI cL ad zz hJ σ24 τ (xs x18.toNatClampNeg) ((xs x18.toNatClampNeg).toInt) rfl (xs x20.toNatClampNeg) ((xs x20.toNatClampNeg).toInt) rfl (xs x22.toNatClampNeg) ((xs x22.toNatClampNeg).toInt) rfl I37) cw_RL_56 (jc_55 cI cL ad σ24 τ) rfl ⟨Nat.le_of_ble_eq_true rfl, Nat.le_of_ble_eq_true rfl⟩ rfl rfl rfl hl.1 rfl (Nat.le_of_ble_eq_true rfl) dL_law_519 ⟨Nat.le_of_ble_eq_true rfl, Nat.le_of_ble_eq_true rfl⟩ (fun r40 σ39 τ39 H locs h39 hP hS => ?_)
    obtain ⟨rfl, f41, f42, I43, h39⟩ := h39
    rcases h39 with h45 | h46 | h47
    · obtain ⟨q51, k48, k49, k50⟩ := h45
      have q51 := q51.symm
      subst q51
      refine lv_pop hx hb dL_law_522 rfl ?_
      refine lv_goto (tgt := 1357) hx hb dL_law_523 (by decide) ?_
      obtain ⟨x52, ex52⟩ : ∃ y : Int32, y = x0 + 6 := ⟨_, rfl⟩
      have tx52 : x52.toInt = x0.toInt + 6 := (jadd ex52 rfl jz_6 (by omega) (by omega)).trans (by omega)
      refine lv_iinc (v := x52) (lv' := [(3, .int x52), (2, .ref (ad 55)), (1, .ref (ad 0)), (0, .ref b)]) hx hb dL_law_1357 hl (k := 0) rfl (by rw [ex52]; rfl) (by decide) rfl (fun ls hl => ?_)
      refine lv_goto (tgt := 18) hx hb dL_law_1360 (by decide) ?_
      have I53 : jI2 σ39 := jI2_fr ((congrFun (f41 2 (by decide)) 0).trans (congrFun (f26 2 (by decide)) 0)) ((congrFun (f41 2 (by decide)) 1).trans (congrFun (f26 2 (by decide)) 1)) ((congrFun (f41 2 (by decide)) 2).trans (congrFun (f26 2 (by decide)) 2)) ((congrFun (f41 2 (by decide)) 3).trans (congrFun (f26 2 (by decide)) 3)) ((f41 6 (by decide)).trans (f26 6 (by decide))) hI2
      have I54 : jI9 σ39 := jI9_fr ((congrFun (f41 9 (by decide)) 0).trans (congrFun (f26 9 (by decide)) 0)) ((f41 10 (by decide)).trans (f26 10 (by decide))) ((f41 11 (by decide)).trans (f26 11 (by decide))) hI9
      have I55 : jI12 σ39 := jI12_fr ((congrFun (f41 12 (by decide)) 0).trans (congrFun (f26 12 (by decide)) 0)) ((f41 13 (by decide)).trans (f26 13 (by decide))) hI12
      have I56 : jI16 σ39 := jI16_fr ((congrFun (f41 16 (by decide)) 0).trans (congrFun (f26 16 (by decide)) 0)) ((congrFun (f41 16 (by decide)) 1).trans (congrFun (f26 16 (by decide)) 1)) ((congrFun (f41 16 (by decide)) 2).trans (congrFun (f26 16 (by decide)) 2)) ((f41 17 (by decide)).trans (f26 17 (by decide))) hI16
      have I57 : jI18 σ39 := jI18_fr ((congrFun (f41 18 (by decide)) 0).trans (congrFun (f26 18 (by decide)) 0)) ((f41 19 (by decide)).trans (f26 19 (by decide))) hI18
      have I58 : jI22 σ39 := jI22_fr ((congrFun (f41 22 (by decide)) 0).trans (congrFun (f26 22 (by decide)) 0)) ((f41 23 (by decide)).trans (f26 23 (by decide))) hI22
      have I59 : jI31 σ39 := jI31_fr ((congrFun (f41 31 (by decide)) 8).trans (congrFun (f26 31 (by decide)) 8)) ((f41 33 (by decide)).trans (f26 33 (by decide))) ((f41 36 (by decide)).trans (f26 36 (by decide))) hI31
      have I60 : jI38 σ39 := jI38_fr (congrFun (f41 38 (by decide)) 0) (congrFun (f41 38 (by decide)) 1) (f41 39 (by decide)) I28
      have I61 : jI43 σ39 := jI43_fr ((congrFun (f41 43 (by decide)) 8).trans (congrFun (f26 43 (by decide)) 8)) hI43
      have I62 : jI47 σ39 := jI47_fr ((congrFun (f41 47 (by decide)) 0).trans (congrFun (f26 47 (by decide)) 0)) ((f41 48 (by decide)).trans (f26 48 (by decide))) ((f41 49 (by decide)).trans (f26 49 (by decide))) hI47
      have I63 : jI50 σ39 := jI50_fr ((f41 52 (by decide)).trans (f26 52 (by decide))) hI50
      have I64 : jI101 σ39 := jI101_fr ((f42 4 (by decide)).trans (congrFun (f26 55 (by decide)) 4)) ((f42 5 (by decide)).trans (congrFun (f26 55 (by decide)) 5)) ((f41 56 (by decide)).trans (f26 56 (by decide))) ((f41 57 (by decide)).trans (f26 57 (by decide))) ((f41 58 (by decide)).trans (f26 58 (by decide))) ((f41 59 (by decide)).trans (f26 59 (by decide))) hI101
      have I65 : jI102 σ39 := jI102_fr ((f42 6 (by decide)).trans (congrFun (f26 55 (by decide)) 6)) ((f41 60 (by decide)).trans (f26 60 (by decide))) ((f41 61 (by decide)).trans (f26 61 (by decide))) hI102
      have I66 : jI103 σ39 := jI103_fr ((f42 9 (by decide)).trans (congrFun (f26 55 (by decide)) 9)) hI103
      have I67 : jI104 σ39 := jI104_fr ((f42 10 (by decide)).trans (congrFun (f26 55 (by decide)) 10)) ((f42 12 (by decide)).trans (congrFun (f26 55 (by decide)) 12)) ((f42 13 (by decide)).trans (congrFun (f26 55 (by decide)) 13)) ((f41 62 (by decide)).trans (f26 62 (by decide))) ((f41 67 (by decide)).trans (f26 67 (by decide))) hI104
      have I68 : jI105 σ39 := jI105_fr ((f42 15 (by decide)).trans (congrFun (f26 55 (by decide)) 15)) ((f41 65 (by decide)).trans (f26 65 (by decide))) hI105
      have I69 : jI107 σ39 := jI107_fr ((f42 12 (by decide)).trans (congrFun (f26 55 (by decide)) 12)) ((f42 47 (by decide)).trans (congrFun (f26 55 (by decide)) 47)) ((f41 80 (by decide)).trans (f26 80 (by decide))) hI107
      have I70 : jI109 σ39 := jI109_fr ((f42 50 (by decide)).trans (congrFun (f26 55 (by decide)) 50)) hI109
      have I71 : jI110 σ39 := jI110_fr ((f41 86 (by decide)).trans (f26 86 (by decide))) ((f41 87 (by decide)).trans (f26 87 (by decide))) hI110
      have I72 : jI111 σ39 := jI111_fr ((f41 79 (by decide)).trans (f26 79 (by decide))) hI111
      have I73 : jI119 σ39 := jI119_fr ((f41 68 (by decide)).trans (f26 68 (by decide))) hI119
      have p74 : jKept σ39 := jKept.fr ((f41 75 (by decide)).trans (f26 75 (by decide))) ((f41 76 (by decide)).trans (f26 76 (by decide))) ((f41 77 (by decide)).trans (f26 77 (by decide))) hs_jKept
      have p75 : jBook σ39 := jBook.fr ((f42 47 (by decide)).trans (congrFun (f26 55 (by decide)) 47)) ((f42 10 (by decide)).trans (congrFun (f26 55 (by decide)) 10)) ((f41 81 (by decide)).trans (f26 81 (by decide))) hs_jBook
      have z76 : (σ39 2 0).toInt = (σ 2 0).toInt := (congrArg Int32.toInt (show σ39 2 0 = (σ 2 0) from ((congrFun (f41 2 (by decide)) 0).trans (congrFun (f26 2 (by decide)) 0))))
      have z77 : (σ39 55 6).toInt = (σ 55 6).toInt := (congrArg Int32.toInt (show σ39 55 6 = (σ 55 6) from ((f42 6 (by decide)).trans (congrFun (f26 55 (by decide)) 6))))
      have z78 : (σ39 2 2).toInt = (σ 2 2).toInt := (congrArg Int32.toInt (show σ39 2 2 = (σ 2 2) from ((congrFun (f41 2 (by decide)) 2).trans (congrFun (f26 2 (by decide)) 2))))
      have z79 : (σ39 55 5).toInt = (σ 55 5).toInt := (congrArg Int32.toInt (show σ39 55 5 = (σ 55 5) from ((f42 5 (by decide)).trans (congrFun (f26 55 (by decide)) 5))))
      have z80 : (σ39 2 3).toInt = (σ 2 3).toInt := (congrArg Int32.toInt (show σ39 2 3 = (σ 2 3) from ((congrFun (f41 2 (by decide)) 3).trans (congrFun (f26 2 (by decide)) 3))))
      have z81 : (σ39 55 4).toInt = (σ 55 4).toInt := (congrArg Int32.toInt (show σ39 55 4 = (σ 55 4) from ((f42 4 (by decide)).trans (congrFun (f26 55 (by decide)) 4))))
      exact ih x52 σ39 τ _ _ ls (by have h9 := tx52; omega) ⟨I53, I54, I55, I56, I57, I58, I59, I60, I61, I62, I63, I64, I65, I66, I67, I68, I43, I69, I70, I71, I72, I73, p74, p75, (by omega), (by omega), (by omega), (show jNumP (σ39 3) (σ39 56) (σ39 6) (σ39 57) (σ39 7) (σ39 58) (σ39 8) (σ39 59) (σ39 55 6).toInt (σ39 55 4).toInt by rw [show σ39 3 = σ 3 from ((f41 3 (by decide)).trans (f26 3 (by decide))), show σ39 56 = σ 56 from ((f41 56 (by decide)).trans (f26 56 (by decide))), show σ39 6 = σ 6 from ((f41 6 (by decide)).trans (f26 6 (by decide))), show σ39 57 = σ 57 from ((f41 57 (by decide)).trans (f26 57 (by decide))), show σ39 7 = σ 7 from ((f41 7 (by decide)).trans (f26 7 (by decide))), show σ39 58 = σ 58 from ((f41 58 (by decide)).trans (f26 58 (by decide))), show σ39 8 = σ 8 from ((f41 8 (by decide)).trans (f26 8 (by decide))), show σ39 59 = σ 59 from ((f41 59 (by decide)).trans (f26 59 (by decide))), show (σ39 55 6).toInt = (σ 55 6).toInt from by omega, show (σ39 55 4).toInt = (σ 55 4).toInt from by omega]; exact hr0)⟩ hP hS (lv_sub hl [0, 1, 2, 3] rfl)
    · obtain ⟨q86, k82, k83, k84, k85⟩ := h46
      have q86 := q86.symm
      subst q86
      exact absurd k84 k34
    · obtain ⟨q92, k87, k88, k89, k90, k91⟩ := h47
      exact absurd k90 k34
  · obtain ⟨q97, k93, k94, k95, k96⟩ := h31
    have q97 := q97.symm
    subst q97
    refine lv_pop hx hb dL_law_502 rfl ?_
    refine lv_aload_n hx hb dL_law_503 rfl (lv_at hl 1 rfl) ?_
    refine lv_aload_n hx hb dL_law_504 rfl (lv_at hl 3 rfl) ?_
    refine lv_iload_n hx hb dL_law_505 rfl (lv_at hl 0 rfl) ?_
    refine lv_iconst (v := 1) hx hb dL_law_506 (by decide) ?_
    refine lv_iadd hx hb dL_law_507 ?_
    refine jtopr ex18.symm ?_
    refine va_sld hx hb hX hbl hbA hS (jin tx18 (by omega) (by omega)) dL_law_508 ?_
    refine lv_aload_n hx hb dL_law_509 rfl (lv_at hl 3 rfl) ?_
    refine lv_iload_n hx hb dL_law_510 rfl (lv_at hl 0 rfl) ?_
    refine lv_iconst (v := 2) hx hb dL_law_511 (by decide) ?_
    refine lv_iadd hx hb dL_law_512 ?_
    refine jtopr ex20.symm ?_
    refine va_sld hx hb hX hbl hbA hS (jin tx20 (by omega) (by omega)) dL_law_513 ?_
    refine lv_aload_n hx hb dL_law_514 rfl (lv_at hl 3 rfl) ?_
    refine lv_iload_n hx hb dL_law_515 rfl (lv_at hl 0 rfl) ?_
    refine lv_iconst (v := 3) hx hb dL_law_516 (by decide) ?_
    refine lv_iadd hx hb dL_law_517 ?_
    refine jtopr ex22.symm ?_
    refine va_sld hx hb hX hbl hbA hS (jin tx22 (by omega) (by omega)) dL_law_518 ?_
    have I98 : jI106 σ24 := jI106_fr (congrFun (f26 55 (by decide)) 32) (f26 70 (by decide)) (f26 71 (by decide)) (f26 72 (by decide)) hI106
    have z99 : (σ24 55 32).toInt = (σ 55 32).toInt := (congrArg Int32.toInt (show σ24 55 32 = (σ 55 32) from (congrFun (f26 55 (by decide)) 32)))
    refine jcallV (As := [.int (xs x18.toNatClampNeg), .int (xs x20.toNatClampNeg), .int (xs x22.toNatClampNeg)]) (rest := []) ⟨hx, hb, hml, hown, hts⟩ hK hP hA hS hZ (c_X12_rule l D cI cL ad zz hJ σ24 τ (xs x18.toNatClampNeg) ((xs x18.toNatClampNeg).toInt) rfl (xs x20.toNatClampNeg) ((xs x20.toNatClampNeg).toInt) rfl (xs x22.toNatClampNeg) ((xs x22.toNatClampNeg).toInt) rfl I98) cw_RL_56 (jc_55 cI cL ad σ24 τ) rfl ⟨Nat.le_of_ble_eq_true rfl, Nat.le_of_ble_eq_true rfl⟩ rfl rfl rfl hl.1 rfl (Nat.le_of_ble_eq_true rfl) dL_law_519 ⟨Nat.le_of_ble_eq_true rfl, Nat.le_of_ble_eq_true rfl⟩ (fun r101 σ100 τ100 H locs h100 hP hS => ?_)
    obtain ⟨rfl, f102, f103, I104, h100⟩ := h100
    rcases h100 with h106 | h107 | h108
    · obtain ⟨q112, k109, k110, k111⟩ := h106
      have q112 := q112.symm
      subst q112
      exact absurd k95 k110
    · obtain ⟨q117, k113, k114, k115, k116⟩ := h107
      have q117 := q117.symm
      subst q117
      refine lv_pop hx hb dL_law_522 rfl ?_
      refine lv_goto (tgt := 1357) hx hb dL_law_523 (by decide) ?_
      obtain ⟨x118, ex118⟩ : ∃ y : Int32, y = x0 + 6 := ⟨_, rfl⟩
      have tx118 : x118.toInt = x0.toInt + 6 := (jadd ex118 rfl jz_6 (by omega) (by omega)).trans (by omega)
      refine lv_iinc (v := x118) (lv' := [(3, .int x118), (2, .ref (ad 55)), (1, .ref (ad 0)), (0, .ref b)]) hx hb dL_law_1357 hl (k := 0) rfl (by rw [ex118]; rfl) (by decide) rfl (fun ls hl => ?_)
      refine lv_goto (tgt := 18) hx hb dL_law_1360 (by decide) ?_
      have I119 : jI2 σ100 := jI2_fr ((congrFun (f102 2 (by decide)) 0).trans (congrFun (f26 2 (by decide)) 0)) ((congrFun (f102 2 (by decide)) 1).trans (congrFun (f26 2 (by decide)) 1)) ((congrFun (f102 2 (by decide)) 2).trans (congrFun (f26 2 (by decide)) 2)) ((congrFun (f102 2 (by decide)) 3).trans (congrFun (f26 2 (by decide)) 3)) ((f102 6 (by decide)).trans (f26 6 (by decide))) hI2
      have I120 : jI9 σ100 := jI9_fr ((congrFun (f102 9 (by decide)) 0).trans (congrFun (f26 9 (by decide)) 0)) ((f102 10 (by decide)).trans (f26 10 (by decide))) ((f102 11 (by decide)).trans (f26 11 (by decide))) hI9
      have I121 : jI12 σ100 := jI12_fr ((congrFun (f102 12 (by decide)) 0).trans (congrFun (f26 12 (by decide)) 0)) ((f102 13 (by decide)).trans (f26 13 (by decide))) hI12
      have I122 : jI16 σ100 := jI16_fr ((congrFun (f102 16 (by decide)) 0).trans (congrFun (f26 16 (by decide)) 0)) ((congrFun (f102 16 (by decide)) 1).trans (congrFun (f26 16 (by decide)) 1)) ((congrFun (f102 16 (by decide)) 2).trans (congrFun (f26 16 (by decide)) 2)) ((f102 17 (by decide)).trans (f26 17 (by decide))) hI16
      have I123 : jI18 σ100 := jI18_fr ((congrFun (f102 18 (by decide)) 0).trans (congrFun (f26 18 (by decide)) 0)) ((f102 19 (by decide)).trans (f26 19 (by decide))) hI18
      have I124 : jI22 σ100 := jI22_fr ((congrFun (f102 22 (by decide)) 0).trans (congrFun (f26 22 (by decide)) 0)) ((f102 23 (by decide)).trans (f26 23 (by decide))) hI22
      have I125 : jI31 σ100 := jI31_fr ((congrFun (f102 31 (by decide)) 8).trans (congrFun (f26 31 (by decide)) 8)) ((f102 33 (by decide)).trans (f26 33 (by decide))) ((f102 36 (by decide)).trans (f26 36 (by decide))) hI31
      have I126 : jI38 σ100 := jI38_fr (congrFun (f102 38 (by decide)) 0) (congrFun (f102 38 (by decide)) 1) (f102 39 (by decide)) I28
      have I127 : jI43 σ100 := jI43_fr ((congrFun (f102 43 (by decide)) 8).trans (congrFun (f26 43 (by decide)) 8)) hI43
      have I128 : jI47 σ100 := jI47_fr ((congrFun (f102 47 (by decide)) 0).trans (congrFun (f26 47 (by decide)) 0)) ((f102 48 (by decide)).trans (f26 48 (by decide))) ((f102 49 (by decide)).trans (f26 49 (by decide))) hI47
      have I129 : jI50 σ100 := jI50_fr ((f102 52 (by decide)).trans (f26 52 (by decide))) hI50
      have I130 : jI101 σ100 := jI101_fr ((f103 4 (by decide)).trans (congrFun (f26 55 (by decide)) 4)) ((f103 5 (by decide)).trans (congrFun (f26 55 (by decide)) 5)) ((f102 56 (by decide)).trans (f26 56 (by decide))) ((f102 57 (by decide)).trans (f26 57 (by decide))) ((f102 58 (by decide)).trans (f26 58 (by decide))) ((f102 59 (by decide)).trans (f26 59 (by decide))) hI101
      have I131 : jI102 σ100 := jI102_fr ((f103 6 (by decide)).trans (congrFun (f26 55 (by decide)) 6)) ((f102 60 (by decide)).trans (f26 60 (by decide))) ((f102 61 (by decide)).trans (f26 61 (by decide))) hI102
      have I132 : jI103 σ100 := jI103_fr ((f103 9 (by decide)).trans (congrFun (f26 55 (by decide)) 9)) hI103
      have I133 : jI104 σ100 := jI104_fr ((f103 10 (by decide)).trans (congrFun (f26 55 (by decide)) 10)) ((f103 12 (by decide)).trans (congrFun (f26 55 (by decide)) 12)) ((f103 13 (by decide)).trans (congrFun (f26 55 (by decide)) 13)) ((f102 62 (by decide)).trans (f26 62 (by decide))) ((f102 67 (by decide)).trans (f26 67 (by decide))) hI104
      have I134 : jI105 σ100 := jI105_fr ((f103 15 (by decide)).trans (congrFun (f26 55 (by decide)) 15)) ((f102 65 (by decide)).trans (f26 65 (by decide))) hI105
      have I135 : jI107 σ100 := jI107_fr ((f103 12 (by decide)).trans (congrFun (f26 55 (by decide)) 12)) ((f103 47 (by decide)).trans (congrFun (f26 55 (by decide)) 47)) ((f102 80 (by decide)).trans (f26 80 (by decide))) hI107
      have I136 : jI109 σ100 := jI109_fr ((f103 50 (by decide)).trans (congrFun (f26 55 (by decide)) 50)) hI109
      have I137 : jI110 σ100 := jI110_fr ((f102 86 (by decide)).trans (f26 86 (by decide))) ((f102 87 (by decide)).trans (f26 87 (by decide))) hI110
      have I138 : jI111 σ100 := jI111_fr ((f102 79 (by decide)).trans (f26 79 (by decide))) hI111
      have I139 : jI119 σ100 := jI119_fr ((f102 68 (by decide)).trans (f26 68 (by decide))) hI119
      have p140 : jKept σ100 := jKept.fr ((f102 75 (by decide)).trans (f26 75 (by decide))) ((f102 76 (by decide)).trans (f26 76 (by decide))) ((f102 77 (by decide)).trans (f26 77 (by decide))) hs_jKept
      have p141 : jBook σ100 := jBook.fr ((f103 47 (by decide)).trans (congrFun (f26 55 (by decide)) 47)) ((f103 10 (by decide)).trans (congrFun (f26 55 (by decide)) 10)) ((f102 81 (by decide)).trans (f26 81 (by decide))) hs_jBook
      have z142 : (σ100 2 0).toInt = (σ 2 0).toInt := (congrArg Int32.toInt (show σ100 2 0 = (σ 2 0) from ((congrFun (f102 2 (by decide)) 0).trans (congrFun (f26 2 (by decide)) 0))))
      have z143 : (σ100 55 6).toInt = (σ 55 6).toInt := (congrArg Int32.toInt (show σ100 55 6 = (σ 55 6) from ((f103 6 (by decide)).trans (congrFun (f26 55 (by decide)) 6))))
      have z144 : (σ100 2 2).toInt = (σ 2 2).toInt := (congrArg Int32.toInt (show σ100 2 2 = (σ 2 2) from ((congrFun (f102 2 (by decide)) 2).trans (congrFun (f26 2 (by decide)) 2))))
      have z145 : (σ100 55 5).toInt = (σ 55 5).toInt := (congrArg Int32.toInt (show σ100 55 5 = (σ 55 5) from ((f103 5 (by decide)).trans (congrFun (f26 55 (by decide)) 5))))
      have z146 : (σ100 2 3).toInt = (σ 2 3).toInt := (congrArg Int32.toInt (show σ100 2 3 = (σ 2 3) from ((congrFun (f102 2 (by decide)) 3).trans (congrFun (f26 2 (by decide)) 3))))
      have z147 : (σ100 55 4).toInt = (σ 55 4).toInt := (congrArg Int32.toInt (show σ100 55 4 = (σ 55 4) from ((f103 4 (by decide)).trans (congrFun (f26 55 (by decide)) 4))))
      exact ih x118 σ100 τ _ _ ls (by have h9 := tx118; omega) ⟨I119, I120, I121, I122, I123, I124, I125, I126, I127, I128, I129, I130, I131, I132, I133, I134, I104, I135, I136, I137, I138, I139, p140, p141, (by omega), (by omega), (by omega), (show jNumP (σ100 3) (σ100 56) (σ100 6) (σ100 57) (σ100 7) (σ100 58) (σ100 8) (σ100 59) (σ100 55 6).toInt (σ100 55 4).toInt by rw [show σ100 3 = σ 3 from ((f102 3 (by decide)).trans (f26 3 (by decide))), show σ100 56 = σ 56 from ((f102 56 (by decide)).trans (f26 56 (by decide))), show σ100 6 = σ 6 from ((f102 6 (by decide)).trans (f26 6 (by decide))), show σ100 57 = σ 57 from ((f102 57 (by decide)).trans (f26 57 (by decide))), show σ100 7 = σ 7 from ((f102 7 (by decide)).trans (f26 7 (by decide))), show σ100 58 = σ 58 from ((f102 58 (by decide)).trans (f26 58 (by decide))), show σ100 8 = σ 8 from ((f102 8 (by decide)).trans (f26 8 (by decide))), show σ100 59 = σ 59 from ((f102 59 (by decide)).trans (f26 59 (by decide))), show (σ100 55 6).toInt = (σ 55 6).toInt from by omega, show (σ100 55 4).toInt = (σ 55 4).toInt from by omega]; exact hr0)⟩ hP hS (lv_sub hl [0, 1, 2, 3] rfl)
    · obtain ⟨q153, k148, k149, k150, k151, k152⟩ := h108
      refine lv_pop hx hb dL_law_522 rfl ?_
      refine lv_goto (tgt := 1357) hx hb dL_law_523 (by decide) ?_
      obtain ⟨x154, ex154⟩ : ∃ y : Int32, y = x0 + 6 := ⟨_, rfl⟩
      have tx154 : x154.toInt = x0.toInt + 6 := (jadd ex154 rfl jz_6 (by omega) (by omega)).trans (by omega)
      refine lv_iinc (v := x154) (lv' := [(3, .int x154), (2, .ref (ad 55)), (1, .ref (ad 0)), (0, .ref b)]) hx hb dL_law_1357 hl (k := 0) rfl (by rw [ex154]; rfl) (by decide) rfl (fun ls hl => ?_)
      refine lv_goto (tgt := 18) hx hb dL_law_1360 (by decide) ?_
      have I155 : jI2 σ100 := jI2_fr ((congrFun (f102 2 (by decide)) 0).trans (congrFun (f26 2 (by decide)) 0)) ((congrFun (f102 2 (by decide)) 1).trans (congrFun (f26 2 (by decide)) 1)) ((congrFun (f102 2 (by decide)) 2).trans (congrFun (f26 2 (by decide)) 2)) ((congrFun (f102 2 (by decide)) 3).trans (congrFun (f26 2 (by decide)) 3)) ((f102 6 (by decide)).trans (f26 6 (by decide))) hI2
      have I156 : jI9 σ100 := jI9_fr ((congrFun (f102 9 (by decide)) 0).trans (congrFun (f26 9 (by decide)) 0)) ((f102 10 (by decide)).trans (f26 10 (by decide))) ((f102 11 (by decide)).trans (f26 11 (by decide))) hI9
      have I157 : jI12 σ100 := jI12_fr ((congrFun (f102 12 (by decide)) 0).trans (congrFun (f26 12 (by decide)) 0)) ((f102 13 (by decide)).trans (f26 13 (by decide))) hI12
      have I158 : jI16 σ100 := jI16_fr ((congrFun (f102 16 (by decide)) 0).trans (congrFun (f26 16 (by decide)) 0)) ((congrFun (f102 16 (by decide)) 1).trans (congrFun (f26 16 (by decide)) 1)) ((congrFun (f102 16 (by decide)) 2).trans (congrFun (f26 16 (by decide)) 2)) ((f102 17 (by decide)).trans (f26 17 (by decide))) hI16
      have I159 : jI18 σ100 := jI18_fr ((congrFun (f102 18 (by decide)) 0).trans (congrFun (f26 18 (by decide)) 0)) ((f102 19 (by decide)).trans (f26 19 (by decide))) hI18
      have I160 : jI22 σ100 := jI22_fr ((congrFun (f102 22 (by decide)) 0).trans (congrFun (f26 22 (by decide)) 0)) ((f102 23 (by decide)).trans (f26 23 (by decide))) hI22
      have I161 : jI31 σ100 := jI31_fr ((congrFun (f102 31 (by decide)) 8).trans (congrFun (f26 31 (by decide)) 8)) ((f102 33 (by decide)).trans (f26 33 (by decide))) ((f102 36 (by decide)).trans (f26 36 (by decide))) hI31
      have I162 : jI38 σ100 := jI38_fr (congrFun (f102 38 (by decide)) 0) (congrFun (f102 38 (by decide)) 1) (f102 39 (by decide)) I28
      have I163 : jI43 σ100 := jI43_fr ((congrFun (f102 43 (by decide)) 8).trans (congrFun (f26 43 (by decide)) 8)) hI43
      have I164 : jI47 σ100 := jI47_fr ((congrFun (f102 47 (by decide)) 0).trans (congrFun (f26 47 (by decide)) 0)) ((f102 48 (by decide)).trans (f26 48 (by decide))) ((f102 49 (by decide)).trans (f26 49 (by decide))) hI47
      have I165 : jI50 σ100 := jI50_fr ((f102 52 (by decide)).trans (f26 52 (by decide))) hI50
      have I166 : jI101 σ100 := jI101_fr ((f103 4 (by decide)).trans (congrFun (f26 55 (by decide)) 4)) ((f103 5 (by decide)).trans (congrFun (f26 55 (by decide)) 5)) ((f102 56 (by decide)).trans (f26 56 (by decide))) ((f102 57 (by decide)).trans (f26 57 (by decide))) ((f102 58 (by decide)).trans (f26 58 (by decide))) ((f102 59 (by decide)).trans (f26 59 (by decide))) hI101
      have I167 : jI102 σ100 := jI102_fr ((f103 6 (by decide)).trans (congrFun (f26 55 (by decide)) 6)) ((f102 60 (by decide)).trans (f26 60 (by decide))) ((f102 61 (by decide)).trans (f26 61 (by decide))) hI102
      have I168 : jI103 σ100 := jI103_fr ((f103 9 (by decide)).trans (congrFun (f26 55 (by decide)) 9)) hI103
      have I169 : jI104 σ100 := jI104_fr ((f103 10 (by decide)).trans (congrFun (f26 55 (by decide)) 10)) ((f103 12 (by decide)).trans (congrFun (f26 55 (by decide)) 12)) ((f103 13 (by decide)).trans (congrFun (f26 55 (by decide)) 13)) ((f102 62 (by decide)).trans (f26 62 (by decide))) ((f102 67 (by decide)).trans (f26 67 (by decide))) hI104
      have I170 : jI105 σ100 := jI105_fr ((f103 15 (by decide)).trans (congrFun (f26 55 (by decide)) 15)) ((f102 65 (by decide)).trans (f26 65 (by decide))) hI105
      have I171 : jI107 σ100 := jI107_fr ((f103 12 (by decide)).trans (congrFun (f26 55 (by decide)) 12)) ((f103 47 (by decide)).trans (congrFun (f26 55 (by decide)) 47)) ((f102 80 (by decide)).trans (f26 80 (by decide))) hI107
      have I172 : jI109 σ100 := jI109_fr ((f103 50 (by decide)).trans (congrFun (f26 55 (by decide)) 50)) hI109
      have I173 : jI110 σ100 := jI110_fr ((f102 86 (by decide)).trans (f26 86 (by decide))) ((f102 87 (by decide)).trans (f26 87 (by decide))) hI110
      have I174 : jI111 σ100 := jI111_fr ((f102 79 (by decide)).trans (f26 79 (by decide))) hI111
      have I175 : jI119 σ100 := jI119_fr ((f102 68 (by decide)).trans (f26 68 (by decide))) hI119
      have p176 : jKept σ100 := jKept.fr ((f102 75 (by decide)).trans (f26 75 (by decide))) ((f102 76 (by decide)).trans (f26 76 (by decide))) ((f102 77 (by decide)).trans (f26 77 (by decide))) hs_jKept
      have p177 : jBook σ100 := jBook.fr ((f103 47 (by decide)).trans (congrFun (f26 55 (by decide)) 47)) ((f103 10 (by decide)).trans (congrFun (f26 55 (by decide)) 10)) ((f102 81 (by decide)).trans (f26 81 (by decide))) hs_jBook
      have z178 : (σ100 2 0).toInt = (σ 2 0).toInt := (congrArg Int32.toInt (show σ100 2 0 = (σ 2 0) from ((congrFun (f102 2 (by decide)) 0).trans (congrFun (f26 2 (by decide)) 0))))
      have z179 : (σ100 55 6).toInt = (σ 55 6).toInt := (congrArg Int32.toInt (show σ100 55 6 = (σ 55 6) from ((f103 6 (by decide)).trans (congrFun (f26 55 (by decide)) 6))))
      have z180 : (σ100 2 2).toInt = (σ 2 2).toInt := (congrArg Int32.toInt (show σ100 2 2 = (σ 2 2) from ((congrFun (f102 2 (by decide)) 2).trans (congrFun (f26 2 (by decide)) 2))))
      have z181 : (σ100 55 5).toInt = (σ 55 5).toInt := (congrArg Int32.toInt (show σ100 55 5 = (σ 55 5) from ((f103 5 (by decide)).trans (congrFun (f26 55 (by decide)) 5))))
      have z182 : (σ100 2 3).toInt = (σ 2 3).toInt := (congrArg Int32.toInt (show σ100 2 3 = (σ 2 3) from ((congrFun (f102 2 (by decide)) 3).trans (congrFun (f26 2 (by decide)) 3))))
      have z183 : (σ100 55 4).toInt = (σ 55 4).toInt := (congrArg Int32.toInt (show σ100 55 4 = (σ 55 4) from ((f103 4 (by decide)).trans (congrFun (f26 55 (by decide)) 4))))
      exact ih x154 σ100 τ _ _ ls (by have h9 := tx154; omega) ⟨I155, I156, I157, I158, I159, I160, I161, I162, I163, I164, I165, I166, I167, I168, I169, I170, I104, I171, I172, I173, I174, I175, p176, p177, (by omega), (by omega), (by omega), (show jNumP (σ100 3) (σ100 56) (σ100 6) (σ100 57) (σ100 7) (σ100 58) (σ100 8) (σ100 59) (σ100 55 6).toInt (σ100 55 4).toInt by rw [show σ100 3 = σ 3 from ((f102 3 (by decide)).trans (f26 3 (by decide))), show σ100 56 = σ 56 from ((f102 56 (by decide)).trans (f26 56 (by decide))), show σ100 6 = σ 6 from ((f102 6 (by decide)).trans (f26 6 (by decide))), show σ100 57 = σ 57 from ((f102 57 (by decide)).trans (f26 57 (by decide))), show σ100 7 = σ 7 from ((f102 7 (by decide)).trans (f26 7 (by decide))), show σ100 58 = σ 58 from ((f102 58 (by decide)).trans (f26 58 (by decide))), show σ100 8 = σ 8 from ((f102 8 (by decide)).trans (f26 8 (by decide))), show σ100 59 = σ 59 from ((f102 59 (by decide)).trans (f26 59 (by decide))), show (σ100 55 6).toInt = (σ 55 6).toInt from by omega, show (σ100 55 4).toInt = (σ 55 4).toInt from by omega]; exact hr0)⟩ hP hS (lv_sub hl [0, 1, 2, 3] rfl)
  · obtain ⟨q189, k184, k185, k186, k187, k188⟩ := h32
    refine lv_pop hx hb dL_law_502 rfl ?_
    refine lv_aload_n hx hb dL_law_503 rfl (lv_at hl 1 rfl) ?_
    refine lv_aload_n hx hb dL_law_504 rfl (lv_at hl 3 rfl) ?_
    refine lv_iload_n hx hb dL_law_505 rfl (lv_at hl 0 rfl) ?_
    refine lv_iconst (v := 1) hx hb dL_law_506 (by decide) ?_
    refine lv_iadd hx hb dL_law_507 ?_
    refine jtopr ex18.symm ?_
    refine va_sld hx hb hX hbl hbA hS (jin tx18 (by omega) (by omega)) dL_law_508 ?_
    refine lv_aload_n hx hb dL_law_509 rfl (lv_at hl 3 rfl) ?_
    refine lv_iload_n hx hb dL_law_510 rfl (lv_at hl 0 rfl) ?_
    refine lv_iconst (v := 2) hx hb dL_law_511 (by decide) ?_
    refine lv_iadd hx hb dL_law_512 ?_
    refine jtopr ex20.symm ?_
    refine va_sld hx hb hX hbl hbA hS (jin tx20 (by omega) (by omega)) dL_law_513 ?_
    refine lv_aload_n hx hb dL_law_514 rfl (lv_at hl 3 rfl) ?_
    refine lv_iload_n hx hb dL_law_515 rfl (lv_at hl 0 rfl) ?_
    refine lv_iconst (v := 3) hx hb dL_law_516 (by decide) ?_
    refine lv_iadd hx hb dL_law_517 ?_
    refine jtopr ex22.symm ?_
    refine va_sld hx hb hX hbl hbA hS (jin tx22 (by omega) (by omega)) dL_law_518 ?_
    have I190 : jI106 σ24 := jI106_fr (congrFun (f26 55 (by decide)) 32) (f26 70 (by decide)) (f26 71 (by decide)) (f26 72 (by decide)) hI106
    have z191 : (σ24 55 32).toInt = (σ 55 32).toInt := (congrArg Int32.toInt (show σ24 55 32 = (σ 55 32) from (congrFun (f26 55 (by decide)) 32)))
    refine jcallV (As := [.int (xs x18.toNatClampNeg), .int (xs x20.toNatClampNeg), .int (xs x22.toNatClampNeg)]) (rest := []) ⟨hx, hb, hml, hown, hts⟩ hK hP hA hS hZ (c_X12_rule l D cI cL ad zz hJ σ24 τ (xs x18.toNatClampNeg) ((xs x18.toNatClampNeg).toInt) rfl (xs x20.toNatClampNeg) ((xs x20.toNatClampNeg).toInt) rfl (xs x22.toNatClampNeg) ((xs x22.toNatClampNeg).toInt) rfl I190) cw_RL_56 (jc_55 cI cL ad σ24 τ) rfl ⟨Nat.le_of_ble_eq_true rfl, Nat.le_of_ble_eq_true rfl⟩ rfl rfl rfl hl.1 rfl (Nat.le_of_ble_eq_true rfl) dL_law_519 ⟨Nat.le_of_ble_eq_true rfl, Nat.le_of_ble_eq_true rfl⟩ (fun r193 σ192 τ192 H locs h192 hP hS => ?_)
    obtain ⟨rfl, f194, f195, I196, h192⟩ := h192
    rcases h192 with h198 | h199 | h200
    · obtain ⟨q204, k201, k202, k203⟩ := h198
      have q204 := q204.symm
      subst q204
      exact absurd k187 k202
    · obtain ⟨q209, k205, k206, k207, k208⟩ := h199
      have q209 := q209.symm
      subst q209
      refine lv_pop hx hb dL_law_522 rfl ?_
      refine lv_goto (tgt := 1357) hx hb dL_law_523 (by decide) ?_
      obtain ⟨x210, ex210⟩ : ∃ y : Int32, y = x0 + 6 := ⟨_, rfl⟩
      have tx210 : x210.toInt = x0.toInt + 6 := (jadd ex210 rfl jz_6 (by omega) (by omega)).trans (by omega)
      refine lv_iinc (v := x210) (lv' := [(3, .int x210), (2, .ref (ad 55)), (1, .ref (ad 0)), (0, .ref b)]) hx hb dL_law_1357 hl (k := 0) rfl (by rw [ex210]; rfl) (by decide) rfl (fun ls hl => ?_)
      refine lv_goto (tgt := 18) hx hb dL_law_1360 (by decide) ?_
      have I211 : jI2 σ192 := jI2_fr ((congrFun (f194 2 (by decide)) 0).trans (congrFun (f26 2 (by decide)) 0)) ((congrFun (f194 2 (by decide)) 1).trans (congrFun (f26 2 (by decide)) 1)) ((congrFun (f194 2 (by decide)) 2).trans (congrFun (f26 2 (by decide)) 2)) ((congrFun (f194 2 (by decide)) 3).trans (congrFun (f26 2 (by decide)) 3)) ((f194 6 (by decide)).trans (f26 6 (by decide))) hI2
      have I212 : jI9 σ192 := jI9_fr ((congrFun (f194 9 (by decide)) 0).trans (congrFun (f26 9 (by decide)) 0)) ((f194 10 (by decide)).trans (f26 10 (by decide))) ((f194 11 (by decide)).trans (f26 11 (by decide))) hI9
      have I213 : jI12 σ192 := jI12_fr ((congrFun (f194 12 (by decide)) 0).trans (congrFun (f26 12 (by decide)) 0)) ((f194 13 (by decide)).trans (f26 13 (by decide))) hI12
      have I214 : jI16 σ192 := jI16_fr ((congrFun (f194 16 (by decide)) 0).trans (congrFun (f26 16 (by decide)) 0)) ((congrFun (f194 16 (by decide)) 1).trans (congrFun (f26 16 (by decide)) 1)) ((congrFun (f194 16 (by decide)) 2).trans (congrFun (f26 16 (by decide)) 2)) ((f194 17 (by decide)).trans (f26 17 (by decide))) hI16
      have I215 : jI18 σ192 := jI18_fr ((congrFun (f194 18 (by decide)) 0).trans (congrFun (f26 18 (by decide)) 0)) ((f194 19 (by decide)).trans (f26 19 (by decide))) hI18
      have I216 : jI22 σ192 := jI22_fr ((congrFun (f194 22 (by decide)) 0).trans (congrFun (f26 22 (by decide)) 0)) ((f194 23 (by decide)).trans (f26 23 (by decide))) hI22
      have I217 : jI31 σ192 := jI31_fr ((congrFun (f194 31 (by decide)) 8).trans (congrFun (f26 31 (by decide)) 8)) ((f194 33 (by decide)).trans (f26 33 (by decide))) ((f194 36 (by decide)).trans (f26 36 (by decide))) hI31
      have I218 : jI38 σ192 := jI38_fr (congrFun (f194 38 (by decide)) 0) (congrFun (f194 38 (by decide)) 1) (f194 39 (by decide)) I28
      have I219 : jI43 σ192 := jI43_fr ((congrFun (f194 43 (by decide)) 8).trans (congrFun (f26 43 (by decide)) 8)) hI43
      have I220 : jI47 σ192 := jI47_fr ((congrFun (f194 47 (by decide)) 0).trans (congrFun (f26 47 (by decide)) 0)) ((f194 48 (by decide)).trans (f26 48 (by decide))) ((f194 49 (by decide)).trans (f26 49 (by decide))) hI47
      have I221 : jI50 σ192 := jI50_fr ((f194 52 (by decide)).trans (f26 52 (by decide))) hI50
      have I222 : jI101 σ192 := jI101_fr ((f195 4 (by decide)).trans (congrFun (f26 55 (by decide)) 4)) ((f195 5 (by decide)).trans (congrFun (f26 55 (by decide)) 5)) ((f194 56 (by decide)).trans (f26 56 (by decide))) ((f194 57 (by decide)).trans (f26 57 (by decide))) ((f194 58 (by decide)).trans (f26 58 (by decide))) ((f194 59 (by decide)).trans (f26 59 (by decide))) hI101
      have I223 : jI102 σ192 := jI102_fr ((f195 6 (by decide)).trans (congrFun (f26 55 (by decide)) 6)) ((f194 60 (by decide)).trans (f26 60 (by decide))) ((f194 61 (by decide)).trans (f26 61 (by decide))) hI102
      have I224 : jI103 σ192 := jI103_fr ((f195 9 (by decide)).trans (congrFun (f26 55 (by decide)) 9)) hI103
      have I225 : jI104 σ192 := jI104_fr ((f195 10 (by decide)).trans (congrFun (f26 55 (by decide)) 10)) ((f195 12 (by decide)).trans (congrFun (f26 55 (by decide)) 12)) ((f195 13 (by decide)).trans (congrFun (f26 55 (by decide)) 13)) ((f194 62 (by decide)).trans (f26 62 (by decide))) ((f194 67 (by decide)).trans (f26 67 (by decide))) hI104
      have I226 : jI105 σ192 := jI105_fr ((f195 15 (by decide)).trans (congrFun (f26 55 (by decide)) 15)) ((f194 65 (by decide)).trans (f26 65 (by decide))) hI105
      have I227 : jI107 σ192 := jI107_fr ((f195 12 (by decide)).trans (congrFun (f26 55 (by decide)) 12)) ((f195 47 (by decide)).trans (congrFun (f26 55 (by decide)) 47)) ((f194 80 (by decide)).trans (f26 80 (by decide))) hI107
      have I228 : jI109 σ192 := jI109_fr ((f195 50 (by decide)).trans (congrFun (f26 55 (by decide)) 50)) hI109
      have I229 : jI110 σ192 := jI110_fr ((f194 86 (by decide)).trans (f26 86 (by decide))) ((f194 87 (by decide)).trans (f26 87 (by decide))) hI110
      have I230 : jI111 σ192 := jI111_fr ((f194 79 (by decide)).trans (f26 79 (by decide))) hI111
      have I231 : jI119 σ192 := jI119_fr ((f194 68 (by decide)).trans (f26 68 (by decide))) hI119
      have p232 : jKept σ192 := jKept.fr ((f194 75 (by decide)).trans (f26 75 (by decide))) ((f194 76 (by decide)).trans (f26 76 (by decide))) ((f194 77 (by decide)).trans (f26 77 (by decide))) hs_jKept
      have p233 : jBook σ192 := jBook.fr ((f195 47 (by decide)).trans (congrFun (f26 55 (by decide)) 47)) ((f195 10 (by decide)).trans (congrFun (f26 55 (by decide)) 10)) ((f194 81 (by decide)).trans (f26 81 (by decide))) hs_jBook
      have z234 : (σ192 2 0).toInt = (σ 2 0).toInt := (congrArg Int32.toInt (show σ192 2 0 = (σ 2 0) from ((congrFun (f194 2 (by decide)) 0).trans (congrFun (f26 2 (by decide)) 0))))
      have z235 : (σ192 55 6).toInt = (σ 55 6).toInt := (congrArg Int32.toInt (show σ192 55 6 = (σ 55 6) from ((f195 6 (by decide)).trans (congrFun (f26 55 (by decide)) 6))))
      have z236 : (σ192 2 2).toInt = (σ 2 2).toInt := (congrArg Int32.toInt (show σ192 2 2 = (σ 2 2) from ((congrFun (f194 2 (by decide)) 2).trans (congrFun (f26 2 (by decide)) 2))))
      have z237 : (σ192 55 5).toInt = (σ 55 5).toInt := (congrArg Int32.toInt (show σ192 55 5 = (σ 55 5) from ((f195 5 (by decide)).trans (congrFun (f26 55 (by decide)) 5))))
      have z238 : (σ192 2 3).toInt = (σ 2 3).toInt := (congrArg Int32.toInt (show σ192 2 3 = (σ 2 3) from ((congrFun (f194 2 (by decide)) 3).trans (congrFun (f26 2 (by decide)) 3))))
      have z239 : (σ192 55 4).toInt = (σ 55 4).toInt := (congrArg Int32.toInt (show σ192 55 4 = (σ 55 4) from ((f195 4 (by decide)).trans (congrFun (f26 55 (by decide)) 4))))
      exact ih x210 σ192 τ _ _ ls (by have h9 := tx210; omega) ⟨I211, I212, I213, I214, I215, I216, I217, I218, I219, I220, I221, I222, I223, I224, I225, I226, I196, I227, I228, I229, I230, I231, p232, p233, (by omega), (by omega), (by omega), (show jNumP (σ192 3) (σ192 56) (σ192 6) (σ192 57) (σ192 7) (σ192 58) (σ192 8) (σ192 59) (σ192 55 6).toInt (σ192 55 4).toInt by rw [show σ192 3 = σ 3 from ((f194 3 (by decide)).trans (f26 3 (by decide))), show σ192 56 = σ 56 from ((f194 56 (by decide)).trans (f26 56 (by decide))), show σ192 6 = σ 6 from ((f194 6 (by decide)).trans (f26 6 (by decide))), show σ192 57 = σ 57 from ((f194 57 (by decide)).trans (f26 57 (by decide))), show σ192 7 = σ 7 from ((f194 7 (by decide)).trans (f26 7 (by decide))), show σ192 58 = σ 58 from ((f194 58 (by decide)).trans (f26 58 (by decide))), show σ192 8 = σ 8 from ((f194 8 (by decide)).trans (f26 8 (by decide))), show σ192 59 = σ 59 from ((f194 59 (by decide)).trans (f26 59 (by decide))), show (σ192 55 6).toInt = (σ 55 6).toInt from by omega, show (σ192 55 4).toInt = (σ 55 4).toInt from by omega]; exact hr0)⟩ hP hS (lv_sub hl [0, 1, 2, 3] rfl)
    · obtain ⟨q245, k240, k241, k242, k243, k244⟩ := h200
      refine lv_pop hx hb dL_law_522 rfl ?_
      refine lv_goto (tgt := 1357) hx hb dL_law_523 (by decide) ?_
      obtain ⟨x246, ex246⟩ : ∃ y : Int32, y = x0 + 6 := ⟨_, rfl⟩
      have tx246 : x246.toInt = x0.toInt + 6 := (jadd ex246 rfl jz_6 (by omega) (by omega)).trans (by omega)
      refine lv_iinc (v := x246) (lv' := [(3, .int x246), (2, .ref (ad 55)), (1, .ref (ad 0)), (0, .ref b)]) hx hb dL_law_1357 hl (k := 0) rfl (by rw [ex246]; rfl) (by decide) rfl (fun ls hl => ?_)
      refine lv_goto (tgt := 18) hx hb dL_law_1360 (by decide) ?_
      have I247 : jI2 σ192 := jI2_fr ((congrFun (f194 2 (by decide)) 0).trans (congrFun (f26 2 (by decide)) 0)) ((congrFun (f194 2 (by decide)) 1).trans (congrFun (f26 2 (by decide)) 1)) ((congrFun (f194 2 (by decide)) 2).trans (congrFun (f26 2 (by decide)) 2)) ((congrFun (f194 2 (by decide)) 3).trans (congrFun (f26 2 (by decide)) 3)) ((f194 6 (by decide)).trans (f26 6 (by decide))) hI2
      have I248 : jI9 σ192 := jI9_fr ((congrFun (f194 9 (by decide)) 0).trans (congrFun (f26 9 (by decide)) 0)) ((f194 10 (by decide)).trans (f26 10 (by decide))) ((f194 11 (by decide)).trans (f26 11 (by decide))) hI9
      have I249 : jI12 σ192 := jI12_fr ((congrFun (f194 12 (by decide)) 0).trans (congrFun (f26 12 (by decide)) 0)) ((f194 13 (by decide)).trans (f26 13 (by decide))) hI12
      have I250 : jI16 σ192 := jI16_fr ((congrFun (f194 16 (by decide)) 0).trans (congrFun (f26 16 (by decide)) 0)) ((congrFun (f194 16 (by decide)) 1).trans (congrFun (f26 16 (by decide)) 1)) ((congrFun (f194 16 (by decide)) 2).trans (congrFun (f26 16 (by decide)) 2)) ((f194 17 (by decide)).trans (f26 17 (by decide))) hI16
      have I251 : jI18 σ192 := jI18_fr ((congrFun (f194 18 (by decide)) 0).trans (congrFun (f26 18 (by decide)) 0)) ((f194 19 (by decide)).trans (f26 19 (by decide))) hI18
      have I252 : jI22 σ192 := jI22_fr ((congrFun (f194 22 (by decide)) 0).trans (congrFun (f26 22 (by decide)) 0)) ((f194 23 (by decide)).trans (f26 23 (by decide))) hI22
      have I253 : jI31 σ192 := jI31_fr ((congrFun (f194 31 (by decide)) 8).trans (congrFun (f26 31 (by decide)) 8)) ((f194 33 (by decide)).trans (f26 33 (by decide))) ((f194 36 (by decide)).trans (f26 36 (by decide))) hI31
      have I254 : jI38 σ192 := jI38_fr (congrFun (f194 38 (by decide)) 0) (congrFun (f194 38 (by decide)) 1) (f194 39 (by decide)) I28
      have I255 : jI43 σ192 := jI43_fr ((congrFun (f194 43 (by decide)) 8).trans (congrFun (f26 43 (by decide)) 8)) hI43
      have I256 : jI47 σ192 := jI47_fr ((congrFun (f194 47 (by decide)) 0).trans (congrFun (f26 47 (by decide)) 0)) ((f194 48 (by decide)).trans (f26 48 (by decide))) ((f194 49 (by decide)).trans (f26 49 (by decide))) hI47
      have I257 : jI50 σ192 := jI50_fr ((f194 52 (by decide)).trans (f26 52 (by decide))) hI50
      have I258 : jI101 σ192 := jI101_fr ((f195 4 (by decide)).trans (congrFun (f26 55 (by decide)) 4)) ((f195 5 (by decide)).trans (congrFun (f26 55 (by decide)) 5)) ((f194 56 (by decide)).trans (f26 56 (by decide))) ((f194 57 (by decide)).trans (f26 57 (by decide))) ((f194 58 (by decide)).trans (f26 58 (by decide))) ((f194 59 (by decide)).trans (f26 59 (by decide))) hI101
      have I259 : jI102 σ192 := jI102_fr ((f195 6 (by decide)).trans (congrFun (f26 55 (by decide)) 6)) ((f194 60 (by decide)).trans (f26 60 (by decide))) ((f194 61 (by decide)).trans (f26 61 (by decide))) hI102
      have I260 : jI103 σ192 := jI103_fr ((f195 9 (by decide)).trans (congrFun (f26 55 (by decide)) 9)) hI103
      have I261 : jI104 σ192 := jI104_fr ((f195 10 (by decide)).trans (congrFun (f26 55 (by decide)) 10)) ((f195 12 (by decide)).trans (congrFun (f26 55 (by decide)) 12)) ((f195 13 (by decide)).trans (congrFun (f26 55 (by decide)) 13)) ((f194 62 (by decide)).trans (f26 62 (by decide))) ((f194 67 (by decide)).trans (f26 67 (by decide))) hI104
      have I262 : jI105 σ192 := jI105_fr ((f195 15 (by decide)).trans (congrFun (f26 55 (by decide)) 15)) ((f194 65 (by decide)).trans (f26 65 (by decide))) hI105
      have I263 : jI107 σ192 := jI107_fr ((f195 12 (by decide)).trans (congrFun (f26 55 (by decide)) 12)) ((f195 47 (by decide)).trans (congrFun (f26 55 (by decide)) 47)) ((f194 80 (by decide)).trans (f26 80 (by decide))) hI107
      have I264 : jI109 σ192 := jI109_fr ((f195 50 (by decide)).trans (congrFun (f26 55 (by decide)) 50)) hI109
      have I265 : jI110 σ192 := jI110_fr ((f194 86 (by decide)).trans (f26 86 (by decide))) ((f194 87 (by decide)).trans (f26 87 (by decide))) hI110
      have I266 : jI111 σ192 := jI111_fr ((f194 79 (by decide)).trans (f26 79 (by decide))) hI111
      have I267 : jI119 σ192 := jI119_fr ((f194 68 (by decide)).trans (f26 68 (by decide))) hI119
      have p268 : jKept σ192 := jKept.fr ((f194 75 (by decide)).trans (f26 75 (by decide))) ((f194 76 (by decide)).trans (f26 76 (by decide))) ((f194 77 (by decide)).trans (f26 77 (by decide))) hs_jKept
      have p269 : jBook σ192 := jBook.fr ((f195 47 (by decide)).trans (congrFun (f26 55 (by decide)) 47)) ((f195 10 (by decide)).trans (congrFun (f26 55 (by decide)) 10)) ((f194 81 (by decide)).trans (f26 81 (by decide))) hs_jBook
      have z270 : (σ192 2 0).toInt = (σ 2 0).toInt := (congrArg Int32.toInt (show σ192 2 0 = (σ 2 0) from ((congrFun (f194 2 (by decide)) 0).trans (congrFun (f26 2 (by decide)) 0))))
      have z271 : (σ192 55 6).toInt = (σ 55 6).toInt := (congrArg Int32.toInt (show σ192 55 6 = (σ 55 6) from ((f195 6 (by decide)).trans (congrFun (f26 55 (by decide)) 6))))
      have z272 : (σ192 2 2).toInt = (σ 2 2).toInt := (congrArg Int32.toInt (show σ192 2 2 = (σ 2 2) from ((congrFun (f194 2 (by decide)) 2).trans (congrFun (f26 2 (by decide)) 2))))
      have z273 : (σ192 55 5).toInt = (σ 55 5).toInt := (congrArg Int32.toInt (show σ192 55 5 = (σ 55 5) from ((f195 5 (by decide)).trans (congrFun (f26 55 (by decide)) 5))))
      have z274 : (σ192 2 3).toInt = (σ 2 3).toInt := (congrArg Int32.toInt (show σ192 2 3 = (σ 2 3) from ((congrFun (f194 2 (by decide)) 3).trans (congrFun (f26 2 (by decide)) 3))))
      have z275 : (σ192 55 4).toInt = (σ 55 4).toInt := (congrArg Int32.toInt (show σ192 55 4 = (σ 55 4) from ((f195 4 (by decide)).trans (congrFun (f26 55 (by decide)) 4))))
      exact ih x246 σ192 τ _ _ ls (by have h9 := tx246; omega) ⟨I247, I248, I249, I250, I251, I252, I253, I254, I255, I256, I257, I258, I259, I260, I261, I262, I196, I263, I264, I265, I266, I267, p268, p269, (by omega), (by omega), (by omega), (show jNumP (σ192 3) (σ192 56) (σ192 6) (σ192 57) (σ192 7) (σ192 58) (σ192 8) (σ192 59) (σ192 55 6).toInt (σ192 55 4).toInt by rw [show σ192 3 = σ 3 from ((f194 3 (by decide)).trans (f26 3 (by decide))), show σ192 56 = σ 56 from ((f194 56 (by decide)).trans (f26 56 (by decide))), show σ192 6 = σ 6 from ((f194 6 (by decide)).trans (f26 6 (by decide))), show σ192 57 = σ 57 from ((f194 57 (by decide)).trans (f26 57 (by decide))), show σ192 7 = σ 7 from ((f194 7 (by decide)).trans (f26 7 (by decide))), show σ192 58 = σ 58 from ((f194 58 (by decide)).trans (f26 58 (by decide))), show σ192 8 = σ 8 from ((f194 8 (by decide)).trans (f26 8 (by decide))), show σ192 59 = σ 59 from ((f194 59 (by decide)).trans (f26 59 (by decide))), show (σ192 55 6).toInt = (σ 55 6).toInt from by omega, show (σ192 55 4).toInt = (σ 55 4).toInt from by omega]; exact hr0)⟩ hP hS (lv_sub hl [0, 1, 2, 3] rfl)
set_option maxHeartbeats 4000000 in
set_option maxRecDepth 100000 in
theorem law_case_10 {p : Program} {e : Env} {s : State} {m : MethodId} {below : List Frame} {meth : Method} {c : Code} (l : Launch) {b L : Nat} {xs : Nat → Int32} {D : va_G} {cI cL : ClassId} {ad zz : Nat → Nat} (C0 : lw_At p s m meth c b L xs) (hJ : jD ad) (hA : ∀ q, jA ad q → s.heap.size ≤ q) (hK : jK D cI cL s) (hZ : jZ zz (fun q : Nat => s.heap.size ≤ q) s s.heap) {x0 : Int32} (hx0 : 0 ≤ x0.toInt) (hxL : x0.toInt + 6 ≤ (L : Int)) (hL : L ≤ 384) {σ : Nat → Nat → Int32} {τ : Nat → Nat → Int64} {H : Heap} {locs : List Loc} (hS : va_S (fun q : Nat => s.heap.size ≤ q) s.heap H locs) {ls : Array Slot} (hAll : jAll σ τ) (hP : jH D cI cL ad σ τ H) (hl : lv_has ls 4 [(3, .int x0), (2, .ref (ad 55)), (1, .ref (ad 0)), (0, .ref b)]) (ih : ∀ (x1 : Int32) (σ : Nat → Nat → Int32) (τ : Nat → Nat → Int64) (H : Heap) (locs : List Loc) (ls : Array Slot), x1.toInt = x0.toInt + 6 → jAll σ τ → jH D cI cL ad σ τ H → va_S (fun q : Nat => s.heap.size ≤ q) s.heap H locs → lv_has ls 4 [(3, .int x1), (2, .ref (ad 55)), (1, .ref (ad 0)), (0, .ref b)] → W p l e room_1 s m #[Value.ref b] below meth c H locs 90 348600 (lw_Z below #[Value.ref b] s) (F0 m 18 ls [])) : W p l e room_1 s m #[Value.ref b] below meth c H locs 90 348600 (lw_Z below #[Value.ref b] s) (F0 m 526 ls []) := by
  obtain ⟨hx, hb, hr, hml, hown, hts0, hX, hbl, hlocks, hgv⟩ := C0
  have hts : ∀ w ∈ wsL_law, w.before #[Value.ref b] s = true := fun w h => hts0 w (wsL_law_in w h)
  have hbA : ¬ (fun q : Nat => s.heap.size ≤ q) b := Nat.not_le.mpr hbl
  have hown : s.vm.findClass RL = some m.cls := hown
  obtain ⟨hI2, hI9, hI12, hI16, hI18, hI22, hI31, hI38, hI43, hI47, hI50, hI101, hI102, hI103, hI104, hI105, hI106, hI107, hI109, hI110, hI111, hI119, hs_jKept, hs_jBook, ht0, ht1, ht2, hr0⟩ := hAll
  have hL9 : (L : Int) ≤ 384 := by omega
  obtain ⟨i1, i2, i3, i4, i5, w6⟩ : (0 ≤ (σ 2 0).toInt ∧ (σ 2 0).toInt ≤ 4) ∧ (0 ≤ (σ 2 1).toInt ∧ (σ 2 1).toInt ≤ 3) ∧ (0 ≤ (σ 2 2).toInt) ∧ (0 ≤ (σ 2 3).toInt) ∧ ((σ 2 2).toInt + (σ 2 3).toInt ≤ 40) ∧ (∀ k : Nat, k < 40 → 0 ≤ (σ 6 k).toInt ∧ (σ 6 k).toInt ≤ 67) := id hI2
  obtain ⟨i7, i8, i9, w10, w11, w12, w13⟩ : (0 ≤ (σ 55 5).toInt) ∧ ((σ 55 5).toInt ≤ (σ 55 4).toInt) ∧ ((σ 55 4).toInt ≤ 40) ∧ (∀ k : Nat, k < 68 → (-200) ≤ (σ 56 k).toInt ∧ (σ 56 k).toInt ≤ 500) ∧ (∀ k : Nat, k < 40 → 0 ≤ (σ 57 k).toInt ∧ (σ 57 k).toInt ≤ 67) ∧ (∀ k : Nat, k < 40 → (-200) ≤ (σ 58 k).toInt ∧ (σ 58 k).toInt ≤ 500) ∧ (∀ k : Nat, k < 40 → (-200) ≤ (σ 59 k).toInt ∧ (σ 59 k).toInt ≤ 500) := id hI101
  obtain ⟨i14, w15, w16⟩ : (0 ≤ (σ 55 6).toInt ∧ (σ 55 6).toInt ≤ 4) ∧ (∀ k : Nat, k < 4 → 0 ≤ (σ 60 k).toInt ∧ (σ 60 k).toInt ≤ 50) ∧ (∀ k : Nat, k < 4 → 0 ≤ (σ 61 k).toInt ∧ (σ 61 k).toInt ≤ 20) := id hI102
  refine lv_aload_n hx hb dL_law_526 rfl (lv_at hl 2 rfl) ?_
  refine lv_aload_n hx hb dL_law_527 rfl (lv_at hl 3 rfl) ?_
  refine lv_iload_n hx hb dL_law_528 rfl (lv_at hl 0 rfl) ?_
  refine lv_iconst (v := 1) hx hb dL_law_529 (by decide) ?_
  have g17 := jrg (rfl : x0.toInt = x0.toInt)
  refine lv_iadd hx hb dL_law_530 ?_
  refine lv_topi (fun x18 ex18 => ?_)
  have tx18 : x18.toInt = x0.toInt + 1 := (jadd ex18 rfl jz_1 (by omega) (by omega)).trans (by omega)
  refine va_sld hx hb hX hbl hbA hS (jin tx18 (by omega) (by omega)) dL_law_531 ?_
  have g19 := jrg (rfl : (xs x18.toNatClampNeg).toInt = (xs x18.toNatClampNeg).toInt)
  refine jcallV (As := [.int (xs x18.toNatClampNeg)]) (rest := []) ⟨hx, hb, hml, hown, hts⟩ hK hP hA hS hZ (c_X11_puts l D cI cL ad zz hJ σ τ (xs x18.toNatClampNeg) ((xs x18.toNatClampNeg).toInt) rfl hI2 hI16 hI18 hI22 hI31 hI38 hI47) cw_RL_57 (jc_0 cI cL ad σ τ) rfl ⟨Nat.le_of_ble_eq_true rfl, Nat.le_of_ble_eq_true rfl⟩ rfl rfl rfl hl.1 rfl (Nat.le_of_ble_eq_true rfl) dL_law_532 ⟨Nat.le_of_ble_eq_true rfl, Nat.le_of_ble_eq_true rfl⟩ (fun r21 σ20 τ20 H locs h20 hP hS => ?_)
  obtain ⟨rfl, f22, f23, I24, h20⟩ := h20
  refine lv_pop hx hb dL_law_535 rfl ?_
  refine lv_aload_n hx hb dL_law_536 rfl (lv_at hl 1 rfl) ?_
  refine lv_aload_n hx hb dL_law_537 rfl (lv_at hl 3 rfl) ?_
  refine lv_iload_n hx hb dL_law_538 rfl (lv_at hl 0 rfl) ?_
  refine lv_iconst (v := 1) hx hb dL_law_539 (by decide) ?_
  refine lv_iadd hx hb dL_law_540 ?_
  refine jtopr ex18.symm ?_
  refine va_sld hx hb hX hbl hbA hS (jin tx18 (by omega) (by omega)) dL_law_541 ?_
  have I26 : jI101 σ20 := jI101_fr (congrFun (f22 55 (by decide)) 4) (congrFun (f22 55 (by decide)) 5) (f22 56 (by decide)) (f22 57 (by decide)) (f22 58 (by decide)) (f22 59 (by decide)) hI101
  have I27 : jI102 σ20 := jI102_fr (congrFun (f22 55 (by decide)) 6) (f22 60 (by decide)) (f22 61 (by decide)) hI102
  have I28 : jI103 σ20 := jI103_fr (congrFun (f22 55 (by decide)) 9) hI103
  have I29 : jI104 σ20 := jI104_fr (congrFun (f22 55 (by decide)) 10) (congrFun (f22 55 (by decide)) 12) (congrFun (f22 55 (by decide)) 13) (f22 62 (by decide)) (f22 67 (by decide)) hI104
  have I30 : jI105 σ20 := jI105_fr (congrFun (f22 55 (by decide)) 15) (f22 65 (by decide)) hI105
  have I31 : jI106 σ20 := jI106_fr (congrFun (f22 55 (by decide)) 32) (f22 70 (by decide)) (f22 71 (by decide)) (f22 72 (by decide)) hI106
  have I32 : jI107 σ20 := jI107_fr (congrFun (f22 55 (by decide)) 12) (congrFun (f22 55 (by decide)) 47) (f22 80 (by decide)) hI107
  have I33 : jI119 σ20 := jI119_fr (f22 68 (by decide)) hI119
  have p34 : jKept σ20 := jKept.fr (f22 75 (by decide)) (f22 76 (by decide)) (f22 77 (by decide)) hs_jKept
  have p35 : jBook σ20 := jBook.fr (congrFun (f22 55 (by decide)) 47) (congrFun (f22 55 (by decide)) 10) (f22 81 (by decide)) hs_jBook
  refine jcallV (As := [.int (xs x18.toNatClampNeg)]) (rest := []) ⟨hx, hb, hml, hown, hts⟩ hK hP hA hS hZ (c_X12_puts l D cI cL ad zz hJ σ20 τ (xs x18.toNatClampNeg) ((xs x18.toNatClampNeg).toInt) rfl I26 I27 I28 I29 I30 I31 I32 I33 p34 p35) cw_RL_60 (jc_55 cI cL ad σ20 τ) rfl ⟨Nat.le_of_ble_eq_true rfl, Nat.le_of_ble_eq_true rfl⟩ rfl rfl rfl hl.1 rfl (Nat.le_of_ble_eq_true rfl) dL_law_542 ⟨Nat.le_of_ble_eq_true rfl, Nat.le_of_ble_eq_true rfl⟩ (fun r37 σ36 τ36 H locs h36 hP hS => ?_)
  obtain ⟨rfl, f38, f39, I40, p41, p42, h36⟩ := h36
  refine lv_pop hx hb dL_law_545 rfl ?_
  refine lv_goto (tgt := 1357) hx hb dL_law_546 (by decide) ?_
  obtain ⟨x44, ex44⟩ : ∃ y : Int32, y = x0 + 6 := ⟨_, rfl⟩
  have tx44 : x44.toInt = x0.toInt + 6 := (jadd ex44 rfl jz_6 (by omega) (by omega)).trans (by omega)
  refine lv_iinc (v := x44) (lv' := [(3, .int x44), (2, .ref (ad 55)), (1, .ref (ad 0)), (0, .ref b)]) hx hb dL_law_1357 hl (k := 0) rfl (by rw [ex44]; rfl) (by decide) rfl (fun ls hl => ?_)
  refine lv_goto (tgt := 18) hx hb dL_law_1360 (by decide) ?_
  have I45 : jI2 σ36 := jI2_fr ((congrFun (f38 2 (by decide)) 0).trans (congrFun (f22 2 (by decide)) 0)) ((congrFun (f38 2 (by decide)) 1).trans (congrFun (f22 2 (by decide)) 1)) ((congrFun (f38 2 (by decide)) 2).trans (congrFun (f22 2 (by decide)) 2)) ((congrFun (f38 2 (by decide)) 3).trans (congrFun (f22 2 (by decide)) 3)) ((f38 6 (by decide)).trans (f22 6 (by decide))) hI2
  have I46 : jI9 σ36 := jI9_fr ((congrFun (f38 9 (by decide)) 0).trans (congrFun (f22 9 (by decide)) 0)) ((f38 10 (by decide)).trans (f22 10 (by decide))) ((f38 11 (by decide)).trans (f22 11 (by decide))) hI9
  have I47 : jI12 σ36 := jI12_fr ((congrFun (f38 12 (by decide)) 0).trans (congrFun (f22 12 (by decide)) 0)) ((f38 13 (by decide)).trans (f22 13 (by decide))) hI12
  have I48 : jI16 σ36 := jI16_fr ((congrFun (f38 16 (by decide)) 0).trans (congrFun (f22 16 (by decide)) 0)) ((congrFun (f38 16 (by decide)) 1).trans (congrFun (f22 16 (by decide)) 1)) ((congrFun (f38 16 (by decide)) 2).trans (congrFun (f22 16 (by decide)) 2)) ((f38 17 (by decide)).trans (f22 17 (by decide))) hI16
  have I49 : jI18 σ36 := jI18_fr ((congrFun (f38 18 (by decide)) 0).trans (congrFun (f22 18 (by decide)) 0)) ((f38 19 (by decide)).trans (f22 19 (by decide))) hI18
  have I50 : jI22 σ36 := jI22_fr ((congrFun (f38 22 (by decide)) 0).trans (congrFun (f22 22 (by decide)) 0)) ((f38 23 (by decide)).trans (f22 23 (by decide))) hI22
  have I51 : jI31 σ36 := jI31_fr (congrFun (f38 31 (by decide)) 8) (f38 33 (by decide)) (f38 36 (by decide)) I24
  have I52 : jI38 σ36 := jI38_fr ((congrFun (f38 38 (by decide)) 0).trans (congrFun (f22 38 (by decide)) 0)) ((congrFun (f38 38 (by decide)) 1).trans (congrFun (f22 38 (by decide)) 1)) ((f38 39 (by decide)).trans (f22 39 (by decide))) hI38
  have I53 : jI43 σ36 := jI43_fr ((congrFun (f38 43 (by decide)) 8).trans (congrFun (f22 43 (by decide)) 8)) hI43
  have I54 : jI47 σ36 := jI47_fr ((congrFun (f38 47 (by decide)) 0).trans (congrFun (f22 47 (by decide)) 0)) ((f38 48 (by decide)).trans (f22 48 (by decide))) ((f38 49 (by decide)).trans (f22 49 (by decide))) hI47
  have I55 : jI50 σ36 := jI50_fr ((f38 52 (by decide)).trans (f22 52 (by decide))) hI50
  have I56 : jI101 σ36 := jI101_fr (f39 4 (by decide)) (f39 5 (by decide)) (f38 56 (by decide)) (f38 57 (by decide)) (f38 58 (by decide)) (f38 59 (by decide)) I26
  have I57 : jI102 σ36 := jI102_fr (f39 6 (by decide)) (f38 60 (by decide)) (f38 61 (by decide)) I27
  have I58 : jI103 σ36 := jI103_fr (f39 9 (by decide)) I28
  have I59 : jI104 σ36 := jI104_fr (f39 10 (by decide)) (f39 12 (by decide)) (f39 13 (by decide)) (f38 62 (by decide)) (f38 67 (by decide)) I29
  have I60 : jI105 σ36 := jI105_fr (f39 15 (by decide)) (f38 65 (by decide)) I30
  have I61 : jI106 σ36 := jI106_fr (f39 32 (by decide)) (f38 70 (by decide)) (f38 71 (by decide)) (f38 72 (by decide)) I31
  have I62 : jI107 σ36 := jI107_fr (f39 12 (by decide)) (f39 47 (by decide)) (f38 80 (by decide)) I32
  have I63 : jI109 σ36 := jI109_fr ((f39 50 (by decide)).trans (congrFun (f22 55 (by decide)) 50)) hI109
  have I64 : jI110 σ36 := jI110_fr ((f38 86 (by decide)).trans (f22 86 (by decide))) ((f38 87 (by decide)).trans (f22 87 (by decide))) hI110
  have I65 : jI111 σ36 := jI111_fr ((f38 79 (by decide)).trans (f22 79 (by decide))) hI111
  have z66 : (σ36 2 0).toInt = (σ 2 0).toInt := (congrArg Int32.toInt (show σ36 2 0 = (σ 2 0) from ((congrFun (f38 2 (by decide)) 0).trans (congrFun (f22 2 (by decide)) 0))))
  have z67 : (σ36 55 6).toInt = (σ 55 6).toInt := (congrArg Int32.toInt (show σ36 55 6 = (σ 55 6) from ((f39 6 (by decide)).trans (congrFun (f22 55 (by decide)) 6))))
  have z68 : (σ36 2 2).toInt = (σ 2 2).toInt := (congrArg Int32.toInt (show σ36 2 2 = (σ 2 2) from ((congrFun (f38 2 (by decide)) 2).trans (congrFun (f22 2 (by decide)) 2))))
  have z69 : (σ36 55 5).toInt = (σ 55 5).toInt := (congrArg Int32.toInt (show σ36 55 5 = (σ 55 5) from ((f39 5 (by decide)).trans (congrFun (f22 55 (by decide)) 5))))
  have z70 : (σ36 2 3).toInt = (σ 2 3).toInt := (congrArg Int32.toInt (show σ36 2 3 = (σ 2 3) from ((congrFun (f38 2 (by decide)) 3).trans (congrFun (f22 2 (by decide)) 3))))
  have z71 : (σ36 55 4).toInt = (σ 55 4).toInt := (congrArg Int32.toInt (show σ36 55 4 = (σ 55 4) from ((f39 4 (by decide)).trans (congrFun (f22 55 (by decide)) 4))))
  exact ih x44 σ36 τ _ _ ls (by have h9 := tx44; omega) ⟨I45, I46, I47, I48, I49, I50, I51, I52, I53, I54, I55, I56, I57, I58, I59, I60, I61, I62, I63, I64, I65, I40, p41, p42, (by omega), (by omega), (by omega), (show jNumP (σ36 3) (σ36 56) (σ36 6) (σ36 57) (σ36 7) (σ36 58) (σ36 8) (σ36 59) (σ36 55 6).toInt (σ36 55 4).toInt by rw [show σ36 3 = σ 3 from ((f38 3 (by decide)).trans (f22 3 (by decide))), show σ36 56 = σ 56 from ((f38 56 (by decide)).trans (f22 56 (by decide))), show σ36 6 = σ 6 from ((f38 6 (by decide)).trans (f22 6 (by decide))), show σ36 57 = σ 57 from ((f38 57 (by decide)).trans (f22 57 (by decide))), show σ36 7 = σ 7 from ((f38 7 (by decide)).trans (f22 7 (by decide))), show σ36 58 = σ 58 from ((f38 58 (by decide)).trans (f22 58 (by decide))), show σ36 8 = σ 8 from ((f38 8 (by decide)).trans (f22 8 (by decide))), show σ36 59 = σ 59 from ((f38 59 (by decide)).trans (f22 59 (by decide))), show (σ36 55 6).toInt = (σ 55 6).toInt from by omega, show (σ36 55 4).toInt = (σ 55 4).toInt from by omega]; exact hr0)⟩ hP hS (lv_sub hl [0, 1, 2, 3] rfl)
set_option maxHeartbeats 4000000 in
set_option maxRecDepth 100000 in
theorem law_case_11 {p : Program} {e : Env} {s : State} {m : MethodId} {below : List Frame} {meth : Method} {c : Code} (l : Launch) {b L : Nat} {xs : Nat → Int32} {D : va_G} {cI cL : ClassId} {ad zz : Nat → Nat} (C0 : lw_At p s m meth c b L xs) (hJ : jD ad) (hA : ∀ q, jA ad q → s.heap.size ≤ q) (hK : jK D cI cL s) (hZ : jZ zz (fun q : Nat => s.heap.size ≤ q) s s.heap) {x0 : Int32} (hx0 : 0 ≤ x0.toInt) (hxL : x0.toInt + 6 ≤ (L : Int)) (hL : L ≤ 384) {σ : Nat → Nat → Int32} {τ : Nat → Nat → Int64} {H : Heap} {locs : List Loc} (hS : va_S (fun q : Nat => s.heap.size ≤ q) s.heap H locs) {ls : Array Slot} (hAll : jAll σ τ) (hP : jH D cI cL ad σ τ H) (hl : lv_has ls 4 [(3, .int x0), (2, .ref (ad 55)), (1, .ref (ad 0)), (0, .ref b)]) (ih : ∀ (x1 : Int32) (σ : Nat → Nat → Int32) (τ : Nat → Nat → Int64) (H : Heap) (locs : List Loc) (ls : Array Slot), x1.toInt = x0.toInt + 6 → jAll σ τ → jH D cI cL ad σ τ H → va_S (fun q : Nat => s.heap.size ≤ q) s.heap H locs → lv_has ls 4 [(3, .int x1), (2, .ref (ad 55)), (1, .ref (ad 0)), (0, .ref b)] → W p l e room_1 s m #[Value.ref b] below meth c H locs 90 348600 (lw_Z below #[Value.ref b] s) (F0 m 18 ls [])) : W p l e room_1 s m #[Value.ref b] below meth c H locs 90 348600 (lw_Z below #[Value.ref b] s) (F0 m 549 ls []) := by
  obtain ⟨hx, hb, hr, hml, hown, hts0, hX, hbl, hlocks, hgv⟩ := C0
  have hts : ∀ w ∈ wsL_law, w.before #[Value.ref b] s = true := fun w h => hts0 w (wsL_law_in w h)
  have hbA : ¬ (fun q : Nat => s.heap.size ≤ q) b := Nat.not_le.mpr hbl
  have hown : s.vm.findClass RL = some m.cls := hown
  obtain ⟨hI2, hI9, hI12, hI16, hI18, hI22, hI31, hI38, hI43, hI47, hI50, hI101, hI102, hI103, hI104, hI105, hI106, hI107, hI109, hI110, hI111, hI119, hs_jKept, hs_jBook, ht0, ht1, ht2, hr0⟩ := hAll
  have hL9 : (L : Int) ≤ 384 := by omega
  obtain ⟨i1, i2, i3, i4, i5, w6⟩ : (0 ≤ (σ 2 0).toInt ∧ (σ 2 0).toInt ≤ 4) ∧ (0 ≤ (σ 2 1).toInt ∧ (σ 2 1).toInt ≤ 3) ∧ (0 ≤ (σ 2 2).toInt) ∧ (0 ≤ (σ 2 3).toInt) ∧ ((σ 2 2).toInt + (σ 2 3).toInt ≤ 40) ∧ (∀ k : Nat, k < 40 → 0 ≤ (σ 6 k).toInt ∧ (σ 6 k).toInt ≤ 67) := id hI2
  obtain ⟨i7, i8, i9, w10, w11, w12, w13⟩ : (0 ≤ (σ 55 5).toInt) ∧ ((σ 55 5).toInt ≤ (σ 55 4).toInt) ∧ ((σ 55 4).toInt ≤ 40) ∧ (∀ k : Nat, k < 68 → (-200) ≤ (σ 56 k).toInt ∧ (σ 56 k).toInt ≤ 500) ∧ (∀ k : Nat, k < 40 → 0 ≤ (σ 57 k).toInt ∧ (σ 57 k).toInt ≤ 67) ∧ (∀ k : Nat, k < 40 → (-200) ≤ (σ 58 k).toInt ∧ (σ 58 k).toInt ≤ 500) ∧ (∀ k : Nat, k < 40 → (-200) ≤ (σ 59 k).toInt ∧ (σ 59 k).toInt ≤ 500) := id hI101
  obtain ⟨i14, w15, w16⟩ : (0 ≤ (σ 55 6).toInt ∧ (σ 55 6).toInt ≤ 4) ∧ (∀ k : Nat, k < 4 → 0 ≤ (σ 60 k).toInt ∧ (σ 60 k).toInt ≤ 50) ∧ (∀ k : Nat, k < 4 → 0 ≤ (σ 61 k).toInt ∧ (σ 61 k).toInt ≤ 20) := id hI102
  refine lv_aload_n hx hb dL_law_549 rfl (lv_at hl 2 rfl) ?_
  refine lv_aload_n hx hb dL_law_550 rfl (lv_at hl 3 rfl) ?_
  refine lv_iload_n hx hb dL_law_551 rfl (lv_at hl 0 rfl) ?_
  refine lv_iconst (v := 1) hx hb dL_law_552 (by decide) ?_
  have g17 := jrg (rfl : x0.toInt = x0.toInt)
  refine lv_iadd hx hb dL_law_553 ?_
  refine lv_topi (fun x18 ex18 => ?_)
  have tx18 : x18.toInt = x0.toInt + 1 := (jadd ex18 rfl jz_1 (by omega) (by omega)).trans (by omega)
  refine va_sld hx hb hX hbl hbA hS (jin tx18 (by omega) (by omega)) dL_law_554 ?_
  have g19 := jrg (rfl : (xs x18.toNatClampNeg).toInt = (xs x18.toNatClampNeg).toInt)
  refine jcallV (As := [.int (xs x18.toNatClampNeg)]) (rest := []) ⟨hx, hb, hml, hown, hts⟩ hK hP hA hS hZ (c_X11_mean l D cI cL ad zz hJ σ τ (xs x18.toNatClampNeg) ((xs x18.toNatClampNeg).toInt) rfl hI2 hI16 hI18 hI22 hI31 hI38) cw_RL_61 (jc_0 cI cL ad σ τ) rfl ⟨Nat.le_of_ble_eq_true rfl, Nat.le_of_ble_eq_true rfl⟩ rfl rfl rfl hl.1 rfl (Nat.le_of_ble_eq_true rfl) dL_law_555 ⟨Nat.le_of_ble_eq_true rfl, Nat.le_of_ble_eq_true rfl⟩ (fun r21 σ20 τ20 H locs h20 hP hS => ?_)
  obtain ⟨rfl, f22, f23, I24, h20⟩ := h20
  refine lv_pop hx hb dL_law_558 rfl ?_
  refine lv_aload_n hx hb dL_law_559 rfl (lv_at hl 1 rfl) ?_
  refine lv_aload_n hx hb dL_law_560 rfl (lv_at hl 3 rfl) ?_
  refine lv_iload_n hx hb dL_law_561 rfl (lv_at hl 0 rfl) ?_
  refine lv_iconst (v := 1) hx hb dL_law_562 (by decide) ?_
  refine lv_iadd hx hb dL_law_563 ?_
  refine jtopr ex18.symm ?_
  refine va_sld hx hb hX hbl hbA hS (jin tx18 (by omega) (by omega)) dL_law_564 ?_
  have I26 : jI101 σ20 := jI101_fr (congrFun (f22 55 (by decide)) 4) (congrFun (f22 55 (by decide)) 5) (f22 56 (by decide)) (f22 57 (by decide)) (f22 58 (by decide)) (f22 59 (by decide)) hI101
  have I27 : jI102 σ20 := jI102_fr (congrFun (f22 55 (by decide)) 6) (f22 60 (by decide)) (f22 61 (by decide)) hI102
  have I28 : jI103 σ20 := jI103_fr (congrFun (f22 55 (by decide)) 9) hI103
  have I29 : jI104 σ20 := jI104_fr (congrFun (f22 55 (by decide)) 10) (congrFun (f22 55 (by decide)) 12) (congrFun (f22 55 (by decide)) 13) (f22 62 (by decide)) (f22 67 (by decide)) hI104
  have I30 : jI105 σ20 := jI105_fr (congrFun (f22 55 (by decide)) 15) (f22 65 (by decide)) hI105
  have I31 : jI106 σ20 := jI106_fr (congrFun (f22 55 (by decide)) 32) (f22 70 (by decide)) (f22 71 (by decide)) (f22 72 (by decide)) hI106
  have I32 : jI119 σ20 := jI119_fr (f22 68 (by decide)) hI119
  have p33 : jKept σ20 := jKept.fr (f22 75 (by decide)) (f22 76 (by decide)) (f22 77 (by decide)) hs_jKept
  refine jcallV (As := [.int (xs x18.toNatClampNeg)]) (rest := []) ⟨hx, hb, hml, hown, hts⟩ hK hP hA hS hZ (c_X12_mean l D cI cL ad zz hJ σ20 τ (xs x18.toNatClampNeg) ((xs x18.toNatClampNeg).toInt) rfl I26 I27 I28 I29 I30 I31 I32 p33) cw_RL_64 (jc_55 cI cL ad σ20 τ) rfl ⟨Nat.le_of_ble_eq_true rfl, Nat.le_of_ble_eq_true rfl⟩ rfl rfl rfl hl.1 rfl (Nat.le_of_ble_eq_true rfl) dL_law_565 ⟨Nat.le_of_ble_eq_true rfl, Nat.le_of_ble_eq_true rfl⟩ (fun r35 σ34 τ34 H locs h34 hP hS => ?_)
  obtain ⟨rfl, f36, f37, I38, p39, h34⟩ := h34
  refine lv_pop hx hb dL_law_568 rfl ?_
  refine lv_goto (tgt := 1357) hx hb dL_law_569 (by decide) ?_
  obtain ⟨x41, ex41⟩ : ∃ y : Int32, y = x0 + 6 := ⟨_, rfl⟩
  have tx41 : x41.toInt = x0.toInt + 6 := (jadd ex41 rfl jz_6 (by omega) (by omega)).trans (by omega)
  refine lv_iinc (v := x41) (lv' := [(3, .int x41), (2, .ref (ad 55)), (1, .ref (ad 0)), (0, .ref b)]) hx hb dL_law_1357 hl (k := 0) rfl (by rw [ex41]; rfl) (by decide) rfl (fun ls hl => ?_)
  refine lv_goto (tgt := 18) hx hb dL_law_1360 (by decide) ?_
  have I42 : jI2 σ34 := jI2_fr ((congrFun (f36 2 (by decide)) 0).trans (congrFun (f22 2 (by decide)) 0)) ((congrFun (f36 2 (by decide)) 1).trans (congrFun (f22 2 (by decide)) 1)) ((congrFun (f36 2 (by decide)) 2).trans (congrFun (f22 2 (by decide)) 2)) ((congrFun (f36 2 (by decide)) 3).trans (congrFun (f22 2 (by decide)) 3)) ((f36 6 (by decide)).trans (f22 6 (by decide))) hI2
  have I43 : jI9 σ34 := jI9_fr ((congrFun (f36 9 (by decide)) 0).trans (congrFun (f22 9 (by decide)) 0)) ((f36 10 (by decide)).trans (f22 10 (by decide))) ((f36 11 (by decide)).trans (f22 11 (by decide))) hI9
  have I44 : jI12 σ34 := jI12_fr ((congrFun (f36 12 (by decide)) 0).trans (congrFun (f22 12 (by decide)) 0)) ((f36 13 (by decide)).trans (f22 13 (by decide))) hI12
  have I45 : jI16 σ34 := jI16_fr ((congrFun (f36 16 (by decide)) 0).trans (congrFun (f22 16 (by decide)) 0)) ((congrFun (f36 16 (by decide)) 1).trans (congrFun (f22 16 (by decide)) 1)) ((congrFun (f36 16 (by decide)) 2).trans (congrFun (f22 16 (by decide)) 2)) ((f36 17 (by decide)).trans (f22 17 (by decide))) hI16
  have I46 : jI18 σ34 := jI18_fr ((congrFun (f36 18 (by decide)) 0).trans (congrFun (f22 18 (by decide)) 0)) ((f36 19 (by decide)).trans (f22 19 (by decide))) hI18
  have I47 : jI22 σ34 := jI22_fr ((congrFun (f36 22 (by decide)) 0).trans (congrFun (f22 22 (by decide)) 0)) ((f36 23 (by decide)).trans (f22 23 (by decide))) hI22
  have I48 : jI31 σ34 := jI31_fr (congrFun (f36 31 (by decide)) 8) (f36 33 (by decide)) (f36 36 (by decide)) I24
  have I49 : jI38 σ34 := jI38_fr ((congrFun (f36 38 (by decide)) 0).trans (congrFun (f22 38 (by decide)) 0)) ((congrFun (f36 38 (by decide)) 1).trans (congrFun (f22 38 (by decide)) 1)) ((f36 39 (by decide)).trans (f22 39 (by decide))) hI38
  have I50 : jI43 σ34 := jI43_fr ((congrFun (f36 43 (by decide)) 8).trans (congrFun (f22 43 (by decide)) 8)) hI43
  have I51 : jI47 σ34 := jI47_fr ((congrFun (f36 47 (by decide)) 0).trans (congrFun (f22 47 (by decide)) 0)) ((f36 48 (by decide)).trans (f22 48 (by decide))) ((f36 49 (by decide)).trans (f22 49 (by decide))) hI47
  have I52 : jI50 σ34 := jI50_fr ((f36 52 (by decide)).trans (f22 52 (by decide))) hI50
  have I53 : jI101 σ34 := jI101_fr (f37 4 (by decide)) (f37 5 (by decide)) (f36 56 (by decide)) (f36 57 (by decide)) (f36 58 (by decide)) (f36 59 (by decide)) I26
  have I54 : jI102 σ34 := jI102_fr (f37 6 (by decide)) (f36 60 (by decide)) (f36 61 (by decide)) I27
  have I55 : jI103 σ34 := jI103_fr (f37 9 (by decide)) I28
  have I56 : jI104 σ34 := jI104_fr (f37 10 (by decide)) (f37 12 (by decide)) (f37 13 (by decide)) (f36 62 (by decide)) (f36 67 (by decide)) I29
  have I57 : jI105 σ34 := jI105_fr (f37 15 (by decide)) (f36 65 (by decide)) I30
  have I58 : jI106 σ34 := jI106_fr (f37 32 (by decide)) (f36 70 (by decide)) (f36 71 (by decide)) (f36 72 (by decide)) I31
  have I59 : jI107 σ34 := jI107_fr ((f37 12 (by decide)).trans (congrFun (f22 55 (by decide)) 12)) ((f37 47 (by decide)).trans (congrFun (f22 55 (by decide)) 47)) ((f36 80 (by decide)).trans (f22 80 (by decide))) hI107
  have I60 : jI109 σ34 := jI109_fr ((f37 50 (by decide)).trans (congrFun (f22 55 (by decide)) 50)) hI109
  have I61 : jI110 σ34 := jI110_fr ((f36 86 (by decide)).trans (f22 86 (by decide))) ((f36 87 (by decide)).trans (f22 87 (by decide))) hI110
  have I62 : jI111 σ34 := jI111_fr ((f36 79 (by decide)).trans (f22 79 (by decide))) hI111
  have p63 : jBook σ34 := jBook.fr ((f37 47 (by decide)).trans (congrFun (f22 55 (by decide)) 47)) ((f37 10 (by decide)).trans (congrFun (f22 55 (by decide)) 10)) ((f36 81 (by decide)).trans (f22 81 (by decide))) hs_jBook
  have z64 : (σ34 2 0).toInt = (σ 2 0).toInt := (congrArg Int32.toInt (show σ34 2 0 = (σ 2 0) from ((congrFun (f36 2 (by decide)) 0).trans (congrFun (f22 2 (by decide)) 0))))
  have z65 : (σ34 55 6).toInt = (σ 55 6).toInt := (congrArg Int32.toInt (show σ34 55 6 = (σ 55 6) from ((f37 6 (by decide)).trans (congrFun (f22 55 (by decide)) 6))))
  have z66 : (σ34 2 2).toInt = (σ 2 2).toInt := (congrArg Int32.toInt (show σ34 2 2 = (σ 2 2) from ((congrFun (f36 2 (by decide)) 2).trans (congrFun (f22 2 (by decide)) 2))))
  have z67 : (σ34 55 5).toInt = (σ 55 5).toInt := (congrArg Int32.toInt (show σ34 55 5 = (σ 55 5) from ((f37 5 (by decide)).trans (congrFun (f22 55 (by decide)) 5))))
  have z68 : (σ34 2 3).toInt = (σ 2 3).toInt := (congrArg Int32.toInt (show σ34 2 3 = (σ 2 3) from ((congrFun (f36 2 (by decide)) 3).trans (congrFun (f22 2 (by decide)) 3))))
  have z69 : (σ34 55 4).toInt = (σ 55 4).toInt := (congrArg Int32.toInt (show σ34 55 4 = (σ 55 4) from ((f37 4 (by decide)).trans (congrFun (f22 55 (by decide)) 4))))
  exact ih x41 σ34 τ _ _ ls (by have h9 := tx41; omega) ⟨I42, I43, I44, I45, I46, I47, I48, I49, I50, I51, I52, I53, I54, I55, I56, I57, I58, I59, I60, I61, I62, I38, p39, p63, (by omega), (by omega), (by omega), (show jNumP (σ34 3) (σ34 56) (σ34 6) (σ34 57) (σ34 7) (σ34 58) (σ34 8) (σ34 59) (σ34 55 6).toInt (σ34 55 4).toInt by rw [show σ34 3 = σ 3 from ((f36 3 (by decide)).trans (f22 3 (by decide))), show σ34 56 = σ 56 from ((f36 56 (by decide)).trans (f22 56 (by decide))), show σ34 6 = σ 6 from ((f36 6 (by decide)).trans (f22 6 (by decide))), show σ34 57 = σ 57 from ((f36 57 (by decide)).trans (f22 57 (by decide))), show σ34 7 = σ 7 from ((f36 7 (by decide)).trans (f22 7 (by decide))), show σ34 58 = σ 58 from ((f36 58 (by decide)).trans (f22 58 (by decide))), show σ34 8 = σ 8 from ((f36 8 (by decide)).trans (f22 8 (by decide))), show σ34 59 = σ 59 from ((f36 59 (by decide)).trans (f22 59 (by decide))), show (σ34 55 6).toInt = (σ 55 6).toInt from by omega, show (σ34 55 4).toInt = (σ 55 4).toInt from by omega]; exact hr0)⟩ hP hS (lv_sub hl [0, 1, 2, 3] rfl)
set_option maxHeartbeats 4000000 in
set_option maxRecDepth 100000 in
theorem law_case_12 {p : Program} {e : Env} {s : State} {m : MethodId} {below : List Frame} {meth : Method} {c : Code} (l : Launch) {b L : Nat} {xs : Nat → Int32} {D : va_G} {cI cL : ClassId} {ad zz : Nat → Nat} (C0 : lw_At p s m meth c b L xs) (hJ : jD ad) (hA : ∀ q, jA ad q → s.heap.size ≤ q) (hK : jK D cI cL s) (hZ : jZ zz (fun q : Nat => s.heap.size ≤ q) s s.heap) {x0 : Int32} (hx0 : 0 ≤ x0.toInt) (hxL : x0.toInt + 6 ≤ (L : Int)) (hL : L ≤ 384) {σ : Nat → Nat → Int32} {τ : Nat → Nat → Int64} {H : Heap} {locs : List Loc} (hS : va_S (fun q : Nat => s.heap.size ≤ q) s.heap H locs) {ls : Array Slot} (hAll : jAll σ τ) (hP : jH D cI cL ad σ τ H) (hl : lv_has ls 4 [(3, .int x0), (2, .ref (ad 55)), (1, .ref (ad 0)), (0, .ref b)]) (ih : ∀ (x1 : Int32) (σ : Nat → Nat → Int32) (τ : Nat → Nat → Int64) (H : Heap) (locs : List Loc) (ls : Array Slot), x1.toInt = x0.toInt + 6 → jAll σ τ → jH D cI cL ad σ τ H → va_S (fun q : Nat => s.heap.size ≤ q) s.heap H locs → lv_has ls 4 [(3, .int x1), (2, .ref (ad 55)), (1, .ref (ad 0)), (0, .ref b)] → W p l e room_1 s m #[Value.ref b] below meth c H locs 90 348600 (lw_Z below #[Value.ref b] s) (F0 m 18 ls [])) : W p l e room_1 s m #[Value.ref b] below meth c H locs 90 348600 (lw_Z below #[Value.ref b] s) (F0 m 572 ls []) := by
  obtain ⟨hx, hb, hr, hml, hown, hts0, hX, hbl, hlocks, hgv⟩ := C0
  have hts : ∀ w ∈ wsL_law, w.before #[Value.ref b] s = true := fun w h => hts0 w (wsL_law_in w h)
  have hbA : ¬ (fun q : Nat => s.heap.size ≤ q) b := Nat.not_le.mpr hbl
  have hown : s.vm.findClass RL = some m.cls := hown
  obtain ⟨hI2, hI9, hI12, hI16, hI18, hI22, hI31, hI38, hI43, hI47, hI50, hI101, hI102, hI103, hI104, hI105, hI106, hI107, hI109, hI110, hI111, hI119, hs_jKept, hs_jBook, ht0, ht1, ht2, hr0⟩ := hAll
  have hL9 : (L : Int) ≤ 384 := by omega
  obtain ⟨i1, i2, i3, i4, i5, w6⟩ : (0 ≤ (σ 2 0).toInt ∧ (σ 2 0).toInt ≤ 4) ∧ (0 ≤ (σ 2 1).toInt ∧ (σ 2 1).toInt ≤ 3) ∧ (0 ≤ (σ 2 2).toInt) ∧ (0 ≤ (σ 2 3).toInt) ∧ ((σ 2 2).toInt + (σ 2 3).toInt ≤ 40) ∧ (∀ k : Nat, k < 40 → 0 ≤ (σ 6 k).toInt ∧ (σ 6 k).toInt ≤ 67) := id hI2
  obtain ⟨i7, i8, i9, w10, w11, w12, w13⟩ : (0 ≤ (σ 55 5).toInt) ∧ ((σ 55 5).toInt ≤ (σ 55 4).toInt) ∧ ((σ 55 4).toInt ≤ 40) ∧ (∀ k : Nat, k < 68 → (-200) ≤ (σ 56 k).toInt ∧ (σ 56 k).toInt ≤ 500) ∧ (∀ k : Nat, k < 40 → 0 ≤ (σ 57 k).toInt ∧ (σ 57 k).toInt ≤ 67) ∧ (∀ k : Nat, k < 40 → (-200) ≤ (σ 58 k).toInt ∧ (σ 58 k).toInt ≤ 500) ∧ (∀ k : Nat, k < 40 → (-200) ≤ (σ 59 k).toInt ∧ (σ 59 k).toInt ≤ 500) := id hI101
  obtain ⟨i14, w15, w16⟩ : (0 ≤ (σ 55 6).toInt ∧ (σ 55 6).toInt ≤ 4) ∧ (∀ k : Nat, k < 4 → 0 ≤ (σ 60 k).toInt ∧ (σ 60 k).toInt ≤ 50) ∧ (∀ k : Nat, k < 4 → 0 ≤ (σ 61 k).toInt ∧ (σ 61 k).toInt ≤ 20) := id hI102
  refine lv_aload_n hx hb dL_law_572 rfl (lv_at hl 2 rfl) ?_
  refine lv_aload_n hx hb dL_law_573 rfl (lv_at hl 3 rfl) ?_
  refine lv_iload_n hx hb dL_law_574 rfl (lv_at hl 0 rfl) ?_
  refine lv_iconst (v := 1) hx hb dL_law_575 (by decide) ?_
  have g17 := jrg (rfl : x0.toInt = x0.toInt)
  refine lv_iadd hx hb dL_law_576 ?_
  refine lv_topi (fun x18 ex18 => ?_)
  have tx18 : x18.toInt = x0.toInt + 1 := (jadd ex18 rfl jz_1 (by omega) (by omega)).trans (by omega)
  refine va_sld hx hb hX hbl hbA hS (jin tx18 (by omega) (by omega)) dL_law_577 ?_
  have g19 := jrg (rfl : (xs x18.toNatClampNeg).toInt = (xs x18.toNatClampNeg).toInt)
  refine lv_aload_n hx hb dL_law_578 rfl (lv_at hl 3 rfl) ?_
  refine lv_iload_n hx hb dL_law_579 rfl (lv_at hl 0 rfl) ?_
  refine lv_iconst (v := 2) hx hb dL_law_580 (by decide) ?_
  refine lv_iadd hx hb dL_law_581 ?_
  refine lv_topi (fun x20 ex20 => ?_)
  have tx20 : x20.toInt = x0.toInt + 2 := (jadd ex20 rfl jz_2 (by omega) (by omega)).trans (by omega)
  refine va_sld hx hb hX hbl hbA hS (jin tx20 (by omega) (by omega)) dL_law_582 ?_
  have g21 := jrg (rfl : (xs x20.toNatClampNeg).toInt = (xs x20.toNatClampNeg).toInt)
  refine jcallV (As := [.int (xs x18.toNatClampNeg), .int (xs x20.toNatClampNeg)]) (rest := []) ⟨hx, hb, hml, hown, hts⟩ hK hP hA hS hZ (c_X11_likely l D cI cL ad zz hJ σ τ (xs x18.toNatClampNeg) ((xs x18.toNatClampNeg).toInt) rfl (xs x20.toNatClampNeg) ((xs x20.toNatClampNeg).toInt) rfl hI2 hI16 hI18 hI22 hI31 hI38) cw_RL_65 (jc_0 cI cL ad σ τ) rfl ⟨Nat.le_of_ble_eq_true rfl, Nat.le_of_ble_eq_true rfl⟩ rfl rfl rfl hl.1 rfl (Nat.le_of_ble_eq_true rfl) dL_law_583 ⟨Nat.le_of_ble_eq_true rfl, Nat.le_of_ble_eq_true rfl⟩ (fun r23 σ22 τ22 H locs h22 hP hS => ?_)
  obtain ⟨rfl, f24, f25, I26, h22⟩ := h22
  refine lv_pop hx hb dL_law_586 rfl ?_
  refine lv_aload_n hx hb dL_law_587 rfl (lv_at hl 1 rfl) ?_
  refine lv_aload_n hx hb dL_law_588 rfl (lv_at hl 3 rfl) ?_
  refine lv_iload_n hx hb dL_law_589 rfl (lv_at hl 0 rfl) ?_
  refine lv_iconst (v := 1) hx hb dL_law_590 (by decide) ?_
  refine lv_iadd hx hb dL_law_591 ?_
  refine jtopr ex18.symm ?_
  refine va_sld hx hb hX hbl hbA hS (jin tx18 (by omega) (by omega)) dL_law_592 ?_
  refine lv_aload_n hx hb dL_law_593 rfl (lv_at hl 3 rfl) ?_
  refine lv_iload_n hx hb dL_law_594 rfl (lv_at hl 0 rfl) ?_
  refine lv_iconst (v := 2) hx hb dL_law_595 (by decide) ?_
  refine lv_iadd hx hb dL_law_596 ?_
  refine jtopr ex20.symm ?_
  refine va_sld hx hb hX hbl hbA hS (jin tx20 (by omega) (by omega)) dL_law_597 ?_
  have I28 : jI101 σ22 := jI101_fr (congrFun (f24 55 (by decide)) 4) (congrFun (f24 55 (by decide)) 5) (f24 56 (by decide)) (f24 57 (by decide)) (f24 58 (by decide)) (f24 59 (by decide)) hI101
  have I29 : jI102 σ22 := jI102_fr (congrFun (f24 55 (by decide)) 6) (f24 60 (by decide)) (f24 61 (by decide)) hI102
  have I30 : jI103 σ22 := jI103_fr (congrFun (f24 55 (by decide)) 9) hI103
  have I31 : jI104 σ22 := jI104_fr (congrFun (f24 55 (by decide)) 10) (congrFun (f24 55 (by decide)) 12) (congrFun (f24 55 (by decide)) 13) (f24 62 (by decide)) (f24 67 (by decide)) hI104
  have I32 : jI105 σ22 := jI105_fr (congrFun (f24 55 (by decide)) 15) (f24 65 (by decide)) hI105
  have I33 : jI106 σ22 := jI106_fr (congrFun (f24 55 (by decide)) 32) (f24 70 (by decide)) (f24 71 (by decide)) (f24 72 (by decide)) hI106
  have I34 : jI119 σ22 := jI119_fr (f24 68 (by decide)) hI119
  have p35 : jKept σ22 := jKept.fr (f24 75 (by decide)) (f24 76 (by decide)) (f24 77 (by decide)) hs_jKept
  refine jcallV (As := [.int (xs x18.toNatClampNeg), .int (xs x20.toNatClampNeg)]) (rest := []) ⟨hx, hb, hml, hown, hts⟩ hK hP hA hS hZ (c_X12_likely l D cI cL ad zz hJ σ22 τ (xs x18.toNatClampNeg) ((xs x18.toNatClampNeg).toInt) rfl (xs x20.toNatClampNeg) ((xs x20.toNatClampNeg).toInt) rfl I28 I29 I30 I31 I32 I33 I34 p35) cw_RL_68 (jc_55 cI cL ad σ22 τ) rfl ⟨Nat.le_of_ble_eq_true rfl, Nat.le_of_ble_eq_true rfl⟩ rfl rfl rfl hl.1 rfl (Nat.le_of_ble_eq_true rfl) dL_law_598 ⟨Nat.le_of_ble_eq_true rfl, Nat.le_of_ble_eq_true rfl⟩ (fun r37 σ36 τ36 H locs h36 hP hS => ?_)
  obtain ⟨rfl, f38, f39, I40, p41, h36⟩ := h36
  refine lv_pop hx hb dL_law_601 rfl ?_
  refine lv_goto (tgt := 1357) hx hb dL_law_602 (by decide) ?_
  obtain ⟨x43, ex43⟩ : ∃ y : Int32, y = x0 + 6 := ⟨_, rfl⟩
  have tx43 : x43.toInt = x0.toInt + 6 := (jadd ex43 rfl jz_6 (by omega) (by omega)).trans (by omega)
  refine lv_iinc (v := x43) (lv' := [(3, .int x43), (2, .ref (ad 55)), (1, .ref (ad 0)), (0, .ref b)]) hx hb dL_law_1357 hl (k := 0) rfl (by rw [ex43]; rfl) (by decide) rfl (fun ls hl => ?_)
  refine lv_goto (tgt := 18) hx hb dL_law_1360 (by decide) ?_
  have I44 : jI2 σ36 := jI2_fr ((congrFun (f38 2 (by decide)) 0).trans (congrFun (f24 2 (by decide)) 0)) ((congrFun (f38 2 (by decide)) 1).trans (congrFun (f24 2 (by decide)) 1)) ((congrFun (f38 2 (by decide)) 2).trans (congrFun (f24 2 (by decide)) 2)) ((congrFun (f38 2 (by decide)) 3).trans (congrFun (f24 2 (by decide)) 3)) ((f38 6 (by decide)).trans (f24 6 (by decide))) hI2
  have I45 : jI9 σ36 := jI9_fr ((congrFun (f38 9 (by decide)) 0).trans (congrFun (f24 9 (by decide)) 0)) ((f38 10 (by decide)).trans (f24 10 (by decide))) ((f38 11 (by decide)).trans (f24 11 (by decide))) hI9
  have I46 : jI12 σ36 := jI12_fr ((congrFun (f38 12 (by decide)) 0).trans (congrFun (f24 12 (by decide)) 0)) ((f38 13 (by decide)).trans (f24 13 (by decide))) hI12
  have I47 : jI16 σ36 := jI16_fr ((congrFun (f38 16 (by decide)) 0).trans (congrFun (f24 16 (by decide)) 0)) ((congrFun (f38 16 (by decide)) 1).trans (congrFun (f24 16 (by decide)) 1)) ((congrFun (f38 16 (by decide)) 2).trans (congrFun (f24 16 (by decide)) 2)) ((f38 17 (by decide)).trans (f24 17 (by decide))) hI16
  have I48 : jI18 σ36 := jI18_fr ((congrFun (f38 18 (by decide)) 0).trans (congrFun (f24 18 (by decide)) 0)) ((f38 19 (by decide)).trans (f24 19 (by decide))) hI18
  have I49 : jI22 σ36 := jI22_fr ((congrFun (f38 22 (by decide)) 0).trans (congrFun (f24 22 (by decide)) 0)) ((f38 23 (by decide)).trans (f24 23 (by decide))) hI22
  have I50 : jI31 σ36 := jI31_fr (congrFun (f38 31 (by decide)) 8) (f38 33 (by decide)) (f38 36 (by decide)) I26
  have I51 : jI38 σ36 := jI38_fr ((congrFun (f38 38 (by decide)) 0).trans (congrFun (f24 38 (by decide)) 0)) ((congrFun (f38 38 (by decide)) 1).trans (congrFun (f24 38 (by decide)) 1)) ((f38 39 (by decide)).trans (f24 39 (by decide))) hI38
  have I52 : jI43 σ36 := jI43_fr ((congrFun (f38 43 (by decide)) 8).trans (congrFun (f24 43 (by decide)) 8)) hI43
  have I53 : jI47 σ36 := jI47_fr ((congrFun (f38 47 (by decide)) 0).trans (congrFun (f24 47 (by decide)) 0)) ((f38 48 (by decide)).trans (f24 48 (by decide))) ((f38 49 (by decide)).trans (f24 49 (by decide))) hI47
  have I54 : jI50 σ36 := jI50_fr ((f38 52 (by decide)).trans (f24 52 (by decide))) hI50
  have I55 : jI101 σ36 := jI101_fr (f39 4 (by decide)) (f39 5 (by decide)) (f38 56 (by decide)) (f38 57 (by decide)) (f38 58 (by decide)) (f38 59 (by decide)) I28
  have I56 : jI102 σ36 := jI102_fr (f39 6 (by decide)) (f38 60 (by decide)) (f38 61 (by decide)) I29
  have I57 : jI103 σ36 := jI103_fr (f39 9 (by decide)) I30
  have I58 : jI104 σ36 := jI104_fr (f39 10 (by decide)) (f39 12 (by decide)) (f39 13 (by decide)) (f38 62 (by decide)) (f38 67 (by decide)) I31
  have I59 : jI105 σ36 := jI105_fr (f39 15 (by decide)) (f38 65 (by decide)) I32
  have I60 : jI106 σ36 := jI106_fr (f39 32 (by decide)) (f38 70 (by decide)) (f38 71 (by decide)) (f38 72 (by decide)) I33
  have I61 : jI107 σ36 := jI107_fr ((f39 12 (by decide)).trans (congrFun (f24 55 (by decide)) 12)) ((f39 47 (by decide)).trans (congrFun (f24 55 (by decide)) 47)) ((f38 80 (by decide)).trans (f24 80 (by decide))) hI107
  have I62 : jI109 σ36 := jI109_fr ((f39 50 (by decide)).trans (congrFun (f24 55 (by decide)) 50)) hI109
  have I63 : jI110 σ36 := jI110_fr ((f38 86 (by decide)).trans (f24 86 (by decide))) ((f38 87 (by decide)).trans (f24 87 (by decide))) hI110
  have I64 : jI111 σ36 := jI111_fr ((f38 79 (by decide)).trans (f24 79 (by decide))) hI111
  have p65 : jBook σ36 := jBook.fr ((f39 47 (by decide)).trans (congrFun (f24 55 (by decide)) 47)) ((f39 10 (by decide)).trans (congrFun (f24 55 (by decide)) 10)) ((f38 81 (by decide)).trans (f24 81 (by decide))) hs_jBook
  have z66 : (σ36 2 0).toInt = (σ 2 0).toInt := (congrArg Int32.toInt (show σ36 2 0 = (σ 2 0) from ((congrFun (f38 2 (by decide)) 0).trans (congrFun (f24 2 (by decide)) 0))))
  have z67 : (σ36 55 6).toInt = (σ 55 6).toInt := (congrArg Int32.toInt (show σ36 55 6 = (σ 55 6) from ((f39 6 (by decide)).trans (congrFun (f24 55 (by decide)) 6))))
  have z68 : (σ36 2 2).toInt = (σ 2 2).toInt := (congrArg Int32.toInt (show σ36 2 2 = (σ 2 2) from ((congrFun (f38 2 (by decide)) 2).trans (congrFun (f24 2 (by decide)) 2))))
  have z69 : (σ36 55 5).toInt = (σ 55 5).toInt := (congrArg Int32.toInt (show σ36 55 5 = (σ 55 5) from ((f39 5 (by decide)).trans (congrFun (f24 55 (by decide)) 5))))
  have z70 : (σ36 2 3).toInt = (σ 2 3).toInt := (congrArg Int32.toInt (show σ36 2 3 = (σ 2 3) from ((congrFun (f38 2 (by decide)) 3).trans (congrFun (f24 2 (by decide)) 3))))
  have z71 : (σ36 55 4).toInt = (σ 55 4).toInt := (congrArg Int32.toInt (show σ36 55 4 = (σ 55 4) from ((f39 4 (by decide)).trans (congrFun (f24 55 (by decide)) 4))))
  exact ih x43 σ36 τ _ _ ls (by have h9 := tx43; omega) ⟨I44, I45, I46, I47, I48, I49, I50, I51, I52, I53, I54, I55, I56, I57, I58, I59, I60, I61, I62, I63, I64, I40, p41, p65, (by omega), (by omega), (by omega), (show jNumP (σ36 3) (σ36 56) (σ36 6) (σ36 57) (σ36 7) (σ36 58) (σ36 8) (σ36 59) (σ36 55 6).toInt (σ36 55 4).toInt by rw [show σ36 3 = σ 3 from ((f38 3 (by decide)).trans (f24 3 (by decide))), show σ36 56 = σ 56 from ((f38 56 (by decide)).trans (f24 56 (by decide))), show σ36 6 = σ 6 from ((f38 6 (by decide)).trans (f24 6 (by decide))), show σ36 57 = σ 57 from ((f38 57 (by decide)).trans (f24 57 (by decide))), show σ36 7 = σ 7 from ((f38 7 (by decide)).trans (f24 7 (by decide))), show σ36 58 = σ 58 from ((f38 58 (by decide)).trans (f24 58 (by decide))), show σ36 8 = σ 8 from ((f38 8 (by decide)).trans (f24 8 (by decide))), show σ36 59 = σ 59 from ((f38 59 (by decide)).trans (f24 59 (by decide))), show (σ36 55 6).toInt = (σ 55 6).toInt from by omega, show (σ36 55 4).toInt = (σ 55 4).toInt from by omega]; exact hr0)⟩ hP hS (lv_sub hl [0, 1, 2, 3] rfl)
set_option maxHeartbeats 4000000 in
set_option maxRecDepth 100000 in
theorem law_case_13 {p : Program} {e : Env} {s : State} {m : MethodId} {below : List Frame} {meth : Method} {c : Code} (l : Launch) {b L : Nat} {xs : Nat → Int32} {D : va_G} {cI cL : ClassId} {ad zz : Nat → Nat} (C0 : lw_At p s m meth c b L xs) (hJ : jD ad) (hA : ∀ q, jA ad q → s.heap.size ≤ q) (hK : jK D cI cL s) (hZ : jZ zz (fun q : Nat => s.heap.size ≤ q) s s.heap) {x0 : Int32} (hx0 : 0 ≤ x0.toInt) (hxL : x0.toInt + 6 ≤ (L : Int)) (hL : L ≤ 384) {σ : Nat → Nat → Int32} {τ : Nat → Nat → Int64} {H : Heap} {locs : List Loc} (hS : va_S (fun q : Nat => s.heap.size ≤ q) s.heap H locs) {ls : Array Slot} (hAll : jAll σ τ) (hP : jH D cI cL ad σ τ H) (hl : lv_has ls 4 [(3, .int x0), (2, .ref (ad 55)), (1, .ref (ad 0)), (0, .ref b)]) (ih : ∀ (x1 : Int32) (σ : Nat → Nat → Int32) (τ : Nat → Nat → Int64) (H : Heap) (locs : List Loc) (ls : Array Slot), x1.toInt = x0.toInt + 6 → jAll σ τ → jH D cI cL ad σ τ H → va_S (fun q : Nat => s.heap.size ≤ q) s.heap H locs → lv_has ls 4 [(3, .int x1), (2, .ref (ad 55)), (1, .ref (ad 0)), (0, .ref b)] → W p l e room_1 s m #[Value.ref b] below meth c H locs 90 348600 (lw_Z below #[Value.ref b] s) (F0 m 18 ls [])) : W p l e room_1 s m #[Value.ref b] below meth c H locs 90 348600 (lw_Z below #[Value.ref b] s) (F0 m 605 ls []) := by
  obtain ⟨hx, hb, hr, hml, hown, hts0, hX, hbl, hlocks, hgv⟩ := C0
  have hts : ∀ w ∈ wsL_law, w.before #[Value.ref b] s = true := fun w h => hts0 w (wsL_law_in w h)
  have hbA : ¬ (fun q : Nat => s.heap.size ≤ q) b := Nat.not_le.mpr hbl
  have hown : s.vm.findClass RL = some m.cls := hown
  obtain ⟨hI2, hI9, hI12, hI16, hI18, hI22, hI31, hI38, hI43, hI47, hI50, hI101, hI102, hI103, hI104, hI105, hI106, hI107, hI109, hI110, hI111, hI119, hs_jKept, hs_jBook, ht0, ht1, ht2, hr0⟩ := hAll
  have hL9 : (L : Int) ≤ 384 := by omega
  obtain ⟨i1, i2, i3, i4, i5, w6⟩ : (0 ≤ (σ 2 0).toInt ∧ (σ 2 0).toInt ≤ 4) ∧ (0 ≤ (σ 2 1).toInt ∧ (σ 2 1).toInt ≤ 3) ∧ (0 ≤ (σ 2 2).toInt) ∧ (0 ≤ (σ 2 3).toInt) ∧ ((σ 2 2).toInt + (σ 2 3).toInt ≤ 40) ∧ (∀ k : Nat, k < 40 → 0 ≤ (σ 6 k).toInt ∧ (σ 6 k).toInt ≤ 67) := id hI2
  obtain ⟨i7, i8, i9, w10, w11, w12, w13⟩ : (0 ≤ (σ 55 5).toInt) ∧ ((σ 55 5).toInt ≤ (σ 55 4).toInt) ∧ ((σ 55 4).toInt ≤ 40) ∧ (∀ k : Nat, k < 68 → (-200) ≤ (σ 56 k).toInt ∧ (σ 56 k).toInt ≤ 500) ∧ (∀ k : Nat, k < 40 → 0 ≤ (σ 57 k).toInt ∧ (σ 57 k).toInt ≤ 67) ∧ (∀ k : Nat, k < 40 → (-200) ≤ (σ 58 k).toInt ∧ (σ 58 k).toInt ≤ 500) ∧ (∀ k : Nat, k < 40 → (-200) ≤ (σ 59 k).toInt ∧ (σ 59 k).toInt ≤ 500) := id hI101
  obtain ⟨i14, w15, w16⟩ : (0 ≤ (σ 55 6).toInt ∧ (σ 55 6).toInt ≤ 4) ∧ (∀ k : Nat, k < 4 → 0 ≤ (σ 60 k).toInt ∧ (σ 60 k).toInt ≤ 50) ∧ (∀ k : Nat, k < 4 → 0 ≤ (σ 61 k).toInt ∧ (σ 61 k).toInt ≤ 20) := id hI102
  refine lv_aload_n hx hb dL_law_605 rfl (lv_at hl 2 rfl) ?_
  refine lv_aload_n hx hb dL_law_606 rfl (lv_at hl 3 rfl) ?_
  refine lv_iload_n hx hb dL_law_607 rfl (lv_at hl 0 rfl) ?_
  refine lv_iconst (v := 1) hx hb dL_law_608 (by decide) ?_
  have g17 := jrg (rfl : x0.toInt = x0.toInt)
  refine lv_iadd hx hb dL_law_609 ?_
  refine lv_topi (fun x18 ex18 => ?_)
  have tx18 : x18.toInt = x0.toInt + 1 := (jadd ex18 rfl jz_1 (by omega) (by omega)).trans (by omega)
  refine va_sld hx hb hX hbl hbA hS (jin tx18 (by omega) (by omega)) dL_law_610 ?_
  have g19 := jrg (rfl : (xs x18.toNatClampNeg).toInt = (xs x18.toNatClampNeg).toInt)
  refine jcallV (As := [.int (xs x18.toNatClampNeg)]) (rest := []) ⟨hx, hb, hml, hown, hts⟩ hK hP hA hS hZ (c_X11_best l D cI cL ad zz hJ σ τ (xs x18.toNatClampNeg) ((xs x18.toNatClampNeg).toInt) rfl hI2 hI16 hI22 hI31 hI47) cw_RL_69 (jc_0 cI cL ad σ τ) rfl ⟨Nat.le_of_ble_eq_true rfl, Nat.le_of_ble_eq_true rfl⟩ rfl rfl rfl hl.1 rfl (Nat.le_of_ble_eq_true rfl) dL_law_611 ⟨Nat.le_of_ble_eq_true rfl, Nat.le_of_ble_eq_true rfl⟩ (fun r21 σ20 τ20 H locs h20 hP hS => ?_)
  obtain ⟨rfl, f22, f23, I24, h20⟩ := h20
  refine lv_pop hx hb dL_law_614 rfl ?_
  refine lv_aload_n hx hb dL_law_615 rfl (lv_at hl 1 rfl) ?_
  refine lv_aload_n hx hb dL_law_616 rfl (lv_at hl 3 rfl) ?_
  refine lv_iload_n hx hb dL_law_617 rfl (lv_at hl 0 rfl) ?_
  refine lv_iconst (v := 1) hx hb dL_law_618 (by decide) ?_
  refine lv_iadd hx hb dL_law_619 ?_
  refine jtopr ex18.symm ?_
  refine va_sld hx hb hX hbl hbA hS (jin tx18 (by omega) (by omega)) dL_law_620 ?_
  have I26 : jI101 σ20 := jI101_fr (congrFun (f22 55 (by decide)) 4) (congrFun (f22 55 (by decide)) 5) (f22 56 (by decide)) (f22 57 (by decide)) (f22 58 (by decide)) (f22 59 (by decide)) hI101
  have I27 : jI102 σ20 := jI102_fr (congrFun (f22 55 (by decide)) 6) (f22 60 (by decide)) (f22 61 (by decide)) hI102
  have I28 : jI103 σ20 := jI103_fr (congrFun (f22 55 (by decide)) 9) hI103
  have I29 : jI104 σ20 := jI104_fr (congrFun (f22 55 (by decide)) 10) (congrFun (f22 55 (by decide)) 12) (congrFun (f22 55 (by decide)) 13) (f22 62 (by decide)) (f22 67 (by decide)) hI104
  have I30 : jI105 σ20 := jI105_fr (congrFun (f22 55 (by decide)) 15) (f22 65 (by decide)) hI105
  have I31 : jI106 σ20 := jI106_fr (congrFun (f22 55 (by decide)) 32) (f22 70 (by decide)) (f22 71 (by decide)) (f22 72 (by decide)) hI106
  have I32 : jI107 σ20 := jI107_fr (congrFun (f22 55 (by decide)) 12) (congrFun (f22 55 (by decide)) 47) (f22 80 (by decide)) hI107
  have I33 : jI119 σ20 := jI119_fr (f22 68 (by decide)) hI119
  have p34 : jKept σ20 := jKept.fr (f22 75 (by decide)) (f22 76 (by decide)) (f22 77 (by decide)) hs_jKept
  have p35 : jBook σ20 := jBook.fr (congrFun (f22 55 (by decide)) 47) (congrFun (f22 55 (by decide)) 10) (f22 81 (by decide)) hs_jBook
  refine jcallV (As := [.int (xs x18.toNatClampNeg)]) (rest := []) ⟨hx, hb, hml, hown, hts⟩ hK hP hA hS hZ (c_X12_best l D cI cL ad zz hJ σ20 τ (xs x18.toNatClampNeg) ((xs x18.toNatClampNeg).toInt) rfl I26 I27 I28 I29 I30 I31 I32 I33 p34 p35) cw_RL_72 (jc_55 cI cL ad σ20 τ) rfl ⟨Nat.le_of_ble_eq_true rfl, Nat.le_of_ble_eq_true rfl⟩ rfl rfl rfl hl.1 rfl (Nat.le_of_ble_eq_true rfl) dL_law_621 ⟨Nat.le_of_ble_eq_true rfl, Nat.le_of_ble_eq_true rfl⟩ (fun r37 σ36 τ36 H locs h36 hP hS => ?_)
  obtain ⟨rfl, f38, f39, I40, p41, p42, h36⟩ := h36
  refine lv_pop hx hb dL_law_624 rfl ?_
  refine lv_goto (tgt := 1357) hx hb dL_law_625 (by decide) ?_
  obtain ⟨x44, ex44⟩ : ∃ y : Int32, y = x0 + 6 := ⟨_, rfl⟩
  have tx44 : x44.toInt = x0.toInt + 6 := (jadd ex44 rfl jz_6 (by omega) (by omega)).trans (by omega)
  refine lv_iinc (v := x44) (lv' := [(3, .int x44), (2, .ref (ad 55)), (1, .ref (ad 0)), (0, .ref b)]) hx hb dL_law_1357 hl (k := 0) rfl (by rw [ex44]; rfl) (by decide) rfl (fun ls hl => ?_)
  refine lv_goto (tgt := 18) hx hb dL_law_1360 (by decide) ?_
  have I45 : jI2 σ36 := jI2_fr ((congrFun (f38 2 (by decide)) 0).trans (congrFun (f22 2 (by decide)) 0)) ((congrFun (f38 2 (by decide)) 1).trans (congrFun (f22 2 (by decide)) 1)) ((congrFun (f38 2 (by decide)) 2).trans (congrFun (f22 2 (by decide)) 2)) ((congrFun (f38 2 (by decide)) 3).trans (congrFun (f22 2 (by decide)) 3)) ((f38 6 (by decide)).trans (f22 6 (by decide))) hI2
  have I46 : jI9 σ36 := jI9_fr ((congrFun (f38 9 (by decide)) 0).trans (congrFun (f22 9 (by decide)) 0)) ((f38 10 (by decide)).trans (f22 10 (by decide))) ((f38 11 (by decide)).trans (f22 11 (by decide))) hI9
  have I47 : jI12 σ36 := jI12_fr ((congrFun (f38 12 (by decide)) 0).trans (congrFun (f22 12 (by decide)) 0)) ((f38 13 (by decide)).trans (f22 13 (by decide))) hI12
  have I48 : jI16 σ36 := jI16_fr ((congrFun (f38 16 (by decide)) 0).trans (congrFun (f22 16 (by decide)) 0)) ((congrFun (f38 16 (by decide)) 1).trans (congrFun (f22 16 (by decide)) 1)) ((congrFun (f38 16 (by decide)) 2).trans (congrFun (f22 16 (by decide)) 2)) ((f38 17 (by decide)).trans (f22 17 (by decide))) hI16
  have I49 : jI18 σ36 := jI18_fr ((congrFun (f38 18 (by decide)) 0).trans (congrFun (f22 18 (by decide)) 0)) ((f38 19 (by decide)).trans (f22 19 (by decide))) hI18
  have I50 : jI22 σ36 := jI22_fr ((congrFun (f38 22 (by decide)) 0).trans (congrFun (f22 22 (by decide)) 0)) ((f38 23 (by decide)).trans (f22 23 (by decide))) hI22
  have I51 : jI31 σ36 := jI31_fr (congrFun (f38 31 (by decide)) 8) (f38 33 (by decide)) (f38 36 (by decide)) I24
  have I52 : jI38 σ36 := jI38_fr ((congrFun (f38 38 (by decide)) 0).trans (congrFun (f22 38 (by decide)) 0)) ((congrFun (f38 38 (by decide)) 1).trans (congrFun (f22 38 (by decide)) 1)) ((f38 39 (by decide)).trans (f22 39 (by decide))) hI38
  have I53 : jI43 σ36 := jI43_fr ((congrFun (f38 43 (by decide)) 8).trans (congrFun (f22 43 (by decide)) 8)) hI43
  have I54 : jI47 σ36 := jI47_fr ((congrFun (f38 47 (by decide)) 0).trans (congrFun (f22 47 (by decide)) 0)) ((f38 48 (by decide)).trans (f22 48 (by decide))) ((f38 49 (by decide)).trans (f22 49 (by decide))) hI47
  have I55 : jI50 σ36 := jI50_fr ((f38 52 (by decide)).trans (f22 52 (by decide))) hI50
  have I56 : jI101 σ36 := jI101_fr (f39 4 (by decide)) (f39 5 (by decide)) (f38 56 (by decide)) (f38 57 (by decide)) (f38 58 (by decide)) (f38 59 (by decide)) I26
  have I57 : jI102 σ36 := jI102_fr (f39 6 (by decide)) (f38 60 (by decide)) (f38 61 (by decide)) I27
  have I58 : jI103 σ36 := jI103_fr (f39 9 (by decide)) I28
  have I59 : jI104 σ36 := jI104_fr (f39 10 (by decide)) (f39 12 (by decide)) (f39 13 (by decide)) (f38 62 (by decide)) (f38 67 (by decide)) I29
  have I60 : jI105 σ36 := jI105_fr (f39 15 (by decide)) (f38 65 (by decide)) I30
  have I61 : jI106 σ36 := jI106_fr (f39 32 (by decide)) (f38 70 (by decide)) (f38 71 (by decide)) (f38 72 (by decide)) I31
  have I62 : jI107 σ36 := jI107_fr (f39 12 (by decide)) (f39 47 (by decide)) (f38 80 (by decide)) I32
  have I63 : jI109 σ36 := jI109_fr ((f39 50 (by decide)).trans (congrFun (f22 55 (by decide)) 50)) hI109
  have I64 : jI110 σ36 := jI110_fr ((f38 86 (by decide)).trans (f22 86 (by decide))) ((f38 87 (by decide)).trans (f22 87 (by decide))) hI110
  have I65 : jI111 σ36 := jI111_fr ((f38 79 (by decide)).trans (f22 79 (by decide))) hI111
  have z66 : (σ36 2 0).toInt = (σ 2 0).toInt := (congrArg Int32.toInt (show σ36 2 0 = (σ 2 0) from ((congrFun (f38 2 (by decide)) 0).trans (congrFun (f22 2 (by decide)) 0))))
  have z67 : (σ36 55 6).toInt = (σ 55 6).toInt := (congrArg Int32.toInt (show σ36 55 6 = (σ 55 6) from ((f39 6 (by decide)).trans (congrFun (f22 55 (by decide)) 6))))
  have z68 : (σ36 2 2).toInt = (σ 2 2).toInt := (congrArg Int32.toInt (show σ36 2 2 = (σ 2 2) from ((congrFun (f38 2 (by decide)) 2).trans (congrFun (f22 2 (by decide)) 2))))
  have z69 : (σ36 55 5).toInt = (σ 55 5).toInt := (congrArg Int32.toInt (show σ36 55 5 = (σ 55 5) from ((f39 5 (by decide)).trans (congrFun (f22 55 (by decide)) 5))))
  have z70 : (σ36 2 3).toInt = (σ 2 3).toInt := (congrArg Int32.toInt (show σ36 2 3 = (σ 2 3) from ((congrFun (f38 2 (by decide)) 3).trans (congrFun (f22 2 (by decide)) 3))))
  have z71 : (σ36 55 4).toInt = (σ 55 4).toInt := (congrArg Int32.toInt (show σ36 55 4 = (σ 55 4) from ((f39 4 (by decide)).trans (congrFun (f22 55 (by decide)) 4))))
  exact ih x44 σ36 τ _ _ ls (by have h9 := tx44; omega) ⟨I45, I46, I47, I48, I49, I50, I51, I52, I53, I54, I55, I56, I57, I58, I59, I60, I61, I62, I63, I64, I65, I40, p41, p42, (by omega), (by omega), (by omega), (show jNumP (σ36 3) (σ36 56) (σ36 6) (σ36 57) (σ36 7) (σ36 58) (σ36 8) (σ36 59) (σ36 55 6).toInt (σ36 55 4).toInt by rw [show σ36 3 = σ 3 from ((f38 3 (by decide)).trans (f22 3 (by decide))), show σ36 56 = σ 56 from ((f38 56 (by decide)).trans (f22 56 (by decide))), show σ36 6 = σ 6 from ((f38 6 (by decide)).trans (f22 6 (by decide))), show σ36 57 = σ 57 from ((f38 57 (by decide)).trans (f22 57 (by decide))), show σ36 7 = σ 7 from ((f38 7 (by decide)).trans (f22 7 (by decide))), show σ36 58 = σ 58 from ((f38 58 (by decide)).trans (f22 58 (by decide))), show σ36 8 = σ 8 from ((f38 8 (by decide)).trans (f22 8 (by decide))), show σ36 59 = σ 59 from ((f38 59 (by decide)).trans (f22 59 (by decide))), show (σ36 55 6).toInt = (σ 55 6).toInt from by omega, show (σ36 55 4).toInt = (σ 55 4).toInt from by omega]; exact hr0)⟩ hP hS (lv_sub hl [0, 1, 2, 3] rfl)
set_option maxHeartbeats 4000000 in
set_option maxRecDepth 100000 in
theorem law_case_14 {p : Program} {e : Env} {s : State} {m : MethodId} {below : List Frame} {meth : Method} {c : Code} (l : Launch) {b L : Nat} {xs : Nat → Int32} {D : va_G} {cI cL : ClassId} {ad zz : Nat → Nat} (C0 : lw_At p s m meth c b L xs) (hJ : jD ad) (hA : ∀ q, jA ad q → s.heap.size ≤ q) (hK : jK D cI cL s) (hZ : jZ zz (fun q : Nat => s.heap.size ≤ q) s s.heap) {x0 : Int32} (hx0 : 0 ≤ x0.toInt) (hxL : x0.toInt + 6 ≤ (L : Int)) (hL : L ≤ 384) {σ : Nat → Nat → Int32} {τ : Nat → Nat → Int64} {H : Heap} {locs : List Loc} (hS : va_S (fun q : Nat => s.heap.size ≤ q) s.heap H locs) {ls : Array Slot} (hAll : jAll σ τ) (hP : jH D cI cL ad σ τ H) (hl : lv_has ls 4 [(3, .int x0), (2, .ref (ad 55)), (1, .ref (ad 0)), (0, .ref b)]) (ih : ∀ (x1 : Int32) (σ : Nat → Nat → Int32) (τ : Nat → Nat → Int64) (H : Heap) (locs : List Loc) (ls : Array Slot), x1.toInt = x0.toInt + 6 → jAll σ τ → jH D cI cL ad σ τ H → va_S (fun q : Nat => s.heap.size ≤ q) s.heap H locs → lv_has ls 4 [(3, .int x1), (2, .ref (ad 55)), (1, .ref (ad 0)), (0, .ref b)] → W p l e room_1 s m #[Value.ref b] below meth c H locs 90 348600 (lw_Z below #[Value.ref b] s) (F0 m 18 ls [])) : W p l e room_1 s m #[Value.ref b] below meth c H locs 90 348600 (lw_Z below #[Value.ref b] s) (F0 m 628 ls []) := by
  obtain ⟨hx, hb, hr, hml, hown, hts0, hX, hbl, hlocks, hgv⟩ := C0
  have hts : ∀ w ∈ wsL_law, w.before #[Value.ref b] s = true := fun w h => hts0 w (wsL_law_in w h)
  have hbA : ¬ (fun q : Nat => s.heap.size ≤ q) b := Nat.not_le.mpr hbl
  have hown : s.vm.findClass RL = some m.cls := hown
  obtain ⟨hI2, hI9, hI12, hI16, hI18, hI22, hI31, hI38, hI43, hI47, hI50, hI101, hI102, hI103, hI104, hI105, hI106, hI107, hI109, hI110, hI111, hI119, hs_jKept, hs_jBook, ht0, ht1, ht2, hr0⟩ := hAll
  have hL9 : (L : Int) ≤ 384 := by omega
  obtain ⟨i1, i2, i3, i4, i5, w6⟩ : (0 ≤ (σ 2 0).toInt ∧ (σ 2 0).toInt ≤ 4) ∧ (0 ≤ (σ 2 1).toInt ∧ (σ 2 1).toInt ≤ 3) ∧ (0 ≤ (σ 2 2).toInt) ∧ (0 ≤ (σ 2 3).toInt) ∧ ((σ 2 2).toInt + (σ 2 3).toInt ≤ 40) ∧ (∀ k : Nat, k < 40 → 0 ≤ (σ 6 k).toInt ∧ (σ 6 k).toInt ≤ 67) := id hI2
  obtain ⟨i7, i8, i9, w10, w11, w12, w13⟩ : (0 ≤ (σ 55 5).toInt) ∧ ((σ 55 5).toInt ≤ (σ 55 4).toInt) ∧ ((σ 55 4).toInt ≤ 40) ∧ (∀ k : Nat, k < 68 → (-200) ≤ (σ 56 k).toInt ∧ (σ 56 k).toInt ≤ 500) ∧ (∀ k : Nat, k < 40 → 0 ≤ (σ 57 k).toInt ∧ (σ 57 k).toInt ≤ 67) ∧ (∀ k : Nat, k < 40 → (-200) ≤ (σ 58 k).toInt ∧ (σ 58 k).toInt ≤ 500) ∧ (∀ k : Nat, k < 40 → (-200) ≤ (σ 59 k).toInt ∧ (σ 59 k).toInt ≤ 500) := id hI101
  obtain ⟨i14, w15, w16⟩ : (0 ≤ (σ 55 6).toInt ∧ (σ 55 6).toInt ≤ 4) ∧ (∀ k : Nat, k < 4 → 0 ≤ (σ 60 k).toInt ∧ (σ 60 k).toInt ≤ 50) ∧ (∀ k : Nat, k < 4 → 0 ≤ (σ 61 k).toInt ∧ (σ 61 k).toInt ≤ 20) := id hI102
  refine lv_aload_n hx hb dL_law_628 rfl (lv_at hl 2 rfl) ?_
  refine lv_aload_n hx hb dL_law_629 rfl (lv_at hl 3 rfl) ?_
  refine lv_iload_n hx hb dL_law_630 rfl (lv_at hl 0 rfl) ?_
  refine lv_iconst (v := 1) hx hb dL_law_631 (by decide) ?_
  have g17 := jrg (rfl : x0.toInt = x0.toInt)
  refine lv_iadd hx hb dL_law_632 ?_
  refine lv_topi (fun x18 ex18 => ?_)
  have tx18 : x18.toInt = x0.toInt + 1 := (jadd ex18 rfl jz_1 (by omega) (by omega)).trans (by omega)
  refine va_sld hx hb hX hbl hbA hS (jin tx18 (by omega) (by omega)) dL_law_633 ?_
  have g19 := jrg (rfl : (xs x18.toNatClampNeg).toInt = (xs x18.toNatClampNeg).toInt)
  refine lv_aload_n hx hb dL_law_634 rfl (lv_at hl 3 rfl) ?_
  refine lv_iload_n hx hb dL_law_635 rfl (lv_at hl 0 rfl) ?_
  refine lv_iconst (v := 2) hx hb dL_law_636 (by decide) ?_
  refine lv_iadd hx hb dL_law_637 ?_
  refine lv_topi (fun x20 ex20 => ?_)
  have tx20 : x20.toInt = x0.toInt + 2 := (jadd ex20 rfl jz_2 (by omega) (by omega)).trans (by omega)
  refine va_sld hx hb hX hbl hbA hS (jin tx20 (by omega) (by omega)) dL_law_638 ?_
  have g21 := jrg (rfl : (xs x20.toNatClampNeg).toInt = (xs x20.toNatClampNeg).toInt)
  refine jcallV (As := [.int (xs x18.toNatClampNeg), .int (xs x20.toNatClampNeg)]) (rest := []) ⟨hx, hb, hml, hown, hts⟩ hK hP hA hS hZ (c_X11_worth l D cI cL ad zz hJ σ τ (xs x18.toNatClampNeg) ((xs x18.toNatClampNeg).toInt) rfl (xs x20.toNatClampNeg) ((xs x20.toNatClampNeg).toInt) rfl hI2 hI16 hI22 hI31) cw_RL_73 (jc_0 cI cL ad σ τ) rfl ⟨Nat.le_of_ble_eq_true rfl, Nat.le_of_ble_eq_true rfl⟩ rfl rfl rfl hl.1 rfl (Nat.le_of_ble_eq_true rfl) dL_law_639 ⟨Nat.le_of_ble_eq_true rfl, Nat.le_of_ble_eq_true rfl⟩ (fun r23 σ22 τ22 H locs h22 hP hS => ?_)
  obtain ⟨rfl, f24, f25, I26, h22⟩ := h22
  refine lv_pop hx hb dL_law_642 rfl ?_
  refine lv_aload_n hx hb dL_law_643 rfl (lv_at hl 1 rfl) ?_
  refine lv_aload_n hx hb dL_law_644 rfl (lv_at hl 3 rfl) ?_
  refine lv_iload_n hx hb dL_law_645 rfl (lv_at hl 0 rfl) ?_
  refine lv_iconst (v := 1) hx hb dL_law_646 (by decide) ?_
  refine lv_iadd hx hb dL_law_647 ?_
  refine jtopr ex18.symm ?_
  refine va_sld hx hb hX hbl hbA hS (jin tx18 (by omega) (by omega)) dL_law_648 ?_
  refine lv_aload_n hx hb dL_law_649 rfl (lv_at hl 3 rfl) ?_
  refine lv_iload_n hx hb dL_law_650 rfl (lv_at hl 0 rfl) ?_
  refine lv_iconst (v := 2) hx hb dL_law_651 (by decide) ?_
  refine lv_iadd hx hb dL_law_652 ?_
  refine jtopr ex20.symm ?_
  refine va_sld hx hb hX hbl hbA hS (jin tx20 (by omega) (by omega)) dL_law_653 ?_
  have I28 : jI101 σ22 := jI101_fr (congrFun (f24 55 (by decide)) 4) (congrFun (f24 55 (by decide)) 5) (f24 56 (by decide)) (f24 57 (by decide)) (f24 58 (by decide)) (f24 59 (by decide)) hI101
  have I29 : jI102 σ22 := jI102_fr (congrFun (f24 55 (by decide)) 6) (f24 60 (by decide)) (f24 61 (by decide)) hI102
  have I30 : jI103 σ22 := jI103_fr (congrFun (f24 55 (by decide)) 9) hI103
  have I31 : jI104 σ22 := jI104_fr (congrFun (f24 55 (by decide)) 10) (congrFun (f24 55 (by decide)) 12) (congrFun (f24 55 (by decide)) 13) (f24 62 (by decide)) (f24 67 (by decide)) hI104
  have I32 : jI105 σ22 := jI105_fr (congrFun (f24 55 (by decide)) 15) (f24 65 (by decide)) hI105
  have I33 : jI106 σ22 := jI106_fr (congrFun (f24 55 (by decide)) 32) (f24 70 (by decide)) (f24 71 (by decide)) (f24 72 (by decide)) hI106
  have I34 : jI119 σ22 := jI119_fr (f24 68 (by decide)) hI119
  have p35 : jKept σ22 := jKept.fr (f24 75 (by decide)) (f24 76 (by decide)) (f24 77 (by decide)) hs_jKept
  have z36 : (σ22 55 30).toInt = (σ 55 30).toInt := (congrArg Int32.toInt (show σ22 55 30 = (σ 55 30) from (congrFun (f24 55 (by decide)) 30)))
  have z37 : (σ22 55 31).toInt = (σ 55 31).toInt := (congrArg Int32.toInt (show σ22 55 31 = (σ 55 31) from (congrFun (f24 55 (by decide)) 31)))
  refine jcallV (As := [.int (xs x18.toNatClampNeg), .int (xs x20.toNatClampNeg)]) (rest := []) ⟨hx, hb, hml, hown, hts⟩ hK hP hA hS hZ (c_X12_worth l D cI cL ad zz hJ σ22 τ (xs x18.toNatClampNeg) ((xs x18.toNatClampNeg).toInt) rfl (xs x20.toNatClampNeg) ((xs x20.toNatClampNeg).toInt) rfl I28 I29 I30 I31 I32 I33 I34 p35) cw_RL_76 (jc_55 cI cL ad σ22 τ) rfl ⟨Nat.le_of_ble_eq_true rfl, Nat.le_of_ble_eq_true rfl⟩ rfl rfl rfl hl.1 rfl (Nat.le_of_ble_eq_true rfl) dL_law_654 ⟨Nat.le_of_ble_eq_true rfl, Nat.le_of_ble_eq_true rfl⟩ (fun r39 σ38 τ38 H locs h38 hP hS => ?_)
  obtain ⟨rfl, f40, f41, I42, p43, h38⟩ := h38
  obtain ⟨k45, h38⟩ := h38
  refine lv_pop hx hb dL_law_657 rfl ?_
  refine lv_goto (tgt := 1357) hx hb dL_law_658 (by decide) ?_
  obtain ⟨x46, ex46⟩ : ∃ y : Int32, y = x0 + 6 := ⟨_, rfl⟩
  have tx46 : x46.toInt = x0.toInt + 6 := (jadd ex46 rfl jz_6 (by omega) (by omega)).trans (by omega)
  refine lv_iinc (v := x46) (lv' := [(3, .int x46), (2, .ref (ad 55)), (1, .ref (ad 0)), (0, .ref b)]) hx hb dL_law_1357 hl (k := 0) rfl (by rw [ex46]; rfl) (by decide) rfl (fun ls hl => ?_)
  refine lv_goto (tgt := 18) hx hb dL_law_1360 (by decide) ?_
  have I47 : jI2 σ38 := jI2_fr ((congrFun (f40 2 (by decide)) 0).trans (congrFun (f24 2 (by decide)) 0)) ((congrFun (f40 2 (by decide)) 1).trans (congrFun (f24 2 (by decide)) 1)) ((congrFun (f40 2 (by decide)) 2).trans (congrFun (f24 2 (by decide)) 2)) ((congrFun (f40 2 (by decide)) 3).trans (congrFun (f24 2 (by decide)) 3)) ((f40 6 (by decide)).trans (f24 6 (by decide))) hI2
  have I48 : jI9 σ38 := jI9_fr ((congrFun (f40 9 (by decide)) 0).trans (congrFun (f24 9 (by decide)) 0)) ((f40 10 (by decide)).trans (f24 10 (by decide))) ((f40 11 (by decide)).trans (f24 11 (by decide))) hI9
  have I49 : jI12 σ38 := jI12_fr ((congrFun (f40 12 (by decide)) 0).trans (congrFun (f24 12 (by decide)) 0)) ((f40 13 (by decide)).trans (f24 13 (by decide))) hI12
  have I50 : jI16 σ38 := jI16_fr ((congrFun (f40 16 (by decide)) 0).trans (congrFun (f24 16 (by decide)) 0)) ((congrFun (f40 16 (by decide)) 1).trans (congrFun (f24 16 (by decide)) 1)) ((congrFun (f40 16 (by decide)) 2).trans (congrFun (f24 16 (by decide)) 2)) ((f40 17 (by decide)).trans (f24 17 (by decide))) hI16
  have I51 : jI18 σ38 := jI18_fr ((congrFun (f40 18 (by decide)) 0).trans (congrFun (f24 18 (by decide)) 0)) ((f40 19 (by decide)).trans (f24 19 (by decide))) hI18
  have I52 : jI22 σ38 := jI22_fr ((congrFun (f40 22 (by decide)) 0).trans (congrFun (f24 22 (by decide)) 0)) ((f40 23 (by decide)).trans (f24 23 (by decide))) hI22
  have I53 : jI31 σ38 := jI31_fr (congrFun (f40 31 (by decide)) 8) (f40 33 (by decide)) (f40 36 (by decide)) I26
  have I54 : jI38 σ38 := jI38_fr ((congrFun (f40 38 (by decide)) 0).trans (congrFun (f24 38 (by decide)) 0)) ((congrFun (f40 38 (by decide)) 1).trans (congrFun (f24 38 (by decide)) 1)) ((f40 39 (by decide)).trans (f24 39 (by decide))) hI38
  have I55 : jI43 σ38 := jI43_fr ((congrFun (f40 43 (by decide)) 8).trans (congrFun (f24 43 (by decide)) 8)) hI43
  have I56 : jI47 σ38 := jI47_fr ((congrFun (f40 47 (by decide)) 0).trans (congrFun (f24 47 (by decide)) 0)) ((f40 48 (by decide)).trans (f24 48 (by decide))) ((f40 49 (by decide)).trans (f24 49 (by decide))) hI47
  have I57 : jI50 σ38 := jI50_fr ((f40 52 (by decide)).trans (f24 52 (by decide))) hI50
  have I58 : jI101 σ38 := jI101_fr (f41 4 (by decide)) (f41 5 (by decide)) (f40 56 (by decide)) (f40 57 (by decide)) (f40 58 (by decide)) (f40 59 (by decide)) I28
  have I59 : jI102 σ38 := jI102_fr (f41 6 (by decide)) (f40 60 (by decide)) (f40 61 (by decide)) I29
  have I60 : jI103 σ38 := jI103_fr (f41 9 (by decide)) I30
  have I61 : jI104 σ38 := jI104_fr (f41 10 (by decide)) (f41 12 (by decide)) (f41 13 (by decide)) (f40 62 (by decide)) (f40 67 (by decide)) I31
  have I62 : jI105 σ38 := jI105_fr (f41 15 (by decide)) (f40 65 (by decide)) I32
  have I63 : jI106 σ38 := jI106_fr (f41 32 (by decide)) (f40 70 (by decide)) (f40 71 (by decide)) (f40 72 (by decide)) I33
  have I64 : jI107 σ38 := jI107_fr ((f41 12 (by decide)).trans (congrFun (f24 55 (by decide)) 12)) ((f41 47 (by decide)).trans (congrFun (f24 55 (by decide)) 47)) ((f40 80 (by decide)).trans (f24 80 (by decide))) hI107
  have I65 : jI109 σ38 := jI109_fr ((f41 50 (by decide)).trans (congrFun (f24 55 (by decide)) 50)) hI109
  have I66 : jI110 σ38 := jI110_fr ((f40 86 (by decide)).trans (f24 86 (by decide))) ((f40 87 (by decide)).trans (f24 87 (by decide))) hI110
  have I67 : jI111 σ38 := jI111_fr ((f40 79 (by decide)).trans (f24 79 (by decide))) hI111
  have p68 : jBook σ38 := jBook.fr ((f41 47 (by decide)).trans (congrFun (f24 55 (by decide)) 47)) ((f41 10 (by decide)).trans (congrFun (f24 55 (by decide)) 10)) ((f40 81 (by decide)).trans (f24 81 (by decide))) hs_jBook
  have z69 : (σ38 2 0).toInt = (σ 2 0).toInt := (congrArg Int32.toInt (show σ38 2 0 = (σ 2 0) from ((congrFun (f40 2 (by decide)) 0).trans (congrFun (f24 2 (by decide)) 0))))
  have z70 : (σ38 55 6).toInt = (σ 55 6).toInt := (congrArg Int32.toInt (show σ38 55 6 = (σ 55 6) from ((f41 6 (by decide)).trans (congrFun (f24 55 (by decide)) 6))))
  have z71 : (σ38 2 2).toInt = (σ 2 2).toInt := (congrArg Int32.toInt (show σ38 2 2 = (σ 2 2) from ((congrFun (f40 2 (by decide)) 2).trans (congrFun (f24 2 (by decide)) 2))))
  have z72 : (σ38 55 5).toInt = (σ 55 5).toInt := (congrArg Int32.toInt (show σ38 55 5 = (σ 55 5) from ((f41 5 (by decide)).trans (congrFun (f24 55 (by decide)) 5))))
  have z73 : (σ38 2 3).toInt = (σ 2 3).toInt := (congrArg Int32.toInt (show σ38 2 3 = (σ 2 3) from ((congrFun (f40 2 (by decide)) 3).trans (congrFun (f24 2 (by decide)) 3))))
  have z74 : (σ38 55 4).toInt = (σ 55 4).toInt := (congrArg Int32.toInt (show σ38 55 4 = (σ 55 4) from ((f41 4 (by decide)).trans (congrFun (f24 55 (by decide)) 4))))
  exact ih x46 σ38 τ _ _ ls (by have h9 := tx46; omega) ⟨I47, I48, I49, I50, I51, I52, I53, I54, I55, I56, I57, I58, I59, I60, I61, I62, I63, I64, I65, I66, I67, I42, p43, p68, (by omega), (by omega), (by omega), (show jNumP (σ38 3) (σ38 56) (σ38 6) (σ38 57) (σ38 7) (σ38 58) (σ38 8) (σ38 59) (σ38 55 6).toInt (σ38 55 4).toInt by rw [show σ38 3 = σ 3 from ((f40 3 (by decide)).trans (f24 3 (by decide))), show σ38 56 = σ 56 from ((f40 56 (by decide)).trans (f24 56 (by decide))), show σ38 6 = σ 6 from ((f40 6 (by decide)).trans (f24 6 (by decide))), show σ38 57 = σ 57 from ((f40 57 (by decide)).trans (f24 57 (by decide))), show σ38 7 = σ 7 from ((f40 7 (by decide)).trans (f24 7 (by decide))), show σ38 58 = σ 58 from ((f40 58 (by decide)).trans (f24 58 (by decide))), show σ38 8 = σ 8 from ((f40 8 (by decide)).trans (f24 8 (by decide))), show σ38 59 = σ 59 from ((f40 59 (by decide)).trans (f24 59 (by decide))), show (σ38 55 6).toInt = (σ 55 6).toInt from by omega, show (σ38 55 4).toInt = (σ 55 4).toInt from by omega]; exact hr0)⟩ hP hS (lv_sub hl [0, 1, 2, 3] rfl)
set_option maxHeartbeats 4000000 in
set_option maxRecDepth 100000 in
theorem law_case_15 {p : Program} {e : Env} {s : State} {m : MethodId} {below : List Frame} {meth : Method} {c : Code} (l : Launch) {b L : Nat} {xs : Nat → Int32} {D : va_G} {cI cL : ClassId} {ad zz : Nat → Nat} (C0 : lw_At p s m meth c b L xs) (hJ : jD ad) (hA : ∀ q, jA ad q → s.heap.size ≤ q) (hK : jK D cI cL s) (hZ : jZ zz (fun q : Nat => s.heap.size ≤ q) s s.heap) {x0 : Int32} (hx0 : 0 ≤ x0.toInt) (hxL : x0.toInt + 6 ≤ (L : Int)) (hL : L ≤ 384) {σ : Nat → Nat → Int32} {τ : Nat → Nat → Int64} {H : Heap} {locs : List Loc} (hS : va_S (fun q : Nat => s.heap.size ≤ q) s.heap H locs) {ls : Array Slot} (hAll : jAll σ τ) (hP : jH D cI cL ad σ τ H) (hl : lv_has ls 4 [(3, .int x0), (2, .ref (ad 55)), (1, .ref (ad 0)), (0, .ref b)]) (ih : ∀ (x1 : Int32) (σ : Nat → Nat → Int32) (τ : Nat → Nat → Int64) (H : Heap) (locs : List Loc) (ls : Array Slot), x1.toInt = x0.toInt + 6 → jAll σ τ → jH D cI cL ad σ τ H → va_S (fun q : Nat => s.heap.size ≤ q) s.heap H locs → lv_has ls 4 [(3, .int x1), (2, .ref (ad 55)), (1, .ref (ad 0)), (0, .ref b)] → W p l e room_1 s m #[Value.ref b] below meth c H locs 90 348600 (lw_Z below #[Value.ref b] s) (F0 m 18 ls [])) : W p l e room_1 s m #[Value.ref b] below meth c H locs 90 348600 (lw_Z below #[Value.ref b] s) (F0 m 661 ls []) := by
  obtain ⟨hx, hb, hr, hml, hown, hts0, hX, hbl, hlocks, hgv⟩ := C0
  have hts : ∀ w ∈ wsL_law, w.before #[Value.ref b] s = true := fun w h => hts0 w (wsL_law_in w h)
  have hbA : ¬ (fun q : Nat => s.heap.size ≤ q) b := Nat.not_le.mpr hbl
  have hown : s.vm.findClass RL = some m.cls := hown
  obtain ⟨hI2, hI9, hI12, hI16, hI18, hI22, hI31, hI38, hI43, hI47, hI50, hI101, hI102, hI103, hI104, hI105, hI106, hI107, hI109, hI110, hI111, hI119, hs_jKept, hs_jBook, ht0, ht1, ht2, hr0⟩ := hAll
  have hL9 : (L : Int) ≤ 384 := by omega
  obtain ⟨i1, i2, i3, i4, i5, w6⟩ : (0 ≤ (σ 2 0).toInt ∧ (σ 2 0).toInt ≤ 4) ∧ (0 ≤ (σ 2 1).toInt ∧ (σ 2 1).toInt ≤ 3) ∧ (0 ≤ (σ 2 2).toInt) ∧ (0 ≤ (σ 2 3).toInt) ∧ ((σ 2 2).toInt + (σ 2 3).toInt ≤ 40) ∧ (∀ k : Nat, k < 40 → 0 ≤ (σ 6 k).toInt ∧ (σ 6 k).toInt ≤ 67) := id hI2
  obtain ⟨i7, i8, i9, w10, w11, w12, w13⟩ : (0 ≤ (σ 55 5).toInt) ∧ ((σ 55 5).toInt ≤ (σ 55 4).toInt) ∧ ((σ 55 4).toInt ≤ 40) ∧ (∀ k : Nat, k < 68 → (-200) ≤ (σ 56 k).toInt ∧ (σ 56 k).toInt ≤ 500) ∧ (∀ k : Nat, k < 40 → 0 ≤ (σ 57 k).toInt ∧ (σ 57 k).toInt ≤ 67) ∧ (∀ k : Nat, k < 40 → (-200) ≤ (σ 58 k).toInt ∧ (σ 58 k).toInt ≤ 500) ∧ (∀ k : Nat, k < 40 → (-200) ≤ (σ 59 k).toInt ∧ (σ 59 k).toInt ≤ 500) := id hI101
  obtain ⟨i14, w15, w16⟩ : (0 ≤ (σ 55 6).toInt ∧ (σ 55 6).toInt ≤ 4) ∧ (∀ k : Nat, k < 4 → 0 ≤ (σ 60 k).toInt ∧ (σ 60 k).toInt ≤ 50) ∧ (∀ k : Nat, k < 4 → 0 ≤ (σ 61 k).toInt ∧ (σ 61 k).toInt ≤ 20) := id hI102
  refine lv_aload_n hx hb dL_law_661 rfl (lv_at hl 2 rfl) ?_
  refine lv_aload_n hx hb dL_law_662 rfl (lv_at hl 3 rfl) ?_
  refine lv_iload_n hx hb dL_law_663 rfl (lv_at hl 0 rfl) ?_
  refine lv_iconst (v := 1) hx hb dL_law_664 (by decide) ?_
  have g17 := jrg (rfl : x0.toInt = x0.toInt)
  refine lv_iadd hx hb dL_law_665 ?_
  refine lv_topi (fun x18 ex18 => ?_)
  have tx18 : x18.toInt = x0.toInt + 1 := (jadd ex18 rfl jz_1 (by omega) (by omega)).trans (by omega)
  refine va_sld hx hb hX hbl hbA hS (jin tx18 (by omega) (by omega)) dL_law_666 ?_
  have g19 := jrg (rfl : (xs x18.toNatClampNeg).toInt = (xs x18.toNatClampNeg).toInt)
  refine lv_aload_n hx hb dL_law_667 rfl (lv_at hl 3 rfl) ?_
  refine lv_iload_n hx hb dL_law_668 rfl (lv_at hl 0 rfl) ?_
  refine lv_iconst (v := 2) hx hb dL_law_669 (by decide) ?_
  refine lv_iadd hx hb dL_law_670 ?_
  refine lv_topi (fun x20 ex20 => ?_)
  have tx20 : x20.toInt = x0.toInt + 2 := (jadd ex20 rfl jz_2 (by omega) (by omega)).trans (by omega)
  refine va_sld hx hb hX hbl hbA hS (jin tx20 (by omega) (by omega)) dL_law_671 ?_
  have g21 := jrg (rfl : (xs x20.toNatClampNeg).toInt = (xs x20.toNatClampNeg).toInt)
  refine jcallV (As := [.int (xs x18.toNatClampNeg), .int (xs x20.toNatClampNeg)]) (rest := []) ⟨hx, hb, hml, hown, hts⟩ hK hP hA hS hZ (c_X11_fielded l D cI cL ad zz hJ σ τ (xs x18.toNatClampNeg) ((xs x18.toNatClampNeg).toInt) rfl (xs x20.toNatClampNeg) ((xs x20.toNatClampNeg).toInt) rfl hI2 hI16 hI22 hI31) cw_RL_77 (jc_0 cI cL ad σ τ) rfl ⟨Nat.le_of_ble_eq_true rfl, Nat.le_of_ble_eq_true rfl⟩ rfl rfl rfl hl.1 rfl (Nat.le_of_ble_eq_true rfl) dL_law_672 ⟨Nat.le_of_ble_eq_true rfl, Nat.le_of_ble_eq_true rfl⟩ (fun r23 σ22 τ22 H locs h22 hP hS => ?_)
  obtain ⟨rfl, f24, f25, I26, h22⟩ := h22
  refine lv_pop hx hb dL_law_675 rfl ?_
  refine lv_aload_n hx hb dL_law_676 rfl (lv_at hl 1 rfl) ?_
  refine lv_aload_n hx hb dL_law_677 rfl (lv_at hl 3 rfl) ?_
  refine lv_iload_n hx hb dL_law_678 rfl (lv_at hl 0 rfl) ?_
  refine lv_iconst (v := 1) hx hb dL_law_679 (by decide) ?_
  refine lv_iadd hx hb dL_law_680 ?_
  refine jtopr ex18.symm ?_
  refine va_sld hx hb hX hbl hbA hS (jin tx18 (by omega) (by omega)) dL_law_681 ?_
  refine lv_aload_n hx hb dL_law_682 rfl (lv_at hl 3 rfl) ?_
  refine lv_iload_n hx hb dL_law_683 rfl (lv_at hl 0 rfl) ?_
  refine lv_iconst (v := 2) hx hb dL_law_684 (by decide) ?_
  refine lv_iadd hx hb dL_law_685 ?_
  refine jtopr ex20.symm ?_
  refine va_sld hx hb hX hbl hbA hS (jin tx20 (by omega) (by omega)) dL_law_686 ?_
  have I28 : jI101 σ22 := jI101_fr (congrFun (f24 55 (by decide)) 4) (congrFun (f24 55 (by decide)) 5) (f24 56 (by decide)) (f24 57 (by decide)) (f24 58 (by decide)) (f24 59 (by decide)) hI101
  have I29 : jI102 σ22 := jI102_fr (congrFun (f24 55 (by decide)) 6) (f24 60 (by decide)) (f24 61 (by decide)) hI102
  have I30 : jI103 σ22 := jI103_fr (congrFun (f24 55 (by decide)) 9) hI103
  have I31 : jI104 σ22 := jI104_fr (congrFun (f24 55 (by decide)) 10) (congrFun (f24 55 (by decide)) 12) (congrFun (f24 55 (by decide)) 13) (f24 62 (by decide)) (f24 67 (by decide)) hI104
  have I32 : jI105 σ22 := jI105_fr (congrFun (f24 55 (by decide)) 15) (f24 65 (by decide)) hI105
  have I33 : jI106 σ22 := jI106_fr (congrFun (f24 55 (by decide)) 32) (f24 70 (by decide)) (f24 71 (by decide)) (f24 72 (by decide)) hI106
  have I34 : jI119 σ22 := jI119_fr (f24 68 (by decide)) hI119
  have p35 : jKept σ22 := jKept.fr (f24 75 (by decide)) (f24 76 (by decide)) (f24 77 (by decide)) hs_jKept
  have z36 : (σ22 55 9).toInt = (σ 55 9).toInt := (congrArg Int32.toInt (show σ22 55 9 = (σ 55 9) from (congrFun (f24 55 (by decide)) 9)))
  refine jcallV (As := [.int (xs x18.toNatClampNeg), .int (xs x20.toNatClampNeg)]) (rest := []) ⟨hx, hb, hml, hown, hts⟩ hK hP hA hS hZ (c_X12_fielded l D cI cL ad zz hJ σ22 τ (xs x18.toNatClampNeg) ((xs x18.toNatClampNeg).toInt) rfl (xs x20.toNatClampNeg) ((xs x20.toNatClampNeg).toInt) rfl I28 I29 I30 I31 I32 I33 I34 p35) cw_RL_80 (jc_55 cI cL ad σ22 τ) rfl ⟨Nat.le_of_ble_eq_true rfl, Nat.le_of_ble_eq_true rfl⟩ rfl rfl rfl hl.1 rfl (Nat.le_of_ble_eq_true rfl) dL_law_687 ⟨Nat.le_of_ble_eq_true rfl, Nat.le_of_ble_eq_true rfl⟩ (fun r38 σ37 τ37 H locs h37 hP hS => ?_)
  obtain ⟨rfl, f39, f40, I41, I42, p43, h37⟩ := h37
  obtain ⟨k45, h37⟩ := h37
  refine lv_pop hx hb dL_law_690 rfl ?_
  refine lv_goto (tgt := 1357) hx hb dL_law_691 (by decide) ?_
  obtain ⟨x46, ex46⟩ : ∃ y : Int32, y = x0 + 6 := ⟨_, rfl⟩
  have tx46 : x46.toInt = x0.toInt + 6 := (jadd ex46 rfl jz_6 (by omega) (by omega)).trans (by omega)
  refine lv_iinc (v := x46) (lv' := [(3, .int x46), (2, .ref (ad 55)), (1, .ref (ad 0)), (0, .ref b)]) hx hb dL_law_1357 hl (k := 0) rfl (by rw [ex46]; rfl) (by decide) rfl (fun ls hl => ?_)
  refine lv_goto (tgt := 18) hx hb dL_law_1360 (by decide) ?_
  have I47 : jI2 σ37 := jI2_fr ((congrFun (f39 2 (by decide)) 0).trans (congrFun (f24 2 (by decide)) 0)) ((congrFun (f39 2 (by decide)) 1).trans (congrFun (f24 2 (by decide)) 1)) ((congrFun (f39 2 (by decide)) 2).trans (congrFun (f24 2 (by decide)) 2)) ((congrFun (f39 2 (by decide)) 3).trans (congrFun (f24 2 (by decide)) 3)) ((f39 6 (by decide)).trans (f24 6 (by decide))) hI2
  have I48 : jI9 σ37 := jI9_fr ((congrFun (f39 9 (by decide)) 0).trans (congrFun (f24 9 (by decide)) 0)) ((f39 10 (by decide)).trans (f24 10 (by decide))) ((f39 11 (by decide)).trans (f24 11 (by decide))) hI9
  have I49 : jI12 σ37 := jI12_fr ((congrFun (f39 12 (by decide)) 0).trans (congrFun (f24 12 (by decide)) 0)) ((f39 13 (by decide)).trans (f24 13 (by decide))) hI12
  have I50 : jI16 σ37 := jI16_fr ((congrFun (f39 16 (by decide)) 0).trans (congrFun (f24 16 (by decide)) 0)) ((congrFun (f39 16 (by decide)) 1).trans (congrFun (f24 16 (by decide)) 1)) ((congrFun (f39 16 (by decide)) 2).trans (congrFun (f24 16 (by decide)) 2)) ((f39 17 (by decide)).trans (f24 17 (by decide))) hI16
  have I51 : jI18 σ37 := jI18_fr ((congrFun (f39 18 (by decide)) 0).trans (congrFun (f24 18 (by decide)) 0)) ((f39 19 (by decide)).trans (f24 19 (by decide))) hI18
  have I52 : jI22 σ37 := jI22_fr ((congrFun (f39 22 (by decide)) 0).trans (congrFun (f24 22 (by decide)) 0)) ((f39 23 (by decide)).trans (f24 23 (by decide))) hI22
  have I53 : jI31 σ37 := jI31_fr (congrFun (f39 31 (by decide)) 8) (f39 33 (by decide)) (f39 36 (by decide)) I26
  have I54 : jI38 σ37 := jI38_fr ((congrFun (f39 38 (by decide)) 0).trans (congrFun (f24 38 (by decide)) 0)) ((congrFun (f39 38 (by decide)) 1).trans (congrFun (f24 38 (by decide)) 1)) ((f39 39 (by decide)).trans (f24 39 (by decide))) hI38
  have I55 : jI43 σ37 := jI43_fr ((congrFun (f39 43 (by decide)) 8).trans (congrFun (f24 43 (by decide)) 8)) hI43
  have I56 : jI47 σ37 := jI47_fr ((congrFun (f39 47 (by decide)) 0).trans (congrFun (f24 47 (by decide)) 0)) ((f39 48 (by decide)).trans (f24 48 (by decide))) ((f39 49 (by decide)).trans (f24 49 (by decide))) hI47
  have I57 : jI50 σ37 := jI50_fr ((f39 52 (by decide)).trans (f24 52 (by decide))) hI50
  have I58 : jI101 σ37 := jI101_fr (f40 4 (by decide)) (f40 5 (by decide)) (f39 56 (by decide)) (f39 57 (by decide)) (f39 58 (by decide)) (f39 59 (by decide)) I28
  have I59 : jI102 σ37 := jI102_fr (f40 6 (by decide)) (f39 60 (by decide)) (f39 61 (by decide)) I29
  have I60 : jI104 σ37 := jI104_fr (f40 10 (by decide)) (f40 12 (by decide)) (f40 13 (by decide)) (f39 62 (by decide)) (f39 67 (by decide)) I31
  have I61 : jI105 σ37 := jI105_fr (f40 15 (by decide)) (f39 65 (by decide)) I32
  have I62 : jI106 σ37 := jI106_fr (f40 32 (by decide)) (f39 70 (by decide)) (f39 71 (by decide)) (f39 72 (by decide)) I33
  have I63 : jI107 σ37 := jI107_fr ((f40 12 (by decide)).trans (congrFun (f24 55 (by decide)) 12)) ((f40 47 (by decide)).trans (congrFun (f24 55 (by decide)) 47)) ((f39 80 (by decide)).trans (f24 80 (by decide))) hI107
  have I64 : jI109 σ37 := jI109_fr ((f40 50 (by decide)).trans (congrFun (f24 55 (by decide)) 50)) hI109
  have I65 : jI110 σ37 := jI110_fr ((f39 86 (by decide)).trans (f24 86 (by decide))) ((f39 87 (by decide)).trans (f24 87 (by decide))) hI110
  have I66 : jI111 σ37 := jI111_fr ((f39 79 (by decide)).trans (f24 79 (by decide))) hI111
  have p67 : jBook σ37 := jBook.fr ((f40 47 (by decide)).trans (congrFun (f24 55 (by decide)) 47)) ((f40 10 (by decide)).trans (congrFun (f24 55 (by decide)) 10)) ((f39 81 (by decide)).trans (f24 81 (by decide))) hs_jBook
  have z68 : (σ37 2 0).toInt = (σ 2 0).toInt := (congrArg Int32.toInt (show σ37 2 0 = (σ 2 0) from ((congrFun (f39 2 (by decide)) 0).trans (congrFun (f24 2 (by decide)) 0))))
  have z69 : (σ37 55 6).toInt = (σ 55 6).toInt := (congrArg Int32.toInt (show σ37 55 6 = (σ 55 6) from ((f40 6 (by decide)).trans (congrFun (f24 55 (by decide)) 6))))
  have z70 : (σ37 2 2).toInt = (σ 2 2).toInt := (congrArg Int32.toInt (show σ37 2 2 = (σ 2 2) from ((congrFun (f39 2 (by decide)) 2).trans (congrFun (f24 2 (by decide)) 2))))
  have z71 : (σ37 55 5).toInt = (σ 55 5).toInt := (congrArg Int32.toInt (show σ37 55 5 = (σ 55 5) from ((f40 5 (by decide)).trans (congrFun (f24 55 (by decide)) 5))))
  have z72 : (σ37 2 3).toInt = (σ 2 3).toInt := (congrArg Int32.toInt (show σ37 2 3 = (σ 2 3) from ((congrFun (f39 2 (by decide)) 3).trans (congrFun (f24 2 (by decide)) 3))))
  have z73 : (σ37 55 4).toInt = (σ 55 4).toInt := (congrArg Int32.toInt (show σ37 55 4 = (σ 55 4) from ((f40 4 (by decide)).trans (congrFun (f24 55 (by decide)) 4))))
  exact ih x46 σ37 τ _ _ ls (by have h9 := tx46; omega) ⟨I47, I48, I49, I50, I51, I52, I53, I54, I55, I56, I57, I58, I59, I41, I60, I61, I62, I63, I64, I65, I66, I42, p43, p67, (by omega), (by omega), (by omega), (show jNumP (σ37 3) (σ37 56) (σ37 6) (σ37 57) (σ37 7) (σ37 58) (σ37 8) (σ37 59) (σ37 55 6).toInt (σ37 55 4).toInt by rw [show σ37 3 = σ 3 from ((f39 3 (by decide)).trans (f24 3 (by decide))), show σ37 56 = σ 56 from ((f39 56 (by decide)).trans (f24 56 (by decide))), show σ37 6 = σ 6 from ((f39 6 (by decide)).trans (f24 6 (by decide))), show σ37 57 = σ 57 from ((f39 57 (by decide)).trans (f24 57 (by decide))), show σ37 7 = σ 7 from ((f39 7 (by decide)).trans (f24 7 (by decide))), show σ37 58 = σ 58 from ((f39 58 (by decide)).trans (f24 58 (by decide))), show σ37 8 = σ 8 from ((f39 8 (by decide)).trans (f24 8 (by decide))), show σ37 59 = σ 59 from ((f39 59 (by decide)).trans (f24 59 (by decide))), show (σ37 55 6).toInt = (σ 55 6).toInt from by omega, show (σ37 55 4).toInt = (σ 55 4).toInt from by omega]; exact hr0)⟩ hP hS (lv_sub hl [0, 1, 2, 3] rfl)
set_option maxHeartbeats 4000000 in
set_option maxRecDepth 100000 in
theorem law_case_16 {p : Program} {e : Env} {s : State} {m : MethodId} {below : List Frame} {meth : Method} {c : Code} (l : Launch) {b L : Nat} {xs : Nat → Int32} {D : va_G} {cI cL : ClassId} {ad zz : Nat → Nat} (C0 : lw_At p s m meth c b L xs) (hJ : jD ad) (hA : ∀ q, jA ad q → s.heap.size ≤ q) (hK : jK D cI cL s) (hZ : jZ zz (fun q : Nat => s.heap.size ≤ q) s s.heap) {x0 : Int32} (hx0 : 0 ≤ x0.toInt) (hxL : x0.toInt + 6 ≤ (L : Int)) (hL : L ≤ 384) {σ : Nat → Nat → Int32} {τ : Nat → Nat → Int64} {H : Heap} {locs : List Loc} (hS : va_S (fun q : Nat => s.heap.size ≤ q) s.heap H locs) {ls : Array Slot} (hAll : jAll σ τ) (hP : jH D cI cL ad σ τ H) (hl : lv_has ls 4 [(3, .int x0), (2, .ref (ad 55)), (1, .ref (ad 0)), (0, .ref b)]) (ih : ∀ (x1 : Int32) (σ : Nat → Nat → Int32) (τ : Nat → Nat → Int64) (H : Heap) (locs : List Loc) (ls : Array Slot), x1.toInt = x0.toInt + 6 → jAll σ τ → jH D cI cL ad σ τ H → va_S (fun q : Nat => s.heap.size ≤ q) s.heap H locs → lv_has ls 4 [(3, .int x1), (2, .ref (ad 55)), (1, .ref (ad 0)), (0, .ref b)] → W p l e room_1 s m #[Value.ref b] below meth c H locs 90 348600 (lw_Z below #[Value.ref b] s) (F0 m 18 ls [])) : W p l e room_1 s m #[Value.ref b] below meth c H locs 90 348600 (lw_Z below #[Value.ref b] s) (F0 m 694 ls []) := by
  obtain ⟨hx, hb, hr, hml, hown, hts0, hX, hbl, hlocks, hgv⟩ := C0
  have hts : ∀ w ∈ wsL_law, w.before #[Value.ref b] s = true := fun w h => hts0 w (wsL_law_in w h)
  have hbA : ¬ (fun q : Nat => s.heap.size ≤ q) b := Nat.not_le.mpr hbl
  have hown : s.vm.findClass RL = some m.cls := hown
  obtain ⟨hI2, hI9, hI12, hI16, hI18, hI22, hI31, hI38, hI43, hI47, hI50, hI101, hI102, hI103, hI104, hI105, hI106, hI107, hI109, hI110, hI111, hI119, hs_jKept, hs_jBook, ht0, ht1, ht2, hr0⟩ := hAll
  have hL9 : (L : Int) ≤ 384 := by omega
  obtain ⟨i1, i2, i3, i4, i5, w6⟩ : (0 ≤ (σ 2 0).toInt ∧ (σ 2 0).toInt ≤ 4) ∧ (0 ≤ (σ 2 1).toInt ∧ (σ 2 1).toInt ≤ 3) ∧ (0 ≤ (σ 2 2).toInt) ∧ (0 ≤ (σ 2 3).toInt) ∧ ((σ 2 2).toInt + (σ 2 3).toInt ≤ 40) ∧ (∀ k : Nat, k < 40 → 0 ≤ (σ 6 k).toInt ∧ (σ 6 k).toInt ≤ 67) := id hI2
  obtain ⟨i7, i8, i9, w10, w11, w12, w13⟩ : (0 ≤ (σ 55 5).toInt) ∧ ((σ 55 5).toInt ≤ (σ 55 4).toInt) ∧ ((σ 55 4).toInt ≤ 40) ∧ (∀ k : Nat, k < 68 → (-200) ≤ (σ 56 k).toInt ∧ (σ 56 k).toInt ≤ 500) ∧ (∀ k : Nat, k < 40 → 0 ≤ (σ 57 k).toInt ∧ (σ 57 k).toInt ≤ 67) ∧ (∀ k : Nat, k < 40 → (-200) ≤ (σ 58 k).toInt ∧ (σ 58 k).toInt ≤ 500) ∧ (∀ k : Nat, k < 40 → (-200) ≤ (σ 59 k).toInt ∧ (σ 59 k).toInt ≤ 500) := id hI101
  obtain ⟨i14, w15, w16⟩ : (0 ≤ (σ 55 6).toInt ∧ (σ 55 6).toInt ≤ 4) ∧ (∀ k : Nat, k < 4 → 0 ≤ (σ 60 k).toInt ∧ (σ 60 k).toInt ≤ 50) ∧ (∀ k : Nat, k < 4 → 0 ≤ (σ 61 k).toInt ∧ (σ 61 k).toInt ≤ 20) := id hI102
  refine lv_aload_n hx hb dL_law_694 rfl (lv_at hl 2 rfl) ?_
  refine lv_aload_n hx hb dL_law_695 rfl (lv_at hl 3 rfl) ?_
  refine lv_iload_n hx hb dL_law_696 rfl (lv_at hl 0 rfl) ?_
  refine lv_iconst (v := 1) hx hb dL_law_697 (by decide) ?_
  have g17 := jrg (rfl : x0.toInt = x0.toInt)
  refine lv_iadd hx hb dL_law_698 ?_
  refine lv_topi (fun x18 ex18 => ?_)
  have tx18 : x18.toInt = x0.toInt + 1 := (jadd ex18 rfl jz_1 (by omega) (by omega)).trans (by omega)
  refine va_sld hx hb hX hbl hbA hS (jin tx18 (by omega) (by omega)) dL_law_699 ?_
  have g19 := jrg (rfl : (xs x18.toNatClampNeg).toInt = (xs x18.toNatClampNeg).toInt)
  refine jcallV (As := [.int (xs x18.toNatClampNeg)]) (rest := []) ⟨hx, hb, hml, hown, hts⟩ hK hP hA hS hZ (c_X11_kept l D cI cL ad zz hJ σ τ (xs x18.toNatClampNeg) ((xs x18.toNatClampNeg).toInt) rfl hI2 hI16 hI22 hI31) cw_RL_81 (jc_0 cI cL ad σ τ) rfl ⟨Nat.le_of_ble_eq_true rfl, Nat.le_of_ble_eq_true rfl⟩ rfl rfl rfl hl.1 rfl (Nat.le_of_ble_eq_true rfl) dL_law_700 ⟨Nat.le_of_ble_eq_true rfl, Nat.le_of_ble_eq_true rfl⟩ (fun r21 σ20 τ20 H locs h20 hP hS => ?_)
  obtain ⟨rfl, f22, f23, I24, h20⟩ := h20
  refine lv_pop hx hb dL_law_703 rfl ?_
  refine lv_aload_n hx hb dL_law_704 rfl (lv_at hl 1 rfl) ?_
  refine lv_aload_n hx hb dL_law_705 rfl (lv_at hl 3 rfl) ?_
  refine lv_iload_n hx hb dL_law_706 rfl (lv_at hl 0 rfl) ?_
  refine lv_iconst (v := 1) hx hb dL_law_707 (by decide) ?_
  refine lv_iadd hx hb dL_law_708 ?_
  refine jtopr ex18.symm ?_
  refine va_sld hx hb hX hbl hbA hS (jin tx18 (by omega) (by omega)) dL_law_709 ?_
  have I26 : jI101 σ20 := jI101_fr (congrFun (f22 55 (by decide)) 4) (congrFun (f22 55 (by decide)) 5) (f22 56 (by decide)) (f22 57 (by decide)) (f22 58 (by decide)) (f22 59 (by decide)) hI101
  have I27 : jI102 σ20 := jI102_fr (congrFun (f22 55 (by decide)) 6) (f22 60 (by decide)) (f22 61 (by decide)) hI102
  have I28 : jI103 σ20 := jI103_fr (congrFun (f22 55 (by decide)) 9) hI103
  have I29 : jI104 σ20 := jI104_fr (congrFun (f22 55 (by decide)) 10) (congrFun (f22 55 (by decide)) 12) (congrFun (f22 55 (by decide)) 13) (f22 62 (by decide)) (f22 67 (by decide)) hI104
  have I30 : jI105 σ20 := jI105_fr (congrFun (f22 55 (by decide)) 15) (f22 65 (by decide)) hI105
  have I31 : jI106 σ20 := jI106_fr (congrFun (f22 55 (by decide)) 32) (f22 70 (by decide)) (f22 71 (by decide)) (f22 72 (by decide)) hI106
  have I32 : jI119 σ20 := jI119_fr (f22 68 (by decide)) hI119
  have p33 : jKept σ20 := jKept.fr (f22 75 (by decide)) (f22 76 (by decide)) (f22 77 (by decide)) hs_jKept
  refine jcallV (As := [.int (xs x18.toNatClampNeg)]) (rest := []) ⟨hx, hb, hml, hown, hts⟩ hK hP hA hS hZ (c_X12_kept l D cI cL ad zz hJ σ20 τ (xs x18.toNatClampNeg) ((xs x18.toNatClampNeg).toInt) rfl I26 I27 I28 I29 I30 I31 I32 p33) cw_RL_84 (jc_55 cI cL ad σ20 τ) rfl ⟨Nat.le_of_ble_eq_true rfl, Nat.le_of_ble_eq_true rfl⟩ rfl rfl rfl hl.1 rfl (Nat.le_of_ble_eq_true rfl) dL_law_710 ⟨Nat.le_of_ble_eq_true rfl, Nat.le_of_ble_eq_true rfl⟩ (fun r35 σ34 τ34 H locs h34 hP hS => ?_)
  obtain ⟨rfl, f36, f37, I38, p39, h34⟩ := h34
  refine lv_pop hx hb dL_law_713 rfl ?_
  refine lv_goto (tgt := 1357) hx hb dL_law_714 (by decide) ?_
  obtain ⟨x41, ex41⟩ : ∃ y : Int32, y = x0 + 6 := ⟨_, rfl⟩
  have tx41 : x41.toInt = x0.toInt + 6 := (jadd ex41 rfl jz_6 (by omega) (by omega)).trans (by omega)
  refine lv_iinc (v := x41) (lv' := [(3, .int x41), (2, .ref (ad 55)), (1, .ref (ad 0)), (0, .ref b)]) hx hb dL_law_1357 hl (k := 0) rfl (by rw [ex41]; rfl) (by decide) rfl (fun ls hl => ?_)
  refine lv_goto (tgt := 18) hx hb dL_law_1360 (by decide) ?_
  have I42 : jI2 σ34 := jI2_fr ((congrFun (f36 2 (by decide)) 0).trans (congrFun (f22 2 (by decide)) 0)) ((congrFun (f36 2 (by decide)) 1).trans (congrFun (f22 2 (by decide)) 1)) ((congrFun (f36 2 (by decide)) 2).trans (congrFun (f22 2 (by decide)) 2)) ((congrFun (f36 2 (by decide)) 3).trans (congrFun (f22 2 (by decide)) 3)) ((f36 6 (by decide)).trans (f22 6 (by decide))) hI2
  have I43 : jI9 σ34 := jI9_fr ((congrFun (f36 9 (by decide)) 0).trans (congrFun (f22 9 (by decide)) 0)) ((f36 10 (by decide)).trans (f22 10 (by decide))) ((f36 11 (by decide)).trans (f22 11 (by decide))) hI9
  have I44 : jI12 σ34 := jI12_fr ((congrFun (f36 12 (by decide)) 0).trans (congrFun (f22 12 (by decide)) 0)) ((f36 13 (by decide)).trans (f22 13 (by decide))) hI12
  have I45 : jI16 σ34 := jI16_fr ((congrFun (f36 16 (by decide)) 0).trans (congrFun (f22 16 (by decide)) 0)) ((congrFun (f36 16 (by decide)) 1).trans (congrFun (f22 16 (by decide)) 1)) ((congrFun (f36 16 (by decide)) 2).trans (congrFun (f22 16 (by decide)) 2)) ((f36 17 (by decide)).trans (f22 17 (by decide))) hI16
  have I46 : jI18 σ34 := jI18_fr ((congrFun (f36 18 (by decide)) 0).trans (congrFun (f22 18 (by decide)) 0)) ((f36 19 (by decide)).trans (f22 19 (by decide))) hI18
  have I47 : jI22 σ34 := jI22_fr ((congrFun (f36 22 (by decide)) 0).trans (congrFun (f22 22 (by decide)) 0)) ((f36 23 (by decide)).trans (f22 23 (by decide))) hI22
  have I48 : jI31 σ34 := jI31_fr (congrFun (f36 31 (by decide)) 8) (f36 33 (by decide)) (f36 36 (by decide)) I24
  have I49 : jI38 σ34 := jI38_fr ((congrFun (f36 38 (by decide)) 0).trans (congrFun (f22 38 (by decide)) 0)) ((congrFun (f36 38 (by decide)) 1).trans (congrFun (f22 38 (by decide)) 1)) ((f36 39 (by decide)).trans (f22 39 (by decide))) hI38
  have I50 : jI43 σ34 := jI43_fr ((congrFun (f36 43 (by decide)) 8).trans (congrFun (f22 43 (by decide)) 8)) hI43
  have I51 : jI47 σ34 := jI47_fr ((congrFun (f36 47 (by decide)) 0).trans (congrFun (f22 47 (by decide)) 0)) ((f36 48 (by decide)).trans (f22 48 (by decide))) ((f36 49 (by decide)).trans (f22 49 (by decide))) hI47
  have I52 : jI50 σ34 := jI50_fr ((f36 52 (by decide)).trans (f22 52 (by decide))) hI50
  have I53 : jI101 σ34 := jI101_fr (f37 4 (by decide)) (f37 5 (by decide)) (f36 56 (by decide)) (f36 57 (by decide)) (f36 58 (by decide)) (f36 59 (by decide)) I26
  have I54 : jI102 σ34 := jI102_fr (f37 6 (by decide)) (f36 60 (by decide)) (f36 61 (by decide)) I27
  have I55 : jI103 σ34 := jI103_fr (f37 9 (by decide)) I28
  have I56 : jI104 σ34 := jI104_fr (f37 10 (by decide)) (f37 12 (by decide)) (f37 13 (by decide)) (f36 62 (by decide)) (f36 67 (by decide)) I29
  have I57 : jI105 σ34 := jI105_fr (f37 15 (by decide)) (f36 65 (by decide)) I30
  have I58 : jI106 σ34 := jI106_fr (f37 32 (by decide)) (f36 70 (by decide)) (f36 71 (by decide)) (f36 72 (by decide)) I31
  have I59 : jI107 σ34 := jI107_fr ((f37 12 (by decide)).trans (congrFun (f22 55 (by decide)) 12)) ((f37 47 (by decide)).trans (congrFun (f22 55 (by decide)) 47)) ((f36 80 (by decide)).trans (f22 80 (by decide))) hI107
  have I60 : jI109 σ34 := jI109_fr ((f37 50 (by decide)).trans (congrFun (f22 55 (by decide)) 50)) hI109
  have I61 : jI110 σ34 := jI110_fr ((f36 86 (by decide)).trans (f22 86 (by decide))) ((f36 87 (by decide)).trans (f22 87 (by decide))) hI110
  have I62 : jI111 σ34 := jI111_fr ((f36 79 (by decide)).trans (f22 79 (by decide))) hI111
  have p63 : jBook σ34 := jBook.fr ((f37 47 (by decide)).trans (congrFun (f22 55 (by decide)) 47)) ((f37 10 (by decide)).trans (congrFun (f22 55 (by decide)) 10)) ((f36 81 (by decide)).trans (f22 81 (by decide))) hs_jBook
  have z64 : (σ34 2 0).toInt = (σ 2 0).toInt := (congrArg Int32.toInt (show σ34 2 0 = (σ 2 0) from ((congrFun (f36 2 (by decide)) 0).trans (congrFun (f22 2 (by decide)) 0))))
  have z65 : (σ34 55 6).toInt = (σ 55 6).toInt := (congrArg Int32.toInt (show σ34 55 6 = (σ 55 6) from ((f37 6 (by decide)).trans (congrFun (f22 55 (by decide)) 6))))
  have z66 : (σ34 2 2).toInt = (σ 2 2).toInt := (congrArg Int32.toInt (show σ34 2 2 = (σ 2 2) from ((congrFun (f36 2 (by decide)) 2).trans (congrFun (f22 2 (by decide)) 2))))
  have z67 : (σ34 55 5).toInt = (σ 55 5).toInt := (congrArg Int32.toInt (show σ34 55 5 = (σ 55 5) from ((f37 5 (by decide)).trans (congrFun (f22 55 (by decide)) 5))))
  have z68 : (σ34 2 3).toInt = (σ 2 3).toInt := (congrArg Int32.toInt (show σ34 2 3 = (σ 2 3) from ((congrFun (f36 2 (by decide)) 3).trans (congrFun (f22 2 (by decide)) 3))))
  have z69 : (σ34 55 4).toInt = (σ 55 4).toInt := (congrArg Int32.toInt (show σ34 55 4 = (σ 55 4) from ((f37 4 (by decide)).trans (congrFun (f22 55 (by decide)) 4))))
  exact ih x41 σ34 τ _ _ ls (by have h9 := tx41; omega) ⟨I42, I43, I44, I45, I46, I47, I48, I49, I50, I51, I52, I53, I54, I55, I56, I57, I58, I59, I60, I61, I62, I38, p39, p63, (by omega), (by omega), (by omega), (show jNumP (σ34 3) (σ34 56) (σ34 6) (σ34 57) (σ34 7) (σ34 58) (σ34 8) (σ34 59) (σ34 55 6).toInt (σ34 55 4).toInt by rw [show σ34 3 = σ 3 from ((f36 3 (by decide)).trans (f22 3 (by decide))), show σ34 56 = σ 56 from ((f36 56 (by decide)).trans (f22 56 (by decide))), show σ34 6 = σ 6 from ((f36 6 (by decide)).trans (f22 6 (by decide))), show σ34 57 = σ 57 from ((f36 57 (by decide)).trans (f22 57 (by decide))), show σ34 7 = σ 7 from ((f36 7 (by decide)).trans (f22 7 (by decide))), show σ34 58 = σ 58 from ((f36 58 (by decide)).trans (f22 58 (by decide))), show σ34 8 = σ 8 from ((f36 8 (by decide)).trans (f22 8 (by decide))), show σ34 59 = σ 59 from ((f36 59 (by decide)).trans (f22 59 (by decide))), show (σ34 55 6).toInt = (σ 55 6).toInt from by omega, show (σ34 55 4).toInt = (σ 55 4).toInt from by omega]; exact hr0)⟩ hP hS (lv_sub hl [0, 1, 2, 3] rfl)
set_option maxHeartbeats 4000000 in
set_option maxRecDepth 100000 in
theorem law_case_17 {p : Program} {e : Env} {s : State} {m : MethodId} {below : List Frame} {meth : Method} {c : Code} (l : Launch) {b L : Nat} {xs : Nat → Int32} {D : va_G} {cI cL : ClassId} {ad zz : Nat → Nat} (C0 : lw_At p s m meth c b L xs) (hJ : jD ad) (hA : ∀ q, jA ad q → s.heap.size ≤ q) (hK : jK D cI cL s) (hZ : jZ zz (fun q : Nat => s.heap.size ≤ q) s s.heap) {x0 : Int32} (hx0 : 0 ≤ x0.toInt) (hxL : x0.toInt + 6 ≤ (L : Int)) (hL : L ≤ 384) {σ : Nat → Nat → Int32} {τ : Nat → Nat → Int64} {H : Heap} {locs : List Loc} (hS : va_S (fun q : Nat => s.heap.size ≤ q) s.heap H locs) {ls : Array Slot} (hAll : jAll σ τ) (hP : jH D cI cL ad σ τ H) (hl : lv_has ls 4 [(3, .int x0), (2, .ref (ad 55)), (1, .ref (ad 0)), (0, .ref b)]) (ih : ∀ (x1 : Int32) (σ : Nat → Nat → Int32) (τ : Nat → Nat → Int64) (H : Heap) (locs : List Loc) (ls : Array Slot), x1.toInt = x0.toInt + 6 → jAll σ τ → jH D cI cL ad σ τ H → va_S (fun q : Nat => s.heap.size ≤ q) s.heap H locs → lv_has ls 4 [(3, .int x1), (2, .ref (ad 55)), (1, .ref (ad 0)), (0, .ref b)] → W p l e room_1 s m #[Value.ref b] below meth c H locs 90 348600 (lw_Z below #[Value.ref b] s) (F0 m 18 ls [])) : W p l e room_1 s m #[Value.ref b] below meth c H locs 90 348600 (lw_Z below #[Value.ref b] s) (F0 m 717 ls []) := by
  obtain ⟨hx, hb, hr, hml, hown, hts0, hX, hbl, hlocks, hgv⟩ := C0
  have hts : ∀ w ∈ wsL_law, w.before #[Value.ref b] s = true := fun w h => hts0 w (wsL_law_in w h)
  have hbA : ¬ (fun q : Nat => s.heap.size ≤ q) b := Nat.not_le.mpr hbl
  have hown : s.vm.findClass RL = some m.cls := hown
  obtain ⟨hI2, hI9, hI12, hI16, hI18, hI22, hI31, hI38, hI43, hI47, hI50, hI101, hI102, hI103, hI104, hI105, hI106, hI107, hI109, hI110, hI111, hI119, hs_jKept, hs_jBook, ht0, ht1, ht2, hr0⟩ := hAll
  have hL9 : (L : Int) ≤ 384 := by omega
  obtain ⟨i1, i2, i3, i4, i5, w6⟩ : (0 ≤ (σ 2 0).toInt ∧ (σ 2 0).toInt ≤ 4) ∧ (0 ≤ (σ 2 1).toInt ∧ (σ 2 1).toInt ≤ 3) ∧ (0 ≤ (σ 2 2).toInt) ∧ (0 ≤ (σ 2 3).toInt) ∧ ((σ 2 2).toInt + (σ 2 3).toInt ≤ 40) ∧ (∀ k : Nat, k < 40 → 0 ≤ (σ 6 k).toInt ∧ (σ 6 k).toInt ≤ 67) := id hI2
  obtain ⟨i7, i8, i9, w10, w11, w12, w13⟩ : (0 ≤ (σ 55 5).toInt) ∧ ((σ 55 5).toInt ≤ (σ 55 4).toInt) ∧ ((σ 55 4).toInt ≤ 40) ∧ (∀ k : Nat, k < 68 → (-200) ≤ (σ 56 k).toInt ∧ (σ 56 k).toInt ≤ 500) ∧ (∀ k : Nat, k < 40 → 0 ≤ (σ 57 k).toInt ∧ (σ 57 k).toInt ≤ 67) ∧ (∀ k : Nat, k < 40 → (-200) ≤ (σ 58 k).toInt ∧ (σ 58 k).toInt ≤ 500) ∧ (∀ k : Nat, k < 40 → (-200) ≤ (σ 59 k).toInt ∧ (σ 59 k).toInt ≤ 500) := id hI101
  obtain ⟨i14, w15, w16⟩ : (0 ≤ (σ 55 6).toInt ∧ (σ 55 6).toInt ≤ 4) ∧ (∀ k : Nat, k < 4 → 0 ≤ (σ 60 k).toInt ∧ (σ 60 k).toInt ≤ 50) ∧ (∀ k : Nat, k < 4 → 0 ≤ (σ 61 k).toInt ∧ (σ 61 k).toInt ≤ 20) := id hI102
  refine lv_aload_n hx hb dL_law_717 rfl (lv_at hl 2 rfl) ?_
  refine lv_aload_n hx hb dL_law_718 rfl (lv_at hl 3 rfl) ?_
  refine lv_iload_n hx hb dL_law_719 rfl (lv_at hl 0 rfl) ?_
  refine lv_iconst (v := 1) hx hb dL_law_720 (by decide) ?_
  have g17 := jrg (rfl : x0.toInt = x0.toInt)
  refine lv_iadd hx hb dL_law_721 ?_
  refine lv_topi (fun x18 ex18 => ?_)
  have tx18 : x18.toInt = x0.toInt + 1 := (jadd ex18 rfl jz_1 (by omega) (by omega)).trans (by omega)
  refine va_sld hx hb hX hbl hbA hS (jin tx18 (by omega) (by omega)) dL_law_722 ?_
  have g19 := jrg (rfl : (xs x18.toNatClampNeg).toInt = (xs x18.toNatClampNeg).toInt)
  refine jcallV (As := [.int (xs x18.toNatClampNeg)]) (rest := []) ⟨hx, hb, hml, hown, hts⟩ hK hP hA hS hZ (c_X11_theirs l D cI cL ad zz hJ σ τ (xs x18.toNatClampNeg) ((xs x18.toNatClampNeg).toInt) rfl hI2 hI16 hI22 hI31) cw_RL_85 (jc_0 cI cL ad σ τ) rfl ⟨Nat.le_of_ble_eq_true rfl, Nat.le_of_ble_eq_true rfl⟩ rfl rfl rfl hl.1 rfl (Nat.le_of_ble_eq_true rfl) dL_law_723 ⟨Nat.le_of_ble_eq_true rfl, Nat.le_of_ble_eq_true rfl⟩ (fun r21 σ20 τ20 H locs h20 hP hS => ?_)
  obtain ⟨rfl, f22, f23, I24, h20⟩ := h20
  refine lv_pop hx hb dL_law_726 rfl ?_
  refine lv_aload_n hx hb dL_law_727 rfl (lv_at hl 1 rfl) ?_
  refine lv_aload_n hx hb dL_law_728 rfl (lv_at hl 3 rfl) ?_
  refine lv_iload_n hx hb dL_law_729 rfl (lv_at hl 0 rfl) ?_
  refine lv_iconst (v := 1) hx hb dL_law_730 (by decide) ?_
  refine lv_iadd hx hb dL_law_731 ?_
  refine jtopr ex18.symm ?_
  refine va_sld hx hb hX hbl hbA hS (jin tx18 (by omega) (by omega)) dL_law_732 ?_
  have I26 : jI101 σ20 := jI101_fr (congrFun (f22 55 (by decide)) 4) (congrFun (f22 55 (by decide)) 5) (f22 56 (by decide)) (f22 57 (by decide)) (f22 58 (by decide)) (f22 59 (by decide)) hI101
  have I27 : jI102 σ20 := jI102_fr (congrFun (f22 55 (by decide)) 6) (f22 60 (by decide)) (f22 61 (by decide)) hI102
  have I28 : jI103 σ20 := jI103_fr (congrFun (f22 55 (by decide)) 9) hI103
  have I29 : jI104 σ20 := jI104_fr (congrFun (f22 55 (by decide)) 10) (congrFun (f22 55 (by decide)) 12) (congrFun (f22 55 (by decide)) 13) (f22 62 (by decide)) (f22 67 (by decide)) hI104
  have I30 : jI105 σ20 := jI105_fr (congrFun (f22 55 (by decide)) 15) (f22 65 (by decide)) hI105
  have I31 : jI106 σ20 := jI106_fr (congrFun (f22 55 (by decide)) 32) (f22 70 (by decide)) (f22 71 (by decide)) (f22 72 (by decide)) hI106
  have I32 : jI119 σ20 := jI119_fr (f22 68 (by decide)) hI119
  have I33 : jI111 σ20 := jI111_fr (f22 79 (by decide)) hI111
  have p34 : jKept σ20 := jKept.fr (f22 75 (by decide)) (f22 76 (by decide)) (f22 77 (by decide)) hs_jKept
  refine jcallV (As := [.int (xs x18.toNatClampNeg)]) (rest := []) ⟨hx, hb, hml, hown, hts⟩ hK hP hA hS hZ (c_X12_theirs l D cI cL ad zz hJ σ20 τ (xs x18.toNatClampNeg) ((xs x18.toNatClampNeg).toInt) rfl I26 I27 I28 I29 I30 I31 I32 I33 p34) cw_RL_88 (jc_55 cI cL ad σ20 τ) rfl ⟨Nat.le_of_ble_eq_true rfl, Nat.le_of_ble_eq_true rfl⟩ rfl rfl rfl hl.1 rfl (Nat.le_of_ble_eq_true rfl) dL_law_733 ⟨Nat.le_of_ble_eq_true rfl, Nat.le_of_ble_eq_true rfl⟩ (fun r36 σ35 τ35 H locs h35 hP hS => ?_)
  obtain ⟨rfl, f37, f38, I39, I40, I41, p42, w43, h35⟩ := h35
  refine lv_pop hx hb dL_law_736 rfl ?_
  refine lv_goto (tgt := 1357) hx hb dL_law_737 (by decide) ?_
  obtain ⟨x45, ex45⟩ : ∃ y : Int32, y = x0 + 6 := ⟨_, rfl⟩
  have tx45 : x45.toInt = x0.toInt + 6 := (jadd ex45 rfl jz_6 (by omega) (by omega)).trans (by omega)
  refine lv_iinc (v := x45) (lv' := [(3, .int x45), (2, .ref (ad 55)), (1, .ref (ad 0)), (0, .ref b)]) hx hb dL_law_1357 hl (k := 0) rfl (by rw [ex45]; rfl) (by decide) rfl (fun ls hl => ?_)
  refine lv_goto (tgt := 18) hx hb dL_law_1360 (by decide) ?_
  have I46 : jI2 σ35 := jI2_fr ((congrFun (f37 2 (by decide)) 0).trans (congrFun (f22 2 (by decide)) 0)) ((congrFun (f37 2 (by decide)) 1).trans (congrFun (f22 2 (by decide)) 1)) ((congrFun (f37 2 (by decide)) 2).trans (congrFun (f22 2 (by decide)) 2)) ((congrFun (f37 2 (by decide)) 3).trans (congrFun (f22 2 (by decide)) 3)) ((f37 6 (by decide)).trans (f22 6 (by decide))) hI2
  have I47 : jI9 σ35 := jI9_fr ((congrFun (f37 9 (by decide)) 0).trans (congrFun (f22 9 (by decide)) 0)) ((f37 10 (by decide)).trans (f22 10 (by decide))) ((f37 11 (by decide)).trans (f22 11 (by decide))) hI9
  have I48 : jI12 σ35 := jI12_fr ((congrFun (f37 12 (by decide)) 0).trans (congrFun (f22 12 (by decide)) 0)) ((f37 13 (by decide)).trans (f22 13 (by decide))) hI12
  have I49 : jI16 σ35 := jI16_fr ((congrFun (f37 16 (by decide)) 0).trans (congrFun (f22 16 (by decide)) 0)) ((congrFun (f37 16 (by decide)) 1).trans (congrFun (f22 16 (by decide)) 1)) ((congrFun (f37 16 (by decide)) 2).trans (congrFun (f22 16 (by decide)) 2)) ((f37 17 (by decide)).trans (f22 17 (by decide))) hI16
  have I50 : jI18 σ35 := jI18_fr ((congrFun (f37 18 (by decide)) 0).trans (congrFun (f22 18 (by decide)) 0)) ((f37 19 (by decide)).trans (f22 19 (by decide))) hI18
  have I51 : jI22 σ35 := jI22_fr ((congrFun (f37 22 (by decide)) 0).trans (congrFun (f22 22 (by decide)) 0)) ((f37 23 (by decide)).trans (f22 23 (by decide))) hI22
  have I52 : jI31 σ35 := jI31_fr (congrFun (f37 31 (by decide)) 8) (f37 33 (by decide)) (f37 36 (by decide)) I24
  have I53 : jI38 σ35 := jI38_fr ((congrFun (f37 38 (by decide)) 0).trans (congrFun (f22 38 (by decide)) 0)) ((congrFun (f37 38 (by decide)) 1).trans (congrFun (f22 38 (by decide)) 1)) ((f37 39 (by decide)).trans (f22 39 (by decide))) hI38
  have I54 : jI43 σ35 := jI43_fr ((congrFun (f37 43 (by decide)) 8).trans (congrFun (f22 43 (by decide)) 8)) hI43
  have I55 : jI47 σ35 := jI47_fr ((congrFun (f37 47 (by decide)) 0).trans (congrFun (f22 47 (by decide)) 0)) ((f37 48 (by decide)).trans (f22 48 (by decide))) ((f37 49 (by decide)).trans (f22 49 (by decide))) hI47
  have I56 : jI50 σ35 := jI50_fr ((f37 52 (by decide)).trans (f22 52 (by decide))) hI50
  have I57 : jI101 σ35 := jI101_fr (f38 4 (by decide)) (f38 5 (by decide)) (f37 56 (by decide)) (f37 57 (by decide)) (f37 58 (by decide)) (f37 59 (by decide)) I26
  have I58 : jI102 σ35 := jI102_fr (f38 6 (by decide)) (f37 60 (by decide)) (f37 61 (by decide)) I27
  have I59 : jI103 σ35 := jI103_fr (f38 9 (by decide)) I28
  have I60 : jI105 σ35 := jI105_fr (f38 15 (by decide)) (f37 65 (by decide)) I30
  have I61 : jI106 σ35 := jI106_fr (f38 32 (by decide)) (f37 70 (by decide)) (f37 71 (by decide)) (f37 72 (by decide)) I31
  have I62 : jI107 σ35 := jI107_fr ((f38 12 (by decide)).trans (congrFun (f22 55 (by decide)) 12)) ((f38 47 (by decide)).trans (congrFun (f22 55 (by decide)) 47)) ((f37 80 (by decide)).trans (f22 80 (by decide))) hI107
  have I63 : jI109 σ35 := jI109_fr ((f38 50 (by decide)).trans (congrFun (f22 55 (by decide)) 50)) hI109
  have I64 : jI110 σ35 := jI110_fr ((f37 86 (by decide)).trans (f22 86 (by decide))) ((f37 87 (by decide)).trans (f22 87 (by decide))) hI110
  have p65 : jBook σ35 := jBook.fr ((f38 47 (by decide)).trans (congrFun (f22 55 (by decide)) 47)) ((f38 10 (by decide)).trans (congrFun (f22 55 (by decide)) 10)) ((f37 81 (by decide)).trans (f22 81 (by decide))) hs_jBook
  have z66 : (σ35 2 0).toInt = (σ 2 0).toInt := (congrArg Int32.toInt (show σ35 2 0 = (σ 2 0) from ((congrFun (f37 2 (by decide)) 0).trans (congrFun (f22 2 (by decide)) 0))))
  have z67 : (σ35 55 6).toInt = (σ 55 6).toInt := (congrArg Int32.toInt (show σ35 55 6 = (σ 55 6) from ((f38 6 (by decide)).trans (congrFun (f22 55 (by decide)) 6))))
  have z68 : (σ35 2 2).toInt = (σ 2 2).toInt := (congrArg Int32.toInt (show σ35 2 2 = (σ 2 2) from ((congrFun (f37 2 (by decide)) 2).trans (congrFun (f22 2 (by decide)) 2))))
  have z69 : (σ35 55 5).toInt = (σ 55 5).toInt := (congrArg Int32.toInt (show σ35 55 5 = (σ 55 5) from ((f38 5 (by decide)).trans (congrFun (f22 55 (by decide)) 5))))
  have z70 : (σ35 2 3).toInt = (σ 2 3).toInt := (congrArg Int32.toInt (show σ35 2 3 = (σ 2 3) from ((congrFun (f37 2 (by decide)) 3).trans (congrFun (f22 2 (by decide)) 3))))
  have z71 : (σ35 55 4).toInt = (σ 55 4).toInt := (congrArg Int32.toInt (show σ35 55 4 = (σ 55 4) from ((f38 4 (by decide)).trans (congrFun (f22 55 (by decide)) 4))))
  exact ih x45 σ35 τ _ _ ls (by have h9 := tx45; omega) ⟨I46, I47, I48, I49, I50, I51, I52, I53, I54, I55, I56, I57, I58, I59, I39, I60, I61, I62, I63, I64, I40, I41, p42, p65, (by omega), (by omega), (by omega), (show jNumP (σ35 3) (σ35 56) (σ35 6) (σ35 57) (σ35 7) (σ35 58) (σ35 8) (σ35 59) (σ35 55 6).toInt (σ35 55 4).toInt by rw [show σ35 3 = σ 3 from ((f37 3 (by decide)).trans (f22 3 (by decide))), show σ35 56 = σ 56 from ((f37 56 (by decide)).trans (f22 56 (by decide))), show σ35 6 = σ 6 from ((f37 6 (by decide)).trans (f22 6 (by decide))), show σ35 57 = σ 57 from ((f37 57 (by decide)).trans (f22 57 (by decide))), show σ35 7 = σ 7 from ((f37 7 (by decide)).trans (f22 7 (by decide))), show σ35 58 = σ 58 from ((f37 58 (by decide)).trans (f22 58 (by decide))), show σ35 8 = σ 8 from ((f37 8 (by decide)).trans (f22 8 (by decide))), show σ35 59 = σ 59 from ((f37 59 (by decide)).trans (f22 59 (by decide))), show (σ35 55 6).toInt = (σ 55 6).toInt from by omega, show (σ35 55 4).toInt = (σ 55 4).toInt from by omega]; exact hr0)⟩ hP hS (lv_sub hl [0, 1, 2, 3] rfl)
set_option maxHeartbeats 4000000 in
set_option maxRecDepth 100000 in
theorem law_case_18 {p : Program} {e : Env} {s : State} {m : MethodId} {below : List Frame} {meth : Method} {c : Code} (l : Launch) {b L : Nat} {xs : Nat → Int32} {D : va_G} {cI cL : ClassId} {ad zz : Nat → Nat} (C0 : lw_At p s m meth c b L xs) (hJ : jD ad) (hA : ∀ q, jA ad q → s.heap.size ≤ q) (hK : jK D cI cL s) (hZ : jZ zz (fun q : Nat => s.heap.size ≤ q) s s.heap) {x0 : Int32} (hx0 : 0 ≤ x0.toInt) (hxL : x0.toInt + 6 ≤ (L : Int)) (hL : L ≤ 384) {σ : Nat → Nat → Int32} {τ : Nat → Nat → Int64} {H : Heap} {locs : List Loc} (hS : va_S (fun q : Nat => s.heap.size ≤ q) s.heap H locs) {ls : Array Slot} (hAll : jAll σ τ) (hP : jH D cI cL ad σ τ H) (hl : lv_has ls 4 [(3, .int x0), (2, .ref (ad 55)), (1, .ref (ad 0)), (0, .ref b)]) (ih : ∀ (x1 : Int32) (σ : Nat → Nat → Int32) (τ : Nat → Nat → Int64) (H : Heap) (locs : List Loc) (ls : Array Slot), x1.toInt = x0.toInt + 6 → jAll σ τ → jH D cI cL ad σ τ H → va_S (fun q : Nat => s.heap.size ≤ q) s.heap H locs → lv_has ls 4 [(3, .int x1), (2, .ref (ad 55)), (1, .ref (ad 0)), (0, .ref b)] → W p l e room_1 s m #[Value.ref b] below meth c H locs 90 348600 (lw_Z below #[Value.ref b] s) (F0 m 18 ls [])) : W p l e room_1 s m #[Value.ref b] below meth c H locs 90 348600 (lw_Z below #[Value.ref b] s) (F0 m 740 ls []) := by
  obtain ⟨hx, hb, hr, hml, hown, hts0, hX, hbl, hlocks, hgv⟩ := C0
  have hts : ∀ w ∈ wsL_law, w.before #[Value.ref b] s = true := fun w h => hts0 w (wsL_law_in w h)
  have hbA : ¬ (fun q : Nat => s.heap.size ≤ q) b := Nat.not_le.mpr hbl
  have hown : s.vm.findClass RL = some m.cls := hown
  obtain ⟨hI2, hI9, hI12, hI16, hI18, hI22, hI31, hI38, hI43, hI47, hI50, hI101, hI102, hI103, hI104, hI105, hI106, hI107, hI109, hI110, hI111, hI119, hs_jKept, hs_jBook, ht0, ht1, ht2, hr0⟩ := hAll
  have hL9 : (L : Int) ≤ 384 := by omega
  obtain ⟨i1, i2, i3, i4, i5, w6⟩ : (0 ≤ (σ 2 0).toInt ∧ (σ 2 0).toInt ≤ 4) ∧ (0 ≤ (σ 2 1).toInt ∧ (σ 2 1).toInt ≤ 3) ∧ (0 ≤ (σ 2 2).toInt) ∧ (0 ≤ (σ 2 3).toInt) ∧ ((σ 2 2).toInt + (σ 2 3).toInt ≤ 40) ∧ (∀ k : Nat, k < 40 → 0 ≤ (σ 6 k).toInt ∧ (σ 6 k).toInt ≤ 67) := id hI2
  obtain ⟨i7, i8, i9, w10, w11, w12, w13⟩ : (0 ≤ (σ 55 5).toInt) ∧ ((σ 55 5).toInt ≤ (σ 55 4).toInt) ∧ ((σ 55 4).toInt ≤ 40) ∧ (∀ k : Nat, k < 68 → (-200) ≤ (σ 56 k).toInt ∧ (σ 56 k).toInt ≤ 500) ∧ (∀ k : Nat, k < 40 → 0 ≤ (σ 57 k).toInt ∧ (σ 57 k).toInt ≤ 67) ∧ (∀ k : Nat, k < 40 → (-200) ≤ (σ 58 k).toInt ∧ (σ 58 k).toInt ≤ 500) ∧ (∀ k : Nat, k < 40 → (-200) ≤ (σ 59 k).toInt ∧ (σ 59 k).toInt ≤ 500) := id hI101
  obtain ⟨i14, w15, w16⟩ : (0 ≤ (σ 55 6).toInt ∧ (σ 55 6).toInt ≤ 4) ∧ (∀ k : Nat, k < 4 → 0 ≤ (σ 60 k).toInt ∧ (σ 60 k).toInt ≤ 50) ∧ (∀ k : Nat, k < 4 → 0 ≤ (σ 61 k).toInt ∧ (σ 61 k).toInt ≤ 20) := id hI102
  refine lv_aload_n hx hb dL_law_740 rfl (lv_at hl 2 rfl) ?_
  refine lv_aload_n hx hb dL_law_741 rfl (lv_at hl 3 rfl) ?_
  refine lv_iload_n hx hb dL_law_742 rfl (lv_at hl 0 rfl) ?_
  refine lv_iconst (v := 1) hx hb dL_law_743 (by decide) ?_
  have g17 := jrg (rfl : x0.toInt = x0.toInt)
  refine lv_iadd hx hb dL_law_744 ?_
  refine lv_topi (fun x18 ex18 => ?_)
  have tx18 : x18.toInt = x0.toInt + 1 := (jadd ex18 rfl jz_1 (by omega) (by omega)).trans (by omega)
  refine va_sld hx hb hX hbl hbA hS (jin tx18 (by omega) (by omega)) dL_law_745 ?_
  have g19 := jrg (rfl : (xs x18.toNatClampNeg).toInt = (xs x18.toNatClampNeg).toInt)
  refine lv_aload_n hx hb dL_law_746 rfl (lv_at hl 3 rfl) ?_
  refine lv_iload_n hx hb dL_law_747 rfl (lv_at hl 0 rfl) ?_
  refine lv_iconst (v := 2) hx hb dL_law_748 (by decide) ?_
  refine lv_iadd hx hb dL_law_749 ?_
  refine lv_topi (fun x20 ex20 => ?_)
  have tx20 : x20.toInt = x0.toInt + 2 := (jadd ex20 rfl jz_2 (by omega) (by omega)).trans (by omega)
  refine va_sld hx hb hX hbl hbA hS (jin tx20 (by omega) (by omega)) dL_law_750 ?_
  have g21 := jrg (rfl : (xs x20.toNatClampNeg).toInt = (xs x20.toNatClampNeg).toInt)
  refine jcallV (As := [.int (xs x18.toNatClampNeg), .int (xs x20.toNatClampNeg)]) (rest := []) ⟨hx, hb, hml, hown, hts⟩ hK hP hA hS hZ (c_X11_learn l D cI cL ad zz hJ σ τ (xs x18.toNatClampNeg) ((xs x18.toNatClampNeg).toInt) rfl (xs x20.toNatClampNeg) ((xs x20.toNatClampNeg).toInt) rfl hI2) cw_RL_89 (jc_0 cI cL ad σ τ) rfl ⟨Nat.le_of_ble_eq_true rfl, Nat.le_of_ble_eq_true rfl⟩ rfl rfl rfl hl.1 rfl (Nat.le_of_ble_eq_true rfl) dL_law_751 ⟨Nat.le_of_ble_eq_true rfl, Nat.le_of_ble_eq_true rfl⟩ (fun r23 σ22 τ22 H locs h22 hP hS => ?_)
  obtain ⟨rfl, f24, f25, I26, h22⟩ := h22
  obtain ⟨i28, i29, i30, i31, i32, w33⟩ : (0 ≤ (σ22 2 0).toInt ∧ (σ22 2 0).toInt ≤ 4) ∧ (0 ≤ (σ22 2 1).toInt ∧ (σ22 2 1).toInt ≤ 3) ∧ (0 ≤ (σ22 2 2).toInt) ∧ (0 ≤ (σ22 2 3).toInt) ∧ ((σ22 2 2).toInt + (σ22 2 3).toInt ≤ 40) ∧ (∀ k : Nat, k < 40 → 0 ≤ (σ22 6 k).toInt ∧ (σ22 6 k).toInt ≤ 67) := id I26
  have z34 : (σ22 2 0).toInt = (σ 2 0).toInt := (congrArg Int32.toInt (show σ22 2 0 = (σ 2 0) from (f25 0 (by decide))))
  have z35 : (σ22 2 1).toInt = (σ 2 1).toInt := (congrArg Int32.toInt (show σ22 2 1 = (σ 2 1) from (f25 1 (by decide))))
  rcases h22 with h36 | h37
  · obtain ⟨q42, k38, k39, k40, k41⟩ := h36
    have q42 := q42.symm
    subst q42
    refine lv_pop hx hb dL_law_754 rfl ?_
    refine lv_aload_n hx hb dL_law_755 rfl (lv_at hl 1 rfl) ?_
    refine lv_aload_n hx hb dL_law_756 rfl (lv_at hl 3 rfl) ?_
    refine lv_iload_n hx hb dL_law_757 rfl (lv_at hl 0 rfl) ?_
    refine lv_iconst (v := 1) hx hb dL_law_758 (by decide) ?_
    refine lv_iadd hx hb dL_law_759 ?_
    refine jtopr ex18.symm ?_
    refine va_sld hx hb hX hbl hbA hS (jin tx18 (by omega) (by omega)) dL_law_760 ?_
    refine lv_aload_n hx hb dL_law_761 rfl (lv_at hl 3 rfl) ?_
    refine lv_iload_n hx hb dL_law_762 rfl (lv_at hl 0 rfl) ?_
    refine lv_iconst (v := 2) hx hb dL_law_763 (by decide) ?_
    refine lv_iadd hx hb dL_law_764 ?_
    refine jtopr ex20.symm ?_
    refine va_sld hx hb hX hbl hbA hS (jin tx20 (by omega) (by omega)) dL_law_765 ?_
    have I43 : jI101 σ22 := jI101_fr (congrFun (f24 55 (by decide)) 4) (congrFun (f24 55 (by decide)) 5) (f24 56 (by decide)) (f24 57 (by decide)) (f24 58 (by decide)) (f24 59 (by decide)) hI101
    have I44 : jI102 σ22 := jI102_fr (congrFun (f24 55 (by decide)) 6) (f24 60 (by decide)) (f24 61 (by decide)) hI102
    have z45 : (σ22 55 6).toInt = (σ 55 6).toInt := (congrArg Int32.toInt (show σ22 55 6 = (σ 55 6) from (congrFun (f24 55 (by decide)) 6)))
    have z46 : (σ22 55 5).toInt = (σ 55 5).toInt := (congrArg Int32.toInt (show σ22 55 5 = (σ 55 5) from (congrFun (f24 55 (by decide)) 5)))
    have z47 : (σ22 55 4).toInt = (σ 55 4).toInt := (congrArg Int32.toInt (show σ22 55 4 = (σ 55 4) from (congrFun (f24 55 (by decide)) 4)))
    refine jcallV (As := [.int (xs x18.toNatClampNeg), .int (xs x20.toNatClampNeg)]) (rest := []) ⟨hx, hb, hml, hown, hts⟩ hK hP hA hS hZ (c_X12_learn l D cI cL ad zz hJ σ22 τ (xs x18.toNatClampNeg) ((xs x18.toNatClampNeg).toInt) rfl (xs x20.toNatClampNeg) ((xs x20.toNatClampNeg).toInt) rfl I43 I44) cw_RL_92 (jc_55 cI cL ad σ22 τ) rfl ⟨Nat.le_of_ble_eq_true rfl, Nat.le_of_ble_eq_true rfl⟩ rfl rfl rfl hl.1 rfl (Nat.le_of_ble_eq_true rfl) dL_law_766 ⟨Nat.le_of_ble_eq_true rfl, Nat.le_of_ble_eq_true rfl⟩ (fun r49 σ48 τ48 H locs h48 hP hS => ?_)
    obtain ⟨rfl, f50, f51, I52, h48⟩ := h48
    obtain ⟨i54, i55, i56, w57, w58, w59, w60⟩ : (0 ≤ (σ48 55 5).toInt) ∧ ((σ48 55 5).toInt ≤ (σ48 55 4).toInt) ∧ ((σ48 55 4).toInt ≤ 40) ∧ (∀ k : Nat, k < 68 → (-200) ≤ (σ48 56 k).toInt ∧ (σ48 56 k).toInt ≤ 500) ∧ (∀ k : Nat, k < 40 → 0 ≤ (σ48 57 k).toInt ∧ (σ48 57 k).toInt ≤ 67) ∧ (∀ k : Nat, k < 40 → (-200) ≤ (σ48 58 k).toInt ∧ (σ48 58 k).toInt ≤ 500) ∧ (∀ k : Nat, k < 40 → (-200) ≤ (σ48 59 k).toInt ∧ (σ48 59 k).toInt ≤ 500) := id I52
    rcases h48 with h61 | h62
    · obtain ⟨q67, k63, k64, k65, k66⟩ := h61
      have q67 := q67.symm
      subst q67
      refine lv_pop hx hb dL_law_769 rfl ?_
      refine lv_goto (tgt := 1357) hx hb dL_law_770 (by decide) ?_
      obtain ⟨x68, ex68⟩ : ∃ y : Int32, y = x0 + 6 := ⟨_, rfl⟩
      have tx68 : x68.toInt = x0.toInt + 6 := (jadd ex68 rfl jz_6 (by omega) (by omega)).trans (by omega)
      refine lv_iinc (v := x68) (lv' := [(3, .int x68), (2, .ref (ad 55)), (1, .ref (ad 0)), (0, .ref b)]) hx hb dL_law_1357 hl (k := 0) rfl (by rw [ex68]; rfl) (by decide) rfl (fun ls hl => ?_)
      refine lv_goto (tgt := 18) hx hb dL_law_1360 (by decide) ?_
      have I69 : jI2 σ48 := jI2_fr (congrFun (f50 2 (by decide)) 0) (congrFun (f50 2 (by decide)) 1) (congrFun (f50 2 (by decide)) 2) (congrFun (f50 2 (by decide)) 3) (f50 6 (by decide)) I26
      have I70 : jI9 σ48 := jI9_fr ((congrFun (f50 9 (by decide)) 0).trans (congrFun (f24 9 (by decide)) 0)) ((f50 10 (by decide)).trans (f24 10 (by decide))) ((f50 11 (by decide)).trans (f24 11 (by decide))) hI9
      have I71 : jI12 σ48 := jI12_fr ((congrFun (f50 12 (by decide)) 0).trans (congrFun (f24 12 (by decide)) 0)) ((f50 13 (by decide)).trans (f24 13 (by decide))) hI12
      have I72 : jI16 σ48 := jI16_fr ((congrFun (f50 16 (by decide)) 0).trans (congrFun (f24 16 (by decide)) 0)) ((congrFun (f50 16 (by decide)) 1).trans (congrFun (f24 16 (by decide)) 1)) ((congrFun (f50 16 (by decide)) 2).trans (congrFun (f24 16 (by decide)) 2)) ((f50 17 (by decide)).trans (f24 17 (by decide))) hI16
      have I73 : jI18 σ48 := jI18_fr ((congrFun (f50 18 (by decide)) 0).trans (congrFun (f24 18 (by decide)) 0)) ((f50 19 (by decide)).trans (f24 19 (by decide))) hI18
      have I74 : jI22 σ48 := jI22_fr ((congrFun (f50 22 (by decide)) 0).trans (congrFun (f24 22 (by decide)) 0)) ((f50 23 (by decide)).trans (f24 23 (by decide))) hI22
      have I75 : jI31 σ48 := jI31_fr ((congrFun (f50 31 (by decide)) 8).trans (congrFun (f24 31 (by decide)) 8)) ((f50 33 (by decide)).trans (f24 33 (by decide))) ((f50 36 (by decide)).trans (f24 36 (by decide))) hI31
      have I76 : jI38 σ48 := jI38_fr ((congrFun (f50 38 (by decide)) 0).trans (congrFun (f24 38 (by decide)) 0)) ((congrFun (f50 38 (by decide)) 1).trans (congrFun (f24 38 (by decide)) 1)) ((f50 39 (by decide)).trans (f24 39 (by decide))) hI38
      have I77 : jI43 σ48 := jI43_fr ((congrFun (f50 43 (by decide)) 8).trans (congrFun (f24 43 (by decide)) 8)) hI43
      have I78 : jI47 σ48 := jI47_fr ((congrFun (f50 47 (by decide)) 0).trans (congrFun (f24 47 (by decide)) 0)) ((f50 48 (by decide)).trans (f24 48 (by decide))) ((f50 49 (by decide)).trans (f24 49 (by decide))) hI47
      have I79 : jI50 σ48 := jI50_fr ((f50 52 (by decide)).trans (f24 52 (by decide))) hI50
      have I80 : jI102 σ48 := jI102_fr (f51 6 (by decide)) (f50 60 (by decide)) (f50 61 (by decide)) I44
      have I81 : jI103 σ48 := jI103_fr ((f51 9 (by decide)).trans (congrFun (f24 55 (by decide)) 9)) hI103
      have I82 : jI104 σ48 := jI104_fr ((f51 10 (by decide)).trans (congrFun (f24 55 (by decide)) 10)) ((f51 12 (by decide)).trans (congrFun (f24 55 (by decide)) 12)) ((f51 13 (by decide)).trans (congrFun (f24 55 (by decide)) 13)) ((f50 62 (by decide)).trans (f24 62 (by decide))) ((f50 67 (by decide)).trans (f24 67 (by decide))) hI104
      have I83 : jI105 σ48 := jI105_fr ((f51 15 (by decide)).trans (congrFun (f24 55 (by decide)) 15)) ((f50 65 (by decide)).trans (f24 65 (by decide))) hI105
      have I84 : jI106 σ48 := jI106_fr ((f51 32 (by decide)).trans (congrFun (f24 55 (by decide)) 32)) ((f50 70 (by decide)).trans (f24 70 (by decide))) ((f50 71 (by decide)).trans (f24 71 (by decide))) ((f50 72 (by decide)).trans (f24 72 (by decide))) hI106
      have I85 : jI107 σ48 := jI107_fr ((f51 12 (by decide)).trans (congrFun (f24 55 (by decide)) 12)) ((f51 47 (by decide)).trans (congrFun (f24 55 (by decide)) 47)) ((f50 80 (by decide)).trans (f24 80 (by decide))) hI107
      have I86 : jI109 σ48 := jI109_fr ((f51 50 (by decide)).trans (congrFun (f24 55 (by decide)) 50)) hI109
      have I87 : jI110 σ48 := jI110_fr ((f50 86 (by decide)).trans (f24 86 (by decide))) ((f50 87 (by decide)).trans (f24 87 (by decide))) hI110
      have I88 : jI111 σ48 := jI111_fr ((f50 79 (by decide)).trans (f24 79 (by decide))) hI111
      have I89 : jI119 σ48 := jI119_fr ((f50 68 (by decide)).trans (f24 68 (by decide))) hI119
      have p90 : jKept σ48 := jKept.fr ((f50 75 (by decide)).trans (f24 75 (by decide))) ((f50 76 (by decide)).trans (f24 76 (by decide))) ((f50 77 (by decide)).trans (f24 77 (by decide))) hs_jKept
      have p91 : jBook σ48 := jBook.fr ((f51 47 (by decide)).trans (congrFun (f24 55 (by decide)) 47)) ((f51 10 (by decide)).trans (congrFun (f24 55 (by decide)) 10)) ((f50 81 (by decide)).trans (f24 81 (by decide))) hs_jBook
      have z92 : (σ48 2 0).toInt = (σ 2 0).toInt := (congrArg Int32.toInt (show σ48 2 0 = (σ 2 0) from ((congrFun (f50 2 (by decide)) 0).trans (f25 0 (by decide)))))
      have z93 : (σ48 55 6).toInt = (σ 55 6).toInt := (congrArg Int32.toInt (show σ48 55 6 = (σ 55 6) from ((f51 6 (by decide)).trans (congrFun (f24 55 (by decide)) 6))))
      have z94 : (σ48 2 2).toInt = (σ22 2 2).toInt := (congrArg Int32.toInt (show σ48 2 2 = (σ22 2 2) from (congrFun (f50 2 (by decide)) 2)))
      have z95 : (σ48 2 3).toInt = (σ22 2 3).toInt := (congrArg Int32.toInt (show σ48 2 3 = (σ22 2 3) from (congrFun (f50 2 (by decide)) 3)))
      exact ih x68 σ48 τ _ _ ls (by have h9 := tx68; omega) ⟨I69, I70, I71, I72, I73, I74, I75, I76, I77, I78, I79, I52, I80, I81, I82, I83, I84, I85, I86, I87, I88, I89, p90, p91, (by omega), (by omega), (by omega), (show jNumP (σ48 3) (σ48 56) (σ48 6) (σ48 57) (σ48 7) (σ48 58) (σ48 8) (σ48 59) (σ48 55 6).toInt (σ48 55 4).toInt by rw [show σ48 3 = σ 3 from ((f50 3 (by decide)).trans k41.1), show σ48 56 = σ 56 from (k66.1.trans (f24 56 (by decide))), show σ48 6 = σ 6 from ((f50 6 (by decide)).trans k41.2.1), show σ48 57 = σ 57 from (k66.2.1.trans (f24 57 (by decide))), show σ48 7 = σ 7 from ((f50 7 (by decide)).trans k41.2.2.1), show σ48 58 = σ 58 from (k66.2.2.1.trans (f24 58 (by decide))), show σ48 8 = σ 8 from ((f50 8 (by decide)).trans k41.2.2.2), show σ48 59 = σ 59 from (k66.2.2.2.trans (f24 59 (by decide))), show (σ48 55 6).toInt = (σ 55 6).toInt from by omega, show (σ48 55 4).toInt = (σ 55 4).toInt from by omega]; exact hr0)⟩ hP hS (lv_sub hl [0, 1, 2, 3] rfl)
    · obtain ⟨q103, k96, k97, k98, k99, k100, k101, k102⟩ := h62
      refine lv_pop hx hb dL_law_769 rfl ?_
      refine lv_goto (tgt := 1357) hx hb dL_law_770 (by decide) ?_
      obtain ⟨x104, ex104⟩ : ∃ y : Int32, y = x0 + 6 := ⟨_, rfl⟩
      have tx104 : x104.toInt = x0.toInt + 6 := (jadd ex104 rfl jz_6 (by omega) (by omega)).trans (by omega)
      refine lv_iinc (v := x104) (lv' := [(3, .int x104), (2, .ref (ad 55)), (1, .ref (ad 0)), (0, .ref b)]) hx hb dL_law_1357 hl (k := 0) rfl (by rw [ex104]; rfl) (by decide) rfl (fun ls hl => ?_)
      refine lv_goto (tgt := 18) hx hb dL_law_1360 (by decide) ?_
      have I105 : jI2 σ48 := jI2_fr (congrFun (f50 2 (by decide)) 0) (congrFun (f50 2 (by decide)) 1) (congrFun (f50 2 (by decide)) 2) (congrFun (f50 2 (by decide)) 3) (f50 6 (by decide)) I26
      have I106 : jI9 σ48 := jI9_fr ((congrFun (f50 9 (by decide)) 0).trans (congrFun (f24 9 (by decide)) 0)) ((f50 10 (by decide)).trans (f24 10 (by decide))) ((f50 11 (by decide)).trans (f24 11 (by decide))) hI9
      have I107 : jI12 σ48 := jI12_fr ((congrFun (f50 12 (by decide)) 0).trans (congrFun (f24 12 (by decide)) 0)) ((f50 13 (by decide)).trans (f24 13 (by decide))) hI12
      have I108 : jI16 σ48 := jI16_fr ((congrFun (f50 16 (by decide)) 0).trans (congrFun (f24 16 (by decide)) 0)) ((congrFun (f50 16 (by decide)) 1).trans (congrFun (f24 16 (by decide)) 1)) ((congrFun (f50 16 (by decide)) 2).trans (congrFun (f24 16 (by decide)) 2)) ((f50 17 (by decide)).trans (f24 17 (by decide))) hI16
      have I109 : jI18 σ48 := jI18_fr ((congrFun (f50 18 (by decide)) 0).trans (congrFun (f24 18 (by decide)) 0)) ((f50 19 (by decide)).trans (f24 19 (by decide))) hI18
      have I110 : jI22 σ48 := jI22_fr ((congrFun (f50 22 (by decide)) 0).trans (congrFun (f24 22 (by decide)) 0)) ((f50 23 (by decide)).trans (f24 23 (by decide))) hI22
      have I111 : jI31 σ48 := jI31_fr ((congrFun (f50 31 (by decide)) 8).trans (congrFun (f24 31 (by decide)) 8)) ((f50 33 (by decide)).trans (f24 33 (by decide))) ((f50 36 (by decide)).trans (f24 36 (by decide))) hI31
      have I112 : jI38 σ48 := jI38_fr ((congrFun (f50 38 (by decide)) 0).trans (congrFun (f24 38 (by decide)) 0)) ((congrFun (f50 38 (by decide)) 1).trans (congrFun (f24 38 (by decide)) 1)) ((f50 39 (by decide)).trans (f24 39 (by decide))) hI38
      have I113 : jI43 σ48 := jI43_fr ((congrFun (f50 43 (by decide)) 8).trans (congrFun (f24 43 (by decide)) 8)) hI43
      have I114 : jI47 σ48 := jI47_fr ((congrFun (f50 47 (by decide)) 0).trans (congrFun (f24 47 (by decide)) 0)) ((f50 48 (by decide)).trans (f24 48 (by decide))) ((f50 49 (by decide)).trans (f24 49 (by decide))) hI47
      have I115 : jI50 σ48 := jI50_fr ((f50 52 (by decide)).trans (f24 52 (by decide))) hI50
      have I116 : jI102 σ48 := jI102_fr (f51 6 (by decide)) (f50 60 (by decide)) (f50 61 (by decide)) I44
      have I117 : jI103 σ48 := jI103_fr ((f51 9 (by decide)).trans (congrFun (f24 55 (by decide)) 9)) hI103
      have I118 : jI104 σ48 := jI104_fr ((f51 10 (by decide)).trans (congrFun (f24 55 (by decide)) 10)) ((f51 12 (by decide)).trans (congrFun (f24 55 (by decide)) 12)) ((f51 13 (by decide)).trans (congrFun (f24 55 (by decide)) 13)) ((f50 62 (by decide)).trans (f24 62 (by decide))) ((f50 67 (by decide)).trans (f24 67 (by decide))) hI104
      have I119 : jI105 σ48 := jI105_fr ((f51 15 (by decide)).trans (congrFun (f24 55 (by decide)) 15)) ((f50 65 (by decide)).trans (f24 65 (by decide))) hI105
      have I120 : jI106 σ48 := jI106_fr ((f51 32 (by decide)).trans (congrFun (f24 55 (by decide)) 32)) ((f50 70 (by decide)).trans (f24 70 (by decide))) ((f50 71 (by decide)).trans (f24 71 (by decide))) ((f50 72 (by decide)).trans (f24 72 (by decide))) hI106
      have I121 : jI107 σ48 := jI107_fr ((f51 12 (by decide)).trans (congrFun (f24 55 (by decide)) 12)) ((f51 47 (by decide)).trans (congrFun (f24 55 (by decide)) 47)) ((f50 80 (by decide)).trans (f24 80 (by decide))) hI107
      have I122 : jI109 σ48 := jI109_fr ((f51 50 (by decide)).trans (congrFun (f24 55 (by decide)) 50)) hI109
      have I123 : jI110 σ48 := jI110_fr ((f50 86 (by decide)).trans (f24 86 (by decide))) ((f50 87 (by decide)).trans (f24 87 (by decide))) hI110
      have I124 : jI111 σ48 := jI111_fr ((f50 79 (by decide)).trans (f24 79 (by decide))) hI111
      have I125 : jI119 σ48 := jI119_fr ((f50 68 (by decide)).trans (f24 68 (by decide))) hI119
      have p126 : jKept σ48 := jKept.fr ((f50 75 (by decide)).trans (f24 75 (by decide))) ((f50 76 (by decide)).trans (f24 76 (by decide))) ((f50 77 (by decide)).trans (f24 77 (by decide))) hs_jKept
      have p127 : jBook σ48 := jBook.fr ((f51 47 (by decide)).trans (congrFun (f24 55 (by decide)) 47)) ((f51 10 (by decide)).trans (congrFun (f24 55 (by decide)) 10)) ((f50 81 (by decide)).trans (f24 81 (by decide))) hs_jBook
      have z128 : (σ48 2 0).toInt = (σ 2 0).toInt := (congrArg Int32.toInt (show σ48 2 0 = (σ 2 0) from ((congrFun (f50 2 (by decide)) 0).trans (f25 0 (by decide)))))
      have z129 : (σ48 55 6).toInt = (σ 55 6).toInt := (congrArg Int32.toInt (show σ48 55 6 = (σ 55 6) from ((f51 6 (by decide)).trans (congrFun (f24 55 (by decide)) 6))))
      have z130 : (σ48 2 2).toInt = (σ22 2 2).toInt := (congrArg Int32.toInt (show σ48 2 2 = (σ22 2 2) from (congrFun (f50 2 (by decide)) 2)))
      have z131 : (σ48 2 3).toInt = (σ22 2 3).toInt := (congrArg Int32.toInt (show σ48 2 3 = (σ22 2 3) from (congrFun (f50 2 (by decide)) 3)))
      exact ih x104 σ48 τ _ _ ls (by have h9 := tx104; omega) ⟨I105, I106, I107, I108, I109, I110, I111, I112, I113, I114, I115, I52, I116, I117, I118, I119, I120, I121, I122, I123, I124, I125, p126, p127, (by omega), (by omega), (by omega), (False.elim (by omega))⟩ hP hS (lv_sub hl [0, 1, 2, 3] rfl)
  · obtain ⟨q139, k132, k133, k134, k135, k136, k137, k138⟩ := h37
    refine lv_pop hx hb dL_law_754 rfl ?_
    refine lv_aload_n hx hb dL_law_755 rfl (lv_at hl 1 rfl) ?_
    refine lv_aload_n hx hb dL_law_756 rfl (lv_at hl 3 rfl) ?_
    refine lv_iload_n hx hb dL_law_757 rfl (lv_at hl 0 rfl) ?_
    refine lv_iconst (v := 1) hx hb dL_law_758 (by decide) ?_
    refine lv_iadd hx hb dL_law_759 ?_
    refine jtopr ex18.symm ?_
    refine va_sld hx hb hX hbl hbA hS (jin tx18 (by omega) (by omega)) dL_law_760 ?_
    refine lv_aload_n hx hb dL_law_761 rfl (lv_at hl 3 rfl) ?_
    refine lv_iload_n hx hb dL_law_762 rfl (lv_at hl 0 rfl) ?_
    refine lv_iconst (v := 2) hx hb dL_law_763 (by decide) ?_
    refine lv_iadd hx hb dL_law_764 ?_
    refine jtopr ex20.symm ?_
    refine va_sld hx hb hX hbl hbA hS (jin tx20 (by omega) (by omega)) dL_law_765 ?_
    have I140 : jI101 σ22 := jI101_fr (congrFun (f24 55 (by decide)) 4) (congrFun (f24 55 (by decide)) 5) (f24 56 (by decide)) (f24 57 (by decide)) (f24 58 (by decide)) (f24 59 (by decide)) hI101
    have I141 : jI102 σ22 := jI102_fr (congrFun (f24 55 (by decide)) 6) (f24 60 (by decide)) (f24 61 (by decide)) hI102
    have z142 : (σ22 55 6).toInt = (σ 55 6).toInt := (congrArg Int32.toInt (show σ22 55 6 = (σ 55 6) from (congrFun (f24 55 (by decide)) 6)))
    have z143 : (σ22 55 5).toInt = (σ 55 5).toInt := (congrArg Int32.toInt (show σ22 55 5 = (σ 55 5) from (congrFun (f24 55 (by decide)) 5)))
    have z144 : (σ22 55 4).toInt = (σ 55 4).toInt := (congrArg Int32.toInt (show σ22 55 4 = (σ 55 4) from (congrFun (f24 55 (by decide)) 4)))
    refine jcallV (As := [.int (xs x18.toNatClampNeg), .int (xs x20.toNatClampNeg)]) (rest := []) ⟨hx, hb, hml, hown, hts⟩ hK hP hA hS hZ (c_X12_learn l D cI cL ad zz hJ σ22 τ (xs x18.toNatClampNeg) ((xs x18.toNatClampNeg).toInt) rfl (xs x20.toNatClampNeg) ((xs x20.toNatClampNeg).toInt) rfl I140 I141) cw_RL_92 (jc_55 cI cL ad σ22 τ) rfl ⟨Nat.le_of_ble_eq_true rfl, Nat.le_of_ble_eq_true rfl⟩ rfl rfl rfl hl.1 rfl (Nat.le_of_ble_eq_true rfl) dL_law_766 ⟨Nat.le_of_ble_eq_true rfl, Nat.le_of_ble_eq_true rfl⟩ (fun r146 σ145 τ145 H locs h145 hP hS => ?_)
    obtain ⟨rfl, f147, f148, I149, h145⟩ := h145
    obtain ⟨i151, i152, i153, w154, w155, w156, w157⟩ : (0 ≤ (σ145 55 5).toInt) ∧ ((σ145 55 5).toInt ≤ (σ145 55 4).toInt) ∧ ((σ145 55 4).toInt ≤ 40) ∧ (∀ k : Nat, k < 68 → (-200) ≤ (σ145 56 k).toInt ∧ (σ145 56 k).toInt ≤ 500) ∧ (∀ k : Nat, k < 40 → 0 ≤ (σ145 57 k).toInt ∧ (σ145 57 k).toInt ≤ 67) ∧ (∀ k : Nat, k < 40 → (-200) ≤ (σ145 58 k).toInt ∧ (σ145 58 k).toInt ≤ 500) ∧ (∀ k : Nat, k < 40 → (-200) ≤ (σ145 59 k).toInt ∧ (σ145 59 k).toInt ≤ 500) := id I149
    rcases h145 with h158 | h159
    · obtain ⟨q164, k160, k161, k162, k163⟩ := h158
      have q164 := q164.symm
      subst q164
      refine lv_pop hx hb dL_law_769 rfl ?_
      refine lv_goto (tgt := 1357) hx hb dL_law_770 (by decide) ?_
      obtain ⟨x165, ex165⟩ : ∃ y : Int32, y = x0 + 6 := ⟨_, rfl⟩
      have tx165 : x165.toInt = x0.toInt + 6 := (jadd ex165 rfl jz_6 (by omega) (by omega)).trans (by omega)
      refine lv_iinc (v := x165) (lv' := [(3, .int x165), (2, .ref (ad 55)), (1, .ref (ad 0)), (0, .ref b)]) hx hb dL_law_1357 hl (k := 0) rfl (by rw [ex165]; rfl) (by decide) rfl (fun ls hl => ?_)
      refine lv_goto (tgt := 18) hx hb dL_law_1360 (by decide) ?_
      have I166 : jI2 σ145 := jI2_fr (congrFun (f147 2 (by decide)) 0) (congrFun (f147 2 (by decide)) 1) (congrFun (f147 2 (by decide)) 2) (congrFun (f147 2 (by decide)) 3) (f147 6 (by decide)) I26
      have I167 : jI9 σ145 := jI9_fr ((congrFun (f147 9 (by decide)) 0).trans (congrFun (f24 9 (by decide)) 0)) ((f147 10 (by decide)).trans (f24 10 (by decide))) ((f147 11 (by decide)).trans (f24 11 (by decide))) hI9
      have I168 : jI12 σ145 := jI12_fr ((congrFun (f147 12 (by decide)) 0).trans (congrFun (f24 12 (by decide)) 0)) ((f147 13 (by decide)).trans (f24 13 (by decide))) hI12
      have I169 : jI16 σ145 := jI16_fr ((congrFun (f147 16 (by decide)) 0).trans (congrFun (f24 16 (by decide)) 0)) ((congrFun (f147 16 (by decide)) 1).trans (congrFun (f24 16 (by decide)) 1)) ((congrFun (f147 16 (by decide)) 2).trans (congrFun (f24 16 (by decide)) 2)) ((f147 17 (by decide)).trans (f24 17 (by decide))) hI16
      have I170 : jI18 σ145 := jI18_fr ((congrFun (f147 18 (by decide)) 0).trans (congrFun (f24 18 (by decide)) 0)) ((f147 19 (by decide)).trans (f24 19 (by decide))) hI18
      have I171 : jI22 σ145 := jI22_fr ((congrFun (f147 22 (by decide)) 0).trans (congrFun (f24 22 (by decide)) 0)) ((f147 23 (by decide)).trans (f24 23 (by decide))) hI22
      have I172 : jI31 σ145 := jI31_fr ((congrFun (f147 31 (by decide)) 8).trans (congrFun (f24 31 (by decide)) 8)) ((f147 33 (by decide)).trans (f24 33 (by decide))) ((f147 36 (by decide)).trans (f24 36 (by decide))) hI31
      have I173 : jI38 σ145 := jI38_fr ((congrFun (f147 38 (by decide)) 0).trans (congrFun (f24 38 (by decide)) 0)) ((congrFun (f147 38 (by decide)) 1).trans (congrFun (f24 38 (by decide)) 1)) ((f147 39 (by decide)).trans (f24 39 (by decide))) hI38
      have I174 : jI43 σ145 := jI43_fr ((congrFun (f147 43 (by decide)) 8).trans (congrFun (f24 43 (by decide)) 8)) hI43
      have I175 : jI47 σ145 := jI47_fr ((congrFun (f147 47 (by decide)) 0).trans (congrFun (f24 47 (by decide)) 0)) ((f147 48 (by decide)).trans (f24 48 (by decide))) ((f147 49 (by decide)).trans (f24 49 (by decide))) hI47
      have I176 : jI50 σ145 := jI50_fr ((f147 52 (by decide)).trans (f24 52 (by decide))) hI50
      have I177 : jI102 σ145 := jI102_fr (f148 6 (by decide)) (f147 60 (by decide)) (f147 61 (by decide)) I141
      have I178 : jI103 σ145 := jI103_fr ((f148 9 (by decide)).trans (congrFun (f24 55 (by decide)) 9)) hI103
      have I179 : jI104 σ145 := jI104_fr ((f148 10 (by decide)).trans (congrFun (f24 55 (by decide)) 10)) ((f148 12 (by decide)).trans (congrFun (f24 55 (by decide)) 12)) ((f148 13 (by decide)).trans (congrFun (f24 55 (by decide)) 13)) ((f147 62 (by decide)).trans (f24 62 (by decide))) ((f147 67 (by decide)).trans (f24 67 (by decide))) hI104
      have I180 : jI105 σ145 := jI105_fr ((f148 15 (by decide)).trans (congrFun (f24 55 (by decide)) 15)) ((f147 65 (by decide)).trans (f24 65 (by decide))) hI105
      have I181 : jI106 σ145 := jI106_fr ((f148 32 (by decide)).trans (congrFun (f24 55 (by decide)) 32)) ((f147 70 (by decide)).trans (f24 70 (by decide))) ((f147 71 (by decide)).trans (f24 71 (by decide))) ((f147 72 (by decide)).trans (f24 72 (by decide))) hI106
      have I182 : jI107 σ145 := jI107_fr ((f148 12 (by decide)).trans (congrFun (f24 55 (by decide)) 12)) ((f148 47 (by decide)).trans (congrFun (f24 55 (by decide)) 47)) ((f147 80 (by decide)).trans (f24 80 (by decide))) hI107
      have I183 : jI109 σ145 := jI109_fr ((f148 50 (by decide)).trans (congrFun (f24 55 (by decide)) 50)) hI109
      have I184 : jI110 σ145 := jI110_fr ((f147 86 (by decide)).trans (f24 86 (by decide))) ((f147 87 (by decide)).trans (f24 87 (by decide))) hI110
      have I185 : jI111 σ145 := jI111_fr ((f147 79 (by decide)).trans (f24 79 (by decide))) hI111
      have I186 : jI119 σ145 := jI119_fr ((f147 68 (by decide)).trans (f24 68 (by decide))) hI119
      have p187 : jKept σ145 := jKept.fr ((f147 75 (by decide)).trans (f24 75 (by decide))) ((f147 76 (by decide)).trans (f24 76 (by decide))) ((f147 77 (by decide)).trans (f24 77 (by decide))) hs_jKept
      have p188 : jBook σ145 := jBook.fr ((f148 47 (by decide)).trans (congrFun (f24 55 (by decide)) 47)) ((f148 10 (by decide)).trans (congrFun (f24 55 (by decide)) 10)) ((f147 81 (by decide)).trans (f24 81 (by decide))) hs_jBook
      have z189 : (σ145 2 0).toInt = (σ 2 0).toInt := (congrArg Int32.toInt (show σ145 2 0 = (σ 2 0) from ((congrFun (f147 2 (by decide)) 0).trans (f25 0 (by decide)))))
      have z190 : (σ145 55 6).toInt = (σ 55 6).toInt := (congrArg Int32.toInt (show σ145 55 6 = (σ 55 6) from ((f148 6 (by decide)).trans (congrFun (f24 55 (by decide)) 6))))
      have z191 : (σ145 2 2).toInt = (σ22 2 2).toInt := (congrArg Int32.toInt (show σ145 2 2 = (σ22 2 2) from (congrFun (f147 2 (by decide)) 2)))
      have z192 : (σ145 2 3).toInt = (σ22 2 3).toInt := (congrArg Int32.toInt (show σ145 2 3 = (σ22 2 3) from (congrFun (f147 2 (by decide)) 3)))
      exact ih x165 σ145 τ _ _ ls (by have h9 := tx165; omega) ⟨I166, I167, I168, I169, I170, I171, I172, I173, I174, I175, I176, I149, I177, I178, I179, I180, I181, I182, I183, I184, I185, I186, p187, p188, (by omega), (by omega), (by omega), (False.elim (by omega))⟩ hP hS (lv_sub hl [0, 1, 2, 3] rfl)
    · obtain ⟨q200, k193, k194, k195, k196, k197, k198, k199⟩ := h159
      refine lv_pop hx hb dL_law_769 rfl ?_
      refine lv_goto (tgt := 1357) hx hb dL_law_770 (by decide) ?_
      obtain ⟨x201, ex201⟩ : ∃ y : Int32, y = x0 + 6 := ⟨_, rfl⟩
      have tx201 : x201.toInt = x0.toInt + 6 := (jadd ex201 rfl jz_6 (by omega) (by omega)).trans (by omega)
      refine lv_iinc (v := x201) (lv' := [(3, .int x201), (2, .ref (ad 55)), (1, .ref (ad 0)), (0, .ref b)]) hx hb dL_law_1357 hl (k := 0) rfl (by rw [ex201]; rfl) (by decide) rfl (fun ls hl => ?_)
      refine lv_goto (tgt := 18) hx hb dL_law_1360 (by decide) ?_
      have I202 : jI2 σ145 := jI2_fr (congrFun (f147 2 (by decide)) 0) (congrFun (f147 2 (by decide)) 1) (congrFun (f147 2 (by decide)) 2) (congrFun (f147 2 (by decide)) 3) (f147 6 (by decide)) I26
      have I203 : jI9 σ145 := jI9_fr ((congrFun (f147 9 (by decide)) 0).trans (congrFun (f24 9 (by decide)) 0)) ((f147 10 (by decide)).trans (f24 10 (by decide))) ((f147 11 (by decide)).trans (f24 11 (by decide))) hI9
      have I204 : jI12 σ145 := jI12_fr ((congrFun (f147 12 (by decide)) 0).trans (congrFun (f24 12 (by decide)) 0)) ((f147 13 (by decide)).trans (f24 13 (by decide))) hI12
      have I205 : jI16 σ145 := jI16_fr ((congrFun (f147 16 (by decide)) 0).trans (congrFun (f24 16 (by decide)) 0)) ((congrFun (f147 16 (by decide)) 1).trans (congrFun (f24 16 (by decide)) 1)) ((congrFun (f147 16 (by decide)) 2).trans (congrFun (f24 16 (by decide)) 2)) ((f147 17 (by decide)).trans (f24 17 (by decide))) hI16
      have I206 : jI18 σ145 := jI18_fr ((congrFun (f147 18 (by decide)) 0).trans (congrFun (f24 18 (by decide)) 0)) ((f147 19 (by decide)).trans (f24 19 (by decide))) hI18
      have I207 : jI22 σ145 := jI22_fr ((congrFun (f147 22 (by decide)) 0).trans (congrFun (f24 22 (by decide)) 0)) ((f147 23 (by decide)).trans (f24 23 (by decide))) hI22
      have I208 : jI31 σ145 := jI31_fr ((congrFun (f147 31 (by decide)) 8).trans (congrFun (f24 31 (by decide)) 8)) ((f147 33 (by decide)).trans (f24 33 (by decide))) ((f147 36 (by decide)).trans (f24 36 (by decide))) hI31
      have I209 : jI38 σ145 := jI38_fr ((congrFun (f147 38 (by decide)) 0).trans (congrFun (f24 38 (by decide)) 0)) ((congrFun (f147 38 (by decide)) 1).trans (congrFun (f24 38 (by decide)) 1)) ((f147 39 (by decide)).trans (f24 39 (by decide))) hI38
      have I210 : jI43 σ145 := jI43_fr ((congrFun (f147 43 (by decide)) 8).trans (congrFun (f24 43 (by decide)) 8)) hI43
      have I211 : jI47 σ145 := jI47_fr ((congrFun (f147 47 (by decide)) 0).trans (congrFun (f24 47 (by decide)) 0)) ((f147 48 (by decide)).trans (f24 48 (by decide))) ((f147 49 (by decide)).trans (f24 49 (by decide))) hI47
      have I212 : jI50 σ145 := jI50_fr ((f147 52 (by decide)).trans (f24 52 (by decide))) hI50
      have I213 : jI102 σ145 := jI102_fr (f148 6 (by decide)) (f147 60 (by decide)) (f147 61 (by decide)) I141
      have I214 : jI103 σ145 := jI103_fr ((f148 9 (by decide)).trans (congrFun (f24 55 (by decide)) 9)) hI103
      have I215 : jI104 σ145 := jI104_fr ((f148 10 (by decide)).trans (congrFun (f24 55 (by decide)) 10)) ((f148 12 (by decide)).trans (congrFun (f24 55 (by decide)) 12)) ((f148 13 (by decide)).trans (congrFun (f24 55 (by decide)) 13)) ((f147 62 (by decide)).trans (f24 62 (by decide))) ((f147 67 (by decide)).trans (f24 67 (by decide))) hI104
      have I216 : jI105 σ145 := jI105_fr ((f148 15 (by decide)).trans (congrFun (f24 55 (by decide)) 15)) ((f147 65 (by decide)).trans (f24 65 (by decide))) hI105
      have I217 : jI106 σ145 := jI106_fr ((f148 32 (by decide)).trans (congrFun (f24 55 (by decide)) 32)) ((f147 70 (by decide)).trans (f24 70 (by decide))) ((f147 71 (by decide)).trans (f24 71 (by decide))) ((f147 72 (by decide)).trans (f24 72 (by decide))) hI106
      have I218 : jI107 σ145 := jI107_fr ((f148 12 (by decide)).trans (congrFun (f24 55 (by decide)) 12)) ((f148 47 (by decide)).trans (congrFun (f24 55 (by decide)) 47)) ((f147 80 (by decide)).trans (f24 80 (by decide))) hI107
      have I219 : jI109 σ145 := jI109_fr ((f148 50 (by decide)).trans (congrFun (f24 55 (by decide)) 50)) hI109
      have I220 : jI110 σ145 := jI110_fr ((f147 86 (by decide)).trans (f24 86 (by decide))) ((f147 87 (by decide)).trans (f24 87 (by decide))) hI110
      have I221 : jI111 σ145 := jI111_fr ((f147 79 (by decide)).trans (f24 79 (by decide))) hI111
      have I222 : jI119 σ145 := jI119_fr ((f147 68 (by decide)).trans (f24 68 (by decide))) hI119
      have p223 : jKept σ145 := jKept.fr ((f147 75 (by decide)).trans (f24 75 (by decide))) ((f147 76 (by decide)).trans (f24 76 (by decide))) ((f147 77 (by decide)).trans (f24 77 (by decide))) hs_jKept
      have p224 : jBook σ145 := jBook.fr ((f148 47 (by decide)).trans (congrFun (f24 55 (by decide)) 47)) ((f148 10 (by decide)).trans (congrFun (f24 55 (by decide)) 10)) ((f147 81 (by decide)).trans (f24 81 (by decide))) hs_jBook
      have z225 : (σ145 2 0).toInt = (σ 2 0).toInt := (congrArg Int32.toInt (show σ145 2 0 = (σ 2 0) from ((congrFun (f147 2 (by decide)) 0).trans (f25 0 (by decide)))))
      have z226 : (σ145 55 6).toInt = (σ 55 6).toInt := (congrArg Int32.toInt (show σ145 55 6 = (σ 55 6) from ((f148 6 (by decide)).trans (congrFun (f24 55 (by decide)) 6))))
      have z227 : (σ145 2 2).toInt = (σ22 2 2).toInt := (congrArg Int32.toInt (show σ145 2 2 = (σ22 2 2) from (congrFun (f147 2 (by decide)) 2)))
      have z228 : (σ145 2 3).toInt = (σ22 2 3).toInt := (congrArg Int32.toInt (show σ145 2 3 = (σ22 2 3) from (congrFun (f147 2 (by decide)) 3)))
      obtain ⟨q229, w231, e233, c235⟩ := k138
      obtain ⟨q230, w232, e234, c236⟩ := k199
      rw [show σ22 56 = σ 56 from (f24 56 (by decide)), show σ22 57 = σ 57 from (f24 57 (by decide)), show σ22 58 = σ 58 from (f24 58 (by decide)), show σ22 59 = σ 59 from (f24 59 (by decide)), show r146 = r23 from jsame (rfl : r146.toInt = r146.toInt) (rfl : r23.toInt = r23.toInt) (by omega), show (σ22 55 4).toInt = (σ 55 4).toInt from by omega] at c236
      have k237 := hr0.chg (by omega) (by omega) c235 c236 (by omega) (by omega) (by omega) (by omega)
      have e233 := k237.2.1
      have e234 := k237.2.2
      exact ih x201 σ145 τ _ _ ls (by have h9 := tx201; omega) ⟨I202, I203, I204, I205, I206, I207, I208, I209, I210, I211, I212, I149, I213, I214, I215, I216, I217, I218, I219, I220, I221, I222, p223, p224, (by omega), (by omega), (by omega), (show jNumP (σ145 3) (σ145 56) (σ145 6) (σ145 57) (σ145 7) (σ145 58) (σ145 8) (σ145 59) (σ145 55 6).toInt (σ145 55 4).toInt by rw [show σ145 3 = σ22 3 from (f147 3 (by decide)), show σ145 6 = σ22 6 from (f147 6 (by decide)), show σ145 7 = σ22 7 from (f147 7 (by decide)), show σ145 8 = σ22 8 from (f147 8 (by decide)), show (σ145 55 6).toInt = (σ 55 6).toInt from by omega]; exact k237.1)⟩ hP hS (lv_sub hl [0, 1, 2, 3] rfl)
