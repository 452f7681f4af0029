set_option maxHeartbeats 4000000 in
set_option maxRecDepth 100000 in
theorem law_case_0 {p : Program} {e : Env} {s : State} {m : MethodId} {below : List Frame} {meth : Method} {c : Code} (l : Launch) {b L : Nat} {xs : Nat → Int32} {D : va_G} {cI cL : ClassId} {ad zz : Nat → Nat} (C0 : lw_At p s m meth c b L xs) (hJ : jD ad) (hA : ∀ q, jA ad q → s.heap.size ≤ q) (hK : jK D cI cL s) (hZ : jZ zz (fun q : Nat => s.heap.size ≤ q) s s.heap) {x0 : Int32} (hx0 : 0 ≤ x0.toInt) (hxL : x0.toInt + 6 ≤ (L : Int)) (hL : L ≤ 384) {σ : Nat → Nat → Int32} {τ : Nat → Nat → Int64} {H : Heap} {locs : List Loc} (hS : va_S (fun q : Nat => s.heap.size ≤ q) s.heap H locs) {ls : Array Slot} (hAll : jAll σ τ) (hP : jH D cI cL ad σ τ H) (hl : lv_has ls 4 [(3, .int x0), (2, .ref (ad 55)), (1, .ref (ad 0)), (0, .ref b)]) (ih : ∀ (x1 : Int32) (σ : Nat → Nat → Int32) (τ : Nat → Nat → Int64) (H : Heap) (locs : List Loc) (ls : Array Slot), x1.toInt = x0.toInt + 6 → jAll σ τ → jH D cI cL ad σ τ H → va_S (fun q : Nat => s.heap.size ≤ q) s.heap H locs → lv_has ls 4 [(3, .int x1), (2, .ref (ad 55)), (1, .ref (ad 0)), (0, .ref b)] → W p l e room_1 s m #[Value.ref b] below meth c H locs 90 348600 (lw_Z below #[Value.ref b] s) (F0 m 18 ls [])) : W p l e room_1 s m #[Value.ref b] below meth c H locs 90 348600 (lw_Z below #[Value.ref b] s) (F0 m 196 ls []) := by
  obtain ⟨hx, hb, hr, hml, hown, hts0, hX, hbl, hlocks, hgv⟩ := C0
  have hts : ∀ w ∈ wsL_law, w.before #[Value.ref b] s = true := fun w h => hts0 w (wsL_law_in w h)
  have hbA : ¬ (fun q : Nat => s.heap.size ≤ q) b := Nat.not_le.mpr hbl
  have hown : s.vm.findClass RL = some m.cls := hown
  obtain ⟨hI2, hI9, hI12, hI16, hI18, hI22, hI31, hI38, hI43, hI47, hI50, hI101, hI102, hI103, hI104, hI105, hI106, hI107, hI109, hI110, hI111, hI119, hs_jKept, hs_jBook, ht0, hr0, hr1⟩ := hAll
  have hL9 : (L : Int) ≤ 384 := by omega
  obtain ⟨i1, i2, w3⟩ : (0 ≤ (σ 38 0).toInt ∧ (σ 38 0).toInt ≤ 20) ∧ (0 ≤ (σ 38 1).toInt ∧ (σ 38 1).toInt ≤ 1000) ∧ (∀ k : Nat, k < 20 → 0 ≤ (σ 39 k).toInt ∧ (σ 39 k).toInt ≤ 6) := id hI38
  have w4 : ∀ k : Nat, k < 6 → 0 ≤ (σ 52 k).toInt ∧ (σ 52 k).toInt ≤ 60 := hI50
  obtain ⟨i5, w6, w7, w8⟩ : (0 ≤ (σ 55 32).toInt ∧ (σ 55 32).toInt ≤ 20) ∧ (∀ k : Nat, k < 20 → 0 ≤ (σ 70 k).toInt ∧ (σ 70 k).toInt ≤ 6) ∧ (∀ k : Nat, k < 20 → 0 ≤ (σ 71 k).toInt ∧ (σ 71 k).toInt ≤ 8) ∧ (∀ k : Nat, k < 160 → 0 ≤ (σ 72 k).toInt ∧ (σ 72 k).toInt ≤ 3) := id hI106
  refine lv_aload_n hx hb dL_law_196 rfl (lv_at hl 2 rfl) ?_
  refine lv_aload_n hx hb dL_law_197 rfl (lv_at hl 3 rfl) ?_
  refine lv_iload_n hx hb dL_law_198 rfl (lv_at hl 0 rfl) ?_
  refine lv_iconst (v := 1) hx hb dL_law_199 (by decide) ?_
  have g9 := jrg (rfl : x0.toInt = x0.toInt)
  refine lv_iadd hx hb dL_law_200 ?_
  refine lv_topi (fun x10 ex10 => ?_)
  have tx10 : x10.toInt = x0.toInt + 1 := (jadd ex10 rfl jz_1 (by omega) (by omega)).trans (by omega)
  refine va_sld hx hb hX hbl hbA hS (jin tx10 (by omega) (by omega)) dL_law_201 ?_
  have g11 := jrg (rfl : (xs x10.toNatClampNeg).toInt = (xs x10.toNatClampNeg).toInt)
  refine lv_aload_n hx hb dL_law_202 rfl (lv_at hl 3 rfl) ?_
  refine lv_iload_n hx hb dL_law_203 rfl (lv_at hl 0 rfl) ?_
  refine lv_iconst (v := 2) hx hb dL_law_204 (by decide) ?_
  refine lv_iadd hx hb dL_law_205 ?_
  refine lv_topi (fun x12 ex12 => ?_)
  have tx12 : x12.toInt = x0.toInt + 2 := (jadd ex12 rfl jz_2 (by omega) (by omega)).trans (by omega)
  refine va_sld hx hb hX hbl hbA hS (jin tx12 (by omega) (by omega)) dL_law_206 ?_
  have g13 := jrg (rfl : (xs x12.toNatClampNeg).toInt = (xs x12.toNatClampNeg).toInt)
  refine lv_aload_n hx hb dL_law_207 rfl (lv_at hl 3 rfl) ?_
  refine lv_iload_n hx hb dL_law_208 rfl (lv_at hl 0 rfl) ?_
  refine lv_iconst (v := 3) hx hb dL_law_209 (by decide) ?_
  refine lv_iadd hx hb dL_law_210 ?_
  refine lv_topi (fun x14 ex14 => ?_)
  have tx14 : x14.toInt = x0.toInt + 3 := (jadd ex14 rfl jz_3 (by omega) (by omega)).trans (by omega)
  refine va_sld hx hb hX hbl hbA hS (jin tx14 (by omega) (by omega)) dL_law_211 ?_
  have g15 := jrg (rfl : (xs x14.toNatClampNeg).toInt = (xs x14.toNatClampNeg).toInt)
  refine jcallV (As := [.int (xs x10.toNatClampNeg), .int (xs x12.toNatClampNeg), .int (xs x14.toNatClampNeg)]) (rest := []) ⟨hx, hb, hml, hown, hts⟩ hK hP hA hS hZ (c_X11_bowler l D cI cL ad zz hJ σ τ (xs x10.toNatClampNeg) ((xs x10.toNatClampNeg).toInt) rfl (xs x12.toNatClampNeg) ((xs x12.toNatClampNeg).toInt) rfl (xs x14.toNatClampNeg) ((xs x14.toNatClampNeg).toInt) rfl hI2) cw_RL_13 (jc_0 cI cL ad σ τ) rfl ⟨Nat.le_of_ble_eq_true rfl, Nat.le_of_ble_eq_true rfl⟩ rfl rfl rfl hl.1 rfl (Nat.le_of_ble_eq_true rfl) dL_law_212 ⟨Nat.le_of_ble_eq_true rfl, Nat.le_of_ble_eq_true rfl⟩ (fun r17 σ16 τ16 H locs h16 hP hS => ?_)
  obtain ⟨rfl, f18, f19, I20, h16⟩ := h16
  rcases h16 with h22 | h23 | h24
  · obtain ⟨q28, k25, k26, k27⟩ := h22
    have q28 := q28.symm
    subst q28
    refine lv_pop hx hb dL_law_215 rfl ?_
    refine lv_aload_n hx hb dL_law_216 rfl (lv_at hl 1 rfl) ?_
    refine lv_aload_n hx hb dL_law_217 rfl (lv_at hl 3 rfl) ?_
    refine lv_iload_n hx hb dL_law_218 rfl (lv_at hl 0 rfl) ?_
    refine lv_iconst (v := 1) hx hb dL_law_219 (by decide) ?_
    refine lv_iadd hx hb dL_law_220 ?_
    refine jtopr ex10.symm ?_
    refine va_sld hx hb hX hbl hbA hS (jin tx10 (by omega) (by omega)) dL_law_221 ?_
    refine lv_aload_n hx hb dL_law_222 rfl (lv_at hl 3 rfl) ?_
    refine lv_iload_n hx hb dL_law_223 rfl (lv_at hl 0 rfl) ?_
    refine lv_iconst (v := 2) hx hb dL_law_224 (by decide) ?_
    refine lv_iadd hx hb dL_law_225 ?_
    refine jtopr ex12.symm ?_
    refine va_sld hx hb hX hbl hbA hS (jin tx12 (by omega) (by omega)) dL_law_226 ?_
    refine lv_aload_n hx hb dL_law_227 rfl (lv_at hl 3 rfl) ?_
    refine lv_iload_n hx hb dL_law_228 rfl (lv_at hl 0 rfl) ?_
    refine lv_iconst (v := 3) hx hb dL_law_229 (by decide) ?_
    refine lv_iadd hx hb dL_law_230 ?_
    refine jtopr ex14.symm ?_
    refine va_sld hx hb hX hbl hbA hS (jin tx14 (by omega) (by omega)) dL_law_231 ?_
    have I29 : jI101 σ16 := jI101_fr (congrFun (f18 55 (by decide)) 4) (congrFun (f18 55 (by decide)) 5) (f18 56 (by decide)) (f18 57 (by decide)) (f18 58 (by decide)) (f18 59 (by decide)) hI101
    have I30 : jI102 σ16 := jI102_fr (congrFun (f18 55 (by decide)) 6) (f18 60 (by decide)) (f18 61 (by decide)) hI102
    have z31 : (σ16 55 6).toInt = (σ 55 6).toInt := (congrArg Int32.toInt (show σ16 55 6 = (σ 55 6) from (congrFun (f18 55 (by decide)) 6)))
    refine jcallV (As := [.int (xs x10.toNatClampNeg), .int (xs x12.toNatClampNeg), .int (xs x14.toNatClampNeg)]) (rest := []) ⟨hx, hb, hml, hown, hts⟩ hK hP hA hS hZ (c_X12_bowler l D cI cL ad zz hJ σ16 τ (xs x10.toNatClampNeg) ((xs x10.toNatClampNeg).toInt) rfl (xs x12.toNatClampNeg) ((xs x12.toNatClampNeg).toInt) rfl (xs x14.toNatClampNeg) ((xs x14.toNatClampNeg).toInt) rfl I29 I30) cw_RL_17 (jc_55 cI cL ad σ16 τ) rfl ⟨Nat.le_of_ble_eq_true rfl, Nat.le_of_ble_eq_true rfl⟩ rfl rfl rfl hl.1 rfl (Nat.le_of_ble_eq_true rfl) dL_law_232 ⟨Nat.le_of_ble_eq_true rfl, Nat.le_of_ble_eq_true rfl⟩ (fun r33 σ32 τ32 H locs h32 hP hS => ?_)
    obtain ⟨rfl, f34, f35, I36, I37, h32⟩ := h32
    rcases h32 with h39 | h40 | h41
    · obtain ⟨q45, k42, k43, k44⟩ := h39
      have q45 := q45.symm
      subst q45
      refine lv_pop hx hb dL_law_235 rfl ?_
      refine lv_goto (tgt := 1358) hx hb dL_law_236 (by decide) ?_
      obtain ⟨x46, ex46⟩ : ∃ y : Int32, y = x0 + 6 := ⟨_, rfl⟩
      have tx46 : x46.toInt = x0.toInt + 6 := (jadd ex46 rfl jz_6 (by omega) (by omega)).trans (by omega)
      refine lv_iinc (v := x46) (lv' := [(3, .int x46), (2, .ref (ad 55)), (1, .ref (ad 0)), (0, .ref b)]) hx hb dL_law_1358 hl (k := 0) rfl (by rw [ex46]; rfl) (by decide) rfl (fun ls hl => ?_)
      refine lv_goto (tgt := 18) hx hb dL_law_1361 (by decide) ?_
      have I47 : jI2 σ32 := jI2_fr (congrFun (f34 2 (by decide)) 0) (congrFun (f34 2 (by decide)) 1) (congrFun (f34 2 (by decide)) 2) (congrFun (f34 2 (by decide)) 3) (f34 6 (by decide)) I20
      have I48 : jI9 σ32 := jI9_fr ((congrFun (f34 9 (by decide)) 0).trans (congrFun (f18 9 (by decide)) 0)) ((f34 10 (by decide)).trans (f18 10 (by decide))) ((f34 11 (by decide)).trans (f18 11 (by decide))) hI9
      have I49 : jI12 σ32 := jI12_fr ((congrFun (f34 12 (by decide)) 0).trans (congrFun (f18 12 (by decide)) 0)) ((f34 13 (by decide)).trans (f18 13 (by decide))) hI12
      have I50 : jI16 σ32 := jI16_fr ((congrFun (f34 16 (by decide)) 0).trans (congrFun (f18 16 (by decide)) 0)) ((congrFun (f34 16 (by decide)) 1).trans (congrFun (f18 16 (by decide)) 1)) ((congrFun (f34 16 (by decide)) 2).trans (congrFun (f18 16 (by decide)) 2)) ((f34 17 (by decide)).trans (f18 17 (by decide))) hI16
      have I51 : jI18 σ32 := jI18_fr ((congrFun (f34 18 (by decide)) 0).trans (congrFun (f18 18 (by decide)) 0)) ((f34 19 (by decide)).trans (f18 19 (by decide))) hI18
      have I52 : jI22 σ32 := jI22_fr ((congrFun (f34 22 (by decide)) 0).trans (congrFun (f18 22 (by decide)) 0)) ((f34 23 (by decide)).trans (f18 23 (by decide))) hI22
      have I53 : jI31 σ32 := jI31_fr ((congrFun (f34 31 (by decide)) 8).trans (congrFun (f18 31 (by decide)) 8)) ((f34 33 (by decide)).trans (f18 33 (by decide))) ((f34 36 (by decide)).trans (f18 36 (by decide))) hI31
      have I54 : jI38 σ32 := jI38_fr ((congrFun (f34 38 (by decide)) 0).trans (congrFun (f18 38 (by decide)) 0)) ((congrFun (f34 38 (by decide)) 1).trans (congrFun (f18 38 (by decide)) 1)) ((f34 39 (by decide)).trans (f18 39 (by decide))) hI38
      have I55 : jI43 σ32 := jI43_fr ((congrFun (f34 43 (by decide)) 8).trans (congrFun (f18 43 (by decide)) 8)) hI43
      have I56 : jI47 σ32 := jI47_fr ((congrFun (f34 47 (by decide)) 0).trans (congrFun (f18 47 (by decide)) 0)) ((f34 48 (by decide)).trans (f18 48 (by decide))) ((f34 49 (by decide)).trans (f18 49 (by decide))) hI47
      have I57 : jI50 σ32 := jI50_fr ((f34 52 (by decide)).trans (f18 52 (by decide))) hI50
      have I58 : jI103 σ32 := jI103_fr ((f35 9 (by decide)).trans (congrFun (f18 55 (by decide)) 9)) hI103
      have I59 : jI104 σ32 := jI104_fr ((f35 10 (by decide)).trans (congrFun (f18 55 (by decide)) 10)) ((f35 12 (by decide)).trans (congrFun (f18 55 (by decide)) 12)) ((f35 13 (by decide)).trans (congrFun (f18 55 (by decide)) 13)) ((f34 62 (by decide)).trans (f18 62 (by decide))) ((f34 67 (by decide)).trans (f18 67 (by decide))) hI104
      have I60 : jI105 σ32 := jI105_fr ((f35 15 (by decide)).trans (congrFun (f18 55 (by decide)) 15)) ((f34 65 (by decide)).trans (f18 65 (by decide))) hI105
      have I61 : jI106 σ32 := jI106_fr ((f35 32 (by decide)).trans (congrFun (f18 55 (by decide)) 32)) ((f34 70 (by decide)).trans (f18 70 (by decide))) ((f34 71 (by decide)).trans (f18 71 (by decide))) ((f34 72 (by decide)).trans (f18 72 (by decide))) hI106
      have I62 : jI107 σ32 := jI107_fr ((f35 12 (by decide)).trans (congrFun (f18 55 (by decide)) 12)) ((f35 47 (by decide)).trans (congrFun (f18 55 (by decide)) 47)) ((f34 80 (by decide)).trans (f18 80 (by decide))) hI107
      have I63 : jI109 σ32 := jI109_fr ((f35 50 (by decide)).trans (congrFun (f18 55 (by decide)) 50)) hI109
      have I64 : jI110 σ32 := jI110_fr ((f34 86 (by decide)).trans (f18 86 (by decide))) ((f34 87 (by decide)).trans (f18 87 (by decide))) hI110
      have I65 : jI111 σ32 := jI111_fr ((f34 79 (by decide)).trans (f18 79 (by decide))) hI111
      have I66 : jI119 σ32 := jI119_fr ((f34 68 (by decide)).trans (f18 68 (by decide))) hI119
      have p67 : jKept σ32 := jKept.fr ((f34 75 (by decide)).trans (f18 75 (by decide))) ((f34 76 (by decide)).trans (f18 76 (by decide))) ((f34 77 (by decide)).trans (f18 77 (by decide))) hs_jKept
      have p68 : jBook σ32 := jBook.fr ((f35 47 (by decide)).trans (congrFun (f18 55 (by decide)) 47)) ((f35 10 (by decide)).trans (congrFun (f18 55 (by decide)) 10)) ((f34 81 (by decide)).trans (f18 81 (by decide))) hs_jBook
      have z69 : (σ32 38 0).toInt = (σ 38 0).toInt := (congrArg Int32.toInt (show σ32 38 0 = (σ 38 0) from ((congrFun (f34 38 (by decide)) 0).trans (congrFun (f18 38 (by decide)) 0))))
      have z70 : (σ32 55 32).toInt = (σ 55 32).toInt := (congrArg Int32.toInt (show σ32 55 32 = (σ 55 32) from ((f35 32 (by decide)).trans (congrFun (f18 55 (by decide)) 32))))
      exact ih x46 σ32 τ _ _ ls (by have h9 := tx46; omega) ⟨I47, I48, I49, I50, I51, I52, I53, I54, I55, I56, I57, I36, I37, I58, I59, I60, I61, I62, I63, I64, I65, I66, p67, p68, (by omega), (show jShP (σ32 51) (σ32 52) (σ32 53) (σ32 86) (σ32 87) (σ32 55 32).toInt by rw [show σ32 51 = σ 51 from ((f34 51 (by decide)).trans (f18 51 (by decide))), show σ32 52 = σ 52 from ((f34 52 (by decide)).trans (f18 52 (by decide))), show σ32 53 = σ 53 from ((f34 53 (by decide)).trans (f18 53 (by decide))), show σ32 86 = σ 86 from ((f34 86 (by decide)).trans (f18 86 (by decide))), show σ32 87 = σ 87 from ((f34 87 (by decide)).trans (f18 87 (by decide)))]; exact (hr0.up (by omega) (by omega))), (show jEl (σ32 51) (σ32 52) (τ 54) (τ 88) by rw [show σ32 51 = σ 51 from ((f34 51 (by decide)).trans (f18 51 (by decide))), show σ32 52 = σ 52 from ((f34 52 (by decide)).trans (f18 52 (by decide)))]; exact hr1)⟩ hP hS (lv_sub hl [0, 1, 2, 3] rfl)
    · obtain ⟨q78, k72, k73, k74, k75, k76, k77⟩ := h40
      exact absurd (by omega : False) id
    · obtain ⟨q86, k79, k80, k81, k82, k83, k84, k85⟩ := h41
      exact absurd (by omega : False) id
  · obtain ⟨q93, k87, k88, k89, k90, k91, k92⟩ := h23
    have q93 := q93.symm
    subst q93
    refine lv_pop hx hb dL_law_215 rfl ?_
    refine lv_aload_n hx hb dL_law_216 rfl (lv_at hl 1 rfl) ?_
    refine lv_aload_n hx hb dL_law_217 rfl (lv_at hl 3 rfl) ?_
    refine lv_iload_n hx hb dL_law_218 rfl (lv_at hl 0 rfl) ?_
    refine lv_iconst (v := 1) hx hb dL_law_219 (by decide) ?_
    refine lv_iadd hx hb dL_law_220 ?_
    refine jtopr ex10.symm ?_
    refine va_sld hx hb hX hbl hbA hS (jin tx10 (by omega) (by omega)) dL_law_221 ?_
    refine lv_aload_n hx hb dL_law_222 rfl (lv_at hl 3 rfl) ?_
    refine lv_iload_n hx hb dL_law_223 rfl (lv_at hl 0 rfl) ?_
    refine lv_iconst (v := 2) hx hb dL_law_224 (by decide) ?_
    refine lv_iadd hx hb dL_law_225 ?_
    refine jtopr ex12.symm ?_
    refine va_sld hx hb hX hbl hbA hS (jin tx12 (by omega) (by omega)) dL_law_226 ?_
    refine lv_aload_n hx hb dL_law_227 rfl (lv_at hl 3 rfl) ?_
    refine lv_iload_n hx hb dL_law_228 rfl (lv_at hl 0 rfl) ?_
    refine lv_iconst (v := 3) hx hb dL_law_229 (by decide) ?_
    refine lv_iadd hx hb dL_law_230 ?_
    refine jtopr ex14.symm ?_
    refine va_sld hx hb hX hbl hbA hS (jin tx14 (by omega) (by omega)) dL_law_231 ?_
    have I94 : jI101 σ16 := jI101_fr (congrFun (f18 55 (by decide)) 4) (congrFun (f18 55 (by decide)) 5) (f18 56 (by decide)) (f18 57 (by decide)) (f18 58 (by decide)) (f18 59 (by decide)) hI101
    have I95 : jI102 σ16 := jI102_fr (congrFun (f18 55 (by decide)) 6) (f18 60 (by decide)) (f18 61 (by decide)) hI102
    have z96 : (σ16 55 6).toInt = (σ 55 6).toInt := (congrArg Int32.toInt (show σ16 55 6 = (σ 55 6) from (congrFun (f18 55 (by decide)) 6)))
    refine jcallV (As := [.int (xs x10.toNatClampNeg), .int (xs x12.toNatClampNeg), .int (xs x14.toNatClampNeg)]) (rest := []) ⟨hx, hb, hml, hown, hts⟩ hK hP hA hS hZ (c_X12_bowler l D cI cL ad zz hJ σ16 τ (xs x10.toNatClampNeg) ((xs x10.toNatClampNeg).toInt) rfl (xs x12.toNatClampNeg) ((xs x12.toNatClampNeg).toInt) rfl (xs x14.toNatClampNeg) ((xs x14.toNatClampNeg).toInt) rfl I94 I95) cw_RL_17 (jc_55 cI cL ad σ16 τ) rfl ⟨Nat.le_of_ble_eq_true rfl, Nat.le_of_ble_eq_true rfl⟩ rfl rfl rfl hl.1 rfl (Nat.le_of_ble_eq_true rfl) dL_law_232 ⟨Nat.le_of_ble_eq_true rfl, Nat.le_of_ble_eq_true rfl⟩ (fun r98 σ97 τ97 H locs h97 hP hS => ?_)
    obtain ⟨rfl, f99, f100, I101, I102, h97⟩ := h97
    rcases h97 with h104 | h105 | h106
    · obtain ⟨q110, k107, k108, k109⟩ := h104
      exact absurd (by omega : False) id
    · obtain ⟨q117, k111, k112, k113, k114, k115, k116⟩ := h105
      have q117 := q117.symm
      subst q117
      refine lv_pop hx hb dL_law_235 rfl ?_
      refine lv_goto (tgt := 1358) hx hb dL_law_236 (by decide) ?_
      obtain ⟨x118, ex118⟩ : ∃ y : Int32, y = x0 + 6 := ⟨_, rfl⟩
      have tx118 : x118.toInt = x0.toInt + 6 := (jadd ex118 rfl jz_6 (by omega) (by omega)).trans (by omega)
      refine lv_iinc (v := x118) (lv' := [(3, .int x118), (2, .ref (ad 55)), (1, .ref (ad 0)), (0, .ref b)]) hx hb dL_law_1358 hl (k := 0) rfl (by rw [ex118]; rfl) (by decide) rfl (fun ls hl => ?_)
      refine lv_goto (tgt := 18) hx hb dL_law_1361 (by decide) ?_
      have I119 : jI2 σ97 := jI2_fr (congrFun (f99 2 (by decide)) 0) (congrFun (f99 2 (by decide)) 1) (congrFun (f99 2 (by decide)) 2) (congrFun (f99 2 (by decide)) 3) (f99 6 (by decide)) I20
      have I120 : jI9 σ97 := jI9_fr ((congrFun (f99 9 (by decide)) 0).trans (congrFun (f18 9 (by decide)) 0)) ((f99 10 (by decide)).trans (f18 10 (by decide))) ((f99 11 (by decide)).trans (f18 11 (by decide))) hI9
      have I121 : jI12 σ97 := jI12_fr ((congrFun (f99 12 (by decide)) 0).trans (congrFun (f18 12 (by decide)) 0)) ((f99 13 (by decide)).trans (f18 13 (by decide))) hI12
      have I122 : jI16 σ97 := jI16_fr ((congrFun (f99 16 (by decide)) 0).trans (congrFun (f18 16 (by decide)) 0)) ((congrFun (f99 16 (by decide)) 1).trans (congrFun (f18 16 (by decide)) 1)) ((congrFun (f99 16 (by decide)) 2).trans (congrFun (f18 16 (by decide)) 2)) ((f99 17 (by decide)).trans (f18 17 (by decide))) hI16
      have I123 : jI18 σ97 := jI18_fr ((congrFun (f99 18 (by decide)) 0).trans (congrFun (f18 18 (by decide)) 0)) ((f99 19 (by decide)).trans (f18 19 (by decide))) hI18
      have I124 : jI22 σ97 := jI22_fr ((congrFun (f99 22 (by decide)) 0).trans (congrFun (f18 22 (by decide)) 0)) ((f99 23 (by decide)).trans (f18 23 (by decide))) hI22
      have I125 : jI31 σ97 := jI31_fr ((congrFun (f99 31 (by decide)) 8).trans (congrFun (f18 31 (by decide)) 8)) ((f99 33 (by decide)).trans (f18 33 (by decide))) ((f99 36 (by decide)).trans (f18 36 (by decide))) hI31
      have I126 : jI38 σ97 := jI38_fr ((congrFun (f99 38 (by decide)) 0).trans (congrFun (f18 38 (by decide)) 0)) ((congrFun (f99 38 (by decide)) 1).trans (congrFun (f18 38 (by decide)) 1)) ((f99 39 (by decide)).trans (f18 39 (by decide))) hI38
      have I127 : jI43 σ97 := jI43_fr ((congrFun (f99 43 (by decide)) 8).trans (congrFun (f18 43 (by decide)) 8)) hI43
      have I128 : jI47 σ97 := jI47_fr ((congrFun (f99 47 (by decide)) 0).trans (congrFun (f18 47 (by decide)) 0)) ((f99 48 (by decide)).trans (f18 48 (by decide))) ((f99 49 (by decide)).trans (f18 49 (by decide))) hI47
      have I129 : jI50 σ97 := jI50_fr ((f99 52 (by decide)).trans (f18 52 (by decide))) hI50
      have I130 : jI103 σ97 := jI103_fr ((f100 9 (by decide)).trans (congrFun (f18 55 (by decide)) 9)) hI103
      have I131 : jI104 σ97 := jI104_fr ((f100 10 (by decide)).trans (congrFun (f18 55 (by decide)) 10)) ((f100 12 (by decide)).trans (congrFun (f18 55 (by decide)) 12)) ((f100 13 (by decide)).trans (congrFun (f18 55 (by decide)) 13)) ((f99 62 (by decide)).trans (f18 62 (by decide))) ((f99 67 (by decide)).trans (f18 67 (by decide))) hI104
      have I132 : jI105 σ97 := jI105_fr ((f100 15 (by decide)).trans (congrFun (f18 55 (by decide)) 15)) ((f99 65 (by decide)).trans (f18 65 (by decide))) hI105
      have I133 : jI106 σ97 := jI106_fr ((f100 32 (by decide)).trans (congrFun (f18 55 (by decide)) 32)) ((f99 70 (by decide)).trans (f18 70 (by decide))) ((f99 71 (by decide)).trans (f18 71 (by decide))) ((f99 72 (by decide)).trans (f18 72 (by decide))) hI106
      have I134 : jI107 σ97 := jI107_fr ((f100 12 (by decide)).trans (congrFun (f18 55 (by decide)) 12)) ((f100 47 (by decide)).trans (congrFun (f18 55 (by decide)) 47)) ((f99 80 (by decide)).trans (f18 80 (by decide))) hI107
      have I135 : jI109 σ97 := jI109_fr ((f100 50 (by decide)).trans (congrFun (f18 55 (by decide)) 50)) hI109
      have I136 : jI110 σ97 := jI110_fr ((f99 86 (by decide)).trans (f18 86 (by decide))) ((f99 87 (by decide)).trans (f18 87 (by decide))) hI110
      have I137 : jI111 σ97 := jI111_fr ((f99 79 (by decide)).trans (f18 79 (by decide))) hI111
      have I138 : jI119 σ97 := jI119_fr ((f99 68 (by decide)).trans (f18 68 (by decide))) hI119
      have p139 : jKept σ97 := jKept.fr ((f99 75 (by decide)).trans (f18 75 (by decide))) ((f99 76 (by decide)).trans (f18 76 (by decide))) ((f99 77 (by decide)).trans (f18 77 (by decide))) hs_jKept
      have p140 : jBook σ97 := jBook.fr ((f100 47 (by decide)).trans (congrFun (f18 55 (by decide)) 47)) ((f100 10 (by decide)).trans (congrFun (f18 55 (by decide)) 10)) ((f99 81 (by decide)).trans (f18 81 (by decide))) hs_jBook
      have z141 : (σ97 38 0).toInt = (σ 38 0).toInt := (congrArg Int32.toInt (show σ97 38 0 = (σ 38 0) from ((congrFun (f99 38 (by decide)) 0).trans (congrFun (f18 38 (by decide)) 0))))
      have z142 : (σ97 55 32).toInt = (σ 55 32).toInt := (congrArg Int32.toInt (show σ97 55 32 = (σ 55 32) from ((f100 32 (by decide)).trans (congrFun (f18 55 (by decide)) 32))))
      exact ih x118 σ97 τ _ _ ls (by have h9 := tx118; omega) ⟨I119, I120, I121, I122, I123, I124, I125, I126, I127, I128, I129, I101, I102, I130, I131, I132, I133, I134, I135, I136, I137, I138, p139, p140, (by omega), (show jShP (σ97 51) (σ97 52) (σ97 53) (σ97 86) (σ97 87) (σ97 55 32).toInt by rw [show σ97 51 = σ 51 from ((f99 51 (by decide)).trans (f18 51 (by decide))), show σ97 52 = σ 52 from ((f99 52 (by decide)).trans (f18 52 (by decide))), show σ97 53 = σ 53 from ((f99 53 (by decide)).trans (f18 53 (by decide))), show σ97 86 = σ 86 from ((f99 86 (by decide)).trans (f18 86 (by decide))), show σ97 87 = σ 87 from ((f99 87 (by decide)).trans (f18 87 (by decide)))]; exact (hr0.up (by omega) (by omega))), (show jEl (σ97 51) (σ97 52) (τ 54) (τ 88) by rw [show σ97 51 = σ 51 from ((f99 51 (by decide)).trans (f18 51 (by decide))), show σ97 52 = σ 52 from ((f99 52 (by decide)).trans (f18 52 (by decide)))]; exact hr1)⟩ hP hS (lv_sub hl [0, 1, 2, 3] rfl)
    · obtain ⟨q151, k144, k145, k146, k147, k148, k149, k150⟩ := h106
      refine lv_pop hx hb dL_law_235 rfl ?_
      refine lv_goto (tgt := 1358) hx hb dL_law_236 (by decide) ?_
      obtain ⟨x152, ex152⟩ : ∃ y : Int32, y = x0 + 6 := ⟨_, rfl⟩
      have tx152 : x152.toInt = x0.toInt + 6 := (jadd ex152 rfl jz_6 (by omega) (by omega)).trans (by omega)
      refine lv_iinc (v := x152) (lv' := [(3, .int x152), (2, .ref (ad 55)), (1, .ref (ad 0)), (0, .ref b)]) hx hb dL_law_1358 hl (k := 0) rfl (by rw [ex152]; rfl) (by decide) rfl (fun ls hl => ?_)
      refine lv_goto (tgt := 18) hx hb dL_law_1361 (by decide) ?_
      have I153 : jI2 σ97 := jI2_fr (congrFun (f99 2 (by decide)) 0) (congrFun (f99 2 (by decide)) 1) (congrFun (f99 2 (by decide)) 2) (congrFun (f99 2 (by decide)) 3) (f99 6 (by decide)) I20
      have I154 : jI9 σ97 := jI9_fr ((congrFun (f99 9 (by decide)) 0).trans (congrFun (f18 9 (by decide)) 0)) ((f99 10 (by decide)).trans (f18 10 (by decide))) ((f99 11 (by decide)).trans (f18 11 (by decide))) hI9
      have I155 : jI12 σ97 := jI12_fr ((congrFun (f99 12 (by decide)) 0).trans (congrFun (f18 12 (by decide)) 0)) ((f99 13 (by decide)).trans (f18 13 (by decide))) hI12
      have I156 : jI16 σ97 := jI16_fr ((congrFun (f99 16 (by decide)) 0).trans (congrFun (f18 16 (by decide)) 0)) ((congrFun (f99 16 (by decide)) 1).trans (congrFun (f18 16 (by decide)) 1)) ((congrFun (f99 16 (by decide)) 2).trans (congrFun (f18 16 (by decide)) 2)) ((f99 17 (by decide)).trans (f18 17 (by decide))) hI16
      have I157 : jI18 σ97 := jI18_fr ((congrFun (f99 18 (by decide)) 0).trans (congrFun (f18 18 (by decide)) 0)) ((f99 19 (by decide)).trans (f18 19 (by decide))) hI18
      have I158 : jI22 σ97 := jI22_fr ((congrFun (f99 22 (by decide)) 0).trans (congrFun (f18 22 (by decide)) 0)) ((f99 23 (by decide)).trans (f18 23 (by decide))) hI22
      have I159 : jI31 σ97 := jI31_fr ((congrFun (f99 31 (by decide)) 8).trans (congrFun (f18 31 (by decide)) 8)) ((f99 33 (by decide)).trans (f18 33 (by decide))) ((f99 36 (by decide)).trans (f18 36 (by decide))) hI31
      have I160 : jI38 σ97 := jI38_fr ((congrFun (f99 38 (by decide)) 0).trans (congrFun (f18 38 (by decide)) 0)) ((congrFun (f99 38 (by decide)) 1).trans (congrFun (f18 38 (by decide)) 1)) ((f99 39 (by decide)).trans (f18 39 (by decide))) hI38
      have I161 : jI43 σ97 := jI43_fr ((congrFun (f99 43 (by decide)) 8).trans (congrFun (f18 43 (by decide)) 8)) hI43
      have I162 : jI47 σ97 := jI47_fr ((congrFun (f99 47 (by decide)) 0).trans (congrFun (f18 47 (by decide)) 0)) ((f99 48 (by decide)).trans (f18 48 (by decide))) ((f99 49 (by decide)).trans (f18 49 (by decide))) hI47
      have I163 : jI50 σ97 := jI50_fr ((f99 52 (by decide)).trans (f18 52 (by decide))) hI50
      have I164 : jI103 σ97 := jI103_fr ((f100 9 (by decide)).trans (congrFun (f18 55 (by decide)) 9)) hI103
      have I165 : jI104 σ97 := jI104_fr ((f100 10 (by decide)).trans (congrFun (f18 55 (by decide)) 10)) ((f100 12 (by decide)).trans (congrFun (f18 55 (by decide)) 12)) ((f100 13 (by decide)).trans (congrFun (f18 55 (by decide)) 13)) ((f99 62 (by decide)).trans (f18 62 (by decide))) ((f99 67 (by decide)).trans (f18 67 (by decide))) hI104
      have I166 : jI105 σ97 := jI105_fr ((f100 15 (by decide)).trans (congrFun (f18 55 (by decide)) 15)) ((f99 65 (by decide)).trans (f18 65 (by decide))) hI105
      have I167 : jI106 σ97 := jI106_fr ((f100 32 (by decide)).trans (congrFun (f18 55 (by decide)) 32)) ((f99 70 (by decide)).trans (f18 70 (by decide))) ((f99 71 (by decide)).trans (f18 71 (by decide))) ((f99 72 (by decide)).trans (f18 72 (by decide))) hI106
      have I168 : jI107 σ97 := jI107_fr ((f100 12 (by decide)).trans (congrFun (f18 55 (by decide)) 12)) ((f100 47 (by decide)).trans (congrFun (f18 55 (by decide)) 47)) ((f99 80 (by decide)).trans (f18 80 (by decide))) hI107
      have I169 : jI109 σ97 := jI109_fr ((f100 50 (by decide)).trans (congrFun (f18 55 (by decide)) 50)) hI109
      have I170 : jI110 σ97 := jI110_fr ((f99 86 (by decide)).trans (f18 86 (by decide))) ((f99 87 (by decide)).trans (f18 87 (by decide))) hI110
      have I171 : jI111 σ97 := jI111_fr ((f99 79 (by decide)).trans (f18 79 (by decide))) hI111
      have I172 : jI119 σ97 := jI119_fr ((f99 68 (by decide)).trans (f18 68 (by decide))) hI119
      have p173 : jKept σ97 := jKept.fr ((f99 75 (by decide)).trans (f18 75 (by decide))) ((f99 76 (by decide)).trans (f18 76 (by decide))) ((f99 77 (by decide)).trans (f18 77 (by decide))) hs_jKept
      have p174 : jBook σ97 := jBook.fr ((f100 47 (by decide)).trans (congrFun (f18 55 (by decide)) 47)) ((f100 10 (by decide)).trans (congrFun (f18 55 (by decide)) 10)) ((f99 81 (by decide)).trans (f18 81 (by decide))) hs_jBook
      have z175 : (σ97 38 0).toInt = (σ 38 0).toInt := (congrArg Int32.toInt (show σ97 38 0 = (σ 38 0) from ((congrFun (f99 38 (by decide)) 0).trans (congrFun (f18 38 (by decide)) 0))))
      have z176 : (σ97 55 32).toInt = (σ 55 32).toInt := (congrArg Int32.toInt (show σ97 55 32 = (σ 55 32) from ((f100 32 (by decide)).trans (congrFun (f18 55 (by decide)) 32))))
      exact ih x152 σ97 τ _ _ ls (by have h9 := tx152; omega) ⟨I153, I154, I155, I156, I157, I158, I159, I160, I161, I162, I163, I101, I102, I164, I165, I166, I167, I168, I169, I170, I171, I172, p173, p174, (by omega), (show jShP (σ97 51) (σ97 52) (σ97 53) (σ97 86) (σ97 87) (σ97 55 32).toInt by rw [show σ97 51 = σ 51 from ((f99 51 (by decide)).trans (f18 51 (by decide))), show σ97 52 = σ 52 from ((f99 52 (by decide)).trans (f18 52 (by decide))), show σ97 53 = σ 53 from ((f99 53 (by decide)).trans (f18 53 (by decide))), show σ97 86 = σ 86 from ((f99 86 (by decide)).trans (f18 86 (by decide))), show σ97 87 = σ 87 from ((f99 87 (by decide)).trans (f18 87 (by decide)))]; exact (hr0.up (by omega) (by omega))), (show jEl (σ97 51) (σ97 52) (τ 54) (τ 88) by rw [show σ97 51 = σ 51 from ((f99 51 (by decide)).trans (f18 51 (by decide))), show σ97 52 = σ 52 from ((f99 52 (by decide)).trans (f18 52 (by decide)))]; exact hr1)⟩ hP hS (lv_sub hl [0, 1, 2, 3] rfl)
  · obtain ⟨q185, k178, k179, k180, k181, k182, k183, k184⟩ := h24
    refine lv_pop hx hb dL_law_215 rfl ?_
    refine lv_aload_n hx hb dL_law_216 rfl (lv_at hl 1 rfl) ?_
    refine lv_aload_n hx hb dL_law_217 rfl (lv_at hl 3 rfl) ?_
    refine lv_iload_n hx hb dL_law_218 rfl (lv_at hl 0 rfl) ?_
    refine lv_iconst (v := 1) hx hb dL_law_219 (by decide) ?_
    refine lv_iadd hx hb dL_law_220 ?_
    refine jtopr ex10.symm ?_
    refine va_sld hx hb hX hbl hbA hS (jin tx10 (by omega) (by omega)) dL_law_221 ?_
    refine lv_aload_n hx hb dL_law_222 rfl (lv_at hl 3 rfl) ?_
    refine lv_iload_n hx hb dL_law_223 rfl (lv_at hl 0 rfl) ?_
    refine lv_iconst (v := 2) hx hb dL_law_224 (by decide) ?_
    refine lv_iadd hx hb dL_law_225 ?_
    refine jtopr ex12.symm ?_
    refine va_sld hx hb hX hbl hbA hS (jin tx12 (by omega) (by omega)) dL_law_226 ?_
    refine lv_aload_n hx hb dL_law_227 rfl (lv_at hl 3 rfl) ?_
    refine lv_iload_n hx hb dL_law_228 rfl (lv_at hl 0 rfl) ?_
    refine lv_iconst (v := 3) hx hb dL_law_229 (by decide) ?_
    refine lv_iadd hx hb dL_law_230 ?_
    refine jtopr ex14.symm ?_
    refine va_sld hx hb hX hbl hbA hS (jin tx14 (by omega) (by omega)) dL_law_231 ?_
    have I186 : jI101 σ16 := jI101_fr (congrFun (f18 55 (by decide)) 4) (congrFun (f18 55 (by decide)) 5) (f18 56 (by decide)) (f18 57 (by decide)) (f18 58 (by decide)) (f18 59 (by decide)) hI101
    have I187 : jI102 σ16 := jI102_fr (congrFun (f18 55 (by decide)) 6) (f18 60 (by decide)) (f18 61 (by decide)) hI102
    have z188 : (σ16 55 6).toInt = (σ 55 6).toInt := (congrArg Int32.toInt (show σ16 55 6 = (σ 55 6) from (congrFun (f18 55 (by decide)) 6)))
    refine jcallV (As := [.int (xs x10.toNatClampNeg), .int (xs x12.toNatClampNeg), .int (xs x14.toNatClampNeg)]) (rest := []) ⟨hx, hb, hml, hown, hts⟩ hK hP hA hS hZ (c_X12_bowler l D cI cL ad zz hJ σ16 τ (xs x10.toNatClampNeg) ((xs x10.toNatClampNeg).toInt) rfl (xs x12.toNatClampNeg) ((xs x12.toNatClampNeg).toInt) rfl (xs x14.toNatClampNeg) ((xs x14.toNatClampNeg).toInt) rfl I186 I187) cw_RL_17 (jc_55 cI cL ad σ16 τ) rfl ⟨Nat.le_of_ble_eq_true rfl, Nat.le_of_ble_eq_true rfl⟩ rfl rfl rfl hl.1 rfl (Nat.le_of_ble_eq_true rfl) dL_law_232 ⟨Nat.le_of_ble_eq_true rfl, Nat.le_of_ble_eq_true rfl⟩ (fun r190 σ189 τ189 H locs h189 hP hS => ?_)
    obtain ⟨rfl, f191, f192, I193, I194, h189⟩ := h189
    rcases h189 with h196 | h197 | h198
    · obtain ⟨q202, k199, k200, k201⟩ := h196
      exact absurd (by omega : False) id
    · obtain ⟨q209, k203, k204, k205, k206, k207, k208⟩ := h197
      have q209 := q209.symm
      subst q209
      refine lv_pop hx hb dL_law_235 rfl ?_
      refine lv_goto (tgt := 1358) hx hb dL_law_236 (by decide) ?_
      obtain ⟨x210, ex210⟩ : ∃ y : Int32, y = x0 + 6 := ⟨_, rfl⟩
      have tx210 : x210.toInt = x0.toInt + 6 := (jadd ex210 rfl jz_6 (by omega) (by omega)).trans (by omega)
      refine lv_iinc (v := x210) (lv' := [(3, .int x210), (2, .ref (ad 55)), (1, .ref (ad 0)), (0, .ref b)]) hx hb dL_law_1358 hl (k := 0) rfl (by rw [ex210]; rfl) (by decide) rfl (fun ls hl => ?_)
      refine lv_goto (tgt := 18) hx hb dL_law_1361 (by decide) ?_
      have I211 : jI2 σ189 := jI2_fr (congrFun (f191 2 (by decide)) 0) (congrFun (f191 2 (by decide)) 1) (congrFun (f191 2 (by decide)) 2) (congrFun (f191 2 (by decide)) 3) (f191 6 (by decide)) I20
      have I212 : jI9 σ189 := jI9_fr ((congrFun (f191 9 (by decide)) 0).trans (congrFun (f18 9 (by decide)) 0)) ((f191 10 (by decide)).trans (f18 10 (by decide))) ((f191 11 (by decide)).trans (f18 11 (by decide))) hI9
      have I213 : jI12 σ189 := jI12_fr ((congrFun (f191 12 (by decide)) 0).trans (congrFun (f18 12 (by decide)) 0)) ((f191 13 (by decide)).trans (f18 13 (by decide))) hI12
      have I214 : jI16 σ189 := jI16_fr ((congrFun (f191 16 (by decide)) 0).trans (congrFun (f18 16 (by decide)) 0)) ((congrFun (f191 16 (by decide)) 1).trans (congrFun (f18 16 (by decide)) 1)) ((congrFun (f191 16 (by decide)) 2).trans (congrFun (f18 16 (by decide)) 2)) ((f191 17 (by decide)).trans (f18 17 (by decide))) hI16
      have I215 : jI18 σ189 := jI18_fr ((congrFun (f191 18 (by decide)) 0).trans (congrFun (f18 18 (by decide)) 0)) ((f191 19 (by decide)).trans (f18 19 (by decide))) hI18
      have I216 : jI22 σ189 := jI22_fr ((congrFun (f191 22 (by decide)) 0).trans (congrFun (f18 22 (by decide)) 0)) ((f191 23 (by decide)).trans (f18 23 (by decide))) hI22
      have I217 : jI31 σ189 := jI31_fr ((congrFun (f191 31 (by decide)) 8).trans (congrFun (f18 31 (by decide)) 8)) ((f191 33 (by decide)).trans (f18 33 (by decide))) ((f191 36 (by decide)).trans (f18 36 (by decide))) hI31
      have I218 : jI38 σ189 := jI38_fr ((congrFun (f191 38 (by decide)) 0).trans (congrFun (f18 38 (by decide)) 0)) ((congrFun (f191 38 (by decide)) 1).trans (congrFun (f18 38 (by decide)) 1)) ((f191 39 (by decide)).trans (f18 39 (by decide))) hI38
      have I219 : jI43 σ189 := jI43_fr ((congrFun (f191 43 (by decide)) 8).trans (congrFun (f18 43 (by decide)) 8)) hI43
      have I220 : jI47 σ189 := jI47_fr ((congrFun (f191 47 (by decide)) 0).trans (congrFun (f18 47 (by decide)) 0)) ((f191 48 (by decide)).trans (f18 48 (by decide))) ((f191 49 (by decide)).trans (f18 49 (by decide))) hI47
      have I221 : jI50 σ189 := jI50_fr ((f191 52 (by decide)).trans (f18 52 (by decide))) hI50
      have I222 : jI103 σ189 := jI103_fr ((f192 9 (by decide)).trans (congrFun (f18 55 (by decide)) 9)) hI103
      have I223 : jI104 σ189 := jI104_fr ((f192 10 (by decide)).trans (congrFun (f18 55 (by decide)) 10)) ((f192 12 (by decide)).trans (congrFun (f18 55 (by decide)) 12)) ((f192 13 (by decide)).trans (congrFun (f18 55 (by decide)) 13)) ((f191 62 (by decide)).trans (f18 62 (by decide))) ((f191 67 (by decide)).trans (f18 67 (by decide))) hI104
      have I224 : jI105 σ189 := jI105_fr ((f192 15 (by decide)).trans (congrFun (f18 55 (by decide)) 15)) ((f191 65 (by decide)).trans (f18 65 (by decide))) hI105
      have I225 : jI106 σ189 := jI106_fr ((f192 32 (by decide)).trans (congrFun (f18 55 (by decide)) 32)) ((f191 70 (by decide)).trans (f18 70 (by decide))) ((f191 71 (by decide)).trans (f18 71 (by decide))) ((f191 72 (by decide)).trans (f18 72 (by decide))) hI106
      have I226 : jI107 σ189 := jI107_fr ((f192 12 (by decide)).trans (congrFun (f18 55 (by decide)) 12)) ((f192 47 (by decide)).trans (congrFun (f18 55 (by decide)) 47)) ((f191 80 (by decide)).trans (f18 80 (by decide))) hI107
      have I227 : jI109 σ189 := jI109_fr ((f192 50 (by decide)).trans (congrFun (f18 55 (by decide)) 50)) hI109
      have I228 : jI110 σ189 := jI110_fr ((f191 86 (by decide)).trans (f18 86 (by decide))) ((f191 87 (by decide)).trans (f18 87 (by decide))) hI110
      have I229 : jI111 σ189 := jI111_fr ((f191 79 (by decide)).trans (f18 79 (by decide))) hI111
      have I230 : jI119 σ189 := jI119_fr ((f191 68 (by decide)).trans (f18 68 (by decide))) hI119
      have p231 : jKept σ189 := jKept.fr ((f191 75 (by decide)).trans (f18 75 (by decide))) ((f191 76 (by decide)).trans (f18 76 (by decide))) ((f191 77 (by decide)).trans (f18 77 (by decide))) hs_jKept
      have p232 : jBook σ189 := jBook.fr ((f192 47 (by decide)).trans (congrFun (f18 55 (by decide)) 47)) ((f192 10 (by decide)).trans (congrFun (f18 55 (by decide)) 10)) ((f191 81 (by decide)).trans (f18 81 (by decide))) hs_jBook
      have z233 : (σ189 38 0).toInt = (σ 38 0).toInt := (congrArg Int32.toInt (show σ189 38 0 = (σ 38 0) from ((congrFun (f191 38 (by decide)) 0).trans (congrFun (f18 38 (by decide)) 0))))
      have z234 : (σ189 55 32).toInt = (σ 55 32).toInt := (congrArg Int32.toInt (show σ189 55 32 = (σ 55 32) from ((f192 32 (by decide)).trans (congrFun (f18 55 (by decide)) 32))))
      exact ih x210 σ189 τ _ _ ls (by have h9 := tx210; omega) ⟨I211, I212, I213, I214, I215, I216, I217, I218, I219, I220, I221, I193, I194, I222, I223, I224, I225, I226, I227, I228, I229, I230, p231, p232, (by omega), (show jShP (σ189 51) (σ189 52) (σ189 53) (σ189 86) (σ189 87) (σ189 55 32).toInt by rw [show σ189 51 = σ 51 from ((f191 51 (by decide)).trans (f18 51 (by decide))), show σ189 52 = σ 52 from ((f191 52 (by decide)).trans (f18 52 (by decide))), show σ189 53 = σ 53 from ((f191 53 (by decide)).trans (f18 53 (by decide))), show σ189 86 = σ 86 from ((f191 86 (by decide)).trans (f18 86 (by decide))), show σ189 87 = σ 87 from ((f191 87 (by decide)).trans (f18 87 (by decide)))]; exact (hr0.up (by omega) (by omega))), (show jEl (σ189 51) (σ189 52) (τ 54) (τ 88) by rw [show σ189 51 = σ 51 from ((f191 51 (by decide)).trans (f18 51 (by decide))), show σ189 52 = σ 52 from ((f191 52 (by decide)).trans (f18 52 (by decide)))]; exact hr1)⟩ hP hS (lv_sub hl [0, 1, 2, 3] rfl)
    · obtain ⟨q243, k236, k237, k238, k239, k240, k241, k242⟩ := h198
      refine lv_pop hx hb dL_law_235 rfl ?_
      refine lv_goto (tgt := 1358) hx hb dL_law_236 (by decide) ?_
      obtain ⟨x244, ex244⟩ : ∃ y : Int32, y = x0 + 6 := ⟨_, rfl⟩
      have tx244 : x244.toInt = x0.toInt + 6 := (jadd ex244 rfl jz_6 (by omega) (by omega)).trans (by omega)
      refine lv_iinc (v := x244) (lv' := [(3, .int x244), (2, .ref (ad 55)), (1, .ref (ad 0)), (0, .ref b)]) hx hb dL_law_1358 hl (k := 0) rfl (by rw [ex244]; rfl) (by decide) rfl (fun ls hl => ?_)
      refine lv_goto (tgt := 18) hx hb dL_law_1361 (by decide) ?_
      have I245 : jI2 σ189 := jI2_fr (congrFun (f191 2 (by decide)) 0) (congrFun (f191 2 (by decide)) 1) (congrFun (f191 2 (by decide)) 2) (congrFun (f191 2 (by decide)) 3) (f191 6 (by decide)) I20
      have I246 : jI9 σ189 := jI9_fr ((congrFun (f191 9 (by decide)) 0).trans (congrFun (f18 9 (by decide)) 0)) ((f191 10 (by decide)).trans (f18 10 (by decide))) ((f191 11 (by decide)).trans (f18 11 (by decide))) hI9
      have I247 : jI12 σ189 := jI12_fr ((congrFun (f191 12 (by decide)) 0).trans (congrFun (f18 12 (by decide)) 0)) ((f191 13 (by decide)).trans (f18 13 (by decide))) hI12
      have I248 : jI16 σ189 := jI16_fr ((congrFun (f191 16 (by decide)) 0).trans (congrFun (f18 16 (by decide)) 0)) ((congrFun (f191 16 (by decide)) 1).trans (congrFun (f18 16 (by decide)) 1)) ((congrFun (f191 16 (by decide)) 2).trans (congrFun (f18 16 (by decide)) 2)) ((f191 17 (by decide)).trans (f18 17 (by decide))) hI16
      have I249 : jI18 σ189 := jI18_fr ((congrFun (f191 18 (by decide)) 0).trans (congrFun (f18 18 (by decide)) 0)) ((f191 19 (by decide)).trans (f18 19 (by decide))) hI18
      have I250 : jI22 σ189 := jI22_fr ((congrFun (f191 22 (by decide)) 0).trans (congrFun (f18 22 (by decide)) 0)) ((f191 23 (by decide)).trans (f18 23 (by decide))) hI22
      have I251 : jI31 σ189 := jI31_fr ((congrFun (f191 31 (by decide)) 8).trans (congrFun (f18 31 (by decide)) 8)) ((f191 33 (by decide)).trans (f18 33 (by decide))) ((f191 36 (by decide)).trans (f18 36 (by decide))) hI31
      have I252 : jI38 σ189 := jI38_fr ((congrFun (f191 38 (by decide)) 0).trans (congrFun (f18 38 (by decide)) 0)) ((congrFun (f191 38 (by decide)) 1).trans (congrFun (f18 38 (by decide)) 1)) ((f191 39 (by decide)).trans (f18 39 (by decide))) hI38
      have I253 : jI43 σ189 := jI43_fr ((congrFun (f191 43 (by decide)) 8).trans (congrFun (f18 43 (by decide)) 8)) hI43
      have I254 : jI47 σ189 := jI47_fr ((congrFun (f191 47 (by decide)) 0).trans (congrFun (f18 47 (by decide)) 0)) ((f191 48 (by decide)).trans (f18 48 (by decide))) ((f191 49 (by decide)).trans (f18 49 (by decide))) hI47
      have I255 : jI50 σ189 := jI50_fr ((f191 52 (by decide)).trans (f18 52 (by decide))) hI50
      have I256 : jI103 σ189 := jI103_fr ((f192 9 (by decide)).trans (congrFun (f18 55 (by decide)) 9)) hI103
      have I257 : jI104 σ189 := jI104_fr ((f192 10 (by decide)).trans (congrFun (f18 55 (by decide)) 10)) ((f192 12 (by decide)).trans (congrFun (f18 55 (by decide)) 12)) ((f192 13 (by decide)).trans (congrFun (f18 55 (by decide)) 13)) ((f191 62 (by decide)).trans (f18 62 (by decide))) ((f191 67 (by decide)).trans (f18 67 (by decide))) hI104
      have I258 : jI105 σ189 := jI105_fr ((f192 15 (by decide)).trans (congrFun (f18 55 (by decide)) 15)) ((f191 65 (by decide)).trans (f18 65 (by decide))) hI105
      have I259 : jI106 σ189 := jI106_fr ((f192 32 (by decide)).trans (congrFun (f18 55 (by decide)) 32)) ((f191 70 (by decide)).trans (f18 70 (by decide))) ((f191 71 (by decide)).trans (f18 71 (by decide))) ((f191 72 (by decide)).trans (f18 72 (by decide))) hI106
      have I260 : jI107 σ189 := jI107_fr ((f192 12 (by decide)).trans (congrFun (f18 55 (by decide)) 12)) ((f192 47 (by decide)).trans (congrFun (f18 55 (by decide)) 47)) ((f191 80 (by decide)).trans (f18 80 (by decide))) hI107
      have I261 : jI109 σ189 := jI109_fr ((f192 50 (by decide)).trans (congrFun (f18 55 (by decide)) 50)) hI109
      have I262 : jI110 σ189 := jI110_fr ((f191 86 (by decide)).trans (f18 86 (by decide))) ((f191 87 (by decide)).trans (f18 87 (by decide))) hI110
      have I263 : jI111 σ189 := jI111_fr ((f191 79 (by decide)).trans (f18 79 (by decide))) hI111
      have I264 : jI119 σ189 := jI119_fr ((f191 68 (by decide)).trans (f18 68 (by decide))) hI119
      have p265 : jKept σ189 := jKept.fr ((f191 75 (by decide)).trans (f18 75 (by decide))) ((f191 76 (by decide)).trans (f18 76 (by decide))) ((f191 77 (by decide)).trans (f18 77 (by decide))) hs_jKept
      have p266 : jBook σ189 := jBook.fr ((f192 47 (by decide)).trans (congrFun (f18 55 (by decide)) 47)) ((f192 10 (by decide)).trans (congrFun (f18 55 (by decide)) 10)) ((f191 81 (by decide)).trans (f18 81 (by decide))) hs_jBook
      have z267 : (σ189 38 0).toInt = (σ 38 0).toInt := (congrArg Int32.toInt (show σ189 38 0 = (σ 38 0) from ((congrFun (f191 38 (by decide)) 0).trans (congrFun (f18 38 (by decide)) 0))))
      have z268 : (σ189 55 32).toInt = (σ 55 32).toInt := (congrArg Int32.toInt (show σ189 55 32 = (σ 55 32) from ((f192 32 (by decide)).trans (congrFun (f18 55 (by decide)) 32))))
      exact ih x244 σ189 τ _ _ ls (by have h9 := tx244; omega) ⟨I245, I246, I247, I248, I249, I250, I251, I252, I253, I254, I255, I193, I194, I256, I257, I258, I259, I260, I261, I262, I263, I264, p265, p266, (by omega), (show jShP (σ189 51) (σ189 52) (σ189 53) (σ189 86) (σ189 87) (σ189 55 32).toInt by rw [show σ189 51 = σ 51 from ((f191 51 (by decide)).trans (f18 51 (by decide))), show σ189 52 = σ 52 from ((f191 52 (by decide)).trans (f18 52 (by decide))), show σ189 53 = σ 53 from ((f191 53 (by decide)).trans (f18 53 (by decide))), show σ189 86 = σ 86 from ((f191 86 (by decide)).trans (f18 86 (by decide))), show σ189 87 = σ 87 from ((f191 87 (by decide)).trans (f18 87 (by decide)))]; exact (hr0.up (by omega) (by omega))), (show jEl (σ189 51) (σ189 52) (τ 54) (τ 88) by rw [show σ189 51 = σ 51 from ((f191 51 (by decide)).trans (f18 51 (by decide))), show σ189 52 = σ 52 from ((f191 52 (by decide)).trans (f18 52 (by decide)))]; exact hr1)⟩ hP hS (lv_sub hl [0, 1, 2, 3] rfl)
set_option maxHeartbeats 4000000 in
set_option maxRecDepth 100000 in
theorem law_case_1 {p : Program} {e : Env} {s : State} {m : MethodId} {below : List Frame} {meth : Method} {c : Code} (l : Launch) {b L : Nat} {xs : Nat → Int32} {D : va_G} {cI cL : ClassId} {ad zz : Nat → Nat} (C0 : lw_At p s m meth c b L xs) (hJ : jD ad) (hA : ∀ q, jA ad q → s.heap.size ≤ q) (hK : jK D cI cL s) (hZ : jZ zz (fun q : Nat => s.heap.size ≤ q) s s.heap) {x0 : Int32} (hx0 : 0 ≤ x0.toInt) (hxL : x0.toInt + 6 ≤ (L : Int)) (hL : L ≤ 384) {σ : Nat → Nat → Int32} {τ : Nat → Nat → Int64} {H : Heap} {locs : List Loc} (hS : va_S (fun q : Nat => s.heap.size ≤ q) s.heap H locs) {ls : Array Slot} (hAll : jAll σ τ) (hP : jH D cI cL ad σ τ H) (hl : lv_has ls 4 [(3, .int x0), (2, .ref (ad 55)), (1, .ref (ad 0)), (0, .ref b)]) (ih : ∀ (x1 : Int32) (σ : Nat → Nat → Int32) (τ : Nat → Nat → Int64) (H : Heap) (locs : List Loc) (ls : Array Slot), x1.toInt = x0.toInt + 6 → jAll σ τ → jH D cI cL ad σ τ H → va_S (fun q : Nat => s.heap.size ≤ q) s.heap H locs → lv_has ls 4 [(3, .int x1), (2, .ref (ad 55)), (1, .ref (ad 0)), (0, .ref b)] → W p l e room_1 s m #[Value.ref b] below meth c H locs 90 348600 (lw_Z below #[Value.ref b] s) (F0 m 18 ls [])) : W p l e room_1 s m #[Value.ref b] below meth c H locs 90 348600 (lw_Z below #[Value.ref b] s) (F0 m 239 ls []) := by
  obtain ⟨hx, hb, hr, hml, hown, hts0, hX, hbl, hlocks, hgv⟩ := C0
  have hts : ∀ w ∈ wsL_law, w.before #[Value.ref b] s = true := fun w h => hts0 w (wsL_law_in w h)
  have hbA : ¬ (fun q : Nat => s.heap.size ≤ q) b := Nat.not_le.mpr hbl
  have hown : s.vm.findClass RL = some m.cls := hown
  obtain ⟨hI2, hI9, hI12, hI16, hI18, hI22, hI31, hI38, hI43, hI47, hI50, hI101, hI102, hI103, hI104, hI105, hI106, hI107, hI109, hI110, hI111, hI119, hs_jKept, hs_jBook, ht0, hr0, hr1⟩ := hAll
  have hL9 : (L : Int) ≤ 384 := by omega
  obtain ⟨i1, i2, w3⟩ : (0 ≤ (σ 38 0).toInt ∧ (σ 38 0).toInt ≤ 20) ∧ (0 ≤ (σ 38 1).toInt ∧ (σ 38 1).toInt ≤ 1000) ∧ (∀ k : Nat, k < 20 → 0 ≤ (σ 39 k).toInt ∧ (σ 39 k).toInt ≤ 6) := id hI38
  have w4 : ∀ k : Nat, k < 6 → 0 ≤ (σ 52 k).toInt ∧ (σ 52 k).toInt ≤ 60 := hI50
  obtain ⟨i5, w6, w7, w8⟩ : (0 ≤ (σ 55 32).toInt ∧ (σ 55 32).toInt ≤ 20) ∧ (∀ k : Nat, k < 20 → 0 ≤ (σ 70 k).toInt ∧ (σ 70 k).toInt ≤ 6) ∧ (∀ k : Nat, k < 20 → 0 ≤ (σ 71 k).toInt ∧ (σ 71 k).toInt ≤ 8) ∧ (∀ k : Nat, k < 160 → 0 ≤ (σ 72 k).toInt ∧ (σ 72 k).toInt ≤ 3) := id hI106
  refine lv_aload_n hx hb dL_law_239 rfl (lv_at hl 2 rfl) ?_
  refine lv_aload_n hx hb dL_law_240 rfl (lv_at hl 3 rfl) ?_
  refine lv_iload_n hx hb dL_law_241 rfl (lv_at hl 0 rfl) ?_
  refine lv_iconst (v := 1) hx hb dL_law_242 (by decide) ?_
  have g9 := jrg (rfl : x0.toInt = x0.toInt)
  refine lv_iadd hx hb dL_law_243 ?_
  refine lv_topi (fun x10 ex10 => ?_)
  have tx10 : x10.toInt = x0.toInt + 1 := (jadd ex10 rfl jz_1 (by omega) (by omega)).trans (by omega)
  refine va_sld hx hb hX hbl hbA hS (jin tx10 (by omega) (by omega)) dL_law_244 ?_
  have g11 := jrg (rfl : (xs x10.toNatClampNeg).toInt = (xs x10.toNatClampNeg).toInt)
  refine lv_aload_n hx hb dL_law_245 rfl (lv_at hl 3 rfl) ?_
  refine lv_iload_n hx hb dL_law_246 rfl (lv_at hl 0 rfl) ?_
  refine lv_iconst (v := 2) hx hb dL_law_247 (by decide) ?_
  refine lv_iadd hx hb dL_law_248 ?_
  refine lv_topi (fun x12 ex12 => ?_)
  have tx12 : x12.toInt = x0.toInt + 2 := (jadd ex12 rfl jz_2 (by omega) (by omega)).trans (by omega)
  refine va_sld hx hb hX hbl hbA hS (jin tx12 (by omega) (by omega)) dL_law_249 ?_
  have g13 := jrg (rfl : (xs x12.toNatClampNeg).toInt = (xs x12.toNatClampNeg).toInt)
  refine lv_aload_n hx hb dL_law_250 rfl (lv_at hl 3 rfl) ?_
  refine lv_iload_n hx hb dL_law_251 rfl (lv_at hl 0 rfl) ?_
  refine lv_iconst (v := 3) hx hb dL_law_252 (by decide) ?_
  refine lv_iadd hx hb dL_law_253 ?_
  refine lv_topi (fun x14 ex14 => ?_)
  have tx14 : x14.toInt = x0.toInt + 3 := (jadd ex14 rfl jz_3 (by omega) (by omega)).trans (by omega)
  refine va_sld hx hb hX hbl hbA hS (jin tx14 (by omega) (by omega)) dL_law_254 ?_
  have g15 := jrg (rfl : (xs x14.toNatClampNeg).toInt = (xs x14.toNatClampNeg).toInt)
  refine jcallV (As := [.int (xs x10.toNatClampNeg), .int (xs x12.toNatClampNeg), .int (xs x14.toNatClampNeg)]) (rest := []) ⟨hx, hb, hml, hown, hts⟩ hK hP hA hS hZ (c_X11_edge l D cI cL ad zz hJ σ τ (xs x10.toNatClampNeg) ((xs x10.toNatClampNeg).toInt) rfl (xs x12.toNatClampNeg) ((xs x12.toNatClampNeg).toInt) rfl (xs x14.toNatClampNeg) ((xs x14.toNatClampNeg).toInt) rfl hI2) cw_RL_18 (jc_0 cI cL ad σ τ) rfl ⟨Nat.le_of_ble_eq_true rfl, Nat.le_of_ble_eq_true rfl⟩ rfl rfl rfl hl.1 rfl (Nat.le_of_ble_eq_true rfl) dL_law_255 ⟨Nat.le_of_ble_eq_true rfl, Nat.le_of_ble_eq_true rfl⟩ (fun r17 σ16 τ16 H locs h16 hP hS => ?_)
  obtain ⟨rfl, f18, f19, I20, h16⟩ := h16
  rcases h16 with h22 | h23
  · obtain ⟨q28, k24, k25, k26, k27⟩ := h22
    have q28 := q28.symm
    subst q28
    refine lv_pop hx hb dL_law_258 rfl ?_
    refine lv_aload_n hx hb dL_law_259 rfl (lv_at hl 1 rfl) ?_
    refine lv_aload_n hx hb dL_law_260 rfl (lv_at hl 3 rfl) ?_
    refine lv_iload_n hx hb dL_law_261 rfl (lv_at hl 0 rfl) ?_
    refine lv_iconst (v := 1) hx hb dL_law_262 (by decide) ?_
    refine lv_iadd hx hb dL_law_263 ?_
    refine jtopr ex10.symm ?_
    refine va_sld hx hb hX hbl hbA hS (jin tx10 (by omega) (by omega)) dL_law_264 ?_
    refine lv_aload_n hx hb dL_law_265 rfl (lv_at hl 3 rfl) ?_
    refine lv_iload_n hx hb dL_law_266 rfl (lv_at hl 0 rfl) ?_
    refine lv_iconst (v := 2) hx hb dL_law_267 (by decide) ?_
    refine lv_iadd hx hb dL_law_268 ?_
    refine jtopr ex12.symm ?_
    refine va_sld hx hb hX hbl hbA hS (jin tx12 (by omega) (by omega)) dL_law_269 ?_
    refine lv_aload_n hx hb dL_law_270 rfl (lv_at hl 3 rfl) ?_
    refine lv_iload_n hx hb dL_law_271 rfl (lv_at hl 0 rfl) ?_
    refine lv_iconst (v := 3) hx hb dL_law_272 (by decide) ?_
    refine lv_iadd hx hb dL_law_273 ?_
    refine jtopr ex14.symm ?_
    refine va_sld hx hb hX hbl hbA hS (jin tx14 (by omega) (by omega)) dL_law_274 ?_
    have I29 : jI101 σ16 := jI101_fr (congrFun (f18 55 (by decide)) 4) (congrFun (f18 55 (by decide)) 5) (f18 56 (by decide)) (f18 57 (by decide)) (f18 58 (by decide)) (f18 59 (by decide)) hI101
    have I30 : jI102 σ16 := jI102_fr (congrFun (f18 55 (by decide)) 6) (f18 60 (by decide)) (f18 61 (by decide)) hI102
    have z31 : (σ16 55 5).toInt = (σ 55 5).toInt := (congrArg Int32.toInt (show σ16 55 5 = (σ 55 5) from (congrFun (f18 55 (by decide)) 5)))
    have z32 : (σ16 55 4).toInt = (σ 55 4).toInt := (congrArg Int32.toInt (show σ16 55 4 = (σ 55 4) from (congrFun (f18 55 (by decide)) 4)))
    refine jcallV (As := [.int (xs x10.toNatClampNeg), .int (xs x12.toNatClampNeg), .int (xs x14.toNatClampNeg)]) (rest := []) ⟨hx, hb, hml, hown, hts⟩ hK hP hA hS hZ (c_X12_edge l D cI cL ad zz hJ σ16 τ (xs x10.toNatClampNeg) ((xs x10.toNatClampNeg).toInt) rfl (xs x12.toNatClampNeg) ((xs x12.toNatClampNeg).toInt) rfl (xs x14.toNatClampNeg) ((xs x14.toNatClampNeg).toInt) rfl I29 I30) cw_RL_21 (jc_55 cI cL ad σ16 τ) rfl ⟨Nat.le_of_ble_eq_true rfl, Nat.le_of_ble_eq_true rfl⟩ rfl rfl rfl hl.1 rfl (Nat.le_of_ble_eq_true rfl) dL_law_275 ⟨Nat.le_of_ble_eq_true rfl, Nat.le_of_ble_eq_true rfl⟩ (fun r34 σ33 τ33 H locs h33 hP hS => ?_)
    obtain ⟨rfl, f35, f36, I37, h33⟩ := h33
    rcases h33 with h39 | h40
    · obtain ⟨q45, k41, k42, k43, k44⟩ := h39
      have q45 := q45.symm
      subst q45
      refine lv_pop hx hb dL_law_278 rfl ?_
      refine lv_goto (tgt := 1358) hx hb dL_law_279 (by decide) ?_
      obtain ⟨x46, ex46⟩ : ∃ y : Int32, y = x0 + 6 := ⟨_, rfl⟩
      have tx46 : x46.toInt = x0.toInt + 6 := (jadd ex46 rfl jz_6 (by omega) (by omega)).trans (by omega)
      refine lv_iinc (v := x46) (lv' := [(3, .int x46), (2, .ref (ad 55)), (1, .ref (ad 0)), (0, .ref b)]) hx hb dL_law_1358 hl (k := 0) rfl (by rw [ex46]; rfl) (by decide) rfl (fun ls hl => ?_)
      refine lv_goto (tgt := 18) hx hb dL_law_1361 (by decide) ?_
      have I47 : jI2 σ33 := jI2_fr (congrFun (f35 2 (by decide)) 0) (congrFun (f35 2 (by decide)) 1) (congrFun (f35 2 (by decide)) 2) (congrFun (f35 2 (by decide)) 3) (f35 6 (by decide)) I20
      have I48 : jI9 σ33 := jI9_fr ((congrFun (f35 9 (by decide)) 0).trans (congrFun (f18 9 (by decide)) 0)) ((f35 10 (by decide)).trans (f18 10 (by decide))) ((f35 11 (by decide)).trans (f18 11 (by decide))) hI9
      have I49 : jI12 σ33 := jI12_fr ((congrFun (f35 12 (by decide)) 0).trans (congrFun (f18 12 (by decide)) 0)) ((f35 13 (by decide)).trans (f18 13 (by decide))) hI12
      have I50 : jI16 σ33 := jI16_fr ((congrFun (f35 16 (by decide)) 0).trans (congrFun (f18 16 (by decide)) 0)) ((congrFun (f35 16 (by decide)) 1).trans (congrFun (f18 16 (by decide)) 1)) ((congrFun (f35 16 (by decide)) 2).trans (congrFun (f18 16 (by decide)) 2)) ((f35 17 (by decide)).trans (f18 17 (by decide))) hI16
      have I51 : jI18 σ33 := jI18_fr ((congrFun (f35 18 (by decide)) 0).trans (congrFun (f18 18 (by decide)) 0)) ((f35 19 (by decide)).trans (f18 19 (by decide))) hI18
      have I52 : jI22 σ33 := jI22_fr ((congrFun (f35 22 (by decide)) 0).trans (congrFun (f18 22 (by decide)) 0)) ((f35 23 (by decide)).trans (f18 23 (by decide))) hI22
      have I53 : jI31 σ33 := jI31_fr ((congrFun (f35 31 (by decide)) 8).trans (congrFun (f18 31 (by decide)) 8)) ((f35 33 (by decide)).trans (f18 33 (by decide))) ((f35 36 (by decide)).trans (f18 36 (by decide))) hI31
      have I54 : jI38 σ33 := jI38_fr ((congrFun (f35 38 (by decide)) 0).trans (congrFun (f18 38 (by decide)) 0)) ((congrFun (f35 38 (by decide)) 1).trans (congrFun (f18 38 (by decide)) 1)) ((f35 39 (by decide)).trans (f18 39 (by decide))) hI38
      have I55 : jI43 σ33 := jI43_fr ((congrFun (f35 43 (by decide)) 8).trans (congrFun (f18 43 (by decide)) 8)) hI43
      have I56 : jI47 σ33 := jI47_fr ((congrFun (f35 47 (by decide)) 0).trans (congrFun (f18 47 (by decide)) 0)) ((f35 48 (by decide)).trans (f18 48 (by decide))) ((f35 49 (by decide)).trans (f18 49 (by decide))) hI47
      have I57 : jI50 σ33 := jI50_fr ((f35 52 (by decide)).trans (f18 52 (by decide))) hI50
      have I58 : jI102 σ33 := jI102_fr (f36 6 (by decide)) (f35 60 (by decide)) (f35 61 (by decide)) I30
      have I59 : jI103 σ33 := jI103_fr ((f36 9 (by decide)).trans (congrFun (f18 55 (by decide)) 9)) hI103
      have I60 : jI104 σ33 := jI104_fr ((f36 10 (by decide)).trans (congrFun (f18 55 (by decide)) 10)) ((f36 12 (by decide)).trans (congrFun (f18 55 (by decide)) 12)) ((f36 13 (by decide)).trans (congrFun (f18 55 (by decide)) 13)) ((f35 62 (by decide)).trans (f18 62 (by decide))) ((f35 67 (by decide)).trans (f18 67 (by decide))) hI104
      have I61 : jI105 σ33 := jI105_fr ((f36 15 (by decide)).trans (congrFun (f18 55 (by decide)) 15)) ((f35 65 (by decide)).trans (f18 65 (by decide))) hI105
      have I62 : jI106 σ33 := jI106_fr ((f36 32 (by decide)).trans (congrFun (f18 55 (by decide)) 32)) ((f35 70 (by decide)).trans (f18 70 (by decide))) ((f35 71 (by decide)).trans (f18 71 (by decide))) ((f35 72 (by decide)).trans (f18 72 (by decide))) hI106
      have I63 : jI107 σ33 := jI107_fr ((f36 12 (by decide)).trans (congrFun (f18 55 (by decide)) 12)) ((f36 47 (by decide)).trans (congrFun (f18 55 (by decide)) 47)) ((f35 80 (by decide)).trans (f18 80 (by decide))) hI107
      have I64 : jI109 σ33 := jI109_fr ((f36 50 (by decide)).trans (congrFun (f18 55 (by decide)) 50)) hI109
      have I65 : jI110 σ33 := jI110_fr ((f35 86 (by decide)).trans (f18 86 (by decide))) ((f35 87 (by decide)).trans (f18 87 (by decide))) hI110
      have I66 : jI111 σ33 := jI111_fr ((f35 79 (by decide)).trans (f18 79 (by decide))) hI111
      have I67 : jI119 σ33 := jI119_fr ((f35 68 (by decide)).trans (f18 68 (by decide))) hI119
      have p68 : jKept σ33 := jKept.fr ((f35 75 (by decide)).trans (f18 75 (by decide))) ((f35 76 (by decide)).trans (f18 76 (by decide))) ((f35 77 (by decide)).trans (f18 77 (by decide))) hs_jKept
      have p69 : jBook σ33 := jBook.fr ((f36 47 (by decide)).trans (congrFun (f18 55 (by decide)) 47)) ((f36 10 (by decide)).trans (congrFun (f18 55 (by decide)) 10)) ((f35 81 (by decide)).trans (f18 81 (by decide))) hs_jBook
      have z70 : (σ33 38 0).toInt = (σ 38 0).toInt := (congrArg Int32.toInt (show σ33 38 0 = (σ 38 0) from ((congrFun (f35 38 (by decide)) 0).trans (congrFun (f18 38 (by decide)) 0))))
      have z71 : (σ33 55 32).toInt = (σ 55 32).toInt := (congrArg Int32.toInt (show σ33 55 32 = (σ 55 32) from ((f36 32 (by decide)).trans (congrFun (f18 55 (by decide)) 32))))
      exact ih x46 σ33 τ _ _ ls (by have h9 := tx46; omega) ⟨I47, I48, I49, I50, I51, I52, I53, I54, I55, I56, I57, I37, I58, I59, I60, I61, I62, I63, I64, I65, I66, I67, p68, p69, (by omega), (show jShP (σ33 51) (σ33 52) (σ33 53) (σ33 86) (σ33 87) (σ33 55 32).toInt by rw [show σ33 51 = σ 51 from ((f35 51 (by decide)).trans (f18 51 (by decide))), show σ33 52 = σ 52 from ((f35 52 (by decide)).trans (f18 52 (by decide))), show σ33 53 = σ 53 from ((f35 53 (by decide)).trans (f18 53 (by decide))), show σ33 86 = σ 86 from ((f35 86 (by decide)).trans (f18 86 (by decide))), show σ33 87 = σ 87 from ((f35 87 (by decide)).trans (f18 87 (by decide)))]; exact (hr0.up (by omega) (by omega))), (show jEl (σ33 51) (σ33 52) (τ 54) (τ 88) by rw [show σ33 51 = σ 51 from ((f35 51 (by decide)).trans (f18 51 (by decide))), show σ33 52 = σ 52 from ((f35 52 (by decide)).trans (f18 52 (by decide)))]; exact hr1)⟩ hP hS (lv_sub hl [0, 1, 2, 3] rfl)
    · obtain ⟨q74, k73⟩ := h40
      refine lv_pop hx hb dL_law_278 rfl ?_
      refine lv_goto (tgt := 1358) hx hb dL_law_279 (by decide) ?_
      obtain ⟨x75, ex75⟩ : ∃ y : Int32, y = x0 + 6 := ⟨_, rfl⟩
      have tx75 : x75.toInt = x0.toInt + 6 := (jadd ex75 rfl jz_6 (by omega) (by omega)).trans (by omega)
      refine lv_iinc (v := x75) (lv' := [(3, .int x75), (2, .ref (ad 55)), (1, .ref (ad 0)), (0, .ref b)]) hx hb dL_law_1358 hl (k := 0) rfl (by rw [ex75]; rfl) (by decide) rfl (fun ls hl => ?_)
      refine lv_goto (tgt := 18) hx hb dL_law_1361 (by decide) ?_
      have I76 : jI2 σ33 := jI2_fr (congrFun (f35 2 (by decide)) 0) (congrFun (f35 2 (by decide)) 1) (congrFun (f35 2 (by decide)) 2) (congrFun (f35 2 (by decide)) 3) (f35 6 (by decide)) I20
      have I77 : jI9 σ33 := jI9_fr ((congrFun (f35 9 (by decide)) 0).trans (congrFun (f18 9 (by decide)) 0)) ((f35 10 (by decide)).trans (f18 10 (by decide))) ((f35 11 (by decide)).trans (f18 11 (by decide))) hI9
      have I78 : jI12 σ33 := jI12_fr ((congrFun (f35 12 (by decide)) 0).trans (congrFun (f18 12 (by decide)) 0)) ((f35 13 (by decide)).trans (f18 13 (by decide))) hI12
      have I79 : jI16 σ33 := jI16_fr ((congrFun (f35 16 (by decide)) 0).trans (congrFun (f18 16 (by decide)) 0)) ((congrFun (f35 16 (by decide)) 1).trans (congrFun (f18 16 (by decide)) 1)) ((congrFun (f35 16 (by decide)) 2).trans (congrFun (f18 16 (by decide)) 2)) ((f35 17 (by decide)).trans (f18 17 (by decide))) hI16
      have I80 : jI18 σ33 := jI18_fr ((congrFun (f35 18 (by decide)) 0).trans (congrFun (f18 18 (by decide)) 0)) ((f35 19 (by decide)).trans (f18 19 (by decide))) hI18
      have I81 : jI22 σ33 := jI22_fr ((congrFun (f35 22 (by decide)) 0).trans (congrFun (f18 22 (by decide)) 0)) ((f35 23 (by decide)).trans (f18 23 (by decide))) hI22
      have I82 : jI31 σ33 := jI31_fr ((congrFun (f35 31 (by decide)) 8).trans (congrFun (f18 31 (by decide)) 8)) ((f35 33 (by decide)).trans (f18 33 (by decide))) ((f35 36 (by decide)).trans (f18 36 (by decide))) hI31
      have I83 : jI38 σ33 := jI38_fr ((congrFun (f35 38 (by decide)) 0).trans (congrFun (f18 38 (by decide)) 0)) ((congrFun (f35 38 (by decide)) 1).trans (congrFun (f18 38 (by decide)) 1)) ((f35 39 (by decide)).trans (f18 39 (by decide))) hI38
      have I84 : jI43 σ33 := jI43_fr ((congrFun (f35 43 (by decide)) 8).trans (congrFun (f18 43 (by decide)) 8)) hI43
      have I85 : jI47 σ33 := jI47_fr ((congrFun (f35 47 (by decide)) 0).trans (congrFun (f18 47 (by decide)) 0)) ((f35 48 (by decide)).trans (f18 48 (by decide))) ((f35 49 (by decide)).trans (f18 49 (by decide))) hI47
      have I86 : jI50 σ33 := jI50_fr ((f35 52 (by decide)).trans (f18 52 (by decide))) hI50
      have I87 : jI102 σ33 := jI102_fr (f36 6 (by decide)) (f35 60 (by decide)) (f35 61 (by decide)) I30
      have I88 : jI103 σ33 := jI103_fr ((f36 9 (by decide)).trans (congrFun (f18 55 (by decide)) 9)) hI103
      have I89 : jI104 σ33 := jI104_fr ((f36 10 (by decide)).trans (congrFun (f18 55 (by decide)) 10)) ((f36 12 (by decide)).trans (congrFun (f18 55 (by decide)) 12)) ((f36 13 (by decide)).trans (congrFun (f18 55 (by decide)) 13)) ((f35 62 (by decide)).trans (f18 62 (by decide))) ((f35 67 (by decide)).trans (f18 67 (by decide))) hI104
      have I90 : jI105 σ33 := jI105_fr ((f36 15 (by decide)).trans (congrFun (f18 55 (by decide)) 15)) ((f35 65 (by decide)).trans (f18 65 (by decide))) hI105
      have I91 : jI106 σ33 := jI106_fr ((f36 32 (by decide)).trans (congrFun (f18 55 (by decide)) 32)) ((f35 70 (by decide)).trans (f18 70 (by decide))) ((f35 71 (by decide)).trans (f18 71 (by decide))) ((f35 72 (by decide)).trans (f18 72 (by decide))) hI106
      have I92 : jI107 σ33 := jI107_fr ((f36 12 (by decide)).trans (congrFun (f18 55 (by decide)) 12)) ((f36 47 (by decide)).trans (congrFun (f18 55 (by decide)) 47)) ((f35 80 (by decide)).trans (f18 80 (by decide))) hI107
      have I93 : jI109 σ33 := jI109_fr ((f36 50 (by decide)).trans (congrFun (f18 55 (by decide)) 50)) hI109
      have I94 : jI110 σ33 := jI110_fr ((f35 86 (by decide)).trans (f18 86 (by decide))) ((f35 87 (by decide)).trans (f18 87 (by decide))) hI110
      have I95 : jI111 σ33 := jI111_fr ((f35 79 (by decide)).trans (f18 79 (by decide))) hI111
      have I96 : jI119 σ33 := jI119_fr ((f35 68 (by decide)).trans (f18 68 (by decide))) hI119
      have p97 : jKept σ33 := jKept.fr ((f35 75 (by decide)).trans (f18 75 (by decide))) ((f35 76 (by decide)).trans (f18 76 (by decide))) ((f35 77 (by decide)).trans (f18 77 (by decide))) hs_jKept
      have p98 : jBook σ33 := jBook.fr ((f36 47 (by decide)).trans (congrFun (f18 55 (by decide)) 47)) ((f36 10 (by decide)).trans (congrFun (f18 55 (by decide)) 10)) ((f35 81 (by decide)).trans (f18 81 (by decide))) hs_jBook
      have z99 : (σ33 38 0).toInt = (σ 38 0).toInt := (congrArg Int32.toInt (show σ33 38 0 = (σ 38 0) from ((congrFun (f35 38 (by decide)) 0).trans (congrFun (f18 38 (by decide)) 0))))
      have z100 : (σ33 55 32).toInt = (σ 55 32).toInt := (congrArg Int32.toInt (show σ33 55 32 = (σ 55 32) from ((f36 32 (by decide)).trans (congrFun (f18 55 (by decide)) 32))))
      exact ih x75 σ33 τ _ _ ls (by have h9 := tx75; omega) ⟨I76, I77, I78, I79, I80, I81, I82, I83, I84, I85, I86, I37, I87, I88, I89, I90, I91, I92, I93, I94, I95, I96, p97, p98, (by omega), (show jShP (σ33 51) (σ33 52) (σ33 53) (σ33 86) (σ33 87) (σ33 55 32).toInt by rw [show σ33 51 = σ 51 from ((f35 51 (by decide)).trans (f18 51 (by decide))), show σ33 52 = σ 52 from ((f35 52 (by decide)).trans (f18 52 (by decide))), show σ33 53 = σ 53 from ((f35 53 (by decide)).trans (f18 53 (by decide))), show σ33 86 = σ 86 from ((f35 86 (by decide)).trans (f18 86 (by decide))), show σ33 87 = σ 87 from ((f35 87 (by decide)).trans (f18 87 (by decide)))]; exact (hr0.up (by omega) (by omega))), (show jEl (σ33 51) (σ33 52) (τ 54) (τ 88) by rw [show σ33 51 = σ 51 from ((f35 51 (by decide)).trans (f18 51 (by decide))), show σ33 52 = σ 52 from ((f35 52 (by decide)).trans (f18 52 (by decide)))]; exact hr1)⟩ hP hS (lv_sub hl [0, 1, 2, 3] rfl)
  · obtain ⟨q103, k102⟩ := h23
    refine lv_pop hx hb dL_law_258 rfl ?_
    refine lv_aload_n hx hb dL_law_259 rfl (lv_at hl 1 rfl) ?_
    refine lv_aload_n hx hb dL_law_260 rfl (lv_at hl 3 rfl) ?_
    refine lv_iload_n hx hb dL_law_261 rfl (lv_at hl 0 rfl) ?_
    refine lv_iconst (v := 1) hx hb dL_law_262 (by decide) ?_
    refine lv_iadd hx hb dL_law_263 ?_
    refine jtopr ex10.symm ?_
    refine va_sld hx hb hX hbl hbA hS (jin tx10 (by omega) (by omega)) dL_law_264 ?_
    refine lv_aload_n hx hb dL_law_265 rfl (lv_at hl 3 rfl) ?_
    refine lv_iload_n hx hb dL_law_266 rfl (lv_at hl 0 rfl) ?_
    refine lv_iconst (v := 2) hx hb dL_law_267 (by decide) ?_
    refine lv_iadd hx hb dL_law_268 ?_
    refine jtopr ex12.symm ?_
    refine va_sld hx hb hX hbl hbA hS (jin tx12 (by omega) (by omega)) dL_law_269 ?_
    refine lv_aload_n hx hb dL_law_270 rfl (lv_at hl 3 rfl) ?_
    refine lv_iload_n hx hb dL_law_271 rfl (lv_at hl 0 rfl) ?_
    refine lv_iconst (v := 3) hx hb dL_law_272 (by decide) ?_
    refine lv_iadd hx hb dL_law_273 ?_
    refine jtopr ex14.symm ?_
    refine va_sld hx hb hX hbl hbA hS (jin tx14 (by omega) (by omega)) dL_law_274 ?_
    have I104 : jI101 σ16 := jI101_fr (congrFun (f18 55 (by decide)) 4) (congrFun (f18 55 (by decide)) 5) (f18 56 (by decide)) (f18 57 (by decide)) (f18 58 (by decide)) (f18 59 (by decide)) hI101
    have I105 : jI102 σ16 := jI102_fr (congrFun (f18 55 (by decide)) 6) (f18 60 (by decide)) (f18 61 (by decide)) hI102
    have z106 : (σ16 55 5).toInt = (σ 55 5).toInt := (congrArg Int32.toInt (show σ16 55 5 = (σ 55 5) from (congrFun (f18 55 (by decide)) 5)))
    have z107 : (σ16 55 4).toInt = (σ 55 4).toInt := (congrArg Int32.toInt (show σ16 55 4 = (σ 55 4) from (congrFun (f18 55 (by decide)) 4)))
    refine jcallV (As := [.int (xs x10.toNatClampNeg), .int (xs x12.toNatClampNeg), .int (xs x14.toNatClampNeg)]) (rest := []) ⟨hx, hb, hml, hown, hts⟩ hK hP hA hS hZ (c_X12_edge l D cI cL ad zz hJ σ16 τ (xs x10.toNatClampNeg) ((xs x10.toNatClampNeg).toInt) rfl (xs x12.toNatClampNeg) ((xs x12.toNatClampNeg).toInt) rfl (xs x14.toNatClampNeg) ((xs x14.toNatClampNeg).toInt) rfl I104 I105) cw_RL_21 (jc_55 cI cL ad σ16 τ) rfl ⟨Nat.le_of_ble_eq_true rfl, Nat.le_of_ble_eq_true rfl⟩ rfl rfl rfl hl.1 rfl (Nat.le_of_ble_eq_true rfl) dL_law_275 ⟨Nat.le_of_ble_eq_true rfl, Nat.le_of_ble_eq_true rfl⟩ (fun r109 σ108 τ108 H locs h108 hP hS => ?_)
    obtain ⟨rfl, f110, f111, I112, h108⟩ := h108
    rcases h108 with h114 | h115
    · obtain ⟨q120, k116, k117, k118, k119⟩ := h114
      have q120 := q120.symm
      subst q120
      refine lv_pop hx hb dL_law_278 rfl ?_
      refine lv_goto (tgt := 1358) hx hb dL_law_279 (by decide) ?_
      obtain ⟨x121, ex121⟩ : ∃ y : Int32, y = x0 + 6 := ⟨_, rfl⟩
      have tx121 : x121.toInt = x0.toInt + 6 := (jadd ex121 rfl jz_6 (by omega) (by omega)).trans (by omega)
      refine lv_iinc (v := x121) (lv' := [(3, .int x121), (2, .ref (ad 55)), (1, .ref (ad 0)), (0, .ref b)]) hx hb dL_law_1358 hl (k := 0) rfl (by rw [ex121]; rfl) (by decide) rfl (fun ls hl => ?_)
      refine lv_goto (tgt := 18) hx hb dL_law_1361 (by decide) ?_
      have I122 : jI2 σ108 := jI2_fr (congrFun (f110 2 (by decide)) 0) (congrFun (f110 2 (by decide)) 1) (congrFun (f110 2 (by decide)) 2) (congrFun (f110 2 (by decide)) 3) (f110 6 (by decide)) I20
      have I123 : jI9 σ108 := jI9_fr ((congrFun (f110 9 (by decide)) 0).trans (congrFun (f18 9 (by decide)) 0)) ((f110 10 (by decide)).trans (f18 10 (by decide))) ((f110 11 (by decide)).trans (f18 11 (by decide))) hI9
      have I124 : jI12 σ108 := jI12_fr ((congrFun (f110 12 (by decide)) 0).trans (congrFun (f18 12 (by decide)) 0)) ((f110 13 (by decide)).trans (f18 13 (by decide))) hI12
      have I125 : jI16 σ108 := jI16_fr ((congrFun (f110 16 (by decide)) 0).trans (congrFun (f18 16 (by decide)) 0)) ((congrFun (f110 16 (by decide)) 1).trans (congrFun (f18 16 (by decide)) 1)) ((congrFun (f110 16 (by decide)) 2).trans (congrFun (f18 16 (by decide)) 2)) ((f110 17 (by decide)).trans (f18 17 (by decide))) hI16
      have I126 : jI18 σ108 := jI18_fr ((congrFun (f110 18 (by decide)) 0).trans (congrFun (f18 18 (by decide)) 0)) ((f110 19 (by decide)).trans (f18 19 (by decide))) hI18
      have I127 : jI22 σ108 := jI22_fr ((congrFun (f110 22 (by decide)) 0).trans (congrFun (f18 22 (by decide)) 0)) ((f110 23 (by decide)).trans (f18 23 (by decide))) hI22
      have I128 : jI31 σ108 := jI31_fr ((congrFun (f110 31 (by decide)) 8).trans (congrFun (f18 31 (by decide)) 8)) ((f110 33 (by decide)).trans (f18 33 (by decide))) ((f110 36 (by decide)).trans (f18 36 (by decide))) hI31
      have I129 : jI38 σ108 := jI38_fr ((congrFun (f110 38 (by decide)) 0).trans (congrFun (f18 38 (by decide)) 0)) ((congrFun (f110 38 (by decide)) 1).trans (congrFun (f18 38 (by decide)) 1)) ((f110 39 (by decide)).trans (f18 39 (by decide))) hI38
      have I130 : jI43 σ108 := jI43_fr ((congrFun (f110 43 (by decide)) 8).trans (congrFun (f18 43 (by decide)) 8)) hI43
      have I131 : jI47 σ108 := jI47_fr ((congrFun (f110 47 (by decide)) 0).trans (congrFun (f18 47 (by decide)) 0)) ((f110 48 (by decide)).trans (f18 48 (by decide))) ((f110 49 (by decide)).trans (f18 49 (by decide))) hI47
      have I132 : jI50 σ108 := jI50_fr ((f110 52 (by decide)).trans (f18 52 (by decide))) hI50
      have I133 : jI102 σ108 := jI102_fr (f111 6 (by decide)) (f110 60 (by decide)) (f110 61 (by decide)) I105
      have I134 : jI103 σ108 := jI103_fr ((f111 9 (by decide)).trans (congrFun (f18 55 (by decide)) 9)) hI103
      have I135 : jI104 σ108 := jI104_fr ((f111 10 (by decide)).trans (congrFun (f18 55 (by decide)) 10)) ((f111 12 (by decide)).trans (congrFun (f18 55 (by decide)) 12)) ((f111 13 (by decide)).trans (congrFun (f18 55 (by decide)) 13)) ((f110 62 (by decide)).trans (f18 62 (by decide))) ((f110 67 (by decide)).trans (f18 67 (by decide))) hI104
      have I136 : jI105 σ108 := jI105_fr ((f111 15 (by decide)).trans (congrFun (f18 55 (by decide)) 15)) ((f110 65 (by decide)).trans (f18 65 (by decide))) hI105
      have I137 : jI106 σ108 := jI106_fr ((f111 32 (by decide)).trans (congrFun (f18 55 (by decide)) 32)) ((f110 70 (by decide)).trans (f18 70 (by decide))) ((f110 71 (by decide)).trans (f18 71 (by decide))) ((f110 72 (by decide)).trans (f18 72 (by decide))) hI106
      have I138 : jI107 σ108 := jI107_fr ((f111 12 (by decide)).trans (congrFun (f18 55 (by decide)) 12)) ((f111 47 (by decide)).trans (congrFun (f18 55 (by decide)) 47)) ((f110 80 (by decide)).trans (f18 80 (by decide))) hI107
      have I139 : jI109 σ108 := jI109_fr ((f111 50 (by decide)).trans (congrFun (f18 55 (by decide)) 50)) hI109
      have I140 : jI110 σ108 := jI110_fr ((f110 86 (by decide)).trans (f18 86 (by decide))) ((f110 87 (by decide)).trans (f18 87 (by decide))) hI110
      have I141 : jI111 σ108 := jI111_fr ((f110 79 (by decide)).trans (f18 79 (by decide))) hI111
      have I142 : jI119 σ108 := jI119_fr ((f110 68 (by decide)).trans (f18 68 (by decide))) hI119
      have p143 : jKept σ108 := jKept.fr ((f110 75 (by decide)).trans (f18 75 (by decide))) ((f110 76 (by decide)).trans (f18 76 (by decide))) ((f110 77 (by decide)).trans (f18 77 (by decide))) hs_jKept
      have p144 : jBook σ108 := jBook.fr ((f111 47 (by decide)).trans (congrFun (f18 55 (by decide)) 47)) ((f111 10 (by decide)).trans (congrFun (f18 55 (by decide)) 10)) ((f110 81 (by decide)).trans (f18 81 (by decide))) hs_jBook
      have z145 : (σ108 38 0).toInt = (σ 38 0).toInt := (congrArg Int32.toInt (show σ108 38 0 = (σ 38 0) from ((congrFun (f110 38 (by decide)) 0).trans (congrFun (f18 38 (by decide)) 0))))
      have z146 : (σ108 55 32).toInt = (σ 55 32).toInt := (congrArg Int32.toInt (show σ108 55 32 = (σ 55 32) from ((f111 32 (by decide)).trans (congrFun (f18 55 (by decide)) 32))))
      exact ih x121 σ108 τ _ _ ls (by have h9 := tx121; omega) ⟨I122, I123, I124, I125, I126, I127, I128, I129, I130, I131, I132, I112, I133, I134, I135, I136, I137, I138, I139, I140, I141, I142, p143, p144, (by omega), (show jShP (σ108 51) (σ108 52) (σ108 53) (σ108 86) (σ108 87) (σ108 55 32).toInt by rw [show σ108 51 = σ 51 from ((f110 51 (by decide)).trans (f18 51 (by decide))), show σ108 52 = σ 52 from ((f110 52 (by decide)).trans (f18 52 (by decide))), show σ108 53 = σ 53 from ((f110 53 (by decide)).trans (f18 53 (by decide))), show σ108 86 = σ 86 from ((f110 86 (by decide)).trans (f18 86 (by decide))), show σ108 87 = σ 87 from ((f110 87 (by decide)).trans (f18 87 (by decide)))]; exact (hr0.up (by omega) (by omega))), (show jEl (σ108 51) (σ108 52) (τ 54) (τ 88) by rw [show σ108 51 = σ 51 from ((f110 51 (by decide)).trans (f18 51 (by decide))), show σ108 52 = σ 52 from ((f110 52 (by decide)).trans (f18 52 (by decide)))]; exact hr1)⟩ hP hS (lv_sub hl [0, 1, 2, 3] rfl)
    · obtain ⟨q149, k148⟩ := h115
      refine lv_pop hx hb dL_law_278 rfl ?_
      refine lv_goto (tgt := 1358) hx hb dL_law_279 (by decide) ?_
      obtain ⟨x150, ex150⟩ : ∃ y : Int32, y = x0 + 6 := ⟨_, rfl⟩
      have tx150 : x150.toInt = x0.toInt + 6 := (jadd ex150 rfl jz_6 (by omega) (by omega)).trans (by omega)
      refine lv_iinc (v := x150) (lv' := [(3, .int x150), (2, .ref (ad 55)), (1, .ref (ad 0)), (0, .ref b)]) hx hb dL_law_1358 hl (k := 0) rfl (by rw [ex150]; rfl) (by decide) rfl (fun ls hl => ?_)
      refine lv_goto (tgt := 18) hx hb dL_law_1361 (by decide) ?_
      have I151 : jI2 σ108 := jI2_fr (congrFun (f110 2 (by decide)) 0) (congrFun (f110 2 (by decide)) 1) (congrFun (f110 2 (by decide)) 2) (congrFun (f110 2 (by decide)) 3) (f110 6 (by decide)) I20
      have I152 : jI9 σ108 := jI9_fr ((congrFun (f110 9 (by decide)) 0).trans (congrFun (f18 9 (by decide)) 0)) ((f110 10 (by decide)).trans (f18 10 (by decide))) ((f110 11 (by decide)).trans (f18 11 (by decide))) hI9
      have I153 : jI12 σ108 := jI12_fr ((congrFun (f110 12 (by decide)) 0).trans (congrFun (f18 12 (by decide)) 0)) ((f110 13 (by decide)).trans (f18 13 (by decide))) hI12
      have I154 : jI16 σ108 := jI16_fr ((congrFun (f110 16 (by decide)) 0).trans (congrFun (f18 16 (by decide)) 0)) ((congrFun (f110 16 (by decide)) 1).trans (congrFun (f18 16 (by decide)) 1)) ((congrFun (f110 16 (by decide)) 2).trans (congrFun (f18 16 (by decide)) 2)) ((f110 17 (by decide)).trans (f18 17 (by decide))) hI16
      have I155 : jI18 σ108 := jI18_fr ((congrFun (f110 18 (by decide)) 0).trans (congrFun (f18 18 (by decide)) 0)) ((f110 19 (by decide)).trans (f18 19 (by decide))) hI18
      have I156 : jI22 σ108 := jI22_fr ((congrFun (f110 22 (by decide)) 0).trans (congrFun (f18 22 (by decide)) 0)) ((f110 23 (by decide)).trans (f18 23 (by decide))) hI22
      have I157 : jI31 σ108 := jI31_fr ((congrFun (f110 31 (by decide)) 8).trans (congrFun (f18 31 (by decide)) 8)) ((f110 33 (by decide)).trans (f18 33 (by decide))) ((f110 36 (by decide)).trans (f18 36 (by decide))) hI31
      have I158 : jI38 σ108 := jI38_fr ((congrFun (f110 38 (by decide)) 0).trans (congrFun (f18 38 (by decide)) 0)) ((congrFun (f110 38 (by decide)) 1).trans (congrFun (f18 38 (by decide)) 1)) ((f110 39 (by decide)).trans (f18 39 (by decide))) hI38
      have I159 : jI43 σ108 := jI43_fr ((congrFun (f110 43 (by decide)) 8).trans (congrFun (f18 43 (by decide)) 8)) hI43
      have I160 : jI47 σ108 := jI47_fr ((congrFun (f110 47 (by decide)) 0).trans (congrFun (f18 47 (by decide)) 0)) ((f110 48 (by decide)).trans (f18 48 (by decide))) ((f110 49 (by decide)).trans (f18 49 (by decide))) hI47
      have I161 : jI50 σ108 := jI50_fr ((f110 52 (by decide)).trans (f18 52 (by decide))) hI50
      have I162 : jI102 σ108 := jI102_fr (f111 6 (by decide)) (f110 60 (by decide)) (f110 61 (by decide)) I105
      have I163 : jI103 σ108 := jI103_fr ((f111 9 (by decide)).trans (congrFun (f18 55 (by decide)) 9)) hI103
      have I164 : jI104 σ108 := jI104_fr ((f111 10 (by decide)).trans (congrFun (f18 55 (by decide)) 10)) ((f111 12 (by decide)).trans (congrFun (f18 55 (by decide)) 12)) ((f111 13 (by decide)).trans (congrFun (f18 55 (by decide)) 13)) ((f110 62 (by decide)).trans (f18 62 (by decide))) ((f110 67 (by decide)).trans (f18 67 (by decide))) hI104
      have I165 : jI105 σ108 := jI105_fr ((f111 15 (by decide)).trans (congrFun (f18 55 (by decide)) 15)) ((f110 65 (by decide)).trans (f18 65 (by decide))) hI105
      have I166 : jI106 σ108 := jI106_fr ((f111 32 (by decide)).trans (congrFun (f18 55 (by decide)) 32)) ((f110 70 (by decide)).trans (f18 70 (by decide))) ((f110 71 (by decide)).trans (f18 71 (by decide))) ((f110 72 (by decide)).trans (f18 72 (by decide))) hI106
      have I167 : jI107 σ108 := jI107_fr ((f111 12 (by decide)).trans (congrFun (f18 55 (by decide)) 12)) ((f111 47 (by decide)).trans (congrFun (f18 55 (by decide)) 47)) ((f110 80 (by decide)).trans (f18 80 (by decide))) hI107
      have I168 : jI109 σ108 := jI109_fr ((f111 50 (by decide)).trans (congrFun (f18 55 (by decide)) 50)) hI109
      have I169 : jI110 σ108 := jI110_fr ((f110 86 (by decide)).trans (f18 86 (by decide))) ((f110 87 (by decide)).trans (f18 87 (by decide))) hI110
      have I170 : jI111 σ108 := jI111_fr ((f110 79 (by decide)).trans (f18 79 (by decide))) hI111
      have I171 : jI119 σ108 := jI119_fr ((f110 68 (by decide)).trans (f18 68 (by decide))) hI119
      have p172 : jKept σ108 := jKept.fr ((f110 75 (by decide)).trans (f18 75 (by decide))) ((f110 76 (by decide)).trans (f18 76 (by decide))) ((f110 77 (by decide)).trans (f18 77 (by decide))) hs_jKept
      have p173 : jBook σ108 := jBook.fr ((f111 47 (by decide)).trans (congrFun (f18 55 (by decide)) 47)) ((f111 10 (by decide)).trans (congrFun (f18 55 (by decide)) 10)) ((f110 81 (by decide)).trans (f18 81 (by decide))) hs_jBook
      have z174 : (σ108 38 0).toInt = (σ 38 0).toInt := (congrArg Int32.toInt (show σ108 38 0 = (σ 38 0) from ((congrFun (f110 38 (by decide)) 0).trans (congrFun (f18 38 (by decide)) 0))))
      have z175 : (σ108 55 32).toInt = (σ 55 32).toInt := (congrArg Int32.toInt (show σ108 55 32 = (σ 55 32) from ((f111 32 (by decide)).trans (congrFun (f18 55 (by decide)) 32))))
      exact ih x150 σ108 τ _ _ ls (by have h9 := tx150; omega) ⟨I151, I152, I153, I154, I155, I156, I157, I158, I159, I160, I161, I112, I162, I163, I164, I165, I166, I167, I168, I169, I170, I171, p172, p173, (by omega), (show jShP (σ108 51) (σ108 52) (σ108 53) (σ108 86) (σ108 87) (σ108 55 32).toInt by rw [show σ108 51 = σ 51 from ((f110 51 (by decide)).trans (f18 51 (by decide))), show σ108 52 = σ 52 from ((f110 52 (by decide)).trans (f18 52 (by decide))), show σ108 53 = σ 53 from ((f110 53 (by decide)).trans (f18 53 (by decide))), show σ108 86 = σ 86 from ((f110 86 (by decide)).trans (f18 86 (by decide))), show σ108 87 = σ 87 from ((f110 87 (by decide)).trans (f18 87 (by decide)))]; exact (hr0.up (by omega) (by omega))), (show jEl (σ108 51) (σ108 52) (τ 54) (τ 88) by rw [show σ108 51 = σ 51 from ((f110 51 (by decide)).trans (f18 51 (by decide))), show σ108 52 = σ 52 from ((f110 52 (by decide)).trans (f18 52 (by decide)))]; exact hr1)⟩ hP hS (lv_sub hl [0, 1, 2, 3] rfl)
set_option maxHeartbeats 4000000 in
set_option maxRecDepth 100000 in
theorem law_case_2 {p : Program} {e : Env} {s : State} {m : MethodId} {below : List Frame} {meth : Method} {c : Code} (l : Launch) {b L : Nat} {xs : Nat → Int32} {D : va_G} {cI cL : ClassId} {ad zz : Nat → Nat} (C0 : lw_At p s m meth c b L xs) (hJ : jD ad) (hA : ∀ q, jA ad q → s.heap.size ≤ q) (hK : jK D cI cL s) (hZ : jZ zz (fun q : Nat => s.heap.size ≤ q) s s.heap) {x0 : Int32} (hx0 : 0 ≤ x0.toInt) (hxL : x0.toInt + 6 ≤ (L : Int)) (hL : L ≤ 384) {σ : Nat → Nat → Int32} {τ : Nat → Nat → Int64} {H : Heap} {locs : List Loc} (hS : va_S (fun q : Nat => s.heap.size ≤ q) s.heap H locs) {ls : Array Slot} (hAll : jAll σ τ) (hP : jH D cI cL ad σ τ H) (hl : lv_has ls 4 [(3, .int x0), (2, .ref (ad 55)), (1, .ref (ad 0)), (0, .ref b)]) (ih : ∀ (x1 : Int32) (σ : Nat → Nat → Int32) (τ : Nat → Nat → Int64) (H : Heap) (locs : List Loc) (ls : Array Slot), x1.toInt = x0.toInt + 6 → jAll σ τ → jH D cI cL ad σ τ H → va_S (fun q : Nat => s.heap.size ≤ q) s.heap H locs → lv_has ls 4 [(3, .int x1), (2, .ref (ad 55)), (1, .ref (ad 0)), (0, .ref b)] → W p l e room_1 s m #[Value.ref b] below meth c H locs 90 348600 (lw_Z below #[Value.ref b] s) (F0 m 18 ls [])) : W p l e room_1 s m #[Value.ref b] below meth c H locs 90 348600 (lw_Z below #[Value.ref b] s) (F0 m 282 ls []) := by
  obtain ⟨hx, hb, hr, hml, hown, hts0, hX, hbl, hlocks, hgv⟩ := C0
  have hts : ∀ w ∈ wsL_law, w.before #[Value.ref b] s = true := fun w h => hts0 w (wsL_law_in w h)
  have hbA : ¬ (fun q : Nat => s.heap.size ≤ q) b := Nat.not_le.mpr hbl
  have hown : s.vm.findClass RL = some m.cls := hown
  obtain ⟨hI2, hI9, hI12, hI16, hI18, hI22, hI31, hI38, hI43, hI47, hI50, hI101, hI102, hI103, hI104, hI105, hI106, hI107, hI109, hI110, hI111, hI119, hs_jKept, hs_jBook, ht0, hr0, hr1⟩ := hAll
  have hL9 : (L : Int) ≤ 384 := by omega
  obtain ⟨i1, i2, w3⟩ : (0 ≤ (σ 38 0).toInt ∧ (σ 38 0).toInt ≤ 20) ∧ (0 ≤ (σ 38 1).toInt ∧ (σ 38 1).toInt ≤ 1000) ∧ (∀ k : Nat, k < 20 → 0 ≤ (σ 39 k).toInt ∧ (σ 39 k).toInt ≤ 6) := id hI38
  have w4 : ∀ k : Nat, k < 6 → 0 ≤ (σ 52 k).toInt ∧ (σ 52 k).toInt ≤ 60 := hI50
  obtain ⟨i5, w6, w7, w8⟩ : (0 ≤ (σ 55 32).toInt ∧ (σ 55 32).toInt ≤ 20) ∧ (∀ k : Nat, k < 20 → 0 ≤ (σ 70 k).toInt ∧ (σ 70 k).toInt ≤ 6) ∧ (∀ k : Nat, k < 20 → 0 ≤ (σ 71 k).toInt ∧ (σ 71 k).toInt ≤ 8) ∧ (∀ k : Nat, k < 160 → 0 ≤ (σ 72 k).toInt ∧ (σ 72 k).toInt ≤ 3) := id hI106
  refine lv_aload_n hx hb dL_law_282 rfl (lv_at hl 2 rfl) ?_
  refine lv_aload_n hx hb dL_law_283 rfl (lv_at hl 3 rfl) ?_
  refine lv_iload_n hx hb dL_law_284 rfl (lv_at hl 0 rfl) ?_
  refine lv_iconst (v := 1) hx hb dL_law_285 (by decide) ?_
  have g9 := jrg (rfl : x0.toInt = x0.toInt)
  refine lv_iadd hx hb dL_law_286 ?_
  refine lv_topi (fun x10 ex10 => ?_)
  have tx10 : x10.toInt = x0.toInt + 1 := (jadd ex10 rfl jz_1 (by omega) (by omega)).trans (by omega)
  refine va_sld hx hb hX hbl hbA hS (jin tx10 (by omega) (by omega)) dL_law_287 ?_
  have g11 := jrg (rfl : (xs x10.toNatClampNeg).toInt = (xs x10.toNatClampNeg).toInt)
  refine lv_aload_n hx hb dL_law_288 rfl (lv_at hl 3 rfl) ?_
  refine lv_iload_n hx hb dL_law_289 rfl (lv_at hl 0 rfl) ?_
  refine lv_iconst (v := 2) hx hb dL_law_290 (by decide) ?_
  refine lv_iadd hx hb dL_law_291 ?_
  refine lv_topi (fun x12 ex12 => ?_)
  have tx12 : x12.toInt = x0.toInt + 2 := (jadd ex12 rfl jz_2 (by omega) (by omega)).trans (by omega)
  refine va_sld hx hb hX hbl hbA hS (jin tx12 (by omega) (by omega)) dL_law_292 ?_
  have g13 := jrg (rfl : (xs x12.toNatClampNeg).toInt = (xs x12.toNatClampNeg).toInt)
  refine lv_aload_n hx hb dL_law_293 rfl (lv_at hl 3 rfl) ?_
  refine lv_iload_n hx hb dL_law_294 rfl (lv_at hl 0 rfl) ?_
  refine lv_iconst (v := 3) hx hb dL_law_295 (by decide) ?_
  refine lv_iadd hx hb dL_law_296 ?_
  refine lv_topi (fun x14 ex14 => ?_)
  have tx14 : x14.toInt = x0.toInt + 3 := (jadd ex14 rfl jz_3 (by omega) (by omega)).trans (by omega)
  refine va_sld hx hb hX hbl hbA hS (jin tx14 (by omega) (by omega)) dL_law_297 ?_
  have g15 := jrg (rfl : (xs x14.toNatClampNeg).toInt = (xs x14.toNatClampNeg).toInt)
  refine jcallV (As := [.int (xs x10.toNatClampNeg), .int (xs x12.toNatClampNeg), .int (xs x14.toNatClampNeg)]) (rest := []) ⟨hx, hb, hml, hown, hts⟩ hK hP hA hS hZ (c_X11_field l D cI cL ad zz hJ σ τ (xs x10.toNatClampNeg) ((xs x10.toNatClampNeg).toInt) rfl (xs x12.toNatClampNeg) ((xs x12.toNatClampNeg).toInt) rfl (xs x14.toNatClampNeg) ((xs x14.toNatClampNeg).toInt) rfl hI2) cw_RL_22 (jc_0 cI cL ad σ τ) rfl ⟨Nat.le_of_ble_eq_true rfl, Nat.le_of_ble_eq_true rfl⟩ rfl rfl rfl hl.1 rfl (Nat.le_of_ble_eq_true rfl) dL_law_298 ⟨Nat.le_of_ble_eq_true rfl, Nat.le_of_ble_eq_true rfl⟩ (fun r17 σ16 τ16 H locs h16 hP hS => ?_)
  obtain ⟨rfl, f18, f19, I20, h16⟩ := h16
  rcases h16 with h22 | h23
  · obtain ⟨q28, k24, k25, k26, k27⟩ := h22
    have q28 := q28.symm
    subst q28
    refine lv_pop hx hb dL_law_301 rfl ?_
    refine lv_aload_n hx hb dL_law_302 rfl (lv_at hl 1 rfl) ?_
    refine lv_aload_n hx hb dL_law_303 rfl (lv_at hl 3 rfl) ?_
    refine lv_iload_n hx hb dL_law_304 rfl (lv_at hl 0 rfl) ?_
    refine lv_iconst (v := 1) hx hb dL_law_305 (by decide) ?_
    refine lv_iadd hx hb dL_law_306 ?_
    refine jtopr ex10.symm ?_
    refine va_sld hx hb hX hbl hbA hS (jin tx10 (by omega) (by omega)) dL_law_307 ?_
    refine lv_aload_n hx hb dL_law_308 rfl (lv_at hl 3 rfl) ?_
    refine lv_iload_n hx hb dL_law_309 rfl (lv_at hl 0 rfl) ?_
    refine lv_iconst (v := 2) hx hb dL_law_310 (by decide) ?_
    refine lv_iadd hx hb dL_law_311 ?_
    refine jtopr ex12.symm ?_
    refine va_sld hx hb hX hbl hbA hS (jin tx12 (by omega) (by omega)) dL_law_312 ?_
    refine lv_aload_n hx hb dL_law_313 rfl (lv_at hl 3 rfl) ?_
    refine lv_iload_n hx hb dL_law_314 rfl (lv_at hl 0 rfl) ?_
    refine lv_iconst (v := 3) hx hb dL_law_315 (by decide) ?_
    refine lv_iadd hx hb dL_law_316 ?_
    refine jtopr ex14.symm ?_
    refine va_sld hx hb hX hbl hbA hS (jin tx14 (by omega) (by omega)) dL_law_317 ?_
    have I29 : jI101 σ16 := jI101_fr (congrFun (f18 55 (by decide)) 4) (congrFun (f18 55 (by decide)) 5) (f18 56 (by decide)) (f18 57 (by decide)) (f18 58 (by decide)) (f18 59 (by decide)) hI101
    have z30 : (σ16 55 5).toInt = (σ 55 5).toInt := (congrArg Int32.toInt (show σ16 55 5 = (σ 55 5) from (congrFun (f18 55 (by decide)) 5)))
    have z31 : (σ16 55 4).toInt = (σ 55 4).toInt := (congrArg Int32.toInt (show σ16 55 4 = (σ 55 4) from (congrFun (f18 55 (by decide)) 4)))
    refine jcallV (As := [.int (xs x10.toNatClampNeg), .int (xs x12.toNatClampNeg), .int (xs x14.toNatClampNeg)]) (rest := []) ⟨hx, hb, hml, hown, hts⟩ hK hP hA hS hZ (c_X12_field l D cI cL ad zz hJ σ16 τ (xs x10.toNatClampNeg) ((xs x10.toNatClampNeg).toInt) rfl (xs x12.toNatClampNeg) ((xs x12.toNatClampNeg).toInt) rfl (xs x14.toNatClampNeg) ((xs x14.toNatClampNeg).toInt) rfl I29) cw_RL_25 (jc_55 cI cL ad σ16 τ) rfl ⟨Nat.le_of_ble_eq_true rfl, Nat.le_of_ble_eq_true rfl⟩ rfl rfl rfl hl.1 rfl (Nat.le_of_ble_eq_true rfl) dL_law_318 ⟨Nat.le_of_ble_eq_true rfl, Nat.le_of_ble_eq_true rfl⟩ (fun r33 σ32 τ32 H locs h32 hP hS => ?_)
    obtain ⟨rfl, f34, f35, I36, h32⟩ := h32
    rcases h32 with h38 | h39
    · obtain ⟨q44, k40, k41, k42, k43⟩ := h38
      have q44 := q44.symm
      subst q44
      refine lv_pop hx hb dL_law_321 rfl ?_
      refine lv_goto (tgt := 1358) hx hb dL_law_322 (by decide) ?_
      obtain ⟨x45, ex45⟩ : ∃ y : Int32, y = x0 + 6 := ⟨_, rfl⟩
      have tx45 : x45.toInt = x0.toInt + 6 := (jadd ex45 rfl jz_6 (by omega) (by omega)).trans (by omega)
      refine lv_iinc (v := x45) (lv' := [(3, .int x45), (2, .ref (ad 55)), (1, .ref (ad 0)), (0, .ref b)]) hx hb dL_law_1358 hl (k := 0) rfl (by rw [ex45]; rfl) (by decide) rfl (fun ls hl => ?_)
      refine lv_goto (tgt := 18) hx hb dL_law_1361 (by decide) ?_
      have I46 : jI2 σ32 := jI2_fr (congrFun (f34 2 (by decide)) 0) (congrFun (f34 2 (by decide)) 1) (congrFun (f34 2 (by decide)) 2) (congrFun (f34 2 (by decide)) 3) (f34 6 (by decide)) I20
      have I47 : jI9 σ32 := jI9_fr ((congrFun (f34 9 (by decide)) 0).trans (congrFun (f18 9 (by decide)) 0)) ((f34 10 (by decide)).trans (f18 10 (by decide))) ((f34 11 (by decide)).trans (f18 11 (by decide))) hI9
      have I48 : jI12 σ32 := jI12_fr ((congrFun (f34 12 (by decide)) 0).trans (congrFun (f18 12 (by decide)) 0)) ((f34 13 (by decide)).trans (f18 13 (by decide))) hI12
      have I49 : jI16 σ32 := jI16_fr ((congrFun (f34 16 (by decide)) 0).trans (congrFun (f18 16 (by decide)) 0)) ((congrFun (f34 16 (by decide)) 1).trans (congrFun (f18 16 (by decide)) 1)) ((congrFun (f34 16 (by decide)) 2).trans (congrFun (f18 16 (by decide)) 2)) ((f34 17 (by decide)).trans (f18 17 (by decide))) hI16
      have I50 : jI18 σ32 := jI18_fr ((congrFun (f34 18 (by decide)) 0).trans (congrFun (f18 18 (by decide)) 0)) ((f34 19 (by decide)).trans (f18 19 (by decide))) hI18
      have I51 : jI22 σ32 := jI22_fr ((congrFun (f34 22 (by decide)) 0).trans (congrFun (f18 22 (by decide)) 0)) ((f34 23 (by decide)).trans (f18 23 (by decide))) hI22
      have I52 : jI31 σ32 := jI31_fr ((congrFun (f34 31 (by decide)) 8).trans (congrFun (f18 31 (by decide)) 8)) ((f34 33 (by decide)).trans (f18 33 (by decide))) ((f34 36 (by decide)).trans (f18 36 (by decide))) hI31
      have I53 : jI38 σ32 := jI38_fr ((congrFun (f34 38 (by decide)) 0).trans (congrFun (f18 38 (by decide)) 0)) ((congrFun (f34 38 (by decide)) 1).trans (congrFun (f18 38 (by decide)) 1)) ((f34 39 (by decide)).trans (f18 39 (by decide))) hI38
      have I54 : jI43 σ32 := jI43_fr ((congrFun (f34 43 (by decide)) 8).trans (congrFun (f18 43 (by decide)) 8)) hI43
      have I55 : jI47 σ32 := jI47_fr ((congrFun (f34 47 (by decide)) 0).trans (congrFun (f18 47 (by decide)) 0)) ((f34 48 (by decide)).trans (f18 48 (by decide))) ((f34 49 (by decide)).trans (f18 49 (by decide))) hI47
      have I56 : jI50 σ32 := jI50_fr ((f34 52 (by decide)).trans (f18 52 (by decide))) hI50
      have I57 : jI102 σ32 := jI102_fr ((f35 6 (by decide)).trans (congrFun (f18 55 (by decide)) 6)) ((f34 60 (by decide)).trans (f18 60 (by decide))) ((f34 61 (by decide)).trans (f18 61 (by decide))) hI102
      have I58 : jI103 σ32 := jI103_fr ((f35 9 (by decide)).trans (congrFun (f18 55 (by decide)) 9)) hI103
      have I59 : jI104 σ32 := jI104_fr ((f35 10 (by decide)).trans (congrFun (f18 55 (by decide)) 10)) ((f35 12 (by decide)).trans (congrFun (f18 55 (by decide)) 12)) ((f35 13 (by decide)).trans (congrFun (f18 55 (by decide)) 13)) ((f34 62 (by decide)).trans (f18 62 (by decide))) ((f34 67 (by decide)).trans (f18 67 (by decide))) hI104
      have I60 : jI105 σ32 := jI105_fr ((f35 15 (by decide)).trans (congrFun (f18 55 (by decide)) 15)) ((f34 65 (by decide)).trans (f18 65 (by decide))) hI105
      have I61 : jI106 σ32 := jI106_fr ((f35 32 (by decide)).trans (congrFun (f18 55 (by decide)) 32)) ((f34 70 (by decide)).trans (f18 70 (by decide))) ((f34 71 (by decide)).trans (f18 71 (by decide))) ((f34 72 (by decide)).trans (f18 72 (by decide))) hI106
      have I62 : jI107 σ32 := jI107_fr ((f35 12 (by decide)).trans (congrFun (f18 55 (by decide)) 12)) ((f35 47 (by decide)).trans (congrFun (f18 55 (by decide)) 47)) ((f34 80 (by decide)).trans (f18 80 (by decide))) hI107
      have I63 : jI109 σ32 := jI109_fr ((f35 50 (by decide)).trans (congrFun (f18 55 (by decide)) 50)) hI109
      have I64 : jI110 σ32 := jI110_fr ((f34 86 (by decide)).trans (f18 86 (by decide))) ((f34 87 (by decide)).trans (f18 87 (by decide))) hI110
      have I65 : jI111 σ32 := jI111_fr ((f34 79 (by decide)).trans (f18 79 (by decide))) hI111
      have I66 : jI119 σ32 := jI119_fr ((f34 68 (by decide)).trans (f18 68 (by decide))) hI119
      have p67 : jKept σ32 := jKept.fr ((f34 75 (by decide)).trans (f18 75 (by decide))) ((f34 76 (by decide)).trans (f18 76 (by decide))) ((f34 77 (by decide)).trans (f18 77 (by decide))) hs_jKept
      have p68 : jBook σ32 := jBook.fr ((f35 47 (by decide)).trans (congrFun (f18 55 (by decide)) 47)) ((f35 10 (by decide)).trans (congrFun (f18 55 (by decide)) 10)) ((f34 81 (by decide)).trans (f18 81 (by decide))) hs_jBook
      have z69 : (σ32 38 0).toInt = (σ 38 0).toInt := (congrArg Int32.toInt (show σ32 38 0 = (σ 38 0) from ((congrFun (f34 38 (by decide)) 0).trans (congrFun (f18 38 (by decide)) 0))))
      have z70 : (σ32 55 32).toInt = (σ 55 32).toInt := (congrArg Int32.toInt (show σ32 55 32 = (σ 55 32) from ((f35 32 (by decide)).trans (congrFun (f18 55 (by decide)) 32))))
      exact ih x45 σ32 τ _ _ ls (by have h9 := tx45; omega) ⟨I46, I47, I48, I49, I50, I51, I52, I53, I54, I55, I56, I36, I57, I58, I59, I60, I61, I62, I63, I64, I65, I66, p67, p68, (by omega), (show jShP (σ32 51) (σ32 52) (σ32 53) (σ32 86) (σ32 87) (σ32 55 32).toInt by rw [show σ32 51 = σ 51 from ((f34 51 (by decide)).trans (f18 51 (by decide))), show σ32 52 = σ 52 from ((f34 52 (by decide)).trans (f18 52 (by decide))), show σ32 53 = σ 53 from ((f34 53 (by decide)).trans (f18 53 (by decide))), show σ32 86 = σ 86 from ((f34 86 (by decide)).trans (f18 86 (by decide))), show σ32 87 = σ 87 from ((f34 87 (by decide)).trans (f18 87 (by decide)))]; exact (hr0.up (by omega) (by omega))), (show jEl (σ32 51) (σ32 52) (τ 54) (τ 88) by rw [show σ32 51 = σ 51 from ((f34 51 (by decide)).trans (f18 51 (by decide))), show σ32 52 = σ 52 from ((f34 52 (by decide)).trans (f18 52 (by decide)))]; exact hr1)⟩ hP hS (lv_sub hl [0, 1, 2, 3] rfl)
    · obtain ⟨q73, k72⟩ := h39
      refine lv_pop hx hb dL_law_321 rfl ?_
      refine lv_goto (tgt := 1358) hx hb dL_law_322 (by decide) ?_
      obtain ⟨x74, ex74⟩ : ∃ y : Int32, y = x0 + 6 := ⟨_, rfl⟩
      have tx74 : x74.toInt = x0.toInt + 6 := (jadd ex74 rfl jz_6 (by omega) (by omega)).trans (by omega)
      refine lv_iinc (v := x74) (lv' := [(3, .int x74), (2, .ref (ad 55)), (1, .ref (ad 0)), (0, .ref b)]) hx hb dL_law_1358 hl (k := 0) rfl (by rw [ex74]; rfl) (by decide) rfl (fun ls hl => ?_)
      refine lv_goto (tgt := 18) hx hb dL_law_1361 (by decide) ?_
      have I75 : jI2 σ32 := jI2_fr (congrFun (f34 2 (by decide)) 0) (congrFun (f34 2 (by decide)) 1) (congrFun (f34 2 (by decide)) 2) (congrFun (f34 2 (by decide)) 3) (f34 6 (by decide)) I20
      have I76 : jI9 σ32 := jI9_fr ((congrFun (f34 9 (by decide)) 0).trans (congrFun (f18 9 (by decide)) 0)) ((f34 10 (by decide)).trans (f18 10 (by decide))) ((f34 11 (by decide)).trans (f18 11 (by decide))) hI9
      have I77 : jI12 σ32 := jI12_fr ((congrFun (f34 12 (by decide)) 0).trans (congrFun (f18 12 (by decide)) 0)) ((f34 13 (by decide)).trans (f18 13 (by decide))) hI12
      have I78 : jI16 σ32 := jI16_fr ((congrFun (f34 16 (by decide)) 0).trans (congrFun (f18 16 (by decide)) 0)) ((congrFun (f34 16 (by decide)) 1).trans (congrFun (f18 16 (by decide)) 1)) ((congrFun (f34 16 (by decide)) 2).trans (congrFun (f18 16 (by decide)) 2)) ((f34 17 (by decide)).trans (f18 17 (by decide))) hI16
      have I79 : jI18 σ32 := jI18_fr ((congrFun (f34 18 (by decide)) 0).trans (congrFun (f18 18 (by decide)) 0)) ((f34 19 (by decide)).trans (f18 19 (by decide))) hI18
      have I80 : jI22 σ32 := jI22_fr ((congrFun (f34 22 (by decide)) 0).trans (congrFun (f18 22 (by decide)) 0)) ((f34 23 (by decide)).trans (f18 23 (by decide))) hI22
      have I81 : jI31 σ32 := jI31_fr ((congrFun (f34 31 (by decide)) 8).trans (congrFun (f18 31 (by decide)) 8)) ((f34 33 (by decide)).trans (f18 33 (by decide))) ((f34 36 (by decide)).trans (f18 36 (by decide))) hI31
      have I82 : jI38 σ32 := jI38_fr ((congrFun (f34 38 (by decide)) 0).trans (congrFun (f18 38 (by decide)) 0)) ((congrFun (f34 38 (by decide)) 1).trans (congrFun (f18 38 (by decide)) 1)) ((f34 39 (by decide)).trans (f18 39 (by decide))) hI38
      have I83 : jI43 σ32 := jI43_fr ((congrFun (f34 43 (by decide)) 8).trans (congrFun (f18 43 (by decide)) 8)) hI43
      have I84 : jI47 σ32 := jI47_fr ((congrFun (f34 47 (by decide)) 0).trans (congrFun (f18 47 (by decide)) 0)) ((f34 48 (by decide)).trans (f18 48 (by decide))) ((f34 49 (by decide)).trans (f18 49 (by decide))) hI47
      have I85 : jI50 σ32 := jI50_fr ((f34 52 (by decide)).trans (f18 52 (by decide))) hI50
      have I86 : jI102 σ32 := jI102_fr ((f35 6 (by decide)).trans (congrFun (f18 55 (by decide)) 6)) ((f34 60 (by decide)).trans (f18 60 (by decide))) ((f34 61 (by decide)).trans (f18 61 (by decide))) hI102
      have I87 : jI103 σ32 := jI103_fr ((f35 9 (by decide)).trans (congrFun (f18 55 (by decide)) 9)) hI103
      have I88 : jI104 σ32 := jI104_fr ((f35 10 (by decide)).trans (congrFun (f18 55 (by decide)) 10)) ((f35 12 (by decide)).trans (congrFun (f18 55 (by decide)) 12)) ((f35 13 (by decide)).trans (congrFun (f18 55 (by decide)) 13)) ((f34 62 (by decide)).trans (f18 62 (by decide))) ((f34 67 (by decide)).trans (f18 67 (by decide))) hI104
      have I89 : jI105 σ32 := jI105_fr ((f35 15 (by decide)).trans (congrFun (f18 55 (by decide)) 15)) ((f34 65 (by decide)).trans (f18 65 (by decide))) hI105
      have I90 : jI106 σ32 := jI106_fr ((f35 32 (by decide)).trans (congrFun (f18 55 (by decide)) 32)) ((f34 70 (by decide)).trans (f18 70 (by decide))) ((f34 71 (by decide)).trans (f18 71 (by decide))) ((f34 72 (by decide)).trans (f18 72 (by decide))) hI106
      have I91 : jI107 σ32 := jI107_fr ((f35 12 (by decide)).trans (congrFun (f18 55 (by decide)) 12)) ((f35 47 (by decide)).trans (congrFun (f18 55 (by decide)) 47)) ((f34 80 (by decide)).trans (f18 80 (by decide))) hI107
      have I92 : jI109 σ32 := jI109_fr ((f35 50 (by decide)).trans (congrFun (f18 55 (by decide)) 50)) hI109
      have I93 : jI110 σ32 := jI110_fr ((f34 86 (by decide)).trans (f18 86 (by decide))) ((f34 87 (by decide)).trans (f18 87 (by decide))) hI110
      have I94 : jI111 σ32 := jI111_fr ((f34 79 (by decide)).trans (f18 79 (by decide))) hI111
      have I95 : jI119 σ32 := jI119_fr ((f34 68 (by decide)).trans (f18 68 (by decide))) hI119
      have p96 : jKept σ32 := jKept.fr ((f34 75 (by decide)).trans (f18 75 (by decide))) ((f34 76 (by decide)).trans (f18 76 (by decide))) ((f34 77 (by decide)).trans (f18 77 (by decide))) hs_jKept
      have p97 : jBook σ32 := jBook.fr ((f35 47 (by decide)).trans (congrFun (f18 55 (by decide)) 47)) ((f35 10 (by decide)).trans (congrFun (f18 55 (by decide)) 10)) ((f34 81 (by decide)).trans (f18 81 (by decide))) hs_jBook
      have z98 : (σ32 38 0).toInt = (σ 38 0).toInt := (congrArg Int32.toInt (show σ32 38 0 = (σ 38 0) from ((congrFun (f34 38 (by decide)) 0).trans (congrFun (f18 38 (by decide)) 0))))
      have z99 : (σ32 55 32).toInt = (σ 55 32).toInt := (congrArg Int32.toInt (show σ32 55 32 = (σ 55 32) from ((f35 32 (by decide)).trans (congrFun (f18 55 (by decide)) 32))))
      exact ih x74 σ32 τ _ _ ls (by have h9 := tx74; omega) ⟨I75, I76, I77, I78, I79, I80, I81, I82, I83, I84, I85, I36, I86, I87, I88, I89, I90, I91, I92, I93, I94, I95, p96, p97, (by omega), (show jShP (σ32 51) (σ32 52) (σ32 53) (σ32 86) (σ32 87) (σ32 55 32).toInt by rw [show σ32 51 = σ 51 from ((f34 51 (by decide)).trans (f18 51 (by decide))), show σ32 52 = σ 52 from ((f34 52 (by decide)).trans (f18 52 (by decide))), show σ32 53 = σ 53 from ((f34 53 (by decide)).trans (f18 53 (by decide))), show σ32 86 = σ 86 from ((f34 86 (by decide)).trans (f18 86 (by decide))), show σ32 87 = σ 87 from ((f34 87 (by decide)).trans (f18 87 (by decide)))]; exact (hr0.up (by omega) (by omega))), (show jEl (σ32 51) (σ32 52) (τ 54) (τ 88) by rw [show σ32 51 = σ 51 from ((f34 51 (by decide)).trans (f18 51 (by decide))), show σ32 52 = σ 52 from ((f34 52 (by decide)).trans (f18 52 (by decide)))]; exact hr1)⟩ hP hS (lv_sub hl [0, 1, 2, 3] rfl)
  · obtain ⟨q102, k101⟩ := h23
    refine lv_pop hx hb dL_law_301 rfl ?_
    refine lv_aload_n hx hb dL_law_302 rfl (lv_at hl 1 rfl) ?_
    refine lv_aload_n hx hb dL_law_303 rfl (lv_at hl 3 rfl) ?_
    refine lv_iload_n hx hb dL_law_304 rfl (lv_at hl 0 rfl) ?_
    refine lv_iconst (v := 1) hx hb dL_law_305 (by decide) ?_
    refine lv_iadd hx hb dL_law_306 ?_
    refine jtopr ex10.symm ?_
    refine va_sld hx hb hX hbl hbA hS (jin tx10 (by omega) (by omega)) dL_law_307 ?_
    refine lv_aload_n hx hb dL_law_308 rfl (lv_at hl 3 rfl) ?_
    refine lv_iload_n hx hb dL_law_309 rfl (lv_at hl 0 rfl) ?_
    refine lv_iconst (v := 2) hx hb dL_law_310 (by decide) ?_
    refine lv_iadd hx hb dL_law_311 ?_
    refine jtopr ex12.symm ?_
    refine va_sld hx hb hX hbl hbA hS (jin tx12 (by omega) (by omega)) dL_law_312 ?_
    refine lv_aload_n hx hb dL_law_313 rfl (lv_at hl 3 rfl) ?_
    refine lv_iload_n hx hb dL_law_314 rfl (lv_at hl 0 rfl) ?_
    refine lv_iconst (v := 3) hx hb dL_law_315 (by decide) ?_
    refine lv_iadd hx hb dL_law_316 ?_
    refine jtopr ex14.symm ?_
    refine va_sld hx hb hX hbl hbA hS (jin tx14 (by omega) (by omega)) dL_law_317 ?_
    have I103 : jI101 σ16 := jI101_fr (congrFun (f18 55 (by decide)) 4) (congrFun (f18 55 (by decide)) 5) (f18 56 (by decide)) (f18 57 (by decide)) (f18 58 (by decide)) (f18 59 (by decide)) hI101
    have z104 : (σ16 55 5).toInt = (σ 55 5).toInt := (congrArg Int32.toInt (show σ16 55 5 = (σ 55 5) from (congrFun (f18 55 (by decide)) 5)))
    have z105 : (σ16 55 4).toInt = (σ 55 4).toInt := (congrArg Int32.toInt (show σ16 55 4 = (σ 55 4) from (congrFun (f18 55 (by decide)) 4)))
    refine jcallV (As := [.int (xs x10.toNatClampNeg), .int (xs x12.toNatClampNeg), .int (xs x14.toNatClampNeg)]) (rest := []) ⟨hx, hb, hml, hown, hts⟩ hK hP hA hS hZ (c_X12_field l D cI cL ad zz hJ σ16 τ (xs x10.toNatClampNeg) ((xs x10.toNatClampNeg).toInt) rfl (xs x12.toNatClampNeg) ((xs x12.toNatClampNeg).toInt) rfl (xs x14.toNatClampNeg) ((xs x14.toNatClampNeg).toInt) rfl I103) cw_RL_25 (jc_55 cI cL ad σ16 τ) rfl ⟨Nat.le_of_ble_eq_true rfl, Nat.le_of_ble_eq_true rfl⟩ rfl rfl rfl hl.1 rfl (Nat.le_of_ble_eq_true rfl) dL_law_318 ⟨Nat.le_of_ble_eq_true rfl, Nat.le_of_ble_eq_true rfl⟩ (fun r107 σ106 τ106 H locs h106 hP hS => ?_)
    obtain ⟨rfl, f108, f109, I110, h106⟩ := h106
    rcases h106 with h112 | h113
    · obtain ⟨q118, k114, k115, k116, k117⟩ := h112
      have q118 := q118.symm
      subst q118
      refine lv_pop hx hb dL_law_321 rfl ?_
      refine lv_goto (tgt := 1358) hx hb dL_law_322 (by decide) ?_
      obtain ⟨x119, ex119⟩ : ∃ y : Int32, y = x0 + 6 := ⟨_, rfl⟩
      have tx119 : x119.toInt = x0.toInt + 6 := (jadd ex119 rfl jz_6 (by omega) (by omega)).trans (by omega)
      refine lv_iinc (v := x119) (lv' := [(3, .int x119), (2, .ref (ad 55)), (1, .ref (ad 0)), (0, .ref b)]) hx hb dL_law_1358 hl (k := 0) rfl (by rw [ex119]; rfl) (by decide) rfl (fun ls hl => ?_)
      refine lv_goto (tgt := 18) hx hb dL_law_1361 (by decide) ?_
      have I120 : jI2 σ106 := jI2_fr (congrFun (f108 2 (by decide)) 0) (congrFun (f108 2 (by decide)) 1) (congrFun (f108 2 (by decide)) 2) (congrFun (f108 2 (by decide)) 3) (f108 6 (by decide)) I20
      have I121 : jI9 σ106 := jI9_fr ((congrFun (f108 9 (by decide)) 0).trans (congrFun (f18 9 (by decide)) 0)) ((f108 10 (by decide)).trans (f18 10 (by decide))) ((f108 11 (by decide)).trans (f18 11 (by decide))) hI9
      have I122 : jI12 σ106 := jI12_fr ((congrFun (f108 12 (by decide)) 0).trans (congrFun (f18 12 (by decide)) 0)) ((f108 13 (by decide)).trans (f18 13 (by decide))) hI12
      have I123 : jI16 σ106 := jI16_fr ((congrFun (f108 16 (by decide)) 0).trans (congrFun (f18 16 (by decide)) 0)) ((congrFun (f108 16 (by decide)) 1).trans (congrFun (f18 16 (by decide)) 1)) ((congrFun (f108 16 (by decide)) 2).trans (congrFun (f18 16 (by decide)) 2)) ((f108 17 (by decide)).trans (f18 17 (by decide))) hI16
      have I124 : jI18 σ106 := jI18_fr ((congrFun (f108 18 (by decide)) 0).trans (congrFun (f18 18 (by decide)) 0)) ((f108 19 (by decide)).trans (f18 19 (by decide))) hI18
      have I125 : jI22 σ106 := jI22_fr ((congrFun (f108 22 (by decide)) 0).trans (congrFun (f18 22 (by decide)) 0)) ((f108 23 (by decide)).trans (f18 23 (by decide))) hI22
      have I126 : jI31 σ106 := jI31_fr ((congrFun (f108 31 (by decide)) 8).trans (congrFun (f18 31 (by decide)) 8)) ((f108 33 (by decide)).trans (f18 33 (by decide))) ((f108 36 (by decide)).trans (f18 36 (by decide))) hI31
      have I127 : jI38 σ106 := jI38_fr ((congrFun (f108 38 (by decide)) 0).trans (congrFun (f18 38 (by decide)) 0)) ((congrFun (f108 38 (by decide)) 1).trans (congrFun (f18 38 (by decide)) 1)) ((f108 39 (by decide)).trans (f18 39 (by decide))) hI38
      have I128 : jI43 σ106 := jI43_fr ((congrFun (f108 43 (by decide)) 8).trans (congrFun (f18 43 (by decide)) 8)) hI43
      have I129 : jI47 σ106 := jI47_fr ((congrFun (f108 47 (by decide)) 0).trans (congrFun (f18 47 (by decide)) 0)) ((f108 48 (by decide)).trans (f18 48 (by decide))) ((f108 49 (by decide)).trans (f18 49 (by decide))) hI47
      have I130 : jI50 σ106 := jI50_fr ((f108 52 (by decide)).trans (f18 52 (by decide))) hI50
      have I131 : jI102 σ106 := jI102_fr ((f109 6 (by decide)).trans (congrFun (f18 55 (by decide)) 6)) ((f108 60 (by decide)).trans (f18 60 (by decide))) ((f108 61 (by decide)).trans (f18 61 (by decide))) hI102
      have I132 : jI103 σ106 := jI103_fr ((f109 9 (by decide)).trans (congrFun (f18 55 (by decide)) 9)) hI103
      have I133 : jI104 σ106 := jI104_fr ((f109 10 (by decide)).trans (congrFun (f18 55 (by decide)) 10)) ((f109 12 (by decide)).trans (congrFun (f18 55 (by decide)) 12)) ((f109 13 (by decide)).trans (congrFun (f18 55 (by decide)) 13)) ((f108 62 (by decide)).trans (f18 62 (by decide))) ((f108 67 (by decide)).trans (f18 67 (by decide))) hI104
      have I134 : jI105 σ106 := jI105_fr ((f109 15 (by decide)).trans (congrFun (f18 55 (by decide)) 15)) ((f108 65 (by decide)).trans (f18 65 (by decide))) hI105
      have I135 : jI106 σ106 := jI106_fr ((f109 32 (by decide)).trans (congrFun (f18 55 (by decide)) 32)) ((f108 70 (by decide)).trans (f18 70 (by decide))) ((f108 71 (by decide)).trans (f18 71 (by decide))) ((f108 72 (by decide)).trans (f18 72 (by decide))) hI106
      have I136 : jI107 σ106 := jI107_fr ((f109 12 (by decide)).trans (congrFun (f18 55 (by decide)) 12)) ((f109 47 (by decide)).trans (congrFun (f18 55 (by decide)) 47)) ((f108 80 (by decide)).trans (f18 80 (by decide))) hI107
      have I137 : jI109 σ106 := jI109_fr ((f109 50 (by decide)).trans (congrFun (f18 55 (by decide)) 50)) hI109
      have I138 : jI110 σ106 := jI110_fr ((f108 86 (by decide)).trans (f18 86 (by decide))) ((f108 87 (by decide)).trans (f18 87 (by decide))) hI110
      have I139 : jI111 σ106 := jI111_fr ((f108 79 (by decide)).trans (f18 79 (by decide))) hI111
      have I140 : jI119 σ106 := jI119_fr ((f108 68 (by decide)).trans (f18 68 (by decide))) hI119
      have p141 : jKept σ106 := jKept.fr ((f108 75 (by decide)).trans (f18 75 (by decide))) ((f108 76 (by decide)).trans (f18 76 (by decide))) ((f108 77 (by decide)).trans (f18 77 (by decide))) hs_jKept
      have p142 : jBook σ106 := jBook.fr ((f109 47 (by decide)).trans (congrFun (f18 55 (by decide)) 47)) ((f109 10 (by decide)).trans (congrFun (f18 55 (by decide)) 10)) ((f108 81 (by decide)).trans (f18 81 (by decide))) hs_jBook
      have z143 : (σ106 38 0).toInt = (σ 38 0).toInt := (congrArg Int32.toInt (show σ106 38 0 = (σ 38 0) from ((congrFun (f108 38 (by decide)) 0).trans (congrFun (f18 38 (by decide)) 0))))
      have z144 : (σ106 55 32).toInt = (σ 55 32).toInt := (congrArg Int32.toInt (show σ106 55 32 = (σ 55 32) from ((f109 32 (by decide)).trans (congrFun (f18 55 (by decide)) 32))))
      exact ih x119 σ106 τ _ _ ls (by have h9 := tx119; omega) ⟨I120, I121, I122, I123, I124, I125, I126, I127, I128, I129, I130, I110, I131, I132, I133, I134, I135, I136, I137, I138, I139, I140, p141, p142, (by omega), (show jShP (σ106 51) (σ106 52) (σ106 53) (σ106 86) (σ106 87) (σ106 55 32).toInt by rw [show σ106 51 = σ 51 from ((f108 51 (by decide)).trans (f18 51 (by decide))), show σ106 52 = σ 52 from ((f108 52 (by decide)).trans (f18 52 (by decide))), show σ106 53 = σ 53 from ((f108 53 (by decide)).trans (f18 53 (by decide))), show σ106 86 = σ 86 from ((f108 86 (by decide)).trans (f18 86 (by decide))), show σ106 87 = σ 87 from ((f108 87 (by decide)).trans (f18 87 (by decide)))]; exact (hr0.up (by omega) (by omega))), (show jEl (σ106 51) (σ106 52) (τ 54) (τ 88) by rw [show σ106 51 = σ 51 from ((f108 51 (by decide)).trans (f18 51 (by decide))), show σ106 52 = σ 52 from ((f108 52 (by decide)).trans (f18 52 (by decide)))]; exact hr1)⟩ hP hS (lv_sub hl [0, 1, 2, 3] rfl)
    · obtain ⟨q147, k146⟩ := h113
      refine lv_pop hx hb dL_law_321 rfl ?_
      refine lv_goto (tgt := 1358) hx hb dL_law_322 (by decide) ?_
      obtain ⟨x148, ex148⟩ : ∃ y : Int32, y = x0 + 6 := ⟨_, rfl⟩
      have tx148 : x148.toInt = x0.toInt + 6 := (jadd ex148 rfl jz_6 (by omega) (by omega)).trans (by omega)
      refine lv_iinc (v := x148) (lv' := [(3, .int x148), (2, .ref (ad 55)), (1, .ref (ad 0)), (0, .ref b)]) hx hb dL_law_1358 hl (k := 0) rfl (by rw [ex148]; rfl) (by decide) rfl (fun ls hl => ?_)
      refine lv_goto (tgt := 18) hx hb dL_law_1361 (by decide) ?_
      have I149 : jI2 σ106 := jI2_fr (congrFun (f108 2 (by decide)) 0) (congrFun (f108 2 (by decide)) 1) (congrFun (f108 2 (by decide)) 2) (congrFun (f108 2 (by decide)) 3) (f108 6 (by decide)) I20
      have I150 : jI9 σ106 := jI9_fr ((congrFun (f108 9 (by decide)) 0).trans (congrFun (f18 9 (by decide)) 0)) ((f108 10 (by decide)).trans (f18 10 (by decide))) ((f108 11 (by decide)).trans (f18 11 (by decide))) hI9
      have I151 : jI12 σ106 := jI12_fr ((congrFun (f108 12 (by decide)) 0).trans (congrFun (f18 12 (by decide)) 0)) ((f108 13 (by decide)).trans (f18 13 (by decide))) hI12
      have I152 : jI16 σ106 := jI16_fr ((congrFun (f108 16 (by decide)) 0).trans (congrFun (f18 16 (by decide)) 0)) ((congrFun (f108 16 (by decide)) 1).trans (congrFun (f18 16 (by decide)) 1)) ((congrFun (f108 16 (by decide)) 2).trans (congrFun (f18 16 (by decide)) 2)) ((f108 17 (by decide)).trans (f18 17 (by decide))) hI16
      have I153 : jI18 σ106 := jI18_fr ((congrFun (f108 18 (by decide)) 0).trans (congrFun (f18 18 (by decide)) 0)) ((f108 19 (by decide)).trans (f18 19 (by decide))) hI18
      have I154 : jI22 σ106 := jI22_fr ((congrFun (f108 22 (by decide)) 0).trans (congrFun (f18 22 (by decide)) 0)) ((f108 23 (by decide)).trans (f18 23 (by decide))) hI22
      have I155 : jI31 σ106 := jI31_fr ((congrFun (f108 31 (by decide)) 8).trans (congrFun (f18 31 (by decide)) 8)) ((f108 33 (by decide)).trans (f18 33 (by decide))) ((f108 36 (by decide)).trans (f18 36 (by decide))) hI31
      have I156 : jI38 σ106 := jI38_fr ((congrFun (f108 38 (by decide)) 0).trans (congrFun (f18 38 (by decide)) 0)) ((congrFun (f108 38 (by decide)) 1).trans (congrFun (f18 38 (by decide)) 1)) ((f108 39 (by decide)).trans (f18 39 (by decide))) hI38
      have I157 : jI43 σ106 := jI43_fr ((congrFun (f108 43 (by decide)) 8).trans (congrFun (f18 43 (by decide)) 8)) hI43
      have I158 : jI47 σ106 := jI47_fr ((congrFun (f108 47 (by decide)) 0).trans (congrFun (f18 47 (by decide)) 0)) ((f108 48 (by decide)).trans (f18 48 (by decide))) ((f108 49 (by decide)).trans (f18 49 (by decide))) hI47
      have I159 : jI50 σ106 := jI50_fr ((f108 52 (by decide)).trans (f18 52 (by decide))) hI50
      have I160 : jI102 σ106 := jI102_fr ((f109 6 (by decide)).trans (congrFun (f18 55 (by decide)) 6)) ((f108 60 (by decide)).trans (f18 60 (by decide))) ((f108 61 (by decide)).trans (f18 61 (by decide))) hI102
      have I161 : jI103 σ106 := jI103_fr ((f109 9 (by decide)).trans (congrFun (f18 55 (by decide)) 9)) hI103
      have I162 : jI104 σ106 := jI104_fr ((f109 10 (by decide)).trans (congrFun (f18 55 (by decide)) 10)) ((f109 12 (by decide)).trans (congrFun (f18 55 (by decide)) 12)) ((f109 13 (by decide)).trans (congrFun (f18 55 (by decide)) 13)) ((f108 62 (by decide)).trans (f18 62 (by decide))) ((f108 67 (by decide)).trans (f18 67 (by decide))) hI104
      have I163 : jI105 σ106 := jI105_fr ((f109 15 (by decide)).trans (congrFun (f18 55 (by decide)) 15)) ((f108 65 (by decide)).trans (f18 65 (by decide))) hI105
      have I164 : jI106 σ106 := jI106_fr ((f109 32 (by decide)).trans (congrFun (f18 55 (by decide)) 32)) ((f108 70 (by decide)).trans (f18 70 (by decide))) ((f108 71 (by decide)).trans (f18 71 (by decide))) ((f108 72 (by decide)).trans (f18 72 (by decide))) hI106
      have I165 : jI107 σ106 := jI107_fr ((f109 12 (by decide)).trans (congrFun (f18 55 (by decide)) 12)) ((f109 47 (by decide)).trans (congrFun (f18 55 (by decide)) 47)) ((f108 80 (by decide)).trans (f18 80 (by decide))) hI107
      have I166 : jI109 σ106 := jI109_fr ((f109 50 (by decide)).trans (congrFun (f18 55 (by decide)) 50)) hI109
      have I167 : jI110 σ106 := jI110_fr ((f108 86 (by decide)).trans (f18 86 (by decide))) ((f108 87 (by decide)).trans (f18 87 (by decide))) hI110
      have I168 : jI111 σ106 := jI111_fr ((f108 79 (by decide)).trans (f18 79 (by decide))) hI111
      have I169 : jI119 σ106 := jI119_fr ((f108 68 (by decide)).trans (f18 68 (by decide))) hI119
      have p170 : jKept σ106 := jKept.fr ((f108 75 (by decide)).trans (f18 75 (by decide))) ((f108 76 (by decide)).trans (f18 76 (by decide))) ((f108 77 (by decide)).trans (f18 77 (by decide))) hs_jKept
      have p171 : jBook σ106 := jBook.fr ((f109 47 (by decide)).trans (congrFun (f18 55 (by decide)) 47)) ((f109 10 (by decide)).trans (congrFun (f18 55 (by decide)) 10)) ((f108 81 (by decide)).trans (f18 81 (by decide))) hs_jBook
      have z172 : (σ106 38 0).toInt = (σ 38 0).toInt := (congrArg Int32.toInt (show σ106 38 0 = (σ 38 0) from ((congrFun (f108 38 (by decide)) 0).trans (congrFun (f18 38 (by decide)) 0))))
      have z173 : (σ106 55 32).toInt = (σ 55 32).toInt := (congrArg Int32.toInt (show σ106 55 32 = (σ 55 32) from ((f109 32 (by decide)).trans (congrFun (f18 55 (by decide)) 32))))
      exact ih x148 σ106 τ _ _ ls (by have h9 := tx148; omega) ⟨I149, I150, I151, I152, I153, I154, I155, I156, I157, I158, I159, I110, I160, I161, I162, I163, I164, I165, I166, I167, I168, I169, p170, p171, (by omega), (show jShP (σ106 51) (σ106 52) (σ106 53) (σ106 86) (σ106 87) (σ106 55 32).toInt by rw [show σ106 51 = σ 51 from ((f108 51 (by decide)).trans (f18 51 (by decide))), show σ106 52 = σ 52 from ((f108 52 (by decide)).trans (f18 52 (by decide))), show σ106 53 = σ 53 from ((f108 53 (by decide)).trans (f18 53 (by decide))), show σ106 86 = σ 86 from ((f108 86 (by decide)).trans (f18 86 (by decide))), show σ106 87 = σ 87 from ((f108 87 (by decide)).trans (f18 87 (by decide)))]; exact (hr0.up (by omega) (by omega))), (show jEl (σ106 51) (σ106 52) (τ 54) (τ 88) by rw [show σ106 51 = σ 51 from ((f108 51 (by decide)).trans (f18 51 (by decide))), show σ106 52 = σ 52 from ((f108 52 (by decide)).trans (f18 52 (by decide)))]; exact hr1)⟩ hP hS (lv_sub hl [0, 1, 2, 3] rfl)
set_option maxHeartbeats 4000000 in
set_option maxRecDepth 100000 in
theorem law_case_3 {p : Program} {e : Env} {s : State} {m : MethodId} {below : List Frame} {meth : Method} {c : Code} (l : Launch) {b L : Nat} {xs : Nat → Int32} {D : va_G} {cI cL : ClassId} {ad zz : Nat → Nat} (C0 : lw_At p s m meth c b L xs) (hJ : jD ad) (hA : ∀ q, jA ad q → s.heap.size ≤ q) (hK : jK D cI cL s) (hZ : jZ zz (fun q : Nat => s.heap.size ≤ q) s s.heap) {x0 : Int32} (hx0 : 0 ≤ x0.toInt) (hxL : x0.toInt + 6 ≤ (L : Int)) (hL : L ≤ 384) {σ : Nat → Nat → Int32} {τ : Nat → Nat → Int64} {H : Heap} {locs : List Loc} (hS : va_S (fun q : Nat => s.heap.size ≤ q) s.heap H locs) {ls : Array Slot} (hAll : jAll σ τ) (hP : jH D cI cL ad σ τ H) (hl : lv_has ls 4 [(3, .int x0), (2, .ref (ad 55)), (1, .ref (ad 0)), (0, .ref b)]) (ih : ∀ (x1 : Int32) (σ : Nat → Nat → Int32) (τ : Nat → Nat → Int64) (H : Heap) (locs : List Loc) (ls : Array Slot), x1.toInt = x0.toInt + 6 → jAll σ τ → jH D cI cL ad σ τ H → va_S (fun q : Nat => s.heap.size ≤ q) s.heap H locs → lv_has ls 4 [(3, .int x1), (2, .ref (ad 55)), (1, .ref (ad 0)), (0, .ref b)] → W p l e room_1 s m #[Value.ref b] below meth c H locs 90 348600 (lw_Z below #[Value.ref b] s) (F0 m 18 ls [])) : W p l e room_1 s m #[Value.ref b] below meth c H locs 90 348600 (lw_Z below #[Value.ref b] s) (F0 m 325 ls []) := by
  obtain ⟨hx, hb, hr, hml, hown, hts0, hX, hbl, hlocks, hgv⟩ := C0
  have hts : ∀ w ∈ wsL_law, w.before #[Value.ref b] s = true := fun w h => hts0 w (wsL_law_in w h)
  have hbA : ¬ (fun q : Nat => s.heap.size ≤ q) b := Nat.not_le.mpr hbl
  have hown : s.vm.findClass RL = some m.cls := hown
  obtain ⟨hI2, hI9, hI12, hI16, hI18, hI22, hI31, hI38, hI43, hI47, hI50, hI101, hI102, hI103, hI104, hI105, hI106, hI107, hI109, hI110, hI111, hI119, hs_jKept, hs_jBook, ht0, hr0, hr1⟩ := hAll
  have hL9 : (L : Int) ≤ 384 := by omega
  obtain ⟨i1, i2, w3⟩ : (0 ≤ (σ 38 0).toInt ∧ (σ 38 0).toInt ≤ 20) ∧ (0 ≤ (σ 38 1).toInt ∧ (σ 38 1).toInt ≤ 1000) ∧ (∀ k : Nat, k < 20 → 0 ≤ (σ 39 k).toInt ∧ (σ 39 k).toInt ≤ 6) := id hI38
  have w4 : ∀ k : Nat, k < 6 → 0 ≤ (σ 52 k).toInt ∧ (σ 52 k).toInt ≤ 60 := hI50
  obtain ⟨i5, w6, w7, w8⟩ : (0 ≤ (σ 55 32).toInt ∧ (σ 55 32).toInt ≤ 20) ∧ (∀ k : Nat, k < 20 → 0 ≤ (σ 70 k).toInt ∧ (σ 70 k).toInt ≤ 6) ∧ (∀ k : Nat, k < 20 → 0 ≤ (σ 71 k).toInt ∧ (σ 71 k).toInt ≤ 8) ∧ (∀ k : Nat, k < 160 → 0 ≤ (σ 72 k).toInt ∧ (σ 72 k).toInt ≤ 3) := id hI106
  refine lv_aload_n hx hb dL_law_325 rfl (lv_at hl 2 rfl) ?_
  refine lv_aload_n hx hb dL_law_326 rfl (lv_at hl 3 rfl) ?_
  refine lv_iload_n hx hb dL_law_327 rfl (lv_at hl 0 rfl) ?_
  refine lv_iconst (v := 1) hx hb dL_law_328 (by decide) ?_
  have g9 := jrg (rfl : x0.toInt = x0.toInt)
  refine lv_iadd hx hb dL_law_329 ?_
  refine lv_topi (fun x10 ex10 => ?_)
  have tx10 : x10.toInt = x0.toInt + 1 := (jadd ex10 rfl jz_1 (by omega) (by omega)).trans (by omega)
  refine va_sld hx hb hX hbl hbA hS (jin tx10 (by omega) (by omega)) dL_law_330 ?_
  have g11 := jrg (rfl : (xs x10.toNatClampNeg).toInt = (xs x10.toNatClampNeg).toInt)
  refine jcallV (As := [.int (xs x10.toNatClampNeg)]) (rest := []) ⟨hx, hb, hml, hown, hts⟩ hK hP hA hS hZ (c_X11_set l D cI cL ad zz hJ σ τ (xs x10.toNatClampNeg) ((xs x10.toNatClampNeg).toInt) rfl hI2) cw_RL_26 (jc_0 cI cL ad σ τ) rfl ⟨Nat.le_of_ble_eq_true rfl, Nat.le_of_ble_eq_true rfl⟩ rfl rfl rfl hl.1 rfl (Nat.le_of_ble_eq_true rfl) dL_law_331 ⟨Nat.le_of_ble_eq_true rfl, Nat.le_of_ble_eq_true rfl⟩ (fun r13 σ12 τ12 H locs h12 hP hS => ?_)
  obtain ⟨rfl, f14, f15, I16, h12⟩ := h12
  rcases h12 with h18 | h19
  · obtain ⟨q23, k20, k21, k22⟩ := h18
    refine lv_pop hx hb dL_law_334 rfl ?_
    refine lv_aload_n hx hb dL_law_335 rfl (lv_at hl 1 rfl) ?_
    refine lv_aload_n hx hb dL_law_336 rfl (lv_at hl 3 rfl) ?_
    refine lv_iload_n hx hb dL_law_337 rfl (lv_at hl 0 rfl) ?_
    refine lv_iconst (v := 1) hx hb dL_law_338 (by decide) ?_
    refine lv_iadd hx hb dL_law_339 ?_
    refine jtopr ex10.symm ?_
    refine va_sld hx hb hX hbl hbA hS (jin tx10 (by omega) (by omega)) dL_law_340 ?_
    have I24 : jI103 σ12 := jI103_fr (congrFun (f14 55 (by decide)) 9) hI103
    have z25 : (σ12 55 9).toInt = (σ 55 9).toInt := (congrArg Int32.toInt (show σ12 55 9 = (σ 55 9) from (congrFun (f14 55 (by decide)) 9)))
    refine jcallV (As := [.int (xs x10.toNatClampNeg)]) (rest := []) ⟨hx, hb, hml, hown, hts⟩ hK hP hA hS hZ (c_X12_set l D cI cL ad zz hJ σ12 τ (xs x10.toNatClampNeg) ((xs x10.toNatClampNeg).toInt) rfl I24) cw_RL_30 (jc_55 cI cL ad σ12 τ) rfl ⟨Nat.le_of_ble_eq_true rfl, Nat.le_of_ble_eq_true rfl⟩ rfl rfl rfl hl.1 rfl (Nat.le_of_ble_eq_true rfl) dL_law_341 ⟨Nat.le_of_ble_eq_true rfl, Nat.le_of_ble_eq_true rfl⟩ (fun r27 σ26 τ26 H locs h26 hP hS => ?_)
    obtain ⟨rfl, f28, f29, I30, h26⟩ := h26
    rcases h26 with h32 | h33
    · obtain ⟨q37, k34, k35, k36⟩ := h32
      refine lv_pop hx hb dL_law_344 rfl ?_
      refine lv_goto (tgt := 1358) hx hb dL_law_345 (by decide) ?_
      obtain ⟨x38, ex38⟩ : ∃ y : Int32, y = x0 + 6 := ⟨_, rfl⟩
      have tx38 : x38.toInt = x0.toInt + 6 := (jadd ex38 rfl jz_6 (by omega) (by omega)).trans (by omega)
      refine lv_iinc (v := x38) (lv' := [(3, .int x38), (2, .ref (ad 55)), (1, .ref (ad 0)), (0, .ref b)]) hx hb dL_law_1358 hl (k := 0) rfl (by rw [ex38]; rfl) (by decide) rfl (fun ls hl => ?_)
      refine lv_goto (tgt := 18) hx hb dL_law_1361 (by decide) ?_
      have I39 : jI2 σ26 := jI2_fr (congrFun (f28 2 (by decide)) 0) (congrFun (f28 2 (by decide)) 1) (congrFun (f28 2 (by decide)) 2) (congrFun (f28 2 (by decide)) 3) (f28 6 (by decide)) I16
      have I40 : jI9 σ26 := jI9_fr ((congrFun (f28 9 (by decide)) 0).trans (congrFun (f14 9 (by decide)) 0)) ((f28 10 (by decide)).trans (f14 10 (by decide))) ((f28 11 (by decide)).trans (f14 11 (by decide))) hI9
      have I41 : jI12 σ26 := jI12_fr ((congrFun (f28 12 (by decide)) 0).trans (congrFun (f14 12 (by decide)) 0)) ((f28 13 (by decide)).trans (f14 13 (by decide))) hI12
      have I42 : jI16 σ26 := jI16_fr ((congrFun (f28 16 (by decide)) 0).trans (congrFun (f14 16 (by decide)) 0)) ((congrFun (f28 16 (by decide)) 1).trans (congrFun (f14 16 (by decide)) 1)) ((congrFun (f28 16 (by decide)) 2).trans (congrFun (f14 16 (by decide)) 2)) ((f28 17 (by decide)).trans (f14 17 (by decide))) hI16
      have I43 : jI18 σ26 := jI18_fr ((congrFun (f28 18 (by decide)) 0).trans (congrFun (f14 18 (by decide)) 0)) ((f28 19 (by decide)).trans (f14 19 (by decide))) hI18
      have I44 : jI22 σ26 := jI22_fr ((congrFun (f28 22 (by decide)) 0).trans (congrFun (f14 22 (by decide)) 0)) ((f28 23 (by decide)).trans (f14 23 (by decide))) hI22
      have I45 : jI31 σ26 := jI31_fr ((congrFun (f28 31 (by decide)) 8).trans (congrFun (f14 31 (by decide)) 8)) ((f28 33 (by decide)).trans (f14 33 (by decide))) ((f28 36 (by decide)).trans (f14 36 (by decide))) hI31
      have I46 : jI38 σ26 := jI38_fr ((congrFun (f28 38 (by decide)) 0).trans (congrFun (f14 38 (by decide)) 0)) ((congrFun (f28 38 (by decide)) 1).trans (congrFun (f14 38 (by decide)) 1)) ((f28 39 (by decide)).trans (f14 39 (by decide))) hI38
      have I47 : jI43 σ26 := jI43_fr ((congrFun (f28 43 (by decide)) 8).trans (congrFun (f14 43 (by decide)) 8)) hI43
      have I48 : jI47 σ26 := jI47_fr ((congrFun (f28 47 (by decide)) 0).trans (congrFun (f14 47 (by decide)) 0)) ((f28 48 (by decide)).trans (f14 48 (by decide))) ((f28 49 (by decide)).trans (f14 49 (by decide))) hI47
      have I49 : jI50 σ26 := jI50_fr ((f28 52 (by decide)).trans (f14 52 (by decide))) hI50
      have I50 : jI101 σ26 := jI101_fr ((f29 4 (by decide)).trans (congrFun (f14 55 (by decide)) 4)) ((f29 5 (by decide)).trans (congrFun (f14 55 (by decide)) 5)) ((f28 56 (by decide)).trans (f14 56 (by decide))) ((f28 57 (by decide)).trans (f14 57 (by decide))) ((f28 58 (by decide)).trans (f14 58 (by decide))) ((f28 59 (by decide)).trans (f14 59 (by decide))) hI101
      have I51 : jI102 σ26 := jI102_fr ((f29 6 (by decide)).trans (congrFun (f14 55 (by decide)) 6)) ((f28 60 (by decide)).trans (f14 60 (by decide))) ((f28 61 (by decide)).trans (f14 61 (by decide))) hI102
      have I52 : jI104 σ26 := jI104_fr ((f29 10 (by decide)).trans (congrFun (f14 55 (by decide)) 10)) ((f29 12 (by decide)).trans (congrFun (f14 55 (by decide)) 12)) ((f29 13 (by decide)).trans (congrFun (f14 55 (by decide)) 13)) ((f28 62 (by decide)).trans (f14 62 (by decide))) ((f28 67 (by decide)).trans (f14 67 (by decide))) hI104
      have I53 : jI105 σ26 := jI105_fr ((f29 15 (by decide)).trans (congrFun (f14 55 (by decide)) 15)) ((f28 65 (by decide)).trans (f14 65 (by decide))) hI105
      have I54 : jI106 σ26 := jI106_fr ((f29 32 (by decide)).trans (congrFun (f14 55 (by decide)) 32)) ((f28 70 (by decide)).trans (f14 70 (by decide))) ((f28 71 (by decide)).trans (f14 71 (by decide))) ((f28 72 (by decide)).trans (f14 72 (by decide))) hI106
      have I55 : jI107 σ26 := jI107_fr ((f29 12 (by decide)).trans (congrFun (f14 55 (by decide)) 12)) ((f29 47 (by decide)).trans (congrFun (f14 55 (by decide)) 47)) ((f28 80 (by decide)).trans (f14 80 (by decide))) hI107
      have I56 : jI109 σ26 := jI109_fr ((f29 50 (by decide)).trans (congrFun (f14 55 (by decide)) 50)) hI109
      have I57 : jI110 σ26 := jI110_fr ((f28 86 (by decide)).trans (f14 86 (by decide))) ((f28 87 (by decide)).trans (f14 87 (by decide))) hI110
      have I58 : jI111 σ26 := jI111_fr ((f28 79 (by decide)).trans (f14 79 (by decide))) hI111
      have I59 : jI119 σ26 := jI119_fr ((f28 68 (by decide)).trans (f14 68 (by decide))) hI119
      have p60 : jKept σ26 := jKept.fr ((f28 75 (by decide)).trans (f14 75 (by decide))) ((f28 76 (by decide)).trans (f14 76 (by decide))) ((f28 77 (by decide)).trans (f14 77 (by decide))) hs_jKept
      have p61 : jBook σ26 := jBook.fr ((f29 47 (by decide)).trans (congrFun (f14 55 (by decide)) 47)) ((f29 10 (by decide)).trans (congrFun (f14 55 (by decide)) 10)) ((f28 81 (by decide)).trans (f14 81 (by decide))) hs_jBook
      have z62 : (σ26 38 0).toInt = (σ 38 0).toInt := (congrArg Int32.toInt (show σ26 38 0 = (σ 38 0) from ((congrFun (f28 38 (by decide)) 0).trans (congrFun (f14 38 (by decide)) 0))))
      have z63 : (σ26 55 32).toInt = (σ 55 32).toInt := (congrArg Int32.toInt (show σ26 55 32 = (σ 55 32) from ((f29 32 (by decide)).trans (congrFun (f14 55 (by decide)) 32))))
      exact ih x38 σ26 τ _ _ ls (by have h9 := tx38; omega) ⟨I39, I40, I41, I42, I43, I44, I45, I46, I47, I48, I49, I50, I51, I30, I52, I53, I54, I55, I56, I57, I58, I59, p60, p61, (by omega), (show jShP (σ26 51) (σ26 52) (σ26 53) (σ26 86) (σ26 87) (σ26 55 32).toInt by rw [show σ26 51 = σ 51 from ((f28 51 (by decide)).trans (f14 51 (by decide))), show σ26 52 = σ 52 from ((f28 52 (by decide)).trans (f14 52 (by decide))), show σ26 53 = σ 53 from ((f28 53 (by decide)).trans (f14 53 (by decide))), show σ26 86 = σ 86 from ((f28 86 (by decide)).trans (f14 86 (by decide))), show σ26 87 = σ 87 from ((f28 87 (by decide)).trans (f14 87 (by decide)))]; exact (hr0.up (by omega) (by omega))), (show jEl (σ26 51) (σ26 52) (τ 54) (τ 88) by rw [show σ26 51 = σ 51 from ((f28 51 (by decide)).trans (f14 51 (by decide))), show σ26 52 = σ 52 from ((f28 52 (by decide)).trans (f14 52 (by decide)))]; exact hr1)⟩ hP hS (lv_sub hl [0, 1, 2, 3] rfl)
    · obtain ⟨q67, k65, k66⟩ := h33
      exact absurd (by omega : False) id
  · obtain ⟨q70, k68, k69⟩ := h19
    have q70 := q70.symm
    subst q70
    refine lv_pop hx hb dL_law_334 rfl ?_
    refine lv_aload_n hx hb dL_law_335 rfl (lv_at hl 1 rfl) ?_
    refine lv_aload_n hx hb dL_law_336 rfl (lv_at hl 3 rfl) ?_
    refine lv_iload_n hx hb dL_law_337 rfl (lv_at hl 0 rfl) ?_
    refine lv_iconst (v := 1) hx hb dL_law_338 (by decide) ?_
    refine lv_iadd hx hb dL_law_339 ?_
    refine jtopr ex10.symm ?_
    refine va_sld hx hb hX hbl hbA hS (jin tx10 (by omega) (by omega)) dL_law_340 ?_
    have I71 : jI103 σ12 := jI103_fr (congrFun (f14 55 (by decide)) 9) hI103
    have z72 : (σ12 55 9).toInt = (σ 55 9).toInt := (congrArg Int32.toInt (show σ12 55 9 = (σ 55 9) from (congrFun (f14 55 (by decide)) 9)))
    refine jcallV (As := [.int (xs x10.toNatClampNeg)]) (rest := []) ⟨hx, hb, hml, hown, hts⟩ hK hP hA hS hZ (c_X12_set l D cI cL ad zz hJ σ12 τ (xs x10.toNatClampNeg) ((xs x10.toNatClampNeg).toInt) rfl I71) cw_RL_30 (jc_55 cI cL ad σ12 τ) rfl ⟨Nat.le_of_ble_eq_true rfl, Nat.le_of_ble_eq_true rfl⟩ rfl rfl rfl hl.1 rfl (Nat.le_of_ble_eq_true rfl) dL_law_341 ⟨Nat.le_of_ble_eq_true rfl, Nat.le_of_ble_eq_true rfl⟩ (fun r74 σ73 τ73 H locs h73 hP hS => ?_)
    obtain ⟨rfl, f75, f76, I77, h73⟩ := h73
    rcases h73 with h79 | h80
    · obtain ⟨q84, k81, k82, k83⟩ := h79
      exact absurd (by omega : False) id
    · obtain ⟨q87, k85, k86⟩ := h80
      have q87 := q87.symm
      subst q87
      refine lv_pop hx hb dL_law_344 rfl ?_
      refine lv_goto (tgt := 1358) hx hb dL_law_345 (by decide) ?_
      obtain ⟨x88, ex88⟩ : ∃ y : Int32, y = x0 + 6 := ⟨_, rfl⟩
      have tx88 : x88.toInt = x0.toInt + 6 := (jadd ex88 rfl jz_6 (by omega) (by omega)).trans (by omega)
      refine lv_iinc (v := x88) (lv' := [(3, .int x88), (2, .ref (ad 55)), (1, .ref (ad 0)), (0, .ref b)]) hx hb dL_law_1358 hl (k := 0) rfl (by rw [ex88]; rfl) (by decide) rfl (fun ls hl => ?_)
      refine lv_goto (tgt := 18) hx hb dL_law_1361 (by decide) ?_
      have I89 : jI2 σ73 := jI2_fr (congrFun (f75 2 (by decide)) 0) (congrFun (f75 2 (by decide)) 1) (congrFun (f75 2 (by decide)) 2) (congrFun (f75 2 (by decide)) 3) (f75 6 (by decide)) I16
      have I90 : jI9 σ73 := jI9_fr ((congrFun (f75 9 (by decide)) 0).trans (congrFun (f14 9 (by decide)) 0)) ((f75 10 (by decide)).trans (f14 10 (by decide))) ((f75 11 (by decide)).trans (f14 11 (by decide))) hI9
      have I91 : jI12 σ73 := jI12_fr ((congrFun (f75 12 (by decide)) 0).trans (congrFun (f14 12 (by decide)) 0)) ((f75 13 (by decide)).trans (f14 13 (by decide))) hI12
      have I92 : jI16 σ73 := jI16_fr ((congrFun (f75 16 (by decide)) 0).trans (congrFun (f14 16 (by decide)) 0)) ((congrFun (f75 16 (by decide)) 1).trans (congrFun (f14 16 (by decide)) 1)) ((congrFun (f75 16 (by decide)) 2).trans (congrFun (f14 16 (by decide)) 2)) ((f75 17 (by decide)).trans (f14 17 (by decide))) hI16
      have I93 : jI18 σ73 := jI18_fr ((congrFun (f75 18 (by decide)) 0).trans (congrFun (f14 18 (by decide)) 0)) ((f75 19 (by decide)).trans (f14 19 (by decide))) hI18
      have I94 : jI22 σ73 := jI22_fr ((congrFun (f75 22 (by decide)) 0).trans (congrFun (f14 22 (by decide)) 0)) ((f75 23 (by decide)).trans (f14 23 (by decide))) hI22
      have I95 : jI31 σ73 := jI31_fr ((congrFun (f75 31 (by decide)) 8).trans (congrFun (f14 31 (by decide)) 8)) ((f75 33 (by decide)).trans (f14 33 (by decide))) ((f75 36 (by decide)).trans (f14 36 (by decide))) hI31
      have I96 : jI38 σ73 := jI38_fr ((congrFun (f75 38 (by decide)) 0).trans (congrFun (f14 38 (by decide)) 0)) ((congrFun (f75 38 (by decide)) 1).trans (congrFun (f14 38 (by decide)) 1)) ((f75 39 (by decide)).trans (f14 39 (by decide))) hI38
      have I97 : jI43 σ73 := jI43_fr ((congrFun (f75 43 (by decide)) 8).trans (congrFun (f14 43 (by decide)) 8)) hI43
      have I98 : jI47 σ73 := jI47_fr ((congrFun (f75 47 (by decide)) 0).trans (congrFun (f14 47 (by decide)) 0)) ((f75 48 (by decide)).trans (f14 48 (by decide))) ((f75 49 (by decide)).trans (f14 49 (by decide))) hI47
      have I99 : jI50 σ73 := jI50_fr ((f75 52 (by decide)).trans (f14 52 (by decide))) hI50
      have I100 : jI101 σ73 := jI101_fr ((f76 4 (by decide)).trans (congrFun (f14 55 (by decide)) 4)) ((f76 5 (by decide)).trans (congrFun (f14 55 (by decide)) 5)) ((f75 56 (by decide)).trans (f14 56 (by decide))) ((f75 57 (by decide)).trans (f14 57 (by decide))) ((f75 58 (by decide)).trans (f14 58 (by decide))) ((f75 59 (by decide)).trans (f14 59 (by decide))) hI101
      have I101 : jI102 σ73 := jI102_fr ((f76 6 (by decide)).trans (congrFun (f14 55 (by decide)) 6)) ((f75 60 (by decide)).trans (f14 60 (by decide))) ((f75 61 (by decide)).trans (f14 61 (by decide))) hI102
      have I102 : jI104 σ73 := jI104_fr ((f76 10 (by decide)).trans (congrFun (f14 55 (by decide)) 10)) ((f76 12 (by decide)).trans (congrFun (f14 55 (by decide)) 12)) ((f76 13 (by decide)).trans (congrFun (f14 55 (by decide)) 13)) ((f75 62 (by decide)).trans (f14 62 (by decide))) ((f75 67 (by decide)).trans (f14 67 (by decide))) hI104
      have I103 : jI105 σ73 := jI105_fr ((f76 15 (by decide)).trans (congrFun (f14 55 (by decide)) 15)) ((f75 65 (by decide)).trans (f14 65 (by decide))) hI105
      have I104 : jI106 σ73 := jI106_fr ((f76 32 (by decide)).trans (congrFun (f14 55 (by decide)) 32)) ((f75 70 (by decide)).trans (f14 70 (by decide))) ((f75 71 (by decide)).trans (f14 71 (by decide))) ((f75 72 (by decide)).trans (f14 72 (by decide))) hI106
      have I105 : jI107 σ73 := jI107_fr ((f76 12 (by decide)).trans (congrFun (f14 55 (by decide)) 12)) ((f76 47 (by decide)).trans (congrFun (f14 55 (by decide)) 47)) ((f75 80 (by decide)).trans (f14 80 (by decide))) hI107
      have I106 : jI109 σ73 := jI109_fr ((f76 50 (by decide)).trans (congrFun (f14 55 (by decide)) 50)) hI109
      have I107 : jI110 σ73 := jI110_fr ((f75 86 (by decide)).trans (f14 86 (by decide))) ((f75 87 (by decide)).trans (f14 87 (by decide))) hI110
      have I108 : jI111 σ73 := jI111_fr ((f75 79 (by decide)).trans (f14 79 (by decide))) hI111
      have I109 : jI119 σ73 := jI119_fr ((f75 68 (by decide)).trans (f14 68 (by decide))) hI119
      have p110 : jKept σ73 := jKept.fr ((f75 75 (by decide)).trans (f14 75 (by decide))) ((f75 76 (by decide)).trans (f14 76 (by decide))) ((f75 77 (by decide)).trans (f14 77 (by decide))) hs_jKept
      have p111 : jBook σ73 := jBook.fr ((f76 47 (by decide)).trans (congrFun (f14 55 (by decide)) 47)) ((f76 10 (by decide)).trans (congrFun (f14 55 (by decide)) 10)) ((f75 81 (by decide)).trans (f14 81 (by decide))) hs_jBook
      have z112 : (σ73 38 0).toInt = (σ 38 0).toInt := (congrArg Int32.toInt (show σ73 38 0 = (σ 38 0) from ((congrFun (f75 38 (by decide)) 0).trans (congrFun (f14 38 (by decide)) 0))))
      have z113 : (σ73 55 32).toInt = (σ 55 32).toInt := (congrArg Int32.toInt (show σ73 55 32 = (σ 55 32) from ((f76 32 (by decide)).trans (congrFun (f14 55 (by decide)) 32))))
      exact ih x88 σ73 τ _ _ ls (by have h9 := tx88; omega) ⟨I89, I90, I91, I92, I93, I94, I95, I96, I97, I98, I99, I100, I101, I77, I102, I103, I104, I105, I106, I107, I108, I109, p110, p111, (by omega), (show jShP (σ73 51) (σ73 52) (σ73 53) (σ73 86) (σ73 87) (σ73 55 32).toInt by rw [show σ73 51 = σ 51 from ((f75 51 (by decide)).trans (f14 51 (by decide))), show σ73 52 = σ 52 from ((f75 52 (by decide)).trans (f14 52 (by decide))), show σ73 53 = σ 53 from ((f75 53 (by decide)).trans (f14 53 (by decide))), show σ73 86 = σ 86 from ((f75 86 (by decide)).trans (f14 86 (by decide))), show σ73 87 = σ 87 from ((f75 87 (by decide)).trans (f14 87 (by decide)))]; exact (hr0.up (by omega) (by omega))), (show jEl (σ73 51) (σ73 52) (τ 54) (τ 88) by rw [show σ73 51 = σ 51 from ((f75 51 (by decide)).trans (f14 51 (by decide))), show σ73 52 = σ 52 from ((f75 52 (by decide)).trans (f14 52 (by decide)))]; exact hr1)⟩ hP hS (lv_sub hl [0, 1, 2, 3] rfl)
set_option maxHeartbeats 4000000 in
set_option maxRecDepth 100000 in
theorem law_case_4 {p : Program} {e : Env} {s : State} {m : MethodId} {below : List Frame} {meth : Method} {c : Code} (l : Launch) {b L : Nat} {xs : Nat → Int32} {D : va_G} {cI cL : ClassId} {ad zz : Nat → Nat} (C0 : lw_At p s m meth c b L xs) (hJ : jD ad) (hA : ∀ q, jA ad q → s.heap.size ≤ q) (hK : jK D cI cL s) (hZ : jZ zz (fun q : Nat => s.heap.size ≤ q) s s.heap) {x0 : Int32} (hx0 : 0 ≤ x0.toInt) (hxL : x0.toInt + 6 ≤ (L : Int)) (hL : L ≤ 384) {σ : Nat → Nat → Int32} {τ : Nat → Nat → Int64} {H : Heap} {locs : List Loc} (hS : va_S (fun q : Nat => s.heap.size ≤ q) s.heap H locs) {ls : Array Slot} (hAll : jAll σ τ) (hP : jH D cI cL ad σ τ H) (hl : lv_has ls 4 [(3, .int x0), (2, .ref (ad 55)), (1, .ref (ad 0)), (0, .ref b)]) (ih : ∀ (x1 : Int32) (σ : Nat → Nat → Int32) (τ : Nat → Nat → Int64) (H : Heap) (locs : List Loc) (ls : Array Slot), x1.toInt = x0.toInt + 6 → jAll σ τ → jH D cI cL ad σ τ H → va_S (fun q : Nat => s.heap.size ≤ q) s.heap H locs → lv_has ls 4 [(3, .int x1), (2, .ref (ad 55)), (1, .ref (ad 0)), (0, .ref b)] → W p l e room_1 s m #[Value.ref b] below meth c H locs 90 348600 (lw_Z below #[Value.ref b] s) (F0 m 18 ls [])) : W p l e room_1 s m #[Value.ref b] below meth c H locs 90 348600 (lw_Z below #[Value.ref b] s) (F0 m 348 ls []) := by
  obtain ⟨hx, hb, hr, hml, hown, hts0, hX, hbl, hlocks, hgv⟩ := C0
  have hts : ∀ w ∈ wsL_law, w.before #[Value.ref b] s = true := fun w h => hts0 w (wsL_law_in w h)
  have hbA : ¬ (fun q : Nat => s.heap.size ≤ q) b := Nat.not_le.mpr hbl
  have hown : s.vm.findClass RL = some m.cls := hown
  obtain ⟨hI2, hI9, hI12, hI16, hI18, hI22, hI31, hI38, hI43, hI47, hI50, hI101, hI102, hI103, hI104, hI105, hI106, hI107, hI109, hI110, hI111, hI119, hs_jKept, hs_jBook, ht0, hr0, hr1⟩ := hAll
  have hL9 : (L : Int) ≤ 384 := by omega
  obtain ⟨i1, i2, w3⟩ : (0 ≤ (σ 38 0).toInt ∧ (σ 38 0).toInt ≤ 20) ∧ (0 ≤ (σ 38 1).toInt ∧ (σ 38 1).toInt ≤ 1000) ∧ (∀ k : Nat, k < 20 → 0 ≤ (σ 39 k).toInt ∧ (σ 39 k).toInt ≤ 6) := id hI38
  have w4 : ∀ k : Nat, k < 6 → 0 ≤ (σ 52 k).toInt ∧ (σ 52 k).toInt ≤ 60 := hI50
  obtain ⟨i5, w6, w7, w8⟩ : (0 ≤ (σ 55 32).toInt ∧ (σ 55 32).toInt ≤ 20) ∧ (∀ k : Nat, k < 20 → 0 ≤ (σ 70 k).toInt ∧ (σ 70 k).toInt ≤ 6) ∧ (∀ k : Nat, k < 20 → 0 ≤ (σ 71 k).toInt ∧ (σ 71 k).toInt ≤ 8) ∧ (∀ k : Nat, k < 160 → 0 ≤ (σ 72 k).toInt ∧ (σ 72 k).toInt ≤ 3) := id hI106
  refine lv_aload_n hx hb dL_law_348 rfl (lv_at hl 2 rfl) ?_
  refine lv_aload_n hx hb dL_law_349 rfl (lv_at hl 3 rfl) ?_
  refine lv_iload_n hx hb dL_law_350 rfl (lv_at hl 0 rfl) ?_
  refine lv_iconst (v := 1) hx hb dL_law_351 (by decide) ?_
  have g9 := jrg (rfl : x0.toInt = x0.toInt)
  refine lv_iadd hx hb dL_law_352 ?_
  refine lv_topi (fun x10 ex10 => ?_)
  have tx10 : x10.toInt = x0.toInt + 1 := (jadd ex10 rfl jz_1 (by omega) (by omega)).trans (by omega)
  refine va_sld hx hb hX hbl hbA hS (jin tx10 (by omega) (by omega)) dL_law_353 ?_
  have g11 := jrg (rfl : (xs x10.toNatClampNeg).toInt = (xs x10.toNatClampNeg).toInt)
  refine lv_aload_n hx hb dL_law_354 rfl (lv_at hl 3 rfl) ?_
  refine lv_iload_n hx hb dL_law_355 rfl (lv_at hl 0 rfl) ?_
  refine lv_iconst (v := 2) hx hb dL_law_356 (by decide) ?_
  refine lv_iadd hx hb dL_law_357 ?_
  refine lv_topi (fun x12 ex12 => ?_)
  have tx12 : x12.toInt = x0.toInt + 2 := (jadd ex12 rfl jz_2 (by omega) (by omega)).trans (by omega)
  refine va_sld hx hb hX hbl hbA hS (jin tx12 (by omega) (by omega)) dL_law_358 ?_
  have g13 := jrg (rfl : (xs x12.toNatClampNeg).toInt = (xs x12.toNatClampNeg).toInt)
  refine jcallV (As := [.int (xs x10.toNatClampNeg), .int (xs x12.toNatClampNeg)]) (rest := []) ⟨hx, hb, hml, hown, hts⟩ hK hP hA hS hZ (c_X11_feed l D cI cL ad zz hJ σ τ (xs x10.toNatClampNeg) ((xs x10.toNatClampNeg).toInt) rfl (xs x12.toNatClampNeg) ((xs x12.toNatClampNeg).toInt) rfl hI9) cw_RL_31 (jc_0 cI cL ad σ τ) rfl ⟨Nat.le_of_ble_eq_true rfl, Nat.le_of_ble_eq_true rfl⟩ rfl rfl rfl hl.1 rfl (Nat.le_of_ble_eq_true rfl) dL_law_359 ⟨Nat.le_of_ble_eq_true rfl, Nat.le_of_ble_eq_true rfl⟩ (fun r15 σ14 τ14 H locs h14 hP hS => ?_)
  obtain ⟨rfl, f16, f17, I18, h14⟩ := h14
  rcases h14 with h20 | h21 | h22
  · obtain ⟨q26, k23, k24, k25⟩ := h20
    have q26 := q26.symm
    subst q26
    refine lv_pop hx hb dL_law_362 rfl ?_
    refine lv_aload_n hx hb dL_law_363 rfl (lv_at hl 1 rfl) ?_
    refine lv_aload_n hx hb dL_law_364 rfl (lv_at hl 3 rfl) ?_
    refine lv_iload_n hx hb dL_law_365 rfl (lv_at hl 0 rfl) ?_
    refine lv_iconst (v := 1) hx hb dL_law_366 (by decide) ?_
    refine lv_iadd hx hb dL_law_367 ?_
    refine jtopr ex10.symm ?_
    refine va_sld hx hb hX hbl hbA hS (jin tx10 (by omega) (by omega)) dL_law_368 ?_
    refine lv_aload_n hx hb dL_law_369 rfl (lv_at hl 3 rfl) ?_
    refine lv_iload_n hx hb dL_law_370 rfl (lv_at hl 0 rfl) ?_
    refine lv_iconst (v := 2) hx hb dL_law_371 (by decide) ?_
    refine lv_iadd hx hb dL_law_372 ?_
    refine jtopr ex12.symm ?_
    refine va_sld hx hb hX hbl hbA hS (jin tx12 (by omega) (by omega)) dL_law_373 ?_
    have I27 : jI105 σ14 := jI105_fr (congrFun (f16 55 (by decide)) 15) (f16 65 (by decide)) hI105
    have z28 : (σ14 55 15).toInt = (σ 55 15).toInt := (congrArg Int32.toInt (show σ14 55 15 = (σ 55 15) from (congrFun (f16 55 (by decide)) 15)))
    refine jcallV (As := [.int (xs x10.toNatClampNeg), .int (xs x12.toNatClampNeg)]) (rest := []) ⟨hx, hb, hml, hown, hts⟩ hK hP hA hS hZ (c_X12_feed l D cI cL ad zz hJ σ14 τ (xs x10.toNatClampNeg) ((xs x10.toNatClampNeg).toInt) rfl (xs x12.toNatClampNeg) ((xs x12.toNatClampNeg).toInt) rfl I27) cw_RL_35 (jc_55 cI cL ad σ14 τ) rfl ⟨Nat.le_of_ble_eq_true rfl, Nat.le_of_ble_eq_true rfl⟩ rfl rfl rfl hl.1 rfl (Nat.le_of_ble_eq_true rfl) dL_law_374 ⟨Nat.le_of_ble_eq_true rfl, Nat.le_of_ble_eq_true rfl⟩ (fun r30 σ29 τ29 H locs h29 hP hS => ?_)
    obtain ⟨rfl, f31, f32, I33, h29⟩ := h29
    rcases h29 with h35 | h36 | h37
    · obtain ⟨q41, k38, k39, k40⟩ := h35
      have q41 := q41.symm
      subst q41
      refine lv_pop hx hb dL_law_377 rfl ?_
      refine lv_goto (tgt := 1358) hx hb dL_law_378 (by decide) ?_
      obtain ⟨x42, ex42⟩ : ∃ y : Int32, y = x0 + 6 := ⟨_, rfl⟩
      have tx42 : x42.toInt = x0.toInt + 6 := (jadd ex42 rfl jz_6 (by omega) (by omega)).trans (by omega)
      refine lv_iinc (v := x42) (lv' := [(3, .int x42), (2, .ref (ad 55)), (1, .ref (ad 0)), (0, .ref b)]) hx hb dL_law_1358 hl (k := 0) rfl (by rw [ex42]; rfl) (by decide) rfl (fun ls hl => ?_)
      refine lv_goto (tgt := 18) hx hb dL_law_1361 (by decide) ?_
      have I43 : jI2 σ29 := jI2_fr ((congrFun (f31 2 (by decide)) 0).trans (congrFun (f16 2 (by decide)) 0)) ((congrFun (f31 2 (by decide)) 1).trans (congrFun (f16 2 (by decide)) 1)) ((congrFun (f31 2 (by decide)) 2).trans (congrFun (f16 2 (by decide)) 2)) ((congrFun (f31 2 (by decide)) 3).trans (congrFun (f16 2 (by decide)) 3)) ((f31 6 (by decide)).trans (f16 6 (by decide))) hI2
      have I44 : jI9 σ29 := jI9_fr (congrFun (f31 9 (by decide)) 0) (f31 10 (by decide)) (f31 11 (by decide)) I18
      have I45 : jI12 σ29 := jI12_fr ((congrFun (f31 12 (by decide)) 0).trans (congrFun (f16 12 (by decide)) 0)) ((f31 13 (by decide)).trans (f16 13 (by decide))) hI12
      have I46 : jI16 σ29 := jI16_fr ((congrFun (f31 16 (by decide)) 0).trans (congrFun (f16 16 (by decide)) 0)) ((congrFun (f31 16 (by decide)) 1).trans (congrFun (f16 16 (by decide)) 1)) ((congrFun (f31 16 (by decide)) 2).trans (congrFun (f16 16 (by decide)) 2)) ((f31 17 (by decide)).trans (f16 17 (by decide))) hI16
      have I47 : jI18 σ29 := jI18_fr ((congrFun (f31 18 (by decide)) 0).trans (congrFun (f16 18 (by decide)) 0)) ((f31 19 (by decide)).trans (f16 19 (by decide))) hI18
      have I48 : jI22 σ29 := jI22_fr ((congrFun (f31 22 (by decide)) 0).trans (congrFun (f16 22 (by decide)) 0)) ((f31 23 (by decide)).trans (f16 23 (by decide))) hI22
      have I49 : jI31 σ29 := jI31_fr ((congrFun (f31 31 (by decide)) 8).trans (congrFun (f16 31 (by decide)) 8)) ((f31 33 (by decide)).trans (f16 33 (by decide))) ((f31 36 (by decide)).trans (f16 36 (by decide))) hI31
      have I50 : jI38 σ29 := jI38_fr ((congrFun (f31 38 (by decide)) 0).trans (congrFun (f16 38 (by decide)) 0)) ((congrFun (f31 38 (by decide)) 1).trans (congrFun (f16 38 (by decide)) 1)) ((f31 39 (by decide)).trans (f16 39 (by decide))) hI38
      have I51 : jI43 σ29 := jI43_fr ((congrFun (f31 43 (by decide)) 8).trans (congrFun (f16 43 (by decide)) 8)) hI43
      have I52 : jI47 σ29 := jI47_fr ((congrFun (f31 47 (by decide)) 0).trans (congrFun (f16 47 (by decide)) 0)) ((f31 48 (by decide)).trans (f16 48 (by decide))) ((f31 49 (by decide)).trans (f16 49 (by decide))) hI47
      have I53 : jI50 σ29 := jI50_fr ((f31 52 (by decide)).trans (f16 52 (by decide))) hI50
      have I54 : jI101 σ29 := jI101_fr ((f32 4 (by decide)).trans (congrFun (f16 55 (by decide)) 4)) ((f32 5 (by decide)).trans (congrFun (f16 55 (by decide)) 5)) ((f31 56 (by decide)).trans (f16 56 (by decide))) ((f31 57 (by decide)).trans (f16 57 (by decide))) ((f31 58 (by decide)).trans (f16 58 (by decide))) ((f31 59 (by decide)).trans (f16 59 (by decide))) hI101
      have I55 : jI102 σ29 := jI102_fr ((f32 6 (by decide)).trans (congrFun (f16 55 (by decide)) 6)) ((f31 60 (by decide)).trans (f16 60 (by decide))) ((f31 61 (by decide)).trans (f16 61 (by decide))) hI102
      have I56 : jI103 σ29 := jI103_fr ((f32 9 (by decide)).trans (congrFun (f16 55 (by decide)) 9)) hI103
      have I57 : jI104 σ29 := jI104_fr ((f32 10 (by decide)).trans (congrFun (f16 55 (by decide)) 10)) ((f32 12 (by decide)).trans (congrFun (f16 55 (by decide)) 12)) ((f32 13 (by decide)).trans (congrFun (f16 55 (by decide)) 13)) ((f31 62 (by decide)).trans (f16 62 (by decide))) ((f31 67 (by decide)).trans (f16 67 (by decide))) hI104
      have I58 : jI106 σ29 := jI106_fr ((f32 32 (by decide)).trans (congrFun (f16 55 (by decide)) 32)) ((f31 70 (by decide)).trans (f16 70 (by decide))) ((f31 71 (by decide)).trans (f16 71 (by decide))) ((f31 72 (by decide)).trans (f16 72 (by decide))) hI106
      have I59 : jI107 σ29 := jI107_fr ((f32 12 (by decide)).trans (congrFun (f16 55 (by decide)) 12)) ((f32 47 (by decide)).trans (congrFun (f16 55 (by decide)) 47)) ((f31 80 (by decide)).trans (f16 80 (by decide))) hI107
      have I60 : jI109 σ29 := jI109_fr ((f32 50 (by decide)).trans (congrFun (f16 55 (by decide)) 50)) hI109
      have I61 : jI110 σ29 := jI110_fr ((f31 86 (by decide)).trans (f16 86 (by decide))) ((f31 87 (by decide)).trans (f16 87 (by decide))) hI110
      have I62 : jI111 σ29 := jI111_fr ((f31 79 (by decide)).trans (f16 79 (by decide))) hI111
      have I63 : jI119 σ29 := jI119_fr ((f31 68 (by decide)).trans (f16 68 (by decide))) hI119
      have p64 : jKept σ29 := jKept.fr ((f31 75 (by decide)).trans (f16 75 (by decide))) ((f31 76 (by decide)).trans (f16 76 (by decide))) ((f31 77 (by decide)).trans (f16 77 (by decide))) hs_jKept
      have p65 : jBook σ29 := jBook.fr ((f32 47 (by decide)).trans (congrFun (f16 55 (by decide)) 47)) ((f32 10 (by decide)).trans (congrFun (f16 55 (by decide)) 10)) ((f31 81 (by decide)).trans (f16 81 (by decide))) hs_jBook
      have z66 : (σ29 38 0).toInt = (σ 38 0).toInt := (congrArg Int32.toInt (show σ29 38 0 = (σ 38 0) from ((congrFun (f31 38 (by decide)) 0).trans (congrFun (f16 38 (by decide)) 0))))
      have z67 : (σ29 55 32).toInt = (σ 55 32).toInt := (congrArg Int32.toInt (show σ29 55 32 = (σ 55 32) from ((f32 32 (by decide)).trans (congrFun (f16 55 (by decide)) 32))))
      exact ih x42 σ29 τ _ _ ls (by have h9 := tx42; omega) ⟨I43, I44, I45, I46, I47, I48, I49, I50, I51, I52, I53, I54, I55, I56, I57, I33, I58, I59, I60, I61, I62, I63, p64, p65, (by omega), (show jShP (σ29 51) (σ29 52) (σ29 53) (σ29 86) (σ29 87) (σ29 55 32).toInt by rw [show σ29 51 = σ 51 from ((f31 51 (by decide)).trans (f16 51 (by decide))), show σ29 52 = σ 52 from ((f31 52 (by decide)).trans (f16 52 (by decide))), show σ29 53 = σ 53 from ((f31 53 (by decide)).trans (f16 53 (by decide))), show σ29 86 = σ 86 from ((f31 86 (by decide)).trans (f16 86 (by decide))), show σ29 87 = σ 87 from ((f31 87 (by decide)).trans (f16 87 (by decide)))]; exact (hr0.up (by omega) (by omega))), (show jEl (σ29 51) (σ29 52) (τ 54) (τ 88) by rw [show σ29 51 = σ 51 from ((f31 51 (by decide)).trans (f16 51 (by decide))), show σ29 52 = σ 52 from ((f31 52 (by decide)).trans (f16 52 (by decide)))]; exact hr1)⟩ hP hS (lv_sub hl [0, 1, 2, 3] rfl)
    · obtain ⟨q73, k69, k70, k71, k72⟩ := h36
      exact absurd (by omega : False) id
    · obtain ⟨q79, k74, k75, k76, k77, k78⟩ := h37
      exact absurd (by omega : False) id
  · obtain ⟨q84, k80, k81, k82, k83⟩ := h21
    have q84 := q84.symm
    subst q84
    refine lv_pop hx hb dL_law_362 rfl ?_
    refine lv_aload_n hx hb dL_law_363 rfl (lv_at hl 1 rfl) ?_
    refine lv_aload_n hx hb dL_law_364 rfl (lv_at hl 3 rfl) ?_
    refine lv_iload_n hx hb dL_law_365 rfl (lv_at hl 0 rfl) ?_
    refine lv_iconst (v := 1) hx hb dL_law_366 (by decide) ?_
    refine lv_iadd hx hb dL_law_367 ?_
    refine jtopr ex10.symm ?_
    refine va_sld hx hb hX hbl hbA hS (jin tx10 (by omega) (by omega)) dL_law_368 ?_
    refine lv_aload_n hx hb dL_law_369 rfl (lv_at hl 3 rfl) ?_
    refine lv_iload_n hx hb dL_law_370 rfl (lv_at hl 0 rfl) ?_
    refine lv_iconst (v := 2) hx hb dL_law_371 (by decide) ?_
    refine lv_iadd hx hb dL_law_372 ?_
    refine jtopr ex12.symm ?_
    refine va_sld hx hb hX hbl hbA hS (jin tx12 (by omega) (by omega)) dL_law_373 ?_
    have I85 : jI105 σ14 := jI105_fr (congrFun (f16 55 (by decide)) 15) (f16 65 (by decide)) hI105
    have z86 : (σ14 55 15).toInt = (σ 55 15).toInt := (congrArg Int32.toInt (show σ14 55 15 = (σ 55 15) from (congrFun (f16 55 (by decide)) 15)))
    refine jcallV (As := [.int (xs x10.toNatClampNeg), .int (xs x12.toNatClampNeg)]) (rest := []) ⟨hx, hb, hml, hown, hts⟩ hK hP hA hS hZ (c_X12_feed l D cI cL ad zz hJ σ14 τ (xs x10.toNatClampNeg) ((xs x10.toNatClampNeg).toInt) rfl (xs x12.toNatClampNeg) ((xs x12.toNatClampNeg).toInt) rfl I85) cw_RL_35 (jc_55 cI cL ad σ14 τ) rfl ⟨Nat.le_of_ble_eq_true rfl, Nat.le_of_ble_eq_true rfl⟩ rfl rfl rfl hl.1 rfl (Nat.le_of_ble_eq_true rfl) dL_law_374 ⟨Nat.le_of_ble_eq_true rfl, Nat.le_of_ble_eq_true rfl⟩ (fun r88 σ87 τ87 H locs h87 hP hS => ?_)
    obtain ⟨rfl, f89, f90, I91, h87⟩ := h87
    rcases h87 with h93 | h94 | h95
    · obtain ⟨q99, k96, k97, k98⟩ := h93
      exact absurd (by omega : False) id
    · obtain ⟨q104, k100, k101, k102, k103⟩ := h94
      have q104 := q104.symm
      subst q104
      refine lv_pop hx hb dL_law_377 rfl ?_
      refine lv_goto (tgt := 1358) hx hb dL_law_378 (by decide) ?_
      obtain ⟨x105, ex105⟩ : ∃ y : Int32, y = x0 + 6 := ⟨_, rfl⟩
      have tx105 : x105.toInt = x0.toInt + 6 := (jadd ex105 rfl jz_6 (by omega) (by omega)).trans (by omega)
      refine lv_iinc (v := x105) (lv' := [(3, .int x105), (2, .ref (ad 55)), (1, .ref (ad 0)), (0, .ref b)]) hx hb dL_law_1358 hl (k := 0) rfl (by rw [ex105]; rfl) (by decide) rfl (fun ls hl => ?_)
      refine lv_goto (tgt := 18) hx hb dL_law_1361 (by decide) ?_
      have I106 : jI2 σ87 := jI2_fr ((congrFun (f89 2 (by decide)) 0).trans (congrFun (f16 2 (by decide)) 0)) ((congrFun (f89 2 (by decide)) 1).trans (congrFun (f16 2 (by decide)) 1)) ((congrFun (f89 2 (by decide)) 2).trans (congrFun (f16 2 (by decide)) 2)) ((congrFun (f89 2 (by decide)) 3).trans (congrFun (f16 2 (by decide)) 3)) ((f89 6 (by decide)).trans (f16 6 (by decide))) hI2
      have I107 : jI9 σ87 := jI9_fr (congrFun (f89 9 (by decide)) 0) (f89 10 (by decide)) (f89 11 (by decide)) I18
      have I108 : jI12 σ87 := jI12_fr ((congrFun (f89 12 (by decide)) 0).trans (congrFun (f16 12 (by decide)) 0)) ((f89 13 (by decide)).trans (f16 13 (by decide))) hI12
      have I109 : jI16 σ87 := jI16_fr ((congrFun (f89 16 (by decide)) 0).trans (congrFun (f16 16 (by decide)) 0)) ((congrFun (f89 16 (by decide)) 1).trans (congrFun (f16 16 (by decide)) 1)) ((congrFun (f89 16 (by decide)) 2).trans (congrFun (f16 16 (by decide)) 2)) ((f89 17 (by decide)).trans (f16 17 (by decide))) hI16
      have I110 : jI18 σ87 := jI18_fr ((congrFun (f89 18 (by decide)) 0).trans (congrFun (f16 18 (by decide)) 0)) ((f89 19 (by decide)).trans (f16 19 (by decide))) hI18
      have I111 : jI22 σ87 := jI22_fr ((congrFun (f89 22 (by decide)) 0).trans (congrFun (f16 22 (by decide)) 0)) ((f89 23 (by decide)).trans (f16 23 (by decide))) hI22
      have I112 : jI31 σ87 := jI31_fr ((congrFun (f89 31 (by decide)) 8).trans (congrFun (f16 31 (by decide)) 8)) ((f89 33 (by decide)).trans (f16 33 (by decide))) ((f89 36 (by decide)).trans (f16 36 (by decide))) hI31
      have I113 : jI38 σ87 := jI38_fr ((congrFun (f89 38 (by decide)) 0).trans (congrFun (f16 38 (by decide)) 0)) ((congrFun (f89 38 (by decide)) 1).trans (congrFun (f16 38 (by decide)) 1)) ((f89 39 (by decide)).trans (f16 39 (by decide))) hI38
      have I114 : jI43 σ87 := jI43_fr ((congrFun (f89 43 (by decide)) 8).trans (congrFun (f16 43 (by decide)) 8)) hI43
      have I115 : jI47 σ87 := jI47_fr ((congrFun (f89 47 (by decide)) 0).trans (congrFun (f16 47 (by decide)) 0)) ((f89 48 (by decide)).trans (f16 48 (by decide))) ((f89 49 (by decide)).trans (f16 49 (by decide))) hI47
      have I116 : jI50 σ87 := jI50_fr ((f89 52 (by decide)).trans (f16 52 (by decide))) hI50
      have I117 : jI101 σ87 := jI101_fr ((f90 4 (by decide)).trans (congrFun (f16 55 (by decide)) 4)) ((f90 5 (by decide)).trans (congrFun (f16 55 (by decide)) 5)) ((f89 56 (by decide)).trans (f16 56 (by decide))) ((f89 57 (by decide)).trans (f16 57 (by decide))) ((f89 58 (by decide)).trans (f16 58 (by decide))) ((f89 59 (by decide)).trans (f16 59 (by decide))) hI101
      have I118 : jI102 σ87 := jI102_fr ((f90 6 (by decide)).trans (congrFun (f16 55 (by decide)) 6)) ((f89 60 (by decide)).trans (f16 60 (by decide))) ((f89 61 (by decide)).trans (f16 61 (by decide))) hI102
      have I119 : jI103 σ87 := jI103_fr ((f90 9 (by decide)).trans (congrFun (f16 55 (by decide)) 9)) hI103
      have I120 : jI104 σ87 := jI104_fr ((f90 10 (by decide)).trans (congrFun (f16 55 (by decide)) 10)) ((f90 12 (by decide)).trans (congrFun (f16 55 (by decide)) 12)) ((f90 13 (by decide)).trans (congrFun (f16 55 (by decide)) 13)) ((f89 62 (by decide)).trans (f16 62 (by decide))) ((f89 67 (by decide)).trans (f16 67 (by decide))) hI104
      have I121 : jI106 σ87 := jI106_fr ((f90 32 (by decide)).trans (congrFun (f16 55 (by decide)) 32)) ((f89 70 (by decide)).trans (f16 70 (by decide))) ((f89 71 (by decide)).trans (f16 71 (by decide))) ((f89 72 (by decide)).trans (f16 72 (by decide))) hI106
      have I122 : jI107 σ87 := jI107_fr ((f90 12 (by decide)).trans (congrFun (f16 55 (by decide)) 12)) ((f90 47 (by decide)).trans (congrFun (f16 55 (by decide)) 47)) ((f89 80 (by decide)).trans (f16 80 (by decide))) hI107
      have I123 : jI109 σ87 := jI109_fr ((f90 50 (by decide)).trans (congrFun (f16 55 (by decide)) 50)) hI109
      have I124 : jI110 σ87 := jI110_fr ((f89 86 (by decide)).trans (f16 86 (by decide))) ((f89 87 (by decide)).trans (f16 87 (by decide))) hI110
      have I125 : jI111 σ87 := jI111_fr ((f89 79 (by decide)).trans (f16 79 (by decide))) hI111
      have I126 : jI119 σ87 := jI119_fr ((f89 68 (by decide)).trans (f16 68 (by decide))) hI119
      have p127 : jKept σ87 := jKept.fr ((f89 75 (by decide)).trans (f16 75 (by decide))) ((f89 76 (by decide)).trans (f16 76 (by decide))) ((f89 77 (by decide)).trans (f16 77 (by decide))) hs_jKept
      have p128 : jBook σ87 := jBook.fr ((f90 47 (by decide)).trans (congrFun (f16 55 (by decide)) 47)) ((f90 10 (by decide)).trans (congrFun (f16 55 (by decide)) 10)) ((f89 81 (by decide)).trans (f16 81 (by decide))) hs_jBook
      have z129 : (σ87 38 0).toInt = (σ 38 0).toInt := (congrArg Int32.toInt (show σ87 38 0 = (σ 38 0) from ((congrFun (f89 38 (by decide)) 0).trans (congrFun (f16 38 (by decide)) 0))))
      have z130 : (σ87 55 32).toInt = (σ 55 32).toInt := (congrArg Int32.toInt (show σ87 55 32 = (σ 55 32) from ((f90 32 (by decide)).trans (congrFun (f16 55 (by decide)) 32))))
      exact ih x105 σ87 τ _ _ ls (by have h9 := tx105; omega) ⟨I106, I107, I108, I109, I110, I111, I112, I113, I114, I115, I116, I117, I118, I119, I120, I91, I121, I122, I123, I124, I125, I126, p127, p128, (by omega), (show jShP (σ87 51) (σ87 52) (σ87 53) (σ87 86) (σ87 87) (σ87 55 32).toInt by rw [show σ87 51 = σ 51 from ((f89 51 (by decide)).trans (f16 51 (by decide))), show σ87 52 = σ 52 from ((f89 52 (by decide)).trans (f16 52 (by decide))), show σ87 53 = σ 53 from ((f89 53 (by decide)).trans (f16 53 (by decide))), show σ87 86 = σ 86 from ((f89 86 (by decide)).trans (f16 86 (by decide))), show σ87 87 = σ 87 from ((f89 87 (by decide)).trans (f16 87 (by decide)))]; exact (hr0.up (by omega) (by omega))), (show jEl (σ87 51) (σ87 52) (τ 54) (τ 88) by rw [show σ87 51 = σ 51 from ((f89 51 (by decide)).trans (f16 51 (by decide))), show σ87 52 = σ 52 from ((f89 52 (by decide)).trans (f16 52 (by decide)))]; exact hr1)⟩ hP hS (lv_sub hl [0, 1, 2, 3] rfl)
    · obtain ⟨q137, k132, k133, k134, k135, k136⟩ := h95
      refine lv_pop hx hb dL_law_377 rfl ?_
      refine lv_goto (tgt := 1358) hx hb dL_law_378 (by decide) ?_
      obtain ⟨x138, ex138⟩ : ∃ y : Int32, y = x0 + 6 := ⟨_, rfl⟩
      have tx138 : x138.toInt = x0.toInt + 6 := (jadd ex138 rfl jz_6 (by omega) (by omega)).trans (by omega)
      refine lv_iinc (v := x138) (lv' := [(3, .int x138), (2, .ref (ad 55)), (1, .ref (ad 0)), (0, .ref b)]) hx hb dL_law_1358 hl (k := 0) rfl (by rw [ex138]; rfl) (by decide) rfl (fun ls hl => ?_)
      refine lv_goto (tgt := 18) hx hb dL_law_1361 (by decide) ?_
      have I139 : jI2 σ87 := jI2_fr ((congrFun (f89 2 (by decide)) 0).trans (congrFun (f16 2 (by decide)) 0)) ((congrFun (f89 2 (by decide)) 1).trans (congrFun (f16 2 (by decide)) 1)) ((congrFun (f89 2 (by decide)) 2).trans (congrFun (f16 2 (by decide)) 2)) ((congrFun (f89 2 (by decide)) 3).trans (congrFun (f16 2 (by decide)) 3)) ((f89 6 (by decide)).trans (f16 6 (by decide))) hI2
      have I140 : jI9 σ87 := jI9_fr (congrFun (f89 9 (by decide)) 0) (f89 10 (by decide)) (f89 11 (by decide)) I18
      have I141 : jI12 σ87 := jI12_fr ((congrFun (f89 12 (by decide)) 0).trans (congrFun (f16 12 (by decide)) 0)) ((f89 13 (by decide)).trans (f16 13 (by decide))) hI12
      have I142 : jI16 σ87 := jI16_fr ((congrFun (f89 16 (by decide)) 0).trans (congrFun (f16 16 (by decide)) 0)) ((congrFun (f89 16 (by decide)) 1).trans (congrFun (f16 16 (by decide)) 1)) ((congrFun (f89 16 (by decide)) 2).trans (congrFun (f16 16 (by decide)) 2)) ((f89 17 (by decide)).trans (f16 17 (by decide))) hI16
      have I143 : jI18 σ87 := jI18_fr ((congrFun (f89 18 (by decide)) 0).trans (congrFun (f16 18 (by decide)) 0)) ((f89 19 (by decide)).trans (f16 19 (by decide))) hI18
      have I144 : jI22 σ87 := jI22_fr ((congrFun (f89 22 (by decide)) 0).trans (congrFun (f16 22 (by decide)) 0)) ((f89 23 (by decide)).trans (f16 23 (by decide))) hI22
      have I145 : jI31 σ87 := jI31_fr ((congrFun (f89 31 (by decide)) 8).trans (congrFun (f16 31 (by decide)) 8)) ((f89 33 (by decide)).trans (f16 33 (by decide))) ((f89 36 (by decide)).trans (f16 36 (by decide))) hI31
      have I146 : jI38 σ87 := jI38_fr ((congrFun (f89 38 (by decide)) 0).trans (congrFun (f16 38 (by decide)) 0)) ((congrFun (f89 38 (by decide)) 1).trans (congrFun (f16 38 (by decide)) 1)) ((f89 39 (by decide)).trans (f16 39 (by decide))) hI38
      have I147 : jI43 σ87 := jI43_fr ((congrFun (f89 43 (by decide)) 8).trans (congrFun (f16 43 (by decide)) 8)) hI43
      have I148 : jI47 σ87 := jI47_fr ((congrFun (f89 47 (by decide)) 0).trans (congrFun (f16 47 (by decide)) 0)) ((f89 48 (by decide)).trans (f16 48 (by decide))) ((f89 49 (by decide)).trans (f16 49 (by decide))) hI47
      have I149 : jI50 σ87 := jI50_fr ((f89 52 (by decide)).trans (f16 52 (by decide))) hI50
      have I150 : jI101 σ87 := jI101_fr ((f90 4 (by decide)).trans (congrFun (f16 55 (by decide)) 4)) ((f90 5 (by decide)).trans (congrFun (f16 55 (by decide)) 5)) ((f89 56 (by decide)).trans (f16 56 (by decide))) ((f89 57 (by decide)).trans (f16 57 (by decide))) ((f89 58 (by decide)).trans (f16 58 (by decide))) ((f89 59 (by decide)).trans (f16 59 (by decide))) hI101
      have I151 : jI102 σ87 := jI102_fr ((f90 6 (by decide)).trans (congrFun (f16 55 (by decide)) 6)) ((f89 60 (by decide)).trans (f16 60 (by decide))) ((f89 61 (by decide)).trans (f16 61 (by decide))) hI102
      have I152 : jI103 σ87 := jI103_fr ((f90 9 (by decide)).trans (congrFun (f16 55 (by decide)) 9)) hI103
      have I153 : jI104 σ87 := jI104_fr ((f90 10 (by decide)).trans (congrFun (f16 55 (by decide)) 10)) ((f90 12 (by decide)).trans (congrFun (f16 55 (by decide)) 12)) ((f90 13 (by decide)).trans (congrFun (f16 55 (by decide)) 13)) ((f89 62 (by decide)).trans (f16 62 (by decide))) ((f89 67 (by decide)).trans (f16 67 (by decide))) hI104
      have I154 : jI106 σ87 := jI106_fr ((f90 32 (by decide)).trans (congrFun (f16 55 (by decide)) 32)) ((f89 70 (by decide)).trans (f16 70 (by decide))) ((f89 71 (by decide)).trans (f16 71 (by decide))) ((f89 72 (by decide)).trans (f16 72 (by decide))) hI106
      have I155 : jI107 σ87 := jI107_fr ((f90 12 (by decide)).trans (congrFun (f16 55 (by decide)) 12)) ((f90 47 (by decide)).trans (congrFun (f16 55 (by decide)) 47)) ((f89 80 (by decide)).trans (f16 80 (by decide))) hI107
      have I156 : jI109 σ87 := jI109_fr ((f90 50 (by decide)).trans (congrFun (f16 55 (by decide)) 50)) hI109
      have I157 : jI110 σ87 := jI110_fr ((f89 86 (by decide)).trans (f16 86 (by decide))) ((f89 87 (by decide)).trans (f16 87 (by decide))) hI110
      have I158 : jI111 σ87 := jI111_fr ((f89 79 (by decide)).trans (f16 79 (by decide))) hI111
      have I159 : jI119 σ87 := jI119_fr ((f89 68 (by decide)).trans (f16 68 (by decide))) hI119
      have p160 : jKept σ87 := jKept.fr ((f89 75 (by decide)).trans (f16 75 (by decide))) ((f89 76 (by decide)).trans (f16 76 (by decide))) ((f89 77 (by decide)).trans (f16 77 (by decide))) hs_jKept
      have p161 : jBook σ87 := jBook.fr ((f90 47 (by decide)).trans (congrFun (f16 55 (by decide)) 47)) ((f90 10 (by decide)).trans (congrFun (f16 55 (by decide)) 10)) ((f89 81 (by decide)).trans (f16 81 (by decide))) hs_jBook
      have z162 : (σ87 38 0).toInt = (σ 38 0).toInt := (congrArg Int32.toInt (show σ87 38 0 = (σ 38 0) from ((congrFun (f89 38 (by decide)) 0).trans (congrFun (f16 38 (by decide)) 0))))
      have z163 : (σ87 55 32).toInt = (σ 55 32).toInt := (congrArg Int32.toInt (show σ87 55 32 = (σ 55 32) from ((f90 32 (by decide)).trans (congrFun (f16 55 (by decide)) 32))))
      exact ih x138 σ87 τ _ _ ls (by have h9 := tx138; omega) ⟨I139, I140, I141, I142, I143, I144, I145, I146, I147, I148, I149, I150, I151, I152, I153, I91, I154, I155, I156, I157, I158, I159, p160, p161, (by omega), (show jShP (σ87 51) (σ87 52) (σ87 53) (σ87 86) (σ87 87) (σ87 55 32).toInt by rw [show σ87 51 = σ 51 from ((f89 51 (by decide)).trans (f16 51 (by decide))), show σ87 52 = σ 52 from ((f89 52 (by decide)).trans (f16 52 (by decide))), show σ87 53 = σ 53 from ((f89 53 (by decide)).trans (f16 53 (by decide))), show σ87 86 = σ 86 from ((f89 86 (by decide)).trans (f16 86 (by decide))), show σ87 87 = σ 87 from ((f89 87 (by decide)).trans (f16 87 (by decide)))]; exact (hr0.up (by omega) (by omega))), (show jEl (σ87 51) (σ87 52) (τ 54) (τ 88) by rw [show σ87 51 = σ 51 from ((f89 51 (by decide)).trans (f16 51 (by decide))), show σ87 52 = σ 52 from ((f89 52 (by decide)).trans (f16 52 (by decide)))]; exact hr1)⟩ hP hS (lv_sub hl [0, 1, 2, 3] rfl)
  · obtain ⟨q170, k165, k166, k167, k168, k169⟩ := h22
    refine lv_pop hx hb dL_law_362 rfl ?_
    refine lv_aload_n hx hb dL_law_363 rfl (lv_at hl 1 rfl) ?_
    refine lv_aload_n hx hb dL_law_364 rfl (lv_at hl 3 rfl) ?_
    refine lv_iload_n hx hb dL_law_365 rfl (lv_at hl 0 rfl) ?_
    refine lv_iconst (v := 1) hx hb dL_law_366 (by decide) ?_
    refine lv_iadd hx hb dL_law_367 ?_
    refine jtopr ex10.symm ?_
    refine va_sld hx hb hX hbl hbA hS (jin tx10 (by omega) (by omega)) dL_law_368 ?_
    refine lv_aload_n hx hb dL_law_369 rfl (lv_at hl 3 rfl) ?_
    refine lv_iload_n hx hb dL_law_370 rfl (lv_at hl 0 rfl) ?_
    refine lv_iconst (v := 2) hx hb dL_law_371 (by decide) ?_
    refine lv_iadd hx hb dL_law_372 ?_
    refine jtopr ex12.symm ?_
    refine va_sld hx hb hX hbl hbA hS (jin tx12 (by omega) (by omega)) dL_law_373 ?_
    have I171 : jI105 σ14 := jI105_fr (congrFun (f16 55 (by decide)) 15) (f16 65 (by decide)) hI105
    have z172 : (σ14 55 15).toInt = (σ 55 15).toInt := (congrArg Int32.toInt (show σ14 55 15 = (σ 55 15) from (congrFun (f16 55 (by decide)) 15)))
    refine jcallV (As := [.int (xs x10.toNatClampNeg), .int (xs x12.toNatClampNeg)]) (rest := []) ⟨hx, hb, hml, hown, hts⟩ hK hP hA hS hZ (c_X12_feed l D cI cL ad zz hJ σ14 τ (xs x10.toNatClampNeg) ((xs x10.toNatClampNeg).toInt) rfl (xs x12.toNatClampNeg) ((xs x12.toNatClampNeg).toInt) rfl I171) cw_RL_35 (jc_55 cI cL ad σ14 τ) rfl ⟨Nat.le_of_ble_eq_true rfl, Nat.le_of_ble_eq_true rfl⟩ rfl rfl rfl hl.1 rfl (Nat.le_of_ble_eq_true rfl) dL_law_374 ⟨Nat.le_of_ble_eq_true rfl, Nat.le_of_ble_eq_true rfl⟩ (fun r174 σ173 τ173 H locs h173 hP hS => ?_)
    obtain ⟨rfl, f175, f176, I177, h173⟩ := h173
    rcases h173 with h179 | h180 | h181
    · obtain ⟨q185, k182, k183, k184⟩ := h179
      exact absurd (by omega : False) id
    · obtain ⟨q190, k186, k187, k188, k189⟩ := h180
      have q190 := q190.symm
      subst q190
      refine lv_pop hx hb dL_law_377 rfl ?_
      refine lv_goto (tgt := 1358) hx hb dL_law_378 (by decide) ?_
      obtain ⟨x191, ex191⟩ : ∃ y : Int32, y = x0 + 6 := ⟨_, rfl⟩
      have tx191 : x191.toInt = x0.toInt + 6 := (jadd ex191 rfl jz_6 (by omega) (by omega)).trans (by omega)
      refine lv_iinc (v := x191) (lv' := [(3, .int x191), (2, .ref (ad 55)), (1, .ref (ad 0)), (0, .ref b)]) hx hb dL_law_1358 hl (k := 0) rfl (by rw [ex191]; rfl) (by decide) rfl (fun ls hl => ?_)
      refine lv_goto (tgt := 18) hx hb dL_law_1361 (by decide) ?_
      have I192 : jI2 σ173 := jI2_fr ((congrFun (f175 2 (by decide)) 0).trans (congrFun (f16 2 (by decide)) 0)) ((congrFun (f175 2 (by decide)) 1).trans (congrFun (f16 2 (by decide)) 1)) ((congrFun (f175 2 (by decide)) 2).trans (congrFun (f16 2 (by decide)) 2)) ((congrFun (f175 2 (by decide)) 3).trans (congrFun (f16 2 (by decide)) 3)) ((f175 6 (by decide)).trans (f16 6 (by decide))) hI2
      have I193 : jI9 σ173 := jI9_fr (congrFun (f175 9 (by decide)) 0) (f175 10 (by decide)) (f175 11 (by decide)) I18
      have I194 : jI12 σ173 := jI12_fr ((congrFun (f175 12 (by decide)) 0).trans (congrFun (f16 12 (by decide)) 0)) ((f175 13 (by decide)).trans (f16 13 (by decide))) hI12
      have I195 : jI16 σ173 := jI16_fr ((congrFun (f175 16 (by decide)) 0).trans (congrFun (f16 16 (by decide)) 0)) ((congrFun (f175 16 (by decide)) 1).trans (congrFun (f16 16 (by decide)) 1)) ((congrFun (f175 16 (by decide)) 2).trans (congrFun (f16 16 (by decide)) 2)) ((f175 17 (by decide)).trans (f16 17 (by decide))) hI16
      have I196 : jI18 σ173 := jI18_fr ((congrFun (f175 18 (by decide)) 0).trans (congrFun (f16 18 (by decide)) 0)) ((f175 19 (by decide)).trans (f16 19 (by decide))) hI18
      have I197 : jI22 σ173 := jI22_fr ((congrFun (f175 22 (by decide)) 0).trans (congrFun (f16 22 (by decide)) 0)) ((f175 23 (by decide)).trans (f16 23 (by decide))) hI22
      have I198 : jI31 σ173 := jI31_fr ((congrFun (f175 31 (by decide)) 8).trans (congrFun (f16 31 (by decide)) 8)) ((f175 33 (by decide)).trans (f16 33 (by decide))) ((f175 36 (by decide)).trans (f16 36 (by decide))) hI31
      have I199 : jI38 σ173 := jI38_fr ((congrFun (f175 38 (by decide)) 0).trans (congrFun (f16 38 (by decide)) 0)) ((congrFun (f175 38 (by decide)) 1).trans (congrFun (f16 38 (by decide)) 1)) ((f175 39 (by decide)).trans (f16 39 (by decide))) hI38
      have I200 : jI43 σ173 := jI43_fr ((congrFun (f175 43 (by decide)) 8).trans (congrFun (f16 43 (by decide)) 8)) hI43
      have I201 : jI47 σ173 := jI47_fr ((congrFun (f175 47 (by decide)) 0).trans (congrFun (f16 47 (by decide)) 0)) ((f175 48 (by decide)).trans (f16 48 (by decide))) ((f175 49 (by decide)).trans (f16 49 (by decide))) hI47
      have I202 : jI50 σ173 := jI50_fr ((f175 52 (by decide)).trans (f16 52 (by decide))) hI50
      have I203 : jI101 σ173 := jI101_fr ((f176 4 (by decide)).trans (congrFun (f16 55 (by decide)) 4)) ((f176 5 (by decide)).trans (congrFun (f16 55 (by decide)) 5)) ((f175 56 (by decide)).trans (f16 56 (by decide))) ((f175 57 (by decide)).trans (f16 57 (by decide))) ((f175 58 (by decide)).trans (f16 58 (by decide))) ((f175 59 (by decide)).trans (f16 59 (by decide))) hI101
      have I204 : jI102 σ173 := jI102_fr ((f176 6 (by decide)).trans (congrFun (f16 55 (by decide)) 6)) ((f175 60 (by decide)).trans (f16 60 (by decide))) ((f175 61 (by decide)).trans (f16 61 (by decide))) hI102
      have I205 : jI103 σ173 := jI103_fr ((f176 9 (by decide)).trans (congrFun (f16 55 (by decide)) 9)) hI103
      have I206 : jI104 σ173 := jI104_fr ((f176 10 (by decide)).trans (congrFun (f16 55 (by decide)) 10)) ((f176 12 (by decide)).trans (congrFun (f16 55 (by decide)) 12)) ((f176 13 (by decide)).trans (congrFun (f16 55 (by decide)) 13)) ((f175 62 (by decide)).trans (f16 62 (by decide))) ((f175 67 (by decide)).trans (f16 67 (by decide))) hI104
      have I207 : jI106 σ173 := jI106_fr ((f176 32 (by decide)).trans (congrFun (f16 55 (by decide)) 32)) ((f175 70 (by decide)).trans (f16 70 (by decide))) ((f175 71 (by decide)).trans (f16 71 (by decide))) ((f175 72 (by decide)).trans (f16 72 (by decide))) hI106
      have I208 : jI107 σ173 := jI107_fr ((f176 12 (by decide)).trans (congrFun (f16 55 (by decide)) 12)) ((f176 47 (by decide)).trans (congrFun (f16 55 (by decide)) 47)) ((f175 80 (by decide)).trans (f16 80 (by decide))) hI107
      have I209 : jI109 σ173 := jI109_fr ((f176 50 (by decide)).trans (congrFun (f16 55 (by decide)) 50)) hI109
      have I210 : jI110 σ173 := jI110_fr ((f175 86 (by decide)).trans (f16 86 (by decide))) ((f175 87 (by decide)).trans (f16 87 (by decide))) hI110
      have I211 : jI111 σ173 := jI111_fr ((f175 79 (by decide)).trans (f16 79 (by decide))) hI111
      have I212 : jI119 σ173 := jI119_fr ((f175 68 (by decide)).trans (f16 68 (by decide))) hI119
      have p213 : jKept σ173 := jKept.fr ((f175 75 (by decide)).trans (f16 75 (by decide))) ((f175 76 (by decide)).trans (f16 76 (by decide))) ((f175 77 (by decide)).trans (f16 77 (by decide))) hs_jKept
      have p214 : jBook σ173 := jBook.fr ((f176 47 (by decide)).trans (congrFun (f16 55 (by decide)) 47)) ((f176 10 (by decide)).trans (congrFun (f16 55 (by decide)) 10)) ((f175 81 (by decide)).trans (f16 81 (by decide))) hs_jBook
      have z215 : (σ173 38 0).toInt = (σ 38 0).toInt := (congrArg Int32.toInt (show σ173 38 0 = (σ 38 0) from ((congrFun (f175 38 (by decide)) 0).trans (congrFun (f16 38 (by decide)) 0))))
      have z216 : (σ173 55 32).toInt = (σ 55 32).toInt := (congrArg Int32.toInt (show σ173 55 32 = (σ 55 32) from ((f176 32 (by decide)).trans (congrFun (f16 55 (by decide)) 32))))
      exact ih x191 σ173 τ _ _ ls (by have h9 := tx191; omega) ⟨I192, I193, I194, I195, I196, I197, I198, I199, I200, I201, I202, I203, I204, I205, I206, I177, I207, I208, I209, I210, I211, I212, p213, p214, (by omega), (show jShP (σ173 51) (σ173 52) (σ173 53) (σ173 86) (σ173 87) (σ173 55 32).toInt by rw [show σ173 51 = σ 51 from ((f175 51 (by decide)).trans (f16 51 (by decide))), show σ173 52 = σ 52 from ((f175 52 (by decide)).trans (f16 52 (by decide))), show σ173 53 = σ 53 from ((f175 53 (by decide)).trans (f16 53 (by decide))), show σ173 86 = σ 86 from ((f175 86 (by decide)).trans (f16 86 (by decide))), show σ173 87 = σ 87 from ((f175 87 (by decide)).trans (f16 87 (by decide)))]; exact (hr0.up (by omega) (by omega))), (show jEl (σ173 51) (σ173 52) (τ 54) (τ 88) by rw [show σ173 51 = σ 51 from ((f175 51 (by decide)).trans (f16 51 (by decide))), show σ173 52 = σ 52 from ((f175 52 (by decide)).trans (f16 52 (by decide)))]; exact hr1)⟩ hP hS (lv_sub hl [0, 1, 2, 3] rfl)
    · obtain ⟨q223, k218, k219, k220, k221, k222⟩ := h181
      refine lv_pop hx hb dL_law_377 rfl ?_
      refine lv_goto (tgt := 1358) hx hb dL_law_378 (by decide) ?_
      obtain ⟨x224, ex224⟩ : ∃ y : Int32, y = x0 + 6 := ⟨_, rfl⟩
      have tx224 : x224.toInt = x0.toInt + 6 := (jadd ex224 rfl jz_6 (by omega) (by omega)).trans (by omega)
      refine lv_iinc (v := x224) (lv' := [(3, .int x224), (2, .ref (ad 55)), (1, .ref (ad 0)), (0, .ref b)]) hx hb dL_law_1358 hl (k := 0) rfl (by rw [ex224]; rfl) (by decide) rfl (fun ls hl => ?_)
      refine lv_goto (tgt := 18) hx hb dL_law_1361 (by decide) ?_
      have I225 : jI2 σ173 := jI2_fr ((congrFun (f175 2 (by decide)) 0).trans (congrFun (f16 2 (by decide)) 0)) ((congrFun (f175 2 (by decide)) 1).trans (congrFun (f16 2 (by decide)) 1)) ((congrFun (f175 2 (by decide)) 2).trans (congrFun (f16 2 (by decide)) 2)) ((congrFun (f175 2 (by decide)) 3).trans (congrFun (f16 2 (by decide)) 3)) ((f175 6 (by decide)).trans (f16 6 (by decide))) hI2
      have I226 : jI9 σ173 := jI9_fr (congrFun (f175 9 (by decide)) 0) (f175 10 (by decide)) (f175 11 (by decide)) I18
      have I227 : jI12 σ173 := jI12_fr ((congrFun (f175 12 (by decide)) 0).trans (congrFun (f16 12 (by decide)) 0)) ((f175 13 (by decide)).trans (f16 13 (by decide))) hI12
      have I228 : jI16 σ173 := jI16_fr ((congrFun (f175 16 (by decide)) 0).trans (congrFun (f16 16 (by decide)) 0)) ((congrFun (f175 16 (by decide)) 1).trans (congrFun (f16 16 (by decide)) 1)) ((congrFun (f175 16 (by decide)) 2).trans (congrFun (f16 16 (by decide)) 2)) ((f175 17 (by decide)).trans (f16 17 (by decide))) hI16
      have I229 : jI18 σ173 := jI18_fr ((congrFun (f175 18 (by decide)) 0).trans (congrFun (f16 18 (by decide)) 0)) ((f175 19 (by decide)).trans (f16 19 (by decide))) hI18
      have I230 : jI22 σ173 := jI22_fr ((congrFun (f175 22 (by decide)) 0).trans (congrFun (f16 22 (by decide)) 0)) ((f175 23 (by decide)).trans (f16 23 (by decide))) hI22
      have I231 : jI31 σ173 := jI31_fr ((congrFun (f175 31 (by decide)) 8).trans (congrFun (f16 31 (by decide)) 8)) ((f175 33 (by decide)).trans (f16 33 (by decide))) ((f175 36 (by decide)).trans (f16 36 (by decide))) hI31
      have I232 : jI38 σ173 := jI38_fr ((congrFun (f175 38 (by decide)) 0).trans (congrFun (f16 38 (by decide)) 0)) ((congrFun (f175 38 (by decide)) 1).trans (congrFun (f16 38 (by decide)) 1)) ((f175 39 (by decide)).trans (f16 39 (by decide))) hI38
      have I233 : jI43 σ173 := jI43_fr ((congrFun (f175 43 (by decide)) 8).trans (congrFun (f16 43 (by decide)) 8)) hI43
      have I234 : jI47 σ173 := jI47_fr ((congrFun (f175 47 (by decide)) 0).trans (congrFun (f16 47 (by decide)) 0)) ((f175 48 (by decide)).trans (f16 48 (by decide))) ((f175 49 (by decide)).trans (f16 49 (by decide))) hI47
      have I235 : jI50 σ173 := jI50_fr ((f175 52 (by decide)).trans (f16 52 (by decide))) hI50
      have I236 : jI101 σ173 := jI101_fr ((f176 4 (by decide)).trans (congrFun (f16 55 (by decide)) 4)) ((f176 5 (by decide)).trans (congrFun (f16 55 (by decide)) 5)) ((f175 56 (by decide)).trans (f16 56 (by decide))) ((f175 57 (by decide)).trans (f16 57 (by decide))) ((f175 58 (by decide)).trans (f16 58 (by decide))) ((f175 59 (by decide)).trans (f16 59 (by decide))) hI101
      have I237 : jI102 σ173 := jI102_fr ((f176 6 (by decide)).trans (congrFun (f16 55 (by decide)) 6)) ((f175 60 (by decide)).trans (f16 60 (by decide))) ((f175 61 (by decide)).trans (f16 61 (by decide))) hI102
      have I238 : jI103 σ173 := jI103_fr ((f176 9 (by decide)).trans (congrFun (f16 55 (by decide)) 9)) hI103
      have I239 : jI104 σ173 := jI104_fr ((f176 10 (by decide)).trans (congrFun (f16 55 (by decide)) 10)) ((f176 12 (by decide)).trans (congrFun (f16 55 (by decide)) 12)) ((f176 13 (by decide)).trans (congrFun (f16 55 (by decide)) 13)) ((f175 62 (by decide)).trans (f16 62 (by decide))) ((f175 67 (by decide)).trans (f16 67 (by decide))) hI104
      have I240 : jI106 σ173 := jI106_fr ((f176 32 (by decide)).trans (congrFun (f16 55 (by decide)) 32)) ((f175 70 (by decide)).trans (f16 70 (by decide))) ((f175 71 (by decide)).trans (f16 71 (by decide))) ((f175 72 (by decide)).trans (f16 72 (by decide))) hI106
      have I241 : jI107 σ173 := jI107_fr ((f176 12 (by decide)).trans (congrFun (f16 55 (by decide)) 12)) ((f176 47 (by decide)).trans (congrFun (f16 55 (by decide)) 47)) ((f175 80 (by decide)).trans (f16 80 (by decide))) hI107
      have I242 : jI109 σ173 := jI109_fr ((f176 50 (by decide)).trans (congrFun (f16 55 (by decide)) 50)) hI109
      have I243 : jI110 σ173 := jI110_fr ((f175 86 (by decide)).trans (f16 86 (by decide))) ((f175 87 (by decide)).trans (f16 87 (by decide))) hI110
      have I244 : jI111 σ173 := jI111_fr ((f175 79 (by decide)).trans (f16 79 (by decide))) hI111
      have I245 : jI119 σ173 := jI119_fr ((f175 68 (by decide)).trans (f16 68 (by decide))) hI119
      have p246 : jKept σ173 := jKept.fr ((f175 75 (by decide)).trans (f16 75 (by decide))) ((f175 76 (by decide)).trans (f16 76 (by decide))) ((f175 77 (by decide)).trans (f16 77 (by decide))) hs_jKept
      have p247 : jBook σ173 := jBook.fr ((f176 47 (by decide)).trans (congrFun (f16 55 (by decide)) 47)) ((f176 10 (by decide)).trans (congrFun (f16 55 (by decide)) 10)) ((f175 81 (by decide)).trans (f16 81 (by decide))) hs_jBook
      have z248 : (σ173 38 0).toInt = (σ 38 0).toInt := (congrArg Int32.toInt (show σ173 38 0 = (σ 38 0) from ((congrFun (f175 38 (by decide)) 0).trans (congrFun (f16 38 (by decide)) 0))))
      have z249 : (σ173 55 32).toInt = (σ 55 32).toInt := (congrArg Int32.toInt (show σ173 55 32 = (σ 55 32) from ((f176 32 (by decide)).trans (congrFun (f16 55 (by decide)) 32))))
      exact ih x224 σ173 τ _ _ ls (by have h9 := tx224; omega) ⟨I225, I226, I227, I228, I229, I230, I231, I232, I233, I234, I235, I236, I237, I238, I239, I177, I240, I241, I242, I243, I244, I245, p246, p247, (by omega), (show jShP (σ173 51) (σ173 52) (σ173 53) (σ173 86) (σ173 87) (σ173 55 32).toInt by rw [show σ173 51 = σ 51 from ((f175 51 (by decide)).trans (f16 51 (by decide))), show σ173 52 = σ 52 from ((f175 52 (by decide)).trans (f16 52 (by decide))), show σ173 53 = σ 53 from ((f175 53 (by decide)).trans (f16 53 (by decide))), show σ173 86 = σ 86 from ((f175 86 (by decide)).trans (f16 86 (by decide))), show σ173 87 = σ 87 from ((f175 87 (by decide)).trans (f16 87 (by decide)))]; exact (hr0.up (by omega) (by omega))), (show jEl (σ173 51) (σ173 52) (τ 54) (τ 88) by rw [show σ173 51 = σ 51 from ((f175 51 (by decide)).trans (f16 51 (by decide))), show σ173 52 = σ 52 from ((f175 52 (by decide)).trans (f16 52 (by decide)))]; exact hr1)⟩ hP hS (lv_sub hl [0, 1, 2, 3] rfl)
set_option maxHeartbeats 4000000 in
set_option maxRecDepth 100000 in
theorem law_case_5 {p : Program} {e : Env} {s : State} {m : MethodId} {below : List Frame} {meth : Method} {c : Code} (l : Launch) {b L : Nat} {xs : Nat → Int32} {D : va_G} {cI cL : ClassId} {ad zz : Nat → Nat} (C0 : lw_At p s m meth c b L xs) (hJ : jD ad) (hA : ∀ q, jA ad q → s.heap.size ≤ q) (hK : jK D cI cL s) (hZ : jZ zz (fun q : Nat => s.heap.size ≤ q) s s.heap) {x0 : Int32} (hx0 : 0 ≤ x0.toInt) (hxL : x0.toInt + 6 ≤ (L : Int)) (hL : L ≤ 384) {σ : Nat → Nat → Int32} {τ : Nat → Nat → Int64} {H : Heap} {locs : List Loc} (hS : va_S (fun q : Nat => s.heap.size ≤ q) s.heap H locs) {ls : Array Slot} (hAll : jAll σ τ) (hP : jH D cI cL ad σ τ H) (hl : lv_has ls 4 [(3, .int x0), (2, .ref (ad 55)), (1, .ref (ad 0)), (0, .ref b)]) (ih : ∀ (x1 : Int32) (σ : Nat → Nat → Int32) (τ : Nat → Nat → Int64) (H : Heap) (locs : List Loc) (ls : Array Slot), x1.toInt = x0.toInt + 6 → jAll σ τ → jH D cI cL ad σ τ H → va_S (fun q : Nat => s.heap.size ≤ q) s.heap H locs → lv_has ls 4 [(3, .int x1), (2, .ref (ad 55)), (1, .ref (ad 0)), (0, .ref b)] → W p l e room_1 s m #[Value.ref b] below meth c H locs 90 348600 (lw_Z below #[Value.ref b] s) (F0 m 18 ls [])) : W p l e room_1 s m #[Value.ref b] below meth c H locs 90 348600 (lw_Z below #[Value.ref b] s) (F0 m 381 ls []) := by
  obtain ⟨hx, hb, hr, hml, hown, hts0, hX, hbl, hlocks, hgv⟩ := C0
  have hts : ∀ w ∈ wsL_law, w.before #[Value.ref b] s = true := fun w h => hts0 w (wsL_law_in w h)
  have hbA : ¬ (fun q : Nat => s.heap.size ≤ q) b := Nat.not_le.mpr hbl
  have hown : s.vm.findClass RL = some m.cls := hown
  obtain ⟨hI2, hI9, hI12, hI16, hI18, hI22, hI31, hI38, hI43, hI47, hI50, hI101, hI102, hI103, hI104, hI105, hI106, hI107, hI109, hI110, hI111, hI119, hs_jKept, hs_jBook, ht0, hr0, hr1⟩ := hAll
  have hL9 : (L : Int) ≤ 384 := by omega
  obtain ⟨i1, i2, w3⟩ : (0 ≤ (σ 38 0).toInt ∧ (σ 38 0).toInt ≤ 20) ∧ (0 ≤ (σ 38 1).toInt ∧ (σ 38 1).toInt ≤ 1000) ∧ (∀ k : Nat, k < 20 → 0 ≤ (σ 39 k).toInt ∧ (σ 39 k).toInt ≤ 6) := id hI38
  have w4 : ∀ k : Nat, k < 6 → 0 ≤ (σ 52 k).toInt ∧ (σ 52 k).toInt ≤ 60 := hI50
  obtain ⟨i5, w6, w7, w8⟩ : (0 ≤ (σ 55 32).toInt ∧ (σ 55 32).toInt ≤ 20) ∧ (∀ k : Nat, k < 20 → 0 ≤ (σ 70 k).toInt ∧ (σ 70 k).toInt ≤ 6) ∧ (∀ k : Nat, k < 20 → 0 ≤ (σ 71 k).toInt ∧ (σ 71 k).toInt ≤ 8) ∧ (∀ k : Nat, k < 160 → 0 ≤ (σ 72 k).toInt ∧ (σ 72 k).toInt ≤ 3) := id hI106
  refine lv_aload_n hx hb dL_law_381 rfl (lv_at hl 2 rfl) ?_
  refine jcallV (As := []) (rest := []) ⟨hx, hb, hml, hown, hts⟩ hK hP hA hS hZ (c_X11_order l D cI cL ad zz hJ σ τ hI9 hI16 hI47) cw_RL_36 (jc_0 cI cL ad σ τ) rfl ⟨Nat.le_of_ble_eq_true rfl, Nat.le_of_ble_eq_true rfl⟩ rfl rfl rfl hl.1 rfl (Nat.le_of_ble_eq_true rfl) dL_law_382 ⟨Nat.le_of_ble_eq_true rfl, Nat.le_of_ble_eq_true rfl⟩ (fun r10 σ9 τ9 H locs h9 hP hS => ?_)
  obtain ⟨rfl, f11, f12, f13, f14, I15, I16, I17, w18, h9⟩ := h9
  obtain ⟨k20, h9⟩ := h9
  rcases h9 with h21 | h22
  · obtain ⟨q25, k23, k24⟩ := h21
    refine lv_pop hx hb dL_law_385 rfl ?_
    refine lv_aload_n hx hb dL_law_386 rfl (lv_at hl 1 rfl) ?_
    have I26 : jI104 σ9 := jI104_fr (congrFun (f11 55 (by decide)) 10) (congrFun (f11 55 (by decide)) 12) (congrFun (f11 55 (by decide)) 13) (f11 62 (by decide)) (f11 67 (by decide)) hI104
    have I27 : jI105 σ9 := jI105_fr (congrFun (f11 55 (by decide)) 15) (f11 65 (by decide)) hI105
    have I28 : jI107 σ9 := jI107_fr (congrFun (f11 55 (by decide)) 12) (congrFun (f11 55 (by decide)) 47) (f11 80 (by decide)) hI107
    have p29 : jBook σ9 := jBook.fr (congrFun (f11 55 (by decide)) 47) (congrFun (f11 55 (by decide)) 10) (f11 81 (by decide)) hs_jBook
    have z30 : (σ9 55 47).toInt = (σ 55 47).toInt := (congrArg Int32.toInt (show σ9 55 47 = (σ 55 47) from (congrFun (f11 55 (by decide)) 47)))
    refine jcallV (As := []) (rest := []) ⟨hx, hb, hml, hown, hts⟩ hK hP hA hS hZ (c_X12_order l D cI cL ad zz hJ σ9 τ I26 I27 I28 p29) cw_RL_40 (jc_55 cI cL ad σ9 τ) rfl ⟨Nat.le_of_ble_eq_true rfl, Nat.le_of_ble_eq_true rfl⟩ rfl rfl rfl hl.1 rfl (Nat.le_of_ble_eq_true rfl) dL_law_387 ⟨Nat.le_of_ble_eq_true rfl, Nat.le_of_ble_eq_true rfl⟩ (fun r32 σ31 τ31 H locs h31 hP hS => ?_)
    obtain ⟨rfl, f33, f34, I35, I36, I37, p38, w39, h31⟩ := h31
    obtain ⟨k41, h31⟩ := h31
    rcases h31 with h42 | h43
    · obtain ⟨q46, k44, k45⟩ := h42
      refine lv_pop hx hb dL_law_390 rfl ?_
      refine lv_goto (tgt := 1358) hx hb dL_law_391 (by decide) ?_
      obtain ⟨x47, ex47⟩ : ∃ y : Int32, y = x0 + 6 := ⟨_, rfl⟩
      have tx47 : x47.toInt = x0.toInt + 6 := (jadd ex47 rfl jz_6 (by omega) (by omega)).trans (by omega)
      refine lv_iinc (v := x47) (lv' := [(3, .int x47), (2, .ref (ad 55)), (1, .ref (ad 0)), (0, .ref b)]) hx hb dL_law_1358 hl (k := 0) rfl (by rw [ex47]; rfl) (by decide) rfl (fun ls hl => ?_)
      refine lv_goto (tgt := 18) hx hb dL_law_1361 (by decide) ?_
      have I48 : jI2 σ31 := jI2_fr ((congrFun (f33 2 (by decide)) 0).trans (congrFun (f11 2 (by decide)) 0)) ((congrFun (f33 2 (by decide)) 1).trans (congrFun (f11 2 (by decide)) 1)) ((congrFun (f33 2 (by decide)) 2).trans (congrFun (f11 2 (by decide)) 2)) ((congrFun (f33 2 (by decide)) 3).trans (congrFun (f11 2 (by decide)) 3)) ((f33 6 (by decide)).trans (f11 6 (by decide))) hI2
      have I49 : jI9 σ31 := jI9_fr (congrFun (f33 9 (by decide)) 0) (f33 10 (by decide)) (f33 11 (by decide)) I15
      have I50 : jI12 σ31 := jI12_fr ((congrFun (f33 12 (by decide)) 0).trans (congrFun (f11 12 (by decide)) 0)) ((f33 13 (by decide)).trans (f11 13 (by decide))) hI12
      have I51 : jI16 σ31 := jI16_fr (congrFun (f33 16 (by decide)) 0) (congrFun (f33 16 (by decide)) 1) (congrFun (f33 16 (by decide)) 2) (f33 17 (by decide)) I16
      have I52 : jI18 σ31 := jI18_fr ((congrFun (f33 18 (by decide)) 0).trans (congrFun (f11 18 (by decide)) 0)) ((f33 19 (by decide)).trans (f11 19 (by decide))) hI18
      have I53 : jI22 σ31 := jI22_fr ((congrFun (f33 22 (by decide)) 0).trans (congrFun (f11 22 (by decide)) 0)) ((f33 23 (by decide)).trans (f11 23 (by decide))) hI22
      have I54 : jI31 σ31 := jI31_fr ((congrFun (f33 31 (by decide)) 8).trans (congrFun (f11 31 (by decide)) 8)) ((f33 33 (by decide)).trans (f11 33 (by decide))) ((f33 36 (by decide)).trans (f11 36 (by decide))) hI31
      have I55 : jI38 σ31 := jI38_fr ((congrFun (f33 38 (by decide)) 0).trans (congrFun (f11 38 (by decide)) 0)) ((congrFun (f33 38 (by decide)) 1).trans (congrFun (f11 38 (by decide)) 1)) ((f33 39 (by decide)).trans (f11 39 (by decide))) hI38
      have I56 : jI43 σ31 := jI43_fr ((congrFun (f33 43 (by decide)) 8).trans (congrFun (f11 43 (by decide)) 8)) hI43
      have I57 : jI47 σ31 := jI47_fr (congrFun (f33 47 (by decide)) 0) (f33 48 (by decide)) (f33 49 (by decide)) I17
      have I58 : jI50 σ31 := jI50_fr ((f33 52 (by decide)).trans (f11 52 (by decide))) hI50
      have I59 : jI101 σ31 := jI101_fr ((f34 4 (by decide)).trans (congrFun (f11 55 (by decide)) 4)) ((f34 5 (by decide)).trans (congrFun (f11 55 (by decide)) 5)) ((f33 56 (by decide)).trans (f11 56 (by decide))) ((f33 57 (by decide)).trans (f11 57 (by decide))) ((f33 58 (by decide)).trans (f11 58 (by decide))) ((f33 59 (by decide)).trans (f11 59 (by decide))) hI101
      have I60 : jI102 σ31 := jI102_fr ((f34 6 (by decide)).trans (congrFun (f11 55 (by decide)) 6)) ((f33 60 (by decide)).trans (f11 60 (by decide))) ((f33 61 (by decide)).trans (f11 61 (by decide))) hI102
      have I61 : jI103 σ31 := jI103_fr ((f34 9 (by decide)).trans (congrFun (f11 55 (by decide)) 9)) hI103
      have I62 : jI106 σ31 := jI106_fr ((f34 32 (by decide)).trans (congrFun (f11 55 (by decide)) 32)) ((f33 70 (by decide)).trans (f11 70 (by decide))) ((f33 71 (by decide)).trans (f11 71 (by decide))) ((f33 72 (by decide)).trans (f11 72 (by decide))) hI106
      have I63 : jI109 σ31 := jI109_fr ((f34 50 (by decide)).trans (congrFun (f11 55 (by decide)) 50)) hI109
      have I64 : jI110 σ31 := jI110_fr ((f33 86 (by decide)).trans (f11 86 (by decide))) ((f33 87 (by decide)).trans (f11 87 (by decide))) hI110
      have I65 : jI111 σ31 := jI111_fr ((f33 79 (by decide)).trans (f11 79 (by decide))) hI111
      have I66 : jI119 σ31 := jI119_fr ((f33 68 (by decide)).trans (f11 68 (by decide))) hI119
      have p67 : jKept σ31 := jKept.fr ((f33 75 (by decide)).trans (f11 75 (by decide))) ((f33 76 (by decide)).trans (f11 76 (by decide))) ((f33 77 (by decide)).trans (f11 77 (by decide))) hs_jKept
      have z68 : (σ31 38 0).toInt = (σ 38 0).toInt := (congrArg Int32.toInt (show σ31 38 0 = (σ 38 0) from ((congrFun (f33 38 (by decide)) 0).trans (congrFun (f11 38 (by decide)) 0))))
      have z69 : (σ31 55 32).toInt = (σ 55 32).toInt := (congrArg Int32.toInt (show σ31 55 32 = (σ 55 32) from ((f34 32 (by decide)).trans (congrFun (f11 55 (by decide)) 32))))
      exact ih x47 σ31 τ _ _ ls (by have h9 := tx47; omega) ⟨I48, I49, I50, I51, I52, I53, I54, I55, I56, I57, I58, I59, I60, I61, I35, I36, I62, I37, I63, I64, I65, I66, p67, p38, (by omega), (show jShP (σ31 51) (σ31 52) (σ31 53) (σ31 86) (σ31 87) (σ31 55 32).toInt by rw [show σ31 51 = σ 51 from ((f33 51 (by decide)).trans (f11 51 (by decide))), show σ31 52 = σ 52 from ((f33 52 (by decide)).trans (f11 52 (by decide))), show σ31 53 = σ 53 from ((f33 53 (by decide)).trans (f11 53 (by decide))), show σ31 86 = σ 86 from ((f33 86 (by decide)).trans (f11 86 (by decide))), show σ31 87 = σ 87 from ((f33 87 (by decide)).trans (f11 87 (by decide)))]; exact (hr0.up (by omega) (by omega))), (show jEl (σ31 51) (σ31 52) (τ 54) (τ 88) by rw [show σ31 51 = σ 51 from ((f33 51 (by decide)).trans (f11 51 (by decide))), show σ31 52 = σ 52 from ((f33 52 (by decide)).trans (f11 52 (by decide)))]; exact hr1)⟩ hP hS (lv_sub hl [0, 1, 2, 3] rfl)
    · obtain ⟨q73, k71, k72⟩ := h43
      refine lv_pop hx hb dL_law_390 rfl ?_
      refine lv_goto (tgt := 1358) hx hb dL_law_391 (by decide) ?_
      obtain ⟨x74, ex74⟩ : ∃ y : Int32, y = x0 + 6 := ⟨_, rfl⟩
      have tx74 : x74.toInt = x0.toInt + 6 := (jadd ex74 rfl jz_6 (by omega) (by omega)).trans (by omega)
      refine lv_iinc (v := x74) (lv' := [(3, .int x74), (2, .ref (ad 55)), (1, .ref (ad 0)), (0, .ref b)]) hx hb dL_law_1358 hl (k := 0) rfl (by rw [ex74]; rfl) (by decide) rfl (fun ls hl => ?_)
      refine lv_goto (tgt := 18) hx hb dL_law_1361 (by decide) ?_
      have I75 : jI2 σ31 := jI2_fr ((congrFun (f33 2 (by decide)) 0).trans (congrFun (f11 2 (by decide)) 0)) ((congrFun (f33 2 (by decide)) 1).trans (congrFun (f11 2 (by decide)) 1)) ((congrFun (f33 2 (by decide)) 2).trans (congrFun (f11 2 (by decide)) 2)) ((congrFun (f33 2 (by decide)) 3).trans (congrFun (f11 2 (by decide)) 3)) ((f33 6 (by decide)).trans (f11 6 (by decide))) hI2
      have I76 : jI9 σ31 := jI9_fr (congrFun (f33 9 (by decide)) 0) (f33 10 (by decide)) (f33 11 (by decide)) I15
      have I77 : jI12 σ31 := jI12_fr ((congrFun (f33 12 (by decide)) 0).trans (congrFun (f11 12 (by decide)) 0)) ((f33 13 (by decide)).trans (f11 13 (by decide))) hI12
      have I78 : jI16 σ31 := jI16_fr (congrFun (f33 16 (by decide)) 0) (congrFun (f33 16 (by decide)) 1) (congrFun (f33 16 (by decide)) 2) (f33 17 (by decide)) I16
      have I79 : jI18 σ31 := jI18_fr ((congrFun (f33 18 (by decide)) 0).trans (congrFun (f11 18 (by decide)) 0)) ((f33 19 (by decide)).trans (f11 19 (by decide))) hI18
      have I80 : jI22 σ31 := jI22_fr ((congrFun (f33 22 (by decide)) 0).trans (congrFun (f11 22 (by decide)) 0)) ((f33 23 (by decide)).trans (f11 23 (by decide))) hI22
      have I81 : jI31 σ31 := jI31_fr ((congrFun (f33 31 (by decide)) 8).trans (congrFun (f11 31 (by decide)) 8)) ((f33 33 (by decide)).trans (f11 33 (by decide))) ((f33 36 (by decide)).trans (f11 36 (by decide))) hI31
      have I82 : jI38 σ31 := jI38_fr ((congrFun (f33 38 (by decide)) 0).trans (congrFun (f11 38 (by decide)) 0)) ((congrFun (f33 38 (by decide)) 1).trans (congrFun (f11 38 (by decide)) 1)) ((f33 39 (by decide)).trans (f11 39 (by decide))) hI38
      have I83 : jI43 σ31 := jI43_fr ((congrFun (f33 43 (by decide)) 8).trans (congrFun (f11 43 (by decide)) 8)) hI43
      have I84 : jI47 σ31 := jI47_fr (congrFun (f33 47 (by decide)) 0) (f33 48 (by decide)) (f33 49 (by decide)) I17
      have I85 : jI50 σ31 := jI50_fr ((f33 52 (by decide)).trans (f11 52 (by decide))) hI50
      have I86 : jI101 σ31 := jI101_fr ((f34 4 (by decide)).trans (congrFun (f11 55 (by decide)) 4)) ((f34 5 (by decide)).trans (congrFun (f11 55 (by decide)) 5)) ((f33 56 (by decide)).trans (f11 56 (by decide))) ((f33 57 (by decide)).trans (f11 57 (by decide))) ((f33 58 (by decide)).trans (f11 58 (by decide))) ((f33 59 (by decide)).trans (f11 59 (by decide))) hI101
      have I87 : jI102 σ31 := jI102_fr ((f34 6 (by decide)).trans (congrFun (f11 55 (by decide)) 6)) ((f33 60 (by decide)).trans (f11 60 (by decide))) ((f33 61 (by decide)).trans (f11 61 (by decide))) hI102
      have I88 : jI103 σ31 := jI103_fr ((f34 9 (by decide)).trans (congrFun (f11 55 (by decide)) 9)) hI103
      have I89 : jI106 σ31 := jI106_fr ((f34 32 (by decide)).trans (congrFun (f11 55 (by decide)) 32)) ((f33 70 (by decide)).trans (f11 70 (by decide))) ((f33 71 (by decide)).trans (f11 71 (by decide))) ((f33 72 (by decide)).trans (f11 72 (by decide))) hI106
      have I90 : jI109 σ31 := jI109_fr ((f34 50 (by decide)).trans (congrFun (f11 55 (by decide)) 50)) hI109
      have I91 : jI110 σ31 := jI110_fr ((f33 86 (by decide)).trans (f11 86 (by decide))) ((f33 87 (by decide)).trans (f11 87 (by decide))) hI110
      have I92 : jI111 σ31 := jI111_fr ((f33 79 (by decide)).trans (f11 79 (by decide))) hI111
      have I93 : jI119 σ31 := jI119_fr ((f33 68 (by decide)).trans (f11 68 (by decide))) hI119
      have p94 : jKept σ31 := jKept.fr ((f33 75 (by decide)).trans (f11 75 (by decide))) ((f33 76 (by decide)).trans (f11 76 (by decide))) ((f33 77 (by decide)).trans (f11 77 (by decide))) hs_jKept
      have z95 : (σ31 38 0).toInt = (σ 38 0).toInt := (congrArg Int32.toInt (show σ31 38 0 = (σ 38 0) from ((congrFun (f33 38 (by decide)) 0).trans (congrFun (f11 38 (by decide)) 0))))
      have z96 : (σ31 55 32).toInt = (σ 55 32).toInt := (congrArg Int32.toInt (show σ31 55 32 = (σ 55 32) from ((f34 32 (by decide)).trans (congrFun (f11 55 (by decide)) 32))))
      exact ih x74 σ31 τ _ _ ls (by have h9 := tx74; omega) ⟨I75, I76, I77, I78, I79, I80, I81, I82, I83, I84, I85, I86, I87, I88, I35, I36, I89, I37, I90, I91, I92, I93, p94, p38, (by omega), (show jShP (σ31 51) (σ31 52) (σ31 53) (σ31 86) (σ31 87) (σ31 55 32).toInt by rw [show σ31 51 = σ 51 from ((f33 51 (by decide)).trans (f11 51 (by decide))), show σ31 52 = σ 52 from ((f33 52 (by decide)).trans (f11 52 (by decide))), show σ31 53 = σ 53 from ((f33 53 (by decide)).trans (f11 53 (by decide))), show σ31 86 = σ 86 from ((f33 86 (by decide)).trans (f11 86 (by decide))), show σ31 87 = σ 87 from ((f33 87 (by decide)).trans (f11 87 (by decide)))]; exact (hr0.up (by omega) (by omega))), (show jEl (σ31 51) (σ31 52) (τ 54) (τ 88) by rw [show σ31 51 = σ 51 from ((f33 51 (by decide)).trans (f11 51 (by decide))), show σ31 52 = σ 52 from ((f33 52 (by decide)).trans (f11 52 (by decide)))]; exact hr1)⟩ hP hS (lv_sub hl [0, 1, 2, 3] rfl)
  · obtain ⟨q100, k98, k99⟩ := h22
    refine lv_pop hx hb dL_law_385 rfl ?_
    refine lv_aload_n hx hb dL_law_386 rfl (lv_at hl 1 rfl) ?_
    have I101 : jI104 σ9 := jI104_fr (congrFun (f11 55 (by decide)) 10) (congrFun (f11 55 (by decide)) 12) (congrFun (f11 55 (by decide)) 13) (f11 62 (by decide)) (f11 67 (by decide)) hI104
    have I102 : jI105 σ9 := jI105_fr (congrFun (f11 55 (by decide)) 15) (f11 65 (by decide)) hI105
    have I103 : jI107 σ9 := jI107_fr (congrFun (f11 55 (by decide)) 12) (congrFun (f11 55 (by decide)) 47) (f11 80 (by decide)) hI107
    have p104 : jBook σ9 := jBook.fr (congrFun (f11 55 (by decide)) 47) (congrFun (f11 55 (by decide)) 10) (f11 81 (by decide)) hs_jBook
    have z105 : (σ9 55 47).toInt = (σ 55 47).toInt := (congrArg Int32.toInt (show σ9 55 47 = (σ 55 47) from (congrFun (f11 55 (by decide)) 47)))
    refine jcallV (As := []) (rest := []) ⟨hx, hb, hml, hown, hts⟩ hK hP hA hS hZ (c_X12_order l D cI cL ad zz hJ σ9 τ I101 I102 I103 p104) cw_RL_40 (jc_55 cI cL ad σ9 τ) rfl ⟨Nat.le_of_ble_eq_true rfl, Nat.le_of_ble_eq_true rfl⟩ rfl rfl rfl hl.1 rfl (Nat.le_of_ble_eq_true rfl) dL_law_387 ⟨Nat.le_of_ble_eq_true rfl, Nat.le_of_ble_eq_true rfl⟩ (fun r107 σ106 τ106 H locs h106 hP hS => ?_)
    obtain ⟨rfl, f108, f109, I110, I111, I112, p113, w114, h106⟩ := h106
    obtain ⟨k116, h106⟩ := h106
    rcases h106 with h117 | h118
    · obtain ⟨q121, k119, k120⟩ := h117
      refine lv_pop hx hb dL_law_390 rfl ?_
      refine lv_goto (tgt := 1358) hx hb dL_law_391 (by decide) ?_
      obtain ⟨x122, ex122⟩ : ∃ y : Int32, y = x0 + 6 := ⟨_, rfl⟩
      have tx122 : x122.toInt = x0.toInt + 6 := (jadd ex122 rfl jz_6 (by omega) (by omega)).trans (by omega)
      refine lv_iinc (v := x122) (lv' := [(3, .int x122), (2, .ref (ad 55)), (1, .ref (ad 0)), (0, .ref b)]) hx hb dL_law_1358 hl (k := 0) rfl (by rw [ex122]; rfl) (by decide) rfl (fun ls hl => ?_)
      refine lv_goto (tgt := 18) hx hb dL_law_1361 (by decide) ?_
      have I123 : jI2 σ106 := jI2_fr ((congrFun (f108 2 (by decide)) 0).trans (congrFun (f11 2 (by decide)) 0)) ((congrFun (f108 2 (by decide)) 1).trans (congrFun (f11 2 (by decide)) 1)) ((congrFun (f108 2 (by decide)) 2).trans (congrFun (f11 2 (by decide)) 2)) ((congrFun (f108 2 (by decide)) 3).trans (congrFun (f11 2 (by decide)) 3)) ((f108 6 (by decide)).trans (f11 6 (by decide))) hI2
      have I124 : jI9 σ106 := jI9_fr (congrFun (f108 9 (by decide)) 0) (f108 10 (by decide)) (f108 11 (by decide)) I15
      have I125 : jI12 σ106 := jI12_fr ((congrFun (f108 12 (by decide)) 0).trans (congrFun (f11 12 (by decide)) 0)) ((f108 13 (by decide)).trans (f11 13 (by decide))) hI12
      have I126 : jI16 σ106 := jI16_fr (congrFun (f108 16 (by decide)) 0) (congrFun (f108 16 (by decide)) 1) (congrFun (f108 16 (by decide)) 2) (f108 17 (by decide)) I16
      have I127 : jI18 σ106 := jI18_fr ((congrFun (f108 18 (by decide)) 0).trans (congrFun (f11 18 (by decide)) 0)) ((f108 19 (by decide)).trans (f11 19 (by decide))) hI18
      have I128 : jI22 σ106 := jI22_fr ((congrFun (f108 22 (by decide)) 0).trans (congrFun (f11 22 (by decide)) 0)) ((f108 23 (by decide)).trans (f11 23 (by decide))) hI22
      have I129 : jI31 σ106 := jI31_fr ((congrFun (f108 31 (by decide)) 8).trans (congrFun (f11 31 (by decide)) 8)) ((f108 33 (by decide)).trans (f11 33 (by decide))) ((f108 36 (by decide)).trans (f11 36 (by decide))) hI31
      have I130 : jI38 σ106 := jI38_fr ((congrFun (f108 38 (by decide)) 0).trans (congrFun (f11 38 (by decide)) 0)) ((congrFun (f108 38 (by decide)) 1).trans (congrFun (f11 38 (by decide)) 1)) ((f108 39 (by decide)).trans (f11 39 (by decide))) hI38
      have I131 : jI43 σ106 := jI43_fr ((congrFun (f108 43 (by decide)) 8).trans (congrFun (f11 43 (by decide)) 8)) hI43
      have I132 : jI47 σ106 := jI47_fr (congrFun (f108 47 (by decide)) 0) (f108 48 (by decide)) (f108 49 (by decide)) I17
      have I133 : jI50 σ106 := jI50_fr ((f108 52 (by decide)).trans (f11 52 (by decide))) hI50
      have I134 : jI101 σ106 := jI101_fr ((f109 4 (by decide)).trans (congrFun (f11 55 (by decide)) 4)) ((f109 5 (by decide)).trans (congrFun (f11 55 (by decide)) 5)) ((f108 56 (by decide)).trans (f11 56 (by decide))) ((f108 57 (by decide)).trans (f11 57 (by decide))) ((f108 58 (by decide)).trans (f11 58 (by decide))) ((f108 59 (by decide)).trans (f11 59 (by decide))) hI101
      have I135 : jI102 σ106 := jI102_fr ((f109 6 (by decide)).trans (congrFun (f11 55 (by decide)) 6)) ((f108 60 (by decide)).trans (f11 60 (by decide))) ((f108 61 (by decide)).trans (f11 61 (by decide))) hI102
      have I136 : jI103 σ106 := jI103_fr ((f109 9 (by decide)).trans (congrFun (f11 55 (by decide)) 9)) hI103
      have I137 : jI106 σ106 := jI106_fr ((f109 32 (by decide)).trans (congrFun (f11 55 (by decide)) 32)) ((f108 70 (by decide)).trans (f11 70 (by decide))) ((f108 71 (by decide)).trans (f11 71 (by decide))) ((f108 72 (by decide)).trans (f11 72 (by decide))) hI106
      have I138 : jI109 σ106 := jI109_fr ((f109 50 (by decide)).trans (congrFun (f11 55 (by decide)) 50)) hI109
      have I139 : jI110 σ106 := jI110_fr ((f108 86 (by decide)).trans (f11 86 (by decide))) ((f108 87 (by decide)).trans (f11 87 (by decide))) hI110
      have I140 : jI111 σ106 := jI111_fr ((f108 79 (by decide)).trans (f11 79 (by decide))) hI111
      have I141 : jI119 σ106 := jI119_fr ((f108 68 (by decide)).trans (f11 68 (by decide))) hI119
      have p142 : jKept σ106 := jKept.fr ((f108 75 (by decide)).trans (f11 75 (by decide))) ((f108 76 (by decide)).trans (f11 76 (by decide))) ((f108 77 (by decide)).trans (f11 77 (by decide))) hs_jKept
      have z143 : (σ106 38 0).toInt = (σ 38 0).toInt := (congrArg Int32.toInt (show σ106 38 0 = (σ 38 0) from ((congrFun (f108 38 (by decide)) 0).trans (congrFun (f11 38 (by decide)) 0))))
      have z144 : (σ106 55 32).toInt = (σ 55 32).toInt := (congrArg Int32.toInt (show σ106 55 32 = (σ 55 32) from ((f109 32 (by decide)).trans (congrFun (f11 55 (by decide)) 32))))
      exact ih x122 σ106 τ _ _ ls (by have h9 := tx122; omega) ⟨I123, I124, I125, I126, I127, I128, I129, I130, I131, I132, I133, I134, I135, I136, I110, I111, I137, I112, I138, I139, I140, I141, p142, p113, (by omega), (show jShP (σ106 51) (σ106 52) (σ106 53) (σ106 86) (σ106 87) (σ106 55 32).toInt by rw [show σ106 51 = σ 51 from ((f108 51 (by decide)).trans (f11 51 (by decide))), show σ106 52 = σ 52 from ((f108 52 (by decide)).trans (f11 52 (by decide))), show σ106 53 = σ 53 from ((f108 53 (by decide)).trans (f11 53 (by decide))), show σ106 86 = σ 86 from ((f108 86 (by decide)).trans (f11 86 (by decide))), show σ106 87 = σ 87 from ((f108 87 (by decide)).trans (f11 87 (by decide)))]; exact (hr0.up (by omega) (by omega))), (show jEl (σ106 51) (σ106 52) (τ 54) (τ 88) by rw [show σ106 51 = σ 51 from ((f108 51 (by decide)).trans (f11 51 (by decide))), show σ106 52 = σ 52 from ((f108 52 (by decide)).trans (f11 52 (by decide)))]; exact hr1)⟩ hP hS (lv_sub hl [0, 1, 2, 3] rfl)
    · obtain ⟨q148, k146, k147⟩ := h118
      refine lv_pop hx hb dL_law_390 rfl ?_
      refine lv_goto (tgt := 1358) hx hb dL_law_391 (by decide) ?_
      obtain ⟨x149, ex149⟩ : ∃ y : Int32, y = x0 + 6 := ⟨_, rfl⟩
      have tx149 : x149.toInt = x0.toInt + 6 := (jadd ex149 rfl jz_6 (by omega) (by omega)).trans (by omega)
      refine lv_iinc (v := x149) (lv' := [(3, .int x149), (2, .ref (ad 55)), (1, .ref (ad 0)), (0, .ref b)]) hx hb dL_law_1358 hl (k := 0) rfl (by rw [ex149]; rfl) (by decide) rfl (fun ls hl => ?_)
      refine lv_goto (tgt := 18) hx hb dL_law_1361 (by decide) ?_
      have I150 : jI2 σ106 := jI2_fr ((congrFun (f108 2 (by decide)) 0).trans (congrFun (f11 2 (by decide)) 0)) ((congrFun (f108 2 (by decide)) 1).trans (congrFun (f11 2 (by decide)) 1)) ((congrFun (f108 2 (by decide)) 2).trans (congrFun (f11 2 (by decide)) 2)) ((congrFun (f108 2 (by decide)) 3).trans (congrFun (f11 2 (by decide)) 3)) ((f108 6 (by decide)).trans (f11 6 (by decide))) hI2
      have I151 : jI9 σ106 := jI9_fr (congrFun (f108 9 (by decide)) 0) (f108 10 (by decide)) (f108 11 (by decide)) I15
      have I152 : jI12 σ106 := jI12_fr ((congrFun (f108 12 (by decide)) 0).trans (congrFun (f11 12 (by decide)) 0)) ((f108 13 (by decide)).trans (f11 13 (by decide))) hI12
      have I153 : jI16 σ106 := jI16_fr (congrFun (f108 16 (by decide)) 0) (congrFun (f108 16 (by decide)) 1) (congrFun (f108 16 (by decide)) 2) (f108 17 (by decide)) I16
      have I154 : jI18 σ106 := jI18_fr ((congrFun (f108 18 (by decide)) 0).trans (congrFun (f11 18 (by decide)) 0)) ((f108 19 (by decide)).trans (f11 19 (by decide))) hI18
      have I155 : jI22 σ106 := jI22_fr ((congrFun (f108 22 (by decide)) 0).trans (congrFun (f11 22 (by decide)) 0)) ((f108 23 (by decide)).trans (f11 23 (by decide))) hI22
      have I156 : jI31 σ106 := jI31_fr ((congrFun (f108 31 (by decide)) 8).trans (congrFun (f11 31 (by decide)) 8)) ((f108 33 (by decide)).trans (f11 33 (by decide))) ((f108 36 (by decide)).trans (f11 36 (by decide))) hI31
      have I157 : jI38 σ106 := jI38_fr ((congrFun (f108 38 (by decide)) 0).trans (congrFun (f11 38 (by decide)) 0)) ((congrFun (f108 38 (by decide)) 1).trans (congrFun (f11 38 (by decide)) 1)) ((f108 39 (by decide)).trans (f11 39 (by decide))) hI38
      have I158 : jI43 σ106 := jI43_fr ((congrFun (f108 43 (by decide)) 8).trans (congrFun (f11 43 (by decide)) 8)) hI43
      have I159 : jI47 σ106 := jI47_fr (congrFun (f108 47 (by decide)) 0) (f108 48 (by decide)) (f108 49 (by decide)) I17
      have I160 : jI50 σ106 := jI50_fr ((f108 52 (by decide)).trans (f11 52 (by decide))) hI50
      have I161 : jI101 σ106 := jI101_fr ((f109 4 (by decide)).trans (congrFun (f11 55 (by decide)) 4)) ((f109 5 (by decide)).trans (congrFun (f11 55 (by decide)) 5)) ((f108 56 (by decide)).trans (f11 56 (by decide))) ((f108 57 (by decide)).trans (f11 57 (by decide))) ((f108 58 (by decide)).trans (f11 58 (by decide))) ((f108 59 (by decide)).trans (f11 59 (by decide))) hI101
      have I162 : jI102 σ106 := jI102_fr ((f109 6 (by decide)).trans (congrFun (f11 55 (by decide)) 6)) ((f108 60 (by decide)).trans (f11 60 (by decide))) ((f108 61 (by decide)).trans (f11 61 (by decide))) hI102
      have I163 : jI103 σ106 := jI103_fr ((f109 9 (by decide)).trans (congrFun (f11 55 (by decide)) 9)) hI103
      have I164 : jI106 σ106 := jI106_fr ((f109 32 (by decide)).trans (congrFun (f11 55 (by decide)) 32)) ((f108 70 (by decide)).trans (f11 70 (by decide))) ((f108 71 (by decide)).trans (f11 71 (by decide))) ((f108 72 (by decide)).trans (f11 72 (by decide))) hI106
      have I165 : jI109 σ106 := jI109_fr ((f109 50 (by decide)).trans (congrFun (f11 55 (by decide)) 50)) hI109
      have I166 : jI110 σ106 := jI110_fr ((f108 86 (by decide)).trans (f11 86 (by decide))) ((f108 87 (by decide)).trans (f11 87 (by decide))) hI110
      have I167 : jI111 σ106 := jI111_fr ((f108 79 (by decide)).trans (f11 79 (by decide))) hI111
      have I168 : jI119 σ106 := jI119_fr ((f108 68 (by decide)).trans (f11 68 (by decide))) hI119
      have p169 : jKept σ106 := jKept.fr ((f108 75 (by decide)).trans (f11 75 (by decide))) ((f108 76 (by decide)).trans (f11 76 (by decide))) ((f108 77 (by decide)).trans (f11 77 (by decide))) hs_jKept
      have z170 : (σ106 38 0).toInt = (σ 38 0).toInt := (congrArg Int32.toInt (show σ106 38 0 = (σ 38 0) from ((congrFun (f108 38 (by decide)) 0).trans (congrFun (f11 38 (by decide)) 0))))
      have z171 : (σ106 55 32).toInt = (σ 55 32).toInt := (congrArg Int32.toInt (show σ106 55 32 = (σ 55 32) from ((f109 32 (by decide)).trans (congrFun (f11 55 (by decide)) 32))))
      exact ih x149 σ106 τ _ _ ls (by have h9 := tx149; omega) ⟨I150, I151, I152, I153, I154, I155, I156, I157, I158, I159, I160, I161, I162, I163, I110, I111, I164, I112, I165, I166, I167, I168, p169, p113, (by omega), (show jShP (σ106 51) (σ106 52) (σ106 53) (σ106 86) (σ106 87) (σ106 55 32).toInt by rw [show σ106 51 = σ 51 from ((f108 51 (by decide)).trans (f11 51 (by decide))), show σ106 52 = σ 52 from ((f108 52 (by decide)).trans (f11 52 (by decide))), show σ106 53 = σ 53 from ((f108 53 (by decide)).trans (f11 53 (by decide))), show σ106 86 = σ 86 from ((f108 86 (by decide)).trans (f11 86 (by decide))), show σ106 87 = σ 87 from ((f108 87 (by decide)).trans (f11 87 (by decide)))]; exact (hr0.up (by omega) (by omega))), (show jEl (σ106 51) (σ106 52) (τ 54) (τ 88) by rw [show σ106 51 = σ 51 from ((f108 51 (by decide)).trans (f11 51 (by decide))), show σ106 52 = σ 52 from ((f108 52 (by decide)).trans (f11 52 (by decide)))]; exact hr1)⟩ hP hS (lv_sub hl [0, 1, 2, 3] rfl)
set_option maxHeartbeats 4000000 in
set_option maxRecDepth 100000 in
theorem law_case_6 {p : Program} {e : Env} {s : State} {m : MethodId} {below : List Frame} {meth : Method} {c : Code} (l : Launch) {b L : Nat} {xs : Nat → Int32} {D : va_G} {cI cL : ClassId} {ad zz : Nat → Nat} (C0 : lw_At p s m meth c b L xs) (hJ : jD ad) (hA : ∀ q, jA ad q → s.heap.size ≤ q) (hK : jK D cI cL s) (hZ : jZ zz (fun q : Nat => s.heap.size ≤ q) s s.heap) {x0 : Int32} (hx0 : 0 ≤ x0.toInt) (hxL : x0.toInt + 6 ≤ (L : Int)) (hL : L ≤ 384) {σ : Nat → Nat → Int32} {τ : Nat → Nat → Int64} {H : Heap} {locs : List Loc} (hS : va_S (fun q : Nat => s.heap.size ≤ q) s.heap H locs) {ls : Array Slot} (hAll : jAll σ τ) (hP : jH D cI cL ad σ τ H) (hl : lv_has ls 4 [(3, .int x0), (2, .ref (ad 55)), (1, .ref (ad 0)), (0, .ref b)]) (ih : ∀ (x1 : Int32) (σ : Nat → Nat → Int32) (τ : Nat → Nat → Int64) (H : Heap) (locs : List Loc) (ls : Array Slot), x1.toInt = x0.toInt + 6 → jAll σ τ → jH D cI cL ad σ τ H → va_S (fun q : Nat => s.heap.size ≤ q) s.heap H locs → lv_has ls 4 [(3, .int x1), (2, .ref (ad 55)), (1, .ref (ad 0)), (0, .ref b)] → W p l e room_1 s m #[Value.ref b] below meth c H locs 90 348600 (lw_Z below #[Value.ref b] s) (F0 m 18 ls [])) : W p l e room_1 s m #[Value.ref b] below meth c H locs 90 348600 (lw_Z below #[Value.ref b] s) (F0 m 394 ls []) := by
  obtain ⟨hx, hb, hr, hml, hown, hts0, hX, hbl, hlocks, hgv⟩ := C0
  have hts : ∀ w ∈ wsL_law, w.before #[Value.ref b] s = true := fun w h => hts0 w (wsL_law_in w h)
  have hbA : ¬ (fun q : Nat => s.heap.size ≤ q) b := Nat.not_le.mpr hbl
  have hown : s.vm.findClass RL = some m.cls := hown
  obtain ⟨hI2, hI9, hI12, hI16, hI18, hI22, hI31, hI38, hI43, hI47, hI50, hI101, hI102, hI103, hI104, hI105, hI106, hI107, hI109, hI110, hI111, hI119, hs_jKept, hs_jBook, ht0, hr0, hr1⟩ := hAll
  have hL9 : (L : Int) ≤ 384 := by omega
  obtain ⟨i1, i2, w3⟩ : (0 ≤ (σ 38 0).toInt ∧ (σ 38 0).toInt ≤ 20) ∧ (0 ≤ (σ 38 1).toInt ∧ (σ 38 1).toInt ≤ 1000) ∧ (∀ k : Nat, k < 20 → 0 ≤ (σ 39 k).toInt ∧ (σ 39 k).toInt ≤ 6) := id hI38
  have w4 : ∀ k : Nat, k < 6 → 0 ≤ (σ 52 k).toInt ∧ (σ 52 k).toInt ≤ 60 := hI50
  obtain ⟨i5, w6, w7, w8⟩ : (0 ≤ (σ 55 32).toInt ∧ (σ 55 32).toInt ≤ 20) ∧ (∀ k : Nat, k < 20 → 0 ≤ (σ 70 k).toInt ∧ (σ 70 k).toInt ≤ 6) ∧ (∀ k : Nat, k < 20 → 0 ≤ (σ 71 k).toInt ∧ (σ 71 k).toInt ≤ 8) ∧ (∀ k : Nat, k < 160 → 0 ≤ (σ 72 k).toInt ∧ (σ 72 k).toInt ≤ 3) := id hI106
  refine lv_aload_n hx hb dL_law_394 rfl (lv_at hl 2 rfl) ?_
  refine lv_aload_n hx hb dL_law_395 rfl (lv_at hl 3 rfl) ?_
  refine lv_iload_n hx hb dL_law_396 rfl (lv_at hl 0 rfl) ?_
  refine lv_iconst (v := 1) hx hb dL_law_397 (by decide) ?_
  have g9 := jrg (rfl : x0.toInt = x0.toInt)
  refine lv_iadd hx hb dL_law_398 ?_
  refine lv_topi (fun x10 ex10 => ?_)
  have tx10 : x10.toInt = x0.toInt + 1 := (jadd ex10 rfl jz_1 (by omega) (by omega)).trans (by omega)
  refine va_sld hx hb hX hbl hbA hS (jin tx10 (by omega) (by omega)) dL_law_399 ?_
  have g11 := jrg (rfl : (xs x10.toNatClampNeg).toInt = (xs x10.toNatClampNeg).toInt)
  refine jcallV (As := [.int (xs x10.toNatClampNeg)]) (rest := []) ⟨hx, hb, hml, hown, hts⟩ hK hP hA hS hZ (c_X11_text l D cI cL ad zz hJ σ τ (xs x10.toNatClampNeg) ((xs x10.toNatClampNeg).toInt) rfl hI9 hI12 hI18 hI22) cw_RL_41 (jc_0 cI cL ad σ τ) rfl ⟨Nat.le_of_ble_eq_true rfl, Nat.le_of_ble_eq_true rfl⟩ rfl rfl rfl hl.1 rfl (Nat.le_of_ble_eq_true rfl) dL_law_400 ⟨Nat.le_of_ble_eq_true rfl, Nat.le_of_ble_eq_true rfl⟩ (fun r13 σ12 τ12 H locs h12 hP hS => ?_)
  obtain ⟨rfl, f14, f15, f16, f17, f18, f19, I20, I21, I22, I23, h12⟩ := h12
  obtain ⟨k25, h12⟩ := h12
  refine lv_pop hx hb dL_law_403 rfl ?_
  refine lv_aload_n hx hb dL_law_404 rfl (lv_at hl 1 rfl) ?_
  refine lv_aload_n hx hb dL_law_405 rfl (lv_at hl 3 rfl) ?_
  refine lv_iload_n hx hb dL_law_406 rfl (lv_at hl 0 rfl) ?_
  refine lv_iconst (v := 1) hx hb dL_law_407 (by decide) ?_
  refine lv_iadd hx hb dL_law_408 ?_
  refine jtopr ex10.symm ?_
  refine va_sld hx hb hX hbl hbA hS (jin tx10 (by omega) (by omega)) dL_law_409 ?_
  have I26 : jI105 σ12 := jI105_fr (congrFun (f14 55 (by decide)) 15) (f14 65 (by decide)) hI105
  have z27 : (σ12 55 15).toInt = (σ 55 15).toInt := (congrArg Int32.toInt (show σ12 55 15 = (σ 55 15) from (congrFun (f14 55 (by decide)) 15)))
  refine jcallV (As := [.int (xs x10.toNatClampNeg)]) (rest := []) ⟨hx, hb, hml, hown, hts⟩ hK hP hA hS hZ (c_X12_text l D cI cL ad zz hJ σ12 τ (xs x10.toNatClampNeg) ((xs x10.toNatClampNeg).toInt) rfl I26) cw_RL_44 (jc_55 cI cL ad σ12 τ) rfl ⟨Nat.le_of_ble_eq_true rfl, Nat.le_of_ble_eq_true rfl⟩ rfl rfl rfl hl.1 rfl (Nat.le_of_ble_eq_true rfl) dL_law_410 ⟨Nat.le_of_ble_eq_true rfl, Nat.le_of_ble_eq_true rfl⟩ (fun r29 σ28 τ28 H locs h28 hP hS => ?_)
  obtain ⟨rfl, f30, f31, I32, h28⟩ := h28
  obtain ⟨k34, h28⟩ := h28
  refine lv_pop hx hb dL_law_413 rfl ?_
  refine lv_goto (tgt := 1358) hx hb dL_law_414 (by decide) ?_
  obtain ⟨x35, ex35⟩ : ∃ y : Int32, y = x0 + 6 := ⟨_, rfl⟩
  have tx35 : x35.toInt = x0.toInt + 6 := (jadd ex35 rfl jz_6 (by omega) (by omega)).trans (by omega)
  refine lv_iinc (v := x35) (lv' := [(3, .int x35), (2, .ref (ad 55)), (1, .ref (ad 0)), (0, .ref b)]) hx hb dL_law_1358 hl (k := 0) rfl (by rw [ex35]; rfl) (by decide) rfl (fun ls hl => ?_)
  refine lv_goto (tgt := 18) hx hb dL_law_1361 (by decide) ?_
  have I36 : jI2 σ28 := jI2_fr ((congrFun (f30 2 (by decide)) 0).trans (congrFun (f14 2 (by decide)) 0)) ((congrFun (f30 2 (by decide)) 1).trans (congrFun (f14 2 (by decide)) 1)) ((congrFun (f30 2 (by decide)) 2).trans (congrFun (f14 2 (by decide)) 2)) ((congrFun (f30 2 (by decide)) 3).trans (congrFun (f14 2 (by decide)) 3)) ((f30 6 (by decide)).trans (f14 6 (by decide))) hI2
  have I37 : jI9 σ28 := jI9_fr (congrFun (f30 9 (by decide)) 0) (f30 10 (by decide)) (f30 11 (by decide)) I20
  have I38 : jI12 σ28 := jI12_fr (congrFun (f30 12 (by decide)) 0) (f30 13 (by decide)) I21
  have I39 : jI16 σ28 := jI16_fr ((congrFun (f30 16 (by decide)) 0).trans (congrFun (f14 16 (by decide)) 0)) ((congrFun (f30 16 (by decide)) 1).trans (congrFun (f14 16 (by decide)) 1)) ((congrFun (f30 16 (by decide)) 2).trans (congrFun (f14 16 (by decide)) 2)) ((f30 17 (by decide)).trans (f14 17 (by decide))) hI16
  have I40 : jI18 σ28 := jI18_fr (congrFun (f30 18 (by decide)) 0) (f30 19 (by decide)) I22
  have I41 : jI22 σ28 := jI22_fr (congrFun (f30 22 (by decide)) 0) (f30 23 (by decide)) I23
  have I42 : jI31 σ28 := jI31_fr ((congrFun (f30 31 (by decide)) 8).trans (congrFun (f14 31 (by decide)) 8)) ((f30 33 (by decide)).trans (f14 33 (by decide))) ((f30 36 (by decide)).trans (f14 36 (by decide))) hI31
  have I43 : jI38 σ28 := jI38_fr ((congrFun (f30 38 (by decide)) 0).trans (congrFun (f14 38 (by decide)) 0)) ((congrFun (f30 38 (by decide)) 1).trans (congrFun (f14 38 (by decide)) 1)) ((f30 39 (by decide)).trans (f14 39 (by decide))) hI38
  have I44 : jI43 σ28 := jI43_fr ((congrFun (f30 43 (by decide)) 8).trans (congrFun (f14 43 (by decide)) 8)) hI43
  have I45 : jI47 σ28 := jI47_fr ((congrFun (f30 47 (by decide)) 0).trans (congrFun (f14 47 (by decide)) 0)) ((f30 48 (by decide)).trans (f14 48 (by decide))) ((f30 49 (by decide)).trans (f14 49 (by decide))) hI47
  have I46 : jI50 σ28 := jI50_fr ((f30 52 (by decide)).trans (f14 52 (by decide))) hI50
  have I47 : jI101 σ28 := jI101_fr ((f31 4 (by decide)).trans (congrFun (f14 55 (by decide)) 4)) ((f31 5 (by decide)).trans (congrFun (f14 55 (by decide)) 5)) ((f30 56 (by decide)).trans (f14 56 (by decide))) ((f30 57 (by decide)).trans (f14 57 (by decide))) ((f30 58 (by decide)).trans (f14 58 (by decide))) ((f30 59 (by decide)).trans (f14 59 (by decide))) hI101
  have I48 : jI102 σ28 := jI102_fr ((f31 6 (by decide)).trans (congrFun (f14 55 (by decide)) 6)) ((f30 60 (by decide)).trans (f14 60 (by decide))) ((f30 61 (by decide)).trans (f14 61 (by decide))) hI102
  have I49 : jI103 σ28 := jI103_fr ((f31 9 (by decide)).trans (congrFun (f14 55 (by decide)) 9)) hI103
  have I50 : jI104 σ28 := jI104_fr ((f31 10 (by decide)).trans (congrFun (f14 55 (by decide)) 10)) ((f31 12 (by decide)).trans (congrFun (f14 55 (by decide)) 12)) ((f31 13 (by decide)).trans (congrFun (f14 55 (by decide)) 13)) ((f30 62 (by decide)).trans (f14 62 (by decide))) ((f30 67 (by decide)).trans (f14 67 (by decide))) hI104
  have I51 : jI106 σ28 := jI106_fr ((f31 32 (by decide)).trans (congrFun (f14 55 (by decide)) 32)) ((f30 70 (by decide)).trans (f14 70 (by decide))) ((f30 71 (by decide)).trans (f14 71 (by decide))) ((f30 72 (by decide)).trans (f14 72 (by decide))) hI106
  have I52 : jI107 σ28 := jI107_fr ((f31 12 (by decide)).trans (congrFun (f14 55 (by decide)) 12)) ((f31 47 (by decide)).trans (congrFun (f14 55 (by decide)) 47)) ((f30 80 (by decide)).trans (f14 80 (by decide))) hI107
  have I53 : jI109 σ28 := jI109_fr ((f31 50 (by decide)).trans (congrFun (f14 55 (by decide)) 50)) hI109
  have I54 : jI110 σ28 := jI110_fr ((f30 86 (by decide)).trans (f14 86 (by decide))) ((f30 87 (by decide)).trans (f14 87 (by decide))) hI110
  have I55 : jI111 σ28 := jI111_fr ((f30 79 (by decide)).trans (f14 79 (by decide))) hI111
  have I56 : jI119 σ28 := jI119_fr ((f30 68 (by decide)).trans (f14 68 (by decide))) hI119
  have p57 : jKept σ28 := jKept.fr ((f30 75 (by decide)).trans (f14 75 (by decide))) ((f30 76 (by decide)).trans (f14 76 (by decide))) ((f30 77 (by decide)).trans (f14 77 (by decide))) hs_jKept
  have p58 : jBook σ28 := jBook.fr ((f31 47 (by decide)).trans (congrFun (f14 55 (by decide)) 47)) ((f31 10 (by decide)).trans (congrFun (f14 55 (by decide)) 10)) ((f30 81 (by decide)).trans (f14 81 (by decide))) hs_jBook
  have z59 : (σ28 38 0).toInt = (σ 38 0).toInt := (congrArg Int32.toInt (show σ28 38 0 = (σ 38 0) from ((congrFun (f30 38 (by decide)) 0).trans (congrFun (f14 38 (by decide)) 0))))
  have z60 : (σ28 55 32).toInt = (σ 55 32).toInt := (congrArg Int32.toInt (show σ28 55 32 = (σ 55 32) from ((f31 32 (by decide)).trans (congrFun (f14 55 (by decide)) 32))))
  exact ih x35 σ28 τ _ _ ls (by have h9 := tx35; omega) ⟨I36, I37, I38, I39, I40, I41, I42, I43, I44, I45, I46, I47, I48, I49, I50, I32, I51, I52, I53, I54, I55, I56, p57, p58, (by omega), (show jShP (σ28 51) (σ28 52) (σ28 53) (σ28 86) (σ28 87) (σ28 55 32).toInt by rw [show σ28 51 = σ 51 from ((f30 51 (by decide)).trans (f14 51 (by decide))), show σ28 52 = σ 52 from ((f30 52 (by decide)).trans (f14 52 (by decide))), show σ28 53 = σ 53 from ((f30 53 (by decide)).trans (f14 53 (by decide))), show σ28 86 = σ 86 from ((f30 86 (by decide)).trans (f14 86 (by decide))), show σ28 87 = σ 87 from ((f30 87 (by decide)).trans (f14 87 (by decide)))]; exact (hr0.up (by omega) (by omega))), (show jEl (σ28 51) (σ28 52) (τ 54) (τ 88) by rw [show σ28 51 = σ 51 from ((f30 51 (by decide)).trans (f14 51 (by decide))), show σ28 52 = σ 52 from ((f30 52 (by decide)).trans (f14 52 (by decide)))]; exact hr1)⟩ hP hS (lv_sub hl [0, 1, 2, 3] rfl)
set_option maxHeartbeats 4000000 in
set_option maxRecDepth 100000 in
theorem law_case_7 {p : Program} {e : Env} {s : State} {m : MethodId} {below : List Frame} {meth : Method} {c : Code} (l : Launch) {b L : Nat} {xs : Nat → Int32} {D : va_G} {cI cL : ClassId} {ad zz : Nat → Nat} (C0 : lw_At p s m meth c b L xs) (hJ : jD ad) (hA : ∀ q, jA ad q → s.heap.size ≤ q) (hK : jK D cI cL s) (hZ : jZ zz (fun q : Nat => s.heap.size ≤ q) s s.heap) {x0 : Int32} (hx0 : 0 ≤ x0.toInt) (hxL : x0.toInt + 6 ≤ (L : Int)) (hL : L ≤ 384) {σ : Nat → Nat → Int32} {τ : Nat → Nat → Int64} {H : Heap} {locs : List Loc} (hS : va_S (fun q : Nat => s.heap.size ≤ q) s.heap H locs) {ls : Array Slot} (hAll : jAll σ τ) (hP : jH D cI cL ad σ τ H) (hl : lv_has ls 4 [(3, .int x0), (2, .ref (ad 55)), (1, .ref (ad 0)), (0, .ref b)]) (ih : ∀ (x1 : Int32) (σ : Nat → Nat → Int32) (τ : Nat → Nat → Int64) (H : Heap) (locs : List Loc) (ls : Array Slot), x1.toInt = x0.toInt + 6 → jAll σ τ → jH D cI cL ad σ τ H → va_S (fun q : Nat => s.heap.size ≤ q) s.heap H locs → lv_has ls 4 [(3, .int x1), (2, .ref (ad 55)), (1, .ref (ad 0)), (0, .ref b)] → W p l e room_1 s m #[Value.ref b] below meth c H locs 90 348600 (lw_Z below #[Value.ref b] s) (F0 m 18 ls [])) : W p l e room_1 s m #[Value.ref b] below meth c H locs 90 348600 (lw_Z below #[Value.ref b] s) (F0 m 417 ls []) := by
  obtain ⟨hx, hb, hr, hml, hown, hts0, hX, hbl, hlocks, hgv⟩ := C0
  have hts : ∀ w ∈ wsL_law, w.before #[Value.ref b] s = true := fun w h => hts0 w (wsL_law_in w h)
  have hbA : ¬ (fun q : Nat => s.heap.size ≤ q) b := Nat.not_le.mpr hbl
  have hown : s.vm.findClass RL = some m.cls := hown
  obtain ⟨hI2, hI9, hI12, hI16, hI18, hI22, hI31, hI38, hI43, hI47, hI50, hI101, hI102, hI103, hI104, hI105, hI106, hI107, hI109, hI110, hI111, hI119, hs_jKept, hs_jBook, ht0, hr0, hr1⟩ := hAll
  have hL9 : (L : Int) ≤ 384 := by omega
  obtain ⟨i1, i2, w3⟩ : (0 ≤ (σ 38 0).toInt ∧ (σ 38 0).toInt ≤ 20) ∧ (0 ≤ (σ 38 1).toInt ∧ (σ 38 1).toInt ≤ 1000) ∧ (∀ k : Nat, k < 20 → 0 ≤ (σ 39 k).toInt ∧ (σ 39 k).toInt ≤ 6) := id hI38
  have w4 : ∀ k : Nat, k < 6 → 0 ≤ (σ 52 k).toInt ∧ (σ 52 k).toInt ≤ 60 := hI50
  obtain ⟨i5, w6, w7, w8⟩ : (0 ≤ (σ 55 32).toInt ∧ (σ 55 32).toInt ≤ 20) ∧ (∀ k : Nat, k < 20 → 0 ≤ (σ 70 k).toInt ∧ (σ 70 k).toInt ≤ 6) ∧ (∀ k : Nat, k < 20 → 0 ≤ (σ 71 k).toInt ∧ (σ 71 k).toInt ≤ 8) ∧ (∀ k : Nat, k < 160 → 0 ≤ (σ 72 k).toInt ∧ (σ 72 k).toInt ≤ 3) := id hI106
  refine lv_aload_n hx hb dL_law_417 rfl (lv_at hl 2 rfl) ?_
  refine lv_aload_n hx hb dL_law_418 rfl (lv_at hl 3 rfl) ?_
  refine lv_iload_n hx hb dL_law_419 rfl (lv_at hl 0 rfl) ?_
  refine lv_iconst (v := 1) hx hb dL_law_420 (by decide) ?_
  have g9 := jrg (rfl : x0.toInt = x0.toInt)
  refine lv_iadd hx hb dL_law_421 ?_
  refine lv_topi (fun x10 ex10 => ?_)
  have tx10 : x10.toInt = x0.toInt + 1 := (jadd ex10 rfl jz_1 (by omega) (by omega)).trans (by omega)
  refine va_sld hx hb hX hbl hbA hS (jin tx10 (by omega) (by omega)) dL_law_422 ?_
  have g11 := jrg (rfl : (xs x10.toNatClampNeg).toInt = (xs x10.toNatClampNeg).toInt)
  refine jcallV (As := [.int (xs x10.toNatClampNeg)]) (rest := []) ⟨hx, hb, hml, hown, hts⟩ hK hP hA hS hZ (c_X11_of l D cI cL ad zz hJ σ τ (xs x10.toNatClampNeg) ((xs x10.toNatClampNeg).toInt) rfl hI16) cw_RL_45 (jc_0 cI cL ad σ τ) rfl ⟨Nat.le_of_ble_eq_true rfl, Nat.le_of_ble_eq_true rfl⟩ rfl rfl rfl hl.1 rfl (Nat.le_of_ble_eq_true rfl) dL_law_423 ⟨Nat.le_of_ble_eq_true rfl, Nat.le_of_ble_eq_true rfl⟩ (fun r13 σ12 τ12 H locs h12 hP hS => ?_)
  obtain ⟨⟨rfl, rfl⟩, h12⟩ := h12
  rcases h12 with h14 | h15 | h16 | h17 | h18
  · obtain ⟨q21, k19, k20⟩ := h14
    refine lv_pop hx hb dL_law_426 rfl ?_
    refine lv_aload_n hx hb dL_law_427 rfl (lv_at hl 1 rfl) ?_
    refine lv_aload_n hx hb dL_law_428 rfl (lv_at hl 3 rfl) ?_
    refine lv_iload_n hx hb dL_law_429 rfl (lv_at hl 0 rfl) ?_
    refine lv_iconst (v := 1) hx hb dL_law_430 (by decide) ?_
    refine lv_iadd hx hb dL_law_431 ?_
    refine jtopr ex10.symm ?_
    refine va_sld hx hb hX hbl hbA hS (jin tx10 (by omega) (by omega)) dL_law_432 ?_
    refine jcallV (As := [.int (xs x10.toNatClampNeg)]) (rest := []) ⟨hx, hb, hml, hown, hts⟩ hK hP hA hS hZ (c_X12_of l D cI cL ad zz hJ σ τ (xs x10.toNatClampNeg) ((xs x10.toNatClampNeg).toInt) rfl hI104 hI107) cw_RL_48 (jc_55 cI cL ad σ τ) rfl ⟨Nat.le_of_ble_eq_true rfl, Nat.le_of_ble_eq_true rfl⟩ rfl rfl rfl hl.1 rfl (Nat.le_of_ble_eq_true rfl) dL_law_433 ⟨Nat.le_of_ble_eq_true rfl, Nat.le_of_ble_eq_true rfl⟩ (fun r23 σ22 τ22 H locs h22 hP hS => ?_)
    obtain ⟨⟨rfl, rfl⟩, h22⟩ := h22
    rcases h22 with h24 | h25 | h26 | h27 | h28
    · obtain ⟨q31, k29, k30⟩ := h24
      refine lv_pop hx hb dL_law_436 rfl ?_
      refine lv_goto (tgt := 1358) hx hb dL_law_437 (by decide) ?_
      obtain ⟨x32, ex32⟩ : ∃ y : Int32, y = x0 + 6 := ⟨_, rfl⟩
      have tx32 : x32.toInt = x0.toInt + 6 := (jadd ex32 rfl jz_6 (by omega) (by omega)).trans (by omega)
      refine lv_iinc (v := x32) (lv' := [(3, .int x32), (2, .ref (ad 55)), (1, .ref (ad 0)), (0, .ref b)]) hx hb dL_law_1358 hl (k := 0) rfl (by rw [ex32]; rfl) (by decide) rfl (fun ls hl => ?_)
      refine lv_goto (tgt := 18) hx hb dL_law_1361 (by decide) ?_
      exact ih x32 σ τ _ _ ls (by have h9 := tx32; omega) ⟨hI2, hI9, hI12, hI16, hI18, hI22, hI31, hI38, hI43, hI47, hI50, hI101, hI102, hI103, hI104, hI105, hI106, hI107, hI109, hI110, hI111, hI119, hs_jKept, hs_jBook, (by omega), hr0, hr1⟩ hP hS (lv_sub hl [0, 1, 2, 3] rfl)
    · obtain ⟨q35, k33, k34⟩ := h25
      exact absurd (by omega : False) id
    · obtain ⟨q38, k36, k37⟩ := h26
      exact absurd (by omega : False) id
    · obtain ⟨q42, k39, k40, k41⟩ := h27
      exact absurd (by omega : False) id
    · obtain ⟨q44, k43⟩ := h28
      exact absurd (by omega : False) id
  · obtain ⟨q47, k45, k46⟩ := h15
    refine lv_pop hx hb dL_law_426 rfl ?_
    refine lv_aload_n hx hb dL_law_427 rfl (lv_at hl 1 rfl) ?_
    refine lv_aload_n hx hb dL_law_428 rfl (lv_at hl 3 rfl) ?_
    refine lv_iload_n hx hb dL_law_429 rfl (lv_at hl 0 rfl) ?_
    refine lv_iconst (v := 1) hx hb dL_law_430 (by decide) ?_
    refine lv_iadd hx hb dL_law_431 ?_
    refine jtopr ex10.symm ?_
    refine va_sld hx hb hX hbl hbA hS (jin tx10 (by omega) (by omega)) dL_law_432 ?_
    refine jcallV (As := [.int (xs x10.toNatClampNeg)]) (rest := []) ⟨hx, hb, hml, hown, hts⟩ hK hP hA hS hZ (c_X12_of l D cI cL ad zz hJ σ τ (xs x10.toNatClampNeg) ((xs x10.toNatClampNeg).toInt) rfl hI104 hI107) cw_RL_48 (jc_55 cI cL ad σ τ) rfl ⟨Nat.le_of_ble_eq_true rfl, Nat.le_of_ble_eq_true rfl⟩ rfl rfl rfl hl.1 rfl (Nat.le_of_ble_eq_true rfl) dL_law_433 ⟨Nat.le_of_ble_eq_true rfl, Nat.le_of_ble_eq_true rfl⟩ (fun r49 σ48 τ48 H locs h48 hP hS => ?_)
    obtain ⟨⟨rfl, rfl⟩, h48⟩ := h48
    rcases h48 with h50 | h51 | h52 | h53 | h54
    · obtain ⟨q57, k55, k56⟩ := h50
      exact absurd (by omega : False) id
    · obtain ⟨q60, k58, k59⟩ := h51
      refine lv_pop hx hb dL_law_436 rfl ?_
      refine lv_goto (tgt := 1358) hx hb dL_law_437 (by decide) ?_
      obtain ⟨x61, ex61⟩ : ∃ y : Int32, y = x0 + 6 := ⟨_, rfl⟩
      have tx61 : x61.toInt = x0.toInt + 6 := (jadd ex61 rfl jz_6 (by omega) (by omega)).trans (by omega)
      refine lv_iinc (v := x61) (lv' := [(3, .int x61), (2, .ref (ad 55)), (1, .ref (ad 0)), (0, .ref b)]) hx hb dL_law_1358 hl (k := 0) rfl (by rw [ex61]; rfl) (by decide) rfl (fun ls hl => ?_)
      refine lv_goto (tgt := 18) hx hb dL_law_1361 (by decide) ?_
      exact ih x61 σ τ _ _ ls (by have h9 := tx61; omega) ⟨hI2, hI9, hI12, hI16, hI18, hI22, hI31, hI38, hI43, hI47, hI50, hI101, hI102, hI103, hI104, hI105, hI106, hI107, hI109, hI110, hI111, hI119, hs_jKept, hs_jBook, (by omega), hr0, hr1⟩ hP hS (lv_sub hl [0, 1, 2, 3] rfl)
    · obtain ⟨q64, k62, k63⟩ := h52
      exact absurd (by omega : False) id
    · obtain ⟨q68, k65, k66, k67⟩ := h53
      exact absurd (by omega : False) id
    · obtain ⟨q70, k69⟩ := h54
      exact absurd (by omega : False) id
  · obtain ⟨q73, k71, k72⟩ := h16
    refine lv_pop hx hb dL_law_426 rfl ?_
    refine lv_aload_n hx hb dL_law_427 rfl (lv_at hl 1 rfl) ?_
    refine lv_aload_n hx hb dL_law_428 rfl (lv_at hl 3 rfl) ?_
    refine lv_iload_n hx hb dL_law_429 rfl (lv_at hl 0 rfl) ?_
    refine lv_iconst (v := 1) hx hb dL_law_430 (by decide) ?_
    refine lv_iadd hx hb dL_law_431 ?_
    refine jtopr ex10.symm ?_
    refine va_sld hx hb hX hbl hbA hS (jin tx10 (by omega) (by omega)) dL_law_432 ?_
    refine jcallV (As := [.int (xs x10.toNatClampNeg)]) (rest := []) ⟨hx, hb, hml, hown, hts⟩ hK hP hA hS hZ (c_X12_of l D cI cL ad zz hJ σ τ (xs x10.toNatClampNeg) ((xs x10.toNatClampNeg).toInt) rfl hI104 hI107) cw_RL_48 (jc_55 cI cL ad σ τ) rfl ⟨Nat.le_of_ble_eq_true rfl, Nat.le_of_ble_eq_true rfl⟩ rfl rfl rfl hl.1 rfl (Nat.le_of_ble_eq_true rfl) dL_law_433 ⟨Nat.le_of_ble_eq_true rfl, Nat.le_of_ble_eq_true rfl⟩ (fun r75 σ74 τ74 H locs h74 hP hS => ?_)
    obtain ⟨⟨rfl, rfl⟩, h74⟩ := h74
    rcases h74 with h76 | h77 | h78 | h79 | h80
    · obtain ⟨q83, k81, k82⟩ := h76
      exact absurd (by omega : False) id
    · obtain ⟨q86, k84, k85⟩ := h77
      exact absurd (by omega : False) id
    · obtain ⟨q89, k87, k88⟩ := h78
      refine lv_pop hx hb dL_law_436 rfl ?_
      refine lv_goto (tgt := 1358) hx hb dL_law_437 (by decide) ?_
      obtain ⟨x90, ex90⟩ : ∃ y : Int32, y = x0 + 6 := ⟨_, rfl⟩
      have tx90 : x90.toInt = x0.toInt + 6 := (jadd ex90 rfl jz_6 (by omega) (by omega)).trans (by omega)
      refine lv_iinc (v := x90) (lv' := [(3, .int x90), (2, .ref (ad 55)), (1, .ref (ad 0)), (0, .ref b)]) hx hb dL_law_1358 hl (k := 0) rfl (by rw [ex90]; rfl) (by decide) rfl (fun ls hl => ?_)
      refine lv_goto (tgt := 18) hx hb dL_law_1361 (by decide) ?_
      exact ih x90 σ τ _ _ ls (by have h9 := tx90; omega) ⟨hI2, hI9, hI12, hI16, hI18, hI22, hI31, hI38, hI43, hI47, hI50, hI101, hI102, hI103, hI104, hI105, hI106, hI107, hI109, hI110, hI111, hI119, hs_jKept, hs_jBook, (by omega), hr0, hr1⟩ hP hS (lv_sub hl [0, 1, 2, 3] rfl)
    · obtain ⟨q94, k91, k92, k93⟩ := h79
      exact absurd (by omega : False) id
    · obtain ⟨q96, k95⟩ := h80
      exact absurd (by omega : False) id
  · obtain ⟨q100, k97, k98, k99⟩ := h17
    refine lv_pop hx hb dL_law_426 rfl ?_
    refine lv_aload_n hx hb dL_law_427 rfl (lv_at hl 1 rfl) ?_
    refine lv_aload_n hx hb dL_law_428 rfl (lv_at hl 3 rfl) ?_
    refine lv_iload_n hx hb dL_law_429 rfl (lv_at hl 0 rfl) ?_
    refine lv_iconst (v := 1) hx hb dL_law_430 (by decide) ?_
    refine lv_iadd hx hb dL_law_431 ?_
    refine jtopr ex10.symm ?_
    refine va_sld hx hb hX hbl hbA hS (jin tx10 (by omega) (by omega)) dL_law_432 ?_
    refine jcallV (As := [.int (xs x10.toNatClampNeg)]) (rest := []) ⟨hx, hb, hml, hown, hts⟩ hK hP hA hS hZ (c_X12_of l D cI cL ad zz hJ σ τ (xs x10.toNatClampNeg) ((xs x10.toNatClampNeg).toInt) rfl hI104 hI107) cw_RL_48 (jc_55 cI cL ad σ τ) rfl ⟨Nat.le_of_ble_eq_true rfl, Nat.le_of_ble_eq_true rfl⟩ rfl rfl rfl hl.1 rfl (Nat.le_of_ble_eq_true rfl) dL_law_433 ⟨Nat.le_of_ble_eq_true rfl, Nat.le_of_ble_eq_true rfl⟩ (fun r102 σ101 τ101 H locs h101 hP hS => ?_)
    obtain ⟨⟨rfl, rfl⟩, h101⟩ := h101
    rcases h101 with h103 | h104 | h105 | h106 | h107
    · obtain ⟨q110, k108, k109⟩ := h103
      exact absurd (by omega : False) id
    · obtain ⟨q113, k111, k112⟩ := h104
      exact absurd (by omega : False) id
    · obtain ⟨q116, k114, k115⟩ := h105
      exact absurd (by omega : False) id
    · obtain ⟨q120, k117, k118, k119⟩ := h106
      refine lv_pop hx hb dL_law_436 rfl ?_
      refine lv_goto (tgt := 1358) hx hb dL_law_437 (by decide) ?_
      obtain ⟨x121, ex121⟩ : ∃ y : Int32, y = x0 + 6 := ⟨_, rfl⟩
      have tx121 : x121.toInt = x0.toInt + 6 := (jadd ex121 rfl jz_6 (by omega) (by omega)).trans (by omega)
      refine lv_iinc (v := x121) (lv' := [(3, .int x121), (2, .ref (ad 55)), (1, .ref (ad 0)), (0, .ref b)]) hx hb dL_law_1358 hl (k := 0) rfl (by rw [ex121]; rfl) (by decide) rfl (fun ls hl => ?_)
      refine lv_goto (tgt := 18) hx hb dL_law_1361 (by decide) ?_
      exact ih x121 σ τ _ _ ls (by have h9 := tx121; omega) ⟨hI2, hI9, hI12, hI16, hI18, hI22, hI31, hI38, hI43, hI47, hI50, hI101, hI102, hI103, hI104, hI105, hI106, hI107, hI109, hI110, hI111, hI119, hs_jKept, hs_jBook, (by omega), hr0, hr1⟩ hP hS (lv_sub hl [0, 1, 2, 3] rfl)
    · obtain ⟨q123, k122⟩ := h107
      have q123 := q123.symm
      subst q123
      refine lv_pop hx hb dL_law_436 rfl ?_
      refine lv_goto (tgt := 1358) hx hb dL_law_437 (by decide) ?_
      obtain ⟨x124, ex124⟩ : ∃ y : Int32, y = x0 + 6 := ⟨_, rfl⟩
      have tx124 : x124.toInt = x0.toInt + 6 := (jadd ex124 rfl jz_6 (by omega) (by omega)).trans (by omega)
      refine lv_iinc (v := x124) (lv' := [(3, .int x124), (2, .ref (ad 55)), (1, .ref (ad 0)), (0, .ref b)]) hx hb dL_law_1358 hl (k := 0) rfl (by rw [ex124]; rfl) (by decide) rfl (fun ls hl => ?_)
      refine lv_goto (tgt := 18) hx hb dL_law_1361 (by decide) ?_
      exact ih x124 σ τ _ _ ls (by have h9 := tx124; omega) ⟨hI2, hI9, hI12, hI16, hI18, hI22, hI31, hI38, hI43, hI47, hI50, hI101, hI102, hI103, hI104, hI105, hI106, hI107, hI109, hI110, hI111, hI119, hs_jKept, hs_jBook, (by omega), hr0, hr1⟩ hP hS (lv_sub hl [0, 1, 2, 3] rfl)
  · obtain ⟨q126, k125⟩ := h18
    have q126 := q126.symm
    subst q126
    refine lv_pop hx hb dL_law_426 rfl ?_
    refine lv_aload_n hx hb dL_law_427 rfl (lv_at hl 1 rfl) ?_
    refine lv_aload_n hx hb dL_law_428 rfl (lv_at hl 3 rfl) ?_
    refine lv_iload_n hx hb dL_law_429 rfl (lv_at hl 0 rfl) ?_
    refine lv_iconst (v := 1) hx hb dL_law_430 (by decide) ?_
    refine lv_iadd hx hb dL_law_431 ?_
    refine jtopr ex10.symm ?_
    refine va_sld hx hb hX hbl hbA hS (jin tx10 (by omega) (by omega)) dL_law_432 ?_
    refine jcallV (As := [.int (xs x10.toNatClampNeg)]) (rest := []) ⟨hx, hb, hml, hown, hts⟩ hK hP hA hS hZ (c_X12_of l D cI cL ad zz hJ σ τ (xs x10.toNatClampNeg) ((xs x10.toNatClampNeg).toInt) rfl hI104 hI107) cw_RL_48 (jc_55 cI cL ad σ τ) rfl ⟨Nat.le_of_ble_eq_true rfl, Nat.le_of_ble_eq_true rfl⟩ rfl rfl rfl hl.1 rfl (Nat.le_of_ble_eq_true rfl) dL_law_433 ⟨Nat.le_of_ble_eq_true rfl, Nat.le_of_ble_eq_true rfl⟩ (fun r128 σ127 τ127 H locs h127 hP hS => ?_)
    obtain ⟨⟨rfl, rfl⟩, h127⟩ := h127
    rcases h127 with h129 | h130 | h131 | h132 | h133
    · obtain ⟨q136, k134, k135⟩ := h129
      exact absurd (by omega : False) id
    · obtain ⟨q139, k137, k138⟩ := h130
      exact absurd (by omega : False) id
    · obtain ⟨q142, k140, k141⟩ := h131
      exact absurd (by omega : False) id
    · obtain ⟨q146, k143, k144, k145⟩ := h132
      refine lv_pop hx hb dL_law_436 rfl ?_
      refine lv_goto (tgt := 1358) hx hb dL_law_437 (by decide) ?_
      obtain ⟨x147, ex147⟩ : ∃ y : Int32, y = x0 + 6 := ⟨_, rfl⟩
      have tx147 : x147.toInt = x0.toInt + 6 := (jadd ex147 rfl jz_6 (by omega) (by omega)).trans (by omega)
      refine lv_iinc (v := x147) (lv' := [(3, .int x147), (2, .ref (ad 55)), (1, .ref (ad 0)), (0, .ref b)]) hx hb dL_law_1358 hl (k := 0) rfl (by rw [ex147]; rfl) (by decide) rfl (fun ls hl => ?_)
      refine lv_goto (tgt := 18) hx hb dL_law_1361 (by decide) ?_
      exact ih x147 σ τ _ _ ls (by have h9 := tx147; omega) ⟨hI2, hI9, hI12, hI16, hI18, hI22, hI31, hI38, hI43, hI47, hI50, hI101, hI102, hI103, hI104, hI105, hI106, hI107, hI109, hI110, hI111, hI119, hs_jKept, hs_jBook, (by omega), hr0, hr1⟩ hP hS (lv_sub hl [0, 1, 2, 3] rfl)
    · obtain ⟨q149, k148⟩ := h133
      have q149 := q149.symm
      subst q149
      refine lv_pop hx hb dL_law_436 rfl ?_
      refine lv_goto (tgt := 1358) hx hb dL_law_437 (by decide) ?_
      obtain ⟨x150, ex150⟩ : ∃ y : Int32, y = x0 + 6 := ⟨_, rfl⟩
      have tx150 : x150.toInt = x0.toInt + 6 := (jadd ex150 rfl jz_6 (by omega) (by omega)).trans (by omega)
      refine lv_iinc (v := x150) (lv' := [(3, .int x150), (2, .ref (ad 55)), (1, .ref (ad 0)), (0, .ref b)]) hx hb dL_law_1358 hl (k := 0) rfl (by rw [ex150]; rfl) (by decide) rfl (fun ls hl => ?_)
      refine lv_goto (tgt := 18) hx hb dL_law_1361 (by decide) ?_
      exact ih x150 σ τ _ _ ls (by have h9 := tx150; omega) ⟨hI2, hI9, hI12, hI16, hI18, hI22, hI31, hI38, hI43, hI47, hI50, hI101, hI102, hI103, hI104, hI105, hI106, hI107, hI109, hI110, hI111, hI119, hs_jKept, hs_jBook, (by omega), hr0, hr1⟩ hP hS (lv_sub hl [0, 1, 2, 3] rfl)
set_option maxHeartbeats 4000000 in
set_option maxRecDepth 100000 in
theorem law_case_8 {p : Program} {e : Env} {s : State} {m : MethodId} {below : List Frame} {meth : Method} {c : Code} (l : Launch) {b L : Nat} {xs : Nat → Int32} {D : va_G} {cI cL : ClassId} {ad zz : Nat → Nat} (C0 : lw_At p s m meth c b L xs) (hJ : jD ad) (hA : ∀ q, jA ad q → s.heap.size ≤ q) (hK : jK D cI cL s) (hZ : jZ zz (fun q : Nat => s.heap.size ≤ q) s s.heap) {x0 : Int32} (hx0 : 0 ≤ x0.toInt) (hxL : x0.toInt + 6 ≤ (L : Int)) (hL : L ≤ 384) {σ : Nat → Nat → Int32} {τ : Nat → Nat → Int64} {H : Heap} {locs : List Loc} (hS : va_S (fun q : Nat => s.heap.size ≤ q) s.heap H locs) {ls : Array Slot} (hAll : jAll σ τ) (hP : jH D cI cL ad σ τ H) (hl : lv_has ls 4 [(3, .int x0), (2, .ref (ad 55)), (1, .ref (ad 0)), (0, .ref b)]) (ih : ∀ (x1 : Int32) (σ : Nat → Nat → Int32) (τ : Nat → Nat → Int64) (H : Heap) (locs : List Loc) (ls : Array Slot), x1.toInt = x0.toInt + 6 → jAll σ τ → jH D cI cL ad σ τ H → va_S (fun q : Nat => s.heap.size ≤ q) s.heap H locs → lv_has ls 4 [(3, .int x1), (2, .ref (ad 55)), (1, .ref (ad 0)), (0, .ref b)] → W p l e room_1 s m #[Value.ref b] below meth c H locs 90 348600 (lw_Z below #[Value.ref b] s) (F0 m 18 ls [])) : W p l e room_1 s m #[Value.ref b] below meth c H locs 90 348600 (lw_Z below #[Value.ref b] s) (F0 m 440 ls []) := by
  obtain ⟨hx, hb, hr, hml, hown, hts0, hX, hbl, hlocks, hgv⟩ := C0
  have hts : ∀ w ∈ wsL_law, w.before #[Value.ref b] s = true := fun w h => hts0 w (wsL_law_in w h)
  have hbA : ¬ (fun q : Nat => s.heap.size ≤ q) b := Nat.not_le.mpr hbl
  have hown : s.vm.findClass RL = some m.cls := hown
  obtain ⟨hI2, hI9, hI12, hI16, hI18, hI22, hI31, hI38, hI43, hI47, hI50, hI101, hI102, hI103, hI104, hI105, hI106, hI107, hI109, hI110, hI111, hI119, hs_jKept, hs_jBook, ht0, hr0, hr1⟩ := hAll
  have hL9 : (L : Int) ≤ 384 := by omega
  obtain ⟨i1, i2, w3⟩ : (0 ≤ (σ 38 0).toInt ∧ (σ 38 0).toInt ≤ 20) ∧ (0 ≤ (σ 38 1).toInt ∧ (σ 38 1).toInt ≤ 1000) ∧ (∀ k : Nat, k < 20 → 0 ≤ (σ 39 k).toInt ∧ (σ 39 k).toInt ≤ 6) := id hI38
  have w4 : ∀ k : Nat, k < 6 → 0 ≤ (σ 52 k).toInt ∧ (σ 52 k).toInt ≤ 60 := hI50
  obtain ⟨i5, w6, w7, w8⟩ : (0 ≤ (σ 55 32).toInt ∧ (σ 55 32).toInt ≤ 20) ∧ (∀ k : Nat, k < 20 → 0 ≤ (σ 70 k).toInt ∧ (σ 70 k).toInt ≤ 6) ∧ (∀ k : Nat, k < 20 → 0 ≤ (σ 71 k).toInt ∧ (σ 71 k).toInt ≤ 8) ∧ (∀ k : Nat, k < 160 → 0 ≤ (σ 72 k).toInt ∧ (σ 72 k).toInt ≤ 3) := id hI106
  refine lv_aload_n hx hb dL_law_440 rfl (lv_at hl 2 rfl) ?_
  refine lv_aload_n hx hb dL_law_441 rfl (lv_at hl 3 rfl) ?_
  refine lv_iload_n hx hb dL_law_442 rfl (lv_at hl 0 rfl) ?_
  refine lv_iconst (v := 1) hx hb dL_law_443 (by decide) ?_
  have g9 := jrg (rfl : x0.toInt = x0.toInt)
  refine lv_iadd hx hb dL_law_444 ?_
  refine lv_topi (fun x10 ex10 => ?_)
  have tx10 : x10.toInt = x0.toInt + 1 := (jadd ex10 rfl jz_1 (by omega) (by omega)).trans (by omega)
  refine va_sld hx hb hX hbl hbA hS (jin tx10 (by omega) (by omega)) dL_law_445 ?_
  have g11 := jrg (rfl : (xs x10.toNatClampNeg).toInt = (xs x10.toNatClampNeg).toInt)
  refine lv_aload_n hx hb dL_law_446 rfl (lv_at hl 3 rfl) ?_
  refine lv_iload_n hx hb dL_law_447 rfl (lv_at hl 0 rfl) ?_
  refine lv_iconst (v := 2) hx hb dL_law_448 (by decide) ?_
  refine lv_iadd hx hb dL_law_449 ?_
  refine lv_topi (fun x12 ex12 => ?_)
  have tx12 : x12.toInt = x0.toInt + 2 := (jadd ex12 rfl jz_2 (by omega) (by omega)).trans (by omega)
  refine va_sld hx hb hX hbl hbA hS (jin tx12 (by omega) (by omega)) dL_law_450 ?_
  have g13 := jrg (rfl : (xs x12.toNatClampNeg).toInt = (xs x12.toNatClampNeg).toInt)
  refine lv_aload_n hx hb dL_law_451 rfl (lv_at hl 3 rfl) ?_
  refine lv_iload_n hx hb dL_law_452 rfl (lv_at hl 0 rfl) ?_
  refine lv_iconst (v := 3) hx hb dL_law_453 (by decide) ?_
  refine lv_iadd hx hb dL_law_454 ?_
  refine lv_topi (fun x14 ex14 => ?_)
  have tx14 : x14.toInt = x0.toInt + 3 := (jadd ex14 rfl jz_3 (by omega) (by omega)).trans (by omega)
  refine va_sld hx hb hX hbl hbA hS (jin tx14 (by omega) (by omega)) dL_law_455 ?_
  have g15 := jrg (rfl : (xs x14.toNatClampNeg).toInt = (xs x14.toNatClampNeg).toInt)
  refine jcallV (As := [.int (xs x10.toNatClampNeg), .int (xs x12.toNatClampNeg), .int (xs x14.toNatClampNeg)]) (rest := []) ⟨hx, hb, hml, hown, hts⟩ hK hP hA hS hZ (c_X11_over l D cI cL ad zz hJ σ τ (xs x10.toNatClampNeg) ((xs x10.toNatClampNeg).toInt) rfl (xs x12.toNatClampNeg) ((xs x12.toNatClampNeg).toInt) rfl (xs x14.toNatClampNeg) ((xs x14.toNatClampNeg).toInt) rfl hI2 hI22) cw_RL_49 (jc_0 cI cL ad σ τ) rfl ⟨Nat.le_of_ble_eq_true rfl, Nat.le_of_ble_eq_true rfl⟩ rfl rfl rfl hl.1 rfl (Nat.le_of_ble_eq_true rfl) dL_law_456 ⟨Nat.le_of_ble_eq_true rfl, Nat.le_of_ble_eq_true rfl⟩ (fun r17 σ16 τ16 H locs h16 hP hS => ?_)
  obtain ⟨rfl, f18, h16⟩ := h16
  refine lv_pop hx hb dL_law_459 rfl ?_
  refine lv_aload_n hx hb dL_law_460 rfl (lv_at hl 1 rfl) ?_
  refine lv_aload_n hx hb dL_law_461 rfl (lv_at hl 3 rfl) ?_
  refine lv_iload_n hx hb dL_law_462 rfl (lv_at hl 0 rfl) ?_
  refine lv_iconst (v := 1) hx hb dL_law_463 (by decide) ?_
  refine lv_iadd hx hb dL_law_464 ?_
  refine jtopr ex10.symm ?_
  refine va_sld hx hb hX hbl hbA hS (jin tx10 (by omega) (by omega)) dL_law_465 ?_
  refine lv_aload_n hx hb dL_law_466 rfl (lv_at hl 3 rfl) ?_
  refine lv_iload_n hx hb dL_law_467 rfl (lv_at hl 0 rfl) ?_
  refine lv_iconst (v := 2) hx hb dL_law_468 (by decide) ?_
  refine lv_iadd hx hb dL_law_469 ?_
  refine jtopr ex12.symm ?_
  refine va_sld hx hb hX hbl hbA hS (jin tx12 (by omega) (by omega)) dL_law_470 ?_
  refine lv_aload_n hx hb dL_law_471 rfl (lv_at hl 3 rfl) ?_
  refine lv_iload_n hx hb dL_law_472 rfl (lv_at hl 0 rfl) ?_
  refine lv_iconst (v := 3) hx hb dL_law_473 (by decide) ?_
  refine lv_iadd hx hb dL_law_474 ?_
  refine jtopr ex14.symm ?_
  refine va_sld hx hb hX hbl hbA hS (jin tx14 (by omega) (by omega)) dL_law_475 ?_
  have I20 : jI101 σ16 := jI101_fr (congrFun (f18 55 (by decide)) 4) (congrFun (f18 55 (by decide)) 5) (f18 56 (by decide)) (f18 57 (by decide)) (f18 58 (by decide)) (f18 59 (by decide)) hI101
  have I21 : jI102 σ16 := jI102_fr (congrFun (f18 55 (by decide)) 6) (f18 60 (by decide)) (f18 61 (by decide)) hI102
  have I22 : jI103 σ16 := jI103_fr (congrFun (f18 55 (by decide)) 9) hI103
  have I23 : jI104 σ16 := jI104_fr (congrFun (f18 55 (by decide)) 10) (congrFun (f18 55 (by decide)) 12) (congrFun (f18 55 (by decide)) 13) (f18 62 (by decide)) (f18 67 (by decide)) hI104
  have I24 : jI105 σ16 := jI105_fr (congrFun (f18 55 (by decide)) 15) (f18 65 (by decide)) hI105
  have I25 : jI119 σ16 := jI119_fr (f18 68 (by decide)) hI119
  refine jcallV (As := [.int (xs x10.toNatClampNeg), .int (xs x12.toNatClampNeg), .int (xs x14.toNatClampNeg)]) (rest := []) ⟨hx, hb, hml, hown, hts⟩ hK hP hA hS hZ (c_X12_over l D cI cL ad zz hJ σ16 τ (xs x10.toNatClampNeg) ((xs x10.toNatClampNeg).toInt) rfl (xs x12.toNatClampNeg) ((xs x12.toNatClampNeg).toInt) rfl (xs x14.toNatClampNeg) ((xs x14.toNatClampNeg).toInt) rfl I20 I21 I22 I23 I24 I25) cw_RL_52 (jc_55 cI cL ad σ16 τ) rfl ⟨Nat.le_of_ble_eq_true rfl, Nat.le_of_ble_eq_true rfl⟩ rfl rfl rfl hl.1 rfl (Nat.le_of_ble_eq_true rfl) dL_law_476 ⟨Nat.le_of_ble_eq_true rfl, Nat.le_of_ble_eq_true rfl⟩ (fun r27 σ26 τ26 H locs h26 hP hS => ?_)
  obtain ⟨rfl, f28, f29, I30, h26⟩ := h26
  refine lv_pop hx hb dL_law_479 rfl ?_
  refine lv_goto (tgt := 1358) hx hb dL_law_480 (by decide) ?_
  obtain ⟨x32, ex32⟩ : ∃ y : Int32, y = x0 + 6 := ⟨_, rfl⟩
  have tx32 : x32.toInt = x0.toInt + 6 := (jadd ex32 rfl jz_6 (by omega) (by omega)).trans (by omega)
  refine lv_iinc (v := x32) (lv' := [(3, .int x32), (2, .ref (ad 55)), (1, .ref (ad 0)), (0, .ref b)]) hx hb dL_law_1358 hl (k := 0) rfl (by rw [ex32]; rfl) (by decide) rfl (fun ls hl => ?_)
  refine lv_goto (tgt := 18) hx hb dL_law_1361 (by decide) ?_
  have I33 : jI2 σ26 := jI2_fr ((congrFun (f28 2 (by decide)) 0).trans (congrFun (f18 2 (by decide)) 0)) ((congrFun (f28 2 (by decide)) 1).trans (congrFun (f18 2 (by decide)) 1)) ((congrFun (f28 2 (by decide)) 2).trans (congrFun (f18 2 (by decide)) 2)) ((congrFun (f28 2 (by decide)) 3).trans (congrFun (f18 2 (by decide)) 3)) ((f28 6 (by decide)).trans (f18 6 (by decide))) hI2
  have I34 : jI9 σ26 := jI9_fr ((congrFun (f28 9 (by decide)) 0).trans (congrFun (f18 9 (by decide)) 0)) ((f28 10 (by decide)).trans (f18 10 (by decide))) ((f28 11 (by decide)).trans (f18 11 (by decide))) hI9
  have I35 : jI12 σ26 := jI12_fr ((congrFun (f28 12 (by decide)) 0).trans (congrFun (f18 12 (by decide)) 0)) ((f28 13 (by decide)).trans (f18 13 (by decide))) hI12
  have I36 : jI16 σ26 := jI16_fr ((congrFun (f28 16 (by decide)) 0).trans (congrFun (f18 16 (by decide)) 0)) ((congrFun (f28 16 (by decide)) 1).trans (congrFun (f18 16 (by decide)) 1)) ((congrFun (f28 16 (by decide)) 2).trans (congrFun (f18 16 (by decide)) 2)) ((f28 17 (by decide)).trans (f18 17 (by decide))) hI16
  have I37 : jI18 σ26 := jI18_fr ((congrFun (f28 18 (by decide)) 0).trans (congrFun (f18 18 (by decide)) 0)) ((f28 19 (by decide)).trans (f18 19 (by decide))) hI18
  have I38 : jI22 σ26 := jI22_fr ((congrFun (f28 22 (by decide)) 0).trans (congrFun (f18 22 (by decide)) 0)) ((f28 23 (by decide)).trans (f18 23 (by decide))) hI22
  have I39 : jI31 σ26 := jI31_fr ((congrFun (f28 31 (by decide)) 8).trans (congrFun (f18 31 (by decide)) 8)) ((f28 33 (by decide)).trans (f18 33 (by decide))) ((f28 36 (by decide)).trans (f18 36 (by decide))) hI31
  have I40 : jI38 σ26 := jI38_fr ((congrFun (f28 38 (by decide)) 0).trans (congrFun (f18 38 (by decide)) 0)) ((congrFun (f28 38 (by decide)) 1).trans (congrFun (f18 38 (by decide)) 1)) ((f28 39 (by decide)).trans (f18 39 (by decide))) hI38
  have I41 : jI43 σ26 := jI43_fr ((congrFun (f28 43 (by decide)) 8).trans (congrFun (f18 43 (by decide)) 8)) hI43
  have I42 : jI47 σ26 := jI47_fr ((congrFun (f28 47 (by decide)) 0).trans (congrFun (f18 47 (by decide)) 0)) ((f28 48 (by decide)).trans (f18 48 (by decide))) ((f28 49 (by decide)).trans (f18 49 (by decide))) hI47
  have I43 : jI50 σ26 := jI50_fr ((f28 52 (by decide)).trans (f18 52 (by decide))) hI50
  have I44 : jI101 σ26 := jI101_fr (f29 4 (by decide)) (f29 5 (by decide)) (f28 56 (by decide)) (f28 57 (by decide)) (f28 58 (by decide)) (f28 59 (by decide)) I20
  have I45 : jI102 σ26 := jI102_fr (f29 6 (by decide)) (f28 60 (by decide)) (f28 61 (by decide)) I21
  have I46 : jI103 σ26 := jI103_fr (f29 9 (by decide)) I22
  have I47 : jI104 σ26 := jI104_fr (f29 10 (by decide)) (f29 12 (by decide)) (f29 13 (by decide)) (f28 62 (by decide)) (f28 67 (by decide)) I23
  have I48 : jI105 σ26 := jI105_fr (f29 15 (by decide)) (f28 65 (by decide)) I24
  have I49 : jI106 σ26 := jI106_fr ((f29 32 (by decide)).trans (congrFun (f18 55 (by decide)) 32)) ((f28 70 (by decide)).trans (f18 70 (by decide))) ((f28 71 (by decide)).trans (f18 71 (by decide))) ((f28 72 (by decide)).trans (f18 72 (by decide))) hI106
  have I50 : jI107 σ26 := jI107_fr ((f29 12 (by decide)).trans (congrFun (f18 55 (by decide)) 12)) ((f29 47 (by decide)).trans (congrFun (f18 55 (by decide)) 47)) ((f28 80 (by decide)).trans (f18 80 (by decide))) hI107
  have I51 : jI109 σ26 := jI109_fr ((f29 50 (by decide)).trans (congrFun (f18 55 (by decide)) 50)) hI109
  have I52 : jI110 σ26 := jI110_fr ((f28 86 (by decide)).trans (f18 86 (by decide))) ((f28 87 (by decide)).trans (f18 87 (by decide))) hI110
  have I53 : jI111 σ26 := jI111_fr ((f28 79 (by decide)).trans (f18 79 (by decide))) hI111
  have p54 : jKept σ26 := jKept.fr ((f28 75 (by decide)).trans (f18 75 (by decide))) ((f28 76 (by decide)).trans (f18 76 (by decide))) ((f28 77 (by decide)).trans (f18 77 (by decide))) hs_jKept
  have p55 : jBook σ26 := jBook.fr ((f29 47 (by decide)).trans (congrFun (f18 55 (by decide)) 47)) ((f29 10 (by decide)).trans (congrFun (f18 55 (by decide)) 10)) ((f28 81 (by decide)).trans (f18 81 (by decide))) hs_jBook
  have z56 : (σ26 38 0).toInt = (σ 38 0).toInt := (congrArg Int32.toInt (show σ26 38 0 = (σ 38 0) from ((congrFun (f28 38 (by decide)) 0).trans (congrFun (f18 38 (by decide)) 0))))
  have z57 : (σ26 55 32).toInt = (σ 55 32).toInt := (congrArg Int32.toInt (show σ26 55 32 = (σ 55 32) from ((f29 32 (by decide)).trans (congrFun (f18 55 (by decide)) 32))))
  exact ih x32 σ26 τ _ _ ls (by have h9 := tx32; omega) ⟨I33, I34, I35, I36, I37, I38, I39, I40, I41, I42, I43, I44, I45, I46, I47, I48, I49, I50, I51, I52, I53, I30, p54, p55, (by omega), (show jShP (σ26 51) (σ26 52) (σ26 53) (σ26 86) (σ26 87) (σ26 55 32).toInt by rw [show σ26 51 = σ 51 from ((f28 51 (by decide)).trans (f18 51 (by decide))), show σ26 52 = σ 52 from ((f28 52 (by decide)).trans (f18 52 (by decide))), show σ26 53 = σ 53 from ((f28 53 (by decide)).trans (f18 53 (by decide))), show σ26 86 = σ 86 from ((f28 86 (by decide)).trans (f18 86 (by decide))), show σ26 87 = σ 87 from ((f28 87 (by decide)).trans (f18 87 (by decide)))]; exact (hr0.up (by omega) (by omega))), (show jEl (σ26 51) (σ26 52) (τ 54) (τ 88) by rw [show σ26 51 = σ 51 from ((f28 51 (by decide)).trans (f18 51 (by decide))), show σ26 52 = σ 52 from ((f28 52 (by decide)).trans (f18 52 (by decide)))]; exact hr1)⟩ hP hS (lv_sub hl [0, 1, 2, 3] rfl)
set_option maxHeartbeats 4000000 in
set_option maxRecDepth 100000 in
theorem law_case_9 {p : Program} {e : Env} {s : State} {m : MethodId} {below : List Frame} {meth : Method} {c : Code} (l : Launch) {b L : Nat} {xs : Nat → Int32} {D : va_G} {cI cL : ClassId} {ad zz : Nat → Nat} (C0 : lw_At p s m meth c b L xs) (hJ : jD ad) (hA : ∀ q, jA ad q → s.heap.size ≤ q) (hK : jK D cI cL s) (hZ : jZ zz (fun q : Nat => s.heap.size ≤ q) s s.heap) {x0 : Int32} (hx0 : 0 ≤ x0.toInt) (hxL : x0.toInt + 6 ≤ (L : Int)) (hL : L ≤ 384) {σ : Nat → Nat → Int32} {τ : Nat → Nat → Int64} {H : Heap} {locs : List Loc} (hS : va_S (fun q : Nat => s.heap.size ≤ q) s.heap H locs) {ls : Array Slot} (hAll : jAll σ τ) (hP : jH D cI cL ad σ τ H) (hl : lv_has ls 4 [(3, .int x0), (2, .ref (ad 55)), (1, .ref (ad 0)), (0, .ref b)]) (ih : ∀ (x1 : Int32) (σ : Nat → Nat → Int32) (τ : Nat → Nat → Int64) (H : Heap) (locs : List Loc) (ls : Array Slot), x1.toInt = x0.toInt + 6 → jAll σ τ → jH D cI cL ad σ τ H → va_S (fun q : Nat => s.heap.size ≤ q) s.heap H locs → lv_has ls 4 [(3, .int x1), (2, .ref (ad 55)), (1, .ref (ad 0)), (0, .ref b)] → W p l e room_1 s m #[Value.ref b] below meth c H locs 90 348600 (lw_Z below #[Value.ref b] s) (F0 m 18 ls [])) : W p l e room_1 s m #[Value.ref b] below meth c H locs 90 348600 (lw_Z below #[Value.ref b] s) (F0 m 483 ls []) := by
  obtain ⟨hx, hb, hr, hml, hown, hts0, hX, hbl, hlocks, hgv⟩ := C0
  have hts : ∀ w ∈ wsL_law, w.before #[Value.ref b] s = true := fun w h => hts0 w (wsL_law_in w h)
  have hbA : ¬ (fun q : Nat => s.heap.size ≤ q) b := Nat.not_le.mpr hbl
  have hown : s.vm.findClass RL = some m.cls := hown
  obtain ⟨hI2, hI9, hI12, hI16, hI18, hI22, hI31, hI38, hI43, hI47, hI50, hI101, hI102, hI103, hI104, hI105, hI106, hI107, hI109, hI110, hI111, hI119, hs_jKept, hs_jBook, ht0, hr0, hr1⟩ := hAll
  have hL9 : (L : Int) ≤ 384 := by omega
  obtain ⟨i1, i2, w3⟩ : (0 ≤ (σ 38 0).toInt ∧ (σ 38 0).toInt ≤ 20) ∧ (0 ≤ (σ 38 1).toInt ∧ (σ 38 1).toInt ≤ 1000) ∧ (∀ k : Nat, k < 20 → 0 ≤ (σ 39 k).toInt ∧ (σ 39 k).toInt ≤ 6) := id hI38
  have w4 : ∀ k : Nat, k < 6 → 0 ≤ (σ 52 k).toInt ∧ (σ 52 k).toInt ≤ 60 := hI50
  obtain ⟨i5, w6, w7, w8⟩ : (0 ≤ (σ 55 32).toInt ∧ (σ 55 32).toInt ≤ 20) ∧ (∀ k : Nat, k < 20 → 0 ≤ (σ 70 k).toInt ∧ (σ 70 k).toInt ≤ 6) ∧ (∀ k : Nat, k < 20 → 0 ≤ (σ 71 k).toInt ∧ (σ 71 k).toInt ≤ 8) ∧ (∀ k : Nat, k < 160 → 0 ≤ (σ 72 k).toInt ∧ (σ 72 k).toInt ≤ 3) := id hI106
  refine lv_aload_n hx hb dL_law_483 rfl (lv_at hl 2 rfl) ?_
  refine lv_aload_n hx hb dL_law_484 rfl (lv_at hl 3 rfl) ?_
  refine lv_iload_n hx hb dL_law_485 rfl (lv_at hl 0 rfl) ?_
  refine lv_iconst (v := 1) hx hb dL_law_486 (by decide) ?_
  have g9 := jrg (rfl : x0.toInt = x0.toInt)
  refine lv_iadd hx hb dL_law_487 ?_
  refine lv_topi (fun x10 ex10 => ?_)
  have tx10 : x10.toInt = x0.toInt + 1 := (jadd ex10 rfl jz_1 (by omega) (by omega)).trans (by omega)
  refine va_sld hx hb hX hbl hbA hS (jin tx10 (by omega) (by omega)) dL_law_488 ?_
  have g11 := jrg (rfl : (xs x10.toNatClampNeg).toInt = (xs x10.toNatClampNeg).toInt)
  refine lv_aload_n hx hb dL_law_489 rfl (lv_at hl 3 rfl) ?_
  refine lv_iload_n hx hb dL_law_490 rfl (lv_at hl 0 rfl) ?_
  refine lv_iconst (v := 2) hx hb dL_law_491 (by decide) ?_
  refine lv_iadd hx hb dL_law_492 ?_
  refine lv_topi (fun x12 ex12 => ?_)
  have tx12 : x12.toInt = x0.toInt + 2 := (jadd ex12 rfl jz_2 (by omega) (by omega)).trans (by omega)
  refine va_sld hx hb hX hbl hbA hS (jin tx12 (by omega) (by omega)) dL_law_493 ?_
  have g13 := jrg (rfl : (xs x12.toNatClampNeg).toInt = (xs x12.toNatClampNeg).toInt)
  refine lv_aload_n hx hb dL_law_494 rfl (lv_at hl 3 rfl) ?_
  refine lv_iload_n hx hb dL_law_495 rfl (lv_at hl 0 rfl) ?_
  refine lv_iconst (v := 3) hx hb dL_law_496 (by decide) ?_
  refine lv_iadd hx hb dL_law_497 ?_
  refine lv_topi (fun x14 ex14 => ?_)
  have tx14 : x14.toInt = x0.toInt + 3 := (jadd ex14 rfl jz_3 (by omega) (by omega)).trans (by omega)
  refine va_sld hx hb hX hbl hbA hS (jin tx14 (by omega) (by omega)) dL_law_498 ?_
  have g15 := jrg (rfl : (xs x14.toNatClampNeg).toInt = (xs x14.toNatClampNeg).toInt)
  refine jcallV (As := [.int (xs x10.toNatClampNeg), .int (xs x12.toNatClampNeg), .int (xs x14.toNatClampNeg)]) (rest := []) ⟨hx, hb, hml, hown, hts⟩ hK hP hA hS hZ (c_X11_rule l D cI cL ad zz hJ σ τ (xs x10.toNatClampNeg) ((xs x10.toNatClampNeg).toInt) rfl (xs x12.toNatClampNeg) ((xs x12.toNatClampNeg).toInt) rfl (xs x14.toNatClampNeg) ((xs x14.toNatClampNeg).toInt) rfl hI38) cw_RL_53 (jc_0 cI cL ad σ τ) rfl ⟨Nat.le_of_ble_eq_true rfl, Nat.le_of_ble_eq_true rfl⟩ rfl rfl rfl hl.1 rfl (Nat.le_of_ble_eq_true rfl) dL_law_499 ⟨Nat.le_of_ble_eq_true rfl, Nat.le_of_ble_eq_true rfl⟩ (fun r17 σ16 τ16 H locs h16 hP hS => ?_)
  obtain ⟨rfl, f18, f19, I20, h16⟩ := h16
  obtain ⟨i22, i23, w24⟩ : (0 ≤ (σ16 38 0).toInt ∧ (σ16 38 0).toInt ≤ 20) ∧ (0 ≤ (σ16 38 1).toInt ∧ (σ16 38 1).toInt ≤ 1000) ∧ (∀ k : Nat, k < 20 → 0 ≤ (σ16 39 k).toInt ∧ (σ16 39 k).toInt ≤ 6) := id I20
  have z25 : (σ16 38 1).toInt = (σ 38 1).toInt := (congrArg Int32.toInt (show σ16 38 1 = (σ 38 1) from (f19 1 (by decide))))
  rcases h16 with h26 | h27 | h28
  · obtain ⟨q32, k29, k30, k31⟩ := h26
    have q32 := q32.symm
    subst q32
    refine lv_pop hx hb dL_law_502 rfl ?_
    refine lv_aload_n hx hb dL_law_503 rfl (lv_at hl 1 rfl) ?_
    refine lv_aload_n hx hb dL_law_504 rfl (lv_at hl 3 rfl) ?_
    refine lv_iload_n hx hb dL_law_505 rfl (lv_at hl 0 rfl) ?_
    refine lv_iconst (v := 1) hx hb dL_law_506 (by decide) ?_
    refine lv_iadd hx hb dL_law_507 ?_
    refine jtopr ex10.symm ?_
    refine va_sld hx hb hX hbl hbA hS (jin tx10 (by omega) (by omega)) dL_law_508 ?_
    refine lv_aload_n hx hb dL_law_509 rfl (lv_at hl 3 rfl) ?_
    refine lv_iload_n hx hb dL_law_510 rfl (lv_at hl 0 rfl) ?_
    refine lv_iconst (v := 2) hx hb dL_law_511 (by decide) ?_
    refine lv_iadd hx hb dL_law_512 ?_
    refine jtopr ex12.symm ?_
    refine va_sld hx hb hX hbl hbA hS (jin tx12 (by omega) (by omega)) dL_law_513 ?_
    refine lv_aload_n hx hb dL_law_514 rfl (lv_at hl 3 rfl) ?_
    refine lv_iload_n hx hb dL_law_515 rfl (lv_at hl 0 rfl) ?_
    refine lv_iconst (v := 3) hx hb dL_law_516 (by decide) ?_
    refine lv_iadd hx hb dL_law_517 ?_
    refine jtopr ex14.symm ?_
    refine va_sld hx hb hX hbl hbA hS (jin tx14 (by omega) (by omega)) dL_law_518 ?_
    have I33 : jI106 σ16 := jI106_fr (congrFun (f18 55 (by decide)) 32) (f18 70 (by decide)) (f18 71 (by decide)) (f18 72 (by decide)) hI106
    have z34 : (σ16 55 32).toInt = (σ 55 32).toInt := (congrArg Int32.toInt (show σ16 55 32 = (σ 55 32) from (congrFun (f18 55 (by decide)) 32)))
    refine jcallV (As := [.int (xs x10.toNatClampNeg), .int (xs x12.toNatClampNeg), .int (xs x14.toNatClampNeg)]) (rest := []) ⟨hx, hb, hml, hown, hts⟩ hK hP hA hS hZ (c_X12_rule l D cI cL ad zz hJ σ16 τ (xs x10.toNatClampNeg) ((xs x10.toNatClampNeg).toInt) rfl (xs x12.toNatClampNeg) ((xs x12.toNatClampNeg).toInt) rfl (xs x14.toNatClampNeg) ((xs x14.toNatClampNeg).toInt) rfl I33) cw_RL_56 (jc_55 cI cL ad σ16 τ) rfl ⟨Nat.le_of_ble_eq_true rfl, Nat.le_of_ble_eq_true rfl⟩ rfl rfl rfl hl.1 rfl (Nat.le_of_ble_eq_true rfl) dL_law_519 ⟨Nat.le_of_ble_eq_true rfl, Nat.le_of_ble_eq_true rfl⟩ (fun r36 σ35 τ35 H locs h35 hP hS => ?_)
    obtain ⟨rfl, f37, f38, I39, h35⟩ := h35
    obtain ⟨i41, w42, w43, w44⟩ : (0 ≤ (σ35 55 32).toInt ∧ (σ35 55 32).toInt ≤ 20) ∧ (∀ k : Nat, k < 20 → 0 ≤ (σ35 70 k).toInt ∧ (σ35 70 k).toInt ≤ 6) ∧ (∀ k : Nat, k < 20 → 0 ≤ (σ35 71 k).toInt ∧ (σ35 71 k).toInt ≤ 8) ∧ (∀ k : Nat, k < 160 → 0 ≤ (σ35 72 k).toInt ∧ (σ35 72 k).toInt ≤ 3) := id I39
    rcases h35 with h45 | h46 | h47
    · obtain ⟨q51, k48, k49, k50⟩ := h45
      have q51 := q51.symm
      subst q51
      refine lv_pop hx hb dL_law_522 rfl ?_
      refine lv_goto (tgt := 1358) hx hb dL_law_523 (by decide) ?_
      obtain ⟨x52, ex52⟩ : ∃ y : Int32, y = x0 + 6 := ⟨_, rfl⟩
      have tx52 : x52.toInt = x0.toInt + 6 := (jadd ex52 rfl jz_6 (by omega) (by omega)).trans (by omega)
      refine lv_iinc (v := x52) (lv' := [(3, .int x52), (2, .ref (ad 55)), (1, .ref (ad 0)), (0, .ref b)]) hx hb dL_law_1358 hl (k := 0) rfl (by rw [ex52]; rfl) (by decide) rfl (fun ls hl => ?_)
      refine lv_goto (tgt := 18) hx hb dL_law_1361 (by decide) ?_
      have I53 : jI2 σ35 := jI2_fr ((congrFun (f37 2 (by decide)) 0).trans (congrFun (f18 2 (by decide)) 0)) ((congrFun (f37 2 (by decide)) 1).trans (congrFun (f18 2 (by decide)) 1)) ((congrFun (f37 2 (by decide)) 2).trans (congrFun (f18 2 (by decide)) 2)) ((congrFun (f37 2 (by decide)) 3).trans (congrFun (f18 2 (by decide)) 3)) ((f37 6 (by decide)).trans (f18 6 (by decide))) hI2
      have I54 : jI9 σ35 := jI9_fr ((congrFun (f37 9 (by decide)) 0).trans (congrFun (f18 9 (by decide)) 0)) ((f37 10 (by decide)).trans (f18 10 (by decide))) ((f37 11 (by decide)).trans (f18 11 (by decide))) hI9
      have I55 : jI12 σ35 := jI12_fr ((congrFun (f37 12 (by decide)) 0).trans (congrFun (f18 12 (by decide)) 0)) ((f37 13 (by decide)).trans (f18 13 (by decide))) hI12
      have I56 : jI16 σ35 := jI16_fr ((congrFun (f37 16 (by decide)) 0).trans (congrFun (f18 16 (by decide)) 0)) ((congrFun (f37 16 (by decide)) 1).trans (congrFun (f18 16 (by decide)) 1)) ((congrFun (f37 16 (by decide)) 2).trans (congrFun (f18 16 (by decide)) 2)) ((f37 17 (by decide)).trans (f18 17 (by decide))) hI16
      have I57 : jI18 σ35 := jI18_fr ((congrFun (f37 18 (by decide)) 0).trans (congrFun (f18 18 (by decide)) 0)) ((f37 19 (by decide)).trans (f18 19 (by decide))) hI18
      have I58 : jI22 σ35 := jI22_fr ((congrFun (f37 22 (by decide)) 0).trans (congrFun (f18 22 (by decide)) 0)) ((f37 23 (by decide)).trans (f18 23 (by decide))) hI22
      have I59 : jI31 σ35 := jI31_fr ((congrFun (f37 31 (by decide)) 8).trans (congrFun (f18 31 (by decide)) 8)) ((f37 33 (by decide)).trans (f18 33 (by decide))) ((f37 36 (by decide)).trans (f18 36 (by decide))) hI31
      have I60 : jI38 σ35 := jI38_fr (congrFun (f37 38 (by decide)) 0) (congrFun (f37 38 (by decide)) 1) (f37 39 (by decide)) I20
      have I61 : jI43 σ35 := jI43_fr ((congrFun (f37 43 (by decide)) 8).trans (congrFun (f18 43 (by decide)) 8)) hI43
      have I62 : jI47 σ35 := jI47_fr ((congrFun (f37 47 (by decide)) 0).trans (congrFun (f18 47 (by decide)) 0)) ((f37 48 (by decide)).trans (f18 48 (by decide))) ((f37 49 (by decide)).trans (f18 49 (by decide))) hI47
      have I63 : jI50 σ35 := jI50_fr ((f37 52 (by decide)).trans (f18 52 (by decide))) hI50
      have I64 : jI101 σ35 := jI101_fr ((f38 4 (by decide)).trans (congrFun (f18 55 (by decide)) 4)) ((f38 5 (by decide)).trans (congrFun (f18 55 (by decide)) 5)) ((f37 56 (by decide)).trans (f18 56 (by decide))) ((f37 57 (by decide)).trans (f18 57 (by decide))) ((f37 58 (by decide)).trans (f18 58 (by decide))) ((f37 59 (by decide)).trans (f18 59 (by decide))) hI101
      have I65 : jI102 σ35 := jI102_fr ((f38 6 (by decide)).trans (congrFun (f18 55 (by decide)) 6)) ((f37 60 (by decide)).trans (f18 60 (by decide))) ((f37 61 (by decide)).trans (f18 61 (by decide))) hI102
      have I66 : jI103 σ35 := jI103_fr ((f38 9 (by decide)).trans (congrFun (f18 55 (by decide)) 9)) hI103
      have I67 : jI104 σ35 := jI104_fr ((f38 10 (by decide)).trans (congrFun (f18 55 (by decide)) 10)) ((f38 12 (by decide)).trans (congrFun (f18 55 (by decide)) 12)) ((f38 13 (by decide)).trans (congrFun (f18 55 (by decide)) 13)) ((f37 62 (by decide)).trans (f18 62 (by decide))) ((f37 67 (by decide)).trans (f18 67 (by decide))) hI104
      have I68 : jI105 σ35 := jI105_fr ((f38 15 (by decide)).trans (congrFun (f18 55 (by decide)) 15)) ((f37 65 (by decide)).trans (f18 65 (by decide))) hI105
      have I69 : jI107 σ35 := jI107_fr ((f38 12 (by decide)).trans (congrFun (f18 55 (by decide)) 12)) ((f38 47 (by decide)).trans (congrFun (f18 55 (by decide)) 47)) ((f37 80 (by decide)).trans (f18 80 (by decide))) hI107
      have I70 : jI109 σ35 := jI109_fr ((f38 50 (by decide)).trans (congrFun (f18 55 (by decide)) 50)) hI109
      have I71 : jI110 σ35 := jI110_fr ((f37 86 (by decide)).trans (f18 86 (by decide))) ((f37 87 (by decide)).trans (f18 87 (by decide))) hI110
      have I72 : jI111 σ35 := jI111_fr ((f37 79 (by decide)).trans (f18 79 (by decide))) hI111
      have I73 : jI119 σ35 := jI119_fr ((f37 68 (by decide)).trans (f18 68 (by decide))) hI119
      have p74 : jKept σ35 := jKept.fr ((f37 75 (by decide)).trans (f18 75 (by decide))) ((f37 76 (by decide)).trans (f18 76 (by decide))) ((f37 77 (by decide)).trans (f18 77 (by decide))) hs_jKept
      have p75 : jBook σ35 := jBook.fr ((f38 47 (by decide)).trans (congrFun (f18 55 (by decide)) 47)) ((f38 10 (by decide)).trans (congrFun (f18 55 (by decide)) 10)) ((f37 81 (by decide)).trans (f18 81 (by decide))) hs_jBook
      have z76 : (σ35 38 0).toInt = (σ16 38 0).toInt := (congrArg Int32.toInt (show σ35 38 0 = (σ16 38 0) from (congrFun (f37 38 (by decide)) 0)))
      exact ih x52 σ35 τ _ _ ls (by have h9 := tx52; omega) ⟨I53, I54, I55, I56, I57, I58, I59, I60, I61, I62, I63, I64, I65, I66, I67, I68, I39, I69, I70, I71, I72, I73, p74, p75, (by omega), (show jShP (σ35 51) (σ35 52) (σ35 53) (σ35 86) (σ35 87) (σ35 55 32).toInt by rw [show σ35 51 = σ 51 from ((f37 51 (by decide)).trans (f18 51 (by decide))), show σ35 52 = σ 52 from ((f37 52 (by decide)).trans (f18 52 (by decide))), show σ35 53 = σ 53 from ((f37 53 (by decide)).trans (f18 53 (by decide))), show σ35 86 = σ 86 from ((f37 86 (by decide)).trans (f18 86 (by decide))), show σ35 87 = σ 87 from ((f37 87 (by decide)).trans (f18 87 (by decide)))]; exact (hr0.up (by omega) (by omega))), (show jEl (σ35 51) (σ35 52) (τ 54) (τ 88) by rw [show σ35 51 = σ 51 from ((f37 51 (by decide)).trans (f18 51 (by decide))), show σ35 52 = σ 52 from ((f37 52 (by decide)).trans (f18 52 (by decide)))]; exact hr1)⟩ hP hS (lv_sub hl [0, 1, 2, 3] rfl)
    · obtain ⟨q82, k78, k79, k80, k81⟩ := h46
      have q82 := q82.symm
      subst q82
      exact absurd k80 k30
    · obtain ⟨q88, k83, k84, k85, k86, k87⟩ := h47
      exact absurd k86 k30
  · obtain ⟨q93, k89, k90, k91, k92⟩ := h27
    have q93 := q93.symm
    subst q93
    refine lv_pop hx hb dL_law_502 rfl ?_
    refine lv_aload_n hx hb dL_law_503 rfl (lv_at hl 1 rfl) ?_
    refine lv_aload_n hx hb dL_law_504 rfl (lv_at hl 3 rfl) ?_
    refine lv_iload_n hx hb dL_law_505 rfl (lv_at hl 0 rfl) ?_
    refine lv_iconst (v := 1) hx hb dL_law_506 (by decide) ?_
    refine lv_iadd hx hb dL_law_507 ?_
    refine jtopr ex10.symm ?_
    refine va_sld hx hb hX hbl hbA hS (jin tx10 (by omega) (by omega)) dL_law_508 ?_
    refine lv_aload_n hx hb dL_law_509 rfl (lv_at hl 3 rfl) ?_
    refine lv_iload_n hx hb dL_law_510 rfl (lv_at hl 0 rfl) ?_
    refine lv_iconst (v := 2) hx hb dL_law_511 (by decide) ?_
    refine lv_iadd hx hb dL_law_512 ?_
    refine jtopr ex12.symm ?_
    refine va_sld hx hb hX hbl hbA hS (jin tx12 (by omega) (by omega)) dL_law_513 ?_
    refine lv_aload_n hx hb dL_law_514 rfl (lv_at hl 3 rfl) ?_
    refine lv_iload_n hx hb dL_law_515 rfl (lv_at hl 0 rfl) ?_
    refine lv_iconst (v := 3) hx hb dL_law_516 (by decide) ?_
    refine lv_iadd hx hb dL_law_517 ?_
    refine jtopr ex14.symm ?_
    refine va_sld hx hb hX hbl hbA hS (jin tx14 (by omega) (by omega)) dL_law_518 ?_
    have I94 : jI106 σ16 := jI106_fr (congrFun (f18 55 (by decide)) 32) (f18 70 (by decide)) (f18 71 (by decide)) (f18 72 (by decide)) hI106
    have z95 : (σ16 55 32).toInt = (σ 55 32).toInt := (congrArg Int32.toInt (show σ16 55 32 = (σ 55 32) from (congrFun (f18 55 (by decide)) 32)))
    refine jcallV (As := [.int (xs x10.toNatClampNeg), .int (xs x12.toNatClampNeg), .int (xs x14.toNatClampNeg)]) (rest := []) ⟨hx, hb, hml, hown, hts⟩ hK hP hA hS hZ (c_X12_rule l D cI cL ad zz hJ σ16 τ (xs x10.toNatClampNeg) ((xs x10.toNatClampNeg).toInt) rfl (xs x12.toNatClampNeg) ((xs x12.toNatClampNeg).toInt) rfl (xs x14.toNatClampNeg) ((xs x14.toNatClampNeg).toInt) rfl I94) cw_RL_56 (jc_55 cI cL ad σ16 τ) rfl ⟨Nat.le_of_ble_eq_true rfl, Nat.le_of_ble_eq_true rfl⟩ rfl rfl rfl hl.1 rfl (Nat.le_of_ble_eq_true rfl) dL_law_519 ⟨Nat.le_of_ble_eq_true rfl, Nat.le_of_ble_eq_true rfl⟩ (fun r97 σ96 τ96 H locs h96 hP hS => ?_)
    obtain ⟨rfl, f98, f99, I100, h96⟩ := h96
    obtain ⟨i102, w103, w104, w105⟩ : (0 ≤ (σ96 55 32).toInt ∧ (σ96 55 32).toInt ≤ 20) ∧ (∀ k : Nat, k < 20 → 0 ≤ (σ96 70 k).toInt ∧ (σ96 70 k).toInt ≤ 6) ∧ (∀ k : Nat, k < 20 → 0 ≤ (σ96 71 k).toInt ∧ (σ96 71 k).toInt ≤ 8) ∧ (∀ k : Nat, k < 160 → 0 ≤ (σ96 72 k).toInt ∧ (σ96 72 k).toInt ≤ 3) := id I100
    rcases h96 with h106 | h107 | h108
    · obtain ⟨q112, k109, k110, k111⟩ := h106
      have q112 := q112.symm
      subst q112
      exact absurd k91 k110
    · obtain ⟨q117, k113, k114, k115, k116⟩ := h107
      have q117 := q117.symm
      subst q117
      refine lv_pop hx hb dL_law_522 rfl ?_
      refine lv_goto (tgt := 1358) hx hb dL_law_523 (by decide) ?_
      obtain ⟨x118, ex118⟩ : ∃ y : Int32, y = x0 + 6 := ⟨_, rfl⟩
      have tx118 : x118.toInt = x0.toInt + 6 := (jadd ex118 rfl jz_6 (by omega) (by omega)).trans (by omega)
      refine lv_iinc (v := x118) (lv' := [(3, .int x118), (2, .ref (ad 55)), (1, .ref (ad 0)), (0, .ref b)]) hx hb dL_law_1358 hl (k := 0) rfl (by rw [ex118]; rfl) (by decide) rfl (fun ls hl => ?_)
      refine lv_goto (tgt := 18) hx hb dL_law_1361 (by decide) ?_
      have I119 : jI2 σ96 := jI2_fr ((congrFun (f98 2 (by decide)) 0).trans (congrFun (f18 2 (by decide)) 0)) ((congrFun (f98 2 (by decide)) 1).trans (congrFun (f18 2 (by decide)) 1)) ((congrFun (f98 2 (by decide)) 2).trans (congrFun (f18 2 (by decide)) 2)) ((congrFun (f98 2 (by decide)) 3).trans (congrFun (f18 2 (by decide)) 3)) ((f98 6 (by decide)).trans (f18 6 (by decide))) hI2
      have I120 : jI9 σ96 := jI9_fr ((congrFun (f98 9 (by decide)) 0).trans (congrFun (f18 9 (by decide)) 0)) ((f98 10 (by decide)).trans (f18 10 (by decide))) ((f98 11 (by decide)).trans (f18 11 (by decide))) hI9
      have I121 : jI12 σ96 := jI12_fr ((congrFun (f98 12 (by decide)) 0).trans (congrFun (f18 12 (by decide)) 0)) ((f98 13 (by decide)).trans (f18 13 (by decide))) hI12
      have I122 : jI16 σ96 := jI16_fr ((congrFun (f98 16 (by decide)) 0).trans (congrFun (f18 16 (by decide)) 0)) ((congrFun (f98 16 (by decide)) 1).trans (congrFun (f18 16 (by decide)) 1)) ((congrFun (f98 16 (by decide)) 2).trans (congrFun (f18 16 (by decide)) 2)) ((f98 17 (by decide)).trans (f18 17 (by decide))) hI16
      have I123 : jI18 σ96 := jI18_fr ((congrFun (f98 18 (by decide)) 0).trans (congrFun (f18 18 (by decide)) 0)) ((f98 19 (by decide)).trans (f18 19 (by decide))) hI18
      have I124 : jI22 σ96 := jI22_fr ((congrFun (f98 22 (by decide)) 0).trans (congrFun (f18 22 (by decide)) 0)) ((f98 23 (by decide)).trans (f18 23 (by decide))) hI22
      have I125 : jI31 σ96 := jI31_fr ((congrFun (f98 31 (by decide)) 8).trans (congrFun (f18 31 (by decide)) 8)) ((f98 33 (by decide)).trans (f18 33 (by decide))) ((f98 36 (by decide)).trans (f18 36 (by decide))) hI31
      have I126 : jI38 σ96 := jI38_fr (congrFun (f98 38 (by decide)) 0) (congrFun (f98 38 (by decide)) 1) (f98 39 (by decide)) I20
      have I127 : jI43 σ96 := jI43_fr ((congrFun (f98 43 (by decide)) 8).trans (congrFun (f18 43 (by decide)) 8)) hI43
      have I128 : jI47 σ96 := jI47_fr ((congrFun (f98 47 (by decide)) 0).trans (congrFun (f18 47 (by decide)) 0)) ((f98 48 (by decide)).trans (f18 48 (by decide))) ((f98 49 (by decide)).trans (f18 49 (by decide))) hI47
      have I129 : jI50 σ96 := jI50_fr ((f98 52 (by decide)).trans (f18 52 (by decide))) hI50
      have I130 : jI101 σ96 := jI101_fr ((f99 4 (by decide)).trans (congrFun (f18 55 (by decide)) 4)) ((f99 5 (by decide)).trans (congrFun (f18 55 (by decide)) 5)) ((f98 56 (by decide)).trans (f18 56 (by decide))) ((f98 57 (by decide)).trans (f18 57 (by decide))) ((f98 58 (by decide)).trans (f18 58 (by decide))) ((f98 59 (by decide)).trans (f18 59 (by decide))) hI101
      have I131 : jI102 σ96 := jI102_fr ((f99 6 (by decide)).trans (congrFun (f18 55 (by decide)) 6)) ((f98 60 (by decide)).trans (f18 60 (by decide))) ((f98 61 (by decide)).trans (f18 61 (by decide))) hI102
      have I132 : jI103 σ96 := jI103_fr ((f99 9 (by decide)).trans (congrFun (f18 55 (by decide)) 9)) hI103
      have I133 : jI104 σ96 := jI104_fr ((f99 10 (by decide)).trans (congrFun (f18 55 (by decide)) 10)) ((f99 12 (by decide)).trans (congrFun (f18 55 (by decide)) 12)) ((f99 13 (by decide)).trans (congrFun (f18 55 (by decide)) 13)) ((f98 62 (by decide)).trans (f18 62 (by decide))) ((f98 67 (by decide)).trans (f18 67 (by decide))) hI104
      have I134 : jI105 σ96 := jI105_fr ((f99 15 (by decide)).trans (congrFun (f18 55 (by decide)) 15)) ((f98 65 (by decide)).trans (f18 65 (by decide))) hI105
      have I135 : jI107 σ96 := jI107_fr ((f99 12 (by decide)).trans (congrFun (f18 55 (by decide)) 12)) ((f99 47 (by decide)).trans (congrFun (f18 55 (by decide)) 47)) ((f98 80 (by decide)).trans (f18 80 (by decide))) hI107
      have I136 : jI109 σ96 := jI109_fr ((f99 50 (by decide)).trans (congrFun (f18 55 (by decide)) 50)) hI109
      have I137 : jI110 σ96 := jI110_fr ((f98 86 (by decide)).trans (f18 86 (by decide))) ((f98 87 (by decide)).trans (f18 87 (by decide))) hI110
      have I138 : jI111 σ96 := jI111_fr ((f98 79 (by decide)).trans (f18 79 (by decide))) hI111
      have I139 : jI119 σ96 := jI119_fr ((f98 68 (by decide)).trans (f18 68 (by decide))) hI119
      have p140 : jKept σ96 := jKept.fr ((f98 75 (by decide)).trans (f18 75 (by decide))) ((f98 76 (by decide)).trans (f18 76 (by decide))) ((f98 77 (by decide)).trans (f18 77 (by decide))) hs_jKept
      have p141 : jBook σ96 := jBook.fr ((f99 47 (by decide)).trans (congrFun (f18 55 (by decide)) 47)) ((f99 10 (by decide)).trans (congrFun (f18 55 (by decide)) 10)) ((f98 81 (by decide)).trans (f18 81 (by decide))) hs_jBook
      have z142 : (σ96 38 0).toInt = (σ16 38 0).toInt := (congrArg Int32.toInt (show σ96 38 0 = (σ16 38 0) from (congrFun (f98 38 (by decide)) 0)))
      exact ih x118 σ96 τ _ _ ls (by have h9 := tx118; omega) ⟨I119, I120, I121, I122, I123, I124, I125, I126, I127, I128, I129, I130, I131, I132, I133, I134, I100, I135, I136, I137, I138, I139, p140, p141, (by omega), (show jShP (σ96 51) (σ96 52) (σ96 53) (σ96 86) (σ96 87) (σ96 55 32).toInt by rw [show σ96 51 = σ 51 from ((f98 51 (by decide)).trans (f18 51 (by decide))), show σ96 52 = σ 52 from ((f98 52 (by decide)).trans (f18 52 (by decide))), show σ96 53 = σ 53 from ((f98 53 (by decide)).trans (f18 53 (by decide))), show σ96 86 = σ 86 from ((f98 86 (by decide)).trans (f18 86 (by decide))), show σ96 87 = σ 87 from ((f98 87 (by decide)).trans (f18 87 (by decide)))]; exact (hr0.up (by omega) (by omega))), (show jEl (σ96 51) (σ96 52) (τ 54) (τ 88) by rw [show σ96 51 = σ 51 from ((f98 51 (by decide)).trans (f18 51 (by decide))), show σ96 52 = σ 52 from ((f98 52 (by decide)).trans (f18 52 (by decide)))]; exact hr1)⟩ hP hS (lv_sub hl [0, 1, 2, 3] rfl)
    · obtain ⟨q149, k144, k145, k146, k147, k148⟩ := h108
      exact absurd (by omega : False) id
  · obtain ⟨q155, k150, k151, k152, k153, k154⟩ := h28
    refine lv_pop hx hb dL_law_502 rfl ?_
    refine lv_aload_n hx hb dL_law_503 rfl (lv_at hl 1 rfl) ?_
    refine lv_aload_n hx hb dL_law_504 rfl (lv_at hl 3 rfl) ?_
    refine lv_iload_n hx hb dL_law_505 rfl (lv_at hl 0 rfl) ?_
    refine lv_iconst (v := 1) hx hb dL_law_506 (by decide) ?_
    refine lv_iadd hx hb dL_law_507 ?_
    refine jtopr ex10.symm ?_
    refine va_sld hx hb hX hbl hbA hS (jin tx10 (by omega) (by omega)) dL_law_508 ?_
    refine lv_aload_n hx hb dL_law_509 rfl (lv_at hl 3 rfl) ?_
    refine lv_iload_n hx hb dL_law_510 rfl (lv_at hl 0 rfl) ?_
    refine lv_iconst (v := 2) hx hb dL_law_511 (by decide) ?_
    refine lv_iadd hx hb dL_law_512 ?_
    refine jtopr ex12.symm ?_
    refine va_sld hx hb hX hbl hbA hS (jin tx12 (by omega) (by omega)) dL_law_513 ?_
    refine lv_aload_n hx hb dL_law_514 rfl (lv_at hl 3 rfl) ?_
    refine lv_iload_n hx hb dL_law_515 rfl (lv_at hl 0 rfl) ?_
    refine lv_iconst (v := 3) hx hb dL_law_516 (by decide) ?_
    refine lv_iadd hx hb dL_law_517 ?_
    refine jtopr ex14.symm ?_
    refine va_sld hx hb hX hbl hbA hS (jin tx14 (by omega) (by omega)) dL_law_518 ?_
    have I156 : jI106 σ16 := jI106_fr (congrFun (f18 55 (by decide)) 32) (f18 70 (by decide)) (f18 71 (by decide)) (f18 72 (by decide)) hI106
    have z157 : (σ16 55 32).toInt = (σ 55 32).toInt := (congrArg Int32.toInt (show σ16 55 32 = (σ 55 32) from (congrFun (f18 55 (by decide)) 32)))
    refine jcallV (As := [.int (xs x10.toNatClampNeg), .int (xs x12.toNatClampNeg), .int (xs x14.toNatClampNeg)]) (rest := []) ⟨hx, hb, hml, hown, hts⟩ hK hP hA hS hZ (c_X12_rule l D cI cL ad zz hJ σ16 τ (xs x10.toNatClampNeg) ((xs x10.toNatClampNeg).toInt) rfl (xs x12.toNatClampNeg) ((xs x12.toNatClampNeg).toInt) rfl (xs x14.toNatClampNeg) ((xs x14.toNatClampNeg).toInt) rfl I156) cw_RL_56 (jc_55 cI cL ad σ16 τ) rfl ⟨Nat.le_of_ble_eq_true rfl, Nat.le_of_ble_eq_true rfl⟩ rfl rfl rfl hl.1 rfl (Nat.le_of_ble_eq_true rfl) dL_law_519 ⟨Nat.le_of_ble_eq_true rfl, Nat.le_of_ble_eq_true rfl⟩ (fun r159 σ158 τ158 H locs h158 hP hS => ?_)
    obtain ⟨rfl, f160, f161, I162, h158⟩ := h158
    obtain ⟨i164, w165, w166, w167⟩ : (0 ≤ (σ158 55 32).toInt ∧ (σ158 55 32).toInt ≤ 20) ∧ (∀ k : Nat, k < 20 → 0 ≤ (σ158 70 k).toInt ∧ (σ158 70 k).toInt ≤ 6) ∧ (∀ k : Nat, k < 20 → 0 ≤ (σ158 71 k).toInt ∧ (σ158 71 k).toInt ≤ 8) ∧ (∀ k : Nat, k < 160 → 0 ≤ (σ158 72 k).toInt ∧ (σ158 72 k).toInt ≤ 3) := id I162
    rcases h158 with h168 | h169 | h170
    · obtain ⟨q174, k171, k172, k173⟩ := h168
      have q174 := q174.symm
      subst q174
      exact absurd k153 k172
    · obtain ⟨q179, k175, k176, k177, k178⟩ := h169
      exact absurd (by omega : False) id
    · obtain ⟨q185, k180, k181, k182, k183, k184⟩ := h170
      refine lv_pop hx hb dL_law_522 rfl ?_
      refine lv_goto (tgt := 1358) hx hb dL_law_523 (by decide) ?_
      obtain ⟨x186, ex186⟩ : ∃ y : Int32, y = x0 + 6 := ⟨_, rfl⟩
      have tx186 : x186.toInt = x0.toInt + 6 := (jadd ex186 rfl jz_6 (by omega) (by omega)).trans (by omega)
      refine lv_iinc (v := x186) (lv' := [(3, .int x186), (2, .ref (ad 55)), (1, .ref (ad 0)), (0, .ref b)]) hx hb dL_law_1358 hl (k := 0) rfl (by rw [ex186]; rfl) (by decide) rfl (fun ls hl => ?_)
      refine lv_goto (tgt := 18) hx hb dL_law_1361 (by decide) ?_
      have I187 : jI2 σ158 := jI2_fr ((congrFun (f160 2 (by decide)) 0).trans (congrFun (f18 2 (by decide)) 0)) ((congrFun (f160 2 (by decide)) 1).trans (congrFun (f18 2 (by decide)) 1)) ((congrFun (f160 2 (by decide)) 2).trans (congrFun (f18 2 (by decide)) 2)) ((congrFun (f160 2 (by decide)) 3).trans (congrFun (f18 2 (by decide)) 3)) ((f160 6 (by decide)).trans (f18 6 (by decide))) hI2
      have I188 : jI9 σ158 := jI9_fr ((congrFun (f160 9 (by decide)) 0).trans (congrFun (f18 9 (by decide)) 0)) ((f160 10 (by decide)).trans (f18 10 (by decide))) ((f160 11 (by decide)).trans (f18 11 (by decide))) hI9
      have I189 : jI12 σ158 := jI12_fr ((congrFun (f160 12 (by decide)) 0).trans (congrFun (f18 12 (by decide)) 0)) ((f160 13 (by decide)).trans (f18 13 (by decide))) hI12
      have I190 : jI16 σ158 := jI16_fr ((congrFun (f160 16 (by decide)) 0).trans (congrFun (f18 16 (by decide)) 0)) ((congrFun (f160 16 (by decide)) 1).trans (congrFun (f18 16 (by decide)) 1)) ((congrFun (f160 16 (by decide)) 2).trans (congrFun (f18 16 (by decide)) 2)) ((f160 17 (by decide)).trans (f18 17 (by decide))) hI16
      have I191 : jI18 σ158 := jI18_fr ((congrFun (f160 18 (by decide)) 0).trans (congrFun (f18 18 (by decide)) 0)) ((f160 19 (by decide)).trans (f18 19 (by decide))) hI18
      have I192 : jI22 σ158 := jI22_fr ((congrFun (f160 22 (by decide)) 0).trans (congrFun (f18 22 (by decide)) 0)) ((f160 23 (by decide)).trans (f18 23 (by decide))) hI22
      have I193 : jI31 σ158 := jI31_fr ((congrFun (f160 31 (by decide)) 8).trans (congrFun (f18 31 (by decide)) 8)) ((f160 33 (by decide)).trans (f18 33 (by decide))) ((f160 36 (by decide)).trans (f18 36 (by decide))) hI31
      have I194 : jI38 σ158 := jI38_fr (congrFun (f160 38 (by decide)) 0) (congrFun (f160 38 (by decide)) 1) (f160 39 (by decide)) I20
      have I195 : jI43 σ158 := jI43_fr ((congrFun (f160 43 (by decide)) 8).trans (congrFun (f18 43 (by decide)) 8)) hI43
      have I196 : jI47 σ158 := jI47_fr ((congrFun (f160 47 (by decide)) 0).trans (congrFun (f18 47 (by decide)) 0)) ((f160 48 (by decide)).trans (f18 48 (by decide))) ((f160 49 (by decide)).trans (f18 49 (by decide))) hI47
      have I197 : jI50 σ158 := jI50_fr ((f160 52 (by decide)).trans (f18 52 (by decide))) hI50
      have I198 : jI101 σ158 := jI101_fr ((f161 4 (by decide)).trans (congrFun (f18 55 (by decide)) 4)) ((f161 5 (by decide)).trans (congrFun (f18 55 (by decide)) 5)) ((f160 56 (by decide)).trans (f18 56 (by decide))) ((f160 57 (by decide)).trans (f18 57 (by decide))) ((f160 58 (by decide)).trans (f18 58 (by decide))) ((f160 59 (by decide)).trans (f18 59 (by decide))) hI101
      have I199 : jI102 σ158 := jI102_fr ((f161 6 (by decide)).trans (congrFun (f18 55 (by decide)) 6)) ((f160 60 (by decide)).trans (f18 60 (by decide))) ((f160 61 (by decide)).trans (f18 61 (by decide))) hI102
      have I200 : jI103 σ158 := jI103_fr ((f161 9 (by decide)).trans (congrFun (f18 55 (by decide)) 9)) hI103
      have I201 : jI104 σ158 := jI104_fr ((f161 10 (by decide)).trans (congrFun (f18 55 (by decide)) 10)) ((f161 12 (by decide)).trans (congrFun (f18 55 (by decide)) 12)) ((f161 13 (by decide)).trans (congrFun (f18 55 (by decide)) 13)) ((f160 62 (by decide)).trans (f18 62 (by decide))) ((f160 67 (by decide)).trans (f18 67 (by decide))) hI104
      have I202 : jI105 σ158 := jI105_fr ((f161 15 (by decide)).trans (congrFun (f18 55 (by decide)) 15)) ((f160 65 (by decide)).trans (f18 65 (by decide))) hI105
      have I203 : jI107 σ158 := jI107_fr ((f161 12 (by decide)).trans (congrFun (f18 55 (by decide)) 12)) ((f161 47 (by decide)).trans (congrFun (f18 55 (by decide)) 47)) ((f160 80 (by decide)).trans (f18 80 (by decide))) hI107
      have I204 : jI109 σ158 := jI109_fr ((f161 50 (by decide)).trans (congrFun (f18 55 (by decide)) 50)) hI109
      have I205 : jI110 σ158 := jI110_fr ((f160 86 (by decide)).trans (f18 86 (by decide))) ((f160 87 (by decide)).trans (f18 87 (by decide))) hI110
      have I206 : jI111 σ158 := jI111_fr ((f160 79 (by decide)).trans (f18 79 (by decide))) hI111
      have I207 : jI119 σ158 := jI119_fr ((f160 68 (by decide)).trans (f18 68 (by decide))) hI119
      have p208 : jKept σ158 := jKept.fr ((f160 75 (by decide)).trans (f18 75 (by decide))) ((f160 76 (by decide)).trans (f18 76 (by decide))) ((f160 77 (by decide)).trans (f18 77 (by decide))) hs_jKept
      have p209 : jBook σ158 := jBook.fr ((f161 47 (by decide)).trans (congrFun (f18 55 (by decide)) 47)) ((f161 10 (by decide)).trans (congrFun (f18 55 (by decide)) 10)) ((f160 81 (by decide)).trans (f18 81 (by decide))) hs_jBook
      have z210 : (σ158 38 0).toInt = (σ16 38 0).toInt := (congrArg Int32.toInt (show σ158 38 0 = (σ16 38 0) from (congrFun (f160 38 (by decide)) 0)))
      exact ih x186 σ158 τ _ _ ls (by have h9 := tx186; omega) ⟨I187, I188, I189, I190, I191, I192, I193, I194, I195, I196, I197, I198, I199, I200, I201, I202, I162, I203, I204, I205, I206, I207, p208, p209, (by omega), (show jShP (σ158 51) (σ158 52) (σ158 53) (σ158 86) (σ158 87) (σ158 55 32).toInt by rw [show σ158 51 = σ 51 from ((f160 51 (by decide)).trans (f18 51 (by decide))), show σ158 52 = σ 52 from ((f160 52 (by decide)).trans (f18 52 (by decide))), show σ158 53 = σ 53 from ((f160 53 (by decide)).trans (f18 53 (by decide))), show σ158 86 = σ 86 from ((f160 86 (by decide)).trans (f18 86 (by decide))), show σ158 87 = σ 87 from ((f160 87 (by decide)).trans (f18 87 (by decide)))]; exact (hr0.up (by omega) (by omega))), (show jEl (σ158 51) (σ158 52) (τ 54) (τ 88) by rw [show σ158 51 = σ 51 from ((f160 51 (by decide)).trans (f18 51 (by decide))), show σ158 52 = σ 52 from ((f160 52 (by decide)).trans (f18 52 (by decide)))]; exact hr1)⟩ hP hS (lv_sub hl [0, 1, 2, 3] rfl)
set_option maxHeartbeats 4000000 in
set_option maxRecDepth 100000 in
theorem law_case_10 {p : Program} {e : Env} {s : State} {m : MethodId} {below : List Frame} {meth : Method} {c : Code} (l : Launch) {b L : Nat} {xs : Nat → Int32} {D : va_G} {cI cL : ClassId} {ad zz : Nat → Nat} (C0 : lw_At p s m meth c b L xs) (hJ : jD ad) (hA : ∀ q, jA ad q → s.heap.size ≤ q) (hK : jK D cI cL s) (hZ : jZ zz (fun q : Nat => s.heap.size ≤ q) s s.heap) {x0 : Int32} (hx0 : 0 ≤ x0.toInt) (hxL : x0.toInt + 6 ≤ (L : Int)) (hL : L ≤ 384) {σ : Nat → Nat → Int32} {τ : Nat → Nat → Int64} {H : Heap} {locs : List Loc} (hS : va_S (fun q : Nat => s.heap.size ≤ q) s.heap H locs) {ls : Array Slot} (hAll : jAll σ τ) (hP : jH D cI cL ad σ τ H) (hl : lv_has ls 4 [(3, .int x0), (2, .ref (ad 55)), (1, .ref (ad 0)), (0, .ref b)]) (ih : ∀ (x1 : Int32) (σ : Nat → Nat → Int32) (τ : Nat → Nat → Int64) (H : Heap) (locs : List Loc) (ls : Array Slot), x1.toInt = x0.toInt + 6 → jAll σ τ → jH D cI cL ad σ τ H → va_S (fun q : Nat => s.heap.size ≤ q) s.heap H locs → lv_has ls 4 [(3, .int x1), (2, .ref (ad 55)), (1, .ref (ad 0)), (0, .ref b)] → W p l e room_1 s m #[Value.ref b] below meth c H locs 90 348600 (lw_Z below #[Value.ref b] s) (F0 m 18 ls [])) : W p l e room_1 s m #[Value.ref b] below meth c H locs 90 348600 (lw_Z below #[Value.ref b] s) (F0 m 526 ls []) := by
  obtain ⟨hx, hb, hr, hml, hown, hts0, hX, hbl, hlocks, hgv⟩ := C0
  have hts : ∀ w ∈ wsL_law, w.before #[Value.ref b] s = true := fun w h => hts0 w (wsL_law_in w h)
  have hbA : ¬ (fun q : Nat => s.heap.size ≤ q) b := Nat.not_le.mpr hbl
  have hown : s.vm.findClass RL = some m.cls := hown
  obtain ⟨hI2, hI9, hI12, hI16, hI18, hI22, hI31, hI38, hI43, hI47, hI50, hI101, hI102, hI103, hI104, hI105, hI106, hI107, hI109, hI110, hI111, hI119, hs_jKept, hs_jBook, ht0, hr0, hr1⟩ := hAll
  have hL9 : (L : Int) ≤ 384 := by omega
  obtain ⟨i1, i2, w3⟩ : (0 ≤ (σ 38 0).toInt ∧ (σ 38 0).toInt ≤ 20) ∧ (0 ≤ (σ 38 1).toInt ∧ (σ 38 1).toInt ≤ 1000) ∧ (∀ k : Nat, k < 20 → 0 ≤ (σ 39 k).toInt ∧ (σ 39 k).toInt ≤ 6) := id hI38
  have w4 : ∀ k : Nat, k < 6 → 0 ≤ (σ 52 k).toInt ∧ (σ 52 k).toInt ≤ 60 := hI50
  obtain ⟨i5, w6, w7, w8⟩ : (0 ≤ (σ 55 32).toInt ∧ (σ 55 32).toInt ≤ 20) ∧ (∀ k : Nat, k < 20 → 0 ≤ (σ 70 k).toInt ∧ (σ 70 k).toInt ≤ 6) ∧ (∀ k : Nat, k < 20 → 0 ≤ (σ 71 k).toInt ∧ (σ 71 k).toInt ≤ 8) ∧ (∀ k : Nat, k < 160 → 0 ≤ (σ 72 k).toInt ∧ (σ 72 k).toInt ≤ 3) := id hI106
  refine lv_aload_n hx hb dL_law_526 rfl (lv_at hl 2 rfl) ?_
  refine lv_aload_n hx hb dL_law_527 rfl (lv_at hl 3 rfl) ?_
  refine lv_iload_n hx hb dL_law_528 rfl (lv_at hl 0 rfl) ?_
  refine lv_iconst (v := 1) hx hb dL_law_529 (by decide) ?_
  have g9 := jrg (rfl : x0.toInt = x0.toInt)
  refine lv_iadd hx hb dL_law_530 ?_
  refine lv_topi (fun x10 ex10 => ?_)
  have tx10 : x10.toInt = x0.toInt + 1 := (jadd ex10 rfl jz_1 (by omega) (by omega)).trans (by omega)
  refine va_sld hx hb hX hbl hbA hS (jin tx10 (by omega) (by omega)) dL_law_531 ?_
  have g11 := jrg (rfl : (xs x10.toNatClampNeg).toInt = (xs x10.toNatClampNeg).toInt)
  refine jcallV (As := [.int (xs x10.toNatClampNeg)]) (rest := []) ⟨hx, hb, hml, hown, hts⟩ hK hP hA hS hZ (c_X11_puts l D cI cL ad zz hJ σ τ (xs x10.toNatClampNeg) ((xs x10.toNatClampNeg).toInt) rfl hI2 hI16 hI18 hI22 hI31 hI38 hI47) cw_RL_57 (jc_0 cI cL ad σ τ) rfl ⟨Nat.le_of_ble_eq_true rfl, Nat.le_of_ble_eq_true rfl⟩ rfl rfl rfl hl.1 rfl (Nat.le_of_ble_eq_true rfl) dL_law_532 ⟨Nat.le_of_ble_eq_true rfl, Nat.le_of_ble_eq_true rfl⟩ (fun r13 σ12 τ12 H locs h12 hP hS => ?_)
  obtain ⟨rfl, f14, f15, I16, h12⟩ := h12
  refine lv_pop hx hb dL_law_535 rfl ?_
  refine lv_aload_n hx hb dL_law_536 rfl (lv_at hl 1 rfl) ?_
  refine lv_aload_n hx hb dL_law_537 rfl (lv_at hl 3 rfl) ?_
  refine lv_iload_n hx hb dL_law_538 rfl (lv_at hl 0 rfl) ?_
  refine lv_iconst (v := 1) hx hb dL_law_539 (by decide) ?_
  refine lv_iadd hx hb dL_law_540 ?_
  refine jtopr ex10.symm ?_
  refine va_sld hx hb hX hbl hbA hS (jin tx10 (by omega) (by omega)) dL_law_541 ?_
  have I18 : jI101 σ12 := jI101_fr (congrFun (f14 55 (by decide)) 4) (congrFun (f14 55 (by decide)) 5) (f14 56 (by decide)) (f14 57 (by decide)) (f14 58 (by decide)) (f14 59 (by decide)) hI101
  have I19 : jI102 σ12 := jI102_fr (congrFun (f14 55 (by decide)) 6) (f14 60 (by decide)) (f14 61 (by decide)) hI102
  have I20 : jI103 σ12 := jI103_fr (congrFun (f14 55 (by decide)) 9) hI103
  have I21 : jI104 σ12 := jI104_fr (congrFun (f14 55 (by decide)) 10) (congrFun (f14 55 (by decide)) 12) (congrFun (f14 55 (by decide)) 13) (f14 62 (by decide)) (f14 67 (by decide)) hI104
  have I22 : jI105 σ12 := jI105_fr (congrFun (f14 55 (by decide)) 15) (f14 65 (by decide)) hI105
  have I23 : jI106 σ12 := jI106_fr (congrFun (f14 55 (by decide)) 32) (f14 70 (by decide)) (f14 71 (by decide)) (f14 72 (by decide)) hI106
  have I24 : jI107 σ12 := jI107_fr (congrFun (f14 55 (by decide)) 12) (congrFun (f14 55 (by decide)) 47) (f14 80 (by decide)) hI107
  have I25 : jI119 σ12 := jI119_fr (f14 68 (by decide)) hI119
  have p26 : jKept σ12 := jKept.fr (f14 75 (by decide)) (f14 76 (by decide)) (f14 77 (by decide)) hs_jKept
  have p27 : jBook σ12 := jBook.fr (congrFun (f14 55 (by decide)) 47) (congrFun (f14 55 (by decide)) 10) (f14 81 (by decide)) hs_jBook
  refine jcallV (As := [.int (xs x10.toNatClampNeg)]) (rest := []) ⟨hx, hb, hml, hown, hts⟩ hK hP hA hS hZ (c_X12_puts l D cI cL ad zz hJ σ12 τ (xs x10.toNatClampNeg) ((xs x10.toNatClampNeg).toInt) rfl I18 I19 I20 I21 I22 I23 I24 I25 p26 p27) cw_RL_60 (jc_55 cI cL ad σ12 τ) rfl ⟨Nat.le_of_ble_eq_true rfl, Nat.le_of_ble_eq_true rfl⟩ rfl rfl rfl hl.1 rfl (Nat.le_of_ble_eq_true rfl) dL_law_542 ⟨Nat.le_of_ble_eq_true rfl, Nat.le_of_ble_eq_true rfl⟩ (fun r29 σ28 τ28 H locs h28 hP hS => ?_)
  obtain ⟨rfl, f30, f31, I32, p33, p34, h28⟩ := h28
  refine lv_pop hx hb dL_law_545 rfl ?_
  refine lv_goto (tgt := 1358) hx hb dL_law_546 (by decide) ?_
  obtain ⟨x36, ex36⟩ : ∃ y : Int32, y = x0 + 6 := ⟨_, rfl⟩
  have tx36 : x36.toInt = x0.toInt + 6 := (jadd ex36 rfl jz_6 (by omega) (by omega)).trans (by omega)
  refine lv_iinc (v := x36) (lv' := [(3, .int x36), (2, .ref (ad 55)), (1, .ref (ad 0)), (0, .ref b)]) hx hb dL_law_1358 hl (k := 0) rfl (by rw [ex36]; rfl) (by decide) rfl (fun ls hl => ?_)
  refine lv_goto (tgt := 18) hx hb dL_law_1361 (by decide) ?_
  have I37 : jI2 σ28 := jI2_fr ((congrFun (f30 2 (by decide)) 0).trans (congrFun (f14 2 (by decide)) 0)) ((congrFun (f30 2 (by decide)) 1).trans (congrFun (f14 2 (by decide)) 1)) ((congrFun (f30 2 (by decide)) 2).trans (congrFun (f14 2 (by decide)) 2)) ((congrFun (f30 2 (by decide)) 3).trans (congrFun (f14 2 (by decide)) 3)) ((f30 6 (by decide)).trans (f14 6 (by decide))) hI2
  have I38 : jI9 σ28 := jI9_fr ((congrFun (f30 9 (by decide)) 0).trans (congrFun (f14 9 (by decide)) 0)) ((f30 10 (by decide)).trans (f14 10 (by decide))) ((f30 11 (by decide)).trans (f14 11 (by decide))) hI9
  have I39 : jI12 σ28 := jI12_fr ((congrFun (f30 12 (by decide)) 0).trans (congrFun (f14 12 (by decide)) 0)) ((f30 13 (by decide)).trans (f14 13 (by decide))) hI12
  have I40 : jI16 σ28 := jI16_fr ((congrFun (f30 16 (by decide)) 0).trans (congrFun (f14 16 (by decide)) 0)) ((congrFun (f30 16 (by decide)) 1).trans (congrFun (f14 16 (by decide)) 1)) ((congrFun (f30 16 (by decide)) 2).trans (congrFun (f14 16 (by decide)) 2)) ((f30 17 (by decide)).trans (f14 17 (by decide))) hI16
  have I41 : jI18 σ28 := jI18_fr ((congrFun (f30 18 (by decide)) 0).trans (congrFun (f14 18 (by decide)) 0)) ((f30 19 (by decide)).trans (f14 19 (by decide))) hI18
  have I42 : jI22 σ28 := jI22_fr ((congrFun (f30 22 (by decide)) 0).trans (congrFun (f14 22 (by decide)) 0)) ((f30 23 (by decide)).trans (f14 23 (by decide))) hI22
  have I43 : jI31 σ28 := jI31_fr (congrFun (f30 31 (by decide)) 8) (f30 33 (by decide)) (f30 36 (by decide)) I16
  have I44 : jI38 σ28 := jI38_fr ((congrFun (f30 38 (by decide)) 0).trans (congrFun (f14 38 (by decide)) 0)) ((congrFun (f30 38 (by decide)) 1).trans (congrFun (f14 38 (by decide)) 1)) ((f30 39 (by decide)).trans (f14 39 (by decide))) hI38
  have I45 : jI43 σ28 := jI43_fr ((congrFun (f30 43 (by decide)) 8).trans (congrFun (f14 43 (by decide)) 8)) hI43
  have I46 : jI47 σ28 := jI47_fr ((congrFun (f30 47 (by decide)) 0).trans (congrFun (f14 47 (by decide)) 0)) ((f30 48 (by decide)).trans (f14 48 (by decide))) ((f30 49 (by decide)).trans (f14 49 (by decide))) hI47
  have I47 : jI50 σ28 := jI50_fr ((f30 52 (by decide)).trans (f14 52 (by decide))) hI50
  have I48 : jI101 σ28 := jI101_fr (f31 4 (by decide)) (f31 5 (by decide)) (f30 56 (by decide)) (f30 57 (by decide)) (f30 58 (by decide)) (f30 59 (by decide)) I18
  have I49 : jI102 σ28 := jI102_fr (f31 6 (by decide)) (f30 60 (by decide)) (f30 61 (by decide)) I19
  have I50 : jI103 σ28 := jI103_fr (f31 9 (by decide)) I20
  have I51 : jI104 σ28 := jI104_fr (f31 10 (by decide)) (f31 12 (by decide)) (f31 13 (by decide)) (f30 62 (by decide)) (f30 67 (by decide)) I21
  have I52 : jI105 σ28 := jI105_fr (f31 15 (by decide)) (f30 65 (by decide)) I22
  have I53 : jI106 σ28 := jI106_fr (f31 32 (by decide)) (f30 70 (by decide)) (f30 71 (by decide)) (f30 72 (by decide)) I23
  have I54 : jI107 σ28 := jI107_fr (f31 12 (by decide)) (f31 47 (by decide)) (f30 80 (by decide)) I24
  have I55 : jI109 σ28 := jI109_fr ((f31 50 (by decide)).trans (congrFun (f14 55 (by decide)) 50)) hI109
  have I56 : jI110 σ28 := jI110_fr ((f30 86 (by decide)).trans (f14 86 (by decide))) ((f30 87 (by decide)).trans (f14 87 (by decide))) hI110
  have I57 : jI111 σ28 := jI111_fr ((f30 79 (by decide)).trans (f14 79 (by decide))) hI111
  have z58 : (σ28 38 0).toInt = (σ 38 0).toInt := (congrArg Int32.toInt (show σ28 38 0 = (σ 38 0) from ((congrFun (f30 38 (by decide)) 0).trans (congrFun (f14 38 (by decide)) 0))))
  have z59 : (σ28 55 32).toInt = (σ 55 32).toInt := (congrArg Int32.toInt (show σ28 55 32 = (σ 55 32) from ((f31 32 (by decide)).trans (congrFun (f14 55 (by decide)) 32))))
  exact ih x36 σ28 τ _ _ ls (by have h9 := tx36; omega) ⟨I37, I38, I39, I40, I41, I42, I43, I44, I45, I46, I47, I48, I49, I50, I51, I52, I53, I54, I55, I56, I57, I32, p33, p34, (by omega), (show jShP (σ28 51) (σ28 52) (σ28 53) (σ28 86) (σ28 87) (σ28 55 32).toInt by rw [show σ28 51 = σ 51 from ((f30 51 (by decide)).trans (f14 51 (by decide))), show σ28 52 = σ 52 from ((f30 52 (by decide)).trans (f14 52 (by decide))), show σ28 53 = σ 53 from ((f30 53 (by decide)).trans (f14 53 (by decide))), show σ28 86 = σ 86 from ((f30 86 (by decide)).trans (f14 86 (by decide))), show σ28 87 = σ 87 from ((f30 87 (by decide)).trans (f14 87 (by decide)))]; exact (hr0.up (by omega) (by omega))), (show jEl (σ28 51) (σ28 52) (τ 54) (τ 88) by rw [show σ28 51 = σ 51 from ((f30 51 (by decide)).trans (f14 51 (by decide))), show σ28 52 = σ 52 from ((f30 52 (by decide)).trans (f14 52 (by decide)))]; exact hr1)⟩ hP hS (lv_sub hl [0, 1, 2, 3] rfl)
set_option maxHeartbeats 4000000 in
set_option maxRecDepth 100000 in
theorem law_case_11 {p : Program} {e : Env} {s : State} {m : MethodId} {below : List Frame} {meth : Method} {c : Code} (l : Launch) {b L : Nat} {xs : Nat → Int32} {D : va_G} {cI cL : ClassId} {ad zz : Nat → Nat} (C0 : lw_At p s m meth c b L xs) (hJ : jD ad) (hA : ∀ q, jA ad q → s.heap.size ≤ q) (hK : jK D cI cL s) (hZ : jZ zz (fun q : Nat => s.heap.size ≤ q) s s.heap) {x0 : Int32} (hx0 : 0 ≤ x0.toInt) (hxL : x0.toInt + 6 ≤ (L : Int)) (hL : L ≤ 384) {σ : Nat → Nat → Int32} {τ : Nat → Nat → Int64} {H : Heap} {locs : List Loc} (hS : va_S (fun q : Nat => s.heap.size ≤ q) s.heap H locs) {ls : Array Slot} (hAll : jAll σ τ) (hP : jH D cI cL ad σ τ H) (hl : lv_has ls 4 [(3, .int x0), (2, .ref (ad 55)), (1, .ref (ad 0)), (0, .ref b)]) (ih : ∀ (x1 : Int32) (σ : Nat → Nat → Int32) (τ : Nat → Nat → Int64) (H : Heap) (locs : List Loc) (ls : Array Slot), x1.toInt = x0.toInt + 6 → jAll σ τ → jH D cI cL ad σ τ H → va_S (fun q : Nat => s.heap.size ≤ q) s.heap H locs → lv_has ls 4 [(3, .int x1), (2, .ref (ad 55)), (1, .ref (ad 0)), (0, .ref b)] → W p l e room_1 s m #[Value.ref b] below meth c H locs 90 348600 (lw_Z below #[Value.ref b] s) (F0 m 18 ls [])) : W p l e room_1 s m #[Value.ref b] below meth c H locs 90 348600 (lw_Z below #[Value.ref b] s) (F0 m 549 ls []) := by
  obtain ⟨hx, hb, hr, hml, hown, hts0, hX, hbl, hlocks, hgv⟩ := C0
  have hts : ∀ w ∈ wsL_law, w.before #[Value.ref b] s = true := fun w h => hts0 w (wsL_law_in w h)
  have hbA : ¬ (fun q : Nat => s.heap.size ≤ q) b := Nat.not_le.mpr hbl
  have hown : s.vm.findClass RL = some m.cls := hown
  obtain ⟨hI2, hI9, hI12, hI16, hI18, hI22, hI31, hI38, hI43, hI47, hI50, hI101, hI102, hI103, hI104, hI105, hI106, hI107, hI109, hI110, hI111, hI119, hs_jKept, hs_jBook, ht0, hr0, hr1⟩ := hAll
  have hL9 : (L : Int) ≤ 384 := by omega
  obtain ⟨i1, i2, w3⟩ : (0 ≤ (σ 38 0).toInt ∧ (σ 38 0).toInt ≤ 20) ∧ (0 ≤ (σ 38 1).toInt ∧ (σ 38 1).toInt ≤ 1000) ∧ (∀ k : Nat, k < 20 → 0 ≤ (σ 39 k).toInt ∧ (σ 39 k).toInt ≤ 6) := id hI38
  have w4 : ∀ k : Nat, k < 6 → 0 ≤ (σ 52 k).toInt ∧ (σ 52 k).toInt ≤ 60 := hI50
  obtain ⟨i5, w6, w7, w8⟩ : (0 ≤ (σ 55 32).toInt ∧ (σ 55 32).toInt ≤ 20) ∧ (∀ k : Nat, k < 20 → 0 ≤ (σ 70 k).toInt ∧ (σ 70 k).toInt ≤ 6) ∧ (∀ k : Nat, k < 20 → 0 ≤ (σ 71 k).toInt ∧ (σ 71 k).toInt ≤ 8) ∧ (∀ k : Nat, k < 160 → 0 ≤ (σ 72 k).toInt ∧ (σ 72 k).toInt ≤ 3) := id hI106
  refine lv_aload_n hx hb dL_law_549 rfl (lv_at hl 2 rfl) ?_
  refine lv_aload_n hx hb dL_law_550 rfl (lv_at hl 3 rfl) ?_
  refine lv_iload_n hx hb dL_law_551 rfl (lv_at hl 0 rfl) ?_
  refine lv_iconst (v := 1) hx hb dL_law_552 (by decide) ?_
  have g9 := jrg (rfl : x0.toInt = x0.toInt)
  refine lv_iadd hx hb dL_law_553 ?_
  refine lv_topi (fun x10 ex10 => ?_)
  have tx10 : x10.toInt = x0.toInt + 1 := (jadd ex10 rfl jz_1 (by omega) (by omega)).trans (by omega)
  refine va_sld hx hb hX hbl hbA hS (jin tx10 (by omega) (by omega)) dL_law_554 ?_
  have g11 := jrg (rfl : (xs x10.toNatClampNeg).toInt = (xs x10.toNatClampNeg).toInt)
  refine jcallV (As := [.int (xs x10.toNatClampNeg)]) (rest := []) ⟨hx, hb, hml, hown, hts⟩ hK hP hA hS hZ (c_X11_mean l D cI cL ad zz hJ σ τ (xs x10.toNatClampNeg) ((xs x10.toNatClampNeg).toInt) rfl hI2 hI16 hI18 hI22 hI31 hI38) cw_RL_61 (jc_0 cI cL ad σ τ) rfl ⟨Nat.le_of_ble_eq_true rfl, Nat.le_of_ble_eq_true rfl⟩ rfl rfl rfl hl.1 rfl (Nat.le_of_ble_eq_true rfl) dL_law_555 ⟨Nat.le_of_ble_eq_true rfl, Nat.le_of_ble_eq_true rfl⟩ (fun r13 σ12 τ12 H locs h12 hP hS => ?_)
  obtain ⟨rfl, f14, f15, I16, h12⟩ := h12
  refine lv_pop hx hb dL_law_558 rfl ?_
  refine lv_aload_n hx hb dL_law_559 rfl (lv_at hl 1 rfl) ?_
  refine lv_aload_n hx hb dL_law_560 rfl (lv_at hl 3 rfl) ?_
  refine lv_iload_n hx hb dL_law_561 rfl (lv_at hl 0 rfl) ?_
  refine lv_iconst (v := 1) hx hb dL_law_562 (by decide) ?_
  refine lv_iadd hx hb dL_law_563 ?_
  refine jtopr ex10.symm ?_
  refine va_sld hx hb hX hbl hbA hS (jin tx10 (by omega) (by omega)) dL_law_564 ?_
  have I18 : jI101 σ12 := jI101_fr (congrFun (f14 55 (by decide)) 4) (congrFun (f14 55 (by decide)) 5) (f14 56 (by decide)) (f14 57 (by decide)) (f14 58 (by decide)) (f14 59 (by decide)) hI101
  have I19 : jI102 σ12 := jI102_fr (congrFun (f14 55 (by decide)) 6) (f14 60 (by decide)) (f14 61 (by decide)) hI102
  have I20 : jI103 σ12 := jI103_fr (congrFun (f14 55 (by decide)) 9) hI103
  have I21 : jI104 σ12 := jI104_fr (congrFun (f14 55 (by decide)) 10) (congrFun (f14 55 (by decide)) 12) (congrFun (f14 55 (by decide)) 13) (f14 62 (by decide)) (f14 67 (by decide)) hI104
  have I22 : jI105 σ12 := jI105_fr (congrFun (f14 55 (by decide)) 15) (f14 65 (by decide)) hI105
  have I23 : jI106 σ12 := jI106_fr (congrFun (f14 55 (by decide)) 32) (f14 70 (by decide)) (f14 71 (by decide)) (f14 72 (by decide)) hI106
  have I24 : jI119 σ12 := jI119_fr (f14 68 (by decide)) hI119
  have p25 : jKept σ12 := jKept.fr (f14 75 (by decide)) (f14 76 (by decide)) (f14 77 (by decide)) hs_jKept
  refine jcallV (As := [.int (xs x10.toNatClampNeg)]) (rest := []) ⟨hx, hb, hml, hown, hts⟩ hK hP hA hS hZ (c_X12_mean l D cI cL ad zz hJ σ12 τ (xs x10.toNatClampNeg) ((xs x10.toNatClampNeg).toInt) rfl I18 I19 I20 I21 I22 I23 I24 p25) cw_RL_64 (jc_55 cI cL ad σ12 τ) rfl ⟨Nat.le_of_ble_eq_true rfl, Nat.le_of_ble_eq_true rfl⟩ rfl rfl rfl hl.1 rfl (Nat.le_of_ble_eq_true rfl) dL_law_565 ⟨Nat.le_of_ble_eq_true rfl, Nat.le_of_ble_eq_true rfl⟩ (fun r27 σ26 τ26 H locs h26 hP hS => ?_)
  obtain ⟨rfl, f28, f29, I30, p31, h26⟩ := h26
  refine lv_pop hx hb dL_law_568 rfl ?_
  refine lv_goto (tgt := 1358) hx hb dL_law_569 (by decide) ?_
  obtain ⟨x33, ex33⟩ : ∃ y : Int32, y = x0 + 6 := ⟨_, rfl⟩
  have tx33 : x33.toInt = x0.toInt + 6 := (jadd ex33 rfl jz_6 (by omega) (by omega)).trans (by omega)
  refine lv_iinc (v := x33) (lv' := [(3, .int x33), (2, .ref (ad 55)), (1, .ref (ad 0)), (0, .ref b)]) hx hb dL_law_1358 hl (k := 0) rfl (by rw [ex33]; rfl) (by decide) rfl (fun ls hl => ?_)
  refine lv_goto (tgt := 18) hx hb dL_law_1361 (by decide) ?_
  have I34 : jI2 σ26 := jI2_fr ((congrFun (f28 2 (by decide)) 0).trans (congrFun (f14 2 (by decide)) 0)) ((congrFun (f28 2 (by decide)) 1).trans (congrFun (f14 2 (by decide)) 1)) ((congrFun (f28 2 (by decide)) 2).trans (congrFun (f14 2 (by decide)) 2)) ((congrFun (f28 2 (by decide)) 3).trans (congrFun (f14 2 (by decide)) 3)) ((f28 6 (by decide)).trans (f14 6 (by decide))) hI2
  have I35 : jI9 σ26 := jI9_fr ((congrFun (f28 9 (by decide)) 0).trans (congrFun (f14 9 (by decide)) 0)) ((f28 10 (by decide)).trans (f14 10 (by decide))) ((f28 11 (by decide)).trans (f14 11 (by decide))) hI9
  have I36 : jI12 σ26 := jI12_fr ((congrFun (f28 12 (by decide)) 0).trans (congrFun (f14 12 (by decide)) 0)) ((f28 13 (by decide)).trans (f14 13 (by decide))) hI12
  have I37 : jI16 σ26 := jI16_fr ((congrFun (f28 16 (by decide)) 0).trans (congrFun (f14 16 (by decide)) 0)) ((congrFun (f28 16 (by decide)) 1).trans (congrFun (f14 16 (by decide)) 1)) ((congrFun (f28 16 (by decide)) 2).trans (congrFun (f14 16 (by decide)) 2)) ((f28 17 (by decide)).trans (f14 17 (by decide))) hI16
  have I38 : jI18 σ26 := jI18_fr ((congrFun (f28 18 (by decide)) 0).trans (congrFun (f14 18 (by decide)) 0)) ((f28 19 (by decide)).trans (f14 19 (by decide))) hI18
  have I39 : jI22 σ26 := jI22_fr ((congrFun (f28 22 (by decide)) 0).trans (congrFun (f14 22 (by decide)) 0)) ((f28 23 (by decide)).trans (f14 23 (by decide))) hI22
  have I40 : jI31 σ26 := jI31_fr (congrFun (f28 31 (by decide)) 8) (f28 33 (by decide)) (f28 36 (by decide)) I16
  have I41 : jI38 σ26 := jI38_fr ((congrFun (f28 38 (by decide)) 0).trans (congrFun (f14 38 (by decide)) 0)) ((congrFun (f28 38 (by decide)) 1).trans (congrFun (f14 38 (by decide)) 1)) ((f28 39 (by decide)).trans (f14 39 (by decide))) hI38
  have I42 : jI43 σ26 := jI43_fr ((congrFun (f28 43 (by decide)) 8).trans (congrFun (f14 43 (by decide)) 8)) hI43
  have I43 : jI47 σ26 := jI47_fr ((congrFun (f28 47 (by decide)) 0).trans (congrFun (f14 47 (by decide)) 0)) ((f28 48 (by decide)).trans (f14 48 (by decide))) ((f28 49 (by decide)).trans (f14 49 (by decide))) hI47
  have I44 : jI50 σ26 := jI50_fr ((f28 52 (by decide)).trans (f14 52 (by decide))) hI50
  have I45 : jI101 σ26 := jI101_fr (f29 4 (by decide)) (f29 5 (by decide)) (f28 56 (by decide)) (f28 57 (by decide)) (f28 58 (by decide)) (f28 59 (by decide)) I18
  have I46 : jI102 σ26 := jI102_fr (f29 6 (by decide)) (f28 60 (by decide)) (f28 61 (by decide)) I19
  have I47 : jI103 σ26 := jI103_fr (f29 9 (by decide)) I20
  have I48 : jI104 σ26 := jI104_fr (f29 10 (by decide)) (f29 12 (by decide)) (f29 13 (by decide)) (f28 62 (by decide)) (f28 67 (by decide)) I21
  have I49 : jI105 σ26 := jI105_fr (f29 15 (by decide)) (f28 65 (by decide)) I22
  have I50 : jI106 σ26 := jI106_fr (f29 32 (by decide)) (f28 70 (by decide)) (f28 71 (by decide)) (f28 72 (by decide)) I23
  have I51 : jI107 σ26 := jI107_fr ((f29 12 (by decide)).trans (congrFun (f14 55 (by decide)) 12)) ((f29 47 (by decide)).trans (congrFun (f14 55 (by decide)) 47)) ((f28 80 (by decide)).trans (f14 80 (by decide))) hI107
  have I52 : jI109 σ26 := jI109_fr ((f29 50 (by decide)).trans (congrFun (f14 55 (by decide)) 50)) hI109
  have I53 : jI110 σ26 := jI110_fr ((f28 86 (by decide)).trans (f14 86 (by decide))) ((f28 87 (by decide)).trans (f14 87 (by decide))) hI110
  have I54 : jI111 σ26 := jI111_fr ((f28 79 (by decide)).trans (f14 79 (by decide))) hI111
  have p55 : jBook σ26 := jBook.fr ((f29 47 (by decide)).trans (congrFun (f14 55 (by decide)) 47)) ((f29 10 (by decide)).trans (congrFun (f14 55 (by decide)) 10)) ((f28 81 (by decide)).trans (f14 81 (by decide))) hs_jBook
  have z56 : (σ26 38 0).toInt = (σ 38 0).toInt := (congrArg Int32.toInt (show σ26 38 0 = (σ 38 0) from ((congrFun (f28 38 (by decide)) 0).trans (congrFun (f14 38 (by decide)) 0))))
  have z57 : (σ26 55 32).toInt = (σ 55 32).toInt := (congrArg Int32.toInt (show σ26 55 32 = (σ 55 32) from ((f29 32 (by decide)).trans (congrFun (f14 55 (by decide)) 32))))
  exact ih x33 σ26 τ _ _ ls (by have h9 := tx33; omega) ⟨I34, I35, I36, I37, I38, I39, I40, I41, I42, I43, I44, I45, I46, I47, I48, I49, I50, I51, I52, I53, I54, I30, p31, p55, (by omega), (show jShP (σ26 51) (σ26 52) (σ26 53) (σ26 86) (σ26 87) (σ26 55 32).toInt by rw [show σ26 51 = σ 51 from ((f28 51 (by decide)).trans (f14 51 (by decide))), show σ26 52 = σ 52 from ((f28 52 (by decide)).trans (f14 52 (by decide))), show σ26 53 = σ 53 from ((f28 53 (by decide)).trans (f14 53 (by decide))), show σ26 86 = σ 86 from ((f28 86 (by decide)).trans (f14 86 (by decide))), show σ26 87 = σ 87 from ((f28 87 (by decide)).trans (f14 87 (by decide)))]; exact (hr0.up (by omega) (by omega))), (show jEl (σ26 51) (σ26 52) (τ 54) (τ 88) by rw [show σ26 51 = σ 51 from ((f28 51 (by decide)).trans (f14 51 (by decide))), show σ26 52 = σ 52 from ((f28 52 (by decide)).trans (f14 52 (by decide)))]; exact hr1)⟩ hP hS (lv_sub hl [0, 1, 2, 3] rfl)
set_option maxHeartbeats 4000000 in
set_option maxRecDepth 100000 in
theorem law_case_12 {p : Program} {e : Env} {s : State} {m : MethodId} {below : List Frame} {meth : Method} {c : Code} (l : Launch) {b L : Nat} {xs : Nat → Int32} {D : va_G} {cI cL : ClassId} {ad zz : Nat → Nat} (C0 : lw_At p s m meth c b L xs) (hJ : jD ad) (hA : ∀ q, jA ad q → s.heap.size ≤ q) (hK : jK D cI cL s) (hZ : jZ zz (fun q : Nat => s.heap.size ≤ q) s s.heap) {x0 : Int32} (hx0 : 0 ≤ x0.toInt) (hxL : x0.toInt + 6 ≤ (L : Int)) (hL : L ≤ 384) {σ : Nat → Nat → Int32} {τ : Nat → Nat → Int64} {H : Heap} {locs : List Loc} (hS : va_S (fun q : Nat => s.heap.size ≤ q) s.heap H locs) {ls : Array Slot} (hAll : jAll σ τ) (hP : jH D cI cL ad σ τ H) (hl : lv_has ls 4 [(3, .int x0), (2, .ref (ad 55)), (1, .ref (ad 0)), (0, .ref b)]) (ih : ∀ (x1 : Int32) (σ : Nat → Nat → Int32) (τ : Nat → Nat → Int64) (H : Heap) (locs : List Loc) (ls : Array Slot), x1.toInt = x0.toInt + 6 → jAll σ τ → jH D cI cL ad σ τ H → va_S (fun q : Nat => s.heap.size ≤ q) s.heap H locs → lv_has ls 4 [(3, .int x1), (2, .ref (ad 55)), (1, .ref (ad 0)), (0, .ref b)] → W p l e room_1 s m #[Value.ref b] below meth c H locs 90 348600 (lw_Z below #[Value.ref b] s) (F0 m 18 ls [])) : W p l e room_1 s m #[Value.ref b] below meth c H locs 90 348600 (lw_Z below #[Value.ref b] s) (F0 m 572 ls []) := by
  obtain ⟨hx, hb, hr, hml, hown, hts0, hX, hbl, hlocks, hgv⟩ := C0
  have hts : ∀ w ∈ wsL_law, w.before #[Value.ref b] s = true := fun w h => hts0 w (wsL_law_in w h)
  have hbA : ¬ (fun q : Nat => s.heap.size ≤ q) b := Nat.not_le.mpr hbl
  have hown : s.vm.findClass RL = some m.cls := hown
  obtain ⟨hI2, hI9, hI12, hI16, hI18, hI22, hI31, hI38, hI43, hI47, hI50, hI101, hI102, hI103, hI104, hI105, hI106, hI107, hI109, hI110, hI111, hI119, hs_jKept, hs_jBook, ht0, hr0, hr1⟩ := hAll
  have hL9 : (L : Int) ≤ 384 := by omega
  obtain ⟨i1, i2, w3⟩ : (0 ≤ (σ 38 0).toInt ∧ (σ 38 0).toInt ≤ 20) ∧ (0 ≤ (σ 38 1).toInt ∧ (σ 38 1).toInt ≤ 1000) ∧ (∀ k : Nat, k < 20 → 0 ≤ (σ 39 k).toInt ∧ (σ 39 k).toInt ≤ 6) := id hI38
  have w4 : ∀ k : Nat, k < 6 → 0 ≤ (σ 52 k).toInt ∧ (σ 52 k).toInt ≤ 60 := hI50
  obtain ⟨i5, w6, w7, w8⟩ : (0 ≤ (σ 55 32).toInt ∧ (σ 55 32).toInt ≤ 20) ∧ (∀ k : Nat, k < 20 → 0 ≤ (σ 70 k).toInt ∧ (σ 70 k).toInt ≤ 6) ∧ (∀ k : Nat, k < 20 → 0 ≤ (σ 71 k).toInt ∧ (σ 71 k).toInt ≤ 8) ∧ (∀ k : Nat, k < 160 → 0 ≤ (σ 72 k).toInt ∧ (σ 72 k).toInt ≤ 3) := id hI106
  refine lv_aload_n hx hb dL_law_572 rfl (lv_at hl 2 rfl) ?_
  refine lv_aload_n hx hb dL_law_573 rfl (lv_at hl 3 rfl) ?_
  refine lv_iload_n hx hb dL_law_574 rfl (lv_at hl 0 rfl) ?_
  refine lv_iconst (v := 1) hx hb dL_law_575 (by decide) ?_
  have g9 := jrg (rfl : x0.toInt = x0.toInt)
  refine lv_iadd hx hb dL_law_576 ?_
  refine lv_topi (fun x10 ex10 => ?_)
  have tx10 : x10.toInt = x0.toInt + 1 := (jadd ex10 rfl jz_1 (by omega) (by omega)).trans (by omega)
  refine va_sld hx hb hX hbl hbA hS (jin tx10 (by omega) (by omega)) dL_law_577 ?_
  have g11 := jrg (rfl : (xs x10.toNatClampNeg).toInt = (xs x10.toNatClampNeg).toInt)
  refine lv_aload_n hx hb dL_law_578 rfl (lv_at hl 3 rfl) ?_
  refine lv_iload_n hx hb dL_law_579 rfl (lv_at hl 0 rfl) ?_
  refine lv_iconst (v := 2) hx hb dL_law_580 (by decide) ?_
  refine lv_iadd hx hb dL_law_581 ?_
  refine lv_topi (fun x12 ex12 => ?_)
  have tx12 : x12.toInt = x0.toInt + 2 := (jadd ex12 rfl jz_2 (by omega) (by omega)).trans (by omega)
  refine va_sld hx hb hX hbl hbA hS (jin tx12 (by omega) (by omega)) dL_law_582 ?_
  have g13 := jrg (rfl : (xs x12.toNatClampNeg).toInt = (xs x12.toNatClampNeg).toInt)
  refine jcallV (As := [.int (xs x10.toNatClampNeg), .int (xs x12.toNatClampNeg)]) (rest := []) ⟨hx, hb, hml, hown, hts⟩ hK hP hA hS hZ (c_X11_likely l D cI cL ad zz hJ σ τ (xs x10.toNatClampNeg) ((xs x10.toNatClampNeg).toInt) rfl (xs x12.toNatClampNeg) ((xs x12.toNatClampNeg).toInt) rfl hI2 hI16 hI18 hI22 hI31 hI38) cw_RL_65 (jc_0 cI cL ad σ τ) rfl ⟨Nat.le_of_ble_eq_true rfl, Nat.le_of_ble_eq_true rfl⟩ rfl rfl rfl hl.1 rfl (Nat.le_of_ble_eq_true rfl) dL_law_583 ⟨Nat.le_of_ble_eq_true rfl, Nat.le_of_ble_eq_true rfl⟩ (fun r15 σ14 τ14 H locs h14 hP hS => ?_)
  obtain ⟨rfl, f16, f17, I18, h14⟩ := h14
  refine lv_pop hx hb dL_law_586 rfl ?_
  refine lv_aload_n hx hb dL_law_587 rfl (lv_at hl 1 rfl) ?_
  refine lv_aload_n hx hb dL_law_588 rfl (lv_at hl 3 rfl) ?_
  refine lv_iload_n hx hb dL_law_589 rfl (lv_at hl 0 rfl) ?_
  refine lv_iconst (v := 1) hx hb dL_law_590 (by decide) ?_
  refine lv_iadd hx hb dL_law_591 ?_
  refine jtopr ex10.symm ?_
  refine va_sld hx hb hX hbl hbA hS (jin tx10 (by omega) (by omega)) dL_law_592 ?_
  refine lv_aload_n hx hb dL_law_593 rfl (lv_at hl 3 rfl) ?_
  refine lv_iload_n hx hb dL_law_594 rfl (lv_at hl 0 rfl) ?_
  refine lv_iconst (v := 2) hx hb dL_law_595 (by decide) ?_
  refine lv_iadd hx hb dL_law_596 ?_
  refine jtopr ex12.symm ?_
  refine va_sld hx hb hX hbl hbA hS (jin tx12 (by omega) (by omega)) dL_law_597 ?_
  have I20 : jI101 σ14 := jI101_fr (congrFun (f16 55 (by decide)) 4) (congrFun (f16 55 (by decide)) 5) (f16 56 (by decide)) (f16 57 (by decide)) (f16 58 (by decide)) (f16 59 (by decide)) hI101
  have I21 : jI102 σ14 := jI102_fr (congrFun (f16 55 (by decide)) 6) (f16 60 (by decide)) (f16 61 (by decide)) hI102
  have I22 : jI103 σ14 := jI103_fr (congrFun (f16 55 (by decide)) 9) hI103
  have I23 : jI104 σ14 := jI104_fr (congrFun (f16 55 (by decide)) 10) (congrFun (f16 55 (by decide)) 12) (congrFun (f16 55 (by decide)) 13) (f16 62 (by decide)) (f16 67 (by decide)) hI104
  have I24 : jI105 σ14 := jI105_fr (congrFun (f16 55 (by decide)) 15) (f16 65 (by decide)) hI105
  have I25 : jI106 σ14 := jI106_fr (congrFun (f16 55 (by decide)) 32) (f16 70 (by decide)) (f16 71 (by decide)) (f16 72 (by decide)) hI106
  have I26 : jI119 σ14 := jI119_fr (f16 68 (by decide)) hI119
  have p27 : jKept σ14 := jKept.fr (f16 75 (by decide)) (f16 76 (by decide)) (f16 77 (by decide)) hs_jKept
  refine jcallV (As := [.int (xs x10.toNatClampNeg), .int (xs x12.toNatClampNeg)]) (rest := []) ⟨hx, hb, hml, hown, hts⟩ hK hP hA hS hZ (c_X12_likely l D cI cL ad zz hJ σ14 τ (xs x10.toNatClampNeg) ((xs x10.toNatClampNeg).toInt) rfl (xs x12.toNatClampNeg) ((xs x12.toNatClampNeg).toInt) rfl I20 I21 I22 I23 I24 I25 I26 p27) cw_RL_68 (jc_55 cI cL ad σ14 τ) rfl ⟨Nat.le_of_ble_eq_true rfl, Nat.le_of_ble_eq_true rfl⟩ rfl rfl rfl hl.1 rfl (Nat.le_of_ble_eq_true rfl) dL_law_598 ⟨Nat.le_of_ble_eq_true rfl, Nat.le_of_ble_eq_true rfl⟩ (fun r29 σ28 τ28 H locs h28 hP hS => ?_)
  obtain ⟨rfl, f30, f31, I32, p33, h28⟩ := h28
  refine lv_pop hx hb dL_law_601 rfl ?_
  refine lv_goto (tgt := 1358) hx hb dL_law_602 (by decide) ?_
  obtain ⟨x35, ex35⟩ : ∃ y : Int32, y = x0 + 6 := ⟨_, rfl⟩
  have tx35 : x35.toInt = x0.toInt + 6 := (jadd ex35 rfl jz_6 (by omega) (by omega)).trans (by omega)
  refine lv_iinc (v := x35) (lv' := [(3, .int x35), (2, .ref (ad 55)), (1, .ref (ad 0)), (0, .ref b)]) hx hb dL_law_1358 hl (k := 0) rfl (by rw [ex35]; rfl) (by decide) rfl (fun ls hl => ?_)
  refine lv_goto (tgt := 18) hx hb dL_law_1361 (by decide) ?_
  have I36 : jI2 σ28 := jI2_fr ((congrFun (f30 2 (by decide)) 0).trans (congrFun (f16 2 (by decide)) 0)) ((congrFun (f30 2 (by decide)) 1).trans (congrFun (f16 2 (by decide)) 1)) ((congrFun (f30 2 (by decide)) 2).trans (congrFun (f16 2 (by decide)) 2)) ((congrFun (f30 2 (by decide)) 3).trans (congrFun (f16 2 (by decide)) 3)) ((f30 6 (by decide)).trans (f16 6 (by decide))) hI2
  have I37 : jI9 σ28 := jI9_fr ((congrFun (f30 9 (by decide)) 0).trans (congrFun (f16 9 (by decide)) 0)) ((f30 10 (by decide)).trans (f16 10 (by decide))) ((f30 11 (by decide)).trans (f16 11 (by decide))) hI9
  have I38 : jI12 σ28 := jI12_fr ((congrFun (f30 12 (by decide)) 0).trans (congrFun (f16 12 (by decide)) 0)) ((f30 13 (by decide)).trans (f16 13 (by decide))) hI12
  have I39 : jI16 σ28 := jI16_fr ((congrFun (f30 16 (by decide)) 0).trans (congrFun (f16 16 (by decide)) 0)) ((congrFun (f30 16 (by decide)) 1).trans (congrFun (f16 16 (by decide)) 1)) ((congrFun (f30 16 (by decide)) 2).trans (congrFun (f16 16 (by decide)) 2)) ((f30 17 (by decide)).trans (f16 17 (by decide))) hI16
  have I40 : jI18 σ28 := jI18_fr ((congrFun (f30 18 (by decide)) 0).trans (congrFun (f16 18 (by decide)) 0)) ((f30 19 (by decide)).trans (f16 19 (by decide))) hI18
  have I41 : jI22 σ28 := jI22_fr ((congrFun (f30 22 (by decide)) 0).trans (congrFun (f16 22 (by decide)) 0)) ((f30 23 (by decide)).trans (f16 23 (by decide))) hI22
  have I42 : jI31 σ28 := jI31_fr (congrFun (f30 31 (by decide)) 8) (f30 33 (by decide)) (f30 36 (by decide)) I18
  have I43 : jI38 σ28 := jI38_fr ((congrFun (f30 38 (by decide)) 0).trans (congrFun (f16 38 (by decide)) 0)) ((congrFun (f30 38 (by decide)) 1).trans (congrFun (f16 38 (by decide)) 1)) ((f30 39 (by decide)).trans (f16 39 (by decide))) hI38
  have I44 : jI43 σ28 := jI43_fr ((congrFun (f30 43 (by decide)) 8).trans (congrFun (f16 43 (by decide)) 8)) hI43
  have I45 : jI47 σ28 := jI47_fr ((congrFun (f30 47 (by decide)) 0).trans (congrFun (f16 47 (by decide)) 0)) ((f30 48 (by decide)).trans (f16 48 (by decide))) ((f30 49 (by decide)).trans (f16 49 (by decide))) hI47
  have I46 : jI50 σ28 := jI50_fr ((f30 52 (by decide)).trans (f16 52 (by decide))) hI50
  have I47 : jI101 σ28 := jI101_fr (f31 4 (by decide)) (f31 5 (by decide)) (f30 56 (by decide)) (f30 57 (by decide)) (f30 58 (by decide)) (f30 59 (by decide)) I20
  have I48 : jI102 σ28 := jI102_fr (f31 6 (by decide)) (f30 60 (by decide)) (f30 61 (by decide)) I21
  have I49 : jI103 σ28 := jI103_fr (f31 9 (by decide)) I22
  have I50 : jI104 σ28 := jI104_fr (f31 10 (by decide)) (f31 12 (by decide)) (f31 13 (by decide)) (f30 62 (by decide)) (f30 67 (by decide)) I23
  have I51 : jI105 σ28 := jI105_fr (f31 15 (by decide)) (f30 65 (by decide)) I24
  have I52 : jI106 σ28 := jI106_fr (f31 32 (by decide)) (f30 70 (by decide)) (f30 71 (by decide)) (f30 72 (by decide)) I25
  have I53 : jI107 σ28 := jI107_fr ((f31 12 (by decide)).trans (congrFun (f16 55 (by decide)) 12)) ((f31 47 (by decide)).trans (congrFun (f16 55 (by decide)) 47)) ((f30 80 (by decide)).trans (f16 80 (by decide))) hI107
  have I54 : jI109 σ28 := jI109_fr ((f31 50 (by decide)).trans (congrFun (f16 55 (by decide)) 50)) hI109
  have I55 : jI110 σ28 := jI110_fr ((f30 86 (by decide)).trans (f16 86 (by decide))) ((f30 87 (by decide)).trans (f16 87 (by decide))) hI110
  have I56 : jI111 σ28 := jI111_fr ((f30 79 (by decide)).trans (f16 79 (by decide))) hI111
  have p57 : jBook σ28 := jBook.fr ((f31 47 (by decide)).trans (congrFun (f16 55 (by decide)) 47)) ((f31 10 (by decide)).trans (congrFun (f16 55 (by decide)) 10)) ((f30 81 (by decide)).trans (f16 81 (by decide))) hs_jBook
  have z58 : (σ28 38 0).toInt = (σ 38 0).toInt := (congrArg Int32.toInt (show σ28 38 0 = (σ 38 0) from ((congrFun (f30 38 (by decide)) 0).trans (congrFun (f16 38 (by decide)) 0))))
  have z59 : (σ28 55 32).toInt = (σ 55 32).toInt := (congrArg Int32.toInt (show σ28 55 32 = (σ 55 32) from ((f31 32 (by decide)).trans (congrFun (f16 55 (by decide)) 32))))
  exact ih x35 σ28 τ _ _ ls (by have h9 := tx35; omega) ⟨I36, I37, I38, I39, I40, I41, I42, I43, I44, I45, I46, I47, I48, I49, I50, I51, I52, I53, I54, I55, I56, I32, p33, p57, (by omega), (show jShP (σ28 51) (σ28 52) (σ28 53) (σ28 86) (σ28 87) (σ28 55 32).toInt by rw [show σ28 51 = σ 51 from ((f30 51 (by decide)).trans (f16 51 (by decide))), show σ28 52 = σ 52 from ((f30 52 (by decide)).trans (f16 52 (by decide))), show σ28 53 = σ 53 from ((f30 53 (by decide)).trans (f16 53 (by decide))), show σ28 86 = σ 86 from ((f30 86 (by decide)).trans (f16 86 (by decide))), show σ28 87 = σ 87 from ((f30 87 (by decide)).trans (f16 87 (by decide)))]; exact (hr0.up (by omega) (by omega))), (show jEl (σ28 51) (σ28 52) (τ 54) (τ 88) by rw [show σ28 51 = σ 51 from ((f30 51 (by decide)).trans (f16 51 (by decide))), show σ28 52 = σ 52 from ((f30 52 (by decide)).trans (f16 52 (by decide)))]; exact hr1)⟩ hP hS (lv_sub hl [0, 1, 2, 3] rfl)
set_option maxHeartbeats 4000000 in
set_option maxRecDepth 100000 in
theorem law_case_13 {p : Program} {e : Env} {s : State} {m : MethodId} {below : List Frame} {meth : Method} {c : Code} (l : Launch) {b L : Nat} {xs : Nat → Int32} {D : va_G} {cI cL : ClassId} {ad zz : Nat → Nat} (C0 : lw_At p s m meth c b L xs) (hJ : jD ad) (hA : ∀ q, jA ad q → s.heap.size ≤ q) (hK : jK D cI cL s) (hZ : jZ zz (fun q : Nat => s.heap.size ≤ q) s s.heap) {x0 : Int32} (hx0 : 0 ≤ x0.toInt) (hxL : x0.toInt + 6 ≤ (L : Int)) (hL : L ≤ 384) {σ : Nat → Nat → Int32} {τ : Nat → Nat → Int64} {H : Heap} {locs : List Loc} (hS : va_S (fun q : Nat => s.heap.size ≤ q) s.heap H locs) {ls : Array Slot} (hAll : jAll σ τ) (hP : jH D cI cL ad σ τ H) (hl : lv_has ls 4 [(3, .int x0), (2, .ref (ad 55)), (1, .ref (ad 0)), (0, .ref b)]) (ih : ∀ (x1 : Int32) (σ : Nat → Nat → Int32) (τ : Nat → Nat → Int64) (H : Heap) (locs : List Loc) (ls : Array Slot), x1.toInt = x0.toInt + 6 → jAll σ τ → jH D cI cL ad σ τ H → va_S (fun q : Nat => s.heap.size ≤ q) s.heap H locs → lv_has ls 4 [(3, .int x1), (2, .ref (ad 55)), (1, .ref (ad 0)), (0, .ref b)] → W p l e room_1 s m #[Value.ref b] below meth c H locs 90 348600 (lw_Z below #[Value.ref b] s) (F0 m 18 ls [])) : W p l e room_1 s m #[Value.ref b] below meth c H locs 90 348600 (lw_Z below #[Value.ref b] s) (F0 m 605 ls []) := by
  obtain ⟨hx, hb, hr, hml, hown, hts0, hX, hbl, hlocks, hgv⟩ := C0
  have hts : ∀ w ∈ wsL_law, w.before #[Value.ref b] s = true := fun w h => hts0 w (wsL_law_in w h)
  have hbA : ¬ (fun q : Nat => s.heap.size ≤ q) b := Nat.not_le.mpr hbl
  have hown : s.vm.findClass RL = some m.cls := hown
  obtain ⟨hI2, hI9, hI12, hI16, hI18, hI22, hI31, hI38, hI43, hI47, hI50, hI101, hI102, hI103, hI104, hI105, hI106, hI107, hI109, hI110, hI111, hI119, hs_jKept, hs_jBook, ht0, hr0, hr1⟩ := hAll
  have hL9 : (L : Int) ≤ 384 := by omega
  obtain ⟨i1, i2, w3⟩ : (0 ≤ (σ 38 0).toInt ∧ (σ 38 0).toInt ≤ 20) ∧ (0 ≤ (σ 38 1).toInt ∧ (σ 38 1).toInt ≤ 1000) ∧ (∀ k : Nat, k < 20 → 0 ≤ (σ 39 k).toInt ∧ (σ 39 k).toInt ≤ 6) := id hI38
  have w4 : ∀ k : Nat, k < 6 → 0 ≤ (σ 52 k).toInt ∧ (σ 52 k).toInt ≤ 60 := hI50
  obtain ⟨i5, w6, w7, w8⟩ : (0 ≤ (σ 55 32).toInt ∧ (σ 55 32).toInt ≤ 20) ∧ (∀ k : Nat, k < 20 → 0 ≤ (σ 70 k).toInt ∧ (σ 70 k).toInt ≤ 6) ∧ (∀ k : Nat, k < 20 → 0 ≤ (σ 71 k).toInt ∧ (σ 71 k).toInt ≤ 8) ∧ (∀ k : Nat, k < 160 → 0 ≤ (σ 72 k).toInt ∧ (σ 72 k).toInt ≤ 3) := id hI106
  refine lv_aload_n hx hb dL_law_605 rfl (lv_at hl 2 rfl) ?_
  refine lv_aload_n hx hb dL_law_606 rfl (lv_at hl 3 rfl) ?_
  refine lv_iload_n hx hb dL_law_607 rfl (lv_at hl 0 rfl) ?_
  refine lv_iconst (v := 1) hx hb dL_law_608 (by decide) ?_
  have g9 := jrg (rfl : x0.toInt = x0.toInt)
  refine lv_iadd hx hb dL_law_609 ?_
  refine lv_topi (fun x10 ex10 => ?_)
  have tx10 : x10.toInt = x0.toInt + 1 := (jadd ex10 rfl jz_1 (by omega) (by omega)).trans (by omega)
  refine va_sld hx hb hX hbl hbA hS (jin tx10 (by omega) (by omega)) dL_law_610 ?_
  have g11 := jrg (rfl : (xs x10.toNatClampNeg).toInt = (xs x10.toNatClampNeg).toInt)
  refine jcallV (As := [.int (xs x10.toNatClampNeg)]) (rest := []) ⟨hx, hb, hml, hown, hts⟩ hK hP hA hS hZ (c_X11_best l D cI cL ad zz hJ σ τ (xs x10.toNatClampNeg) ((xs x10.toNatClampNeg).toInt) rfl hI2 hI16 hI22 hI31 hI47) cw_RL_69 (jc_0 cI cL ad σ τ) rfl ⟨Nat.le_of_ble_eq_true rfl, Nat.le_of_ble_eq_true rfl⟩ rfl rfl rfl hl.1 rfl (Nat.le_of_ble_eq_true rfl) dL_law_611 ⟨Nat.le_of_ble_eq_true rfl, Nat.le_of_ble_eq_true rfl⟩ (fun r13 σ12 τ12 H locs h12 hP hS => ?_)
  obtain ⟨rfl, f14, f15, I16, h12⟩ := h12
  refine lv_pop hx hb dL_law_614 rfl ?_
  refine lv_aload_n hx hb dL_law_615 rfl (lv_at hl 1 rfl) ?_
  refine lv_aload_n hx hb dL_law_616 rfl (lv_at hl 3 rfl) ?_
  refine lv_iload_n hx hb dL_law_617 rfl (lv_at hl 0 rfl) ?_
  refine lv_iconst (v := 1) hx hb dL_law_618 (by decide) ?_
  refine lv_iadd hx hb dL_law_619 ?_
  refine jtopr ex10.symm ?_
  refine va_sld hx hb hX hbl hbA hS (jin tx10 (by omega) (by omega)) dL_law_620 ?_
  have I18 : jI101 σ12 := jI101_fr (congrFun (f14 55 (by decide)) 4) (congrFun (f14 55 (by decide)) 5) (f14 56 (by decide)) (f14 57 (by decide)) (f14 58 (by decide)) (f14 59 (by decide)) hI101
  have I19 : jI102 σ12 := jI102_fr (congrFun (f14 55 (by decide)) 6) (f14 60 (by decide)) (f14 61 (by decide)) hI102
  have I20 : jI103 σ12 := jI103_fr (congrFun (f14 55 (by decide)) 9) hI103
  have I21 : jI104 σ12 := jI104_fr (congrFun (f14 55 (by decide)) 10) (congrFun (f14 55 (by decide)) 12) (congrFun (f14 55 (by decide)) 13) (f14 62 (by decide)) (f14 67 (by decide)) hI104
  have I22 : jI105 σ12 := jI105_fr (congrFun (f14 55 (by decide)) 15) (f14 65 (by decide)) hI105
  have I23 : jI106 σ12 := jI106_fr (congrFun (f14 55 (by decide)) 32) (f14 70 (by decide)) (f14 71 (by decide)) (f14 72 (by decide)) hI106
  have I24 : jI107 σ12 := jI107_fr (congrFun (f14 55 (by decide)) 12) (congrFun (f14 55 (by decide)) 47) (f14 80 (by decide)) hI107
  have I25 : jI119 σ12 := jI119_fr (f14 68 (by decide)) hI119
  have p26 : jKept σ12 := jKept.fr (f14 75 (by decide)) (f14 76 (by decide)) (f14 77 (by decide)) hs_jKept
  have p27 : jBook σ12 := jBook.fr (congrFun (f14 55 (by decide)) 47) (congrFun (f14 55 (by decide)) 10) (f14 81 (by decide)) hs_jBook
  refine jcallV (As := [.int (xs x10.toNatClampNeg)]) (rest := []) ⟨hx, hb, hml, hown, hts⟩ hK hP hA hS hZ (c_X12_best l D cI cL ad zz hJ σ12 τ (xs x10.toNatClampNeg) ((xs x10.toNatClampNeg).toInt) rfl I18 I19 I20 I21 I22 I23 I24 I25 p26 p27) cw_RL_72 (jc_55 cI cL ad σ12 τ) rfl ⟨Nat.le_of_ble_eq_true rfl, Nat.le_of_ble_eq_true rfl⟩ rfl rfl rfl hl.1 rfl (Nat.le_of_ble_eq_true rfl) dL_law_621 ⟨Nat.le_of_ble_eq_true rfl, Nat.le_of_ble_eq_true rfl⟩ (fun r29 σ28 τ28 H locs h28 hP hS => ?_)
  obtain ⟨rfl, f30, f31, I32, p33, p34, h28⟩ := h28
  refine lv_pop hx hb dL_law_624 rfl ?_
  refine lv_goto (tgt := 1358) hx hb dL_law_625 (by decide) ?_
  obtain ⟨x36, ex36⟩ : ∃ y : Int32, y = x0 + 6 := ⟨_, rfl⟩
  have tx36 : x36.toInt = x0.toInt + 6 := (jadd ex36 rfl jz_6 (by omega) (by omega)).trans (by omega)
  refine lv_iinc (v := x36) (lv' := [(3, .int x36), (2, .ref (ad 55)), (1, .ref (ad 0)), (0, .ref b)]) hx hb dL_law_1358 hl (k := 0) rfl (by rw [ex36]; rfl) (by decide) rfl (fun ls hl => ?_)
  refine lv_goto (tgt := 18) hx hb dL_law_1361 (by decide) ?_
  have I37 : jI2 σ28 := jI2_fr ((congrFun (f30 2 (by decide)) 0).trans (congrFun (f14 2 (by decide)) 0)) ((congrFun (f30 2 (by decide)) 1).trans (congrFun (f14 2 (by decide)) 1)) ((congrFun (f30 2 (by decide)) 2).trans (congrFun (f14 2 (by decide)) 2)) ((congrFun (f30 2 (by decide)) 3).trans (congrFun (f14 2 (by decide)) 3)) ((f30 6 (by decide)).trans (f14 6 (by decide))) hI2
  have I38 : jI9 σ28 := jI9_fr ((congrFun (f30 9 (by decide)) 0).trans (congrFun (f14 9 (by decide)) 0)) ((f30 10 (by decide)).trans (f14 10 (by decide))) ((f30 11 (by decide)).trans (f14 11 (by decide))) hI9
  have I39 : jI12 σ28 := jI12_fr ((congrFun (f30 12 (by decide)) 0).trans (congrFun (f14 12 (by decide)) 0)) ((f30 13 (by decide)).trans (f14 13 (by decide))) hI12
  have I40 : jI16 σ28 := jI16_fr ((congrFun (f30 16 (by decide)) 0).trans (congrFun (f14 16 (by decide)) 0)) ((congrFun (f30 16 (by decide)) 1).trans (congrFun (f14 16 (by decide)) 1)) ((congrFun (f30 16 (by decide)) 2).trans (congrFun (f14 16 (by decide)) 2)) ((f30 17 (by decide)).trans (f14 17 (by decide))) hI16
  have I41 : jI18 σ28 := jI18_fr ((congrFun (f30 18 (by decide)) 0).trans (congrFun (f14 18 (by decide)) 0)) ((f30 19 (by decide)).trans (f14 19 (by decide))) hI18
  have I42 : jI22 σ28 := jI22_fr ((congrFun (f30 22 (by decide)) 0).trans (congrFun (f14 22 (by decide)) 0)) ((f30 23 (by decide)).trans (f14 23 (by decide))) hI22
  have I43 : jI31 σ28 := jI31_fr (congrFun (f30 31 (by decide)) 8) (f30 33 (by decide)) (f30 36 (by decide)) I16
  have I44 : jI38 σ28 := jI38_fr ((congrFun (f30 38 (by decide)) 0).trans (congrFun (f14 38 (by decide)) 0)) ((congrFun (f30 38 (by decide)) 1).trans (congrFun (f14 38 (by decide)) 1)) ((f30 39 (by decide)).trans (f14 39 (by decide))) hI38
  have I45 : jI43 σ28 := jI43_fr ((congrFun (f30 43 (by decide)) 8).trans (congrFun (f14 43 (by decide)) 8)) hI43
  have I46 : jI47 σ28 := jI47_fr ((congrFun (f30 47 (by decide)) 0).trans (congrFun (f14 47 (by decide)) 0)) ((f30 48 (by decide)).trans (f14 48 (by decide))) ((f30 49 (by decide)).trans (f14 49 (by decide))) hI47
  have I47 : jI50 σ28 := jI50_fr ((f30 52 (by decide)).trans (f14 52 (by decide))) hI50
  have I48 : jI101 σ28 := jI101_fr (f31 4 (by decide)) (f31 5 (by decide)) (f30 56 (by decide)) (f30 57 (by decide)) (f30 58 (by decide)) (f30 59 (by decide)) I18
  have I49 : jI102 σ28 := jI102_fr (f31 6 (by decide)) (f30 60 (by decide)) (f30 61 (by decide)) I19
  have I50 : jI103 σ28 := jI103_fr (f31 9 (by decide)) I20
  have I51 : jI104 σ28 := jI104_fr (f31 10 (by decide)) (f31 12 (by decide)) (f31 13 (by decide)) (f30 62 (by decide)) (f30 67 (by decide)) I21
  have I52 : jI105 σ28 := jI105_fr (f31 15 (by decide)) (f30 65 (by decide)) I22
  have I53 : jI106 σ28 := jI106_fr (f31 32 (by decide)) (f30 70 (by decide)) (f30 71 (by decide)) (f30 72 (by decide)) I23
  have I54 : jI107 σ28 := jI107_fr (f31 12 (by decide)) (f31 47 (by decide)) (f30 80 (by decide)) I24
  have I55 : jI109 σ28 := jI109_fr ((f31 50 (by decide)).trans (congrFun (f14 55 (by decide)) 50)) hI109
  have I56 : jI110 σ28 := jI110_fr ((f30 86 (by decide)).trans (f14 86 (by decide))) ((f30 87 (by decide)).trans (f14 87 (by decide))) hI110
  have I57 : jI111 σ28 := jI111_fr ((f30 79 (by decide)).trans (f14 79 (by decide))) hI111
  have z58 : (σ28 38 0).toInt = (σ 38 0).toInt := (congrArg Int32.toInt (show σ28 38 0 = (σ 38 0) from ((congrFun (f30 38 (by decide)) 0).trans (congrFun (f14 38 (by decide)) 0))))
  have z59 : (σ28 55 32).toInt = (σ 55 32).toInt := (congrArg Int32.toInt (show σ28 55 32 = (σ 55 32) from ((f31 32 (by decide)).trans (congrFun (f14 55 (by decide)) 32))))
  exact ih x36 σ28 τ _ _ ls (by have h9 := tx36; omega) ⟨I37, I38, I39, I40, I41, I42, I43, I44, I45, I46, I47, I48, I49, I50, I51, I52, I53, I54, I55, I56, I57, I32, p33, p34, (by omega), (show jShP (σ28 51) (σ28 52) (σ28 53) (σ28 86) (σ28 87) (σ28 55 32).toInt by rw [show σ28 51 = σ 51 from ((f30 51 (by decide)).trans (f14 51 (by decide))), show σ28 52 = σ 52 from ((f30 52 (by decide)).trans (f14 52 (by decide))), show σ28 53 = σ 53 from ((f30 53 (by decide)).trans (f14 53 (by decide))), show σ28 86 = σ 86 from ((f30 86 (by decide)).trans (f14 86 (by decide))), show σ28 87 = σ 87 from ((f30 87 (by decide)).trans (f14 87 (by decide)))]; exact (hr0.up (by omega) (by omega))), (show jEl (σ28 51) (σ28 52) (τ 54) (τ 88) by rw [show σ28 51 = σ 51 from ((f30 51 (by decide)).trans (f14 51 (by decide))), show σ28 52 = σ 52 from ((f30 52 (by decide)).trans (f14 52 (by decide)))]; exact hr1)⟩ hP hS (lv_sub hl [0, 1, 2, 3] rfl)
set_option maxHeartbeats 4000000 in
set_option maxRecDepth 100000 in
theorem law_case_14 {p : Program} {e : Env} {s : State} {m : MethodId} {below : List Frame} {meth : Method} {c : Code} (l : Launch) {b L : Nat} {xs : Nat → Int32} {D : va_G} {cI cL : ClassId} {ad zz : Nat → Nat} (C0 : lw_At p s m meth c b L xs) (hJ : jD ad) (hA : ∀ q, jA ad q → s.heap.size ≤ q) (hK : jK D cI cL s) (hZ : jZ zz (fun q : Nat => s.heap.size ≤ q) s s.heap) {x0 : Int32} (hx0 : 0 ≤ x0.toInt) (hxL : x0.toInt + 6 ≤ (L : Int)) (hL : L ≤ 384) {σ : Nat → Nat → Int32} {τ : Nat → Nat → Int64} {H : Heap} {locs : List Loc} (hS : va_S (fun q : Nat => s.heap.size ≤ q) s.heap H locs) {ls : Array Slot} (hAll : jAll σ τ) (hP : jH D cI cL ad σ τ H) (hl : lv_has ls 4 [(3, .int x0), (2, .ref (ad 55)), (1, .ref (ad 0)), (0, .ref b)]) (ih : ∀ (x1 : Int32) (σ : Nat → Nat → Int32) (τ : Nat → Nat → Int64) (H : Heap) (locs : List Loc) (ls : Array Slot), x1.toInt = x0.toInt + 6 → jAll σ τ → jH D cI cL ad σ τ H → va_S (fun q : Nat => s.heap.size ≤ q) s.heap H locs → lv_has ls 4 [(3, .int x1), (2, .ref (ad 55)), (1, .ref (ad 0)), (0, .ref b)] → W p l e room_1 s m #[Value.ref b] below meth c H locs 90 348600 (lw_Z below #[Value.ref b] s) (F0 m 18 ls [])) : W p l e room_1 s m #[Value.ref b] below meth c H locs 90 348600 (lw_Z below #[Value.ref b] s) (F0 m 628 ls []) := by
  obtain ⟨hx, hb, hr, hml, hown, hts0, hX, hbl, hlocks, hgv⟩ := C0
  have hts : ∀ w ∈ wsL_law, w.before #[Value.ref b] s = true := fun w h => hts0 w (wsL_law_in w h)
  have hbA : ¬ (fun q : Nat => s.heap.size ≤ q) b := Nat.not_le.mpr hbl
  have hown : s.vm.findClass RL = some m.cls := hown
  obtain ⟨hI2, hI9, hI12, hI16, hI18, hI22, hI31, hI38, hI43, hI47, hI50, hI101, hI102, hI103, hI104, hI105, hI106, hI107, hI109, hI110, hI111, hI119, hs_jKept, hs_jBook, ht0, hr0, hr1⟩ := hAll
  have hL9 : (L : Int) ≤ 384 := by omega
  obtain ⟨i1, i2, w3⟩ : (0 ≤ (σ 38 0).toInt ∧ (σ 38 0).toInt ≤ 20) ∧ (0 ≤ (σ 38 1).toInt ∧ (σ 38 1).toInt ≤ 1000) ∧ (∀ k : Nat, k < 20 → 0 ≤ (σ 39 k).toInt ∧ (σ 39 k).toInt ≤ 6) := id hI38
  have w4 : ∀ k : Nat, k < 6 → 0 ≤ (σ 52 k).toInt ∧ (σ 52 k).toInt ≤ 60 := hI50
  obtain ⟨i5, w6, w7, w8⟩ : (0 ≤ (σ 55 32).toInt ∧ (σ 55 32).toInt ≤ 20) ∧ (∀ k : Nat, k < 20 → 0 ≤ (σ 70 k).toInt ∧ (σ 70 k).toInt ≤ 6) ∧ (∀ k : Nat, k < 20 → 0 ≤ (σ 71 k).toInt ∧ (σ 71 k).toInt ≤ 8) ∧ (∀ k : Nat, k < 160 → 0 ≤ (σ 72 k).toInt ∧ (σ 72 k).toInt ≤ 3) := id hI106
  refine lv_aload_n hx hb dL_law_628 rfl (lv_at hl 2 rfl) ?_
  refine lv_aload_n hx hb dL_law_629 rfl (lv_at hl 3 rfl) ?_
  refine lv_iload_n hx hb dL_law_630 rfl (lv_at hl 0 rfl) ?_
  refine lv_iconst (v := 1) hx hb dL_law_631 (by decide) ?_
  have g9 := jrg (rfl : x0.toInt = x0.toInt)
  refine lv_iadd hx hb dL_law_632 ?_
  refine lv_topi (fun x10 ex10 => ?_)
  have tx10 : x10.toInt = x0.toInt + 1 := (jadd ex10 rfl jz_1 (by omega) (by omega)).trans (by omega)
  refine va_sld hx hb hX hbl hbA hS (jin tx10 (by omega) (by omega)) dL_law_633 ?_
  have g11 := jrg (rfl : (xs x10.toNatClampNeg).toInt = (xs x10.toNatClampNeg).toInt)
  refine lv_aload_n hx hb dL_law_634 rfl (lv_at hl 3 rfl) ?_
  refine lv_iload_n hx hb dL_law_635 rfl (lv_at hl 0 rfl) ?_
  refine lv_iconst (v := 2) hx hb dL_law_636 (by decide) ?_
  refine lv_iadd hx hb dL_law_637 ?_
  refine lv_topi (fun x12 ex12 => ?_)
  have tx12 : x12.toInt = x0.toInt + 2 := (jadd ex12 rfl jz_2 (by omega) (by omega)).trans (by omega)
  refine va_sld hx hb hX hbl hbA hS (jin tx12 (by omega) (by omega)) dL_law_638 ?_
  have g13 := jrg (rfl : (xs x12.toNatClampNeg).toInt = (xs x12.toNatClampNeg).toInt)
  refine jcallV (As := [.int (xs x10.toNatClampNeg), .int (xs x12.toNatClampNeg)]) (rest := []) ⟨hx, hb, hml, hown, hts⟩ hK hP hA hS hZ (c_X11_worth l D cI cL ad zz hJ σ τ (xs x10.toNatClampNeg) ((xs x10.toNatClampNeg).toInt) rfl (xs x12.toNatClampNeg) ((xs x12.toNatClampNeg).toInt) rfl hI2 hI16 hI22 hI31) cw_RL_73 (jc_0 cI cL ad σ τ) rfl ⟨Nat.le_of_ble_eq_true rfl, Nat.le_of_ble_eq_true rfl⟩ rfl rfl rfl hl.1 rfl (Nat.le_of_ble_eq_true rfl) dL_law_639 ⟨Nat.le_of_ble_eq_true rfl, Nat.le_of_ble_eq_true rfl⟩ (fun r15 σ14 τ14 H locs h14 hP hS => ?_)
  obtain ⟨rfl, f16, f17, I18, h14⟩ := h14
  refine lv_pop hx hb dL_law_642 rfl ?_
  refine lv_aload_n hx hb dL_law_643 rfl (lv_at hl 1 rfl) ?_
  refine lv_aload_n hx hb dL_law_644 rfl (lv_at hl 3 rfl) ?_
  refine lv_iload_n hx hb dL_law_645 rfl (lv_at hl 0 rfl) ?_
  refine lv_iconst (v := 1) hx hb dL_law_646 (by decide) ?_
  refine lv_iadd hx hb dL_law_647 ?_
  refine jtopr ex10.symm ?_
  refine va_sld hx hb hX hbl hbA hS (jin tx10 (by omega) (by omega)) dL_law_648 ?_
  refine lv_aload_n hx hb dL_law_649 rfl (lv_at hl 3 rfl) ?_
  refine lv_iload_n hx hb dL_law_650 rfl (lv_at hl 0 rfl) ?_
  refine lv_iconst (v := 2) hx hb dL_law_651 (by decide) ?_
  refine lv_iadd hx hb dL_law_652 ?_
  refine jtopr ex12.symm ?_
  refine va_sld hx hb hX hbl hbA hS (jin tx12 (by omega) (by omega)) dL_law_653 ?_
  have I20 : jI101 σ14 := jI101_fr (congrFun (f16 55 (by decide)) 4) (congrFun (f16 55 (by decide)) 5) (f16 56 (by decide)) (f16 57 (by decide)) (f16 58 (by decide)) (f16 59 (by decide)) hI101
  have I21 : jI102 σ14 := jI102_fr (congrFun (f16 55 (by decide)) 6) (f16 60 (by decide)) (f16 61 (by decide)) hI102
  have I22 : jI103 σ14 := jI103_fr (congrFun (f16 55 (by decide)) 9) hI103
  have I23 : jI104 σ14 := jI104_fr (congrFun (f16 55 (by decide)) 10) (congrFun (f16 55 (by decide)) 12) (congrFun (f16 55 (by decide)) 13) (f16 62 (by decide)) (f16 67 (by decide)) hI104
  have I24 : jI105 σ14 := jI105_fr (congrFun (f16 55 (by decide)) 15) (f16 65 (by decide)) hI105
  have I25 : jI106 σ14 := jI106_fr (congrFun (f16 55 (by decide)) 32) (f16 70 (by decide)) (f16 71 (by decide)) (f16 72 (by decide)) hI106
  have I26 : jI119 σ14 := jI119_fr (f16 68 (by decide)) hI119
  have p27 : jKept σ14 := jKept.fr (f16 75 (by decide)) (f16 76 (by decide)) (f16 77 (by decide)) hs_jKept
  have z28 : (σ14 55 30).toInt = (σ 55 30).toInt := (congrArg Int32.toInt (show σ14 55 30 = (σ 55 30) from (congrFun (f16 55 (by decide)) 30)))
  have z29 : (σ14 55 31).toInt = (σ 55 31).toInt := (congrArg Int32.toInt (show σ14 55 31 = (σ 55 31) from (congrFun (f16 55 (by decide)) 31)))
  refine jcallV (As := [.int (xs x10.toNatClampNeg), .int (xs x12.toNatClampNeg)]) (rest := []) ⟨hx, hb, hml, hown, hts⟩ hK hP hA hS hZ (c_X12_worth l D cI cL ad zz hJ σ14 τ (xs x10.toNatClampNeg) ((xs x10.toNatClampNeg).toInt) rfl (xs x12.toNatClampNeg) ((xs x12.toNatClampNeg).toInt) rfl I20 I21 I22 I23 I24 I25 I26 p27) cw_RL_76 (jc_55 cI cL ad σ14 τ) rfl ⟨Nat.le_of_ble_eq_true rfl, Nat.le_of_ble_eq_true rfl⟩ rfl rfl rfl hl.1 rfl (Nat.le_of_ble_eq_true rfl) dL_law_654 ⟨Nat.le_of_ble_eq_true rfl, Nat.le_of_ble_eq_true rfl⟩ (fun r31 σ30 τ30 H locs h30 hP hS => ?_)
  obtain ⟨rfl, f32, f33, I34, p35, h30⟩ := h30
  obtain ⟨k37, h30⟩ := h30
  refine lv_pop hx hb dL_law_657 rfl ?_
  refine lv_goto (tgt := 1358) hx hb dL_law_658 (by decide) ?_
  obtain ⟨x38, ex38⟩ : ∃ y : Int32, y = x0 + 6 := ⟨_, rfl⟩
  have tx38 : x38.toInt = x0.toInt + 6 := (jadd ex38 rfl jz_6 (by omega) (by omega)).trans (by omega)
  refine lv_iinc (v := x38) (lv' := [(3, .int x38), (2, .ref (ad 55)), (1, .ref (ad 0)), (0, .ref b)]) hx hb dL_law_1358 hl (k := 0) rfl (by rw [ex38]; rfl) (by decide) rfl (fun ls hl => ?_)
  refine lv_goto (tgt := 18) hx hb dL_law_1361 (by decide) ?_
  have I39 : jI2 σ30 := jI2_fr ((congrFun (f32 2 (by decide)) 0).trans (congrFun (f16 2 (by decide)) 0)) ((congrFun (f32 2 (by decide)) 1).trans (congrFun (f16 2 (by decide)) 1)) ((congrFun (f32 2 (by decide)) 2).trans (congrFun (f16 2 (by decide)) 2)) ((congrFun (f32 2 (by decide)) 3).trans (congrFun (f16 2 (by decide)) 3)) ((f32 6 (by decide)).trans (f16 6 (by decide))) hI2
  have I40 : jI9 σ30 := jI9_fr ((congrFun (f32 9 (by decide)) 0).trans (congrFun (f16 9 (by decide)) 0)) ((f32 10 (by decide)).trans (f16 10 (by decide))) ((f32 11 (by decide)).trans (f16 11 (by decide))) hI9
  have I41 : jI12 σ30 := jI12_fr ((congrFun (f32 12 (by decide)) 0).trans (congrFun (f16 12 (by decide)) 0)) ((f32 13 (by decide)).trans (f16 13 (by decide))) hI12
  have I42 : jI16 σ30 := jI16_fr ((congrFun (f32 16 (by decide)) 0).trans (congrFun (f16 16 (by decide)) 0)) ((congrFun (f32 16 (by decide)) 1).trans (congrFun (f16 16 (by decide)) 1)) ((congrFun (f32 16 (by decide)) 2).trans (congrFun (f16 16 (by decide)) 2)) ((f32 17 (by decide)).trans (f16 17 (by decide))) hI16
  have I43 : jI18 σ30 := jI18_fr ((congrFun (f32 18 (by decide)) 0).trans (congrFun (f16 18 (by decide)) 0)) ((f32 19 (by decide)).trans (f16 19 (by decide))) hI18
  have I44 : jI22 σ30 := jI22_fr ((congrFun (f32 22 (by decide)) 0).trans (congrFun (f16 22 (by decide)) 0)) ((f32 23 (by decide)).trans (f16 23 (by decide))) hI22
  have I45 : jI31 σ30 := jI31_fr (congrFun (f32 31 (by decide)) 8) (f32 33 (by decide)) (f32 36 (by decide)) I18
  have I46 : jI38 σ30 := jI38_fr ((congrFun (f32 38 (by decide)) 0).trans (congrFun (f16 38 (by decide)) 0)) ((congrFun (f32 38 (by decide)) 1).trans (congrFun (f16 38 (by decide)) 1)) ((f32 39 (by decide)).trans (f16 39 (by decide))) hI38
  have I47 : jI43 σ30 := jI43_fr ((congrFun (f32 43 (by decide)) 8).trans (congrFun (f16 43 (by decide)) 8)) hI43
  have I48 : jI47 σ30 := jI47_fr ((congrFun (f32 47 (by decide)) 0).trans (congrFun (f16 47 (by decide)) 0)) ((f32 48 (by decide)).trans (f16 48 (by decide))) ((f32 49 (by decide)).trans (f16 49 (by decide))) hI47
  have I49 : jI50 σ30 := jI50_fr ((f32 52 (by decide)).trans (f16 52 (by decide))) hI50
  have I50 : jI101 σ30 := jI101_fr (f33 4 (by decide)) (f33 5 (by decide)) (f32 56 (by decide)) (f32 57 (by decide)) (f32 58 (by decide)) (f32 59 (by decide)) I20
  have I51 : jI102 σ30 := jI102_fr (f33 6 (by decide)) (f32 60 (by decide)) (f32 61 (by decide)) I21
  have I52 : jI103 σ30 := jI103_fr (f33 9 (by decide)) I22
  have I53 : jI104 σ30 := jI104_fr (f33 10 (by decide)) (f33 12 (by decide)) (f33 13 (by decide)) (f32 62 (by decide)) (f32 67 (by decide)) I23
  have I54 : jI105 σ30 := jI105_fr (f33 15 (by decide)) (f32 65 (by decide)) I24
  have I55 : jI106 σ30 := jI106_fr (f33 32 (by decide)) (f32 70 (by decide)) (f32 71 (by decide)) (f32 72 (by decide)) I25
  have I56 : jI107 σ30 := jI107_fr ((f33 12 (by decide)).trans (congrFun (f16 55 (by decide)) 12)) ((f33 47 (by decide)).trans (congrFun (f16 55 (by decide)) 47)) ((f32 80 (by decide)).trans (f16 80 (by decide))) hI107
  have I57 : jI109 σ30 := jI109_fr ((f33 50 (by decide)).trans (congrFun (f16 55 (by decide)) 50)) hI109
  have I58 : jI110 σ30 := jI110_fr ((f32 86 (by decide)).trans (f16 86 (by decide))) ((f32 87 (by decide)).trans (f16 87 (by decide))) hI110
  have I59 : jI111 σ30 := jI111_fr ((f32 79 (by decide)).trans (f16 79 (by decide))) hI111
  have p60 : jBook σ30 := jBook.fr ((f33 47 (by decide)).trans (congrFun (f16 55 (by decide)) 47)) ((f33 10 (by decide)).trans (congrFun (f16 55 (by decide)) 10)) ((f32 81 (by decide)).trans (f16 81 (by decide))) hs_jBook
  have z61 : (σ30 38 0).toInt = (σ 38 0).toInt := (congrArg Int32.toInt (show σ30 38 0 = (σ 38 0) from ((congrFun (f32 38 (by decide)) 0).trans (congrFun (f16 38 (by decide)) 0))))
  have z62 : (σ30 55 32).toInt = (σ 55 32).toInt := (congrArg Int32.toInt (show σ30 55 32 = (σ 55 32) from ((f33 32 (by decide)).trans (congrFun (f16 55 (by decide)) 32))))
  exact ih x38 σ30 τ _ _ ls (by have h9 := tx38; omega) ⟨I39, I40, I41, I42, I43, I44, I45, I46, I47, I48, I49, I50, I51, I52, I53, I54, I55, I56, I57, I58, I59, I34, p35, p60, (by omega), (show jShP (σ30 51) (σ30 52) (σ30 53) (σ30 86) (σ30 87) (σ30 55 32).toInt by rw [show σ30 51 = σ 51 from ((f32 51 (by decide)).trans (f16 51 (by decide))), show σ30 52 = σ 52 from ((f32 52 (by decide)).trans (f16 52 (by decide))), show σ30 53 = σ 53 from ((f32 53 (by decide)).trans (f16 53 (by decide))), show σ30 86 = σ 86 from ((f32 86 (by decide)).trans (f16 86 (by decide))), show σ30 87 = σ 87 from ((f32 87 (by decide)).trans (f16 87 (by decide)))]; exact (hr0.up (by omega) (by omega))), (show jEl (σ30 51) (σ30 52) (τ 54) (τ 88) by rw [show σ30 51 = σ 51 from ((f32 51 (by decide)).trans (f16 51 (by decide))), show σ30 52 = σ 52 from ((f32 52 (by decide)).trans (f16 52 (by decide)))]; exact hr1)⟩ hP hS (lv_sub hl [0, 1, 2, 3] rfl)
set_option maxHeartbeats 4000000 in
set_option maxRecDepth 100000 in
theorem law_case_15 {p : Program} {e : Env} {s : State} {m : MethodId} {below : List Frame} {meth : Method} {c : Code} (l : Launch) {b L : Nat} {xs : Nat → Int32} {D : va_G} {cI cL : ClassId} {ad zz : Nat → Nat} (C0 : lw_At p s m meth c b L xs) (hJ : jD ad) (hA : ∀ q, jA ad q → s.heap.size ≤ q) (hK : jK D cI cL s) (hZ : jZ zz (fun q : Nat => s.heap.size ≤ q) s s.heap) {x0 : Int32} (hx0 : 0 ≤ x0.toInt) (hxL : x0.toInt + 6 ≤ (L : Int)) (hL : L ≤ 384) {σ : Nat → Nat → Int32} {τ : Nat → Nat → Int64} {H : Heap} {locs : List Loc} (hS : va_S (fun q : Nat => s.heap.size ≤ q) s.heap H locs) {ls : Array Slot} (hAll : jAll σ τ) (hP : jH D cI cL ad σ τ H) (hl : lv_has ls 4 [(3, .int x0), (2, .ref (ad 55)), (1, .ref (ad 0)), (0, .ref b)]) (ih : ∀ (x1 : Int32) (σ : Nat → Nat → Int32) (τ : Nat → Nat → Int64) (H : Heap) (locs : List Loc) (ls : Array Slot), x1.toInt = x0.toInt + 6 → jAll σ τ → jH D cI cL ad σ τ H → va_S (fun q : Nat => s.heap.size ≤ q) s.heap H locs → lv_has ls 4 [(3, .int x1), (2, .ref (ad 55)), (1, .ref (ad 0)), (0, .ref b)] → W p l e room_1 s m #[Value.ref b] below meth c H locs 90 348600 (lw_Z below #[Value.ref b] s) (F0 m 18 ls [])) : W p l e room_1 s m #[Value.ref b] below meth c H locs 90 348600 (lw_Z below #[Value.ref b] s) (F0 m 661 ls []) := by
  obtain ⟨hx, hb, hr, hml, hown, hts0, hX, hbl, hlocks, hgv⟩ := C0
  have hts : ∀ w ∈ wsL_law, w.before #[Value.ref b] s = true := fun w h => hts0 w (wsL_law_in w h)
  have hbA : ¬ (fun q : Nat => s.heap.size ≤ q) b := Nat.not_le.mpr hbl
  have hown : s.vm.findClass RL = some m.cls := hown
  obtain ⟨hI2, hI9, hI12, hI16, hI18, hI22, hI31, hI38, hI43, hI47, hI50, hI101, hI102, hI103, hI104, hI105, hI106, hI107, hI109, hI110, hI111, hI119, hs_jKept, hs_jBook, ht0, hr0, hr1⟩ := hAll
  have hL9 : (L : Int) ≤ 384 := by omega
  obtain ⟨i1, i2, w3⟩ : (0 ≤ (σ 38 0).toInt ∧ (σ 38 0).toInt ≤ 20) ∧ (0 ≤ (σ 38 1).toInt ∧ (σ 38 1).toInt ≤ 1000) ∧ (∀ k : Nat, k < 20 → 0 ≤ (σ 39 k).toInt ∧ (σ 39 k).toInt ≤ 6) := id hI38
  have w4 : ∀ k : Nat, k < 6 → 0 ≤ (σ 52 k).toInt ∧ (σ 52 k).toInt ≤ 60 := hI50
  obtain ⟨i5, w6, w7, w8⟩ : (0 ≤ (σ 55 32).toInt ∧ (σ 55 32).toInt ≤ 20) ∧ (∀ k : Nat, k < 20 → 0 ≤ (σ 70 k).toInt ∧ (σ 70 k).toInt ≤ 6) ∧ (∀ k : Nat, k < 20 → 0 ≤ (σ 71 k).toInt ∧ (σ 71 k).toInt ≤ 8) ∧ (∀ k : Nat, k < 160 → 0 ≤ (σ 72 k).toInt ∧ (σ 72 k).toInt ≤ 3) := id hI106
  refine lv_aload_n hx hb dL_law_661 rfl (lv_at hl 2 rfl) ?_
  refine lv_aload_n hx hb dL_law_662 rfl (lv_at hl 3 rfl) ?_
  refine lv_iload_n hx hb dL_law_663 rfl (lv_at hl 0 rfl) ?_
  refine lv_iconst (v := 1) hx hb dL_law_664 (by decide) ?_
  have g9 := jrg (rfl : x0.toInt = x0.toInt)
  refine lv_iadd hx hb dL_law_665 ?_
  refine lv_topi (fun x10 ex10 => ?_)
  have tx10 : x10.toInt = x0.toInt + 1 := (jadd ex10 rfl jz_1 (by omega) (by omega)).trans (by omega)
  refine va_sld hx hb hX hbl hbA hS (jin tx10 (by omega) (by omega)) dL_law_666 ?_
  have g11 := jrg (rfl : (xs x10.toNatClampNeg).toInt = (xs x10.toNatClampNeg).toInt)
  refine lv_aload_n hx hb dL_law_667 rfl (lv_at hl 3 rfl) ?_
  refine lv_iload_n hx hb dL_law_668 rfl (lv_at hl 0 rfl) ?_
  refine lv_iconst (v := 2) hx hb dL_law_669 (by decide) ?_
  refine lv_iadd hx hb dL_law_670 ?_
  refine lv_topi (fun x12 ex12 => ?_)
  have tx12 : x12.toInt = x0.toInt + 2 := (jadd ex12 rfl jz_2 (by omega) (by omega)).trans (by omega)
  refine va_sld hx hb hX hbl hbA hS (jin tx12 (by omega) (by omega)) dL_law_671 ?_
  have g13 := jrg (rfl : (xs x12.toNatClampNeg).toInt = (xs x12.toNatClampNeg).toInt)
  refine jcallV (As := [.int (xs x10.toNatClampNeg), .int (xs x12.toNatClampNeg)]) (rest := []) ⟨hx, hb, hml, hown, hts⟩ hK hP hA hS hZ (c_X11_fielded l D cI cL ad zz hJ σ τ (xs x10.toNatClampNeg) ((xs x10.toNatClampNeg).toInt) rfl (xs x12.toNatClampNeg) ((xs x12.toNatClampNeg).toInt) rfl hI2 hI16 hI22 hI31) cw_RL_77 (jc_0 cI cL ad σ τ) rfl ⟨Nat.le_of_ble_eq_true rfl, Nat.le_of_ble_eq_true rfl⟩ rfl rfl rfl hl.1 rfl (Nat.le_of_ble_eq_true rfl) dL_law_672 ⟨Nat.le_of_ble_eq_true rfl, Nat.le_of_ble_eq_true rfl⟩ (fun r15 σ14 τ14 H locs h14 hP hS => ?_)
  obtain ⟨rfl, f16, f17, I18, h14⟩ := h14
  refine lv_pop hx hb dL_law_675 rfl ?_
  refine lv_aload_n hx hb dL_law_676 rfl (lv_at hl 1 rfl) ?_
  refine lv_aload_n hx hb dL_law_677 rfl (lv_at hl 3 rfl) ?_
  refine lv_iload_n hx hb dL_law_678 rfl (lv_at hl 0 rfl) ?_
  refine lv_iconst (v := 1) hx hb dL_law_679 (by decide) ?_
  refine lv_iadd hx hb dL_law_680 ?_
  refine jtopr ex10.symm ?_
  refine va_sld hx hb hX hbl hbA hS (jin tx10 (by omega) (by omega)) dL_law_681 ?_
  refine lv_aload_n hx hb dL_law_682 rfl (lv_at hl 3 rfl) ?_
  refine lv_iload_n hx hb dL_law_683 rfl (lv_at hl 0 rfl) ?_
  refine lv_iconst (v := 2) hx hb dL_law_684 (by decide) ?_
  refine lv_iadd hx hb dL_law_685 ?_
  refine jtopr ex12.symm ?_
  refine va_sld hx hb hX hbl hbA hS (jin tx12 (by omega) (by omega)) dL_law_686 ?_
  have I20 : jI101 σ14 := jI101_fr (congrFun (f16 55 (by decide)) 4) (congrFun (f16 55 (by decide)) 5) (f16 56 (by decide)) (f16 57 (by decide)) (f16 58 (by decide)) (f16 59 (by decide)) hI101
  have I21 : jI102 σ14 := jI102_fr (congrFun (f16 55 (by decide)) 6) (f16 60 (by decide)) (f16 61 (by decide)) hI102
  have I22 : jI103 σ14 := jI103_fr (congrFun (f16 55 (by decide)) 9) hI103
  have I23 : jI104 σ14 := jI104_fr (congrFun (f16 55 (by decide)) 10) (congrFun (f16 55 (by decide)) 12) (congrFun (f16 55 (by decide)) 13) (f16 62 (by decide)) (f16 67 (by decide)) hI104
  have I24 : jI105 σ14 := jI105_fr (congrFun (f16 55 (by decide)) 15) (f16 65 (by decide)) hI105
  have I25 : jI106 σ14 := jI106_fr (congrFun (f16 55 (by decide)) 32) (f16 70 (by decide)) (f16 71 (by decide)) (f16 72 (by decide)) hI106
  have I26 : jI119 σ14 := jI119_fr (f16 68 (by decide)) hI119
  have p27 : jKept σ14 := jKept.fr (f16 75 (by decide)) (f16 76 (by decide)) (f16 77 (by decide)) hs_jKept
  have z28 : (σ14 55 9).toInt = (σ 55 9).toInt := (congrArg Int32.toInt (show σ14 55 9 = (σ 55 9) from (congrFun (f16 55 (by decide)) 9)))
  refine jcallV (As := [.int (xs x10.toNatClampNeg), .int (xs x12.toNatClampNeg)]) (rest := []) ⟨hx, hb, hml, hown, hts⟩ hK hP hA hS hZ (c_X12_fielded l D cI cL ad zz hJ σ14 τ (xs x10.toNatClampNeg) ((xs x10.toNatClampNeg).toInt) rfl (xs x12.toNatClampNeg) ((xs x12.toNatClampNeg).toInt) rfl I20 I21 I22 I23 I24 I25 I26 p27) cw_RL_80 (jc_55 cI cL ad σ14 τ) rfl ⟨Nat.le_of_ble_eq_true rfl, Nat.le_of_ble_eq_true rfl⟩ rfl rfl rfl hl.1 rfl (Nat.le_of_ble_eq_true rfl) dL_law_687 ⟨Nat.le_of_ble_eq_true rfl, Nat.le_of_ble_eq_true rfl⟩ (fun r30 σ29 τ29 H locs h29 hP hS => ?_)
  obtain ⟨rfl, f31, f32, I33, I34, p35, h29⟩ := h29
  obtain ⟨k37, h29⟩ := h29
  refine lv_pop hx hb dL_law_690 rfl ?_
  refine lv_goto (tgt := 1358) hx hb dL_law_691 (by decide) ?_
  obtain ⟨x38, ex38⟩ : ∃ y : Int32, y = x0 + 6 := ⟨_, rfl⟩
  have tx38 : x38.toInt = x0.toInt + 6 := (jadd ex38 rfl jz_6 (by omega) (by omega)).trans (by omega)
  refine lv_iinc (v := x38) (lv' := [(3, .int x38), (2, .ref (ad 55)), (1, .ref (ad 0)), (0, .ref b)]) hx hb dL_law_1358 hl (k := 0) rfl (by rw [ex38]; rfl) (by decide) rfl (fun ls hl => ?_)
  refine lv_goto (tgt := 18) hx hb dL_law_1361 (by decide) ?_
  have I39 : jI2 σ29 := jI2_fr ((congrFun (f31 2 (by decide)) 0).trans (congrFun (f16 2 (by decide)) 0)) ((congrFun (f31 2 (by decide)) 1).trans (congrFun (f16 2 (by decide)) 1)) ((congrFun (f31 2 (by decide)) 2).trans (congrFun (f16 2 (by decide)) 2)) ((congrFun (f31 2 (by decide)) 3).trans (congrFun (f16 2 (by decide)) 3)) ((f31 6 (by decide)).trans (f16 6 (by decide))) hI2
  have I40 : jI9 σ29 := jI9_fr ((congrFun (f31 9 (by decide)) 0).trans (congrFun (f16 9 (by decide)) 0)) ((f31 10 (by decide)).trans (f16 10 (by decide))) ((f31 11 (by decide)).trans (f16 11 (by decide))) hI9
  have I41 : jI12 σ29 := jI12_fr ((congrFun (f31 12 (by decide)) 0).trans (congrFun (f16 12 (by decide)) 0)) ((f31 13 (by decide)).trans (f16 13 (by decide))) hI12
  have I42 : jI16 σ29 := jI16_fr ((congrFun (f31 16 (by decide)) 0).trans (congrFun (f16 16 (by decide)) 0)) ((congrFun (f31 16 (by decide)) 1).trans (congrFun (f16 16 (by decide)) 1)) ((congrFun (f31 16 (by decide)) 2).trans (congrFun (f16 16 (by decide)) 2)) ((f31 17 (by decide)).trans (f16 17 (by decide))) hI16
  have I43 : jI18 σ29 := jI18_fr ((congrFun (f31 18 (by decide)) 0).trans (congrFun (f16 18 (by decide)) 0)) ((f31 19 (by decide)).trans (f16 19 (by decide))) hI18
  have I44 : jI22 σ29 := jI22_fr ((congrFun (f31 22 (by decide)) 0).trans (congrFun (f16 22 (by decide)) 0)) ((f31 23 (by decide)).trans (f16 23 (by decide))) hI22
  have I45 : jI31 σ29 := jI31_fr (congrFun (f31 31 (by decide)) 8) (f31 33 (by decide)) (f31 36 (by decide)) I18
  have I46 : jI38 σ29 := jI38_fr ((congrFun (f31 38 (by decide)) 0).trans (congrFun (f16 38 (by decide)) 0)) ((congrFun (f31 38 (by decide)) 1).trans (congrFun (f16 38 (by decide)) 1)) ((f31 39 (by decide)).trans (f16 39 (by decide))) hI38
  have I47 : jI43 σ29 := jI43_fr ((congrFun (f31 43 (by decide)) 8).trans (congrFun (f16 43 (by decide)) 8)) hI43
  have I48 : jI47 σ29 := jI47_fr ((congrFun (f31 47 (by decide)) 0).trans (congrFun (f16 47 (by decide)) 0)) ((f31 48 (by decide)).trans (f16 48 (by decide))) ((f31 49 (by decide)).trans (f16 49 (by decide))) hI47
  have I49 : jI50 σ29 := jI50_fr ((f31 52 (by decide)).trans (f16 52 (by decide))) hI50
  have I50 : jI101 σ29 := jI101_fr (f32 4 (by decide)) (f32 5 (by decide)) (f31 56 (by decide)) (f31 57 (by decide)) (f31 58 (by decide)) (f31 59 (by decide)) I20
  have I51 : jI102 σ29 := jI102_fr (f32 6 (by decide)) (f31 60 (by decide)) (f31 61 (by decide)) I21
  have I52 : jI104 σ29 := jI104_fr (f32 10 (by decide)) (f32 12 (by decide)) (f32 13 (by decide)) (f31 62 (by decide)) (f31 67 (by decide)) I23
  have I53 : jI105 σ29 := jI105_fr (f32 15 (by decide)) (f31 65 (by decide)) I24
  have I54 : jI106 σ29 := jI106_fr (f32 32 (by decide)) (f31 70 (by decide)) (f31 71 (by decide)) (f31 72 (by decide)) I25
  have I55 : jI107 σ29 := jI107_fr ((f32 12 (by decide)).trans (congrFun (f16 55 (by decide)) 12)) ((f32 47 (by decide)).trans (congrFun (f16 55 (by decide)) 47)) ((f31 80 (by decide)).trans (f16 80 (by decide))) hI107
  have I56 : jI109 σ29 := jI109_fr ((f32 50 (by decide)).trans (congrFun (f16 55 (by decide)) 50)) hI109
  have I57 : jI110 σ29 := jI110_fr ((f31 86 (by decide)).trans (f16 86 (by decide))) ((f31 87 (by decide)).trans (f16 87 (by decide))) hI110
  have I58 : jI111 σ29 := jI111_fr ((f31 79 (by decide)).trans (f16 79 (by decide))) hI111
  have p59 : jBook σ29 := jBook.fr ((f32 47 (by decide)).trans (congrFun (f16 55 (by decide)) 47)) ((f32 10 (by decide)).trans (congrFun (f16 55 (by decide)) 10)) ((f31 81 (by decide)).trans (f16 81 (by decide))) hs_jBook
  have z60 : (σ29 38 0).toInt = (σ 38 0).toInt := (congrArg Int32.toInt (show σ29 38 0 = (σ 38 0) from ((congrFun (f31 38 (by decide)) 0).trans (congrFun (f16 38 (by decide)) 0))))
  have z61 : (σ29 55 32).toInt = (σ 55 32).toInt := (congrArg Int32.toInt (show σ29 55 32 = (σ 55 32) from ((f32 32 (by decide)).trans (congrFun (f16 55 (by decide)) 32))))
  exact ih x38 σ29 τ _ _ ls (by have h9 := tx38; omega) ⟨I39, I40, I41, I42, I43, I44, I45, I46, I47, I48, I49, I50, I51, I33, I52, I53, I54, I55, I56, I57, I58, I34, p35, p59, (by omega), (show jShP (σ29 51) (σ29 52) (σ29 53) (σ29 86) (σ29 87) (σ29 55 32).toInt by rw [show σ29 51 = σ 51 from ((f31 51 (by decide)).trans (f16 51 (by decide))), show σ29 52 = σ 52 from ((f31 52 (by decide)).trans (f16 52 (by decide))), show σ29 53 = σ 53 from ((f31 53 (by decide)).trans (f16 53 (by decide))), show σ29 86 = σ 86 from ((f31 86 (by decide)).trans (f16 86 (by decide))), show σ29 87 = σ 87 from ((f31 87 (by decide)).trans (f16 87 (by decide)))]; exact (hr0.up (by omega) (by omega))), (show jEl (σ29 51) (σ29 52) (τ 54) (τ 88) by rw [show σ29 51 = σ 51 from ((f31 51 (by decide)).trans (f16 51 (by decide))), show σ29 52 = σ 52 from ((f31 52 (by decide)).trans (f16 52 (by decide)))]; exact hr1)⟩ hP hS (lv_sub hl [0, 1, 2, 3] rfl)
set_option maxHeartbeats 4000000 in
set_option maxRecDepth 100000 in
theorem law_case_16 {p : Program} {e : Env} {s : State} {m : MethodId} {below : List Frame} {meth : Method} {c : Code} (l : Launch) {b L : Nat} {xs : Nat → Int32} {D : va_G} {cI cL : ClassId} {ad zz : Nat → Nat} (C0 : lw_At p s m meth c b L xs) (hJ : jD ad) (hA : ∀ q, jA ad q → s.heap.size ≤ q) (hK : jK D cI cL s) (hZ : jZ zz (fun q : Nat => s.heap.size ≤ q) s s.heap) {x0 : Int32} (hx0 : 0 ≤ x0.toInt) (hxL : x0.toInt + 6 ≤ (L : Int)) (hL : L ≤ 384) {σ : Nat → Nat → Int32} {τ : Nat → Nat → Int64} {H : Heap} {locs : List Loc} (hS : va_S (fun q : Nat => s.heap.size ≤ q) s.heap H locs) {ls : Array Slot} (hAll : jAll σ τ) (hP : jH D cI cL ad σ τ H) (hl : lv_has ls 4 [(3, .int x0), (2, .ref (ad 55)), (1, .ref (ad 0)), (0, .ref b)]) (ih : ∀ (x1 : Int32) (σ : Nat → Nat → Int32) (τ : Nat → Nat → Int64) (H : Heap) (locs : List Loc) (ls : Array Slot), x1.toInt = x0.toInt + 6 → jAll σ τ → jH D cI cL ad σ τ H → va_S (fun q : Nat => s.heap.size ≤ q) s.heap H locs → lv_has ls 4 [(3, .int x1), (2, .ref (ad 55)), (1, .ref (ad 0)), (0, .ref b)] → W p l e room_1 s m #[Value.ref b] below meth c H locs 90 348600 (lw_Z below #[Value.ref b] s) (F0 m 18 ls [])) : W p l e room_1 s m #[Value.ref b] below meth c H locs 90 348600 (lw_Z below #[Value.ref b] s) (F0 m 694 ls []) := by
  obtain ⟨hx, hb, hr, hml, hown, hts0, hX, hbl, hlocks, hgv⟩ := C0
  have hts : ∀ w ∈ wsL_law, w.before #[Value.ref b] s = true := fun w h => hts0 w (wsL_law_in w h)
  have hbA : ¬ (fun q : Nat => s.heap.size ≤ q) b := Nat.not_le.mpr hbl
  have hown : s.vm.findClass RL = some m.cls := hown
  obtain ⟨hI2, hI9, hI12, hI16, hI18, hI22, hI31, hI38, hI43, hI47, hI50, hI101, hI102, hI103, hI104, hI105, hI106, hI107, hI109, hI110, hI111, hI119, hs_jKept, hs_jBook, ht0, hr0, hr1⟩ := hAll
  have hL9 : (L : Int) ≤ 384 := by omega
  obtain ⟨i1, i2, w3⟩ : (0 ≤ (σ 38 0).toInt ∧ (σ 38 0).toInt ≤ 20) ∧ (0 ≤ (σ 38 1).toInt ∧ (σ 38 1).toInt ≤ 1000) ∧ (∀ k : Nat, k < 20 → 0 ≤ (σ 39 k).toInt ∧ (σ 39 k).toInt ≤ 6) := id hI38
  have w4 : ∀ k : Nat, k < 6 → 0 ≤ (σ 52 k).toInt ∧ (σ 52 k).toInt ≤ 60 := hI50
  obtain ⟨i5, w6, w7, w8⟩ : (0 ≤ (σ 55 32).toInt ∧ (σ 55 32).toInt ≤ 20) ∧ (∀ k : Nat, k < 20 → 0 ≤ (σ 70 k).toInt ∧ (σ 70 k).toInt ≤ 6) ∧ (∀ k : Nat, k < 20 → 0 ≤ (σ 71 k).toInt ∧ (σ 71 k).toInt ≤ 8) ∧ (∀ k : Nat, k < 160 → 0 ≤ (σ 72 k).toInt ∧ (σ 72 k).toInt ≤ 3) := id hI106
  refine lv_aload_n hx hb dL_law_694 rfl (lv_at hl 2 rfl) ?_
  refine lv_aload_n hx hb dL_law_695 rfl (lv_at hl 3 rfl) ?_
  refine lv_iload_n hx hb dL_law_696 rfl (lv_at hl 0 rfl) ?_
  refine lv_iconst (v := 1) hx hb dL_law_697 (by decide) ?_
  have g9 := jrg (rfl : x0.toInt = x0.toInt)
  refine lv_iadd hx hb dL_law_698 ?_
  refine lv_topi (fun x10 ex10 => ?_)
  have tx10 : x10.toInt = x0.toInt + 1 := (jadd ex10 rfl jz_1 (by omega) (by omega)).trans (by omega)
  refine va_sld hx hb hX hbl hbA hS (jin tx10 (by omega) (by omega)) dL_law_699 ?_
  have g11 := jrg (rfl : (xs x10.toNatClampNeg).toInt = (xs x10.toNatClampNeg).toInt)
  refine jcallV (As := [.int (xs x10.toNatClampNeg)]) (rest := []) ⟨hx, hb, hml, hown, hts⟩ hK hP hA hS hZ (c_X11_kept l D cI cL ad zz hJ σ τ (xs x10.toNatClampNeg) ((xs x10.toNatClampNeg).toInt) rfl hI2 hI16 hI22 hI31) cw_RL_81 (jc_0 cI cL ad σ τ) rfl ⟨Nat.le_of_ble_eq_true rfl, Nat.le_of_ble_eq_true rfl⟩ rfl rfl rfl hl.1 rfl (Nat.le_of_ble_eq_true rfl) dL_law_700 ⟨Nat.le_of_ble_eq_true rfl, Nat.le_of_ble_eq_true rfl⟩ (fun r13 σ12 τ12 H locs h12 hP hS => ?_)
  obtain ⟨rfl, f14, f15, I16, h12⟩ := h12
  refine lv_pop hx hb dL_law_703 rfl ?_
  refine lv_aload_n hx hb dL_law_704 rfl (lv_at hl 1 rfl) ?_
  refine lv_aload_n hx hb dL_law_705 rfl (lv_at hl 3 rfl) ?_
  refine lv_iload_n hx hb dL_law_706 rfl (lv_at hl 0 rfl) ?_
  refine lv_iconst (v := 1) hx hb dL_law_707 (by decide) ?_
  refine lv_iadd hx hb dL_law_708 ?_
  refine jtopr ex10.symm ?_
  refine va_sld hx hb hX hbl hbA hS (jin tx10 (by omega) (by omega)) dL_law_709 ?_
  have I18 : jI101 σ12 := jI101_fr (congrFun (f14 55 (by decide)) 4) (congrFun (f14 55 (by decide)) 5) (f14 56 (by decide)) (f14 57 (by decide)) (f14 58 (by decide)) (f14 59 (by decide)) hI101
  have I19 : jI102 σ12 := jI102_fr (congrFun (f14 55 (by decide)) 6) (f14 60 (by decide)) (f14 61 (by decide)) hI102
  have I20 : jI103 σ12 := jI103_fr (congrFun (f14 55 (by decide)) 9) hI103
  have I21 : jI104 σ12 := jI104_fr (congrFun (f14 55 (by decide)) 10) (congrFun (f14 55 (by decide)) 12) (congrFun (f14 55 (by decide)) 13) (f14 62 (by decide)) (f14 67 (by decide)) hI104
  have I22 : jI105 σ12 := jI105_fr (congrFun (f14 55 (by decide)) 15) (f14 65 (by decide)) hI105
  have I23 : jI106 σ12 := jI106_fr (congrFun (f14 55 (by decide)) 32) (f14 70 (by decide)) (f14 71 (by decide)) (f14 72 (by decide)) hI106
  have I24 : jI119 σ12 := jI119_fr (f14 68 (by decide)) hI119
  have p25 : jKept σ12 := jKept.fr (f14 75 (by decide)) (f14 76 (by decide)) (f14 77 (by decide)) hs_jKept
  refine jcallV (As := [.int (xs x10.toNatClampNeg)]) (rest := []) ⟨hx, hb, hml, hown, hts⟩ hK hP hA hS hZ (c_X12_kept l D cI cL ad zz hJ σ12 τ (xs x10.toNatClampNeg) ((xs x10.toNatClampNeg).toInt) rfl I18 I19 I20 I21 I22 I23 I24 p25) cw_RL_84 (jc_55 cI cL ad σ12 τ) rfl ⟨Nat.le_of_ble_eq_true rfl, Nat.le_of_ble_eq_true rfl⟩ rfl rfl rfl hl.1 rfl (Nat.le_of_ble_eq_true rfl) dL_law_710 ⟨Nat.le_of_ble_eq_true rfl, Nat.le_of_ble_eq_true rfl⟩ (fun r27 σ26 τ26 H locs h26 hP hS => ?_)
  obtain ⟨rfl, f28, f29, I30, p31, h26⟩ := h26
  refine lv_pop hx hb dL_law_713 rfl ?_
  refine lv_goto (tgt := 1358) hx hb dL_law_714 (by decide) ?_
  obtain ⟨x33, ex33⟩ : ∃ y : Int32, y = x0 + 6 := ⟨_, rfl⟩
  have tx33 : x33.toInt = x0.toInt + 6 := (jadd ex33 rfl jz_6 (by omega) (by omega)).trans (by omega)
  refine lv_iinc (v := x33) (lv' := [(3, .int x33), (2, .ref (ad 55)), (1, .ref (ad 0)), (0, .ref b)]) hx hb dL_law_1358 hl (k := 0) rfl (by rw [ex33]; rfl) (by decide) rfl (fun ls hl => ?_)
  refine lv_goto (tgt := 18) hx hb dL_law_1361 (by decide) ?_
  have I34 : jI2 σ26 := jI2_fr ((congrFun (f28 2 (by decide)) 0).trans (congrFun (f14 2 (by decide)) 0)) ((congrFun (f28 2 (by decide)) 1).trans (congrFun (f14 2 (by decide)) 1)) ((congrFun (f28 2 (by decide)) 2).trans (congrFun (f14 2 (by decide)) 2)) ((congrFun (f28 2 (by decide)) 3).trans (congrFun (f14 2 (by decide)) 3)) ((f28 6 (by decide)).trans (f14 6 (by decide))) hI2
  have I35 : jI9 σ26 := jI9_fr ((congrFun (f28 9 (by decide)) 0).trans (congrFun (f14 9 (by decide)) 0)) ((f28 10 (by decide)).trans (f14 10 (by decide))) ((f28 11 (by decide)).trans (f14 11 (by decide))) hI9
  have I36 : jI12 σ26 := jI12_fr ((congrFun (f28 12 (by decide)) 0).trans (congrFun (f14 12 (by decide)) 0)) ((f28 13 (by decide)).trans (f14 13 (by decide))) hI12
  have I37 : jI16 σ26 := jI16_fr ((congrFun (f28 16 (by decide)) 0).trans (congrFun (f14 16 (by decide)) 0)) ((congrFun (f28 16 (by decide)) 1).trans (congrFun (f14 16 (by decide)) 1)) ((congrFun (f28 16 (by decide)) 2).trans (congrFun (f14 16 (by decide)) 2)) ((f28 17 (by decide)).trans (f14 17 (by decide))) hI16
  have I38 : jI18 σ26 := jI18_fr ((congrFun (f28 18 (by decide)) 0).trans (congrFun (f14 18 (by decide)) 0)) ((f28 19 (by decide)).trans (f14 19 (by decide))) hI18
  have I39 : jI22 σ26 := jI22_fr ((congrFun (f28 22 (by decide)) 0).trans (congrFun (f14 22 (by decide)) 0)) ((f28 23 (by decide)).trans (f14 23 (by decide))) hI22
  have I40 : jI31 σ26 := jI31_fr (congrFun (f28 31 (by decide)) 8) (f28 33 (by decide)) (f28 36 (by decide)) I16
  have I41 : jI38 σ26 := jI38_fr ((congrFun (f28 38 (by decide)) 0).trans (congrFun (f14 38 (by decide)) 0)) ((congrFun (f28 38 (by decide)) 1).trans (congrFun (f14 38 (by decide)) 1)) ((f28 39 (by decide)).trans (f14 39 (by decide))) hI38
  have I42 : jI43 σ26 := jI43_fr ((congrFun (f28 43 (by decide)) 8).trans (congrFun (f14 43 (by decide)) 8)) hI43
  have I43 : jI47 σ26 := jI47_fr ((congrFun (f28 47 (by decide)) 0).trans (congrFun (f14 47 (by decide)) 0)) ((f28 48 (by decide)).trans (f14 48 (by decide))) ((f28 49 (by decide)).trans (f14 49 (by decide))) hI47
  have I44 : jI50 σ26 := jI50_fr ((f28 52 (by decide)).trans (f14 52 (by decide))) hI50
  have I45 : jI101 σ26 := jI101_fr (f29 4 (by decide)) (f29 5 (by decide)) (f28 56 (by decide)) (f28 57 (by decide)) (f28 58 (by decide)) (f28 59 (by decide)) I18
  have I46 : jI102 σ26 := jI102_fr (f29 6 (by decide)) (f28 60 (by decide)) (f28 61 (by decide)) I19
  have I47 : jI103 σ26 := jI103_fr (f29 9 (by decide)) I20
  have I48 : jI104 σ26 := jI104_fr (f29 10 (by decide)) (f29 12 (by decide)) (f29 13 (by decide)) (f28 62 (by decide)) (f28 67 (by decide)) I21
  have I49 : jI105 σ26 := jI105_fr (f29 15 (by decide)) (f28 65 (by decide)) I22
  have I50 : jI106 σ26 := jI106_fr (f29 32 (by decide)) (f28 70 (by decide)) (f28 71 (by decide)) (f28 72 (by decide)) I23
  have I51 : jI107 σ26 := jI107_fr ((f29 12 (by decide)).trans (congrFun (f14 55 (by decide)) 12)) ((f29 47 (by decide)).trans (congrFun (f14 55 (by decide)) 47)) ((f28 80 (by decide)).trans (f14 80 (by decide))) hI107
  have I52 : jI109 σ26 := jI109_fr ((f29 50 (by decide)).trans (congrFun (f14 55 (by decide)) 50)) hI109
  have I53 : jI110 σ26 := jI110_fr ((f28 86 (by decide)).trans (f14 86 (by decide))) ((f28 87 (by decide)).trans (f14 87 (by decide))) hI110
  have I54 : jI111 σ26 := jI111_fr ((f28 79 (by decide)).trans (f14 79 (by decide))) hI111
  have p55 : jBook σ26 := jBook.fr ((f29 47 (by decide)).trans (congrFun (f14 55 (by decide)) 47)) ((f29 10 (by decide)).trans (congrFun (f14 55 (by decide)) 10)) ((f28 81 (by decide)).trans (f14 81 (by decide))) hs_jBook
  have z56 : (σ26 38 0).toInt = (σ 38 0).toInt := (congrArg Int32.toInt (show σ26 38 0 = (σ 38 0) from ((congrFun (f28 38 (by decide)) 0).trans (congrFun (f14 38 (by decide)) 0))))
  have z57 : (σ26 55 32).toInt = (σ 55 32).toInt := (congrArg Int32.toInt (show σ26 55 32 = (σ 55 32) from ((f29 32 (by decide)).trans (congrFun (f14 55 (by decide)) 32))))
  exact ih x33 σ26 τ _ _ ls (by have h9 := tx33; omega) ⟨I34, I35, I36, I37, I38, I39, I40, I41, I42, I43, I44, I45, I46, I47, I48, I49, I50, I51, I52, I53, I54, I30, p31, p55, (by omega), (show jShP (σ26 51) (σ26 52) (σ26 53) (σ26 86) (σ26 87) (σ26 55 32).toInt by rw [show σ26 51 = σ 51 from ((f28 51 (by decide)).trans (f14 51 (by decide))), show σ26 52 = σ 52 from ((f28 52 (by decide)).trans (f14 52 (by decide))), show σ26 53 = σ 53 from ((f28 53 (by decide)).trans (f14 53 (by decide))), show σ26 86 = σ 86 from ((f28 86 (by decide)).trans (f14 86 (by decide))), show σ26 87 = σ 87 from ((f28 87 (by decide)).trans (f14 87 (by decide)))]; exact (hr0.up (by omega) (by omega))), (show jEl (σ26 51) (σ26 52) (τ 54) (τ 88) by rw [show σ26 51 = σ 51 from ((f28 51 (by decide)).trans (f14 51 (by decide))), show σ26 52 = σ 52 from ((f28 52 (by decide)).trans (f14 52 (by decide)))]; exact hr1)⟩ hP hS (lv_sub hl [0, 1, 2, 3] rfl)
set_option maxHeartbeats 4000000 in
set_option maxRecDepth 100000 in
theorem law_case_17 {p : Program} {e : Env} {s : State} {m : MethodId} {below : List Frame} {meth : Method} {c : Code} (l : Launch) {b L : Nat} {xs : Nat → Int32} {D : va_G} {cI cL : ClassId} {ad zz : Nat → Nat} (C0 : lw_At p s m meth c b L xs) (hJ : jD ad) (hA : ∀ q, jA ad q → s.heap.size ≤ q) (hK : jK D cI cL s) (hZ : jZ zz (fun q : Nat => s.heap.size ≤ q) s s.heap) {x0 : Int32} (hx0 : 0 ≤ x0.toInt) (hxL : x0.toInt + 6 ≤ (L : Int)) (hL : L ≤ 384) {σ : Nat → Nat → Int32} {τ : Nat → Nat → Int64} {H : Heap} {locs : List Loc} (hS : va_S (fun q : Nat => s.heap.size ≤ q) s.heap H locs) {ls : Array Slot} (hAll : jAll σ τ) (hP : jH D cI cL ad σ τ H) (hl : lv_has ls 4 [(3, .int x0), (2, .ref (ad 55)), (1, .ref (ad 0)), (0, .ref b)]) (ih : ∀ (x1 : Int32) (σ : Nat → Nat → Int32) (τ : Nat → Nat → Int64) (H : Heap) (locs : List Loc) (ls : Array Slot), x1.toInt = x0.toInt + 6 → jAll σ τ → jH D cI cL ad σ τ H → va_S (fun q : Nat => s.heap.size ≤ q) s.heap H locs → lv_has ls 4 [(3, .int x1), (2, .ref (ad 55)), (1, .ref (ad 0)), (0, .ref b)] → W p l e room_1 s m #[Value.ref b] below meth c H locs 90 348600 (lw_Z below #[Value.ref b] s) (F0 m 18 ls [])) : W p l e room_1 s m #[Value.ref b] below meth c H locs 90 348600 (lw_Z below #[Value.ref b] s) (F0 m 717 ls []) := by
  obtain ⟨hx, hb, hr, hml, hown, hts0, hX, hbl, hlocks, hgv⟩ := C0
  have hts : ∀ w ∈ wsL_law, w.before #[Value.ref b] s = true := fun w h => hts0 w (wsL_law_in w h)
  have hbA : ¬ (fun q : Nat => s.heap.size ≤ q) b := Nat.not_le.mpr hbl
  have hown : s.vm.findClass RL = some m.cls := hown
  obtain ⟨hI2, hI9, hI12, hI16, hI18, hI22, hI31, hI38, hI43, hI47, hI50, hI101, hI102, hI103, hI104, hI105, hI106, hI107, hI109, hI110, hI111, hI119, hs_jKept, hs_jBook, ht0, hr0, hr1⟩ := hAll
  have hL9 : (L : Int) ≤ 384 := by omega
  obtain ⟨i1, i2, w3⟩ : (0 ≤ (σ 38 0).toInt ∧ (σ 38 0).toInt ≤ 20) ∧ (0 ≤ (σ 38 1).toInt ∧ (σ 38 1).toInt ≤ 1000) ∧ (∀ k : Nat, k < 20 → 0 ≤ (σ 39 k).toInt ∧ (σ 39 k).toInt ≤ 6) := id hI38
  have w4 : ∀ k : Nat, k < 6 → 0 ≤ (σ 52 k).toInt ∧ (σ 52 k).toInt ≤ 60 := hI50
  obtain ⟨i5, w6, w7, w8⟩ : (0 ≤ (σ 55 32).toInt ∧ (σ 55 32).toInt ≤ 20) ∧ (∀ k : Nat, k < 20 → 0 ≤ (σ 70 k).toInt ∧ (σ 70 k).toInt ≤ 6) ∧ (∀ k : Nat, k < 20 → 0 ≤ (σ 71 k).toInt ∧ (σ 71 k).toInt ≤ 8) ∧ (∀ k : Nat, k < 160 → 0 ≤ (σ 72 k).toInt ∧ (σ 72 k).toInt ≤ 3) := id hI106
  refine lv_aload_n hx hb dL_law_717 rfl (lv_at hl 2 rfl) ?_
  refine lv_aload_n hx hb dL_law_718 rfl (lv_at hl 3 rfl) ?_
  refine lv_iload_n hx hb dL_law_719 rfl (lv_at hl 0 rfl) ?_
  refine lv_iconst (v := 1) hx hb dL_law_720 (by decide) ?_
  have g9 := jrg (rfl : x0.toInt = x0.toInt)
  refine lv_iadd hx hb dL_law_721 ?_
  refine lv_topi (fun x10 ex10 => ?_)
  have tx10 : x10.toInt = x0.toInt + 1 := (jadd ex10 rfl jz_1 (by omega) (by omega)).trans (by omega)
  refine va_sld hx hb hX hbl hbA hS (jin tx10 (by omega) (by omega)) dL_law_722 ?_
  have g11 := jrg (rfl : (xs x10.toNatClampNeg).toInt = (xs x10.toNatClampNeg).toInt)
  refine jcallV (As := [.int (xs x10.toNatClampNeg)]) (rest := []) ⟨hx, hb, hml, hown, hts⟩ hK hP hA hS hZ (c_X11_theirs l D cI cL ad zz hJ σ τ (xs x10.toNatClampNeg) ((xs x10.toNatClampNeg).toInt) rfl hI2 hI16 hI22 hI31) cw_RL_85 (jc_0 cI cL ad σ τ) rfl ⟨Nat.le_of_ble_eq_true rfl, Nat.le_of_ble_eq_true rfl⟩ rfl rfl rfl hl.1 rfl (Nat.le_of_ble_eq_true rfl) dL_law_723 ⟨Nat.le_of_ble_eq_true rfl, Nat.le_of_ble_eq_true rfl⟩ (fun r13 σ12 τ12 H locs h12 hP hS => ?_)
  obtain ⟨rfl, f14, f15, I16, h12⟩ := h12
  refine lv_pop hx hb dL_law_726 rfl ?_
  refine lv_aload_n hx hb dL_law_727 rfl (lv_at hl 1 rfl) ?_
  refine lv_aload_n hx hb dL_law_728 rfl (lv_at hl 3 rfl) ?_
  refine lv_iload_n hx hb dL_law_729 rfl (lv_at hl 0 rfl) ?_
  refine lv_iconst (v := 1) hx hb dL_law_730 (by decide) ?_
  refine lv_iadd hx hb dL_law_731 ?_
  refine jtopr ex10.symm ?_
  refine va_sld hx hb hX hbl hbA hS (jin tx10 (by omega) (by omega)) dL_law_732 ?_
  have I18 : jI101 σ12 := jI101_fr (congrFun (f14 55 (by decide)) 4) (congrFun (f14 55 (by decide)) 5) (f14 56 (by decide)) (f14 57 (by decide)) (f14 58 (by decide)) (f14 59 (by decide)) hI101
  have I19 : jI102 σ12 := jI102_fr (congrFun (f14 55 (by decide)) 6) (f14 60 (by decide)) (f14 61 (by decide)) hI102
  have I20 : jI103 σ12 := jI103_fr (congrFun (f14 55 (by decide)) 9) hI103
  have I21 : jI104 σ12 := jI104_fr (congrFun (f14 55 (by decide)) 10) (congrFun (f14 55 (by decide)) 12) (congrFun (f14 55 (by decide)) 13) (f14 62 (by decide)) (f14 67 (by decide)) hI104
  have I22 : jI105 σ12 := jI105_fr (congrFun (f14 55 (by decide)) 15) (f14 65 (by decide)) hI105
  have I23 : jI106 σ12 := jI106_fr (congrFun (f14 55 (by decide)) 32) (f14 70 (by decide)) (f14 71 (by decide)) (f14 72 (by decide)) hI106
  have I24 : jI119 σ12 := jI119_fr (f14 68 (by decide)) hI119
  have I25 : jI111 σ12 := jI111_fr (f14 79 (by decide)) hI111
  have p26 : jKept σ12 := jKept.fr (f14 75 (by decide)) (f14 76 (by decide)) (f14 77 (by decide)) hs_jKept
  refine jcallV (As := [.int (xs x10.toNatClampNeg)]) (rest := []) ⟨hx, hb, hml, hown, hts⟩ hK hP hA hS hZ (c_X12_theirs l D cI cL ad zz hJ σ12 τ (xs x10.toNatClampNeg) ((xs x10.toNatClampNeg).toInt) rfl I18 I19 I20 I21 I22 I23 I24 I25 p26) cw_RL_88 (jc_55 cI cL ad σ12 τ) rfl ⟨Nat.le_of_ble_eq_true rfl, Nat.le_of_ble_eq_true rfl⟩ rfl rfl rfl hl.1 rfl (Nat.le_of_ble_eq_true rfl) dL_law_733 ⟨Nat.le_of_ble_eq_true rfl, Nat.le_of_ble_eq_true rfl⟩ (fun r28 σ27 τ27 H locs h27 hP hS => ?_)
  obtain ⟨rfl, f29, f30, I31, I32, I33, p34, w35, h27⟩ := h27
  refine lv_pop hx hb dL_law_736 rfl ?_
  refine lv_goto (tgt := 1358) hx hb dL_law_737 (by decide) ?_
  obtain ⟨x37, ex37⟩ : ∃ y : Int32, y = x0 + 6 := ⟨_, rfl⟩
  have tx37 : x37.toInt = x0.toInt + 6 := (jadd ex37 rfl jz_6 (by omega) (by omega)).trans (by omega)
  refine lv_iinc (v := x37) (lv' := [(3, .int x37), (2, .ref (ad 55)), (1, .ref (ad 0)), (0, .ref b)]) hx hb dL_law_1358 hl (k := 0) rfl (by rw [ex37]; rfl) (by decide) rfl (fun ls hl => ?_)
  refine lv_goto (tgt := 18) hx hb dL_law_1361 (by decide) ?_
  have I38 : jI2 σ27 := jI2_fr ((congrFun (f29 2 (by decide)) 0).trans (congrFun (f14 2 (by decide)) 0)) ((congrFun (f29 2 (by decide)) 1).trans (congrFun (f14 2 (by decide)) 1)) ((congrFun (f29 2 (by decide)) 2).trans (congrFun (f14 2 (by decide)) 2)) ((congrFun (f29 2 (by decide)) 3).trans (congrFun (f14 2 (by decide)) 3)) ((f29 6 (by decide)).trans (f14 6 (by decide))) hI2
  have I39 : jI9 σ27 := jI9_fr ((congrFun (f29 9 (by decide)) 0).trans (congrFun (f14 9 (by decide)) 0)) ((f29 10 (by decide)).trans (f14 10 (by decide))) ((f29 11 (by decide)).trans (f14 11 (by decide))) hI9
  have I40 : jI12 σ27 := jI12_fr ((congrFun (f29 12 (by decide)) 0).trans (congrFun (f14 12 (by decide)) 0)) ((f29 13 (by decide)).trans (f14 13 (by decide))) hI12
  have I41 : jI16 σ27 := jI16_fr ((congrFun (f29 16 (by decide)) 0).trans (congrFun (f14 16 (by decide)) 0)) ((congrFun (f29 16 (by decide)) 1).trans (congrFun (f14 16 (by decide)) 1)) ((congrFun (f29 16 (by decide)) 2).trans (congrFun (f14 16 (by decide)) 2)) ((f29 17 (by decide)).trans (f14 17 (by decide))) hI16
  have I42 : jI18 σ27 := jI18_fr ((congrFun (f29 18 (by decide)) 0).trans (congrFun (f14 18 (by decide)) 0)) ((f29 19 (by decide)).trans (f14 19 (by decide))) hI18
  have I43 : jI22 σ27 := jI22_fr ((congrFun (f29 22 (by decide)) 0).trans (congrFun (f14 22 (by decide)) 0)) ((f29 23 (by decide)).trans (f14 23 (by decide))) hI22
  have I44 : jI31 σ27 := jI31_fr (congrFun (f29 31 (by decide)) 8) (f29 33 (by decide)) (f29 36 (by decide)) I16
  have I45 : jI38 σ27 := jI38_fr ((congrFun (f29 38 (by decide)) 0).trans (congrFun (f14 38 (by decide)) 0)) ((congrFun (f29 38 (by decide)) 1).trans (congrFun (f14 38 (by decide)) 1)) ((f29 39 (by decide)).trans (f14 39 (by decide))) hI38
  have I46 : jI43 σ27 := jI43_fr ((congrFun (f29 43 (by decide)) 8).trans (congrFun (f14 43 (by decide)) 8)) hI43
  have I47 : jI47 σ27 := jI47_fr ((congrFun (f29 47 (by decide)) 0).trans (congrFun (f14 47 (by decide)) 0)) ((f29 48 (by decide)).trans (f14 48 (by decide))) ((f29 49 (by decide)).trans (f14 49 (by decide))) hI47
  have I48 : jI50 σ27 := jI50_fr ((f29 52 (by decide)).trans (f14 52 (by decide))) hI50
  have I49 : jI101 σ27 := jI101_fr (f30 4 (by decide)) (f30 5 (by decide)) (f29 56 (by decide)) (f29 57 (by decide)) (f29 58 (by decide)) (f29 59 (by decide)) I18
  have I50 : jI102 σ27 := jI102_fr (f30 6 (by decide)) (f29 60 (by decide)) (f29 61 (by decide)) I19
  have I51 : jI103 σ27 := jI103_fr (f30 9 (by decide)) I20
  have I52 : jI105 σ27 := jI105_fr (f30 15 (by decide)) (f29 65 (by decide)) I22
  have I53 : jI106 σ27 := jI106_fr (f30 32 (by decide)) (f29 70 (by decide)) (f29 71 (by decide)) (f29 72 (by decide)) I23
  have I54 : jI107 σ27 := jI107_fr ((f30 12 (by decide)).trans (congrFun (f14 55 (by decide)) 12)) ((f30 47 (by decide)).trans (congrFun (f14 55 (by decide)) 47)) ((f29 80 (by decide)).trans (f14 80 (by decide))) hI107
  have I55 : jI109 σ27 := jI109_fr ((f30 50 (by decide)).trans (congrFun (f14 55 (by decide)) 50)) hI109
  have I56 : jI110 σ27 := jI110_fr ((f29 86 (by decide)).trans (f14 86 (by decide))) ((f29 87 (by decide)).trans (f14 87 (by decide))) hI110
  have p57 : jBook σ27 := jBook.fr ((f30 47 (by decide)).trans (congrFun (f14 55 (by decide)) 47)) ((f30 10 (by decide)).trans (congrFun (f14 55 (by decide)) 10)) ((f29 81 (by decide)).trans (f14 81 (by decide))) hs_jBook
  have z58 : (σ27 38 0).toInt = (σ 38 0).toInt := (congrArg Int32.toInt (show σ27 38 0 = (σ 38 0) from ((congrFun (f29 38 (by decide)) 0).trans (congrFun (f14 38 (by decide)) 0))))
  have z59 : (σ27 55 32).toInt = (σ 55 32).toInt := (congrArg Int32.toInt (show σ27 55 32 = (σ 55 32) from ((f30 32 (by decide)).trans (congrFun (f14 55 (by decide)) 32))))
  exact ih x37 σ27 τ _ _ ls (by have h9 := tx37; omega) ⟨I38, I39, I40, I41, I42, I43, I44, I45, I46, I47, I48, I49, I50, I51, I31, I52, I53, I54, I55, I56, I32, I33, p34, p57, (by omega), (show jShP (σ27 51) (σ27 52) (σ27 53) (σ27 86) (σ27 87) (σ27 55 32).toInt by rw [show σ27 51 = σ 51 from ((f29 51 (by decide)).trans (f14 51 (by decide))), show σ27 52 = σ 52 from ((f29 52 (by decide)).trans (f14 52 (by decide))), show σ27 53 = σ 53 from ((f29 53 (by decide)).trans (f14 53 (by decide))), show σ27 86 = σ 86 from ((f29 86 (by decide)).trans (f14 86 (by decide))), show σ27 87 = σ 87 from ((f29 87 (by decide)).trans (f14 87 (by decide)))]; exact (hr0.up (by omega) (by omega))), (show jEl (σ27 51) (σ27 52) (τ 54) (τ 88) by rw [show σ27 51 = σ 51 from ((f29 51 (by decide)).trans (f14 51 (by decide))), show σ27 52 = σ 52 from ((f29 52 (by decide)).trans (f14 52 (by decide)))]; exact hr1)⟩ hP hS (lv_sub hl [0, 1, 2, 3] rfl)
set_option maxHeartbeats 4000000 in
set_option maxRecDepth 100000 in
theorem law_case_18 {p : Program} {e : Env} {s : State} {m : MethodId} {below : List Frame} {meth : Method} {c : Code} (l : Launch) {b L : Nat} {xs : Nat → Int32} {D : va_G} {cI cL : ClassId} {ad zz : Nat → Nat} (C0 : lw_At p s m meth c b L xs) (hJ : jD ad) (hA : ∀ q, jA ad q → s.heap.size ≤ q) (hK : jK D cI cL s) (hZ : jZ zz (fun q : Nat => s.heap.size ≤ q) s s.heap) {x0 : Int32} (hx0 : 0 ≤ x0.toInt) (hxL : x0.toInt + 6 ≤ (L : Int)) (hL : L ≤ 384) {σ : Nat → Nat → Int32} {τ : Nat → Nat → Int64} {H : Heap} {locs : List Loc} (hS : va_S (fun q : Nat => s.heap.size ≤ q) s.heap H locs) {ls : Array Slot} (hAll : jAll σ τ) (hP : jH D cI cL ad σ τ H) (hl : lv_has ls 4 [(3, .int x0), (2, .ref (ad 55)), (1, .ref (ad 0)), (0, .ref b)]) (ih : ∀ (x1 : Int32) (σ : Nat → Nat → Int32) (τ : Nat → Nat → Int64) (H : Heap) (locs : List Loc) (ls : Array Slot), x1.toInt = x0.toInt + 6 → jAll σ τ → jH D cI cL ad σ τ H → va_S (fun q : Nat => s.heap.size ≤ q) s.heap H locs → lv_has ls 4 [(3, .int x1), (2, .ref (ad 55)), (1, .ref (ad 0)), (0, .ref b)] → W p l e room_1 s m #[Value.ref b] below meth c H locs 90 348600 (lw_Z below #[Value.ref b] s) (F0 m 18 ls [])) : W p l e room_1 s m #[Value.ref b] below meth c H locs 90 348600 (lw_Z below #[Value.ref b] s) (F0 m 740 ls []) := by
  obtain ⟨hx, hb, hr, hml, hown, hts0, hX, hbl, hlocks, hgv⟩ := C0
  have hts : ∀ w ∈ wsL_law, w.before #[Value.ref b] s = true := fun w h => hts0 w (wsL_law_in w h)
  have hbA : ¬ (fun q : Nat => s.heap.size ≤ q) b := Nat.not_le.mpr hbl
  have hown : s.vm.findClass RL = some m.cls := hown
  obtain ⟨hI2, hI9, hI12, hI16, hI18, hI22, hI31, hI38, hI43, hI47, hI50, hI101, hI102, hI103, hI104, hI105, hI106, hI107, hI109, hI110, hI111, hI119, hs_jKept, hs_jBook, ht0, hr0, hr1⟩ := hAll
  have hL9 : (L : Int) ≤ 384 := by omega
  obtain ⟨i1, i2, w3⟩ : (0 ≤ (σ 38 0).toInt ∧ (σ 38 0).toInt ≤ 20) ∧ (0 ≤ (σ 38 1).toInt ∧ (σ 38 1).toInt ≤ 1000) ∧ (∀ k : Nat, k < 20 → 0 ≤ (σ 39 k).toInt ∧ (σ 39 k).toInt ≤ 6) := id hI38
  have w4 : ∀ k : Nat, k < 6 → 0 ≤ (σ 52 k).toInt ∧ (σ 52 k).toInt ≤ 60 := hI50
  obtain ⟨i5, w6, w7, w8⟩ : (0 ≤ (σ 55 32).toInt ∧ (σ 55 32).toInt ≤ 20) ∧ (∀ k : Nat, k < 20 → 0 ≤ (σ 70 k).toInt ∧ (σ 70 k).toInt ≤ 6) ∧ (∀ k : Nat, k < 20 → 0 ≤ (σ 71 k).toInt ∧ (σ 71 k).toInt ≤ 8) ∧ (∀ k : Nat, k < 160 → 0 ≤ (σ 72 k).toInt ∧ (σ 72 k).toInt ≤ 3) := id hI106
  refine lv_aload_n hx hb dL_law_740 rfl (lv_at hl 2 rfl) ?_
  refine lv_aload_n hx hb dL_law_741 rfl (lv_at hl 3 rfl) ?_
  refine lv_iload_n hx hb dL_law_742 rfl (lv_at hl 0 rfl) ?_
  refine lv_iconst (v := 1) hx hb dL_law_743 (by decide) ?_
  have g9 := jrg (rfl : x0.toInt = x0.toInt)
  refine lv_iadd hx hb dL_law_744 ?_
  refine lv_topi (fun x10 ex10 => ?_)
  have tx10 : x10.toInt = x0.toInt + 1 := (jadd ex10 rfl jz_1 (by omega) (by omega)).trans (by omega)
  refine va_sld hx hb hX hbl hbA hS (jin tx10 (by omega) (by omega)) dL_law_745 ?_
  have g11 := jrg (rfl : (xs x10.toNatClampNeg).toInt = (xs x10.toNatClampNeg).toInt)
  refine lv_aload_n hx hb dL_law_746 rfl (lv_at hl 3 rfl) ?_
  refine lv_iload_n hx hb dL_law_747 rfl (lv_at hl 0 rfl) ?_
  refine lv_iconst (v := 2) hx hb dL_law_748 (by decide) ?_
  refine lv_iadd hx hb dL_law_749 ?_
  refine lv_topi (fun x12 ex12 => ?_)
  have tx12 : x12.toInt = x0.toInt + 2 := (jadd ex12 rfl jz_2 (by omega) (by omega)).trans (by omega)
  refine va_sld hx hb hX hbl hbA hS (jin tx12 (by omega) (by omega)) dL_law_750 ?_
  have g13 := jrg (rfl : (xs x12.toNatClampNeg).toInt = (xs x12.toNatClampNeg).toInt)
  refine jcallV (As := [.int (xs x10.toNatClampNeg), .int (xs x12.toNatClampNeg)]) (rest := []) ⟨hx, hb, hml, hown, hts⟩ hK hP hA hS hZ (c_X11_learn l D cI cL ad zz hJ σ τ (xs x10.toNatClampNeg) ((xs x10.toNatClampNeg).toInt) rfl (xs x12.toNatClampNeg) ((xs x12.toNatClampNeg).toInt) rfl hI2) cw_RL_89 (jc_0 cI cL ad σ τ) rfl ⟨Nat.le_of_ble_eq_true rfl, Nat.le_of_ble_eq_true rfl⟩ rfl rfl rfl hl.1 rfl (Nat.le_of_ble_eq_true rfl) dL_law_751 ⟨Nat.le_of_ble_eq_true rfl, Nat.le_of_ble_eq_true rfl⟩ (fun r15 σ14 τ14 H locs h14 hP hS => ?_)
  obtain ⟨rfl, f16, f17, I18, h14⟩ := h14
  rcases h14 with h20 | h21
  · obtain ⟨q26, k22, k23, k24, k25⟩ := h20
    have q26 := q26.symm
    subst q26
    refine lv_pop hx hb dL_law_754 rfl ?_
    refine lv_aload_n hx hb dL_law_755 rfl (lv_at hl 1 rfl) ?_
    refine lv_aload_n hx hb dL_law_756 rfl (lv_at hl 3 rfl) ?_
    refine lv_iload_n hx hb dL_law_757 rfl (lv_at hl 0 rfl) ?_
    refine lv_iconst (v := 1) hx hb dL_law_758 (by decide) ?_
    refine lv_iadd hx hb dL_law_759 ?_
    refine jtopr ex10.symm ?_
    refine va_sld hx hb hX hbl hbA hS (jin tx10 (by omega) (by omega)) dL_law_760 ?_
    refine lv_aload_n hx hb dL_law_761 rfl (lv_at hl 3 rfl) ?_
    refine lv_iload_n hx hb dL_law_762 rfl (lv_at hl 0 rfl) ?_
    refine lv_iconst (v := 2) hx hb dL_law_763 (by decide) ?_
    refine lv_iadd hx hb dL_law_764 ?_
    refine jtopr ex12.symm ?_
    refine va_sld hx hb hX hbl hbA hS (jin tx12 (by omega) (by omega)) dL_law_765 ?_
    have I27 : jI101 σ14 := jI101_fr (congrFun (f16 55 (by decide)) 4) (congrFun (f16 55 (by decide)) 5) (f16 56 (by decide)) (f16 57 (by decide)) (f16 58 (by decide)) (f16 59 (by decide)) hI101
    have I28 : jI102 σ14 := jI102_fr (congrFun (f16 55 (by decide)) 6) (f16 60 (by decide)) (f16 61 (by decide)) hI102
    have z29 : (σ14 55 6).toInt = (σ 55 6).toInt := (congrArg Int32.toInt (show σ14 55 6 = (σ 55 6) from (congrFun (f16 55 (by decide)) 6)))
    have z30 : (σ14 55 5).toInt = (σ 55 5).toInt := (congrArg Int32.toInt (show σ14 55 5 = (σ 55 5) from (congrFun (f16 55 (by decide)) 5)))
    have z31 : (σ14 55 4).toInt = (σ 55 4).toInt := (congrArg Int32.toInt (show σ14 55 4 = (σ 55 4) from (congrFun (f16 55 (by decide)) 4)))
    refine jcallV (As := [.int (xs x10.toNatClampNeg), .int (xs x12.toNatClampNeg)]) (rest := []) ⟨hx, hb, hml, hown, hts⟩ hK hP hA hS hZ (c_X12_learn l D cI cL ad zz hJ σ14 τ (xs x10.toNatClampNeg) ((xs x10.toNatClampNeg).toInt) rfl (xs x12.toNatClampNeg) ((xs x12.toNatClampNeg).toInt) rfl I27 I28) cw_RL_92 (jc_55 cI cL ad σ14 τ) rfl ⟨Nat.le_of_ble_eq_true rfl, Nat.le_of_ble_eq_true rfl⟩ rfl rfl rfl hl.1 rfl (Nat.le_of_ble_eq_true rfl) dL_law_766 ⟨Nat.le_of_ble_eq_true rfl, Nat.le_of_ble_eq_true rfl⟩ (fun r33 σ32 τ32 H locs h32 hP hS => ?_)
    obtain ⟨rfl, f34, f35, I36, h32⟩ := h32
    rcases h32 with h38 | h39
    · obtain ⟨q44, k40, k41, k42, k43⟩ := h38
      have q44 := q44.symm
      subst q44
      refine lv_pop hx hb dL_law_769 rfl ?_
      refine lv_goto (tgt := 1358) hx hb dL_law_770 (by decide) ?_
      obtain ⟨x45, ex45⟩ : ∃ y : Int32, y = x0 + 6 := ⟨_, rfl⟩
      have tx45 : x45.toInt = x0.toInt + 6 := (jadd ex45 rfl jz_6 (by omega) (by omega)).trans (by omega)
      refine lv_iinc (v := x45) (lv' := [(3, .int x45), (2, .ref (ad 55)), (1, .ref (ad 0)), (0, .ref b)]) hx hb dL_law_1358 hl (k := 0) rfl (by rw [ex45]; rfl) (by decide) rfl (fun ls hl => ?_)
      refine lv_goto (tgt := 18) hx hb dL_law_1361 (by decide) ?_
      have I46 : jI2 σ32 := jI2_fr (congrFun (f34 2 (by decide)) 0) (congrFun (f34 2 (by decide)) 1) (congrFun (f34 2 (by decide)) 2) (congrFun (f34 2 (by decide)) 3) (f34 6 (by decide)) I18
      have I47 : jI9 σ32 := jI9_fr ((congrFun (f34 9 (by decide)) 0).trans (congrFun (f16 9 (by decide)) 0)) ((f34 10 (by decide)).trans (f16 10 (by decide))) ((f34 11 (by decide)).trans (f16 11 (by decide))) hI9
      have I48 : jI12 σ32 := jI12_fr ((congrFun (f34 12 (by decide)) 0).trans (congrFun (f16 12 (by decide)) 0)) ((f34 13 (by decide)).trans (f16 13 (by decide))) hI12
      have I49 : jI16 σ32 := jI16_fr ((congrFun (f34 16 (by decide)) 0).trans (congrFun (f16 16 (by decide)) 0)) ((congrFun (f34 16 (by decide)) 1).trans (congrFun (f16 16 (by decide)) 1)) ((congrFun (f34 16 (by decide)) 2).trans (congrFun (f16 16 (by decide)) 2)) ((f34 17 (by decide)).trans (f16 17 (by decide))) hI16
      have I50 : jI18 σ32 := jI18_fr ((congrFun (f34 18 (by decide)) 0).trans (congrFun (f16 18 (by decide)) 0)) ((f34 19 (by decide)).trans (f16 19 (by decide))) hI18
      have I51 : jI22 σ32 := jI22_fr ((congrFun (f34 22 (by decide)) 0).trans (congrFun (f16 22 (by decide)) 0)) ((f34 23 (by decide)).trans (f16 23 (by decide))) hI22
      have I52 : jI31 σ32 := jI31_fr ((congrFun (f34 31 (by decide)) 8).trans (congrFun (f16 31 (by decide)) 8)) ((f34 33 (by decide)).trans (f16 33 (by decide))) ((f34 36 (by decide)).trans (f16 36 (by decide))) hI31
      have I53 : jI38 σ32 := jI38_fr ((congrFun (f34 38 (by decide)) 0).trans (congrFun (f16 38 (by decide)) 0)) ((congrFun (f34 38 (by decide)) 1).trans (congrFun (f16 38 (by decide)) 1)) ((f34 39 (by decide)).trans (f16 39 (by decide))) hI38
      have I54 : jI43 σ32 := jI43_fr ((congrFun (f34 43 (by decide)) 8).trans (congrFun (f16 43 (by decide)) 8)) hI43
      have I55 : jI47 σ32 := jI47_fr ((congrFun (f34 47 (by decide)) 0).trans (congrFun (f16 47 (by decide)) 0)) ((f34 48 (by decide)).trans (f16 48 (by decide))) ((f34 49 (by decide)).trans (f16 49 (by decide))) hI47
      have I56 : jI50 σ32 := jI50_fr ((f34 52 (by decide)).trans (f16 52 (by decide))) hI50
      have I57 : jI102 σ32 := jI102_fr (f35 6 (by decide)) (f34 60 (by decide)) (f34 61 (by decide)) I28
      have I58 : jI103 σ32 := jI103_fr ((f35 9 (by decide)).trans (congrFun (f16 55 (by decide)) 9)) hI103
      have I59 : jI104 σ32 := jI104_fr ((f35 10 (by decide)).trans (congrFun (f16 55 (by decide)) 10)) ((f35 12 (by decide)).trans (congrFun (f16 55 (by decide)) 12)) ((f35 13 (by decide)).trans (congrFun (f16 55 (by decide)) 13)) ((f34 62 (by decide)).trans (f16 62 (by decide))) ((f34 67 (by decide)).trans (f16 67 (by decide))) hI104
      have I60 : jI105 σ32 := jI105_fr ((f35 15 (by decide)).trans (congrFun (f16 55 (by decide)) 15)) ((f34 65 (by decide)).trans (f16 65 (by decide))) hI105
      have I61 : jI106 σ32 := jI106_fr ((f35 32 (by decide)).trans (congrFun (f16 55 (by decide)) 32)) ((f34 70 (by decide)).trans (f16 70 (by decide))) ((f34 71 (by decide)).trans (f16 71 (by decide))) ((f34 72 (by decide)).trans (f16 72 (by decide))) hI106
      have I62 : jI107 σ32 := jI107_fr ((f35 12 (by decide)).trans (congrFun (f16 55 (by decide)) 12)) ((f35 47 (by decide)).trans (congrFun (f16 55 (by decide)) 47)) ((f34 80 (by decide)).trans (f16 80 (by decide))) hI107
      have I63 : jI109 σ32 := jI109_fr ((f35 50 (by decide)).trans (congrFun (f16 55 (by decide)) 50)) hI109
      have I64 : jI110 σ32 := jI110_fr ((f34 86 (by decide)).trans (f16 86 (by decide))) ((f34 87 (by decide)).trans (f16 87 (by decide))) hI110
      have I65 : jI111 σ32 := jI111_fr ((f34 79 (by decide)).trans (f16 79 (by decide))) hI111
      have I66 : jI119 σ32 := jI119_fr ((f34 68 (by decide)).trans (f16 68 (by decide))) hI119
      have p67 : jKept σ32 := jKept.fr ((f34 75 (by decide)).trans (f16 75 (by decide))) ((f34 76 (by decide)).trans (f16 76 (by decide))) ((f34 77 (by decide)).trans (f16 77 (by decide))) hs_jKept
      have p68 : jBook σ32 := jBook.fr ((f35 47 (by decide)).trans (congrFun (f16 55 (by decide)) 47)) ((f35 10 (by decide)).trans (congrFun (f16 55 (by decide)) 10)) ((f34 81 (by decide)).trans (f16 81 (by decide))) hs_jBook
      have z69 : (σ32 38 0).toInt = (σ 38 0).toInt := (congrArg Int32.toInt (show σ32 38 0 = (σ 38 0) from ((congrFun (f34 38 (by decide)) 0).trans (congrFun (f16 38 (by decide)) 0))))
      have z70 : (σ32 55 32).toInt = (σ 55 32).toInt := (congrArg Int32.toInt (show σ32 55 32 = (σ 55 32) from ((f35 32 (by decide)).trans (congrFun (f16 55 (by decide)) 32))))
      exact ih x45 σ32 τ _ _ ls (by have h9 := tx45; omega) ⟨I46, I47, I48, I49, I50, I51, I52, I53, I54, I55, I56, I36, I57, I58, I59, I60, I61, I62, I63, I64, I65, I66, p67, p68, (by omega), (show jShP (σ32 51) (σ32 52) (σ32 53) (σ32 86) (σ32 87) (σ32 55 32).toInt by rw [show σ32 51 = σ 51 from ((f34 51 (by decide)).trans (f16 51 (by decide))), show σ32 52 = σ 52 from ((f34 52 (by decide)).trans (f16 52 (by decide))), show σ32 53 = σ 53 from ((f34 53 (by decide)).trans (f16 53 (by decide))), show σ32 86 = σ 86 from ((f34 86 (by decide)).trans (f16 86 (by decide))), show σ32 87 = σ 87 from ((f34 87 (by decide)).trans (f16 87 (by decide)))]; exact (hr0.up (by omega) (by omega))), (show jEl (σ32 51) (σ32 52) (τ 54) (τ 88) by rw [show σ32 51 = σ 51 from ((f34 51 (by decide)).trans (f16 51 (by decide))), show σ32 52 = σ 52 from ((f34 52 (by decide)).trans (f16 52 (by decide)))]; exact hr1)⟩ hP hS (lv_sub hl [0, 1, 2, 3] rfl)
    · obtain ⟨q79, k72, k73, k74, k75, k76, k77, k78⟩ := h39
      refine lv_pop hx hb dL_law_769 rfl ?_
      refine lv_goto (tgt := 1358) hx hb dL_law_770 (by decide) ?_
      obtain ⟨x80, ex80⟩ : ∃ y : Int32, y = x0 + 6 := ⟨_, rfl⟩
      have tx80 : x80.toInt = x0.toInt + 6 := (jadd ex80 rfl jz_6 (by omega) (by omega)).trans (by omega)
      refine lv_iinc (v := x80) (lv' := [(3, .int x80), (2, .ref (ad 55)), (1, .ref (ad 0)), (0, .ref b)]) hx hb dL_law_1358 hl (k := 0) rfl (by rw [ex80]; rfl) (by decide) rfl (fun ls hl => ?_)
      refine lv_goto (tgt := 18) hx hb dL_law_1361 (by decide) ?_
      have I81 : jI2 σ32 := jI2_fr (congrFun (f34 2 (by decide)) 0) (congrFun (f34 2 (by decide)) 1) (congrFun (f34 2 (by decide)) 2) (congrFun (f34 2 (by decide)) 3) (f34 6 (by decide)) I18
      have I82 : jI9 σ32 := jI9_fr ((congrFun (f34 9 (by decide)) 0).trans (congrFun (f16 9 (by decide)) 0)) ((f34 10 (by decide)).trans (f16 10 (by decide))) ((f34 11 (by decide)).trans (f16 11 (by decide))) hI9
      have I83 : jI12 σ32 := jI12_fr ((congrFun (f34 12 (by decide)) 0).trans (congrFun (f16 12 (by decide)) 0)) ((f34 13 (by decide)).trans (f16 13 (by decide))) hI12
      have I84 : jI16 σ32 := jI16_fr ((congrFun (f34 16 (by decide)) 0).trans (congrFun (f16 16 (by decide)) 0)) ((congrFun (f34 16 (by decide)) 1).trans (congrFun (f16 16 (by decide)) 1)) ((congrFun (f34 16 (by decide)) 2).trans (congrFun (f16 16 (by decide)) 2)) ((f34 17 (by decide)).trans (f16 17 (by decide))) hI16
      have I85 : jI18 σ32 := jI18_fr ((congrFun (f34 18 (by decide)) 0).trans (congrFun (f16 18 (by decide)) 0)) ((f34 19 (by decide)).trans (f16 19 (by decide))) hI18
      have I86 : jI22 σ32 := jI22_fr ((congrFun (f34 22 (by decide)) 0).trans (congrFun (f16 22 (by decide)) 0)) ((f34 23 (by decide)).trans (f16 23 (by decide))) hI22
      have I87 : jI31 σ32 := jI31_fr ((congrFun (f34 31 (by decide)) 8).trans (congrFun (f16 31 (by decide)) 8)) ((f34 33 (by decide)).trans (f16 33 (by decide))) ((f34 36 (by decide)).trans (f16 36 (by decide))) hI31
      have I88 : jI38 σ32 := jI38_fr ((congrFun (f34 38 (by decide)) 0).trans (congrFun (f16 38 (by decide)) 0)) ((congrFun (f34 38 (by decide)) 1).trans (congrFun (f16 38 (by decide)) 1)) ((f34 39 (by decide)).trans (f16 39 (by decide))) hI38
      have I89 : jI43 σ32 := jI43_fr ((congrFun (f34 43 (by decide)) 8).trans (congrFun (f16 43 (by decide)) 8)) hI43
      have I90 : jI47 σ32 := jI47_fr ((congrFun (f34 47 (by decide)) 0).trans (congrFun (f16 47 (by decide)) 0)) ((f34 48 (by decide)).trans (f16 48 (by decide))) ((f34 49 (by decide)).trans (f16 49 (by decide))) hI47
      have I91 : jI50 σ32 := jI50_fr ((f34 52 (by decide)).trans (f16 52 (by decide))) hI50
      have I92 : jI102 σ32 := jI102_fr (f35 6 (by decide)) (f34 60 (by decide)) (f34 61 (by decide)) I28
      have I93 : jI103 σ32 := jI103_fr ((f35 9 (by decide)).trans (congrFun (f16 55 (by decide)) 9)) hI103
      have I94 : jI104 σ32 := jI104_fr ((f35 10 (by decide)).trans (congrFun (f16 55 (by decide)) 10)) ((f35 12 (by decide)).trans (congrFun (f16 55 (by decide)) 12)) ((f35 13 (by decide)).trans (congrFun (f16 55 (by decide)) 13)) ((f34 62 (by decide)).trans (f16 62 (by decide))) ((f34 67 (by decide)).trans (f16 67 (by decide))) hI104
      have I95 : jI105 σ32 := jI105_fr ((f35 15 (by decide)).trans (congrFun (f16 55 (by decide)) 15)) ((f34 65 (by decide)).trans (f16 65 (by decide))) hI105
      have I96 : jI106 σ32 := jI106_fr ((f35 32 (by decide)).trans (congrFun (f16 55 (by decide)) 32)) ((f34 70 (by decide)).trans (f16 70 (by decide))) ((f34 71 (by decide)).trans (f16 71 (by decide))) ((f34 72 (by decide)).trans (f16 72 (by decide))) hI106
      have I97 : jI107 σ32 := jI107_fr ((f35 12 (by decide)).trans (congrFun (f16 55 (by decide)) 12)) ((f35 47 (by decide)).trans (congrFun (f16 55 (by decide)) 47)) ((f34 80 (by decide)).trans (f16 80 (by decide))) hI107
      have I98 : jI109 σ32 := jI109_fr ((f35 50 (by decide)).trans (congrFun (f16 55 (by decide)) 50)) hI109
      have I99 : jI110 σ32 := jI110_fr ((f34 86 (by decide)).trans (f16 86 (by decide))) ((f34 87 (by decide)).trans (f16 87 (by decide))) hI110
      have I100 : jI111 σ32 := jI111_fr ((f34 79 (by decide)).trans (f16 79 (by decide))) hI111
      have I101 : jI119 σ32 := jI119_fr ((f34 68 (by decide)).trans (f16 68 (by decide))) hI119
      have p102 : jKept σ32 := jKept.fr ((f34 75 (by decide)).trans (f16 75 (by decide))) ((f34 76 (by decide)).trans (f16 76 (by decide))) ((f34 77 (by decide)).trans (f16 77 (by decide))) hs_jKept
      have p103 : jBook σ32 := jBook.fr ((f35 47 (by decide)).trans (congrFun (f16 55 (by decide)) 47)) ((f35 10 (by decide)).trans (congrFun (f16 55 (by decide)) 10)) ((f34 81 (by decide)).trans (f16 81 (by decide))) hs_jBook
      have z104 : (σ32 38 0).toInt = (σ 38 0).toInt := (congrArg Int32.toInt (show σ32 38 0 = (σ 38 0) from ((congrFun (f34 38 (by decide)) 0).trans (congrFun (f16 38 (by decide)) 0))))
      have z105 : (σ32 55 32).toInt = (σ 55 32).toInt := (congrArg Int32.toInt (show σ32 55 32 = (σ 55 32) from ((f35 32 (by decide)).trans (congrFun (f16 55 (by decide)) 32))))
      exact ih x80 σ32 τ _ _ ls (by have h9 := tx80; omega) ⟨I81, I82, I83, I84, I85, I86, I87, I88, I89, I90, I91, I36, I92, I93, I94, I95, I96, I97, I98, I99, I100, I101, p102, p103, (by omega), (show jShP (σ32 51) (σ32 52) (σ32 53) (σ32 86) (σ32 87) (σ32 55 32).toInt by rw [show σ32 51 = σ 51 from ((f34 51 (by decide)).trans (f16 51 (by decide))), show σ32 52 = σ 52 from ((f34 52 (by decide)).trans (f16 52 (by decide))), show σ32 53 = σ 53 from ((f34 53 (by decide)).trans (f16 53 (by decide))), show σ32 86 = σ 86 from ((f34 86 (by decide)).trans (f16 86 (by decide))), show σ32 87 = σ 87 from ((f34 87 (by decide)).trans (f16 87 (by decide)))]; exact (hr0.up (by omega) (by omega))), (show jEl (σ32 51) (σ32 52) (τ 54) (τ 88) by rw [show σ32 51 = σ 51 from ((f34 51 (by decide)).trans (f16 51 (by decide))), show σ32 52 = σ 52 from ((f34 52 (by decide)).trans (f16 52 (by decide)))]; exact hr1)⟩ hP hS (lv_sub hl [0, 1, 2, 3] rfl)
  · obtain ⟨q114, k107, k108, k109, k110, k111, k112, k113⟩ := h21
    refine lv_pop hx hb dL_law_754 rfl ?_
    refine lv_aload_n hx hb dL_law_755 rfl (lv_at hl 1 rfl) ?_
    refine lv_aload_n hx hb dL_law_756 rfl (lv_at hl 3 rfl) ?_
    refine lv_iload_n hx hb dL_law_757 rfl (lv_at hl 0 rfl) ?_
    refine lv_iconst (v := 1) hx hb dL_law_758 (by decide) ?_
    refine lv_iadd hx hb dL_law_759 ?_
    refine jtopr ex10.symm ?_
    refine va_sld hx hb hX hbl hbA hS (jin tx10 (by omega) (by omega)) dL_law_760 ?_
    refine lv_aload_n hx hb dL_law_761 rfl (lv_at hl 3 rfl) ?_
    refine lv_iload_n hx hb dL_law_762 rfl (lv_at hl 0 rfl) ?_
    refine lv_iconst (v := 2) hx hb dL_law_763 (by decide) ?_
    refine lv_iadd hx hb dL_law_764 ?_
    refine jtopr ex12.symm ?_
    refine va_sld hx hb hX hbl hbA hS (jin tx12 (by omega) (by omega)) dL_law_765 ?_
    have I115 : jI101 σ14 := jI101_fr (congrFun (f16 55 (by decide)) 4) (congrFun (f16 55 (by decide)) 5) (f16 56 (by decide)) (f16 57 (by decide)) (f16 58 (by decide)) (f16 59 (by decide)) hI101
    have I116 : jI102 σ14 := jI102_fr (congrFun (f16 55 (by decide)) 6) (f16 60 (by decide)) (f16 61 (by decide)) hI102
    have z117 : (σ14 55 6).toInt = (σ 55 6).toInt := (congrArg Int32.toInt (show σ14 55 6 = (σ 55 6) from (congrFun (f16 55 (by decide)) 6)))
    have z118 : (σ14 55 5).toInt = (σ 55 5).toInt := (congrArg Int32.toInt (show σ14 55 5 = (σ 55 5) from (congrFun (f16 55 (by decide)) 5)))
    have z119 : (σ14 55 4).toInt = (σ 55 4).toInt := (congrArg Int32.toInt (show σ14 55 4 = (σ 55 4) from (congrFun (f16 55 (by decide)) 4)))
    refine jcallV (As := [.int (xs x10.toNatClampNeg), .int (xs x12.toNatClampNeg)]) (rest := []) ⟨hx, hb, hml, hown, hts⟩ hK hP hA hS hZ (c_X12_learn l D cI cL ad zz hJ σ14 τ (xs x10.toNatClampNeg) ((xs x10.toNatClampNeg).toInt) rfl (xs x12.toNatClampNeg) ((xs x12.toNatClampNeg).toInt) rfl I115 I116) cw_RL_92 (jc_55 cI cL ad σ14 τ) rfl ⟨Nat.le_of_ble_eq_true rfl, Nat.le_of_ble_eq_true rfl⟩ rfl rfl rfl hl.1 rfl (Nat.le_of_ble_eq_true rfl) dL_law_766 ⟨Nat.le_of_ble_eq_true rfl, Nat.le_of_ble_eq_true rfl⟩ (fun r121 σ120 τ120 H locs h120 hP hS => ?_)
    obtain ⟨rfl, f122, f123, I124, h120⟩ := h120
    rcases h120 with h126 | h127
    · obtain ⟨q132, k128, k129, k130, k131⟩ := h126
      have q132 := q132.symm
      subst q132
      refine lv_pop hx hb dL_law_769 rfl ?_
      refine lv_goto (tgt := 1358) hx hb dL_law_770 (by decide) ?_
      obtain ⟨x133, ex133⟩ : ∃ y : Int32, y = x0 + 6 := ⟨_, rfl⟩
      have tx133 : x133.toInt = x0.toInt + 6 := (jadd ex133 rfl jz_6 (by omega) (by omega)).trans (by omega)
      refine lv_iinc (v := x133) (lv' := [(3, .int x133), (2, .ref (ad 55)), (1, .ref (ad 0)), (0, .ref b)]) hx hb dL_law_1358 hl (k := 0) rfl (by rw [ex133]; rfl) (by decide) rfl (fun ls hl => ?_)
      refine lv_goto (tgt := 18) hx hb dL_law_1361 (by decide) ?_
      have I134 : jI2 σ120 := jI2_fr (congrFun (f122 2 (by decide)) 0) (congrFun (f122 2 (by decide)) 1) (congrFun (f122 2 (by decide)) 2) (congrFun (f122 2 (by decide)) 3) (f122 6 (by decide)) I18
      have I135 : jI9 σ120 := jI9_fr ((congrFun (f122 9 (by decide)) 0).trans (congrFun (f16 9 (by decide)) 0)) ((f122 10 (by decide)).trans (f16 10 (by decide))) ((f122 11 (by decide)).trans (f16 11 (by decide))) hI9
      have I136 : jI12 σ120 := jI12_fr ((congrFun (f122 12 (by decide)) 0).trans (congrFun (f16 12 (by decide)) 0)) ((f122 13 (by decide)).trans (f16 13 (by decide))) hI12
      have I137 : jI16 σ120 := jI16_fr ((congrFun (f122 16 (by decide)) 0).trans (congrFun (f16 16 (by decide)) 0)) ((congrFun (f122 16 (by decide)) 1).trans (congrFun (f16 16 (by decide)) 1)) ((congrFun (f122 16 (by decide)) 2).trans (congrFun (f16 16 (by decide)) 2)) ((f122 17 (by decide)).trans (f16 17 (by decide))) hI16
      have I138 : jI18 σ120 := jI18_fr ((congrFun (f122 18 (by decide)) 0).trans (congrFun (f16 18 (by decide)) 0)) ((f122 19 (by decide)).trans (f16 19 (by decide))) hI18
      have I139 : jI22 σ120 := jI22_fr ((congrFun (f122 22 (by decide)) 0).trans (congrFun (f16 22 (by decide)) 0)) ((f122 23 (by decide)).trans (f16 23 (by decide))) hI22
      have I140 : jI31 σ120 := jI31_fr ((congrFun (f122 31 (by decide)) 8).trans (congrFun (f16 31 (by decide)) 8)) ((f122 33 (by decide)).trans (f16 33 (by decide))) ((f122 36 (by decide)).trans (f16 36 (by decide))) hI31
      have I141 : jI38 σ120 := jI38_fr ((congrFun (f122 38 (by decide)) 0).trans (congrFun (f16 38 (by decide)) 0)) ((congrFun (f122 38 (by decide)) 1).trans (congrFun (f16 38 (by decide)) 1)) ((f122 39 (by decide)).trans (f16 39 (by decide))) hI38
      have I142 : jI43 σ120 := jI43_fr ((congrFun (f122 43 (by decide)) 8).trans (congrFun (f16 43 (by decide)) 8)) hI43
      have I143 : jI47 σ120 := jI47_fr ((congrFun (f122 47 (by decide)) 0).trans (congrFun (f16 47 (by decide)) 0)) ((f122 48 (by decide)).trans (f16 48 (by decide))) ((f122 49 (by decide)).trans (f16 49 (by decide))) hI47
      have I144 : jI50 σ120 := jI50_fr ((f122 52 (by decide)).trans (f16 52 (by decide))) hI50
      have I145 : jI102 σ120 := jI102_fr (f123 6 (by decide)) (f122 60 (by decide)) (f122 61 (by decide)) I116
      have I146 : jI103 σ120 := jI103_fr ((f123 9 (by decide)).trans (congrFun (f16 55 (by decide)) 9)) hI103
      have I147 : jI104 σ120 := jI104_fr ((f123 10 (by decide)).trans (congrFun (f16 55 (by decide)) 10)) ((f123 12 (by decide)).trans (congrFun (f16 55 (by decide)) 12)) ((f123 13 (by decide)).trans (congrFun (f16 55 (by decide)) 13)) ((f122 62 (by decide)).trans (f16 62 (by decide))) ((f122 67 (by decide)).trans (f16 67 (by decide))) hI104
      have I148 : jI105 σ120 := jI105_fr ((f123 15 (by decide)).trans (congrFun (f16 55 (by decide)) 15)) ((f122 65 (by decide)).trans (f16 65 (by decide))) hI105
      have I149 : jI106 σ120 := jI106_fr ((f123 32 (by decide)).trans (congrFun (f16 55 (by decide)) 32)) ((f122 70 (by decide)).trans (f16 70 (by decide))) ((f122 71 (by decide)).trans (f16 71 (by decide))) ((f122 72 (by decide)).trans (f16 72 (by decide))) hI106
      have I150 : jI107 σ120 := jI107_fr ((f123 12 (by decide)).trans (congrFun (f16 55 (by decide)) 12)) ((f123 47 (by decide)).trans (congrFun (f16 55 (by decide)) 47)) ((f122 80 (by decide)).trans (f16 80 (by decide))) hI107
      have I151 : jI109 σ120 := jI109_fr ((f123 50 (by decide)).trans (congrFun (f16 55 (by decide)) 50)) hI109
      have I152 : jI110 σ120 := jI110_fr ((f122 86 (by decide)).trans (f16 86 (by decide))) ((f122 87 (by decide)).trans (f16 87 (by decide))) hI110
      have I153 : jI111 σ120 := jI111_fr ((f122 79 (by decide)).trans (f16 79 (by decide))) hI111
      have I154 : jI119 σ120 := jI119_fr ((f122 68 (by decide)).trans (f16 68 (by decide))) hI119
      have p155 : jKept σ120 := jKept.fr ((f122 75 (by decide)).trans (f16 75 (by decide))) ((f122 76 (by decide)).trans (f16 76 (by decide))) ((f122 77 (by decide)).trans (f16 77 (by decide))) hs_jKept
      have p156 : jBook σ120 := jBook.fr ((f123 47 (by decide)).trans (congrFun (f16 55 (by decide)) 47)) ((f123 10 (by decide)).trans (congrFun (f16 55 (by decide)) 10)) ((f122 81 (by decide)).trans (f16 81 (by decide))) hs_jBook
      have z157 : (σ120 38 0).toInt = (σ 38 0).toInt := (congrArg Int32.toInt (show σ120 38 0 = (σ 38 0) from ((congrFun (f122 38 (by decide)) 0).trans (congrFun (f16 38 (by decide)) 0))))
      have z158 : (σ120 55 32).toInt = (σ 55 32).toInt := (congrArg Int32.toInt (show σ120 55 32 = (σ 55 32) from ((f123 32 (by decide)).trans (congrFun (f16 55 (by decide)) 32))))
      exact ih x133 σ120 τ _ _ ls (by have h9 := tx133; omega) ⟨I134, I135, I136, I137, I138, I139, I140, I141, I142, I143, I144, I124, I145, I146, I147, I148, I149, I150, I151, I152, I153, I154, p155, p156, (by omega), (show jShP (σ120 51) (σ120 52) (σ120 53) (σ120 86) (σ120 87) (σ120 55 32).toInt by rw [show σ120 51 = σ 51 from ((f122 51 (by decide)).trans (f16 51 (by decide))), show σ120 52 = σ 52 from ((f122 52 (by decide)).trans (f16 52 (by decide))), show σ120 53 = σ 53 from ((f122 53 (by decide)).trans (f16 53 (by decide))), show σ120 86 = σ 86 from ((f122 86 (by decide)).trans (f16 86 (by decide))), show σ120 87 = σ 87 from ((f122 87 (by decide)).trans (f16 87 (by decide)))]; exact (hr0.up (by omega) (by omega))), (show jEl (σ120 51) (σ120 52) (τ 54) (τ 88) by rw [show σ120 51 = σ 51 from ((f122 51 (by decide)).trans (f16 51 (by decide))), show σ120 52 = σ 52 from ((f122 52 (by decide)).trans (f16 52 (by decide)))]; exact hr1)⟩ hP hS (lv_sub hl [0, 1, 2, 3] rfl)
    · obtain ⟨q167, k160, k161, k162, k163, k164, k165, k166⟩ := h127
      refine lv_pop hx hb dL_law_769 rfl ?_
      refine lv_goto (tgt := 1358) hx hb dL_law_770 (by decide) ?_
      obtain ⟨x168, ex168⟩ : ∃ y : Int32, y = x0 + 6 := ⟨_, rfl⟩
      have tx168 : x168.toInt = x0.toInt + 6 := (jadd ex168 rfl jz_6 (by omega) (by omega)).trans (by omega)
      refine lv_iinc (v := x168) (lv' := [(3, .int x168), (2, .ref (ad 55)), (1, .ref (ad 0)), (0, .ref b)]) hx hb dL_law_1358 hl (k := 0) rfl (by rw [ex168]; rfl) (by decide) rfl (fun ls hl => ?_)
      refine lv_goto (tgt := 18) hx hb dL_law_1361 (by decide) ?_
      have I169 : jI2 σ120 := jI2_fr (congrFun (f122 2 (by decide)) 0) (congrFun (f122 2 (by decide)) 1) (congrFun (f122 2 (by decide)) 2) (congrFun (f122 2 (by decide)) 3) (f122 6 (by decide)) I18
      have I170 : jI9 σ120 := jI9_fr ((congrFun (f122 9 (by decide)) 0).trans (congrFun (f16 9 (by decide)) 0)) ((f122 10 (by decide)).trans (f16 10 (by decide))) ((f122 11 (by decide)).trans (f16 11 (by decide))) hI9
      have I171 : jI12 σ120 := jI12_fr ((congrFun (f122 12 (by decide)) 0).trans (congrFun (f16 12 (by decide)) 0)) ((f122 13 (by decide)).trans (f16 13 (by decide))) hI12
      have I172 : jI16 σ120 := jI16_fr ((congrFun (f122 16 (by decide)) 0).trans (congrFun (f16 16 (by decide)) 0)) ((congrFun (f122 16 (by decide)) 1).trans (congrFun (f16 16 (by decide)) 1)) ((congrFun (f122 16 (by decide)) 2).trans (congrFun (f16 16 (by decide)) 2)) ((f122 17 (by decide)).trans (f16 17 (by decide))) hI16
      have I173 : jI18 σ120 := jI18_fr ((congrFun (f122 18 (by decide)) 0).trans (congrFun (f16 18 (by decide)) 0)) ((f122 19 (by decide)).trans (f16 19 (by decide))) hI18
      have I174 : jI22 σ120 := jI22_fr ((congrFun (f122 22 (by decide)) 0).trans (congrFun (f16 22 (by decide)) 0)) ((f122 23 (by decide)).trans (f16 23 (by decide))) hI22
      have I175 : jI31 σ120 := jI31_fr ((congrFun (f122 31 (by decide)) 8).trans (congrFun (f16 31 (by decide)) 8)) ((f122 33 (by decide)).trans (f16 33 (by decide))) ((f122 36 (by decide)).trans (f16 36 (by decide))) hI31
      have I176 : jI38 σ120 := jI38_fr ((congrFun (f122 38 (by decide)) 0).trans (congrFun (f16 38 (by decide)) 0)) ((congrFun (f122 38 (by decide)) 1).trans (congrFun (f16 38 (by decide)) 1)) ((f122 39 (by decide)).trans (f16 39 (by decide))) hI38
      have I177 : jI43 σ120 := jI43_fr ((congrFun (f122 43 (by decide)) 8).trans (congrFun (f16 43 (by decide)) 8)) hI43
      have I178 : jI47 σ120 := jI47_fr ((congrFun (f122 47 (by decide)) 0).trans (congrFun (f16 47 (by decide)) 0)) ((f122 48 (by decide)).trans (f16 48 (by decide))) ((f122 49 (by decide)).trans (f16 49 (by decide))) hI47
      have I179 : jI50 σ120 := jI50_fr ((f122 52 (by decide)).trans (f16 52 (by decide))) hI50
      have I180 : jI102 σ120 := jI102_fr (f123 6 (by decide)) (f122 60 (by decide)) (f122 61 (by decide)) I116
      have I181 : jI103 σ120 := jI103_fr ((f123 9 (by decide)).trans (congrFun (f16 55 (by decide)) 9)) hI103
      have I182 : jI104 σ120 := jI104_fr ((f123 10 (by decide)).trans (congrFun (f16 55 (by decide)) 10)) ((f123 12 (by decide)).trans (congrFun (f16 55 (by decide)) 12)) ((f123 13 (by decide)).trans (congrFun (f16 55 (by decide)) 13)) ((f122 62 (by decide)).trans (f16 62 (by decide))) ((f122 67 (by decide)).trans (f16 67 (by decide))) hI104
      have I183 : jI105 σ120 := jI105_fr ((f123 15 (by decide)).trans (congrFun (f16 55 (by decide)) 15)) ((f122 65 (by decide)).trans (f16 65 (by decide))) hI105
      have I184 : jI106 σ120 := jI106_fr ((f123 32 (by decide)).trans (congrFun (f16 55 (by decide)) 32)) ((f122 70 (by decide)).trans (f16 70 (by decide))) ((f122 71 (by decide)).trans (f16 71 (by decide))) ((f122 72 (by decide)).trans (f16 72 (by decide))) hI106
      have I185 : jI107 σ120 := jI107_fr ((f123 12 (by decide)).trans (congrFun (f16 55 (by decide)) 12)) ((f123 47 (by decide)).trans (congrFun (f16 55 (by decide)) 47)) ((f122 80 (by decide)).trans (f16 80 (by decide))) hI107
      have I186 : jI109 σ120 := jI109_fr ((f123 50 (by decide)).trans (congrFun (f16 55 (by decide)) 50)) hI109
      have I187 : jI110 σ120 := jI110_fr ((f122 86 (by decide)).trans (f16 86 (by decide))) ((f122 87 (by decide)).trans (f16 87 (by decide))) hI110
      have I188 : jI111 σ120 := jI111_fr ((f122 79 (by decide)).trans (f16 79 (by decide))) hI111
      have I189 : jI119 σ120 := jI119_fr ((f122 68 (by decide)).trans (f16 68 (by decide))) hI119
      have p190 : jKept σ120 := jKept.fr ((f122 75 (by decide)).trans (f16 75 (by decide))) ((f122 76 (by decide)).trans (f16 76 (by decide))) ((f122 77 (by decide)).trans (f16 77 (by decide))) hs_jKept
      have p191 : jBook σ120 := jBook.fr ((f123 47 (by decide)).trans (congrFun (f16 55 (by decide)) 47)) ((f123 10 (by decide)).trans (congrFun (f16 55 (by decide)) 10)) ((f122 81 (by decide)).trans (f16 81 (by decide))) hs_jBook
      have z192 : (σ120 38 0).toInt = (σ 38 0).toInt := (congrArg Int32.toInt (show σ120 38 0 = (σ 38 0) from ((congrFun (f122 38 (by decide)) 0).trans (congrFun (f16 38 (by decide)) 0))))
      have z193 : (σ120 55 32).toInt = (σ 55 32).toInt := (congrArg Int32.toInt (show σ120 55 32 = (σ 55 32) from ((f123 32 (by decide)).trans (congrFun (f16 55 (by decide)) 32))))
      exact ih x168 σ120 τ _ _ ls (by have h9 := tx168; omega) ⟨I169, I170, I171, I172, I173, I174, I175, I176, I177, I178, I179, I124, I180, I181, I182, I183, I184, I185, I186, I187, I188, I189, p190, p191, (by omega), (show jShP (σ120 51) (σ120 52) (σ120 53) (σ120 86) (σ120 87) (σ120 55 32).toInt by rw [show σ120 51 = σ 51 from ((f122 51 (by decide)).trans (f16 51 (by decide))), show σ120 52 = σ 52 from ((f122 52 (by decide)).trans (f16 52 (by decide))), show σ120 53 = σ 53 from ((f122 53 (by decide)).trans (f16 53 (by decide))), show σ120 86 = σ 86 from ((f122 86 (by decide)).trans (f16 86 (by decide))), show σ120 87 = σ 87 from ((f122 87 (by decide)).trans (f16 87 (by decide)))]; exact (hr0.up (by omega) (by omega))), (show jEl (σ120 51) (σ120 52) (τ 54) (τ 88) by rw [show σ120 51 = σ 51 from ((f122 51 (by decide)).trans (f16 51 (by decide))), show σ120 52 = σ 52 from ((f122 52 (by decide)).trans (f16 52 (by decide)))]; exact hr1)⟩ hP hS (lv_sub hl [0, 1, 2, 3] rfl)
