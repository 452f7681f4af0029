set_option maxHeartbeats 4000000 in
set_option maxRecDepth 100000 in
theorem law_case_0 {p : Program} {e : Env} {s : State} {m : MethodId} {below : List Frame} {meth : Method} {c : Code} (l : Launch) {b L : Nat} {xs : Nat → Int32} {D : va_G} {cI cL : ClassId} {ad zz : Nat → Nat} (C0 : lw_At p s m meth c b L xs) (hJ : jD ad) (hA : ∀ q, jA ad q → s.heap.size ≤ q) (hK : jK D cI cL s) (hZ : jZ zz (fun q : Nat => s.heap.size ≤ q) s s.heap) {x0 : Int32} (hx0 : 0 ≤ x0.toInt) (hxL : x0.toInt + 6 ≤ (L : Int)) (hL : L ≤ 384) {σ : Nat → Nat → Int32} {τ : Nat → Nat → Int64} {H : Heap} {locs : List Loc} (hS : va_S (fun q : Nat => s.heap.size ≤ q) s.heap H locs) {ls : Array Slot} (hAll : jAll σ τ) (hP : jH D cI cL ad σ τ H) (hl : lv_has ls 4 [(3, .int x0), (2, .ref (ad 55)), (1, .ref (ad 0)), (0, .ref b)]) (ih : ∀ (x1 : Int32) (σ : Nat → Nat → Int32) (τ : Nat → Nat → Int64) (H : Heap) (locs : List Loc) (ls : Array Slot), x1.toInt = x0.toInt + 6 → jAll σ τ → jH D cI cL ad σ τ H → va_S (fun q : Nat => s.heap.size ≤ q) s.heap H locs → lv_has ls 4 [(3, .int x1), (2, .ref (ad 55)), (1, .ref (ad 0)), (0, .ref b)] → W p l e room_1 s m #[Value.ref b] below meth c H locs 90 348600 (lw_Z below #[Value.ref b] s) (F0 m 18 ls [])) : W p l e room_1 s m #[Value.ref b] below meth c H locs 90 348600 (lw_Z below #[Value.ref b] s) (F0 m 196 ls []) := by
  obtain ⟨hx, hb, hr, hml, hown, hts0, hX, hbl, hlocks, hgv⟩ := C0
  have hts : ∀ w ∈ wsL_law, w.before #[Value.ref b] s = true := fun w h => hts0 w (wsL_law_in w h)
  have hbA : ¬ (fun q : Nat => s.heap.size ≤ q) b := Nat.not_le.mpr hbl
  have hown : s.vm.findClass RL = some m.cls := hown
  obtain ⟨hI2, hI9, hI12, hI16, hI18, hI22, hI31, hI38, hI43, hI47, hI50, hI101, hI102, hI103, hI104, hI105, hI106, hI107, hI109, hI110, hI111, hI119, hs_jKept, hs_jBook, ht0⟩ := hAll
  have hL9 : (L : Int) ≤ 384 := by omega
  refine lv_aload_n hx hb dL_law_196 rfl (lv_at hl 2 rfl) ?_
  refine lv_aload_n hx hb dL_law_197 rfl (lv_at hl 3 rfl) ?_
  refine lv_iload_n hx hb dL_law_198 rfl (lv_at hl 0 rfl) ?_
  refine lv_iconst (v := 1) hx hb dL_law_199 (by decide) ?_
  have g1 := jrg (rfl : x0.toInt = x0.toInt)
  refine lv_iadd hx hb dL_law_200 ?_
  refine lv_topi (fun x2 ex2 => ?_)
  have tx2 : x2.toInt = x0.toInt + 1 := (jadd ex2 rfl jz_1 (by omega) (by omega)).trans (by omega)
  refine va_sld hx hb hX hbl hbA hS (jin tx2 (by omega) (by omega)) dL_law_201 ?_
  have g3 := jrg (rfl : (xs x2.toNatClampNeg).toInt = (xs x2.toNatClampNeg).toInt)
  refine lv_aload_n hx hb dL_law_202 rfl (lv_at hl 3 rfl) ?_
  refine lv_iload_n hx hb dL_law_203 rfl (lv_at hl 0 rfl) ?_
  refine lv_iconst (v := 2) hx hb dL_law_204 (by decide) ?_
  refine lv_iadd hx hb dL_law_205 ?_
  refine lv_topi (fun x4 ex4 => ?_)
  have tx4 : x4.toInt = x0.toInt + 2 := (jadd ex4 rfl jz_2 (by omega) (by omega)).trans (by omega)
  refine va_sld hx hb hX hbl hbA hS (jin tx4 (by omega) (by omega)) dL_law_206 ?_
  have g5 := jrg (rfl : (xs x4.toNatClampNeg).toInt = (xs x4.toNatClampNeg).toInt)
  refine lv_aload_n hx hb dL_law_207 rfl (lv_at hl 3 rfl) ?_
  refine lv_iload_n hx hb dL_law_208 rfl (lv_at hl 0 rfl) ?_
  refine lv_iconst (v := 3) hx hb dL_law_209 (by decide) ?_
  refine lv_iadd hx hb dL_law_210 ?_
  refine lv_topi (fun x6 ex6 => ?_)
  have tx6 : x6.toInt = x0.toInt + 3 := (jadd ex6 rfl jz_3 (by omega) (by omega)).trans (by omega)
  refine va_sld hx hb hX hbl hbA hS (jin tx6 (by omega) (by omega)) dL_law_211 ?_
  have g7 := jrg (rfl : (xs x6.toNatClampNeg).toInt = (xs x6.toNatClampNeg).toInt)
  refine jcallV (As := [.int (xs x2.toNatClampNeg), .int (xs x4.toNatClampNeg), .int (xs x6.toNatClampNeg)]) (rest := []) ⟨hx, hb, hml, hown, hts⟩ hK hP hA hS hZ (c_X11_bowler l D cI cL ad zz hJ σ τ (xs x2.toNatClampNeg) ((xs x2.toNatClampNeg).toInt) rfl (xs x4.toNatClampNeg) ((xs x4.toNatClampNeg).toInt) rfl (xs x6.toNatClampNeg) ((xs x6.toNatClampNeg).toInt) rfl hI2) cw_RL_13 (jc_0 cI cL ad σ τ) rfl ⟨Nat.le_of_ble_eq_true rfl, Nat.le_of_ble_eq_true rfl⟩ rfl rfl rfl hl.1 rfl (Nat.le_of_ble_eq_true rfl) dL_law_212 ⟨Nat.le_of_ble_eq_true rfl, Nat.le_of_ble_eq_true rfl⟩ (fun r9 σ8 τ8 H locs h8 hP hS => ?_)
  obtain ⟨rfl, f10, f11, I12, h8⟩ := h8
  rcases h8 with h13 | h14 | h15
  · obtain ⟨q19, k16, k17, k18⟩ := h13
    have q19 := q19.symm
    subst q19
    refine lv_aload_n hx hb dL_law_215 rfl (lv_at hl 1 rfl) ?_
    refine lv_aload_n hx hb dL_law_216 rfl (lv_at hl 3 rfl) ?_
    refine lv_iload_n hx hb dL_law_217 rfl (lv_at hl 0 rfl) ?_
    refine lv_iconst (v := 1) hx hb dL_law_218 (by decide) ?_
    refine lv_iadd hx hb dL_law_219 ?_
    refine jtopr ex2.symm ?_
    refine va_sld hx hb hX hbl hbA hS (jin tx2 (by omega) (by omega)) dL_law_220 ?_
    refine lv_aload_n hx hb dL_law_221 rfl (lv_at hl 3 rfl) ?_
    refine lv_iload_n hx hb dL_law_222 rfl (lv_at hl 0 rfl) ?_
    refine lv_iconst (v := 2) hx hb dL_law_223 (by decide) ?_
    refine lv_iadd hx hb dL_law_224 ?_
    refine jtopr ex4.symm ?_
    refine va_sld hx hb hX hbl hbA hS (jin tx4 (by omega) (by omega)) dL_law_225 ?_
    refine lv_aload_n hx hb dL_law_226 rfl (lv_at hl 3 rfl) ?_
    refine lv_iload_n hx hb dL_law_227 rfl (lv_at hl 0 rfl) ?_
    refine lv_iconst (v := 3) hx hb dL_law_228 (by decide) ?_
    refine lv_iadd hx hb dL_law_229 ?_
    refine jtopr ex6.symm ?_
    refine va_sld hx hb hX hbl hbA hS (jin tx6 (by omega) (by omega)) dL_law_230 ?_
    have I20 : jI101 σ8 := jI101_fr (congrFun (f10 55 (by decide)) 4) (congrFun (f10 55 (by decide)) 5) (f10 56 (by decide)) (f10 57 (by decide)) (f10 58 (by decide)) (f10 59 (by decide)) hI101
    have I21 : jI102 σ8 := jI102_fr (congrFun (f10 55 (by decide)) 6) (f10 60 (by decide)) (f10 61 (by decide)) hI102
    have z22 : (σ8 55 6).toInt = (σ 55 6).toInt := (congrArg Int32.toInt (show σ8 55 6 = (σ 55 6) from (congrFun (f10 55 (by decide)) 6)))
    refine jcallV (As := [.int (xs x2.toNatClampNeg), .int (xs x4.toNatClampNeg), .int (xs x6.toNatClampNeg)]) (rest := [.int (-1)]) ⟨hx, hb, hml, hown, hts⟩ hK hP hA hS hZ (c_X12_bowler l D cI cL ad zz hJ σ8 τ (xs x2.toNatClampNeg) ((xs x2.toNatClampNeg).toInt) rfl (xs x4.toNatClampNeg) ((xs x4.toNatClampNeg).toInt) rfl (xs x6.toNatClampNeg) ((xs x6.toNatClampNeg).toInt) rfl I20 I21) cw_RL_17 (jc_55 cI cL ad σ8 τ) rfl ⟨Nat.le_of_ble_eq_true rfl, Nat.le_of_ble_eq_true rfl⟩ rfl rfl rfl hl.1 rfl (Nat.le_of_ble_eq_true rfl) dL_law_231 ⟨Nat.le_of_ble_eq_true rfl, Nat.le_of_ble_eq_true rfl⟩ (fun r24 σ23 τ23 H locs h23 hP hS => ?_)
    obtain ⟨rfl, f25, f26, I27, I28, h23⟩ := h23
    rcases h23 with h29 | h30 | h31
    · obtain ⟨q35, k32, k33, k34⟩ := h29
      have q35 := q35.symm
      subst q35
      refine lv_icmp_eq (tgt := 1357) hx hb dL_law_234 (by decide) (fun _ => ?_) (fun c => absurd (rfl) c)
      obtain ⟨x36, ex36⟩ : ∃ y : Int32, y = x0 + 6 := ⟨_, rfl⟩
      have tx36 : x36.toInt = x0.toInt + 6 := (jadd ex36 rfl jz_6 (by omega) (by omega)).trans (by omega)
      refine lv_iinc (v := x36) (lv' := [(3, .int x36), (2, .ref (ad 55)), (1, .ref (ad 0)), (0, .ref b)]) hx hb dL_law_1357 hl (k := 0) rfl (by rw [ex36]; rfl) (by decide) rfl (fun ls hl => ?_)
      refine lv_goto (tgt := 18) hx hb dL_law_1360 (by decide) ?_
      have I37 : jI2 σ23 := jI2_fr (congrFun (f25 2 (by decide)) 0) (congrFun (f25 2 (by decide)) 1) (congrFun (f25 2 (by decide)) 2) (congrFun (f25 2 (by decide)) 3) (f25 6 (by decide)) I12
      have I38 : jI9 σ23 := jI9_fr ((congrFun (f25 9 (by decide)) 0).trans (congrFun (f10 9 (by decide)) 0)) ((f25 10 (by decide)).trans (f10 10 (by decide))) ((f25 11 (by decide)).trans (f10 11 (by decide))) hI9
      have I39 : jI12 σ23 := jI12_fr ((congrFun (f25 12 (by decide)) 0).trans (congrFun (f10 12 (by decide)) 0)) ((f25 13 (by decide)).trans (f10 13 (by decide))) hI12
      have I40 : jI16 σ23 := jI16_fr ((congrFun (f25 16 (by decide)) 0).trans (congrFun (f10 16 (by decide)) 0)) ((congrFun (f25 16 (by decide)) 1).trans (congrFun (f10 16 (by decide)) 1)) ((congrFun (f25 16 (by decide)) 2).trans (congrFun (f10 16 (by decide)) 2)) ((f25 17 (by decide)).trans (f10 17 (by decide))) hI16
      have I41 : jI18 σ23 := jI18_fr ((congrFun (f25 18 (by decide)) 0).trans (congrFun (f10 18 (by decide)) 0)) ((f25 19 (by decide)).trans (f10 19 (by decide))) hI18
      have I42 : jI22 σ23 := jI22_fr ((congrFun (f25 22 (by decide)) 0).trans (congrFun (f10 22 (by decide)) 0)) ((f25 23 (by decide)).trans (f10 23 (by decide))) hI22
      have I43 : jI31 σ23 := jI31_fr ((congrFun (f25 31 (by decide)) 8).trans (congrFun (f10 31 (by decide)) 8)) ((f25 33 (by decide)).trans (f10 33 (by decide))) ((f25 36 (by decide)).trans (f10 36 (by decide))) hI31
      have I44 : jI38 σ23 := jI38_fr ((congrFun (f25 38 (by decide)) 0).trans (congrFun (f10 38 (by decide)) 0)) ((congrFun (f25 38 (by decide)) 1).trans (congrFun (f10 38 (by decide)) 1)) ((f25 39 (by decide)).trans (f10 39 (by decide))) hI38
      have I45 : jI43 σ23 := jI43_fr ((congrFun (f25 43 (by decide)) 8).trans (congrFun (f10 43 (by decide)) 8)) hI43
      have I46 : jI47 σ23 := jI47_fr ((congrFun (f25 47 (by decide)) 0).trans (congrFun (f10 47 (by decide)) 0)) ((f25 49 (by decide)).trans (f10 49 (by decide))) hI47
      have I47 : jI50 σ23 := jI50_fr ((f25 52 (by decide)).trans (f10 52 (by decide))) hI50
      have I48 : jI103 σ23 := jI103_fr ((f26 9 (by decide)).trans (congrFun (f10 55 (by decide)) 9)) hI103
      have I49 : jI104 σ23 := jI104_fr ((f26 10 (by decide)).trans (congrFun (f10 55 (by decide)) 10)) ((f26 12 (by decide)).trans (congrFun (f10 55 (by decide)) 12)) ((f26 13 (by decide)).trans (congrFun (f10 55 (by decide)) 13)) ((f25 62 (by decide)).trans (f10 62 (by decide))) ((f25 67 (by decide)).trans (f10 67 (by decide))) hI104
      have I50 : jI105 σ23 := jI105_fr ((f26 15 (by decide)).trans (congrFun (f10 55 (by decide)) 15)) ((f25 65 (by decide)).trans (f10 65 (by decide))) hI105
      have I51 : jI106 σ23 := jI106_fr ((f26 32 (by decide)).trans (congrFun (f10 55 (by decide)) 32)) ((f25 70 (by decide)).trans (f10 70 (by decide))) ((f25 71 (by decide)).trans (f10 71 (by decide))) ((f25 72 (by decide)).trans (f10 72 (by decide))) hI106
      have I52 : jI107 σ23 := jI107_fr ((f26 12 (by decide)).trans (congrFun (f10 55 (by decide)) 12)) ((f26 47 (by decide)).trans (congrFun (f10 55 (by decide)) 47)) ((f25 80 (by decide)).trans (f10 80 (by decide))) hI107
      have I53 : jI109 σ23 := jI109_fr ((f26 50 (by decide)).trans (congrFun (f10 55 (by decide)) 50)) hI109
      have I54 : jI110 σ23 := jI110_fr ((f25 86 (by decide)).trans (f10 86 (by decide))) ((f25 87 (by decide)).trans (f10 87 (by decide))) hI110
      have I55 : jI111 σ23 := jI111_fr ((f25 79 (by decide)).trans (f10 79 (by decide))) hI111
      have I56 : jI119 σ23 := jI119_fr ((f25 68 (by decide)).trans (f10 68 (by decide))) hI119
      have p57 : jKept σ23 := jKept.fr ((f25 75 (by decide)).trans (f10 75 (by decide))) ((f25 76 (by decide)).trans (f10 76 (by decide))) ((f25 77 (by decide)).trans (f10 77 (by decide))) hs_jKept
      have p58 : jBook σ23 := jBook.fr ((f26 47 (by decide)).trans (congrFun (f10 55 (by decide)) 47)) ((f26 10 (by decide)).trans (congrFun (f10 55 (by decide)) 10)) ((f25 81 (by decide)).trans (f10 81 (by decide))) hs_jBook
      have z59 : (σ23 2 0).toInt = (σ8 2 0).toInt := (congrArg Int32.toInt (show σ23 2 0 = (σ8 2 0) from (congrFun (f25 2 (by decide)) 0)))
      exact ih x36 σ23 τ _ _ ls (by have h9 := tx36; omega) ⟨I37, I38, I39, I40, I41, I42, I43, I44, I45, I46, I47, I27, I28, I48, I49, I50, I51, I52, I53, I54, I55, I56, p57, p58, (by omega)⟩ hP hS (lv_sub hl [0, 1, 2, 3] rfl)
    · obtain ⟨q66, k60, k61, k62, k63, k64, k65⟩ := h30
      exact absurd (by omega : False) id
    · obtain ⟨q74, k67, k68, k69, k70, k71, k72, k73⟩ := h31
      exact absurd (by omega : False) id
  · obtain ⟨q81, k75, k76, k77, k78, k79, k80⟩ := h14
    have q81 := q81.symm
    subst q81
    refine lv_aload_n hx hb dL_law_215 rfl (lv_at hl 1 rfl) ?_
    refine lv_aload_n hx hb dL_law_216 rfl (lv_at hl 3 rfl) ?_
    refine lv_iload_n hx hb dL_law_217 rfl (lv_at hl 0 rfl) ?_
    refine lv_iconst (v := 1) hx hb dL_law_218 (by decide) ?_
    refine lv_iadd hx hb dL_law_219 ?_
    refine jtopr ex2.symm ?_
    refine va_sld hx hb hX hbl hbA hS (jin tx2 (by omega) (by omega)) dL_law_220 ?_
    refine lv_aload_n hx hb dL_law_221 rfl (lv_at hl 3 rfl) ?_
    refine lv_iload_n hx hb dL_law_222 rfl (lv_at hl 0 rfl) ?_
    refine lv_iconst (v := 2) hx hb dL_law_223 (by decide) ?_
    refine lv_iadd hx hb dL_law_224 ?_
    refine jtopr ex4.symm ?_
    refine va_sld hx hb hX hbl hbA hS (jin tx4 (by omega) (by omega)) dL_law_225 ?_
    refine lv_aload_n hx hb dL_law_226 rfl (lv_at hl 3 rfl) ?_
    refine lv_iload_n hx hb dL_law_227 rfl (lv_at hl 0 rfl) ?_
    refine lv_iconst (v := 3) hx hb dL_law_228 (by decide) ?_
    refine lv_iadd hx hb dL_law_229 ?_
    refine jtopr ex6.symm ?_
    refine va_sld hx hb hX hbl hbA hS (jin tx6 (by omega) (by omega)) dL_law_230 ?_
    have I82 : jI101 σ8 := jI101_fr (congrFun (f10 55 (by decide)) 4) (congrFun (f10 55 (by decide)) 5) (f10 56 (by decide)) (f10 57 (by decide)) (f10 58 (by decide)) (f10 59 (by decide)) hI101
    have I83 : jI102 σ8 := jI102_fr (congrFun (f10 55 (by decide)) 6) (f10 60 (by decide)) (f10 61 (by decide)) hI102
    have z84 : (σ8 55 6).toInt = (σ 55 6).toInt := (congrArg Int32.toInt (show σ8 55 6 = (σ 55 6) from (congrFun (f10 55 (by decide)) 6)))
    refine jcallV (As := [.int (xs x2.toNatClampNeg), .int (xs x4.toNatClampNeg), .int (xs x6.toNatClampNeg)]) (rest := [.int (-3)]) ⟨hx, hb, hml, hown, hts⟩ hK hP hA hS hZ (c_X12_bowler l D cI cL ad zz hJ σ8 τ (xs x2.toNatClampNeg) ((xs x2.toNatClampNeg).toInt) rfl (xs x4.toNatClampNeg) ((xs x4.toNatClampNeg).toInt) rfl (xs x6.toNatClampNeg) ((xs x6.toNatClampNeg).toInt) rfl I82 I83) cw_RL_17 (jc_55 cI cL ad σ8 τ) rfl ⟨Nat.le_of_ble_eq_true rfl, Nat.le_of_ble_eq_true rfl⟩ rfl rfl rfl hl.1 rfl (Nat.le_of_ble_eq_true rfl) dL_law_231 ⟨Nat.le_of_ble_eq_true rfl, Nat.le_of_ble_eq_true rfl⟩ (fun r86 σ85 τ85 H locs h85 hP hS => ?_)
    obtain ⟨rfl, f87, f88, I89, I90, h85⟩ := h85
    rcases h85 with h91 | h92 | h93
    · obtain ⟨q97, k94, k95, k96⟩ := h91
      exact absurd (by omega : False) id
    · obtain ⟨q104, k98, k99, k100, k101, k102, k103⟩ := h92
      have q104 := q104.symm
      subst q104
      refine lv_icmp_eq (tgt := 1357) hx hb dL_law_234 (by decide) (fun _ => ?_) (fun c => absurd (rfl) c)
      obtain ⟨x105, ex105⟩ : ∃ y : Int32, y = x0 + 6 := ⟨_, rfl⟩
      have tx105 : x105.toInt = x0.toInt + 6 := (jadd ex105 rfl jz_6 (by omega) (by omega)).trans (by omega)
      refine lv_iinc (v := x105) (lv' := [(3, .int x105), (2, .ref (ad 55)), (1, .ref (ad 0)), (0, .ref b)]) hx hb dL_law_1357 hl (k := 0) rfl (by rw [ex105]; rfl) (by decide) rfl (fun ls hl => ?_)
      refine lv_goto (tgt := 18) hx hb dL_law_1360 (by decide) ?_
      have I106 : jI2 σ85 := jI2_fr (congrFun (f87 2 (by decide)) 0) (congrFun (f87 2 (by decide)) 1) (congrFun (f87 2 (by decide)) 2) (congrFun (f87 2 (by decide)) 3) (f87 6 (by decide)) I12
      have I107 : jI9 σ85 := jI9_fr ((congrFun (f87 9 (by decide)) 0).trans (congrFun (f10 9 (by decide)) 0)) ((f87 10 (by decide)).trans (f10 10 (by decide))) ((f87 11 (by decide)).trans (f10 11 (by decide))) hI9
      have I108 : jI12 σ85 := jI12_fr ((congrFun (f87 12 (by decide)) 0).trans (congrFun (f10 12 (by decide)) 0)) ((f87 13 (by decide)).trans (f10 13 (by decide))) hI12
      have I109 : jI16 σ85 := jI16_fr ((congrFun (f87 16 (by decide)) 0).trans (congrFun (f10 16 (by decide)) 0)) ((congrFun (f87 16 (by decide)) 1).trans (congrFun (f10 16 (by decide)) 1)) ((congrFun (f87 16 (by decide)) 2).trans (congrFun (f10 16 (by decide)) 2)) ((f87 17 (by decide)).trans (f10 17 (by decide))) hI16
      have I110 : jI18 σ85 := jI18_fr ((congrFun (f87 18 (by decide)) 0).trans (congrFun (f10 18 (by decide)) 0)) ((f87 19 (by decide)).trans (f10 19 (by decide))) hI18
      have I111 : jI22 σ85 := jI22_fr ((congrFun (f87 22 (by decide)) 0).trans (congrFun (f10 22 (by decide)) 0)) ((f87 23 (by decide)).trans (f10 23 (by decide))) hI22
      have I112 : jI31 σ85 := jI31_fr ((congrFun (f87 31 (by decide)) 8).trans (congrFun (f10 31 (by decide)) 8)) ((f87 33 (by decide)).trans (f10 33 (by decide))) ((f87 36 (by decide)).trans (f10 36 (by decide))) hI31
      have I113 : jI38 σ85 := jI38_fr ((congrFun (f87 38 (by decide)) 0).trans (congrFun (f10 38 (by decide)) 0)) ((congrFun (f87 38 (by decide)) 1).trans (congrFun (f10 38 (by decide)) 1)) ((f87 39 (by decide)).trans (f10 39 (by decide))) hI38
      have I114 : jI43 σ85 := jI43_fr ((congrFun (f87 43 (by decide)) 8).trans (congrFun (f10 43 (by decide)) 8)) hI43
      have I115 : jI47 σ85 := jI47_fr ((congrFun (f87 47 (by decide)) 0).trans (congrFun (f10 47 (by decide)) 0)) ((f87 49 (by decide)).trans (f10 49 (by decide))) hI47
      have I116 : jI50 σ85 := jI50_fr ((f87 52 (by decide)).trans (f10 52 (by decide))) hI50
      have I117 : jI103 σ85 := jI103_fr ((f88 9 (by decide)).trans (congrFun (f10 55 (by decide)) 9)) hI103
      have I118 : jI104 σ85 := jI104_fr ((f88 10 (by decide)).trans (congrFun (f10 55 (by decide)) 10)) ((f88 12 (by decide)).trans (congrFun (f10 55 (by decide)) 12)) ((f88 13 (by decide)).trans (congrFun (f10 55 (by decide)) 13)) ((f87 62 (by decide)).trans (f10 62 (by decide))) ((f87 67 (by decide)).trans (f10 67 (by decide))) hI104
      have I119 : jI105 σ85 := jI105_fr ((f88 15 (by decide)).trans (congrFun (f10 55 (by decide)) 15)) ((f87 65 (by decide)).trans (f10 65 (by decide))) hI105
      have I120 : jI106 σ85 := jI106_fr ((f88 32 (by decide)).trans (congrFun (f10 55 (by decide)) 32)) ((f87 70 (by decide)).trans (f10 70 (by decide))) ((f87 71 (by decide)).trans (f10 71 (by decide))) ((f87 72 (by decide)).trans (f10 72 (by decide))) hI106
      have I121 : jI107 σ85 := jI107_fr ((f88 12 (by decide)).trans (congrFun (f10 55 (by decide)) 12)) ((f88 47 (by decide)).trans (congrFun (f10 55 (by decide)) 47)) ((f87 80 (by decide)).trans (f10 80 (by decide))) hI107
      have I122 : jI109 σ85 := jI109_fr ((f88 50 (by decide)).trans (congrFun (f10 55 (by decide)) 50)) hI109
      have I123 : jI110 σ85 := jI110_fr ((f87 86 (by decide)).trans (f10 86 (by decide))) ((f87 87 (by decide)).trans (f10 87 (by decide))) hI110
      have I124 : jI111 σ85 := jI111_fr ((f87 79 (by decide)).trans (f10 79 (by decide))) hI111
      have I125 : jI119 σ85 := jI119_fr ((f87 68 (by decide)).trans (f10 68 (by decide))) hI119
      have p126 : jKept σ85 := jKept.fr ((f87 75 (by decide)).trans (f10 75 (by decide))) ((f87 76 (by decide)).trans (f10 76 (by decide))) ((f87 77 (by decide)).trans (f10 77 (by decide))) hs_jKept
      have p127 : jBook σ85 := jBook.fr ((f88 47 (by decide)).trans (congrFun (f10 55 (by decide)) 47)) ((f88 10 (by decide)).trans (congrFun (f10 55 (by decide)) 10)) ((f87 81 (by decide)).trans (f10 81 (by decide))) hs_jBook
      have z128 : (σ85 2 0).toInt = (σ8 2 0).toInt := (congrArg Int32.toInt (show σ85 2 0 = (σ8 2 0) from (congrFun (f87 2 (by decide)) 0)))
      exact ih x105 σ85 τ _ _ ls (by have h9 := tx105; omega) ⟨I106, I107, I108, I109, I110, I111, I112, I113, I114, I115, I116, I89, I90, I117, I118, I119, I120, I121, I122, I123, I124, I125, p126, p127, (by omega)⟩ hP hS (lv_sub hl [0, 1, 2, 3] rfl)
    · obtain ⟨q136, k129, k130, k131, k132, k133, k134, k135⟩ := h93
      exact absurd (by omega : False) id
  · obtain ⟨q144, k137, k138, k139, k140, k141, k142, k143⟩ := h15
    refine lv_aload_n hx hb dL_law_215 rfl (lv_at hl 1 rfl) ?_
    refine lv_aload_n hx hb dL_law_216 rfl (lv_at hl 3 rfl) ?_
    refine lv_iload_n hx hb dL_law_217 rfl (lv_at hl 0 rfl) ?_
    refine lv_iconst (v := 1) hx hb dL_law_218 (by decide) ?_
    refine lv_iadd hx hb dL_law_219 ?_
    refine jtopr ex2.symm ?_
    refine va_sld hx hb hX hbl hbA hS (jin tx2 (by omega) (by omega)) dL_law_220 ?_
    refine lv_aload_n hx hb dL_law_221 rfl (lv_at hl 3 rfl) ?_
    refine lv_iload_n hx hb dL_law_222 rfl (lv_at hl 0 rfl) ?_
    refine lv_iconst (v := 2) hx hb dL_law_223 (by decide) ?_
    refine lv_iadd hx hb dL_law_224 ?_
    refine jtopr ex4.symm ?_
    refine va_sld hx hb hX hbl hbA hS (jin tx4 (by omega) (by omega)) dL_law_225 ?_
    refine lv_aload_n hx hb dL_law_226 rfl (lv_at hl 3 rfl) ?_
    refine lv_iload_n hx hb dL_law_227 rfl (lv_at hl 0 rfl) ?_
    refine lv_iconst (v := 3) hx hb dL_law_228 (by decide) ?_
    refine lv_iadd hx hb dL_law_229 ?_
    refine jtopr ex6.symm ?_
    refine va_sld hx hb hX hbl hbA hS (jin tx6 (by omega) (by omega)) dL_law_230 ?_
    have I145 : jI101 σ8 := jI101_fr (congrFun (f10 55 (by decide)) 4) (congrFun (f10 55 (by decide)) 5) (f10 56 (by decide)) (f10 57 (by decide)) (f10 58 (by decide)) (f10 59 (by decide)) hI101
    have I146 : jI102 σ8 := jI102_fr (congrFun (f10 55 (by decide)) 6) (f10 60 (by decide)) (f10 61 (by decide)) hI102
    have z147 : (σ8 55 6).toInt = (σ 55 6).toInt := (congrArg Int32.toInt (show σ8 55 6 = (σ 55 6) from (congrFun (f10 55 (by decide)) 6)))
    refine jcallV (As := [.int (xs x2.toNatClampNeg), .int (xs x4.toNatClampNeg), .int (xs x6.toNatClampNeg)]) (rest := [.int r9]) ⟨hx, hb, hml, hown, hts⟩ hK hP hA hS hZ (c_X12_bowler l D cI cL ad zz hJ σ8 τ (xs x2.toNatClampNeg) ((xs x2.toNatClampNeg).toInt) rfl (xs x4.toNatClampNeg) ((xs x4.toNatClampNeg).toInt) rfl (xs x6.toNatClampNeg) ((xs x6.toNatClampNeg).toInt) rfl I145 I146) cw_RL_17 (jc_55 cI cL ad σ8 τ) rfl ⟨Nat.le_of_ble_eq_true rfl, Nat.le_of_ble_eq_true rfl⟩ rfl rfl rfl hl.1 rfl (Nat.le_of_ble_eq_true rfl) dL_law_231 ⟨Nat.le_of_ble_eq_true rfl, Nat.le_of_ble_eq_true rfl⟩ (fun r149 σ148 τ148 H locs h148 hP hS => ?_)
    obtain ⟨rfl, f150, f151, I152, I153, h148⟩ := h148
    rcases h148 with h154 | h155 | h156
    · obtain ⟨q160, k157, k158, k159⟩ := h154
      exact absurd (by omega : False) id
    · obtain ⟨q167, k161, k162, k163, k164, k165, k166⟩ := h155
      exact absurd (by omega : False) id
    · obtain ⟨q175, k168, k169, k170, k171, k172, k173, k174⟩ := h156
      refine lv_icmp_eq (tgt := 1357) hx hb dL_law_234 (by decide) (fun _ => ?_) (fun c => absurd (jsame (rfl : r9.toInt = r9.toInt) (rfl : r149.toInt = r149.toInt) (by omega)) c)
      obtain ⟨x176, ex176⟩ : ∃ y : Int32, y = x0 + 6 := ⟨_, rfl⟩
      have tx176 : x176.toInt = x0.toInt + 6 := (jadd ex176 rfl jz_6 (by omega) (by omega)).trans (by omega)
      refine lv_iinc (v := x176) (lv' := [(3, .int x176), (2, .ref (ad 55)), (1, .ref (ad 0)), (0, .ref b)]) hx hb dL_law_1357 hl (k := 0) rfl (by rw [ex176]; rfl) (by decide) rfl (fun ls hl => ?_)
      refine lv_goto (tgt := 18) hx hb dL_law_1360 (by decide) ?_
      have I177 : jI2 σ148 := jI2_fr (congrFun (f150 2 (by decide)) 0) (congrFun (f150 2 (by decide)) 1) (congrFun (f150 2 (by decide)) 2) (congrFun (f150 2 (by decide)) 3) (f150 6 (by decide)) I12
      have I178 : jI9 σ148 := jI9_fr ((congrFun (f150 9 (by decide)) 0).trans (congrFun (f10 9 (by decide)) 0)) ((f150 10 (by decide)).trans (f10 10 (by decide))) ((f150 11 (by decide)).trans (f10 11 (by decide))) hI9
      have I179 : jI12 σ148 := jI12_fr ((congrFun (f150 12 (by decide)) 0).trans (congrFun (f10 12 (by decide)) 0)) ((f150 13 (by decide)).trans (f10 13 (by decide))) hI12
      have I180 : jI16 σ148 := jI16_fr ((congrFun (f150 16 (by decide)) 0).trans (congrFun (f10 16 (by decide)) 0)) ((congrFun (f150 16 (by decide)) 1).trans (congrFun (f10 16 (by decide)) 1)) ((congrFun (f150 16 (by decide)) 2).trans (congrFun (f10 16 (by decide)) 2)) ((f150 17 (by decide)).trans (f10 17 (by decide))) hI16
      have I181 : jI18 σ148 := jI18_fr ((congrFun (f150 18 (by decide)) 0).trans (congrFun (f10 18 (by decide)) 0)) ((f150 19 (by decide)).trans (f10 19 (by decide))) hI18
      have I182 : jI22 σ148 := jI22_fr ((congrFun (f150 22 (by decide)) 0).trans (congrFun (f10 22 (by decide)) 0)) ((f150 23 (by decide)).trans (f10 23 (by decide))) hI22
      have I183 : jI31 σ148 := jI31_fr ((congrFun (f150 31 (by decide)) 8).trans (congrFun (f10 31 (by decide)) 8)) ((f150 33 (by decide)).trans (f10 33 (by decide))) ((f150 36 (by decide)).trans (f10 36 (by decide))) hI31
      have I184 : jI38 σ148 := jI38_fr ((congrFun (f150 38 (by decide)) 0).trans (congrFun (f10 38 (by decide)) 0)) ((congrFun (f150 38 (by decide)) 1).trans (congrFun (f10 38 (by decide)) 1)) ((f150 39 (by decide)).trans (f10 39 (by decide))) hI38
      have I185 : jI43 σ148 := jI43_fr ((congrFun (f150 43 (by decide)) 8).trans (congrFun (f10 43 (by decide)) 8)) hI43
      have I186 : jI47 σ148 := jI47_fr ((congrFun (f150 47 (by decide)) 0).trans (congrFun (f10 47 (by decide)) 0)) ((f150 49 (by decide)).trans (f10 49 (by decide))) hI47
      have I187 : jI50 σ148 := jI50_fr ((f150 52 (by decide)).trans (f10 52 (by decide))) hI50
      have I188 : jI103 σ148 := jI103_fr ((f151 9 (by decide)).trans (congrFun (f10 55 (by decide)) 9)) hI103
      have I189 : jI104 σ148 := jI104_fr ((f151 10 (by decide)).trans (congrFun (f10 55 (by decide)) 10)) ((f151 12 (by decide)).trans (congrFun (f10 55 (by decide)) 12)) ((f151 13 (by decide)).trans (congrFun (f10 55 (by decide)) 13)) ((f150 62 (by decide)).trans (f10 62 (by decide))) ((f150 67 (by decide)).trans (f10 67 (by decide))) hI104
      have I190 : jI105 σ148 := jI105_fr ((f151 15 (by decide)).trans (congrFun (f10 55 (by decide)) 15)) ((f150 65 (by decide)).trans (f10 65 (by decide))) hI105
      have I191 : jI106 σ148 := jI106_fr ((f151 32 (by decide)).trans (congrFun (f10 55 (by decide)) 32)) ((f150 70 (by decide)).trans (f10 70 (by decide))) ((f150 71 (by decide)).trans (f10 71 (by decide))) ((f150 72 (by decide)).trans (f10 72 (by decide))) hI106
      have I192 : jI107 σ148 := jI107_fr ((f151 12 (by decide)).trans (congrFun (f10 55 (by decide)) 12)) ((f151 47 (by decide)).trans (congrFun (f10 55 (by decide)) 47)) ((f150 80 (by decide)).trans (f10 80 (by decide))) hI107
      have I193 : jI109 σ148 := jI109_fr ((f151 50 (by decide)).trans (congrFun (f10 55 (by decide)) 50)) hI109
      have I194 : jI110 σ148 := jI110_fr ((f150 86 (by decide)).trans (f10 86 (by decide))) ((f150 87 (by decide)).trans (f10 87 (by decide))) hI110
      have I195 : jI111 σ148 := jI111_fr ((f150 79 (by decide)).trans (f10 79 (by decide))) hI111
      have I196 : jI119 σ148 := jI119_fr ((f150 68 (by decide)).trans (f10 68 (by decide))) hI119
      have p197 : jKept σ148 := jKept.fr ((f150 75 (by decide)).trans (f10 75 (by decide))) ((f150 76 (by decide)).trans (f10 76 (by decide))) ((f150 77 (by decide)).trans (f10 77 (by decide))) hs_jKept
      have p198 : jBook σ148 := jBook.fr ((f151 47 (by decide)).trans (congrFun (f10 55 (by decide)) 47)) ((f151 10 (by decide)).trans (congrFun (f10 55 (by decide)) 10)) ((f150 81 (by decide)).trans (f10 81 (by decide))) hs_jBook
      have z199 : (σ148 2 0).toInt = (σ8 2 0).toInt := (congrArg Int32.toInt (show σ148 2 0 = (σ8 2 0) from (congrFun (f150 2 (by decide)) 0)))
      exact ih x176 σ148 τ _ _ ls (by have h9 := tx176; omega) ⟨I177, I178, I179, I180, I181, I182, I183, I184, I185, I186, I187, I152, I153, I188, I189, I190, I191, I192, I193, I194, I195, I196, p197, p198, (by omega)⟩ hP hS (lv_sub hl [0, 1, 2, 3] rfl)
set_option maxHeartbeats 4000000 in
set_option maxRecDepth 100000 in
theorem law_case_1 {p : Program} {e : Env} {s : State} {m : MethodId} {below : List Frame} {meth : Method} {c : Code} (l : Launch) {b L : Nat} {xs : Nat → Int32} {D : va_G} {cI cL : ClassId} {ad zz : Nat → Nat} (C0 : lw_At p s m meth c b L xs) (hJ : jD ad) (hA : ∀ q, jA ad q → s.heap.size ≤ q) (hK : jK D cI cL s) (hZ : jZ zz (fun q : Nat => s.heap.size ≤ q) s s.heap) {x0 : Int32} (hx0 : 0 ≤ x0.toInt) (hxL : x0.toInt + 6 ≤ (L : Int)) (hL : L ≤ 384) {σ : Nat → Nat → Int32} {τ : Nat → Nat → Int64} {H : Heap} {locs : List Loc} (hS : va_S (fun q : Nat => s.heap.size ≤ q) s.heap H locs) {ls : Array Slot} (hAll : jAll σ τ) (hP : jH D cI cL ad σ τ H) (hl : lv_has ls 4 [(3, .int x0), (2, .ref (ad 55)), (1, .ref (ad 0)), (0, .ref b)]) (ih : ∀ (x1 : Int32) (σ : Nat → Nat → Int32) (τ : Nat → Nat → Int64) (H : Heap) (locs : List Loc) (ls : Array Slot), x1.toInt = x0.toInt + 6 → jAll σ τ → jH D cI cL ad σ τ H → va_S (fun q : Nat => s.heap.size ≤ q) s.heap H locs → lv_has ls 4 [(3, .int x1), (2, .ref (ad 55)), (1, .ref (ad 0)), (0, .ref b)] → W p l e room_1 s m #[Value.ref b] below meth c H locs 90 348600 (lw_Z below #[Value.ref b] s) (F0 m 18 ls [])) : W p l e room_1 s m #[Value.ref b] below meth c H locs 90 348600 (lw_Z below #[Value.ref b] s) (F0 m 239 ls []) := by
  obtain ⟨hx, hb, hr, hml, hown, hts0, hX, hbl, hlocks, hgv⟩ := C0
  have hts : ∀ w ∈ wsL_law, w.before #[Value.ref b] s = true := fun w h => hts0 w (wsL_law_in w h)
  have hbA : ¬ (fun q : Nat => s.heap.size ≤ q) b := Nat.not_le.mpr hbl
  have hown : s.vm.findClass RL = some m.cls := hown
  obtain ⟨hI2, hI9, hI12, hI16, hI18, hI22, hI31, hI38, hI43, hI47, hI50, hI101, hI102, hI103, hI104, hI105, hI106, hI107, hI109, hI110, hI111, hI119, hs_jKept, hs_jBook, ht0⟩ := hAll
  have hL9 : (L : Int) ≤ 384 := by omega
  refine lv_aload_n hx hb dL_law_239 rfl (lv_at hl 2 rfl) ?_
  refine lv_aload_n hx hb dL_law_240 rfl (lv_at hl 3 rfl) ?_
  refine lv_iload_n hx hb dL_law_241 rfl (lv_at hl 0 rfl) ?_
  refine lv_iconst (v := 1) hx hb dL_law_242 (by decide) ?_
  have g1 := jrg (rfl : x0.toInt = x0.toInt)
  refine lv_iadd hx hb dL_law_243 ?_
  refine lv_topi (fun x2 ex2 => ?_)
  have tx2 : x2.toInt = x0.toInt + 1 := (jadd ex2 rfl jz_1 (by omega) (by omega)).trans (by omega)
  refine va_sld hx hb hX hbl hbA hS (jin tx2 (by omega) (by omega)) dL_law_244 ?_
  have g3 := jrg (rfl : (xs x2.toNatClampNeg).toInt = (xs x2.toNatClampNeg).toInt)
  refine lv_aload_n hx hb dL_law_245 rfl (lv_at hl 3 rfl) ?_
  refine lv_iload_n hx hb dL_law_246 rfl (lv_at hl 0 rfl) ?_
  refine lv_iconst (v := 2) hx hb dL_law_247 (by decide) ?_
  refine lv_iadd hx hb dL_law_248 ?_
  refine lv_topi (fun x4 ex4 => ?_)
  have tx4 : x4.toInt = x0.toInt + 2 := (jadd ex4 rfl jz_2 (by omega) (by omega)).trans (by omega)
  refine va_sld hx hb hX hbl hbA hS (jin tx4 (by omega) (by omega)) dL_law_249 ?_
  have g5 := jrg (rfl : (xs x4.toNatClampNeg).toInt = (xs x4.toNatClampNeg).toInt)
  refine lv_aload_n hx hb dL_law_250 rfl (lv_at hl 3 rfl) ?_
  refine lv_iload_n hx hb dL_law_251 rfl (lv_at hl 0 rfl) ?_
  refine lv_iconst (v := 3) hx hb dL_law_252 (by decide) ?_
  refine lv_iadd hx hb dL_law_253 ?_
  refine lv_topi (fun x6 ex6 => ?_)
  have tx6 : x6.toInt = x0.toInt + 3 := (jadd ex6 rfl jz_3 (by omega) (by omega)).trans (by omega)
  refine va_sld hx hb hX hbl hbA hS (jin tx6 (by omega) (by omega)) dL_law_254 ?_
  have g7 := jrg (rfl : (xs x6.toNatClampNeg).toInt = (xs x6.toNatClampNeg).toInt)
  refine jcallV (As := [.int (xs x2.toNatClampNeg), .int (xs x4.toNatClampNeg), .int (xs x6.toNatClampNeg)]) (rest := []) ⟨hx, hb, hml, hown, hts⟩ hK hP hA hS hZ (c_X11_edge l D cI cL ad zz hJ σ τ (xs x2.toNatClampNeg) ((xs x2.toNatClampNeg).toInt) rfl (xs x4.toNatClampNeg) ((xs x4.toNatClampNeg).toInt) rfl (xs x6.toNatClampNeg) ((xs x6.toNatClampNeg).toInt) rfl hI2) cw_RL_18 (jc_0 cI cL ad σ τ) rfl ⟨Nat.le_of_ble_eq_true rfl, Nat.le_of_ble_eq_true rfl⟩ rfl rfl rfl hl.1 rfl (Nat.le_of_ble_eq_true rfl) dL_law_255 ⟨Nat.le_of_ble_eq_true rfl, Nat.le_of_ble_eq_true rfl⟩ (fun r9 σ8 τ8 H locs h8 hP hS => ?_)
  obtain ⟨rfl, f10, f11, I12, h8⟩ := h8
  rcases h8 with h13 | h14
  · obtain ⟨q19, k15, k16, k17, k18⟩ := h13
    have q19 := q19.symm
    subst q19
    refine lv_pop hx hb dL_law_258 rfl ?_
    refine lv_aload_n hx hb dL_law_259 rfl (lv_at hl 1 rfl) ?_
    refine lv_aload_n hx hb dL_law_260 rfl (lv_at hl 3 rfl) ?_
    refine lv_iload_n hx hb dL_law_261 rfl (lv_at hl 0 rfl) ?_
    refine lv_iconst (v := 1) hx hb dL_law_262 (by decide) ?_
    refine lv_iadd hx hb dL_law_263 ?_
    refine jtopr ex2.symm ?_
    refine va_sld hx hb hX hbl hbA hS (jin tx2 (by omega) (by omega)) dL_law_264 ?_
    refine lv_aload_n hx hb dL_law_265 rfl (lv_at hl 3 rfl) ?_
    refine lv_iload_n hx hb dL_law_266 rfl (lv_at hl 0 rfl) ?_
    refine lv_iconst (v := 2) hx hb dL_law_267 (by decide) ?_
    refine lv_iadd hx hb dL_law_268 ?_
    refine jtopr ex4.symm ?_
    refine va_sld hx hb hX hbl hbA hS (jin tx4 (by omega) (by omega)) dL_law_269 ?_
    refine lv_aload_n hx hb dL_law_270 rfl (lv_at hl 3 rfl) ?_
    refine lv_iload_n hx hb dL_law_271 rfl (lv_at hl 0 rfl) ?_
    refine lv_iconst (v := 3) hx hb dL_law_272 (by decide) ?_
    refine lv_iadd hx hb dL_law_273 ?_
    refine jtopr ex6.symm ?_
    refine va_sld hx hb hX hbl hbA hS (jin tx6 (by omega) (by omega)) dL_law_274 ?_
    have I20 : jI101 σ8 := jI101_fr (congrFun (f10 55 (by decide)) 4) (congrFun (f10 55 (by decide)) 5) (f10 56 (by decide)) (f10 57 (by decide)) (f10 58 (by decide)) (f10 59 (by decide)) hI101
    have I21 : jI102 σ8 := jI102_fr (congrFun (f10 55 (by decide)) 6) (f10 60 (by decide)) (f10 61 (by decide)) hI102
    have z22 : (σ8 55 5).toInt = (σ 55 5).toInt := (congrArg Int32.toInt (show σ8 55 5 = (σ 55 5) from (congrFun (f10 55 (by decide)) 5)))
    have z23 : (σ8 55 4).toInt = (σ 55 4).toInt := (congrArg Int32.toInt (show σ8 55 4 = (σ 55 4) from (congrFun (f10 55 (by decide)) 4)))
    refine jcallV (As := [.int (xs x2.toNatClampNeg), .int (xs x4.toNatClampNeg), .int (xs x6.toNatClampNeg)]) (rest := []) ⟨hx, hb, hml, hown, hts⟩ hK hP hA hS hZ (c_X12_edge l D cI cL ad zz hJ σ8 τ (xs x2.toNatClampNeg) ((xs x2.toNatClampNeg).toInt) rfl (xs x4.toNatClampNeg) ((xs x4.toNatClampNeg).toInt) rfl (xs x6.toNatClampNeg) ((xs x6.toNatClampNeg).toInt) rfl I20 I21) cw_RL_21 (jc_55 cI cL ad σ8 τ) rfl ⟨Nat.le_of_ble_eq_true rfl, Nat.le_of_ble_eq_true rfl⟩ rfl rfl rfl hl.1 rfl (Nat.le_of_ble_eq_true rfl) dL_law_275 ⟨Nat.le_of_ble_eq_true rfl, Nat.le_of_ble_eq_true rfl⟩ (fun r25 σ24 τ24 H locs h24 hP hS => ?_)
    obtain ⟨rfl, f26, f27, I28, h24⟩ := h24
    rcases h24 with h29 | h30
    · obtain ⟨q35, k31, k32, k33, k34⟩ := h29
      have q35 := q35.symm
      subst q35
      refine lv_pop hx hb dL_law_278 rfl ?_
      refine lv_goto (tgt := 1357) hx hb dL_law_279 (by decide) ?_
      obtain ⟨x36, ex36⟩ : ∃ y : Int32, y = x0 + 6 := ⟨_, rfl⟩
      have tx36 : x36.toInt = x0.toInt + 6 := (jadd ex36 rfl jz_6 (by omega) (by omega)).trans (by omega)
      refine lv_iinc (v := x36) (lv' := [(3, .int x36), (2, .ref (ad 55)), (1, .ref (ad 0)), (0, .ref b)]) hx hb dL_law_1357 hl (k := 0) rfl (by rw [ex36]; rfl) (by decide) rfl (fun ls hl => ?_)
      refine lv_goto (tgt := 18) hx hb dL_law_1360 (by decide) ?_
      have I37 : jI2 σ24 := jI2_fr (congrFun (f26 2 (by decide)) 0) (congrFun (f26 2 (by decide)) 1) (congrFun (f26 2 (by decide)) 2) (congrFun (f26 2 (by decide)) 3) (f26 6 (by decide)) I12
      have I38 : jI9 σ24 := jI9_fr ((congrFun (f26 9 (by decide)) 0).trans (congrFun (f10 9 (by decide)) 0)) ((f26 10 (by decide)).trans (f10 10 (by decide))) ((f26 11 (by decide)).trans (f10 11 (by decide))) hI9
      have I39 : jI12 σ24 := jI12_fr ((congrFun (f26 12 (by decide)) 0).trans (congrFun (f10 12 (by decide)) 0)) ((f26 13 (by decide)).trans (f10 13 (by decide))) hI12
      have I40 : jI16 σ24 := jI16_fr ((congrFun (f26 16 (by decide)) 0).trans (congrFun (f10 16 (by decide)) 0)) ((congrFun (f26 16 (by decide)) 1).trans (congrFun (f10 16 (by decide)) 1)) ((congrFun (f26 16 (by decide)) 2).trans (congrFun (f10 16 (by decide)) 2)) ((f26 17 (by decide)).trans (f10 17 (by decide))) hI16
      have I41 : jI18 σ24 := jI18_fr ((congrFun (f26 18 (by decide)) 0).trans (congrFun (f10 18 (by decide)) 0)) ((f26 19 (by decide)).trans (f10 19 (by decide))) hI18
      have I42 : jI22 σ24 := jI22_fr ((congrFun (f26 22 (by decide)) 0).trans (congrFun (f10 22 (by decide)) 0)) ((f26 23 (by decide)).trans (f10 23 (by decide))) hI22
      have I43 : jI31 σ24 := jI31_fr ((congrFun (f26 31 (by decide)) 8).trans (congrFun (f10 31 (by decide)) 8)) ((f26 33 (by decide)).trans (f10 33 (by decide))) ((f26 36 (by decide)).trans (f10 36 (by decide))) hI31
      have I44 : jI38 σ24 := jI38_fr ((congrFun (f26 38 (by decide)) 0).trans (congrFun (f10 38 (by decide)) 0)) ((congrFun (f26 38 (by decide)) 1).trans (congrFun (f10 38 (by decide)) 1)) ((f26 39 (by decide)).trans (f10 39 (by decide))) hI38
      have I45 : jI43 σ24 := jI43_fr ((congrFun (f26 43 (by decide)) 8).trans (congrFun (f10 43 (by decide)) 8)) hI43
      have I46 : jI47 σ24 := jI47_fr ((congrFun (f26 47 (by decide)) 0).trans (congrFun (f10 47 (by decide)) 0)) ((f26 49 (by decide)).trans (f10 49 (by decide))) hI47
      have I47 : jI50 σ24 := jI50_fr ((f26 52 (by decide)).trans (f10 52 (by decide))) hI50
      have I48 : jI102 σ24 := jI102_fr (f27 6 (by decide)) (f26 60 (by decide)) (f26 61 (by decide)) I21
      have I49 : jI103 σ24 := jI103_fr ((f27 9 (by decide)).trans (congrFun (f10 55 (by decide)) 9)) hI103
      have I50 : jI104 σ24 := jI104_fr ((f27 10 (by decide)).trans (congrFun (f10 55 (by decide)) 10)) ((f27 12 (by decide)).trans (congrFun (f10 55 (by decide)) 12)) ((f27 13 (by decide)).trans (congrFun (f10 55 (by decide)) 13)) ((f26 62 (by decide)).trans (f10 62 (by decide))) ((f26 67 (by decide)).trans (f10 67 (by decide))) hI104
      have I51 : jI105 σ24 := jI105_fr ((f27 15 (by decide)).trans (congrFun (f10 55 (by decide)) 15)) ((f26 65 (by decide)).trans (f10 65 (by decide))) hI105
      have I52 : jI106 σ24 := jI106_fr ((f27 32 (by decide)).trans (congrFun (f10 55 (by decide)) 32)) ((f26 70 (by decide)).trans (f10 70 (by decide))) ((f26 71 (by decide)).trans (f10 71 (by decide))) ((f26 72 (by decide)).trans (f10 72 (by decide))) hI106
      have I53 : jI107 σ24 := jI107_fr ((f27 12 (by decide)).trans (congrFun (f10 55 (by decide)) 12)) ((f27 47 (by decide)).trans (congrFun (f10 55 (by decide)) 47)) ((f26 80 (by decide)).trans (f10 80 (by decide))) hI107
      have I54 : jI109 σ24 := jI109_fr ((f27 50 (by decide)).trans (congrFun (f10 55 (by decide)) 50)) hI109
      have I55 : jI110 σ24 := jI110_fr ((f26 86 (by decide)).trans (f10 86 (by decide))) ((f26 87 (by decide)).trans (f10 87 (by decide))) hI110
      have I56 : jI111 σ24 := jI111_fr ((f26 79 (by decide)).trans (f10 79 (by decide))) hI111
      have I57 : jI119 σ24 := jI119_fr ((f26 68 (by decide)).trans (f10 68 (by decide))) hI119
      have p58 : jKept σ24 := jKept.fr ((f26 75 (by decide)).trans (f10 75 (by decide))) ((f26 76 (by decide)).trans (f10 76 (by decide))) ((f26 77 (by decide)).trans (f10 77 (by decide))) hs_jKept
      have p59 : jBook σ24 := jBook.fr ((f27 47 (by decide)).trans (congrFun (f10 55 (by decide)) 47)) ((f27 10 (by decide)).trans (congrFun (f10 55 (by decide)) 10)) ((f26 81 (by decide)).trans (f10 81 (by decide))) hs_jBook
      have z60 : (σ24 2 0).toInt = (σ 2 0).toInt := (congrArg Int32.toInt (show σ24 2 0 = (σ 2 0) from ((congrFun (f26 2 (by decide)) 0).trans (f11 0 (by decide)))))
      have z61 : (σ24 55 6).toInt = (σ 55 6).toInt := (congrArg Int32.toInt (show σ24 55 6 = (σ 55 6) from ((f27 6 (by decide)).trans (congrFun (f10 55 (by decide)) 6))))
      exact ih x36 σ24 τ _ _ ls (by have h9 := tx36; omega) ⟨I37, I38, I39, I40, I41, I42, I43, I44, I45, I46, I47, I28, I48, I49, I50, I51, I52, I53, I54, I55, I56, I57, p58, p59, (by omega)⟩ hP hS (lv_sub hl [0, 1, 2, 3] rfl)
    · obtain ⟨q63, k62⟩ := h30
      refine lv_pop hx hb dL_law_278 rfl ?_
      refine lv_goto (tgt := 1357) hx hb dL_law_279 (by decide) ?_
      obtain ⟨x64, ex64⟩ : ∃ y : Int32, y = x0 + 6 := ⟨_, rfl⟩
      have tx64 : x64.toInt = x0.toInt + 6 := (jadd ex64 rfl jz_6 (by omega) (by omega)).trans (by omega)
      refine lv_iinc (v := x64) (lv' := [(3, .int x64), (2, .ref (ad 55)), (1, .ref (ad 0)), (0, .ref b)]) hx hb dL_law_1357 hl (k := 0) rfl (by rw [ex64]; rfl) (by decide) rfl (fun ls hl => ?_)
      refine lv_goto (tgt := 18) hx hb dL_law_1360 (by decide) ?_
      have I65 : jI2 σ24 := jI2_fr (congrFun (f26 2 (by decide)) 0) (congrFun (f26 2 (by decide)) 1) (congrFun (f26 2 (by decide)) 2) (congrFun (f26 2 (by decide)) 3) (f26 6 (by decide)) I12
      have I66 : jI9 σ24 := jI9_fr ((congrFun (f26 9 (by decide)) 0).trans (congrFun (f10 9 (by decide)) 0)) ((f26 10 (by decide)).trans (f10 10 (by decide))) ((f26 11 (by decide)).trans (f10 11 (by decide))) hI9
      have I67 : jI12 σ24 := jI12_fr ((congrFun (f26 12 (by decide)) 0).trans (congrFun (f10 12 (by decide)) 0)) ((f26 13 (by decide)).trans (f10 13 (by decide))) hI12
      have I68 : jI16 σ24 := jI16_fr ((congrFun (f26 16 (by decide)) 0).trans (congrFun (f10 16 (by decide)) 0)) ((congrFun (f26 16 (by decide)) 1).trans (congrFun (f10 16 (by decide)) 1)) ((congrFun (f26 16 (by decide)) 2).trans (congrFun (f10 16 (by decide)) 2)) ((f26 17 (by decide)).trans (f10 17 (by decide))) hI16
      have I69 : jI18 σ24 := jI18_fr ((congrFun (f26 18 (by decide)) 0).trans (congrFun (f10 18 (by decide)) 0)) ((f26 19 (by decide)).trans (f10 19 (by decide))) hI18
      have I70 : jI22 σ24 := jI22_fr ((congrFun (f26 22 (by decide)) 0).trans (congrFun (f10 22 (by decide)) 0)) ((f26 23 (by decide)).trans (f10 23 (by decide))) hI22
      have I71 : jI31 σ24 := jI31_fr ((congrFun (f26 31 (by decide)) 8).trans (congrFun (f10 31 (by decide)) 8)) ((f26 33 (by decide)).trans (f10 33 (by decide))) ((f26 36 (by decide)).trans (f10 36 (by decide))) hI31
      have I72 : jI38 σ24 := jI38_fr ((congrFun (f26 38 (by decide)) 0).trans (congrFun (f10 38 (by decide)) 0)) ((congrFun (f26 38 (by decide)) 1).trans (congrFun (f10 38 (by decide)) 1)) ((f26 39 (by decide)).trans (f10 39 (by decide))) hI38
      have I73 : jI43 σ24 := jI43_fr ((congrFun (f26 43 (by decide)) 8).trans (congrFun (f10 43 (by decide)) 8)) hI43
      have I74 : jI47 σ24 := jI47_fr ((congrFun (f26 47 (by decide)) 0).trans (congrFun (f10 47 (by decide)) 0)) ((f26 49 (by decide)).trans (f10 49 (by decide))) hI47
      have I75 : jI50 σ24 := jI50_fr ((f26 52 (by decide)).trans (f10 52 (by decide))) hI50
      have I76 : jI102 σ24 := jI102_fr (f27 6 (by decide)) (f26 60 (by decide)) (f26 61 (by decide)) I21
      have I77 : jI103 σ24 := jI103_fr ((f27 9 (by decide)).trans (congrFun (f10 55 (by decide)) 9)) hI103
      have I78 : jI104 σ24 := jI104_fr ((f27 10 (by decide)).trans (congrFun (f10 55 (by decide)) 10)) ((f27 12 (by decide)).trans (congrFun (f10 55 (by decide)) 12)) ((f27 13 (by decide)).trans (congrFun (f10 55 (by decide)) 13)) ((f26 62 (by decide)).trans (f10 62 (by decide))) ((f26 67 (by decide)).trans (f10 67 (by decide))) hI104
      have I79 : jI105 σ24 := jI105_fr ((f27 15 (by decide)).trans (congrFun (f10 55 (by decide)) 15)) ((f26 65 (by decide)).trans (f10 65 (by decide))) hI105
      have I80 : jI106 σ24 := jI106_fr ((f27 32 (by decide)).trans (congrFun (f10 55 (by decide)) 32)) ((f26 70 (by decide)).trans (f10 70 (by decide))) ((f26 71 (by decide)).trans (f10 71 (by decide))) ((f26 72 (by decide)).trans (f10 72 (by decide))) hI106
      have I81 : jI107 σ24 := jI107_fr ((f27 12 (by decide)).trans (congrFun (f10 55 (by decide)) 12)) ((f27 47 (by decide)).trans (congrFun (f10 55 (by decide)) 47)) ((f26 80 (by decide)).trans (f10 80 (by decide))) hI107
      have I82 : jI109 σ24 := jI109_fr ((f27 50 (by decide)).trans (congrFun (f10 55 (by decide)) 50)) hI109
      have I83 : jI110 σ24 := jI110_fr ((f26 86 (by decide)).trans (f10 86 (by decide))) ((f26 87 (by decide)).trans (f10 87 (by decide))) hI110
      have I84 : jI111 σ24 := jI111_fr ((f26 79 (by decide)).trans (f10 79 (by decide))) hI111
      have I85 : jI119 σ24 := jI119_fr ((f26 68 (by decide)).trans (f10 68 (by decide))) hI119
      have p86 : jKept σ24 := jKept.fr ((f26 75 (by decide)).trans (f10 75 (by decide))) ((f26 76 (by decide)).trans (f10 76 (by decide))) ((f26 77 (by decide)).trans (f10 77 (by decide))) hs_jKept
      have p87 : jBook σ24 := jBook.fr ((f27 47 (by decide)).trans (congrFun (f10 55 (by decide)) 47)) ((f27 10 (by decide)).trans (congrFun (f10 55 (by decide)) 10)) ((f26 81 (by decide)).trans (f10 81 (by decide))) hs_jBook
      have z88 : (σ24 2 0).toInt = (σ 2 0).toInt := (congrArg Int32.toInt (show σ24 2 0 = (σ 2 0) from ((congrFun (f26 2 (by decide)) 0).trans (f11 0 (by decide)))))
      have z89 : (σ24 55 6).toInt = (σ 55 6).toInt := (congrArg Int32.toInt (show σ24 55 6 = (σ 55 6) from ((f27 6 (by decide)).trans (congrFun (f10 55 (by decide)) 6))))
      exact ih x64 σ24 τ _ _ ls (by have h9 := tx64; omega) ⟨I65, I66, I67, I68, I69, I70, I71, I72, I73, I74, I75, I28, I76, I77, I78, I79, I80, I81, I82, I83, I84, I85, p86, p87, (by omega)⟩ hP hS (lv_sub hl [0, 1, 2, 3] rfl)
  · obtain ⟨q91, k90⟩ := h14
    refine lv_pop hx hb dL_law_258 rfl ?_
    refine lv_aload_n hx hb dL_law_259 rfl (lv_at hl 1 rfl) ?_
    refine lv_aload_n hx hb dL_law_260 rfl (lv_at hl 3 rfl) ?_
    refine lv_iload_n hx hb dL_law_261 rfl (lv_at hl 0 rfl) ?_
    refine lv_iconst (v := 1) hx hb dL_law_262 (by decide) ?_
    refine lv_iadd hx hb dL_law_263 ?_
    refine jtopr ex2.symm ?_
    refine va_sld hx hb hX hbl hbA hS (jin tx2 (by omega) (by omega)) dL_law_264 ?_
    refine lv_aload_n hx hb dL_law_265 rfl (lv_at hl 3 rfl) ?_
    refine lv_iload_n hx hb dL_law_266 rfl (lv_at hl 0 rfl) ?_
    refine lv_iconst (v := 2) hx hb dL_law_267 (by decide) ?_
    refine lv_iadd hx hb dL_law_268 ?_
    refine jtopr ex4.symm ?_
    refine va_sld hx hb hX hbl hbA hS (jin tx4 (by omega) (by omega)) dL_law_269 ?_
    refine lv_aload_n hx hb dL_law_270 rfl (lv_at hl 3 rfl) ?_
    refine lv_iload_n hx hb dL_law_271 rfl (lv_at hl 0 rfl) ?_
    refine lv_iconst (v := 3) hx hb dL_law_272 (by decide) ?_
    refine lv_iadd hx hb dL_law_273 ?_
    refine jtopr ex6.symm ?_
    refine va_sld hx hb hX hbl hbA hS (jin tx6 (by omega) (by omega)) dL_law_274 ?_
    have I92 : jI101 σ8 := jI101_fr (congrFun (f10 55 (by decide)) 4) (congrFun (f10 55 (by decide)) 5) (f10 56 (by decide)) (f10 57 (by decide)) (f10 58 (by decide)) (f10 59 (by decide)) hI101
    have I93 : jI102 σ8 := jI102_fr (congrFun (f10 55 (by decide)) 6) (f10 60 (by decide)) (f10 61 (by decide)) hI102
    have z94 : (σ8 55 5).toInt = (σ 55 5).toInt := (congrArg Int32.toInt (show σ8 55 5 = (σ 55 5) from (congrFun (f10 55 (by decide)) 5)))
    have z95 : (σ8 55 4).toInt = (σ 55 4).toInt := (congrArg Int32.toInt (show σ8 55 4 = (σ 55 4) from (congrFun (f10 55 (by decide)) 4)))
    refine jcallV (As := [.int (xs x2.toNatClampNeg), .int (xs x4.toNatClampNeg), .int (xs x6.toNatClampNeg)]) (rest := []) ⟨hx, hb, hml, hown, hts⟩ hK hP hA hS hZ (c_X12_edge l D cI cL ad zz hJ σ8 τ (xs x2.toNatClampNeg) ((xs x2.toNatClampNeg).toInt) rfl (xs x4.toNatClampNeg) ((xs x4.toNatClampNeg).toInt) rfl (xs x6.toNatClampNeg) ((xs x6.toNatClampNeg).toInt) rfl I92 I93) cw_RL_21 (jc_55 cI cL ad σ8 τ) rfl ⟨Nat.le_of_ble_eq_true rfl, Nat.le_of_ble_eq_true rfl⟩ rfl rfl rfl hl.1 rfl (Nat.le_of_ble_eq_true rfl) dL_law_275 ⟨Nat.le_of_ble_eq_true rfl, Nat.le_of_ble_eq_true rfl⟩ (fun r97 σ96 τ96 H locs h96 hP hS => ?_)
    obtain ⟨rfl, f98, f99, I100, h96⟩ := h96
    rcases h96 with h101 | h102
    · obtain ⟨q107, k103, k104, k105, k106⟩ := h101
      have q107 := q107.symm
      subst q107
      refine lv_pop hx hb dL_law_278 rfl ?_
      refine lv_goto (tgt := 1357) hx hb dL_law_279 (by decide) ?_
      obtain ⟨x108, ex108⟩ : ∃ y : Int32, y = x0 + 6 := ⟨_, rfl⟩
      have tx108 : x108.toInt = x0.toInt + 6 := (jadd ex108 rfl jz_6 (by omega) (by omega)).trans (by omega)
      refine lv_iinc (v := x108) (lv' := [(3, .int x108), (2, .ref (ad 55)), (1, .ref (ad 0)), (0, .ref b)]) hx hb dL_law_1357 hl (k := 0) rfl (by rw [ex108]; rfl) (by decide) rfl (fun ls hl => ?_)
      refine lv_goto (tgt := 18) hx hb dL_law_1360 (by decide) ?_
      have I109 : jI2 σ96 := jI2_fr (congrFun (f98 2 (by decide)) 0) (congrFun (f98 2 (by decide)) 1) (congrFun (f98 2 (by decide)) 2) (congrFun (f98 2 (by decide)) 3) (f98 6 (by decide)) I12
      have I110 : jI9 σ96 := jI9_fr ((congrFun (f98 9 (by decide)) 0).trans (congrFun (f10 9 (by decide)) 0)) ((f98 10 (by decide)).trans (f10 10 (by decide))) ((f98 11 (by decide)).trans (f10 11 (by decide))) hI9
      have I111 : jI12 σ96 := jI12_fr ((congrFun (f98 12 (by decide)) 0).trans (congrFun (f10 12 (by decide)) 0)) ((f98 13 (by decide)).trans (f10 13 (by decide))) hI12
      have I112 : jI16 σ96 := jI16_fr ((congrFun (f98 16 (by decide)) 0).trans (congrFun (f10 16 (by decide)) 0)) ((congrFun (f98 16 (by decide)) 1).trans (congrFun (f10 16 (by decide)) 1)) ((congrFun (f98 16 (by decide)) 2).trans (congrFun (f10 16 (by decide)) 2)) ((f98 17 (by decide)).trans (f10 17 (by decide))) hI16
      have I113 : jI18 σ96 := jI18_fr ((congrFun (f98 18 (by decide)) 0).trans (congrFun (f10 18 (by decide)) 0)) ((f98 19 (by decide)).trans (f10 19 (by decide))) hI18
      have I114 : jI22 σ96 := jI22_fr ((congrFun (f98 22 (by decide)) 0).trans (congrFun (f10 22 (by decide)) 0)) ((f98 23 (by decide)).trans (f10 23 (by decide))) hI22
      have I115 : jI31 σ96 := jI31_fr ((congrFun (f98 31 (by decide)) 8).trans (congrFun (f10 31 (by decide)) 8)) ((f98 33 (by decide)).trans (f10 33 (by decide))) ((f98 36 (by decide)).trans (f10 36 (by decide))) hI31
      have I116 : jI38 σ96 := jI38_fr ((congrFun (f98 38 (by decide)) 0).trans (congrFun (f10 38 (by decide)) 0)) ((congrFun (f98 38 (by decide)) 1).trans (congrFun (f10 38 (by decide)) 1)) ((f98 39 (by decide)).trans (f10 39 (by decide))) hI38
      have I117 : jI43 σ96 := jI43_fr ((congrFun (f98 43 (by decide)) 8).trans (congrFun (f10 43 (by decide)) 8)) hI43
      have I118 : jI47 σ96 := jI47_fr ((congrFun (f98 47 (by decide)) 0).trans (congrFun (f10 47 (by decide)) 0)) ((f98 49 (by decide)).trans (f10 49 (by decide))) hI47
      have I119 : jI50 σ96 := jI50_fr ((f98 52 (by decide)).trans (f10 52 (by decide))) hI50
      have I120 : jI102 σ96 := jI102_fr (f99 6 (by decide)) (f98 60 (by decide)) (f98 61 (by decide)) I93
      have I121 : jI103 σ96 := jI103_fr ((f99 9 (by decide)).trans (congrFun (f10 55 (by decide)) 9)) hI103
      have I122 : jI104 σ96 := jI104_fr ((f99 10 (by decide)).trans (congrFun (f10 55 (by decide)) 10)) ((f99 12 (by decide)).trans (congrFun (f10 55 (by decide)) 12)) ((f99 13 (by decide)).trans (congrFun (f10 55 (by decide)) 13)) ((f98 62 (by decide)).trans (f10 62 (by decide))) ((f98 67 (by decide)).trans (f10 67 (by decide))) hI104
      have I123 : jI105 σ96 := jI105_fr ((f99 15 (by decide)).trans (congrFun (f10 55 (by decide)) 15)) ((f98 65 (by decide)).trans (f10 65 (by decide))) hI105
      have I124 : jI106 σ96 := jI106_fr ((f99 32 (by decide)).trans (congrFun (f10 55 (by decide)) 32)) ((f98 70 (by decide)).trans (f10 70 (by decide))) ((f98 71 (by decide)).trans (f10 71 (by decide))) ((f98 72 (by decide)).trans (f10 72 (by decide))) hI106
      have I125 : jI107 σ96 := jI107_fr ((f99 12 (by decide)).trans (congrFun (f10 55 (by decide)) 12)) ((f99 47 (by decide)).trans (congrFun (f10 55 (by decide)) 47)) ((f98 80 (by decide)).trans (f10 80 (by decide))) hI107
      have I126 : jI109 σ96 := jI109_fr ((f99 50 (by decide)).trans (congrFun (f10 55 (by decide)) 50)) hI109
      have I127 : jI110 σ96 := jI110_fr ((f98 86 (by decide)).trans (f10 86 (by decide))) ((f98 87 (by decide)).trans (f10 87 (by decide))) hI110
      have I128 : jI111 σ96 := jI111_fr ((f98 79 (by decide)).trans (f10 79 (by decide))) hI111
      have I129 : jI119 σ96 := jI119_fr ((f98 68 (by decide)).trans (f10 68 (by decide))) hI119
      have p130 : jKept σ96 := jKept.fr ((f98 75 (by decide)).trans (f10 75 (by decide))) ((f98 76 (by decide)).trans (f10 76 (by decide))) ((f98 77 (by decide)).trans (f10 77 (by decide))) hs_jKept
      have p131 : jBook σ96 := jBook.fr ((f99 47 (by decide)).trans (congrFun (f10 55 (by decide)) 47)) ((f99 10 (by decide)).trans (congrFun (f10 55 (by decide)) 10)) ((f98 81 (by decide)).trans (f10 81 (by decide))) hs_jBook
      have z132 : (σ96 2 0).toInt = (σ 2 0).toInt := (congrArg Int32.toInt (show σ96 2 0 = (σ 2 0) from ((congrFun (f98 2 (by decide)) 0).trans (f11 0 (by decide)))))
      have z133 : (σ96 55 6).toInt = (σ 55 6).toInt := (congrArg Int32.toInt (show σ96 55 6 = (σ 55 6) from ((f99 6 (by decide)).trans (congrFun (f10 55 (by decide)) 6))))
      exact ih x108 σ96 τ _ _ ls (by have h9 := tx108; omega) ⟨I109, I110, I111, I112, I113, I114, I115, I116, I117, I118, I119, I100, I120, I121, I122, I123, I124, I125, I126, I127, I128, I129, p130, p131, (by omega)⟩ hP hS (lv_sub hl [0, 1, 2, 3] rfl)
    · obtain ⟨q135, k134⟩ := h102
      refine lv_pop hx hb dL_law_278 rfl ?_
      refine lv_goto (tgt := 1357) hx hb dL_law_279 (by decide) ?_
      obtain ⟨x136, ex136⟩ : ∃ y : Int32, y = x0 + 6 := ⟨_, rfl⟩
      have tx136 : x136.toInt = x0.toInt + 6 := (jadd ex136 rfl jz_6 (by omega) (by omega)).trans (by omega)
      refine lv_iinc (v := x136) (lv' := [(3, .int x136), (2, .ref (ad 55)), (1, .ref (ad 0)), (0, .ref b)]) hx hb dL_law_1357 hl (k := 0) rfl (by rw [ex136]; rfl) (by decide) rfl (fun ls hl => ?_)
      refine lv_goto (tgt := 18) hx hb dL_law_1360 (by decide) ?_
      have I137 : jI2 σ96 := jI2_fr (congrFun (f98 2 (by decide)) 0) (congrFun (f98 2 (by decide)) 1) (congrFun (f98 2 (by decide)) 2) (congrFun (f98 2 (by decide)) 3) (f98 6 (by decide)) I12
      have I138 : jI9 σ96 := jI9_fr ((congrFun (f98 9 (by decide)) 0).trans (congrFun (f10 9 (by decide)) 0)) ((f98 10 (by decide)).trans (f10 10 (by decide))) ((f98 11 (by decide)).trans (f10 11 (by decide))) hI9
      have I139 : jI12 σ96 := jI12_fr ((congrFun (f98 12 (by decide)) 0).trans (congrFun (f10 12 (by decide)) 0)) ((f98 13 (by decide)).trans (f10 13 (by decide))) hI12
      have I140 : jI16 σ96 := jI16_fr ((congrFun (f98 16 (by decide)) 0).trans (congrFun (f10 16 (by decide)) 0)) ((congrFun (f98 16 (by decide)) 1).trans (congrFun (f10 16 (by decide)) 1)) ((congrFun (f98 16 (by decide)) 2).trans (congrFun (f10 16 (by decide)) 2)) ((f98 17 (by decide)).trans (f10 17 (by decide))) hI16
      have I141 : jI18 σ96 := jI18_fr ((congrFun (f98 18 (by decide)) 0).trans (congrFun (f10 18 (by decide)) 0)) ((f98 19 (by decide)).trans (f10 19 (by decide))) hI18
      have I142 : jI22 σ96 := jI22_fr ((congrFun (f98 22 (by decide)) 0).trans (congrFun (f10 22 (by decide)) 0)) ((f98 23 (by decide)).trans (f10 23 (by decide))) hI22
      have I143 : jI31 σ96 := jI31_fr ((congrFun (f98 31 (by decide)) 8).trans (congrFun (f10 31 (by decide)) 8)) ((f98 33 (by decide)).trans (f10 33 (by decide))) ((f98 36 (by decide)).trans (f10 36 (by decide))) hI31
      have I144 : jI38 σ96 := jI38_fr ((congrFun (f98 38 (by decide)) 0).trans (congrFun (f10 38 (by decide)) 0)) ((congrFun (f98 38 (by decide)) 1).trans (congrFun (f10 38 (by decide)) 1)) ((f98 39 (by decide)).trans (f10 39 (by decide))) hI38
      have I145 : jI43 σ96 := jI43_fr ((congrFun (f98 43 (by decide)) 8).trans (congrFun (f10 43 (by decide)) 8)) hI43
      have I146 : jI47 σ96 := jI47_fr ((congrFun (f98 47 (by decide)) 0).trans (congrFun (f10 47 (by decide)) 0)) ((f98 49 (by decide)).trans (f10 49 (by decide))) hI47
      have I147 : jI50 σ96 := jI50_fr ((f98 52 (by decide)).trans (f10 52 (by decide))) hI50
      have I148 : jI102 σ96 := jI102_fr (f99 6 (by decide)) (f98 60 (by decide)) (f98 61 (by decide)) I93
      have I149 : jI103 σ96 := jI103_fr ((f99 9 (by decide)).trans (congrFun (f10 55 (by decide)) 9)) hI103
      have I150 : jI104 σ96 := jI104_fr ((f99 10 (by decide)).trans (congrFun (f10 55 (by decide)) 10)) ((f99 12 (by decide)).trans (congrFun (f10 55 (by decide)) 12)) ((f99 13 (by decide)).trans (congrFun (f10 55 (by decide)) 13)) ((f98 62 (by decide)).trans (f10 62 (by decide))) ((f98 67 (by decide)).trans (f10 67 (by decide))) hI104
      have I151 : jI105 σ96 := jI105_fr ((f99 15 (by decide)).trans (congrFun (f10 55 (by decide)) 15)) ((f98 65 (by decide)).trans (f10 65 (by decide))) hI105
      have I152 : jI106 σ96 := jI106_fr ((f99 32 (by decide)).trans (congrFun (f10 55 (by decide)) 32)) ((f98 70 (by decide)).trans (f10 70 (by decide))) ((f98 71 (by decide)).trans (f10 71 (by decide))) ((f98 72 (by decide)).trans (f10 72 (by decide))) hI106
      have I153 : jI107 σ96 := jI107_fr ((f99 12 (by decide)).trans (congrFun (f10 55 (by decide)) 12)) ((f99 47 (by decide)).trans (congrFun (f10 55 (by decide)) 47)) ((f98 80 (by decide)).trans (f10 80 (by decide))) hI107
      have I154 : jI109 σ96 := jI109_fr ((f99 50 (by decide)).trans (congrFun (f10 55 (by decide)) 50)) hI109
      have I155 : jI110 σ96 := jI110_fr ((f98 86 (by decide)).trans (f10 86 (by decide))) ((f98 87 (by decide)).trans (f10 87 (by decide))) hI110
      have I156 : jI111 σ96 := jI111_fr ((f98 79 (by decide)).trans (f10 79 (by decide))) hI111
      have I157 : jI119 σ96 := jI119_fr ((f98 68 (by decide)).trans (f10 68 (by decide))) hI119
      have p158 : jKept σ96 := jKept.fr ((f98 75 (by decide)).trans (f10 75 (by decide))) ((f98 76 (by decide)).trans (f10 76 (by decide))) ((f98 77 (by decide)).trans (f10 77 (by decide))) hs_jKept
      have p159 : jBook σ96 := jBook.fr ((f99 47 (by decide)).trans (congrFun (f10 55 (by decide)) 47)) ((f99 10 (by decide)).trans (congrFun (f10 55 (by decide)) 10)) ((f98 81 (by decide)).trans (f10 81 (by decide))) hs_jBook
      have z160 : (σ96 2 0).toInt = (σ 2 0).toInt := (congrArg Int32.toInt (show σ96 2 0 = (σ 2 0) from ((congrFun (f98 2 (by decide)) 0).trans (f11 0 (by decide)))))
      have z161 : (σ96 55 6).toInt = (σ 55 6).toInt := (congrArg Int32.toInt (show σ96 55 6 = (σ 55 6) from ((f99 6 (by decide)).trans (congrFun (f10 55 (by decide)) 6))))
      exact ih x136 σ96 τ _ _ ls (by have h9 := tx136; omega) ⟨I137, I138, I139, I140, I141, I142, I143, I144, I145, I146, I147, I100, I148, I149, I150, I151, I152, I153, I154, I155, I156, I157, p158, p159, (by omega)⟩ hP hS (lv_sub hl [0, 1, 2, 3] rfl)
set_option maxHeartbeats 4000000 in
set_option maxRecDepth 100000 in
theorem law_case_2 {p : Program} {e : Env} {s : State} {m : MethodId} {below : List Frame} {meth : Method} {c : Code} (l : Launch) {b L : Nat} {xs : Nat → Int32} {D : va_G} {cI cL : ClassId} {ad zz : Nat → Nat} (C0 : lw_At p s m meth c b L xs) (hJ : jD ad) (hA : ∀ q, jA ad q → s.heap.size ≤ q) (hK : jK D cI cL s) (hZ : jZ zz (fun q : Nat => s.heap.size ≤ q) s s.heap) {x0 : Int32} (hx0 : 0 ≤ x0.toInt) (hxL : x0.toInt + 6 ≤ (L : Int)) (hL : L ≤ 384) {σ : Nat → Nat → Int32} {τ : Nat → Nat → Int64} {H : Heap} {locs : List Loc} (hS : va_S (fun q : Nat => s.heap.size ≤ q) s.heap H locs) {ls : Array Slot} (hAll : jAll σ τ) (hP : jH D cI cL ad σ τ H) (hl : lv_has ls 4 [(3, .int x0), (2, .ref (ad 55)), (1, .ref (ad 0)), (0, .ref b)]) (ih : ∀ (x1 : Int32) (σ : Nat → Nat → Int32) (τ : Nat → Nat → Int64) (H : Heap) (locs : List Loc) (ls : Array Slot), x1.toInt = x0.toInt + 6 → jAll σ τ → jH D cI cL ad σ τ H → va_S (fun q : Nat => s.heap.size ≤ q) s.heap H locs → lv_has ls 4 [(3, .int x1), (2, .ref (ad 55)), (1, .ref (ad 0)), (0, .ref b)] → W p l e room_1 s m #[Value.ref b] below meth c H locs 90 348600 (lw_Z below #[Value.ref b] s) (F0 m 18 ls [])) : W p l e room_1 s m #[Value.ref b] below meth c H locs 90 348600 (lw_Z below #[Value.ref b] s) (F0 m 282 ls []) := by
  obtain ⟨hx, hb, hr, hml, hown, hts0, hX, hbl, hlocks, hgv⟩ := C0
  have hts : ∀ w ∈ wsL_law, w.before #[Value.ref b] s = true := fun w h => hts0 w (wsL_law_in w h)
  have hbA : ¬ (fun q : Nat => s.heap.size ≤ q) b := Nat.not_le.mpr hbl
  have hown : s.vm.findClass RL = some m.cls := hown
  obtain ⟨hI2, hI9, hI12, hI16, hI18, hI22, hI31, hI38, hI43, hI47, hI50, hI101, hI102, hI103, hI104, hI105, hI106, hI107, hI109, hI110, hI111, hI119, hs_jKept, hs_jBook, ht0⟩ := hAll
  have hL9 : (L : Int) ≤ 384 := by omega
  refine lv_aload_n hx hb dL_law_282 rfl (lv_at hl 2 rfl) ?_
  refine lv_aload_n hx hb dL_law_283 rfl (lv_at hl 3 rfl) ?_
  refine lv_iload_n hx hb dL_law_284 rfl (lv_at hl 0 rfl) ?_
  refine lv_iconst (v := 1) hx hb dL_law_285 (by decide) ?_
  have g1 := jrg (rfl : x0.toInt = x0.toInt)
  refine lv_iadd hx hb dL_law_286 ?_
  refine lv_topi (fun x2 ex2 => ?_)
  have tx2 : x2.toInt = x0.toInt + 1 := (jadd ex2 rfl jz_1 (by omega) (by omega)).trans (by omega)
  refine va_sld hx hb hX hbl hbA hS (jin tx2 (by omega) (by omega)) dL_law_287 ?_
  have g3 := jrg (rfl : (xs x2.toNatClampNeg).toInt = (xs x2.toNatClampNeg).toInt)
  refine lv_aload_n hx hb dL_law_288 rfl (lv_at hl 3 rfl) ?_
  refine lv_iload_n hx hb dL_law_289 rfl (lv_at hl 0 rfl) ?_
  refine lv_iconst (v := 2) hx hb dL_law_290 (by decide) ?_
  refine lv_iadd hx hb dL_law_291 ?_
  refine lv_topi (fun x4 ex4 => ?_)
  have tx4 : x4.toInt = x0.toInt + 2 := (jadd ex4 rfl jz_2 (by omega) (by omega)).trans (by omega)
  refine va_sld hx hb hX hbl hbA hS (jin tx4 (by omega) (by omega)) dL_law_292 ?_
  have g5 := jrg (rfl : (xs x4.toNatClampNeg).toInt = (xs x4.toNatClampNeg).toInt)
  refine lv_aload_n hx hb dL_law_293 rfl (lv_at hl 3 rfl) ?_
  refine lv_iload_n hx hb dL_law_294 rfl (lv_at hl 0 rfl) ?_
  refine lv_iconst (v := 3) hx hb dL_law_295 (by decide) ?_
  refine lv_iadd hx hb dL_law_296 ?_
  refine lv_topi (fun x6 ex6 => ?_)
  have tx6 : x6.toInt = x0.toInt + 3 := (jadd ex6 rfl jz_3 (by omega) (by omega)).trans (by omega)
  refine va_sld hx hb hX hbl hbA hS (jin tx6 (by omega) (by omega)) dL_law_297 ?_
  have g7 := jrg (rfl : (xs x6.toNatClampNeg).toInt = (xs x6.toNatClampNeg).toInt)
  refine jcallV (As := [.int (xs x2.toNatClampNeg), .int (xs x4.toNatClampNeg), .int (xs x6.toNatClampNeg)]) (rest := []) ⟨hx, hb, hml, hown, hts⟩ hK hP hA hS hZ (c_X11_field l D cI cL ad zz hJ σ τ (xs x2.toNatClampNeg) ((xs x2.toNatClampNeg).toInt) rfl (xs x4.toNatClampNeg) ((xs x4.toNatClampNeg).toInt) rfl (xs x6.toNatClampNeg) ((xs x6.toNatClampNeg).toInt) rfl hI2) cw_RL_22 (jc_0 cI cL ad σ τ) rfl ⟨Nat.le_of_ble_eq_true rfl, Nat.le_of_ble_eq_true rfl⟩ rfl rfl rfl hl.1 rfl (Nat.le_of_ble_eq_true rfl) dL_law_298 ⟨Nat.le_of_ble_eq_true rfl, Nat.le_of_ble_eq_true rfl⟩ (fun r9 σ8 τ8 H locs h8 hP hS => ?_)
  obtain ⟨rfl, f10, f11, I12, h8⟩ := h8
  rcases h8 with h13 | h14
  · obtain ⟨q19, k15, k16, k17, k18⟩ := h13
    have q19 := q19.symm
    subst q19
    refine lv_pop hx hb dL_law_301 rfl ?_
    refine lv_aload_n hx hb dL_law_302 rfl (lv_at hl 1 rfl) ?_
    refine lv_aload_n hx hb dL_law_303 rfl (lv_at hl 3 rfl) ?_
    refine lv_iload_n hx hb dL_law_304 rfl (lv_at hl 0 rfl) ?_
    refine lv_iconst (v := 1) hx hb dL_law_305 (by decide) ?_
    refine lv_iadd hx hb dL_law_306 ?_
    refine jtopr ex2.symm ?_
    refine va_sld hx hb hX hbl hbA hS (jin tx2 (by omega) (by omega)) dL_law_307 ?_
    refine lv_aload_n hx hb dL_law_308 rfl (lv_at hl 3 rfl) ?_
    refine lv_iload_n hx hb dL_law_309 rfl (lv_at hl 0 rfl) ?_
    refine lv_iconst (v := 2) hx hb dL_law_310 (by decide) ?_
    refine lv_iadd hx hb dL_law_311 ?_
    refine jtopr ex4.symm ?_
    refine va_sld hx hb hX hbl hbA hS (jin tx4 (by omega) (by omega)) dL_law_312 ?_
    refine lv_aload_n hx hb dL_law_313 rfl (lv_at hl 3 rfl) ?_
    refine lv_iload_n hx hb dL_law_314 rfl (lv_at hl 0 rfl) ?_
    refine lv_iconst (v := 3) hx hb dL_law_315 (by decide) ?_
    refine lv_iadd hx hb dL_law_316 ?_
    refine jtopr ex6.symm ?_
    refine va_sld hx hb hX hbl hbA hS (jin tx6 (by omega) (by omega)) dL_law_317 ?_
    have I20 : jI101 σ8 := jI101_fr (congrFun (f10 55 (by decide)) 4) (congrFun (f10 55 (by decide)) 5) (f10 56 (by decide)) (f10 57 (by decide)) (f10 58 (by decide)) (f10 59 (by decide)) hI101
    have z21 : (σ8 55 5).toInt = (σ 55 5).toInt := (congrArg Int32.toInt (show σ8 55 5 = (σ 55 5) from (congrFun (f10 55 (by decide)) 5)))
    have z22 : (σ8 55 4).toInt = (σ 55 4).toInt := (congrArg Int32.toInt (show σ8 55 4 = (σ 55 4) from (congrFun (f10 55 (by decide)) 4)))
    refine jcallV (As := [.int (xs x2.toNatClampNeg), .int (xs x4.toNatClampNeg), .int (xs x6.toNatClampNeg)]) (rest := []) ⟨hx, hb, hml, hown, hts⟩ hK hP hA hS hZ (c_X12_field l D cI cL ad zz hJ σ8 τ (xs x2.toNatClampNeg) ((xs x2.toNatClampNeg).toInt) rfl (xs x4.toNatClampNeg) ((xs x4.toNatClampNeg).toInt) rfl (xs x6.toNatClampNeg) ((xs x6.toNatClampNeg).toInt) rfl I20) cw_RL_25 (jc_55 cI cL ad σ8 τ) rfl ⟨Nat.le_of_ble_eq_true rfl, Nat.le_of_ble_eq_true rfl⟩ rfl rfl rfl hl.1 rfl (Nat.le_of_ble_eq_true rfl) dL_law_318 ⟨Nat.le_of_ble_eq_true rfl, Nat.le_of_ble_eq_true rfl⟩ (fun r24 σ23 τ23 H locs h23 hP hS => ?_)
    obtain ⟨rfl, f25, f26, I27, h23⟩ := h23
    rcases h23 with h28 | h29
    · obtain ⟨q34, k30, k31, k32, k33⟩ := h28
      have q34 := q34.symm
      subst q34
      refine lv_pop hx hb dL_law_321 rfl ?_
      refine lv_goto (tgt := 1357) hx hb dL_law_322 (by decide) ?_
      obtain ⟨x35, ex35⟩ : ∃ y : Int32, y = x0 + 6 := ⟨_, rfl⟩
      have tx35 : x35.toInt = x0.toInt + 6 := (jadd ex35 rfl jz_6 (by omega) (by omega)).trans (by omega)
      refine lv_iinc (v := x35) (lv' := [(3, .int x35), (2, .ref (ad 55)), (1, .ref (ad 0)), (0, .ref b)]) hx hb dL_law_1357 hl (k := 0) rfl (by rw [ex35]; rfl) (by decide) rfl (fun ls hl => ?_)
      refine lv_goto (tgt := 18) hx hb dL_law_1360 (by decide) ?_
      have I36 : jI2 σ23 := jI2_fr (congrFun (f25 2 (by decide)) 0) (congrFun (f25 2 (by decide)) 1) (congrFun (f25 2 (by decide)) 2) (congrFun (f25 2 (by decide)) 3) (f25 6 (by decide)) I12
      have I37 : jI9 σ23 := jI9_fr ((congrFun (f25 9 (by decide)) 0).trans (congrFun (f10 9 (by decide)) 0)) ((f25 10 (by decide)).trans (f10 10 (by decide))) ((f25 11 (by decide)).trans (f10 11 (by decide))) hI9
      have I38 : jI12 σ23 := jI12_fr ((congrFun (f25 12 (by decide)) 0).trans (congrFun (f10 12 (by decide)) 0)) ((f25 13 (by decide)).trans (f10 13 (by decide))) hI12
      have I39 : jI16 σ23 := jI16_fr ((congrFun (f25 16 (by decide)) 0).trans (congrFun (f10 16 (by decide)) 0)) ((congrFun (f25 16 (by decide)) 1).trans (congrFun (f10 16 (by decide)) 1)) ((congrFun (f25 16 (by decide)) 2).trans (congrFun (f10 16 (by decide)) 2)) ((f25 17 (by decide)).trans (f10 17 (by decide))) hI16
      have I40 : jI18 σ23 := jI18_fr ((congrFun (f25 18 (by decide)) 0).trans (congrFun (f10 18 (by decide)) 0)) ((f25 19 (by decide)).trans (f10 19 (by decide))) hI18
      have I41 : jI22 σ23 := jI22_fr ((congrFun (f25 22 (by decide)) 0).trans (congrFun (f10 22 (by decide)) 0)) ((f25 23 (by decide)).trans (f10 23 (by decide))) hI22
      have I42 : jI31 σ23 := jI31_fr ((congrFun (f25 31 (by decide)) 8).trans (congrFun (f10 31 (by decide)) 8)) ((f25 33 (by decide)).trans (f10 33 (by decide))) ((f25 36 (by decide)).trans (f10 36 (by decide))) hI31
      have I43 : jI38 σ23 := jI38_fr ((congrFun (f25 38 (by decide)) 0).trans (congrFun (f10 38 (by decide)) 0)) ((congrFun (f25 38 (by decide)) 1).trans (congrFun (f10 38 (by decide)) 1)) ((f25 39 (by decide)).trans (f10 39 (by decide))) hI38
      have I44 : jI43 σ23 := jI43_fr ((congrFun (f25 43 (by decide)) 8).trans (congrFun (f10 43 (by decide)) 8)) hI43
      have I45 : jI47 σ23 := jI47_fr ((congrFun (f25 47 (by decide)) 0).trans (congrFun (f10 47 (by decide)) 0)) ((f25 49 (by decide)).trans (f10 49 (by decide))) hI47
      have I46 : jI50 σ23 := jI50_fr ((f25 52 (by decide)).trans (f10 52 (by decide))) hI50
      have I47 : jI102 σ23 := jI102_fr ((f26 6 (by decide)).trans (congrFun (f10 55 (by decide)) 6)) ((f25 60 (by decide)).trans (f10 60 (by decide))) ((f25 61 (by decide)).trans (f10 61 (by decide))) hI102
      have I48 : jI103 σ23 := jI103_fr ((f26 9 (by decide)).trans (congrFun (f10 55 (by decide)) 9)) hI103
      have I49 : jI104 σ23 := jI104_fr ((f26 10 (by decide)).trans (congrFun (f10 55 (by decide)) 10)) ((f26 12 (by decide)).trans (congrFun (f10 55 (by decide)) 12)) ((f26 13 (by decide)).trans (congrFun (f10 55 (by decide)) 13)) ((f25 62 (by decide)).trans (f10 62 (by decide))) ((f25 67 (by decide)).trans (f10 67 (by decide))) hI104
      have I50 : jI105 σ23 := jI105_fr ((f26 15 (by decide)).trans (congrFun (f10 55 (by decide)) 15)) ((f25 65 (by decide)).trans (f10 65 (by decide))) hI105
      have I51 : jI106 σ23 := jI106_fr ((f26 32 (by decide)).trans (congrFun (f10 55 (by decide)) 32)) ((f25 70 (by decide)).trans (f10 70 (by decide))) ((f25 71 (by decide)).trans (f10 71 (by decide))) ((f25 72 (by decide)).trans (f10 72 (by decide))) hI106
      have I52 : jI107 σ23 := jI107_fr ((f26 12 (by decide)).trans (congrFun (f10 55 (by decide)) 12)) ((f26 47 (by decide)).trans (congrFun (f10 55 (by decide)) 47)) ((f25 80 (by decide)).trans (f10 80 (by decide))) hI107
      have I53 : jI109 σ23 := jI109_fr ((f26 50 (by decide)).trans (congrFun (f10 55 (by decide)) 50)) hI109
      have I54 : jI110 σ23 := jI110_fr ((f25 86 (by decide)).trans (f10 86 (by decide))) ((f25 87 (by decide)).trans (f10 87 (by decide))) hI110
      have I55 : jI111 σ23 := jI111_fr ((f25 79 (by decide)).trans (f10 79 (by decide))) hI111
      have I56 : jI119 σ23 := jI119_fr ((f25 68 (by decide)).trans (f10 68 (by decide))) hI119
      have p57 : jKept σ23 := jKept.fr ((f25 75 (by decide)).trans (f10 75 (by decide))) ((f25 76 (by decide)).trans (f10 76 (by decide))) ((f25 77 (by decide)).trans (f10 77 (by decide))) hs_jKept
      have p58 : jBook σ23 := jBook.fr ((f26 47 (by decide)).trans (congrFun (f10 55 (by decide)) 47)) ((f26 10 (by decide)).trans (congrFun (f10 55 (by decide)) 10)) ((f25 81 (by decide)).trans (f10 81 (by decide))) hs_jBook
      have z59 : (σ23 2 0).toInt = (σ 2 0).toInt := (congrArg Int32.toInt (show σ23 2 0 = (σ 2 0) from ((congrFun (f25 2 (by decide)) 0).trans (f11 0 (by decide)))))
      have z60 : (σ23 55 6).toInt = (σ 55 6).toInt := (congrArg Int32.toInt (show σ23 55 6 = (σ 55 6) from ((f26 6 (by decide)).trans (congrFun (f10 55 (by decide)) 6))))
      exact ih x35 σ23 τ _ _ ls (by have h9 := tx35; omega) ⟨I36, I37, I38, I39, I40, I41, I42, I43, I44, I45, I46, I27, I47, I48, I49, I50, I51, I52, I53, I54, I55, I56, p57, p58, (by omega)⟩ hP hS (lv_sub hl [0, 1, 2, 3] rfl)
    · obtain ⟨q62, k61⟩ := h29
      refine lv_pop hx hb dL_law_321 rfl ?_
      refine lv_goto (tgt := 1357) hx hb dL_law_322 (by decide) ?_
      obtain ⟨x63, ex63⟩ : ∃ y : Int32, y = x0 + 6 := ⟨_, rfl⟩
      have tx63 : x63.toInt = x0.toInt + 6 := (jadd ex63 rfl jz_6 (by omega) (by omega)).trans (by omega)
      refine lv_iinc (v := x63) (lv' := [(3, .int x63), (2, .ref (ad 55)), (1, .ref (ad 0)), (0, .ref b)]) hx hb dL_law_1357 hl (k := 0) rfl (by rw [ex63]; rfl) (by decide) rfl (fun ls hl => ?_)
      refine lv_goto (tgt := 18) hx hb dL_law_1360 (by decide) ?_
      have I64 : jI2 σ23 := jI2_fr (congrFun (f25 2 (by decide)) 0) (congrFun (f25 2 (by decide)) 1) (congrFun (f25 2 (by decide)) 2) (congrFun (f25 2 (by decide)) 3) (f25 6 (by decide)) I12
      have I65 : jI9 σ23 := jI9_fr ((congrFun (f25 9 (by decide)) 0).trans (congrFun (f10 9 (by decide)) 0)) ((f25 10 (by decide)).trans (f10 10 (by decide))) ((f25 11 (by decide)).trans (f10 11 (by decide))) hI9
      have I66 : jI12 σ23 := jI12_fr ((congrFun (f25 12 (by decide)) 0).trans (congrFun (f10 12 (by decide)) 0)) ((f25 13 (by decide)).trans (f10 13 (by decide))) hI12
      have I67 : jI16 σ23 := jI16_fr ((congrFun (f25 16 (by decide)) 0).trans (congrFun (f10 16 (by decide)) 0)) ((congrFun (f25 16 (by decide)) 1).trans (congrFun (f10 16 (by decide)) 1)) ((congrFun (f25 16 (by decide)) 2).trans (congrFun (f10 16 (by decide)) 2)) ((f25 17 (by decide)).trans (f10 17 (by decide))) hI16
      have I68 : jI18 σ23 := jI18_fr ((congrFun (f25 18 (by decide)) 0).trans (congrFun (f10 18 (by decide)) 0)) ((f25 19 (by decide)).trans (f10 19 (by decide))) hI18
      have I69 : jI22 σ23 := jI22_fr ((congrFun (f25 22 (by decide)) 0).trans (congrFun (f10 22 (by decide)) 0)) ((f25 23 (by decide)).trans (f10 23 (by decide))) hI22
      have I70 : jI31 σ23 := jI31_fr ((congrFun (f25 31 (by decide)) 8).trans (congrFun (f10 31 (by decide)) 8)) ((f25 33 (by decide)).trans (f10 33 (by decide))) ((f25 36 (by decide)).trans (f10 36 (by decide))) hI31
      have I71 : jI38 σ23 := jI38_fr ((congrFun (f25 38 (by decide)) 0).trans (congrFun (f10 38 (by decide)) 0)) ((congrFun (f25 38 (by decide)) 1).trans (congrFun (f10 38 (by decide)) 1)) ((f25 39 (by decide)).trans (f10 39 (by decide))) hI38
      have I72 : jI43 σ23 := jI43_fr ((congrFun (f25 43 (by decide)) 8).trans (congrFun (f10 43 (by decide)) 8)) hI43
      have I73 : jI47 σ23 := jI47_fr ((congrFun (f25 47 (by decide)) 0).trans (congrFun (f10 47 (by decide)) 0)) ((f25 49 (by decide)).trans (f10 49 (by decide))) hI47
      have I74 : jI50 σ23 := jI50_fr ((f25 52 (by decide)).trans (f10 52 (by decide))) hI50
      have I75 : jI102 σ23 := jI102_fr ((f26 6 (by decide)).trans (congrFun (f10 55 (by decide)) 6)) ((f25 60 (by decide)).trans (f10 60 (by decide))) ((f25 61 (by decide)).trans (f10 61 (by decide))) hI102
      have I76 : jI103 σ23 := jI103_fr ((f26 9 (by decide)).trans (congrFun (f10 55 (by decide)) 9)) hI103
      have I77 : jI104 σ23 := jI104_fr ((f26 10 (by decide)).trans (congrFun (f10 55 (by decide)) 10)) ((f26 12 (by decide)).trans (congrFun (f10 55 (by decide)) 12)) ((f26 13 (by decide)).trans (congrFun (f10 55 (by decide)) 13)) ((f25 62 (by decide)).trans (f10 62 (by decide))) ((f25 67 (by decide)).trans (f10 67 (by decide))) hI104
      have I78 : jI105 σ23 := jI105_fr ((f26 15 (by decide)).trans (congrFun (f10 55 (by decide)) 15)) ((f25 65 (by decide)).trans (f10 65 (by decide))) hI105
      have I79 : jI106 σ23 := jI106_fr ((f26 32 (by decide)).trans (congrFun (f10 55 (by decide)) 32)) ((f25 70 (by decide)).trans (f10 70 (by decide))) ((f25 71 (by decide)).trans (f10 71 (by decide))) ((f25 72 (by decide)).trans (f10 72 (by decide))) hI106
      have I80 : jI107 σ23 := jI107_fr ((f26 12 (by decide)).trans (congrFun (f10 55 (by decide)) 12)) ((f26 47 (by decide)).trans (congrFun (f10 55 (by decide)) 47)) ((f25 80 (by decide)).trans (f10 80 (by decide))) hI107
      have I81 : jI109 σ23 := jI109_fr ((f26 50 (by decide)).trans (congrFun (f10 55 (by decide)) 50)) hI109
      have I82 : jI110 σ23 := jI110_fr ((f25 86 (by decide)).trans (f10 86 (by decide))) ((f25 87 (by decide)).trans (f10 87 (by decide))) hI110
      have I83 : jI111 σ23 := jI111_fr ((f25 79 (by decide)).trans (f10 79 (by decide))) hI111
      have I84 : jI119 σ23 := jI119_fr ((f25 68 (by decide)).trans (f10 68 (by decide))) hI119
      have p85 : jKept σ23 := jKept.fr ((f25 75 (by decide)).trans (f10 75 (by decide))) ((f25 76 (by decide)).trans (f10 76 (by decide))) ((f25 77 (by decide)).trans (f10 77 (by decide))) hs_jKept
      have p86 : jBook σ23 := jBook.fr ((f26 47 (by decide)).trans (congrFun (f10 55 (by decide)) 47)) ((f26 10 (by decide)).trans (congrFun (f10 55 (by decide)) 10)) ((f25 81 (by decide)).trans (f10 81 (by decide))) hs_jBook
      have z87 : (σ23 2 0).toInt = (σ 2 0).toInt := (congrArg Int32.toInt (show σ23 2 0 = (σ 2 0) from ((congrFun (f25 2 (by decide)) 0).trans (f11 0 (by decide)))))
      have z88 : (σ23 55 6).toInt = (σ 55 6).toInt := (congrArg Int32.toInt (show σ23 55 6 = (σ 55 6) from ((f26 6 (by decide)).trans (congrFun (f10 55 (by decide)) 6))))
      exact ih x63 σ23 τ _ _ ls (by have h9 := tx63; omega) ⟨I64, I65, I66, I67, I68, I69, I70, I71, I72, I73, I74, I27, I75, I76, I77, I78, I79, I80, I81, I82, I83, I84, p85, p86, (by omega)⟩ hP hS (lv_sub hl [0, 1, 2, 3] rfl)
  · obtain ⟨q90, k89⟩ := h14
    refine lv_pop hx hb dL_law_301 rfl ?_
    refine lv_aload_n hx hb dL_law_302 rfl (lv_at hl 1 rfl) ?_
    refine lv_aload_n hx hb dL_law_303 rfl (lv_at hl 3 rfl) ?_
    refine lv_iload_n hx hb dL_law_304 rfl (lv_at hl 0 rfl) ?_
    refine lv_iconst (v := 1) hx hb dL_law_305 (by decide) ?_
    refine lv_iadd hx hb dL_law_306 ?_
    refine jtopr ex2.symm ?_
    refine va_sld hx hb hX hbl hbA hS (jin tx2 (by omega) (by omega)) dL_law_307 ?_
    refine lv_aload_n hx hb dL_law_308 rfl (lv_at hl 3 rfl) ?_
    refine lv_iload_n hx hb dL_law_309 rfl (lv_at hl 0 rfl) ?_
    refine lv_iconst (v := 2) hx hb dL_law_310 (by decide) ?_
    refine lv_iadd hx hb dL_law_311 ?_
    refine jtopr ex4.symm ?_
    refine va_sld hx hb hX hbl hbA hS (jin tx4 (by omega) (by omega)) dL_law_312 ?_
    refine lv_aload_n hx hb dL_law_313 rfl (lv_at hl 3 rfl) ?_
    refine lv_iload_n hx hb dL_law_314 rfl (lv_at hl 0 rfl) ?_
    refine lv_iconst (v := 3) hx hb dL_law_315 (by decide) ?_
    refine lv_iadd hx hb dL_law_316 ?_
    refine jtopr ex6.symm ?_
    refine va_sld hx hb hX hbl hbA hS (jin tx6 (by omega) (by omega)) dL_law_317 ?_
    have I91 : jI101 σ8 := jI101_fr (congrFun (f10 55 (by decide)) 4) (congrFun (f10 55 (by decide)) 5) (f10 56 (by decide)) (f10 57 (by decide)) (f10 58 (by decide)) (f10 59 (by decide)) hI101
    have z92 : (σ8 55 5).toInt = (σ 55 5).toInt := (congrArg Int32.toInt (show σ8 55 5 = (σ 55 5) from (congrFun (f10 55 (by decide)) 5)))
    have z93 : (σ8 55 4).toInt = (σ 55 4).toInt := (congrArg Int32.toInt (show σ8 55 4 = (σ 55 4) from (congrFun (f10 55 (by decide)) 4)))
    refine jcallV (As := [.int (xs x2.toNatClampNeg), .int (xs x4.toNatClampNeg), .int (xs x6.toNatClampNeg)]) (rest := []) ⟨hx, hb, hml, hown, hts⟩ hK hP hA hS hZ (c_X12_field l D cI cL ad zz hJ σ8 τ (xs x2.toNatClampNeg) ((xs x2.toNatClampNeg).toInt) rfl (xs x4.toNatClampNeg) ((xs x4.toNatClampNeg).toInt) rfl (xs x6.toNatClampNeg) ((xs x6.toNatClampNeg).toInt) rfl I91) cw_RL_25 (jc_55 cI cL ad σ8 τ) rfl ⟨Nat.le_of_ble_eq_true rfl, Nat.le_of_ble_eq_true rfl⟩ rfl rfl rfl hl.1 rfl (Nat.le_of_ble_eq_true rfl) dL_law_318 ⟨Nat.le_of_ble_eq_true rfl, Nat.le_of_ble_eq_true rfl⟩ (fun r95 σ94 τ94 H locs h94 hP hS => ?_)
    obtain ⟨rfl, f96, f97, I98, h94⟩ := h94
    rcases h94 with h99 | h100
    · obtain ⟨q105, k101, k102, k103, k104⟩ := h99
      have q105 := q105.symm
      subst q105
      refine lv_pop hx hb dL_law_321 rfl ?_
      refine lv_goto (tgt := 1357) hx hb dL_law_322 (by decide) ?_
      obtain ⟨x106, ex106⟩ : ∃ y : Int32, y = x0 + 6 := ⟨_, rfl⟩
      have tx106 : x106.toInt = x0.toInt + 6 := (jadd ex106 rfl jz_6 (by omega) (by omega)).trans (by omega)
      refine lv_iinc (v := x106) (lv' := [(3, .int x106), (2, .ref (ad 55)), (1, .ref (ad 0)), (0, .ref b)]) hx hb dL_law_1357 hl (k := 0) rfl (by rw [ex106]; rfl) (by decide) rfl (fun ls hl => ?_)
      refine lv_goto (tgt := 18) hx hb dL_law_1360 (by decide) ?_
      have I107 : jI2 σ94 := jI2_fr (congrFun (f96 2 (by decide)) 0) (congrFun (f96 2 (by decide)) 1) (congrFun (f96 2 (by decide)) 2) (congrFun (f96 2 (by decide)) 3) (f96 6 (by decide)) I12
      have I108 : jI9 σ94 := jI9_fr ((congrFun (f96 9 (by decide)) 0).trans (congrFun (f10 9 (by decide)) 0)) ((f96 10 (by decide)).trans (f10 10 (by decide))) ((f96 11 (by decide)).trans (f10 11 (by decide))) hI9
      have I109 : jI12 σ94 := jI12_fr ((congrFun (f96 12 (by decide)) 0).trans (congrFun (f10 12 (by decide)) 0)) ((f96 13 (by decide)).trans (f10 13 (by decide))) hI12
      have I110 : jI16 σ94 := jI16_fr ((congrFun (f96 16 (by decide)) 0).trans (congrFun (f10 16 (by decide)) 0)) ((congrFun (f96 16 (by decide)) 1).trans (congrFun (f10 16 (by decide)) 1)) ((congrFun (f96 16 (by decide)) 2).trans (congrFun (f10 16 (by decide)) 2)) ((f96 17 (by decide)).trans (f10 17 (by decide))) hI16
      have I111 : jI18 σ94 := jI18_fr ((congrFun (f96 18 (by decide)) 0).trans (congrFun (f10 18 (by decide)) 0)) ((f96 19 (by decide)).trans (f10 19 (by decide))) hI18
      have I112 : jI22 σ94 := jI22_fr ((congrFun (f96 22 (by decide)) 0).trans (congrFun (f10 22 (by decide)) 0)) ((f96 23 (by decide)).trans (f10 23 (by decide))) hI22
      have I113 : jI31 σ94 := jI31_fr ((congrFun (f96 31 (by decide)) 8).trans (congrFun (f10 31 (by decide)) 8)) ((f96 33 (by decide)).trans (f10 33 (by decide))) ((f96 36 (by decide)).trans (f10 36 (by decide))) hI31
      have I114 : jI38 σ94 := jI38_fr ((congrFun (f96 38 (by decide)) 0).trans (congrFun (f10 38 (by decide)) 0)) ((congrFun (f96 38 (by decide)) 1).trans (congrFun (f10 38 (by decide)) 1)) ((f96 39 (by decide)).trans (f10 39 (by decide))) hI38
      have I115 : jI43 σ94 := jI43_fr ((congrFun (f96 43 (by decide)) 8).trans (congrFun (f10 43 (by decide)) 8)) hI43
      have I116 : jI47 σ94 := jI47_fr ((congrFun (f96 47 (by decide)) 0).trans (congrFun (f10 47 (by decide)) 0)) ((f96 49 (by decide)).trans (f10 49 (by decide))) hI47
      have I117 : jI50 σ94 := jI50_fr ((f96 52 (by decide)).trans (f10 52 (by decide))) hI50
      have I118 : jI102 σ94 := jI102_fr ((f97 6 (by decide)).trans (congrFun (f10 55 (by decide)) 6)) ((f96 60 (by decide)).trans (f10 60 (by decide))) ((f96 61 (by decide)).trans (f10 61 (by decide))) hI102
      have I119 : jI103 σ94 := jI103_fr ((f97 9 (by decide)).trans (congrFun (f10 55 (by decide)) 9)) hI103
      have I120 : jI104 σ94 := jI104_fr ((f97 10 (by decide)).trans (congrFun (f10 55 (by decide)) 10)) ((f97 12 (by decide)).trans (congrFun (f10 55 (by decide)) 12)) ((f97 13 (by decide)).trans (congrFun (f10 55 (by decide)) 13)) ((f96 62 (by decide)).trans (f10 62 (by decide))) ((f96 67 (by decide)).trans (f10 67 (by decide))) hI104
      have I121 : jI105 σ94 := jI105_fr ((f97 15 (by decide)).trans (congrFun (f10 55 (by decide)) 15)) ((f96 65 (by decide)).trans (f10 65 (by decide))) hI105
      have I122 : jI106 σ94 := jI106_fr ((f97 32 (by decide)).trans (congrFun (f10 55 (by decide)) 32)) ((f96 70 (by decide)).trans (f10 70 (by decide))) ((f96 71 (by decide)).trans (f10 71 (by decide))) ((f96 72 (by decide)).trans (f10 72 (by decide))) hI106
      have I123 : jI107 σ94 := jI107_fr ((f97 12 (by decide)).trans (congrFun (f10 55 (by decide)) 12)) ((f97 47 (by decide)).trans (congrFun (f10 55 (by decide)) 47)) ((f96 80 (by decide)).trans (f10 80 (by decide))) hI107
      have I124 : jI109 σ94 := jI109_fr ((f97 50 (by decide)).trans (congrFun (f10 55 (by decide)) 50)) hI109
      have I125 : jI110 σ94 := jI110_fr ((f96 86 (by decide)).trans (f10 86 (by decide))) ((f96 87 (by decide)).trans (f10 87 (by decide))) hI110
      have I126 : jI111 σ94 := jI111_fr ((f96 79 (by decide)).trans (f10 79 (by decide))) hI111
      have I127 : jI119 σ94 := jI119_fr ((f96 68 (by decide)).trans (f10 68 (by decide))) hI119
      have p128 : jKept σ94 := jKept.fr ((f96 75 (by decide)).trans (f10 75 (by decide))) ((f96 76 (by decide)).trans (f10 76 (by decide))) ((f96 77 (by decide)).trans (f10 77 (by decide))) hs_jKept
      have p129 : jBook σ94 := jBook.fr ((f97 47 (by decide)).trans (congrFun (f10 55 (by decide)) 47)) ((f97 10 (by decide)).trans (congrFun (f10 55 (by decide)) 10)) ((f96 81 (by decide)).trans (f10 81 (by decide))) hs_jBook
      have z130 : (σ94 2 0).toInt = (σ 2 0).toInt := (congrArg Int32.toInt (show σ94 2 0 = (σ 2 0) from ((congrFun (f96 2 (by decide)) 0).trans (f11 0 (by decide)))))
      have z131 : (σ94 55 6).toInt = (σ 55 6).toInt := (congrArg Int32.toInt (show σ94 55 6 = (σ 55 6) from ((f97 6 (by decide)).trans (congrFun (f10 55 (by decide)) 6))))
      exact ih x106 σ94 τ _ _ ls (by have h9 := tx106; omega) ⟨I107, I108, I109, I110, I111, I112, I113, I114, I115, I116, I117, I98, I118, I119, I120, I121, I122, I123, I124, I125, I126, I127, p128, p129, (by omega)⟩ hP hS (lv_sub hl [0, 1, 2, 3] rfl)
    · obtain ⟨q133, k132⟩ := h100
      refine lv_pop hx hb dL_law_321 rfl ?_
      refine lv_goto (tgt := 1357) hx hb dL_law_322 (by decide) ?_
      obtain ⟨x134, ex134⟩ : ∃ y : Int32, y = x0 + 6 := ⟨_, rfl⟩
      have tx134 : x134.toInt = x0.toInt + 6 := (jadd ex134 rfl jz_6 (by omega) (by omega)).trans (by omega)
      refine lv_iinc (v := x134) (lv' := [(3, .int x134), (2, .ref (ad 55)), (1, .ref (ad 0)), (0, .ref b)]) hx hb dL_law_1357 hl (k := 0) rfl (by rw [ex134]; rfl) (by decide) rfl (fun ls hl => ?_)
      refine lv_goto (tgt := 18) hx hb dL_law_1360 (by decide) ?_
      have I135 : jI2 σ94 := jI2_fr (congrFun (f96 2 (by decide)) 0) (congrFun (f96 2 (by decide)) 1) (congrFun (f96 2 (by decide)) 2) (congrFun (f96 2 (by decide)) 3) (f96 6 (by decide)) I12
      have I136 : jI9 σ94 := jI9_fr ((congrFun (f96 9 (by decide)) 0).trans (congrFun (f10 9 (by decide)) 0)) ((f96 10 (by decide)).trans (f10 10 (by decide))) ((f96 11 (by decide)).trans (f10 11 (by decide))) hI9
      have I137 : jI12 σ94 := jI12_fr ((congrFun (f96 12 (by decide)) 0).trans (congrFun (f10 12 (by decide)) 0)) ((f96 13 (by decide)).trans (f10 13 (by decide))) hI12
      have I138 : jI16 σ94 := jI16_fr ((congrFun (f96 16 (by decide)) 0).trans (congrFun (f10 16 (by decide)) 0)) ((congrFun (f96 16 (by decide)) 1).trans (congrFun (f10 16 (by decide)) 1)) ((congrFun (f96 16 (by decide)) 2).trans (congrFun (f10 16 (by decide)) 2)) ((f96 17 (by decide)).trans (f10 17 (by decide))) hI16
      have I139 : jI18 σ94 := jI18_fr ((congrFun (f96 18 (by decide)) 0).trans (congrFun (f10 18 (by decide)) 0)) ((f96 19 (by decide)).trans (f10 19 (by decide))) hI18
      have I140 : jI22 σ94 := jI22_fr ((congrFun (f96 22 (by decide)) 0).trans (congrFun (f10 22 (by decide)) 0)) ((f96 23 (by decide)).trans (f10 23 (by decide))) hI22
      have I141 : jI31 σ94 := jI31_fr ((congrFun (f96 31 (by decide)) 8).trans (congrFun (f10 31 (by decide)) 8)) ((f96 33 (by decide)).trans (f10 33 (by decide))) ((f96 36 (by decide)).trans (f10 36 (by decide))) hI31
      have I142 : jI38 σ94 := jI38_fr ((congrFun (f96 38 (by decide)) 0).trans (congrFun (f10 38 (by decide)) 0)) ((congrFun (f96 38 (by decide)) 1).trans (congrFun (f10 38 (by decide)) 1)) ((f96 39 (by decide)).trans (f10 39 (by decide))) hI38
      have I143 : jI43 σ94 := jI43_fr ((congrFun (f96 43 (by decide)) 8).trans (congrFun (f10 43 (by decide)) 8)) hI43
      have I144 : jI47 σ94 := jI47_fr ((congrFun (f96 47 (by decide)) 0).trans (congrFun (f10 47 (by decide)) 0)) ((f96 49 (by decide)).trans (f10 49 (by decide))) hI47
      have I145 : jI50 σ94 := jI50_fr ((f96 52 (by decide)).trans (f10 52 (by decide))) hI50
      have I146 : jI102 σ94 := jI102_fr ((f97 6 (by decide)).trans (congrFun (f10 55 (by decide)) 6)) ((f96 60 (by decide)).trans (f10 60 (by decide))) ((f96 61 (by decide)).trans (f10 61 (by decide))) hI102
      have I147 : jI103 σ94 := jI103_fr ((f97 9 (by decide)).trans (congrFun (f10 55 (by decide)) 9)) hI103
      have I148 : jI104 σ94 := jI104_fr ((f97 10 (by decide)).trans (congrFun (f10 55 (by decide)) 10)) ((f97 12 (by decide)).trans (congrFun (f10 55 (by decide)) 12)) ((f97 13 (by decide)).trans (congrFun (f10 55 (by decide)) 13)) ((f96 62 (by decide)).trans (f10 62 (by decide))) ((f96 67 (by decide)).trans (f10 67 (by decide))) hI104
      have I149 : jI105 σ94 := jI105_fr ((f97 15 (by decide)).trans (congrFun (f10 55 (by decide)) 15)) ((f96 65 (by decide)).trans (f10 65 (by decide))) hI105
      have I150 : jI106 σ94 := jI106_fr ((f97 32 (by decide)).trans (congrFun (f10 55 (by decide)) 32)) ((f96 70 (by decide)).trans (f10 70 (by decide))) ((f96 71 (by decide)).trans (f10 71 (by decide))) ((f96 72 (by decide)).trans (f10 72 (by decide))) hI106
      have I151 : jI107 σ94 := jI107_fr ((f97 12 (by decide)).trans (congrFun (f10 55 (by decide)) 12)) ((f97 47 (by decide)).trans (congrFun (f10 55 (by decide)) 47)) ((f96 80 (by decide)).trans (f10 80 (by decide))) hI107
      have I152 : jI109 σ94 := jI109_fr ((f97 50 (by decide)).trans (congrFun (f10 55 (by decide)) 50)) hI109
      have I153 : jI110 σ94 := jI110_fr ((f96 86 (by decide)).trans (f10 86 (by decide))) ((f96 87 (by decide)).trans (f10 87 (by decide))) hI110
      have I154 : jI111 σ94 := jI111_fr ((f96 79 (by decide)).trans (f10 79 (by decide))) hI111
      have I155 : jI119 σ94 := jI119_fr ((f96 68 (by decide)).trans (f10 68 (by decide))) hI119
      have p156 : jKept σ94 := jKept.fr ((f96 75 (by decide)).trans (f10 75 (by decide))) ((f96 76 (by decide)).trans (f10 76 (by decide))) ((f96 77 (by decide)).trans (f10 77 (by decide))) hs_jKept
      have p157 : jBook σ94 := jBook.fr ((f97 47 (by decide)).trans (congrFun (f10 55 (by decide)) 47)) ((f97 10 (by decide)).trans (congrFun (f10 55 (by decide)) 10)) ((f96 81 (by decide)).trans (f10 81 (by decide))) hs_jBook
      have z158 : (σ94 2 0).toInt = (σ 2 0).toInt := (congrArg Int32.toInt (show σ94 2 0 = (σ 2 0) from ((congrFun (f96 2 (by decide)) 0).trans (f11 0 (by decide)))))
      have z159 : (σ94 55 6).toInt = (σ 55 6).toInt := (congrArg Int32.toInt (show σ94 55 6 = (σ 55 6) from ((f97 6 (by decide)).trans (congrFun (f10 55 (by decide)) 6))))
      exact ih x134 σ94 τ _ _ ls (by have h9 := tx134; omega) ⟨I135, I136, I137, I138, I139, I140, I141, I142, I143, I144, I145, I98, I146, I147, I148, I149, I150, I151, I152, I153, I154, I155, p156, p157, (by omega)⟩ hP hS (lv_sub hl [0, 1, 2, 3] rfl)
set_option maxHeartbeats 4000000 in
set_option maxRecDepth 100000 in
theorem law_case_3 {p : Program} {e : Env} {s : State} {m : MethodId} {below : List Frame} {meth : Method} {c : Code} (l : Launch) {b L : Nat} {xs : Nat → Int32} {D : va_G} {cI cL : ClassId} {ad zz : Nat → Nat} (C0 : lw_At p s m meth c b L xs) (hJ : jD ad) (hA : ∀ q, jA ad q → s.heap.size ≤ q) (hK : jK D cI cL s) (hZ : jZ zz (fun q : Nat => s.heap.size ≤ q) s s.heap) {x0 : Int32} (hx0 : 0 ≤ x0.toInt) (hxL : x0.toInt + 6 ≤ (L : Int)) (hL : L ≤ 384) {σ : Nat → Nat → Int32} {τ : Nat → Nat → Int64} {H : Heap} {locs : List Loc} (hS : va_S (fun q : Nat => s.heap.size ≤ q) s.heap H locs) {ls : Array Slot} (hAll : jAll σ τ) (hP : jH D cI cL ad σ τ H) (hl : lv_has ls 4 [(3, .int x0), (2, .ref (ad 55)), (1, .ref (ad 0)), (0, .ref b)]) (ih : ∀ (x1 : Int32) (σ : Nat → Nat → Int32) (τ : Nat → Nat → Int64) (H : Heap) (locs : List Loc) (ls : Array Slot), x1.toInt = x0.toInt + 6 → jAll σ τ → jH D cI cL ad σ τ H → va_S (fun q : Nat => s.heap.size ≤ q) s.heap H locs → lv_has ls 4 [(3, .int x1), (2, .ref (ad 55)), (1, .ref (ad 0)), (0, .ref b)] → W p l e room_1 s m #[Value.ref b] below meth c H locs 90 348600 (lw_Z below #[Value.ref b] s) (F0 m 18 ls [])) : W p l e room_1 s m #[Value.ref b] below meth c H locs 90 348600 (lw_Z below #[Value.ref b] s) (F0 m 325 ls []) := by
  obtain ⟨hx, hb, hr, hml, hown, hts0, hX, hbl, hlocks, hgv⟩ := C0
  have hts : ∀ w ∈ wsL_law, w.before #[Value.ref b] s = true := fun w h => hts0 w (wsL_law_in w h)
  have hbA : ¬ (fun q : Nat => s.heap.size ≤ q) b := Nat.not_le.mpr hbl
  have hown : s.vm.findClass RL = some m.cls := hown
  obtain ⟨hI2, hI9, hI12, hI16, hI18, hI22, hI31, hI38, hI43, hI47, hI50, hI101, hI102, hI103, hI104, hI105, hI106, hI107, hI109, hI110, hI111, hI119, hs_jKept, hs_jBook, ht0⟩ := hAll
  have hL9 : (L : Int) ≤ 384 := by omega
  refine lv_aload_n hx hb dL_law_325 rfl (lv_at hl 2 rfl) ?_
  refine lv_aload_n hx hb dL_law_326 rfl (lv_at hl 3 rfl) ?_
  refine lv_iload_n hx hb dL_law_327 rfl (lv_at hl 0 rfl) ?_
  refine lv_iconst (v := 1) hx hb dL_law_328 (by decide) ?_
  have g1 := jrg (rfl : x0.toInt = x0.toInt)
  refine lv_iadd hx hb dL_law_329 ?_
  refine lv_topi (fun x2 ex2 => ?_)
  have tx2 : x2.toInt = x0.toInt + 1 := (jadd ex2 rfl jz_1 (by omega) (by omega)).trans (by omega)
  refine va_sld hx hb hX hbl hbA hS (jin tx2 (by omega) (by omega)) dL_law_330 ?_
  have g3 := jrg (rfl : (xs x2.toNatClampNeg).toInt = (xs x2.toNatClampNeg).toInt)
  refine jcallV (As := [.int (xs x2.toNatClampNeg)]) (rest := []) ⟨hx, hb, hml, hown, hts⟩ hK hP hA hS hZ (c_X11_set l D cI cL ad zz hJ σ τ (xs x2.toNatClampNeg) ((xs x2.toNatClampNeg).toInt) rfl hI2) cw_RL_26 (jc_0 cI cL ad σ τ) rfl ⟨Nat.le_of_ble_eq_true rfl, Nat.le_of_ble_eq_true rfl⟩ rfl rfl rfl hl.1 rfl (Nat.le_of_ble_eq_true rfl) dL_law_331 ⟨Nat.le_of_ble_eq_true rfl, Nat.le_of_ble_eq_true rfl⟩ (fun r5 σ4 τ4 H locs h4 hP hS => ?_)
  obtain ⟨rfl, f6, f7, I8, h4⟩ := h4
  rcases h4 with h9 | h10
  · obtain ⟨q14, k11, k12, k13⟩ := h9
    refine lv_pop hx hb dL_law_334 rfl ?_
    refine lv_aload_n hx hb dL_law_335 rfl (lv_at hl 1 rfl) ?_
    refine lv_aload_n hx hb dL_law_336 rfl (lv_at hl 3 rfl) ?_
    refine lv_iload_n hx hb dL_law_337 rfl (lv_at hl 0 rfl) ?_
    refine lv_iconst (v := 1) hx hb dL_law_338 (by decide) ?_
    refine lv_iadd hx hb dL_law_339 ?_
    refine jtopr ex2.symm ?_
    refine va_sld hx hb hX hbl hbA hS (jin tx2 (by omega) (by omega)) dL_law_340 ?_
    have I15 : jI103 σ4 := jI103_fr (congrFun (f6 55 (by decide)) 9) hI103
    have z16 : (σ4 55 9).toInt = (σ 55 9).toInt := (congrArg Int32.toInt (show σ4 55 9 = (σ 55 9) from (congrFun (f6 55 (by decide)) 9)))
    refine jcallV (As := [.int (xs x2.toNatClampNeg)]) (rest := []) ⟨hx, hb, hml, hown, hts⟩ hK hP hA hS hZ (c_X12_set l D cI cL ad zz hJ σ4 τ (xs x2.toNatClampNeg) ((xs x2.toNatClampNeg).toInt) rfl I15) cw_RL_30 (jc_55 cI cL ad σ4 τ) rfl ⟨Nat.le_of_ble_eq_true rfl, Nat.le_of_ble_eq_true rfl⟩ rfl rfl rfl hl.1 rfl (Nat.le_of_ble_eq_true rfl) dL_law_341 ⟨Nat.le_of_ble_eq_true rfl, Nat.le_of_ble_eq_true rfl⟩ (fun r18 σ17 τ17 H locs h17 hP hS => ?_)
    obtain ⟨rfl, f19, f20, I21, h17⟩ := h17
    rcases h17 with h22 | h23
    · obtain ⟨q27, k24, k25, k26⟩ := h22
      refine lv_pop hx hb dL_law_344 rfl ?_
      refine lv_goto (tgt := 1357) hx hb dL_law_345 (by decide) ?_
      obtain ⟨x28, ex28⟩ : ∃ y : Int32, y = x0 + 6 := ⟨_, rfl⟩
      have tx28 : x28.toInt = x0.toInt + 6 := (jadd ex28 rfl jz_6 (by omega) (by omega)).trans (by omega)
      refine lv_iinc (v := x28) (lv' := [(3, .int x28), (2, .ref (ad 55)), (1, .ref (ad 0)), (0, .ref b)]) hx hb dL_law_1357 hl (k := 0) rfl (by rw [ex28]; rfl) (by decide) rfl (fun ls hl => ?_)
      refine lv_goto (tgt := 18) hx hb dL_law_1360 (by decide) ?_
      have I29 : jI2 σ17 := jI2_fr (congrFun (f19 2 (by decide)) 0) (congrFun (f19 2 (by decide)) 1) (congrFun (f19 2 (by decide)) 2) (congrFun (f19 2 (by decide)) 3) (f19 6 (by decide)) I8
      have I30 : jI9 σ17 := jI9_fr ((congrFun (f19 9 (by decide)) 0).trans (congrFun (f6 9 (by decide)) 0)) ((f19 10 (by decide)).trans (f6 10 (by decide))) ((f19 11 (by decide)).trans (f6 11 (by decide))) hI9
      have I31 : jI12 σ17 := jI12_fr ((congrFun (f19 12 (by decide)) 0).trans (congrFun (f6 12 (by decide)) 0)) ((f19 13 (by decide)).trans (f6 13 (by decide))) hI12
      have I32 : jI16 σ17 := jI16_fr ((congrFun (f19 16 (by decide)) 0).trans (congrFun (f6 16 (by decide)) 0)) ((congrFun (f19 16 (by decide)) 1).trans (congrFun (f6 16 (by decide)) 1)) ((congrFun (f19 16 (by decide)) 2).trans (congrFun (f6 16 (by decide)) 2)) ((f19 17 (by decide)).trans (f6 17 (by decide))) hI16
      have I33 : jI18 σ17 := jI18_fr ((congrFun (f19 18 (by decide)) 0).trans (congrFun (f6 18 (by decide)) 0)) ((f19 19 (by decide)).trans (f6 19 (by decide))) hI18
      have I34 : jI22 σ17 := jI22_fr ((congrFun (f19 22 (by decide)) 0).trans (congrFun (f6 22 (by decide)) 0)) ((f19 23 (by decide)).trans (f6 23 (by decide))) hI22
      have I35 : jI31 σ17 := jI31_fr ((congrFun (f19 31 (by decide)) 8).trans (congrFun (f6 31 (by decide)) 8)) ((f19 33 (by decide)).trans (f6 33 (by decide))) ((f19 36 (by decide)).trans (f6 36 (by decide))) hI31
      have I36 : jI38 σ17 := jI38_fr ((congrFun (f19 38 (by decide)) 0).trans (congrFun (f6 38 (by decide)) 0)) ((congrFun (f19 38 (by decide)) 1).trans (congrFun (f6 38 (by decide)) 1)) ((f19 39 (by decide)).trans (f6 39 (by decide))) hI38
      have I37 : jI43 σ17 := jI43_fr ((congrFun (f19 43 (by decide)) 8).trans (congrFun (f6 43 (by decide)) 8)) hI43
      have I38 : jI47 σ17 := jI47_fr ((congrFun (f19 47 (by decide)) 0).trans (congrFun (f6 47 (by decide)) 0)) ((f19 49 (by decide)).trans (f6 49 (by decide))) hI47
      have I39 : jI50 σ17 := jI50_fr ((f19 52 (by decide)).trans (f6 52 (by decide))) hI50
      have I40 : jI101 σ17 := jI101_fr ((f20 4 (by decide)).trans (congrFun (f6 55 (by decide)) 4)) ((f20 5 (by decide)).trans (congrFun (f6 55 (by decide)) 5)) ((f19 56 (by decide)).trans (f6 56 (by decide))) ((f19 57 (by decide)).trans (f6 57 (by decide))) ((f19 58 (by decide)).trans (f6 58 (by decide))) ((f19 59 (by decide)).trans (f6 59 (by decide))) hI101
      have I41 : jI102 σ17 := jI102_fr ((f20 6 (by decide)).trans (congrFun (f6 55 (by decide)) 6)) ((f19 60 (by decide)).trans (f6 60 (by decide))) ((f19 61 (by decide)).trans (f6 61 (by decide))) hI102
      have I42 : jI104 σ17 := jI104_fr ((f20 10 (by decide)).trans (congrFun (f6 55 (by decide)) 10)) ((f20 12 (by decide)).trans (congrFun (f6 55 (by decide)) 12)) ((f20 13 (by decide)).trans (congrFun (f6 55 (by decide)) 13)) ((f19 62 (by decide)).trans (f6 62 (by decide))) ((f19 67 (by decide)).trans (f6 67 (by decide))) hI104
      have I43 : jI105 σ17 := jI105_fr ((f20 15 (by decide)).trans (congrFun (f6 55 (by decide)) 15)) ((f19 65 (by decide)).trans (f6 65 (by decide))) hI105
      have I44 : jI106 σ17 := jI106_fr ((f20 32 (by decide)).trans (congrFun (f6 55 (by decide)) 32)) ((f19 70 (by decide)).trans (f6 70 (by decide))) ((f19 71 (by decide)).trans (f6 71 (by decide))) ((f19 72 (by decide)).trans (f6 72 (by decide))) hI106
      have I45 : jI107 σ17 := jI107_fr ((f20 12 (by decide)).trans (congrFun (f6 55 (by decide)) 12)) ((f20 47 (by decide)).trans (congrFun (f6 55 (by decide)) 47)) ((f19 80 (by decide)).trans (f6 80 (by decide))) hI107
      have I46 : jI109 σ17 := jI109_fr ((f20 50 (by decide)).trans (congrFun (f6 55 (by decide)) 50)) hI109
      have I47 : jI110 σ17 := jI110_fr ((f19 86 (by decide)).trans (f6 86 (by decide))) ((f19 87 (by decide)).trans (f6 87 (by decide))) hI110
      have I48 : jI111 σ17 := jI111_fr ((f19 79 (by decide)).trans (f6 79 (by decide))) hI111
      have I49 : jI119 σ17 := jI119_fr ((f19 68 (by decide)).trans (f6 68 (by decide))) hI119
      have p50 : jKept σ17 := jKept.fr ((f19 75 (by decide)).trans (f6 75 (by decide))) ((f19 76 (by decide)).trans (f6 76 (by decide))) ((f19 77 (by decide)).trans (f6 77 (by decide))) hs_jKept
      have p51 : jBook σ17 := jBook.fr ((f20 47 (by decide)).trans (congrFun (f6 55 (by decide)) 47)) ((f20 10 (by decide)).trans (congrFun (f6 55 (by decide)) 10)) ((f19 81 (by decide)).trans (f6 81 (by decide))) hs_jBook
      have z52 : (σ17 2 0).toInt = (σ 2 0).toInt := (congrArg Int32.toInt (show σ17 2 0 = (σ 2 0) from ((congrFun (f19 2 (by decide)) 0).trans (f7 0 (by decide)))))
      have z53 : (σ17 55 6).toInt = (σ 55 6).toInt := (congrArg Int32.toInt (show σ17 55 6 = (σ 55 6) from ((f20 6 (by decide)).trans (congrFun (f6 55 (by decide)) 6))))
      exact ih x28 σ17 τ _ _ ls (by have h9 := tx28; omega) ⟨I29, I30, I31, I32, I33, I34, I35, I36, I37, I38, I39, I40, I41, I21, I42, I43, I44, I45, I46, I47, I48, I49, p50, p51, (by omega)⟩ hP hS (lv_sub hl [0, 1, 2, 3] rfl)
    · obtain ⟨q56, k54, k55⟩ := h23
      exact absurd (by omega : False) id
  · obtain ⟨q59, k57, k58⟩ := h10
    have q59 := q59.symm
    subst q59
    refine lv_pop hx hb dL_law_334 rfl ?_
    refine lv_aload_n hx hb dL_law_335 rfl (lv_at hl 1 rfl) ?_
    refine lv_aload_n hx hb dL_law_336 rfl (lv_at hl 3 rfl) ?_
    refine lv_iload_n hx hb dL_law_337 rfl (lv_at hl 0 rfl) ?_
    refine lv_iconst (v := 1) hx hb dL_law_338 (by decide) ?_
    refine lv_iadd hx hb dL_law_339 ?_
    refine jtopr ex2.symm ?_
    refine va_sld hx hb hX hbl hbA hS (jin tx2 (by omega) (by omega)) dL_law_340 ?_
    have I60 : jI103 σ4 := jI103_fr (congrFun (f6 55 (by decide)) 9) hI103
    have z61 : (σ4 55 9).toInt = (σ 55 9).toInt := (congrArg Int32.toInt (show σ4 55 9 = (σ 55 9) from (congrFun (f6 55 (by decide)) 9)))
    refine jcallV (As := [.int (xs x2.toNatClampNeg)]) (rest := []) ⟨hx, hb, hml, hown, hts⟩ hK hP hA hS hZ (c_X12_set l D cI cL ad zz hJ σ4 τ (xs x2.toNatClampNeg) ((xs x2.toNatClampNeg).toInt) rfl I60) cw_RL_30 (jc_55 cI cL ad σ4 τ) rfl ⟨Nat.le_of_ble_eq_true rfl, Nat.le_of_ble_eq_true rfl⟩ rfl rfl rfl hl.1 rfl (Nat.le_of_ble_eq_true rfl) dL_law_341 ⟨Nat.le_of_ble_eq_true rfl, Nat.le_of_ble_eq_true rfl⟩ (fun r63 σ62 τ62 H locs h62 hP hS => ?_)
    obtain ⟨rfl, f64, f65, I66, h62⟩ := h62
    rcases h62 with h67 | h68
    · obtain ⟨q72, k69, k70, k71⟩ := h67
      exact absurd (by omega : False) id
    · obtain ⟨q75, k73, k74⟩ := h68
      have q75 := q75.symm
      subst q75
      refine lv_pop hx hb dL_law_344 rfl ?_
      refine lv_goto (tgt := 1357) hx hb dL_law_345 (by decide) ?_
      obtain ⟨x76, ex76⟩ : ∃ y : Int32, y = x0 + 6 := ⟨_, rfl⟩
      have tx76 : x76.toInt = x0.toInt + 6 := (jadd ex76 rfl jz_6 (by omega) (by omega)).trans (by omega)
      refine lv_iinc (v := x76) (lv' := [(3, .int x76), (2, .ref (ad 55)), (1, .ref (ad 0)), (0, .ref b)]) hx hb dL_law_1357 hl (k := 0) rfl (by rw [ex76]; rfl) (by decide) rfl (fun ls hl => ?_)
      refine lv_goto (tgt := 18) hx hb dL_law_1360 (by decide) ?_
      have I77 : jI2 σ62 := jI2_fr (congrFun (f64 2 (by decide)) 0) (congrFun (f64 2 (by decide)) 1) (congrFun (f64 2 (by decide)) 2) (congrFun (f64 2 (by decide)) 3) (f64 6 (by decide)) I8
      have I78 : jI9 σ62 := jI9_fr ((congrFun (f64 9 (by decide)) 0).trans (congrFun (f6 9 (by decide)) 0)) ((f64 10 (by decide)).trans (f6 10 (by decide))) ((f64 11 (by decide)).trans (f6 11 (by decide))) hI9
      have I79 : jI12 σ62 := jI12_fr ((congrFun (f64 12 (by decide)) 0).trans (congrFun (f6 12 (by decide)) 0)) ((f64 13 (by decide)).trans (f6 13 (by decide))) hI12
      have I80 : jI16 σ62 := jI16_fr ((congrFun (f64 16 (by decide)) 0).trans (congrFun (f6 16 (by decide)) 0)) ((congrFun (f64 16 (by decide)) 1).trans (congrFun (f6 16 (by decide)) 1)) ((congrFun (f64 16 (by decide)) 2).trans (congrFun (f6 16 (by decide)) 2)) ((f64 17 (by decide)).trans (f6 17 (by decide))) hI16
      have I81 : jI18 σ62 := jI18_fr ((congrFun (f64 18 (by decide)) 0).trans (congrFun (f6 18 (by decide)) 0)) ((f64 19 (by decide)).trans (f6 19 (by decide))) hI18
      have I82 : jI22 σ62 := jI22_fr ((congrFun (f64 22 (by decide)) 0).trans (congrFun (f6 22 (by decide)) 0)) ((f64 23 (by decide)).trans (f6 23 (by decide))) hI22
      have I83 : jI31 σ62 := jI31_fr ((congrFun (f64 31 (by decide)) 8).trans (congrFun (f6 31 (by decide)) 8)) ((f64 33 (by decide)).trans (f6 33 (by decide))) ((f64 36 (by decide)).trans (f6 36 (by decide))) hI31
      have I84 : jI38 σ62 := jI38_fr ((congrFun (f64 38 (by decide)) 0).trans (congrFun (f6 38 (by decide)) 0)) ((congrFun (f64 38 (by decide)) 1).trans (congrFun (f6 38 (by decide)) 1)) ((f64 39 (by decide)).trans (f6 39 (by decide))) hI38
      have I85 : jI43 σ62 := jI43_fr ((congrFun (f64 43 (by decide)) 8).trans (congrFun (f6 43 (by decide)) 8)) hI43
      have I86 : jI47 σ62 := jI47_fr ((congrFun (f64 47 (by decide)) 0).trans (congrFun (f6 47 (by decide)) 0)) ((f64 49 (by decide)).trans (f6 49 (by decide))) hI47
      have I87 : jI50 σ62 := jI50_fr ((f64 52 (by decide)).trans (f6 52 (by decide))) hI50
      have I88 : jI101 σ62 := jI101_fr ((f65 4 (by decide)).trans (congrFun (f6 55 (by decide)) 4)) ((f65 5 (by decide)).trans (congrFun (f6 55 (by decide)) 5)) ((f64 56 (by decide)).trans (f6 56 (by decide))) ((f64 57 (by decide)).trans (f6 57 (by decide))) ((f64 58 (by decide)).trans (f6 58 (by decide))) ((f64 59 (by decide)).trans (f6 59 (by decide))) hI101
      have I89 : jI102 σ62 := jI102_fr ((f65 6 (by decide)).trans (congrFun (f6 55 (by decide)) 6)) ((f64 60 (by decide)).trans (f6 60 (by decide))) ((f64 61 (by decide)).trans (f6 61 (by decide))) hI102
      have I90 : jI104 σ62 := jI104_fr ((f65 10 (by decide)).trans (congrFun (f6 55 (by decide)) 10)) ((f65 12 (by decide)).trans (congrFun (f6 55 (by decide)) 12)) ((f65 13 (by decide)).trans (congrFun (f6 55 (by decide)) 13)) ((f64 62 (by decide)).trans (f6 62 (by decide))) ((f64 67 (by decide)).trans (f6 67 (by decide))) hI104
      have I91 : jI105 σ62 := jI105_fr ((f65 15 (by decide)).trans (congrFun (f6 55 (by decide)) 15)) ((f64 65 (by decide)).trans (f6 65 (by decide))) hI105
      have I92 : jI106 σ62 := jI106_fr ((f65 32 (by decide)).trans (congrFun (f6 55 (by decide)) 32)) ((f64 70 (by decide)).trans (f6 70 (by decide))) ((f64 71 (by decide)).trans (f6 71 (by decide))) ((f64 72 (by decide)).trans (f6 72 (by decide))) hI106
      have I93 : jI107 σ62 := jI107_fr ((f65 12 (by decide)).trans (congrFun (f6 55 (by decide)) 12)) ((f65 47 (by decide)).trans (congrFun (f6 55 (by decide)) 47)) ((f64 80 (by decide)).trans (f6 80 (by decide))) hI107
      have I94 : jI109 σ62 := jI109_fr ((f65 50 (by decide)).trans (congrFun (f6 55 (by decide)) 50)) hI109
      have I95 : jI110 σ62 := jI110_fr ((f64 86 (by decide)).trans (f6 86 (by decide))) ((f64 87 (by decide)).trans (f6 87 (by decide))) hI110
      have I96 : jI111 σ62 := jI111_fr ((f64 79 (by decide)).trans (f6 79 (by decide))) hI111
      have I97 : jI119 σ62 := jI119_fr ((f64 68 (by decide)).trans (f6 68 (by decide))) hI119
      have p98 : jKept σ62 := jKept.fr ((f64 75 (by decide)).trans (f6 75 (by decide))) ((f64 76 (by decide)).trans (f6 76 (by decide))) ((f64 77 (by decide)).trans (f6 77 (by decide))) hs_jKept
      have p99 : jBook σ62 := jBook.fr ((f65 47 (by decide)).trans (congrFun (f6 55 (by decide)) 47)) ((f65 10 (by decide)).trans (congrFun (f6 55 (by decide)) 10)) ((f64 81 (by decide)).trans (f6 81 (by decide))) hs_jBook
      have z100 : (σ62 2 0).toInt = (σ 2 0).toInt := (congrArg Int32.toInt (show σ62 2 0 = (σ 2 0) from ((congrFun (f64 2 (by decide)) 0).trans (f7 0 (by decide)))))
      have z101 : (σ62 55 6).toInt = (σ 55 6).toInt := (congrArg Int32.toInt (show σ62 55 6 = (σ 55 6) from ((f65 6 (by decide)).trans (congrFun (f6 55 (by decide)) 6))))
      exact ih x76 σ62 τ _ _ ls (by have h9 := tx76; omega) ⟨I77, I78, I79, I80, I81, I82, I83, I84, I85, I86, I87, I88, I89, I66, I90, I91, I92, I93, I94, I95, I96, I97, p98, p99, (by omega)⟩ hP hS (lv_sub hl [0, 1, 2, 3] rfl)
set_option maxHeartbeats 4000000 in
set_option maxRecDepth 100000 in
theorem law_case_4 {p : Program} {e : Env} {s : State} {m : MethodId} {below : List Frame} {meth : Method} {c : Code} (l : Launch) {b L : Nat} {xs : Nat → Int32} {D : va_G} {cI cL : ClassId} {ad zz : Nat → Nat} (C0 : lw_At p s m meth c b L xs) (hJ : jD ad) (hA : ∀ q, jA ad q → s.heap.size ≤ q) (hK : jK D cI cL s) (hZ : jZ zz (fun q : Nat => s.heap.size ≤ q) s s.heap) {x0 : Int32} (hx0 : 0 ≤ x0.toInt) (hxL : x0.toInt + 6 ≤ (L : Int)) (hL : L ≤ 384) {σ : Nat → Nat → Int32} {τ : Nat → Nat → Int64} {H : Heap} {locs : List Loc} (hS : va_S (fun q : Nat => s.heap.size ≤ q) s.heap H locs) {ls : Array Slot} (hAll : jAll σ τ) (hP : jH D cI cL ad σ τ H) (hl : lv_has ls 4 [(3, .int x0), (2, .ref (ad 55)), (1, .ref (ad 0)), (0, .ref b)]) (ih : ∀ (x1 : Int32) (σ : Nat → Nat → Int32) (τ : Nat → Nat → Int64) (H : Heap) (locs : List Loc) (ls : Array Slot), x1.toInt = x0.toInt + 6 → jAll σ τ → jH D cI cL ad σ τ H → va_S (fun q : Nat => s.heap.size ≤ q) s.heap H locs → lv_has ls 4 [(3, .int x1), (2, .ref (ad 55)), (1, .ref (ad 0)), (0, .ref b)] → W p l e room_1 s m #[Value.ref b] below meth c H locs 90 348600 (lw_Z below #[Value.ref b] s) (F0 m 18 ls [])) : W p l e room_1 s m #[Value.ref b] below meth c H locs 90 348600 (lw_Z below #[Value.ref b] s) (F0 m 348 ls []) := by
  obtain ⟨hx, hb, hr, hml, hown, hts0, hX, hbl, hlocks, hgv⟩ := C0
  have hts : ∀ w ∈ wsL_law, w.before #[Value.ref b] s = true := fun w h => hts0 w (wsL_law_in w h)
  have hbA : ¬ (fun q : Nat => s.heap.size ≤ q) b := Nat.not_le.mpr hbl
  have hown : s.vm.findClass RL = some m.cls := hown
  obtain ⟨hI2, hI9, hI12, hI16, hI18, hI22, hI31, hI38, hI43, hI47, hI50, hI101, hI102, hI103, hI104, hI105, hI106, hI107, hI109, hI110, hI111, hI119, hs_jKept, hs_jBook, ht0⟩ := hAll
  have hL9 : (L : Int) ≤ 384 := by omega
  refine lv_aload_n hx hb dL_law_348 rfl (lv_at hl 2 rfl) ?_
  refine lv_aload_n hx hb dL_law_349 rfl (lv_at hl 3 rfl) ?_
  refine lv_iload_n hx hb dL_law_350 rfl (lv_at hl 0 rfl) ?_
  refine lv_iconst (v := 1) hx hb dL_law_351 (by decide) ?_
  have g1 := jrg (rfl : x0.toInt = x0.toInt)
  refine lv_iadd hx hb dL_law_352 ?_
  refine lv_topi (fun x2 ex2 => ?_)
  have tx2 : x2.toInt = x0.toInt + 1 := (jadd ex2 rfl jz_1 (by omega) (by omega)).trans (by omega)
  refine va_sld hx hb hX hbl hbA hS (jin tx2 (by omega) (by omega)) dL_law_353 ?_
  have g3 := jrg (rfl : (xs x2.toNatClampNeg).toInt = (xs x2.toNatClampNeg).toInt)
  refine lv_aload_n hx hb dL_law_354 rfl (lv_at hl 3 rfl) ?_
  refine lv_iload_n hx hb dL_law_355 rfl (lv_at hl 0 rfl) ?_
  refine lv_iconst (v := 2) hx hb dL_law_356 (by decide) ?_
  refine lv_iadd hx hb dL_law_357 ?_
  refine lv_topi (fun x4 ex4 => ?_)
  have tx4 : x4.toInt = x0.toInt + 2 := (jadd ex4 rfl jz_2 (by omega) (by omega)).trans (by omega)
  refine va_sld hx hb hX hbl hbA hS (jin tx4 (by omega) (by omega)) dL_law_358 ?_
  have g5 := jrg (rfl : (xs x4.toNatClampNeg).toInt = (xs x4.toNatClampNeg).toInt)
  refine jcallV (As := [.int (xs x2.toNatClampNeg), .int (xs x4.toNatClampNeg)]) (rest := []) ⟨hx, hb, hml, hown, hts⟩ hK hP hA hS hZ (c_X11_feed l D cI cL ad zz hJ σ τ (xs x2.toNatClampNeg) ((xs x2.toNatClampNeg).toInt) rfl (xs x4.toNatClampNeg) ((xs x4.toNatClampNeg).toInt) rfl hI9) cw_RL_31 (jc_0 cI cL ad σ τ) rfl ⟨Nat.le_of_ble_eq_true rfl, Nat.le_of_ble_eq_true rfl⟩ rfl rfl rfl hl.1 rfl (Nat.le_of_ble_eq_true rfl) dL_law_359 ⟨Nat.le_of_ble_eq_true rfl, Nat.le_of_ble_eq_true rfl⟩ (fun r7 σ6 τ6 H locs h6 hP hS => ?_)
  obtain ⟨rfl, f8, f9, I10, h6⟩ := h6
  rcases h6 with h11 | h12 | h13
  · obtain ⟨q16, k14, k15⟩ := h11
    have q16 := q16.symm
    subst q16
    refine lv_pop hx hb dL_law_362 rfl ?_
    refine lv_aload_n hx hb dL_law_363 rfl (lv_at hl 1 rfl) ?_
    refine lv_aload_n hx hb dL_law_364 rfl (lv_at hl 3 rfl) ?_
    refine lv_iload_n hx hb dL_law_365 rfl (lv_at hl 0 rfl) ?_
    refine lv_iconst (v := 1) hx hb dL_law_366 (by decide) ?_
    refine lv_iadd hx hb dL_law_367 ?_
    refine jtopr ex2.symm ?_
    refine va_sld hx hb hX hbl hbA hS (jin tx2 (by omega) (by omega)) dL_law_368 ?_
    refine lv_aload_n hx hb dL_law_369 rfl (lv_at hl 3 rfl) ?_
    refine lv_iload_n hx hb dL_law_370 rfl (lv_at hl 0 rfl) ?_
    refine lv_iconst (v := 2) hx hb dL_law_371 (by decide) ?_
    refine lv_iadd hx hb dL_law_372 ?_
    refine jtopr ex4.symm ?_
    refine va_sld hx hb hX hbl hbA hS (jin tx4 (by omega) (by omega)) dL_law_373 ?_
    have I17 : jI105 σ6 := jI105_fr (congrFun (f8 55 (by decide)) 15) (f8 65 (by decide)) hI105
    have z18 : (σ6 55 15).toInt = (σ 55 15).toInt := (congrArg Int32.toInt (show σ6 55 15 = (σ 55 15) from (congrFun (f8 55 (by decide)) 15)))
    refine jcallV (As := [.int (xs x2.toNatClampNeg), .int (xs x4.toNatClampNeg)]) (rest := []) ⟨hx, hb, hml, hown, hts⟩ hK hP hA hS hZ (c_X12_feed l D cI cL ad zz hJ σ6 τ (xs x2.toNatClampNeg) ((xs x2.toNatClampNeg).toInt) rfl (xs x4.toNatClampNeg) ((xs x4.toNatClampNeg).toInt) rfl I17) cw_RL_35 (jc_55 cI cL ad σ6 τ) rfl ⟨Nat.le_of_ble_eq_true rfl, Nat.le_of_ble_eq_true rfl⟩ rfl rfl rfl hl.1 rfl (Nat.le_of_ble_eq_true rfl) dL_law_374 ⟨Nat.le_of_ble_eq_true rfl, Nat.le_of_ble_eq_true rfl⟩ (fun r20 σ19 τ19 H locs h19 hP hS => ?_)
    obtain ⟨rfl, f21, f22, I23, h19⟩ := h19
    rcases h19 with h24 | h25 | h26
    · obtain ⟨q29, k27, k28⟩ := h24
      have q29 := q29.symm
      subst q29
      refine lv_pop hx hb dL_law_377 rfl ?_
      refine lv_goto (tgt := 1357) hx hb dL_law_378 (by decide) ?_
      obtain ⟨x30, ex30⟩ : ∃ y : Int32, y = x0 + 6 := ⟨_, rfl⟩
      have tx30 : x30.toInt = x0.toInt + 6 := (jadd ex30 rfl jz_6 (by omega) (by omega)).trans (by omega)
      refine lv_iinc (v := x30) (lv' := [(3, .int x30), (2, .ref (ad 55)), (1, .ref (ad 0)), (0, .ref b)]) hx hb dL_law_1357 hl (k := 0) rfl (by rw [ex30]; rfl) (by decide) rfl (fun ls hl => ?_)
      refine lv_goto (tgt := 18) hx hb dL_law_1360 (by decide) ?_
      have I31 : jI2 σ19 := jI2_fr ((congrFun (f21 2 (by decide)) 0).trans (congrFun (f8 2 (by decide)) 0)) ((congrFun (f21 2 (by decide)) 1).trans (congrFun (f8 2 (by decide)) 1)) ((congrFun (f21 2 (by decide)) 2).trans (congrFun (f8 2 (by decide)) 2)) ((congrFun (f21 2 (by decide)) 3).trans (congrFun (f8 2 (by decide)) 3)) ((f21 6 (by decide)).trans (f8 6 (by decide))) hI2
      have I32 : jI9 σ19 := jI9_fr (congrFun (f21 9 (by decide)) 0) (f21 10 (by decide)) (f21 11 (by decide)) I10
      have I33 : jI12 σ19 := jI12_fr ((congrFun (f21 12 (by decide)) 0).trans (congrFun (f8 12 (by decide)) 0)) ((f21 13 (by decide)).trans (f8 13 (by decide))) hI12
      have I34 : jI16 σ19 := jI16_fr ((congrFun (f21 16 (by decide)) 0).trans (congrFun (f8 16 (by decide)) 0)) ((congrFun (f21 16 (by decide)) 1).trans (congrFun (f8 16 (by decide)) 1)) ((congrFun (f21 16 (by decide)) 2).trans (congrFun (f8 16 (by decide)) 2)) ((f21 17 (by decide)).trans (f8 17 (by decide))) hI16
      have I35 : jI18 σ19 := jI18_fr ((congrFun (f21 18 (by decide)) 0).trans (congrFun (f8 18 (by decide)) 0)) ((f21 19 (by decide)).trans (f8 19 (by decide))) hI18
      have I36 : jI22 σ19 := jI22_fr ((congrFun (f21 22 (by decide)) 0).trans (congrFun (f8 22 (by decide)) 0)) ((f21 23 (by decide)).trans (f8 23 (by decide))) hI22
      have I37 : jI31 σ19 := jI31_fr ((congrFun (f21 31 (by decide)) 8).trans (congrFun (f8 31 (by decide)) 8)) ((f21 33 (by decide)).trans (f8 33 (by decide))) ((f21 36 (by decide)).trans (f8 36 (by decide))) hI31
      have I38 : jI38 σ19 := jI38_fr ((congrFun (f21 38 (by decide)) 0).trans (congrFun (f8 38 (by decide)) 0)) ((congrFun (f21 38 (by decide)) 1).trans (congrFun (f8 38 (by decide)) 1)) ((f21 39 (by decide)).trans (f8 39 (by decide))) hI38
      have I39 : jI43 σ19 := jI43_fr ((congrFun (f21 43 (by decide)) 8).trans (congrFun (f8 43 (by decide)) 8)) hI43
      have I40 : jI47 σ19 := jI47_fr ((congrFun (f21 47 (by decide)) 0).trans (congrFun (f8 47 (by decide)) 0)) ((f21 49 (by decide)).trans (f8 49 (by decide))) hI47
      have I41 : jI50 σ19 := jI50_fr ((f21 52 (by decide)).trans (f8 52 (by decide))) hI50
      have I42 : jI101 σ19 := jI101_fr ((f22 4 (by decide)).trans (congrFun (f8 55 (by decide)) 4)) ((f22 5 (by decide)).trans (congrFun (f8 55 (by decide)) 5)) ((f21 56 (by decide)).trans (f8 56 (by decide))) ((f21 57 (by decide)).trans (f8 57 (by decide))) ((f21 58 (by decide)).trans (f8 58 (by decide))) ((f21 59 (by decide)).trans (f8 59 (by decide))) hI101
      have I43 : jI102 σ19 := jI102_fr ((f22 6 (by decide)).trans (congrFun (f8 55 (by decide)) 6)) ((f21 60 (by decide)).trans (f8 60 (by decide))) ((f21 61 (by decide)).trans (f8 61 (by decide))) hI102
      have I44 : jI103 σ19 := jI103_fr ((f22 9 (by decide)).trans (congrFun (f8 55 (by decide)) 9)) hI103
      have I45 : jI104 σ19 := jI104_fr ((f22 10 (by decide)).trans (congrFun (f8 55 (by decide)) 10)) ((f22 12 (by decide)).trans (congrFun (f8 55 (by decide)) 12)) ((f22 13 (by decide)).trans (congrFun (f8 55 (by decide)) 13)) ((f21 62 (by decide)).trans (f8 62 (by decide))) ((f21 67 (by decide)).trans (f8 67 (by decide))) hI104
      have I46 : jI106 σ19 := jI106_fr ((f22 32 (by decide)).trans (congrFun (f8 55 (by decide)) 32)) ((f21 70 (by decide)).trans (f8 70 (by decide))) ((f21 71 (by decide)).trans (f8 71 (by decide))) ((f21 72 (by decide)).trans (f8 72 (by decide))) hI106
      have I47 : jI107 σ19 := jI107_fr ((f22 12 (by decide)).trans (congrFun (f8 55 (by decide)) 12)) ((f22 47 (by decide)).trans (congrFun (f8 55 (by decide)) 47)) ((f21 80 (by decide)).trans (f8 80 (by decide))) hI107
      have I48 : jI109 σ19 := jI109_fr ((f22 50 (by decide)).trans (congrFun (f8 55 (by decide)) 50)) hI109
      have I49 : jI110 σ19 := jI110_fr ((f21 86 (by decide)).trans (f8 86 (by decide))) ((f21 87 (by decide)).trans (f8 87 (by decide))) hI110
      have I50 : jI111 σ19 := jI111_fr ((f21 79 (by decide)).trans (f8 79 (by decide))) hI111
      have I51 : jI119 σ19 := jI119_fr ((f21 68 (by decide)).trans (f8 68 (by decide))) hI119
      have p52 : jKept σ19 := jKept.fr ((f21 75 (by decide)).trans (f8 75 (by decide))) ((f21 76 (by decide)).trans (f8 76 (by decide))) ((f21 77 (by decide)).trans (f8 77 (by decide))) hs_jKept
      have p53 : jBook σ19 := jBook.fr ((f22 47 (by decide)).trans (congrFun (f8 55 (by decide)) 47)) ((f22 10 (by decide)).trans (congrFun (f8 55 (by decide)) 10)) ((f21 81 (by decide)).trans (f8 81 (by decide))) hs_jBook
      have z54 : (σ19 2 0).toInt = (σ 2 0).toInt := (congrArg Int32.toInt (show σ19 2 0 = (σ 2 0) from ((congrFun (f21 2 (by decide)) 0).trans (congrFun (f8 2 (by decide)) 0))))
      have z55 : (σ19 55 6).toInt = (σ 55 6).toInt := (congrArg Int32.toInt (show σ19 55 6 = (σ 55 6) from ((f22 6 (by decide)).trans (congrFun (f8 55 (by decide)) 6))))
      exact ih x30 σ19 τ _ _ ls (by have h9 := tx30; omega) ⟨I31, I32, I33, I34, I35, I36, I37, I38, I39, I40, I41, I42, I43, I44, I45, I23, I46, I47, I48, I49, I50, I51, p52, p53, (by omega)⟩ hP hS (lv_sub hl [0, 1, 2, 3] rfl)
    · obtain ⟨q59, k56, k57, k58⟩ := h25
      exact absurd (by omega : False) id
    · obtain ⟨q64, k60, k61, k62, k63⟩ := h26
      exact absurd (by omega : False) id
  · obtain ⟨q68, k65, k66, k67⟩ := h12
    have q68 := q68.symm
    subst q68
    refine lv_pop hx hb dL_law_362 rfl ?_
    refine lv_aload_n hx hb dL_law_363 rfl (lv_at hl 1 rfl) ?_
    refine lv_aload_n hx hb dL_law_364 rfl (lv_at hl 3 rfl) ?_
    refine lv_iload_n hx hb dL_law_365 rfl (lv_at hl 0 rfl) ?_
    refine lv_iconst (v := 1) hx hb dL_law_366 (by decide) ?_
    refine lv_iadd hx hb dL_law_367 ?_
    refine jtopr ex2.symm ?_
    refine va_sld hx hb hX hbl hbA hS (jin tx2 (by omega) (by omega)) dL_law_368 ?_
    refine lv_aload_n hx hb dL_law_369 rfl (lv_at hl 3 rfl) ?_
    refine lv_iload_n hx hb dL_law_370 rfl (lv_at hl 0 rfl) ?_
    refine lv_iconst (v := 2) hx hb dL_law_371 (by decide) ?_
    refine lv_iadd hx hb dL_law_372 ?_
    refine jtopr ex4.symm ?_
    refine va_sld hx hb hX hbl hbA hS (jin tx4 (by omega) (by omega)) dL_law_373 ?_
    have I69 : jI105 σ6 := jI105_fr (congrFun (f8 55 (by decide)) 15) (f8 65 (by decide)) hI105
    have z70 : (σ6 55 15).toInt = (σ 55 15).toInt := (congrArg Int32.toInt (show σ6 55 15 = (σ 55 15) from (congrFun (f8 55 (by decide)) 15)))
    refine jcallV (As := [.int (xs x2.toNatClampNeg), .int (xs x4.toNatClampNeg)]) (rest := []) ⟨hx, hb, hml, hown, hts⟩ hK hP hA hS hZ (c_X12_feed l D cI cL ad zz hJ σ6 τ (xs x2.toNatClampNeg) ((xs x2.toNatClampNeg).toInt) rfl (xs x4.toNatClampNeg) ((xs x4.toNatClampNeg).toInt) rfl I69) cw_RL_35 (jc_55 cI cL ad σ6 τ) rfl ⟨Nat.le_of_ble_eq_true rfl, Nat.le_of_ble_eq_true rfl⟩ rfl rfl rfl hl.1 rfl (Nat.le_of_ble_eq_true rfl) dL_law_374 ⟨Nat.le_of_ble_eq_true rfl, Nat.le_of_ble_eq_true rfl⟩ (fun r72 σ71 τ71 H locs h71 hP hS => ?_)
    obtain ⟨rfl, f73, f74, I75, h71⟩ := h71
    rcases h71 with h76 | h77 | h78
    · obtain ⟨q81, k79, k80⟩ := h76
      exact absurd (by omega : False) id
    · obtain ⟨q85, k82, k83, k84⟩ := h77
      have q85 := q85.symm
      subst q85
      refine lv_pop hx hb dL_law_377 rfl ?_
      refine lv_goto (tgt := 1357) hx hb dL_law_378 (by decide) ?_
      obtain ⟨x86, ex86⟩ : ∃ y : Int32, y = x0 + 6 := ⟨_, rfl⟩
      have tx86 : x86.toInt = x0.toInt + 6 := (jadd ex86 rfl jz_6 (by omega) (by omega)).trans (by omega)
      refine lv_iinc (v := x86) (lv' := [(3, .int x86), (2, .ref (ad 55)), (1, .ref (ad 0)), (0, .ref b)]) hx hb dL_law_1357 hl (k := 0) rfl (by rw [ex86]; rfl) (by decide) rfl (fun ls hl => ?_)
      refine lv_goto (tgt := 18) hx hb dL_law_1360 (by decide) ?_
      have I87 : jI2 σ71 := jI2_fr ((congrFun (f73 2 (by decide)) 0).trans (congrFun (f8 2 (by decide)) 0)) ((congrFun (f73 2 (by decide)) 1).trans (congrFun (f8 2 (by decide)) 1)) ((congrFun (f73 2 (by decide)) 2).trans (congrFun (f8 2 (by decide)) 2)) ((congrFun (f73 2 (by decide)) 3).trans (congrFun (f8 2 (by decide)) 3)) ((f73 6 (by decide)).trans (f8 6 (by decide))) hI2
      have I88 : jI9 σ71 := jI9_fr (congrFun (f73 9 (by decide)) 0) (f73 10 (by decide)) (f73 11 (by decide)) I10
      have I89 : jI12 σ71 := jI12_fr ((congrFun (f73 12 (by decide)) 0).trans (congrFun (f8 12 (by decide)) 0)) ((f73 13 (by decide)).trans (f8 13 (by decide))) hI12
      have I90 : jI16 σ71 := jI16_fr ((congrFun (f73 16 (by decide)) 0).trans (congrFun (f8 16 (by decide)) 0)) ((congrFun (f73 16 (by decide)) 1).trans (congrFun (f8 16 (by decide)) 1)) ((congrFun (f73 16 (by decide)) 2).trans (congrFun (f8 16 (by decide)) 2)) ((f73 17 (by decide)).trans (f8 17 (by decide))) hI16
      have I91 : jI18 σ71 := jI18_fr ((congrFun (f73 18 (by decide)) 0).trans (congrFun (f8 18 (by decide)) 0)) ((f73 19 (by decide)).trans (f8 19 (by decide))) hI18
      have I92 : jI22 σ71 := jI22_fr ((congrFun (f73 22 (by decide)) 0).trans (congrFun (f8 22 (by decide)) 0)) ((f73 23 (by decide)).trans (f8 23 (by decide))) hI22
      have I93 : jI31 σ71 := jI31_fr ((congrFun (f73 31 (by decide)) 8).trans (congrFun (f8 31 (by decide)) 8)) ((f73 33 (by decide)).trans (f8 33 (by decide))) ((f73 36 (by decide)).trans (f8 36 (by decide))) hI31
      have I94 : jI38 σ71 := jI38_fr ((congrFun (f73 38 (by decide)) 0).trans (congrFun (f8 38 (by decide)) 0)) ((congrFun (f73 38 (by decide)) 1).trans (congrFun (f8 38 (by decide)) 1)) ((f73 39 (by decide)).trans (f8 39 (by decide))) hI38
      have I95 : jI43 σ71 := jI43_fr ((congrFun (f73 43 (by decide)) 8).trans (congrFun (f8 43 (by decide)) 8)) hI43
      have I96 : jI47 σ71 := jI47_fr ((congrFun (f73 47 (by decide)) 0).trans (congrFun (f8 47 (by decide)) 0)) ((f73 49 (by decide)).trans (f8 49 (by decide))) hI47
      have I97 : jI50 σ71 := jI50_fr ((f73 52 (by decide)).trans (f8 52 (by decide))) hI50
      have I98 : jI101 σ71 := jI101_fr ((f74 4 (by decide)).trans (congrFun (f8 55 (by decide)) 4)) ((f74 5 (by decide)).trans (congrFun (f8 55 (by decide)) 5)) ((f73 56 (by decide)).trans (f8 56 (by decide))) ((f73 57 (by decide)).trans (f8 57 (by decide))) ((f73 58 (by decide)).trans (f8 58 (by decide))) ((f73 59 (by decide)).trans (f8 59 (by decide))) hI101
      have I99 : jI102 σ71 := jI102_fr ((f74 6 (by decide)).trans (congrFun (f8 55 (by decide)) 6)) ((f73 60 (by decide)).trans (f8 60 (by decide))) ((f73 61 (by decide)).trans (f8 61 (by decide))) hI102
      have I100 : jI103 σ71 := jI103_fr ((f74 9 (by decide)).trans (congrFun (f8 55 (by decide)) 9)) hI103
      have I101 : jI104 σ71 := jI104_fr ((f74 10 (by decide)).trans (congrFun (f8 55 (by decide)) 10)) ((f74 12 (by decide)).trans (congrFun (f8 55 (by decide)) 12)) ((f74 13 (by decide)).trans (congrFun (f8 55 (by decide)) 13)) ((f73 62 (by decide)).trans (f8 62 (by decide))) ((f73 67 (by decide)).trans (f8 67 (by decide))) hI104
      have I102 : jI106 σ71 := jI106_fr ((f74 32 (by decide)).trans (congrFun (f8 55 (by decide)) 32)) ((f73 70 (by decide)).trans (f8 70 (by decide))) ((f73 71 (by decide)).trans (f8 71 (by decide))) ((f73 72 (by decide)).trans (f8 72 (by decide))) hI106
      have I103 : jI107 σ71 := jI107_fr ((f74 12 (by decide)).trans (congrFun (f8 55 (by decide)) 12)) ((f74 47 (by decide)).trans (congrFun (f8 55 (by decide)) 47)) ((f73 80 (by decide)).trans (f8 80 (by decide))) hI107
      have I104 : jI109 σ71 := jI109_fr ((f74 50 (by decide)).trans (congrFun (f8 55 (by decide)) 50)) hI109
      have I105 : jI110 σ71 := jI110_fr ((f73 86 (by decide)).trans (f8 86 (by decide))) ((f73 87 (by decide)).trans (f8 87 (by decide))) hI110
      have I106 : jI111 σ71 := jI111_fr ((f73 79 (by decide)).trans (f8 79 (by decide))) hI111
      have I107 : jI119 σ71 := jI119_fr ((f73 68 (by decide)).trans (f8 68 (by decide))) hI119
      have p108 : jKept σ71 := jKept.fr ((f73 75 (by decide)).trans (f8 75 (by decide))) ((f73 76 (by decide)).trans (f8 76 (by decide))) ((f73 77 (by decide)).trans (f8 77 (by decide))) hs_jKept
      have p109 : jBook σ71 := jBook.fr ((f74 47 (by decide)).trans (congrFun (f8 55 (by decide)) 47)) ((f74 10 (by decide)).trans (congrFun (f8 55 (by decide)) 10)) ((f73 81 (by decide)).trans (f8 81 (by decide))) hs_jBook
      have z110 : (σ71 2 0).toInt = (σ 2 0).toInt := (congrArg Int32.toInt (show σ71 2 0 = (σ 2 0) from ((congrFun (f73 2 (by decide)) 0).trans (congrFun (f8 2 (by decide)) 0))))
      have z111 : (σ71 55 6).toInt = (σ 55 6).toInt := (congrArg Int32.toInt (show σ71 55 6 = (σ 55 6) from ((f74 6 (by decide)).trans (congrFun (f8 55 (by decide)) 6))))
      exact ih x86 σ71 τ _ _ ls (by have h9 := tx86; omega) ⟨I87, I88, I89, I90, I91, I92, I93, I94, I95, I96, I97, I98, I99, I100, I101, I75, I102, I103, I104, I105, I106, I107, p108, p109, (by omega)⟩ hP hS (lv_sub hl [0, 1, 2, 3] rfl)
    · obtain ⟨q116, k112, k113, k114, k115⟩ := h78
      refine lv_pop hx hb dL_law_377 rfl ?_
      refine lv_goto (tgt := 1357) hx hb dL_law_378 (by decide) ?_
      obtain ⟨x117, ex117⟩ : ∃ y : Int32, y = x0 + 6 := ⟨_, rfl⟩
      have tx117 : x117.toInt = x0.toInt + 6 := (jadd ex117 rfl jz_6 (by omega) (by omega)).trans (by omega)
      refine lv_iinc (v := x117) (lv' := [(3, .int x117), (2, .ref (ad 55)), (1, .ref (ad 0)), (0, .ref b)]) hx hb dL_law_1357 hl (k := 0) rfl (by rw [ex117]; rfl) (by decide) rfl (fun ls hl => ?_)
      refine lv_goto (tgt := 18) hx hb dL_law_1360 (by decide) ?_
      have I118 : jI2 σ71 := jI2_fr ((congrFun (f73 2 (by decide)) 0).trans (congrFun (f8 2 (by decide)) 0)) ((congrFun (f73 2 (by decide)) 1).trans (congrFun (f8 2 (by decide)) 1)) ((congrFun (f73 2 (by decide)) 2).trans (congrFun (f8 2 (by decide)) 2)) ((congrFun (f73 2 (by decide)) 3).trans (congrFun (f8 2 (by decide)) 3)) ((f73 6 (by decide)).trans (f8 6 (by decide))) hI2
      have I119 : jI9 σ71 := jI9_fr (congrFun (f73 9 (by decide)) 0) (f73 10 (by decide)) (f73 11 (by decide)) I10
      have I120 : jI12 σ71 := jI12_fr ((congrFun (f73 12 (by decide)) 0).trans (congrFun (f8 12 (by decide)) 0)) ((f73 13 (by decide)).trans (f8 13 (by decide))) hI12
      have I121 : jI16 σ71 := jI16_fr ((congrFun (f73 16 (by decide)) 0).trans (congrFun (f8 16 (by decide)) 0)) ((congrFun (f73 16 (by decide)) 1).trans (congrFun (f8 16 (by decide)) 1)) ((congrFun (f73 16 (by decide)) 2).trans (congrFun (f8 16 (by decide)) 2)) ((f73 17 (by decide)).trans (f8 17 (by decide))) hI16
      have I122 : jI18 σ71 := jI18_fr ((congrFun (f73 18 (by decide)) 0).trans (congrFun (f8 18 (by decide)) 0)) ((f73 19 (by decide)).trans (f8 19 (by decide))) hI18
      have I123 : jI22 σ71 := jI22_fr ((congrFun (f73 22 (by decide)) 0).trans (congrFun (f8 22 (by decide)) 0)) ((f73 23 (by decide)).trans (f8 23 (by decide))) hI22
      have I124 : jI31 σ71 := jI31_fr ((congrFun (f73 31 (by decide)) 8).trans (congrFun (f8 31 (by decide)) 8)) ((f73 33 (by decide)).trans (f8 33 (by decide))) ((f73 36 (by decide)).trans (f8 36 (by decide))) hI31
      have I125 : jI38 σ71 := jI38_fr ((congrFun (f73 38 (by decide)) 0).trans (congrFun (f8 38 (by decide)) 0)) ((congrFun (f73 38 (by decide)) 1).trans (congrFun (f8 38 (by decide)) 1)) ((f73 39 (by decide)).trans (f8 39 (by decide))) hI38
      have I126 : jI43 σ71 := jI43_fr ((congrFun (f73 43 (by decide)) 8).trans (congrFun (f8 43 (by decide)) 8)) hI43
      have I127 : jI47 σ71 := jI47_fr ((congrFun (f73 47 (by decide)) 0).trans (congrFun (f8 47 (by decide)) 0)) ((f73 49 (by decide)).trans (f8 49 (by decide))) hI47
      have I128 : jI50 σ71 := jI50_fr ((f73 52 (by decide)).trans (f8 52 (by decide))) hI50
      have I129 : jI101 σ71 := jI101_fr ((f74 4 (by decide)).trans (congrFun (f8 55 (by decide)) 4)) ((f74 5 (by decide)).trans (congrFun (f8 55 (by decide)) 5)) ((f73 56 (by decide)).trans (f8 56 (by decide))) ((f73 57 (by decide)).trans (f8 57 (by decide))) ((f73 58 (by decide)).trans (f8 58 (by decide))) ((f73 59 (by decide)).trans (f8 59 (by decide))) hI101
      have I130 : jI102 σ71 := jI102_fr ((f74 6 (by decide)).trans (congrFun (f8 55 (by decide)) 6)) ((f73 60 (by decide)).trans (f8 60 (by decide))) ((f73 61 (by decide)).trans (f8 61 (by decide))) hI102
      have I131 : jI103 σ71 := jI103_fr ((f74 9 (by decide)).trans (congrFun (f8 55 (by decide)) 9)) hI103
      have I132 : jI104 σ71 := jI104_fr ((f74 10 (by decide)).trans (congrFun (f8 55 (by decide)) 10)) ((f74 12 (by decide)).trans (congrFun (f8 55 (by decide)) 12)) ((f74 13 (by decide)).trans (congrFun (f8 55 (by decide)) 13)) ((f73 62 (by decide)).trans (f8 62 (by decide))) ((f73 67 (by decide)).trans (f8 67 (by decide))) hI104
      have I133 : jI106 σ71 := jI106_fr ((f74 32 (by decide)).trans (congrFun (f8 55 (by decide)) 32)) ((f73 70 (by decide)).trans (f8 70 (by decide))) ((f73 71 (by decide)).trans (f8 71 (by decide))) ((f73 72 (by decide)).trans (f8 72 (by decide))) hI106
      have I134 : jI107 σ71 := jI107_fr ((f74 12 (by decide)).trans (congrFun (f8 55 (by decide)) 12)) ((f74 47 (by decide)).trans (congrFun (f8 55 (by decide)) 47)) ((f73 80 (by decide)).trans (f8 80 (by decide))) hI107
      have I135 : jI109 σ71 := jI109_fr ((f74 50 (by decide)).trans (congrFun (f8 55 (by decide)) 50)) hI109
      have I136 : jI110 σ71 := jI110_fr ((f73 86 (by decide)).trans (f8 86 (by decide))) ((f73 87 (by decide)).trans (f8 87 (by decide))) hI110
      have I137 : jI111 σ71 := jI111_fr ((f73 79 (by decide)).trans (f8 79 (by decide))) hI111
      have I138 : jI119 σ71 := jI119_fr ((f73 68 (by decide)).trans (f8 68 (by decide))) hI119
      have p139 : jKept σ71 := jKept.fr ((f73 75 (by decide)).trans (f8 75 (by decide))) ((f73 76 (by decide)).trans (f8 76 (by decide))) ((f73 77 (by decide)).trans (f8 77 (by decide))) hs_jKept
      have p140 : jBook σ71 := jBook.fr ((f74 47 (by decide)).trans (congrFun (f8 55 (by decide)) 47)) ((f74 10 (by decide)).trans (congrFun (f8 55 (by decide)) 10)) ((f73 81 (by decide)).trans (f8 81 (by decide))) hs_jBook
      have z141 : (σ71 2 0).toInt = (σ 2 0).toInt := (congrArg Int32.toInt (show σ71 2 0 = (σ 2 0) from ((congrFun (f73 2 (by decide)) 0).trans (congrFun (f8 2 (by decide)) 0))))
      have z142 : (σ71 55 6).toInt = (σ 55 6).toInt := (congrArg Int32.toInt (show σ71 55 6 = (σ 55 6) from ((f74 6 (by decide)).trans (congrFun (f8 55 (by decide)) 6))))
      exact ih x117 σ71 τ _ _ ls (by have h9 := tx117; omega) ⟨I118, I119, I120, I121, I122, I123, I124, I125, I126, I127, I128, I129, I130, I131, I132, I75, I133, I134, I135, I136, I137, I138, p139, p140, (by omega)⟩ hP hS (lv_sub hl [0, 1, 2, 3] rfl)
  · obtain ⟨q147, k143, k144, k145, k146⟩ := h13
    refine lv_pop hx hb dL_law_362 rfl ?_
    refine lv_aload_n hx hb dL_law_363 rfl (lv_at hl 1 rfl) ?_
    refine lv_aload_n hx hb dL_law_364 rfl (lv_at hl 3 rfl) ?_
    refine lv_iload_n hx hb dL_law_365 rfl (lv_at hl 0 rfl) ?_
    refine lv_iconst (v := 1) hx hb dL_law_366 (by decide) ?_
    refine lv_iadd hx hb dL_law_367 ?_
    refine jtopr ex2.symm ?_
    refine va_sld hx hb hX hbl hbA hS (jin tx2 (by omega) (by omega)) dL_law_368 ?_
    refine lv_aload_n hx hb dL_law_369 rfl (lv_at hl 3 rfl) ?_
    refine lv_iload_n hx hb dL_law_370 rfl (lv_at hl 0 rfl) ?_
    refine lv_iconst (v := 2) hx hb dL_law_371 (by decide) ?_
    refine lv_iadd hx hb dL_law_372 ?_
    refine jtopr ex4.symm ?_
    refine va_sld hx hb hX hbl hbA hS (jin tx4 (by omega) (by omega)) dL_law_373 ?_
    have I148 : jI105 σ6 := jI105_fr (congrFun (f8 55 (by decide)) 15) (f8 65 (by decide)) hI105
    have z149 : (σ6 55 15).toInt = (σ 55 15).toInt := (congrArg Int32.toInt (show σ6 55 15 = (σ 55 15) from (congrFun (f8 55 (by decide)) 15)))
    refine jcallV (As := [.int (xs x2.toNatClampNeg), .int (xs x4.toNatClampNeg)]) (rest := []) ⟨hx, hb, hml, hown, hts⟩ hK hP hA hS hZ (c_X12_feed l D cI cL ad zz hJ σ6 τ (xs x2.toNatClampNeg) ((xs x2.toNatClampNeg).toInt) rfl (xs x4.toNatClampNeg) ((xs x4.toNatClampNeg).toInt) rfl I148) cw_RL_35 (jc_55 cI cL ad σ6 τ) rfl ⟨Nat.le_of_ble_eq_true rfl, Nat.le_of_ble_eq_true rfl⟩ rfl rfl rfl hl.1 rfl (Nat.le_of_ble_eq_true rfl) dL_law_374 ⟨Nat.le_of_ble_eq_true rfl, Nat.le_of_ble_eq_true rfl⟩ (fun r151 σ150 τ150 H locs h150 hP hS => ?_)
    obtain ⟨rfl, f152, f153, I154, h150⟩ := h150
    rcases h150 with h155 | h156 | h157
    · obtain ⟨q160, k158, k159⟩ := h155
      exact absurd (by omega : False) id
    · obtain ⟨q164, k161, k162, k163⟩ := h156
      have q164 := q164.symm
      subst q164
      refine lv_pop hx hb dL_law_377 rfl ?_
      refine lv_goto (tgt := 1357) hx hb dL_law_378 (by decide) ?_
      obtain ⟨x165, ex165⟩ : ∃ y : Int32, y = x0 + 6 := ⟨_, rfl⟩
      have tx165 : x165.toInt = x0.toInt + 6 := (jadd ex165 rfl jz_6 (by omega) (by omega)).trans (by omega)
      refine lv_iinc (v := x165) (lv' := [(3, .int x165), (2, .ref (ad 55)), (1, .ref (ad 0)), (0, .ref b)]) hx hb dL_law_1357 hl (k := 0) rfl (by rw [ex165]; rfl) (by decide) rfl (fun ls hl => ?_)
      refine lv_goto (tgt := 18) hx hb dL_law_1360 (by decide) ?_
      have I166 : jI2 σ150 := jI2_fr ((congrFun (f152 2 (by decide)) 0).trans (congrFun (f8 2 (by decide)) 0)) ((congrFun (f152 2 (by decide)) 1).trans (congrFun (f8 2 (by decide)) 1)) ((congrFun (f152 2 (by decide)) 2).trans (congrFun (f8 2 (by decide)) 2)) ((congrFun (f152 2 (by decide)) 3).trans (congrFun (f8 2 (by decide)) 3)) ((f152 6 (by decide)).trans (f8 6 (by decide))) hI2
      have I167 : jI9 σ150 := jI9_fr (congrFun (f152 9 (by decide)) 0) (f152 10 (by decide)) (f152 11 (by decide)) I10
      have I168 : jI12 σ150 := jI12_fr ((congrFun (f152 12 (by decide)) 0).trans (congrFun (f8 12 (by decide)) 0)) ((f152 13 (by decide)).trans (f8 13 (by decide))) hI12
      have I169 : jI16 σ150 := jI16_fr ((congrFun (f152 16 (by decide)) 0).trans (congrFun (f8 16 (by decide)) 0)) ((congrFun (f152 16 (by decide)) 1).trans (congrFun (f8 16 (by decide)) 1)) ((congrFun (f152 16 (by decide)) 2).trans (congrFun (f8 16 (by decide)) 2)) ((f152 17 (by decide)).trans (f8 17 (by decide))) hI16
      have I170 : jI18 σ150 := jI18_fr ((congrFun (f152 18 (by decide)) 0).trans (congrFun (f8 18 (by decide)) 0)) ((f152 19 (by decide)).trans (f8 19 (by decide))) hI18
      have I171 : jI22 σ150 := jI22_fr ((congrFun (f152 22 (by decide)) 0).trans (congrFun (f8 22 (by decide)) 0)) ((f152 23 (by decide)).trans (f8 23 (by decide))) hI22
      have I172 : jI31 σ150 := jI31_fr ((congrFun (f152 31 (by decide)) 8).trans (congrFun (f8 31 (by decide)) 8)) ((f152 33 (by decide)).trans (f8 33 (by decide))) ((f152 36 (by decide)).trans (f8 36 (by decide))) hI31
      have I173 : jI38 σ150 := jI38_fr ((congrFun (f152 38 (by decide)) 0).trans (congrFun (f8 38 (by decide)) 0)) ((congrFun (f152 38 (by decide)) 1).trans (congrFun (f8 38 (by decide)) 1)) ((f152 39 (by decide)).trans (f8 39 (by decide))) hI38
      have I174 : jI43 σ150 := jI43_fr ((congrFun (f152 43 (by decide)) 8).trans (congrFun (f8 43 (by decide)) 8)) hI43
      have I175 : jI47 σ150 := jI47_fr ((congrFun (f152 47 (by decide)) 0).trans (congrFun (f8 47 (by decide)) 0)) ((f152 49 (by decide)).trans (f8 49 (by decide))) hI47
      have I176 : jI50 σ150 := jI50_fr ((f152 52 (by decide)).trans (f8 52 (by decide))) hI50
      have I177 : jI101 σ150 := jI101_fr ((f153 4 (by decide)).trans (congrFun (f8 55 (by decide)) 4)) ((f153 5 (by decide)).trans (congrFun (f8 55 (by decide)) 5)) ((f152 56 (by decide)).trans (f8 56 (by decide))) ((f152 57 (by decide)).trans (f8 57 (by decide))) ((f152 58 (by decide)).trans (f8 58 (by decide))) ((f152 59 (by decide)).trans (f8 59 (by decide))) hI101
      have I178 : jI102 σ150 := jI102_fr ((f153 6 (by decide)).trans (congrFun (f8 55 (by decide)) 6)) ((f152 60 (by decide)).trans (f8 60 (by decide))) ((f152 61 (by decide)).trans (f8 61 (by decide))) hI102
      have I179 : jI103 σ150 := jI103_fr ((f153 9 (by decide)).trans (congrFun (f8 55 (by decide)) 9)) hI103
      have I180 : jI104 σ150 := jI104_fr ((f153 10 (by decide)).trans (congrFun (f8 55 (by decide)) 10)) ((f153 12 (by decide)).trans (congrFun (f8 55 (by decide)) 12)) ((f153 13 (by decide)).trans (congrFun (f8 55 (by decide)) 13)) ((f152 62 (by decide)).trans (f8 62 (by decide))) ((f152 67 (by decide)).trans (f8 67 (by decide))) hI104
      have I181 : jI106 σ150 := jI106_fr ((f153 32 (by decide)).trans (congrFun (f8 55 (by decide)) 32)) ((f152 70 (by decide)).trans (f8 70 (by decide))) ((f152 71 (by decide)).trans (f8 71 (by decide))) ((f152 72 (by decide)).trans (f8 72 (by decide))) hI106
      have I182 : jI107 σ150 := jI107_fr ((f153 12 (by decide)).trans (congrFun (f8 55 (by decide)) 12)) ((f153 47 (by decide)).trans (congrFun (f8 55 (by decide)) 47)) ((f152 80 (by decide)).trans (f8 80 (by decide))) hI107
      have I183 : jI109 σ150 := jI109_fr ((f153 50 (by decide)).trans (congrFun (f8 55 (by decide)) 50)) hI109
      have I184 : jI110 σ150 := jI110_fr ((f152 86 (by decide)).trans (f8 86 (by decide))) ((f152 87 (by decide)).trans (f8 87 (by decide))) hI110
      have I185 : jI111 σ150 := jI111_fr ((f152 79 (by decide)).trans (f8 79 (by decide))) hI111
      have I186 : jI119 σ150 := jI119_fr ((f152 68 (by decide)).trans (f8 68 (by decide))) hI119
      have p187 : jKept σ150 := jKept.fr ((f152 75 (by decide)).trans (f8 75 (by decide))) ((f152 76 (by decide)).trans (f8 76 (by decide))) ((f152 77 (by decide)).trans (f8 77 (by decide))) hs_jKept
      have p188 : jBook σ150 := jBook.fr ((f153 47 (by decide)).trans (congrFun (f8 55 (by decide)) 47)) ((f153 10 (by decide)).trans (congrFun (f8 55 (by decide)) 10)) ((f152 81 (by decide)).trans (f8 81 (by decide))) hs_jBook
      have z189 : (σ150 2 0).toInt = (σ 2 0).toInt := (congrArg Int32.toInt (show σ150 2 0 = (σ 2 0) from ((congrFun (f152 2 (by decide)) 0).trans (congrFun (f8 2 (by decide)) 0))))
      have z190 : (σ150 55 6).toInt = (σ 55 6).toInt := (congrArg Int32.toInt (show σ150 55 6 = (σ 55 6) from ((f153 6 (by decide)).trans (congrFun (f8 55 (by decide)) 6))))
      exact ih x165 σ150 τ _ _ ls (by have h9 := tx165; omega) ⟨I166, I167, I168, I169, I170, I171, I172, I173, I174, I175, I176, I177, I178, I179, I180, I154, I181, I182, I183, I184, I185, I186, p187, p188, (by omega)⟩ hP hS (lv_sub hl [0, 1, 2, 3] rfl)
    · obtain ⟨q195, k191, k192, k193, k194⟩ := h157
      refine lv_pop hx hb dL_law_377 rfl ?_
      refine lv_goto (tgt := 1357) hx hb dL_law_378 (by decide) ?_
      obtain ⟨x196, ex196⟩ : ∃ y : Int32, y = x0 + 6 := ⟨_, rfl⟩
      have tx196 : x196.toInt = x0.toInt + 6 := (jadd ex196 rfl jz_6 (by omega) (by omega)).trans (by omega)
      refine lv_iinc (v := x196) (lv' := [(3, .int x196), (2, .ref (ad 55)), (1, .ref (ad 0)), (0, .ref b)]) hx hb dL_law_1357 hl (k := 0) rfl (by rw [ex196]; rfl) (by decide) rfl (fun ls hl => ?_)
      refine lv_goto (tgt := 18) hx hb dL_law_1360 (by decide) ?_
      have I197 : jI2 σ150 := jI2_fr ((congrFun (f152 2 (by decide)) 0).trans (congrFun (f8 2 (by decide)) 0)) ((congrFun (f152 2 (by decide)) 1).trans (congrFun (f8 2 (by decide)) 1)) ((congrFun (f152 2 (by decide)) 2).trans (congrFun (f8 2 (by decide)) 2)) ((congrFun (f152 2 (by decide)) 3).trans (congrFun (f8 2 (by decide)) 3)) ((f152 6 (by decide)).trans (f8 6 (by decide))) hI2
      have I198 : jI9 σ150 := jI9_fr (congrFun (f152 9 (by decide)) 0) (f152 10 (by decide)) (f152 11 (by decide)) I10
      have I199 : jI12 σ150 := jI12_fr ((congrFun (f152 12 (by decide)) 0).trans (congrFun (f8 12 (by decide)) 0)) ((f152 13 (by decide)).trans (f8 13 (by decide))) hI12
      have I200 : jI16 σ150 := jI16_fr ((congrFun (f152 16 (by decide)) 0).trans (congrFun (f8 16 (by decide)) 0)) ((congrFun (f152 16 (by decide)) 1).trans (congrFun (f8 16 (by decide)) 1)) ((congrFun (f152 16 (by decide)) 2).trans (congrFun (f8 16 (by decide)) 2)) ((f152 17 (by decide)).trans (f8 17 (by decide))) hI16
      have I201 : jI18 σ150 := jI18_fr ((congrFun (f152 18 (by decide)) 0).trans (congrFun (f8 18 (by decide)) 0)) ((f152 19 (by decide)).trans (f8 19 (by decide))) hI18
      have I202 : jI22 σ150 := jI22_fr ((congrFun (f152 22 (by decide)) 0).trans (congrFun (f8 22 (by decide)) 0)) ((f152 23 (by decide)).trans (f8 23 (by decide))) hI22
      have I203 : jI31 σ150 := jI31_fr ((congrFun (f152 31 (by decide)) 8).trans (congrFun (f8 31 (by decide)) 8)) ((f152 33 (by decide)).trans (f8 33 (by decide))) ((f152 36 (by decide)).trans (f8 36 (by decide))) hI31
      have I204 : jI38 σ150 := jI38_fr ((congrFun (f152 38 (by decide)) 0).trans (congrFun (f8 38 (by decide)) 0)) ((congrFun (f152 38 (by decide)) 1).trans (congrFun (f8 38 (by decide)) 1)) ((f152 39 (by decide)).trans (f8 39 (by decide))) hI38
      have I205 : jI43 σ150 := jI43_fr ((congrFun (f152 43 (by decide)) 8).trans (congrFun (f8 43 (by decide)) 8)) hI43
      have I206 : jI47 σ150 := jI47_fr ((congrFun (f152 47 (by decide)) 0).trans (congrFun (f8 47 (by decide)) 0)) ((f152 49 (by decide)).trans (f8 49 (by decide))) hI47
      have I207 : jI50 σ150 := jI50_fr ((f152 52 (by decide)).trans (f8 52 (by decide))) hI50
      have I208 : jI101 σ150 := jI101_fr ((f153 4 (by decide)).trans (congrFun (f8 55 (by decide)) 4)) ((f153 5 (by decide)).trans (congrFun (f8 55 (by decide)) 5)) ((f152 56 (by decide)).trans (f8 56 (by decide))) ((f152 57 (by decide)).trans (f8 57 (by decide))) ((f152 58 (by decide)).trans (f8 58 (by decide))) ((f152 59 (by decide)).trans (f8 59 (by decide))) hI101
      have I209 : jI102 σ150 := jI102_fr ((f153 6 (by decide)).trans (congrFun (f8 55 (by decide)) 6)) ((f152 60 (by decide)).trans (f8 60 (by decide))) ((f152 61 (by decide)).trans (f8 61 (by decide))) hI102
      have I210 : jI103 σ150 := jI103_fr ((f153 9 (by decide)).trans (congrFun (f8 55 (by decide)) 9)) hI103
      have I211 : jI104 σ150 := jI104_fr ((f153 10 (by decide)).trans (congrFun (f8 55 (by decide)) 10)) ((f153 12 (by decide)).trans (congrFun (f8 55 (by decide)) 12)) ((f153 13 (by decide)).trans (congrFun (f8 55 (by decide)) 13)) ((f152 62 (by decide)).trans (f8 62 (by decide))) ((f152 67 (by decide)).trans (f8 67 (by decide))) hI104
      have I212 : jI106 σ150 := jI106_fr ((f153 32 (by decide)).trans (congrFun (f8 55 (by decide)) 32)) ((f152 70 (by decide)).trans (f8 70 (by decide))) ((f152 71 (by decide)).trans (f8 71 (by decide))) ((f152 72 (by decide)).trans (f8 72 (by decide))) hI106
      have I213 : jI107 σ150 := jI107_fr ((f153 12 (by decide)).trans (congrFun (f8 55 (by decide)) 12)) ((f153 47 (by decide)).trans (congrFun (f8 55 (by decide)) 47)) ((f152 80 (by decide)).trans (f8 80 (by decide))) hI107
      have I214 : jI109 σ150 := jI109_fr ((f153 50 (by decide)).trans (congrFun (f8 55 (by decide)) 50)) hI109
      have I215 : jI110 σ150 := jI110_fr ((f152 86 (by decide)).trans (f8 86 (by decide))) ((f152 87 (by decide)).trans (f8 87 (by decide))) hI110
      have I216 : jI111 σ150 := jI111_fr ((f152 79 (by decide)).trans (f8 79 (by decide))) hI111
      have I217 : jI119 σ150 := jI119_fr ((f152 68 (by decide)).trans (f8 68 (by decide))) hI119
      have p218 : jKept σ150 := jKept.fr ((f152 75 (by decide)).trans (f8 75 (by decide))) ((f152 76 (by decide)).trans (f8 76 (by decide))) ((f152 77 (by decide)).trans (f8 77 (by decide))) hs_jKept
      have p219 : jBook σ150 := jBook.fr ((f153 47 (by decide)).trans (congrFun (f8 55 (by decide)) 47)) ((f153 10 (by decide)).trans (congrFun (f8 55 (by decide)) 10)) ((f152 81 (by decide)).trans (f8 81 (by decide))) hs_jBook
      have z220 : (σ150 2 0).toInt = (σ 2 0).toInt := (congrArg Int32.toInt (show σ150 2 0 = (σ 2 0) from ((congrFun (f152 2 (by decide)) 0).trans (congrFun (f8 2 (by decide)) 0))))
      have z221 : (σ150 55 6).toInt = (σ 55 6).toInt := (congrArg Int32.toInt (show σ150 55 6 = (σ 55 6) from ((f153 6 (by decide)).trans (congrFun (f8 55 (by decide)) 6))))
      exact ih x196 σ150 τ _ _ ls (by have h9 := tx196; omega) ⟨I197, I198, I199, I200, I201, I202, I203, I204, I205, I206, I207, I208, I209, I210, I211, I154, I212, I213, I214, I215, I216, I217, p218, p219, (by omega)⟩ hP hS (lv_sub hl [0, 1, 2, 3] rfl)
set_option maxHeartbeats 4000000 in
set_option maxRecDepth 100000 in
theorem law_case_5 {p : Program} {e : Env} {s : State} {m : MethodId} {below : List Frame} {meth : Method} {c : Code} (l : Launch) {b L : Nat} {xs : Nat → Int32} {D : va_G} {cI cL : ClassId} {ad zz : Nat → Nat} (C0 : lw_At p s m meth c b L xs) (hJ : jD ad) (hA : ∀ q, jA ad q → s.heap.size ≤ q) (hK : jK D cI cL s) (hZ : jZ zz (fun q : Nat => s.heap.size ≤ q) s s.heap) {x0 : Int32} (hx0 : 0 ≤ x0.toInt) (hxL : x0.toInt + 6 ≤ (L : Int)) (hL : L ≤ 384) {σ : Nat → Nat → Int32} {τ : Nat → Nat → Int64} {H : Heap} {locs : List Loc} (hS : va_S (fun q : Nat => s.heap.size ≤ q) s.heap H locs) {ls : Array Slot} (hAll : jAll σ τ) (hP : jH D cI cL ad σ τ H) (hl : lv_has ls 4 [(3, .int x0), (2, .ref (ad 55)), (1, .ref (ad 0)), (0, .ref b)]) (ih : ∀ (x1 : Int32) (σ : Nat → Nat → Int32) (τ : Nat → Nat → Int64) (H : Heap) (locs : List Loc) (ls : Array Slot), x1.toInt = x0.toInt + 6 → jAll σ τ → jH D cI cL ad σ τ H → va_S (fun q : Nat => s.heap.size ≤ q) s.heap H locs → lv_has ls 4 [(3, .int x1), (2, .ref (ad 55)), (1, .ref (ad 0)), (0, .ref b)] → W p l e room_1 s m #[Value.ref b] below meth c H locs 90 348600 (lw_Z below #[Value.ref b] s) (F0 m 18 ls [])) : W p l e room_1 s m #[Value.ref b] below meth c H locs 90 348600 (lw_Z below #[Value.ref b] s) (F0 m 381 ls []) := by
  obtain ⟨hx, hb, hr, hml, hown, hts0, hX, hbl, hlocks, hgv⟩ := C0
  have hts : ∀ w ∈ wsL_law, w.before #[Value.ref b] s = true := fun w h => hts0 w (wsL_law_in w h)
  have hbA : ¬ (fun q : Nat => s.heap.size ≤ q) b := Nat.not_le.mpr hbl
  have hown : s.vm.findClass RL = some m.cls := hown
  obtain ⟨hI2, hI9, hI12, hI16, hI18, hI22, hI31, hI38, hI43, hI47, hI50, hI101, hI102, hI103, hI104, hI105, hI106, hI107, hI109, hI110, hI111, hI119, hs_jKept, hs_jBook, ht0⟩ := hAll
  have hL9 : (L : Int) ≤ 384 := by omega
  refine lv_aload_n hx hb dL_law_381 rfl (lv_at hl 2 rfl) ?_
  refine jcallV (As := []) (rest := []) ⟨hx, hb, hml, hown, hts⟩ hK hP hA hS hZ (c_X11_order l D cI cL ad zz hJ σ τ hI9 hI16 hI47) cw_RL_36 (jc_0 cI cL ad σ τ) rfl ⟨Nat.le_of_ble_eq_true rfl, Nat.le_of_ble_eq_true rfl⟩ rfl rfl rfl hl.1 rfl (Nat.le_of_ble_eq_true rfl) dL_law_382 ⟨Nat.le_of_ble_eq_true rfl, Nat.le_of_ble_eq_true rfl⟩ (fun r2 σ1 τ1 H locs h1 hP hS => ?_)
  obtain ⟨rfl, f3, f4, f5, f6, I7, I8, I9, h1⟩ := h1
  obtain ⟨k10, h1⟩ := h1
  refine lv_pop hx hb dL_law_385 rfl ?_
  refine lv_aload_n hx hb dL_law_386 rfl (lv_at hl 1 rfl) ?_
  have I11 : jI104 σ1 := jI104_fr (congrFun (f3 55 (by decide)) 10) (congrFun (f3 55 (by decide)) 12) (congrFun (f3 55 (by decide)) 13) (f3 62 (by decide)) (f3 67 (by decide)) hI104
  have I12 : jI105 σ1 := jI105_fr (congrFun (f3 55 (by decide)) 15) (f3 65 (by decide)) hI105
  have I13 : jI107 σ1 := jI107_fr (congrFun (f3 55 (by decide)) 12) (congrFun (f3 55 (by decide)) 47) (f3 80 (by decide)) hI107
  have p14 : jBook σ1 := jBook.fr (congrFun (f3 55 (by decide)) 47) (congrFun (f3 55 (by decide)) 10) (f3 81 (by decide)) hs_jBook
  refine jcallV (As := []) (rest := []) ⟨hx, hb, hml, hown, hts⟩ hK hP hA hS hZ (c_X12_order l D cI cL ad zz hJ σ1 τ I11 I12 I13 p14) cw_RL_40 (jc_55 cI cL ad σ1 τ) rfl ⟨Nat.le_of_ble_eq_true rfl, Nat.le_of_ble_eq_true rfl⟩ rfl rfl rfl hl.1 rfl (Nat.le_of_ble_eq_true rfl) dL_law_387 ⟨Nat.le_of_ble_eq_true rfl, Nat.le_of_ble_eq_true rfl⟩ (fun r16 σ15 τ15 H locs h15 hP hS => ?_)
  obtain ⟨rfl, f17, f18, I19, I20, I21, p22, h15⟩ := h15
  obtain ⟨k23, h15⟩ := h15
  refine lv_pop hx hb dL_law_390 rfl ?_
  refine lv_goto (tgt := 1357) hx hb dL_law_391 (by decide) ?_
  obtain ⟨x24, ex24⟩ : ∃ y : Int32, y = x0 + 6 := ⟨_, rfl⟩
  have tx24 : x24.toInt = x0.toInt + 6 := (jadd ex24 rfl jz_6 (by omega) (by omega)).trans (by omega)
  refine lv_iinc (v := x24) (lv' := [(3, .int x24), (2, .ref (ad 55)), (1, .ref (ad 0)), (0, .ref b)]) hx hb dL_law_1357 hl (k := 0) rfl (by rw [ex24]; rfl) (by decide) rfl (fun ls hl => ?_)
  refine lv_goto (tgt := 18) hx hb dL_law_1360 (by decide) ?_
  have I25 : jI2 σ15 := jI2_fr ((congrFun (f17 2 (by decide)) 0).trans (congrFun (f3 2 (by decide)) 0)) ((congrFun (f17 2 (by decide)) 1).trans (congrFun (f3 2 (by decide)) 1)) ((congrFun (f17 2 (by decide)) 2).trans (congrFun (f3 2 (by decide)) 2)) ((congrFun (f17 2 (by decide)) 3).trans (congrFun (f3 2 (by decide)) 3)) ((f17 6 (by decide)).trans (f3 6 (by decide))) hI2
  have I26 : jI9 σ15 := jI9_fr (congrFun (f17 9 (by decide)) 0) (f17 10 (by decide)) (f17 11 (by decide)) I7
  have I27 : jI12 σ15 := jI12_fr ((congrFun (f17 12 (by decide)) 0).trans (congrFun (f3 12 (by decide)) 0)) ((f17 13 (by decide)).trans (f3 13 (by decide))) hI12
  have I28 : jI16 σ15 := jI16_fr (congrFun (f17 16 (by decide)) 0) (congrFun (f17 16 (by decide)) 1) (congrFun (f17 16 (by decide)) 2) (f17 17 (by decide)) I8
  have I29 : jI18 σ15 := jI18_fr ((congrFun (f17 18 (by decide)) 0).trans (congrFun (f3 18 (by decide)) 0)) ((f17 19 (by decide)).trans (f3 19 (by decide))) hI18
  have I30 : jI22 σ15 := jI22_fr ((congrFun (f17 22 (by decide)) 0).trans (congrFun (f3 22 (by decide)) 0)) ((f17 23 (by decide)).trans (f3 23 (by decide))) hI22
  have I31 : jI31 σ15 := jI31_fr ((congrFun (f17 31 (by decide)) 8).trans (congrFun (f3 31 (by decide)) 8)) ((f17 33 (by decide)).trans (f3 33 (by decide))) ((f17 36 (by decide)).trans (f3 36 (by decide))) hI31
  have I32 : jI38 σ15 := jI38_fr ((congrFun (f17 38 (by decide)) 0).trans (congrFun (f3 38 (by decide)) 0)) ((congrFun (f17 38 (by decide)) 1).trans (congrFun (f3 38 (by decide)) 1)) ((f17 39 (by decide)).trans (f3 39 (by decide))) hI38
  have I33 : jI43 σ15 := jI43_fr ((congrFun (f17 43 (by decide)) 8).trans (congrFun (f3 43 (by decide)) 8)) hI43
  have I34 : jI47 σ15 := jI47_fr (congrFun (f17 47 (by decide)) 0) (f17 49 (by decide)) I9
  have I35 : jI50 σ15 := jI50_fr ((f17 52 (by decide)).trans (f3 52 (by decide))) hI50
  have I36 : jI101 σ15 := jI101_fr ((f18 4 (by decide)).trans (congrFun (f3 55 (by decide)) 4)) ((f18 5 (by decide)).trans (congrFun (f3 55 (by decide)) 5)) ((f17 56 (by decide)).trans (f3 56 (by decide))) ((f17 57 (by decide)).trans (f3 57 (by decide))) ((f17 58 (by decide)).trans (f3 58 (by decide))) ((f17 59 (by decide)).trans (f3 59 (by decide))) hI101
  have I37 : jI102 σ15 := jI102_fr ((f18 6 (by decide)).trans (congrFun (f3 55 (by decide)) 6)) ((f17 60 (by decide)).trans (f3 60 (by decide))) ((f17 61 (by decide)).trans (f3 61 (by decide))) hI102
  have I38 : jI103 σ15 := jI103_fr ((f18 9 (by decide)).trans (congrFun (f3 55 (by decide)) 9)) hI103
  have I39 : jI106 σ15 := jI106_fr ((f18 32 (by decide)).trans (congrFun (f3 55 (by decide)) 32)) ((f17 70 (by decide)).trans (f3 70 (by decide))) ((f17 71 (by decide)).trans (f3 71 (by decide))) ((f17 72 (by decide)).trans (f3 72 (by decide))) hI106
  have I40 : jI109 σ15 := jI109_fr ((f18 50 (by decide)).trans (congrFun (f3 55 (by decide)) 50)) hI109
  have I41 : jI110 σ15 := jI110_fr ((f17 86 (by decide)).trans (f3 86 (by decide))) ((f17 87 (by decide)).trans (f3 87 (by decide))) hI110
  have I42 : jI111 σ15 := jI111_fr ((f17 79 (by decide)).trans (f3 79 (by decide))) hI111
  have I43 : jI119 σ15 := jI119_fr ((f17 68 (by decide)).trans (f3 68 (by decide))) hI119
  have p44 : jKept σ15 := jKept.fr ((f17 75 (by decide)).trans (f3 75 (by decide))) ((f17 76 (by decide)).trans (f3 76 (by decide))) ((f17 77 (by decide)).trans (f3 77 (by decide))) hs_jKept
  have z45 : (σ15 2 0).toInt = (σ 2 0).toInt := (congrArg Int32.toInt (show σ15 2 0 = (σ 2 0) from ((congrFun (f17 2 (by decide)) 0).trans (congrFun (f3 2 (by decide)) 0))))
  have z46 : (σ15 55 6).toInt = (σ 55 6).toInt := (congrArg Int32.toInt (show σ15 55 6 = (σ 55 6) from ((f18 6 (by decide)).trans (congrFun (f3 55 (by decide)) 6))))
  exact ih x24 σ15 τ _ _ ls (by have h9 := tx24; omega) ⟨I25, I26, I27, I28, I29, I30, I31, I32, I33, I34, I35, I36, I37, I38, I19, I20, I39, I21, I40, I41, I42, I43, p44, p22, (by omega)⟩ hP hS (lv_sub hl [0, 1, 2, 3] rfl)
set_option maxHeartbeats 4000000 in
set_option maxRecDepth 100000 in
theorem law_case_6 {p : Program} {e : Env} {s : State} {m : MethodId} {below : List Frame} {meth : Method} {c : Code} (l : Launch) {b L : Nat} {xs : Nat → Int32} {D : va_G} {cI cL : ClassId} {ad zz : Nat → Nat} (C0 : lw_At p s m meth c b L xs) (hJ : jD ad) (hA : ∀ q, jA ad q → s.heap.size ≤ q) (hK : jK D cI cL s) (hZ : jZ zz (fun q : Nat => s.heap.size ≤ q) s s.heap) {x0 : Int32} (hx0 : 0 ≤ x0.toInt) (hxL : x0.toInt + 6 ≤ (L : Int)) (hL : L ≤ 384) {σ : Nat → Nat → Int32} {τ : Nat → Nat → Int64} {H : Heap} {locs : List Loc} (hS : va_S (fun q : Nat => s.heap.size ≤ q) s.heap H locs) {ls : Array Slot} (hAll : jAll σ τ) (hP : jH D cI cL ad σ τ H) (hl : lv_has ls 4 [(3, .int x0), (2, .ref (ad 55)), (1, .ref (ad 0)), (0, .ref b)]) (ih : ∀ (x1 : Int32) (σ : Nat → Nat → Int32) (τ : Nat → Nat → Int64) (H : Heap) (locs : List Loc) (ls : Array Slot), x1.toInt = x0.toInt + 6 → jAll σ τ → jH D cI cL ad σ τ H → va_S (fun q : Nat => s.heap.size ≤ q) s.heap H locs → lv_has ls 4 [(3, .int x1), (2, .ref (ad 55)), (1, .ref (ad 0)), (0, .ref b)] → W p l e room_1 s m #[Value.ref b] below meth c H locs 90 348600 (lw_Z below #[Value.ref b] s) (F0 m 18 ls [])) : W p l e room_1 s m #[Value.ref b] below meth c H locs 90 348600 (lw_Z below #[Value.ref b] s) (F0 m 394 ls []) := by
  obtain ⟨hx, hb, hr, hml, hown, hts0, hX, hbl, hlocks, hgv⟩ := C0
  have hts : ∀ w ∈ wsL_law, w.before #[Value.ref b] s = true := fun w h => hts0 w (wsL_law_in w h)
  have hbA : ¬ (fun q : Nat => s.heap.size ≤ q) b := Nat.not_le.mpr hbl
  have hown : s.vm.findClass RL = some m.cls := hown
  obtain ⟨hI2, hI9, hI12, hI16, hI18, hI22, hI31, hI38, hI43, hI47, hI50, hI101, hI102, hI103, hI104, hI105, hI106, hI107, hI109, hI110, hI111, hI119, hs_jKept, hs_jBook, ht0⟩ := hAll
  have hL9 : (L : Int) ≤ 384 := by omega
  refine lv_aload_n hx hb dL_law_394 rfl (lv_at hl 2 rfl) ?_
  refine lv_aload_n hx hb dL_law_395 rfl (lv_at hl 3 rfl) ?_
  refine lv_iload_n hx hb dL_law_396 rfl (lv_at hl 0 rfl) ?_
  refine lv_iconst (v := 1) hx hb dL_law_397 (by decide) ?_
  have g1 := jrg (rfl : x0.toInt = x0.toInt)
  refine lv_iadd hx hb dL_law_398 ?_
  refine lv_topi (fun x2 ex2 => ?_)
  have tx2 : x2.toInt = x0.toInt + 1 := (jadd ex2 rfl jz_1 (by omega) (by omega)).trans (by omega)
  refine va_sld hx hb hX hbl hbA hS (jin tx2 (by omega) (by omega)) dL_law_399 ?_
  have g3 := jrg (rfl : (xs x2.toNatClampNeg).toInt = (xs x2.toNatClampNeg).toInt)
  refine jcallV (As := [.int (xs x2.toNatClampNeg)]) (rest := []) ⟨hx, hb, hml, hown, hts⟩ hK hP hA hS hZ (c_X11_text l D cI cL ad zz hJ σ τ (xs x2.toNatClampNeg) ((xs x2.toNatClampNeg).toInt) rfl hI9 hI12 hI18 hI22) cw_RL_41 (jc_0 cI cL ad σ τ) rfl ⟨Nat.le_of_ble_eq_true rfl, Nat.le_of_ble_eq_true rfl⟩ rfl rfl rfl hl.1 rfl (Nat.le_of_ble_eq_true rfl) dL_law_400 ⟨Nat.le_of_ble_eq_true rfl, Nat.le_of_ble_eq_true rfl⟩ (fun r5 σ4 τ4 H locs h4 hP hS => ?_)
  obtain ⟨rfl, f6, f7, f8, f9, f10, f11, I12, I13, I14, I15, h4⟩ := h4
  obtain ⟨k16, h4⟩ := h4
  refine lv_pop hx hb dL_law_403 rfl ?_
  refine lv_aload_n hx hb dL_law_404 rfl (lv_at hl 1 rfl) ?_
  refine lv_aload_n hx hb dL_law_405 rfl (lv_at hl 3 rfl) ?_
  refine lv_iload_n hx hb dL_law_406 rfl (lv_at hl 0 rfl) ?_
  refine lv_iconst (v := 1) hx hb dL_law_407 (by decide) ?_
  refine lv_iadd hx hb dL_law_408 ?_
  refine jtopr ex2.symm ?_
  refine va_sld hx hb hX hbl hbA hS (jin tx2 (by omega) (by omega)) dL_law_409 ?_
  have I17 : jI105 σ4 := jI105_fr (congrFun (f6 55 (by decide)) 15) (f6 65 (by decide)) hI105
  have z18 : (σ4 55 15).toInt = (σ 55 15).toInt := (congrArg Int32.toInt (show σ4 55 15 = (σ 55 15) from (congrFun (f6 55 (by decide)) 15)))
  refine jcallV (As := [.int (xs x2.toNatClampNeg)]) (rest := []) ⟨hx, hb, hml, hown, hts⟩ hK hP hA hS hZ (c_X12_text l D cI cL ad zz hJ σ4 τ (xs x2.toNatClampNeg) ((xs x2.toNatClampNeg).toInt) rfl I17) cw_RL_44 (jc_55 cI cL ad σ4 τ) rfl ⟨Nat.le_of_ble_eq_true rfl, Nat.le_of_ble_eq_true rfl⟩ rfl rfl rfl hl.1 rfl (Nat.le_of_ble_eq_true rfl) dL_law_410 ⟨Nat.le_of_ble_eq_true rfl, Nat.le_of_ble_eq_true rfl⟩ (fun r20 σ19 τ19 H locs h19 hP hS => ?_)
  obtain ⟨rfl, f21, f22, I23, h19⟩ := h19
  obtain ⟨k24, h19⟩ := h19
  refine lv_pop hx hb dL_law_413 rfl ?_
  refine lv_goto (tgt := 1357) hx hb dL_law_414 (by decide) ?_
  obtain ⟨x25, ex25⟩ : ∃ y : Int32, y = x0 + 6 := ⟨_, rfl⟩
  have tx25 : x25.toInt = x0.toInt + 6 := (jadd ex25 rfl jz_6 (by omega) (by omega)).trans (by omega)
  refine lv_iinc (v := x25) (lv' := [(3, .int x25), (2, .ref (ad 55)), (1, .ref (ad 0)), (0, .ref b)]) hx hb dL_law_1357 hl (k := 0) rfl (by rw [ex25]; rfl) (by decide) rfl (fun ls hl => ?_)
  refine lv_goto (tgt := 18) hx hb dL_law_1360 (by decide) ?_
  have I26 : jI2 σ19 := jI2_fr ((congrFun (f21 2 (by decide)) 0).trans (congrFun (f6 2 (by decide)) 0)) ((congrFun (f21 2 (by decide)) 1).trans (congrFun (f6 2 (by decide)) 1)) ((congrFun (f21 2 (by decide)) 2).trans (congrFun (f6 2 (by decide)) 2)) ((congrFun (f21 2 (by decide)) 3).trans (congrFun (f6 2 (by decide)) 3)) ((f21 6 (by decide)).trans (f6 6 (by decide))) hI2
  have I27 : jI9 σ19 := jI9_fr (congrFun (f21 9 (by decide)) 0) (f21 10 (by decide)) (f21 11 (by decide)) I12
  have I28 : jI12 σ19 := jI12_fr (congrFun (f21 12 (by decide)) 0) (f21 13 (by decide)) I13
  have I29 : jI16 σ19 := jI16_fr ((congrFun (f21 16 (by decide)) 0).trans (congrFun (f6 16 (by decide)) 0)) ((congrFun (f21 16 (by decide)) 1).trans (congrFun (f6 16 (by decide)) 1)) ((congrFun (f21 16 (by decide)) 2).trans (congrFun (f6 16 (by decide)) 2)) ((f21 17 (by decide)).trans (f6 17 (by decide))) hI16
  have I30 : jI18 σ19 := jI18_fr (congrFun (f21 18 (by decide)) 0) (f21 19 (by decide)) I14
  have I31 : jI22 σ19 := jI22_fr (congrFun (f21 22 (by decide)) 0) (f21 23 (by decide)) I15
  have I32 : jI31 σ19 := jI31_fr ((congrFun (f21 31 (by decide)) 8).trans (congrFun (f6 31 (by decide)) 8)) ((f21 33 (by decide)).trans (f6 33 (by decide))) ((f21 36 (by decide)).trans (f6 36 (by decide))) hI31
  have I33 : jI38 σ19 := jI38_fr ((congrFun (f21 38 (by decide)) 0).trans (congrFun (f6 38 (by decide)) 0)) ((congrFun (f21 38 (by decide)) 1).trans (congrFun (f6 38 (by decide)) 1)) ((f21 39 (by decide)).trans (f6 39 (by decide))) hI38
  have I34 : jI43 σ19 := jI43_fr ((congrFun (f21 43 (by decide)) 8).trans (congrFun (f6 43 (by decide)) 8)) hI43
  have I35 : jI47 σ19 := jI47_fr ((congrFun (f21 47 (by decide)) 0).trans (congrFun (f6 47 (by decide)) 0)) ((f21 49 (by decide)).trans (f6 49 (by decide))) hI47
  have I36 : jI50 σ19 := jI50_fr ((f21 52 (by decide)).trans (f6 52 (by decide))) hI50
  have I37 : jI101 σ19 := jI101_fr ((f22 4 (by decide)).trans (congrFun (f6 55 (by decide)) 4)) ((f22 5 (by decide)).trans (congrFun (f6 55 (by decide)) 5)) ((f21 56 (by decide)).trans (f6 56 (by decide))) ((f21 57 (by decide)).trans (f6 57 (by decide))) ((f21 58 (by decide)).trans (f6 58 (by decide))) ((f21 59 (by decide)).trans (f6 59 (by decide))) hI101
  have I38 : jI102 σ19 := jI102_fr ((f22 6 (by decide)).trans (congrFun (f6 55 (by decide)) 6)) ((f21 60 (by decide)).trans (f6 60 (by decide))) ((f21 61 (by decide)).trans (f6 61 (by decide))) hI102
  have I39 : jI103 σ19 := jI103_fr ((f22 9 (by decide)).trans (congrFun (f6 55 (by decide)) 9)) hI103
  have I40 : jI104 σ19 := jI104_fr ((f22 10 (by decide)).trans (congrFun (f6 55 (by decide)) 10)) ((f22 12 (by decide)).trans (congrFun (f6 55 (by decide)) 12)) ((f22 13 (by decide)).trans (congrFun (f6 55 (by decide)) 13)) ((f21 62 (by decide)).trans (f6 62 (by decide))) ((f21 67 (by decide)).trans (f6 67 (by decide))) hI104
  have I41 : jI106 σ19 := jI106_fr ((f22 32 (by decide)).trans (congrFun (f6 55 (by decide)) 32)) ((f21 70 (by decide)).trans (f6 70 (by decide))) ((f21 71 (by decide)).trans (f6 71 (by decide))) ((f21 72 (by decide)).trans (f6 72 (by decide))) hI106
  have I42 : jI107 σ19 := jI107_fr ((f22 12 (by decide)).trans (congrFun (f6 55 (by decide)) 12)) ((f22 47 (by decide)).trans (congrFun (f6 55 (by decide)) 47)) ((f21 80 (by decide)).trans (f6 80 (by decide))) hI107
  have I43 : jI109 σ19 := jI109_fr ((f22 50 (by decide)).trans (congrFun (f6 55 (by decide)) 50)) hI109
  have I44 : jI110 σ19 := jI110_fr ((f21 86 (by decide)).trans (f6 86 (by decide))) ((f21 87 (by decide)).trans (f6 87 (by decide))) hI110
  have I45 : jI111 σ19 := jI111_fr ((f21 79 (by decide)).trans (f6 79 (by decide))) hI111
  have I46 : jI119 σ19 := jI119_fr ((f21 68 (by decide)).trans (f6 68 (by decide))) hI119
  have p47 : jKept σ19 := jKept.fr ((f21 75 (by decide)).trans (f6 75 (by decide))) ((f21 76 (by decide)).trans (f6 76 (by decide))) ((f21 77 (by decide)).trans (f6 77 (by decide))) hs_jKept
  have p48 : jBook σ19 := jBook.fr ((f22 47 (by decide)).trans (congrFun (f6 55 (by decide)) 47)) ((f22 10 (by decide)).trans (congrFun (f6 55 (by decide)) 10)) ((f21 81 (by decide)).trans (f6 81 (by decide))) hs_jBook
  have z49 : (σ19 2 0).toInt = (σ 2 0).toInt := (congrArg Int32.toInt (show σ19 2 0 = (σ 2 0) from ((congrFun (f21 2 (by decide)) 0).trans (congrFun (f6 2 (by decide)) 0))))
  have z50 : (σ19 55 6).toInt = (σ 55 6).toInt := (congrArg Int32.toInt (show σ19 55 6 = (σ 55 6) from ((f22 6 (by decide)).trans (congrFun (f6 55 (by decide)) 6))))
  exact ih x25 σ19 τ _ _ ls (by have h9 := tx25; omega) ⟨I26, I27, I28, I29, I30, I31, I32, I33, I34, I35, I36, I37, I38, I39, I40, I23, I41, I42, I43, I44, I45, I46, p47, p48, (by omega)⟩ hP hS (lv_sub hl [0, 1, 2, 3] rfl)
set_option maxHeartbeats 4000000 in
set_option maxRecDepth 100000 in
theorem law_case_7 {p : Program} {e : Env} {s : State} {m : MethodId} {below : List Frame} {meth : Method} {c : Code} (l : Launch) {b L : Nat} {xs : Nat → Int32} {D : va_G} {cI cL : ClassId} {ad zz : Nat → Nat} (C0 : lw_At p s m meth c b L xs) (hJ : jD ad) (hA : ∀ q, jA ad q → s.heap.size ≤ q) (hK : jK D cI cL s) (hZ : jZ zz (fun q : Nat => s.heap.size ≤ q) s s.heap) {x0 : Int32} (hx0 : 0 ≤ x0.toInt) (hxL : x0.toInt + 6 ≤ (L : Int)) (hL : L ≤ 384) {σ : Nat → Nat → Int32} {τ : Nat → Nat → Int64} {H : Heap} {locs : List Loc} (hS : va_S (fun q : Nat => s.heap.size ≤ q) s.heap H locs) {ls : Array Slot} (hAll : jAll σ τ) (hP : jH D cI cL ad σ τ H) (hl : lv_has ls 4 [(3, .int x0), (2, .ref (ad 55)), (1, .ref (ad 0)), (0, .ref b)]) (ih : ∀ (x1 : Int32) (σ : Nat → Nat → Int32) (τ : Nat → Nat → Int64) (H : Heap) (locs : List Loc) (ls : Array Slot), x1.toInt = x0.toInt + 6 → jAll σ τ → jH D cI cL ad σ τ H → va_S (fun q : Nat => s.heap.size ≤ q) s.heap H locs → lv_has ls 4 [(3, .int x1), (2, .ref (ad 55)), (1, .ref (ad 0)), (0, .ref b)] → W p l e room_1 s m #[Value.ref b] below meth c H locs 90 348600 (lw_Z below #[Value.ref b] s) (F0 m 18 ls [])) : W p l e room_1 s m #[Value.ref b] below meth c H locs 90 348600 (lw_Z below #[Value.ref b] s) (F0 m 417 ls []) := by
  obtain ⟨hx, hb, hr, hml, hown, hts0, hX, hbl, hlocks, hgv⟩ := C0
  have hts : ∀ w ∈ wsL_law, w.before #[Value.ref b] s = true := fun w h => hts0 w (wsL_law_in w h)
  have hbA : ¬ (fun q : Nat => s.heap.size ≤ q) b := Nat.not_le.mpr hbl
  have hown : s.vm.findClass RL = some m.cls := hown
  obtain ⟨hI2, hI9, hI12, hI16, hI18, hI22, hI31, hI38, hI43, hI47, hI50, hI101, hI102, hI103, hI104, hI105, hI106, hI107, hI109, hI110, hI111, hI119, hs_jKept, hs_jBook, ht0⟩ := hAll
  have hL9 : (L : Int) ≤ 384 := by omega
  refine lv_aload_n hx hb dL_law_417 rfl (lv_at hl 2 rfl) ?_
  refine lv_aload_n hx hb dL_law_418 rfl (lv_at hl 3 rfl) ?_
  refine lv_iload_n hx hb dL_law_419 rfl (lv_at hl 0 rfl) ?_
  refine lv_iconst (v := 1) hx hb dL_law_420 (by decide) ?_
  have g1 := jrg (rfl : x0.toInt = x0.toInt)
  refine lv_iadd hx hb dL_law_421 ?_
  refine lv_topi (fun x2 ex2 => ?_)
  have tx2 : x2.toInt = x0.toInt + 1 := (jadd ex2 rfl jz_1 (by omega) (by omega)).trans (by omega)
  refine va_sld hx hb hX hbl hbA hS (jin tx2 (by omega) (by omega)) dL_law_422 ?_
  have g3 := jrg (rfl : (xs x2.toNatClampNeg).toInt = (xs x2.toNatClampNeg).toInt)
  refine jcallV (As := [.int (xs x2.toNatClampNeg)]) (rest := []) ⟨hx, hb, hml, hown, hts⟩ hK hP hA hS hZ (c_X11_of l D cI cL ad zz hJ σ τ (xs x2.toNatClampNeg) ((xs x2.toNatClampNeg).toInt) rfl hI16) cw_RL_45 (jc_0 cI cL ad σ τ) rfl ⟨Nat.le_of_ble_eq_true rfl, Nat.le_of_ble_eq_true rfl⟩ rfl rfl rfl hl.1 rfl (Nat.le_of_ble_eq_true rfl) dL_law_423 ⟨Nat.le_of_ble_eq_true rfl, Nat.le_of_ble_eq_true rfl⟩ (fun r5 σ4 τ4 H locs h4 hP hS => ?_)
  obtain ⟨⟨rfl, rfl⟩, h4⟩ := h4
  refine lv_pop hx hb dL_law_426 rfl ?_
  refine lv_aload_n hx hb dL_law_427 rfl (lv_at hl 1 rfl) ?_
  refine lv_aload_n hx hb dL_law_428 rfl (lv_at hl 3 rfl) ?_
  refine lv_iload_n hx hb dL_law_429 rfl (lv_at hl 0 rfl) ?_
  refine lv_iconst (v := 1) hx hb dL_law_430 (by decide) ?_
  refine lv_iadd hx hb dL_law_431 ?_
  refine jtopr ex2.symm ?_
  refine va_sld hx hb hX hbl hbA hS (jin tx2 (by omega) (by omega)) dL_law_432 ?_
  refine jcallV (As := [.int (xs x2.toNatClampNeg)]) (rest := []) ⟨hx, hb, hml, hown, hts⟩ hK hP hA hS hZ (c_X12_of l D cI cL ad zz hJ σ τ (xs x2.toNatClampNeg) ((xs x2.toNatClampNeg).toInt) rfl hI104 hI107) cw_RL_48 (jc_55 cI cL ad σ τ) rfl ⟨Nat.le_of_ble_eq_true rfl, Nat.le_of_ble_eq_true rfl⟩ rfl rfl rfl hl.1 rfl (Nat.le_of_ble_eq_true rfl) dL_law_433 ⟨Nat.le_of_ble_eq_true rfl, Nat.le_of_ble_eq_true rfl⟩ (fun r7 σ6 τ6 H locs h6 hP hS => ?_)
  obtain ⟨⟨rfl, rfl⟩, h6⟩ := h6
  refine lv_pop hx hb dL_law_436 rfl ?_
  refine lv_goto (tgt := 1357) hx hb dL_law_437 (by decide) ?_
  obtain ⟨x8, ex8⟩ : ∃ y : Int32, y = x0 + 6 := ⟨_, rfl⟩
  have tx8 : x8.toInt = x0.toInt + 6 := (jadd ex8 rfl jz_6 (by omega) (by omega)).trans (by omega)
  refine lv_iinc (v := x8) (lv' := [(3, .int x8), (2, .ref (ad 55)), (1, .ref (ad 0)), (0, .ref b)]) hx hb dL_law_1357 hl (k := 0) rfl (by rw [ex8]; rfl) (by decide) rfl (fun ls hl => ?_)
  refine lv_goto (tgt := 18) hx hb dL_law_1360 (by decide) ?_
  exact ih x8 σ τ _ _ ls (by have h9 := tx8; omega) ⟨hI2, hI9, hI12, hI16, hI18, hI22, hI31, hI38, hI43, hI47, hI50, hI101, hI102, hI103, hI104, hI105, hI106, hI107, hI109, hI110, hI111, hI119, hs_jKept, hs_jBook, (by omega)⟩ hP hS (lv_sub hl [0, 1, 2, 3] rfl)
set_option maxHeartbeats 4000000 in
set_option maxRecDepth 100000 in
theorem law_case_8 {p : Program} {e : Env} {s : State} {m : MethodId} {below : List Frame} {meth : Method} {c : Code} (l : Launch) {b L : Nat} {xs : Nat → Int32} {D : va_G} {cI cL : ClassId} {ad zz : Nat → Nat} (C0 : lw_At p s m meth c b L xs) (hJ : jD ad) (hA : ∀ q, jA ad q → s.heap.size ≤ q) (hK : jK D cI cL s) (hZ : jZ zz (fun q : Nat => s.heap.size ≤ q) s s.heap) {x0 : Int32} (hx0 : 0 ≤ x0.toInt) (hxL : x0.toInt + 6 ≤ (L : Int)) (hL : L ≤ 384) {σ : Nat → Nat → Int32} {τ : Nat → Nat → Int64} {H : Heap} {locs : List Loc} (hS : va_S (fun q : Nat => s.heap.size ≤ q) s.heap H locs) {ls : Array Slot} (hAll : jAll σ τ) (hP : jH D cI cL ad σ τ H) (hl : lv_has ls 4 [(3, .int x0), (2, .ref (ad 55)), (1, .ref (ad 0)), (0, .ref b)]) (ih : ∀ (x1 : Int32) (σ : Nat → Nat → Int32) (τ : Nat → Nat → Int64) (H : Heap) (locs : List Loc) (ls : Array Slot), x1.toInt = x0.toInt + 6 → jAll σ τ → jH D cI cL ad σ τ H → va_S (fun q : Nat => s.heap.size ≤ q) s.heap H locs → lv_has ls 4 [(3, .int x1), (2, .ref (ad 55)), (1, .ref (ad 0)), (0, .ref b)] → W p l e room_1 s m #[Value.ref b] below meth c H locs 90 348600 (lw_Z below #[Value.ref b] s) (F0 m 18 ls [])) : W p l e room_1 s m #[Value.ref b] below meth c H locs 90 348600 (lw_Z below #[Value.ref b] s) (F0 m 440 ls []) := by
  obtain ⟨hx, hb, hr, hml, hown, hts0, hX, hbl, hlocks, hgv⟩ := C0
  have hts : ∀ w ∈ wsL_law, w.before #[Value.ref b] s = true := fun w h => hts0 w (wsL_law_in w h)
  have hbA : ¬ (fun q : Nat => s.heap.size ≤ q) b := Nat.not_le.mpr hbl
  have hown : s.vm.findClass RL = some m.cls := hown
  obtain ⟨hI2, hI9, hI12, hI16, hI18, hI22, hI31, hI38, hI43, hI47, hI50, hI101, hI102, hI103, hI104, hI105, hI106, hI107, hI109, hI110, hI111, hI119, hs_jKept, hs_jBook, ht0⟩ := hAll
  have hL9 : (L : Int) ≤ 384 := by omega
  refine lv_aload_n hx hb dL_law_440 rfl (lv_at hl 2 rfl) ?_
  refine lv_aload_n hx hb dL_law_441 rfl (lv_at hl 3 rfl) ?_
  refine lv_iload_n hx hb dL_law_442 rfl (lv_at hl 0 rfl) ?_
  refine lv_iconst (v := 1) hx hb dL_law_443 (by decide) ?_
  have g1 := jrg (rfl : x0.toInt = x0.toInt)
  refine lv_iadd hx hb dL_law_444 ?_
  refine lv_topi (fun x2 ex2 => ?_)
  have tx2 : x2.toInt = x0.toInt + 1 := (jadd ex2 rfl jz_1 (by omega) (by omega)).trans (by omega)
  refine va_sld hx hb hX hbl hbA hS (jin tx2 (by omega) (by omega)) dL_law_445 ?_
  have g3 := jrg (rfl : (xs x2.toNatClampNeg).toInt = (xs x2.toNatClampNeg).toInt)
  refine lv_aload_n hx hb dL_law_446 rfl (lv_at hl 3 rfl) ?_
  refine lv_iload_n hx hb dL_law_447 rfl (lv_at hl 0 rfl) ?_
  refine lv_iconst (v := 2) hx hb dL_law_448 (by decide) ?_
  refine lv_iadd hx hb dL_law_449 ?_
  refine lv_topi (fun x4 ex4 => ?_)
  have tx4 : x4.toInt = x0.toInt + 2 := (jadd ex4 rfl jz_2 (by omega) (by omega)).trans (by omega)
  refine va_sld hx hb hX hbl hbA hS (jin tx4 (by omega) (by omega)) dL_law_450 ?_
  have g5 := jrg (rfl : (xs x4.toNatClampNeg).toInt = (xs x4.toNatClampNeg).toInt)
  refine lv_aload_n hx hb dL_law_451 rfl (lv_at hl 3 rfl) ?_
  refine lv_iload_n hx hb dL_law_452 rfl (lv_at hl 0 rfl) ?_
  refine lv_iconst (v := 3) hx hb dL_law_453 (by decide) ?_
  refine lv_iadd hx hb dL_law_454 ?_
  refine lv_topi (fun x6 ex6 => ?_)
  have tx6 : x6.toInt = x0.toInt + 3 := (jadd ex6 rfl jz_3 (by omega) (by omega)).trans (by omega)
  refine va_sld hx hb hX hbl hbA hS (jin tx6 (by omega) (by omega)) dL_law_455 ?_
  have g7 := jrg (rfl : (xs x6.toNatClampNeg).toInt = (xs x6.toNatClampNeg).toInt)
  refine jcallV (As := [.int (xs x2.toNatClampNeg), .int (xs x4.toNatClampNeg), .int (xs x6.toNatClampNeg)]) (rest := []) ⟨hx, hb, hml, hown, hts⟩ hK hP hA hS hZ (c_X11_over l D cI cL ad zz hJ σ τ (xs x2.toNatClampNeg) ((xs x2.toNatClampNeg).toInt) rfl (xs x4.toNatClampNeg) ((xs x4.toNatClampNeg).toInt) rfl (xs x6.toNatClampNeg) ((xs x6.toNatClampNeg).toInt) rfl hI2 hI22) cw_RL_49 (jc_0 cI cL ad σ τ) rfl ⟨Nat.le_of_ble_eq_true rfl, Nat.le_of_ble_eq_true rfl⟩ rfl rfl rfl hl.1 rfl (Nat.le_of_ble_eq_true rfl) dL_law_456 ⟨Nat.le_of_ble_eq_true rfl, Nat.le_of_ble_eq_true rfl⟩ (fun r9 σ8 τ8 H locs h8 hP hS => ?_)
  obtain ⟨rfl, f10, h8⟩ := h8
  refine lv_pop hx hb dL_law_459 rfl ?_
  refine lv_aload_n hx hb dL_law_460 rfl (lv_at hl 1 rfl) ?_
  refine lv_aload_n hx hb dL_law_461 rfl (lv_at hl 3 rfl) ?_
  refine lv_iload_n hx hb dL_law_462 rfl (lv_at hl 0 rfl) ?_
  refine lv_iconst (v := 1) hx hb dL_law_463 (by decide) ?_
  refine lv_iadd hx hb dL_law_464 ?_
  refine jtopr ex2.symm ?_
  refine va_sld hx hb hX hbl hbA hS (jin tx2 (by omega) (by omega)) dL_law_465 ?_
  refine lv_aload_n hx hb dL_law_466 rfl (lv_at hl 3 rfl) ?_
  refine lv_iload_n hx hb dL_law_467 rfl (lv_at hl 0 rfl) ?_
  refine lv_iconst (v := 2) hx hb dL_law_468 (by decide) ?_
  refine lv_iadd hx hb dL_law_469 ?_
  refine jtopr ex4.symm ?_
  refine va_sld hx hb hX hbl hbA hS (jin tx4 (by omega) (by omega)) dL_law_470 ?_
  refine lv_aload_n hx hb dL_law_471 rfl (lv_at hl 3 rfl) ?_
  refine lv_iload_n hx hb dL_law_472 rfl (lv_at hl 0 rfl) ?_
  refine lv_iconst (v := 3) hx hb dL_law_473 (by decide) ?_
  refine lv_iadd hx hb dL_law_474 ?_
  refine jtopr ex6.symm ?_
  refine va_sld hx hb hX hbl hbA hS (jin tx6 (by omega) (by omega)) dL_law_475 ?_
  have I11 : jI101 σ8 := jI101_fr (congrFun (f10 55 (by decide)) 4) (congrFun (f10 55 (by decide)) 5) (f10 56 (by decide)) (f10 57 (by decide)) (f10 58 (by decide)) (f10 59 (by decide)) hI101
  have I12 : jI102 σ8 := jI102_fr (congrFun (f10 55 (by decide)) 6) (f10 60 (by decide)) (f10 61 (by decide)) hI102
  have I13 : jI103 σ8 := jI103_fr (congrFun (f10 55 (by decide)) 9) hI103
  have I14 : jI104 σ8 := jI104_fr (congrFun (f10 55 (by decide)) 10) (congrFun (f10 55 (by decide)) 12) (congrFun (f10 55 (by decide)) 13) (f10 62 (by decide)) (f10 67 (by decide)) hI104
  have I15 : jI105 σ8 := jI105_fr (congrFun (f10 55 (by decide)) 15) (f10 65 (by decide)) hI105
  have I16 : jI119 σ8 := jI119_fr (f10 68 (by decide)) hI119
  refine jcallV (As := [.int (xs x2.toNatClampNeg), .int (xs x4.toNatClampNeg), .int (xs x6.toNatClampNeg)]) (rest := []) ⟨hx, hb, hml, hown, hts⟩ hK hP hA hS hZ (c_X12_over l D cI cL ad zz hJ σ8 τ (xs x2.toNatClampNeg) ((xs x2.toNatClampNeg).toInt) rfl (xs x4.toNatClampNeg) ((xs x4.toNatClampNeg).toInt) rfl (xs x6.toNatClampNeg) ((xs x6.toNatClampNeg).toInt) rfl I11 I12 I13 I14 I15 I16) cw_RL_52 (jc_55 cI cL ad σ8 τ) rfl ⟨Nat.le_of_ble_eq_true rfl, Nat.le_of_ble_eq_true rfl⟩ rfl rfl rfl hl.1 rfl (Nat.le_of_ble_eq_true rfl) dL_law_476 ⟨Nat.le_of_ble_eq_true rfl, Nat.le_of_ble_eq_true rfl⟩ (fun r18 σ17 τ17 H locs h17 hP hS => ?_)
  obtain ⟨rfl, f19, f20, I21, h17⟩ := h17
  refine lv_pop hx hb dL_law_479 rfl ?_
  refine lv_goto (tgt := 1357) hx hb dL_law_480 (by decide) ?_
  obtain ⟨x22, ex22⟩ : ∃ y : Int32, y = x0 + 6 := ⟨_, rfl⟩
  have tx22 : x22.toInt = x0.toInt + 6 := (jadd ex22 rfl jz_6 (by omega) (by omega)).trans (by omega)
  refine lv_iinc (v := x22) (lv' := [(3, .int x22), (2, .ref (ad 55)), (1, .ref (ad 0)), (0, .ref b)]) hx hb dL_law_1357 hl (k := 0) rfl (by rw [ex22]; rfl) (by decide) rfl (fun ls hl => ?_)
  refine lv_goto (tgt := 18) hx hb dL_law_1360 (by decide) ?_
  have I23 : jI2 σ17 := jI2_fr ((congrFun (f19 2 (by decide)) 0).trans (congrFun (f10 2 (by decide)) 0)) ((congrFun (f19 2 (by decide)) 1).trans (congrFun (f10 2 (by decide)) 1)) ((congrFun (f19 2 (by decide)) 2).trans (congrFun (f10 2 (by decide)) 2)) ((congrFun (f19 2 (by decide)) 3).trans (congrFun (f10 2 (by decide)) 3)) ((f19 6 (by decide)).trans (f10 6 (by decide))) hI2
  have I24 : jI9 σ17 := jI9_fr ((congrFun (f19 9 (by decide)) 0).trans (congrFun (f10 9 (by decide)) 0)) ((f19 10 (by decide)).trans (f10 10 (by decide))) ((f19 11 (by decide)).trans (f10 11 (by decide))) hI9
  have I25 : jI12 σ17 := jI12_fr ((congrFun (f19 12 (by decide)) 0).trans (congrFun (f10 12 (by decide)) 0)) ((f19 13 (by decide)).trans (f10 13 (by decide))) hI12
  have I26 : jI16 σ17 := jI16_fr ((congrFun (f19 16 (by decide)) 0).trans (congrFun (f10 16 (by decide)) 0)) ((congrFun (f19 16 (by decide)) 1).trans (congrFun (f10 16 (by decide)) 1)) ((congrFun (f19 16 (by decide)) 2).trans (congrFun (f10 16 (by decide)) 2)) ((f19 17 (by decide)).trans (f10 17 (by decide))) hI16
  have I27 : jI18 σ17 := jI18_fr ((congrFun (f19 18 (by decide)) 0).trans (congrFun (f10 18 (by decide)) 0)) ((f19 19 (by decide)).trans (f10 19 (by decide))) hI18
  have I28 : jI22 σ17 := jI22_fr ((congrFun (f19 22 (by decide)) 0).trans (congrFun (f10 22 (by decide)) 0)) ((f19 23 (by decide)).trans (f10 23 (by decide))) hI22
  have I29 : jI31 σ17 := jI31_fr ((congrFun (f19 31 (by decide)) 8).trans (congrFun (f10 31 (by decide)) 8)) ((f19 33 (by decide)).trans (f10 33 (by decide))) ((f19 36 (by decide)).trans (f10 36 (by decide))) hI31
  have I30 : jI38 σ17 := jI38_fr ((congrFun (f19 38 (by decide)) 0).trans (congrFun (f10 38 (by decide)) 0)) ((congrFun (f19 38 (by decide)) 1).trans (congrFun (f10 38 (by decide)) 1)) ((f19 39 (by decide)).trans (f10 39 (by decide))) hI38
  have I31 : jI43 σ17 := jI43_fr ((congrFun (f19 43 (by decide)) 8).trans (congrFun (f10 43 (by decide)) 8)) hI43
  have I32 : jI47 σ17 := jI47_fr ((congrFun (f19 47 (by decide)) 0).trans (congrFun (f10 47 (by decide)) 0)) ((f19 49 (by decide)).trans (f10 49 (by decide))) hI47
  have I33 : jI50 σ17 := jI50_fr ((f19 52 (by decide)).trans (f10 52 (by decide))) hI50
  have I34 : jI101 σ17 := jI101_fr (f20 4 (by decide)) (f20 5 (by decide)) (f19 56 (by decide)) (f19 57 (by decide)) (f19 58 (by decide)) (f19 59 (by decide)) I11
  have I35 : jI102 σ17 := jI102_fr (f20 6 (by decide)) (f19 60 (by decide)) (f19 61 (by decide)) I12
  have I36 : jI103 σ17 := jI103_fr (f20 9 (by decide)) I13
  have I37 : jI104 σ17 := jI104_fr (f20 10 (by decide)) (f20 12 (by decide)) (f20 13 (by decide)) (f19 62 (by decide)) (f19 67 (by decide)) I14
  have I38 : jI105 σ17 := jI105_fr (f20 15 (by decide)) (f19 65 (by decide)) I15
  have I39 : jI106 σ17 := jI106_fr ((f20 32 (by decide)).trans (congrFun (f10 55 (by decide)) 32)) ((f19 70 (by decide)).trans (f10 70 (by decide))) ((f19 71 (by decide)).trans (f10 71 (by decide))) ((f19 72 (by decide)).trans (f10 72 (by decide))) hI106
  have I40 : jI107 σ17 := jI107_fr ((f20 12 (by decide)).trans (congrFun (f10 55 (by decide)) 12)) ((f20 47 (by decide)).trans (congrFun (f10 55 (by decide)) 47)) ((f19 80 (by decide)).trans (f10 80 (by decide))) hI107
  have I41 : jI109 σ17 := jI109_fr ((f20 50 (by decide)).trans (congrFun (f10 55 (by decide)) 50)) hI109
  have I42 : jI110 σ17 := jI110_fr ((f19 86 (by decide)).trans (f10 86 (by decide))) ((f19 87 (by decide)).trans (f10 87 (by decide))) hI110
  have I43 : jI111 σ17 := jI111_fr ((f19 79 (by decide)).trans (f10 79 (by decide))) hI111
  have p44 : jKept σ17 := jKept.fr ((f19 75 (by decide)).trans (f10 75 (by decide))) ((f19 76 (by decide)).trans (f10 76 (by decide))) ((f19 77 (by decide)).trans (f10 77 (by decide))) hs_jKept
  have p45 : jBook σ17 := jBook.fr ((f20 47 (by decide)).trans (congrFun (f10 55 (by decide)) 47)) ((f20 10 (by decide)).trans (congrFun (f10 55 (by decide)) 10)) ((f19 81 (by decide)).trans (f10 81 (by decide))) hs_jBook
  have z46 : (σ17 2 0).toInt = (σ 2 0).toInt := (congrArg Int32.toInt (show σ17 2 0 = (σ 2 0) from ((congrFun (f19 2 (by decide)) 0).trans (congrFun (f10 2 (by decide)) 0))))
  have z47 : (σ17 55 6).toInt = (σ 55 6).toInt := (congrArg Int32.toInt (show σ17 55 6 = (σ 55 6) from ((f20 6 (by decide)).trans (congrFun (f10 55 (by decide)) 6))))
  exact ih x22 σ17 τ _ _ ls (by have h9 := tx22; omega) ⟨I23, I24, I25, I26, I27, I28, I29, I30, I31, I32, I33, I34, I35, I36, I37, I38, I39, I40, I41, I42, I43, I21, p44, p45, (by omega)⟩ hP hS (lv_sub hl [0, 1, 2, 3] rfl)
set_option maxHeartbeats 4000000 in
set_option maxRecDepth 100000 in
theorem law_case_9 {p : Program} {e : Env} {s : State} {m : MethodId} {below : List Frame} {meth : Method} {c : Code} (l : Launch) {b L : Nat} {xs : Nat → Int32} {D : va_G} {cI cL : ClassId} {ad zz : Nat → Nat} (C0 : lw_At p s m meth c b L xs) (hJ : jD ad) (hA : ∀ q, jA ad q → s.heap.size ≤ q) (hK : jK D cI cL s) (hZ : jZ zz (fun q : Nat => s.heap.size ≤ q) s s.heap) {x0 : Int32} (hx0 : 0 ≤ x0.toInt) (hxL : x0.toInt + 6 ≤ (L : Int)) (hL : L ≤ 384) {σ : Nat → Nat → Int32} {τ : Nat → Nat → Int64} {H : Heap} {locs : List Loc} (hS : va_S (fun q : Nat => s.heap.size ≤ q) s.heap H locs) {ls : Array Slot} (hAll : jAll σ τ) (hP : jH D cI cL ad σ τ H) (hl : lv_has ls 4 [(3, .int x0), (2, .ref (ad 55)), (1, .ref (ad 0)), (0, .ref b)]) (ih : ∀ (x1 : Int32) (σ : Nat → Nat → Int32) (τ : Nat → Nat → Int64) (H : Heap) (locs : List Loc) (ls : Array Slot), x1.toInt = x0.toInt + 6 → jAll σ τ → jH D cI cL ad σ τ H → va_S (fun q : Nat => s.heap.size ≤ q) s.heap H locs → lv_has ls 4 [(3, .int x1), (2, .ref (ad 55)), (1, .ref (ad 0)), (0, .ref b)] → W p l e room_1 s m #[Value.ref b] below meth c H locs 90 348600 (lw_Z below #[Value.ref b] s) (F0 m 18 ls [])) : W p l e room_1 s m #[Value.ref b] below meth c H locs 90 348600 (lw_Z below #[Value.ref b] s) (F0 m 483 ls []) := by
  obtain ⟨hx, hb, hr, hml, hown, hts0, hX, hbl, hlocks, hgv⟩ := C0
  have hts : ∀ w ∈ wsL_law, w.before #[Value.ref b] s = true := fun w h => hts0 w (wsL_law_in w h)
  have hbA : ¬ (fun q : Nat => s.heap.size ≤ q) b := Nat.not_le.mpr hbl
  have hown : s.vm.findClass RL = some m.cls := hown
  obtain ⟨hI2, hI9, hI12, hI16, hI18, hI22, hI31, hI38, hI43, hI47, hI50, hI101, hI102, hI103, hI104, hI105, hI106, hI107, hI109, hI110, hI111, hI119, hs_jKept, hs_jBook, ht0⟩ := hAll
  have hL9 : (L : Int) ≤ 384 := by omega
  refine lv_aload_n hx hb dL_law_483 rfl (lv_at hl 2 rfl) ?_
  refine lv_aload_n hx hb dL_law_484 rfl (lv_at hl 3 rfl) ?_
  refine lv_iload_n hx hb dL_law_485 rfl (lv_at hl 0 rfl) ?_
  refine lv_iconst (v := 1) hx hb dL_law_486 (by decide) ?_
  have g1 := jrg (rfl : x0.toInt = x0.toInt)
  refine lv_iadd hx hb dL_law_487 ?_
  refine lv_topi (fun x2 ex2 => ?_)
  have tx2 : x2.toInt = x0.toInt + 1 := (jadd ex2 rfl jz_1 (by omega) (by omega)).trans (by omega)
  refine va_sld hx hb hX hbl hbA hS (jin tx2 (by omega) (by omega)) dL_law_488 ?_
  have g3 := jrg (rfl : (xs x2.toNatClampNeg).toInt = (xs x2.toNatClampNeg).toInt)
  refine lv_aload_n hx hb dL_law_489 rfl (lv_at hl 3 rfl) ?_
  refine lv_iload_n hx hb dL_law_490 rfl (lv_at hl 0 rfl) ?_
  refine lv_iconst (v := 2) hx hb dL_law_491 (by decide) ?_
  refine lv_iadd hx hb dL_law_492 ?_
  refine lv_topi (fun x4 ex4 => ?_)
  have tx4 : x4.toInt = x0.toInt + 2 := (jadd ex4 rfl jz_2 (by omega) (by omega)).trans (by omega)
  refine va_sld hx hb hX hbl hbA hS (jin tx4 (by omega) (by omega)) dL_law_493 ?_
  have g5 := jrg (rfl : (xs x4.toNatClampNeg).toInt = (xs x4.toNatClampNeg).toInt)
  refine lv_aload_n hx hb dL_law_494 rfl (lv_at hl 3 rfl) ?_
  refine lv_iload_n hx hb dL_law_495 rfl (lv_at hl 0 rfl) ?_
  refine lv_iconst (v := 3) hx hb dL_law_496 (by decide) ?_
  refine lv_iadd hx hb dL_law_497 ?_
  refine lv_topi (fun x6 ex6 => ?_)
  have tx6 : x6.toInt = x0.toInt + 3 := (jadd ex6 rfl jz_3 (by omega) (by omega)).trans (by omega)
  refine va_sld hx hb hX hbl hbA hS (jin tx6 (by omega) (by omega)) dL_law_498 ?_
  have g7 := jrg (rfl : (xs x6.toNatClampNeg).toInt = (xs x6.toNatClampNeg).toInt)
  refine jcallV (As := [.int (xs x2.toNatClampNeg), .int (xs x4.toNatClampNeg), .int (xs x6.toNatClampNeg)]) (rest := []) ⟨hx, hb, hml, hown, hts⟩ hK hP hA hS hZ (c_X11_rule l D cI cL ad zz hJ σ τ (xs x2.toNatClampNeg) ((xs x2.toNatClampNeg).toInt) rfl (xs x4.toNatClampNeg) ((xs x4.toNatClampNeg).toInt) rfl (xs x6.toNatClampNeg) ((xs x6.toNatClampNeg).toInt) rfl hI38) cw_RL_53 (jc_0 cI cL ad σ τ) rfl ⟨Nat.le_of_ble_eq_true rfl, Nat.le_of_ble_eq_true rfl⟩ rfl rfl rfl hl.1 rfl (Nat.le_of_ble_eq_true rfl) dL_law_499 ⟨Nat.le_of_ble_eq_true rfl, Nat.le_of_ble_eq_true rfl⟩ (fun r9 σ8 τ8 H locs h8 hP hS => ?_)
  obtain ⟨rfl, f10, f11, I12, h8⟩ := h8
  rcases h8 with h13 | h14 | h15
  · obtain ⟨q18, k16, k17⟩ := h13
    have q18 := q18.symm
    subst q18
    refine lv_pop hx hb dL_law_502 rfl ?_
    refine lv_aload_n hx hb dL_law_503 rfl (lv_at hl 1 rfl) ?_
    refine lv_aload_n hx hb dL_law_504 rfl (lv_at hl 3 rfl) ?_
    refine lv_iload_n hx hb dL_law_505 rfl (lv_at hl 0 rfl) ?_
    refine lv_iconst (v := 1) hx hb dL_law_506 (by decide) ?_
    refine lv_iadd hx hb dL_law_507 ?_
    refine jtopr ex2.symm ?_
    refine va_sld hx hb hX hbl hbA hS (jin tx2 (by omega) (by omega)) dL_law_508 ?_
    refine lv_aload_n hx hb dL_law_509 rfl (lv_at hl 3 rfl) ?_
    refine lv_iload_n hx hb dL_law_510 rfl (lv_at hl 0 rfl) ?_
    refine lv_iconst (v := 2) hx hb dL_law_511 (by decide) ?_
    refine lv_iadd hx hb dL_law_512 ?_
    refine jtopr ex4.symm ?_
    refine va_sld hx hb hX hbl hbA hS (jin tx4 (by omega) (by omega)) dL_law_513 ?_
    refine lv_aload_n hx hb dL_law_514 rfl (lv_at hl 3 rfl) ?_
    refine lv_iload_n hx hb dL_law_515 rfl (lv_at hl 0 rfl) ?_
    refine lv_iconst (v := 3) hx hb dL_law_516 (by decide) ?_
    refine lv_iadd hx hb dL_law_517 ?_
    refine jtopr ex6.symm ?_
    refine va_sld hx hb hX hbl hbA hS (jin tx6 (by omega) (by omega)) dL_law_518 ?_
    have I19 : jI106 σ8 := jI106_fr (congrFun (f10 55 (by decide)) 32) (f10 70 (by decide)) (f10 71 (by decide)) (f10 72 (by decide)) hI106
    have z20 : (σ8 55 32).toInt = (σ 55 32).toInt := (congrArg Int32.toInt (show σ8 55 32 = (σ 55 32) from (congrFun (f10 55 (by decide)) 32)))
    refine jcallV (As := [.int (xs x2.toNatClampNeg), .int (xs x4.toNatClampNeg), .int (xs x6.toNatClampNeg)]) (rest := []) ⟨hx, hb, hml, hown, hts⟩ hK hP hA hS hZ (c_X12_rule l D cI cL ad zz hJ σ8 τ (xs x2.toNatClampNeg) ((xs x2.toNatClampNeg).toInt) rfl (xs x4.toNatClampNeg) ((xs x4.toNatClampNeg).toInt) rfl (xs x6.toNatClampNeg) ((xs x6.toNatClampNeg).toInt) rfl I19) cw_RL_56 (jc_55 cI cL ad σ8 τ) rfl ⟨Nat.le_of_ble_eq_true rfl, Nat.le_of_ble_eq_true rfl⟩ rfl rfl rfl hl.1 rfl (Nat.le_of_ble_eq_true rfl) dL_law_519 ⟨Nat.le_of_ble_eq_true rfl, Nat.le_of_ble_eq_true rfl⟩ (fun r22 σ21 τ21 H locs h21 hP hS => ?_)
    obtain ⟨rfl, f23, f24, I25, h21⟩ := h21
    rcases h21 with h26 | h27 | h28
    · obtain ⟨q31, k29, k30⟩ := h26
      have q31 := q31.symm
      subst q31
      refine lv_pop hx hb dL_law_522 rfl ?_
      refine lv_goto (tgt := 1357) hx hb dL_law_523 (by decide) ?_
      obtain ⟨x32, ex32⟩ : ∃ y : Int32, y = x0 + 6 := ⟨_, rfl⟩
      have tx32 : x32.toInt = x0.toInt + 6 := (jadd ex32 rfl jz_6 (by omega) (by omega)).trans (by omega)
      refine lv_iinc (v := x32) (lv' := [(3, .int x32), (2, .ref (ad 55)), (1, .ref (ad 0)), (0, .ref b)]) hx hb dL_law_1357 hl (k := 0) rfl (by rw [ex32]; rfl) (by decide) rfl (fun ls hl => ?_)
      refine lv_goto (tgt := 18) hx hb dL_law_1360 (by decide) ?_
      have I33 : jI2 σ21 := jI2_fr ((congrFun (f23 2 (by decide)) 0).trans (congrFun (f10 2 (by decide)) 0)) ((congrFun (f23 2 (by decide)) 1).trans (congrFun (f10 2 (by decide)) 1)) ((congrFun (f23 2 (by decide)) 2).trans (congrFun (f10 2 (by decide)) 2)) ((congrFun (f23 2 (by decide)) 3).trans (congrFun (f10 2 (by decide)) 3)) ((f23 6 (by decide)).trans (f10 6 (by decide))) hI2
      have I34 : jI9 σ21 := jI9_fr ((congrFun (f23 9 (by decide)) 0).trans (congrFun (f10 9 (by decide)) 0)) ((f23 10 (by decide)).trans (f10 10 (by decide))) ((f23 11 (by decide)).trans (f10 11 (by decide))) hI9
      have I35 : jI12 σ21 := jI12_fr ((congrFun (f23 12 (by decide)) 0).trans (congrFun (f10 12 (by decide)) 0)) ((f23 13 (by decide)).trans (f10 13 (by decide))) hI12
      have I36 : jI16 σ21 := jI16_fr ((congrFun (f23 16 (by decide)) 0).trans (congrFun (f10 16 (by decide)) 0)) ((congrFun (f23 16 (by decide)) 1).trans (congrFun (f10 16 (by decide)) 1)) ((congrFun (f23 16 (by decide)) 2).trans (congrFun (f10 16 (by decide)) 2)) ((f23 17 (by decide)).trans (f10 17 (by decide))) hI16
      have I37 : jI18 σ21 := jI18_fr ((congrFun (f23 18 (by decide)) 0).trans (congrFun (f10 18 (by decide)) 0)) ((f23 19 (by decide)).trans (f10 19 (by decide))) hI18
      have I38 : jI22 σ21 := jI22_fr ((congrFun (f23 22 (by decide)) 0).trans (congrFun (f10 22 (by decide)) 0)) ((f23 23 (by decide)).trans (f10 23 (by decide))) hI22
      have I39 : jI31 σ21 := jI31_fr ((congrFun (f23 31 (by decide)) 8).trans (congrFun (f10 31 (by decide)) 8)) ((f23 33 (by decide)).trans (f10 33 (by decide))) ((f23 36 (by decide)).trans (f10 36 (by decide))) hI31
      have I40 : jI38 σ21 := jI38_fr (congrFun (f23 38 (by decide)) 0) (congrFun (f23 38 (by decide)) 1) (f23 39 (by decide)) I12
      have I41 : jI43 σ21 := jI43_fr ((congrFun (f23 43 (by decide)) 8).trans (congrFun (f10 43 (by decide)) 8)) hI43
      have I42 : jI47 σ21 := jI47_fr ((congrFun (f23 47 (by decide)) 0).trans (congrFun (f10 47 (by decide)) 0)) ((f23 49 (by decide)).trans (f10 49 (by decide))) hI47
      have I43 : jI50 σ21 := jI50_fr ((f23 52 (by decide)).trans (f10 52 (by decide))) hI50
      have I44 : jI101 σ21 := jI101_fr ((f24 4 (by decide)).trans (congrFun (f10 55 (by decide)) 4)) ((f24 5 (by decide)).trans (congrFun (f10 55 (by decide)) 5)) ((f23 56 (by decide)).trans (f10 56 (by decide))) ((f23 57 (by decide)).trans (f10 57 (by decide))) ((f23 58 (by decide)).trans (f10 58 (by decide))) ((f23 59 (by decide)).trans (f10 59 (by decide))) hI101
      have I45 : jI102 σ21 := jI102_fr ((f24 6 (by decide)).trans (congrFun (f10 55 (by decide)) 6)) ((f23 60 (by decide)).trans (f10 60 (by decide))) ((f23 61 (by decide)).trans (f10 61 (by decide))) hI102
      have I46 : jI103 σ21 := jI103_fr ((f24 9 (by decide)).trans (congrFun (f10 55 (by decide)) 9)) hI103
      have I47 : jI104 σ21 := jI104_fr ((f24 10 (by decide)).trans (congrFun (f10 55 (by decide)) 10)) ((f24 12 (by decide)).trans (congrFun (f10 55 (by decide)) 12)) ((f24 13 (by decide)).trans (congrFun (f10 55 (by decide)) 13)) ((f23 62 (by decide)).trans (f10 62 (by decide))) ((f23 67 (by decide)).trans (f10 67 (by decide))) hI104
      have I48 : jI105 σ21 := jI105_fr ((f24 15 (by decide)).trans (congrFun (f10 55 (by decide)) 15)) ((f23 65 (by decide)).trans (f10 65 (by decide))) hI105
      have I49 : jI107 σ21 := jI107_fr ((f24 12 (by decide)).trans (congrFun (f10 55 (by decide)) 12)) ((f24 47 (by decide)).trans (congrFun (f10 55 (by decide)) 47)) ((f23 80 (by decide)).trans (f10 80 (by decide))) hI107
      have I50 : jI109 σ21 := jI109_fr ((f24 50 (by decide)).trans (congrFun (f10 55 (by decide)) 50)) hI109
      have I51 : jI110 σ21 := jI110_fr ((f23 86 (by decide)).trans (f10 86 (by decide))) ((f23 87 (by decide)).trans (f10 87 (by decide))) hI110
      have I52 : jI111 σ21 := jI111_fr ((f23 79 (by decide)).trans (f10 79 (by decide))) hI111
      have I53 : jI119 σ21 := jI119_fr ((f23 68 (by decide)).trans (f10 68 (by decide))) hI119
      have p54 : jKept σ21 := jKept.fr ((f23 75 (by decide)).trans (f10 75 (by decide))) ((f23 76 (by decide)).trans (f10 76 (by decide))) ((f23 77 (by decide)).trans (f10 77 (by decide))) hs_jKept
      have p55 : jBook σ21 := jBook.fr ((f24 47 (by decide)).trans (congrFun (f10 55 (by decide)) 47)) ((f24 10 (by decide)).trans (congrFun (f10 55 (by decide)) 10)) ((f23 81 (by decide)).trans (f10 81 (by decide))) hs_jBook
      have z56 : (σ21 2 0).toInt = (σ 2 0).toInt := (congrArg Int32.toInt (show σ21 2 0 = (σ 2 0) from ((congrFun (f23 2 (by decide)) 0).trans (congrFun (f10 2 (by decide)) 0))))
      have z57 : (σ21 55 6).toInt = (σ 55 6).toInt := (congrArg Int32.toInt (show σ21 55 6 = (σ 55 6) from ((f24 6 (by decide)).trans (congrFun (f10 55 (by decide)) 6))))
      exact ih x32 σ21 τ _ _ ls (by have h9 := tx32; omega) ⟨I33, I34, I35, I36, I37, I38, I39, I40, I41, I42, I43, I44, I45, I46, I47, I48, I25, I49, I50, I51, I52, I53, p54, p55, (by omega)⟩ hP hS (lv_sub hl [0, 1, 2, 3] rfl)
    · obtain ⟨q61, k58, k59, k60⟩ := h27
      have q61 := q61.symm
      subst q61
      exact absurd k60 k17
    · obtain ⟨q66, k62, k63, k64, k65⟩ := h28
      exact absurd k65 k17
  · obtain ⟨q70, k67, k68, k69⟩ := h14
    have q70 := q70.symm
    subst q70
    refine lv_pop hx hb dL_law_502 rfl ?_
    refine lv_aload_n hx hb dL_law_503 rfl (lv_at hl 1 rfl) ?_
    refine lv_aload_n hx hb dL_law_504 rfl (lv_at hl 3 rfl) ?_
    refine lv_iload_n hx hb dL_law_505 rfl (lv_at hl 0 rfl) ?_
    refine lv_iconst (v := 1) hx hb dL_law_506 (by decide) ?_
    refine lv_iadd hx hb dL_law_507 ?_
    refine jtopr ex2.symm ?_
    refine va_sld hx hb hX hbl hbA hS (jin tx2 (by omega) (by omega)) dL_law_508 ?_
    refine lv_aload_n hx hb dL_law_509 rfl (lv_at hl 3 rfl) ?_
    refine lv_iload_n hx hb dL_law_510 rfl (lv_at hl 0 rfl) ?_
    refine lv_iconst (v := 2) hx hb dL_law_511 (by decide) ?_
    refine lv_iadd hx hb dL_law_512 ?_
    refine jtopr ex4.symm ?_
    refine va_sld hx hb hX hbl hbA hS (jin tx4 (by omega) (by omega)) dL_law_513 ?_
    refine lv_aload_n hx hb dL_law_514 rfl (lv_at hl 3 rfl) ?_
    refine lv_iload_n hx hb dL_law_515 rfl (lv_at hl 0 rfl) ?_
    refine lv_iconst (v := 3) hx hb dL_law_516 (by decide) ?_
    refine lv_iadd hx hb dL_law_517 ?_
    refine jtopr ex6.symm ?_
    refine va_sld hx hb hX hbl hbA hS (jin tx6 (by omega) (by omega)) dL_law_518 ?_
    have I71 : jI106 σ8 := jI106_fr (congrFun (f10 55 (by decide)) 32) (f10 70 (by decide)) (f10 71 (by decide)) (f10 72 (by decide)) hI106
    have z72 : (σ8 55 32).toInt = (σ 55 32).toInt := (congrArg Int32.toInt (show σ8 55 32 = (σ 55 32) from (congrFun (f10 55 (by decide)) 32)))
    refine jcallV (As := [.int (xs x2.toNatClampNeg), .int (xs x4.toNatClampNeg), .int (xs x6.toNatClampNeg)]) (rest := []) ⟨hx, hb, hml, hown, hts⟩ hK hP hA hS hZ (c_X12_rule l D cI cL ad zz hJ σ8 τ (xs x2.toNatClampNeg) ((xs x2.toNatClampNeg).toInt) rfl (xs x4.toNatClampNeg) ((xs x4.toNatClampNeg).toInt) rfl (xs x6.toNatClampNeg) ((xs x6.toNatClampNeg).toInt) rfl I71) cw_RL_56 (jc_55 cI cL ad σ8 τ) rfl ⟨Nat.le_of_ble_eq_true rfl, Nat.le_of_ble_eq_true rfl⟩ rfl rfl rfl hl.1 rfl (Nat.le_of_ble_eq_true rfl) dL_law_519 ⟨Nat.le_of_ble_eq_true rfl, Nat.le_of_ble_eq_true rfl⟩ (fun r74 σ73 τ73 H locs h73 hP hS => ?_)
    obtain ⟨rfl, f75, f76, I77, h73⟩ := h73
    rcases h73 with h78 | h79 | h80
    · obtain ⟨q83, k81, k82⟩ := h78
      have q83 := q83.symm
      subst q83
      exact absurd k69 k82
    · obtain ⟨q87, k84, k85, k86⟩ := h79
      have q87 := q87.symm
      subst q87
      refine lv_pop hx hb dL_law_522 rfl ?_
      refine lv_goto (tgt := 1357) hx hb dL_law_523 (by decide) ?_
      obtain ⟨x88, ex88⟩ : ∃ y : Int32, y = x0 + 6 := ⟨_, rfl⟩
      have tx88 : x88.toInt = x0.toInt + 6 := (jadd ex88 rfl jz_6 (by omega) (by omega)).trans (by omega)
      refine lv_iinc (v := x88) (lv' := [(3, .int x88), (2, .ref (ad 55)), (1, .ref (ad 0)), (0, .ref b)]) hx hb dL_law_1357 hl (k := 0) rfl (by rw [ex88]; rfl) (by decide) rfl (fun ls hl => ?_)
      refine lv_goto (tgt := 18) hx hb dL_law_1360 (by decide) ?_
      have I89 : jI2 σ73 := jI2_fr ((congrFun (f75 2 (by decide)) 0).trans (congrFun (f10 2 (by decide)) 0)) ((congrFun (f75 2 (by decide)) 1).trans (congrFun (f10 2 (by decide)) 1)) ((congrFun (f75 2 (by decide)) 2).trans (congrFun (f10 2 (by decide)) 2)) ((congrFun (f75 2 (by decide)) 3).trans (congrFun (f10 2 (by decide)) 3)) ((f75 6 (by decide)).trans (f10 6 (by decide))) hI2
      have I90 : jI9 σ73 := jI9_fr ((congrFun (f75 9 (by decide)) 0).trans (congrFun (f10 9 (by decide)) 0)) ((f75 10 (by decide)).trans (f10 10 (by decide))) ((f75 11 (by decide)).trans (f10 11 (by decide))) hI9
      have I91 : jI12 σ73 := jI12_fr ((congrFun (f75 12 (by decide)) 0).trans (congrFun (f10 12 (by decide)) 0)) ((f75 13 (by decide)).trans (f10 13 (by decide))) hI12
      have I92 : jI16 σ73 := jI16_fr ((congrFun (f75 16 (by decide)) 0).trans (congrFun (f10 16 (by decide)) 0)) ((congrFun (f75 16 (by decide)) 1).trans (congrFun (f10 16 (by decide)) 1)) ((congrFun (f75 16 (by decide)) 2).trans (congrFun (f10 16 (by decide)) 2)) ((f75 17 (by decide)).trans (f10 17 (by decide))) hI16
      have I93 : jI18 σ73 := jI18_fr ((congrFun (f75 18 (by decide)) 0).trans (congrFun (f10 18 (by decide)) 0)) ((f75 19 (by decide)).trans (f10 19 (by decide))) hI18
      have I94 : jI22 σ73 := jI22_fr ((congrFun (f75 22 (by decide)) 0).trans (congrFun (f10 22 (by decide)) 0)) ((f75 23 (by decide)).trans (f10 23 (by decide))) hI22
      have I95 : jI31 σ73 := jI31_fr ((congrFun (f75 31 (by decide)) 8).trans (congrFun (f10 31 (by decide)) 8)) ((f75 33 (by decide)).trans (f10 33 (by decide))) ((f75 36 (by decide)).trans (f10 36 (by decide))) hI31
      have I96 : jI38 σ73 := jI38_fr (congrFun (f75 38 (by decide)) 0) (congrFun (f75 38 (by decide)) 1) (f75 39 (by decide)) I12
      have I97 : jI43 σ73 := jI43_fr ((congrFun (f75 43 (by decide)) 8).trans (congrFun (f10 43 (by decide)) 8)) hI43
      have I98 : jI47 σ73 := jI47_fr ((congrFun (f75 47 (by decide)) 0).trans (congrFun (f10 47 (by decide)) 0)) ((f75 49 (by decide)).trans (f10 49 (by decide))) hI47
      have I99 : jI50 σ73 := jI50_fr ((f75 52 (by decide)).trans (f10 52 (by decide))) hI50
      have I100 : jI101 σ73 := jI101_fr ((f76 4 (by decide)).trans (congrFun (f10 55 (by decide)) 4)) ((f76 5 (by decide)).trans (congrFun (f10 55 (by decide)) 5)) ((f75 56 (by decide)).trans (f10 56 (by decide))) ((f75 57 (by decide)).trans (f10 57 (by decide))) ((f75 58 (by decide)).trans (f10 58 (by decide))) ((f75 59 (by decide)).trans (f10 59 (by decide))) hI101
      have I101 : jI102 σ73 := jI102_fr ((f76 6 (by decide)).trans (congrFun (f10 55 (by decide)) 6)) ((f75 60 (by decide)).trans (f10 60 (by decide))) ((f75 61 (by decide)).trans (f10 61 (by decide))) hI102
      have I102 : jI103 σ73 := jI103_fr ((f76 9 (by decide)).trans (congrFun (f10 55 (by decide)) 9)) hI103
      have I103 : jI104 σ73 := jI104_fr ((f76 10 (by decide)).trans (congrFun (f10 55 (by decide)) 10)) ((f76 12 (by decide)).trans (congrFun (f10 55 (by decide)) 12)) ((f76 13 (by decide)).trans (congrFun (f10 55 (by decide)) 13)) ((f75 62 (by decide)).trans (f10 62 (by decide))) ((f75 67 (by decide)).trans (f10 67 (by decide))) hI104
      have I104 : jI105 σ73 := jI105_fr ((f76 15 (by decide)).trans (congrFun (f10 55 (by decide)) 15)) ((f75 65 (by decide)).trans (f10 65 (by decide))) hI105
      have I105 : jI107 σ73 := jI107_fr ((f76 12 (by decide)).trans (congrFun (f10 55 (by decide)) 12)) ((f76 47 (by decide)).trans (congrFun (f10 55 (by decide)) 47)) ((f75 80 (by decide)).trans (f10 80 (by decide))) hI107
      have I106 : jI109 σ73 := jI109_fr ((f76 50 (by decide)).trans (congrFun (f10 55 (by decide)) 50)) hI109
      have I107 : jI110 σ73 := jI110_fr ((f75 86 (by decide)).trans (f10 86 (by decide))) ((f75 87 (by decide)).trans (f10 87 (by decide))) hI110
      have I108 : jI111 σ73 := jI111_fr ((f75 79 (by decide)).trans (f10 79 (by decide))) hI111
      have I109 : jI119 σ73 := jI119_fr ((f75 68 (by decide)).trans (f10 68 (by decide))) hI119
      have p110 : jKept σ73 := jKept.fr ((f75 75 (by decide)).trans (f10 75 (by decide))) ((f75 76 (by decide)).trans (f10 76 (by decide))) ((f75 77 (by decide)).trans (f10 77 (by decide))) hs_jKept
      have p111 : jBook σ73 := jBook.fr ((f76 47 (by decide)).trans (congrFun (f10 55 (by decide)) 47)) ((f76 10 (by decide)).trans (congrFun (f10 55 (by decide)) 10)) ((f75 81 (by decide)).trans (f10 81 (by decide))) hs_jBook
      have z112 : (σ73 2 0).toInt = (σ 2 0).toInt := (congrArg Int32.toInt (show σ73 2 0 = (σ 2 0) from ((congrFun (f75 2 (by decide)) 0).trans (congrFun (f10 2 (by decide)) 0))))
      have z113 : (σ73 55 6).toInt = (σ 55 6).toInt := (congrArg Int32.toInt (show σ73 55 6 = (σ 55 6) from ((f76 6 (by decide)).trans (congrFun (f10 55 (by decide)) 6))))
      exact ih x88 σ73 τ _ _ ls (by have h9 := tx88; omega) ⟨I89, I90, I91, I92, I93, I94, I95, I96, I97, I98, I99, I100, I101, I102, I103, I104, I77, I105, I106, I107, I108, I109, p110, p111, (by omega)⟩ hP hS (lv_sub hl [0, 1, 2, 3] rfl)
    · obtain ⟨q118, k114, k115, k116, k117⟩ := h80
      refine lv_pop hx hb dL_law_522 rfl ?_
      refine lv_goto (tgt := 1357) hx hb dL_law_523 (by decide) ?_
      obtain ⟨x119, ex119⟩ : ∃ y : Int32, y = x0 + 6 := ⟨_, rfl⟩
      have tx119 : x119.toInt = x0.toInt + 6 := (jadd ex119 rfl jz_6 (by omega) (by omega)).trans (by omega)
      refine lv_iinc (v := x119) (lv' := [(3, .int x119), (2, .ref (ad 55)), (1, .ref (ad 0)), (0, .ref b)]) hx hb dL_law_1357 hl (k := 0) rfl (by rw [ex119]; rfl) (by decide) rfl (fun ls hl => ?_)
      refine lv_goto (tgt := 18) hx hb dL_law_1360 (by decide) ?_
      have I120 : jI2 σ73 := jI2_fr ((congrFun (f75 2 (by decide)) 0).trans (congrFun (f10 2 (by decide)) 0)) ((congrFun (f75 2 (by decide)) 1).trans (congrFun (f10 2 (by decide)) 1)) ((congrFun (f75 2 (by decide)) 2).trans (congrFun (f10 2 (by decide)) 2)) ((congrFun (f75 2 (by decide)) 3).trans (congrFun (f10 2 (by decide)) 3)) ((f75 6 (by decide)).trans (f10 6 (by decide))) hI2
      have I121 : jI9 σ73 := jI9_fr ((congrFun (f75 9 (by decide)) 0).trans (congrFun (f10 9 (by decide)) 0)) ((f75 10 (by decide)).trans (f10 10 (by decide))) ((f75 11 (by decide)).trans (f10 11 (by decide))) hI9
      have I122 : jI12 σ73 := jI12_fr ((congrFun (f75 12 (by decide)) 0).trans (congrFun (f10 12 (by decide)) 0)) ((f75 13 (by decide)).trans (f10 13 (by decide))) hI12
      have I123 : jI16 σ73 := jI16_fr ((congrFun (f75 16 (by decide)) 0).trans (congrFun (f10 16 (by decide)) 0)) ((congrFun (f75 16 (by decide)) 1).trans (congrFun (f10 16 (by decide)) 1)) ((congrFun (f75 16 (by decide)) 2).trans (congrFun (f10 16 (by decide)) 2)) ((f75 17 (by decide)).trans (f10 17 (by decide))) hI16
      have I124 : jI18 σ73 := jI18_fr ((congrFun (f75 18 (by decide)) 0).trans (congrFun (f10 18 (by decide)) 0)) ((f75 19 (by decide)).trans (f10 19 (by decide))) hI18
      have I125 : jI22 σ73 := jI22_fr ((congrFun (f75 22 (by decide)) 0).trans (congrFun (f10 22 (by decide)) 0)) ((f75 23 (by decide)).trans (f10 23 (by decide))) hI22
      have I126 : jI31 σ73 := jI31_fr ((congrFun (f75 31 (by decide)) 8).trans (congrFun (f10 31 (by decide)) 8)) ((f75 33 (by decide)).trans (f10 33 (by decide))) ((f75 36 (by decide)).trans (f10 36 (by decide))) hI31
      have I127 : jI38 σ73 := jI38_fr (congrFun (f75 38 (by decide)) 0) (congrFun (f75 38 (by decide)) 1) (f75 39 (by decide)) I12
      have I128 : jI43 σ73 := jI43_fr ((congrFun (f75 43 (by decide)) 8).trans (congrFun (f10 43 (by decide)) 8)) hI43
      have I129 : jI47 σ73 := jI47_fr ((congrFun (f75 47 (by decide)) 0).trans (congrFun (f10 47 (by decide)) 0)) ((f75 49 (by decide)).trans (f10 49 (by decide))) hI47
      have I130 : jI50 σ73 := jI50_fr ((f75 52 (by decide)).trans (f10 52 (by decide))) hI50
      have I131 : jI101 σ73 := jI101_fr ((f76 4 (by decide)).trans (congrFun (f10 55 (by decide)) 4)) ((f76 5 (by decide)).trans (congrFun (f10 55 (by decide)) 5)) ((f75 56 (by decide)).trans (f10 56 (by decide))) ((f75 57 (by decide)).trans (f10 57 (by decide))) ((f75 58 (by decide)).trans (f10 58 (by decide))) ((f75 59 (by decide)).trans (f10 59 (by decide))) hI101
      have I132 : jI102 σ73 := jI102_fr ((f76 6 (by decide)).trans (congrFun (f10 55 (by decide)) 6)) ((f75 60 (by decide)).trans (f10 60 (by decide))) ((f75 61 (by decide)).trans (f10 61 (by decide))) hI102
      have I133 : jI103 σ73 := jI103_fr ((f76 9 (by decide)).trans (congrFun (f10 55 (by decide)) 9)) hI103
      have I134 : jI104 σ73 := jI104_fr ((f76 10 (by decide)).trans (congrFun (f10 55 (by decide)) 10)) ((f76 12 (by decide)).trans (congrFun (f10 55 (by decide)) 12)) ((f76 13 (by decide)).trans (congrFun (f10 55 (by decide)) 13)) ((f75 62 (by decide)).trans (f10 62 (by decide))) ((f75 67 (by decide)).trans (f10 67 (by decide))) hI104
      have I135 : jI105 σ73 := jI105_fr ((f76 15 (by decide)).trans (congrFun (f10 55 (by decide)) 15)) ((f75 65 (by decide)).trans (f10 65 (by decide))) hI105
      have I136 : jI107 σ73 := jI107_fr ((f76 12 (by decide)).trans (congrFun (f10 55 (by decide)) 12)) ((f76 47 (by decide)).trans (congrFun (f10 55 (by decide)) 47)) ((f75 80 (by decide)).trans (f10 80 (by decide))) hI107
      have I137 : jI109 σ73 := jI109_fr ((f76 50 (by decide)).trans (congrFun (f10 55 (by decide)) 50)) hI109
      have I138 : jI110 σ73 := jI110_fr ((f75 86 (by decide)).trans (f10 86 (by decide))) ((f75 87 (by decide)).trans (f10 87 (by decide))) hI110
      have I139 : jI111 σ73 := jI111_fr ((f75 79 (by decide)).trans (f10 79 (by decide))) hI111
      have I140 : jI119 σ73 := jI119_fr ((f75 68 (by decide)).trans (f10 68 (by decide))) hI119
      have p141 : jKept σ73 := jKept.fr ((f75 75 (by decide)).trans (f10 75 (by decide))) ((f75 76 (by decide)).trans (f10 76 (by decide))) ((f75 77 (by decide)).trans (f10 77 (by decide))) hs_jKept
      have p142 : jBook σ73 := jBook.fr ((f76 47 (by decide)).trans (congrFun (f10 55 (by decide)) 47)) ((f76 10 (by decide)).trans (congrFun (f10 55 (by decide)) 10)) ((f75 81 (by decide)).trans (f10 81 (by decide))) hs_jBook
      have z143 : (σ73 2 0).toInt = (σ 2 0).toInt := (congrArg Int32.toInt (show σ73 2 0 = (σ 2 0) from ((congrFun (f75 2 (by decide)) 0).trans (congrFun (f10 2 (by decide)) 0))))
      have z144 : (σ73 55 6).toInt = (σ 55 6).toInt := (congrArg Int32.toInt (show σ73 55 6 = (σ 55 6) from ((f76 6 (by decide)).trans (congrFun (f10 55 (by decide)) 6))))
      exact ih x119 σ73 τ _ _ ls (by have h9 := tx119; omega) ⟨I120, I121, I122, I123, I124, I125, I126, I127, I128, I129, I130, I131, I132, I133, I134, I135, I77, I136, I137, I138, I139, I140, p141, p142, (by omega)⟩ hP hS (lv_sub hl [0, 1, 2, 3] rfl)
  · obtain ⟨q149, k145, k146, k147, k148⟩ := h15
    refine lv_pop hx hb dL_law_502 rfl ?_
    refine lv_aload_n hx hb dL_law_503 rfl (lv_at hl 1 rfl) ?_
    refine lv_aload_n hx hb dL_law_504 rfl (lv_at hl 3 rfl) ?_
    refine lv_iload_n hx hb dL_law_505 rfl (lv_at hl 0 rfl) ?_
    refine lv_iconst (v := 1) hx hb dL_law_506 (by decide) ?_
    refine lv_iadd hx hb dL_law_507 ?_
    refine jtopr ex2.symm ?_
    refine va_sld hx hb hX hbl hbA hS (jin tx2 (by omega) (by omega)) dL_law_508 ?_
    refine lv_aload_n hx hb dL_law_509 rfl (lv_at hl 3 rfl) ?_
    refine lv_iload_n hx hb dL_law_510 rfl (lv_at hl 0 rfl) ?_
    refine lv_iconst (v := 2) hx hb dL_law_511 (by decide) ?_
    refine lv_iadd hx hb dL_law_512 ?_
    refine jtopr ex4.symm ?_
    refine va_sld hx hb hX hbl hbA hS (jin tx4 (by omega) (by omega)) dL_law_513 ?_
    refine lv_aload_n hx hb dL_law_514 rfl (lv_at hl 3 rfl) ?_
    refine lv_iload_n hx hb dL_law_515 rfl (lv_at hl 0 rfl) ?_
    refine lv_iconst (v := 3) hx hb dL_law_516 (by decide) ?_
    refine lv_iadd hx hb dL_law_517 ?_
    refine jtopr ex6.symm ?_
    refine va_sld hx hb hX hbl hbA hS (jin tx6 (by omega) (by omega)) dL_law_518 ?_
    have I150 : jI106 σ8 := jI106_fr (congrFun (f10 55 (by decide)) 32) (f10 70 (by decide)) (f10 71 (by decide)) (f10 72 (by decide)) hI106
    have z151 : (σ8 55 32).toInt = (σ 55 32).toInt := (congrArg Int32.toInt (show σ8 55 32 = (σ 55 32) from (congrFun (f10 55 (by decide)) 32)))
    refine jcallV (As := [.int (xs x2.toNatClampNeg), .int (xs x4.toNatClampNeg), .int (xs x6.toNatClampNeg)]) (rest := []) ⟨hx, hb, hml, hown, hts⟩ hK hP hA hS hZ (c_X12_rule l D cI cL ad zz hJ σ8 τ (xs x2.toNatClampNeg) ((xs x2.toNatClampNeg).toInt) rfl (xs x4.toNatClampNeg) ((xs x4.toNatClampNeg).toInt) rfl (xs x6.toNatClampNeg) ((xs x6.toNatClampNeg).toInt) rfl I150) cw_RL_56 (jc_55 cI cL ad σ8 τ) rfl ⟨Nat.le_of_ble_eq_true rfl, Nat.le_of_ble_eq_true rfl⟩ rfl rfl rfl hl.1 rfl (Nat.le_of_ble_eq_true rfl) dL_law_519 ⟨Nat.le_of_ble_eq_true rfl, Nat.le_of_ble_eq_true rfl⟩ (fun r153 σ152 τ152 H locs h152 hP hS => ?_)
    obtain ⟨rfl, f154, f155, I156, h152⟩ := h152
    rcases h152 with h157 | h158 | h159
    · obtain ⟨q162, k160, k161⟩ := h157
      have q162 := q162.symm
      subst q162
      exact absurd k148 k161
    · obtain ⟨q166, k163, k164, k165⟩ := h158
      have q166 := q166.symm
      subst q166
      refine lv_pop hx hb dL_law_522 rfl ?_
      refine lv_goto (tgt := 1357) hx hb dL_law_523 (by decide) ?_
      obtain ⟨x167, ex167⟩ : ∃ y : Int32, y = x0 + 6 := ⟨_, rfl⟩
      have tx167 : x167.toInt = x0.toInt + 6 := (jadd ex167 rfl jz_6 (by omega) (by omega)).trans (by omega)
      refine lv_iinc (v := x167) (lv' := [(3, .int x167), (2, .ref (ad 55)), (1, .ref (ad 0)), (0, .ref b)]) hx hb dL_law_1357 hl (k := 0) rfl (by rw [ex167]; rfl) (by decide) rfl (fun ls hl => ?_)
      refine lv_goto (tgt := 18) hx hb dL_law_1360 (by decide) ?_
      have I168 : jI2 σ152 := jI2_fr ((congrFun (f154 2 (by decide)) 0).trans (congrFun (f10 2 (by decide)) 0)) ((congrFun (f154 2 (by decide)) 1).trans (congrFun (f10 2 (by decide)) 1)) ((congrFun (f154 2 (by decide)) 2).trans (congrFun (f10 2 (by decide)) 2)) ((congrFun (f154 2 (by decide)) 3).trans (congrFun (f10 2 (by decide)) 3)) ((f154 6 (by decide)).trans (f10 6 (by decide))) hI2
      have I169 : jI9 σ152 := jI9_fr ((congrFun (f154 9 (by decide)) 0).trans (congrFun (f10 9 (by decide)) 0)) ((f154 10 (by decide)).trans (f10 10 (by decide))) ((f154 11 (by decide)).trans (f10 11 (by decide))) hI9
      have I170 : jI12 σ152 := jI12_fr ((congrFun (f154 12 (by decide)) 0).trans (congrFun (f10 12 (by decide)) 0)) ((f154 13 (by decide)).trans (f10 13 (by decide))) hI12
      have I171 : jI16 σ152 := jI16_fr ((congrFun (f154 16 (by decide)) 0).trans (congrFun (f10 16 (by decide)) 0)) ((congrFun (f154 16 (by decide)) 1).trans (congrFun (f10 16 (by decide)) 1)) ((congrFun (f154 16 (by decide)) 2).trans (congrFun (f10 16 (by decide)) 2)) ((f154 17 (by decide)).trans (f10 17 (by decide))) hI16
      have I172 : jI18 σ152 := jI18_fr ((congrFun (f154 18 (by decide)) 0).trans (congrFun (f10 18 (by decide)) 0)) ((f154 19 (by decide)).trans (f10 19 (by decide))) hI18
      have I173 : jI22 σ152 := jI22_fr ((congrFun (f154 22 (by decide)) 0).trans (congrFun (f10 22 (by decide)) 0)) ((f154 23 (by decide)).trans (f10 23 (by decide))) hI22
      have I174 : jI31 σ152 := jI31_fr ((congrFun (f154 31 (by decide)) 8).trans (congrFun (f10 31 (by decide)) 8)) ((f154 33 (by decide)).trans (f10 33 (by decide))) ((f154 36 (by decide)).trans (f10 36 (by decide))) hI31
      have I175 : jI38 σ152 := jI38_fr (congrFun (f154 38 (by decide)) 0) (congrFun (f154 38 (by decide)) 1) (f154 39 (by decide)) I12
      have I176 : jI43 σ152 := jI43_fr ((congrFun (f154 43 (by decide)) 8).trans (congrFun (f10 43 (by decide)) 8)) hI43
      have I177 : jI47 σ152 := jI47_fr ((congrFun (f154 47 (by decide)) 0).trans (congrFun (f10 47 (by decide)) 0)) ((f154 49 (by decide)).trans (f10 49 (by decide))) hI47
      have I178 : jI50 σ152 := jI50_fr ((f154 52 (by decide)).trans (f10 52 (by decide))) hI50
      have I179 : jI101 σ152 := jI101_fr ((f155 4 (by decide)).trans (congrFun (f10 55 (by decide)) 4)) ((f155 5 (by decide)).trans (congrFun (f10 55 (by decide)) 5)) ((f154 56 (by decide)).trans (f10 56 (by decide))) ((f154 57 (by decide)).trans (f10 57 (by decide))) ((f154 58 (by decide)).trans (f10 58 (by decide))) ((f154 59 (by decide)).trans (f10 59 (by decide))) hI101
      have I180 : jI102 σ152 := jI102_fr ((f155 6 (by decide)).trans (congrFun (f10 55 (by decide)) 6)) ((f154 60 (by decide)).trans (f10 60 (by decide))) ((f154 61 (by decide)).trans (f10 61 (by decide))) hI102
      have I181 : jI103 σ152 := jI103_fr ((f155 9 (by decide)).trans (congrFun (f10 55 (by decide)) 9)) hI103
      have I182 : jI104 σ152 := jI104_fr ((f155 10 (by decide)).trans (congrFun (f10 55 (by decide)) 10)) ((f155 12 (by decide)).trans (congrFun (f10 55 (by decide)) 12)) ((f155 13 (by decide)).trans (congrFun (f10 55 (by decide)) 13)) ((f154 62 (by decide)).trans (f10 62 (by decide))) ((f154 67 (by decide)).trans (f10 67 (by decide))) hI104
      have I183 : jI105 σ152 := jI105_fr ((f155 15 (by decide)).trans (congrFun (f10 55 (by decide)) 15)) ((f154 65 (by decide)).trans (f10 65 (by decide))) hI105
      have I184 : jI107 σ152 := jI107_fr ((f155 12 (by decide)).trans (congrFun (f10 55 (by decide)) 12)) ((f155 47 (by decide)).trans (congrFun (f10 55 (by decide)) 47)) ((f154 80 (by decide)).trans (f10 80 (by decide))) hI107
      have I185 : jI109 σ152 := jI109_fr ((f155 50 (by decide)).trans (congrFun (f10 55 (by decide)) 50)) hI109
      have I186 : jI110 σ152 := jI110_fr ((f154 86 (by decide)).trans (f10 86 (by decide))) ((f154 87 (by decide)).trans (f10 87 (by decide))) hI110
      have I187 : jI111 σ152 := jI111_fr ((f154 79 (by decide)).trans (f10 79 (by decide))) hI111
      have I188 : jI119 σ152 := jI119_fr ((f154 68 (by decide)).trans (f10 68 (by decide))) hI119
      have p189 : jKept σ152 := jKept.fr ((f154 75 (by decide)).trans (f10 75 (by decide))) ((f154 76 (by decide)).trans (f10 76 (by decide))) ((f154 77 (by decide)).trans (f10 77 (by decide))) hs_jKept
      have p190 : jBook σ152 := jBook.fr ((f155 47 (by decide)).trans (congrFun (f10 55 (by decide)) 47)) ((f155 10 (by decide)).trans (congrFun (f10 55 (by decide)) 10)) ((f154 81 (by decide)).trans (f10 81 (by decide))) hs_jBook
      have z191 : (σ152 2 0).toInt = (σ 2 0).toInt := (congrArg Int32.toInt (show σ152 2 0 = (σ 2 0) from ((congrFun (f154 2 (by decide)) 0).trans (congrFun (f10 2 (by decide)) 0))))
      have z192 : (σ152 55 6).toInt = (σ 55 6).toInt := (congrArg Int32.toInt (show σ152 55 6 = (σ 55 6) from ((f155 6 (by decide)).trans (congrFun (f10 55 (by decide)) 6))))
      exact ih x167 σ152 τ _ _ ls (by have h9 := tx167; omega) ⟨I168, I169, I170, I171, I172, I173, I174, I175, I176, I177, I178, I179, I180, I181, I182, I183, I156, I184, I185, I186, I187, I188, p189, p190, (by omega)⟩ hP hS (lv_sub hl [0, 1, 2, 3] rfl)
    · obtain ⟨q197, k193, k194, k195, k196⟩ := h159
      refine lv_pop hx hb dL_law_522 rfl ?_
      refine lv_goto (tgt := 1357) hx hb dL_law_523 (by decide) ?_
      obtain ⟨x198, ex198⟩ : ∃ y : Int32, y = x0 + 6 := ⟨_, rfl⟩
      have tx198 : x198.toInt = x0.toInt + 6 := (jadd ex198 rfl jz_6 (by omega) (by omega)).trans (by omega)
      refine lv_iinc (v := x198) (lv' := [(3, .int x198), (2, .ref (ad 55)), (1, .ref (ad 0)), (0, .ref b)]) hx hb dL_law_1357 hl (k := 0) rfl (by rw [ex198]; rfl) (by decide) rfl (fun ls hl => ?_)
      refine lv_goto (tgt := 18) hx hb dL_law_1360 (by decide) ?_
      have I199 : jI2 σ152 := jI2_fr ((congrFun (f154 2 (by decide)) 0).trans (congrFun (f10 2 (by decide)) 0)) ((congrFun (f154 2 (by decide)) 1).trans (congrFun (f10 2 (by decide)) 1)) ((congrFun (f154 2 (by decide)) 2).trans (congrFun (f10 2 (by decide)) 2)) ((congrFun (f154 2 (by decide)) 3).trans (congrFun (f10 2 (by decide)) 3)) ((f154 6 (by decide)).trans (f10 6 (by decide))) hI2
      have I200 : jI9 σ152 := jI9_fr ((congrFun (f154 9 (by decide)) 0).trans (congrFun (f10 9 (by decide)) 0)) ((f154 10 (by decide)).trans (f10 10 (by decide))) ((f154 11 (by decide)).trans (f10 11 (by decide))) hI9
      have I201 : jI12 σ152 := jI12_fr ((congrFun (f154 12 (by decide)) 0).trans (congrFun (f10 12 (by decide)) 0)) ((f154 13 (by decide)).trans (f10 13 (by decide))) hI12
      have I202 : jI16 σ152 := jI16_fr ((congrFun (f154 16 (by decide)) 0).trans (congrFun (f10 16 (by decide)) 0)) ((congrFun (f154 16 (by decide)) 1).trans (congrFun (f10 16 (by decide)) 1)) ((congrFun (f154 16 (by decide)) 2).trans (congrFun (f10 16 (by decide)) 2)) ((f154 17 (by decide)).trans (f10 17 (by decide))) hI16
      have I203 : jI18 σ152 := jI18_fr ((congrFun (f154 18 (by decide)) 0).trans (congrFun (f10 18 (by decide)) 0)) ((f154 19 (by decide)).trans (f10 19 (by decide))) hI18
      have I204 : jI22 σ152 := jI22_fr ((congrFun (f154 22 (by decide)) 0).trans (congrFun (f10 22 (by decide)) 0)) ((f154 23 (by decide)).trans (f10 23 (by decide))) hI22
      have I205 : jI31 σ152 := jI31_fr ((congrFun (f154 31 (by decide)) 8).trans (congrFun (f10 31 (by decide)) 8)) ((f154 33 (by decide)).trans (f10 33 (by decide))) ((f154 36 (by decide)).trans (f10 36 (by decide))) hI31
      have I206 : jI38 σ152 := jI38_fr (congrFun (f154 38 (by decide)) 0) (congrFun (f154 38 (by decide)) 1) (f154 39 (by decide)) I12
      have I207 : jI43 σ152 := jI43_fr ((congrFun (f154 43 (by decide)) 8).trans (congrFun (f10 43 (by decide)) 8)) hI43
      have I208 : jI47 σ152 := jI47_fr ((congrFun (f154 47 (by decide)) 0).trans (congrFun (f10 47 (by decide)) 0)) ((f154 49 (by decide)).trans (f10 49 (by decide))) hI47
      have I209 : jI50 σ152 := jI50_fr ((f154 52 (by decide)).trans (f10 52 (by decide))) hI50
      have I210 : jI101 σ152 := jI101_fr ((f155 4 (by decide)).trans (congrFun (f10 55 (by decide)) 4)) ((f155 5 (by decide)).trans (congrFun (f10 55 (by decide)) 5)) ((f154 56 (by decide)).trans (f10 56 (by decide))) ((f154 57 (by decide)).trans (f10 57 (by decide))) ((f154 58 (by decide)).trans (f10 58 (by decide))) ((f154 59 (by decide)).trans (f10 59 (by decide))) hI101
      have I211 : jI102 σ152 := jI102_fr ((f155 6 (by decide)).trans (congrFun (f10 55 (by decide)) 6)) ((f154 60 (by decide)).trans (f10 60 (by decide))) ((f154 61 (by decide)).trans (f10 61 (by decide))) hI102
      have I212 : jI103 σ152 := jI103_fr ((f155 9 (by decide)).trans (congrFun (f10 55 (by decide)) 9)) hI103
      have I213 : jI104 σ152 := jI104_fr ((f155 10 (by decide)).trans (congrFun (f10 55 (by decide)) 10)) ((f155 12 (by decide)).trans (congrFun (f10 55 (by decide)) 12)) ((f155 13 (by decide)).trans (congrFun (f10 55 (by decide)) 13)) ((f154 62 (by decide)).trans (f10 62 (by decide))) ((f154 67 (by decide)).trans (f10 67 (by decide))) hI104
      have I214 : jI105 σ152 := jI105_fr ((f155 15 (by decide)).trans (congrFun (f10 55 (by decide)) 15)) ((f154 65 (by decide)).trans (f10 65 (by decide))) hI105
      have I215 : jI107 σ152 := jI107_fr ((f155 12 (by decide)).trans (congrFun (f10 55 (by decide)) 12)) ((f155 47 (by decide)).trans (congrFun (f10 55 (by decide)) 47)) ((f154 80 (by decide)).trans (f10 80 (by decide))) hI107
      have I216 : jI109 σ152 := jI109_fr ((f155 50 (by decide)).trans (congrFun (f10 55 (by decide)) 50)) hI109
      have I217 : jI110 σ152 := jI110_fr ((f154 86 (by decide)).trans (f10 86 (by decide))) ((f154 87 (by decide)).trans (f10 87 (by decide))) hI110
      have I218 : jI111 σ152 := jI111_fr ((f154 79 (by decide)).trans (f10 79 (by decide))) hI111
      have I219 : jI119 σ152 := jI119_fr ((f154 68 (by decide)).trans (f10 68 (by decide))) hI119
      have p220 : jKept σ152 := jKept.fr ((f154 75 (by decide)).trans (f10 75 (by decide))) ((f154 76 (by decide)).trans (f10 76 (by decide))) ((f154 77 (by decide)).trans (f10 77 (by decide))) hs_jKept
      have p221 : jBook σ152 := jBook.fr ((f155 47 (by decide)).trans (congrFun (f10 55 (by decide)) 47)) ((f155 10 (by decide)).trans (congrFun (f10 55 (by decide)) 10)) ((f154 81 (by decide)).trans (f10 81 (by decide))) hs_jBook
      have z222 : (σ152 2 0).toInt = (σ 2 0).toInt := (congrArg Int32.toInt (show σ152 2 0 = (σ 2 0) from ((congrFun (f154 2 (by decide)) 0).trans (congrFun (f10 2 (by decide)) 0))))
      have z223 : (σ152 55 6).toInt = (σ 55 6).toInt := (congrArg Int32.toInt (show σ152 55 6 = (σ 55 6) from ((f155 6 (by decide)).trans (congrFun (f10 55 (by decide)) 6))))
      exact ih x198 σ152 τ _ _ ls (by have h9 := tx198; omega) ⟨I199, I200, I201, I202, I203, I204, I205, I206, I207, I208, I209, I210, I211, I212, I213, I214, I156, I215, I216, I217, I218, I219, p220, p221, (by omega)⟩ hP hS (lv_sub hl [0, 1, 2, 3] rfl)
set_option maxHeartbeats 4000000 in
set_option maxRecDepth 100000 in
theorem law_case_10 {p : Program} {e : Env} {s : State} {m : MethodId} {below : List Frame} {meth : Method} {c : Code} (l : Launch) {b L : Nat} {xs : Nat → Int32} {D : va_G} {cI cL : ClassId} {ad zz : Nat → Nat} (C0 : lw_At p s m meth c b L xs) (hJ : jD ad) (hA : ∀ q, jA ad q → s.heap.size ≤ q) (hK : jK D cI cL s) (hZ : jZ zz (fun q : Nat => s.heap.size ≤ q) s s.heap) {x0 : Int32} (hx0 : 0 ≤ x0.toInt) (hxL : x0.toInt + 6 ≤ (L : Int)) (hL : L ≤ 384) {σ : Nat → Nat → Int32} {τ : Nat → Nat → Int64} {H : Heap} {locs : List Loc} (hS : va_S (fun q : Nat => s.heap.size ≤ q) s.heap H locs) {ls : Array Slot} (hAll : jAll σ τ) (hP : jH D cI cL ad σ τ H) (hl : lv_has ls 4 [(3, .int x0), (2, .ref (ad 55)), (1, .ref (ad 0)), (0, .ref b)]) (ih : ∀ (x1 : Int32) (σ : Nat → Nat → Int32) (τ : Nat → Nat → Int64) (H : Heap) (locs : List Loc) (ls : Array Slot), x1.toInt = x0.toInt + 6 → jAll σ τ → jH D cI cL ad σ τ H → va_S (fun q : Nat => s.heap.size ≤ q) s.heap H locs → lv_has ls 4 [(3, .int x1), (2, .ref (ad 55)), (1, .ref (ad 0)), (0, .ref b)] → W p l e room_1 s m #[Value.ref b] below meth c H locs 90 348600 (lw_Z below #[Value.ref b] s) (F0 m 18 ls [])) : W p l e room_1 s m #[Value.ref b] below meth c H locs 90 348600 (lw_Z below #[Value.ref b] s) (F0 m 526 ls []) := by
  obtain ⟨hx, hb, hr, hml, hown, hts0, hX, hbl, hlocks, hgv⟩ := C0
  have hts : ∀ w ∈ wsL_law, w.before #[Value.ref b] s = true := fun w h => hts0 w (wsL_law_in w h)
  have hbA : ¬ (fun q : Nat => s.heap.size ≤ q) b := Nat.not_le.mpr hbl
  have hown : s.vm.findClass RL = some m.cls := hown
  obtain ⟨hI2, hI9, hI12, hI16, hI18, hI22, hI31, hI38, hI43, hI47, hI50, hI101, hI102, hI103, hI104, hI105, hI106, hI107, hI109, hI110, hI111, hI119, hs_jKept, hs_jBook, ht0⟩ := hAll
  have hL9 : (L : Int) ≤ 384 := by omega
  refine lv_aload_n hx hb dL_law_526 rfl (lv_at hl 2 rfl) ?_
  refine lv_aload_n hx hb dL_law_527 rfl (lv_at hl 3 rfl) ?_
  refine lv_iload_n hx hb dL_law_528 rfl (lv_at hl 0 rfl) ?_
  refine lv_iconst (v := 1) hx hb dL_law_529 (by decide) ?_
  have g1 := jrg (rfl : x0.toInt = x0.toInt)
  refine lv_iadd hx hb dL_law_530 ?_
  refine lv_topi (fun x2 ex2 => ?_)
  have tx2 : x2.toInt = x0.toInt + 1 := (jadd ex2 rfl jz_1 (by omega) (by omega)).trans (by omega)
  refine va_sld hx hb hX hbl hbA hS (jin tx2 (by omega) (by omega)) dL_law_531 ?_
  have g3 := jrg (rfl : (xs x2.toNatClampNeg).toInt = (xs x2.toNatClampNeg).toInt)
  refine jcallV (As := [.int (xs x2.toNatClampNeg)]) (rest := []) ⟨hx, hb, hml, hown, hts⟩ hK hP hA hS hZ (c_X11_puts l D cI cL ad zz hJ σ τ (xs x2.toNatClampNeg) ((xs x2.toNatClampNeg).toInt) rfl hI2 hI16 hI18 hI22 hI31 hI38 hI47) cw_RL_57 (jc_0 cI cL ad σ τ) rfl ⟨Nat.le_of_ble_eq_true rfl, Nat.le_of_ble_eq_true rfl⟩ rfl rfl rfl hl.1 rfl (Nat.le_of_ble_eq_true rfl) dL_law_532 ⟨Nat.le_of_ble_eq_true rfl, Nat.le_of_ble_eq_true rfl⟩ (fun r5 σ4 τ4 H locs h4 hP hS => ?_)
  obtain ⟨rfl, f6, f7, I8, h4⟩ := h4
  refine lv_pop hx hb dL_law_535 rfl ?_
  refine lv_aload_n hx hb dL_law_536 rfl (lv_at hl 1 rfl) ?_
  refine lv_aload_n hx hb dL_law_537 rfl (lv_at hl 3 rfl) ?_
  refine lv_iload_n hx hb dL_law_538 rfl (lv_at hl 0 rfl) ?_
  refine lv_iconst (v := 1) hx hb dL_law_539 (by decide) ?_
  refine lv_iadd hx hb dL_law_540 ?_
  refine jtopr ex2.symm ?_
  refine va_sld hx hb hX hbl hbA hS (jin tx2 (by omega) (by omega)) dL_law_541 ?_
  have I9 : jI101 σ4 := jI101_fr (congrFun (f6 55 (by decide)) 4) (congrFun (f6 55 (by decide)) 5) (f6 56 (by decide)) (f6 57 (by decide)) (f6 58 (by decide)) (f6 59 (by decide)) hI101
  have I10 : jI102 σ4 := jI102_fr (congrFun (f6 55 (by decide)) 6) (f6 60 (by decide)) (f6 61 (by decide)) hI102
  have I11 : jI103 σ4 := jI103_fr (congrFun (f6 55 (by decide)) 9) hI103
  have I12 : jI104 σ4 := jI104_fr (congrFun (f6 55 (by decide)) 10) (congrFun (f6 55 (by decide)) 12) (congrFun (f6 55 (by decide)) 13) (f6 62 (by decide)) (f6 67 (by decide)) hI104
  have I13 : jI105 σ4 := jI105_fr (congrFun (f6 55 (by decide)) 15) (f6 65 (by decide)) hI105
  have I14 : jI106 σ4 := jI106_fr (congrFun (f6 55 (by decide)) 32) (f6 70 (by decide)) (f6 71 (by decide)) (f6 72 (by decide)) hI106
  have I15 : jI107 σ4 := jI107_fr (congrFun (f6 55 (by decide)) 12) (congrFun (f6 55 (by decide)) 47) (f6 80 (by decide)) hI107
  have I16 : jI119 σ4 := jI119_fr (f6 68 (by decide)) hI119
  have p17 : jKept σ4 := jKept.fr (f6 75 (by decide)) (f6 76 (by decide)) (f6 77 (by decide)) hs_jKept
  have p18 : jBook σ4 := jBook.fr (congrFun (f6 55 (by decide)) 47) (congrFun (f6 55 (by decide)) 10) (f6 81 (by decide)) hs_jBook
  refine jcallV (As := [.int (xs x2.toNatClampNeg)]) (rest := []) ⟨hx, hb, hml, hown, hts⟩ hK hP hA hS hZ (c_X12_puts l D cI cL ad zz hJ σ4 τ (xs x2.toNatClampNeg) ((xs x2.toNatClampNeg).toInt) rfl I9 I10 I11 I12 I13 I14 I15 I16 p17 p18) cw_RL_60 (jc_55 cI cL ad σ4 τ) rfl ⟨Nat.le_of_ble_eq_true rfl, Nat.le_of_ble_eq_true rfl⟩ rfl rfl rfl hl.1 rfl (Nat.le_of_ble_eq_true rfl) dL_law_542 ⟨Nat.le_of_ble_eq_true rfl, Nat.le_of_ble_eq_true rfl⟩ (fun r20 σ19 τ19 H locs h19 hP hS => ?_)
  obtain ⟨rfl, f21, f22, I23, p24, p25, h19⟩ := h19
  refine lv_pop hx hb dL_law_545 rfl ?_
  refine lv_goto (tgt := 1357) hx hb dL_law_546 (by decide) ?_
  obtain ⟨x26, ex26⟩ : ∃ y : Int32, y = x0 + 6 := ⟨_, rfl⟩
  have tx26 : x26.toInt = x0.toInt + 6 := (jadd ex26 rfl jz_6 (by omega) (by omega)).trans (by omega)
  refine lv_iinc (v := x26) (lv' := [(3, .int x26), (2, .ref (ad 55)), (1, .ref (ad 0)), (0, .ref b)]) hx hb dL_law_1357 hl (k := 0) rfl (by rw [ex26]; rfl) (by decide) rfl (fun ls hl => ?_)
  refine lv_goto (tgt := 18) hx hb dL_law_1360 (by decide) ?_
  have I27 : jI2 σ19 := jI2_fr ((congrFun (f21 2 (by decide)) 0).trans (congrFun (f6 2 (by decide)) 0)) ((congrFun (f21 2 (by decide)) 1).trans (congrFun (f6 2 (by decide)) 1)) ((congrFun (f21 2 (by decide)) 2).trans (congrFun (f6 2 (by decide)) 2)) ((congrFun (f21 2 (by decide)) 3).trans (congrFun (f6 2 (by decide)) 3)) ((f21 6 (by decide)).trans (f6 6 (by decide))) hI2
  have I28 : jI9 σ19 := jI9_fr ((congrFun (f21 9 (by decide)) 0).trans (congrFun (f6 9 (by decide)) 0)) ((f21 10 (by decide)).trans (f6 10 (by decide))) ((f21 11 (by decide)).trans (f6 11 (by decide))) hI9
  have I29 : jI12 σ19 := jI12_fr ((congrFun (f21 12 (by decide)) 0).trans (congrFun (f6 12 (by decide)) 0)) ((f21 13 (by decide)).trans (f6 13 (by decide))) hI12
  have I30 : jI16 σ19 := jI16_fr ((congrFun (f21 16 (by decide)) 0).trans (congrFun (f6 16 (by decide)) 0)) ((congrFun (f21 16 (by decide)) 1).trans (congrFun (f6 16 (by decide)) 1)) ((congrFun (f21 16 (by decide)) 2).trans (congrFun (f6 16 (by decide)) 2)) ((f21 17 (by decide)).trans (f6 17 (by decide))) hI16
  have I31 : jI18 σ19 := jI18_fr ((congrFun (f21 18 (by decide)) 0).trans (congrFun (f6 18 (by decide)) 0)) ((f21 19 (by decide)).trans (f6 19 (by decide))) hI18
  have I32 : jI22 σ19 := jI22_fr ((congrFun (f21 22 (by decide)) 0).trans (congrFun (f6 22 (by decide)) 0)) ((f21 23 (by decide)).trans (f6 23 (by decide))) hI22
  have I33 : jI31 σ19 := jI31_fr (congrFun (f21 31 (by decide)) 8) (f21 33 (by decide)) (f21 36 (by decide)) I8
  have I34 : jI38 σ19 := jI38_fr ((congrFun (f21 38 (by decide)) 0).trans (congrFun (f6 38 (by decide)) 0)) ((congrFun (f21 38 (by decide)) 1).trans (congrFun (f6 38 (by decide)) 1)) ((f21 39 (by decide)).trans (f6 39 (by decide))) hI38
  have I35 : jI43 σ19 := jI43_fr ((congrFun (f21 43 (by decide)) 8).trans (congrFun (f6 43 (by decide)) 8)) hI43
  have I36 : jI47 σ19 := jI47_fr ((congrFun (f21 47 (by decide)) 0).trans (congrFun (f6 47 (by decide)) 0)) ((f21 49 (by decide)).trans (f6 49 (by decide))) hI47
  have I37 : jI50 σ19 := jI50_fr ((f21 52 (by decide)).trans (f6 52 (by decide))) hI50
  have I38 : jI101 σ19 := jI101_fr (f22 4 (by decide)) (f22 5 (by decide)) (f21 56 (by decide)) (f21 57 (by decide)) (f21 58 (by decide)) (f21 59 (by decide)) I9
  have I39 : jI102 σ19 := jI102_fr (f22 6 (by decide)) (f21 60 (by decide)) (f21 61 (by decide)) I10
  have I40 : jI103 σ19 := jI103_fr (f22 9 (by decide)) I11
  have I41 : jI104 σ19 := jI104_fr (f22 10 (by decide)) (f22 12 (by decide)) (f22 13 (by decide)) (f21 62 (by decide)) (f21 67 (by decide)) I12
  have I42 : jI105 σ19 := jI105_fr (f22 15 (by decide)) (f21 65 (by decide)) I13
  have I43 : jI106 σ19 := jI106_fr (f22 32 (by decide)) (f21 70 (by decide)) (f21 71 (by decide)) (f21 72 (by decide)) I14
  have I44 : jI107 σ19 := jI107_fr (f22 12 (by decide)) (f22 47 (by decide)) (f21 80 (by decide)) I15
  have I45 : jI109 σ19 := jI109_fr ((f22 50 (by decide)).trans (congrFun (f6 55 (by decide)) 50)) hI109
  have I46 : jI110 σ19 := jI110_fr ((f21 86 (by decide)).trans (f6 86 (by decide))) ((f21 87 (by decide)).trans (f6 87 (by decide))) hI110
  have I47 : jI111 σ19 := jI111_fr ((f21 79 (by decide)).trans (f6 79 (by decide))) hI111
  have z48 : (σ19 2 0).toInt = (σ 2 0).toInt := (congrArg Int32.toInt (show σ19 2 0 = (σ 2 0) from ((congrFun (f21 2 (by decide)) 0).trans (congrFun (f6 2 (by decide)) 0))))
  have z49 : (σ19 55 6).toInt = (σ 55 6).toInt := (congrArg Int32.toInt (show σ19 55 6 = (σ 55 6) from ((f22 6 (by decide)).trans (congrFun (f6 55 (by decide)) 6))))
  exact ih x26 σ19 τ _ _ ls (by have h9 := tx26; omega) ⟨I27, I28, I29, I30, I31, I32, I33, I34, I35, I36, I37, I38, I39, I40, I41, I42, I43, I44, I45, I46, I47, I23, p24, p25, (by omega)⟩ hP hS (lv_sub hl [0, 1, 2, 3] rfl)
set_option maxHeartbeats 4000000 in
set_option maxRecDepth 100000 in
theorem law_case_11 {p : Program} {e : Env} {s : State} {m : MethodId} {below : List Frame} {meth : Method} {c : Code} (l : Launch) {b L : Nat} {xs : Nat → Int32} {D : va_G} {cI cL : ClassId} {ad zz : Nat → Nat} (C0 : lw_At p s m meth c b L xs) (hJ : jD ad) (hA : ∀ q, jA ad q → s.heap.size ≤ q) (hK : jK D cI cL s) (hZ : jZ zz (fun q : Nat => s.heap.size ≤ q) s s.heap) {x0 : Int32} (hx0 : 0 ≤ x0.toInt) (hxL : x0.toInt + 6 ≤ (L : Int)) (hL : L ≤ 384) {σ : Nat → Nat → Int32} {τ : Nat → Nat → Int64} {H : Heap} {locs : List Loc} (hS : va_S (fun q : Nat => s.heap.size ≤ q) s.heap H locs) {ls : Array Slot} (hAll : jAll σ τ) (hP : jH D cI cL ad σ τ H) (hl : lv_has ls 4 [(3, .int x0), (2, .ref (ad 55)), (1, .ref (ad 0)), (0, .ref b)]) (ih : ∀ (x1 : Int32) (σ : Nat → Nat → Int32) (τ : Nat → Nat → Int64) (H : Heap) (locs : List Loc) (ls : Array Slot), x1.toInt = x0.toInt + 6 → jAll σ τ → jH D cI cL ad σ τ H → va_S (fun q : Nat => s.heap.size ≤ q) s.heap H locs → lv_has ls 4 [(3, .int x1), (2, .ref (ad 55)), (1, .ref (ad 0)), (0, .ref b)] → W p l e room_1 s m #[Value.ref b] below meth c H locs 90 348600 (lw_Z below #[Value.ref b] s) (F0 m 18 ls [])) : W p l e room_1 s m #[Value.ref b] below meth c H locs 90 348600 (lw_Z below #[Value.ref b] s) (F0 m 549 ls []) := by
  obtain ⟨hx, hb, hr, hml, hown, hts0, hX, hbl, hlocks, hgv⟩ := C0
  have hts : ∀ w ∈ wsL_law, w.before #[Value.ref b] s = true := fun w h => hts0 w (wsL_law_in w h)
  have hbA : ¬ (fun q : Nat => s.heap.size ≤ q) b := Nat.not_le.mpr hbl
  have hown : s.vm.findClass RL = some m.cls := hown
  obtain ⟨hI2, hI9, hI12, hI16, hI18, hI22, hI31, hI38, hI43, hI47, hI50, hI101, hI102, hI103, hI104, hI105, hI106, hI107, hI109, hI110, hI111, hI119, hs_jKept, hs_jBook, ht0⟩ := hAll
  have hL9 : (L : Int) ≤ 384 := by omega
  refine lv_aload_n hx hb dL_law_549 rfl (lv_at hl 2 rfl) ?_
  refine lv_aload_n hx hb dL_law_550 rfl (lv_at hl 3 rfl) ?_
  refine lv_iload_n hx hb dL_law_551 rfl (lv_at hl 0 rfl) ?_
  refine lv_iconst (v := 1) hx hb dL_law_552 (by decide) ?_
  have g1 := jrg (rfl : x0.toInt = x0.toInt)
  refine lv_iadd hx hb dL_law_553 ?_
  refine lv_topi (fun x2 ex2 => ?_)
  have tx2 : x2.toInt = x0.toInt + 1 := (jadd ex2 rfl jz_1 (by omega) (by omega)).trans (by omega)
  refine va_sld hx hb hX hbl hbA hS (jin tx2 (by omega) (by omega)) dL_law_554 ?_
  have g3 := jrg (rfl : (xs x2.toNatClampNeg).toInt = (xs x2.toNatClampNeg).toInt)
  refine jcallV (As := [.int (xs x2.toNatClampNeg)]) (rest := []) ⟨hx, hb, hml, hown, hts⟩ hK hP hA hS hZ (c_X11_mean l D cI cL ad zz hJ σ τ (xs x2.toNatClampNeg) ((xs x2.toNatClampNeg).toInt) rfl hI2 hI16 hI18 hI22 hI31 hI38) cw_RL_61 (jc_0 cI cL ad σ τ) rfl ⟨Nat.le_of_ble_eq_true rfl, Nat.le_of_ble_eq_true rfl⟩ rfl rfl rfl hl.1 rfl (Nat.le_of_ble_eq_true rfl) dL_law_555 ⟨Nat.le_of_ble_eq_true rfl, Nat.le_of_ble_eq_true rfl⟩ (fun r5 σ4 τ4 H locs h4 hP hS => ?_)
  obtain ⟨rfl, f6, f7, I8, h4⟩ := h4
  refine lv_pop hx hb dL_law_558 rfl ?_
  refine lv_aload_n hx hb dL_law_559 rfl (lv_at hl 1 rfl) ?_
  refine lv_aload_n hx hb dL_law_560 rfl (lv_at hl 3 rfl) ?_
  refine lv_iload_n hx hb dL_law_561 rfl (lv_at hl 0 rfl) ?_
  refine lv_iconst (v := 1) hx hb dL_law_562 (by decide) ?_
  refine lv_iadd hx hb dL_law_563 ?_
  refine jtopr ex2.symm ?_
  refine va_sld hx hb hX hbl hbA hS (jin tx2 (by omega) (by omega)) dL_law_564 ?_
  have I9 : jI101 σ4 := jI101_fr (congrFun (f6 55 (by decide)) 4) (congrFun (f6 55 (by decide)) 5) (f6 56 (by decide)) (f6 57 (by decide)) (f6 58 (by decide)) (f6 59 (by decide)) hI101
  have I10 : jI102 σ4 := jI102_fr (congrFun (f6 55 (by decide)) 6) (f6 60 (by decide)) (f6 61 (by decide)) hI102
  have I11 : jI103 σ4 := jI103_fr (congrFun (f6 55 (by decide)) 9) hI103
  have I12 : jI104 σ4 := jI104_fr (congrFun (f6 55 (by decide)) 10) (congrFun (f6 55 (by decide)) 12) (congrFun (f6 55 (by decide)) 13) (f6 62 (by decide)) (f6 67 (by decide)) hI104
  have I13 : jI105 σ4 := jI105_fr (congrFun (f6 55 (by decide)) 15) (f6 65 (by decide)) hI105
  have I14 : jI106 σ4 := jI106_fr (congrFun (f6 55 (by decide)) 32) (f6 70 (by decide)) (f6 71 (by decide)) (f6 72 (by decide)) hI106
  have I15 : jI119 σ4 := jI119_fr (f6 68 (by decide)) hI119
  have p16 : jKept σ4 := jKept.fr (f6 75 (by decide)) (f6 76 (by decide)) (f6 77 (by decide)) hs_jKept
  refine jcallV (As := [.int (xs x2.toNatClampNeg)]) (rest := []) ⟨hx, hb, hml, hown, hts⟩ hK hP hA hS hZ (c_X12_mean l D cI cL ad zz hJ σ4 τ (xs x2.toNatClampNeg) ((xs x2.toNatClampNeg).toInt) rfl I9 I10 I11 I12 I13 I14 I15 p16) cw_RL_64 (jc_55 cI cL ad σ4 τ) rfl ⟨Nat.le_of_ble_eq_true rfl, Nat.le_of_ble_eq_true rfl⟩ rfl rfl rfl hl.1 rfl (Nat.le_of_ble_eq_true rfl) dL_law_565 ⟨Nat.le_of_ble_eq_true rfl, Nat.le_of_ble_eq_true rfl⟩ (fun r18 σ17 τ17 H locs h17 hP hS => ?_)
  obtain ⟨rfl, f19, f20, I21, p22, h17⟩ := h17
  refine lv_pop hx hb dL_law_568 rfl ?_
  refine lv_goto (tgt := 1357) hx hb dL_law_569 (by decide) ?_
  obtain ⟨x23, ex23⟩ : ∃ y : Int32, y = x0 + 6 := ⟨_, rfl⟩
  have tx23 : x23.toInt = x0.toInt + 6 := (jadd ex23 rfl jz_6 (by omega) (by omega)).trans (by omega)
  refine lv_iinc (v := x23) (lv' := [(3, .int x23), (2, .ref (ad 55)), (1, .ref (ad 0)), (0, .ref b)]) hx hb dL_law_1357 hl (k := 0) rfl (by rw [ex23]; rfl) (by decide) rfl (fun ls hl => ?_)
  refine lv_goto (tgt := 18) hx hb dL_law_1360 (by decide) ?_
  have I24 : jI2 σ17 := jI2_fr ((congrFun (f19 2 (by decide)) 0).trans (congrFun (f6 2 (by decide)) 0)) ((congrFun (f19 2 (by decide)) 1).trans (congrFun (f6 2 (by decide)) 1)) ((congrFun (f19 2 (by decide)) 2).trans (congrFun (f6 2 (by decide)) 2)) ((congrFun (f19 2 (by decide)) 3).trans (congrFun (f6 2 (by decide)) 3)) ((f19 6 (by decide)).trans (f6 6 (by decide))) hI2
  have I25 : jI9 σ17 := jI9_fr ((congrFun (f19 9 (by decide)) 0).trans (congrFun (f6 9 (by decide)) 0)) ((f19 10 (by decide)).trans (f6 10 (by decide))) ((f19 11 (by decide)).trans (f6 11 (by decide))) hI9
  have I26 : jI12 σ17 := jI12_fr ((congrFun (f19 12 (by decide)) 0).trans (congrFun (f6 12 (by decide)) 0)) ((f19 13 (by decide)).trans (f6 13 (by decide))) hI12
  have I27 : jI16 σ17 := jI16_fr ((congrFun (f19 16 (by decide)) 0).trans (congrFun (f6 16 (by decide)) 0)) ((congrFun (f19 16 (by decide)) 1).trans (congrFun (f6 16 (by decide)) 1)) ((congrFun (f19 16 (by decide)) 2).trans (congrFun (f6 16 (by decide)) 2)) ((f19 17 (by decide)).trans (f6 17 (by decide))) hI16
  have I28 : jI18 σ17 := jI18_fr ((congrFun (f19 18 (by decide)) 0).trans (congrFun (f6 18 (by decide)) 0)) ((f19 19 (by decide)).trans (f6 19 (by decide))) hI18
  have I29 : jI22 σ17 := jI22_fr ((congrFun (f19 22 (by decide)) 0).trans (congrFun (f6 22 (by decide)) 0)) ((f19 23 (by decide)).trans (f6 23 (by decide))) hI22
  have I30 : jI31 σ17 := jI31_fr (congrFun (f19 31 (by decide)) 8) (f19 33 (by decide)) (f19 36 (by decide)) I8
  have I31 : jI38 σ17 := jI38_fr ((congrFun (f19 38 (by decide)) 0).trans (congrFun (f6 38 (by decide)) 0)) ((congrFun (f19 38 (by decide)) 1).trans (congrFun (f6 38 (by decide)) 1)) ((f19 39 (by decide)).trans (f6 39 (by decide))) hI38
  have I32 : jI43 σ17 := jI43_fr ((congrFun (f19 43 (by decide)) 8).trans (congrFun (f6 43 (by decide)) 8)) hI43
  have I33 : jI47 σ17 := jI47_fr ((congrFun (f19 47 (by decide)) 0).trans (congrFun (f6 47 (by decide)) 0)) ((f19 49 (by decide)).trans (f6 49 (by decide))) hI47
  have I34 : jI50 σ17 := jI50_fr ((f19 52 (by decide)).trans (f6 52 (by decide))) hI50
  have I35 : jI101 σ17 := jI101_fr (f20 4 (by decide)) (f20 5 (by decide)) (f19 56 (by decide)) (f19 57 (by decide)) (f19 58 (by decide)) (f19 59 (by decide)) I9
  have I36 : jI102 σ17 := jI102_fr (f20 6 (by decide)) (f19 60 (by decide)) (f19 61 (by decide)) I10
  have I37 : jI103 σ17 := jI103_fr (f20 9 (by decide)) I11
  have I38 : jI104 σ17 := jI104_fr (f20 10 (by decide)) (f20 12 (by decide)) (f20 13 (by decide)) (f19 62 (by decide)) (f19 67 (by decide)) I12
  have I39 : jI105 σ17 := jI105_fr (f20 15 (by decide)) (f19 65 (by decide)) I13
  have I40 : jI106 σ17 := jI106_fr (f20 32 (by decide)) (f19 70 (by decide)) (f19 71 (by decide)) (f19 72 (by decide)) I14
  have I41 : jI107 σ17 := jI107_fr ((f20 12 (by decide)).trans (congrFun (f6 55 (by decide)) 12)) ((f20 47 (by decide)).trans (congrFun (f6 55 (by decide)) 47)) ((f19 80 (by decide)).trans (f6 80 (by decide))) hI107
  have I42 : jI109 σ17 := jI109_fr ((f20 50 (by decide)).trans (congrFun (f6 55 (by decide)) 50)) hI109
  have I43 : jI110 σ17 := jI110_fr ((f19 86 (by decide)).trans (f6 86 (by decide))) ((f19 87 (by decide)).trans (f6 87 (by decide))) hI110
  have I44 : jI111 σ17 := jI111_fr ((f19 79 (by decide)).trans (f6 79 (by decide))) hI111
  have p45 : jBook σ17 := jBook.fr ((f20 47 (by decide)).trans (congrFun (f6 55 (by decide)) 47)) ((f20 10 (by decide)).trans (congrFun (f6 55 (by decide)) 10)) ((f19 81 (by decide)).trans (f6 81 (by decide))) hs_jBook
  have z46 : (σ17 2 0).toInt = (σ 2 0).toInt := (congrArg Int32.toInt (show σ17 2 0 = (σ 2 0) from ((congrFun (f19 2 (by decide)) 0).trans (congrFun (f6 2 (by decide)) 0))))
  have z47 : (σ17 55 6).toInt = (σ 55 6).toInt := (congrArg Int32.toInt (show σ17 55 6 = (σ 55 6) from ((f20 6 (by decide)).trans (congrFun (f6 55 (by decide)) 6))))
  exact ih x23 σ17 τ _ _ ls (by have h9 := tx23; omega) ⟨I24, I25, I26, I27, I28, I29, I30, I31, I32, I33, I34, I35, I36, I37, I38, I39, I40, I41, I42, I43, I44, I21, p22, p45, (by omega)⟩ hP hS (lv_sub hl [0, 1, 2, 3] rfl)
set_option maxHeartbeats 4000000 in
set_option maxRecDepth 100000 in
theorem law_case_12 {p : Program} {e : Env} {s : State} {m : MethodId} {below : List Frame} {meth : Method} {c : Code} (l : Launch) {b L : Nat} {xs : Nat → Int32} {D : va_G} {cI cL : ClassId} {ad zz : Nat → Nat} (C0 : lw_At p s m meth c b L xs) (hJ : jD ad) (hA : ∀ q, jA ad q → s.heap.size ≤ q) (hK : jK D cI cL s) (hZ : jZ zz (fun q : Nat => s.heap.size ≤ q) s s.heap) {x0 : Int32} (hx0 : 0 ≤ x0.toInt) (hxL : x0.toInt + 6 ≤ (L : Int)) (hL : L ≤ 384) {σ : Nat → Nat → Int32} {τ : Nat → Nat → Int64} {H : Heap} {locs : List Loc} (hS : va_S (fun q : Nat => s.heap.size ≤ q) s.heap H locs) {ls : Array Slot} (hAll : jAll σ τ) (hP : jH D cI cL ad σ τ H) (hl : lv_has ls 4 [(3, .int x0), (2, .ref (ad 55)), (1, .ref (ad 0)), (0, .ref b)]) (ih : ∀ (x1 : Int32) (σ : Nat → Nat → Int32) (τ : Nat → Nat → Int64) (H : Heap) (locs : List Loc) (ls : Array Slot), x1.toInt = x0.toInt + 6 → jAll σ τ → jH D cI cL ad σ τ H → va_S (fun q : Nat => s.heap.size ≤ q) s.heap H locs → lv_has ls 4 [(3, .int x1), (2, .ref (ad 55)), (1, .ref (ad 0)), (0, .ref b)] → W p l e room_1 s m #[Value.ref b] below meth c H locs 90 348600 (lw_Z below #[Value.ref b] s) (F0 m 18 ls [])) : W p l e room_1 s m #[Value.ref b] below meth c H locs 90 348600 (lw_Z below #[Value.ref b] s) (F0 m 572 ls []) := by
  obtain ⟨hx, hb, hr, hml, hown, hts0, hX, hbl, hlocks, hgv⟩ := C0
  have hts : ∀ w ∈ wsL_law, w.before #[Value.ref b] s = true := fun w h => hts0 w (wsL_law_in w h)
  have hbA : ¬ (fun q : Nat => s.heap.size ≤ q) b := Nat.not_le.mpr hbl
  have hown : s.vm.findClass RL = some m.cls := hown
  obtain ⟨hI2, hI9, hI12, hI16, hI18, hI22, hI31, hI38, hI43, hI47, hI50, hI101, hI102, hI103, hI104, hI105, hI106, hI107, hI109, hI110, hI111, hI119, hs_jKept, hs_jBook, ht0⟩ := hAll
  have hL9 : (L : Int) ≤ 384 := by omega
  refine lv_aload_n hx hb dL_law_572 rfl (lv_at hl 2 rfl) ?_
  refine lv_aload_n hx hb dL_law_573 rfl (lv_at hl 3 rfl) ?_
  refine lv_iload_n hx hb dL_law_574 rfl (lv_at hl 0 rfl) ?_
  refine lv_iconst (v := 1) hx hb dL_law_575 (by decide) ?_
  have g1 := jrg (rfl : x0.toInt = x0.toInt)
  refine lv_iadd hx hb dL_law_576 ?_
  refine lv_topi (fun x2 ex2 => ?_)
  have tx2 : x2.toInt = x0.toInt + 1 := (jadd ex2 rfl jz_1 (by omega) (by omega)).trans (by omega)
  refine va_sld hx hb hX hbl hbA hS (jin tx2 (by omega) (by omega)) dL_law_577 ?_
  have g3 := jrg (rfl : (xs x2.toNatClampNeg).toInt = (xs x2.toNatClampNeg).toInt)
  refine lv_aload_n hx hb dL_law_578 rfl (lv_at hl 3 rfl) ?_
  refine lv_iload_n hx hb dL_law_579 rfl (lv_at hl 0 rfl) ?_
  refine lv_iconst (v := 2) hx hb dL_law_580 (by decide) ?_
  refine lv_iadd hx hb dL_law_581 ?_
  refine lv_topi (fun x4 ex4 => ?_)
  have tx4 : x4.toInt = x0.toInt + 2 := (jadd ex4 rfl jz_2 (by omega) (by omega)).trans (by omega)
  refine va_sld hx hb hX hbl hbA hS (jin tx4 (by omega) (by omega)) dL_law_582 ?_
  have g5 := jrg (rfl : (xs x4.toNatClampNeg).toInt = (xs x4.toNatClampNeg).toInt)
  refine jcallV (As := [.int (xs x2.toNatClampNeg), .int (xs x4.toNatClampNeg)]) (rest := []) ⟨hx, hb, hml, hown, hts⟩ hK hP hA hS hZ (c_X11_likely l D cI cL ad zz hJ σ τ (xs x2.toNatClampNeg) ((xs x2.toNatClampNeg).toInt) rfl (xs x4.toNatClampNeg) ((xs x4.toNatClampNeg).toInt) rfl hI2 hI16 hI18 hI22 hI31 hI38) cw_RL_65 (jc_0 cI cL ad σ τ) rfl ⟨Nat.le_of_ble_eq_true rfl, Nat.le_of_ble_eq_true rfl⟩ rfl rfl rfl hl.1 rfl (Nat.le_of_ble_eq_true rfl) dL_law_583 ⟨Nat.le_of_ble_eq_true rfl, Nat.le_of_ble_eq_true rfl⟩ (fun r7 σ6 τ6 H locs h6 hP hS => ?_)
  obtain ⟨rfl, f8, f9, I10, h6⟩ := h6
  refine lv_pop hx hb dL_law_586 rfl ?_
  refine lv_aload_n hx hb dL_law_587 rfl (lv_at hl 1 rfl) ?_
  refine lv_aload_n hx hb dL_law_588 rfl (lv_at hl 3 rfl) ?_
  refine lv_iload_n hx hb dL_law_589 rfl (lv_at hl 0 rfl) ?_
  refine lv_iconst (v := 1) hx hb dL_law_590 (by decide) ?_
  refine lv_iadd hx hb dL_law_591 ?_
  refine jtopr ex2.symm ?_
  refine va_sld hx hb hX hbl hbA hS (jin tx2 (by omega) (by omega)) dL_law_592 ?_
  refine lv_aload_n hx hb dL_law_593 rfl (lv_at hl 3 rfl) ?_
  refine lv_iload_n hx hb dL_law_594 rfl (lv_at hl 0 rfl) ?_
  refine lv_iconst (v := 2) hx hb dL_law_595 (by decide) ?_
  refine lv_iadd hx hb dL_law_596 ?_
  refine jtopr ex4.symm ?_
  refine va_sld hx hb hX hbl hbA hS (jin tx4 (by omega) (by omega)) dL_law_597 ?_
  have I11 : jI101 σ6 := jI101_fr (congrFun (f8 55 (by decide)) 4) (congrFun (f8 55 (by decide)) 5) (f8 56 (by decide)) (f8 57 (by decide)) (f8 58 (by decide)) (f8 59 (by decide)) hI101
  have I12 : jI102 σ6 := jI102_fr (congrFun (f8 55 (by decide)) 6) (f8 60 (by decide)) (f8 61 (by decide)) hI102
  have I13 : jI103 σ6 := jI103_fr (congrFun (f8 55 (by decide)) 9) hI103
  have I14 : jI104 σ6 := jI104_fr (congrFun (f8 55 (by decide)) 10) (congrFun (f8 55 (by decide)) 12) (congrFun (f8 55 (by decide)) 13) (f8 62 (by decide)) (f8 67 (by decide)) hI104
  have I15 : jI105 σ6 := jI105_fr (congrFun (f8 55 (by decide)) 15) (f8 65 (by decide)) hI105
  have I16 : jI106 σ6 := jI106_fr (congrFun (f8 55 (by decide)) 32) (f8 70 (by decide)) (f8 71 (by decide)) (f8 72 (by decide)) hI106
  have I17 : jI119 σ6 := jI119_fr (f8 68 (by decide)) hI119
  have p18 : jKept σ6 := jKept.fr (f8 75 (by decide)) (f8 76 (by decide)) (f8 77 (by decide)) hs_jKept
  refine jcallV (As := [.int (xs x2.toNatClampNeg), .int (xs x4.toNatClampNeg)]) (rest := []) ⟨hx, hb, hml, hown, hts⟩ hK hP hA hS hZ (c_X12_likely l D cI cL ad zz hJ σ6 τ (xs x2.toNatClampNeg) ((xs x2.toNatClampNeg).toInt) rfl (xs x4.toNatClampNeg) ((xs x4.toNatClampNeg).toInt) rfl I11 I12 I13 I14 I15 I16 I17 p18) cw_RL_68 (jc_55 cI cL ad σ6 τ) rfl ⟨Nat.le_of_ble_eq_true rfl, Nat.le_of_ble_eq_true rfl⟩ rfl rfl rfl hl.1 rfl (Nat.le_of_ble_eq_true rfl) dL_law_598 ⟨Nat.le_of_ble_eq_true rfl, Nat.le_of_ble_eq_true rfl⟩ (fun r20 σ19 τ19 H locs h19 hP hS => ?_)
  obtain ⟨rfl, f21, f22, I23, p24, h19⟩ := h19
  refine lv_pop hx hb dL_law_601 rfl ?_
  refine lv_goto (tgt := 1357) hx hb dL_law_602 (by decide) ?_
  obtain ⟨x25, ex25⟩ : ∃ y : Int32, y = x0 + 6 := ⟨_, rfl⟩
  have tx25 : x25.toInt = x0.toInt + 6 := (jadd ex25 rfl jz_6 (by omega) (by omega)).trans (by omega)
  refine lv_iinc (v := x25) (lv' := [(3, .int x25), (2, .ref (ad 55)), (1, .ref (ad 0)), (0, .ref b)]) hx hb dL_law_1357 hl (k := 0) rfl (by rw [ex25]; rfl) (by decide) rfl (fun ls hl => ?_)
  refine lv_goto (tgt := 18) hx hb dL_law_1360 (by decide) ?_
  have I26 : jI2 σ19 := jI2_fr ((congrFun (f21 2 (by decide)) 0).trans (congrFun (f8 2 (by decide)) 0)) ((congrFun (f21 2 (by decide)) 1).trans (congrFun (f8 2 (by decide)) 1)) ((congrFun (f21 2 (by decide)) 2).trans (congrFun (f8 2 (by decide)) 2)) ((congrFun (f21 2 (by decide)) 3).trans (congrFun (f8 2 (by decide)) 3)) ((f21 6 (by decide)).trans (f8 6 (by decide))) hI2
  have I27 : jI9 σ19 := jI9_fr ((congrFun (f21 9 (by decide)) 0).trans (congrFun (f8 9 (by decide)) 0)) ((f21 10 (by decide)).trans (f8 10 (by decide))) ((f21 11 (by decide)).trans (f8 11 (by decide))) hI9
  have I28 : jI12 σ19 := jI12_fr ((congrFun (f21 12 (by decide)) 0).trans (congrFun (f8 12 (by decide)) 0)) ((f21 13 (by decide)).trans (f8 13 (by decide))) hI12
  have I29 : jI16 σ19 := jI16_fr ((congrFun (f21 16 (by decide)) 0).trans (congrFun (f8 16 (by decide)) 0)) ((congrFun (f21 16 (by decide)) 1).trans (congrFun (f8 16 (by decide)) 1)) ((congrFun (f21 16 (by decide)) 2).trans (congrFun (f8 16 (by decide)) 2)) ((f21 17 (by decide)).trans (f8 17 (by decide))) hI16
  have I30 : jI18 σ19 := jI18_fr ((congrFun (f21 18 (by decide)) 0).trans (congrFun (f8 18 (by decide)) 0)) ((f21 19 (by decide)).trans (f8 19 (by decide))) hI18
  have I31 : jI22 σ19 := jI22_fr ((congrFun (f21 22 (by decide)) 0).trans (congrFun (f8 22 (by decide)) 0)) ((f21 23 (by decide)).trans (f8 23 (by decide))) hI22
  have I32 : jI31 σ19 := jI31_fr (congrFun (f21 31 (by decide)) 8) (f21 33 (by decide)) (f21 36 (by decide)) I10
  have I33 : jI38 σ19 := jI38_fr ((congrFun (f21 38 (by decide)) 0).trans (congrFun (f8 38 (by decide)) 0)) ((congrFun (f21 38 (by decide)) 1).trans (congrFun (f8 38 (by decide)) 1)) ((f21 39 (by decide)).trans (f8 39 (by decide))) hI38
  have I34 : jI43 σ19 := jI43_fr ((congrFun (f21 43 (by decide)) 8).trans (congrFun (f8 43 (by decide)) 8)) hI43
  have I35 : jI47 σ19 := jI47_fr ((congrFun (f21 47 (by decide)) 0).trans (congrFun (f8 47 (by decide)) 0)) ((f21 49 (by decide)).trans (f8 49 (by decide))) hI47
  have I36 : jI50 σ19 := jI50_fr ((f21 52 (by decide)).trans (f8 52 (by decide))) hI50
  have I37 : jI101 σ19 := jI101_fr (f22 4 (by decide)) (f22 5 (by decide)) (f21 56 (by decide)) (f21 57 (by decide)) (f21 58 (by decide)) (f21 59 (by decide)) I11
  have I38 : jI102 σ19 := jI102_fr (f22 6 (by decide)) (f21 60 (by decide)) (f21 61 (by decide)) I12
  have I39 : jI103 σ19 := jI103_fr (f22 9 (by decide)) I13
  have I40 : jI104 σ19 := jI104_fr (f22 10 (by decide)) (f22 12 (by decide)) (f22 13 (by decide)) (f21 62 (by decide)) (f21 67 (by decide)) I14
  have I41 : jI105 σ19 := jI105_fr (f22 15 (by decide)) (f21 65 (by decide)) I15
  have I42 : jI106 σ19 := jI106_fr (f22 32 (by decide)) (f21 70 (by decide)) (f21 71 (by decide)) (f21 72 (by decide)) I16
  have I43 : jI107 σ19 := jI107_fr ((f22 12 (by decide)).trans (congrFun (f8 55 (by decide)) 12)) ((f22 47 (by decide)).trans (congrFun (f8 55 (by decide)) 47)) ((f21 80 (by decide)).trans (f8 80 (by decide))) hI107
  have I44 : jI109 σ19 := jI109_fr ((f22 50 (by decide)).trans (congrFun (f8 55 (by decide)) 50)) hI109
  have I45 : jI110 σ19 := jI110_fr ((f21 86 (by decide)).trans (f8 86 (by decide))) ((f21 87 (by decide)).trans (f8 87 (by decide))) hI110
  have I46 : jI111 σ19 := jI111_fr ((f21 79 (by decide)).trans (f8 79 (by decide))) hI111
  have p47 : jBook σ19 := jBook.fr ((f22 47 (by decide)).trans (congrFun (f8 55 (by decide)) 47)) ((f22 10 (by decide)).trans (congrFun (f8 55 (by decide)) 10)) ((f21 81 (by decide)).trans (f8 81 (by decide))) hs_jBook
  have z48 : (σ19 2 0).toInt = (σ 2 0).toInt := (congrArg Int32.toInt (show σ19 2 0 = (σ 2 0) from ((congrFun (f21 2 (by decide)) 0).trans (congrFun (f8 2 (by decide)) 0))))
  have z49 : (σ19 55 6).toInt = (σ 55 6).toInt := (congrArg Int32.toInt (show σ19 55 6 = (σ 55 6) from ((f22 6 (by decide)).trans (congrFun (f8 55 (by decide)) 6))))
  exact ih x25 σ19 τ _ _ ls (by have h9 := tx25; omega) ⟨I26, I27, I28, I29, I30, I31, I32, I33, I34, I35, I36, I37, I38, I39, I40, I41, I42, I43, I44, I45, I46, I23, p24, p47, (by omega)⟩ hP hS (lv_sub hl [0, 1, 2, 3] rfl)
set_option maxHeartbeats 4000000 in
set_option maxRecDepth 100000 in
theorem law_case_13 {p : Program} {e : Env} {s : State} {m : MethodId} {below : List Frame} {meth : Method} {c : Code} (l : Launch) {b L : Nat} {xs : Nat → Int32} {D : va_G} {cI cL : ClassId} {ad zz : Nat → Nat} (C0 : lw_At p s m meth c b L xs) (hJ : jD ad) (hA : ∀ q, jA ad q → s.heap.size ≤ q) (hK : jK D cI cL s) (hZ : jZ zz (fun q : Nat => s.heap.size ≤ q) s s.heap) {x0 : Int32} (hx0 : 0 ≤ x0.toInt) (hxL : x0.toInt + 6 ≤ (L : Int)) (hL : L ≤ 384) {σ : Nat → Nat → Int32} {τ : Nat → Nat → Int64} {H : Heap} {locs : List Loc} (hS : va_S (fun q : Nat => s.heap.size ≤ q) s.heap H locs) {ls : Array Slot} (hAll : jAll σ τ) (hP : jH D cI cL ad σ τ H) (hl : lv_has ls 4 [(3, .int x0), (2, .ref (ad 55)), (1, .ref (ad 0)), (0, .ref b)]) (ih : ∀ (x1 : Int32) (σ : Nat → Nat → Int32) (τ : Nat → Nat → Int64) (H : Heap) (locs : List Loc) (ls : Array Slot), x1.toInt = x0.toInt + 6 → jAll σ τ → jH D cI cL ad σ τ H → va_S (fun q : Nat => s.heap.size ≤ q) s.heap H locs → lv_has ls 4 [(3, .int x1), (2, .ref (ad 55)), (1, .ref (ad 0)), (0, .ref b)] → W p l e room_1 s m #[Value.ref b] below meth c H locs 90 348600 (lw_Z below #[Value.ref b] s) (F0 m 18 ls [])) : W p l e room_1 s m #[Value.ref b] below meth c H locs 90 348600 (lw_Z below #[Value.ref b] s) (F0 m 605 ls []) := by
  obtain ⟨hx, hb, hr, hml, hown, hts0, hX, hbl, hlocks, hgv⟩ := C0
  have hts : ∀ w ∈ wsL_law, w.before #[Value.ref b] s = true := fun w h => hts0 w (wsL_law_in w h)
  have hbA : ¬ (fun q : Nat => s.heap.size ≤ q) b := Nat.not_le.mpr hbl
  have hown : s.vm.findClass RL = some m.cls := hown
  obtain ⟨hI2, hI9, hI12, hI16, hI18, hI22, hI31, hI38, hI43, hI47, hI50, hI101, hI102, hI103, hI104, hI105, hI106, hI107, hI109, hI110, hI111, hI119, hs_jKept, hs_jBook, ht0⟩ := hAll
  have hL9 : (L : Int) ≤ 384 := by omega
  refine lv_aload_n hx hb dL_law_605 rfl (lv_at hl 2 rfl) ?_
  refine lv_aload_n hx hb dL_law_606 rfl (lv_at hl 3 rfl) ?_
  refine lv_iload_n hx hb dL_law_607 rfl (lv_at hl 0 rfl) ?_
  refine lv_iconst (v := 1) hx hb dL_law_608 (by decide) ?_
  have g1 := jrg (rfl : x0.toInt = x0.toInt)
  refine lv_iadd hx hb dL_law_609 ?_
  refine lv_topi (fun x2 ex2 => ?_)
  have tx2 : x2.toInt = x0.toInt + 1 := (jadd ex2 rfl jz_1 (by omega) (by omega)).trans (by omega)
  refine va_sld hx hb hX hbl hbA hS (jin tx2 (by omega) (by omega)) dL_law_610 ?_
  have g3 := jrg (rfl : (xs x2.toNatClampNeg).toInt = (xs x2.toNatClampNeg).toInt)
  refine jcallV (As := [.int (xs x2.toNatClampNeg)]) (rest := []) ⟨hx, hb, hml, hown, hts⟩ hK hP hA hS hZ (c_X11_best l D cI cL ad zz hJ σ τ (xs x2.toNatClampNeg) ((xs x2.toNatClampNeg).toInt) rfl hI2 hI16 hI22 hI31 hI47) cw_RL_69 (jc_0 cI cL ad σ τ) rfl ⟨Nat.le_of_ble_eq_true rfl, Nat.le_of_ble_eq_true rfl⟩ rfl rfl rfl hl.1 rfl (Nat.le_of_ble_eq_true rfl) dL_law_611 ⟨Nat.le_of_ble_eq_true rfl, Nat.le_of_ble_eq_true rfl⟩ (fun r5 σ4 τ4 H locs h4 hP hS => ?_)
  obtain ⟨rfl, f6, f7, I8, h4⟩ := h4
  refine lv_pop hx hb dL_law_614 rfl ?_
  refine lv_aload_n hx hb dL_law_615 rfl (lv_at hl 1 rfl) ?_
  refine lv_aload_n hx hb dL_law_616 rfl (lv_at hl 3 rfl) ?_
  refine lv_iload_n hx hb dL_law_617 rfl (lv_at hl 0 rfl) ?_
  refine lv_iconst (v := 1) hx hb dL_law_618 (by decide) ?_
  refine lv_iadd hx hb dL_law_619 ?_
  refine jtopr ex2.symm ?_
  refine va_sld hx hb hX hbl hbA hS (jin tx2 (by omega) (by omega)) dL_law_620 ?_
  have I9 : jI101 σ4 := jI101_fr (congrFun (f6 55 (by decide)) 4) (congrFun (f6 55 (by decide)) 5) (f6 56 (by decide)) (f6 57 (by decide)) (f6 58 (by decide)) (f6 59 (by decide)) hI101
  have I10 : jI102 σ4 := jI102_fr (congrFun (f6 55 (by decide)) 6) (f6 60 (by decide)) (f6 61 (by decide)) hI102
  have I11 : jI103 σ4 := jI103_fr (congrFun (f6 55 (by decide)) 9) hI103
  have I12 : jI104 σ4 := jI104_fr (congrFun (f6 55 (by decide)) 10) (congrFun (f6 55 (by decide)) 12) (congrFun (f6 55 (by decide)) 13) (f6 62 (by decide)) (f6 67 (by decide)) hI104
  have I13 : jI105 σ4 := jI105_fr (congrFun (f6 55 (by decide)) 15) (f6 65 (by decide)) hI105
  have I14 : jI106 σ4 := jI106_fr (congrFun (f6 55 (by decide)) 32) (f6 70 (by decide)) (f6 71 (by decide)) (f6 72 (by decide)) hI106
  have I15 : jI107 σ4 := jI107_fr (congrFun (f6 55 (by decide)) 12) (congrFun (f6 55 (by decide)) 47) (f6 80 (by decide)) hI107
  have I16 : jI119 σ4 := jI119_fr (f6 68 (by decide)) hI119
  have p17 : jKept σ4 := jKept.fr (f6 75 (by decide)) (f6 76 (by decide)) (f6 77 (by decide)) hs_jKept
  have p18 : jBook σ4 := jBook.fr (congrFun (f6 55 (by decide)) 47) (congrFun (f6 55 (by decide)) 10) (f6 81 (by decide)) hs_jBook
  refine jcallV (As := [.int (xs x2.toNatClampNeg)]) (rest := []) ⟨hx, hb, hml, hown, hts⟩ hK hP hA hS hZ (c_X12_best l D cI cL ad zz hJ σ4 τ (xs x2.toNatClampNeg) ((xs x2.toNatClampNeg).toInt) rfl I9 I10 I11 I12 I13 I14 I15 I16 p17 p18) cw_RL_72 (jc_55 cI cL ad σ4 τ) rfl ⟨Nat.le_of_ble_eq_true rfl, Nat.le_of_ble_eq_true rfl⟩ rfl rfl rfl hl.1 rfl (Nat.le_of_ble_eq_true rfl) dL_law_621 ⟨Nat.le_of_ble_eq_true rfl, Nat.le_of_ble_eq_true rfl⟩ (fun r20 σ19 τ19 H locs h19 hP hS => ?_)
  obtain ⟨rfl, f21, f22, I23, p24, p25, h19⟩ := h19
  refine lv_pop hx hb dL_law_624 rfl ?_
  refine lv_goto (tgt := 1357) hx hb dL_law_625 (by decide) ?_
  obtain ⟨x26, ex26⟩ : ∃ y : Int32, y = x0 + 6 := ⟨_, rfl⟩
  have tx26 : x26.toInt = x0.toInt + 6 := (jadd ex26 rfl jz_6 (by omega) (by omega)).trans (by omega)
  refine lv_iinc (v := x26) (lv' := [(3, .int x26), (2, .ref (ad 55)), (1, .ref (ad 0)), (0, .ref b)]) hx hb dL_law_1357 hl (k := 0) rfl (by rw [ex26]; rfl) (by decide) rfl (fun ls hl => ?_)
  refine lv_goto (tgt := 18) hx hb dL_law_1360 (by decide) ?_
  have I27 : jI2 σ19 := jI2_fr ((congrFun (f21 2 (by decide)) 0).trans (congrFun (f6 2 (by decide)) 0)) ((congrFun (f21 2 (by decide)) 1).trans (congrFun (f6 2 (by decide)) 1)) ((congrFun (f21 2 (by decide)) 2).trans (congrFun (f6 2 (by decide)) 2)) ((congrFun (f21 2 (by decide)) 3).trans (congrFun (f6 2 (by decide)) 3)) ((f21 6 (by decide)).trans (f6 6 (by decide))) hI2
  have I28 : jI9 σ19 := jI9_fr ((congrFun (f21 9 (by decide)) 0).trans (congrFun (f6 9 (by decide)) 0)) ((f21 10 (by decide)).trans (f6 10 (by decide))) ((f21 11 (by decide)).trans (f6 11 (by decide))) hI9
  have I29 : jI12 σ19 := jI12_fr ((congrFun (f21 12 (by decide)) 0).trans (congrFun (f6 12 (by decide)) 0)) ((f21 13 (by decide)).trans (f6 13 (by decide))) hI12
  have I30 : jI16 σ19 := jI16_fr ((congrFun (f21 16 (by decide)) 0).trans (congrFun (f6 16 (by decide)) 0)) ((congrFun (f21 16 (by decide)) 1).trans (congrFun (f6 16 (by decide)) 1)) ((congrFun (f21 16 (by decide)) 2).trans (congrFun (f6 16 (by decide)) 2)) ((f21 17 (by decide)).trans (f6 17 (by decide))) hI16
  have I31 : jI18 σ19 := jI18_fr ((congrFun (f21 18 (by decide)) 0).trans (congrFun (f6 18 (by decide)) 0)) ((f21 19 (by decide)).trans (f6 19 (by decide))) hI18
  have I32 : jI22 σ19 := jI22_fr ((congrFun (f21 22 (by decide)) 0).trans (congrFun (f6 22 (by decide)) 0)) ((f21 23 (by decide)).trans (f6 23 (by decide))) hI22
  have I33 : jI31 σ19 := jI31_fr (congrFun (f21 31 (by decide)) 8) (f21 33 (by decide)) (f21 36 (by decide)) I8
  have I34 : jI38 σ19 := jI38_fr ((congrFun (f21 38 (by decide)) 0).trans (congrFun (f6 38 (by decide)) 0)) ((congrFun (f21 38 (by decide)) 1).trans (congrFun (f6 38 (by decide)) 1)) ((f21 39 (by decide)).trans (f6 39 (by decide))) hI38
  have I35 : jI43 σ19 := jI43_fr ((congrFun (f21 43 (by decide)) 8).trans (congrFun (f6 43 (by decide)) 8)) hI43
  have I36 : jI47 σ19 := jI47_fr ((congrFun (f21 47 (by decide)) 0).trans (congrFun (f6 47 (by decide)) 0)) ((f21 49 (by decide)).trans (f6 49 (by decide))) hI47
  have I37 : jI50 σ19 := jI50_fr ((f21 52 (by decide)).trans (f6 52 (by decide))) hI50
  have I38 : jI101 σ19 := jI101_fr (f22 4 (by decide)) (f22 5 (by decide)) (f21 56 (by decide)) (f21 57 (by decide)) (f21 58 (by decide)) (f21 59 (by decide)) I9
  have I39 : jI102 σ19 := jI102_fr (f22 6 (by decide)) (f21 60 (by decide)) (f21 61 (by decide)) I10
  have I40 : jI103 σ19 := jI103_fr (f22 9 (by decide)) I11
  have I41 : jI104 σ19 := jI104_fr (f22 10 (by decide)) (f22 12 (by decide)) (f22 13 (by decide)) (f21 62 (by decide)) (f21 67 (by decide)) I12
  have I42 : jI105 σ19 := jI105_fr (f22 15 (by decide)) (f21 65 (by decide)) I13
  have I43 : jI106 σ19 := jI106_fr (f22 32 (by decide)) (f21 70 (by decide)) (f21 71 (by decide)) (f21 72 (by decide)) I14
  have I44 : jI107 σ19 := jI107_fr (f22 12 (by decide)) (f22 47 (by decide)) (f21 80 (by decide)) I15
  have I45 : jI109 σ19 := jI109_fr ((f22 50 (by decide)).trans (congrFun (f6 55 (by decide)) 50)) hI109
  have I46 : jI110 σ19 := jI110_fr ((f21 86 (by decide)).trans (f6 86 (by decide))) ((f21 87 (by decide)).trans (f6 87 (by decide))) hI110
  have I47 : jI111 σ19 := jI111_fr ((f21 79 (by decide)).trans (f6 79 (by decide))) hI111
  have z48 : (σ19 2 0).toInt = (σ 2 0).toInt := (congrArg Int32.toInt (show σ19 2 0 = (σ 2 0) from ((congrFun (f21 2 (by decide)) 0).trans (congrFun (f6 2 (by decide)) 0))))
  have z49 : (σ19 55 6).toInt = (σ 55 6).toInt := (congrArg Int32.toInt (show σ19 55 6 = (σ 55 6) from ((f22 6 (by decide)).trans (congrFun (f6 55 (by decide)) 6))))
  exact ih x26 σ19 τ _ _ ls (by have h9 := tx26; omega) ⟨I27, I28, I29, I30, I31, I32, I33, I34, I35, I36, I37, I38, I39, I40, I41, I42, I43, I44, I45, I46, I47, I23, p24, p25, (by omega)⟩ hP hS (lv_sub hl [0, 1, 2, 3] rfl)
set_option maxHeartbeats 4000000 in
set_option maxRecDepth 100000 in
theorem law_case_14 {p : Program} {e : Env} {s : State} {m : MethodId} {below : List Frame} {meth : Method} {c : Code} (l : Launch) {b L : Nat} {xs : Nat → Int32} {D : va_G} {cI cL : ClassId} {ad zz : Nat → Nat} (C0 : lw_At p s m meth c b L xs) (hJ : jD ad) (hA : ∀ q, jA ad q → s.heap.size ≤ q) (hK : jK D cI cL s) (hZ : jZ zz (fun q : Nat => s.heap.size ≤ q) s s.heap) {x0 : Int32} (hx0 : 0 ≤ x0.toInt) (hxL : x0.toInt + 6 ≤ (L : Int)) (hL : L ≤ 384) {σ : Nat → Nat → Int32} {τ : Nat → Nat → Int64} {H : Heap} {locs : List Loc} (hS : va_S (fun q : Nat => s.heap.size ≤ q) s.heap H locs) {ls : Array Slot} (hAll : jAll σ τ) (hP : jH D cI cL ad σ τ H) (hl : lv_has ls 4 [(3, .int x0), (2, .ref (ad 55)), (1, .ref (ad 0)), (0, .ref b)]) (ih : ∀ (x1 : Int32) (σ : Nat → Nat → Int32) (τ : Nat → Nat → Int64) (H : Heap) (locs : List Loc) (ls : Array Slot), x1.toInt = x0.toInt + 6 → jAll σ τ → jH D cI cL ad σ τ H → va_S (fun q : Nat => s.heap.size ≤ q) s.heap H locs → lv_has ls 4 [(3, .int x1), (2, .ref (ad 55)), (1, .ref (ad 0)), (0, .ref b)] → W p l e room_1 s m #[Value.ref b] below meth c H locs 90 348600 (lw_Z below #[Value.ref b] s) (F0 m 18 ls [])) : W p l e room_1 s m #[Value.ref b] below meth c H locs 90 348600 (lw_Z below #[Value.ref b] s) (F0 m 628 ls []) := by
  obtain ⟨hx, hb, hr, hml, hown, hts0, hX, hbl, hlocks, hgv⟩ := C0
  have hts : ∀ w ∈ wsL_law, w.before #[Value.ref b] s = true := fun w h => hts0 w (wsL_law_in w h)
  have hbA : ¬ (fun q : Nat => s.heap.size ≤ q) b := Nat.not_le.mpr hbl
  have hown : s.vm.findClass RL = some m.cls := hown
  obtain ⟨hI2, hI9, hI12, hI16, hI18, hI22, hI31, hI38, hI43, hI47, hI50, hI101, hI102, hI103, hI104, hI105, hI106, hI107, hI109, hI110, hI111, hI119, hs_jKept, hs_jBook, ht0⟩ := hAll
  have hL9 : (L : Int) ≤ 384 := by omega
  refine lv_aload_n hx hb dL_law_628 rfl (lv_at hl 2 rfl) ?_
  refine lv_aload_n hx hb dL_law_629 rfl (lv_at hl 3 rfl) ?_
  refine lv_iload_n hx hb dL_law_630 rfl (lv_at hl 0 rfl) ?_
  refine lv_iconst (v := 1) hx hb dL_law_631 (by decide) ?_
  have g1 := jrg (rfl : x0.toInt = x0.toInt)
  refine lv_iadd hx hb dL_law_632 ?_
  refine lv_topi (fun x2 ex2 => ?_)
  have tx2 : x2.toInt = x0.toInt + 1 := (jadd ex2 rfl jz_1 (by omega) (by omega)).trans (by omega)
  refine va_sld hx hb hX hbl hbA hS (jin tx2 (by omega) (by omega)) dL_law_633 ?_
  have g3 := jrg (rfl : (xs x2.toNatClampNeg).toInt = (xs x2.toNatClampNeg).toInt)
  refine lv_aload_n hx hb dL_law_634 rfl (lv_at hl 3 rfl) ?_
  refine lv_iload_n hx hb dL_law_635 rfl (lv_at hl 0 rfl) ?_
  refine lv_iconst (v := 2) hx hb dL_law_636 (by decide) ?_
  refine lv_iadd hx hb dL_law_637 ?_
  refine lv_topi (fun x4 ex4 => ?_)
  have tx4 : x4.toInt = x0.toInt + 2 := (jadd ex4 rfl jz_2 (by omega) (by omega)).trans (by omega)
  refine va_sld hx hb hX hbl hbA hS (jin tx4 (by omega) (by omega)) dL_law_638 ?_
  have g5 := jrg (rfl : (xs x4.toNatClampNeg).toInt = (xs x4.toNatClampNeg).toInt)
  refine jcallV (As := [.int (xs x2.toNatClampNeg), .int (xs x4.toNatClampNeg)]) (rest := []) ⟨hx, hb, hml, hown, hts⟩ hK hP hA hS hZ (c_X11_worth l D cI cL ad zz hJ σ τ (xs x2.toNatClampNeg) ((xs x2.toNatClampNeg).toInt) rfl (xs x4.toNatClampNeg) ((xs x4.toNatClampNeg).toInt) rfl hI2 hI16 hI22 hI31) cw_RL_73 (jc_0 cI cL ad σ τ) rfl ⟨Nat.le_of_ble_eq_true rfl, Nat.le_of_ble_eq_true rfl⟩ rfl rfl rfl hl.1 rfl (Nat.le_of_ble_eq_true rfl) dL_law_639 ⟨Nat.le_of_ble_eq_true rfl, Nat.le_of_ble_eq_true rfl⟩ (fun r7 σ6 τ6 H locs h6 hP hS => ?_)
  obtain ⟨rfl, f8, f9, I10, h6⟩ := h6
  refine lv_pop hx hb dL_law_642 rfl ?_
  refine lv_aload_n hx hb dL_law_643 rfl (lv_at hl 1 rfl) ?_
  refine lv_aload_n hx hb dL_law_644 rfl (lv_at hl 3 rfl) ?_
  refine lv_iload_n hx hb dL_law_645 rfl (lv_at hl 0 rfl) ?_
  refine lv_iconst (v := 1) hx hb dL_law_646 (by decide) ?_
  refine lv_iadd hx hb dL_law_647 ?_
  refine jtopr ex2.symm ?_
  refine va_sld hx hb hX hbl hbA hS (jin tx2 (by omega) (by omega)) dL_law_648 ?_
  refine lv_aload_n hx hb dL_law_649 rfl (lv_at hl 3 rfl) ?_
  refine lv_iload_n hx hb dL_law_650 rfl (lv_at hl 0 rfl) ?_
  refine lv_iconst (v := 2) hx hb dL_law_651 (by decide) ?_
  refine lv_iadd hx hb dL_law_652 ?_
  refine jtopr ex4.symm ?_
  refine va_sld hx hb hX hbl hbA hS (jin tx4 (by omega) (by omega)) dL_law_653 ?_
  have I11 : jI101 σ6 := jI101_fr (congrFun (f8 55 (by decide)) 4) (congrFun (f8 55 (by decide)) 5) (f8 56 (by decide)) (f8 57 (by decide)) (f8 58 (by decide)) (f8 59 (by decide)) hI101
  have I12 : jI102 σ6 := jI102_fr (congrFun (f8 55 (by decide)) 6) (f8 60 (by decide)) (f8 61 (by decide)) hI102
  have I13 : jI103 σ6 := jI103_fr (congrFun (f8 55 (by decide)) 9) hI103
  have I14 : jI104 σ6 := jI104_fr (congrFun (f8 55 (by decide)) 10) (congrFun (f8 55 (by decide)) 12) (congrFun (f8 55 (by decide)) 13) (f8 62 (by decide)) (f8 67 (by decide)) hI104
  have I15 : jI105 σ6 := jI105_fr (congrFun (f8 55 (by decide)) 15) (f8 65 (by decide)) hI105
  have I16 : jI106 σ6 := jI106_fr (congrFun (f8 55 (by decide)) 32) (f8 70 (by decide)) (f8 71 (by decide)) (f8 72 (by decide)) hI106
  have I17 : jI119 σ6 := jI119_fr (f8 68 (by decide)) hI119
  have p18 : jKept σ6 := jKept.fr (f8 75 (by decide)) (f8 76 (by decide)) (f8 77 (by decide)) hs_jKept
  refine jcallV (As := [.int (xs x2.toNatClampNeg), .int (xs x4.toNatClampNeg)]) (rest := []) ⟨hx, hb, hml, hown, hts⟩ hK hP hA hS hZ (c_X12_worth l D cI cL ad zz hJ σ6 τ (xs x2.toNatClampNeg) ((xs x2.toNatClampNeg).toInt) rfl (xs x4.toNatClampNeg) ((xs x4.toNatClampNeg).toInt) rfl I11 I12 I13 I14 I15 I16 I17 p18) cw_RL_76 (jc_55 cI cL ad σ6 τ) rfl ⟨Nat.le_of_ble_eq_true rfl, Nat.le_of_ble_eq_true rfl⟩ rfl rfl rfl hl.1 rfl (Nat.le_of_ble_eq_true rfl) dL_law_654 ⟨Nat.le_of_ble_eq_true rfl, Nat.le_of_ble_eq_true rfl⟩ (fun r20 σ19 τ19 H locs h19 hP hS => ?_)
  obtain ⟨rfl, f21, f22, I23, p24, h19⟩ := h19
  refine lv_pop hx hb dL_law_657 rfl ?_
  refine lv_goto (tgt := 1357) hx hb dL_law_658 (by decide) ?_
  obtain ⟨x25, ex25⟩ : ∃ y : Int32, y = x0 + 6 := ⟨_, rfl⟩
  have tx25 : x25.toInt = x0.toInt + 6 := (jadd ex25 rfl jz_6 (by omega) (by omega)).trans (by omega)
  refine lv_iinc (v := x25) (lv' := [(3, .int x25), (2, .ref (ad 55)), (1, .ref (ad 0)), (0, .ref b)]) hx hb dL_law_1357 hl (k := 0) rfl (by rw [ex25]; rfl) (by decide) rfl (fun ls hl => ?_)
  refine lv_goto (tgt := 18) hx hb dL_law_1360 (by decide) ?_
  have I26 : jI2 σ19 := jI2_fr ((congrFun (f21 2 (by decide)) 0).trans (congrFun (f8 2 (by decide)) 0)) ((congrFun (f21 2 (by decide)) 1).trans (congrFun (f8 2 (by decide)) 1)) ((congrFun (f21 2 (by decide)) 2).trans (congrFun (f8 2 (by decide)) 2)) ((congrFun (f21 2 (by decide)) 3).trans (congrFun (f8 2 (by decide)) 3)) ((f21 6 (by decide)).trans (f8 6 (by decide))) hI2
  have I27 : jI9 σ19 := jI9_fr ((congrFun (f21 9 (by decide)) 0).trans (congrFun (f8 9 (by decide)) 0)) ((f21 10 (by decide)).trans (f8 10 (by decide))) ((f21 11 (by decide)).trans (f8 11 (by decide))) hI9
  have I28 : jI12 σ19 := jI12_fr ((congrFun (f21 12 (by decide)) 0).trans (congrFun (f8 12 (by decide)) 0)) ((f21 13 (by decide)).trans (f8 13 (by decide))) hI12
  have I29 : jI16 σ19 := jI16_fr ((congrFun (f21 16 (by decide)) 0).trans (congrFun (f8 16 (by decide)) 0)) ((congrFun (f21 16 (by decide)) 1).trans (congrFun (f8 16 (by decide)) 1)) ((congrFun (f21 16 (by decide)) 2).trans (congrFun (f8 16 (by decide)) 2)) ((f21 17 (by decide)).trans (f8 17 (by decide))) hI16
  have I30 : jI18 σ19 := jI18_fr ((congrFun (f21 18 (by decide)) 0).trans (congrFun (f8 18 (by decide)) 0)) ((f21 19 (by decide)).trans (f8 19 (by decide))) hI18
  have I31 : jI22 σ19 := jI22_fr ((congrFun (f21 22 (by decide)) 0).trans (congrFun (f8 22 (by decide)) 0)) ((f21 23 (by decide)).trans (f8 23 (by decide))) hI22
  have I32 : jI31 σ19 := jI31_fr (congrFun (f21 31 (by decide)) 8) (f21 33 (by decide)) (f21 36 (by decide)) I10
  have I33 : jI38 σ19 := jI38_fr ((congrFun (f21 38 (by decide)) 0).trans (congrFun (f8 38 (by decide)) 0)) ((congrFun (f21 38 (by decide)) 1).trans (congrFun (f8 38 (by decide)) 1)) ((f21 39 (by decide)).trans (f8 39 (by decide))) hI38
  have I34 : jI43 σ19 := jI43_fr ((congrFun (f21 43 (by decide)) 8).trans (congrFun (f8 43 (by decide)) 8)) hI43
  have I35 : jI47 σ19 := jI47_fr ((congrFun (f21 47 (by decide)) 0).trans (congrFun (f8 47 (by decide)) 0)) ((f21 49 (by decide)).trans (f8 49 (by decide))) hI47
  have I36 : jI50 σ19 := jI50_fr ((f21 52 (by decide)).trans (f8 52 (by decide))) hI50
  have I37 : jI101 σ19 := jI101_fr (f22 4 (by decide)) (f22 5 (by decide)) (f21 56 (by decide)) (f21 57 (by decide)) (f21 58 (by decide)) (f21 59 (by decide)) I11
  have I38 : jI102 σ19 := jI102_fr (f22 6 (by decide)) (f21 60 (by decide)) (f21 61 (by decide)) I12
  have I39 : jI103 σ19 := jI103_fr (f22 9 (by decide)) I13
  have I40 : jI104 σ19 := jI104_fr (f22 10 (by decide)) (f22 12 (by decide)) (f22 13 (by decide)) (f21 62 (by decide)) (f21 67 (by decide)) I14
  have I41 : jI105 σ19 := jI105_fr (f22 15 (by decide)) (f21 65 (by decide)) I15
  have I42 : jI106 σ19 := jI106_fr (f22 32 (by decide)) (f21 70 (by decide)) (f21 71 (by decide)) (f21 72 (by decide)) I16
  have I43 : jI107 σ19 := jI107_fr ((f22 12 (by decide)).trans (congrFun (f8 55 (by decide)) 12)) ((f22 47 (by decide)).trans (congrFun (f8 55 (by decide)) 47)) ((f21 80 (by decide)).trans (f8 80 (by decide))) hI107
  have I44 : jI109 σ19 := jI109_fr ((f22 50 (by decide)).trans (congrFun (f8 55 (by decide)) 50)) hI109
  have I45 : jI110 σ19 := jI110_fr ((f21 86 (by decide)).trans (f8 86 (by decide))) ((f21 87 (by decide)).trans (f8 87 (by decide))) hI110
  have I46 : jI111 σ19 := jI111_fr ((f21 79 (by decide)).trans (f8 79 (by decide))) hI111
  have p47 : jBook σ19 := jBook.fr ((f22 47 (by decide)).trans (congrFun (f8 55 (by decide)) 47)) ((f22 10 (by decide)).trans (congrFun (f8 55 (by decide)) 10)) ((f21 81 (by decide)).trans (f8 81 (by decide))) hs_jBook
  have z48 : (σ19 2 0).toInt = (σ 2 0).toInt := (congrArg Int32.toInt (show σ19 2 0 = (σ 2 0) from ((congrFun (f21 2 (by decide)) 0).trans (congrFun (f8 2 (by decide)) 0))))
  have z49 : (σ19 55 6).toInt = (σ 55 6).toInt := (congrArg Int32.toInt (show σ19 55 6 = (σ 55 6) from ((f22 6 (by decide)).trans (congrFun (f8 55 (by decide)) 6))))
  exact ih x25 σ19 τ _ _ ls (by have h9 := tx25; omega) ⟨I26, I27, I28, I29, I30, I31, I32, I33, I34, I35, I36, I37, I38, I39, I40, I41, I42, I43, I44, I45, I46, I23, p24, p47, (by omega)⟩ hP hS (lv_sub hl [0, 1, 2, 3] rfl)
set_option maxHeartbeats 4000000 in
set_option maxRecDepth 100000 in
theorem law_case_15 {p : Program} {e : Env} {s : State} {m : MethodId} {below : List Frame} {meth : Method} {c : Code} (l : Launch) {b L : Nat} {xs : Nat → Int32} {D : va_G} {cI cL : ClassId} {ad zz : Nat → Nat} (C0 : lw_At p s m meth c b L xs) (hJ : jD ad) (hA : ∀ q, jA ad q → s.heap.size ≤ q) (hK : jK D cI cL s) (hZ : jZ zz (fun q : Nat => s.heap.size ≤ q) s s.heap) {x0 : Int32} (hx0 : 0 ≤ x0.toInt) (hxL : x0.toInt + 6 ≤ (L : Int)) (hL : L ≤ 384) {σ : Nat → Nat → Int32} {τ : Nat → Nat → Int64} {H : Heap} {locs : List Loc} (hS : va_S (fun q : Nat => s.heap.size ≤ q) s.heap H locs) {ls : Array Slot} (hAll : jAll σ τ) (hP : jH D cI cL ad σ τ H) (hl : lv_has ls 4 [(3, .int x0), (2, .ref (ad 55)), (1, .ref (ad 0)), (0, .ref b)]) (ih : ∀ (x1 : Int32) (σ : Nat → Nat → Int32) (τ : Nat → Nat → Int64) (H : Heap) (locs : List Loc) (ls : Array Slot), x1.toInt = x0.toInt + 6 → jAll σ τ → jH D cI cL ad σ τ H → va_S (fun q : Nat => s.heap.size ≤ q) s.heap H locs → lv_has ls 4 [(3, .int x1), (2, .ref (ad 55)), (1, .ref (ad 0)), (0, .ref b)] → W p l e room_1 s m #[Value.ref b] below meth c H locs 90 348600 (lw_Z below #[Value.ref b] s) (F0 m 18 ls [])) : W p l e room_1 s m #[Value.ref b] below meth c H locs 90 348600 (lw_Z below #[Value.ref b] s) (F0 m 661 ls []) := by
  obtain ⟨hx, hb, hr, hml, hown, hts0, hX, hbl, hlocks, hgv⟩ := C0
  have hts : ∀ w ∈ wsL_law, w.before #[Value.ref b] s = true := fun w h => hts0 w (wsL_law_in w h)
  have hbA : ¬ (fun q : Nat => s.heap.size ≤ q) b := Nat.not_le.mpr hbl
  have hown : s.vm.findClass RL = some m.cls := hown
  obtain ⟨hI2, hI9, hI12, hI16, hI18, hI22, hI31, hI38, hI43, hI47, hI50, hI101, hI102, hI103, hI104, hI105, hI106, hI107, hI109, hI110, hI111, hI119, hs_jKept, hs_jBook, ht0⟩ := hAll
  have hL9 : (L : Int) ≤ 384 := by omega
  refine lv_aload_n hx hb dL_law_661 rfl (lv_at hl 2 rfl) ?_
  refine lv_aload_n hx hb dL_law_662 rfl (lv_at hl 3 rfl) ?_
  refine lv_iload_n hx hb dL_law_663 rfl (lv_at hl 0 rfl) ?_
  refine lv_iconst (v := 1) hx hb dL_law_664 (by decide) ?_
  have g1 := jrg (rfl : x0.toInt = x0.toInt)
  refine lv_iadd hx hb dL_law_665 ?_
  refine lv_topi (fun x2 ex2 => ?_)
  have tx2 : x2.toInt = x0.toInt + 1 := (jadd ex2 rfl jz_1 (by omega) (by omega)).trans (by omega)
  refine va_sld hx hb hX hbl hbA hS (jin tx2 (by omega) (by omega)) dL_law_666 ?_
  have g3 := jrg (rfl : (xs x2.toNatClampNeg).toInt = (xs x2.toNatClampNeg).toInt)
  refine lv_aload_n hx hb dL_law_667 rfl (lv_at hl 3 rfl) ?_
  refine lv_iload_n hx hb dL_law_668 rfl (lv_at hl 0 rfl) ?_
  refine lv_iconst (v := 2) hx hb dL_law_669 (by decide) ?_
  refine lv_iadd hx hb dL_law_670 ?_
  refine lv_topi (fun x4 ex4 => ?_)
  have tx4 : x4.toInt = x0.toInt + 2 := (jadd ex4 rfl jz_2 (by omega) (by omega)).trans (by omega)
  refine va_sld hx hb hX hbl hbA hS (jin tx4 (by omega) (by omega)) dL_law_671 ?_
  have g5 := jrg (rfl : (xs x4.toNatClampNeg).toInt = (xs x4.toNatClampNeg).toInt)
  refine jcallV (As := [.int (xs x2.toNatClampNeg), .int (xs x4.toNatClampNeg)]) (rest := []) ⟨hx, hb, hml, hown, hts⟩ hK hP hA hS hZ (c_X11_fielded l D cI cL ad zz hJ σ τ (xs x2.toNatClampNeg) ((xs x2.toNatClampNeg).toInt) rfl (xs x4.toNatClampNeg) ((xs x4.toNatClampNeg).toInt) rfl hI2 hI16 hI22 hI31) cw_RL_77 (jc_0 cI cL ad σ τ) rfl ⟨Nat.le_of_ble_eq_true rfl, Nat.le_of_ble_eq_true rfl⟩ rfl rfl rfl hl.1 rfl (Nat.le_of_ble_eq_true rfl) dL_law_672 ⟨Nat.le_of_ble_eq_true rfl, Nat.le_of_ble_eq_true rfl⟩ (fun r7 σ6 τ6 H locs h6 hP hS => ?_)
  obtain ⟨rfl, f8, f9, I10, h6⟩ := h6
  refine lv_pop hx hb dL_law_675 rfl ?_
  refine lv_aload_n hx hb dL_law_676 rfl (lv_at hl 1 rfl) ?_
  refine lv_aload_n hx hb dL_law_677 rfl (lv_at hl 3 rfl) ?_
  refine lv_iload_n hx hb dL_law_678 rfl (lv_at hl 0 rfl) ?_
  refine lv_iconst (v := 1) hx hb dL_law_679 (by decide) ?_
  refine lv_iadd hx hb dL_law_680 ?_
  refine jtopr ex2.symm ?_
  refine va_sld hx hb hX hbl hbA hS (jin tx2 (by omega) (by omega)) dL_law_681 ?_
  refine lv_aload_n hx hb dL_law_682 rfl (lv_at hl 3 rfl) ?_
  refine lv_iload_n hx hb dL_law_683 rfl (lv_at hl 0 rfl) ?_
  refine lv_iconst (v := 2) hx hb dL_law_684 (by decide) ?_
  refine lv_iadd hx hb dL_law_685 ?_
  refine jtopr ex4.symm ?_
  refine va_sld hx hb hX hbl hbA hS (jin tx4 (by omega) (by omega)) dL_law_686 ?_
  have I11 : jI101 σ6 := jI101_fr (congrFun (f8 55 (by decide)) 4) (congrFun (f8 55 (by decide)) 5) (f8 56 (by decide)) (f8 57 (by decide)) (f8 58 (by decide)) (f8 59 (by decide)) hI101
  have I12 : jI102 σ6 := jI102_fr (congrFun (f8 55 (by decide)) 6) (f8 60 (by decide)) (f8 61 (by decide)) hI102
  have I13 : jI103 σ6 := jI103_fr (congrFun (f8 55 (by decide)) 9) hI103
  have I14 : jI104 σ6 := jI104_fr (congrFun (f8 55 (by decide)) 10) (congrFun (f8 55 (by decide)) 12) (congrFun (f8 55 (by decide)) 13) (f8 62 (by decide)) (f8 67 (by decide)) hI104
  have I15 : jI105 σ6 := jI105_fr (congrFun (f8 55 (by decide)) 15) (f8 65 (by decide)) hI105
  have I16 : jI106 σ6 := jI106_fr (congrFun (f8 55 (by decide)) 32) (f8 70 (by decide)) (f8 71 (by decide)) (f8 72 (by decide)) hI106
  have I17 : jI119 σ6 := jI119_fr (f8 68 (by decide)) hI119
  have p18 : jKept σ6 := jKept.fr (f8 75 (by decide)) (f8 76 (by decide)) (f8 77 (by decide)) hs_jKept
  have z19 : (σ6 55 9).toInt = (σ 55 9).toInt := (congrArg Int32.toInt (show σ6 55 9 = (σ 55 9) from (congrFun (f8 55 (by decide)) 9)))
  refine jcallV (As := [.int (xs x2.toNatClampNeg), .int (xs x4.toNatClampNeg)]) (rest := []) ⟨hx, hb, hml, hown, hts⟩ hK hP hA hS hZ (c_X12_fielded l D cI cL ad zz hJ σ6 τ (xs x2.toNatClampNeg) ((xs x2.toNatClampNeg).toInt) rfl (xs x4.toNatClampNeg) ((xs x4.toNatClampNeg).toInt) rfl I11 I12 I13 I14 I15 I16 I17 p18) cw_RL_80 (jc_55 cI cL ad σ6 τ) rfl ⟨Nat.le_of_ble_eq_true rfl, Nat.le_of_ble_eq_true rfl⟩ rfl rfl rfl hl.1 rfl (Nat.le_of_ble_eq_true rfl) dL_law_687 ⟨Nat.le_of_ble_eq_true rfl, Nat.le_of_ble_eq_true rfl⟩ (fun r21 σ20 τ20 H locs h20 hP hS => ?_)
  obtain ⟨rfl, f22, f23, I24, I25, p26, h20⟩ := h20
  obtain ⟨k27, h20⟩ := h20
  refine lv_pop hx hb dL_law_690 rfl ?_
  refine lv_goto (tgt := 1357) hx hb dL_law_691 (by decide) ?_
  obtain ⟨x28, ex28⟩ : ∃ y : Int32, y = x0 + 6 := ⟨_, rfl⟩
  have tx28 : x28.toInt = x0.toInt + 6 := (jadd ex28 rfl jz_6 (by omega) (by omega)).trans (by omega)
  refine lv_iinc (v := x28) (lv' := [(3, .int x28), (2, .ref (ad 55)), (1, .ref (ad 0)), (0, .ref b)]) hx hb dL_law_1357 hl (k := 0) rfl (by rw [ex28]; rfl) (by decide) rfl (fun ls hl => ?_)
  refine lv_goto (tgt := 18) hx hb dL_law_1360 (by decide) ?_
  have I29 : jI2 σ20 := jI2_fr ((congrFun (f22 2 (by decide)) 0).trans (congrFun (f8 2 (by decide)) 0)) ((congrFun (f22 2 (by decide)) 1).trans (congrFun (f8 2 (by decide)) 1)) ((congrFun (f22 2 (by decide)) 2).trans (congrFun (f8 2 (by decide)) 2)) ((congrFun (f22 2 (by decide)) 3).trans (congrFun (f8 2 (by decide)) 3)) ((f22 6 (by decide)).trans (f8 6 (by decide))) hI2
  have I30 : jI9 σ20 := jI9_fr ((congrFun (f22 9 (by decide)) 0).trans (congrFun (f8 9 (by decide)) 0)) ((f22 10 (by decide)).trans (f8 10 (by decide))) ((f22 11 (by decide)).trans (f8 11 (by decide))) hI9
  have I31 : jI12 σ20 := jI12_fr ((congrFun (f22 12 (by decide)) 0).trans (congrFun (f8 12 (by decide)) 0)) ((f22 13 (by decide)).trans (f8 13 (by decide))) hI12
  have I32 : jI16 σ20 := jI16_fr ((congrFun (f22 16 (by decide)) 0).trans (congrFun (f8 16 (by decide)) 0)) ((congrFun (f22 16 (by decide)) 1).trans (congrFun (f8 16 (by decide)) 1)) ((congrFun (f22 16 (by decide)) 2).trans (congrFun (f8 16 (by decide)) 2)) ((f22 17 (by decide)).trans (f8 17 (by decide))) hI16
  have I33 : jI18 σ20 := jI18_fr ((congrFun (f22 18 (by decide)) 0).trans (congrFun (f8 18 (by decide)) 0)) ((f22 19 (by decide)).trans (f8 19 (by decide))) hI18
  have I34 : jI22 σ20 := jI22_fr ((congrFun (f22 22 (by decide)) 0).trans (congrFun (f8 22 (by decide)) 0)) ((f22 23 (by decide)).trans (f8 23 (by decide))) hI22
  have I35 : jI31 σ20 := jI31_fr (congrFun (f22 31 (by decide)) 8) (f22 33 (by decide)) (f22 36 (by decide)) I10
  have I36 : jI38 σ20 := jI38_fr ((congrFun (f22 38 (by decide)) 0).trans (congrFun (f8 38 (by decide)) 0)) ((congrFun (f22 38 (by decide)) 1).trans (congrFun (f8 38 (by decide)) 1)) ((f22 39 (by decide)).trans (f8 39 (by decide))) hI38
  have I37 : jI43 σ20 := jI43_fr ((congrFun (f22 43 (by decide)) 8).trans (congrFun (f8 43 (by decide)) 8)) hI43
  have I38 : jI47 σ20 := jI47_fr ((congrFun (f22 47 (by decide)) 0).trans (congrFun (f8 47 (by decide)) 0)) ((f22 49 (by decide)).trans (f8 49 (by decide))) hI47
  have I39 : jI50 σ20 := jI50_fr ((f22 52 (by decide)).trans (f8 52 (by decide))) hI50
  have I40 : jI101 σ20 := jI101_fr (f23 4 (by decide)) (f23 5 (by decide)) (f22 56 (by decide)) (f22 57 (by decide)) (f22 58 (by decide)) (f22 59 (by decide)) I11
  have I41 : jI102 σ20 := jI102_fr (f23 6 (by decide)) (f22 60 (by decide)) (f22 61 (by decide)) I12
  have I42 : jI104 σ20 := jI104_fr (f23 10 (by decide)) (f23 12 (by decide)) (f23 13 (by decide)) (f22 62 (by decide)) (f22 67 (by decide)) I14
  have I43 : jI105 σ20 := jI105_fr (f23 15 (by decide)) (f22 65 (by decide)) I15
  have I44 : jI106 σ20 := jI106_fr (f23 32 (by decide)) (f22 70 (by decide)) (f22 71 (by decide)) (f22 72 (by decide)) I16
  have I45 : jI107 σ20 := jI107_fr ((f23 12 (by decide)).trans (congrFun (f8 55 (by decide)) 12)) ((f23 47 (by decide)).trans (congrFun (f8 55 (by decide)) 47)) ((f22 80 (by decide)).trans (f8 80 (by decide))) hI107
  have I46 : jI109 σ20 := jI109_fr ((f23 50 (by decide)).trans (congrFun (f8 55 (by decide)) 50)) hI109
  have I47 : jI110 σ20 := jI110_fr ((f22 86 (by decide)).trans (f8 86 (by decide))) ((f22 87 (by decide)).trans (f8 87 (by decide))) hI110
  have I48 : jI111 σ20 := jI111_fr ((f22 79 (by decide)).trans (f8 79 (by decide))) hI111
  have p49 : jBook σ20 := jBook.fr ((f23 47 (by decide)).trans (congrFun (f8 55 (by decide)) 47)) ((f23 10 (by decide)).trans (congrFun (f8 55 (by decide)) 10)) ((f22 81 (by decide)).trans (f8 81 (by decide))) hs_jBook
  have z50 : (σ20 2 0).toInt = (σ 2 0).toInt := (congrArg Int32.toInt (show σ20 2 0 = (σ 2 0) from ((congrFun (f22 2 (by decide)) 0).trans (congrFun (f8 2 (by decide)) 0))))
  have z51 : (σ20 55 6).toInt = (σ 55 6).toInt := (congrArg Int32.toInt (show σ20 55 6 = (σ 55 6) from ((f23 6 (by decide)).trans (congrFun (f8 55 (by decide)) 6))))
  exact ih x28 σ20 τ _ _ ls (by have h9 := tx28; omega) ⟨I29, I30, I31, I32, I33, I34, I35, I36, I37, I38, I39, I40, I41, I24, I42, I43, I44, I45, I46, I47, I48, I25, p26, p49, (by omega)⟩ hP hS (lv_sub hl [0, 1, 2, 3] rfl)
set_option maxHeartbeats 4000000 in
set_option maxRecDepth 100000 in
theorem law_case_16 {p : Program} {e : Env} {s : State} {m : MethodId} {below : List Frame} {meth : Method} {c : Code} (l : Launch) {b L : Nat} {xs : Nat → Int32} {D : va_G} {cI cL : ClassId} {ad zz : Nat → Nat} (C0 : lw_At p s m meth c b L xs) (hJ : jD ad) (hA : ∀ q, jA ad q → s.heap.size ≤ q) (hK : jK D cI cL s) (hZ : jZ zz (fun q : Nat => s.heap.size ≤ q) s s.heap) {x0 : Int32} (hx0 : 0 ≤ x0.toInt) (hxL : x0.toInt + 6 ≤ (L : Int)) (hL : L ≤ 384) {σ : Nat → Nat → Int32} {τ : Nat → Nat → Int64} {H : Heap} {locs : List Loc} (hS : va_S (fun q : Nat => s.heap.size ≤ q) s.heap H locs) {ls : Array Slot} (hAll : jAll σ τ) (hP : jH D cI cL ad σ τ H) (hl : lv_has ls 4 [(3, .int x0), (2, .ref (ad 55)), (1, .ref (ad 0)), (0, .ref b)]) (ih : ∀ (x1 : Int32) (σ : Nat → Nat → Int32) (τ : Nat → Nat → Int64) (H : Heap) (locs : List Loc) (ls : Array Slot), x1.toInt = x0.toInt + 6 → jAll σ τ → jH D cI cL ad σ τ H → va_S (fun q : Nat => s.heap.size ≤ q) s.heap H locs → lv_has ls 4 [(3, .int x1), (2, .ref (ad 55)), (1, .ref (ad 0)), (0, .ref b)] → W p l e room_1 s m #[Value.ref b] below meth c H locs 90 348600 (lw_Z below #[Value.ref b] s) (F0 m 18 ls [])) : W p l e room_1 s m #[Value.ref b] below meth c H locs 90 348600 (lw_Z below #[Value.ref b] s) (F0 m 694 ls []) := by
  obtain ⟨hx, hb, hr, hml, hown, hts0, hX, hbl, hlocks, hgv⟩ := C0
  have hts : ∀ w ∈ wsL_law, w.before #[Value.ref b] s = true := fun w h => hts0 w (wsL_law_in w h)
  have hbA : ¬ (fun q : Nat => s.heap.size ≤ q) b := Nat.not_le.mpr hbl
  have hown : s.vm.findClass RL = some m.cls := hown
  obtain ⟨hI2, hI9, hI12, hI16, hI18, hI22, hI31, hI38, hI43, hI47, hI50, hI101, hI102, hI103, hI104, hI105, hI106, hI107, hI109, hI110, hI111, hI119, hs_jKept, hs_jBook, ht0⟩ := hAll
  have hL9 : (L : Int) ≤ 384 := by omega
  refine lv_aload_n hx hb dL_law_694 rfl (lv_at hl 2 rfl) ?_
  refine lv_aload_n hx hb dL_law_695 rfl (lv_at hl 3 rfl) ?_
  refine lv_iload_n hx hb dL_law_696 rfl (lv_at hl 0 rfl) ?_
  refine lv_iconst (v := 1) hx hb dL_law_697 (by decide) ?_
  have g1 := jrg (rfl : x0.toInt = x0.toInt)
  refine lv_iadd hx hb dL_law_698 ?_
  refine lv_topi (fun x2 ex2 => ?_)
  have tx2 : x2.toInt = x0.toInt + 1 := (jadd ex2 rfl jz_1 (by omega) (by omega)).trans (by omega)
  refine va_sld hx hb hX hbl hbA hS (jin tx2 (by omega) (by omega)) dL_law_699 ?_
  have g3 := jrg (rfl : (xs x2.toNatClampNeg).toInt = (xs x2.toNatClampNeg).toInt)
  refine jcallV (As := [.int (xs x2.toNatClampNeg)]) (rest := []) ⟨hx, hb, hml, hown, hts⟩ hK hP hA hS hZ (c_X11_kept l D cI cL ad zz hJ σ τ (xs x2.toNatClampNeg) ((xs x2.toNatClampNeg).toInt) rfl hI2 hI16 hI22 hI31) cw_RL_81 (jc_0 cI cL ad σ τ) rfl ⟨Nat.le_of_ble_eq_true rfl, Nat.le_of_ble_eq_true rfl⟩ rfl rfl rfl hl.1 rfl (Nat.le_of_ble_eq_true rfl) dL_law_700 ⟨Nat.le_of_ble_eq_true rfl, Nat.le_of_ble_eq_true rfl⟩ (fun r5 σ4 τ4 H locs h4 hP hS => ?_)
  obtain ⟨rfl, f6, f7, I8, h4⟩ := h4
  refine lv_pop hx hb dL_law_703 rfl ?_
  refine lv_aload_n hx hb dL_law_704 rfl (lv_at hl 1 rfl) ?_
  refine lv_aload_n hx hb dL_law_705 rfl (lv_at hl 3 rfl) ?_
  refine lv_iload_n hx hb dL_law_706 rfl (lv_at hl 0 rfl) ?_
  refine lv_iconst (v := 1) hx hb dL_law_707 (by decide) ?_
  refine lv_iadd hx hb dL_law_708 ?_
  refine jtopr ex2.symm ?_
  refine va_sld hx hb hX hbl hbA hS (jin tx2 (by omega) (by omega)) dL_law_709 ?_
  have I9 : jI101 σ4 := jI101_fr (congrFun (f6 55 (by decide)) 4) (congrFun (f6 55 (by decide)) 5) (f6 56 (by decide)) (f6 57 (by decide)) (f6 58 (by decide)) (f6 59 (by decide)) hI101
  have I10 : jI102 σ4 := jI102_fr (congrFun (f6 55 (by decide)) 6) (f6 60 (by decide)) (f6 61 (by decide)) hI102
  have I11 : jI103 σ4 := jI103_fr (congrFun (f6 55 (by decide)) 9) hI103
  have I12 : jI104 σ4 := jI104_fr (congrFun (f6 55 (by decide)) 10) (congrFun (f6 55 (by decide)) 12) (congrFun (f6 55 (by decide)) 13) (f6 62 (by decide)) (f6 67 (by decide)) hI104
  have I13 : jI105 σ4 := jI105_fr (congrFun (f6 55 (by decide)) 15) (f6 65 (by decide)) hI105
  have I14 : jI106 σ4 := jI106_fr (congrFun (f6 55 (by decide)) 32) (f6 70 (by decide)) (f6 71 (by decide)) (f6 72 (by decide)) hI106
  have I15 : jI119 σ4 := jI119_fr (f6 68 (by decide)) hI119
  have p16 : jKept σ4 := jKept.fr (f6 75 (by decide)) (f6 76 (by decide)) (f6 77 (by decide)) hs_jKept
  refine jcallV (As := [.int (xs x2.toNatClampNeg)]) (rest := []) ⟨hx, hb, hml, hown, hts⟩ hK hP hA hS hZ (c_X12_kept l D cI cL ad zz hJ σ4 τ (xs x2.toNatClampNeg) ((xs x2.toNatClampNeg).toInt) rfl I9 I10 I11 I12 I13 I14 I15 p16) cw_RL_84 (jc_55 cI cL ad σ4 τ) rfl ⟨Nat.le_of_ble_eq_true rfl, Nat.le_of_ble_eq_true rfl⟩ rfl rfl rfl hl.1 rfl (Nat.le_of_ble_eq_true rfl) dL_law_710 ⟨Nat.le_of_ble_eq_true rfl, Nat.le_of_ble_eq_true rfl⟩ (fun r18 σ17 τ17 H locs h17 hP hS => ?_)
  obtain ⟨rfl, f19, f20, I21, p22, h17⟩ := h17
  refine lv_pop hx hb dL_law_713 rfl ?_
  refine lv_goto (tgt := 1357) hx hb dL_law_714 (by decide) ?_
  obtain ⟨x23, ex23⟩ : ∃ y : Int32, y = x0 + 6 := ⟨_, rfl⟩
  have tx23 : x23.toInt = x0.toInt + 6 := (jadd ex23 rfl jz_6 (by omega) (by omega)).trans (by omega)
  refine lv_iinc (v := x23) (lv' := [(3, .int x23), (2, .ref (ad 55)), (1, .ref (ad 0)), (0, .ref b)]) hx hb dL_law_1357 hl (k := 0) rfl (by rw [ex23]; rfl) (by decide) rfl (fun ls hl => ?_)
  refine lv_goto (tgt := 18) hx hb dL_law_1360 (by decide) ?_
  have I24 : jI2 σ17 := jI2_fr ((congrFun (f19 2 (by decide)) 0).trans (congrFun (f6 2 (by decide)) 0)) ((congrFun (f19 2 (by decide)) 1).trans (congrFun (f6 2 (by decide)) 1)) ((congrFun (f19 2 (by decide)) 2).trans (congrFun (f6 2 (by decide)) 2)) ((congrFun (f19 2 (by decide)) 3).trans (congrFun (f6 2 (by decide)) 3)) ((f19 6 (by decide)).trans (f6 6 (by decide))) hI2
  have I25 : jI9 σ17 := jI9_fr ((congrFun (f19 9 (by decide)) 0).trans (congrFun (f6 9 (by decide)) 0)) ((f19 10 (by decide)).trans (f6 10 (by decide))) ((f19 11 (by decide)).trans (f6 11 (by decide))) hI9
  have I26 : jI12 σ17 := jI12_fr ((congrFun (f19 12 (by decide)) 0).trans (congrFun (f6 12 (by decide)) 0)) ((f19 13 (by decide)).trans (f6 13 (by decide))) hI12
  have I27 : jI16 σ17 := jI16_fr ((congrFun (f19 16 (by decide)) 0).trans (congrFun (f6 16 (by decide)) 0)) ((congrFun (f19 16 (by decide)) 1).trans (congrFun (f6 16 (by decide)) 1)) ((congrFun (f19 16 (by decide)) 2).trans (congrFun (f6 16 (by decide)) 2)) ((f19 17 (by decide)).trans (f6 17 (by decide))) hI16
  have I28 : jI18 σ17 := jI18_fr ((congrFun (f19 18 (by decide)) 0).trans (congrFun (f6 18 (by decide)) 0)) ((f19 19 (by decide)).trans (f6 19 (by decide))) hI18
  have I29 : jI22 σ17 := jI22_fr ((congrFun (f19 22 (by decide)) 0).trans (congrFun (f6 22 (by decide)) 0)) ((f19 23 (by decide)).trans (f6 23 (by decide))) hI22
  have I30 : jI31 σ17 := jI31_fr (congrFun (f19 31 (by decide)) 8) (f19 33 (by decide)) (f19 36 (by decide)) I8
  have I31 : jI38 σ17 := jI38_fr ((congrFun (f19 38 (by decide)) 0).trans (congrFun (f6 38 (by decide)) 0)) ((congrFun (f19 38 (by decide)) 1).trans (congrFun (f6 38 (by decide)) 1)) ((f19 39 (by decide)).trans (f6 39 (by decide))) hI38
  have I32 : jI43 σ17 := jI43_fr ((congrFun (f19 43 (by decide)) 8).trans (congrFun (f6 43 (by decide)) 8)) hI43
  have I33 : jI47 σ17 := jI47_fr ((congrFun (f19 47 (by decide)) 0).trans (congrFun (f6 47 (by decide)) 0)) ((f19 49 (by decide)).trans (f6 49 (by decide))) hI47
  have I34 : jI50 σ17 := jI50_fr ((f19 52 (by decide)).trans (f6 52 (by decide))) hI50
  have I35 : jI101 σ17 := jI101_fr (f20 4 (by decide)) (f20 5 (by decide)) (f19 56 (by decide)) (f19 57 (by decide)) (f19 58 (by decide)) (f19 59 (by decide)) I9
  have I36 : jI102 σ17 := jI102_fr (f20 6 (by decide)) (f19 60 (by decide)) (f19 61 (by decide)) I10
  have I37 : jI103 σ17 := jI103_fr (f20 9 (by decide)) I11
  have I38 : jI104 σ17 := jI104_fr (f20 10 (by decide)) (f20 12 (by decide)) (f20 13 (by decide)) (f19 62 (by decide)) (f19 67 (by decide)) I12
  have I39 : jI105 σ17 := jI105_fr (f20 15 (by decide)) (f19 65 (by decide)) I13
  have I40 : jI106 σ17 := jI106_fr (f20 32 (by decide)) (f19 70 (by decide)) (f19 71 (by decide)) (f19 72 (by decide)) I14
  have I41 : jI107 σ17 := jI107_fr ((f20 12 (by decide)).trans (congrFun (f6 55 (by decide)) 12)) ((f20 47 (by decide)).trans (congrFun (f6 55 (by decide)) 47)) ((f19 80 (by decide)).trans (f6 80 (by decide))) hI107
  have I42 : jI109 σ17 := jI109_fr ((f20 50 (by decide)).trans (congrFun (f6 55 (by decide)) 50)) hI109
  have I43 : jI110 σ17 := jI110_fr ((f19 86 (by decide)).trans (f6 86 (by decide))) ((f19 87 (by decide)).trans (f6 87 (by decide))) hI110
  have I44 : jI111 σ17 := jI111_fr ((f19 79 (by decide)).trans (f6 79 (by decide))) hI111
  have p45 : jBook σ17 := jBook.fr ((f20 47 (by decide)).trans (congrFun (f6 55 (by decide)) 47)) ((f20 10 (by decide)).trans (congrFun (f6 55 (by decide)) 10)) ((f19 81 (by decide)).trans (f6 81 (by decide))) hs_jBook
  have z46 : (σ17 2 0).toInt = (σ 2 0).toInt := (congrArg Int32.toInt (show σ17 2 0 = (σ 2 0) from ((congrFun (f19 2 (by decide)) 0).trans (congrFun (f6 2 (by decide)) 0))))
  have z47 : (σ17 55 6).toInt = (σ 55 6).toInt := (congrArg Int32.toInt (show σ17 55 6 = (σ 55 6) from ((f20 6 (by decide)).trans (congrFun (f6 55 (by decide)) 6))))
  exact ih x23 σ17 τ _ _ ls (by have h9 := tx23; omega) ⟨I24, I25, I26, I27, I28, I29, I30, I31, I32, I33, I34, I35, I36, I37, I38, I39, I40, I41, I42, I43, I44, I21, p22, p45, (by omega)⟩ hP hS (lv_sub hl [0, 1, 2, 3] rfl)
set_option maxHeartbeats 4000000 in
set_option maxRecDepth 100000 in
theorem law_case_17 {p : Program} {e : Env} {s : State} {m : MethodId} {below : List Frame} {meth : Method} {c : Code} (l : Launch) {b L : Nat} {xs : Nat → Int32} {D : va_G} {cI cL : ClassId} {ad zz : Nat → Nat} (C0 : lw_At p s m meth c b L xs) (hJ : jD ad) (hA : ∀ q, jA ad q → s.heap.size ≤ q) (hK : jK D cI cL s) (hZ : jZ zz (fun q : Nat => s.heap.size ≤ q) s s.heap) {x0 : Int32} (hx0 : 0 ≤ x0.toInt) (hxL : x0.toInt + 6 ≤ (L : Int)) (hL : L ≤ 384) {σ : Nat → Nat → Int32} {τ : Nat → Nat → Int64} {H : Heap} {locs : List Loc} (hS : va_S (fun q : Nat => s.heap.size ≤ q) s.heap H locs) {ls : Array Slot} (hAll : jAll σ τ) (hP : jH D cI cL ad σ τ H) (hl : lv_has ls 4 [(3, .int x0), (2, .ref (ad 55)), (1, .ref (ad 0)), (0, .ref b)]) (ih : ∀ (x1 : Int32) (σ : Nat → Nat → Int32) (τ : Nat → Nat → Int64) (H : Heap) (locs : List Loc) (ls : Array Slot), x1.toInt = x0.toInt + 6 → jAll σ τ → jH D cI cL ad σ τ H → va_S (fun q : Nat => s.heap.size ≤ q) s.heap H locs → lv_has ls 4 [(3, .int x1), (2, .ref (ad 55)), (1, .ref (ad 0)), (0, .ref b)] → W p l e room_1 s m #[Value.ref b] below meth c H locs 90 348600 (lw_Z below #[Value.ref b] s) (F0 m 18 ls [])) : W p l e room_1 s m #[Value.ref b] below meth c H locs 90 348600 (lw_Z below #[Value.ref b] s) (F0 m 717 ls []) := by
  obtain ⟨hx, hb, hr, hml, hown, hts0, hX, hbl, hlocks, hgv⟩ := C0
  have hts : ∀ w ∈ wsL_law, w.before #[Value.ref b] s = true := fun w h => hts0 w (wsL_law_in w h)
  have hbA : ¬ (fun q : Nat => s.heap.size ≤ q) b := Nat.not_le.mpr hbl
  have hown : s.vm.findClass RL = some m.cls := hown
  obtain ⟨hI2, hI9, hI12, hI16, hI18, hI22, hI31, hI38, hI43, hI47, hI50, hI101, hI102, hI103, hI104, hI105, hI106, hI107, hI109, hI110, hI111, hI119, hs_jKept, hs_jBook, ht0⟩ := hAll
  have hL9 : (L : Int) ≤ 384 := by omega
  refine lv_aload_n hx hb dL_law_717 rfl (lv_at hl 2 rfl) ?_
  refine lv_aload_n hx hb dL_law_718 rfl (lv_at hl 3 rfl) ?_
  refine lv_iload_n hx hb dL_law_719 rfl (lv_at hl 0 rfl) ?_
  refine lv_iconst (v := 1) hx hb dL_law_720 (by decide) ?_
  have g1 := jrg (rfl : x0.toInt = x0.toInt)
  refine lv_iadd hx hb dL_law_721 ?_
  refine lv_topi (fun x2 ex2 => ?_)
  have tx2 : x2.toInt = x0.toInt + 1 := (jadd ex2 rfl jz_1 (by omega) (by omega)).trans (by omega)
  refine va_sld hx hb hX hbl hbA hS (jin tx2 (by omega) (by omega)) dL_law_722 ?_
  have g3 := jrg (rfl : (xs x2.toNatClampNeg).toInt = (xs x2.toNatClampNeg).toInt)
  refine jcallV (As := [.int (xs x2.toNatClampNeg)]) (rest := []) ⟨hx, hb, hml, hown, hts⟩ hK hP hA hS hZ (c_X11_theirs l D cI cL ad zz hJ σ τ (xs x2.toNatClampNeg) ((xs x2.toNatClampNeg).toInt) rfl hI2 hI16 hI22 hI31) cw_RL_85 (jc_0 cI cL ad σ τ) rfl ⟨Nat.le_of_ble_eq_true rfl, Nat.le_of_ble_eq_true rfl⟩ rfl rfl rfl hl.1 rfl (Nat.le_of_ble_eq_true rfl) dL_law_723 ⟨Nat.le_of_ble_eq_true rfl, Nat.le_of_ble_eq_true rfl⟩ (fun r5 σ4 τ4 H locs h4 hP hS => ?_)
  obtain ⟨rfl, f6, f7, I8, h4⟩ := h4
  refine lv_pop hx hb dL_law_726 rfl ?_
  refine lv_aload_n hx hb dL_law_727 rfl (lv_at hl 1 rfl) ?_
  refine lv_aload_n hx hb dL_law_728 rfl (lv_at hl 3 rfl) ?_
  refine lv_iload_n hx hb dL_law_729 rfl (lv_at hl 0 rfl) ?_
  refine lv_iconst (v := 1) hx hb dL_law_730 (by decide) ?_
  refine lv_iadd hx hb dL_law_731 ?_
  refine jtopr ex2.symm ?_
  refine va_sld hx hb hX hbl hbA hS (jin tx2 (by omega) (by omega)) dL_law_732 ?_
  have I9 : jI101 σ4 := jI101_fr (congrFun (f6 55 (by decide)) 4) (congrFun (f6 55 (by decide)) 5) (f6 56 (by decide)) (f6 57 (by decide)) (f6 58 (by decide)) (f6 59 (by decide)) hI101
  have I10 : jI102 σ4 := jI102_fr (congrFun (f6 55 (by decide)) 6) (f6 60 (by decide)) (f6 61 (by decide)) hI102
  have I11 : jI103 σ4 := jI103_fr (congrFun (f6 55 (by decide)) 9) hI103
  have I12 : jI104 σ4 := jI104_fr (congrFun (f6 55 (by decide)) 10) (congrFun (f6 55 (by decide)) 12) (congrFun (f6 55 (by decide)) 13) (f6 62 (by decide)) (f6 67 (by decide)) hI104
  have I13 : jI105 σ4 := jI105_fr (congrFun (f6 55 (by decide)) 15) (f6 65 (by decide)) hI105
  have I14 : jI106 σ4 := jI106_fr (congrFun (f6 55 (by decide)) 32) (f6 70 (by decide)) (f6 71 (by decide)) (f6 72 (by decide)) hI106
  have I15 : jI119 σ4 := jI119_fr (f6 68 (by decide)) hI119
  have I16 : jI111 σ4 := jI111_fr (f6 79 (by decide)) hI111
  have p17 : jKept σ4 := jKept.fr (f6 75 (by decide)) (f6 76 (by decide)) (f6 77 (by decide)) hs_jKept
  refine jcallV (As := [.int (xs x2.toNatClampNeg)]) (rest := []) ⟨hx, hb, hml, hown, hts⟩ hK hP hA hS hZ (c_X12_theirs l D cI cL ad zz hJ σ4 τ (xs x2.toNatClampNeg) ((xs x2.toNatClampNeg).toInt) rfl I9 I10 I11 I12 I13 I14 I15 I16 p17) cw_RL_88 (jc_55 cI cL ad σ4 τ) rfl ⟨Nat.le_of_ble_eq_true rfl, Nat.le_of_ble_eq_true rfl⟩ rfl rfl rfl hl.1 rfl (Nat.le_of_ble_eq_true rfl) dL_law_733 ⟨Nat.le_of_ble_eq_true rfl, Nat.le_of_ble_eq_true rfl⟩ (fun r19 σ18 τ18 H locs h18 hP hS => ?_)
  obtain ⟨rfl, f20, f21, I22, I23, I24, p25, h18⟩ := h18
  refine lv_pop hx hb dL_law_736 rfl ?_
  refine lv_goto (tgt := 1357) hx hb dL_law_737 (by decide) ?_
  obtain ⟨x26, ex26⟩ : ∃ y : Int32, y = x0 + 6 := ⟨_, rfl⟩
  have tx26 : x26.toInt = x0.toInt + 6 := (jadd ex26 rfl jz_6 (by omega) (by omega)).trans (by omega)
  refine lv_iinc (v := x26) (lv' := [(3, .int x26), (2, .ref (ad 55)), (1, .ref (ad 0)), (0, .ref b)]) hx hb dL_law_1357 hl (k := 0) rfl (by rw [ex26]; rfl) (by decide) rfl (fun ls hl => ?_)
  refine lv_goto (tgt := 18) hx hb dL_law_1360 (by decide) ?_
  have I27 : jI2 σ18 := jI2_fr ((congrFun (f20 2 (by decide)) 0).trans (congrFun (f6 2 (by decide)) 0)) ((congrFun (f20 2 (by decide)) 1).trans (congrFun (f6 2 (by decide)) 1)) ((congrFun (f20 2 (by decide)) 2).trans (congrFun (f6 2 (by decide)) 2)) ((congrFun (f20 2 (by decide)) 3).trans (congrFun (f6 2 (by decide)) 3)) ((f20 6 (by decide)).trans (f6 6 (by decide))) hI2
  have I28 : jI9 σ18 := jI9_fr ((congrFun (f20 9 (by decide)) 0).trans (congrFun (f6 9 (by decide)) 0)) ((f20 10 (by decide)).trans (f6 10 (by decide))) ((f20 11 (by decide)).trans (f6 11 (by decide))) hI9
  have I29 : jI12 σ18 := jI12_fr ((congrFun (f20 12 (by decide)) 0).trans (congrFun (f6 12 (by decide)) 0)) ((f20 13 (by decide)).trans (f6 13 (by decide))) hI12
  have I30 : jI16 σ18 := jI16_fr ((congrFun (f20 16 (by decide)) 0).trans (congrFun (f6 16 (by decide)) 0)) ((congrFun (f20 16 (by decide)) 1).trans (congrFun (f6 16 (by decide)) 1)) ((congrFun (f20 16 (by decide)) 2).trans (congrFun (f6 16 (by decide)) 2)) ((f20 17 (by decide)).trans (f6 17 (by decide))) hI16
  have I31 : jI18 σ18 := jI18_fr ((congrFun (f20 18 (by decide)) 0).trans (congrFun (f6 18 (by decide)) 0)) ((f20 19 (by decide)).trans (f6 19 (by decide))) hI18
  have I32 : jI22 σ18 := jI22_fr ((congrFun (f20 22 (by decide)) 0).trans (congrFun (f6 22 (by decide)) 0)) ((f20 23 (by decide)).trans (f6 23 (by decide))) hI22
  have I33 : jI31 σ18 := jI31_fr (congrFun (f20 31 (by decide)) 8) (f20 33 (by decide)) (f20 36 (by decide)) I8
  have I34 : jI38 σ18 := jI38_fr ((congrFun (f20 38 (by decide)) 0).trans (congrFun (f6 38 (by decide)) 0)) ((congrFun (f20 38 (by decide)) 1).trans (congrFun (f6 38 (by decide)) 1)) ((f20 39 (by decide)).trans (f6 39 (by decide))) hI38
  have I35 : jI43 σ18 := jI43_fr ((congrFun (f20 43 (by decide)) 8).trans (congrFun (f6 43 (by decide)) 8)) hI43
  have I36 : jI47 σ18 := jI47_fr ((congrFun (f20 47 (by decide)) 0).trans (congrFun (f6 47 (by decide)) 0)) ((f20 49 (by decide)).trans (f6 49 (by decide))) hI47
  have I37 : jI50 σ18 := jI50_fr ((f20 52 (by decide)).trans (f6 52 (by decide))) hI50
  have I38 : jI101 σ18 := jI101_fr (f21 4 (by decide)) (f21 5 (by decide)) (f20 56 (by decide)) (f20 57 (by decide)) (f20 58 (by decide)) (f20 59 (by decide)) I9
  have I39 : jI102 σ18 := jI102_fr (f21 6 (by decide)) (f20 60 (by decide)) (f20 61 (by decide)) I10
  have I40 : jI103 σ18 := jI103_fr (f21 9 (by decide)) I11
  have I41 : jI105 σ18 := jI105_fr (f21 15 (by decide)) (f20 65 (by decide)) I13
  have I42 : jI106 σ18 := jI106_fr (f21 32 (by decide)) (f20 70 (by decide)) (f20 71 (by decide)) (f20 72 (by decide)) I14
  have I43 : jI107 σ18 := jI107_fr ((f21 12 (by decide)).trans (congrFun (f6 55 (by decide)) 12)) ((f21 47 (by decide)).trans (congrFun (f6 55 (by decide)) 47)) ((f20 80 (by decide)).trans (f6 80 (by decide))) hI107
  have I44 : jI109 σ18 := jI109_fr ((f21 50 (by decide)).trans (congrFun (f6 55 (by decide)) 50)) hI109
  have I45 : jI110 σ18 := jI110_fr ((f20 86 (by decide)).trans (f6 86 (by decide))) ((f20 87 (by decide)).trans (f6 87 (by decide))) hI110
  have p46 : jBook σ18 := jBook.fr ((f21 47 (by decide)).trans (congrFun (f6 55 (by decide)) 47)) ((f21 10 (by decide)).trans (congrFun (f6 55 (by decide)) 10)) ((f20 81 (by decide)).trans (f6 81 (by decide))) hs_jBook
  have z47 : (σ18 2 0).toInt = (σ 2 0).toInt := (congrArg Int32.toInt (show σ18 2 0 = (σ 2 0) from ((congrFun (f20 2 (by decide)) 0).trans (congrFun (f6 2 (by decide)) 0))))
  have z48 : (σ18 55 6).toInt = (σ 55 6).toInt := (congrArg Int32.toInt (show σ18 55 6 = (σ 55 6) from ((f21 6 (by decide)).trans (congrFun (f6 55 (by decide)) 6))))
  exact ih x26 σ18 τ _ _ ls (by have h9 := tx26; omega) ⟨I27, I28, I29, I30, I31, I32, I33, I34, I35, I36, I37, I38, I39, I40, I22, I41, I42, I43, I44, I45, I23, I24, p25, p46, (by omega)⟩ hP hS (lv_sub hl [0, 1, 2, 3] rfl)
set_option maxHeartbeats 4000000 in
set_option maxRecDepth 100000 in
theorem law_case_18 {p : Program} {e : Env} {s : State} {m : MethodId} {below : List Frame} {meth : Method} {c : Code} (l : Launch) {b L : Nat} {xs : Nat → Int32} {D : va_G} {cI cL : ClassId} {ad zz : Nat → Nat} (C0 : lw_At p s m meth c b L xs) (hJ : jD ad) (hA : ∀ q, jA ad q → s.heap.size ≤ q) (hK : jK D cI cL s) (hZ : jZ zz (fun q : Nat => s.heap.size ≤ q) s s.heap) {x0 : Int32} (hx0 : 0 ≤ x0.toInt) (hxL : x0.toInt + 6 ≤ (L : Int)) (hL : L ≤ 384) {σ : Nat → Nat → Int32} {τ : Nat → Nat → Int64} {H : Heap} {locs : List Loc} (hS : va_S (fun q : Nat => s.heap.size ≤ q) s.heap H locs) {ls : Array Slot} (hAll : jAll σ τ) (hP : jH D cI cL ad σ τ H) (hl : lv_has ls 4 [(3, .int x0), (2, .ref (ad 55)), (1, .ref (ad 0)), (0, .ref b)]) (ih : ∀ (x1 : Int32) (σ : Nat → Nat → Int32) (τ : Nat → Nat → Int64) (H : Heap) (locs : List Loc) (ls : Array Slot), x1.toInt = x0.toInt + 6 → jAll σ τ → jH D cI cL ad σ τ H → va_S (fun q : Nat => s.heap.size ≤ q) s.heap H locs → lv_has ls 4 [(3, .int x1), (2, .ref (ad 55)), (1, .ref (ad 0)), (0, .ref b)] → W p l e room_1 s m #[Value.ref b] below meth c H locs 90 348600 (lw_Z below #[Value.ref b] s) (F0 m 18 ls [])) : W p l e room_1 s m #[Value.ref b] below meth c H locs 90 348600 (lw_Z below #[Value.ref b] s) (F0 m 740 ls []) := by
  obtain ⟨hx, hb, hr, hml, hown, hts0, hX, hbl, hlocks, hgv⟩ := C0
  have hts : ∀ w ∈ wsL_law, w.before #[Value.ref b] s = true := fun w h => hts0 w (wsL_law_in w h)
  have hbA : ¬ (fun q : Nat => s.heap.size ≤ q) b := Nat.not_le.mpr hbl
  have hown : s.vm.findClass RL = some m.cls := hown
  obtain ⟨hI2, hI9, hI12, hI16, hI18, hI22, hI31, hI38, hI43, hI47, hI50, hI101, hI102, hI103, hI104, hI105, hI106, hI107, hI109, hI110, hI111, hI119, hs_jKept, hs_jBook, ht0⟩ := hAll
  have hL9 : (L : Int) ≤ 384 := by omega
  refine lv_aload_n hx hb dL_law_740 rfl (lv_at hl 2 rfl) ?_
  refine lv_aload_n hx hb dL_law_741 rfl (lv_at hl 3 rfl) ?_
  refine lv_iload_n hx hb dL_law_742 rfl (lv_at hl 0 rfl) ?_
  refine lv_iconst (v := 1) hx hb dL_law_743 (by decide) ?_
  have g1 := jrg (rfl : x0.toInt = x0.toInt)
  refine lv_iadd hx hb dL_law_744 ?_
  refine lv_topi (fun x2 ex2 => ?_)
  have tx2 : x2.toInt = x0.toInt + 1 := (jadd ex2 rfl jz_1 (by omega) (by omega)).trans (by omega)
  refine va_sld hx hb hX hbl hbA hS (jin tx2 (by omega) (by omega)) dL_law_745 ?_
  have g3 := jrg (rfl : (xs x2.toNatClampNeg).toInt = (xs x2.toNatClampNeg).toInt)
  refine lv_aload_n hx hb dL_law_746 rfl (lv_at hl 3 rfl) ?_
  refine lv_iload_n hx hb dL_law_747 rfl (lv_at hl 0 rfl) ?_
  refine lv_iconst (v := 2) hx hb dL_law_748 (by decide) ?_
  refine lv_iadd hx hb dL_law_749 ?_
  refine lv_topi (fun x4 ex4 => ?_)
  have tx4 : x4.toInt = x0.toInt + 2 := (jadd ex4 rfl jz_2 (by omega) (by omega)).trans (by omega)
  refine va_sld hx hb hX hbl hbA hS (jin tx4 (by omega) (by omega)) dL_law_750 ?_
  have g5 := jrg (rfl : (xs x4.toNatClampNeg).toInt = (xs x4.toNatClampNeg).toInt)
  refine jcallV (As := [.int (xs x2.toNatClampNeg), .int (xs x4.toNatClampNeg)]) (rest := []) ⟨hx, hb, hml, hown, hts⟩ hK hP hA hS hZ (c_X11_learn l D cI cL ad zz hJ σ τ (xs x2.toNatClampNeg) ((xs x2.toNatClampNeg).toInt) rfl (xs x4.toNatClampNeg) ((xs x4.toNatClampNeg).toInt) rfl hI2) cw_RL_89 (jc_0 cI cL ad σ τ) rfl ⟨Nat.le_of_ble_eq_true rfl, Nat.le_of_ble_eq_true rfl⟩ rfl rfl rfl hl.1 rfl (Nat.le_of_ble_eq_true rfl) dL_law_751 ⟨Nat.le_of_ble_eq_true rfl, Nat.le_of_ble_eq_true rfl⟩ (fun r7 σ6 τ6 H locs h6 hP hS => ?_)
  obtain ⟨rfl, f8, f9, I10, h6⟩ := h6
  rcases h6 with h11 | h12
  · obtain ⟨q17, k13, k14, k15, k16⟩ := h11
    have q17 := q17.symm
    subst q17
    refine lv_pop hx hb dL_law_754 rfl ?_
    refine lv_aload_n hx hb dL_law_755 rfl (lv_at hl 1 rfl) ?_
    refine lv_aload_n hx hb dL_law_756 rfl (lv_at hl 3 rfl) ?_
    refine lv_iload_n hx hb dL_law_757 rfl (lv_at hl 0 rfl) ?_
    refine lv_iconst (v := 1) hx hb dL_law_758 (by decide) ?_
    refine lv_iadd hx hb dL_law_759 ?_
    refine jtopr ex2.symm ?_
    refine va_sld hx hb hX hbl hbA hS (jin tx2 (by omega) (by omega)) dL_law_760 ?_
    refine lv_aload_n hx hb dL_law_761 rfl (lv_at hl 3 rfl) ?_
    refine lv_iload_n hx hb dL_law_762 rfl (lv_at hl 0 rfl) ?_
    refine lv_iconst (v := 2) hx hb dL_law_763 (by decide) ?_
    refine lv_iadd hx hb dL_law_764 ?_
    refine jtopr ex4.symm ?_
    refine va_sld hx hb hX hbl hbA hS (jin tx4 (by omega) (by omega)) dL_law_765 ?_
    have I18 : jI101 σ6 := jI101_fr (congrFun (f8 55 (by decide)) 4) (congrFun (f8 55 (by decide)) 5) (f8 56 (by decide)) (f8 57 (by decide)) (f8 58 (by decide)) (f8 59 (by decide)) hI101
    have I19 : jI102 σ6 := jI102_fr (congrFun (f8 55 (by decide)) 6) (f8 60 (by decide)) (f8 61 (by decide)) hI102
    have z20 : (σ6 55 6).toInt = (σ 55 6).toInt := (congrArg Int32.toInt (show σ6 55 6 = (σ 55 6) from (congrFun (f8 55 (by decide)) 6)))
    have z21 : (σ6 55 5).toInt = (σ 55 5).toInt := (congrArg Int32.toInt (show σ6 55 5 = (σ 55 5) from (congrFun (f8 55 (by decide)) 5)))
    have z22 : (σ6 55 4).toInt = (σ 55 4).toInt := (congrArg Int32.toInt (show σ6 55 4 = (σ 55 4) from (congrFun (f8 55 (by decide)) 4)))
    refine jcallV (As := [.int (xs x2.toNatClampNeg), .int (xs x4.toNatClampNeg)]) (rest := []) ⟨hx, hb, hml, hown, hts⟩ hK hP hA hS hZ (c_X12_learn l D cI cL ad zz hJ σ6 τ (xs x2.toNatClampNeg) ((xs x2.toNatClampNeg).toInt) rfl (xs x4.toNatClampNeg) ((xs x4.toNatClampNeg).toInt) rfl I18 I19) cw_RL_92 (jc_55 cI cL ad σ6 τ) rfl ⟨Nat.le_of_ble_eq_true rfl, Nat.le_of_ble_eq_true rfl⟩ rfl rfl rfl hl.1 rfl (Nat.le_of_ble_eq_true rfl) dL_law_766 ⟨Nat.le_of_ble_eq_true rfl, Nat.le_of_ble_eq_true rfl⟩ (fun r24 σ23 τ23 H locs h23 hP hS => ?_)
    obtain ⟨rfl, f25, f26, I27, h23⟩ := h23
    rcases h23 with h28 | h29
    · obtain ⟨q34, k30, k31, k32, k33⟩ := h28
      have q34 := q34.symm
      subst q34
      refine lv_pop hx hb dL_law_769 rfl ?_
      refine lv_goto (tgt := 1357) hx hb dL_law_770 (by decide) ?_
      obtain ⟨x35, ex35⟩ : ∃ y : Int32, y = x0 + 6 := ⟨_, rfl⟩
      have tx35 : x35.toInt = x0.toInt + 6 := (jadd ex35 rfl jz_6 (by omega) (by omega)).trans (by omega)
      refine lv_iinc (v := x35) (lv' := [(3, .int x35), (2, .ref (ad 55)), (1, .ref (ad 0)), (0, .ref b)]) hx hb dL_law_1357 hl (k := 0) rfl (by rw [ex35]; rfl) (by decide) rfl (fun ls hl => ?_)
      refine lv_goto (tgt := 18) hx hb dL_law_1360 (by decide) ?_
      have I36 : jI2 σ23 := jI2_fr (congrFun (f25 2 (by decide)) 0) (congrFun (f25 2 (by decide)) 1) (congrFun (f25 2 (by decide)) 2) (congrFun (f25 2 (by decide)) 3) (f25 6 (by decide)) I10
      have I37 : jI9 σ23 := jI9_fr ((congrFun (f25 9 (by decide)) 0).trans (congrFun (f8 9 (by decide)) 0)) ((f25 10 (by decide)).trans (f8 10 (by decide))) ((f25 11 (by decide)).trans (f8 11 (by decide))) hI9
      have I38 : jI12 σ23 := jI12_fr ((congrFun (f25 12 (by decide)) 0).trans (congrFun (f8 12 (by decide)) 0)) ((f25 13 (by decide)).trans (f8 13 (by decide))) hI12
      have I39 : jI16 σ23 := jI16_fr ((congrFun (f25 16 (by decide)) 0).trans (congrFun (f8 16 (by decide)) 0)) ((congrFun (f25 16 (by decide)) 1).trans (congrFun (f8 16 (by decide)) 1)) ((congrFun (f25 16 (by decide)) 2).trans (congrFun (f8 16 (by decide)) 2)) ((f25 17 (by decide)).trans (f8 17 (by decide))) hI16
      have I40 : jI18 σ23 := jI18_fr ((congrFun (f25 18 (by decide)) 0).trans (congrFun (f8 18 (by decide)) 0)) ((f25 19 (by decide)).trans (f8 19 (by decide))) hI18
      have I41 : jI22 σ23 := jI22_fr ((congrFun (f25 22 (by decide)) 0).trans (congrFun (f8 22 (by decide)) 0)) ((f25 23 (by decide)).trans (f8 23 (by decide))) hI22
      have I42 : jI31 σ23 := jI31_fr ((congrFun (f25 31 (by decide)) 8).trans (congrFun (f8 31 (by decide)) 8)) ((f25 33 (by decide)).trans (f8 33 (by decide))) ((f25 36 (by decide)).trans (f8 36 (by decide))) hI31
      have I43 : jI38 σ23 := jI38_fr ((congrFun (f25 38 (by decide)) 0).trans (congrFun (f8 38 (by decide)) 0)) ((congrFun (f25 38 (by decide)) 1).trans (congrFun (f8 38 (by decide)) 1)) ((f25 39 (by decide)).trans (f8 39 (by decide))) hI38
      have I44 : jI43 σ23 := jI43_fr ((congrFun (f25 43 (by decide)) 8).trans (congrFun (f8 43 (by decide)) 8)) hI43
      have I45 : jI47 σ23 := jI47_fr ((congrFun (f25 47 (by decide)) 0).trans (congrFun (f8 47 (by decide)) 0)) ((f25 49 (by decide)).trans (f8 49 (by decide))) hI47
      have I46 : jI50 σ23 := jI50_fr ((f25 52 (by decide)).trans (f8 52 (by decide))) hI50
      have I47 : jI102 σ23 := jI102_fr (f26 6 (by decide)) (f25 60 (by decide)) (f25 61 (by decide)) I19
      have I48 : jI103 σ23 := jI103_fr ((f26 9 (by decide)).trans (congrFun (f8 55 (by decide)) 9)) hI103
      have I49 : jI104 σ23 := jI104_fr ((f26 10 (by decide)).trans (congrFun (f8 55 (by decide)) 10)) ((f26 12 (by decide)).trans (congrFun (f8 55 (by decide)) 12)) ((f26 13 (by decide)).trans (congrFun (f8 55 (by decide)) 13)) ((f25 62 (by decide)).trans (f8 62 (by decide))) ((f25 67 (by decide)).trans (f8 67 (by decide))) hI104
      have I50 : jI105 σ23 := jI105_fr ((f26 15 (by decide)).trans (congrFun (f8 55 (by decide)) 15)) ((f25 65 (by decide)).trans (f8 65 (by decide))) hI105
      have I51 : jI106 σ23 := jI106_fr ((f26 32 (by decide)).trans (congrFun (f8 55 (by decide)) 32)) ((f25 70 (by decide)).trans (f8 70 (by decide))) ((f25 71 (by decide)).trans (f8 71 (by decide))) ((f25 72 (by decide)).trans (f8 72 (by decide))) hI106
      have I52 : jI107 σ23 := jI107_fr ((f26 12 (by decide)).trans (congrFun (f8 55 (by decide)) 12)) ((f26 47 (by decide)).trans (congrFun (f8 55 (by decide)) 47)) ((f25 80 (by decide)).trans (f8 80 (by decide))) hI107
      have I53 : jI109 σ23 := jI109_fr ((f26 50 (by decide)).trans (congrFun (f8 55 (by decide)) 50)) hI109
      have I54 : jI110 σ23 := jI110_fr ((f25 86 (by decide)).trans (f8 86 (by decide))) ((f25 87 (by decide)).trans (f8 87 (by decide))) hI110
      have I55 : jI111 σ23 := jI111_fr ((f25 79 (by decide)).trans (f8 79 (by decide))) hI111
      have I56 : jI119 σ23 := jI119_fr ((f25 68 (by decide)).trans (f8 68 (by decide))) hI119
      have p57 : jKept σ23 := jKept.fr ((f25 75 (by decide)).trans (f8 75 (by decide))) ((f25 76 (by decide)).trans (f8 76 (by decide))) ((f25 77 (by decide)).trans (f8 77 (by decide))) hs_jKept
      have p58 : jBook σ23 := jBook.fr ((f26 47 (by decide)).trans (congrFun (f8 55 (by decide)) 47)) ((f26 10 (by decide)).trans (congrFun (f8 55 (by decide)) 10)) ((f25 81 (by decide)).trans (f8 81 (by decide))) hs_jBook
      have z59 : (σ23 2 0).toInt = (σ 2 0).toInt := (congrArg Int32.toInt (show σ23 2 0 = (σ 2 0) from ((congrFun (f25 2 (by decide)) 0).trans (f9 0 (by decide)))))
      have z60 : (σ23 55 6).toInt = (σ 55 6).toInt := (congrArg Int32.toInt (show σ23 55 6 = (σ 55 6) from ((f26 6 (by decide)).trans (congrFun (f8 55 (by decide)) 6))))
      exact ih x35 σ23 τ _ _ ls (by have h9 := tx35; omega) ⟨I36, I37, I38, I39, I40, I41, I42, I43, I44, I45, I46, I27, I47, I48, I49, I50, I51, I52, I53, I54, I55, I56, p57, p58, (by omega)⟩ hP hS (lv_sub hl [0, 1, 2, 3] rfl)
    · obtain ⟨q68, k61, k62, k63, k64, k65, k66, k67⟩ := h29
      refine lv_pop hx hb dL_law_769 rfl ?_
      refine lv_goto (tgt := 1357) hx hb dL_law_770 (by decide) ?_
      obtain ⟨x69, ex69⟩ : ∃ y : Int32, y = x0 + 6 := ⟨_, rfl⟩
      have tx69 : x69.toInt = x0.toInt + 6 := (jadd ex69 rfl jz_6 (by omega) (by omega)).trans (by omega)
      refine lv_iinc (v := x69) (lv' := [(3, .int x69), (2, .ref (ad 55)), (1, .ref (ad 0)), (0, .ref b)]) hx hb dL_law_1357 hl (k := 0) rfl (by rw [ex69]; rfl) (by decide) rfl (fun ls hl => ?_)
      refine lv_goto (tgt := 18) hx hb dL_law_1360 (by decide) ?_
      have I70 : jI2 σ23 := jI2_fr (congrFun (f25 2 (by decide)) 0) (congrFun (f25 2 (by decide)) 1) (congrFun (f25 2 (by decide)) 2) (congrFun (f25 2 (by decide)) 3) (f25 6 (by decide)) I10
      have I71 : jI9 σ23 := jI9_fr ((congrFun (f25 9 (by decide)) 0).trans (congrFun (f8 9 (by decide)) 0)) ((f25 10 (by decide)).trans (f8 10 (by decide))) ((f25 11 (by decide)).trans (f8 11 (by decide))) hI9
      have I72 : jI12 σ23 := jI12_fr ((congrFun (f25 12 (by decide)) 0).trans (congrFun (f8 12 (by decide)) 0)) ((f25 13 (by decide)).trans (f8 13 (by decide))) hI12
      have I73 : jI16 σ23 := jI16_fr ((congrFun (f25 16 (by decide)) 0).trans (congrFun (f8 16 (by decide)) 0)) ((congrFun (f25 16 (by decide)) 1).trans (congrFun (f8 16 (by decide)) 1)) ((congrFun (f25 16 (by decide)) 2).trans (congrFun (f8 16 (by decide)) 2)) ((f25 17 (by decide)).trans (f8 17 (by decide))) hI16
      have I74 : jI18 σ23 := jI18_fr ((congrFun (f25 18 (by decide)) 0).trans (congrFun (f8 18 (by decide)) 0)) ((f25 19 (by decide)).trans (f8 19 (by decide))) hI18
      have I75 : jI22 σ23 := jI22_fr ((congrFun (f25 22 (by decide)) 0).trans (congrFun (f8 22 (by decide)) 0)) ((f25 23 (by decide)).trans (f8 23 (by decide))) hI22
      have I76 : jI31 σ23 := jI31_fr ((congrFun (f25 31 (by decide)) 8).trans (congrFun (f8 31 (by decide)) 8)) ((f25 33 (by decide)).trans (f8 33 (by decide))) ((f25 36 (by decide)).trans (f8 36 (by decide))) hI31
      have I77 : jI38 σ23 := jI38_fr ((congrFun (f25 38 (by decide)) 0).trans (congrFun (f8 38 (by decide)) 0)) ((congrFun (f25 38 (by decide)) 1).trans (congrFun (f8 38 (by decide)) 1)) ((f25 39 (by decide)).trans (f8 39 (by decide))) hI38
      have I78 : jI43 σ23 := jI43_fr ((congrFun (f25 43 (by decide)) 8).trans (congrFun (f8 43 (by decide)) 8)) hI43
      have I79 : jI47 σ23 := jI47_fr ((congrFun (f25 47 (by decide)) 0).trans (congrFun (f8 47 (by decide)) 0)) ((f25 49 (by decide)).trans (f8 49 (by decide))) hI47
      have I80 : jI50 σ23 := jI50_fr ((f25 52 (by decide)).trans (f8 52 (by decide))) hI50
      have I81 : jI102 σ23 := jI102_fr (f26 6 (by decide)) (f25 60 (by decide)) (f25 61 (by decide)) I19
      have I82 : jI103 σ23 := jI103_fr ((f26 9 (by decide)).trans (congrFun (f8 55 (by decide)) 9)) hI103
      have I83 : jI104 σ23 := jI104_fr ((f26 10 (by decide)).trans (congrFun (f8 55 (by decide)) 10)) ((f26 12 (by decide)).trans (congrFun (f8 55 (by decide)) 12)) ((f26 13 (by decide)).trans (congrFun (f8 55 (by decide)) 13)) ((f25 62 (by decide)).trans (f8 62 (by decide))) ((f25 67 (by decide)).trans (f8 67 (by decide))) hI104
      have I84 : jI105 σ23 := jI105_fr ((f26 15 (by decide)).trans (congrFun (f8 55 (by decide)) 15)) ((f25 65 (by decide)).trans (f8 65 (by decide))) hI105
      have I85 : jI106 σ23 := jI106_fr ((f26 32 (by decide)).trans (congrFun (f8 55 (by decide)) 32)) ((f25 70 (by decide)).trans (f8 70 (by decide))) ((f25 71 (by decide)).trans (f8 71 (by decide))) ((f25 72 (by decide)).trans (f8 72 (by decide))) hI106
      have I86 : jI107 σ23 := jI107_fr ((f26 12 (by decide)).trans (congrFun (f8 55 (by decide)) 12)) ((f26 47 (by decide)).trans (congrFun (f8 55 (by decide)) 47)) ((f25 80 (by decide)).trans (f8 80 (by decide))) hI107
      have I87 : jI109 σ23 := jI109_fr ((f26 50 (by decide)).trans (congrFun (f8 55 (by decide)) 50)) hI109
      have I88 : jI110 σ23 := jI110_fr ((f25 86 (by decide)).trans (f8 86 (by decide))) ((f25 87 (by decide)).trans (f8 87 (by decide))) hI110
      have I89 : jI111 σ23 := jI111_fr ((f25 79 (by decide)).trans (f8 79 (by decide))) hI111
      have I90 : jI119 σ23 := jI119_fr ((f25 68 (by decide)).trans (f8 68 (by decide))) hI119
      have p91 : jKept σ23 := jKept.fr ((f25 75 (by decide)).trans (f8 75 (by decide))) ((f25 76 (by decide)).trans (f8 76 (by decide))) ((f25 77 (by decide)).trans (f8 77 (by decide))) hs_jKept
      have p92 : jBook σ23 := jBook.fr ((f26 47 (by decide)).trans (congrFun (f8 55 (by decide)) 47)) ((f26 10 (by decide)).trans (congrFun (f8 55 (by decide)) 10)) ((f25 81 (by decide)).trans (f8 81 (by decide))) hs_jBook
      have z93 : (σ23 2 0).toInt = (σ 2 0).toInt := (congrArg Int32.toInt (show σ23 2 0 = (σ 2 0) from ((congrFun (f25 2 (by decide)) 0).trans (f9 0 (by decide)))))
      have z94 : (σ23 55 6).toInt = (σ 55 6).toInt := (congrArg Int32.toInt (show σ23 55 6 = (σ 55 6) from ((f26 6 (by decide)).trans (congrFun (f8 55 (by decide)) 6))))
      exact ih x69 σ23 τ _ _ ls (by have h9 := tx69; omega) ⟨I70, I71, I72, I73, I74, I75, I76, I77, I78, I79, I80, I27, I81, I82, I83, I84, I85, I86, I87, I88, I89, I90, p91, p92, (by omega)⟩ hP hS (lv_sub hl [0, 1, 2, 3] rfl)
  · obtain ⟨q102, k95, k96, k97, k98, k99, k100, k101⟩ := h12
    refine lv_pop hx hb dL_law_754 rfl ?_
    refine lv_aload_n hx hb dL_law_755 rfl (lv_at hl 1 rfl) ?_
    refine lv_aload_n hx hb dL_law_756 rfl (lv_at hl 3 rfl) ?_
    refine lv_iload_n hx hb dL_law_757 rfl (lv_at hl 0 rfl) ?_
    refine lv_iconst (v := 1) hx hb dL_law_758 (by decide) ?_
    refine lv_iadd hx hb dL_law_759 ?_
    refine jtopr ex2.symm ?_
    refine va_sld hx hb hX hbl hbA hS (jin tx2 (by omega) (by omega)) dL_law_760 ?_
    refine lv_aload_n hx hb dL_law_761 rfl (lv_at hl 3 rfl) ?_
    refine lv_iload_n hx hb dL_law_762 rfl (lv_at hl 0 rfl) ?_
    refine lv_iconst (v := 2) hx hb dL_law_763 (by decide) ?_
    refine lv_iadd hx hb dL_law_764 ?_
    refine jtopr ex4.symm ?_
    refine va_sld hx hb hX hbl hbA hS (jin tx4 (by omega) (by omega)) dL_law_765 ?_
    have I103 : jI101 σ6 := jI101_fr (congrFun (f8 55 (by decide)) 4) (congrFun (f8 55 (by decide)) 5) (f8 56 (by decide)) (f8 57 (by decide)) (f8 58 (by decide)) (f8 59 (by decide)) hI101
    have I104 : jI102 σ6 := jI102_fr (congrFun (f8 55 (by decide)) 6) (f8 60 (by decide)) (f8 61 (by decide)) hI102
    have z105 : (σ6 55 6).toInt = (σ 55 6).toInt := (congrArg Int32.toInt (show σ6 55 6 = (σ 55 6) from (congrFun (f8 55 (by decide)) 6)))
    have z106 : (σ6 55 5).toInt = (σ 55 5).toInt := (congrArg Int32.toInt (show σ6 55 5 = (σ 55 5) from (congrFun (f8 55 (by decide)) 5)))
    have z107 : (σ6 55 4).toInt = (σ 55 4).toInt := (congrArg Int32.toInt (show σ6 55 4 = (σ 55 4) from (congrFun (f8 55 (by decide)) 4)))
    refine jcallV (As := [.int (xs x2.toNatClampNeg), .int (xs x4.toNatClampNeg)]) (rest := []) ⟨hx, hb, hml, hown, hts⟩ hK hP hA hS hZ (c_X12_learn l D cI cL ad zz hJ σ6 τ (xs x2.toNatClampNeg) ((xs x2.toNatClampNeg).toInt) rfl (xs x4.toNatClampNeg) ((xs x4.toNatClampNeg).toInt) rfl I103 I104) cw_RL_92 (jc_55 cI cL ad σ6 τ) rfl ⟨Nat.le_of_ble_eq_true rfl, Nat.le_of_ble_eq_true rfl⟩ rfl rfl rfl hl.1 rfl (Nat.le_of_ble_eq_true rfl) dL_law_766 ⟨Nat.le_of_ble_eq_true rfl, Nat.le_of_ble_eq_true rfl⟩ (fun r109 σ108 τ108 H locs h108 hP hS => ?_)
    obtain ⟨rfl, f110, f111, I112, h108⟩ := h108
    rcases h108 with h113 | h114
    · obtain ⟨q119, k115, k116, k117, k118⟩ := h113
      have q119 := q119.symm
      subst q119
      refine lv_pop hx hb dL_law_769 rfl ?_
      refine lv_goto (tgt := 1357) hx hb dL_law_770 (by decide) ?_
      obtain ⟨x120, ex120⟩ : ∃ y : Int32, y = x0 + 6 := ⟨_, rfl⟩
      have tx120 : x120.toInt = x0.toInt + 6 := (jadd ex120 rfl jz_6 (by omega) (by omega)).trans (by omega)
      refine lv_iinc (v := x120) (lv' := [(3, .int x120), (2, .ref (ad 55)), (1, .ref (ad 0)), (0, .ref b)]) hx hb dL_law_1357 hl (k := 0) rfl (by rw [ex120]; rfl) (by decide) rfl (fun ls hl => ?_)
      refine lv_goto (tgt := 18) hx hb dL_law_1360 (by decide) ?_
      have I121 : jI2 σ108 := jI2_fr (congrFun (f110 2 (by decide)) 0) (congrFun (f110 2 (by decide)) 1) (congrFun (f110 2 (by decide)) 2) (congrFun (f110 2 (by decide)) 3) (f110 6 (by decide)) I10
      have I122 : jI9 σ108 := jI9_fr ((congrFun (f110 9 (by decide)) 0).trans (congrFun (f8 9 (by decide)) 0)) ((f110 10 (by decide)).trans (f8 10 (by decide))) ((f110 11 (by decide)).trans (f8 11 (by decide))) hI9
      have I123 : jI12 σ108 := jI12_fr ((congrFun (f110 12 (by decide)) 0).trans (congrFun (f8 12 (by decide)) 0)) ((f110 13 (by decide)).trans (f8 13 (by decide))) hI12
      have I124 : jI16 σ108 := jI16_fr ((congrFun (f110 16 (by decide)) 0).trans (congrFun (f8 16 (by decide)) 0)) ((congrFun (f110 16 (by decide)) 1).trans (congrFun (f8 16 (by decide)) 1)) ((congrFun (f110 16 (by decide)) 2).trans (congrFun (f8 16 (by decide)) 2)) ((f110 17 (by decide)).trans (f8 17 (by decide))) hI16
      have I125 : jI18 σ108 := jI18_fr ((congrFun (f110 18 (by decide)) 0).trans (congrFun (f8 18 (by decide)) 0)) ((f110 19 (by decide)).trans (f8 19 (by decide))) hI18
      have I126 : jI22 σ108 := jI22_fr ((congrFun (f110 22 (by decide)) 0).trans (congrFun (f8 22 (by decide)) 0)) ((f110 23 (by decide)).trans (f8 23 (by decide))) hI22
      have I127 : jI31 σ108 := jI31_fr ((congrFun (f110 31 (by decide)) 8).trans (congrFun (f8 31 (by decide)) 8)) ((f110 33 (by decide)).trans (f8 33 (by decide))) ((f110 36 (by decide)).trans (f8 36 (by decide))) hI31
      have I128 : jI38 σ108 := jI38_fr ((congrFun (f110 38 (by decide)) 0).trans (congrFun (f8 38 (by decide)) 0)) ((congrFun (f110 38 (by decide)) 1).trans (congrFun (f8 38 (by decide)) 1)) ((f110 39 (by decide)).trans (f8 39 (by decide))) hI38
      have I129 : jI43 σ108 := jI43_fr ((congrFun (f110 43 (by decide)) 8).trans (congrFun (f8 43 (by decide)) 8)) hI43
      have I130 : jI47 σ108 := jI47_fr ((congrFun (f110 47 (by decide)) 0).trans (congrFun (f8 47 (by decide)) 0)) ((f110 49 (by decide)).trans (f8 49 (by decide))) hI47
      have I131 : jI50 σ108 := jI50_fr ((f110 52 (by decide)).trans (f8 52 (by decide))) hI50
      have I132 : jI102 σ108 := jI102_fr (f111 6 (by decide)) (f110 60 (by decide)) (f110 61 (by decide)) I104
      have I133 : jI103 σ108 := jI103_fr ((f111 9 (by decide)).trans (congrFun (f8 55 (by decide)) 9)) hI103
      have I134 : jI104 σ108 := jI104_fr ((f111 10 (by decide)).trans (congrFun (f8 55 (by decide)) 10)) ((f111 12 (by decide)).trans (congrFun (f8 55 (by decide)) 12)) ((f111 13 (by decide)).trans (congrFun (f8 55 (by decide)) 13)) ((f110 62 (by decide)).trans (f8 62 (by decide))) ((f110 67 (by decide)).trans (f8 67 (by decide))) hI104
      have I135 : jI105 σ108 := jI105_fr ((f111 15 (by decide)).trans (congrFun (f8 55 (by decide)) 15)) ((f110 65 (by decide)).trans (f8 65 (by decide))) hI105
      have I136 : jI106 σ108 := jI106_fr ((f111 32 (by decide)).trans (congrFun (f8 55 (by decide)) 32)) ((f110 70 (by decide)).trans (f8 70 (by decide))) ((f110 71 (by decide)).trans (f8 71 (by decide))) ((f110 72 (by decide)).trans (f8 72 (by decide))) hI106
      have I137 : jI107 σ108 := jI107_fr ((f111 12 (by decide)).trans (congrFun (f8 55 (by decide)) 12)) ((f111 47 (by decide)).trans (congrFun (f8 55 (by decide)) 47)) ((f110 80 (by decide)).trans (f8 80 (by decide))) hI107
      have I138 : jI109 σ108 := jI109_fr ((f111 50 (by decide)).trans (congrFun (f8 55 (by decide)) 50)) hI109
      have I139 : jI110 σ108 := jI110_fr ((f110 86 (by decide)).trans (f8 86 (by decide))) ((f110 87 (by decide)).trans (f8 87 (by decide))) hI110
      have I140 : jI111 σ108 := jI111_fr ((f110 79 (by decide)).trans (f8 79 (by decide))) hI111
      have I141 : jI119 σ108 := jI119_fr ((f110 68 (by decide)).trans (f8 68 (by decide))) hI119
      have p142 : jKept σ108 := jKept.fr ((f110 75 (by decide)).trans (f8 75 (by decide))) ((f110 76 (by decide)).trans (f8 76 (by decide))) ((f110 77 (by decide)).trans (f8 77 (by decide))) hs_jKept
      have p143 : jBook σ108 := jBook.fr ((f111 47 (by decide)).trans (congrFun (f8 55 (by decide)) 47)) ((f111 10 (by decide)).trans (congrFun (f8 55 (by decide)) 10)) ((f110 81 (by decide)).trans (f8 81 (by decide))) hs_jBook
      have z144 : (σ108 2 0).toInt = (σ 2 0).toInt := (congrArg Int32.toInt (show σ108 2 0 = (σ 2 0) from ((congrFun (f110 2 (by decide)) 0).trans (f9 0 (by decide)))))
      have z145 : (σ108 55 6).toInt = (σ 55 6).toInt := (congrArg Int32.toInt (show σ108 55 6 = (σ 55 6) from ((f111 6 (by decide)).trans (congrFun (f8 55 (by decide)) 6))))
      exact ih x120 σ108 τ _ _ ls (by have h9 := tx120; omega) ⟨I121, I122, I123, I124, I125, I126, I127, I128, I129, I130, I131, I112, I132, I133, I134, I135, I136, I137, I138, I139, I140, I141, p142, p143, (by omega)⟩ hP hS (lv_sub hl [0, 1, 2, 3] rfl)
    · obtain ⟨q153, k146, k147, k148, k149, k150, k151, k152⟩ := h114
      refine lv_pop hx hb dL_law_769 rfl ?_
      refine lv_goto (tgt := 1357) hx hb dL_law_770 (by decide) ?_
      obtain ⟨x154, ex154⟩ : ∃ y : Int32, y = x0 + 6 := ⟨_, rfl⟩
      have tx154 : x154.toInt = x0.toInt + 6 := (jadd ex154 rfl jz_6 (by omega) (by omega)).trans (by omega)
      refine lv_iinc (v := x154) (lv' := [(3, .int x154), (2, .ref (ad 55)), (1, .ref (ad 0)), (0, .ref b)]) hx hb dL_law_1357 hl (k := 0) rfl (by rw [ex154]; rfl) (by decide) rfl (fun ls hl => ?_)
      refine lv_goto (tgt := 18) hx hb dL_law_1360 (by decide) ?_
      have I155 : jI2 σ108 := jI2_fr (congrFun (f110 2 (by decide)) 0) (congrFun (f110 2 (by decide)) 1) (congrFun (f110 2 (by decide)) 2) (congrFun (f110 2 (by decide)) 3) (f110 6 (by decide)) I10
      have I156 : jI9 σ108 := jI9_fr ((congrFun (f110 9 (by decide)) 0).trans (congrFun (f8 9 (by decide)) 0)) ((f110 10 (by decide)).trans (f8 10 (by decide))) ((f110 11 (by decide)).trans (f8 11 (by decide))) hI9
      have I157 : jI12 σ108 := jI12_fr ((congrFun (f110 12 (by decide)) 0).trans (congrFun (f8 12 (by decide)) 0)) ((f110 13 (by decide)).trans (f8 13 (by decide))) hI12
      have I158 : jI16 σ108 := jI16_fr ((congrFun (f110 16 (by decide)) 0).trans (congrFun (f8 16 (by decide)) 0)) ((congrFun (f110 16 (by decide)) 1).trans (congrFun (f8 16 (by decide)) 1)) ((congrFun (f110 16 (by decide)) 2).trans (congrFun (f8 16 (by decide)) 2)) ((f110 17 (by decide)).trans (f8 17 (by decide))) hI16
      have I159 : jI18 σ108 := jI18_fr ((congrFun (f110 18 (by decide)) 0).trans (congrFun (f8 18 (by decide)) 0)) ((f110 19 (by decide)).trans (f8 19 (by decide))) hI18
      have I160 : jI22 σ108 := jI22_fr ((congrFun (f110 22 (by decide)) 0).trans (congrFun (f8 22 (by decide)) 0)) ((f110 23 (by decide)).trans (f8 23 (by decide))) hI22
      have I161 : jI31 σ108 := jI31_fr ((congrFun (f110 31 (by decide)) 8).trans (congrFun (f8 31 (by decide)) 8)) ((f110 33 (by decide)).trans (f8 33 (by decide))) ((f110 36 (by decide)).trans (f8 36 (by decide))) hI31
      have I162 : jI38 σ108 := jI38_fr ((congrFun (f110 38 (by decide)) 0).trans (congrFun (f8 38 (by decide)) 0)) ((congrFun (f110 38 (by decide)) 1).trans (congrFun (f8 38 (by decide)) 1)) ((f110 39 (by decide)).trans (f8 39 (by decide))) hI38
      have I163 : jI43 σ108 := jI43_fr ((congrFun (f110 43 (by decide)) 8).trans (congrFun (f8 43 (by decide)) 8)) hI43
      have I164 : jI47 σ108 := jI47_fr ((congrFun (f110 47 (by decide)) 0).trans (congrFun (f8 47 (by decide)) 0)) ((f110 49 (by decide)).trans (f8 49 (by decide))) hI47
      have I165 : jI50 σ108 := jI50_fr ((f110 52 (by decide)).trans (f8 52 (by decide))) hI50
      have I166 : jI102 σ108 := jI102_fr (f111 6 (by decide)) (f110 60 (by decide)) (f110 61 (by decide)) I104
      have I167 : jI103 σ108 := jI103_fr ((f111 9 (by decide)).trans (congrFun (f8 55 (by decide)) 9)) hI103
      have I168 : jI104 σ108 := jI104_fr ((f111 10 (by decide)).trans (congrFun (f8 55 (by decide)) 10)) ((f111 12 (by decide)).trans (congrFun (f8 55 (by decide)) 12)) ((f111 13 (by decide)).trans (congrFun (f8 55 (by decide)) 13)) ((f110 62 (by decide)).trans (f8 62 (by decide))) ((f110 67 (by decide)).trans (f8 67 (by decide))) hI104
      have I169 : jI105 σ108 := jI105_fr ((f111 15 (by decide)).trans (congrFun (f8 55 (by decide)) 15)) ((f110 65 (by decide)).trans (f8 65 (by decide))) hI105
      have I170 : jI106 σ108 := jI106_fr ((f111 32 (by decide)).trans (congrFun (f8 55 (by decide)) 32)) ((f110 70 (by decide)).trans (f8 70 (by decide))) ((f110 71 (by decide)).trans (f8 71 (by decide))) ((f110 72 (by decide)).trans (f8 72 (by decide))) hI106
      have I171 : jI107 σ108 := jI107_fr ((f111 12 (by decide)).trans (congrFun (f8 55 (by decide)) 12)) ((f111 47 (by decide)).trans (congrFun (f8 55 (by decide)) 47)) ((f110 80 (by decide)).trans (f8 80 (by decide))) hI107
      have I172 : jI109 σ108 := jI109_fr ((f111 50 (by decide)).trans (congrFun (f8 55 (by decide)) 50)) hI109
      have I173 : jI110 σ108 := jI110_fr ((f110 86 (by decide)).trans (f8 86 (by decide))) ((f110 87 (by decide)).trans (f8 87 (by decide))) hI110
      have I174 : jI111 σ108 := jI111_fr ((f110 79 (by decide)).trans (f8 79 (by decide))) hI111
      have I175 : jI119 σ108 := jI119_fr ((f110 68 (by decide)).trans (f8 68 (by decide))) hI119
      have p176 : jKept σ108 := jKept.fr ((f110 75 (by decide)).trans (f8 75 (by decide))) ((f110 76 (by decide)).trans (f8 76 (by decide))) ((f110 77 (by decide)).trans (f8 77 (by decide))) hs_jKept
      have p177 : jBook σ108 := jBook.fr ((f111 47 (by decide)).trans (congrFun (f8 55 (by decide)) 47)) ((f111 10 (by decide)).trans (congrFun (f8 55 (by decide)) 10)) ((f110 81 (by decide)).trans (f8 81 (by decide))) hs_jBook
      have z178 : (σ108 2 0).toInt = (σ 2 0).toInt := (congrArg Int32.toInt (show σ108 2 0 = (σ 2 0) from ((congrFun (f110 2 (by decide)) 0).trans (f9 0 (by decide)))))
      have z179 : (σ108 55 6).toInt = (σ 55 6).toInt := (congrArg Int32.toInt (show σ108 55 6 = (σ 55 6) from ((f111 6 (by decide)).trans (congrFun (f8 55 (by decide)) 6))))
      exact ih x154 σ108 τ _ _ ls (by have h9 := tx154; omega) ⟨I155, I156, I157, I158, I159, I160, I161, I162, I163, I164, I165, I112, I166, I167, I168, I169, I170, I171, I172, I173, I174, I175, p176, p177, (by omega)⟩ hP hS (lv_sub hl [0, 1, 2, 3] rfl)
