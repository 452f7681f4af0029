set_option maxHeartbeats 4000000 in
set_option maxRecDepth 100000 in
theorem c_X12_putsOn (l : Launch) (D : va_G) (cI cL : ClassId) (ad zz : Nat → Nat) (hJ : jD ad) (σ : Nat → Nat → Int32) (τ : Nat → Nat → Int64) (B0 : Int32) (hB0 : jmb σ B0 = 1) (a1 : Int32) (A1 : Int) (t1 : a1.toInt = A1) (hI101 : jI101 σ) (hI102 : jI102 σ) (hI103 : jI103 σ) (hI104 : jI104 σ) (hI105 : jI105 σ) (hI106 : jI106 σ) (hI120 : jI120 σ) (hs_jKept : jKept σ) (hp0 : 0 ≤ B0.toInt ∧ B0.toInt < (σ 55 6).toInt) (hp1 : 0 ≤ A1 ∧ A1 ≤ 19) (hp2 : (σ 55 25).toInt < (σ 55 10).toInt) (hp3 : (σ 55 26).toInt < (σ 55 12).toInt) (hp4 : ((σ 70 a1.toNatClampNeg).toInt ≠ 2) ∨ ((σ 55 12).toInt - (σ 55 26).toInt ≤ 8)) : jM l yX12_putsOn cX12_putsOn 7 (some .int) ({ frames := 103, cells := 0, slots := 0, locals := 5061 }) D cI cL ad zz [.ref (ad 55), .int a1] σ τ (fun r σ' τ' => τ = τ' ∧ (∀ i : Nat, (i < 55 ∨ 55 < i) ∧ (i < 66 ∨ 66 < i) ∧ (i < 74 ∨ 78 < i) → σ' i = σ i) ∧ (∀ k : Nat, (k < 18 ∨ 18 < k) ∧ (k < 19 ∨ 19 < k) ∧ (k < 20 ∨ 20 < k) ∧ (k < 21 ∨ 21 < k) ∧ (k < 22 ∨ 22 < k) ∧ (k < 37 ∨ 37 < k) → σ' 55 k = σ 55 k) ∧ (jKept σ') ∧ ((True ∧ (0 ≤ r.toInt ∧ r.toInt ≤ 3)))) := by
  refine jM.of hJ (by decide +kernel) (nt := .int) rfl (Nat.le_of_ble_eq_true rfl) ?_
  intro p e s m args below meth c Q ls hC hret hl hP
  obtain ⟨hx, hb, hr, hml, hown, hts, hK, -, hlocks, hZ⟩ := hC
  have hown : s.vm.findClass RX12 = some m.cls := hown
  have hS : va_S (jA ad) s.heap s.heap [] := va_S.rf
  have hA : ∀ q, jA ad q → jA ad q := fun _ h => h
  have hl : lv_has ls 7 [(0, .ref (ad 55)), (1, .int a1)] := hl
  have g1 := jrg t1
  obtain ⟨i1, w2, w3⟩ : (0 ≤ (σ 55 6).toInt ∧ (σ 55 6).toInt ≤ 4) ∧ (∀ k : Nat, k < 4 → 0 ≤ (σ 60 k).toInt ∧ (σ 60 k).toInt ≤ 50) ∧ (∀ k : Nat, k < 4 → 0 ≤ (σ 61 k).toInt ∧ (σ 61 k).toInt ≤ 20) := id hI102
  obtain ⟨i4, i5, i6, w7, w8⟩ : (1 ≤ (σ 55 10).toInt ∧ (σ 55 10).toInt ≤ 8) ∧ (1 ≤ (σ 55 12).toInt ∧ (σ 55 12).toInt ≤ 12) ∧ (0 ≤ (σ 55 13).toInt ∧ (σ 55 13).toInt ≤ 999) ∧ (∀ k : Nat, k < 8 → 0 ≤ (σ 62 k).toInt ∧ (σ 62 k).toInt ≤ 3) ∧ (∀ k : Nat, k < 8 → 0 ≤ (σ 67 k).toInt ∧ (σ 67 k).toInt ≤ 3) := id hI104
  obtain ⟨i9, w10⟩ : (0 ≤ (σ 55 15).toInt ∧ (σ 55 15).toInt ≤ 80) ∧ (∀ k : Nat, k < 2 → (-1) ≤ (σ 65 k).toInt ∧ (σ 65 k).toInt ≤ 80) := id hI105
  obtain ⟨i11, w12, w13, w14⟩ : (0 ≤ (σ 55 32).toInt ∧ (σ 55 32).toInt ≤ 20) ∧ (∀ k : Nat, k < 20 → 0 ≤ (σ 70 k).toInt ∧ (σ 70 k).toInt ≤ 6) ∧ (∀ k : Nat, k < 20 → 0 ≤ (σ 71 k).toInt ∧ (σ 71 k).toInt ≤ 8) ∧ (∀ k : Nat, k < 160 → 0 ≤ (σ 72 k).toInt ∧ (σ 72 k).toInt ≤ 3) := id hI106
  obtain ⟨i15, i16, i17, i18, i19, w20⟩ : (0 ≤ (σ 55 25).toInt) ∧ ((σ 55 25).toInt ≤ (σ 55 10).toInt) ∧ (0 ≤ (σ 55 26).toInt) ∧ ((σ 55 26).toInt ≤ (σ 55 12).toInt) ∧ ((-1) ≤ (σ 55 27).toInt ∧ (σ 55 27).toInt ≤ 3) ∧ (∀ k : Nat, k < 4 → 0 ≤ (σ 68 k).toInt ∧ (σ 68 k).toInt ≤ 3) := id hI120
  refine lv_aload_n hx hb dX12_putsOn_0 rfl (lv_at hl 0 rfl) ?_
  refine va_get (D := D) hx hb hts inlX12 hown hK hP 55 (jc_55 cI cL ad σ τ) rfl 33 (by decide) (hts _ kw_7_18) (fun _ h9 => h9) rfl dX12_putsOn_1 ?_
  refine lv_iload_n hx hb dX12_putsOn_4 rfl (lv_at hl 1 rfl) ?_
  refine jald hx hb hK hP (jc_70 cI cL ad σ τ) (jin t1 (by omega) (by omega)) dX12_putsOn_5 ?_
  have g21 := w12 _ (jnat (x := a1) t1 (n := 20) (by omega) (by decide))
  refine jtopr (y := (σ 70 a1.toNatClampNeg)) rfl ?_
  refine lv_iconst (v := 1) hx hb dX12_putsOn_6 (by decide) ?_
  refine lv_icmp_ne (tgt := 17) hx hb dX12_putsOn_7 (by decide) (fun c22 => ?_) (fun c22 => ?_)
  · have kc22 := jne c22 rfl jz_1
    refine lv_aload_n hx hb dX12_putsOn_17 rfl (lv_at hl 0 rfl) ?_
    refine va_get (D := D) hx hb hts inlX12 hown hK hP 55 (jc_55 cI cL ad σ τ) rfl 33 (by decide) (hts _ kw_7_18) (fun _ h9 => h9) rfl dX12_putsOn_18 ?_
    refine lv_iload_n hx hb dX12_putsOn_21 rfl (lv_at hl 1 rfl) ?_
    refine jald hx hb hK hP (jc_70 cI cL ad σ τ) (jin t1 (by omega) (by omega)) dX12_putsOn_22 ?_
    have g23 := w12 _ (jnat (x := a1) t1 (n := 20) (by omega) (by decide))
    refine jtopr (y := (σ 70 a1.toNatClampNeg)) rfl ?_
    refine lv_iconst (v := 4) hx hb dX12_putsOn_23 (by decide) ?_
    refine lv_icmp_ne (tgt := 86) hx hb dX12_putsOn_24 (by decide) (fun c24 => ?_) (fun c24 => ?_)
    · have kc24 := jne c24 rfl jz_4
      refine lv_aload_n hx hb dX12_putsOn_86 rfl (lv_at hl 0 rfl) ?_
      refine va_get (D := D) hx hb hts inlX12 hown hK hP 55 (jc_55 cI cL ad σ τ) rfl 33 (by decide) (hts _ kw_7_18) (fun _ h9 => h9) rfl dX12_putsOn_87 ?_
      refine lv_iload_n hx hb dX12_putsOn_90 rfl (lv_at hl 1 rfl) ?_
      refine jald hx hb hK hP (jc_70 cI cL ad σ τ) (jin t1 (by omega) (by omega)) dX12_putsOn_91 ?_
      refine jtopr (y := (σ 70 a1.toNatClampNeg)) rfl ?_
      refine lv_iconst (v := 2) hx hb dX12_putsOn_92 (by decide) ?_
      refine lv_icmp_ne (tgt := 106) hx hb dX12_putsOn_93 (by decide) (fun c25 => ?_) (fun c25 => ?_)
      · have kc25 := jne c25 rfl jz_2
        refine lv_iconst (v := (-1)) hx hb dX12_putsOn_106 (by decide) ?_
        refine lv_istore_n (lv' := [(2, .int (-1)), (0, .ref (ad 55)), (1, .int a1)]) hx hb dX12_putsOn_107 rfl hl (by decide) rfl (fun ls hl => ?_)
        refine lv_iconst (v := 0) hx hb dX12_putsOn_108 (by decide) ?_
        refine lv_istore_n (lv' := [(3, .int 0), (2, .int (-1)), (0, .ref (ad 55)), (1, .int a1)]) hx hb dX12_putsOn_109 rfl hl (by decide) rfl (fun ls hl => ?_)
        refine lv_iconst (v := 0) hx hb dX12_putsOn_110 (by decide) ?_
        refine lv_istore (lv' := [(4, .int 0), (3, .int 0), (2, .int (-1)), (0, .ref (ad 55)), (1, .int a1)]) hx hb dX12_putsOn_111 hl (by decide) rfl (fun ls hl => ?_)
        have lp26 : ∀ (n27 : Nat) (x28 : Int32) (x29 : Int32) (x30 : Int32) (σ33 : Nat → Nat → Int32) (H : Heap) (locs : List Loc) (ls : Array Slot), (-x30.toInt + 4 : Int) < n27 → (-1) ≤ x28.toInt → x28.toInt ≤ 3 → 0 ≤ x30.toInt → x30.toInt ≤ 4 → ((0 ≤ x28.toInt) ∨ (x28.toInt = (-1) ∧ x30.toInt ≤ B0.toInt)) → (∀ i : Nat, (i < 55 ∨ 55 < i) ∧ (i < 66 ∨ 66 < i) → σ33 i = σ i) → (∀ k : Nat, (k < 18 ∨ 18 < k) ∧ (k < 19 ∨ 19 < k) ∧ (k < 20 ∨ 20 < k) ∧ (k < 21 ∨ 21 < k) ∧ (k < 22 ∨ 22 < k) → σ33 55 k = σ 55 k) → jH D cI cL ad σ33 τ H → va_S (jA ad) s.heap H locs → lv_has ls 7 [(4, .int x30), (3, .int x29), (2, .int x28), (0, .ref (ad 55)), (1, .int a1)] → W p l e ({ frames := 103, cells := 0, slots := 0, locals := 5061 }) s m args below meth c H locs 0 0 Q (F0 m 113 ls []) := by
          intro n27
          induction n27 with
          | zero => intro x28 x29 x30 σ33 H locs ls h34 h35 h36 h37 h38 h39; have gx29 := jrg (rfl : x29.toInt = x29.toInt); exact absurd h34 (by omega)
          | succ n27 ihlp26 =>
            intro x28 x29 x30 σ33 H locs ls h34 h35 h36 h37 h38 h39 f40 f41 hP hS hl
            have gx29 := jrg (rfl : x29.toInt = x29.toInt)
            refine lv_iload hx hb dX12_putsOn_113 (lv_at hl 0 rfl) ?_
            refine lv_aload_n hx hb dX12_putsOn_115 rfl (lv_at hl 3 rfl) ?_
            refine va_get (D := D) hx hb hts inlX12 hown hK hP 55 (jc_55 cI cL ad σ33 τ) rfl 6 (by decide) (hts _ kw_9_13) (fun _ h9 => h9) rfl dX12_putsOn_116 ?_
            have m42 : σ33 55 6 = (σ 55 6) := (f41 6 (by decide))
            refine jtopr m42 ?_
            refine lv_icmp_ge (tgt := 255) hx hb dX12_putsOn_119 (by decide) (fun c43 => ?_) (fun c43 => ?_)
            · have kc43 := jle c43 rfl rfl
              refine lv_iload_n hx hb dX12_putsOn_255 rfl (lv_at hl 2 rfl) ?_
              have p44 : jKept σ33 := jKept.fr (f40 75 (by decide)) (f40 76 (by decide)) (f40 77 (by decide)) hs_jKept
              exact hret x28 σ33 τ _ _ _ _ rfl ⟨rfl, (fun i hi => (f40 i (imp_203 i hi))), (fun i hi => (f41 i (imp_204 i hi))), p44, ⟨trivial, (by omega)⟩⟩ hP hS dX12_putsOn_256
            · have kc43 := jnle c43 rfl rfl
              refine lv_aload_n hx hb dX12_putsOn_122 rfl (lv_at hl 3 rfl) ?_
              refine lv_iload hx hb dX12_putsOn_123 (lv_at hl 0 rfl) ?_
              refine jcallV (As := [.int x30]) (rest := []) ⟨hx, hb, hml, hown, hts⟩ hK hP hA hS hZ (c_X12_mayBowl l D cI cL ad zz hJ σ33 τ x30 (x30.toInt) rfl (by omega)) cw_RX12_249 (jc_55 cI cL ad σ33 τ) rfl ⟨Nat.le_of_ble_eq_true rfl, Nat.le_of_ble_eq_true rfl⟩ rfl rfl rfl hl.1 rfl (Nat.le_of_ble_eq_true rfl) dX12_putsOn_125 ⟨Nat.zero_le _, Nat.zero_le _⟩ (fun r46 σ45 τ45 H locs h45 hP hS => ?_)
              obtain ⟨⟨rfl, rfl⟩, h45⟩ := h45
              rcases h45 with h47 | h48
              · obtain ⟨q50, k49⟩ := h47
                have q50 := q50.symm
                subst q50
                refine lv_if_ne (tgt := 134) hx hb dX12_putsOn_128 (by decide) (fun _ => ?_) (fun c => absurd c (by decide))
                refine lv_aload_n hx hb dX12_putsOn_134 rfl (lv_at hl 3 rfl) ?_
                refine va_get (D := D) hx hb hts inlX12 hown hK hP 55 (jc_55 cI cL ad σ33 τ) rfl 33 (by decide) (hts _ kw_7_18) (fun _ h9 => h9) rfl dX12_putsOn_135 ?_
                refine lv_iload_n hx hb dX12_putsOn_138 rfl (lv_at hl 4 rfl) ?_
                refine jald hx hb hK hP (jc_70 cI cL ad σ33 τ) (jin t1 (by omega) (by omega)) dX12_putsOn_139 ?_
                refine jtopr (y := (σ 70 a1.toNatClampNeg)) (by rw [f40 70 (by decide)]) ?_
                refine lv_bipush (v := 6) hx hb dX12_putsOn_140 (by decide) ?_
                refine lv_icmp_ne (tgt := 149) hx hb dX12_putsOn_142 (by decide) (fun c51 => ?_) (fun c51 => ?_)
                · have kc51 := jne c51 rfl jz_6
                  refine lv_iconst (v := 0) hx hb dX12_putsOn_149 (by decide) ?_
                  refine lv_istore (lv' := [(5, .int 0), (4, .int x30), (3, .int x29), (2, .int x28), (0, .ref (ad 55)), (1, .int a1)]) hx hb dX12_putsOn_150 hl (by decide) rfl (fun ls hl => ?_)
                  refine lv_iload hx hb dX12_putsOn_152 (lv_at hl 0 rfl) ?_
                  refine lv_if_ne (tgt := 167) hx hb dX12_putsOn_154 (by decide) (fun c => absurd (by decide) c) (fun _ => ?_)
                  refine lv_aload_n hx hb dX12_putsOn_157 rfl (lv_at hl 4 rfl) ?_
                  refine lv_iload_n hx hb dX12_putsOn_158 rfl (lv_at hl 5 rfl) ?_
                  refine lv_iload hx hb dX12_putsOn_159 (lv_at hl 1 rfl) ?_
                  have I52 : jI101 σ33 := jI101_fr (f41 4 (by decide)) (f41 5 (by decide)) (f40 56 (by decide)) (f40 57 (by decide)) (f40 58 (by decide)) (f40 59 (by decide)) hI101
                  have I53 : jI102 σ33 := jI102_fr (f41 6 (by decide)) (f40 60 (by decide)) (f40 61 (by decide)) hI102
                  have I54 : jI103 σ33 := jI103_fr (f41 9 (by decide)) hI103
                  have I55 : jI104 σ33 := jI104_fr (f41 10 (by decide)) (f41 12 (by decide)) (f41 13 (by decide)) (f40 62 (by decide)) (f40 67 (by decide)) hI104
                  have I56 : jI105 σ33 := jI105_fr (f41 15 (by decide)) (f40 65 (by decide)) hI105
                  have I57 : jI106 σ33 := jI106_fr (f41 32 (by decide)) (f40 70 (by decide)) (f40 71 (by decide)) (f40 72 (by decide)) hI106
                  have w58 : ∀ k : Nat, k < 4 → 0 ≤ (σ33 68 k).toInt ∧ (σ33 68 k).toInt ≤ 3 := (jrr_fr (f40 68 (by decide)) w20)
                  have z59 : (σ33 55 25).toInt = (σ 55 25).toInt := (congrArg Int32.toInt (show σ33 55 25 = (σ 55 25) from (f41 25 (by decide))))
                  refine jcallV (As := [.int a1, .int x30]) (rest := []) ⟨hx, hb, hml, hown, hts⟩ hK hP hA hS hZ (c_X12_worthBy l D cI cL ad zz hJ σ33 τ a1 (A1) t1 x30 (x30.toInt) rfl I52 I53 I54 I55 I56 I57 w58 (by omega) (by omega) (by omega)) cw_RX12_286 (jc_55 cI cL ad σ33 τ) rfl ⟨Nat.le_of_ble_eq_true rfl, Nat.le_of_ble_eq_true rfl⟩ rfl rfl rfl hl.1 rfl (Nat.le_of_ble_eq_true rfl) dX12_putsOn_161 ⟨Nat.zero_le _, Nat.zero_le _⟩ (fun r61 σ60 τ60 H locs h60 hP hS => ?_)
                  obtain ⟨rfl, f62, f63, h60⟩ := h60
                  refine lv_goto (tgt := 217) hx hb dX12_putsOn_164 (by decide) ?_
                  refine lv_istore (lv' := [(6, .int r61), (5, .int 0), (4, .int x30), (3, .int x29), (2, .int x28), (0, .ref (ad 55)), (1, .int a1)]) hx hb dX12_putsOn_217 hl (by decide) rfl (fun ls hl => ?_)
                  refine lv_iload_n hx hb dX12_putsOn_219 rfl (lv_at hl 4 rfl) ?_
                  refine lv_if_lt (tgt := 243) hx hb dX12_putsOn_220 (by decide) (fun c64 => ?_) (fun c64 => ?_)
                  · have kc64 := jlt c64 rfl jz_0
                    refine lv_iload hx hb dX12_putsOn_243 (lv_at hl 2 rfl) ?_
                    refine lv_istore_n (lv' := [(2, .int x30), (6, .int r61), (5, .int 0), (4, .int x30), (3, .int x29), (0, .ref (ad 55)), (1, .int a1)]) hx hb dX12_putsOn_245 rfl hl (by decide) rfl (fun ls hl => ?_)
                    refine lv_iload hx hb dX12_putsOn_246 (lv_at hl 1 rfl) ?_
                    refine lv_istore_n (lv' := [(3, .int r61), (2, .int x30), (6, .int r61), (5, .int 0), (4, .int x30), (0, .ref (ad 55)), (1, .int a1)]) hx hb dX12_putsOn_248 rfl hl (by decide) rfl (fun ls hl => ?_)
                    obtain ⟨x65, ex65⟩ : ∃ y : Int32, y = x30 + 1 := ⟨_, rfl⟩
                    have tx65 : x65.toInt = x30.toInt + 1 := (jadd ex65 rfl jz_1 (by omega) (by omega)).trans (by omega)
                    refine lv_iinc (v := x65) (lv' := [(4, .int x65), (3, .int r61), (2, .int x30), (6, .int r61), (5, .int 0), (0, .ref (ad 55)), (1, .int a1)]) hx hb dX12_putsOn_249 hl (k := 4) rfl (by rw [ex65]; rfl) (by decide) rfl (fun ls hl => ?_)
                    refine lv_goto (tgt := 113) hx hb dX12_putsOn_252 (by decide) ?_
                    exact ihlp26 x30 r61 x65 σ60 _ _ ls (by have h92 := tx65; omega) (by have h92 := tx65; omega) (by have h92 := tx65; omega) (by have h92 := tx65; omega) (by have h92 := tx65; omega) (by have h92 := tx65; omega) (fun i hi => ((f62 i hi).trans (f40 i hi))) (fun i hi => ((f63 i hi).trans (f41 i hi)))   hP hS (lv_sub hl [0, 1, 2, 5, 6] rfl)
                  · have kc64 := jnlt c64 rfl jz_0
                    refine lv_iload hx hb dX12_putsOn_223 (lv_at hl 1 rfl) ?_
                    refine lv_if_eq (tgt := 237) hx hb dX12_putsOn_225 (by decide) (fun _ => ?_) (fun c => absurd (by decide) c)
                    refine lv_iload hx hb dX12_putsOn_237 (lv_at hl 0 rfl) ?_
                    refine lv_iload_n hx hb dX12_putsOn_239 rfl (lv_at hl 3 rfl) ?_
                    refine lv_icmp_ge (tgt := 249) hx hb dX12_putsOn_240 (by decide) (fun c66 => ?_) (fun c66 => ?_)
                    · have kc66 := jle c66 rfl rfl
                      obtain ⟨x67, ex67⟩ : ∃ y : Int32, y = x30 + 1 := ⟨_, rfl⟩
                      have tx67 : x67.toInt = x30.toInt + 1 := (jadd ex67 rfl jz_1 (by omega) (by omega)).trans (by omega)
                      refine lv_iinc (v := x67) (lv' := [(4, .int x67), (6, .int r61), (5, .int 0), (3, .int x29), (2, .int x28), (0, .ref (ad 55)), (1, .int a1)]) hx hb dX12_putsOn_249 hl (k := 2) rfl (by rw [ex67]; rfl) (by decide) rfl (fun ls hl => ?_)
                      refine lv_goto (tgt := 113) hx hb dX12_putsOn_252 (by decide) ?_
                      exact ihlp26 x28 x29 x67 σ60 _ _ ls (by have h92 := tx67; omega) (by have h92 := tx67; omega) (by have h92 := tx67; omega) (by have h92 := tx67; omega) (by have h92 := tx67; omega) (by have h92 := tx67; omega) (fun i hi => ((f62 i hi).trans (f40 i hi))) (fun i hi => ((f63 i hi).trans (f41 i hi)))   hP hS (lv_sub hl [0, 3, 4, 5, 6] rfl)
                    · have kc66 := jnle c66 rfl rfl
                      refine lv_iload hx hb dX12_putsOn_243 (lv_at hl 2 rfl) ?_
                      refine lv_istore_n (lv' := [(2, .int x30), (6, .int r61), (5, .int 0), (4, .int x30), (3, .int x29), (0, .ref (ad 55)), (1, .int a1)]) hx hb dX12_putsOn_245 rfl hl (by decide) rfl (fun ls hl => ?_)
                      refine lv_iload hx hb dX12_putsOn_246 (lv_at hl 1 rfl) ?_
                      refine lv_istore_n (lv' := [(3, .int r61), (2, .int x30), (6, .int r61), (5, .int 0), (4, .int x30), (0, .ref (ad 55)), (1, .int a1)]) hx hb dX12_putsOn_248 rfl hl (by decide) rfl (fun ls hl => ?_)
                      obtain ⟨x68, ex68⟩ : ∃ y : Int32, y = x30 + 1 := ⟨_, rfl⟩
                      have tx68 : x68.toInt = x30.toInt + 1 := (jadd ex68 rfl jz_1 (by omega) (by omega)).trans (by omega)
                      refine lv_iinc (v := x68) (lv' := [(4, .int x68), (3, .int r61), (2, .int x30), (6, .int r61), (5, .int 0), (0, .ref (ad 55)), (1, .int a1)]) hx hb dX12_putsOn_249 hl (k := 4) rfl (by rw [ex68]; rfl) (by decide) rfl (fun ls hl => ?_)
                      refine lv_goto (tgt := 113) hx hb dX12_putsOn_252 (by decide) ?_
                      exact ihlp26 x30 r61 x68 σ60 _ _ ls (by have h92 := tx68; omega) (by have h92 := tx68; omega) (by have h92 := tx68; omega) (by have h92 := tx68; omega) (by have h92 := tx68; omega) (by have h92 := tx68; omega) (fun i hi => ((f62 i hi).trans (f40 i hi))) (fun i hi => ((f63 i hi).trans (f41 i hi)))   hP hS (lv_sub hl [0, 1, 2, 5, 6] rfl)
                · have kc51 := jeq c51 rfl jz_6
                  refine lv_iconst (v := 1) hx hb dX12_putsOn_145 (by decide) ?_
                  refine lv_goto (tgt := 150) hx hb dX12_putsOn_146 (by decide) ?_
                  refine lv_istore (lv' := [(5, .int 1), (4, .int x30), (3, .int x29), (2, .int x28), (0, .ref (ad 55)), (1, .int a1)]) hx hb dX12_putsOn_150 hl (by decide) rfl (fun ls hl => ?_)
                  refine lv_iload hx hb dX12_putsOn_152 (lv_at hl 0 rfl) ?_
                  refine lv_if_ne (tgt := 167) hx hb dX12_putsOn_154 (by decide) (fun _ => ?_) (fun c => absurd c (by decide))
                  refine lv_aload_n hx hb dX12_putsOn_167 rfl (lv_at hl 4 rfl) ?_
                  refine va_get (D := D) hx hb hts inlX12 hown hK hP 55 (jc_55 cI cL ad σ33 τ) rfl 17 (by decide) (hts _ kw_7_11) (fun _ h9 => h9) rfl dX12_putsOn_168 ?_
                  refine lv_iconst (v := 0) hx hb dX12_putsOn_171 (by decide) ?_
                  refine jald hx hb hK hP (jc_65 cI cL ad σ33 τ) (jin jz_0 (by omega) (by omega)) dX12_putsOn_172 ?_
                  refine jtopr (y := σ33 65 0) rfl ?_
                  have m69 : σ33 65 0 = (σ 65 0) := (congrFun (f40 65 (by decide)) 0)
                  refine jtopr m69 ?_
                  have w70 : ∀ k : Nat, k < 2 → (-1) ≤ (σ33 65 k).toInt ∧ (σ33 65 k).toInt ≤ 80 := (jrr_fr (f40 65 (by decide)) w10)
                  have g71 := w70 0 (by decide)
                  rw [m69] at g71
                  refine lv_if_ge (tgt := 180) hx hb dX12_putsOn_173 (by decide) (fun c72 => ?_) (fun c72 => ?_)
                  · have kc72 := jle c72 jz_0 rfl
                    refine lv_aload_n hx hb dX12_putsOn_180 rfl (lv_at hl 4 rfl) ?_
                    refine lv_iconst (v := 0) hx hb dX12_putsOn_181 (by decide) ?_
                    refine lv_iload hx hb dX12_putsOn_182 (lv_at hl 1 rfl) ?_
                    refine lv_aload_n hx hb dX12_putsOn_184 rfl (lv_at hl 4 rfl) ?_
                    refine va_get (D := D) hx hb hts inlX12 hown hK hP 55 (jc_55 cI cL ad σ33 τ) rfl 11 (by decide) (hts _ kw_7_8) (fun _ h9 => h9) rfl dX12_putsOn_185 ?_
                    refine lv_aload_n hx hb dX12_putsOn_188 rfl (lv_at hl 4 rfl) ?_
                    refine va_get (D := D) hx hb hts inlX12 hown hK hP 55 (jc_55 cI cL ad σ33 τ) rfl 25 (by decide) (hts _ kw_23_6) (fun _ h9 => h9) rfl dX12_putsOn_189 ?_
                    have m73 : σ33 55 25 = (σ 55 25) := (f41 25 (by decide))
                    refine jtopr m73 ?_
                    refine jald hx hb hK hP (jc_62 cI cL ad σ33 τ) (jin rfl (by omega) (by omega)) dX12_putsOn_192 ?_
                    have w74 : ∀ k : Nat, k < 8 → 0 ≤ (σ33 62 k).toInt ∧ (σ33 62 k).toInt ≤ 3 := (jrr_fr (f40 62 (by decide)) w7)
                    have g75 := w74 _ (jnat (x := (σ 55 25)) rfl (n := 8) (by omega) (by decide))
                    refine jtopr (y := (σ 62 (σ 55 25).toNatClampNeg)) (by rw [f40 62 (by decide)]) ?_
                    rw [f40 62 (by decide)] at g75
                    refine lv_aload_n hx hb dX12_putsOn_193 rfl (lv_at hl 4 rfl) ?_
                    refine lv_iload hx hb dX12_putsOn_194 (lv_at hl 1 rfl) ?_
                    refine lv_aload_n hx hb dX12_putsOn_196 rfl (lv_at hl 4 rfl) ?_
                    refine va_get (D := D) hx hb hts inlX12 hown hK hP 55 (jc_55 cI cL ad σ33 τ) rfl 11 (by decide) (hts _ kw_7_8) (fun _ h9 => h9) rfl dX12_putsOn_197 ?_
                    refine lv_aload_n hx hb dX12_putsOn_200 rfl (lv_at hl 4 rfl) ?_
                    refine va_get (D := D) hx hb hts inlX12 hown hK hP 55 (jc_55 cI cL ad σ33 τ) rfl 25 (by decide) (hts _ kw_23_6) (fun _ h9 => h9) rfl dX12_putsOn_201 ?_
                    refine jtopr m73 ?_
                    refine jald hx hb hK hP (jc_62 cI cL ad σ33 τ) (jin rfl (by omega) (by omega)) dX12_putsOn_204 ?_
                    refine jtopr (y := (σ 62 (σ 55 25).toNatClampNeg)) (by rw [f40 62 (by decide)]) ?_
                    have I76 : jI101 σ33 := jI101_fr (f41 4 (by decide)) (f41 5 (by decide)) (f40 56 (by decide)) (f40 57 (by decide)) (f40 58 (by decide)) (f40 59 (by decide)) hI101
                    have I77 : jI102 σ33 := jI102_fr (f41 6 (by decide)) (f40 60 (by decide)) (f40 61 (by decide)) hI102
                    have I78 : jI103 σ33 := jI103_fr (f41 9 (by decide)) hI103
                    have I79 : jI105 σ33 := jI105_fr (f41 15 (by decide)) (f40 65 (by decide)) hI105
                    have w80 : ∀ k : Nat, k < 4 → 0 ≤ (σ33 68 k).toInt ∧ (σ33 68 k).toInt ≤ 3 := (jrr_fr (f40 68 (by decide)) w20)
                    refine jcallV (As := [.int x30, .int (σ 62 (σ 55 25).toNatClampNeg)]) (rest := [.int (σ 62 (σ 55 25).toNatClampNeg), .int x30, .int 0, .ref (ad 55)]) ⟨hx, hb, hml, hown, hts⟩ hK hP hA hS hZ (c_X12_outBy l D cI cL ad zz hJ σ33 τ x30 (x30.toInt) rfl (σ 62 (σ 55 25).toNatClampNeg) ((σ 62 (σ 55 25).toNatClampNeg).toInt) rfl I76 I77 I78 I79 w80 (by omega) (by omega)) cw_RX12_259 (jc_55 cI cL ad σ33 τ) rfl ⟨Nat.le_of_ble_eq_true rfl, Nat.le_of_ble_eq_true rfl⟩ rfl rfl rfl hl.1 rfl (Nat.le_of_ble_eq_true rfl) dX12_putsOn_205 ⟨Nat.zero_le _, Nat.zero_le _⟩ (fun r82 σ81 τ81 H locs h81 hP hS => ?_)
                    obtain ⟨rfl, f83, f84, h81⟩ := h81
                    have h85 := h81
                    obtain ⟨q87, k86⟩ := h85
                    refine lv_aload_n hx hb dX12_putsOn_208 rfl (lv_at hl 4 rfl) ?_
                    refine va_get (D := D) hx hb hts inlX12 hown hK hP 55 (jc_55 cI cL ad σ81 τ) rfl 36 (by decide) (hts _ kw_7_21) (fun _ h9 => h9) rfl dX12_putsOn_209 ?_
                    refine lv_iload_n hx hb dX12_putsOn_212 rfl (lv_at hl 5 rfl) ?_
                    refine jald hx hb hK hP (jc_73 cI cL ad σ81 τ) (jin t1 (by omega) (by omega)) dX12_putsOn_213 ?_
                    refine jtopr (y := (σ 73 a1.toNatClampNeg)) (by rw [f83 73 (by decide), f40 73 (by decide)]) ?_
                    have I88 : jI105 σ81 := jI105_fr (f84 15 (by decide)) (f83 65 (by decide)) I79
                    have z89 : (σ81 65 0).toInt = (σ 65 0).toInt := (congrArg Int32.toInt (show σ81 65 0 = (σ 65 0) from ((congrFun (f83 65 (by decide)) 0).trans m69)))
                    refine jcallV (As := [.int 0, .int x30, .int (σ 62 (σ 55 25).toNatClampNeg), .int r82, .int (σ 73 a1.toNatClampNeg)]) (rest := []) ⟨hx, hb, hml, hown, hts⟩ hK hP hA hS hZ (c_X12_textGives_0 l D cI cL ad zz hJ σ81 τ x30 (x30.toInt) rfl (σ 62 (σ 55 25).toNatClampNeg) ((σ 62 (σ 55 25).toNatClampNeg).toInt) rfl r82 (r82.toInt) rfl (σ 73 a1.toNatClampNeg) ((σ 73 a1.toNatClampNeg).toInt) rfl I88 (by omega) (by omega)) cw_RX12_252 (jc_55 cI cL ad σ81 τ) rfl ⟨Nat.le_of_ble_eq_true rfl, Nat.le_of_ble_eq_true rfl⟩ rfl rfl rfl hl.1 rfl (Nat.le_of_ble_eq_true rfl) dX12_putsOn_214 ⟨Nat.zero_le _, Nat.zero_le _⟩ (fun r91 σ90 τ90 H locs h90 hP hS => ?_)
                    obtain ⟨rfl, f92, f93, h90⟩ := h90
                    refine lv_istore (lv' := [(6, .int r91), (5, .int 1), (4, .int x30), (3, .int x29), (2, .int x28), (0, .ref (ad 55)), (1, .int a1)]) hx hb dX12_putsOn_217 hl (by decide) rfl (fun ls hl => ?_)
                    refine lv_iload_n hx hb dX12_putsOn_219 rfl (lv_at hl 4 rfl) ?_
                    refine lv_if_lt (tgt := 243) hx hb dX12_putsOn_220 (by decide) (fun c94 => ?_) (fun c94 => ?_)
                    · have kc94 := jlt c94 rfl jz_0
                      refine lv_iload hx hb dX12_putsOn_243 (lv_at hl 2 rfl) ?_
                      refine lv_istore_n (lv' := [(2, .int x30), (6, .int r91), (5, .int 1), (4, .int x30), (3, .int x29), (0, .ref (ad 55)), (1, .int a1)]) hx hb dX12_putsOn_245 rfl hl (by decide) rfl (fun ls hl => ?_)
                      refine lv_iload hx hb dX12_putsOn_246 (lv_at hl 1 rfl) ?_
                      refine lv_istore_n (lv' := [(3, .int r91), (2, .int x30), (6, .int r91), (5, .int 1), (4, .int x30), (0, .ref (ad 55)), (1, .int a1)]) hx hb dX12_putsOn_248 rfl hl (by decide) rfl (fun ls hl => ?_)
                      obtain ⟨x95, ex95⟩ : ∃ y : Int32, y = x30 + 1 := ⟨_, rfl⟩
                      have tx95 : x95.toInt = x30.toInt + 1 := (jadd ex95 rfl jz_1 (by omega) (by omega)).trans (by omega)
                      refine lv_iinc (v := x95) (lv' := [(4, .int x95), (3, .int r91), (2, .int x30), (6, .int r91), (5, .int 1), (0, .ref (ad 55)), (1, .int a1)]) hx hb dX12_putsOn_249 hl (k := 4) rfl (by rw [ex95]; rfl) (by decide) rfl (fun ls hl => ?_)
                      refine lv_goto (tgt := 113) hx hb dX12_putsOn_252 (by decide) ?_
                      exact ihlp26 x30 r91 x95 σ90 _ _ ls (by have h92 := tx95; omega) (by have h92 := tx95; omega) (by have h92 := tx95; omega) (by have h92 := tx95; omega) (by have h92 := tx95; omega) (by have h92 := tx95; omega) (fun i hi => ((f92 i hi).trans ((f83 i hi).trans (f40 i hi)))) (fun i hi => ((f93 i hi).trans ((f84 i hi).trans (f41 i hi))))   hP hS (lv_sub hl [0, 1, 2, 5, 6] rfl)
                    · have kc94 := jnlt c94 rfl jz_0
                      refine lv_iload hx hb dX12_putsOn_223 (lv_at hl 1 rfl) ?_
                      refine lv_if_eq (tgt := 237) hx hb dX12_putsOn_225 (by decide) (fun c => absurd c (by decide)) (fun _ => ?_)
                      refine lv_iload hx hb dX12_putsOn_228 (lv_at hl 0 rfl) ?_
                      refine lv_iload_n hx hb dX12_putsOn_230 rfl (lv_at hl 3 rfl) ?_
                      refine lv_icmp_le (tgt := 249) hx hb dX12_putsOn_231 (by decide) (fun c96 => ?_) (fun c96 => ?_)
                      · have kc96 := jle c96 rfl rfl
                        obtain ⟨x97, ex97⟩ : ∃ y : Int32, y = x30 + 1 := ⟨_, rfl⟩
                        have tx97 : x97.toInt = x30.toInt + 1 := (jadd ex97 rfl jz_1 (by omega) (by omega)).trans (by omega)
                        refine lv_iinc (v := x97) (lv' := [(4, .int x97), (6, .int r91), (5, .int 1), (3, .int x29), (2, .int x28), (0, .ref (ad 55)), (1, .int a1)]) hx hb dX12_putsOn_249 hl (k := 2) rfl (by rw [ex97]; rfl) (by decide) rfl (fun ls hl => ?_)
                        refine lv_goto (tgt := 113) hx hb dX12_putsOn_252 (by decide) ?_
                        exact ihlp26 x28 x29 x97 σ90 _ _ ls (by have h92 := tx97; omega) (by have h92 := tx97; omega) (by have h92 := tx97; omega) (by have h92 := tx97; omega) (by have h92 := tx97; omega) (by have h92 := tx97; omega) (fun i hi => ((f92 i hi).trans ((f83 i hi).trans (f40 i hi)))) (fun i hi => ((f93 i hi).trans ((f84 i hi).trans (f41 i hi))))   hP hS (lv_sub hl [0, 3, 4, 5, 6] rfl)
                      · have kc96 := jnle c96 rfl rfl
                        refine lv_goto (tgt := 243) hx hb dX12_putsOn_234 (by decide) ?_
                        refine lv_iload hx hb dX12_putsOn_243 (lv_at hl 2 rfl) ?_
                        refine lv_istore_n (lv' := [(2, .int x30), (6, .int r91), (5, .int 1), (4, .int x30), (3, .int x29), (0, .ref (ad 55)), (1, .int a1)]) hx hb dX12_putsOn_245 rfl hl (by decide) rfl (fun ls hl => ?_)
                        refine lv_iload hx hb dX12_putsOn_246 (lv_at hl 1 rfl) ?_
                        refine lv_istore_n (lv' := [(3, .int r91), (2, .int x30), (6, .int r91), (5, .int 1), (4, .int x30), (0, .ref (ad 55)), (1, .int a1)]) hx hb dX12_putsOn_248 rfl hl (by decide) rfl (fun ls hl => ?_)
                        obtain ⟨x98, ex98⟩ : ∃ y : Int32, y = x30 + 1 := ⟨_, rfl⟩
                        have tx98 : x98.toInt = x30.toInt + 1 := (jadd ex98 rfl jz_1 (by omega) (by omega)).trans (by omega)
                        refine lv_iinc (v := x98) (lv' := [(4, .int x98), (3, .int r91), (2, .int x30), (6, .int r91), (5, .int 1), (0, .ref (ad 55)), (1, .int a1)]) hx hb dX12_putsOn_249 hl (k := 4) rfl (by rw [ex98]; rfl) (by decide) rfl (fun ls hl => ?_)
                        refine lv_goto (tgt := 113) hx hb dX12_putsOn_252 (by decide) ?_
                        exact ihlp26 x30 r91 x98 σ90 _ _ ls (by have h92 := tx98; omega) (by have h92 := tx98; omega) (by have h92 := tx98; omega) (by have h92 := tx98; omega) (by have h92 := tx98; omega) (by have h92 := tx98; omega) (fun i hi => ((f92 i hi).trans ((f83 i hi).trans (f40 i hi)))) (fun i hi => ((f93 i hi).trans ((f84 i hi).trans (f41 i hi))))   hP hS (lv_sub hl [0, 1, 2, 5, 6] rfl)
                  · have kc72 := jnle c72 jz_0 rfl
                    refine lv_iconst (v := 0) hx hb dX12_putsOn_176 (by decide) ?_
                    refine lv_goto (tgt := 217) hx hb dX12_putsOn_177 (by decide) ?_
                    refine lv_istore (lv' := [(6, .int 0), (5, .int 1), (4, .int x30), (3, .int x29), (2, .int x28), (0, .ref (ad 55)), (1, .int a1)]) hx hb dX12_putsOn_217 hl (by decide) rfl (fun ls hl => ?_)
                    refine lv_iload_n hx hb dX12_putsOn_219 rfl (lv_at hl 4 rfl) ?_
                    refine lv_if_lt (tgt := 243) hx hb dX12_putsOn_220 (by decide) (fun c99 => ?_) (fun c99 => ?_)
                    · have kc99 := jlt c99 rfl jz_0
                      refine lv_iload hx hb dX12_putsOn_243 (lv_at hl 2 rfl) ?_
                      refine lv_istore_n (lv' := [(2, .int x30), (6, .int 0), (5, .int 1), (4, .int x30), (3, .int x29), (0, .ref (ad 55)), (1, .int a1)]) hx hb dX12_putsOn_245 rfl hl (by decide) rfl (fun ls hl => ?_)
                      refine lv_iload hx hb dX12_putsOn_246 (lv_at hl 1 rfl) ?_
                      refine lv_istore_n (lv' := [(3, .int 0), (2, .int x30), (6, .int 0), (5, .int 1), (4, .int x30), (0, .ref (ad 55)), (1, .int a1)]) hx hb dX12_putsOn_248 rfl hl (by decide) rfl (fun ls hl => ?_)
                      obtain ⟨x100, ex100⟩ : ∃ y : Int32, y = x30 + 1 := ⟨_, rfl⟩
                      have tx100 : x100.toInt = x30.toInt + 1 := (jadd ex100 rfl jz_1 (by omega) (by omega)).trans (by omega)
                      refine lv_iinc (v := x100) (lv' := [(4, .int x100), (3, .int 0), (2, .int x30), (6, .int 0), (5, .int 1), (0, .ref (ad 55)), (1, .int a1)]) hx hb dX12_putsOn_249 hl (k := 4) rfl (by rw [ex100]; rfl) (by decide) rfl (fun ls hl => ?_)
                      refine lv_goto (tgt := 113) hx hb dX12_putsOn_252 (by decide) ?_
                      exact ihlp26 x30 0 x100 σ33 _ _ ls (by have h91 := jz_0; have h92 := tx100; omega) (by have h91 := jz_0; have h92 := tx100; omega) (by have h91 := jz_0; have h92 := tx100; omega) (by have h91 := jz_0; have h92 := tx100; omega) (by have h91 := jz_0; have h92 := tx100; omega) (by have h91 := jz_0; have h92 := tx100; omega) (fun i hi => (f40 i hi)) (fun i hi => (f41 i hi))   hP hS (lv_sub hl [0, 1, 2, 5, 6] rfl)
                    · have kc99 := jnlt c99 rfl jz_0
                      refine lv_iload hx hb dX12_putsOn_223 (lv_at hl 1 rfl) ?_
                      refine lv_if_eq (tgt := 237) hx hb dX12_putsOn_225 (by decide) (fun c => absurd c (by decide)) (fun _ => ?_)
                      refine lv_iload hx hb dX12_putsOn_228 (lv_at hl 0 rfl) ?_
                      refine lv_iload_n hx hb dX12_putsOn_230 rfl (lv_at hl 3 rfl) ?_
                      refine lv_icmp_le (tgt := 249) hx hb dX12_putsOn_231 (by decide) (fun c101 => ?_) (fun c101 => ?_)
                      · have kc101 := jle c101 jz_0 rfl
                        obtain ⟨x102, ex102⟩ : ∃ y : Int32, y = x30 + 1 := ⟨_, rfl⟩
                        have tx102 : x102.toInt = x30.toInt + 1 := (jadd ex102 rfl jz_1 (by omega) (by omega)).trans (by omega)
                        refine lv_iinc (v := x102) (lv' := [(4, .int x102), (6, .int 0), (5, .int 1), (3, .int x29), (2, .int x28), (0, .ref (ad 55)), (1, .int a1)]) hx hb dX12_putsOn_249 hl (k := 2) rfl (by rw [ex102]; rfl) (by decide) rfl (fun ls hl => ?_)
                        refine lv_goto (tgt := 113) hx hb dX12_putsOn_252 (by decide) ?_
                        exact ihlp26 x28 x29 x102 σ33 _ _ ls (by have h92 := tx102; omega) (by have h92 := tx102; omega) (by have h92 := tx102; omega) (by have h92 := tx102; omega) (by have h92 := tx102; omega) (by have h92 := tx102; omega) (fun i hi => (f40 i hi)) (fun i hi => (f41 i hi))   hP hS (lv_sub hl [0, 3, 4, 5, 6] rfl)
                      · have kc101 := jnle c101 jz_0 rfl
                        refine lv_goto (tgt := 243) hx hb dX12_putsOn_234 (by decide) ?_
                        refine lv_iload hx hb dX12_putsOn_243 (lv_at hl 2 rfl) ?_
                        refine lv_istore_n (lv' := [(2, .int x30), (6, .int 0), (5, .int 1), (4, .int x30), (3, .int x29), (0, .ref (ad 55)), (1, .int a1)]) hx hb dX12_putsOn_245 rfl hl (by decide) rfl (fun ls hl => ?_)
                        refine lv_iload hx hb dX12_putsOn_246 (lv_at hl 1 rfl) ?_
                        refine lv_istore_n (lv' := [(3, .int 0), (2, .int x30), (6, .int 0), (5, .int 1), (4, .int x30), (0, .ref (ad 55)), (1, .int a1)]) hx hb dX12_putsOn_248 rfl hl (by decide) rfl (fun ls hl => ?_)
                        obtain ⟨x103, ex103⟩ : ∃ y : Int32, y = x30 + 1 := ⟨_, rfl⟩
                        have tx103 : x103.toInt = x30.toInt + 1 := (jadd ex103 rfl jz_1 (by omega) (by omega)).trans (by omega)
                        refine lv_iinc (v := x103) (lv' := [(4, .int x103), (3, .int 0), (2, .int x30), (6, .int 0), (5, .int 1), (0, .ref (ad 55)), (1, .int a1)]) hx hb dX12_putsOn_249 hl (k := 4) rfl (by rw [ex103]; rfl) (by decide) rfl (fun ls hl => ?_)
                        refine lv_goto (tgt := 113) hx hb dX12_putsOn_252 (by decide) ?_
                        exact ihlp26 x30 0 x103 σ33 _ _ ls (by have h91 := jz_0; have h92 := tx103; omega) (by have h91 := jz_0; have h92 := tx103; omega) (by have h91 := jz_0; have h92 := tx103; omega) (by have h91 := jz_0; have h92 := tx103; omega) (by have h91 := jz_0; have h92 := tx103; omega) (by have h91 := jz_0; have h92 := tx103; omega) (fun i hi => (f40 i hi)) (fun i hi => (f41 i hi))   hP hS (lv_sub hl [0, 1, 2, 5, 6] rfl)
              · obtain ⟨q105, k104⟩ := h48
                have q105 := q105.symm
                subst q105
                have e106 : jmb σ33 x30 = jmb σ x30 := (jmb_fr (f41 27 (by decide)) (f41 30 (by decide)) (f41 31 (by decide)) (f40 56 (by decide)) (f40 69 (by decide)) x30)
                have n107 : ¬ x30 = B0 := fun h => absurd ((hB0).symm.trans (by rw [← h]; exact e106.symm.trans k104) : (1 : Int32) = 0) (by decide)
                have k108 := jne n107 rfl rfl
                refine lv_if_ne (tgt := 134) hx hb dX12_putsOn_128 (by decide) (fun c => absurd (by decide) c) (fun _ => ?_)
                refine lv_goto (tgt := 249) hx hb dX12_putsOn_131 (by decide) ?_
                obtain ⟨x109, ex109⟩ : ∃ y : Int32, y = x30 + 1 := ⟨_, rfl⟩
                have tx109 : x109.toInt = x30.toInt + 1 := (jadd ex109 rfl jz_1 (by omega) (by omega)).trans (by omega)
                refine lv_iinc (v := x109) (lv' := [(4, .int x109), (3, .int x29), (2, .int x28), (0, .ref (ad 55)), (1, .int a1)]) hx hb dX12_putsOn_249 hl (k := 0) rfl (by rw [ex109]; rfl) (by decide) rfl (fun ls hl => ?_)
                refine lv_goto (tgt := 113) hx hb dX12_putsOn_252 (by decide) ?_
                exact ihlp26 x28 x29 x109 σ33 _ _ ls (by have h92 := tx109; omega) (by have h92 := tx109; omega) (by have h92 := tx109; omega) (by have h92 := tx109; omega) (by have h92 := tx109; omega) (by have h92 := tx109; omega) (fun i hi => (f40 i hi)) (fun i hi => (f41 i hi))   hP hS (lv_sub hl [0, 1, 2, 3, 4] rfl)
        exact lp26 1000000 (-1) 0 0 σ _ _ ls (by have h90 := jz_m1; have h91 := jz_0; have h92 := jz_0; omega) (by have h90 := jz_m1; have h91 := jz_0; have h92 := jz_0; omega) (by have h90 := jz_m1; have h91 := jz_0; have h92 := jz_0; omega) (by have h90 := jz_m1; have h91 := jz_0; have h92 := jz_0; omega) (by have h90 := jz_m1; have h91 := jz_0; have h92 := jz_0; omega) (by have h90 := jz_m1; have h91 := jz_0; have h92 := jz_0; omega) (fun _ _ => rfl) (fun _ _ => rfl)   hP hS hl
      · have kc25 := jeq c25 rfl jz_2
        refine lv_aload_n hx hb dX12_putsOn_96 rfl (lv_at hl 0 rfl) ?_
        have p110 : jmb σ B0 = 1 := (jmb_fr rfl rfl rfl rfl rfl B0).trans hB0
        refine jcallV (As := []) (rest := []) ⟨hx, hb, hml, hown, hts⟩ hK hP hA hS hZ ((c_X12_bests l D cI cL ad zz hJ 8).2.2 σ τ B0 p110 hI101 hI102 hI103 hI104 hI105 hI106 hI120 hs_jKept (by omega) (by omega) (by omega) (by omega)) cw_RX12_280 (jc_55 cI cL ad σ τ) rfl ⟨Nat.le_of_ble_eq_true rfl, Nat.le_of_ble_eq_true rfl⟩ rfl rfl rfl hl.1 rfl (Nat.le_of_ble_eq_true rfl) dX12_putsOn_97 ⟨Nat.zero_le _, Nat.zero_le _⟩ (fun r112 σ111 τ111 H locs h111 hP hS => ?_)
        obtain ⟨rfl, f113, f114, p115, h111⟩ := h111
        obtain ⟨k116, h111⟩ := h111
        have h117 := h111
        obtain ⟨q119, k118⟩ := h117
        refine lv_istore_n (lv' := [(2, .int r112), (0, .ref (ad 55)), (1, .int a1)]) hx hb dX12_putsOn_100 rfl hl (by decide) rfl (fun ls hl => ?_)
        refine lv_aload_n hx hb dX12_putsOn_101 rfl (lv_at hl 1 rfl) ?_
        refine va_get (D := D) hx hb hts inlX12 hown hK hP 55 (jc_55 cI cL ad σ111 τ) rfl 37 (by decide) (hts _ kw_33_15) (fun _ h9 => h9) rfl dX12_putsOn_102 ?_
        exact hret (σ111 55 37) σ111 τ _ _ _ _ rfl ⟨rfl, (fun i hi => (f113 i hi)), (fun i hi => (f114 i hi)), p115, ⟨trivial, (by omega)⟩⟩ hP hS dX12_putsOn_105
    · have kc24 := jeq c24 rfl jz_4
      refine lv_aload_n hx hb dX12_putsOn_27 rfl (lv_at hl 0 rfl) ?_
      refine va_get (D := D) hx hb hts inlX12 hown hK hP 55 (jc_55 cI cL ad σ τ) rfl 34 (by decide) (hts _ kw_7_19) (fun _ h9 => h9) rfl dX12_putsOn_28 ?_
      refine lv_iload_n hx hb dX12_putsOn_31 rfl (lv_at hl 1 rfl) ?_
      refine jald hx hb hK hP (jc_71 cI cL ad σ τ) (jin t1 (by omega) (by omega)) dX12_putsOn_32 ?_
      have g120 := w13 _ (jnat (x := a1) t1 (n := 20) (by omega) (by decide))
      refine jtopr (y := (σ 71 a1.toNatClampNeg)) rfl ?_
      refine lv_if_le (tgt := 61) hx hb dX12_putsOn_33 (by decide) (fun c121 => ?_) (fun c121 => ?_)
      · have kc121 := jle c121 rfl jz_0
        refine lv_iconst (v := (-1)) hx hb dX12_putsOn_61 (by decide) ?_
        refine lv_istore_n (lv' := [(2, .int (-1)), (0, .ref (ad 55)), (1, .int a1)]) hx hb dX12_putsOn_62 rfl hl (by decide) rfl (fun ls hl => ?_)
        refine lv_aload_n hx hb dX12_putsOn_63 rfl (lv_at hl 1 rfl) ?_
        refine lv_iload_n hx hb dX12_putsOn_64 rfl (lv_at hl 2 rfl) ?_
        refine lv_iload_n hx hb dX12_putsOn_65 rfl (lv_at hl 0 rfl) ?_
        refine lv_if_lt (tgt := 81) hx hb dX12_putsOn_66 (by decide) (fun _ => ?_) (fun c => absurd (by decide) c)
        refine lv_iconst (v := (-1)) hx hb dX12_putsOn_81 (by decide) ?_
        have p122 : jmb σ B0 = 1 := (jmb_fr rfl rfl rfl rfl rfl B0).trans hB0
        refine jcallV (As := [.int a1, .int (-1)]) (rest := []) ⟨hx, hb, hml, hown, hts⟩ hK hP hA hS hZ (c_X12_turnOf l D cI cL ad zz hJ σ τ B0 p122 a1 (A1) t1 (-1) ((-1)) jz_m1 hI102 hI106 (by omega) (by omega) (by omega) (by omega)) cw_RX12_277 (jc_55 cI cL ad σ τ) rfl ⟨Nat.le_of_ble_eq_true rfl, Nat.le_of_ble_eq_true rfl⟩ rfl rfl rfl hl.1 rfl (Nat.le_of_ble_eq_true rfl) dX12_putsOn_82 ⟨Nat.zero_le _, Nat.zero_le _⟩ (fun r124 σ123 τ123 H locs h123 hP hS => ?_)
        obtain ⟨⟨rfl, rfl⟩, h123⟩ := h123
        have h125 := h123
        obtain ⟨q127, k126⟩ := h125
        exact hret r124 σ τ _ _ _ _ rfl ⟨rfl, (fun _ _ => rfl), (fun _ _ => rfl), hs_jKept, ⟨trivial, (by omega)⟩⟩ hP hS dX12_putsOn_85
      · have kc121 := jnle c121 rfl jz_0
        refine lv_aload_n hx hb dX12_putsOn_36 rfl (lv_at hl 0 rfl) ?_
        refine va_get (D := D) hx hb hts inlX12 hown hK hP 55 (jc_55 cI cL ad σ τ) rfl 26 (by decide) (hts _ kw_23_5) (fun _ h9 => h9) rfl dX12_putsOn_37 ?_
        refine lv_aload_n hx hb dX12_putsOn_40 rfl (lv_at hl 0 rfl) ?_
        refine va_get (D := D) hx hb hts inlX12 hown hK hP 55 (jc_55 cI cL ad σ τ) rfl 36 (by decide) (hts _ kw_7_21) (fun _ h9 => h9) rfl dX12_putsOn_41 ?_
        refine lv_iload_n hx hb dX12_putsOn_44 rfl (lv_at hl 1 rfl) ?_
        refine jald hx hb hK hP (jc_73 cI cL ad σ τ) (jin t1 (by omega) (by omega)) dX12_putsOn_45 ?_
        refine jtopr (y := (σ 73 a1.toNatClampNeg)) rfl ?_
        refine lv_icmp_ge (tgt := 61) hx hb dX12_putsOn_46 (by decide) (fun c128 => ?_) (fun c128 => ?_)
        · have kc128 := jle c128 rfl rfl
          refine lv_iconst (v := (-1)) hx hb dX12_putsOn_61 (by decide) ?_
          refine lv_istore_n (lv' := [(2, .int (-1)), (0, .ref (ad 55)), (1, .int a1)]) hx hb dX12_putsOn_62 rfl hl (by decide) rfl (fun ls hl => ?_)
          refine lv_aload_n hx hb dX12_putsOn_63 rfl (lv_at hl 1 rfl) ?_
          refine lv_iload_n hx hb dX12_putsOn_64 rfl (lv_at hl 2 rfl) ?_
          refine lv_iload_n hx hb dX12_putsOn_65 rfl (lv_at hl 0 rfl) ?_
          refine lv_if_lt (tgt := 81) hx hb dX12_putsOn_66 (by decide) (fun _ => ?_) (fun c => absurd (by decide) c)
          refine lv_iconst (v := (-1)) hx hb dX12_putsOn_81 (by decide) ?_
          have p129 : jmb σ B0 = 1 := (jmb_fr rfl rfl rfl rfl rfl B0).trans hB0
          refine jcallV (As := [.int a1, .int (-1)]) (rest := []) ⟨hx, hb, hml, hown, hts⟩ hK hP hA hS hZ (c_X12_turnOf l D cI cL ad zz hJ σ τ B0 p129 a1 (A1) t1 (-1) ((-1)) jz_m1 hI102 hI106 (by omega) (by omega) (by omega) (by omega)) cw_RX12_277 (jc_55 cI cL ad σ τ) rfl ⟨Nat.le_of_ble_eq_true rfl, Nat.le_of_ble_eq_true rfl⟩ rfl rfl rfl hl.1 rfl (Nat.le_of_ble_eq_true rfl) dX12_putsOn_82 ⟨Nat.zero_le _, Nat.zero_le _⟩ (fun r131 σ130 τ130 H locs h130 hP hS => ?_)
          obtain ⟨⟨rfl, rfl⟩, h130⟩ := h130
          have h132 := h130
          obtain ⟨q134, k133⟩ := h132
          exact hret r131 σ τ _ _ _ _ rfl ⟨rfl, (fun _ _ => rfl), (fun _ _ => rfl), hs_jKept, ⟨trivial, (by omega)⟩⟩ hP hS dX12_putsOn_85
        · have kc128 := jnle c128 rfl rfl
          refine lv_aload_n hx hb dX12_putsOn_49 rfl (lv_at hl 0 rfl) ?_
          refine va_get (D := D) hx hb hts inlX12 hown hK hP 55 (jc_55 cI cL ad σ τ) rfl 35 (by decide) (hts _ kw_7_20) (fun _ h9 => h9) rfl dX12_putsOn_50 ?_
          refine lv_bipush (v := 8) hx hb dX12_putsOn_53 (by decide) ?_
          refine lv_iload_n hx hb dX12_putsOn_55 rfl (lv_at hl 1 rfl) ?_
          refine lv_imul hx hb dX12_putsOn_56 ?_
          refine lv_topi (fun x135 ex135 => ?_)
          have tx135 : x135.toInt = 8 * A1 := (jmul ex135 jz_8 t1 (by omega) (by omega)).trans (by omega)
          refine jald hx hb hK hP (jc_72 cI cL ad σ τ) (jin tx135 (by omega) (by omega)) dX12_putsOn_57 ?_
          have g136 := w14 _ (jnat (x := x135) tx135 (n := 160) (by omega) (by decide))
          refine jtopr (y := (σ 72 x135.toNatClampNeg)) rfl ?_
          refine lv_goto (tgt := 62) hx hb dX12_putsOn_58 (by decide) ?_
          refine lv_istore_n (lv' := [(2, .int (σ 72 x135.toNatClampNeg)), (0, .ref (ad 55)), (1, .int a1)]) hx hb dX12_putsOn_62 rfl hl (by decide) rfl (fun ls hl => ?_)
          refine lv_aload_n hx hb dX12_putsOn_63 rfl (lv_at hl 1 rfl) ?_
          refine lv_iload_n hx hb dX12_putsOn_64 rfl (lv_at hl 2 rfl) ?_
          refine lv_iload_n hx hb dX12_putsOn_65 rfl (lv_at hl 0 rfl) ?_
          refine lv_if_lt (tgt := 81) hx hb dX12_putsOn_66 (by decide) (fun c => absurd (jlt c rfl jz_0) (by omega)) (fun c137 => ?_)
          have kc137 := jnlt c137 rfl jz_0
          refine lv_aload_n hx hb dX12_putsOn_69 rfl (lv_at hl 1 rfl) ?_
          refine lv_iload_n hx hb dX12_putsOn_70 rfl (lv_at hl 0 rfl) ?_
          refine jcallV (As := [.int (σ 72 x135.toNatClampNeg)]) (rest := [.int a1, .ref (ad 55)]) ⟨hx, hb, hml, hown, hts⟩ hK hP hA hS hZ (c_X12_leastBut l D cI cL ad zz hJ σ τ (σ 72 x135.toNatClampNeg) ((σ 72 x135.toNatClampNeg).toInt) rfl hI102) cw_RX12_274 (jc_55 cI cL ad σ τ) rfl ⟨Nat.le_of_ble_eq_true rfl, Nat.le_of_ble_eq_true rfl⟩ rfl rfl rfl hl.1 rfl (Nat.le_of_ble_eq_true rfl) dX12_putsOn_71 ⟨Nat.zero_le _, Nat.zero_le _⟩ (fun r139 σ138 τ138 H locs h138 hP hS => ?_)
          obtain ⟨⟨rfl, rfl⟩, h138⟩ := h138
          rcases h138 with h140 | h141
          · obtain ⟨q146, k142, k143, k144, k145⟩ := h140
            refine lv_if_lt (tgt := 81) hx hb dX12_putsOn_74 (by decide) (fun c => absurd (jlt c rfl jz_0) (by omega)) (fun c147 => ?_)
            have kc147 := jnlt c147 rfl jz_0
            refine lv_iload_n hx hb dX12_putsOn_77 rfl (lv_at hl 0 rfl) ?_
            refine lv_goto (tgt := 82) hx hb dX12_putsOn_78 (by decide) ?_
            have p148 : jmb σ r139 = 1 := (jmb_fr rfl rfl rfl rfl rfl r139).trans k145
            refine jcallV (As := [.int a1, .int (σ 72 x135.toNatClampNeg)]) (rest := []) ⟨hx, hb, hml, hown, hts⟩ hK hP hA hS hZ (c_X12_turnOf l D cI cL ad zz hJ σ τ r139 p148 a1 (A1) t1 (σ 72 x135.toNatClampNeg) ((σ 72 x135.toNatClampNeg).toInt) rfl hI102 hI106 (by omega) (by omega) (by omega) (by omega)) cw_RX12_277 (jc_55 cI cL ad σ τ) rfl ⟨Nat.le_of_ble_eq_true rfl, Nat.le_of_ble_eq_true rfl⟩ rfl rfl rfl hl.1 rfl (Nat.le_of_ble_eq_true rfl) dX12_putsOn_82 ⟨Nat.zero_le _, Nat.zero_le _⟩ (fun r150 σ149 τ149 H locs h149 hP hS => ?_)
            obtain ⟨⟨rfl, rfl⟩, h149⟩ := h149
            have h151 := h149
            obtain ⟨q153, k152⟩ := h151
            exact hret r150 σ τ _ _ _ _ rfl ⟨rfl, (fun _ _ => rfl), (fun _ _ => rfl), hs_jKept, ⟨trivial, (by omega)⟩⟩ hP hS dX12_putsOn_85
          · obtain ⟨q155, k154⟩ := h141
            have q155 := q155.symm
            subst q155
            refine lv_if_lt (tgt := 81) hx hb dX12_putsOn_74 (by decide) (fun _ => ?_) (fun c => absurd (by decide) c)
            refine lv_iconst (v := (-1)) hx hb dX12_putsOn_81 (by decide) ?_
            have p156 : jmb σ B0 = 1 := (jmb_fr rfl rfl rfl rfl rfl B0).trans hB0
            refine jcallV (As := [.int a1, .int (-1)]) (rest := []) ⟨hx, hb, hml, hown, hts⟩ hK hP hA hS hZ (c_X12_turnOf l D cI cL ad zz hJ σ τ B0 p156 a1 (A1) t1 (-1) ((-1)) jz_m1 hI102 hI106 (by omega) (by omega) (by omega) (by omega)) cw_RX12_277 (jc_55 cI cL ad σ τ) rfl ⟨Nat.le_of_ble_eq_true rfl, Nat.le_of_ble_eq_true rfl⟩ rfl rfl rfl hl.1 rfl (Nat.le_of_ble_eq_true rfl) dX12_putsOn_82 ⟨Nat.zero_le _, Nat.zero_le _⟩ (fun r158 σ157 τ157 H locs h157 hP hS => ?_)
            obtain ⟨⟨rfl, rfl⟩, h157⟩ := h157
            have h159 := h157
            obtain ⟨q161, k160⟩ := h159
            exact hret r158 σ τ _ _ _ _ rfl ⟨rfl, (fun _ _ => rfl), (fun _ _ => rfl), hs_jKept, ⟨trivial, (by omega)⟩⟩ hP hS dX12_putsOn_85
  · have kc22 := jeq c22 rfl jz_1
    refine lv_aload_n hx hb dX12_putsOn_10 rfl (lv_at hl 0 rfl) ?_
    refine lv_iload_n hx hb dX12_putsOn_11 rfl (lv_at hl 1 rfl) ?_
    refine lv_iconst (v := (-1)) hx hb dX12_putsOn_12 (by decide) ?_
    have p162 : jmb σ B0 = 1 := (jmb_fr rfl rfl rfl rfl rfl B0).trans hB0
    refine jcallV (As := [.int a1, .int (-1)]) (rest := []) ⟨hx, hb, hml, hown, hts⟩ hK hP hA hS hZ (c_X12_turnOf l D cI cL ad zz hJ σ τ B0 p162 a1 (A1) t1 (-1) ((-1)) jz_m1 hI102 hI106 (by omega) (by omega) (by omega) (by omega)) cw_RX12_277 (jc_55 cI cL ad σ τ) rfl ⟨Nat.le_of_ble_eq_true rfl, Nat.le_of_ble_eq_true rfl⟩ rfl rfl rfl hl.1 rfl (Nat.le_of_ble_eq_true rfl) dX12_putsOn_13 ⟨Nat.zero_le _, Nat.zero_le _⟩ (fun r164 σ163 τ163 H locs h163 hP hS => ?_)
    obtain ⟨⟨rfl, rfl⟩, h163⟩ := h163
    have h165 := h163
    obtain ⟨q167, k166⟩ := h165
    exact hret r164 σ τ _ _ _ _ rfl ⟨rfl, (fun _ _ => rfl), (fun _ _ => rfl), hs_jKept, ⟨trivial, (by omega)⟩⟩ hP hS dX12_putsOn_16
set_option maxHeartbeats 4000000 in
set_option maxRecDepth 100000 in
theorem c_X12_means_mf_g (l : Launch) (D : va_G) (cI cL : ClassId) (ad zz : Nat → Nat) (hJ : jD ad) (n : Nat) (h_mf : ∀ (σ : Nat → Nat → Int32) (τ : Nat → Nat → Int64) (a1 : Int32) (A1 : Int) (t1 : a1.toInt = A1) (hI101 : jI101 σ) (hI102 : jI102 σ) (hI103 : jI103 σ) (hI104 : jI104 σ) (hI105 : jI105 σ) (hI106 : jI106 σ) (hI120 : jI120 σ) (hs_jKept : jKept σ) (hp0 : 0 ≤ A1 ∧ A1 ≤ 19) (hp1 : (σ 55 12).toInt - (σ 55 26).toInt ≤ 8) (hp2 : (σ 55 12).toInt - (σ 55 26).toInt ≤ (((n) : Nat) : Int)), jM l yX12_meanFrom cX12_meanFrom 9 (some .int) ({ frames := (106 + 4 * (n)), cells := 0, slots := 0, locals := (5261 + 240 * (n)) }) D cI cL ad zz [.ref (ad 55), .int a1] σ τ (fun r σ' τ' => τ = τ' ∧ (∀ i : Nat, (i < 55 ∨ 55 < i) ∧ (i < 66 ∨ 66 < i) ∧ (i < 74 ∨ 78 < i) → σ' i = σ i) ∧ (∀ k : Nat, (k < 18 ∨ 18 < k) ∧ (k < 19 ∨ 19 < k) ∧ (k < 20 ∨ 20 < k) ∧ (k < 21 ∨ 21 < k) ∧ (k < 22 ∨ 22 < k) ∧ (k < 37 ∨ 37 < k) → σ' 55 k = σ 55 k) ∧ (jKept σ') ∧ True)) (σ : Nat → Nat → Int32) (τ : Nat → Nat → Int64) (a1 : Int32) (A1 : Int) (t1 : a1.toInt = A1) (hI101 : jI101 σ) (hI102 : jI102 σ) (hI103 : jI103 σ) (hI104 : jI104 σ) (hI105 : jI105 σ) (hI106 : jI106 σ) (hI120 : jI120 σ) (hs_jKept : jKept σ) (hp0 : 0 ≤ A1 ∧ A1 ≤ 19) (hp1 : (σ 55 12).toInt - (σ 55 26).toInt ≤ 8) (hp2 : (σ 55 12).toInt - (σ 55 26).toInt ≤ (((n + 1) : Nat) : Int)) : jM l yX12_meanFrom cX12_meanFrom 9 (some .int) ({ frames := (106 + 4 * (n + 1)), cells := 0, slots := 0, locals := (5261 + 240 * (n + 1)) }) D cI cL ad zz [.ref (ad 55), .int a1] σ τ (fun r σ' τ' => τ = τ' ∧ (∀ i : Nat, (i < 55 ∨ 55 < i) ∧ (i < 66 ∨ 66 < i) ∧ (i < 74 ∨ 78 < i) → σ' i = σ i) ∧ (∀ k : Nat, (k < 18 ∨ 18 < k) ∧ (k < 19 ∨ 19 < k) ∧ (k < 20 ∨ 20 < k) ∧ (k < 21 ∨ 21 < k) ∧ (k < 22 ∨ 22 < k) ∧ (k < 37 ∨ 37 < k) → σ' 55 k = σ 55 k) ∧ (jKept σ') ∧ True) := by
  refine jM.of hJ (by decide +kernel) (nt := .int) rfl (Nat.le_of_ble_eq_true rfl) ?_
  intro p e s m args below meth c Q ls hC hret hl hP
  obtain ⟨hx, hb, hr, hml, hown, hts, hK, -, hlocks, hZ⟩ := hC
  have hown : s.vm.findClass RX12 = some m.cls := hown
  have hS : va_S (jA ad) s.heap s.heap [] := va_S.rf
  have hA : ∀ q, jA ad q → jA ad q := fun _ h => h
  have hl : lv_has ls 9 [(0, .ref (ad 55)), (1, .int a1)] := hl
  have g1 := jrg t1
  obtain ⟨i1, w2, w3⟩ : (0 ≤ (σ 55 6).toInt ∧ (σ 55 6).toInt ≤ 4) ∧ (∀ k : Nat, k < 4 → 0 ≤ (σ 60 k).toInt ∧ (σ 60 k).toInt ≤ 50) ∧ (∀ k : Nat, k < 4 → 0 ≤ (σ 61 k).toInt ∧ (σ 61 k).toInt ≤ 20) := id hI102
  obtain ⟨i4, i5, i6, w7, w8⟩ : (1 ≤ (σ 55 10).toInt ∧ (σ 55 10).toInt ≤ 8) ∧ (1 ≤ (σ 55 12).toInt ∧ (σ 55 12).toInt ≤ 12) ∧ (0 ≤ (σ 55 13).toInt ∧ (σ 55 13).toInt ≤ 999) ∧ (∀ k : Nat, k < 8 → 0 ≤ (σ 62 k).toInt ∧ (σ 62 k).toInt ≤ 3) ∧ (∀ k : Nat, k < 8 → 0 ≤ (σ 67 k).toInt ∧ (σ 67 k).toInt ≤ 3) := id hI104
  obtain ⟨i9, i10, i11, i12, i13, w14⟩ : (0 ≤ (σ 55 25).toInt) ∧ ((σ 55 25).toInt ≤ (σ 55 10).toInt) ∧ (0 ≤ (σ 55 26).toInt) ∧ ((σ 55 26).toInt ≤ (σ 55 12).toInt) ∧ ((-1) ≤ (σ 55 27).toInt ∧ (σ 55 27).toInt ≤ 3) ∧ (∀ k : Nat, k < 4 → 0 ≤ (σ 68 k).toInt ∧ (σ 68 k).toInt ≤ 3) := id hI120
  refine lv_aload_n hx hb dX12_meanFrom_0 rfl (lv_at hl 0 rfl) ?_
  refine jcallV (As := []) (rest := []) ⟨hx, hb, hml, hown, hts⟩ hK hP hA hS hZ (c_X12_isEnded l D cI cL ad zz hJ σ τ hI102 hI104 hI120) cw_RX12_307 (jc_55 cI cL ad σ τ) rfl ⟨by dsimp only; omega, by dsimp only; omega⟩ rfl rfl rfl hl.1 rfl (Nat.le_of_ble_eq_true rfl) dX12_meanFrom_1 ⟨Nat.zero_le _, Nat.zero_le _⟩ (fun r16 σ15 τ15 H locs h15 hP hS => ?_)
  obtain ⟨⟨rfl, rfl⟩, h15⟩ := h15
  rcases h15 with h17 | h18
  · obtain ⟨q20, k19⟩ := h17
    have q20 := q20.symm
    subst q20
    refine lv_if_eq (tgt := 9) hx hb dX12_meanFrom_4 (by decide) (fun c => absurd c (by decide)) (fun _ => ?_)
    refine lv_iconst (v := 0) hx hb dX12_meanFrom_7 (by decide) ?_
    exact hret 0 σ τ _ _ _ _ rfl ⟨rfl, (fun _ _ => rfl), (fun _ _ => rfl), hs_jKept, trivial⟩ hP hS dX12_meanFrom_8
  · obtain ⟨q24, k21, k22, k23⟩ := h18
    have q24 := q24.symm
    subst q24
    obtain ⟨B25, k26, k27, w28⟩ := k23
    refine lv_if_eq (tgt := 9) hx hb dX12_meanFrom_4 (by decide) (fun _ => ?_) (fun c => absurd (by decide) c)
    refine lv_aload_n hx hb dX12_meanFrom_9 rfl (lv_at hl 0 rfl) ?_
    refine lv_iload_n hx hb dX12_meanFrom_10 rfl (lv_at hl 1 rfl) ?_
    have p29 : jmb σ B25 = 1 := (jmb_fr rfl rfl rfl rfl rfl B25).trans w28
    refine jcallV (As := [.int a1]) (rest := []) ⟨hx, hb, hml, hown, hts⟩ hK hP hA hS hZ (c_X12_putsOn l D cI cL ad zz hJ σ τ B25 p29 a1 (A1) t1 hI101 hI102 hI103 hI104 hI105 hI106 hI120 hs_jKept (by omega) (by omega) (by omega) (by omega) (by omega)) cw_RX12_321 (jc_55 cI cL ad σ τ) rfl ⟨by dsimp only; omega, by dsimp only; omega⟩ rfl rfl rfl hl.1 rfl (Nat.le_of_ble_eq_true rfl) dX12_meanFrom_11 ⟨Nat.zero_le _, Nat.zero_le _⟩ (fun r31 σ30 τ30 H locs h30 hP hS => ?_)
    obtain ⟨rfl, f32, f33, p34, h30⟩ := h30
    have h35 := h30
    obtain ⟨q37, k36⟩ := h35
    refine lv_istore_n (lv' := [(2, .int r31), (0, .ref (ad 55)), (1, .int a1)]) hx hb dX12_meanFrom_14 rfl hl (by decide) rfl (fun ls hl => ?_)
    refine lv_aload_n hx hb dX12_meanFrom_15 rfl (lv_at hl 1 rfl) ?_
    refine va_get (D := D) hx hb hts inlX12 hown hK hP 55 (jc_55 cI cL ad σ30 τ) rfl 11 (by decide) (hts _ kw_7_8) (fun _ h9 => h9) rfl dX12_meanFrom_16 ?_
    refine lv_aload_n hx hb dX12_meanFrom_19 rfl (lv_at hl 1 rfl) ?_
    refine va_get (D := D) hx hb hts inlX12 hown hK hP 55 (jc_55 cI cL ad σ30 τ) rfl 25 (by decide) (hts _ kw_23_6) (fun _ h9 => h9) rfl dX12_meanFrom_20 ?_
    have m38 : σ30 55 25 = (σ 55 25) := (f33 25 (by decide))
    refine jtopr m38 ?_
    refine jald hx hb hK hP (jc_62 cI cL ad σ30 τ) (jin rfl (by omega) (by omega)) dX12_meanFrom_23 ?_
    have w39 : ∀ k : Nat, k < 8 → 0 ≤ (σ30 62 k).toInt ∧ (σ30 62 k).toInt ≤ 3 := (jrr_fr (f32 62 (by decide)) w7)
    have g40 := w39 _ (jnat (x := (σ 55 25)) rfl (n := 8) (by omega) (by decide))
    refine lv_topi (fun x41 ex41 => ?_)
    rw [← ex41] at g40
    refine lv_istore_n (lv' := [(3, .int x41), (2, .int r31), (0, .ref (ad 55)), (1, .int a1)]) hx hb dX12_meanFrom_24 rfl hl (by decide) rfl (fun ls hl => ?_)
    refine lv_aload_n hx hb dX12_meanFrom_25 rfl (lv_at hl 2 rfl) ?_
    refine lv_iload_n hx hb dX12_meanFrom_26 rfl (lv_at hl 1 rfl) ?_
    refine lv_iload_n hx hb dX12_meanFrom_27 rfl (lv_at hl 0 rfl) ?_
    have I42 : jI101 σ30 := jI101_fr (f33 4 (by decide)) (f33 5 (by decide)) (f32 56 (by decide)) (f32 57 (by decide)) (f32 58 (by decide)) (f32 59 (by decide)) hI101
    have I43 : jI102 σ30 := jI102_fr (f33 6 (by decide)) (f32 60 (by decide)) (f32 61 (by decide)) hI102
    have I44 : jI103 σ30 := jI103_fr (f33 9 (by decide)) hI103
    have I45 : jI105 σ30 := jI105_fr (f33 15 (by decide)) (f32 65 (by decide)) hI105
    have w46 : ∀ k : Nat, k < 4 → 0 ≤ (σ30 68 k).toInt ∧ (σ30 68 k).toInt ≤ 3 := (jrr_fr (f32 68 (by decide)) w14)
    refine jcallV (As := [.int r31, .int x41]) (rest := []) ⟨hx, hb, hml, hown, hts⟩ hK hP hA hS hZ (c_X12_outBy l D cI cL ad zz hJ σ30 τ r31 (r31.toInt) rfl x41 (x41.toInt) rfl I42 I43 I44 I45 w46 (by omega) (by omega)) cw_RX12_259 (jc_55 cI cL ad σ30 τ) rfl ⟨by dsimp only; omega, by dsimp only; omega⟩ rfl rfl rfl hl.1 rfl (Nat.le_of_ble_eq_true rfl) dX12_meanFrom_28 ⟨Nat.zero_le _, Nat.zero_le _⟩ (fun r48 σ47 τ47 H locs h47 hP hS => ?_)
    obtain ⟨rfl, f49, f50, h47⟩ := h47
    have h51 := h47
    obtain ⟨q53, k52⟩ := h51
    refine lv_istore (lv' := [(4, .int r48), (3, .int x41), (2, .int r31), (0, .ref (ad 55)), (1, .int a1)]) hx hb dX12_meanFrom_31 hl (by decide) rfl (fun ls hl => ?_)
    refine lv_sipush (v := 1000) hx hb dX12_meanFrom_33 (by decide) ?_
    refine lv_aload_n hx hb dX12_meanFrom_36 rfl (lv_at hl 3 rfl) ?_
    refine lv_iload_n hx hb dX12_meanFrom_37 rfl (lv_at hl 2 rfl) ?_
    refine lv_iload_n hx hb dX12_meanFrom_38 rfl (lv_at hl 1 rfl) ?_
    have I54 : jI101 σ47 := jI101_fr (f50 4 (by decide)) (f50 5 (by decide)) (f49 56 (by decide)) (f49 57 (by decide)) (f49 58 (by decide)) (f49 59 (by decide)) I42
    have I55 : jI102 σ47 := jI102_fr (f50 6 (by decide)) (f49 60 (by decide)) (f49 61 (by decide)) I43
    have I56 : jI103 σ47 := jI103_fr (f50 9 (by decide)) I44
    have w57 : ∀ k : Nat, k < 4 → 0 ≤ (σ47 68 k).toInt ∧ (σ47 68 k).toInt ≤ 3 := (jrr_fr (f49 68 (by decide)) w46)
    refine jcallV (As := [.int r31, .int x41]) (rest := [.int 1000]) ⟨hx, hb, hml, hown, hts⟩ hK hP hA hS hZ (c_X12_runsBy l D cI cL ad zz hJ σ47 τ r31 (r31.toInt) rfl x41 (x41.toInt) rfl I54 I55 I56 w57 (by omega) (by omega)) cw_RX12_262 (jc_55 cI cL ad σ47 τ) rfl ⟨by dsimp only; omega, by dsimp only; omega⟩ rfl rfl rfl hl.1 rfl (Nat.le_of_ble_eq_true rfl) dX12_meanFrom_39 ⟨Nat.zero_le _, Nat.zero_le _⟩ (fun r59 σ58 τ58 H locs h58 hP hS => ?_)
    obtain ⟨⟨rfl, rfl⟩, h58⟩ := h58
    have h60 := h58
    obtain ⟨q62, k61⟩ := h60
    have g63 := jrg (rfl : r59.toInt = r59.toInt)
    refine lv_imul hx hb dX12_meanFrom_42 ?_
    refine lv_topi (fun x64 ex64 => ?_)
    have tx64 : x64.toInt = 1000 * r59.toInt := (jmul ex64 jz_1000 rfl (by omega) (by omega)).trans (by omega)
    refine lv_istore (lv' := [(5, .int x64), (4, .int r48), (3, .int x41), (2, .int r31), (0, .ref (ad 55)), (1, .int a1)]) hx hb dX12_meanFrom_43 hl (by decide) rfl (fun ls hl => ?_)
    refine lv_aload_n hx hb dX12_meanFrom_45 rfl (lv_at hl 4 rfl) ?_
    refine lv_iload_n hx hb dX12_meanFrom_46 rfl (lv_at hl 3 rfl) ?_
    refine lv_iconst (v := 1) hx hb dX12_meanFrom_47 (by decide) ?_
    have z65 : (σ47 55 6).toInt = (σ 55 6).toInt := (congrArg Int32.toInt (show σ47 55 6 = (σ 55 6) from ((f50 6 (by decide)).trans (f33 6 (by decide)))))
    have z66 : (σ47 55 27).toInt = (σ 55 27).toInt := (congrArg Int32.toInt (show σ47 55 27 = (σ 55 27) from ((f50 27 (by decide)).trans (f33 27 (by decide)))))
    have z67 : (σ47 55 25).toInt = (σ 55 25).toInt := (congrArg Int32.toInt (show σ47 55 25 = (σ 55 25) from ((f50 25 (by decide)).trans m38)))
    have z68 : (σ47 55 26).toInt = (σ 55 26).toInt := (congrArg Int32.toInt (show σ47 55 26 = (σ 55 26) from ((f50 26 (by decide)).trans (f33 26 (by decide)))))
    have z69 : (σ47 68 0).toInt = (σ 68 0).toInt := (congrArg Int32.toInt (show σ47 68 0 = (σ 68 0) from ((congrFun (f49 68 (by decide)) 0).trans (congrFun (f32 68 (by decide)) 0))))
    have z70 : (σ47 68 1).toInt = (σ 68 1).toInt := (congrArg Int32.toInt (show σ47 68 1 = (σ 68 1) from ((congrFun (f49 68 (by decide)) 1).trans (congrFun (f32 68 (by decide)) 1))))
    have z71 : (σ47 68 2).toInt = (σ 68 2).toInt := (congrArg Int32.toInt (show σ47 68 2 = (σ 68 2) from ((congrFun (f49 68 (by decide)) 2).trans (congrFun (f32 68 (by decide)) 2))))
    have z72 : (σ47 68 3).toInt = (σ 68 3).toInt := (congrArg Int32.toInt (show σ47 68 3 = (σ 68 3) from ((congrFun (f49 68 (by decide)) 3).trans (congrFun (f32 68 (by decide)) 3))))
    refine jcallV (As := [.int r31, .int 1]) (rest := []) ⟨hx, hb, hml, hown, hts⟩ hK hP hA hS hZ (c_X12_goes_1 l D cI cL ad zz hJ σ47 τ r31 (r31.toInt) rfl w57 (by omega) (by omega) (by omega) (by omega) (by omega)) cw_RX12_296 (jc_55 cI cL ad σ47 τ) rfl ⟨by dsimp only; omega, by dsimp only; omega⟩ rfl rfl rfl hl.1 rfl (Nat.le_of_ble_eq_true rfl) dX12_meanFrom_48 ⟨Nat.zero_le _, Nat.zero_le _⟩ (fun r74 σ73 τ73 H locs h73 hP hS => ?_)
    obtain ⟨rfl, f75, f76, w77, w78, w79, h73⟩ := h73
    obtain ⟨k80, k81, k82, h73⟩ := h73
    have h83 := h73
    obtain ⟨q89, k84, k85, k86, k87, k88⟩ := h83
    refine lv_istore (lv' := [(6, .int r74), (5, .int x64), (4, .int r48), (3, .int x41), (2, .int r31), (0, .ref (ad 55)), (1, .int a1)]) hx hb dX12_meanFrom_51 hl (by decide) rfl (fun ls hl => ?_)
    refine lv_aload_n hx hb dX12_meanFrom_53 rfl (lv_at hl 5 rfl) ?_
    refine lv_iload_n hx hb dX12_meanFrom_54 rfl (lv_at hl 6 rfl) ?_
    have I90 : jI101 σ73 := jI101_fr (f76 4 (by decide)) (f76 5 (by decide)) (f75 56 (by decide)) (f75 57 (by decide)) (f75 58 (by decide)) (f75 59 (by decide)) I54
    have I91 : jI102 σ73 := jI102_fr (f76 6 (by decide)) (f75 60 (by decide)) (f75 61 (by decide)) I55
    have I92 : jI103 σ73 := jI103_fr (f76 9 (by decide)) I56
    have I93 : jI104 σ73 := jI104_fr ((f76 10 (by decide)).trans ((f50 10 (by decide)).trans (f33 10 (by decide)))) ((f76 12 (by decide)).trans ((f50 12 (by decide)).trans (f33 12 (by decide)))) ((f76 13 (by decide)).trans ((f50 13 (by decide)).trans (f33 13 (by decide)))) ((f75 62 (by decide)).trans ((f49 62 (by decide)).trans (f32 62 (by decide)))) ((f75 67 (by decide)).trans ((f49 67 (by decide)).trans (f32 67 (by decide)))) hI104
    have I94 : jI105 σ73 := jI105_fr ((f76 15 (by decide)).trans (f50 15 (by decide))) ((f75 65 (by decide)).trans (f49 65 (by decide))) I45
    have I95 : jI106 σ73 := jI106_fr ((f76 32 (by decide)).trans ((f50 32 (by decide)).trans (f33 32 (by decide)))) ((f75 70 (by decide)).trans ((f49 70 (by decide)).trans (f32 70 (by decide)))) ((f75 71 (by decide)).trans ((f49 71 (by decide)).trans (f32 71 (by decide)))) ((f75 72 (by decide)).trans ((f49 72 (by decide)).trans (f32 72 (by decide)))) hI106
    have z96 : (σ73 55 10).toInt = (σ 55 10).toInt := (congrArg Int32.toInt (show σ73 55 10 = (σ 55 10) from ((f76 10 (by decide)).trans ((f50 10 (by decide)).trans (f33 10 (by decide))))))
    have z97 : (σ73 55 12).toInt = (σ 55 12).toInt := (congrArg Int32.toInt (show σ73 55 12 = (σ 55 12) from ((f76 12 (by decide)).trans ((f50 12 (by decide)).trans (f33 12 (by decide))))))
    have I98 : jI120 σ73 := ⟨(by omega), (by omega), (by omega), (by omega), (by omega), w77⟩
    have p99 : jKept σ73 := jKept.fr ((f75 75 (by decide)).trans (f49 75 (by decide))) ((f75 76 (by decide)).trans (f49 76 (by decide))) ((f75 77 (by decide)).trans (f49 77 (by decide))) p34
    refine jcallV (As := [.int a1]) (rest := []) ⟨hx, hb, hml, hown, hts⟩ hK hP hA hS hZ (h_mf σ73 τ a1 (A1) t1 I90 I91 I92 I93 I94 I95 I98 p99 (by omega) (by omega) (by omega)) cw_RX12_324 (jc_55 cI cL ad σ73 τ) rfl ⟨by dsimp only; omega, by dsimp only; omega⟩ rfl rfl rfl hl.1 rfl (Nat.le_of_ble_eq_true rfl) dX12_meanFrom_55 ⟨Nat.zero_le _, Nat.zero_le _⟩ (fun r101 σ100 τ100 H locs h100 hP hS => ?_)
    obtain ⟨rfl, f102, f103, p104, h100⟩ := h100
    refine lv_istore (lv' := [(7, .int r101), (6, .int r74), (5, .int x64), (4, .int r48), (3, .int x41), (2, .int r31), (0, .ref (ad 55)), (1, .int a1)]) hx hb dX12_meanFrom_58 hl (by decide) rfl (fun ls hl => ?_)
    refine lv_aload_n hx hb dX12_meanFrom_60 rfl (lv_at hl 6 rfl) ?_
    refine lv_iload_n hx hb dX12_meanFrom_61 rfl (lv_at hl 5 rfl) ?_
    refine lv_iconst (v := 1) hx hb dX12_meanFrom_62 (by decide) ?_
    refine lv_iload hx hb dX12_meanFrom_63 (lv_at hl 1 rfl) ?_
    have w105 : ∀ k : Nat, k < 4 → 0 ≤ (σ100 68 k).toInt ∧ (σ100 68 k).toInt ≤ 3 := (jrr_fr (f102 68 (by decide)) w77)
    have z106 : (σ100 55 25).toInt = (σ73 55 25).toInt := (congrArg Int32.toInt (show σ100 55 25 = (σ73 55 25) from (f103 25 (by decide))))
    have z107 : (σ100 55 26).toInt = (σ73 55 26).toInt := (congrArg Int32.toInt (show σ100 55 26 = (σ73 55 26) from (f103 26 (by decide))))
    have z108 : (σ100 55 6).toInt = (σ 55 6).toInt := (congrArg Int32.toInt (show σ100 55 6 = (σ 55 6) from ((f103 6 (by decide)).trans ((f76 6 (by decide)).trans ((f50 6 (by decide)).trans (f33 6 (by decide)))))))
    have w109 : ∀ k : Nat, k < 4 → 0 ≤ (σ47 68 k).toInt ∧ (σ47 68 k).toInt ≤ 3 := w57
    have z111 : (σ47 55 27).toInt = (σ 55 27).toInt := (congrArg Int32.toInt (show σ47 55 27 = (σ 55 27) from ((f50 27 (by decide)).trans (f33 27 (by decide)))))
    have k110 := jwas (by omega) (w109 0 (by decide)) (w109 1 (by decide)) (w109 2 (by decide)) (w109 3 (by decide)) k84
    rw [← (show σ100 55 6 = σ47 55 6 from ((f103 6 (by decide)).trans (f76 6 (by decide))))] at k110
    refine jcallVv (As := [.int r31, .int 1, .int r74]) (rest := []) ⟨hx, hb, hml, hown, hts⟩ hK hP hA hS hZ (c_X12_goesBack_1 l D cI cL ad zz hJ σ100 τ r31 (r31.toInt) rfl r74 (r74.toInt) rfl w105 (by omega) (by omega) (by omega) k110) cw_RX12_300 (jc_55 cI cL ad σ100 τ) rfl ⟨by dsimp only; omega, by dsimp only; omega⟩ rfl rfl rfl hl.1 rfl (Nat.le_of_ble_eq_true rfl) dX12_meanFrom_65 ⟨Nat.zero_le _, Nat.zero_le _⟩ (fun σ112 τ112 H locs h112 hP hS => ?_)
    obtain ⟨rfl, f114, f115, w116, w117, w118, h112⟩ := h112
    obtain ⟨k119, k120, k121, k122, h112⟩ := h112
    have p123 : jKept σ112 := jKept.fr (f114 75 (by decide)) (f114 76 (by decide)) (f114 77 (by decide)) p104
    have e124 : σ100 69 = σ73 69 := (f102 69 (by decide))
    have e125 : σ112 69 = σ47 69 := jback69 w78 e124 w117
    have e126 : σ100 68 = σ73 68 := (f102 68 (by decide))
    have e127 : σ100 55 6 = σ47 55 6 := ((f103 6 (by decide)).trans (f76 6 (by decide)))
    have w135 : ∀ k : Nat, k < 4 → 0 ≤ (σ47 68 k).toInt ∧ (σ47 68 k).toInt ≤ 3 := w57
    have w136 : ∀ k : Nat, k < 4 → 0 ≤ (σ112 68 k).toInt ∧ (σ112 68 k).toInt ≤ 3 := w116
    have k137 := k122
    rw [e127] at k137
    have D128 := jdig (w135 0 (by decide)) (w135 1 (by decide)) (w135 2 (by decide)) (w135 3 (by decide)) (w136 0 (by decide)) (w136 1 (by decide)) (w136 2 (by decide)) (w136 3 (by decide)) k84 k137
    have e129 : σ112 55 27 = σ47 55 27 := Int32.toInt_inj.mp (by have h9 := D128.1; omega)
    have z138 : (σ100 55 26).toInt = (σ73 55 26).toInt := (congrArg Int32.toInt (show σ100 55 26 = (σ73 55 26) from (f103 26 (by decide))))
    have z139 : (σ47 55 26).toInt = (σ 55 26).toInt := (congrArg Int32.toInt (show σ47 55 26 = (σ 55 26) from ((f50 26 (by decide)).trans (f33 26 (by decide)))))
    have z140 : (σ100 55 25).toInt = (σ73 55 25).toInt := (congrArg Int32.toInt (show σ100 55 25 = (σ73 55 25) from (f103 25 (by decide))))
    have z141 : (σ47 55 25).toInt = (σ 55 25).toInt := (congrArg Int32.toInt (show σ47 55 25 = (σ 55 25) from ((f50 25 (by decide)).trans (f33 25 (by decide)))))
    have e130 : σ112 55 26 = σ47 55 26 := Int32.toInt_inj.mp (by omega)
    have e131 : σ112 55 25 = σ47 55 25 := Int32.toInt_inj.mp (by omega)
    have z142 : (σ47 55 6).toInt = (σ 55 6).toInt := (congrArg Int32.toInt (show σ47 55 6 = (σ 55 6) from ((f50 6 (by decide)).trans (f33 6 (by decide)))))
    have e132 : σ112 68 = σ47 68 := jback68 (nb := (σ47 55 6).toInt) (by omega) w79 e126 (fun k hk => w118 k (by rw [e127]; exact hk)) D128.2
    have f133 : (∀ i : Nat, (i < 55 ∨ 55 < i) ∧ (i < 66 ∨ 66 < i) ∧ (i < 74 ∨ 78 < i) → σ112 i = σ47 i) := fun i hi0 => by
      by_cases h8 : i = 68
      · rw [h8]; exact e132
      by_cases h9 : i = 69
      · rw [h9]; exact e125
      have hi : ((i < 55 ∨ 55 < i) ∧ (i < 66 ∨ 66 < i) ∧ (i < 74 ∨ 78 < i)) ∧ i ≠ 68 ∧ i ≠ 69 := ⟨hi0, h8, h9⟩
      exact ((f114 i (imp_199 i hi)).trans ((f102 i (imp_200 i hi)).trans (f75 i (imp_199 i hi))))
    have f134 : ∀ i : Nat, (i < 18 ∨ 18 < i) ∧ (i < 19 ∨ 19 < i) ∧ (i < 20 ∨ 20 < i) ∧ (i < 21 ∨ 21 < i) ∧ (i < 22 ∨ 22 < i) ∧ (i < 37 ∨ 37 < i) → σ112 55 i = σ47 55 i := fun i hi0 => by
      by_cases h25 : i = 25
      · rw [h25]; exact e131
      by_cases h26 : i = 26
      · rw [h26]; exact e130
      by_cases h27 : i = 27
      · rw [h27]; exact e129
      have hi : ((i < 18 ∨ 18 < i) ∧ (i < 19 ∨ 19 < i) ∧ (i < 20 ∨ 20 < i) ∧ (i < 21 ∨ 21 < i) ∧ (i < 22 ∨ 22 < i) ∧ (i < 37 ∨ 37 < i)) ∧ i ≠ 25 ∧ i ≠ 26 ∧ i ≠ 27 := ⟨hi0, h25, h26, h27⟩
      exact ((f115 i (imp_201 i hi)).trans ((f103 i (imp_202 i hi)).trans (f76 i (imp_201 i hi))))
    clear k137 k122 k84
    refine lv_aload_n hx hb dX12_meanFrom_68 rfl (lv_at hl 6 rfl) ?_
    refine lv_iload_n hx hb dX12_meanFrom_69 rfl (lv_at hl 5 rfl) ?_
    refine lv_iconst (v := 0) hx hb dX12_meanFrom_70 (by decide) ?_
    have w143 : ∀ k : Nat, k < 4 → 0 ≤ (σ112 68 k).toInt ∧ (σ112 68 k).toInt ≤ 3 := (jrr_fr (f133 68 (by decide)) w57)
    have z144 : (σ112 55 6).toInt = (σ 55 6).toInt := (congrArg Int32.toInt (show σ112 55 6 = (σ 55 6) from ((f134 6 (by decide)).trans ((f50 6 (by decide)).trans (f33 6 (by decide))))))
    have z145 : (σ112 55 27).toInt = (σ 55 27).toInt := (congrArg Int32.toInt (show σ112 55 27 = (σ 55 27) from ((f134 27 (by decide)).trans ((f50 27 (by decide)).trans (f33 27 (by decide))))))
    have z146 : (σ112 55 25).toInt = (σ 55 25).toInt := (congrArg Int32.toInt (show σ112 55 25 = (σ 55 25) from ((f134 25 (by decide)).trans ((f50 25 (by decide)).trans m38))))
    have z147 : (σ112 55 26).toInt = (σ 55 26).toInt := (congrArg Int32.toInt (show σ112 55 26 = (σ 55 26) from ((f134 26 (by decide)).trans ((f50 26 (by decide)).trans (f33 26 (by decide))))))
    have z148 : (σ112 68 0).toInt = (σ 68 0).toInt := (congrArg Int32.toInt (show σ112 68 0 = (σ 68 0) from ((congrFun (f133 68 (by decide)) 0).trans ((congrFun (f49 68 (by decide)) 0).trans (congrFun (f32 68 (by decide)) 0)))))
    have z149 : (σ112 68 1).toInt = (σ 68 1).toInt := (congrArg Int32.toInt (show σ112 68 1 = (σ 68 1) from ((congrFun (f133 68 (by decide)) 1).trans ((congrFun (f49 68 (by decide)) 1).trans (congrFun (f32 68 (by decide)) 1)))))
    have z150 : (σ112 68 2).toInt = (σ 68 2).toInt := (congrArg Int32.toInt (show σ112 68 2 = (σ 68 2) from ((congrFun (f133 68 (by decide)) 2).trans ((congrFun (f49 68 (by decide)) 2).trans (congrFun (f32 68 (by decide)) 2)))))
    have z151 : (σ112 68 3).toInt = (σ 68 3).toInt := (congrArg Int32.toInt (show σ112 68 3 = (σ 68 3) from ((congrFun (f133 68 (by decide)) 3).trans ((congrFun (f49 68 (by decide)) 3).trans (congrFun (f32 68 (by decide)) 3)))))
    refine jcallV (As := [.int r31, .int 0]) (rest := []) ⟨hx, hb, hml, hown, hts⟩ hK hP hA hS hZ (c_X12_goes_0 l D cI cL ad zz hJ σ112 τ r31 (r31.toInt) rfl w143 (by omega) (by omega) (by omega) (by omega) (by omega)) cw_RX12_296 (jc_55 cI cL ad σ112 τ) rfl ⟨by dsimp only; omega, by dsimp only; omega⟩ rfl rfl rfl hl.1 rfl (Nat.le_of_ble_eq_true rfl) dX12_meanFrom_71 ⟨Nat.zero_le _, Nat.zero_le _⟩ (fun r153 σ152 τ152 H locs h152 hP hS => ?_)
    obtain ⟨rfl, f154, f155, w156, w157, w158, h152⟩ := h152
    obtain ⟨k159, k160, k161, h152⟩ := h152
    have h162 := h152
    obtain ⟨q168, k163, k164, k165, k166, k167⟩ := h162
    refine lv_istore (lv' := [(6, .int r153), (7, .int r101), (5, .int x64), (4, .int r48), (3, .int x41), (2, .int r31), (0, .ref (ad 55)), (1, .int a1)]) hx hb dX12_meanFrom_74 hl (by decide) rfl (fun ls hl => ?_)
    refine lv_aload_n hx hb dX12_meanFrom_76 rfl (lv_at hl 6 rfl) ?_
    refine lv_iload_n hx hb dX12_meanFrom_77 rfl (lv_at hl 7 rfl) ?_
    have I169 : jI101 σ152 := jI101_fr ((f155 4 (by decide)).trans (f134 4 (by decide))) ((f155 5 (by decide)).trans (f134 5 (by decide))) ((f154 56 (by decide)).trans (f133 56 (by decide))) ((f154 57 (by decide)).trans (f133 57 (by decide))) ((f154 58 (by decide)).trans (f133 58 (by decide))) ((f154 59 (by decide)).trans (f133 59 (by decide))) I54
    have I170 : jI102 σ152 := jI102_fr ((f155 6 (by decide)).trans (f134 6 (by decide))) ((f154 60 (by decide)).trans (f133 60 (by decide))) ((f154 61 (by decide)).trans (f133 61 (by decide))) I55
    have I171 : jI103 σ152 := jI103_fr ((f155 9 (by decide)).trans (f134 9 (by decide))) I56
    have I172 : jI104 σ152 := jI104_fr ((f155 10 (by decide)).trans ((f134 10 (by decide)).trans ((f50 10 (by decide)).trans (f33 10 (by decide))))) ((f155 12 (by decide)).trans ((f134 12 (by decide)).trans ((f50 12 (by decide)).trans (f33 12 (by decide))))) ((f155 13 (by decide)).trans ((f134 13 (by decide)).trans ((f50 13 (by decide)).trans (f33 13 (by decide))))) ((f154 62 (by decide)).trans ((f133 62 (by decide)).trans ((f49 62 (by decide)).trans (f32 62 (by decide))))) ((f154 67 (by decide)).trans ((f133 67 (by decide)).trans ((f49 67 (by decide)).trans (f32 67 (by decide))))) hI104
    have I173 : jI105 σ152 := jI105_fr ((f155 15 (by decide)).trans ((f134 15 (by decide)).trans (f50 15 (by decide)))) ((f154 65 (by decide)).trans ((f133 65 (by decide)).trans (f49 65 (by decide)))) I45
    have I174 : jI106 σ152 := jI106_fr ((f155 32 (by decide)).trans ((f134 32 (by decide)).trans ((f50 32 (by decide)).trans (f33 32 (by decide))))) ((f154 70 (by decide)).trans ((f133 70 (by decide)).trans ((f49 70 (by decide)).trans (f32 70 (by decide))))) ((f154 71 (by decide)).trans ((f133 71 (by decide)).trans ((f49 71 (by decide)).trans (f32 71 (by decide))))) ((f154 72 (by decide)).trans ((f133 72 (by decide)).trans ((f49 72 (by decide)).trans (f32 72 (by decide))))) hI106
    have z175 : (σ152 55 10).toInt = (σ 55 10).toInt := (congrArg Int32.toInt (show σ152 55 10 = (σ 55 10) from ((f155 10 (by decide)).trans ((f134 10 (by decide)).trans ((f50 10 (by decide)).trans (f33 10 (by decide)))))))
    have z176 : (σ152 55 12).toInt = (σ 55 12).toInt := (congrArg Int32.toInt (show σ152 55 12 = (σ 55 12) from ((f155 12 (by decide)).trans ((f134 12 (by decide)).trans ((f50 12 (by decide)).trans (f33 12 (by decide)))))))
    have I177 : jI120 σ152 := ⟨(by omega), (by omega), (by omega), (by omega), (by omega), w156⟩
    have p178 : jKept σ152 := jKept.fr (f154 75 (by decide)) (f154 76 (by decide)) (f154 77 (by decide)) p123
    refine jcallV (As := [.int a1]) (rest := []) ⟨hx, hb, hml, hown, hts⟩ hK hP hA hS hZ (h_mf σ152 τ a1 (A1) t1 I169 I170 I171 I172 I173 I174 I177 p178 (by omega) (by omega) (by omega)) cw_RX12_324 (jc_55 cI cL ad σ152 τ) rfl ⟨by dsimp only; omega, by dsimp only; omega⟩ rfl rfl rfl hl.1 rfl (Nat.le_of_ble_eq_true rfl) dX12_meanFrom_78 ⟨Nat.zero_le _, Nat.zero_le _⟩ (fun r180 σ179 τ179 H locs h179 hP hS => ?_)
    obtain ⟨rfl, f181, f182, p183, h179⟩ := h179
    refine lv_istore (lv' := [(8, .int r180), (6, .int r153), (7, .int r101), (5, .int x64), (4, .int r48), (3, .int x41), (2, .int r31), (0, .ref (ad 55)), (1, .int a1)]) hx hb dX12_meanFrom_81 hl (by decide) rfl (fun ls hl => ?_)
    refine lv_aload_n hx hb dX12_meanFrom_83 rfl (lv_at hl 7 rfl) ?_
    refine lv_iload_n hx hb dX12_meanFrom_84 rfl (lv_at hl 6 rfl) ?_
    refine lv_iconst (v := 0) hx hb dX12_meanFrom_85 (by decide) ?_
    refine lv_iload hx hb dX12_meanFrom_86 (lv_at hl 1 rfl) ?_
    have w184 : ∀ k : Nat, k < 4 → 0 ≤ (σ179 68 k).toInt ∧ (σ179 68 k).toInt ≤ 3 := (jrr_fr (f181 68 (by decide)) w156)
    have z185 : (σ179 55 25).toInt = (σ152 55 25).toInt := (congrArg Int32.toInt (show σ179 55 25 = (σ152 55 25) from (f182 25 (by decide))))
    have z186 : (σ179 55 26).toInt = (σ152 55 26).toInt := (congrArg Int32.toInt (show σ179 55 26 = (σ152 55 26) from (f182 26 (by decide))))
    have z187 : (σ179 55 6).toInt = (σ 55 6).toInt := (congrArg Int32.toInt (show σ179 55 6 = (σ 55 6) from ((f182 6 (by decide)).trans ((f155 6 (by decide)).trans ((f134 6 (by decide)).trans ((f50 6 (by decide)).trans (f33 6 (by decide))))))))
    have w188 : ∀ k : Nat, k < 4 → 0 ≤ (σ112 68 k).toInt ∧ (σ112 68 k).toInt ≤ 3 := w143
    have z190 : (σ112 55 27).toInt = (σ 55 27).toInt := (congrArg Int32.toInt (show σ112 55 27 = (σ 55 27) from ((f134 27 (by decide)).trans ((f50 27 (by decide)).trans (f33 27 (by decide))))))
    have k189 := jwas (by omega) (w188 0 (by decide)) (w188 1 (by decide)) (w188 2 (by decide)) (w188 3 (by decide)) k163
    rw [← (show σ179 55 6 = σ112 55 6 from ((f182 6 (by decide)).trans (f155 6 (by decide))))] at k189
    refine jcallVv (As := [.int r31, .int 0, .int r153]) (rest := []) ⟨hx, hb, hml, hown, hts⟩ hK hP hA hS hZ (c_X12_goesBack_0 l D cI cL ad zz hJ σ179 τ r31 (r31.toInt) rfl r153 (r153.toInt) rfl w184 (by omega) (by omega) (by omega) k189) cw_RX12_300 (jc_55 cI cL ad σ179 τ) rfl ⟨by dsimp only; omega, by dsimp only; omega⟩ rfl rfl rfl hl.1 rfl (Nat.le_of_ble_eq_true rfl) dX12_meanFrom_88 ⟨Nat.zero_le _, Nat.zero_le _⟩ (fun σ191 τ191 H locs h191 hP hS => ?_)
    obtain ⟨rfl, f193, f194, w195, w196, w197, h191⟩ := h191
    obtain ⟨k198, k199, k200, k201, h191⟩ := h191
    have p202 : jKept σ191 := jKept.fr (f193 75 (by decide)) (f193 76 (by decide)) (f193 77 (by decide)) p183
    have e203 : σ179 69 = σ152 69 := (f181 69 (by decide))
    have e204 : σ191 69 = σ112 69 := jback69 w157 e203 w196
    have e205 : σ179 68 = σ152 68 := (f181 68 (by decide))
    have e206 : σ179 55 6 = σ112 55 6 := ((f182 6 (by decide)).trans (f155 6 (by decide)))
    have w214 : ∀ k : Nat, k < 4 → 0 ≤ (σ112 68 k).toInt ∧ (σ112 68 k).toInt ≤ 3 := w143
    have w215 : ∀ k : Nat, k < 4 → 0 ≤ (σ191 68 k).toInt ∧ (σ191 68 k).toInt ≤ 3 := w195
    have k216 := k201
    rw [e206] at k216
    have D207 := jdig (w214 0 (by decide)) (w214 1 (by decide)) (w214 2 (by decide)) (w214 3 (by decide)) (w215 0 (by decide)) (w215 1 (by decide)) (w215 2 (by decide)) (w215 3 (by decide)) k163 k216
    have e208 : σ191 55 27 = σ112 55 27 := Int32.toInt_inj.mp (by have h9 := D207.1; omega)
    have z217 : (σ179 55 26).toInt = (σ152 55 26).toInt := (congrArg Int32.toInt (show σ179 55 26 = (σ152 55 26) from (f182 26 (by decide))))
    have z218 : (σ112 55 26).toInt = (σ 55 26).toInt := (congrArg Int32.toInt (show σ112 55 26 = (σ 55 26) from ((f134 26 (by decide)).trans ((f50 26 (by decide)).trans (f33 26 (by decide))))))
    have z219 : (σ179 55 25).toInt = (σ152 55 25).toInt := (congrArg Int32.toInt (show σ179 55 25 = (σ152 55 25) from (f182 25 (by decide))))
    have z220 : (σ112 55 25).toInt = (σ 55 25).toInt := (congrArg Int32.toInt (show σ112 55 25 = (σ 55 25) from ((f134 25 (by decide)).trans ((f50 25 (by decide)).trans (f33 25 (by decide))))))
    have e209 : σ191 55 26 = σ112 55 26 := Int32.toInt_inj.mp (by omega)
    have e210 : σ191 55 25 = σ112 55 25 := Int32.toInt_inj.mp (by omega)
    have z221 : (σ112 55 6).toInt = (σ 55 6).toInt := (congrArg Int32.toInt (show σ112 55 6 = (σ 55 6) from ((f134 6 (by decide)).trans ((f50 6 (by decide)).trans (f33 6 (by decide))))))
    have e211 : σ191 68 = σ112 68 := jback68 (nb := (σ112 55 6).toInt) (by omega) w158 e205 (fun k hk => w197 k (by rw [e206]; exact hk)) D207.2
    have f212 : (∀ i : Nat, (i < 55 ∨ 55 < i) ∧ (i < 66 ∨ 66 < i) ∧ (i < 74 ∨ 78 < i) → σ191 i = σ112 i) := fun i hi0 => by
      by_cases h8 : i = 68
      · rw [h8]; exact e211
      by_cases h9 : i = 69
      · rw [h9]; exact e204
      have hi : ((i < 55 ∨ 55 < i) ∧ (i < 66 ∨ 66 < i) ∧ (i < 74 ∨ 78 < i)) ∧ i ≠ 68 ∧ i ≠ 69 := ⟨hi0, h8, h9⟩
      exact ((f193 i (imp_199 i hi)).trans ((f181 i (imp_200 i hi)).trans (f154 i (imp_199 i hi))))
    have f213 : ∀ i : Nat, (i < 18 ∨ 18 < i) ∧ (i < 19 ∨ 19 < i) ∧ (i < 20 ∨ 20 < i) ∧ (i < 21 ∨ 21 < i) ∧ (i < 22 ∨ 22 < i) ∧ (i < 37 ∨ 37 < i) → σ191 55 i = σ112 55 i := fun i hi0 => by
      by_cases h25 : i = 25
      · rw [h25]; exact e210
      by_cases h26 : i = 26
      · rw [h26]; exact e209
      by_cases h27 : i = 27
      · rw [h27]; exact e208
      have hi : ((i < 18 ∨ 18 < i) ∧ (i < 19 ∨ 19 < i) ∧ (i < 20 ∨ 20 < i) ∧ (i < 21 ∨ 21 < i) ∧ (i < 22 ∨ 22 < i) ∧ (i < 37 ∨ 37 < i)) ∧ i ≠ 25 ∧ i ≠ 26 ∧ i ≠ 27 := ⟨hi0, h25, h26, h27⟩
      exact ((f194 i (imp_201 i hi)).trans ((f182 i (imp_202 i hi)).trans (f155 i (imp_201 i hi))))
    clear k216 k201 k163
    refine lv_iload hx hb dX12_meanFrom_91 (lv_at hl 3 rfl) ?_
    refine lv_sipush (v := 1000) hx hb dX12_meanFrom_93 (by decide) ?_
    refine lv_aload_n hx hb dX12_meanFrom_96 rfl (lv_at hl 7 rfl) ?_
    refine va_get (D := D) hx hb hts inlX12 hown hK hP 55 (jc_55 cI cL ad σ191 τ) rfl 13 (by decide) (hts _ kw_15_14) (fun _ h9 => h9) rfl dX12_meanFrom_97 ?_
    have m222 : σ191 55 13 = (σ 55 13) := ((f213 13 (by decide)).trans ((f134 13 (by decide)).trans ((f50 13 (by decide)).trans (f33 13 (by decide)))))
    refine jtopr m222 ?_
    have g223 := jrg (rfl : (σ 55 13).toInt = (σ 55 13).toInt)
    refine lv_isub hx hb dX12_meanFrom_100 ?_
    refine lv_topi (fun x224 ex224 => ?_)
    have tx224 : x224.toInt = -(σ 55 13).toInt + 1000 := (jsub ex224 jz_1000 rfl (by omega) (by omega)).trans (by omega)
    refine lv_i2l (v := x224.toInt64) hx hb dX12_meanFrom_101 rfl ?_
    refine lv_iload hx hb dX12_meanFrom_102 (lv_at hl 2 rfl) ?_
    refine lv_iload hx hb dX12_meanFrom_104 (lv_at hl 0 rfl) ?_
    refine lv_iload hx hb dX12_meanFrom_106 (lv_at hl 4 rfl) ?_
    refine jcallS (As := [.int r101, .int r180, .int r48]) (rest := [.long x224.toInt64, .int x64]) ⟨hx, hb, hml, hown, hts⟩ hK hP hA hS hZ (c_X12_mixed l D cI cL ad zz hJ σ191 τ r101 (r101.toInt) rfl r180 (r180.toInt) rfl r48 (r48.toInt) rfl) cw_RX12_304 ⟨by dsimp only; omega, by dsimp only; omega⟩ rfl rfl rfl hl.1 rfl (Nat.le_of_ble_eq_true rfl) dX12_meanFrom_108 ⟨Nat.zero_le _, Nat.zero_le _⟩ (fun r226 σ225 τ225 H locs h225 hP hS => ?_)
    obtain ⟨⟨rfl, rfl⟩, h225⟩ := h225
    refine lv_i2l (v := r226.toInt64) hx hb dX12_meanFrom_111 rfl ?_
    refine lv_lmul hx hb dX12_meanFrom_112 ?_
    refine lv_topl (fun lx227 elx227 => ?_)
    refine lv_ldc2 (v := 1000) hx hb hown (hts _ kw_34_19) dX12_meanFrom_113 ?_
    refine lv_ldiv hx hb dX12_meanFrom_116 (by decide) ?_
    refine lv_topl (fun lx228 elx228 => ?_)
    refine lv_l2i hx hb dX12_meanFrom_117 rfl ?_
    refine lv_topi (fun x229 ex229 => ?_)
    have gx229 := jrg (rfl : x229.toInt = x229.toInt)
    have g230 := jrg (rfl : x229.toInt = x229.toInt)
    refine lv_iadd hx hb dX12_meanFrom_118 ?_
    refine lv_topi (fun x231 ex231 => ?_)
    have gx231 := jrg (rfl : x231.toInt = x231.toInt)
    exact hret x231 σ191 τ _ _ _ _ rfl ⟨rfl, (fun i hi => ((f212 i hi).trans ((f133 i hi).trans ((f49 i (imp_203 i hi)).trans (f32 i hi))))), (fun i hi => ((f213 i hi).trans ((f134 i hi).trans ((f50 i (imp_204 i hi)).trans (f33 i hi))))), p202, trivial⟩ hP hS dX12_meanFrom_119
set_option maxHeartbeats 4000000 in
set_option maxRecDepth 100000 in
theorem c_X12_means_mf_z (l : Launch) (D : va_G) (cI cL : ClassId) (ad zz : Nat → Nat) (hJ : jD ad) (σ : Nat → Nat → Int32) (τ : Nat → Nat → Int64) (a1 : Int32) (A1 : Int) (t1 : a1.toInt = A1) (hI101 : jI101 σ) (hI102 : jI102 σ) (hI103 : jI103 σ) (hI104 : jI104 σ) (hI105 : jI105 σ) (hI106 : jI106 σ) (hI120 : jI120 σ) (hs_jKept : jKept σ) (hp0 : 0 ≤ A1 ∧ A1 ≤ 19) (hp1 : (σ 55 12).toInt - (σ 55 26).toInt ≤ 8) (hp2 : (σ 55 12).toInt - (σ 55 26).toInt ≤ (((0) : Nat) : Int)) : jM l yX12_meanFrom cX12_meanFrom 9 (some .int) ({ frames := (106 + 4 * (0)), cells := 0, slots := 0, locals := (5261 + 240 * (0)) }) D cI cL ad zz [.ref (ad 55), .int a1] σ τ (fun r σ' τ' => τ = τ' ∧ (∀ i : Nat, (i < 55 ∨ 55 < i) ∧ (i < 66 ∨ 66 < i) ∧ (i < 74 ∨ 78 < i) → σ' i = σ i) ∧ (∀ k : Nat, (k < 18 ∨ 18 < k) ∧ (k < 19 ∨ 19 < k) ∧ (k < 20 ∨ 20 < k) ∧ (k < 21 ∨ 21 < k) ∧ (k < 22 ∨ 22 < k) ∧ (k < 37 ∨ 37 < k) → σ' 55 k = σ 55 k) ∧ (jKept σ') ∧ True) := by
  refine jM.of hJ (by decide +kernel) (nt := .int) rfl (Nat.le_of_ble_eq_true rfl) ?_
  intro p e s m args below meth c Q ls hC hret hl hP
  obtain ⟨hx, hb, hr, hml, hown, hts, hK, -, hlocks, hZ⟩ := hC
  have hown : s.vm.findClass RX12 = some m.cls := hown
  have hS : va_S (jA ad) s.heap s.heap [] := va_S.rf
  have hA : ∀ q, jA ad q → jA ad q := fun _ h => h
  have hl : lv_has ls 9 [(0, .ref (ad 55)), (1, .int a1)] := hl
  have g1 := jrg t1
  obtain ⟨i1, w2, w3⟩ : (0 ≤ (σ 55 6).toInt ∧ (σ 55 6).toInt ≤ 4) ∧ (∀ k : Nat, k < 4 → 0 ≤ (σ 60 k).toInt ∧ (σ 60 k).toInt ≤ 50) ∧ (∀ k : Nat, k < 4 → 0 ≤ (σ 61 k).toInt ∧ (σ 61 k).toInt ≤ 20) := id hI102
  obtain ⟨i4, i5, i6, w7, w8⟩ : (1 ≤ (σ 55 10).toInt ∧ (σ 55 10).toInt ≤ 8) ∧ (1 ≤ (σ 55 12).toInt ∧ (σ 55 12).toInt ≤ 12) ∧ (0 ≤ (σ 55 13).toInt ∧ (σ 55 13).toInt ≤ 999) ∧ (∀ k : Nat, k < 8 → 0 ≤ (σ 62 k).toInt ∧ (σ 62 k).toInt ≤ 3) ∧ (∀ k : Nat, k < 8 → 0 ≤ (σ 67 k).toInt ∧ (σ 67 k).toInt ≤ 3) := id hI104
  obtain ⟨i9, i10, i11, i12, i13, w14⟩ : (0 ≤ (σ 55 25).toInt) ∧ ((σ 55 25).toInt ≤ (σ 55 10).toInt) ∧ (0 ≤ (σ 55 26).toInt) ∧ ((σ 55 26).toInt ≤ (σ 55 12).toInt) ∧ ((-1) ≤ (σ 55 27).toInt ∧ (σ 55 27).toInt ≤ 3) ∧ (∀ k : Nat, k < 4 → 0 ≤ (σ 68 k).toInt ∧ (σ 68 k).toInt ≤ 3) := id hI120
  refine lv_aload_n hx hb dX12_meanFrom_0 rfl (lv_at hl 0 rfl) ?_
  refine jcallV (As := []) (rest := []) ⟨hx, hb, hml, hown, hts⟩ hK hP hA hS hZ (c_X12_isEnded l D cI cL ad zz hJ σ τ hI102 hI104 hI120) cw_RX12_307 (jc_55 cI cL ad σ τ) rfl ⟨by dsimp only; omega, by dsimp only; omega⟩ rfl rfl rfl hl.1 rfl (Nat.le_of_ble_eq_true rfl) dX12_meanFrom_1 ⟨Nat.zero_le _, Nat.zero_le _⟩ (fun r16 σ15 τ15 H locs h15 hP hS => ?_)
  obtain ⟨⟨rfl, rfl⟩, h15⟩ := h15
  rcases h15 with h17 | h18
  · obtain ⟨q20, k19⟩ := h17
    have q20 := q20.symm
    subst q20
    refine lv_if_eq (tgt := 9) hx hb dX12_meanFrom_4 (by decide) (fun c => absurd c (by decide)) (fun _ => ?_)
    refine lv_iconst (v := 0) hx hb dX12_meanFrom_7 (by decide) ?_
    exact hret 0 σ τ _ _ _ _ rfl ⟨rfl, (fun _ _ => rfl), (fun _ _ => rfl), hs_jKept, trivial⟩ hP hS dX12_meanFrom_8
  · obtain ⟨q24, k21, k22, k23⟩ := h18
    exact absurd (by omega : False) id
set_option maxHeartbeats 4000000 in
set_option maxRecDepth 100000 in
theorem c_X12_means (l : Launch) (D : va_G) (cI cL : ClassId) (ad zz : Nat → Nat) (hJ : jD ad) (n : Nat) : (∀ (σ : Nat → Nat → Int32) (τ : Nat → Nat → Int64) (a1 : Int32) (A1 : Int) (t1 : a1.toInt = A1) (hI101 : jI101 σ) (hI102 : jI102 σ) (hI103 : jI103 σ) (hI104 : jI104 σ) (hI105 : jI105 σ) (hI106 : jI106 σ) (hI120 : jI120 σ) (hs_jKept : jKept σ) (hp0 : 0 ≤ A1 ∧ A1 ≤ 19) (hp1 : (σ 55 12).toInt - (σ 55 26).toInt ≤ 8) (hp2 : (σ 55 12).toInt - (σ 55 26).toInt ≤ (((n) : Nat) : Int)), jM l yX12_meanFrom cX12_meanFrom 9 (some .int) ({ frames := (106 + 4 * (n)), cells := 0, slots := 0, locals := (5261 + 240 * (n)) }) D cI cL ad zz [.ref (ad 55), .int a1] σ τ (fun r σ' τ' => τ = τ' ∧ (∀ i : Nat, (i < 55 ∨ 55 < i) ∧ (i < 66 ∨ 66 < i) ∧ (i < 74 ∨ 78 < i) → σ' i = σ i) ∧ (∀ k : Nat, (k < 18 ∨ 18 < k) ∧ (k < 19 ∨ 19 < k) ∧ (k < 20 ∨ 20 < k) ∧ (k < 21 ∨ 21 < k) ∧ (k < 22 ∨ 22 < k) ∧ (k < 37 ∨ 37 < k) → σ' 55 k = σ 55 k) ∧ (jKept σ') ∧ True)) := by
  induction n with
  | zero =>
    have h_mf := c_X12_means_mf_z l D cI cL ad zz hJ
    exact h_mf
  | succ n ih =>
    have g_mf := ih
    have h_mf := c_X12_means_mf_g l D cI cL ad zz hJ n g_mf
    exact h_mf
set_option maxHeartbeats 4000000 in
set_option maxRecDepth 100000 in
theorem c_X12_likelies_lf_g (l : Launch) (D : va_G) (cI cL : ClassId) (ad zz : Nat → Nat) (hJ : jD ad) (n : Nat) (h_lf : ∀ (σ : Nat → Nat → Int32) (τ : Nat → Nat → Int64) (a1 : Int32) (A1 : Int) (t1 : a1.toInt = A1) (a2 : Int32) (A2 : Int) (t2 : a2.toInt = A2) (hI101 : jI101 σ) (hI102 : jI102 σ) (hI103 : jI103 σ) (hI104 : jI104 σ) (hI105 : jI105 σ) (hI106 : jI106 σ) (hI120 : jI120 σ) (hs_jKept : jKept σ) (hp0 : 0 ≤ A1 ∧ A1 ≤ 19) (hp1 : (σ 55 12).toInt - (σ 55 26).toInt ≤ 8) (hp2 : (σ 55 12).toInt - (σ 55 26).toInt ≤ (((n) : Nat) : Int)), jM l yX12_likelyFrom cX12_likelyFrom 10 (some .int) ({ frames := (106 + 4 * (n)), cells := 0, slots := 0, locals := (5261 + 240 * (n)) }) D cI cL ad zz [.ref (ad 55), .int a1, .int a2] σ τ (fun r σ' τ' => τ = τ' ∧ (∀ i : Nat, (i < 55 ∨ 55 < i) ∧ (i < 66 ∨ 66 < i) ∧ (i < 74 ∨ 78 < i) → σ' i = σ i) ∧ (∀ k : Nat, (k < 18 ∨ 18 < k) ∧ (k < 19 ∨ 19 < k) ∧ (k < 20 ∨ 20 < k) ∧ (k < 21 ∨ 21 < k) ∧ (k < 22 ∨ 22 < k) ∧ (k < 37 ∨ 37 < k) → σ' 55 k = σ 55 k) ∧ (jKept σ') ∧ True)) (σ : Nat → Nat → Int32) (τ : Nat → Nat → Int64) (a1 : Int32) (A1 : Int) (t1 : a1.toInt = A1) (a2 : Int32) (A2 : Int) (t2 : a2.toInt = A2) (hI101 : jI101 σ) (hI102 : jI102 σ) (hI103 : jI103 σ) (hI104 : jI104 σ) (hI105 : jI105 σ) (hI106 : jI106 σ) (hI120 : jI120 σ) (hs_jKept : jKept σ) (hp0 : 0 ≤ A1 ∧ A1 ≤ 19) (hp1 : (σ 55 12).toInt - (σ 55 26).toInt ≤ 8) (hp2 : (σ 55 12).toInt - (σ 55 26).toInt ≤ (((n + 1) : Nat) : Int)) : jM l yX12_likelyFrom cX12_likelyFrom 10 (some .int) ({ frames := (106 + 4 * (n + 1)), cells := 0, slots := 0, locals := (5261 + 240 * (n + 1)) }) D cI cL ad zz [.ref (ad 55), .int a1, .int a2] σ τ (fun r σ' τ' => τ = τ' ∧ (∀ i : Nat, (i < 55 ∨ 55 < i) ∧ (i < 66 ∨ 66 < i) ∧ (i < 74 ∨ 78 < i) → σ' i = σ i) ∧ (∀ k : Nat, (k < 18 ∨ 18 < k) ∧ (k < 19 ∨ 19 < k) ∧ (k < 20 ∨ 20 < k) ∧ (k < 21 ∨ 21 < k) ∧ (k < 22 ∨ 22 < k) ∧ (k < 37 ∨ 37 < k) → σ' 55 k = σ 55 k) ∧ (jKept σ') ∧ True) := by
  refine jM.of hJ (by decide +kernel) (nt := .int) rfl (Nat.le_of_ble_eq_true rfl) ?_
  intro p e s m args below meth c Q ls hC hret hl hP
  obtain ⟨hx, hb, hr, hml, hown, hts, hK, -, hlocks, hZ⟩ := hC
  have hown : s.vm.findClass RX12 = some m.cls := hown
  have hS : va_S (jA ad) s.heap s.heap [] := va_S.rf
  have hA : ∀ q, jA ad q → jA ad q := fun _ h => h
  have hl : lv_has ls 10 [(0, .ref (ad 55)), (1, .int a1), (2, .int a2)] := hl
  have g1 := jrg t1
  have g2 := jrg t2
  obtain ⟨i1, w2, w3⟩ : (0 ≤ (σ 55 6).toInt ∧ (σ 55 6).toInt ≤ 4) ∧ (∀ k : Nat, k < 4 → 0 ≤ (σ 60 k).toInt ∧ (σ 60 k).toInt ≤ 50) ∧ (∀ k : Nat, k < 4 → 0 ≤ (σ 61 k).toInt ∧ (σ 61 k).toInt ≤ 20) := id hI102
  obtain ⟨i4, i5, i6, w7, w8⟩ : (1 ≤ (σ 55 10).toInt ∧ (σ 55 10).toInt ≤ 8) ∧ (1 ≤ (σ 55 12).toInt ∧ (σ 55 12).toInt ≤ 12) ∧ (0 ≤ (σ 55 13).toInt ∧ (σ 55 13).toInt ≤ 999) ∧ (∀ k : Nat, k < 8 → 0 ≤ (σ 62 k).toInt ∧ (σ 62 k).toInt ≤ 3) ∧ (∀ k : Nat, k < 8 → 0 ≤ (σ 67 k).toInt ∧ (σ 67 k).toInt ≤ 3) := id hI104
  obtain ⟨i9, i10, i11, i12, i13, w14⟩ : (0 ≤ (σ 55 25).toInt) ∧ ((σ 55 25).toInt ≤ (σ 55 10).toInt) ∧ (0 ≤ (σ 55 26).toInt) ∧ ((σ 55 26).toInt ≤ (σ 55 12).toInt) ∧ ((-1) ≤ (σ 55 27).toInt ∧ (σ 55 27).toInt ≤ 3) ∧ (∀ k : Nat, k < 4 → 0 ≤ (σ 68 k).toInt ∧ (σ 68 k).toInt ≤ 3) := id hI120
  refine lv_aload_n hx hb dX12_likelyFrom_0 rfl (lv_at hl 0 rfl) ?_
  refine jcallV (As := []) (rest := []) ⟨hx, hb, hml, hown, hts⟩ hK hP hA hS hZ (c_X12_isEnded l D cI cL ad zz hJ σ τ hI102 hI104 hI120) cw_RX12_307 (jc_55 cI cL ad σ τ) rfl ⟨by dsimp only; omega, by dsimp only; omega⟩ rfl rfl rfl hl.1 rfl (Nat.le_of_ble_eq_true rfl) dX12_likelyFrom_1 ⟨Nat.zero_le _, Nat.zero_le _⟩ (fun r16 σ15 τ15 H locs h15 hP hS => ?_)
  obtain ⟨⟨rfl, rfl⟩, h15⟩ := h15
  rcases h15 with h17 | h18
  · obtain ⟨q20, k19⟩ := h17
    have q20 := q20.symm
    subst q20
    refine lv_if_eq (tgt := 19) hx hb dX12_likelyFrom_4 (by decide) (fun c => absurd c (by decide)) (fun _ => ?_)
    refine lv_iload_n hx hb dX12_likelyFrom_7 rfl (lv_at hl 2 rfl) ?_
    refine lv_if_le (tgt := 17) hx hb dX12_likelyFrom_8 (by decide) (fun c21 => ?_) (fun c21 => ?_)
    · have kc21 := jle c21 t2 jz_0
      refine lv_iconst (v := 0) hx hb dX12_likelyFrom_17 (by decide) ?_
      exact hret 0 σ τ _ _ _ _ rfl ⟨rfl, (fun _ _ => rfl), (fun _ _ => rfl), hs_jKept, trivial⟩ hP hS dX12_likelyFrom_18
    · have kc21 := jnle c21 t2 jz_0
      refine lv_ldcw (v := 1000000) hx hb hown (hts _ kw_37_13) dX12_likelyFrom_11 ?_
      refine lv_goto (tgt := 18) hx hb dX12_likelyFrom_14 (by decide) ?_
      exact hret 1000000 σ τ _ _ _ _ rfl ⟨rfl, (fun _ _ => rfl), (fun _ _ => rfl), hs_jKept, trivial⟩ hP hS dX12_likelyFrom_18
  · obtain ⟨q25, k22, k23, k24⟩ := h18
    have q25 := q25.symm
    subst q25
    obtain ⟨B26, k27, k28, w29⟩ := k24
    refine lv_if_eq (tgt := 19) hx hb dX12_likelyFrom_4 (by decide) (fun _ => ?_) (fun c => absurd (by decide) c)
    refine lv_aload_n hx hb dX12_likelyFrom_19 rfl (lv_at hl 0 rfl) ?_
    refine lv_iload_n hx hb dX12_likelyFrom_20 rfl (lv_at hl 1 rfl) ?_
    have p30 : jmb σ B26 = 1 := (jmb_fr rfl rfl rfl rfl rfl B26).trans w29
    refine jcallV (As := [.int a1]) (rest := []) ⟨hx, hb, hml, hown, hts⟩ hK hP hA hS hZ (c_X12_putsOn l D cI cL ad zz hJ σ τ B26 p30 a1 (A1) t1 hI101 hI102 hI103 hI104 hI105 hI106 hI120 hs_jKept (by omega) (by omega) (by omega) (by omega) (by omega)) cw_RX12_321 (jc_55 cI cL ad σ τ) rfl ⟨by dsimp only; omega, by dsimp only; omega⟩ rfl rfl rfl hl.1 rfl (Nat.le_of_ble_eq_true rfl) dX12_likelyFrom_21 ⟨Nat.zero_le _, Nat.zero_le _⟩ (fun r32 σ31 τ31 H locs h31 hP hS => ?_)
    obtain ⟨rfl, f33, f34, p35, h31⟩ := h31
    have h36 := h31
    obtain ⟨q38, k37⟩ := h36
    refine lv_istore_n (lv' := [(3, .int r32), (0, .ref (ad 55)), (1, .int a1), (2, .int a2)]) hx hb dX12_likelyFrom_24 rfl hl (by decide) rfl (fun ls hl => ?_)
    refine lv_aload_n hx hb dX12_likelyFrom_25 rfl (lv_at hl 1 rfl) ?_
    refine va_get (D := D) hx hb hts inlX12 hown hK hP 55 (jc_55 cI cL ad σ31 τ) rfl 11 (by decide) (hts _ kw_7_8) (fun _ h9 => h9) rfl dX12_likelyFrom_26 ?_
    refine lv_aload_n hx hb dX12_likelyFrom_29 rfl (lv_at hl 1 rfl) ?_
    refine va_get (D := D) hx hb hts inlX12 hown hK hP 55 (jc_55 cI cL ad σ31 τ) rfl 25 (by decide) (hts _ kw_23_6) (fun _ h9 => h9) rfl dX12_likelyFrom_30 ?_
    have m39 : σ31 55 25 = (σ 55 25) := (f34 25 (by decide))
    refine jtopr m39 ?_
    refine jald hx hb hK hP (jc_62 cI cL ad σ31 τ) (jin rfl (by omega) (by omega)) dX12_likelyFrom_33 ?_
    have w40 : ∀ k : Nat, k < 8 → 0 ≤ (σ31 62 k).toInt ∧ (σ31 62 k).toInt ≤ 3 := (jrr_fr (f33 62 (by decide)) w7)
    have g41 := w40 _ (jnat (x := (σ 55 25)) rfl (n := 8) (by omega) (by decide))
    refine lv_topi (fun x42 ex42 => ?_)
    rw [← ex42] at g41
    refine lv_istore (lv' := [(4, .int x42), (3, .int r32), (0, .ref (ad 55)), (1, .int a1), (2, .int a2)]) hx hb dX12_likelyFrom_34 hl (by decide) rfl (fun ls hl => ?_)
    refine lv_aload_n hx hb dX12_likelyFrom_36 rfl (lv_at hl 2 rfl) ?_
    refine lv_iload_n hx hb dX12_likelyFrom_37 rfl (lv_at hl 1 rfl) ?_
    refine lv_iload hx hb dX12_likelyFrom_38 (lv_at hl 0 rfl) ?_
    have I43 : jI101 σ31 := jI101_fr (f34 4 (by decide)) (f34 5 (by decide)) (f33 56 (by decide)) (f33 57 (by decide)) (f33 58 (by decide)) (f33 59 (by decide)) hI101
    have I44 : jI102 σ31 := jI102_fr (f34 6 (by decide)) (f33 60 (by decide)) (f33 61 (by decide)) hI102
    have I45 : jI103 σ31 := jI103_fr (f34 9 (by decide)) hI103
    have I46 : jI105 σ31 := jI105_fr (f34 15 (by decide)) (f33 65 (by decide)) hI105
    have w47 : ∀ k : Nat, k < 4 → 0 ≤ (σ31 68 k).toInt ∧ (σ31 68 k).toInt ≤ 3 := (jrr_fr (f33 68 (by decide)) w14)
    refine jcallV (As := [.int r32, .int x42]) (rest := []) ⟨hx, hb, hml, hown, hts⟩ hK hP hA hS hZ (c_X12_outBy l D cI cL ad zz hJ σ31 τ r32 (r32.toInt) rfl x42 (x42.toInt) rfl I43 I44 I45 I46 w47 (by omega) (by omega)) cw_RX12_259 (jc_55 cI cL ad σ31 τ) rfl ⟨by dsimp only; omega, by dsimp only; omega⟩ rfl rfl rfl hl.1 rfl (Nat.le_of_ble_eq_true rfl) dX12_likelyFrom_40 ⟨Nat.zero_le _, Nat.zero_le _⟩ (fun r49 σ48 τ48 H locs h48 hP hS => ?_)
    obtain ⟨rfl, f50, f51, h48⟩ := h48
    have h52 := h48
    obtain ⟨q54, k53⟩ := h52
    refine lv_istore (lv' := [(5, .int r49), (4, .int x42), (3, .int r32), (0, .ref (ad 55)), (1, .int a1), (2, .int a2)]) hx hb dX12_likelyFrom_43 hl (by decide) rfl (fun ls hl => ?_)
    refine lv_iload_n hx hb dX12_likelyFrom_45 rfl (lv_at hl 5 rfl) ?_
    refine lv_aload_n hx hb dX12_likelyFrom_46 rfl (lv_at hl 3 rfl) ?_
    refine lv_iload_n hx hb dX12_likelyFrom_47 rfl (lv_at hl 2 rfl) ?_
    refine lv_iload hx hb dX12_likelyFrom_48 (lv_at hl 1 rfl) ?_
    have I55 : jI101 σ48 := jI101_fr (f51 4 (by decide)) (f51 5 (by decide)) (f50 56 (by decide)) (f50 57 (by decide)) (f50 58 (by decide)) (f50 59 (by decide)) I43
    have I56 : jI102 σ48 := jI102_fr (f51 6 (by decide)) (f50 60 (by decide)) (f50 61 (by decide)) I44
    have I57 : jI103 σ48 := jI103_fr (f51 9 (by decide)) I45
    have w58 : ∀ k : Nat, k < 4 → 0 ≤ (σ48 68 k).toInt ∧ (σ48 68 k).toInt ≤ 3 := (jrr_fr (f50 68 (by decide)) w47)
    refine jcallV (As := [.int r32, .int x42]) (rest := [.int a2]) ⟨hx, hb, hml, hown, hts⟩ hK hP hA hS hZ (c_X12_runsBy l D cI cL ad zz hJ σ48 τ r32 (r32.toInt) rfl x42 (x42.toInt) rfl I55 I56 I57 w58 (by omega) (by omega)) cw_RX12_262 (jc_55 cI cL ad σ48 τ) rfl ⟨by dsimp only; omega, by dsimp only; omega⟩ rfl rfl rfl hl.1 rfl (Nat.le_of_ble_eq_true rfl) dX12_likelyFrom_50 ⟨Nat.zero_le _, Nat.zero_le _⟩ (fun r60 σ59 τ59 H locs h59 hP hS => ?_)
    obtain ⟨⟨rfl, rfl⟩, h59⟩ := h59
    have h61 := h59
    obtain ⟨q63, k62⟩ := h61
    have g64 := jrg (rfl : r60.toInt = r60.toInt)
    refine lv_isub hx hb dX12_likelyFrom_53 ?_
    refine lv_topi (fun x65 ex65 => ?_)
    have gx65 := jrg (rfl : x65.toInt = x65.toInt)
    refine lv_istore (lv' := [(6, .int x65), (5, .int r49), (4, .int x42), (3, .int r32), (0, .ref (ad 55)), (1, .int a1), (2, .int a2)]) hx hb dX12_likelyFrom_54 hl (by decide) rfl (fun ls hl => ?_)
    refine lv_aload_n hx hb dX12_likelyFrom_56 rfl (lv_at hl 4 rfl) ?_
    refine lv_iload_n hx hb dX12_likelyFrom_57 rfl (lv_at hl 3 rfl) ?_
    refine lv_iconst (v := 1) hx hb dX12_likelyFrom_58 (by decide) ?_
    have z66 : (σ48 55 6).toInt = (σ 55 6).toInt := (congrArg Int32.toInt (show σ48 55 6 = (σ 55 6) from ((f51 6 (by decide)).trans (f34 6 (by decide)))))
    have z67 : (σ48 55 27).toInt = (σ 55 27).toInt := (congrArg Int32.toInt (show σ48 55 27 = (σ 55 27) from ((f51 27 (by decide)).trans (f34 27 (by decide)))))
    have z68 : (σ48 55 25).toInt = (σ 55 25).toInt := (congrArg Int32.toInt (show σ48 55 25 = (σ 55 25) from ((f51 25 (by decide)).trans m39)))
    have z69 : (σ48 55 26).toInt = (σ 55 26).toInt := (congrArg Int32.toInt (show σ48 55 26 = (σ 55 26) from ((f51 26 (by decide)).trans (f34 26 (by decide)))))
    have z70 : (σ48 68 0).toInt = (σ 68 0).toInt := (congrArg Int32.toInt (show σ48 68 0 = (σ 68 0) from ((congrFun (f50 68 (by decide)) 0).trans (congrFun (f33 68 (by decide)) 0))))
    have z71 : (σ48 68 1).toInt = (σ 68 1).toInt := (congrArg Int32.toInt (show σ48 68 1 = (σ 68 1) from ((congrFun (f50 68 (by decide)) 1).trans (congrFun (f33 68 (by decide)) 1))))
    have z72 : (σ48 68 2).toInt = (σ 68 2).toInt := (congrArg Int32.toInt (show σ48 68 2 = (σ 68 2) from ((congrFun (f50 68 (by decide)) 2).trans (congrFun (f33 68 (by decide)) 2))))
    have z73 : (σ48 68 3).toInt = (σ 68 3).toInt := (congrArg Int32.toInt (show σ48 68 3 = (σ 68 3) from ((congrFun (f50 68 (by decide)) 3).trans (congrFun (f33 68 (by decide)) 3))))
    refine jcallV (As := [.int r32, .int 1]) (rest := []) ⟨hx, hb, hml, hown, hts⟩ hK hP hA hS hZ (c_X12_goes_1 l D cI cL ad zz hJ σ48 τ r32 (r32.toInt) rfl w58 (by omega) (by omega) (by omega) (by omega) (by omega)) cw_RX12_296 (jc_55 cI cL ad σ48 τ) rfl ⟨by dsimp only; omega, by dsimp only; omega⟩ rfl rfl rfl hl.1 rfl (Nat.le_of_ble_eq_true rfl) dX12_likelyFrom_59 ⟨Nat.zero_le _, Nat.zero_le _⟩ (fun r75 σ74 τ74 H locs h74 hP hS => ?_)
    obtain ⟨rfl, f76, f77, w78, w79, w80, h74⟩ := h74
    obtain ⟨k81, k82, k83, h74⟩ := h74
    have h84 := h74
    obtain ⟨q90, k85, k86, k87, k88, k89⟩ := h84
    refine lv_istore (lv' := [(7, .int r75), (6, .int x65), (5, .int r49), (4, .int x42), (3, .int r32), (0, .ref (ad 55)), (1, .int a1), (2, .int a2)]) hx hb dX12_likelyFrom_62 hl (by decide) rfl (fun ls hl => ?_)
    refine lv_aload_n hx hb dX12_likelyFrom_64 rfl (lv_at hl 5 rfl) ?_
    refine lv_iload_n hx hb dX12_likelyFrom_65 rfl (lv_at hl 6 rfl) ?_
    refine lv_iload hx hb dX12_likelyFrom_66 (lv_at hl 1 rfl) ?_
    have I91 : jI101 σ74 := jI101_fr (f77 4 (by decide)) (f77 5 (by decide)) (f76 56 (by decide)) (f76 57 (by decide)) (f76 58 (by decide)) (f76 59 (by decide)) I55
    have I92 : jI102 σ74 := jI102_fr (f77 6 (by decide)) (f76 60 (by decide)) (f76 61 (by decide)) I56
    have I93 : jI103 σ74 := jI103_fr (f77 9 (by decide)) I57
    have I94 : jI104 σ74 := jI104_fr ((f77 10 (by decide)).trans ((f51 10 (by decide)).trans (f34 10 (by decide)))) ((f77 12 (by decide)).trans ((f51 12 (by decide)).trans (f34 12 (by decide)))) ((f77 13 (by decide)).trans ((f51 13 (by decide)).trans (f34 13 (by decide)))) ((f76 62 (by decide)).trans ((f50 62 (by decide)).trans (f33 62 (by decide)))) ((f76 67 (by decide)).trans ((f50 67 (by decide)).trans (f33 67 (by decide)))) hI104
    have I95 : jI105 σ74 := jI105_fr ((f77 15 (by decide)).trans (f51 15 (by decide))) ((f76 65 (by decide)).trans (f50 65 (by decide))) I46
    have I96 : jI106 σ74 := jI106_fr ((f77 32 (by decide)).trans ((f51 32 (by decide)).trans (f34 32 (by decide)))) ((f76 70 (by decide)).trans ((f50 70 (by decide)).trans (f33 70 (by decide)))) ((f76 71 (by decide)).trans ((f50 71 (by decide)).trans (f33 71 (by decide)))) ((f76 72 (by decide)).trans ((f50 72 (by decide)).trans (f33 72 (by decide)))) hI106
    have z97 : (σ74 55 10).toInt = (σ 55 10).toInt := (congrArg Int32.toInt (show σ74 55 10 = (σ 55 10) from ((f77 10 (by decide)).trans ((f51 10 (by decide)).trans (f34 10 (by decide))))))
    have z98 : (σ74 55 12).toInt = (σ 55 12).toInt := (congrArg Int32.toInt (show σ74 55 12 = (σ 55 12) from ((f77 12 (by decide)).trans ((f51 12 (by decide)).trans (f34 12 (by decide))))))
    have I99 : jI120 σ74 := ⟨(by omega), (by omega), (by omega), (by omega), (by omega), w78⟩
    have p100 : jKept σ74 := jKept.fr ((f76 75 (by decide)).trans (f50 75 (by decide))) ((f76 76 (by decide)).trans (f50 76 (by decide))) ((f76 77 (by decide)).trans (f50 77 (by decide))) p35
    refine jcallV (As := [.int a1, .int x65]) (rest := []) ⟨hx, hb, hml, hown, hts⟩ hK hP hA hS hZ (h_lf σ74 τ a1 (A1) t1 x65 (x65.toInt) rfl I91 I92 I93 I94 I95 I96 I99 p100 (by omega) (by omega) (by omega)) cw_RX12_328 (jc_55 cI cL ad σ74 τ) rfl ⟨by dsimp only; omega, by dsimp only; omega⟩ rfl rfl rfl hl.1 rfl (Nat.le_of_ble_eq_true rfl) dX12_likelyFrom_68 ⟨Nat.zero_le _, Nat.zero_le _⟩ (fun r102 σ101 τ101 H locs h101 hP hS => ?_)
    obtain ⟨rfl, f103, f104, p105, h101⟩ := h101
    refine lv_istore (lv' := [(8, .int r102), (7, .int r75), (6, .int x65), (5, .int r49), (4, .int x42), (3, .int r32), (0, .ref (ad 55)), (1, .int a1), (2, .int a2)]) hx hb dX12_likelyFrom_71 hl (by decide) rfl (fun ls hl => ?_)
    refine lv_aload_n hx hb dX12_likelyFrom_73 rfl (lv_at hl 6 rfl) ?_
    refine lv_iload_n hx hb dX12_likelyFrom_74 rfl (lv_at hl 5 rfl) ?_
    refine lv_iconst (v := 1) hx hb dX12_likelyFrom_75 (by decide) ?_
    refine lv_iload hx hb dX12_likelyFrom_76 (lv_at hl 1 rfl) ?_
    have w106 : ∀ k : Nat, k < 4 → 0 ≤ (σ101 68 k).toInt ∧ (σ101 68 k).toInt ≤ 3 := (jrr_fr (f103 68 (by decide)) w78)
    have z107 : (σ101 55 25).toInt = (σ74 55 25).toInt := (congrArg Int32.toInt (show σ101 55 25 = (σ74 55 25) from (f104 25 (by decide))))
    have z108 : (σ101 55 26).toInt = (σ74 55 26).toInt := (congrArg Int32.toInt (show σ101 55 26 = (σ74 55 26) from (f104 26 (by decide))))
    have z109 : (σ101 55 6).toInt = (σ 55 6).toInt := (congrArg Int32.toInt (show σ101 55 6 = (σ 55 6) from ((f104 6 (by decide)).trans ((f77 6 (by decide)).trans ((f51 6 (by decide)).trans (f34 6 (by decide)))))))
    have w110 : ∀ k : Nat, k < 4 → 0 ≤ (σ48 68 k).toInt ∧ (σ48 68 k).toInt ≤ 3 := w58
    have z112 : (σ48 55 27).toInt = (σ 55 27).toInt := (congrArg Int32.toInt (show σ48 55 27 = (σ 55 27) from ((f51 27 (by decide)).trans (f34 27 (by decide)))))
    have k111 := jwas (by omega) (w110 0 (by decide)) (w110 1 (by decide)) (w110 2 (by decide)) (w110 3 (by decide)) k85
    rw [← (show σ101 55 6 = σ48 55 6 from ((f104 6 (by decide)).trans (f77 6 (by decide))))] at k111
    refine jcallVv (As := [.int r32, .int 1, .int r75]) (rest := []) ⟨hx, hb, hml, hown, hts⟩ hK hP hA hS hZ (c_X12_goesBack_1 l D cI cL ad zz hJ σ101 τ r32 (r32.toInt) rfl r75 (r75.toInt) rfl w106 (by omega) (by omega) (by omega) k111) cw_RX12_300 (jc_55 cI cL ad σ101 τ) rfl ⟨by dsimp only; omega, by dsimp only; omega⟩ rfl rfl rfl hl.1 rfl (Nat.le_of_ble_eq_true rfl) dX12_likelyFrom_78 ⟨Nat.zero_le _, Nat.zero_le _⟩ (fun σ113 τ113 H locs h113 hP hS => ?_)
    obtain ⟨rfl, f115, f116, w117, w118, w119, h113⟩ := h113
    obtain ⟨k120, k121, k122, k123, h113⟩ := h113
    have p124 : jKept σ113 := jKept.fr (f115 75 (by decide)) (f115 76 (by decide)) (f115 77 (by decide)) p105
    have e125 : σ101 69 = σ74 69 := (f103 69 (by decide))
    have e126 : σ113 69 = σ48 69 := jback69 w79 e125 w118
    have e127 : σ101 68 = σ74 68 := (f103 68 (by decide))
    have e128 : σ101 55 6 = σ48 55 6 := ((f104 6 (by decide)).trans (f77 6 (by decide)))
    have w136 : ∀ k : Nat, k < 4 → 0 ≤ (σ48 68 k).toInt ∧ (σ48 68 k).toInt ≤ 3 := w58
    have w137 : ∀ k : Nat, k < 4 → 0 ≤ (σ113 68 k).toInt ∧ (σ113 68 k).toInt ≤ 3 := w117
    have k138 := k123
    rw [e128] at k138
    have D129 := jdig (w136 0 (by decide)) (w136 1 (by decide)) (w136 2 (by decide)) (w136 3 (by decide)) (w137 0 (by decide)) (w137 1 (by decide)) (w137 2 (by decide)) (w137 3 (by decide)) k85 k138
    have e130 : σ113 55 27 = σ48 55 27 := Int32.toInt_inj.mp (by have h9 := D129.1; omega)
    have z139 : (σ101 55 26).toInt = (σ74 55 26).toInt := (congrArg Int32.toInt (show σ101 55 26 = (σ74 55 26) from (f104 26 (by decide))))
    have z140 : (σ48 55 26).toInt = (σ 55 26).toInt := (congrArg Int32.toInt (show σ48 55 26 = (σ 55 26) from ((f51 26 (by decide)).trans (f34 26 (by decide)))))
    have z141 : (σ101 55 25).toInt = (σ74 55 25).toInt := (congrArg Int32.toInt (show σ101 55 25 = (σ74 55 25) from (f104 25 (by decide))))
    have z142 : (σ48 55 25).toInt = (σ 55 25).toInt := (congrArg Int32.toInt (show σ48 55 25 = (σ 55 25) from ((f51 25 (by decide)).trans (f34 25 (by decide)))))
    have e131 : σ113 55 26 = σ48 55 26 := Int32.toInt_inj.mp (by omega)
    have e132 : σ113 55 25 = σ48 55 25 := Int32.toInt_inj.mp (by omega)
    have z143 : (σ48 55 6).toInt = (σ 55 6).toInt := (congrArg Int32.toInt (show σ48 55 6 = (σ 55 6) from ((f51 6 (by decide)).trans (f34 6 (by decide)))))
    have e133 : σ113 68 = σ48 68 := jback68 (nb := (σ48 55 6).toInt) (by omega) w80 e127 (fun k hk => w119 k (by rw [e128]; exact hk)) D129.2
    have f134 : (∀ i : Nat, (i < 55 ∨ 55 < i) ∧ (i < 66 ∨ 66 < i) ∧ (i < 74 ∨ 78 < i) → σ113 i = σ48 i) := fun i hi0 => by
      by_cases h8 : i = 68
      · rw [h8]; exact e133
      by_cases h9 : i = 69
      · rw [h9]; exact e126
      have hi : ((i < 55 ∨ 55 < i) ∧ (i < 66 ∨ 66 < i) ∧ (i < 74 ∨ 78 < i)) ∧ i ≠ 68 ∧ i ≠ 69 := ⟨hi0, h8, h9⟩
      exact ((f115 i (imp_199 i hi)).trans ((f103 i (imp_200 i hi)).trans (f76 i (imp_199 i hi))))
    have f135 : ∀ i : Nat, (i < 18 ∨ 18 < i) ∧ (i < 19 ∨ 19 < i) ∧ (i < 20 ∨ 20 < i) ∧ (i < 21 ∨ 21 < i) ∧ (i < 22 ∨ 22 < i) ∧ (i < 37 ∨ 37 < i) → σ113 55 i = σ48 55 i := fun i hi0 => by
      by_cases h25 : i = 25
      · rw [h25]; exact e132
      by_cases h26 : i = 26
      · rw [h26]; exact e131
      by_cases h27 : i = 27
      · rw [h27]; exact e130
      have hi : ((i < 18 ∨ 18 < i) ∧ (i < 19 ∨ 19 < i) ∧ (i < 20 ∨ 20 < i) ∧ (i < 21 ∨ 21 < i) ∧ (i < 22 ∨ 22 < i) ∧ (i < 37 ∨ 37 < i)) ∧ i ≠ 25 ∧ i ≠ 26 ∧ i ≠ 27 := ⟨hi0, h25, h26, h27⟩
      exact ((f116 i (imp_201 i hi)).trans ((f104 i (imp_202 i hi)).trans (f77 i (imp_201 i hi))))
    clear k138 k123 k85
    refine lv_aload_n hx hb dX12_likelyFrom_81 rfl (lv_at hl 6 rfl) ?_
    refine lv_iload_n hx hb dX12_likelyFrom_82 rfl (lv_at hl 5 rfl) ?_
    refine lv_iconst (v := 0) hx hb dX12_likelyFrom_83 (by decide) ?_
    have w144 : ∀ k : Nat, k < 4 → 0 ≤ (σ113 68 k).toInt ∧ (σ113 68 k).toInt ≤ 3 := (jrr_fr (f134 68 (by decide)) w58)
    have z145 : (σ113 55 6).toInt = (σ 55 6).toInt := (congrArg Int32.toInt (show σ113 55 6 = (σ 55 6) from ((f135 6 (by decide)).trans ((f51 6 (by decide)).trans (f34 6 (by decide))))))
    have z146 : (σ113 55 27).toInt = (σ 55 27).toInt := (congrArg Int32.toInt (show σ113 55 27 = (σ 55 27) from ((f135 27 (by decide)).trans ((f51 27 (by decide)).trans (f34 27 (by decide))))))
    have z147 : (σ113 55 25).toInt = (σ 55 25).toInt := (congrArg Int32.toInt (show σ113 55 25 = (σ 55 25) from ((f135 25 (by decide)).trans ((f51 25 (by decide)).trans m39))))
    have z148 : (σ113 55 26).toInt = (σ 55 26).toInt := (congrArg Int32.toInt (show σ113 55 26 = (σ 55 26) from ((f135 26 (by decide)).trans ((f51 26 (by decide)).trans (f34 26 (by decide))))))
    have z149 : (σ113 68 0).toInt = (σ 68 0).toInt := (congrArg Int32.toInt (show σ113 68 0 = (σ 68 0) from ((congrFun (f134 68 (by decide)) 0).trans ((congrFun (f50 68 (by decide)) 0).trans (congrFun (f33 68 (by decide)) 0)))))
    have z150 : (σ113 68 1).toInt = (σ 68 1).toInt := (congrArg Int32.toInt (show σ113 68 1 = (σ 68 1) from ((congrFun (f134 68 (by decide)) 1).trans ((congrFun (f50 68 (by decide)) 1).trans (congrFun (f33 68 (by decide)) 1)))))
    have z151 : (σ113 68 2).toInt = (σ 68 2).toInt := (congrArg Int32.toInt (show σ113 68 2 = (σ 68 2) from ((congrFun (f134 68 (by decide)) 2).trans ((congrFun (f50 68 (by decide)) 2).trans (congrFun (f33 68 (by decide)) 2)))))
    have z152 : (σ113 68 3).toInt = (σ 68 3).toInt := (congrArg Int32.toInt (show σ113 68 3 = (σ 68 3) from ((congrFun (f134 68 (by decide)) 3).trans ((congrFun (f50 68 (by decide)) 3).trans (congrFun (f33 68 (by decide)) 3)))))
    refine jcallV (As := [.int r32, .int 0]) (rest := []) ⟨hx, hb, hml, hown, hts⟩ hK hP hA hS hZ (c_X12_goes_0 l D cI cL ad zz hJ σ113 τ r32 (r32.toInt) rfl w144 (by omega) (by omega) (by omega) (by omega) (by omega)) cw_RX12_296 (jc_55 cI cL ad σ113 τ) rfl ⟨by dsimp only; omega, by dsimp only; omega⟩ rfl rfl rfl hl.1 rfl (Nat.le_of_ble_eq_true rfl) dX12_likelyFrom_84 ⟨Nat.zero_le _, Nat.zero_le _⟩ (fun r154 σ153 τ153 H locs h153 hP hS => ?_)
    obtain ⟨rfl, f155, f156, w157, w158, w159, h153⟩ := h153
    obtain ⟨k160, k161, k162, h153⟩ := h153
    have h163 := h153
    obtain ⟨q169, k164, k165, k166, k167, k168⟩ := h163
    refine lv_istore (lv' := [(7, .int r154), (8, .int r102), (6, .int x65), (5, .int r49), (4, .int x42), (3, .int r32), (0, .ref (ad 55)), (1, .int a1), (2, .int a2)]) hx hb dX12_likelyFrom_87 hl (by decide) rfl (fun ls hl => ?_)
    refine lv_aload_n hx hb dX12_likelyFrom_89 rfl (lv_at hl 6 rfl) ?_
    refine lv_iload_n hx hb dX12_likelyFrom_90 rfl (lv_at hl 7 rfl) ?_
    refine lv_iload hx hb dX12_likelyFrom_91 (lv_at hl 2 rfl) ?_
    have I170 : jI101 σ153 := jI101_fr ((f156 4 (by decide)).trans (f135 4 (by decide))) ((f156 5 (by decide)).trans (f135 5 (by decide))) ((f155 56 (by decide)).trans (f134 56 (by decide))) ((f155 57 (by decide)).trans (f134 57 (by decide))) ((f155 58 (by decide)).trans (f134 58 (by decide))) ((f155 59 (by decide)).trans (f134 59 (by decide))) I55
    have I171 : jI102 σ153 := jI102_fr ((f156 6 (by decide)).trans (f135 6 (by decide))) ((f155 60 (by decide)).trans (f134 60 (by decide))) ((f155 61 (by decide)).trans (f134 61 (by decide))) I56
    have I172 : jI103 σ153 := jI103_fr ((f156 9 (by decide)).trans (f135 9 (by decide))) I57
    have I173 : jI104 σ153 := jI104_fr ((f156 10 (by decide)).trans ((f135 10 (by decide)).trans ((f51 10 (by decide)).trans (f34 10 (by decide))))) ((f156 12 (by decide)).trans ((f135 12 (by decide)).trans ((f51 12 (by decide)).trans (f34 12 (by decide))))) ((f156 13 (by decide)).trans ((f135 13 (by decide)).trans ((f51 13 (by decide)).trans (f34 13 (by decide))))) ((f155 62 (by decide)).trans ((f134 62 (by decide)).trans ((f50 62 (by decide)).trans (f33 62 (by decide))))) ((f155 67 (by decide)).trans ((f134 67 (by decide)).trans ((f50 67 (by decide)).trans (f33 67 (by decide))))) hI104
    have I174 : jI105 σ153 := jI105_fr ((f156 15 (by decide)).trans ((f135 15 (by decide)).trans (f51 15 (by decide)))) ((f155 65 (by decide)).trans ((f134 65 (by decide)).trans (f50 65 (by decide)))) I46
    have I175 : jI106 σ153 := jI106_fr ((f156 32 (by decide)).trans ((f135 32 (by decide)).trans ((f51 32 (by decide)).trans (f34 32 (by decide))))) ((f155 70 (by decide)).trans ((f134 70 (by decide)).trans ((f50 70 (by decide)).trans (f33 70 (by decide))))) ((f155 71 (by decide)).trans ((f134 71 (by decide)).trans ((f50 71 (by decide)).trans (f33 71 (by decide))))) ((f155 72 (by decide)).trans ((f134 72 (by decide)).trans ((f50 72 (by decide)).trans (f33 72 (by decide))))) hI106
    have z176 : (σ153 55 10).toInt = (σ 55 10).toInt := (congrArg Int32.toInt (show σ153 55 10 = (σ 55 10) from ((f156 10 (by decide)).trans ((f135 10 (by decide)).trans ((f51 10 (by decide)).trans (f34 10 (by decide)))))))
    have z177 : (σ153 55 12).toInt = (σ 55 12).toInt := (congrArg Int32.toInt (show σ153 55 12 = (σ 55 12) from ((f156 12 (by decide)).trans ((f135 12 (by decide)).trans ((f51 12 (by decide)).trans (f34 12 (by decide)))))))
    have I178 : jI120 σ153 := ⟨(by omega), (by omega), (by omega), (by omega), (by omega), w157⟩
    have p179 : jKept σ153 := jKept.fr (f155 75 (by decide)) (f155 76 (by decide)) (f155 77 (by decide)) p124
    refine jcallV (As := [.int a1, .int x65]) (rest := []) ⟨hx, hb, hml, hown, hts⟩ hK hP hA hS hZ (h_lf σ153 τ a1 (A1) t1 x65 (x65.toInt) rfl I170 I171 I172 I173 I174 I175 I178 p179 (by omega) (by omega) (by omega)) cw_RX12_328 (jc_55 cI cL ad σ153 τ) rfl ⟨by dsimp only; omega, by dsimp only; omega⟩ rfl rfl rfl hl.1 rfl (Nat.le_of_ble_eq_true rfl) dX12_likelyFrom_93 ⟨Nat.zero_le _, Nat.zero_le _⟩ (fun r181 σ180 τ180 H locs h180 hP hS => ?_)
    obtain ⟨rfl, f182, f183, p184, h180⟩ := h180
    refine lv_istore (lv' := [(9, .int r181), (7, .int r154), (8, .int r102), (6, .int x65), (5, .int r49), (4, .int x42), (3, .int r32), (0, .ref (ad 55)), (1, .int a1), (2, .int a2)]) hx hb dX12_likelyFrom_96 hl (by decide) rfl (fun ls hl => ?_)
    refine lv_aload_n hx hb dX12_likelyFrom_98 rfl (lv_at hl 7 rfl) ?_
    refine lv_iload_n hx hb dX12_likelyFrom_99 rfl (lv_at hl 6 rfl) ?_
    refine lv_iconst (v := 0) hx hb dX12_likelyFrom_100 (by decide) ?_
    refine lv_iload hx hb dX12_likelyFrom_101 (lv_at hl 1 rfl) ?_
    have w185 : ∀ k : Nat, k < 4 → 0 ≤ (σ180 68 k).toInt ∧ (σ180 68 k).toInt ≤ 3 := (jrr_fr (f182 68 (by decide)) w157)
    have z186 : (σ180 55 25).toInt = (σ153 55 25).toInt := (congrArg Int32.toInt (show σ180 55 25 = (σ153 55 25) from (f183 25 (by decide))))
    have z187 : (σ180 55 26).toInt = (σ153 55 26).toInt := (congrArg Int32.toInt (show σ180 55 26 = (σ153 55 26) from (f183 26 (by decide))))
    have z188 : (σ180 55 6).toInt = (σ 55 6).toInt := (congrArg Int32.toInt (show σ180 55 6 = (σ 55 6) from ((f183 6 (by decide)).trans ((f156 6 (by decide)).trans ((f135 6 (by decide)).trans ((f51 6 (by decide)).trans (f34 6 (by decide))))))))
    have w189 : ∀ k : Nat, k < 4 → 0 ≤ (σ113 68 k).toInt ∧ (σ113 68 k).toInt ≤ 3 := w144
    have z191 : (σ113 55 27).toInt = (σ 55 27).toInt := (congrArg Int32.toInt (show σ113 55 27 = (σ 55 27) from ((f135 27 (by decide)).trans ((f51 27 (by decide)).trans (f34 27 (by decide))))))
    have k190 := jwas (by omega) (w189 0 (by decide)) (w189 1 (by decide)) (w189 2 (by decide)) (w189 3 (by decide)) k164
    rw [← (show σ180 55 6 = σ113 55 6 from ((f183 6 (by decide)).trans (f156 6 (by decide))))] at k190
    refine jcallVv (As := [.int r32, .int 0, .int r154]) (rest := []) ⟨hx, hb, hml, hown, hts⟩ hK hP hA hS hZ (c_X12_goesBack_0 l D cI cL ad zz hJ σ180 τ r32 (r32.toInt) rfl r154 (r154.toInt) rfl w185 (by omega) (by omega) (by omega) k190) cw_RX12_300 (jc_55 cI cL ad σ180 τ) rfl ⟨by dsimp only; omega, by dsimp only; omega⟩ rfl rfl rfl hl.1 rfl (Nat.le_of_ble_eq_true rfl) dX12_likelyFrom_103 ⟨Nat.zero_le _, Nat.zero_le _⟩ (fun σ192 τ192 H locs h192 hP hS => ?_)
    obtain ⟨rfl, f194, f195, w196, w197, w198, h192⟩ := h192
    obtain ⟨k199, k200, k201, k202, h192⟩ := h192
    have p203 : jKept σ192 := jKept.fr (f194 75 (by decide)) (f194 76 (by decide)) (f194 77 (by decide)) p184
    have e204 : σ180 69 = σ153 69 := (f182 69 (by decide))
    have e205 : σ192 69 = σ113 69 := jback69 w158 e204 w197
    have e206 : σ180 68 = σ153 68 := (f182 68 (by decide))
    have e207 : σ180 55 6 = σ113 55 6 := ((f183 6 (by decide)).trans (f156 6 (by decide)))
    have w215 : ∀ k : Nat, k < 4 → 0 ≤ (σ113 68 k).toInt ∧ (σ113 68 k).toInt ≤ 3 := w144
    have w216 : ∀ k : Nat, k < 4 → 0 ≤ (σ192 68 k).toInt ∧ (σ192 68 k).toInt ≤ 3 := w196
    have k217 := k202
    rw [e207] at k217
    have D208 := jdig (w215 0 (by decide)) (w215 1 (by decide)) (w215 2 (by decide)) (w215 3 (by decide)) (w216 0 (by decide)) (w216 1 (by decide)) (w216 2 (by decide)) (w216 3 (by decide)) k164 k217
    have e209 : σ192 55 27 = σ113 55 27 := Int32.toInt_inj.mp (by have h9 := D208.1; omega)
    have z218 : (σ180 55 26).toInt = (σ153 55 26).toInt := (congrArg Int32.toInt (show σ180 55 26 = (σ153 55 26) from (f183 26 (by decide))))
    have z219 : (σ113 55 26).toInt = (σ 55 26).toInt := (congrArg Int32.toInt (show σ113 55 26 = (σ 55 26) from ((f135 26 (by decide)).trans ((f51 26 (by decide)).trans (f34 26 (by decide))))))
    have z220 : (σ180 55 25).toInt = (σ153 55 25).toInt := (congrArg Int32.toInt (show σ180 55 25 = (σ153 55 25) from (f183 25 (by decide))))
    have z221 : (σ113 55 25).toInt = (σ 55 25).toInt := (congrArg Int32.toInt (show σ113 55 25 = (σ 55 25) from ((f135 25 (by decide)).trans ((f51 25 (by decide)).trans (f34 25 (by decide))))))
    have e210 : σ192 55 26 = σ113 55 26 := Int32.toInt_inj.mp (by omega)
    have e211 : σ192 55 25 = σ113 55 25 := Int32.toInt_inj.mp (by omega)
    have z222 : (σ113 55 6).toInt = (σ 55 6).toInt := (congrArg Int32.toInt (show σ113 55 6 = (σ 55 6) from ((f135 6 (by decide)).trans ((f51 6 (by decide)).trans (f34 6 (by decide))))))
    have e212 : σ192 68 = σ113 68 := jback68 (nb := (σ113 55 6).toInt) (by omega) w159 e206 (fun k hk => w198 k (by rw [e207]; exact hk)) D208.2
    have f213 : (∀ i : Nat, (i < 55 ∨ 55 < i) ∧ (i < 66 ∨ 66 < i) ∧ (i < 74 ∨ 78 < i) → σ192 i = σ113 i) := fun i hi0 => by
      by_cases h8 : i = 68
      · rw [h8]; exact e212
      by_cases h9 : i = 69
      · rw [h9]; exact e205
      have hi : ((i < 55 ∨ 55 < i) ∧ (i < 66 ∨ 66 < i) ∧ (i < 74 ∨ 78 < i)) ∧ i ≠ 68 ∧ i ≠ 69 := ⟨hi0, h8, h9⟩
      exact ((f194 i (imp_199 i hi)).trans ((f182 i (imp_200 i hi)).trans (f155 i (imp_199 i hi))))
    have f214 : ∀ i : Nat, (i < 18 ∨ 18 < i) ∧ (i < 19 ∨ 19 < i) ∧ (i < 20 ∨ 20 < i) ∧ (i < 21 ∨ 21 < i) ∧ (i < 22 ∨ 22 < i) ∧ (i < 37 ∨ 37 < i) → σ192 55 i = σ113 55 i := fun i hi0 => by
      by_cases h25 : i = 25
      · rw [h25]; exact e211
      by_cases h26 : i = 26
      · rw [h26]; exact e210
      by_cases h27 : i = 27
      · rw [h27]; exact e209
      have hi : ((i < 18 ∨ 18 < i) ∧ (i < 19 ∨ 19 < i) ∧ (i < 20 ∨ 20 < i) ∧ (i < 21 ∨ 21 < i) ∧ (i < 22 ∨ 22 < i) ∧ (i < 37 ∨ 37 < i)) ∧ i ≠ 25 ∧ i ≠ 26 ∧ i ≠ 27 := ⟨hi0, h25, h26, h27⟩
      exact ((f195 i (imp_201 i hi)).trans ((f183 i (imp_202 i hi)).trans (f156 i (imp_201 i hi))))
    clear k217 k202 k164
    refine lv_iload hx hb dX12_likelyFrom_106 (lv_at hl 3 rfl) ?_
    refine lv_if_le (tgt := 117) hx hb dX12_likelyFrom_108 (by decide) (fun c223 => ?_) (fun c223 => ?_)
    · have kc223 := jle c223 rfl jz_0
      refine lv_iconst (v := 0) hx hb dX12_likelyFrom_117 (by decide) ?_
      refine lv_iload hx hb dX12_likelyFrom_118 (lv_at hl 2 rfl) ?_
      refine lv_iload hx hb dX12_likelyFrom_120 (lv_at hl 0 rfl) ?_
      refine lv_iload hx hb dX12_likelyFrom_122 (lv_at hl 4 rfl) ?_
      refine jcallS (As := [.int r102, .int r181, .int r49]) (rest := [.int 0]) ⟨hx, hb, hml, hown, hts⟩ hK hP hA hS hZ (c_X12_mixed l D cI cL ad zz hJ σ192 τ r102 (r102.toInt) rfl r181 (r181.toInt) rfl r49 (r49.toInt) rfl) cw_RX12_304 ⟨by dsimp only; omega, by dsimp only; omega⟩ rfl rfl rfl hl.1 rfl (Nat.le_of_ble_eq_true rfl) dX12_likelyFrom_124 ⟨Nat.zero_le _, Nat.zero_le _⟩ (fun r225 σ224 τ224 H locs h224 hP hS => ?_)
      obtain ⟨⟨rfl, rfl⟩, h224⟩ := h224
      refine lv_aload_n hx hb dX12_likelyFrom_127 rfl (lv_at hl 7 rfl) ?_
      refine va_get (D := D) hx hb hts inlX12 hown hK hP 55 (jc_55 cI cL ad σ192 τ) rfl 13 (by decide) (hts _ kw_15_14) (fun _ h9 => h9) rfl dX12_likelyFrom_128 ?_
      have m226 : σ192 55 13 = (σ 55 13) := ((f214 13 (by decide)).trans ((f135 13 (by decide)).trans ((f51 13 (by decide)).trans (f34 13 (by decide)))))
      refine jtopr m226 ?_
      refine jcallS (As := [.int 0, .int r225, .int (σ 55 13)]) (rest := []) ⟨hx, hb, hml, hown, hts⟩ hK hP hA hS hZ (c_X12_mixed l D cI cL ad zz hJ σ192 τ 0 (0) jz_0 r225 (r225.toInt) rfl (σ 55 13) ((σ 55 13).toInt) rfl) cw_RX12_304 ⟨by dsimp only; omega, by dsimp only; omega⟩ rfl rfl rfl hl.1 rfl (Nat.le_of_ble_eq_true rfl) dX12_likelyFrom_131 ⟨Nat.zero_le _, Nat.zero_le _⟩ (fun r228 σ227 τ227 H locs h227 hP hS => ?_)
      obtain ⟨⟨rfl, rfl⟩, h227⟩ := h227
      exact hret r228 σ192 τ _ _ _ _ rfl ⟨rfl, (fun i hi => ((f213 i hi).trans ((f134 i hi).trans ((f50 i (imp_203 i hi)).trans (f33 i hi))))), (fun i hi => ((f214 i hi).trans ((f135 i hi).trans ((f51 i (imp_204 i hi)).trans (f34 i hi))))), p203, trivial⟩ hP hS dX12_likelyFrom_134
    · have kc223 := jnle c223 rfl jz_0
      refine lv_ldcw (v := 1000000) hx hb hown (hts _ kw_37_13) dX12_likelyFrom_111 ?_
      refine lv_goto (tgt := 118) hx hb dX12_likelyFrom_114 (by decide) ?_
      refine lv_iload hx hb dX12_likelyFrom_118 (lv_at hl 2 rfl) ?_
      refine lv_iload hx hb dX12_likelyFrom_120 (lv_at hl 0 rfl) ?_
      refine lv_iload hx hb dX12_likelyFrom_122 (lv_at hl 4 rfl) ?_
      refine jcallS (As := [.int r102, .int r181, .int r49]) (rest := [.int 1000000]) ⟨hx, hb, hml, hown, hts⟩ hK hP hA hS hZ (c_X12_mixed l D cI cL ad zz hJ σ192 τ r102 (r102.toInt) rfl r181 (r181.toInt) rfl r49 (r49.toInt) rfl) cw_RX12_304 ⟨by dsimp only; omega, by dsimp only; omega⟩ rfl rfl rfl hl.1 rfl (Nat.le_of_ble_eq_true rfl) dX12_likelyFrom_124 ⟨Nat.zero_le _, Nat.zero_le _⟩ (fun r230 σ229 τ229 H locs h229 hP hS => ?_)
      obtain ⟨⟨rfl, rfl⟩, h229⟩ := h229
      refine lv_aload_n hx hb dX12_likelyFrom_127 rfl (lv_at hl 7 rfl) ?_
      refine va_get (D := D) hx hb hts inlX12 hown hK hP 55 (jc_55 cI cL ad σ192 τ) rfl 13 (by decide) (hts _ kw_15_14) (fun _ h9 => h9) rfl dX12_likelyFrom_128 ?_
      have m231 : σ192 55 13 = (σ 55 13) := ((f214 13 (by decide)).trans ((f135 13 (by decide)).trans ((f51 13 (by decide)).trans (f34 13 (by decide)))))
      refine jtopr m231 ?_
      refine jcallS (As := [.int 1000000, .int r230, .int (σ 55 13)]) (rest := []) ⟨hx, hb, hml, hown, hts⟩ hK hP hA hS hZ (c_X12_mixed l D cI cL ad zz hJ σ192 τ 1000000 (1000000) jz_1000000 r230 (r230.toInt) rfl (σ 55 13) ((σ 55 13).toInt) rfl) cw_RX12_304 ⟨by dsimp only; omega, by dsimp only; omega⟩ rfl rfl rfl hl.1 rfl (Nat.le_of_ble_eq_true rfl) dX12_likelyFrom_131 ⟨Nat.zero_le _, Nat.zero_le _⟩ (fun r233 σ232 τ232 H locs h232 hP hS => ?_)
      obtain ⟨⟨rfl, rfl⟩, h232⟩ := h232
      exact hret r233 σ192 τ _ _ _ _ rfl ⟨rfl, (fun i hi => ((f213 i hi).trans ((f134 i hi).trans ((f50 i (imp_203 i hi)).trans (f33 i hi))))), (fun i hi => ((f214 i hi).trans ((f135 i hi).trans ((f51 i (imp_204 i hi)).trans (f34 i hi))))), p203, trivial⟩ hP hS dX12_likelyFrom_134
set_option maxHeartbeats 4000000 in
set_option maxRecDepth 100000 in
theorem c_X12_likelies_lf_z (l : Launch) (D : va_G) (cI cL : ClassId) (ad zz : Nat → Nat) (hJ : jD ad) (σ : Nat → Nat → Int32) (τ : Nat → Nat → Int64) (a1 : Int32) (A1 : Int) (t1 : a1.toInt = A1) (a2 : Int32) (A2 : Int) (t2 : a2.toInt = A2) (hI101 : jI101 σ) (hI102 : jI102 σ) (hI103 : jI103 σ) (hI104 : jI104 σ) (hI105 : jI105 σ) (hI106 : jI106 σ) (hI120 : jI120 σ) (hs_jKept : jKept σ) (hp0 : 0 ≤ A1 ∧ A1 ≤ 19) (hp1 : (σ 55 12).toInt - (σ 55 26).toInt ≤ 8) (hp2 : (σ 55 12).toInt - (σ 55 26).toInt ≤ (((0) : Nat) : Int)) : jM l yX12_likelyFrom cX12_likelyFrom 10 (some .int) ({ frames := (106 + 4 * (0)), cells := 0, slots := 0, locals := (5261 + 240 * (0)) }) D cI cL ad zz [.ref (ad 55), .int a1, .int a2] σ τ (fun r σ' τ' => τ = τ' ∧ (∀ i : Nat, (i < 55 ∨ 55 < i) ∧ (i < 66 ∨ 66 < i) ∧ (i < 74 ∨ 78 < i) → σ' i = σ i) ∧ (∀ k : Nat, (k < 18 ∨ 18 < k) ∧ (k < 19 ∨ 19 < k) ∧ (k < 20 ∨ 20 < k) ∧ (k < 21 ∨ 21 < k) ∧ (k < 22 ∨ 22 < k) ∧ (k < 37 ∨ 37 < k) → σ' 55 k = σ 55 k) ∧ (jKept σ') ∧ True) := by
  refine jM.of hJ (by decide +kernel) (nt := .int) rfl (Nat.le_of_ble_eq_true rfl) ?_
  intro p e s m args below meth c Q ls hC hret hl hP
  obtain ⟨hx, hb, hr, hml, hown, hts, hK, -, hlocks, hZ⟩ := hC
  have hown : s.vm.findClass RX12 = some m.cls := hown
  have hS : va_S (jA ad) s.heap s.heap [] := va_S.rf
  have hA : ∀ q, jA ad q → jA ad q := fun _ h => h
  have hl : lv_has ls 10 [(0, .ref (ad 55)), (1, .int a1), (2, .int a2)] := hl
  have g1 := jrg t1
  have g2 := jrg t2
  obtain ⟨i1, w2, w3⟩ : (0 ≤ (σ 55 6).toInt ∧ (σ 55 6).toInt ≤ 4) ∧ (∀ k : Nat, k < 4 → 0 ≤ (σ 60 k).toInt ∧ (σ 60 k).toInt ≤ 50) ∧ (∀ k : Nat, k < 4 → 0 ≤ (σ 61 k).toInt ∧ (σ 61 k).toInt ≤ 20) := id hI102
  obtain ⟨i4, i5, i6, w7, w8⟩ : (1 ≤ (σ 55 10).toInt ∧ (σ 55 10).toInt ≤ 8) ∧ (1 ≤ (σ 55 12).toInt ∧ (σ 55 12).toInt ≤ 12) ∧ (0 ≤ (σ 55 13).toInt ∧ (σ 55 13).toInt ≤ 999) ∧ (∀ k : Nat, k < 8 → 0 ≤ (σ 62 k).toInt ∧ (σ 62 k).toInt ≤ 3) ∧ (∀ k : Nat, k < 8 → 0 ≤ (σ 67 k).toInt ∧ (σ 67 k).toInt ≤ 3) := id hI104
  obtain ⟨i9, i10, i11, i12, i13, w14⟩ : (0 ≤ (σ 55 25).toInt) ∧ ((σ 55 25).toInt ≤ (σ 55 10).toInt) ∧ (0 ≤ (σ 55 26).toInt) ∧ ((σ 55 26).toInt ≤ (σ 55 12).toInt) ∧ ((-1) ≤ (σ 55 27).toInt ∧ (σ 55 27).toInt ≤ 3) ∧ (∀ k : Nat, k < 4 → 0 ≤ (σ 68 k).toInt ∧ (σ 68 k).toInt ≤ 3) := id hI120
  refine lv_aload_n hx hb dX12_likelyFrom_0 rfl (lv_at hl 0 rfl) ?_
  refine jcallV (As := []) (rest := []) ⟨hx, hb, hml, hown, hts⟩ hK hP hA hS hZ (c_X12_isEnded l D cI cL ad zz hJ σ τ hI102 hI104 hI120) cw_RX12_307 (jc_55 cI cL ad σ τ) rfl ⟨by dsimp only; omega, by dsimp only; omega⟩ rfl rfl rfl hl.1 rfl (Nat.le_of_ble_eq_true rfl) dX12_likelyFrom_1 ⟨Nat.zero_le _, Nat.zero_le _⟩ (fun r16 σ15 τ15 H locs h15 hP hS => ?_)
  obtain ⟨⟨rfl, rfl⟩, h15⟩ := h15
  rcases h15 with h17 | h18
  · obtain ⟨q20, k19⟩ := h17
    have q20 := q20.symm
    subst q20
    refine lv_if_eq (tgt := 19) hx hb dX12_likelyFrom_4 (by decide) (fun c => absurd c (by decide)) (fun _ => ?_)
    refine lv_iload_n hx hb dX12_likelyFrom_7 rfl (lv_at hl 2 rfl) ?_
    refine lv_if_le (tgt := 17) hx hb dX12_likelyFrom_8 (by decide) (fun c21 => ?_) (fun c21 => ?_)
    · have kc21 := jle c21 t2 jz_0
      refine lv_iconst (v := 0) hx hb dX12_likelyFrom_17 (by decide) ?_
      exact hret 0 σ τ _ _ _ _ rfl ⟨rfl, (fun _ _ => rfl), (fun _ _ => rfl), hs_jKept, trivial⟩ hP hS dX12_likelyFrom_18
    · have kc21 := jnle c21 t2 jz_0
      refine lv_ldcw (v := 1000000) hx hb hown (hts _ kw_37_13) dX12_likelyFrom_11 ?_
      refine lv_goto (tgt := 18) hx hb dX12_likelyFrom_14 (by decide) ?_
      exact hret 1000000 σ τ _ _ _ _ rfl ⟨rfl, (fun _ _ => rfl), (fun _ _ => rfl), hs_jKept, trivial⟩ hP hS dX12_likelyFrom_18
  · obtain ⟨q25, k22, k23, k24⟩ := h18
    exact absurd (by omega : False) id
set_option maxHeartbeats 4000000 in
set_option maxRecDepth 100000 in
theorem c_X12_likelies (l : Launch) (D : va_G) (cI cL : ClassId) (ad zz : Nat → Nat) (hJ : jD ad) (n : Nat) : (∀ (σ : Nat → Nat → Int32) (τ : Nat → Nat → Int64) (a1 : Int32) (A1 : Int) (t1 : a1.toInt = A1) (a2 : Int32) (A2 : Int) (t2 : a2.toInt = A2) (hI101 : jI101 σ) (hI102 : jI102 σ) (hI103 : jI103 σ) (hI104 : jI104 σ) (hI105 : jI105 σ) (hI106 : jI106 σ) (hI120 : jI120 σ) (hs_jKept : jKept σ) (hp0 : 0 ≤ A1 ∧ A1 ≤ 19) (hp1 : (σ 55 12).toInt - (σ 55 26).toInt ≤ 8) (hp2 : (σ 55 12).toInt - (σ 55 26).toInt ≤ (((n) : Nat) : Int)), jM l yX12_likelyFrom cX12_likelyFrom 10 (some .int) ({ frames := (106 + 4 * (n)), cells := 0, slots := 0, locals := (5261 + 240 * (n)) }) D cI cL ad zz [.ref (ad 55), .int a1, .int a2] σ τ (fun r σ' τ' => τ = τ' ∧ (∀ i : Nat, (i < 55 ∨ 55 < i) ∧ (i < 66 ∨ 66 < i) ∧ (i < 74 ∨ 78 < i) → σ' i = σ i) ∧ (∀ k : Nat, (k < 18 ∨ 18 < k) ∧ (k < 19 ∨ 19 < k) ∧ (k < 20 ∨ 20 < k) ∧ (k < 21 ∨ 21 < k) ∧ (k < 22 ∨ 22 < k) ∧ (k < 37 ∨ 37 < k) → σ' 55 k = σ 55 k) ∧ (jKept σ') ∧ True)) := by
  induction n with
  | zero =>
    have h_lf := c_X12_likelies_lf_z l D cI cL ad zz hJ
    exact h_lf
  | succ n ih =>
    have g_lf := ih
    have h_lf := c_X12_likelies_lf_g l D cI cL ad zz hJ n g_lf
    exact h_lf
