set_option maxHeartbeats 4000000 in
set_option maxRecDepth 100000 in
theorem c_X12_putsOn (l : Launch) (D : va_G) (cI cL : ClassId) (ad zz : Nat → Nat) (hJ : jD ad) (σ : Nat → Nat → Int32) (τ : Nat → Nat → Int64) (B0 : Int32) (hB0 : jmb σ B0 = 1) (a1 : Int32) (A1 : Int) (t1 : a1.toInt = A1) (hI101 : jI101 σ) (hI102 : jI102 σ) (hI103 : jI103 σ) (hI104 : jI104 σ) (hI105 : jI105 σ) (hI106 : jI106 σ) (hI120 : jI120 σ) (hs_jKept : jKept σ) (hs_jTR : jTR σ) (hp0 : 0 ≤ B0.toInt ∧ B0.toInt < (σ 55 6).toInt) (hp1 : 0 ≤ A1 ∧ A1 ≤ 19) (hp2 : (σ 55 25).toInt < (σ 55 10).toInt) (hp3 : (σ 55 26).toInt < (σ 55 12).toInt) (hp4 : ((σ 70 a1.toNatClampNeg).toInt ≠ 2) ∨ ((σ 55 12).toInt - (σ 55 26).toInt ≤ 8)) : jM l yX12_putsOn cX12_putsOn 7 (some .int) ({ frames := 103, cells := 0, slots := 0, locals := 5061 }) D cI cL ad zz [.ref (ad 55), .int a1] σ τ (fun r σ' τ' => τ = τ' ∧ (∀ i : Nat, (i < 55 ∨ 55 < i) ∧ (i < 66 ∨ 66 < i) ∧ (i < 74 ∨ 78 < i) → σ' i = σ i) ∧ (∀ k : Nat, (k < 18 ∨ 18 < k) ∧ (k < 19 ∨ 19 < k) ∧ (k < 20 ∨ 20 < k) ∧ (k < 21 ∨ 21 < k) ∧ (k < 22 ∨ 22 < k) ∧ (k < 37 ∨ 37 < k) → σ' 55 k = σ 55 k) ∧ (jKept σ') ∧ (jTR σ') ∧ ((True ∧ (0 ≤ r.toInt ∧ r.toInt ≤ 3)))) := by
  refine jM.of hJ (by decide +kernel) (nt := .int) rfl (Nat.le_of_ble_eq_true rfl) ?_
  intro p e s m args below meth c Q ls hC hret hl hP
  obtain ⟨hx, hb, hr, hml, hown, hts, hK, -, hlocks, hZ⟩ := hC
  have hown : s.vm.findClass RX12 = some m.cls := hown
  have hS : va_S (jA ad) s.heap s.heap [] := va_S.rf
  have hA : ∀ q, jA ad q → jA ad q := fun _ h => h
  have hl : lv_has ls 7 [(0, .ref (ad 55)), (1, .int a1)] := hl
  have g1 := jrg t1
  obtain ⟨i1, w2, w3⟩ : (0 ≤ (σ 55 6).toInt ∧ (σ 55 6).toInt ≤ 4) ∧ (∀ k : Nat, k < 4 → 0 ≤ (σ 60 k).toInt ∧ (σ 60 k).toInt ≤ 50) ∧ (∀ k : Nat, k < 4 → 0 ≤ (σ 61 k).toInt ∧ (σ 61 k).toInt ≤ 20) := id hI102
  obtain ⟨i4, i5, i6, w7, w8⟩ : (1 ≤ (σ 55 10).toInt ∧ (σ 55 10).toInt ≤ 8) ∧ (1 ≤ (σ 55 12).toInt ∧ (σ 55 12).toInt ≤ 12) ∧ (0 ≤ (σ 55 13).toInt ∧ (σ 55 13).toInt ≤ 999) ∧ (∀ k : Nat, k < 8 → 0 ≤ (σ 62 k).toInt ∧ (σ 62 k).toInt ≤ 3) ∧ (∀ k : Nat, k < 8 → 0 ≤ (σ 67 k).toInt ∧ (σ 67 k).toInt ≤ 3) := id hI104
  obtain ⟨i9, w10⟩ : (0 ≤ (σ 55 15).toInt ∧ (σ 55 15).toInt ≤ 80) ∧ (∀ k : Nat, k < 2 → (-1) ≤ (σ 65 k).toInt ∧ (σ 65 k).toInt ≤ 80) := id hI105
  obtain ⟨i11, w12, w13, w14⟩ : (0 ≤ (σ 55 32).toInt ∧ (σ 55 32).toInt ≤ 20) ∧ (∀ k : Nat, k < 20 → 0 ≤ (σ 70 k).toInt ∧ (σ 70 k).toInt ≤ 6) ∧ (∀ k : Nat, k < 20 → 0 ≤ (σ 71 k).toInt ∧ (σ 71 k).toInt ≤ 8) ∧ (∀ k : Nat, k < 160 → 0 ≤ (σ 72 k).toInt ∧ (σ 72 k).toInt ≤ 3) := id hI106
  obtain ⟨i15, i16, i17, i18, i19, w20⟩ : (0 ≤ (σ 55 25).toInt) ∧ ((σ 55 25).toInt ≤ (σ 55 10).toInt) ∧ (0 ≤ (σ 55 26).toInt) ∧ ((σ 55 26).toInt ≤ (σ 55 12).toInt) ∧ ((-1) ≤ (σ 55 27).toInt ∧ (σ 55 27).toInt ≤ 3) ∧ (∀ k : Nat, k < 4 → 0 ≤ (σ 68 k).toInt ∧ (σ 68 k).toInt ≤ 3) := id hI120
  refine lv_aload_n hx hb dX12_putsOn_0 rfl (lv_at hl 0 rfl) ?_
  refine va_get (D := D) hx hb hts inlX12 hown hK hP 55 (jc_55 cI cL ad σ τ) rfl 33 (by decide) (hts _ kw_7_18) (fun _ h9 => h9) rfl dX12_putsOn_1 ?_
  refine lv_iload_n hx hb dX12_putsOn_4 rfl (lv_at hl 1 rfl) ?_
  refine jald hx hb hK hP (jc_70 cI cL ad σ τ) (jin t1 (by omega) (by omega)) dX12_putsOn_5 ?_
  have g21 := w12 _ (jnat (x := a1) t1 (n := 20) (by omega) (by decide))
  refine jtopr (y := (σ 70 a1.toNatClampNeg)) rfl ?_
  refine lv_iconst (v := 1) hx hb dX12_putsOn_6 (by decide) ?_
  refine lv_icmp_ne (tgt := 17) hx hb dX12_putsOn_7 (by decide) (fun c22 => ?_) (fun c22 => ?_)
  · have kc22 := jne c22 rfl jz_1
    refine lv_aload_n hx hb dX12_putsOn_17 rfl (lv_at hl 0 rfl) ?_
    refine va_get (D := D) hx hb hts inlX12 hown hK hP 55 (jc_55 cI cL ad σ τ) rfl 33 (by decide) (hts _ kw_7_18) (fun _ h9 => h9) rfl dX12_putsOn_18 ?_
    refine lv_iload_n hx hb dX12_putsOn_21 rfl (lv_at hl 1 rfl) ?_
    refine jald hx hb hK hP (jc_70 cI cL ad σ τ) (jin t1 (by omega) (by omega)) dX12_putsOn_22 ?_
    have g23 := w12 _ (jnat (x := a1) t1 (n := 20) (by omega) (by decide))
    refine jtopr (y := (σ 70 a1.toNatClampNeg)) rfl ?_
    refine lv_iconst (v := 4) hx hb dX12_putsOn_23 (by decide) ?_
    refine lv_icmp_ne (tgt := 86) hx hb dX12_putsOn_24 (by decide) (fun c24 => ?_) (fun c24 => ?_)
    · have kc24 := jne c24 rfl jz_4
      refine lv_aload_n hx hb dX12_putsOn_86 rfl (lv_at hl 0 rfl) ?_
      refine va_get (D := D) hx hb hts inlX12 hown hK hP 55 (jc_55 cI cL ad σ τ) rfl 33 (by decide) (hts _ kw_7_18) (fun _ h9 => h9) rfl dX12_putsOn_87 ?_
      refine lv_iload_n hx hb dX12_putsOn_90 rfl (lv_at hl 1 rfl) ?_
      refine jald hx hb hK hP (jc_70 cI cL ad σ τ) (jin t1 (by omega) (by omega)) dX12_putsOn_91 ?_
      refine jtopr (y := (σ 70 a1.toNatClampNeg)) rfl ?_
      refine lv_iconst (v := 2) hx hb dX12_putsOn_92 (by decide) ?_
      refine lv_icmp_ne (tgt := 106) hx hb dX12_putsOn_93 (by decide) (fun c25 => ?_) (fun c25 => ?_)
      · have kc25 := jne c25 rfl jz_2
        refine lv_iconst (v := (-1)) hx hb dX12_putsOn_106 (by decide) ?_
        refine lv_istore_n (lv' := [(2, .int (-1)), (0, .ref (ad 55)), (1, .int a1)]) hx hb dX12_putsOn_107 rfl hl (by decide) rfl (fun ls hl => ?_)
        refine lv_iconst (v := 0) hx hb dX12_putsOn_108 (by decide) ?_
        refine lv_istore_n (lv' := [(3, .int 0), (2, .int (-1)), (0, .ref (ad 55)), (1, .int a1)]) hx hb dX12_putsOn_109 rfl hl (by decide) rfl (fun ls hl => ?_)
        refine lv_iconst (v := 0) hx hb dX12_putsOn_110 (by decide) ?_
        refine lv_istore (lv' := [(4, .int 0), (3, .int 0), (2, .int (-1)), (0, .ref (ad 55)), (1, .int a1)]) hx hb dX12_putsOn_111 hl (by decide) rfl (fun ls hl => ?_)
        have lp26 : ∀ (n27 : Nat) (x28 : Int32) (x29 : Int32) (x30 : Int32) (σ33 : Nat → Nat → Int32) (H : Heap) (locs : List Loc) (ls : Array Slot), (-x30.toInt + 4 : Int) < n27 → (-1) ≤ x28.toInt → x28.toInt ≤ 3 → 0 ≤ x30.toInt → x30.toInt ≤ 4 → ((0 ≤ x28.toInt) ∨ (x28.toInt = (-1) ∧ x30.toInt ≤ B0.toInt)) → (∀ i : Nat, (i < 55 ∨ 55 < i) ∧ (i < 66 ∨ 66 < i) → σ33 i = σ i) → (∀ k : Nat, (k < 18 ∨ 18 < k) ∧ (k < 19 ∨ 19 < k) ∧ (k < 20 ∨ 20 < k) ∧ (k < 21 ∨ 21 < k) ∧ (k < 22 ∨ 22 < k) → σ33 55 k = σ 55 k) → jH D cI cL ad σ33 τ H → va_S (jA ad) s.heap H locs → lv_has ls 7 [(4, .int x30), (3, .int x29), (2, .int x28), (0, .ref (ad 55)), (1, .int a1)] → W p l e ({ frames := 103, cells := 0, slots := 0, locals := 5061 }) s m args below meth c H locs 0 0 Q (F0 m 113 ls []) := by
          intro n27
          induction n27 with
          | zero => intro x28 x29 x30 σ33 H locs ls h35 h36 h37 h38 h39 h40; have gx29 := jrg (rfl : x29.toInt = x29.toInt); exact absurd h35 (by omega)
          | succ n27 ihlp26 =>
            intro x28 x29 x30 σ33 H locs ls h35 h36 h37 h38 h39 h40 f41 f42 hP hS hl
            have gx29 := jrg (rfl : x29.toInt = x29.toInt)
            refine lv_iload hx hb dX12_putsOn_113 (lv_at hl 0 rfl) ?_
            refine lv_aload_n hx hb dX12_putsOn_115 rfl (lv_at hl 3 rfl) ?_
            refine va_get (D := D) hx hb hts inlX12 hown hK hP 55 (jc_55 cI cL ad σ33 τ) rfl 6 (by decide) (hts _ kw_9_13) (fun _ h9 => h9) rfl dX12_putsOn_116 ?_
            have m43 : σ33 55 6 = (σ 55 6) := (f42 6 (by decide))
            refine jtopr m43 ?_
            refine lv_icmp_ge (tgt := 255) hx hb dX12_putsOn_119 (by decide) (fun c44 => ?_) (fun c44 => ?_)
            · have kc44 := jle c44 rfl rfl
              refine lv_iload_n hx hb dX12_putsOn_255 rfl (lv_at hl 2 rfl) ?_
              have p45 : jKept σ33 := jKept.fr (f41 75 (by decide)) (f41 76 (by decide)) (f41 77 (by decide)) hs_jKept
              have p46 : jTR σ33 := jTR.fr (f41 64 (by decide)) (f41 65 (by decide)) hs_jTR
              exact hret x28 σ33 τ _ _ _ _ rfl ⟨rfl, (fun i hi => (f41 i (imp_204 i hi))), (fun i hi => (f42 i (imp_205 i hi))), p45, p46, ⟨trivial, (by omega)⟩⟩ hP hS dX12_putsOn_256
            · have kc44 := jnle c44 rfl rfl
              refine lv_aload_n hx hb dX12_putsOn_122 rfl (lv_at hl 3 rfl) ?_
              refine lv_iload hx hb dX12_putsOn_123 (lv_at hl 0 rfl) ?_
              refine jcallV (As := [.int x30]) (rest := []) ⟨hx, hb, hml, hown, hts⟩ hK hP hA hS hZ (c_X12_mayBowl l D cI cL ad zz hJ σ33 τ x30 (x30.toInt) rfl (by omega)) cw_RX12_249 (jc_55 cI cL ad σ33 τ) rfl ⟨Nat.le_of_ble_eq_true rfl, Nat.le_of_ble_eq_true rfl⟩ rfl rfl rfl hl.1 rfl (Nat.le_of_ble_eq_true rfl) dX12_putsOn_125 ⟨Nat.zero_le _, Nat.zero_le _⟩ (fun r48 σ47 τ47 H locs h47 hP hS => ?_)
              obtain ⟨⟨rfl, rfl⟩, h47⟩ := h47
              rcases h47 with h49 | h50
              · obtain ⟨q52, k51⟩ := h49
                have q52 := q52.symm
                subst q52
                refine lv_if_ne (tgt := 134) hx hb dX12_putsOn_128 (by decide) (fun _ => ?_) (fun c => absurd c (by decide))
                refine lv_aload_n hx hb dX12_putsOn_134 rfl (lv_at hl 3 rfl) ?_
                refine va_get (D := D) hx hb hts inlX12 hown hK hP 55 (jc_55 cI cL ad σ33 τ) rfl 33 (by decide) (hts _ kw_7_18) (fun _ h9 => h9) rfl dX12_putsOn_135 ?_
                refine lv_iload_n hx hb dX12_putsOn_138 rfl (lv_at hl 4 rfl) ?_
                refine jald hx hb hK hP (jc_70 cI cL ad σ33 τ) (jin t1 (by omega) (by omega)) dX12_putsOn_139 ?_
                refine jtopr (y := (σ 70 a1.toNatClampNeg)) (by rw [f41 70 (by decide)]) ?_
                refine lv_bipush (v := 6) hx hb dX12_putsOn_140 (by decide) ?_
                refine lv_icmp_ne (tgt := 149) hx hb dX12_putsOn_142 (by decide) (fun c53 => ?_) (fun c53 => ?_)
                · have kc53 := jne c53 rfl jz_6
                  refine lv_iconst (v := 0) hx hb dX12_putsOn_149 (by decide) ?_
                  refine lv_istore (lv' := [(5, .int 0), (4, .int x30), (3, .int x29), (2, .int x28), (0, .ref (ad 55)), (1, .int a1)]) hx hb dX12_putsOn_150 hl (by decide) rfl (fun ls hl => ?_)
                  refine lv_iload hx hb dX12_putsOn_152 (lv_at hl 0 rfl) ?_
                  refine lv_if_ne (tgt := 167) hx hb dX12_putsOn_154 (by decide) (fun c => absurd (by decide) c) (fun _ => ?_)
                  refine lv_aload_n hx hb dX12_putsOn_157 rfl (lv_at hl 4 rfl) ?_
                  refine lv_iload_n hx hb dX12_putsOn_158 rfl (lv_at hl 5 rfl) ?_
                  refine lv_iload hx hb dX12_putsOn_159 (lv_at hl 1 rfl) ?_
                  have I54 : jI101 σ33 := jI101_fr (f42 4 (by decide)) (f42 5 (by decide)) (f41 56 (by decide)) (f41 57 (by decide)) (f41 58 (by decide)) (f41 59 (by decide)) hI101
                  have I55 : jI102 σ33 := jI102_fr (f42 6 (by decide)) (f41 60 (by decide)) (f41 61 (by decide)) hI102
                  have I56 : jI103 σ33 := jI103_fr (f42 9 (by decide)) hI103
                  have I57 : jI104 σ33 := jI104_fr (f42 10 (by decide)) (f42 12 (by decide)) (f42 13 (by decide)) (f41 62 (by decide)) (f41 67 (by decide)) hI104
                  have I58 : jI105 σ33 := jI105_fr (f42 15 (by decide)) (f41 65 (by decide)) hI105
                  have I59 : jI106 σ33 := jI106_fr (f42 32 (by decide)) (f41 70 (by decide)) (f41 71 (by decide)) (f41 72 (by decide)) hI106
                  have w60 : ∀ k : Nat, k < 4 → 0 ≤ (σ33 68 k).toInt ∧ (σ33 68 k).toInt ≤ 3 := (jrr_fr (f41 68 (by decide)) w20)
                  have p61 : jTR σ33 := jTR.fr (f41 64 (by decide)) (f41 65 (by decide)) hs_jTR
                  have z62 : (σ33 55 25).toInt = (σ 55 25).toInt := (congrArg Int32.toInt (show σ33 55 25 = (σ 55 25) from (f42 25 (by decide))))
                  refine jcallV (As := [.int a1, .int x30]) (rest := []) ⟨hx, hb, hml, hown, hts⟩ hK hP hA hS hZ (c_X12_worthBy l D cI cL ad zz hJ σ33 τ a1 (A1) t1 x30 (x30.toInt) rfl I54 I55 I56 I57 I58 I59 w60 p61 (by omega) (by omega) (by omega)) cw_RX12_286 (jc_55 cI cL ad σ33 τ) rfl ⟨Nat.le_of_ble_eq_true rfl, Nat.le_of_ble_eq_true rfl⟩ rfl rfl rfl hl.1 rfl (Nat.le_of_ble_eq_true rfl) dX12_putsOn_161 ⟨Nat.zero_le _, Nat.zero_le _⟩ (fun r64 σ63 τ63 H locs h63 hP hS => ?_)
                  obtain ⟨rfl, f65, f66, p67, h63⟩ := h63
                  refine lv_goto (tgt := 217) hx hb dX12_putsOn_164 (by decide) ?_
                  refine lv_istore (lv' := [(6, .int r64), (5, .int 0), (4, .int x30), (3, .int x29), (2, .int x28), (0, .ref (ad 55)), (1, .int a1)]) hx hb dX12_putsOn_217 hl (by decide) rfl (fun ls hl => ?_)
                  refine lv_iload_n hx hb dX12_putsOn_219 rfl (lv_at hl 4 rfl) ?_
                  refine lv_if_lt (tgt := 243) hx hb dX12_putsOn_220 (by decide) (fun c69 => ?_) (fun c69 => ?_)
                  · have kc69 := jlt c69 rfl jz_0
                    refine lv_iload hx hb dX12_putsOn_243 (lv_at hl 2 rfl) ?_
                    refine lv_istore_n (lv' := [(2, .int x30), (6, .int r64), (5, .int 0), (4, .int x30), (3, .int x29), (0, .ref (ad 55)), (1, .int a1)]) hx hb dX12_putsOn_245 rfl hl (by decide) rfl (fun ls hl => ?_)
                    refine lv_iload hx hb dX12_putsOn_246 (lv_at hl 1 rfl) ?_
                    refine lv_istore_n (lv' := [(3, .int r64), (2, .int x30), (6, .int r64), (5, .int 0), (4, .int x30), (0, .ref (ad 55)), (1, .int a1)]) hx hb dX12_putsOn_248 rfl hl (by decide) rfl (fun ls hl => ?_)
                    obtain ⟨x70, ex70⟩ : ∃ y : Int32, y = x30 + 1 := ⟨_, rfl⟩
                    have tx70 : x70.toInt = x30.toInt + 1 := (jadd ex70 rfl jz_1 (by omega) (by omega)).trans (by omega)
                    refine lv_iinc (v := x70) (lv' := [(4, .int x70), (3, .int r64), (2, .int x30), (6, .int r64), (5, .int 0), (0, .ref (ad 55)), (1, .int a1)]) hx hb dX12_putsOn_249 hl (k := 4) rfl (by rw [ex70]; rfl) (by decide) rfl (fun ls hl => ?_)
                    refine lv_goto (tgt := 113) hx hb dX12_putsOn_252 (by decide) ?_
                    exact ihlp26 x30 r64 x70 σ63 _ _ ls (by have h92 := tx70; omega) (by have h92 := tx70; omega) (by have h92 := tx70; omega) (by have h92 := tx70; omega) (by have h92 := tx70; omega) (by have h92 := tx70; omega) (fun i hi => ((f65 i hi).trans (f41 i hi))) (fun i hi => ((f66 i hi).trans (f42 i hi)))   hP hS (lv_sub hl [0, 1, 2, 5, 6] rfl)
                  · have kc69 := jnlt c69 rfl jz_0
                    refine lv_iload hx hb dX12_putsOn_223 (lv_at hl 1 rfl) ?_
                    refine lv_if_eq (tgt := 237) hx hb dX12_putsOn_225 (by decide) (fun _ => ?_) (fun c => absurd (by decide) c)
                    refine lv_iload hx hb dX12_putsOn_237 (lv_at hl 0 rfl) ?_
                    refine lv_iload_n hx hb dX12_putsOn_239 rfl (lv_at hl 3 rfl) ?_
                    refine lv_icmp_ge (tgt := 249) hx hb dX12_putsOn_240 (by decide) (fun c71 => ?_) (fun c71 => ?_)
                    · have kc71 := jle c71 rfl rfl
                      obtain ⟨x72, ex72⟩ : ∃ y : Int32, y = x30 + 1 := ⟨_, rfl⟩
                      have tx72 : x72.toInt = x30.toInt + 1 := (jadd ex72 rfl jz_1 (by omega) (by omega)).trans (by omega)
                      refine lv_iinc (v := x72) (lv' := [(4, .int x72), (6, .int r64), (5, .int 0), (3, .int x29), (2, .int x28), (0, .ref (ad 55)), (1, .int a1)]) hx hb dX12_putsOn_249 hl (k := 2) rfl (by rw [ex72]; rfl) (by decide) rfl (fun ls hl => ?_)
                      refine lv_goto (tgt := 113) hx hb dX12_putsOn_252 (by decide) ?_
                      exact ihlp26 x28 x29 x72 σ63 _ _ ls (by have h92 := tx72; omega) (by have h92 := tx72; omega) (by have h92 := tx72; omega) (by have h92 := tx72; omega) (by have h92 := tx72; omega) (by have h92 := tx72; omega) (fun i hi => ((f65 i hi).trans (f41 i hi))) (fun i hi => ((f66 i hi).trans (f42 i hi)))   hP hS (lv_sub hl [0, 3, 4, 5, 6] rfl)
                    · have kc71 := jnle c71 rfl rfl
                      refine lv_iload hx hb dX12_putsOn_243 (lv_at hl 2 rfl) ?_
                      refine lv_istore_n (lv' := [(2, .int x30), (6, .int r64), (5, .int 0), (4, .int x30), (3, .int x29), (0, .ref (ad 55)), (1, .int a1)]) hx hb dX12_putsOn_245 rfl hl (by decide) rfl (fun ls hl => ?_)
                      refine lv_iload hx hb dX12_putsOn_246 (lv_at hl 1 rfl) ?_
                      refine lv_istore_n (lv' := [(3, .int r64), (2, .int x30), (6, .int r64), (5, .int 0), (4, .int x30), (0, .ref (ad 55)), (1, .int a1)]) hx hb dX12_putsOn_248 rfl hl (by decide) rfl (fun ls hl => ?_)
                      obtain ⟨x73, ex73⟩ : ∃ y : Int32, y = x30 + 1 := ⟨_, rfl⟩
                      have tx73 : x73.toInt = x30.toInt + 1 := (jadd ex73 rfl jz_1 (by omega) (by omega)).trans (by omega)
                      refine lv_iinc (v := x73) (lv' := [(4, .int x73), (3, .int r64), (2, .int x30), (6, .int r64), (5, .int 0), (0, .ref (ad 55)), (1, .int a1)]) hx hb dX12_putsOn_249 hl (k := 4) rfl (by rw [ex73]; rfl) (by decide) rfl (fun ls hl => ?_)
                      refine lv_goto (tgt := 113) hx hb dX12_putsOn_252 (by decide) ?_
                      exact ihlp26 x30 r64 x73 σ63 _ _ ls (by have h92 := tx73; omega) (by have h92 := tx73; omega) (by have h92 := tx73; omega) (by have h92 := tx73; omega) (by have h92 := tx73; omega) (by have h92 := tx73; omega) (fun i hi => ((f65 i hi).trans (f41 i hi))) (fun i hi => ((f66 i hi).trans (f42 i hi)))   hP hS (lv_sub hl [0, 1, 2, 5, 6] rfl)
                · have kc53 := jeq c53 rfl jz_6
                  refine lv_iconst (v := 1) hx hb dX12_putsOn_145 (by decide) ?_
                  refine lv_goto (tgt := 150) hx hb dX12_putsOn_146 (by decide) ?_
                  refine lv_istore (lv' := [(5, .int 1), (4, .int x30), (3, .int x29), (2, .int x28), (0, .ref (ad 55)), (1, .int a1)]) hx hb dX12_putsOn_150 hl (by decide) rfl (fun ls hl => ?_)
                  refine lv_iload hx hb dX12_putsOn_152 (lv_at hl 0 rfl) ?_
                  refine lv_if_ne (tgt := 167) hx hb dX12_putsOn_154 (by decide) (fun _ => ?_) (fun c => absurd c (by decide))
                  refine lv_aload_n hx hb dX12_putsOn_167 rfl (lv_at hl 4 rfl) ?_
                  refine va_get (D := D) hx hb hts inlX12 hown hK hP 55 (jc_55 cI cL ad σ33 τ) rfl 17 (by decide) (hts _ kw_7_11) (fun _ h9 => h9) rfl dX12_putsOn_168 ?_
                  refine lv_iconst (v := 0) hx hb dX12_putsOn_171 (by decide) ?_
                  refine jald hx hb hK hP (jc_65 cI cL ad σ33 τ) (jin jz_0 (by omega) (by omega)) dX12_putsOn_172 ?_
                  refine jtopr (y := σ33 65 0) rfl ?_
                  have m74 : σ33 65 0 = (σ 65 0) := (congrFun (f41 65 (by decide)) 0)
                  refine jtopr m74 ?_
                  have w75 : ∀ k : Nat, k < 2 → (-1) ≤ (σ33 65 k).toInt ∧ (σ33 65 k).toInt ≤ 80 := (jrr_fr (f41 65 (by decide)) w10)
                  have g76 := w75 0 (by decide)
                  rw [m74] at g76
                  refine lv_if_ge (tgt := 180) hx hb dX12_putsOn_173 (by decide) (fun c77 => ?_) (fun c77 => ?_)
                  · have kc77 := jle c77 jz_0 rfl
                    refine lv_aload_n hx hb dX12_putsOn_180 rfl (lv_at hl 4 rfl) ?_
                    refine lv_iconst (v := 0) hx hb dX12_putsOn_181 (by decide) ?_
                    refine lv_iload hx hb dX12_putsOn_182 (lv_at hl 1 rfl) ?_
                    refine lv_aload_n hx hb dX12_putsOn_184 rfl (lv_at hl 4 rfl) ?_
                    refine va_get (D := D) hx hb hts inlX12 hown hK hP 55 (jc_55 cI cL ad σ33 τ) rfl 11 (by decide) (hts _ kw_7_8) (fun _ h9 => h9) rfl dX12_putsOn_185 ?_
                    refine lv_aload_n hx hb dX12_putsOn_188 rfl (lv_at hl 4 rfl) ?_
                    refine va_get (D := D) hx hb hts inlX12 hown hK hP 55 (jc_55 cI cL ad σ33 τ) rfl 25 (by decide) (hts _ kw_23_6) (fun _ h9 => h9) rfl dX12_putsOn_189 ?_
                    have m78 : σ33 55 25 = (σ 55 25) := (f42 25 (by decide))
                    refine jtopr m78 ?_
                    refine jald hx hb hK hP (jc_62 cI cL ad σ33 τ) (jin rfl (by omega) (by omega)) dX12_putsOn_192 ?_
                    have w79 : ∀ k : Nat, k < 8 → 0 ≤ (σ33 62 k).toInt ∧ (σ33 62 k).toInt ≤ 3 := (jrr_fr (f41 62 (by decide)) w7)
                    have g80 := w79 _ (jnat (x := (σ 55 25)) rfl (n := 8) (by omega) (by decide))
                    refine jtopr (y := (σ 62 (σ 55 25).toNatClampNeg)) (by rw [f41 62 (by decide)]) ?_
                    rw [f41 62 (by decide)] at g80
                    refine lv_aload_n hx hb dX12_putsOn_193 rfl (lv_at hl 4 rfl) ?_
                    refine lv_iload hx hb dX12_putsOn_194 (lv_at hl 1 rfl) ?_
                    refine lv_aload_n hx hb dX12_putsOn_196 rfl (lv_at hl 4 rfl) ?_
                    refine va_get (D := D) hx hb hts inlX12 hown hK hP 55 (jc_55 cI cL ad σ33 τ) rfl 11 (by decide) (hts _ kw_7_8) (fun _ h9 => h9) rfl dX12_putsOn_197 ?_
                    refine lv_aload_n hx hb dX12_putsOn_200 rfl (lv_at hl 4 rfl) ?_
                    refine va_get (D := D) hx hb hts inlX12 hown hK hP 55 (jc_55 cI cL ad σ33 τ) rfl 25 (by decide) (hts _ kw_23_6) (fun _ h9 => h9) rfl dX12_putsOn_201 ?_
                    refine jtopr m78 ?_
                    refine jald hx hb hK hP (jc_62 cI cL ad σ33 τ) (jin rfl (by omega) (by omega)) dX12_putsOn_204 ?_
                    refine jtopr (y := (σ 62 (σ 55 25).toNatClampNeg)) (by rw [f41 62 (by decide)]) ?_
                    have I81 : jI101 σ33 := jI101_fr (f42 4 (by decide)) (f42 5 (by decide)) (f41 56 (by decide)) (f41 57 (by decide)) (f41 58 (by decide)) (f41 59 (by decide)) hI101
                    have I82 : jI102 σ33 := jI102_fr (f42 6 (by decide)) (f41 60 (by decide)) (f41 61 (by decide)) hI102
                    have I83 : jI103 σ33 := jI103_fr (f42 9 (by decide)) hI103
                    have I84 : jI105 σ33 := jI105_fr (f42 15 (by decide)) (f41 65 (by decide)) hI105
                    have w85 : ∀ k : Nat, k < 4 → 0 ≤ (σ33 68 k).toInt ∧ (σ33 68 k).toInt ≤ 3 := (jrr_fr (f41 68 (by decide)) w20)
                    have p86 : jTR σ33 := jTR.fr (f41 64 (by decide)) (f41 65 (by decide)) hs_jTR
                    refine jcallV (As := [.int x30, .int (σ 62 (σ 55 25).toNatClampNeg)]) (rest := [.int (σ 62 (σ 55 25).toNatClampNeg), .int x30, .int 0, .ref (ad 55)]) ⟨hx, hb, hml, hown, hts⟩ hK hP hA hS hZ (c_X12_outBy l D cI cL ad zz hJ σ33 τ x30 (x30.toInt) rfl (σ 62 (σ 55 25).toNatClampNeg) ((σ 62 (σ 55 25).toNatClampNeg).toInt) rfl I81 I82 I83 I84 w85 p86 (by omega) (by omega)) cw_RX12_259 (jc_55 cI cL ad σ33 τ) rfl ⟨Nat.le_of_ble_eq_true rfl, Nat.le_of_ble_eq_true rfl⟩ rfl rfl rfl hl.1 rfl (Nat.le_of_ble_eq_true rfl) dX12_putsOn_205 ⟨Nat.zero_le _, Nat.zero_le _⟩ (fun r88 σ87 τ87 H locs h87 hP hS => ?_)
                    obtain ⟨rfl, f89, f90, p91, w92, h87⟩ := h87
                    have h94 := h87
                    obtain ⟨q96, k95⟩ := h94
                    refine lv_aload_n hx hb dX12_putsOn_208 rfl (lv_at hl 4 rfl) ?_
                    refine va_get (D := D) hx hb hts inlX12 hown hK hP 55 (jc_55 cI cL ad σ87 τ) rfl 36 (by decide) (hts _ kw_7_21) (fun _ h9 => h9) rfl dX12_putsOn_209 ?_
                    refine lv_iload_n hx hb dX12_putsOn_212 rfl (lv_at hl 5 rfl) ?_
                    refine jald hx hb hK hP (jc_73 cI cL ad σ87 τ) (jin t1 (by omega) (by omega)) dX12_putsOn_213 ?_
                    refine jtopr (y := (σ 73 a1.toNatClampNeg)) (by rw [f89 73 (by decide), f41 73 (by decide)]) ?_
                    have I97 : jI105 σ87 := jI105_fr (f90 15 (by decide)) (f89 65 (by decide)) I84
                    have z98 : (σ87 65 0).toInt = (σ 65 0).toInt := (congrArg Int32.toInt (show σ87 65 0 = (σ 65 0) from ((congrFun (f89 65 (by decide)) 0).trans m74)))
                    refine jcallV (As := [.int 0, .int x30, .int (σ 62 (σ 55 25).toNatClampNeg), .int r88, .int (σ 73 a1.toNatClampNeg)]) (rest := []) ⟨hx, hb, hml, hown, hts⟩ hK hP hA hS hZ (c_X12_textGives_0 l D cI cL ad zz hJ σ87 τ x30 (x30.toInt) rfl (σ 62 (σ 55 25).toNatClampNeg) ((σ 62 (σ 55 25).toNatClampNeg).toInt) rfl r88 (r88.toInt) rfl (σ 73 a1.toNatClampNeg) ((σ 73 a1.toNatClampNeg).toInt) rfl I97 p91 (by omega) (by omega)) cw_RX12_252 (jc_55 cI cL ad σ87 τ) rfl ⟨Nat.le_of_ble_eq_true rfl, Nat.le_of_ble_eq_true rfl⟩ rfl rfl rfl hl.1 rfl (Nat.le_of_ble_eq_true rfl) dX12_putsOn_214 ⟨Nat.zero_le _, Nat.zero_le _⟩ (fun r100 σ99 τ99 H locs h99 hP hS => ?_)
                    obtain ⟨rfl, f101, f102, p103, w104, h99⟩ := h99
                    refine lv_istore (lv' := [(6, .int r100), (5, .int 1), (4, .int x30), (3, .int x29), (2, .int x28), (0, .ref (ad 55)), (1, .int a1)]) hx hb dX12_putsOn_217 hl (by decide) rfl (fun ls hl => ?_)
                    refine lv_iload_n hx hb dX12_putsOn_219 rfl (lv_at hl 4 rfl) ?_
                    refine lv_if_lt (tgt := 243) hx hb dX12_putsOn_220 (by decide) (fun c106 => ?_) (fun c106 => ?_)
                    · have kc106 := jlt c106 rfl jz_0
                      refine lv_iload hx hb dX12_putsOn_243 (lv_at hl 2 rfl) ?_
                      refine lv_istore_n (lv' := [(2, .int x30), (6, .int r100), (5, .int 1), (4, .int x30), (3, .int x29), (0, .ref (ad 55)), (1, .int a1)]) hx hb dX12_putsOn_245 rfl hl (by decide) rfl (fun ls hl => ?_)
                      refine lv_iload hx hb dX12_putsOn_246 (lv_at hl 1 rfl) ?_
                      refine lv_istore_n (lv' := [(3, .int r100), (2, .int x30), (6, .int r100), (5, .int 1), (4, .int x30), (0, .ref (ad 55)), (1, .int a1)]) hx hb dX12_putsOn_248 rfl hl (by decide) rfl (fun ls hl => ?_)
                      obtain ⟨x107, ex107⟩ : ∃ y : Int32, y = x30 + 1 := ⟨_, rfl⟩
                      have tx107 : x107.toInt = x30.toInt + 1 := (jadd ex107 rfl jz_1 (by omega) (by omega)).trans (by omega)
                      refine lv_iinc (v := x107) (lv' := [(4, .int x107), (3, .int r100), (2, .int x30), (6, .int r100), (5, .int 1), (0, .ref (ad 55)), (1, .int a1)]) hx hb dX12_putsOn_249 hl (k := 4) rfl (by rw [ex107]; rfl) (by decide) rfl (fun ls hl => ?_)
                      refine lv_goto (tgt := 113) hx hb dX12_putsOn_252 (by decide) ?_
                      exact ihlp26 x30 r100 x107 σ99 _ _ ls (by have h92 := tx107; omega) (by have h92 := tx107; omega) (by have h92 := tx107; omega) (by have h92 := tx107; omega) (by have h92 := tx107; omega) (by have h92 := tx107; omega) (fun i hi => ((f101 i hi).trans ((f89 i hi).trans (f41 i hi)))) (fun i hi => ((f102 i hi).trans ((f90 i hi).trans (f42 i hi))))   hP hS (lv_sub hl [0, 1, 2, 5, 6] rfl)
                    · have kc106 := jnlt c106 rfl jz_0
                      refine lv_iload hx hb dX12_putsOn_223 (lv_at hl 1 rfl) ?_
                      refine lv_if_eq (tgt := 237) hx hb dX12_putsOn_225 (by decide) (fun c => absurd c (by decide)) (fun _ => ?_)
                      refine lv_iload hx hb dX12_putsOn_228 (lv_at hl 0 rfl) ?_
                      refine lv_iload_n hx hb dX12_putsOn_230 rfl (lv_at hl 3 rfl) ?_
                      refine lv_icmp_le (tgt := 249) hx hb dX12_putsOn_231 (by decide) (fun c108 => ?_) (fun c108 => ?_)
                      · have kc108 := jle c108 rfl rfl
                        obtain ⟨x109, ex109⟩ : ∃ y : Int32, y = x30 + 1 := ⟨_, rfl⟩
                        have tx109 : x109.toInt = x30.toInt + 1 := (jadd ex109 rfl jz_1 (by omega) (by omega)).trans (by omega)
                        refine lv_iinc (v := x109) (lv' := [(4, .int x109), (6, .int r100), (5, .int 1), (3, .int x29), (2, .int x28), (0, .ref (ad 55)), (1, .int a1)]) hx hb dX12_putsOn_249 hl (k := 2) rfl (by rw [ex109]; rfl) (by decide) rfl (fun ls hl => ?_)
                        refine lv_goto (tgt := 113) hx hb dX12_putsOn_252 (by decide) ?_
                        exact ihlp26 x28 x29 x109 σ99 _ _ ls (by have h92 := tx109; omega) (by have h92 := tx109; omega) (by have h92 := tx109; omega) (by have h92 := tx109; omega) (by have h92 := tx109; omega) (by have h92 := tx109; omega) (fun i hi => ((f101 i hi).trans ((f89 i hi).trans (f41 i hi)))) (fun i hi => ((f102 i hi).trans ((f90 i hi).trans (f42 i hi))))   hP hS (lv_sub hl [0, 3, 4, 5, 6] rfl)
                      · have kc108 := jnle c108 rfl rfl
                        refine lv_goto (tgt := 243) hx hb dX12_putsOn_234 (by decide) ?_
                        refine lv_iload hx hb dX12_putsOn_243 (lv_at hl 2 rfl) ?_
                        refine lv_istore_n (lv' := [(2, .int x30), (6, .int r100), (5, .int 1), (4, .int x30), (3, .int x29), (0, .ref (ad 55)), (1, .int a1)]) hx hb dX12_putsOn_245 rfl hl (by decide) rfl (fun ls hl => ?_)
                        refine lv_iload hx hb dX12_putsOn_246 (lv_at hl 1 rfl) ?_
                        refine lv_istore_n (lv' := [(3, .int r100), (2, .int x30), (6, .int r100), (5, .int 1), (4, .int x30), (0, .ref (ad 55)), (1, .int a1)]) hx hb dX12_putsOn_248 rfl hl (by decide) rfl (fun ls hl => ?_)
                        obtain ⟨x110, ex110⟩ : ∃ y : Int32, y = x30 + 1 := ⟨_, rfl⟩
                        have tx110 : x110.toInt = x30.toInt + 1 := (jadd ex110 rfl jz_1 (by omega) (by omega)).trans (by omega)
                        refine lv_iinc (v := x110) (lv' := [(4, .int x110), (3, .int r100), (2, .int x30), (6, .int r100), (5, .int 1), (0, .ref (ad 55)), (1, .int a1)]) hx hb dX12_putsOn_249 hl (k := 4) rfl (by rw [ex110]; rfl) (by decide) rfl (fun ls hl => ?_)
                        refine lv_goto (tgt := 113) hx hb dX12_putsOn_252 (by decide) ?_
                        exact ihlp26 x30 r100 x110 σ99 _ _ ls (by have h92 := tx110; omega) (by have h92 := tx110; omega) (by have h92 := tx110; omega) (by have h92 := tx110; omega) (by have h92 := tx110; omega) (by have h92 := tx110; omega) (fun i hi => ((f101 i hi).trans ((f89 i hi).trans (f41 i hi)))) (fun i hi => ((f102 i hi).trans ((f90 i hi).trans (f42 i hi))))   hP hS (lv_sub hl [0, 1, 2, 5, 6] rfl)
                  · have kc77 := jnle c77 jz_0 rfl
                    refine lv_iconst (v := 0) hx hb dX12_putsOn_176 (by decide) ?_
                    refine lv_goto (tgt := 217) hx hb dX12_putsOn_177 (by decide) ?_
                    refine lv_istore (lv' := [(6, .int 0), (5, .int 1), (4, .int x30), (3, .int x29), (2, .int x28), (0, .ref (ad 55)), (1, .int a1)]) hx hb dX12_putsOn_217 hl (by decide) rfl (fun ls hl => ?_)
                    refine lv_iload_n hx hb dX12_putsOn_219 rfl (lv_at hl 4 rfl) ?_
                    refine lv_if_lt (tgt := 243) hx hb dX12_putsOn_220 (by decide) (fun c111 => ?_) (fun c111 => ?_)
                    · have kc111 := jlt c111 rfl jz_0
                      refine lv_iload hx hb dX12_putsOn_243 (lv_at hl 2 rfl) ?_
                      refine lv_istore_n (lv' := [(2, .int x30), (6, .int 0), (5, .int 1), (4, .int x30), (3, .int x29), (0, .ref (ad 55)), (1, .int a1)]) hx hb dX12_putsOn_245 rfl hl (by decide) rfl (fun ls hl => ?_)
                      refine lv_iload hx hb dX12_putsOn_246 (lv_at hl 1 rfl) ?_
                      refine lv_istore_n (lv' := [(3, .int 0), (2, .int x30), (6, .int 0), (5, .int 1), (4, .int x30), (0, .ref (ad 55)), (1, .int a1)]) hx hb dX12_putsOn_248 rfl hl (by decide) rfl (fun ls hl => ?_)
                      obtain ⟨x112, ex112⟩ : ∃ y : Int32, y = x30 + 1 := ⟨_, rfl⟩
                      have tx112 : x112.toInt = x30.toInt + 1 := (jadd ex112 rfl jz_1 (by omega) (by omega)).trans (by omega)
                      refine lv_iinc (v := x112) (lv' := [(4, .int x112), (3, .int 0), (2, .int x30), (6, .int 0), (5, .int 1), (0, .ref (ad 55)), (1, .int a1)]) hx hb dX12_putsOn_249 hl (k := 4) rfl (by rw [ex112]; rfl) (by decide) rfl (fun ls hl => ?_)
                      refine lv_goto (tgt := 113) hx hb dX12_putsOn_252 (by decide) ?_
                      exact ihlp26 x30 0 x112 σ33 _ _ ls (by have h91 := jz_0; have h92 := tx112; omega) (by have h91 := jz_0; have h92 := tx112; omega) (by have h91 := jz_0; have h92 := tx112; omega) (by have h91 := jz_0; have h92 := tx112; omega) (by have h91 := jz_0; have h92 := tx112; omega) (by have h91 := jz_0; have h92 := tx112; omega) (fun i hi => (f41 i hi)) (fun i hi => (f42 i hi))   hP hS (lv_sub hl [0, 1, 2, 5, 6] rfl)
                    · have kc111 := jnlt c111 rfl jz_0
                      refine lv_iload hx hb dX12_putsOn_223 (lv_at hl 1 rfl) ?_
                      refine lv_if_eq (tgt := 237) hx hb dX12_putsOn_225 (by decide) (fun c => absurd c (by decide)) (fun _ => ?_)
                      refine lv_iload hx hb dX12_putsOn_228 (lv_at hl 0 rfl) ?_
                      refine lv_iload_n hx hb dX12_putsOn_230 rfl (lv_at hl 3 rfl) ?_
                      refine lv_icmp_le (tgt := 249) hx hb dX12_putsOn_231 (by decide) (fun c113 => ?_) (fun c113 => ?_)
                      · have kc113 := jle c113 jz_0 rfl
                        obtain ⟨x114, ex114⟩ : ∃ y : Int32, y = x30 + 1 := ⟨_, rfl⟩
                        have tx114 : x114.toInt = x30.toInt + 1 := (jadd ex114 rfl jz_1 (by omega) (by omega)).trans (by omega)
                        refine lv_iinc (v := x114) (lv' := [(4, .int x114), (6, .int 0), (5, .int 1), (3, .int x29), (2, .int x28), (0, .ref (ad 55)), (1, .int a1)]) hx hb dX12_putsOn_249 hl (k := 2) rfl (by rw [ex114]; rfl) (by decide) rfl (fun ls hl => ?_)
                        refine lv_goto (tgt := 113) hx hb dX12_putsOn_252 (by decide) ?_
                        exact ihlp26 x28 x29 x114 σ33 _ _ ls (by have h92 := tx114; omega) (by have h92 := tx114; omega) (by have h92 := tx114; omega) (by have h92 := tx114; omega) (by have h92 := tx114; omega) (by have h92 := tx114; omega) (fun i hi => (f41 i hi)) (fun i hi => (f42 i hi))   hP hS (lv_sub hl [0, 3, 4, 5, 6] rfl)
                      · have kc113 := jnle c113 jz_0 rfl
                        refine lv_goto (tgt := 243) hx hb dX12_putsOn_234 (by decide) ?_
                        refine lv_iload hx hb dX12_putsOn_243 (lv_at hl 2 rfl) ?_
                        refine lv_istore_n (lv' := [(2, .int x30), (6, .int 0), (5, .int 1), (4, .int x30), (3, .int x29), (0, .ref (ad 55)), (1, .int a1)]) hx hb dX12_putsOn_245 rfl hl (by decide) rfl (fun ls hl => ?_)
                        refine lv_iload hx hb dX12_putsOn_246 (lv_at hl 1 rfl) ?_
                        refine lv_istore_n (lv' := [(3, .int 0), (2, .int x30), (6, .int 0), (5, .int 1), (4, .int x30), (0, .ref (ad 55)), (1, .int a1)]) hx hb dX12_putsOn_248 rfl hl (by decide) rfl (fun ls hl => ?_)
                        obtain ⟨x115, ex115⟩ : ∃ y : Int32, y = x30 + 1 := ⟨_, rfl⟩
                        have tx115 : x115.toInt = x30.toInt + 1 := (jadd ex115 rfl jz_1 (by omega) (by omega)).trans (by omega)
                        refine lv_iinc (v := x115) (lv' := [(4, .int x115), (3, .int 0), (2, .int x30), (6, .int 0), (5, .int 1), (0, .ref (ad 55)), (1, .int a1)]) hx hb dX12_putsOn_249 hl (k := 4) rfl (by rw [ex115]; rfl) (by decide) rfl (fun ls hl => ?_)
                        refine lv_goto (tgt := 113) hx hb dX12_putsOn_252 (by decide) ?_
                        exact ihlp26 x30 0 x115 σ33 _ _ ls (by have h91 := jz_0; have h92 := tx115; omega) (by have h91 := jz_0; have h92 := tx115; omega) (by have h91 := jz_0; have h92 := tx115; omega) (by have h91 := jz_0; have h92 := tx115; omega) (by have h91 := jz_0; have h92 := tx115; omega) (by have h91 := jz_0; have h92 := tx115; omega) (fun i hi => (f41 i hi)) (fun i hi => (f42 i hi))   hP hS (lv_sub hl [0, 1, 2, 5, 6] rfl)
              · obtain ⟨q117, k116⟩ := h50
                have q117 := q117.symm
                subst q117
                have e118 : jmb σ33 x30 = jmb σ x30 := (jmb_fr (f42 27 (by decide)) (f42 30 (by decide)) (f42 31 (by decide)) (f41 56 (by decide)) (f41 69 (by decide)) x30)
                have n119 : ¬ x30 = B0 := fun h => absurd ((hB0).symm.trans (by rw [← h]; exact e118.symm.trans k116) : (1 : Int32) = 0) (by decide)
                have k120 := jne n119 rfl rfl
                refine lv_if_ne (tgt := 134) hx hb dX12_putsOn_128 (by decide) (fun c => absurd (by decide) c) (fun _ => ?_)
                refine lv_goto (tgt := 249) hx hb dX12_putsOn_131 (by decide) ?_
                obtain ⟨x121, ex121⟩ : ∃ y : Int32, y = x30 + 1 := ⟨_, rfl⟩
                have tx121 : x121.toInt = x30.toInt + 1 := (jadd ex121 rfl jz_1 (by omega) (by omega)).trans (by omega)
                refine lv_iinc (v := x121) (lv' := [(4, .int x121), (3, .int x29), (2, .int x28), (0, .ref (ad 55)), (1, .int a1)]) hx hb dX12_putsOn_249 hl (k := 0) rfl (by rw [ex121]; rfl) (by decide) rfl (fun ls hl => ?_)
                refine lv_goto (tgt := 113) hx hb dX12_putsOn_252 (by decide) ?_
                exact ihlp26 x28 x29 x121 σ33 _ _ ls (by have h92 := tx121; omega) (by have h92 := tx121; omega) (by have h92 := tx121; omega) (by have h92 := tx121; omega) (by have h92 := tx121; omega) (by have h92 := tx121; omega) (fun i hi => (f41 i hi)) (fun i hi => (f42 i hi))   hP hS (lv_sub hl [0, 1, 2, 3, 4] rfl)
        exact lp26 1000000 (-1) 0 0 σ _ _ ls (by have h90 := jz_m1; have h91 := jz_0; have h92 := jz_0; omega) (by have h90 := jz_m1; have h91 := jz_0; have h92 := jz_0; omega) (by have h90 := jz_m1; have h91 := jz_0; have h92 := jz_0; omega) (by have h90 := jz_m1; have h91 := jz_0; have h92 := jz_0; omega) (by have h90 := jz_m1; have h91 := jz_0; have h92 := jz_0; omega) (by have h90 := jz_m1; have h91 := jz_0; have h92 := jz_0; omega) (fun _ _ => rfl) (fun _ _ => rfl)   hP hS hl
      · have kc25 := jeq c25 rfl jz_2
        refine lv_aload_n hx hb dX12_putsOn_96 rfl (lv_at hl 0 rfl) ?_
        have p122 : jmb σ B0 = 1 := (jmb_fr rfl rfl rfl rfl rfl B0).trans hB0
        refine jcallV (As := []) (rest := []) ⟨hx, hb, hml, hown, hts⟩ hK hP hA hS hZ ((c_X12_bests l D cI cL ad zz hJ 8).2.2 σ τ B0 p122 hI101 hI102 hI103 hI104 hI105 hI106 hI120 hs_jKept hs_jTR (by omega) (by omega) (by omega) (by omega)) cw_RX12_280 (jc_55 cI cL ad σ τ) rfl ⟨Nat.le_of_ble_eq_true rfl, Nat.le_of_ble_eq_true rfl⟩ rfl rfl rfl hl.1 rfl (Nat.le_of_ble_eq_true rfl) dX12_putsOn_97 ⟨Nat.zero_le _, Nat.zero_le _⟩ (fun r124 σ123 τ123 H locs h123 hP hS => ?_)
        obtain ⟨rfl, f125, f126, p127, p128, h123⟩ := h123
        obtain ⟨k130, h123⟩ := h123
        have h131 := h123
        obtain ⟨q133, k132⟩ := h131
        refine lv_istore_n (lv' := [(2, .int r124), (0, .ref (ad 55)), (1, .int a1)]) hx hb dX12_putsOn_100 rfl hl (by decide) rfl (fun ls hl => ?_)
        refine lv_aload_n hx hb dX12_putsOn_101 rfl (lv_at hl 1 rfl) ?_
        refine va_get (D := D) hx hb hts inlX12 hown hK hP 55 (jc_55 cI cL ad σ123 τ) rfl 37 (by decide) (hts _ kw_33_15) (fun _ h9 => h9) rfl dX12_putsOn_102 ?_
        exact hret (σ123 55 37) σ123 τ _ _ _ _ rfl ⟨rfl, (fun i hi => (f125 i hi)), (fun i hi => (f126 i hi)), p127, p128, ⟨trivial, (by omega)⟩⟩ hP hS dX12_putsOn_105
    · have kc24 := jeq c24 rfl jz_4
      refine lv_aload_n hx hb dX12_putsOn_27 rfl (lv_at hl 0 rfl) ?_
      refine va_get (D := D) hx hb hts inlX12 hown hK hP 55 (jc_55 cI cL ad σ τ) rfl 34 (by decide) (hts _ kw_7_19) (fun _ h9 => h9) rfl dX12_putsOn_28 ?_
      refine lv_iload_n hx hb dX12_putsOn_31 rfl (lv_at hl 1 rfl) ?_
      refine jald hx hb hK hP (jc_71 cI cL ad σ τ) (jin t1 (by omega) (by omega)) dX12_putsOn_32 ?_
      have g134 := w13 _ (jnat (x := a1) t1 (n := 20) (by omega) (by decide))
      refine jtopr (y := (σ 71 a1.toNatClampNeg)) rfl ?_
      refine lv_if_le (tgt := 61) hx hb dX12_putsOn_33 (by decide) (fun c135 => ?_) (fun c135 => ?_)
      · have kc135 := jle c135 rfl jz_0
        refine lv_iconst (v := (-1)) hx hb dX12_putsOn_61 (by decide) ?_
        refine lv_istore_n (lv' := [(2, .int (-1)), (0, .ref (ad 55)), (1, .int a1)]) hx hb dX12_putsOn_62 rfl hl (by decide) rfl (fun ls hl => ?_)
        refine lv_aload_n hx hb dX12_putsOn_63 rfl (lv_at hl 1 rfl) ?_
        refine lv_iload_n hx hb dX12_putsOn_64 rfl (lv_at hl 2 rfl) ?_
        refine lv_iload_n hx hb dX12_putsOn_65 rfl (lv_at hl 0 rfl) ?_
        refine lv_if_lt (tgt := 81) hx hb dX12_putsOn_66 (by decide) (fun _ => ?_) (fun c => absurd (by decide) c)
        refine lv_iconst (v := (-1)) hx hb dX12_putsOn_81 (by decide) ?_
        have p136 : jmb σ B0 = 1 := (jmb_fr rfl rfl rfl rfl rfl B0).trans hB0
        refine jcallV (As := [.int a1, .int (-1)]) (rest := []) ⟨hx, hb, hml, hown, hts⟩ hK hP hA hS hZ (c_X12_turnOf l D cI cL ad zz hJ σ τ B0 p136 a1 (A1) t1 (-1) ((-1)) jz_m1 hI102 hI106 (by omega) (by omega) (by omega) (by omega)) cw_RX12_277 (jc_55 cI cL ad σ τ) rfl ⟨Nat.le_of_ble_eq_true rfl, Nat.le_of_ble_eq_true rfl⟩ rfl rfl rfl hl.1 rfl (Nat.le_of_ble_eq_true rfl) dX12_putsOn_82 ⟨Nat.zero_le _, Nat.zero_le _⟩ (fun r138 σ137 τ137 H locs h137 hP hS => ?_)
        obtain ⟨⟨rfl, rfl⟩, h137⟩ := h137
        have h139 := h137
        obtain ⟨q141, k140⟩ := h139
        exact hret r138 σ τ _ _ _ _ rfl ⟨rfl, (fun _ _ => rfl), (fun _ _ => rfl), hs_jKept, hs_jTR, ⟨trivial, (by omega)⟩⟩ hP hS dX12_putsOn_85
      · have kc135 := jnle c135 rfl jz_0
        refine lv_aload_n hx hb dX12_putsOn_36 rfl (lv_at hl 0 rfl) ?_
        refine va_get (D := D) hx hb hts inlX12 hown hK hP 55 (jc_55 cI cL ad σ τ) rfl 26 (by decide) (hts _ kw_23_5) (fun _ h9 => h9) rfl dX12_putsOn_37 ?_
        refine lv_aload_n hx hb dX12_putsOn_40 rfl (lv_at hl 0 rfl) ?_
        refine va_get (D := D) hx hb hts inlX12 hown hK hP 55 (jc_55 cI cL ad σ τ) rfl 36 (by decide) (hts _ kw_7_21) (fun _ h9 => h9) rfl dX12_putsOn_41 ?_
        refine lv_iload_n hx hb dX12_putsOn_44 rfl (lv_at hl 1 rfl) ?_
        refine jald hx hb hK hP (jc_73 cI cL ad σ τ) (jin t1 (by omega) (by omega)) dX12_putsOn_45 ?_
        refine jtopr (y := (σ 73 a1.toNatClampNeg)) rfl ?_
        refine lv_icmp_ge (tgt := 61) hx hb dX12_putsOn_46 (by decide) (fun c142 => ?_) (fun c142 => ?_)
        · have kc142 := jle c142 rfl rfl
          refine lv_iconst (v := (-1)) hx hb dX12_putsOn_61 (by decide) ?_
          refine lv_istore_n (lv' := [(2, .int (-1)), (0, .ref (ad 55)), (1, .int a1)]) hx hb dX12_putsOn_62 rfl hl (by decide) rfl (fun ls hl => ?_)
          refine lv_aload_n hx hb dX12_putsOn_63 rfl (lv_at hl 1 rfl) ?_
          refine lv_iload_n hx hb dX12_putsOn_64 rfl (lv_at hl 2 rfl) ?_
          refine lv_iload_n hx hb dX12_putsOn_65 rfl (lv_at hl 0 rfl) ?_
          refine lv_if_lt (tgt := 81) hx hb dX12_putsOn_66 (by decide) (fun _ => ?_) (fun c => absurd (by decide) c)
          refine lv_iconst (v := (-1)) hx hb dX12_putsOn_81 (by decide) ?_
          have p143 : jmb σ B0 = 1 := (jmb_fr rfl rfl rfl rfl rfl B0).trans hB0
          refine jcallV (As := [.int a1, .int (-1)]) (rest := []) ⟨hx, hb, hml, hown, hts⟩ hK hP hA hS hZ (c_X12_turnOf l D cI cL ad zz hJ σ τ B0 p143 a1 (A1) t1 (-1) ((-1)) jz_m1 hI102 hI106 (by omega) (by omega) (by omega) (by omega)) cw_RX12_277 (jc_55 cI cL ad σ τ) rfl ⟨Nat.le_of_ble_eq_true rfl, Nat.le_of_ble_eq_true rfl⟩ rfl rfl rfl hl.1 rfl (Nat.le_of_ble_eq_true rfl) dX12_putsOn_82 ⟨Nat.zero_le _, Nat.zero_le _⟩ (fun r145 σ144 τ144 H locs h144 hP hS => ?_)
          obtain ⟨⟨rfl, rfl⟩, h144⟩ := h144
          have h146 := h144
          obtain ⟨q148, k147⟩ := h146
          exact hret r145 σ τ _ _ _ _ rfl ⟨rfl, (fun _ _ => rfl), (fun _ _ => rfl), hs_jKept, hs_jTR, ⟨trivial, (by omega)⟩⟩ hP hS dX12_putsOn_85
        · have kc142 := jnle c142 rfl rfl
          refine lv_aload_n hx hb dX12_putsOn_49 rfl (lv_at hl 0 rfl) ?_
          refine va_get (D := D) hx hb hts inlX12 hown hK hP 55 (jc_55 cI cL ad σ τ) rfl 35 (by decide) (hts _ kw_7_20) (fun _ h9 => h9) rfl dX12_putsOn_50 ?_
          refine lv_bipush (v := 8) hx hb dX12_putsOn_53 (by decide) ?_
          refine lv_iload_n hx hb dX12_putsOn_55 rfl (lv_at hl 1 rfl) ?_
          refine lv_imul hx hb dX12_putsOn_56 ?_
          refine lv_topi (fun x149 ex149 => ?_)
          have tx149 : x149.toInt = 8 * A1 := (jmul ex149 jz_8 t1 (by omega) (by omega)).trans (by omega)
          refine jald hx hb hK hP (jc_72 cI cL ad σ τ) (jin tx149 (by omega) (by omega)) dX12_putsOn_57 ?_
          have g150 := w14 _ (jnat (x := x149) tx149 (n := 160) (by omega) (by decide))
          refine jtopr (y := (σ 72 x149.toNatClampNeg)) rfl ?_
          refine lv_goto (tgt := 62) hx hb dX12_putsOn_58 (by decide) ?_
          refine lv_istore_n (lv' := [(2, .int (σ 72 x149.toNatClampNeg)), (0, .ref (ad 55)), (1, .int a1)]) hx hb dX12_putsOn_62 rfl hl (by decide) rfl (fun ls hl => ?_)
          refine lv_aload_n hx hb dX12_putsOn_63 rfl (lv_at hl 1 rfl) ?_
          refine lv_iload_n hx hb dX12_putsOn_64 rfl (lv_at hl 2 rfl) ?_
          refine lv_iload_n hx hb dX12_putsOn_65 rfl (lv_at hl 0 rfl) ?_
          refine lv_if_lt (tgt := 81) hx hb dX12_putsOn_66 (by decide) (fun c => absurd (jlt c rfl jz_0) (by omega)) (fun c151 => ?_)
          have kc151 := jnlt c151 rfl jz_0
          refine lv_aload_n hx hb dX12_putsOn_69 rfl (lv_at hl 1 rfl) ?_
          refine lv_iload_n hx hb dX12_putsOn_70 rfl (lv_at hl 0 rfl) ?_
          refine jcallV (As := [.int (σ 72 x149.toNatClampNeg)]) (rest := [.int a1, .ref (ad 55)]) ⟨hx, hb, hml, hown, hts⟩ hK hP hA hS hZ (c_X12_leastBut l D cI cL ad zz hJ σ τ (σ 72 x149.toNatClampNeg) ((σ 72 x149.toNatClampNeg).toInt) rfl hI102) cw_RX12_274 (jc_55 cI cL ad σ τ) rfl ⟨Nat.le_of_ble_eq_true rfl, Nat.le_of_ble_eq_true rfl⟩ rfl rfl rfl hl.1 rfl (Nat.le_of_ble_eq_true rfl) dX12_putsOn_71 ⟨Nat.zero_le _, Nat.zero_le _⟩ (fun r153 σ152 τ152 H locs h152 hP hS => ?_)
          obtain ⟨⟨rfl, rfl⟩, h152⟩ := h152
          rcases h152 with h154 | h155
          · obtain ⟨q160, k156, k157, k158, k159⟩ := h154
            refine lv_if_lt (tgt := 81) hx hb dX12_putsOn_74 (by decide) (fun c => absurd (jlt c rfl jz_0) (by omega)) (fun c161 => ?_)
            have kc161 := jnlt c161 rfl jz_0
            refine lv_iload_n hx hb dX12_putsOn_77 rfl (lv_at hl 0 rfl) ?_
            refine lv_goto (tgt := 82) hx hb dX12_putsOn_78 (by decide) ?_
            have p162 : jmb σ r153 = 1 := (jmb_fr rfl rfl rfl rfl rfl r153).trans k159
            refine jcallV (As := [.int a1, .int (σ 72 x149.toNatClampNeg)]) (rest := []) ⟨hx, hb, hml, hown, hts⟩ hK hP hA hS hZ (c_X12_turnOf l D cI cL ad zz hJ σ τ r153 p162 a1 (A1) t1 (σ 72 x149.toNatClampNeg) ((σ 72 x149.toNatClampNeg).toInt) rfl hI102 hI106 (by omega) (by omega) (by omega) (by omega)) cw_RX12_277 (jc_55 cI cL ad σ τ) rfl ⟨Nat.le_of_ble_eq_true rfl, Nat.le_of_ble_eq_true rfl⟩ rfl rfl rfl hl.1 rfl (Nat.le_of_ble_eq_true rfl) dX12_putsOn_82 ⟨Nat.zero_le _, Nat.zero_le _⟩ (fun r164 σ163 τ163 H locs h163 hP hS => ?_)
            obtain ⟨⟨rfl, rfl⟩, h163⟩ := h163
            have h165 := h163
            obtain ⟨q167, k166⟩ := h165
            exact hret r164 σ τ _ _ _ _ rfl ⟨rfl, (fun _ _ => rfl), (fun _ _ => rfl), hs_jKept, hs_jTR, ⟨trivial, (by omega)⟩⟩ hP hS dX12_putsOn_85
          · obtain ⟨q169, k168⟩ := h155
            have q169 := q169.symm
            subst q169
            refine lv_if_lt (tgt := 81) hx hb dX12_putsOn_74 (by decide) (fun _ => ?_) (fun c => absurd (by decide) c)
            refine lv_iconst (v := (-1)) hx hb dX12_putsOn_81 (by decide) ?_
            have p170 : jmb σ B0 = 1 := (jmb_fr rfl rfl rfl rfl rfl B0).trans hB0
            refine jcallV (As := [.int a1, .int (-1)]) (rest := []) ⟨hx, hb, hml, hown, hts⟩ hK hP hA hS hZ (c_X12_turnOf l D cI cL ad zz hJ σ τ B0 p170 a1 (A1) t1 (-1) ((-1)) jz_m1 hI102 hI106 (by omega) (by omega) (by omega) (by omega)) cw_RX12_277 (jc_55 cI cL ad σ τ) rfl ⟨Nat.le_of_ble_eq_true rfl, Nat.le_of_ble_eq_true rfl⟩ rfl rfl rfl hl.1 rfl (Nat.le_of_ble_eq_true rfl) dX12_putsOn_82 ⟨Nat.zero_le _, Nat.zero_le _⟩ (fun r172 σ171 τ171 H locs h171 hP hS => ?_)
            obtain ⟨⟨rfl, rfl⟩, h171⟩ := h171
            have h173 := h171
            obtain ⟨q175, k174⟩ := h173
            exact hret r172 σ τ _ _ _ _ rfl ⟨rfl, (fun _ _ => rfl), (fun _ _ => rfl), hs_jKept, hs_jTR, ⟨trivial, (by omega)⟩⟩ hP hS dX12_putsOn_85
  · have kc22 := jeq c22 rfl jz_1
    refine lv_aload_n hx hb dX12_putsOn_10 rfl (lv_at hl 0 rfl) ?_
    refine lv_iload_n hx hb dX12_putsOn_11 rfl (lv_at hl 1 rfl) ?_
    refine lv_iconst (v := (-1)) hx hb dX12_putsOn_12 (by decide) ?_
    have p176 : jmb σ B0 = 1 := (jmb_fr rfl rfl rfl rfl rfl B0).trans hB0
    refine jcallV (As := [.int a1, .int (-1)]) (rest := []) ⟨hx, hb, hml, hown, hts⟩ hK hP hA hS hZ (c_X12_turnOf l D cI cL ad zz hJ σ τ B0 p176 a1 (A1) t1 (-1) ((-1)) jz_m1 hI102 hI106 (by omega) (by omega) (by omega) (by omega)) cw_RX12_277 (jc_55 cI cL ad σ τ) rfl ⟨Nat.le_of_ble_eq_true rfl, Nat.le_of_ble_eq_true rfl⟩ rfl rfl rfl hl.1 rfl (Nat.le_of_ble_eq_true rfl) dX12_putsOn_13 ⟨Nat.zero_le _, Nat.zero_le _⟩ (fun r178 σ177 τ177 H locs h177 hP hS => ?_)
    obtain ⟨⟨rfl, rfl⟩, h177⟩ := h177
    have h179 := h177
    obtain ⟨q181, k180⟩ := h179
    exact hret r178 σ τ _ _ _ _ rfl ⟨rfl, (fun _ _ => rfl), (fun _ _ => rfl), hs_jKept, hs_jTR, ⟨trivial, (by omega)⟩⟩ hP hS dX12_putsOn_16
set_option maxHeartbeats 4000000 in
set_option maxRecDepth 100000 in
theorem c_X12_means_mf_g (l : Launch) (D : va_G) (cI cL : ClassId) (ad zz : Nat → Nat) (hJ : jD ad) (n : Nat) (h_mf : ∀ (σ : Nat → Nat → Int32) (τ : Nat → Nat → Int64) (a1 : Int32) (A1 : Int) (t1 : a1.toInt = A1) (hI101 : jI101 σ) (hI102 : jI102 σ) (hI103 : jI103 σ) (hI104 : jI104 σ) (hI105 : jI105 σ) (hI106 : jI106 σ) (hI120 : jI120 σ) (hs_jKept : jKept σ) (hs_jTR : jTR σ) (hp0 : 0 ≤ A1 ∧ A1 ≤ 19) (hp1 : (σ 55 12).toInt - (σ 55 26).toInt ≤ 8) (hp2 : (σ 55 12).toInt - (σ 55 26).toInt ≤ (((n) : Nat) : Int)), jM l yX12_meanFrom cX12_meanFrom 9 (some .int) ({ frames := (106 + 4 * (n)), cells := 0, slots := 0, locals := (5261 + 240 * (n)) }) D cI cL ad zz [.ref (ad 55), .int a1] σ τ (fun r σ' τ' => τ = τ' ∧ (∀ i : Nat, (i < 55 ∨ 55 < i) ∧ (i < 66 ∨ 66 < i) ∧ (i < 74 ∨ 78 < i) → σ' i = σ i) ∧ (∀ k : Nat, (k < 18 ∨ 18 < k) ∧ (k < 19 ∨ 19 < k) ∧ (k < 20 ∨ 20 < k) ∧ (k < 21 ∨ 21 < k) ∧ (k < 22 ∨ 22 < k) ∧ (k < 37 ∨ 37 < k) → σ' 55 k = σ 55 k) ∧ (jKept σ') ∧ (jTR σ') ∧ True)) (σ : Nat → Nat → Int32) (τ : Nat → Nat → Int64) (a1 : Int32) (A1 : Int) (t1 : a1.toInt = A1) (hI101 : jI101 σ) (hI102 : jI102 σ) (hI103 : jI103 σ) (hI104 : jI104 σ) (hI105 : jI105 σ) (hI106 : jI106 σ) (hI120 : jI120 σ) (hs_jKept : jKept σ) (hs_jTR : jTR σ) (hp0 : 0 ≤ A1 ∧ A1 ≤ 19) (hp1 : (σ 55 12).toInt - (σ 55 26).toInt ≤ 8) (hp2 : (σ 55 12).toInt - (σ 55 26).toInt ≤ (((n + 1) : Nat) : Int)) : jM l yX12_meanFrom cX12_meanFrom 9 (some .int) ({ frames := (106 + 4 * (n + 1)), cells := 0, slots := 0, locals := (5261 + 240 * (n + 1)) }) D cI cL ad zz [.ref (ad 55), .int a1] σ τ (fun r σ' τ' => τ = τ' ∧ (∀ i : Nat, (i < 55 ∨ 55 < i) ∧ (i < 66 ∨ 66 < i) ∧ (i < 74 ∨ 78 < i) → σ' i = σ i) ∧ (∀ k : Nat, (k < 18 ∨ 18 < k) ∧ (k < 19 ∨ 19 < k) ∧ (k < 20 ∨ 20 < k) ∧ (k < 21 ∨ 21 < k) ∧ (k < 22 ∨ 22 < k) ∧ (k < 37 ∨ 37 < k) → σ' 55 k = σ 55 k) ∧ (jKept σ') ∧ (jTR σ') ∧ True) := by
  refine jM.of hJ (by decide +kernel) (nt := .int) rfl (Nat.le_of_ble_eq_true rfl) ?_
  intro p e s m args below meth c Q ls hC hret hl hP
  obtain ⟨hx, hb, hr, hml, hown, hts, hK, -, hlocks, hZ⟩ := hC
  have hown : s.vm.findClass RX12 = some m.cls := hown
  have hS : va_S (jA ad) s.heap s.heap [] := va_S.rf
  have hA : ∀ q, jA ad q → jA ad q := fun _ h => h
  have hl : lv_has ls 9 [(0, .ref (ad 55)), (1, .int a1)] := hl
  have g1 := jrg t1
  obtain ⟨i1, w2, w3⟩ : (0 ≤ (σ 55 6).toInt ∧ (σ 55 6).toInt ≤ 4) ∧ (∀ k : Nat, k < 4 → 0 ≤ (σ 60 k).toInt ∧ (σ 60 k).toInt ≤ 50) ∧ (∀ k : Nat, k < 4 → 0 ≤ (σ 61 k).toInt ∧ (σ 61 k).toInt ≤ 20) := id hI102
  obtain ⟨i4, i5, i6, w7, w8⟩ : (1 ≤ (σ 55 10).toInt ∧ (σ 55 10).toInt ≤ 8) ∧ (1 ≤ (σ 55 12).toInt ∧ (σ 55 12).toInt ≤ 12) ∧ (0 ≤ (σ 55 13).toInt ∧ (σ 55 13).toInt ≤ 999) ∧ (∀ k : Nat, k < 8 → 0 ≤ (σ 62 k).toInt ∧ (σ 62 k).toInt ≤ 3) ∧ (∀ k : Nat, k < 8 → 0 ≤ (σ 67 k).toInt ∧ (σ 67 k).toInt ≤ 3) := id hI104
  obtain ⟨i9, i10, i11, i12, i13, w14⟩ : (0 ≤ (σ 55 25).toInt) ∧ ((σ 55 25).toInt ≤ (σ 55 10).toInt) ∧ (0 ≤ (σ 55 26).toInt) ∧ ((σ 55 26).toInt ≤ (σ 55 12).toInt) ∧ ((-1) ≤ (σ 55 27).toInt ∧ (σ 55 27).toInt ≤ 3) ∧ (∀ k : Nat, k < 4 → 0 ≤ (σ 68 k).toInt ∧ (σ 68 k).toInt ≤ 3) := id hI120
  refine lv_aload_n hx hb dX12_meanFrom_0 rfl (lv_at hl 0 rfl) ?_
  refine jcallV (As := []) (rest := []) ⟨hx, hb, hml, hown, hts⟩ hK hP hA hS hZ (c_X12_isEnded l D cI cL ad zz hJ σ τ hI102 hI104 hI120) cw_RX12_307 (jc_55 cI cL ad σ τ) rfl ⟨by dsimp only; omega, by dsimp only; omega⟩ rfl rfl rfl hl.1 rfl (Nat.le_of_ble_eq_true rfl) dX12_meanFrom_1 ⟨Nat.zero_le _, Nat.zero_le _⟩ (fun r16 σ15 τ15 H locs h15 hP hS => ?_)
  obtain ⟨⟨rfl, rfl⟩, h15⟩ := h15
  rcases h15 with h17 | h18
  · obtain ⟨q20, k19⟩ := h17
    have q20 := q20.symm
    subst q20
    refine lv_if_eq (tgt := 9) hx hb dX12_meanFrom_4 (by decide) (fun c => absurd c (by decide)) (fun _ => ?_)
    refine lv_iconst (v := 0) hx hb dX12_meanFrom_7 (by decide) ?_
    exact hret 0 σ τ _ _ _ _ rfl ⟨rfl, (fun _ _ => rfl), (fun _ _ => rfl), hs_jKept, hs_jTR, trivial⟩ hP hS dX12_meanFrom_8
  · obtain ⟨q24, k21, k22, k23⟩ := h18
    have q24 := q24.symm
    subst q24
    obtain ⟨B25, k26, k27, w28⟩ := k23
    refine lv_if_eq (tgt := 9) hx hb dX12_meanFrom_4 (by decide) (fun _ => ?_) (fun c => absurd (by decide) c)
    refine lv_aload_n hx hb dX12_meanFrom_9 rfl (lv_at hl 0 rfl) ?_
    refine lv_iload_n hx hb dX12_meanFrom_10 rfl (lv_at hl 1 rfl) ?_
    have p29 : jmb σ B25 = 1 := (jmb_fr rfl rfl rfl rfl rfl B25).trans w28
    refine jcallV (As := [.int a1]) (rest := []) ⟨hx, hb, hml, hown, hts⟩ hK hP hA hS hZ (c_X12_putsOn l D cI cL ad zz hJ σ τ B25 p29 a1 (A1) t1 hI101 hI102 hI103 hI104 hI105 hI106 hI120 hs_jKept hs_jTR (by omega) (by omega) (by omega) (by omega) (by omega)) cw_RX12_321 (jc_55 cI cL ad σ τ) rfl ⟨by dsimp only; omega, by dsimp only; omega⟩ rfl rfl rfl hl.1 rfl (Nat.le_of_ble_eq_true rfl) dX12_meanFrom_11 ⟨Nat.zero_le _, Nat.zero_le _⟩ (fun r31 σ30 τ30 H locs h30 hP hS => ?_)
    obtain ⟨rfl, f32, f33, p34, p35, h30⟩ := h30
    have h37 := h30
    obtain ⟨q39, k38⟩ := h37
    refine lv_istore_n (lv' := [(2, .int r31), (0, .ref (ad 55)), (1, .int a1)]) hx hb dX12_meanFrom_14 rfl hl (by decide) rfl (fun ls hl => ?_)
    refine lv_aload_n hx hb dX12_meanFrom_15 rfl (lv_at hl 1 rfl) ?_
    refine va_get (D := D) hx hb hts inlX12 hown hK hP 55 (jc_55 cI cL ad σ30 τ) rfl 11 (by decide) (hts _ kw_7_8) (fun _ h9 => h9) rfl dX12_meanFrom_16 ?_
    refine lv_aload_n hx hb dX12_meanFrom_19 rfl (lv_at hl 1 rfl) ?_
    refine va_get (D := D) hx hb hts inlX12 hown hK hP 55 (jc_55 cI cL ad σ30 τ) rfl 25 (by decide) (hts _ kw_23_6) (fun _ h9 => h9) rfl dX12_meanFrom_20 ?_
    have m40 : σ30 55 25 = (σ 55 25) := (f33 25 (by decide))
    refine jtopr m40 ?_
    refine jald hx hb hK hP (jc_62 cI cL ad σ30 τ) (jin rfl (by omega) (by omega)) dX12_meanFrom_23 ?_
    have w41 : ∀ k : Nat, k < 8 → 0 ≤ (σ30 62 k).toInt ∧ (σ30 62 k).toInt ≤ 3 := (jrr_fr (f32 62 (by decide)) w7)
    have g42 := w41 _ (jnat (x := (σ 55 25)) rfl (n := 8) (by omega) (by decide))
    refine lv_topi (fun x43 ex43 => ?_)
    rw [← ex43] at g42
    refine lv_istore_n (lv' := [(3, .int x43), (2, .int r31), (0, .ref (ad 55)), (1, .int a1)]) hx hb dX12_meanFrom_24 rfl hl (by decide) rfl (fun ls hl => ?_)
    refine lv_aload_n hx hb dX12_meanFrom_25 rfl (lv_at hl 2 rfl) ?_
    refine lv_iload_n hx hb dX12_meanFrom_26 rfl (lv_at hl 1 rfl) ?_
    refine lv_iload_n hx hb dX12_meanFrom_27 rfl (lv_at hl 0 rfl) ?_
    have I44 : jI101 σ30 := jI101_fr (f33 4 (by decide)) (f33 5 (by decide)) (f32 56 (by decide)) (f32 57 (by decide)) (f32 58 (by decide)) (f32 59 (by decide)) hI101
    have I45 : jI102 σ30 := jI102_fr (f33 6 (by decide)) (f32 60 (by decide)) (f32 61 (by decide)) hI102
    have I46 : jI103 σ30 := jI103_fr (f33 9 (by decide)) hI103
    have I47 : jI105 σ30 := jI105_fr (f33 15 (by decide)) (f32 65 (by decide)) hI105
    have w48 : ∀ k : Nat, k < 4 → 0 ≤ (σ30 68 k).toInt ∧ (σ30 68 k).toInt ≤ 3 := (jrr_fr (f32 68 (by decide)) w14)
    refine jcallV (As := [.int r31, .int x43]) (rest := []) ⟨hx, hb, hml, hown, hts⟩ hK hP hA hS hZ (c_X12_outBy l D cI cL ad zz hJ σ30 τ r31 (r31.toInt) rfl x43 (x43.toInt) rfl I44 I45 I46 I47 w48 p35 (by omega) (by omega)) cw_RX12_259 (jc_55 cI cL ad σ30 τ) rfl ⟨by dsimp only; omega, by dsimp only; omega⟩ rfl rfl rfl hl.1 rfl (Nat.le_of_ble_eq_true rfl) dX12_meanFrom_28 ⟨Nat.zero_le _, Nat.zero_le _⟩ (fun r50 σ49 τ49 H locs h49 hP hS => ?_)
    obtain ⟨rfl, f51, f52, p53, w54, h49⟩ := h49
    have h56 := h49
    obtain ⟨q58, k57⟩ := h56
    refine lv_istore (lv' := [(4, .int r50), (3, .int x43), (2, .int r31), (0, .ref (ad 55)), (1, .int a1)]) hx hb dX12_meanFrom_31 hl (by decide) rfl (fun ls hl => ?_)
    refine lv_sipush (v := 1000) hx hb dX12_meanFrom_33 (by decide) ?_
    refine lv_aload_n hx hb dX12_meanFrom_36 rfl (lv_at hl 3 rfl) ?_
    refine lv_iload_n hx hb dX12_meanFrom_37 rfl (lv_at hl 2 rfl) ?_
    refine lv_iload_n hx hb dX12_meanFrom_38 rfl (lv_at hl 1 rfl) ?_
    have I59 : jI101 σ49 := jI101_fr (f52 4 (by decide)) (f52 5 (by decide)) (f51 56 (by decide)) (f51 57 (by decide)) (f51 58 (by decide)) (f51 59 (by decide)) I44
    have I60 : jI102 σ49 := jI102_fr (f52 6 (by decide)) (f51 60 (by decide)) (f51 61 (by decide)) I45
    have I61 : jI103 σ49 := jI103_fr (f52 9 (by decide)) I46
    have w62 : ∀ k : Nat, k < 4 → 0 ≤ (σ49 68 k).toInt ∧ (σ49 68 k).toInt ≤ 3 := (jrr_fr (f51 68 (by decide)) w48)
    refine jcallV (As := [.int r31, .int x43]) (rest := [.int 1000]) ⟨hx, hb, hml, hown, hts⟩ hK hP hA hS hZ (c_X12_runsBy l D cI cL ad zz hJ σ49 τ r31 (r31.toInt) rfl x43 (x43.toInt) rfl I59 I60 I61 w62 (by omega) (by omega)) cw_RX12_262 (jc_55 cI cL ad σ49 τ) rfl ⟨by dsimp only; omega, by dsimp only; omega⟩ rfl rfl rfl hl.1 rfl (Nat.le_of_ble_eq_true rfl) dX12_meanFrom_39 ⟨Nat.zero_le _, Nat.zero_le _⟩ (fun r64 σ63 τ63 H locs h63 hP hS => ?_)
    obtain ⟨⟨rfl, rfl⟩, w65, h63⟩ := h63
    have h66 := h63
    obtain ⟨q68, k67⟩ := h66
    have g69 := jrg (rfl : r64.toInt = r64.toInt)
    refine lv_imul hx hb dX12_meanFrom_42 ?_
    refine lv_topi (fun x70 ex70 => ?_)
    have tx70 : x70.toInt = 1000 * r64.toInt := (jmul ex70 jz_1000 rfl (by omega) (by omega)).trans (by omega)
    refine lv_istore (lv' := [(5, .int x70), (4, .int r50), (3, .int x43), (2, .int r31), (0, .ref (ad 55)), (1, .int a1)]) hx hb dX12_meanFrom_43 hl (by decide) rfl (fun ls hl => ?_)
    refine lv_aload_n hx hb dX12_meanFrom_45 rfl (lv_at hl 4 rfl) ?_
    refine lv_iload_n hx hb dX12_meanFrom_46 rfl (lv_at hl 3 rfl) ?_
    refine lv_iconst (v := 1) hx hb dX12_meanFrom_47 (by decide) ?_
    have z71 : (σ49 55 6).toInt = (σ 55 6).toInt := (congrArg Int32.toInt (show σ49 55 6 = (σ 55 6) from ((f52 6 (by decide)).trans (f33 6 (by decide)))))
    have z72 : (σ49 55 27).toInt = (σ 55 27).toInt := (congrArg Int32.toInt (show σ49 55 27 = (σ 55 27) from ((f52 27 (by decide)).trans (f33 27 (by decide)))))
    have z73 : (σ49 55 25).toInt = (σ 55 25).toInt := (congrArg Int32.toInt (show σ49 55 25 = (σ 55 25) from ((f52 25 (by decide)).trans m40)))
    have z74 : (σ49 55 26).toInt = (σ 55 26).toInt := (congrArg Int32.toInt (show σ49 55 26 = (σ 55 26) from ((f52 26 (by decide)).trans (f33 26 (by decide)))))
    have z75 : (σ49 68 0).toInt = (σ 68 0).toInt := (congrArg Int32.toInt (show σ49 68 0 = (σ 68 0) from ((congrFun (f51 68 (by decide)) 0).trans (congrFun (f32 68 (by decide)) 0))))
    have z76 : (σ49 68 1).toInt = (σ 68 1).toInt := (congrArg Int32.toInt (show σ49 68 1 = (σ 68 1) from ((congrFun (f51 68 (by decide)) 1).trans (congrFun (f32 68 (by decide)) 1))))
    have z77 : (σ49 68 2).toInt = (σ 68 2).toInt := (congrArg Int32.toInt (show σ49 68 2 = (σ 68 2) from ((congrFun (f51 68 (by decide)) 2).trans (congrFun (f32 68 (by decide)) 2))))
    have z78 : (σ49 68 3).toInt = (σ 68 3).toInt := (congrArg Int32.toInt (show σ49 68 3 = (σ 68 3) from ((congrFun (f51 68 (by decide)) 3).trans (congrFun (f32 68 (by decide)) 3))))
    refine jcallV (As := [.int r31, .int 1]) (rest := []) ⟨hx, hb, hml, hown, hts⟩ hK hP hA hS hZ (c_X12_goes_1 l D cI cL ad zz hJ σ49 τ r31 (r31.toInt) rfl w62 (by omega) (by omega) (by omega) (by omega) (by omega)) cw_RX12_296 (jc_55 cI cL ad σ49 τ) rfl ⟨by dsimp only; omega, by dsimp only; omega⟩ rfl rfl rfl hl.1 rfl (Nat.le_of_ble_eq_true rfl) dX12_meanFrom_48 ⟨Nat.zero_le _, Nat.zero_le _⟩ (fun r80 σ79 τ79 H locs h79 hP hS => ?_)
    obtain ⟨rfl, f81, f82, w83, w84, w85, h79⟩ := h79
    obtain ⟨k87, k88, k89, h79⟩ := h79
    have h90 := h79
    obtain ⟨q96, k91, k92, k93, k94, k95⟩ := h90
    refine lv_istore (lv' := [(6, .int r80), (5, .int x70), (4, .int r50), (3, .int x43), (2, .int r31), (0, .ref (ad 55)), (1, .int a1)]) hx hb dX12_meanFrom_51 hl (by decide) rfl (fun ls hl => ?_)
    refine lv_aload_n hx hb dX12_meanFrom_53 rfl (lv_at hl 5 rfl) ?_
    refine lv_iload_n hx hb dX12_meanFrom_54 rfl (lv_at hl 6 rfl) ?_
    have I97 : jI101 σ79 := jI101_fr (f82 4 (by decide)) (f82 5 (by decide)) (f81 56 (by decide)) (f81 57 (by decide)) (f81 58 (by decide)) (f81 59 (by decide)) I59
    have I98 : jI102 σ79 := jI102_fr (f82 6 (by decide)) (f81 60 (by decide)) (f81 61 (by decide)) I60
    have I99 : jI103 σ79 := jI103_fr (f82 9 (by decide)) I61
    have I100 : jI104 σ79 := jI104_fr ((f82 10 (by decide)).trans ((f52 10 (by decide)).trans (f33 10 (by decide)))) ((f82 12 (by decide)).trans ((f52 12 (by decide)).trans (f33 12 (by decide)))) ((f82 13 (by decide)).trans ((f52 13 (by decide)).trans (f33 13 (by decide)))) ((f81 62 (by decide)).trans ((f51 62 (by decide)).trans (f32 62 (by decide)))) ((f81 67 (by decide)).trans ((f51 67 (by decide)).trans (f32 67 (by decide)))) hI104
    have I101 : jI105 σ79 := jI105_fr ((f82 15 (by decide)).trans (f52 15 (by decide))) ((f81 65 (by decide)).trans (f51 65 (by decide))) I47
    have I102 : jI106 σ79 := jI106_fr ((f82 32 (by decide)).trans ((f52 32 (by decide)).trans (f33 32 (by decide)))) ((f81 70 (by decide)).trans ((f51 70 (by decide)).trans (f32 70 (by decide)))) ((f81 71 (by decide)).trans ((f51 71 (by decide)).trans (f32 71 (by decide)))) ((f81 72 (by decide)).trans ((f51 72 (by decide)).trans (f32 72 (by decide)))) hI106
    have z103 : (σ79 55 10).toInt = (σ 55 10).toInt := (congrArg Int32.toInt (show σ79 55 10 = (σ 55 10) from ((f82 10 (by decide)).trans ((f52 10 (by decide)).trans (f33 10 (by decide))))))
    have z104 : (σ79 55 12).toInt = (σ 55 12).toInt := (congrArg Int32.toInt (show σ79 55 12 = (σ 55 12) from ((f82 12 (by decide)).trans ((f52 12 (by decide)).trans (f33 12 (by decide))))))
    have I105 : jI120 σ79 := ⟨(by omega), (by omega), (by omega), (by omega), (by omega), w83⟩
    have p106 : jKept σ79 := jKept.fr ((f81 75 (by decide)).trans (f51 75 (by decide))) ((f81 76 (by decide)).trans (f51 76 (by decide))) ((f81 77 (by decide)).trans (f51 77 (by decide))) p34
    have p107 : jTR σ79 := jTR.fr (f81 64 (by decide)) (f81 65 (by decide)) p53
    refine jcallV (As := [.int a1]) (rest := []) ⟨hx, hb, hml, hown, hts⟩ hK hP hA hS hZ (h_mf σ79 τ a1 (A1) t1 I97 I98 I99 I100 I101 I102 I105 p106 p107 (by omega) (by omega) (by omega)) cw_RX12_324 (jc_55 cI cL ad σ79 τ) rfl ⟨by dsimp only; omega, by dsimp only; omega⟩ rfl rfl rfl hl.1 rfl (Nat.le_of_ble_eq_true rfl) dX12_meanFrom_55 ⟨Nat.zero_le _, Nat.zero_le _⟩ (fun r109 σ108 τ108 H locs h108 hP hS => ?_)
    obtain ⟨rfl, f110, f111, p112, p113, h108⟩ := h108
    refine lv_istore (lv' := [(7, .int r109), (6, .int r80), (5, .int x70), (4, .int r50), (3, .int x43), (2, .int r31), (0, .ref (ad 55)), (1, .int a1)]) hx hb dX12_meanFrom_58 hl (by decide) rfl (fun ls hl => ?_)
    refine lv_aload_n hx hb dX12_meanFrom_60 rfl (lv_at hl 6 rfl) ?_
    refine lv_iload_n hx hb dX12_meanFrom_61 rfl (lv_at hl 5 rfl) ?_
    refine lv_iconst (v := 1) hx hb dX12_meanFrom_62 (by decide) ?_
    refine lv_iload hx hb dX12_meanFrom_63 (lv_at hl 1 rfl) ?_
    have w115 : ∀ k : Nat, k < 4 → 0 ≤ (σ108 68 k).toInt ∧ (σ108 68 k).toInt ≤ 3 := (jrr_fr (f110 68 (by decide)) w83)
    have z116 : (σ108 55 25).toInt = (σ79 55 25).toInt := (congrArg Int32.toInt (show σ108 55 25 = (σ79 55 25) from (f111 25 (by decide))))
    have z117 : (σ108 55 26).toInt = (σ79 55 26).toInt := (congrArg Int32.toInt (show σ108 55 26 = (σ79 55 26) from (f111 26 (by decide))))
    have z118 : (σ108 55 6).toInt = (σ 55 6).toInt := (congrArg Int32.toInt (show σ108 55 6 = (σ 55 6) from ((f111 6 (by decide)).trans ((f82 6 (by decide)).trans ((f52 6 (by decide)).trans (f33 6 (by decide)))))))
    have w119 : ∀ k : Nat, k < 4 → 0 ≤ (σ49 68 k).toInt ∧ (σ49 68 k).toInt ≤ 3 := w62
    have z121 : (σ49 55 27).toInt = (σ 55 27).toInt := (congrArg Int32.toInt (show σ49 55 27 = (σ 55 27) from ((f52 27 (by decide)).trans (f33 27 (by decide)))))
    have k120 := jwas (by omega) (w119 0 (by decide)) (w119 1 (by decide)) (w119 2 (by decide)) (w119 3 (by decide)) k91
    rw [← (show σ108 55 6 = σ49 55 6 from ((f111 6 (by decide)).trans (f82 6 (by decide))))] at k120
    refine jcallVv (As := [.int r31, .int 1, .int r80]) (rest := []) ⟨hx, hb, hml, hown, hts⟩ hK hP hA hS hZ (c_X12_goesBack_1 l D cI cL ad zz hJ σ108 τ r31 (r31.toInt) rfl r80 (r80.toInt) rfl w115 (by omega) (by omega) (by omega) k120) cw_RX12_300 (jc_55 cI cL ad σ108 τ) rfl ⟨by dsimp only; omega, by dsimp only; omega⟩ rfl rfl rfl hl.1 rfl (Nat.le_of_ble_eq_true rfl) dX12_meanFrom_65 ⟨Nat.zero_le _, Nat.zero_le _⟩ (fun σ122 τ122 H locs h122 hP hS => ?_)
    obtain ⟨rfl, f124, f125, w126, w127, w128, h122⟩ := h122
    obtain ⟨k130, k131, k132, k133, h122⟩ := h122
    have p134 : jKept σ122 := jKept.fr (f124 75 (by decide)) (f124 76 (by decide)) (f124 77 (by decide)) p112
    have p135 : jTR σ122 := jTR.fr (f124 64 (by decide)) (f124 65 (by decide)) p113
    have e136 : σ108 69 = σ79 69 := (f110 69 (by decide))
    have e137 : σ122 69 = σ49 69 := jback69 w84 e136 w127
    have e138 : σ108 68 = σ79 68 := (f110 68 (by decide))
    have e139 : σ108 55 6 = σ49 55 6 := ((f111 6 (by decide)).trans (f82 6 (by decide)))
    have w147 : ∀ k : Nat, k < 4 → 0 ≤ (σ49 68 k).toInt ∧ (σ49 68 k).toInt ≤ 3 := w62
    have w148 : ∀ k : Nat, k < 4 → 0 ≤ (σ122 68 k).toInt ∧ (σ122 68 k).toInt ≤ 3 := w126
    have k149 := k133
    rw [e139] at k149
    have D140 := jdig (w147 0 (by decide)) (w147 1 (by decide)) (w147 2 (by decide)) (w147 3 (by decide)) (w148 0 (by decide)) (w148 1 (by decide)) (w148 2 (by decide)) (w148 3 (by decide)) k91 k149
    have e141 : σ122 55 27 = σ49 55 27 := Int32.toInt_inj.mp (by have h9 := D140.1; omega)
    have z150 : (σ108 55 26).toInt = (σ79 55 26).toInt := (congrArg Int32.toInt (show σ108 55 26 = (σ79 55 26) from (f111 26 (by decide))))
    have z151 : (σ49 55 26).toInt = (σ 55 26).toInt := (congrArg Int32.toInt (show σ49 55 26 = (σ 55 26) from ((f52 26 (by decide)).trans (f33 26 (by decide)))))
    have z152 : (σ108 55 25).toInt = (σ79 55 25).toInt := (congrArg Int32.toInt (show σ108 55 25 = (σ79 55 25) from (f111 25 (by decide))))
    have z153 : (σ49 55 25).toInt = (σ 55 25).toInt := (congrArg Int32.toInt (show σ49 55 25 = (σ 55 25) from ((f52 25 (by decide)).trans (f33 25 (by decide)))))
    have e142 : σ122 55 26 = σ49 55 26 := Int32.toInt_inj.mp (by omega)
    have e143 : σ122 55 25 = σ49 55 25 := Int32.toInt_inj.mp (by omega)
    have z154 : (σ49 55 6).toInt = (σ 55 6).toInt := (congrArg Int32.toInt (show σ49 55 6 = (σ 55 6) from ((f52 6 (by decide)).trans (f33 6 (by decide)))))
    have e144 : σ122 68 = σ49 68 := jback68 (nb := (σ49 55 6).toInt) (by omega) w85 e138 (fun k hk => w128 k (by rw [e139]; exact hk)) D140.2
    have f145 : (∀ i : Nat, (i < 55 ∨ 55 < i) ∧ (i < 66 ∨ 66 < i) ∧ (i < 74 ∨ 78 < i) → σ122 i = σ49 i) := fun i hi0 => by
      by_cases h8 : i = 68
      · rw [h8]; exact e144
      by_cases h9 : i = 69
      · rw [h9]; exact e137
      have hi : ((i < 55 ∨ 55 < i) ∧ (i < 66 ∨ 66 < i) ∧ (i < 74 ∨ 78 < i)) ∧ i ≠ 68 ∧ i ≠ 69 := ⟨hi0, h8, h9⟩
      exact ((f124 i (imp_200 i hi)).trans ((f110 i (imp_201 i hi)).trans (f81 i (imp_200 i hi))))
    have f146 : ∀ i : Nat, (i < 18 ∨ 18 < i) ∧ (i < 19 ∨ 19 < i) ∧ (i < 20 ∨ 20 < i) ∧ (i < 21 ∨ 21 < i) ∧ (i < 22 ∨ 22 < i) ∧ (i < 37 ∨ 37 < i) → σ122 55 i = σ49 55 i := fun i hi0 => by
      by_cases h25 : i = 25
      · rw [h25]; exact e143
      by_cases h26 : i = 26
      · rw [h26]; exact e142
      by_cases h27 : i = 27
      · rw [h27]; exact e141
      have hi : ((i < 18 ∨ 18 < i) ∧ (i < 19 ∨ 19 < i) ∧ (i < 20 ∨ 20 < i) ∧ (i < 21 ∨ 21 < i) ∧ (i < 22 ∨ 22 < i) ∧ (i < 37 ∨ 37 < i)) ∧ i ≠ 25 ∧ i ≠ 26 ∧ i ≠ 27 := ⟨hi0, h25, h26, h27⟩
      exact ((f125 i (imp_202 i hi)).trans ((f111 i (imp_203 i hi)).trans (f82 i (imp_202 i hi))))
    clear k149 k133 k91
    refine lv_aload_n hx hb dX12_meanFrom_68 rfl (lv_at hl 6 rfl) ?_
    refine lv_iload_n hx hb dX12_meanFrom_69 rfl (lv_at hl 5 rfl) ?_
    refine lv_iconst (v := 0) hx hb dX12_meanFrom_70 (by decide) ?_
    have w155 : ∀ k : Nat, k < 4 → 0 ≤ (σ122 68 k).toInt ∧ (σ122 68 k).toInt ≤ 3 := (jrr_fr (f145 68 (by decide)) w62)
    have z156 : (σ122 55 6).toInt = (σ 55 6).toInt := (congrArg Int32.toInt (show σ122 55 6 = (σ 55 6) from ((f146 6 (by decide)).trans ((f52 6 (by decide)).trans (f33 6 (by decide))))))
    have z157 : (σ122 55 27).toInt = (σ 55 27).toInt := (congrArg Int32.toInt (show σ122 55 27 = (σ 55 27) from ((f146 27 (by decide)).trans ((f52 27 (by decide)).trans (f33 27 (by decide))))))
    have z158 : (σ122 55 25).toInt = (σ 55 25).toInt := (congrArg Int32.toInt (show σ122 55 25 = (σ 55 25) from ((f146 25 (by decide)).trans ((f52 25 (by decide)).trans m40))))
    have z159 : (σ122 55 26).toInt = (σ 55 26).toInt := (congrArg Int32.toInt (show σ122 55 26 = (σ 55 26) from ((f146 26 (by decide)).trans ((f52 26 (by decide)).trans (f33 26 (by decide))))))
    have z160 : (σ122 68 0).toInt = (σ 68 0).toInt := (congrArg Int32.toInt (show σ122 68 0 = (σ 68 0) from ((congrFun (f145 68 (by decide)) 0).trans ((congrFun (f51 68 (by decide)) 0).trans (congrFun (f32 68 (by decide)) 0)))))
    have z161 : (σ122 68 1).toInt = (σ 68 1).toInt := (congrArg Int32.toInt (show σ122 68 1 = (σ 68 1) from ((congrFun (f145 68 (by decide)) 1).trans ((congrFun (f51 68 (by decide)) 1).trans (congrFun (f32 68 (by decide)) 1)))))
    have z162 : (σ122 68 2).toInt = (σ 68 2).toInt := (congrArg Int32.toInt (show σ122 68 2 = (σ 68 2) from ((congrFun (f145 68 (by decide)) 2).trans ((congrFun (f51 68 (by decide)) 2).trans (congrFun (f32 68 (by decide)) 2)))))
    have z163 : (σ122 68 3).toInt = (σ 68 3).toInt := (congrArg Int32.toInt (show σ122 68 3 = (σ 68 3) from ((congrFun (f145 68 (by decide)) 3).trans ((congrFun (f51 68 (by decide)) 3).trans (congrFun (f32 68 (by decide)) 3)))))
    refine jcallV (As := [.int r31, .int 0]) (rest := []) ⟨hx, hb, hml, hown, hts⟩ hK hP hA hS hZ (c_X12_goes_0 l D cI cL ad zz hJ σ122 τ r31 (r31.toInt) rfl w155 (by omega) (by omega) (by omega) (by omega) (by omega)) cw_RX12_296 (jc_55 cI cL ad σ122 τ) rfl ⟨by dsimp only; omega, by dsimp only; omega⟩ rfl rfl rfl hl.1 rfl (Nat.le_of_ble_eq_true rfl) dX12_meanFrom_71 ⟨Nat.zero_le _, Nat.zero_le _⟩ (fun r165 σ164 τ164 H locs h164 hP hS => ?_)
    obtain ⟨rfl, f166, f167, w168, w169, w170, h164⟩ := h164
    obtain ⟨k172, k173, k174, h164⟩ := h164
    have h175 := h164
    obtain ⟨q181, k176, k177, k178, k179, k180⟩ := h175
    refine lv_istore (lv' := [(6, .int r165), (7, .int r109), (5, .int x70), (4, .int r50), (3, .int x43), (2, .int r31), (0, .ref (ad 55)), (1, .int a1)]) hx hb dX12_meanFrom_74 hl (by decide) rfl (fun ls hl => ?_)
    refine lv_aload_n hx hb dX12_meanFrom_76 rfl (lv_at hl 6 rfl) ?_
    refine lv_iload_n hx hb dX12_meanFrom_77 rfl (lv_at hl 7 rfl) ?_
    have I182 : jI101 σ164 := jI101_fr ((f167 4 (by decide)).trans (f146 4 (by decide))) ((f167 5 (by decide)).trans (f146 5 (by decide))) ((f166 56 (by decide)).trans (f145 56 (by decide))) ((f166 57 (by decide)).trans (f145 57 (by decide))) ((f166 58 (by decide)).trans (f145 58 (by decide))) ((f166 59 (by decide)).trans (f145 59 (by decide))) I59
    have I183 : jI102 σ164 := jI102_fr ((f167 6 (by decide)).trans (f146 6 (by decide))) ((f166 60 (by decide)).trans (f145 60 (by decide))) ((f166 61 (by decide)).trans (f145 61 (by decide))) I60
    have I184 : jI103 σ164 := jI103_fr ((f167 9 (by decide)).trans (f146 9 (by decide))) I61
    have I185 : jI104 σ164 := jI104_fr ((f167 10 (by decide)).trans ((f146 10 (by decide)).trans ((f52 10 (by decide)).trans (f33 10 (by decide))))) ((f167 12 (by decide)).trans ((f146 12 (by decide)).trans ((f52 12 (by decide)).trans (f33 12 (by decide))))) ((f167 13 (by decide)).trans ((f146 13 (by decide)).trans ((f52 13 (by decide)).trans (f33 13 (by decide))))) ((f166 62 (by decide)).trans ((f145 62 (by decide)).trans ((f51 62 (by decide)).trans (f32 62 (by decide))))) ((f166 67 (by decide)).trans ((f145 67 (by decide)).trans ((f51 67 (by decide)).trans (f32 67 (by decide))))) hI104
    have I186 : jI105 σ164 := jI105_fr ((f167 15 (by decide)).trans ((f146 15 (by decide)).trans (f52 15 (by decide)))) ((f166 65 (by decide)).trans ((f145 65 (by decide)).trans (f51 65 (by decide)))) I47
    have I187 : jI106 σ164 := jI106_fr ((f167 32 (by decide)).trans ((f146 32 (by decide)).trans ((f52 32 (by decide)).trans (f33 32 (by decide))))) ((f166 70 (by decide)).trans ((f145 70 (by decide)).trans ((f51 70 (by decide)).trans (f32 70 (by decide))))) ((f166 71 (by decide)).trans ((f145 71 (by decide)).trans ((f51 71 (by decide)).trans (f32 71 (by decide))))) ((f166 72 (by decide)).trans ((f145 72 (by decide)).trans ((f51 72 (by decide)).trans (f32 72 (by decide))))) hI106
    have z188 : (σ164 55 10).toInt = (σ 55 10).toInt := (congrArg Int32.toInt (show σ164 55 10 = (σ 55 10) from ((f167 10 (by decide)).trans ((f146 10 (by decide)).trans ((f52 10 (by decide)).trans (f33 10 (by decide)))))))
    have z189 : (σ164 55 12).toInt = (σ 55 12).toInt := (congrArg Int32.toInt (show σ164 55 12 = (σ 55 12) from ((f167 12 (by decide)).trans ((f146 12 (by decide)).trans ((f52 12 (by decide)).trans (f33 12 (by decide)))))))
    have I190 : jI120 σ164 := ⟨(by omega), (by omega), (by omega), (by omega), (by omega), w168⟩
    have p191 : jKept σ164 := jKept.fr (f166 75 (by decide)) (f166 76 (by decide)) (f166 77 (by decide)) p134
    have p192 : jTR σ164 := jTR.fr (f166 64 (by decide)) (f166 65 (by decide)) p135
    refine jcallV (As := [.int a1]) (rest := []) ⟨hx, hb, hml, hown, hts⟩ hK hP hA hS hZ (h_mf σ164 τ a1 (A1) t1 I182 I183 I184 I185 I186 I187 I190 p191 p192 (by omega) (by omega) (by omega)) cw_RX12_324 (jc_55 cI cL ad σ164 τ) rfl ⟨by dsimp only; omega, by dsimp only; omega⟩ rfl rfl rfl hl.1 rfl (Nat.le_of_ble_eq_true rfl) dX12_meanFrom_78 ⟨Nat.zero_le _, Nat.zero_le _⟩ (fun r194 σ193 τ193 H locs h193 hP hS => ?_)
    obtain ⟨rfl, f195, f196, p197, p198, h193⟩ := h193
    refine lv_istore (lv' := [(8, .int r194), (6, .int r165), (7, .int r109), (5, .int x70), (4, .int r50), (3, .int x43), (2, .int r31), (0, .ref (ad 55)), (1, .int a1)]) hx hb dX12_meanFrom_81 hl (by decide) rfl (fun ls hl => ?_)
    refine lv_aload_n hx hb dX12_meanFrom_83 rfl (lv_at hl 7 rfl) ?_
    refine lv_iload_n hx hb dX12_meanFrom_84 rfl (lv_at hl 6 rfl) ?_
    refine lv_iconst (v := 0) hx hb dX12_meanFrom_85 (by decide) ?_
    refine lv_iload hx hb dX12_meanFrom_86 (lv_at hl 1 rfl) ?_
    have w200 : ∀ k : Nat, k < 4 → 0 ≤ (σ193 68 k).toInt ∧ (σ193 68 k).toInt ≤ 3 := (jrr_fr (f195 68 (by decide)) w168)
    have z201 : (σ193 55 25).toInt = (σ164 55 25).toInt := (congrArg Int32.toInt (show σ193 55 25 = (σ164 55 25) from (f196 25 (by decide))))
    have z202 : (σ193 55 26).toInt = (σ164 55 26).toInt := (congrArg Int32.toInt (show σ193 55 26 = (σ164 55 26) from (f196 26 (by decide))))
    have z203 : (σ193 55 6).toInt = (σ 55 6).toInt := (congrArg Int32.toInt (show σ193 55 6 = (σ 55 6) from ((f196 6 (by decide)).trans ((f167 6 (by decide)).trans ((f146 6 (by decide)).trans ((f52 6 (by decide)).trans (f33 6 (by decide))))))))
    have w204 : ∀ k : Nat, k < 4 → 0 ≤ (σ122 68 k).toInt ∧ (σ122 68 k).toInt ≤ 3 := w155
    have z206 : (σ122 55 27).toInt = (σ 55 27).toInt := (congrArg Int32.toInt (show σ122 55 27 = (σ 55 27) from ((f146 27 (by decide)).trans ((f52 27 (by decide)).trans (f33 27 (by decide))))))
    have k205 := jwas (by omega) (w204 0 (by decide)) (w204 1 (by decide)) (w204 2 (by decide)) (w204 3 (by decide)) k176
    rw [← (show σ193 55 6 = σ122 55 6 from ((f196 6 (by decide)).trans (f167 6 (by decide))))] at k205
    refine jcallVv (As := [.int r31, .int 0, .int r165]) (rest := []) ⟨hx, hb, hml, hown, hts⟩ hK hP hA hS hZ (c_X12_goesBack_0 l D cI cL ad zz hJ σ193 τ r31 (r31.toInt) rfl r165 (r165.toInt) rfl w200 (by omega) (by omega) (by omega) k205) cw_RX12_300 (jc_55 cI cL ad σ193 τ) rfl ⟨by dsimp only; omega, by dsimp only; omega⟩ rfl rfl rfl hl.1 rfl (Nat.le_of_ble_eq_true rfl) dX12_meanFrom_88 ⟨Nat.zero_le _, Nat.zero_le _⟩ (fun σ207 τ207 H locs h207 hP hS => ?_)
    obtain ⟨rfl, f209, f210, w211, w212, w213, h207⟩ := h207
    obtain ⟨k215, k216, k217, k218, h207⟩ := h207
    have p219 : jKept σ207 := jKept.fr (f209 75 (by decide)) (f209 76 (by decide)) (f209 77 (by decide)) p197
    have p220 : jTR σ207 := jTR.fr (f209 64 (by decide)) (f209 65 (by decide)) p198
    have e221 : σ193 69 = σ164 69 := (f195 69 (by decide))
    have e222 : σ207 69 = σ122 69 := jback69 w169 e221 w212
    have e223 : σ193 68 = σ164 68 := (f195 68 (by decide))
    have e224 : σ193 55 6 = σ122 55 6 := ((f196 6 (by decide)).trans (f167 6 (by decide)))
    have w232 : ∀ k : Nat, k < 4 → 0 ≤ (σ122 68 k).toInt ∧ (σ122 68 k).toInt ≤ 3 := w155
    have w233 : ∀ k : Nat, k < 4 → 0 ≤ (σ207 68 k).toInt ∧ (σ207 68 k).toInt ≤ 3 := w211
    have k234 := k218
    rw [e224] at k234
    have D225 := jdig (w232 0 (by decide)) (w232 1 (by decide)) (w232 2 (by decide)) (w232 3 (by decide)) (w233 0 (by decide)) (w233 1 (by decide)) (w233 2 (by decide)) (w233 3 (by decide)) k176 k234
    have e226 : σ207 55 27 = σ122 55 27 := Int32.toInt_inj.mp (by have h9 := D225.1; omega)
    have z235 : (σ193 55 26).toInt = (σ164 55 26).toInt := (congrArg Int32.toInt (show σ193 55 26 = (σ164 55 26) from (f196 26 (by decide))))
    have z236 : (σ122 55 26).toInt = (σ 55 26).toInt := (congrArg Int32.toInt (show σ122 55 26 = (σ 55 26) from ((f146 26 (by decide)).trans ((f52 26 (by decide)).trans (f33 26 (by decide))))))
    have z237 : (σ193 55 25).toInt = (σ164 55 25).toInt := (congrArg Int32.toInt (show σ193 55 25 = (σ164 55 25) from (f196 25 (by decide))))
    have z238 : (σ122 55 25).toInt = (σ 55 25).toInt := (congrArg Int32.toInt (show σ122 55 25 = (σ 55 25) from ((f146 25 (by decide)).trans ((f52 25 (by decide)).trans (f33 25 (by decide))))))
    have e227 : σ207 55 26 = σ122 55 26 := Int32.toInt_inj.mp (by omega)
    have e228 : σ207 55 25 = σ122 55 25 := Int32.toInt_inj.mp (by omega)
    have z239 : (σ122 55 6).toInt = (σ 55 6).toInt := (congrArg Int32.toInt (show σ122 55 6 = (σ 55 6) from ((f146 6 (by decide)).trans ((f52 6 (by decide)).trans (f33 6 (by decide))))))
    have e229 : σ207 68 = σ122 68 := jback68 (nb := (σ122 55 6).toInt) (by omega) w170 e223 (fun k hk => w213 k (by rw [e224]; exact hk)) D225.2
    have f230 : (∀ i : Nat, (i < 55 ∨ 55 < i) ∧ (i < 66 ∨ 66 < i) ∧ (i < 74 ∨ 78 < i) → σ207 i = σ122 i) := fun i hi0 => by
      by_cases h8 : i = 68
      · rw [h8]; exact e229
      by_cases h9 : i = 69
      · rw [h9]; exact e222
      have hi : ((i < 55 ∨ 55 < i) ∧ (i < 66 ∨ 66 < i) ∧ (i < 74 ∨ 78 < i)) ∧ i ≠ 68 ∧ i ≠ 69 := ⟨hi0, h8, h9⟩
      exact ((f209 i (imp_200 i hi)).trans ((f195 i (imp_201 i hi)).trans (f166 i (imp_200 i hi))))
    have f231 : ∀ i : Nat, (i < 18 ∨ 18 < i) ∧ (i < 19 ∨ 19 < i) ∧ (i < 20 ∨ 20 < i) ∧ (i < 21 ∨ 21 < i) ∧ (i < 22 ∨ 22 < i) ∧ (i < 37 ∨ 37 < i) → σ207 55 i = σ122 55 i := fun i hi0 => by
      by_cases h25 : i = 25
      · rw [h25]; exact e228
      by_cases h26 : i = 26
      · rw [h26]; exact e227
      by_cases h27 : i = 27
      · rw [h27]; exact e226
      have hi : ((i < 18 ∨ 18 < i) ∧ (i < 19 ∨ 19 < i) ∧ (i < 20 ∨ 20 < i) ∧ (i < 21 ∨ 21 < i) ∧ (i < 22 ∨ 22 < i) ∧ (i < 37 ∨ 37 < i)) ∧ i ≠ 25 ∧ i ≠ 26 ∧ i ≠ 27 := ⟨hi0, h25, h26, h27⟩
      exact ((f210 i (imp_202 i hi)).trans ((f196 i (imp_203 i hi)).trans (f167 i (imp_202 i hi))))
    clear k234 k218 k176
    refine lv_iload hx hb dX12_meanFrom_91 (lv_at hl 3 rfl) ?_
    refine lv_sipush (v := 1000) hx hb dX12_meanFrom_93 (by decide) ?_
    refine lv_aload_n hx hb dX12_meanFrom_96 rfl (lv_at hl 7 rfl) ?_
    refine va_get (D := D) hx hb hts inlX12 hown hK hP 55 (jc_55 cI cL ad σ207 τ) rfl 13 (by decide) (hts _ kw_15_14) (fun _ h9 => h9) rfl dX12_meanFrom_97 ?_
    have m240 : σ207 55 13 = (σ 55 13) := ((f231 13 (by decide)).trans ((f146 13 (by decide)).trans ((f52 13 (by decide)).trans (f33 13 (by decide)))))
    refine jtopr m240 ?_
    have g241 := jrg (rfl : (σ 55 13).toInt = (σ 55 13).toInt)
    refine lv_isub hx hb dX12_meanFrom_100 ?_
    refine lv_topi (fun x242 ex242 => ?_)
    have tx242 : x242.toInt = -(σ 55 13).toInt + 1000 := (jsub ex242 jz_1000 rfl (by omega) (by omega)).trans (by omega)
    refine lv_i2l (v := x242.toInt64) hx hb dX12_meanFrom_101 rfl ?_
    refine lv_iload hx hb dX12_meanFrom_102 (lv_at hl 2 rfl) ?_
    refine lv_iload hx hb dX12_meanFrom_104 (lv_at hl 0 rfl) ?_
    refine lv_iload hx hb dX12_meanFrom_106 (lv_at hl 4 rfl) ?_
    refine jcallS (As := [.int r109, .int r194, .int r50]) (rest := [.long x242.toInt64, .int x70]) ⟨hx, hb, hml, hown, hts⟩ hK hP hA hS hZ (c_X12_mixed l D cI cL ad zz hJ σ207 τ r109 (r109.toInt) rfl r194 (r194.toInt) rfl r50 (r50.toInt) rfl) cw_RX12_304 ⟨by dsimp only; omega, by dsimp only; omega⟩ rfl rfl rfl hl.1 rfl (Nat.le_of_ble_eq_true rfl) dX12_meanFrom_108 ⟨Nat.zero_le _, Nat.zero_le _⟩ (fun r244 σ243 τ243 H locs h243 hP hS => ?_)
    obtain ⟨⟨rfl, rfl⟩, h243⟩ := h243
    refine lv_i2l (v := r244.toInt64) hx hb dX12_meanFrom_111 rfl ?_
    refine lv_lmul hx hb dX12_meanFrom_112 ?_
    refine lv_topl (fun lx245 elx245 => ?_)
    refine lv_ldc2 (v := 1000) hx hb hown (hts _ kw_34_19) dX12_meanFrom_113 ?_
    refine lv_ldiv hx hb dX12_meanFrom_116 (by decide) ?_
    refine lv_topl (fun lx246 elx246 => ?_)
    refine lv_l2i hx hb dX12_meanFrom_117 rfl ?_
    refine lv_topi (fun x247 ex247 => ?_)
    have gx247 := jrg (rfl : x247.toInt = x247.toInt)
    have g248 := jrg (rfl : x247.toInt = x247.toInt)
    refine lv_iadd hx hb dX12_meanFrom_118 ?_
    refine lv_topi (fun x249 ex249 => ?_)
    have gx249 := jrg (rfl : x249.toInt = x249.toInt)
    exact hret x249 σ207 τ _ _ _ _ rfl ⟨rfl, (fun i hi => ((f230 i hi).trans ((f145 i hi).trans ((f51 i (imp_204 i hi)).trans (f32 i hi))))), (fun i hi => ((f231 i hi).trans ((f146 i hi).trans ((f52 i (imp_205 i hi)).trans (f33 i hi))))), p219, p220, trivial⟩ hP hS dX12_meanFrom_119
set_option maxHeartbeats 4000000 in
set_option maxRecDepth 100000 in
theorem c_X12_means_mf_z (l : Launch) (D : va_G) (cI cL : ClassId) (ad zz : Nat → Nat) (hJ : jD ad) (σ : Nat → Nat → Int32) (τ : Nat → Nat → Int64) (a1 : Int32) (A1 : Int) (t1 : a1.toInt = A1) (hI101 : jI101 σ) (hI102 : jI102 σ) (hI103 : jI103 σ) (hI104 : jI104 σ) (hI105 : jI105 σ) (hI106 : jI106 σ) (hI120 : jI120 σ) (hs_jKept : jKept σ) (hs_jTR : jTR σ) (hp0 : 0 ≤ A1 ∧ A1 ≤ 19) (hp1 : (σ 55 12).toInt - (σ 55 26).toInt ≤ 8) (hp2 : (σ 55 12).toInt - (σ 55 26).toInt ≤ (((0) : Nat) : Int)) : jM l yX12_meanFrom cX12_meanFrom 9 (some .int) ({ frames := (106 + 4 * (0)), cells := 0, slots := 0, locals := (5261 + 240 * (0)) }) D cI cL ad zz [.ref (ad 55), .int a1] σ τ (fun r σ' τ' => τ = τ' ∧ (∀ i : Nat, (i < 55 ∨ 55 < i) ∧ (i < 66 ∨ 66 < i) ∧ (i < 74 ∨ 78 < i) → σ' i = σ i) ∧ (∀ k : Nat, (k < 18 ∨ 18 < k) ∧ (k < 19 ∨ 19 < k) ∧ (k < 20 ∨ 20 < k) ∧ (k < 21 ∨ 21 < k) ∧ (k < 22 ∨ 22 < k) ∧ (k < 37 ∨ 37 < k) → σ' 55 k = σ 55 k) ∧ (jKept σ') ∧ (jTR σ') ∧ True) := by
  refine jM.of hJ (by decide +kernel) (nt := .int) rfl (Nat.le_of_ble_eq_true rfl) ?_
  intro p e s m args below meth c Q ls hC hret hl hP
  obtain ⟨hx, hb, hr, hml, hown, hts, hK, -, hlocks, hZ⟩ := hC
  have hown : s.vm.findClass RX12 = some m.cls := hown
  have hS : va_S (jA ad) s.heap s.heap [] := va_S.rf
  have hA : ∀ q, jA ad q → jA ad q := fun _ h => h
  have hl : lv_has ls 9 [(0, .ref (ad 55)), (1, .int a1)] := hl
  have g1 := jrg t1
  obtain ⟨i1, w2, w3⟩ : (0 ≤ (σ 55 6).toInt ∧ (σ 55 6).toInt ≤ 4) ∧ (∀ k : Nat, k < 4 → 0 ≤ (σ 60 k).toInt ∧ (σ 60 k).toInt ≤ 50) ∧ (∀ k : Nat, k < 4 → 0 ≤ (σ 61 k).toInt ∧ (σ 61 k).toInt ≤ 20) := id hI102
  obtain ⟨i4, i5, i6, w7, w8⟩ : (1 ≤ (σ 55 10).toInt ∧ (σ 55 10).toInt ≤ 8) ∧ (1 ≤ (σ 55 12).toInt ∧ (σ 55 12).toInt ≤ 12) ∧ (0 ≤ (σ 55 13).toInt ∧ (σ 55 13).toInt ≤ 999) ∧ (∀ k : Nat, k < 8 → 0 ≤ (σ 62 k).toInt ∧ (σ 62 k).toInt ≤ 3) ∧ (∀ k : Nat, k < 8 → 0 ≤ (σ 67 k).toInt ∧ (σ 67 k).toInt ≤ 3) := id hI104
  obtain ⟨i9, i10, i11, i12, i13, w14⟩ : (0 ≤ (σ 55 25).toInt) ∧ ((σ 55 25).toInt ≤ (σ 55 10).toInt) ∧ (0 ≤ (σ 55 26).toInt) ∧ ((σ 55 26).toInt ≤ (σ 55 12).toInt) ∧ ((-1) ≤ (σ 55 27).toInt ∧ (σ 55 27).toInt ≤ 3) ∧ (∀ k : Nat, k < 4 → 0 ≤ (σ 68 k).toInt ∧ (σ 68 k).toInt ≤ 3) := id hI120
  refine lv_aload_n hx hb dX12_meanFrom_0 rfl (lv_at hl 0 rfl) ?_
  refine jcallV (As := []) (rest := []) ⟨hx, hb, hml, hown, hts⟩ hK hP hA hS hZ (c_X12_isEnded l D cI cL ad zz hJ σ τ hI102 hI104 hI120) cw_RX12_307 (jc_55 cI cL ad σ τ) rfl ⟨by dsimp only; omega, by dsimp only; omega⟩ rfl rfl rfl hl.1 rfl (Nat.le_of_ble_eq_true rfl) dX12_meanFrom_1 ⟨Nat.zero_le _, Nat.zero_le _⟩ (fun r16 σ15 τ15 H locs h15 hP hS => ?_)
  obtain ⟨⟨rfl, rfl⟩, h15⟩ := h15
  rcases h15 with h17 | h18
  · obtain ⟨q20, k19⟩ := h17
    have q20 := q20.symm
    subst q20
    refine lv_if_eq (tgt := 9) hx hb dX12_meanFrom_4 (by decide) (fun c => absurd c (by decide)) (fun _ => ?_)
    refine lv_iconst (v := 0) hx hb dX12_meanFrom_7 (by decide) ?_
    exact hret 0 σ τ _ _ _ _ rfl ⟨rfl, (fun _ _ => rfl), (fun _ _ => rfl), hs_jKept, hs_jTR, trivial⟩ hP hS dX12_meanFrom_8
  · obtain ⟨q24, k21, k22, k23⟩ := h18
    exact absurd (by omega : False) id
set_option maxHeartbeats 4000000 in
set_option maxRecDepth 100000 in
theorem c_X12_means (l : Launch) (D : va_G) (cI cL : ClassId) (ad zz : Nat → Nat) (hJ : jD ad) (n : Nat) : (∀ (σ : Nat → Nat → Int32) (τ : Nat → Nat → Int64) (a1 : Int32) (A1 : Int) (t1 : a1.toInt = A1) (hI101 : jI101 σ) (hI102 : jI102 σ) (hI103 : jI103 σ) (hI104 : jI104 σ) (hI105 : jI105 σ) (hI106 : jI106 σ) (hI120 : jI120 σ) (hs_jKept : jKept σ) (hs_jTR : jTR σ) (hp0 : 0 ≤ A1 ∧ A1 ≤ 19) (hp1 : (σ 55 12).toInt - (σ 55 26).toInt ≤ 8) (hp2 : (σ 55 12).toInt - (σ 55 26).toInt ≤ (((n) : Nat) : Int)), jM l yX12_meanFrom cX12_meanFrom 9 (some .int) ({ frames := (106 + 4 * (n)), cells := 0, slots := 0, locals := (5261 + 240 * (n)) }) D cI cL ad zz [.ref (ad 55), .int a1] σ τ (fun r σ' τ' => τ = τ' ∧ (∀ i : Nat, (i < 55 ∨ 55 < i) ∧ (i < 66 ∨ 66 < i) ∧ (i < 74 ∨ 78 < i) → σ' i = σ i) ∧ (∀ k : Nat, (k < 18 ∨ 18 < k) ∧ (k < 19 ∨ 19 < k) ∧ (k < 20 ∨ 20 < k) ∧ (k < 21 ∨ 21 < k) ∧ (k < 22 ∨ 22 < k) ∧ (k < 37 ∨ 37 < k) → σ' 55 k = σ 55 k) ∧ (jKept σ') ∧ (jTR σ') ∧ True)) := by
  induction n with
  | zero =>
    have h_mf := c_X12_means_mf_z l D cI cL ad zz hJ
    exact h_mf
  | succ n ih =>
    have g_mf := ih
    have h_mf := c_X12_means_mf_g l D cI cL ad zz hJ n g_mf
    exact h_mf
set_option maxHeartbeats 4000000 in
set_option maxRecDepth 100000 in
theorem c_X12_likelies_lf_g (l : Launch) (D : va_G) (cI cL : ClassId) (ad zz : Nat → Nat) (hJ : jD ad) (n : Nat) (h_lf : ∀ (σ : Nat → Nat → Int32) (τ : Nat → Nat → Int64) (a1 : Int32) (A1 : Int) (t1 : a1.toInt = A1) (a2 : Int32) (A2 : Int) (t2 : a2.toInt = A2) (hI101 : jI101 σ) (hI102 : jI102 σ) (hI103 : jI103 σ) (hI104 : jI104 σ) (hI105 : jI105 σ) (hI106 : jI106 σ) (hI120 : jI120 σ) (hs_jKept : jKept σ) (hs_jTR : jTR σ) (hp0 : 0 ≤ A1 ∧ A1 ≤ 19) (hp1 : (σ 55 12).toInt - (σ 55 26).toInt ≤ 8) (hp2 : (σ 55 12).toInt - (σ 55 26).toInt ≤ (((n) : Nat) : Int)), jM l yX12_likelyFrom cX12_likelyFrom 10 (some .int) ({ frames := (106 + 4 * (n)), cells := 0, slots := 0, locals := (5261 + 240 * (n)) }) D cI cL ad zz [.ref (ad 55), .int a1, .int a2] σ τ (fun r σ' τ' => τ = τ' ∧ (∀ i : Nat, (i < 55 ∨ 55 < i) ∧ (i < 66 ∨ 66 < i) ∧ (i < 74 ∨ 78 < i) → σ' i = σ i) ∧ (∀ k : Nat, (k < 18 ∨ 18 < k) ∧ (k < 19 ∨ 19 < k) ∧ (k < 20 ∨ 20 < k) ∧ (k < 21 ∨ 21 < k) ∧ (k < 22 ∨ 22 < k) ∧ (k < 37 ∨ 37 < k) → σ' 55 k = σ 55 k) ∧ (jKept σ') ∧ (jTR σ') ∧ True)) (σ : Nat → Nat → Int32) (τ : Nat → Nat → Int64) (a1 : Int32) (A1 : Int) (t1 : a1.toInt = A1) (a2 : Int32) (A2 : Int) (t2 : a2.toInt = A2) (hI101 : jI101 σ) (hI102 : jI102 σ) (hI103 : jI103 σ) (hI104 : jI104 σ) (hI105 : jI105 σ) (hI106 : jI106 σ) (hI120 : jI120 σ) (hs_jKept : jKept σ) (hs_jTR : jTR σ) (hp0 : 0 ≤ A1 ∧ A1 ≤ 19) (hp1 : (σ 55 12).toInt - (σ 55 26).toInt ≤ 8) (hp2 : (σ 55 12).toInt - (σ 55 26).toInt ≤ (((n + 1) : Nat) : Int)) : jM l yX12_likelyFrom cX12_likelyFrom 10 (some .int) ({ frames := (106 + 4 * (n + 1)), cells := 0, slots := 0, locals := (5261 + 240 * (n + 1)) }) D cI cL ad zz [.ref (ad 55), .int a1, .int a2] σ τ (fun r σ' τ' => τ = τ' ∧ (∀ i : Nat, (i < 55 ∨ 55 < i) ∧ (i < 66 ∨ 66 < i) ∧ (i < 74 ∨ 78 < i) → σ' i = σ i) ∧ (∀ k : Nat, (k < 18 ∨ 18 < k) ∧ (k < 19 ∨ 19 < k) ∧ (k < 20 ∨ 20 < k) ∧ (k < 21 ∨ 21 < k) ∧ (k < 22 ∨ 22 < k) ∧ (k < 37 ∨ 37 < k) → σ' 55 k = σ 55 k) ∧ (jKept σ') ∧ (jTR σ') ∧ True) := by
  refine jM.of hJ (by decide +kernel) (nt := .int) rfl (Nat.le_of_ble_eq_true rfl) ?_
  intro p e s m args below meth c Q ls hC hret hl hP
  obtain ⟨hx, hb, hr, hml, hown, hts, hK, -, hlocks, hZ⟩ := hC
  have hown : s.vm.findClass RX12 = some m.cls := hown
  have hS : va_S (jA ad) s.heap s.heap [] := va_S.rf
  have hA : ∀ q, jA ad q → jA ad q := fun _ h => h
  have hl : lv_has ls 10 [(0, .ref (ad 55)), (1, .int a1), (2, .int a2)] := hl
  have g1 := jrg t1
  have g2 := jrg t2
  obtain ⟨i1, w2, w3⟩ : (0 ≤ (σ 55 6).toInt ∧ (σ 55 6).toInt ≤ 4) ∧ (∀ k : Nat, k < 4 → 0 ≤ (σ 60 k).toInt ∧ (σ 60 k).toInt ≤ 50) ∧ (∀ k : Nat, k < 4 → 0 ≤ (σ 61 k).toInt ∧ (σ 61 k).toInt ≤ 20) := id hI102
  obtain ⟨i4, i5, i6, w7, w8⟩ : (1 ≤ (σ 55 10).toInt ∧ (σ 55 10).toInt ≤ 8) ∧ (1 ≤ (σ 55 12).toInt ∧ (σ 55 12).toInt ≤ 12) ∧ (0 ≤ (σ 55 13).toInt ∧ (σ 55 13).toInt ≤ 999) ∧ (∀ k : Nat, k < 8 → 0 ≤ (σ 62 k).toInt ∧ (σ 62 k).toInt ≤ 3) ∧ (∀ k : Nat, k < 8 → 0 ≤ (σ 67 k).toInt ∧ (σ 67 k).toInt ≤ 3) := id hI104
  obtain ⟨i9, i10, i11, i12, i13, w14⟩ : (0 ≤ (σ 55 25).toInt) ∧ ((σ 55 25).toInt ≤ (σ 55 10).toInt) ∧ (0 ≤ (σ 55 26).toInt) ∧ ((σ 55 26).toInt ≤ (σ 55 12).toInt) ∧ ((-1) ≤ (σ 55 27).toInt ∧ (σ 55 27).toInt ≤ 3) ∧ (∀ k : Nat, k < 4 → 0 ≤ (σ 68 k).toInt ∧ (σ 68 k).toInt ≤ 3) := id hI120
  refine lv_aload_n hx hb dX12_likelyFrom_0 rfl (lv_at hl 0 rfl) ?_
  refine jcallV (As := []) (rest := []) ⟨hx, hb, hml, hown, hts⟩ hK hP hA hS hZ (c_X12_isEnded l D cI cL ad zz hJ σ τ hI102 hI104 hI120) cw_RX12_307 (jc_55 cI cL ad σ τ) rfl ⟨by dsimp only; omega, by dsimp only; omega⟩ rfl rfl rfl hl.1 rfl (Nat.le_of_ble_eq_true rfl) dX12_likelyFrom_1 ⟨Nat.zero_le _, Nat.zero_le _⟩ (fun r16 σ15 τ15 H locs h15 hP hS => ?_)
  obtain ⟨⟨rfl, rfl⟩, h15⟩ := h15
  rcases h15 with h17 | h18
  · obtain ⟨q20, k19⟩ := h17
    have q20 := q20.symm
    subst q20
    refine lv_if_eq (tgt := 19) hx hb dX12_likelyFrom_4 (by decide) (fun c => absurd c (by decide)) (fun _ => ?_)
    refine lv_iload_n hx hb dX12_likelyFrom_7 rfl (lv_at hl 2 rfl) ?_
    refine lv_if_le (tgt := 17) hx hb dX12_likelyFrom_8 (by decide) (fun c21 => ?_) (fun c21 => ?_)
    · have kc21 := jle c21 t2 jz_0
      refine lv_iconst (v := 0) hx hb dX12_likelyFrom_17 (by decide) ?_
      exact hret 0 σ τ _ _ _ _ rfl ⟨rfl, (fun _ _ => rfl), (fun _ _ => rfl), hs_jKept, hs_jTR, trivial⟩ hP hS dX12_likelyFrom_18
    · have kc21 := jnle c21 t2 jz_0
      refine lv_ldcw (v := 1000000) hx hb hown (hts _ kw_37_13) dX12_likelyFrom_11 ?_
      refine lv_goto (tgt := 18) hx hb dX12_likelyFrom_14 (by decide) ?_
      exact hret 1000000 σ τ _ _ _ _ rfl ⟨rfl, (fun _ _ => rfl), (fun _ _ => rfl), hs_jKept, hs_jTR, trivial⟩ hP hS dX12_likelyFrom_18
  · obtain ⟨q25, k22, k23, k24⟩ := h18
    have q25 := q25.symm
    subst q25
    obtain ⟨B26, k27, k28, w29⟩ := k24
    refine lv_if_eq (tgt := 19) hx hb dX12_likelyFrom_4 (by decide) (fun _ => ?_) (fun c => absurd (by decide) c)
    refine lv_aload_n hx hb dX12_likelyFrom_19 rfl (lv_at hl 0 rfl) ?_
    refine lv_iload_n hx hb dX12_likelyFrom_20 rfl (lv_at hl 1 rfl) ?_
    have p30 : jmb σ B26 = 1 := (jmb_fr rfl rfl rfl rfl rfl B26).trans w29
    refine jcallV (As := [.int a1]) (rest := []) ⟨hx, hb, hml, hown, hts⟩ hK hP hA hS hZ (c_X12_putsOn l D cI cL ad zz hJ σ τ B26 p30 a1 (A1) t1 hI101 hI102 hI103 hI104 hI105 hI106 hI120 hs_jKept hs_jTR (by omega) (by omega) (by omega) (by omega) (by omega)) cw_RX12_321 (jc_55 cI cL ad σ τ) rfl ⟨by dsimp only; omega, by dsimp only; omega⟩ rfl rfl rfl hl.1 rfl (Nat.le_of_ble_eq_true rfl) dX12_likelyFrom_21 ⟨Nat.zero_le _, Nat.zero_le _⟩ (fun r32 σ31 τ31 H locs h31 hP hS => ?_)
    obtain ⟨rfl, f33, f34, p35, p36, h31⟩ := h31
    have h38 := h31
    obtain ⟨q40, k39⟩ := h38
    refine lv_istore_n (lv' := [(3, .int r32), (0, .ref (ad 55)), (1, .int a1), (2, .int a2)]) hx hb dX12_likelyFrom_24 rfl hl (by decide) rfl (fun ls hl => ?_)
    refine lv_aload_n hx hb dX12_likelyFrom_25 rfl (lv_at hl 1 rfl) ?_
    refine va_get (D := D) hx hb hts inlX12 hown hK hP 55 (jc_55 cI cL ad σ31 τ) rfl 11 (by decide) (hts _ kw_7_8) (fun _ h9 => h9) rfl dX12_likelyFrom_26 ?_
    refine lv_aload_n hx hb dX12_likelyFrom_29 rfl (lv_at hl 1 rfl) ?_
    refine va_get (D := D) hx hb hts inlX12 hown hK hP 55 (jc_55 cI cL ad σ31 τ) rfl 25 (by decide) (hts _ kw_23_6) (fun _ h9 => h9) rfl dX12_likelyFrom_30 ?_
    have m41 : σ31 55 25 = (σ 55 25) := (f34 25 (by decide))
    refine jtopr m41 ?_
    refine jald hx hb hK hP (jc_62 cI cL ad σ31 τ) (jin rfl (by omega) (by omega)) dX12_likelyFrom_33 ?_
    have w42 : ∀ k : Nat, k < 8 → 0 ≤ (σ31 62 k).toInt ∧ (σ31 62 k).toInt ≤ 3 := (jrr_fr (f33 62 (by decide)) w7)
    have g43 := w42 _ (jnat (x := (σ 55 25)) rfl (n := 8) (by omega) (by decide))
    refine lv_topi (fun x44 ex44 => ?_)
    rw [← ex44] at g43
    refine lv_istore (lv' := [(4, .int x44), (3, .int r32), (0, .ref (ad 55)), (1, .int a1), (2, .int a2)]) hx hb dX12_likelyFrom_34 hl (by decide) rfl (fun ls hl => ?_)
    refine lv_aload_n hx hb dX12_likelyFrom_36 rfl (lv_at hl 2 rfl) ?_
    refine lv_iload_n hx hb dX12_likelyFrom_37 rfl (lv_at hl 1 rfl) ?_
    refine lv_iload hx hb dX12_likelyFrom_38 (lv_at hl 0 rfl) ?_
    have I45 : jI101 σ31 := jI101_fr (f34 4 (by decide)) (f34 5 (by decide)) (f33 56 (by decide)) (f33 57 (by decide)) (f33 58 (by decide)) (f33 59 (by decide)) hI101
    have I46 : jI102 σ31 := jI102_fr (f34 6 (by decide)) (f33 60 (by decide)) (f33 61 (by decide)) hI102
    have I47 : jI103 σ31 := jI103_fr (f34 9 (by decide)) hI103
    have I48 : jI105 σ31 := jI105_fr (f34 15 (by decide)) (f33 65 (by decide)) hI105
    have w49 : ∀ k : Nat, k < 4 → 0 ≤ (σ31 68 k).toInt ∧ (σ31 68 k).toInt ≤ 3 := (jrr_fr (f33 68 (by decide)) w14)
    refine jcallV (As := [.int r32, .int x44]) (rest := []) ⟨hx, hb, hml, hown, hts⟩ hK hP hA hS hZ (c_X12_outBy l D cI cL ad zz hJ σ31 τ r32 (r32.toInt) rfl x44 (x44.toInt) rfl I45 I46 I47 I48 w49 p36 (by omega) (by omega)) cw_RX12_259 (jc_55 cI cL ad σ31 τ) rfl ⟨by dsimp only; omega, by dsimp only; omega⟩ rfl rfl rfl hl.1 rfl (Nat.le_of_ble_eq_true rfl) dX12_likelyFrom_40 ⟨Nat.zero_le _, Nat.zero_le _⟩ (fun r51 σ50 τ50 H locs h50 hP hS => ?_)
    obtain ⟨rfl, f52, f53, p54, w55, h50⟩ := h50
    have h57 := h50
    obtain ⟨q59, k58⟩ := h57
    refine lv_istore (lv' := [(5, .int r51), (4, .int x44), (3, .int r32), (0, .ref (ad 55)), (1, .int a1), (2, .int a2)]) hx hb dX12_likelyFrom_43 hl (by decide) rfl (fun ls hl => ?_)
    refine lv_iload_n hx hb dX12_likelyFrom_45 rfl (lv_at hl 5 rfl) ?_
    refine lv_aload_n hx hb dX12_likelyFrom_46 rfl (lv_at hl 3 rfl) ?_
    refine lv_iload_n hx hb dX12_likelyFrom_47 rfl (lv_at hl 2 rfl) ?_
    refine lv_iload hx hb dX12_likelyFrom_48 (lv_at hl 1 rfl) ?_
    have I60 : jI101 σ50 := jI101_fr (f53 4 (by decide)) (f53 5 (by decide)) (f52 56 (by decide)) (f52 57 (by decide)) (f52 58 (by decide)) (f52 59 (by decide)) I45
    have I61 : jI102 σ50 := jI102_fr (f53 6 (by decide)) (f52 60 (by decide)) (f52 61 (by decide)) I46
    have I62 : jI103 σ50 := jI103_fr (f53 9 (by decide)) I47
    have w63 : ∀ k : Nat, k < 4 → 0 ≤ (σ50 68 k).toInt ∧ (σ50 68 k).toInt ≤ 3 := (jrr_fr (f52 68 (by decide)) w49)
    refine jcallV (As := [.int r32, .int x44]) (rest := [.int a2]) ⟨hx, hb, hml, hown, hts⟩ hK hP hA hS hZ (c_X12_runsBy l D cI cL ad zz hJ σ50 τ r32 (r32.toInt) rfl x44 (x44.toInt) rfl I60 I61 I62 w63 (by omega) (by omega)) cw_RX12_262 (jc_55 cI cL ad σ50 τ) rfl ⟨by dsimp only; omega, by dsimp only; omega⟩ rfl rfl rfl hl.1 rfl (Nat.le_of_ble_eq_true rfl) dX12_likelyFrom_50 ⟨Nat.zero_le _, Nat.zero_le _⟩ (fun r65 σ64 τ64 H locs h64 hP hS => ?_)
    obtain ⟨⟨rfl, rfl⟩, w66, h64⟩ := h64
    have h67 := h64
    obtain ⟨q69, k68⟩ := h67
    have g70 := jrg (rfl : r65.toInt = r65.toInt)
    refine lv_isub hx hb dX12_likelyFrom_53 ?_
    refine lv_topi (fun x71 ex71 => ?_)
    have gx71 := jrg (rfl : x71.toInt = x71.toInt)
    refine lv_istore (lv' := [(6, .int x71), (5, .int r51), (4, .int x44), (3, .int r32), (0, .ref (ad 55)), (1, .int a1), (2, .int a2)]) hx hb dX12_likelyFrom_54 hl (by decide) rfl (fun ls hl => ?_)
    refine lv_aload_n hx hb dX12_likelyFrom_56 rfl (lv_at hl 4 rfl) ?_
    refine lv_iload_n hx hb dX12_likelyFrom_57 rfl (lv_at hl 3 rfl) ?_
    refine lv_iconst (v := 1) hx hb dX12_likelyFrom_58 (by decide) ?_
    have z72 : (σ50 55 6).toInt = (σ 55 6).toInt := (congrArg Int32.toInt (show σ50 55 6 = (σ 55 6) from ((f53 6 (by decide)).trans (f34 6 (by decide)))))
    have z73 : (σ50 55 27).toInt = (σ 55 27).toInt := (congrArg Int32.toInt (show σ50 55 27 = (σ 55 27) from ((f53 27 (by decide)).trans (f34 27 (by decide)))))
    have z74 : (σ50 55 25).toInt = (σ 55 25).toInt := (congrArg Int32.toInt (show σ50 55 25 = (σ 55 25) from ((f53 25 (by decide)).trans m41)))
    have z75 : (σ50 55 26).toInt = (σ 55 26).toInt := (congrArg Int32.toInt (show σ50 55 26 = (σ 55 26) from ((f53 26 (by decide)).trans (f34 26 (by decide)))))
    have z76 : (σ50 68 0).toInt = (σ 68 0).toInt := (congrArg Int32.toInt (show σ50 68 0 = (σ 68 0) from ((congrFun (f52 68 (by decide)) 0).trans (congrFun (f33 68 (by decide)) 0))))
    have z77 : (σ50 68 1).toInt = (σ 68 1).toInt := (congrArg Int32.toInt (show σ50 68 1 = (σ 68 1) from ((congrFun (f52 68 (by decide)) 1).trans (congrFun (f33 68 (by decide)) 1))))
    have z78 : (σ50 68 2).toInt = (σ 68 2).toInt := (congrArg Int32.toInt (show σ50 68 2 = (σ 68 2) from ((congrFun (f52 68 (by decide)) 2).trans (congrFun (f33 68 (by decide)) 2))))
    have z79 : (σ50 68 3).toInt = (σ 68 3).toInt := (congrArg Int32.toInt (show σ50 68 3 = (σ 68 3) from ((congrFun (f52 68 (by decide)) 3).trans (congrFun (f33 68 (by decide)) 3))))
    refine jcallV (As := [.int r32, .int 1]) (rest := []) ⟨hx, hb, hml, hown, hts⟩ hK hP hA hS hZ (c_X12_goes_1 l D cI cL ad zz hJ σ50 τ r32 (r32.toInt) rfl w63 (by omega) (by omega) (by omega) (by omega) (by omega)) cw_RX12_296 (jc_55 cI cL ad σ50 τ) rfl ⟨by dsimp only; omega, by dsimp only; omega⟩ rfl rfl rfl hl.1 rfl (Nat.le_of_ble_eq_true rfl) dX12_likelyFrom_59 ⟨Nat.zero_le _, Nat.zero_le _⟩ (fun r81 σ80 τ80 H locs h80 hP hS => ?_)
    obtain ⟨rfl, f82, f83, w84, w85, w86, h80⟩ := h80
    obtain ⟨k88, k89, k90, h80⟩ := h80
    have h91 := h80
    obtain ⟨q97, k92, k93, k94, k95, k96⟩ := h91
    refine lv_istore (lv' := [(7, .int r81), (6, .int x71), (5, .int r51), (4, .int x44), (3, .int r32), (0, .ref (ad 55)), (1, .int a1), (2, .int a2)]) hx hb dX12_likelyFrom_62 hl (by decide) rfl (fun ls hl => ?_)
    refine lv_aload_n hx hb dX12_likelyFrom_64 rfl (lv_at hl 5 rfl) ?_
    refine lv_iload_n hx hb dX12_likelyFrom_65 rfl (lv_at hl 6 rfl) ?_
    refine lv_iload hx hb dX12_likelyFrom_66 (lv_at hl 1 rfl) ?_
    have I98 : jI101 σ80 := jI101_fr (f83 4 (by decide)) (f83 5 (by decide)) (f82 56 (by decide)) (f82 57 (by decide)) (f82 58 (by decide)) (f82 59 (by decide)) I60
    have I99 : jI102 σ80 := jI102_fr (f83 6 (by decide)) (f82 60 (by decide)) (f82 61 (by decide)) I61
    have I100 : jI103 σ80 := jI103_fr (f83 9 (by decide)) I62
    have I101 : jI104 σ80 := jI104_fr ((f83 10 (by decide)).trans ((f53 10 (by decide)).trans (f34 10 (by decide)))) ((f83 12 (by decide)).trans ((f53 12 (by decide)).trans (f34 12 (by decide)))) ((f83 13 (by decide)).trans ((f53 13 (by decide)).trans (f34 13 (by decide)))) ((f82 62 (by decide)).trans ((f52 62 (by decide)).trans (f33 62 (by decide)))) ((f82 67 (by decide)).trans ((f52 67 (by decide)).trans (f33 67 (by decide)))) hI104
    have I102 : jI105 σ80 := jI105_fr ((f83 15 (by decide)).trans (f53 15 (by decide))) ((f82 65 (by decide)).trans (f52 65 (by decide))) I48
    have I103 : jI106 σ80 := jI106_fr ((f83 32 (by decide)).trans ((f53 32 (by decide)).trans (f34 32 (by decide)))) ((f82 70 (by decide)).trans ((f52 70 (by decide)).trans (f33 70 (by decide)))) ((f82 71 (by decide)).trans ((f52 71 (by decide)).trans (f33 71 (by decide)))) ((f82 72 (by decide)).trans ((f52 72 (by decide)).trans (f33 72 (by decide)))) hI106
    have z104 : (σ80 55 10).toInt = (σ 55 10).toInt := (congrArg Int32.toInt (show σ80 55 10 = (σ 55 10) from ((f83 10 (by decide)).trans ((f53 10 (by decide)).trans (f34 10 (by decide))))))
    have z105 : (σ80 55 12).toInt = (σ 55 12).toInt := (congrArg Int32.toInt (show σ80 55 12 = (σ 55 12) from ((f83 12 (by decide)).trans ((f53 12 (by decide)).trans (f34 12 (by decide))))))
    have I106 : jI120 σ80 := ⟨(by omega), (by omega), (by omega), (by omega), (by omega), w84⟩
    have p107 : jKept σ80 := jKept.fr ((f82 75 (by decide)).trans (f52 75 (by decide))) ((f82 76 (by decide)).trans (f52 76 (by decide))) ((f82 77 (by decide)).trans (f52 77 (by decide))) p35
    have p108 : jTR σ80 := jTR.fr (f82 64 (by decide)) (f82 65 (by decide)) p54
    refine jcallV (As := [.int a1, .int x71]) (rest := []) ⟨hx, hb, hml, hown, hts⟩ hK hP hA hS hZ (h_lf σ80 τ a1 (A1) t1 x71 (x71.toInt) rfl I98 I99 I100 I101 I102 I103 I106 p107 p108 (by omega) (by omega) (by omega)) cw_RX12_328 (jc_55 cI cL ad σ80 τ) rfl ⟨by dsimp only; omega, by dsimp only; omega⟩ rfl rfl rfl hl.1 rfl (Nat.le_of_ble_eq_true rfl) dX12_likelyFrom_68 ⟨Nat.zero_le _, Nat.zero_le _⟩ (fun r110 σ109 τ109 H locs h109 hP hS => ?_)
    obtain ⟨rfl, f111, f112, p113, p114, h109⟩ := h109
    refine lv_istore (lv' := [(8, .int r110), (7, .int r81), (6, .int x71), (5, .int r51), (4, .int x44), (3, .int r32), (0, .ref (ad 55)), (1, .int a1), (2, .int a2)]) hx hb dX12_likelyFrom_71 hl (by decide) rfl (fun ls hl => ?_)
    refine lv_aload_n hx hb dX12_likelyFrom_73 rfl (lv_at hl 6 rfl) ?_
    refine lv_iload_n hx hb dX12_likelyFrom_74 rfl (lv_at hl 5 rfl) ?_
    refine lv_iconst (v := 1) hx hb dX12_likelyFrom_75 (by decide) ?_
    refine lv_iload hx hb dX12_likelyFrom_76 (lv_at hl 1 rfl) ?_
    have w116 : ∀ k : Nat, k < 4 → 0 ≤ (σ109 68 k).toInt ∧ (σ109 68 k).toInt ≤ 3 := (jrr_fr (f111 68 (by decide)) w84)
    have z117 : (σ109 55 25).toInt = (σ80 55 25).toInt := (congrArg Int32.toInt (show σ109 55 25 = (σ80 55 25) from (f112 25 (by decide))))
    have z118 : (σ109 55 26).toInt = (σ80 55 26).toInt := (congrArg Int32.toInt (show σ109 55 26 = (σ80 55 26) from (f112 26 (by decide))))
    have z119 : (σ109 55 6).toInt = (σ 55 6).toInt := (congrArg Int32.toInt (show σ109 55 6 = (σ 55 6) from ((f112 6 (by decide)).trans ((f83 6 (by decide)).trans ((f53 6 (by decide)).trans (f34 6 (by decide)))))))
    have w120 : ∀ k : Nat, k < 4 → 0 ≤ (σ50 68 k).toInt ∧ (σ50 68 k).toInt ≤ 3 := w63
    have z122 : (σ50 55 27).toInt = (σ 55 27).toInt := (congrArg Int32.toInt (show σ50 55 27 = (σ 55 27) from ((f53 27 (by decide)).trans (f34 27 (by decide)))))
    have k121 := jwas (by omega) (w120 0 (by decide)) (w120 1 (by decide)) (w120 2 (by decide)) (w120 3 (by decide)) k92
    rw [← (show σ109 55 6 = σ50 55 6 from ((f112 6 (by decide)).trans (f83 6 (by decide))))] at k121
    refine jcallVv (As := [.int r32, .int 1, .int r81]) (rest := []) ⟨hx, hb, hml, hown, hts⟩ hK hP hA hS hZ (c_X12_goesBack_1 l D cI cL ad zz hJ σ109 τ r32 (r32.toInt) rfl r81 (r81.toInt) rfl w116 (by omega) (by omega) (by omega) k121) cw_RX12_300 (jc_55 cI cL ad σ109 τ) rfl ⟨by dsimp only; omega, by dsimp only; omega⟩ rfl rfl rfl hl.1 rfl (Nat.le_of_ble_eq_true rfl) dX12_likelyFrom_78 ⟨Nat.zero_le _, Nat.zero_le _⟩ (fun σ123 τ123 H locs h123 hP hS => ?_)
    obtain ⟨rfl, f125, f126, w127, w128, w129, h123⟩ := h123
    obtain ⟨k131, k132, k133, k134, h123⟩ := h123
    have p135 : jKept σ123 := jKept.fr (f125 75 (by decide)) (f125 76 (by decide)) (f125 77 (by decide)) p113
    have p136 : jTR σ123 := jTR.fr (f125 64 (by decide)) (f125 65 (by decide)) p114
    have e137 : σ109 69 = σ80 69 := (f111 69 (by decide))
    have e138 : σ123 69 = σ50 69 := jback69 w85 e137 w128
    have e139 : σ109 68 = σ80 68 := (f111 68 (by decide))
    have e140 : σ109 55 6 = σ50 55 6 := ((f112 6 (by decide)).trans (f83 6 (by decide)))
    have w148 : ∀ k : Nat, k < 4 → 0 ≤ (σ50 68 k).toInt ∧ (σ50 68 k).toInt ≤ 3 := w63
    have w149 : ∀ k : Nat, k < 4 → 0 ≤ (σ123 68 k).toInt ∧ (σ123 68 k).toInt ≤ 3 := w127
    have k150 := k134
    rw [e140] at k150
    have D141 := jdig (w148 0 (by decide)) (w148 1 (by decide)) (w148 2 (by decide)) (w148 3 (by decide)) (w149 0 (by decide)) (w149 1 (by decide)) (w149 2 (by decide)) (w149 3 (by decide)) k92 k150
    have e142 : σ123 55 27 = σ50 55 27 := Int32.toInt_inj.mp (by have h9 := D141.1; omega)
    have z151 : (σ109 55 26).toInt = (σ80 55 26).toInt := (congrArg Int32.toInt (show σ109 55 26 = (σ80 55 26) from (f112 26 (by decide))))
    have z152 : (σ50 55 26).toInt = (σ 55 26).toInt := (congrArg Int32.toInt (show σ50 55 26 = (σ 55 26) from ((f53 26 (by decide)).trans (f34 26 (by decide)))))
    have z153 : (σ109 55 25).toInt = (σ80 55 25).toInt := (congrArg Int32.toInt (show σ109 55 25 = (σ80 55 25) from (f112 25 (by decide))))
    have z154 : (σ50 55 25).toInt = (σ 55 25).toInt := (congrArg Int32.toInt (show σ50 55 25 = (σ 55 25) from ((f53 25 (by decide)).trans (f34 25 (by decide)))))
    have e143 : σ123 55 26 = σ50 55 26 := Int32.toInt_inj.mp (by omega)
    have e144 : σ123 55 25 = σ50 55 25 := Int32.toInt_inj.mp (by omega)
    have z155 : (σ50 55 6).toInt = (σ 55 6).toInt := (congrArg Int32.toInt (show σ50 55 6 = (σ 55 6) from ((f53 6 (by decide)).trans (f34 6 (by decide)))))
    have e145 : σ123 68 = σ50 68 := jback68 (nb := (σ50 55 6).toInt) (by omega) w86 e139 (fun k hk => w129 k (by rw [e140]; exact hk)) D141.2
    have f146 : (∀ i : Nat, (i < 55 ∨ 55 < i) ∧ (i < 66 ∨ 66 < i) ∧ (i < 74 ∨ 78 < i) → σ123 i = σ50 i) := fun i hi0 => by
      by_cases h8 : i = 68
      · rw [h8]; exact e145
      by_cases h9 : i = 69
      · rw [h9]; exact e138
      have hi : ((i < 55 ∨ 55 < i) ∧ (i < 66 ∨ 66 < i) ∧ (i < 74 ∨ 78 < i)) ∧ i ≠ 68 ∧ i ≠ 69 := ⟨hi0, h8, h9⟩
      exact ((f125 i (imp_200 i hi)).trans ((f111 i (imp_201 i hi)).trans (f82 i (imp_200 i hi))))
    have f147 : ∀ i : Nat, (i < 18 ∨ 18 < i) ∧ (i < 19 ∨ 19 < i) ∧ (i < 20 ∨ 20 < i) ∧ (i < 21 ∨ 21 < i) ∧ (i < 22 ∨ 22 < i) ∧ (i < 37 ∨ 37 < i) → σ123 55 i = σ50 55 i := fun i hi0 => by
      by_cases h25 : i = 25
      · rw [h25]; exact e144
      by_cases h26 : i = 26
      · rw [h26]; exact e143
      by_cases h27 : i = 27
      · rw [h27]; exact e142
      have hi : ((i < 18 ∨ 18 < i) ∧ (i < 19 ∨ 19 < i) ∧ (i < 20 ∨ 20 < i) ∧ (i < 21 ∨ 21 < i) ∧ (i < 22 ∨ 22 < i) ∧ (i < 37 ∨ 37 < i)) ∧ i ≠ 25 ∧ i ≠ 26 ∧ i ≠ 27 := ⟨hi0, h25, h26, h27⟩
      exact ((f126 i (imp_202 i hi)).trans ((f112 i (imp_203 i hi)).trans (f83 i (imp_202 i hi))))
    clear k150 k134 k92
    refine lv_aload_n hx hb dX12_likelyFrom_81 rfl (lv_at hl 6 rfl) ?_
    refine lv_iload_n hx hb dX12_likelyFrom_82 rfl (lv_at hl 5 rfl) ?_
    refine lv_iconst (v := 0) hx hb dX12_likelyFrom_83 (by decide) ?_
    have w156 : ∀ k : Nat, k < 4 → 0 ≤ (σ123 68 k).toInt ∧ (σ123 68 k).toInt ≤ 3 := (jrr_fr (f146 68 (by decide)) w63)
    have z157 : (σ123 55 6).toInt = (σ 55 6).toInt := (congrArg Int32.toInt (show σ123 55 6 = (σ 55 6) from ((f147 6 (by decide)).trans ((f53 6 (by decide)).trans (f34 6 (by decide))))))
    have z158 : (σ123 55 27).toInt = (σ 55 27).toInt := (congrArg Int32.toInt (show σ123 55 27 = (σ 55 27) from ((f147 27 (by decide)).trans ((f53 27 (by decide)).trans (f34 27 (by decide))))))
    have z159 : (σ123 55 25).toInt = (σ 55 25).toInt := (congrArg Int32.toInt (show σ123 55 25 = (σ 55 25) from ((f147 25 (by decide)).trans ((f53 25 (by decide)).trans m41))))
    have z160 : (σ123 55 26).toInt = (σ 55 26).toInt := (congrArg Int32.toInt (show σ123 55 26 = (σ 55 26) from ((f147 26 (by decide)).trans ((f53 26 (by decide)).trans (f34 26 (by decide))))))
    have z161 : (σ123 68 0).toInt = (σ 68 0).toInt := (congrArg Int32.toInt (show σ123 68 0 = (σ 68 0) from ((congrFun (f146 68 (by decide)) 0).trans ((congrFun (f52 68 (by decide)) 0).trans (congrFun (f33 68 (by decide)) 0)))))
    have z162 : (σ123 68 1).toInt = (σ 68 1).toInt := (congrArg Int32.toInt (show σ123 68 1 = (σ 68 1) from ((congrFun (f146 68 (by decide)) 1).trans ((congrFun (f52 68 (by decide)) 1).trans (congrFun (f33 68 (by decide)) 1)))))
    have z163 : (σ123 68 2).toInt = (σ 68 2).toInt := (congrArg Int32.toInt (show σ123 68 2 = (σ 68 2) from ((congrFun (f146 68 (by decide)) 2).trans ((congrFun (f52 68 (by decide)) 2).trans (congrFun (f33 68 (by decide)) 2)))))
    have z164 : (σ123 68 3).toInt = (σ 68 3).toInt := (congrArg Int32.toInt (show σ123 68 3 = (σ 68 3) from ((congrFun (f146 68 (by decide)) 3).trans ((congrFun (f52 68 (by decide)) 3).trans (congrFun (f33 68 (by decide)) 3)))))
    refine jcallV (As := [.int r32, .int 0]) (rest := []) ⟨hx, hb, hml, hown, hts⟩ hK hP hA hS hZ (c_X12_goes_0 l D cI cL ad zz hJ σ123 τ r32 (r32.toInt) rfl w156 (by omega) (by omega) (by omega) (by omega) (by omega)) cw_RX12_296 (jc_55 cI cL ad σ123 τ) rfl ⟨by dsimp only; omega, by dsimp only; omega⟩ rfl rfl rfl hl.1 rfl (Nat.le_of_ble_eq_true rfl) dX12_likelyFrom_84 ⟨Nat.zero_le _, Nat.zero_le _⟩ (fun r166 σ165 τ165 H locs h165 hP hS => ?_)
    obtain ⟨rfl, f167, f168, w169, w170, w171, h165⟩ := h165
    obtain ⟨k173, k174, k175, h165⟩ := h165
    have h176 := h165
    obtain ⟨q182, k177, k178, k179, k180, k181⟩ := h176
    refine lv_istore (lv' := [(7, .int r166), (8, .int r110), (6, .int x71), (5, .int r51), (4, .int x44), (3, .int r32), (0, .ref (ad 55)), (1, .int a1), (2, .int a2)]) hx hb dX12_likelyFrom_87 hl (by decide) rfl (fun ls hl => ?_)
    refine lv_aload_n hx hb dX12_likelyFrom_89 rfl (lv_at hl 6 rfl) ?_
    refine lv_iload_n hx hb dX12_likelyFrom_90 rfl (lv_at hl 7 rfl) ?_
    refine lv_iload hx hb dX12_likelyFrom_91 (lv_at hl 2 rfl) ?_
    have I183 : jI101 σ165 := jI101_fr ((f168 4 (by decide)).trans (f147 4 (by decide))) ((f168 5 (by decide)).trans (f147 5 (by decide))) ((f167 56 (by decide)).trans (f146 56 (by decide))) ((f167 57 (by decide)).trans (f146 57 (by decide))) ((f167 58 (by decide)).trans (f146 58 (by decide))) ((f167 59 (by decide)).trans (f146 59 (by decide))) I60
    have I184 : jI102 σ165 := jI102_fr ((f168 6 (by decide)).trans (f147 6 (by decide))) ((f167 60 (by decide)).trans (f146 60 (by decide))) ((f167 61 (by decide)).trans (f146 61 (by decide))) I61
    have I185 : jI103 σ165 := jI103_fr ((f168 9 (by decide)).trans (f147 9 (by decide))) I62
    have I186 : jI104 σ165 := jI104_fr ((f168 10 (by decide)).trans ((f147 10 (by decide)).trans ((f53 10 (by decide)).trans (f34 10 (by decide))))) ((f168 12 (by decide)).trans ((f147 12 (by decide)).trans ((f53 12 (by decide)).trans (f34 12 (by decide))))) ((f168 13 (by decide)).trans ((f147 13 (by decide)).trans ((f53 13 (by decide)).trans (f34 13 (by decide))))) ((f167 62 (by decide)).trans ((f146 62 (by decide)).trans ((f52 62 (by decide)).trans (f33 62 (by decide))))) ((f167 67 (by decide)).trans ((f146 67 (by decide)).trans ((f52 67 (by decide)).trans (f33 67 (by decide))))) hI104
    have I187 : jI105 σ165 := jI105_fr ((f168 15 (by decide)).trans ((f147 15 (by decide)).trans (f53 15 (by decide)))) ((f167 65 (by decide)).trans ((f146 65 (by decide)).trans (f52 65 (by decide)))) I48
    have I188 : jI106 σ165 := jI106_fr ((f168 32 (by decide)).trans ((f147 32 (by decide)).trans ((f53 32 (by decide)).trans (f34 32 (by decide))))) ((f167 70 (by decide)).trans ((f146 70 (by decide)).trans ((f52 70 (by decide)).trans (f33 70 (by decide))))) ((f167 71 (by decide)).trans ((f146 71 (by decide)).trans ((f52 71 (by decide)).trans (f33 71 (by decide))))) ((f167 72 (by decide)).trans ((f146 72 (by decide)).trans ((f52 72 (by decide)).trans (f33 72 (by decide))))) hI106
    have z189 : (σ165 55 10).toInt = (σ 55 10).toInt := (congrArg Int32.toInt (show σ165 55 10 = (σ 55 10) from ((f168 10 (by decide)).trans ((f147 10 (by decide)).trans ((f53 10 (by decide)).trans (f34 10 (by decide)))))))
    have z190 : (σ165 55 12).toInt = (σ 55 12).toInt := (congrArg Int32.toInt (show σ165 55 12 = (σ 55 12) from ((f168 12 (by decide)).trans ((f147 12 (by decide)).trans ((f53 12 (by decide)).trans (f34 12 (by decide)))))))
    have I191 : jI120 σ165 := ⟨(by omega), (by omega), (by omega), (by omega), (by omega), w169⟩
    have p192 : jKept σ165 := jKept.fr (f167 75 (by decide)) (f167 76 (by decide)) (f167 77 (by decide)) p135
    have p193 : jTR σ165 := jTR.fr (f167 64 (by decide)) (f167 65 (by decide)) p136
    refine jcallV (As := [.int a1, .int x71]) (rest := []) ⟨hx, hb, hml, hown, hts⟩ hK hP hA hS hZ (h_lf σ165 τ a1 (A1) t1 x71 (x71.toInt) rfl I183 I184 I185 I186 I187 I188 I191 p192 p193 (by omega) (by omega) (by omega)) cw_RX12_328 (jc_55 cI cL ad σ165 τ) rfl ⟨by dsimp only; omega, by dsimp only; omega⟩ rfl rfl rfl hl.1 rfl (Nat.le_of_ble_eq_true rfl) dX12_likelyFrom_93 ⟨Nat.zero_le _, Nat.zero_le _⟩ (fun r195 σ194 τ194 H locs h194 hP hS => ?_)
    obtain ⟨rfl, f196, f197, p198, p199, h194⟩ := h194
    refine lv_istore (lv' := [(9, .int r195), (7, .int r166), (8, .int r110), (6, .int x71), (5, .int r51), (4, .int x44), (3, .int r32), (0, .ref (ad 55)), (1, .int a1), (2, .int a2)]) hx hb dX12_likelyFrom_96 hl (by decide) rfl (fun ls hl => ?_)
    refine lv_aload_n hx hb dX12_likelyFrom_98 rfl (lv_at hl 7 rfl) ?_
    refine lv_iload_n hx hb dX12_likelyFrom_99 rfl (lv_at hl 6 rfl) ?_
    refine lv_iconst (v := 0) hx hb dX12_likelyFrom_100 (by decide) ?_
    refine lv_iload hx hb dX12_likelyFrom_101 (lv_at hl 1 rfl) ?_
    have w201 : ∀ k : Nat, k < 4 → 0 ≤ (σ194 68 k).toInt ∧ (σ194 68 k).toInt ≤ 3 := (jrr_fr (f196 68 (by decide)) w169)
    have z202 : (σ194 55 25).toInt = (σ165 55 25).toInt := (congrArg Int32.toInt (show σ194 55 25 = (σ165 55 25) from (f197 25 (by decide))))
    have z203 : (σ194 55 26).toInt = (σ165 55 26).toInt := (congrArg Int32.toInt (show σ194 55 26 = (σ165 55 26) from (f197 26 (by decide))))
    have z204 : (σ194 55 6).toInt = (σ 55 6).toInt := (congrArg Int32.toInt (show σ194 55 6 = (σ 55 6) from ((f197 6 (by decide)).trans ((f168 6 (by decide)).trans ((f147 6 (by decide)).trans ((f53 6 (by decide)).trans (f34 6 (by decide))))))))
    have w205 : ∀ k : Nat, k < 4 → 0 ≤ (σ123 68 k).toInt ∧ (σ123 68 k).toInt ≤ 3 := w156
    have z207 : (σ123 55 27).toInt = (σ 55 27).toInt := (congrArg Int32.toInt (show σ123 55 27 = (σ 55 27) from ((f147 27 (by decide)).trans ((f53 27 (by decide)).trans (f34 27 (by decide))))))
    have k206 := jwas (by omega) (w205 0 (by decide)) (w205 1 (by decide)) (w205 2 (by decide)) (w205 3 (by decide)) k177
    rw [← (show σ194 55 6 = σ123 55 6 from ((f197 6 (by decide)).trans (f168 6 (by decide))))] at k206
    refine jcallVv (As := [.int r32, .int 0, .int r166]) (rest := []) ⟨hx, hb, hml, hown, hts⟩ hK hP hA hS hZ (c_X12_goesBack_0 l D cI cL ad zz hJ σ194 τ r32 (r32.toInt) rfl r166 (r166.toInt) rfl w201 (by omega) (by omega) (by omega) k206) cw_RX12_300 (jc_55 cI cL ad σ194 τ) rfl ⟨by dsimp only; omega, by dsimp only; omega⟩ rfl rfl rfl hl.1 rfl (Nat.le_of_ble_eq_true rfl) dX12_likelyFrom_103 ⟨Nat.zero_le _, Nat.zero_le _⟩ (fun σ208 τ208 H locs h208 hP hS => ?_)
    obtain ⟨rfl, f210, f211, w212, w213, w214, h208⟩ := h208
    obtain ⟨k216, k217, k218, k219, h208⟩ := h208
    have p220 : jKept σ208 := jKept.fr (f210 75 (by decide)) (f210 76 (by decide)) (f210 77 (by decide)) p198
    have p221 : jTR σ208 := jTR.fr (f210 64 (by decide)) (f210 65 (by decide)) p199
    have e222 : σ194 69 = σ165 69 := (f196 69 (by decide))
    have e223 : σ208 69 = σ123 69 := jback69 w170 e222 w213
    have e224 : σ194 68 = σ165 68 := (f196 68 (by decide))
    have e225 : σ194 55 6 = σ123 55 6 := ((f197 6 (by decide)).trans (f168 6 (by decide)))
    have w233 : ∀ k : Nat, k < 4 → 0 ≤ (σ123 68 k).toInt ∧ (σ123 68 k).toInt ≤ 3 := w156
    have w234 : ∀ k : Nat, k < 4 → 0 ≤ (σ208 68 k).toInt ∧ (σ208 68 k).toInt ≤ 3 := w212
    have k235 := k219
    rw [e225] at k235
    have D226 := jdig (w233 0 (by decide)) (w233 1 (by decide)) (w233 2 (by decide)) (w233 3 (by decide)) (w234 0 (by decide)) (w234 1 (by decide)) (w234 2 (by decide)) (w234 3 (by decide)) k177 k235
    have e227 : σ208 55 27 = σ123 55 27 := Int32.toInt_inj.mp (by have h9 := D226.1; omega)
    have z236 : (σ194 55 26).toInt = (σ165 55 26).toInt := (congrArg Int32.toInt (show σ194 55 26 = (σ165 55 26) from (f197 26 (by decide))))
    have z237 : (σ123 55 26).toInt = (σ 55 26).toInt := (congrArg Int32.toInt (show σ123 55 26 = (σ 55 26) from ((f147 26 (by decide)).trans ((f53 26 (by decide)).trans (f34 26 (by decide))))))
    have z238 : (σ194 55 25).toInt = (σ165 55 25).toInt := (congrArg Int32.toInt (show σ194 55 25 = (σ165 55 25) from (f197 25 (by decide))))
    have z239 : (σ123 55 25).toInt = (σ 55 25).toInt := (congrArg Int32.toInt (show σ123 55 25 = (σ 55 25) from ((f147 25 (by decide)).trans ((f53 25 (by decide)).trans (f34 25 (by decide))))))
    have e228 : σ208 55 26 = σ123 55 26 := Int32.toInt_inj.mp (by omega)
    have e229 : σ208 55 25 = σ123 55 25 := Int32.toInt_inj.mp (by omega)
    have z240 : (σ123 55 6).toInt = (σ 55 6).toInt := (congrArg Int32.toInt (show σ123 55 6 = (σ 55 6) from ((f147 6 (by decide)).trans ((f53 6 (by decide)).trans (f34 6 (by decide))))))
    have e230 : σ208 68 = σ123 68 := jback68 (nb := (σ123 55 6).toInt) (by omega) w171 e224 (fun k hk => w214 k (by rw [e225]; exact hk)) D226.2
    have f231 : (∀ i : Nat, (i < 55 ∨ 55 < i) ∧ (i < 66 ∨ 66 < i) ∧ (i < 74 ∨ 78 < i) → σ208 i = σ123 i) := fun i hi0 => by
      by_cases h8 : i = 68
      · rw [h8]; exact e230
      by_cases h9 : i = 69
      · rw [h9]; exact e223
      have hi : ((i < 55 ∨ 55 < i) ∧ (i < 66 ∨ 66 < i) ∧ (i < 74 ∨ 78 < i)) ∧ i ≠ 68 ∧ i ≠ 69 := ⟨hi0, h8, h9⟩
      exact ((f210 i (imp_200 i hi)).trans ((f196 i (imp_201 i hi)).trans (f167 i (imp_200 i hi))))
    have f232 : ∀ i : Nat, (i < 18 ∨ 18 < i) ∧ (i < 19 ∨ 19 < i) ∧ (i < 20 ∨ 20 < i) ∧ (i < 21 ∨ 21 < i) ∧ (i < 22 ∨ 22 < i) ∧ (i < 37 ∨ 37 < i) → σ208 55 i = σ123 55 i := fun i hi0 => by
      by_cases h25 : i = 25
      · rw [h25]; exact e229
      by_cases h26 : i = 26
      · rw [h26]; exact e228
      by_cases h27 : i = 27
      · rw [h27]; exact e227
      have hi : ((i < 18 ∨ 18 < i) ∧ (i < 19 ∨ 19 < i) ∧ (i < 20 ∨ 20 < i) ∧ (i < 21 ∨ 21 < i) ∧ (i < 22 ∨ 22 < i) ∧ (i < 37 ∨ 37 < i)) ∧ i ≠ 25 ∧ i ≠ 26 ∧ i ≠ 27 := ⟨hi0, h25, h26, h27⟩
      exact ((f211 i (imp_202 i hi)).trans ((f197 i (imp_203 i hi)).trans (f168 i (imp_202 i hi))))
    clear k235 k219 k177
    refine lv_iload hx hb dX12_likelyFrom_106 (lv_at hl 3 rfl) ?_
    refine lv_if_le (tgt := 117) hx hb dX12_likelyFrom_108 (by decide) (fun c241 => ?_) (fun c241 => ?_)
    · have kc241 := jle c241 rfl jz_0
      refine lv_iconst (v := 0) hx hb dX12_likelyFrom_117 (by decide) ?_
      refine lv_iload hx hb dX12_likelyFrom_118 (lv_at hl 2 rfl) ?_
      refine lv_iload hx hb dX12_likelyFrom_120 (lv_at hl 0 rfl) ?_
      refine lv_iload hx hb dX12_likelyFrom_122 (lv_at hl 4 rfl) ?_
      refine jcallS (As := [.int r110, .int r195, .int r51]) (rest := [.int 0]) ⟨hx, hb, hml, hown, hts⟩ hK hP hA hS hZ (c_X12_mixed l D cI cL ad zz hJ σ208 τ r110 (r110.toInt) rfl r195 (r195.toInt) rfl r51 (r51.toInt) rfl) cw_RX12_304 ⟨by dsimp only; omega, by dsimp only; omega⟩ rfl rfl rfl hl.1 rfl (Nat.le_of_ble_eq_true rfl) dX12_likelyFrom_124 ⟨Nat.zero_le _, Nat.zero_le _⟩ (fun r243 σ242 τ242 H locs h242 hP hS => ?_)
      obtain ⟨⟨rfl, rfl⟩, h242⟩ := h242
      refine lv_aload_n hx hb dX12_likelyFrom_127 rfl (lv_at hl 7 rfl) ?_
      refine va_get (D := D) hx hb hts inlX12 hown hK hP 55 (jc_55 cI cL ad σ208 τ) rfl 13 (by decide) (hts _ kw_15_14) (fun _ h9 => h9) rfl dX12_likelyFrom_128 ?_
      have m244 : σ208 55 13 = (σ 55 13) := ((f232 13 (by decide)).trans ((f147 13 (by decide)).trans ((f53 13 (by decide)).trans (f34 13 (by decide)))))
      refine jtopr m244 ?_
      refine jcallS (As := [.int 0, .int r243, .int (σ 55 13)]) (rest := []) ⟨hx, hb, hml, hown, hts⟩ hK hP hA hS hZ (c_X12_mixed l D cI cL ad zz hJ σ208 τ 0 (0) jz_0 r243 (r243.toInt) rfl (σ 55 13) ((σ 55 13).toInt) rfl) cw_RX12_304 ⟨by dsimp only; omega, by dsimp only; omega⟩ rfl rfl rfl hl.1 rfl (Nat.le_of_ble_eq_true rfl) dX12_likelyFrom_131 ⟨Nat.zero_le _, Nat.zero_le _⟩ (fun r246 σ245 τ245 H locs h245 hP hS => ?_)
      obtain ⟨⟨rfl, rfl⟩, h245⟩ := h245
      exact hret r246 σ208 τ _ _ _ _ rfl ⟨rfl, (fun i hi => ((f231 i hi).trans ((f146 i hi).trans ((f52 i (imp_204 i hi)).trans (f33 i hi))))), (fun i hi => ((f232 i hi).trans ((f147 i hi).trans ((f53 i (imp_205 i hi)).trans (f34 i hi))))), p220, p221, trivial⟩ hP hS dX12_likelyFrom_134
    · have kc241 := jnle c241 rfl jz_0
      refine lv_ldcw (v := 1000000) hx hb hown (hts _ kw_37_13) dX12_likelyFrom_111 ?_
      refine lv_goto (tgt := 118) hx hb dX12_likelyFrom_114 (by decide) ?_
      refine lv_iload hx hb dX12_likelyFrom_118 (lv_at hl 2 rfl) ?_
      refine lv_iload hx hb dX12_likelyFrom_120 (lv_at hl 0 rfl) ?_
      refine lv_iload hx hb dX12_likelyFrom_122 (lv_at hl 4 rfl) ?_
      refine jcallS (As := [.int r110, .int r195, .int r51]) (rest := [.int 1000000]) ⟨hx, hb, hml, hown, hts⟩ hK hP hA hS hZ (c_X12_mixed l D cI cL ad zz hJ σ208 τ r110 (r110.toInt) rfl r195 (r195.toInt) rfl r51 (r51.toInt) rfl) cw_RX12_304 ⟨by dsimp only; omega, by dsimp only; omega⟩ rfl rfl rfl hl.1 rfl (Nat.le_of_ble_eq_true rfl) dX12_likelyFrom_124 ⟨Nat.zero_le _, Nat.zero_le _⟩ (fun r248 σ247 τ247 H locs h247 hP hS => ?_)
      obtain ⟨⟨rfl, rfl⟩, h247⟩ := h247
      refine lv_aload_n hx hb dX12_likelyFrom_127 rfl (lv_at hl 7 rfl) ?_
      refine va_get (D := D) hx hb hts inlX12 hown hK hP 55 (jc_55 cI cL ad σ208 τ) rfl 13 (by decide) (hts _ kw_15_14) (fun _ h9 => h9) rfl dX12_likelyFrom_128 ?_
      have m249 : σ208 55 13 = (σ 55 13) := ((f232 13 (by decide)).trans ((f147 13 (by decide)).trans ((f53 13 (by decide)).trans (f34 13 (by decide)))))
      refine jtopr m249 ?_
      refine jcallS (As := [.int 1000000, .int r248, .int (σ 55 13)]) (rest := []) ⟨hx, hb, hml, hown, hts⟩ hK hP hA hS hZ (c_X12_mixed l D cI cL ad zz hJ σ208 τ 1000000 (1000000) jz_1000000 r248 (r248.toInt) rfl (σ 55 13) ((σ 55 13).toInt) rfl) cw_RX12_304 ⟨by dsimp only; omega, by dsimp only; omega⟩ rfl rfl rfl hl.1 rfl (Nat.le_of_ble_eq_true rfl) dX12_likelyFrom_131 ⟨Nat.zero_le _, Nat.zero_le _⟩ (fun r251 σ250 τ250 H locs h250 hP hS => ?_)
      obtain ⟨⟨rfl, rfl⟩, h250⟩ := h250
      exact hret r251 σ208 τ _ _ _ _ rfl ⟨rfl, (fun i hi => ((f231 i hi).trans ((f146 i hi).trans ((f52 i (imp_204 i hi)).trans (f33 i hi))))), (fun i hi => ((f232 i hi).trans ((f147 i hi).trans ((f53 i (imp_205 i hi)).trans (f34 i hi))))), p220, p221, trivial⟩ hP hS dX12_likelyFrom_134
set_option maxHeartbeats 4000000 in
set_option maxRecDepth 100000 in
theorem c_X12_likelies_lf_z (l : Launch) (D : va_G) (cI cL : ClassId) (ad zz : Nat → Nat) (hJ : jD ad) (σ : Nat → Nat → Int32) (τ : Nat → Nat → Int64) (a1 : Int32) (A1 : Int) (t1 : a1.toInt = A1) (a2 : Int32) (A2 : Int) (t2 : a2.toInt = A2) (hI101 : jI101 σ) (hI102 : jI102 σ) (hI103 : jI103 σ) (hI104 : jI104 σ) (hI105 : jI105 σ) (hI106 : jI106 σ) (hI120 : jI120 σ) (hs_jKept : jKept σ) (hs_jTR : jTR σ) (hp0 : 0 ≤ A1 ∧ A1 ≤ 19) (hp1 : (σ 55 12).toInt - (σ 55 26).toInt ≤ 8) (hp2 : (σ 55 12).toInt - (σ 55 26).toInt ≤ (((0) : Nat) : Int)) : jM l yX12_likelyFrom cX12_likelyFrom 10 (some .int) ({ frames := (106 + 4 * (0)), cells := 0, slots := 0, locals := (5261 + 240 * (0)) }) D cI cL ad zz [.ref (ad 55), .int a1, .int a2] σ τ (fun r σ' τ' => τ = τ' ∧ (∀ i : Nat, (i < 55 ∨ 55 < i) ∧ (i < 66 ∨ 66 < i) ∧ (i < 74 ∨ 78 < i) → σ' i = σ i) ∧ (∀ k : Nat, (k < 18 ∨ 18 < k) ∧ (k < 19 ∨ 19 < k) ∧ (k < 20 ∨ 20 < k) ∧ (k < 21 ∨ 21 < k) ∧ (k < 22 ∨ 22 < k) ∧ (k < 37 ∨ 37 < k) → σ' 55 k = σ 55 k) ∧ (jKept σ') ∧ (jTR σ') ∧ True) := by
  refine jM.of hJ (by decide +kernel) (nt := .int) rfl (Nat.le_of_ble_eq_true rfl) ?_
  intro p e s m args below meth c Q ls hC hret hl hP
  obtain ⟨hx, hb, hr, hml, hown, hts, hK, -, hlocks, hZ⟩ := hC
  have hown : s.vm.findClass RX12 = some m.cls := hown
  have hS : va_S (jA ad) s.heap s.heap [] := va_S.rf
  have hA : ∀ q, jA ad q → jA ad q := fun _ h => h
  have hl : lv_has ls 10 [(0, .ref (ad 55)), (1, .int a1), (2, .int a2)] := hl
  have g1 := jrg t1
  have g2 := jrg t2
  obtain ⟨i1, w2, w3⟩ : (0 ≤ (σ 55 6).toInt ∧ (σ 55 6).toInt ≤ 4) ∧ (∀ k : Nat, k < 4 → 0 ≤ (σ 60 k).toInt ∧ (σ 60 k).toInt ≤ 50) ∧ (∀ k : Nat, k < 4 → 0 ≤ (σ 61 k).toInt ∧ (σ 61 k).toInt ≤ 20) := id hI102
  obtain ⟨i4, i5, i6, w7, w8⟩ : (1 ≤ (σ 55 10).toInt ∧ (σ 55 10).toInt ≤ 8) ∧ (1 ≤ (σ 55 12).toInt ∧ (σ 55 12).toInt ≤ 12) ∧ (0 ≤ (σ 55 13).toInt ∧ (σ 55 13).toInt ≤ 999) ∧ (∀ k : Nat, k < 8 → 0 ≤ (σ 62 k).toInt ∧ (σ 62 k).toInt ≤ 3) ∧ (∀ k : Nat, k < 8 → 0 ≤ (σ 67 k).toInt ∧ (σ 67 k).toInt ≤ 3) := id hI104
  obtain ⟨i9, i10, i11, i12, i13, w14⟩ : (0 ≤ (σ 55 25).toInt) ∧ ((σ 55 25).toInt ≤ (σ 55 10).toInt) ∧ (0 ≤ (σ 55 26).toInt) ∧ ((σ 55 26).toInt ≤ (σ 55 12).toInt) ∧ ((-1) ≤ (σ 55 27).toInt ∧ (σ 55 27).toInt ≤ 3) ∧ (∀ k : Nat, k < 4 → 0 ≤ (σ 68 k).toInt ∧ (σ 68 k).toInt ≤ 3) := id hI120
  refine lv_aload_n hx hb dX12_likelyFrom_0 rfl (lv_at hl 0 rfl) ?_
  refine jcallV (As := []) (rest := []) ⟨hx, hb, hml, hown, hts⟩ hK hP hA hS hZ (c_X12_isEnded l D cI cL ad zz hJ σ τ hI102 hI104 hI120) cw_RX12_307 (jc_55 cI cL ad σ τ) rfl ⟨by dsimp only; omega, by dsimp only; omega⟩ rfl rfl rfl hl.1 rfl (Nat.le_of_ble_eq_true rfl) dX12_likelyFrom_1 ⟨Nat.zero_le _, Nat.zero_le _⟩ (fun r16 σ15 τ15 H locs h15 hP hS => ?_)
  obtain ⟨⟨rfl, rfl⟩, h15⟩ := h15
  rcases h15 with h17 | h18
  · obtain ⟨q20, k19⟩ := h17
    have q20 := q20.symm
    subst q20
    refine lv_if_eq (tgt := 19) hx hb dX12_likelyFrom_4 (by decide) (fun c => absurd c (by decide)) (fun _ => ?_)
    refine lv_iload_n hx hb dX12_likelyFrom_7 rfl (lv_at hl 2 rfl) ?_
    refine lv_if_le (tgt := 17) hx hb dX12_likelyFrom_8 (by decide) (fun c21 => ?_) (fun c21 => ?_)
    · have kc21 := jle c21 t2 jz_0
      refine lv_iconst (v := 0) hx hb dX12_likelyFrom_17 (by decide) ?_
      exact hret 0 σ τ _ _ _ _ rfl ⟨rfl, (fun _ _ => rfl), (fun _ _ => rfl), hs_jKept, hs_jTR, trivial⟩ hP hS dX12_likelyFrom_18
    · have kc21 := jnle c21 t2 jz_0
      refine lv_ldcw (v := 1000000) hx hb hown (hts _ kw_37_13) dX12_likelyFrom_11 ?_
      refine lv_goto (tgt := 18) hx hb dX12_likelyFrom_14 (by decide) ?_
      exact hret 1000000 σ τ _ _ _ _ rfl ⟨rfl, (fun _ _ => rfl), (fun _ _ => rfl), hs_jKept, hs_jTR, trivial⟩ hP hS dX12_likelyFrom_18
  · obtain ⟨q25, k22, k23, k24⟩ := h18
    exact absurd (by omega : False) id
set_option maxHeartbeats 4000000 in
set_option maxRecDepth 100000 in
theorem c_X12_likelies (l : Launch) (D : va_G) (cI cL : ClassId) (ad zz : Nat → Nat) (hJ : jD ad) (n : Nat) : (∀ (σ : Nat → Nat → Int32) (τ : Nat → Nat → Int64) (a1 : Int32) (A1 : Int) (t1 : a1.toInt = A1) (a2 : Int32) (A2 : Int) (t2 : a2.toInt = A2) (hI101 : jI101 σ) (hI102 : jI102 σ) (hI103 : jI103 σ) (hI104 : jI104 σ) (hI105 : jI105 σ) (hI106 : jI106 σ) (hI120 : jI120 σ) (hs_jKept : jKept σ) (hs_jTR : jTR σ) (hp0 : 0 ≤ A1 ∧ A1 ≤ 19) (hp1 : (σ 55 12).toInt - (σ 55 26).toInt ≤ 8) (hp2 : (σ 55 12).toInt - (σ 55 26).toInt ≤ (((n) : Nat) : Int)), jM l yX12_likelyFrom cX12_likelyFrom 10 (some .int) ({ frames := (106 + 4 * (n)), cells := 0, slots := 0, locals := (5261 + 240 * (n)) }) D cI cL ad zz [.ref (ad 55), .int a1, .int a2] σ τ (fun r σ' τ' => τ = τ' ∧ (∀ i : Nat, (i < 55 ∨ 55 < i) ∧ (i < 66 ∨ 66 < i) ∧ (i < 74 ∨ 78 < i) → σ' i = σ i) ∧ (∀ k : Nat, (k < 18 ∨ 18 < k) ∧ (k < 19 ∨ 19 < k) ∧ (k < 20 ∨ 20 < k) ∧ (k < 21 ∨ 21 < k) ∧ (k < 22 ∨ 22 < k) ∧ (k < 37 ∨ 37 < k) → σ' 55 k = σ 55 k) ∧ (jKept σ') ∧ (jTR σ') ∧ True)) := by
  induction n with
  | zero =>
    have h_lf := c_X12_likelies_lf_z l D cI cL ad zz hJ
    exact h_lf
  | succ n ih =>
    have g_lf := ih
    have h_lf := c_X12_likelies_lf_g l D cI cL ad zz hJ n g_lf
    exact h_lf
